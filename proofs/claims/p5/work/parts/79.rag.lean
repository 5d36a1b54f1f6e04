/-- the flag of a sum is 0 or 1 -/
def rB6 (q : rq) : Prop := q.f 6 = 0 ∨ q.f 6 = 1
theorem rGb6 {q : rq} {y z w : Int32} (H : rB6 q) : rB6 (rX3_readGroupByte q y z w).2 := by
  have n : ∀ (a : rq) (j : Nat) (x : Int32), ¬ 6 = j → rB6 a → rB6 (a.set j x) := fun a j x h b => by
    unfold rB6 at b ⊢
    rw [rq.set_n h]; exact b
  have o1 : ∀ (a : rq), rB6 (a.set 6 1) := fun a => Or.inr rq.set_s
  unfold rX3_readGroupByte
  repeat' split
  · unfold rX3_readTd
    repeat' split
    all_goals first | exact o1 _ | exact n _ _ _ (by decide) (n _ _ _ (by decide) H) | exact n _ _ _ (by decide) H | exact H
  · unfold rX3_readFirstGroup
    repeat' split
    all_goals first | exact n _ _ _ (by decide) H | exact H
  · unfold rX3_readLinkGroup
    repeat' split
    all_goals first | exact n _ _ _ (by decide) H | exact H
  · exact H
theorem rL6 {t : List Int32} {g here : Int32} {k : Nat} {r : Int32 × rq} (H : rB6 r.2) : rB6 (rL t g here k r).2 := by
  have n : ∀ (a : rq) (x : Int32), rB6 a → rB6 (a.set 8 x) := fun a x b => by
    unfold rB6 at b ⊢
    rw [rq.set_n (by decide)]; exact b
  unfold rL
  repeat' split
  all_goals first | exact n _ _ (rGb6 H) | exact rGb6 H | exact H
theorem rGs6 {t : List Int32} : ∀ {n g : Nat} {r : Int32 × rq}, rB6 r.2 → rB6 (rGs t n g r).2
  | 0, _, _, H => H
  | n + 1, g, r, H => by
    unfold rGs
    repeat' split
    · exact H
    · exact rGs6 (rL6 (rL6 (rL6 (rL6 (by
        unfold rB6 at H ⊢
        rw [rq.set_n (by decide), rq.set_n (by decide)]; exact H)))))
    · exact H
theorem rH6 {t : List Int32} : ∀ {n : Nat} {s : Int32 × (rq × List Int32)}, rB6 s.2.1 → rB6 (rH t n s).2.1
  | 0, _, H => H
  | n + 1, s, H => by
    unfold rH
    repeat' split
    · exact H
    · exact rH6 (by
        unfold rB6 at H ⊢
        rw [rq.set_n (by decide)]; exact H)
    · exact H
theorem rRd6 {q : rq} {t : List Int32} : rB6 (rRd q t).2.1 := by
  have c0 : rB6 (rX3_clear q) := Or.inl rfl
  have n : ∀ (a : rq) (j : Nat) (x : Int32), ¬ 6 = j → rB6 a → rB6 (a.set j x) := fun a j x h b => by
    unfold rB6 at b ⊢
    rw [rq.set_n h]; exact b
  have h0 : rB6 (rX3_readHead (rX3_clear q) t).2 := by
    unfold rX3_readHead
    repeat' split
    all_goals first | exact n _ _ _ (by decide) (n _ _ _ (by decide) (n _ _ _ (by decide) c0)) | exact n _ _ _ (by decide) c0 | exact c0
  have g0 : rB6 (rGs t 4 1 (0, (rX3_readHead (rX3_clear q) t).2)).2 := rGs6 h0
  unfold rRd
  repeat' split
  · have e6 := rH6 (t := t) (n := (gat t 1 &&& 15).toNatClampNeg) (s := ((0 : Int32), ((rGs t 4 1 (0, (rX3_readHead (rX3_clear q) t).2)).2, []))) g0
    generalize rH t (gat t 1 &&& 15).toNatClampNeg (0, ((rGs t 4 1 (0, (rX3_readHead (rX3_clear q) t).2)).2, [])) = s at e6 ⊢
    have c6 : rB6 (rC t s).2.1 := by
      unfold rC
      repeat' split
      all_goals first | exact n _ _ _ (by decide) e6 | exact e6
    generalize rC t s = u at c6 ⊢
    unfold rE
    repeat' split
    all_goals exact c6
  · exact g0
  · exact h0
