def nA (N1 : gMd) (y x1 : Int32) : gMd := (if (x1 &&& 15) = 0 then (if y = 4 then (if (x1 >>> (4 &&& 31)) = 0 then N1 else (rX8_wrong N1 3 ((N1.f 21) - 1))) else N1) else (if (x1 &&& 15) = 1 then (if y = 4 then (if (x1 >>> (4 &&& 31)) = 0 then N1 else (rX8_wrong N1 3 ((N1.f 21) - 1))) else N1) else (if (x1 &&& 15) = 15 then (if y = 4 then (if (x1 >>> (4 &&& 31)) = 0 then N1 else (rX8_wrong N1 3 ((N1.f 21) - 1))) else N1) else (rX8_wrong N1 3 ((N1.f 21) - 1)))))
def nB (N1 : gMd) (y x1 : Int32) : gMd := (if y = 1 then (N1.put 2 4 (x1 &&& 15)) else N1)
def nC (N1 : gMd) (y x1 : Int32) : gMd := (if (x1 &&& 15) = 0 then N1 else (N1.set 24 1))
def nD (N1 : gMd) (y x1 : Int32) : gMd := (if (x1 &&& 15) = 1 then (if y ≤ 1 then N1 else (if (N1.f 23) = 0 then (N1.set 23 (y + 1)) else N1)) else N1)
/-- what a TD byte makes of the class's record -/
def tdQ (q : rq) (y z : Int32) : rq :=
  if z &&& 15 = 0 then (if y = 1 then (q.set 9 (z >>> (4 &&& 31))).set 3 (z &&& 15) else q.set 9 (z >>> (4 &&& 31)))
  else if y = 1 then ((q.set 9 (z >>> (4 &&& 31))).set 3 (z &&& 15)).set 6 1
  else if z &&& 15 = 1 then (if q.f 10 = 0 then ((q.set 9 (z >>> (4 &&& 31))).set 10 (y + 1)).set 6 1 else (q.set 9 (z >>> (4 &&& 31))).set 6 1)
  else (q.set 9 (z >>> (4 &&& 31))).set 6 1
def tdG (y z : Int32) : Prop := (z &&& 15 = 0 ∨ z &&& 15 = 1 ∨ z &&& 15 = 15) ∧ (y = 4 → z >>> (4 &&& 31) = 0)
section RM3
variable {t : List Int32} {M M' M1 E : gMd} {r : Int32 × rq} {x y z : Int32} {q : rq} {g : Nat}
theorem rTdG (h : tdG y z) : rX3_readTd q y z = ((0 : Int32), tdQ q y z) := by
  obtain ⟨h1, h2⟩ := h
  unfold rX3_readTd tdQ
  revert h1 h2
  generalize z &&& 15 = p
  generalize z >>> (4 &&& 31) = w
  intro h1 h2
  have n1 : ¬ (1 : Int32) = 0 := by decide
  have n15 : ¬ (15 : Int32) = 0 := by decide
  have m15 : ¬ (15 : Int32) = 1 := by decide
  have n4 : ¬ (4 : Int32) = 1 := by decide
  rcases h1 with rfl | rfl | rfl
  · by_cases a : y = 4
    · have b := h2 a
      subst a
      simp only [b, if_true, if_false, n4, reduceIte, show ¬ (0 : Int32) = 1 by decide]
    · by_cases c : y = 1
      · simp only [a, c, if_true, if_false, reduceIte]
        try (subst c; simp only [show ¬ (1 : Int32) = 4 by decide, if_false, reduceIte])
      · simp only [a, c, if_false, reduceIte, show ¬ (0 : Int32) = 1 by decide]
  · by_cases a : y = 4
    · have b := h2 a
      subst a
      by_cases e : q.f 10 = 0 <;> simp only [b, e, if_true, if_false, n4, n1, reduceIte]
    · by_cases c : y = 1
      · subst c
        simp only [show ¬ (1 : Int32) = 4 by decide, n1, if_true, if_false, reduceIte]
      · by_cases e : q.f 10 = 0 <;> simp only [a, c, e, n1, if_true, if_false, reduceIte]
  · by_cases a : y = 4
    · have b := h2 a
      subst a
      simp only [b, if_true, if_false, n4, n15, m15, reduceIte]
    · by_cases c : y = 1
      · subst c
        simp only [show ¬ (1 : Int32) = 4 by decide, n15, m15, if_true, if_false, reduceIte]
      · simp only [a, c, n15, m15, if_true, if_false, reduceIte]
theorem rTdB (h : ¬ tdG y z) : rX3_readTd q y z = ((3 : Int32), q.set 9 (z >>> (4 &&& 31))) := by
  unfold rX3_readTd
  unfold tdG at h
  revert h
  generalize z &&& 15 = p
  generalize z >>> (4 &&& 31) = w
  intro h
  by_cases a : p = 0
  · have b : y = 4 ∧ ¬ w = 0 := Classical.byContradiction fun n => h ⟨Or.inl a, fun e => Classical.byContradiction fun c => n ⟨e, c⟩⟩
    rw [if_pos a, if_pos b.1, if_neg b.2]
  · rw [if_neg a]
    by_cases a1 : p = 1
    · have b : y = 4 ∧ ¬ w = 0 := Classical.byContradiction fun n => h ⟨Or.inr (Or.inl a1), fun e => Classical.byContradiction fun c => n ⟨e, c⟩⟩
      rw [if_pos a1, if_pos b.1, if_neg b.2]
    · rw [if_neg a1]
      by_cases a2 : p = 15
      · have b : y = 4 ∧ ¬ w = 0 := Classical.byContradiction fun n => h ⟨Or.inr (Or.inr a2), fun e => Classical.byContradiction fun c => n ⟨e, c⟩⟩
        rw [if_pos a2, if_pos b.1, if_neg b.2]
      · rw [if_neg a2]
theorem nAG (h : tdG y x) : nA M y x = M := by
  unfold nA
  obtain ⟨h1, h2⟩ := h
  have k : (if y = 4 then (if x >>> (4 &&& 31) = 0 then M else rX8_wrong M 3 (M.f 21 - 1)) else M) = M := by
    by_cases a : y = 4
    · rw [if_pos a, if_pos (h2 a)]
    · rw [if_neg a]
  repeat' split
  all_goals first | rfl | (simp_all; done) | skip
theorem nAB (h : ¬ tdG y x) : nA M y x = rX8_wrong M 3 (M.f 21 - 1) := by
  unfold nA
  unfold tdG at h
  repeat' split
  all_goals first | rfl | (exfalso; simp_all; done) | skip
theorem nA.k : rK M (nA M y x) := by
  unfold nA
  repeat' split
  all_goals first | exact rK.wr | exact rK.rf
theorem nB.k : rK M (nB M y x) := by
  unfold nB
  repeat' split
  all_goals first | exact rK.put | exact rK.rf
theorem nC.k : rK M (nC M y x) := by
  unfold nC
  repeat' split
  all_goals first | exact rK.rf | exact rK.set (by omega)
theorem nD.k : rK M (nD M y x) := by
  unfold nD
  repeat' split
  all_goals first | exact rK.rf | exact rK.set (by omega)
theorem nB.f {k : Nat} : (nB M y x).f k = M.f k := by
  unfold nB
  repeat' split
  all_goals rfl
theorem nC.f {k : Nat} (h : ¬ k = 24) : (nC M y x).f k = M.f k := by
  unfold nC
  repeat' split
  all_goals first | rfl | exact gset_n h
theorem nD.f {k : Nat} (h : ¬ k = 23) : (nD M y x).f k = M.f k := by
  unfold nD
  repeat' split
  all_goals first | rfl | exact gset_n h
theorem rLe0 {w : Int32} (h : gIr w 15) (c : w ≤ 0) : w = 0 := by
  obtain ⟨b, hb, rfl⟩ := h
  exact (by decide +kernel : ∀ b : Fin 16, nI b.1 ≤ 0 → nI b.1 = 0) ⟨b, by omega⟩ c
theorem rGe0 {w : Int32} (h : gIr w 255) : 0 ≤ w := by
  obtain ⟨b, hb, rfl⟩ := h
  exact nI_pos' (by omega)
theorem rGs_0 {n : Nat} (h : r.2.f 9 = 0) : rGs t n g r = r := by
  cases n with
  | zero => rfl
  | succ n =>
    unfold rGs
    by_cases c : r.1 = 0
    · rw [if_pos c, if_pos h]
    · rw [if_neg c]
theorem rM.grp {v : Int32} (H : rM t M r) (h : r.1 = 0) (e : v = nI g) : rM t (M.put 2 5 v) (0, (r.2.set 4 (nI g)).set 9 0) := by
  obtain ⟨⟨h1, h2⟩, h3⟩ := H
  obtain ⟨⟨a1, a2, a3, a4, a5, a6, a7, a8, a9, a10⟩, p, hp, ep⟩ := h3 h
  exact ⟨⟨h1.trans h, h2⟩, fun _ => ⟨⟨a1, a2, a3, a4, a5, a6, a7, a8, by subst e; rfl, a10⟩, p, hp, ep⟩⟩
theorem rGp (h1 : 1 ≤ g) (Q : rQ M q) (e : q.f 4 = nI (g - 1)) : M.a 2 5 + 1 = nI g := by
  rw [Q.2.2.2.2.2.2.2.2.1, e, nI_1]
  congr 1
  omega
theorem rBx (T : rT t M) (H : rM t M r) (h : gBn M M' x) : gIr x 255 := by
  rcases rBn T H h with ⟨-, -, e⟩ | ⟨-, -, -, e⟩ | ⟨-, -, -, -, e⟩
  · exact ⟨0, by decide, e⟩
  · exact ⟨0, by decide, e⟩
  · exact e
theorem rT.bk (h : gBn M M' x) (T : rT t M') : rT t M := by
  have K := rK.bn h
  exact ⟨(K.1 20 (by decide) (by decide) (by decide) (by decide)).symm.trans T.1, T.2.1, fun q hq => (K.2 0 q (by decide)).symm.trans (T.2.2.1 q hq), fun q => by rw [← K.2 0 q (by decide)]; exact T.2.2.2 q⟩
theorem rShr {w : Int32} (h : gIr w 255) : gIr (w >>> (4 &&& 31)) 15 := by
  obtain ⟨b, hb, rfl⟩ := h
  have key : ∀ b : Fin 256, nI b.1 >>> (4 &&& 31) = nI (b.1 / 16) := by decide +kernel
  exact ⟨b / 16, by omega, key ⟨b, by omega⟩⟩
theorem rL_4 {k : Nat} {a here : Int32} (h : (rL t a here k r).1 = 0) : (rL t a here k r).2.f 4 = r.2.f 4 := by
  have h0 := rL_0 h
  have kt : ∀ a z, (rX3_readTd r.2 a z).2.f 4 = r.2.f 4 := fun a z => by
    by_cases c : tdG a z
    · rw [rTdG c]
      unfold tdQ
      repeat' split
      all_goals rfl
    · rw [rTdB c]; rfl
  have key : ∀ j x, (rX3_readGroupByte r.2 a j x).2.f 4 = r.2.f 4 := fun j x => by
    unfold rX3_readGroupByte
    repeat' split
    all_goals first | exact kt _ _ | (unfold rX3_readFirstGroup; repeat' split) | (unfold rX3_readLinkGroup; repeat' split) | rfl
    all_goals rfl
  unfold rL
  rw [if_pos h0]
  repeat' split
  all_goals first | rfl | exact key _ _
theorem rL_9 {k : Nat} {a here : Int32} (hk : k < 3) (h : (rL t a here k r).1 = 0) : (rL t a here k r).2.f 9 = r.2.f 9 := by
  have h0 := rL_0 h
  have key : ∀ x, (rX3_readGroupByte r.2 a (nI k) x).2.f 9 = r.2.f 9 := fun x => by
    have : k = 0 ∨ k = 1 ∨ k = 2 := by omega
    rcases this with rfl | rfl | rfl
    · rw [rGb_0]; repeat' split
      all_goals rfl
    · rw [rGb_1]; repeat' split
      all_goals rfl
    · rw [rGb_2]; repeat' split
      all_goals rfl
  unfold rL
  rw [if_pos h0]
  repeat' split
  all_goals first | rfl | exact key _
/-- the TD letter, come whole -/
theorem rL3_e {here : Int32} (b8 : ¬ here &&& 8 = 0) (hw : gIr here 15) (h : (rL t y here 3 r).1 = 0) : r.1 = 0 ∧ ¬ nI t.length ≤ r.2.f 8 ∧ (rX3_readTd r.2 y (gat t (r.2.f 8))).1 = 0 ∧ rL t y here 3 r = ((0 : Int32), (rX3_readTd r.2 y (gat t (r.2.f 8))).2.set 8 ((rX3_readTd r.2 y (gat t (r.2.f 8))).2.f 8 + 1)) := by
  have h0 := rL_0 h
  rw [rL_b (rB3 hw b8)] at h ⊢
  unfold rLb at h ⊢
  rw [if_pos h0, rGb_3] at h ⊢
  by_cases c : nI t.length ≤ r.2.f 8
  · rw [if_pos c] at h; exact absurd h (gx8 (c := 1) (by decide) (by decide))
  · rw [if_neg c] at h ⊢
    by_cases d : (rX3_readTd r.2 y (gat t (r.2.f 8))).1 = 0
    · rw [if_pos d]; exact ⟨h0, c, d, rfl⟩
    · rw [if_neg d] at h
      exact absurd h (by
        have := rGbx (q := r.2) (y := y) (z := nI 3) (w := gat t (r.2.f 8)) (x := (rX3_readTd r.2 y (gat t (r.2.f 8))).2.f 8)
        rw [rGb_3] at this
        exact this d)
theorem rL3_9 {here : Int32} (b8 : ¬ here &&& 8 = 0) (hw : gIr here 15) (bn : gBn M M' x) (T : rT t M) (H : rM t M r) (h : (rL t y here 3 r).1 = 0) : (rL t y here 3 r).2.f 9 = x >>> (4 &&& 31) := by
  obtain ⟨h0, c, d, e⟩ := rL3_e b8 hw h
  have ex : x = gat t (r.2.f 8) := by
    rcases rBn T H bn with ⟨n, -⟩ | ⟨-, n, -⟩ | ⟨-, -, -, e, -⟩
    · exact absurd h0 n
    · exact absurd n c
    · exact e
  rw [e, ex]
  by_cases G : tdG y (gat t (r.2.f 8))
  · rw [rTdG G]
    unfold tdQ
    repeat' split
    all_goals rfl
  · rw [rTdB G] at d; exact absurd (show (3 : Int32) = 0 from d) (by decide)
theorem rL3_0 {here : Int32} (hy : y = 4) (b8 : ¬ here &&& 8 = 0) (hw : gIr here 15) (bn : gBn M M' x) (T : rT t M) (H : rM t M r) (h : (rL t y here 3 r).1 = 0) : x >>> (4 &&& 31) = 0 := by
  obtain ⟨h0, c, d, e⟩ := rL3_e b8 hw h
  have ex : x = gat t (r.2.f 8) := by
    rcases rBn T H bn with ⟨n, -⟩ | ⟨-, n, -⟩ | ⟨-, -, -, e, -⟩
    · exact absurd h0 n
    · exact absurd n c
    · exact e
  rw [ex]
  by_cases G : tdG y (gat t (r.2.f 8))
  · exact G.2 hy
  · rw [rTdB G] at d; exact absurd (show (3 : Int32) = 0 from d) (by decide)
theorem rG1 (h : 1 ≤ g ∧ g ≤ 4) (e : nI g = 1) : g = 1 := nI_inj (by omega) (by decide) e
theorem rl3 (h1 : 1 ≤ g) (h4 : g ≤ 4) (T : rT t M) (H : rM t M r) (h : gBn M M' x) : rM t (nD (nC (nB (nA M' (nI g) x) (nI g) x) (nI g) x) (nI g) x) (rLb t (nI g) 3 r) := by
  have c21 : (nD (nC (nB (nA M' (nI g) x) (nI g) x) (nI g) x) (nI g) x).f 21 = (nA M' (nI g) x).f 21 := (nD.f (by decide)).trans ((nC.f (by decide)).trans nB.f)
  have c22 : (nD (nC (nB (nA M' (nI g) x) (nI g) x) (nI g) x) (nI g) x).f 22 = (nA M' (nI g) x).f 22 := (nD.f (by decide)).trans ((nC.f (by decide)).trans nB.f)
  have a21 : (nA M' (nI g) x).f 21 = M'.f 21 := by
    by_cases G : tdG (nI g) x
    · rw [nAG G]
    · rw [nAB G]; exact rWr.f (by decide)
  refine rFin T H h (c21.trans a21) (fun c => c22.trans ?_) fun c Q e f hx => ?_
  · by_cases G : tdG (nI g) x
    · rw [nAG G]
    · rw [nAB G]; unfold rX8_wrong; rw [if_neg c]
  have e21 : M'.f 21 - 1 = r.2.f 8 := by rw [e]; show r.2.f 8 + 1 - 1 = _; exact rA1
  have QA : rQ M' (r.2.set 8 (r.2.f 8 + 1)) := by rw [e]; exact Q.at
  rw [rGb_3]
  by_cases G : tdG (nI g) x
  · rw [rTdG G]
    refine ⟨fun n => absurd rfl n, fun _ => ⟨by rw [c22, nAG G]; exact f, ?_⟩⟩
    rw [nAG G]
    obtain ⟨a1, a2, a3, a4, a5, a6, a7, a8, a9, a10⟩ := QA
    have a2' : M'.f 23 = r.2.f 10 := a2
    by_cases y1 : nI g = 1
    · have yl : nI g ≤ 1 := by rw [y1]; exact Int32.le_refl _
      have eB : nB M' (nI g) x = M'.put 2 4 (x &&& 15) := if_pos y1
      rw [eB]
      by_cases p0 : x &&& 15 = 0
      · have eC : ∀ N, nC N (nI g) x = N := fun N => if_pos p0
        have eD : ∀ N, nD N (nI g) x = N := fun N => by
          unfold nD
          rw [if_neg (by rw [p0]; decide)]
        have eT : tdQ r.2 (nI g) x = (r.2.set 9 (x >>> (4 &&& 31))).set 3 (x &&& 15) := (if_pos p0).trans (if_pos y1)
        rw [eC, eD, eT]
        exact ⟨a1, a2, a3, a4, a5, a6, a7, rfl, a9, a10⟩
      · have eC : ∀ N, nC N (nI g) x = N.set 24 1 := fun N => if_neg p0
        have eD : ∀ N, nD N (nI g) x = N := fun N => by
          unfold nD
          by_cases p1 : x &&& 15 = 1
          · rw [if_pos p1, if_pos yl]
          · rw [if_neg p1]
        have eT : tdQ r.2 (nI g) x = ((r.2.set 9 (x >>> (4 &&& 31))).set 3 (x &&& 15)).set 6 1 := (if_neg p0).trans (if_pos y1)
        rw [eC, eD, eT]
        exact ⟨a1, a2, rfl, a4, a5, a6, a7, rfl, a9, a10⟩
    · have yl : ¬ nI g ≤ 1 := fun e9 => y1 (by
        have : ¬ 1 < g := fun l => nI_ge (a := 1) l (by omega) e9
        have : g = 1 := by omega
        rw [this]; rfl)
      have eB : nB M' (nI g) x = M' := if_neg y1
      rw [eB]
      by_cases p0 : x &&& 15 = 0
      · have eC : ∀ N, nC N (nI g) x = N := fun N => if_pos p0
        have eD : ∀ N, nD N (nI g) x = N := fun N => by
          unfold nD
          rw [if_neg (by rw [p0]; decide)]
        have eT : tdQ r.2 (nI g) x = r.2.set 9 (x >>> (4 &&& 31)) := (if_pos p0).trans (if_neg y1)
        rw [eC, eD, eT]
        exact ⟨a1, a2, a3, a4, a5, a6, a7, a8, a9, a10⟩
      · have eC : ∀ N, nC N (nI g) x = N.set 24 1 := fun N => if_neg p0
        rw [eC]
        by_cases p1 : x &&& 15 = 1
        · by_cases s0 : r.2.f 10 = 0
          · have eD : nD (M'.set 24 1) (nI g) x = (M'.set 24 1).set 23 (nI g + 1) := by
              unfold nD
              rw [if_pos p1, if_neg yl, if_pos (show (M'.set 24 1).f 23 = 0 from a2'.trans s0)]
            have eT : tdQ r.2 (nI g) x = ((r.2.set 9 (x >>> (4 &&& 31))).set 10 (nI g + 1)).set 6 1 := (if_neg p0).trans ((if_neg y1).trans ((if_pos p1).trans (if_pos s0)))
            rw [eD, eT]
            exact ⟨a1, rfl, rfl, a4, a5, a6, a7, a8, a9, a10⟩
          · have eD : nD (M'.set 24 1) (nI g) x = M'.set 24 1 := by
              unfold nD
              rw [if_pos p1, if_neg yl, if_neg (show ¬ (M'.set 24 1).f 23 = 0 from fun e9 => s0 (a2'.symm.trans e9))]
            have eT : tdQ r.2 (nI g) x = (r.2.set 9 (x >>> (4 &&& 31))).set 6 1 := (if_neg p0).trans ((if_neg y1).trans ((if_pos p1).trans (if_neg s0)))
            rw [eD, eT]
            exact ⟨a1, a2, rfl, a4, a5, a6, a7, a8, a9, a10⟩
        · have eD : nD (M'.set 24 1) (nI g) x = M'.set 24 1 := by
            unfold nD
            rw [if_neg p1]
          have eT : tdQ r.2 (nI g) x = (r.2.set 9 (x >>> (4 &&& 31))).set 6 1 := (if_neg p0).trans ((if_neg y1).trans (if_neg p1))
          rw [eD, eT]
          exact ⟨a1, a2, rfl, a4, a5, a6, a7, a8, a9, a10⟩
  · rw [rTdB G]
    refine ⟨fun _ => ?_, fun h => absurd (show (3 : Int32) = 0 from h) (by decide)⟩
    rw [c22, nAB G, rW22 f, e21]
end RM3
