set_option maxRecDepth 100000 in
set_option maxHeartbeats 4000000 in
theorem c_X3_cardRoom_119 {hp : List gA} {q : rq} {l : List Int32} (HQ : rqH hp 119 q l) : gM yX3_cardRoom cX3_cardRoom 1 ((some .int)) 0 0 [.ref 119] (hp) (0) (0) (fun v h => v = some (.int (rX3_cardRoom q l)) ∧ h = hp) := by
  refine gM_of (ls0 := [some (.ref 119)]) (by decide +kernel) (Nat.le_of_ble_eq_true rfl) rfl fun X C E => ?_
  refine g_aload_n (q := 1) C dX3_cardRoom_0 rfl rfl ?_
  refine g_getfield (v := .int ((q.f 5))) (q := 4) C fX3_51 dX3_cardRoom_1 rfl HQ.1 rfl ?_
  have e : rX3_cardRoom q l = (q.f 5) := rfl
  exact E.1 _ _ _ _ _ _ _ dX3_cardRoom_4 rfl rfl (Nat.le_of_ble_eq_true rfl) (Nat.le_of_ble_eq_true rfl) ⟨by rw [e], rfl⟩
set_option maxRecDepth 100000 in
set_option maxHeartbeats 4000000 in
theorem c_X3_tell_119 {hp : List gA} {q : rq} {l : List Int32} {y : Int32} (HQ : rqH hp 119 q l) : gM yX3_tell cX3_tell 2 ((some .int)) 1 21 [.ref 119, .int y] (hp) (0) (0) (fun v h => v = some (.int (rX3_tell q l y)) ∧ h = hp) := by
  refine gM_of (ls0 := [some (.ref 119), some (.int y)]) (by decide +kernel) (Nat.le_of_ble_eq_true rfl) rfl fun X C E => ?_
  refine g_iload_n (q := 1) C dX3_tell_0 rfl rfl ?_
  by_cases c_1_0 : y = 0
  ·
    refine g_tableE (v := 0) (off := 51) (t := 52) C dX3_tell_1 c_1_0 (by decide) (by decide) (by decide) (by decide) ?_
    refine g_aload_n (q := 53) C dX3_tell_52 rfl rfl ?_
    refine g_getfield (v := .int ((q.f 0))) (q := 56) C fX3_73 dX3_tell_53 rfl HQ.1 rfl ?_
    have e : rX3_tell q l y = (q.f 0) := (if_pos c_1_0)
    exact E.1 _ _ _ _ _ _ _ dX3_tell_56 rfl rfl (Nat.le_of_ble_eq_true rfl) (Nat.le_of_ble_eq_true rfl) ⟨by rw [e], rfl⟩
  by_cases c_1_1 : y = 1
  ·
    refine g_tableE (v := 1) (off := 56) (t := 57) C dX3_tell_1 c_1_1 (by decide) (by decide) (by decide) (by decide) ?_
    refine g_aload_n (q := 58) C dX3_tell_57 rfl rfl ?_
    refine g_getfield (v := .int ((q.f 1))) (q := 61) C fX3_38 dX3_tell_58 rfl HQ.1 rfl ?_
    refine g_callSi (x := (rX3_clockOf (q.f 1))) (q := 64) (As := [.int ((q.f 1))]) C gyX3_clockOf t_542 t_541 (c_X3_clockOf_x) dX3_tell_61 rfl rfl rfl (Nat.le_of_ble_eq_true rfl) (Nat.le_of_ble_eq_true rfl) (Nat.le_of_ble_eq_true rfl) (Nat.le_of_ble_eq_true rfl) (Nat.le_of_ble_eq_true rfl) rfl ?_
    have e : rX3_tell q l y = (rX3_clockOf (q.f 1)) := ((if_neg c_1_0).trans (if_pos c_1_1))
    exact E.1 _ _ _ _ _ _ _ dX3_tell_64 rfl rfl (Nat.le_of_ble_eq_true rfl) (Nat.le_of_ble_eq_true rfl) ⟨by rw [e], rfl⟩
  by_cases c_1_2 : y = 2
  ·
    refine g_tableE (v := 2) (off := 64) (t := 65) C dX3_tell_1 c_1_2 (by decide) (by decide) (by decide) (by decide) ?_
    refine g_aload_n (q := 66) C dX3_tell_65 rfl rfl ?_
    refine g_getfield (v := .int ((q.f 1))) (q := 69) C fX3_38 dX3_tell_66 rfl HQ.1 rfl ?_
    refine g_callSi (x := (rX3_divisorOf (q.f 1))) (q := 72) (As := [.int ((q.f 1))]) C gyX3_divisorOf t_547 t_546 (c_X3_divisorOf_x) dX3_tell_69 rfl rfl rfl (Nat.le_of_ble_eq_true rfl) (Nat.le_of_ble_eq_true rfl) (Nat.le_of_ble_eq_true rfl) (Nat.le_of_ble_eq_true rfl) (Nat.le_of_ble_eq_true rfl) rfl ?_
    have e : rX3_tell q l y = (rX3_divisorOf (q.f 1)) := ((if_neg c_1_0).trans ((if_neg c_1_1).trans (if_pos c_1_2)))
    exact E.1 _ _ _ _ _ _ _ dX3_tell_72 rfl rfl (Nat.le_of_ble_eq_true rfl) (Nat.le_of_ble_eq_true rfl) ⟨by rw [e], rfl⟩
  by_cases c_1_3 : y = 3
  ·
    refine g_tableE (v := 3) (off := 72) (t := 73) C dX3_tell_1 c_1_3 (by decide) (by decide) (by decide) (by decide) ?_
    refine g_aload_n (q := 74) C dX3_tell_73 rfl rfl ?_
    refine g_getfield (v := .int ((q.f 2))) (q := 77) C fX3_42 dX3_tell_74 rfl HQ.1 rfl ?_
    have e : rX3_tell q l y = (q.f 2) := ((if_neg c_1_0).trans ((if_neg c_1_1).trans ((if_neg c_1_2).trans (if_pos c_1_3))))
    exact E.1 _ _ _ _ _ _ _ dX3_tell_77 rfl rfl (Nat.le_of_ble_eq_true rfl) (Nat.le_of_ble_eq_true rfl) ⟨by rw [e], rfl⟩
  by_cases c_1_4 : y = 4
  ·
    refine g_tableE (v := 4) (off := 77) (t := 78) C dX3_tell_1 c_1_4 (by decide) (by decide) (by decide) (by decide) ?_
    refine g_aload_n (q := 79) C dX3_tell_78 rfl rfl ?_
    refine g_getfield (v := .int ((q.f 3))) (q := 82) C fX3_45 dX3_tell_79 rfl HQ.1 rfl ?_
    have e : rX3_tell q l y = (q.f 3) := ((if_neg c_1_0).trans ((if_neg c_1_1).trans ((if_neg c_1_2).trans ((if_neg c_1_3).trans (if_pos c_1_4)))))
    exact E.1 _ _ _ _ _ _ _ dX3_tell_82 rfl rfl (Nat.le_of_ble_eq_true rfl) (Nat.le_of_ble_eq_true rfl) ⟨by rw [e], rfl⟩
  by_cases c_1_5 : y = 5
  ·
    refine g_tableE (v := 5) (off := 82) (t := 83) C dX3_tell_1 c_1_5 (by decide) (by decide) (by decide) (by decide) ?_
    refine g_aload_n (q := 84) C dX3_tell_83 rfl rfl ?_
    refine g_getfield (v := .int ((q.f 4))) (q := 87) C fX3_48 dX3_tell_84 rfl HQ.1 rfl ?_
    have e : rX3_tell q l y = (q.f 4) := ((if_neg c_1_0).trans ((if_neg c_1_1).trans ((if_neg c_1_2).trans ((if_neg c_1_3).trans ((if_neg c_1_4).trans (if_pos c_1_5))))))
    exact E.1 _ _ _ _ _ _ _ dX3_tell_87 rfl rfl (Nat.le_of_ble_eq_true rfl) (Nat.le_of_ble_eq_true rfl) ⟨by rw [e], rfl⟩
  by_cases c_1_6 : y = 6
  ·
    refine g_tableE (v := 6) (off := 87) (t := 88) C dX3_tell_1 c_1_6 (by decide) (by decide) (by decide) (by decide) ?_
    refine g_aload_n (q := 89) C dX3_tell_88 rfl rfl ?_
    refine g_getfield (v := .ref 120) (q := 92) C fX3_14 dX3_tell_89 rfl HQ.1 rfl ?_
    refine g_callVi (x := (nI l.length)) (q := 95) (As := []) C gyX4_size gvX4_size t_517 (c_X4_size (gRw.obj HQ.2)) dX3_tell_92 rfl (gRw.obj HQ.2) rfl rfl rfl (Nat.le_of_ble_eq_true rfl) (Nat.le_of_ble_eq_true rfl) (Nat.le_of_ble_eq_true rfl) (Nat.le_of_ble_eq_true rfl) (Nat.le_of_ble_eq_true rfl) rfl ?_
    have e : rX3_tell q l y = (nI l.length) := ((if_neg c_1_0).trans ((if_neg c_1_1).trans ((if_neg c_1_2).trans ((if_neg c_1_3).trans ((if_neg c_1_4).trans ((if_neg c_1_5).trans (if_pos c_1_6)))))))
    exact E.1 _ _ _ _ _ _ _ dX3_tell_95 rfl rfl (Nat.le_of_ble_eq_true rfl) (Nat.le_of_ble_eq_true rfl) ⟨by rw [e], rfl⟩
  by_cases c_1_7 : y = 7
  ·
    refine g_tableE (v := 7) (off := 95) (t := 96) C dX3_tell_1 c_1_7 (by decide) (by decide) (by decide) (by decide) ?_
    refine g_aload_n (q := 97) C dX3_tell_96 rfl rfl ?_
    refine g_getfield (v := .int ((q.f 5))) (q := 100) C fX3_51 dX3_tell_97 rfl HQ.1 rfl ?_
    have e : rX3_tell q l y = (q.f 5) := ((if_neg c_1_0).trans ((if_neg c_1_1).trans ((if_neg c_1_2).trans ((if_neg c_1_3).trans ((if_neg c_1_4).trans ((if_neg c_1_5).trans ((if_neg c_1_6).trans (if_pos c_1_7))))))))
    exact E.1 _ _ _ _ _ _ _ dX3_tell_100 rfl rfl (Nat.le_of_ble_eq_true rfl) (Nat.le_of_ble_eq_true rfl) ⟨by rw [e], rfl⟩
  by_cases c_1_8 : y = 8
  ·
    refine g_tableE (v := 8) (off := 100) (t := 101) C dX3_tell_1 c_1_8 (by decide) (by decide) (by decide) (by decide) ?_
    refine g_aload_n (q := 102) C dX3_tell_101 rfl rfl ?_
    refine g_getfield (v := .int ((q.f 6))) (q := 105) C fX3_54 dX3_tell_102 rfl HQ.1 rfl ?_
    refine g_if_eq (t := 112) (q := 108) C dX3_tell_105 (by decide) rfl (fun c_105 => ?_) (fun c_105 => ?_)
    ·
      refine g_iconst (v := 0) (q := 113) C dX3_tell_112 (by decide) rfl ?_
      have e : rX3_tell q l y = 0 := ((if_neg c_1_0).trans ((if_neg c_1_1).trans ((if_neg c_1_2).trans ((if_neg c_1_3).trans ((if_neg c_1_4).trans ((if_neg c_1_5).trans ((if_neg c_1_6).trans ((if_neg c_1_7).trans ((if_pos c_1_8).trans (if_pos c_105))))))))))
      exact E.1 _ _ _ _ _ _ _ dX3_tell_113 rfl rfl (Nat.le_of_ble_eq_true rfl) (Nat.le_of_ble_eq_true rfl) ⟨by rw [e], rfl⟩
    ·
      refine g_iconst (v := 1) (q := 109) C dX3_tell_108 (by decide) rfl ?_
      refine g_goto (q := 113) C dX3_tell_109 (by decide) ?_
      have e : rX3_tell q l y = 1 := ((if_neg c_1_0).trans ((if_neg c_1_1).trans ((if_neg c_1_2).trans ((if_neg c_1_3).trans ((if_neg c_1_4).trans ((if_neg c_1_5).trans ((if_neg c_1_6).trans ((if_neg c_1_7).trans ((if_pos c_1_8).trans (if_neg c_105))))))))))
      exact E.1 _ _ _ _ _ _ _ dX3_tell_113 rfl rfl (Nat.le_of_ble_eq_true rfl) (Nat.le_of_ble_eq_true rfl) ⟨by rw [e], rfl⟩
  refine g_tableOut (t := 114) C dX3_tell_1 (gOut9 c_1_0 c_1_1 c_1_2 c_1_3 c_1_4 c_1_5 c_1_6 c_1_7 c_1_8) (by decide) ?_
  refine g_iconst (v := (-1)) (q := 115) C dX3_tell_114 (by decide) rfl ?_
  have e : rX3_tell q l y = (-1) := ((if_neg c_1_0).trans ((if_neg c_1_1).trans ((if_neg c_1_2).trans ((if_neg c_1_3).trans ((if_neg c_1_4).trans ((if_neg c_1_5).trans ((if_neg c_1_6).trans ((if_neg c_1_7).trans (if_neg c_1_8)))))))))
  exact E.1 _ _ _ _ _ _ _ dX3_tell_115 rfl rfl (Nat.le_of_ble_eq_true rfl) (Nat.le_of_ble_eq_true rfl) ⟨by rw [e], rfl⟩
/-- the flag of a sum is 0 or 1 -/
def rB6 (q : rq) : Prop := q.f 6 = 0 ∨ q.f 6 = 1
theorem rGb6 {q : rq} {y z w : Int32} (H : rB6 q) : rB6 (rX3_readGroupByte q y z w).2 := by
  have n : ∀ (a : rq) (j : Nat) (x : Int32), ¬ 6 = j → rB6 a → rB6 (a.set j x) := fun a j x h b => by
    unfold rB6 at b ⊢
    rw [rq.set_n h]; exact b
  have o1 : ∀ (a : rq), rB6 (a.set 6 1) := fun a => Or.inr rq.set_s
  unfold rX3_readGroupByte
  repeat' split
  · unfold rX3_readTd
    repeat' split
    all_goals first | exact o1 _ | exact n _ _ _ (by decide) (n _ _ _ (by decide) H) | exact n _ _ _ (by decide) H | exact H
  · unfold rX3_readFirstGroup
    repeat' split
    all_goals first | exact n _ _ _ (by decide) H | exact H
  · unfold rX3_readLinkGroup
    repeat' split
    all_goals first | exact n _ _ _ (by decide) H | exact H
  · exact H
theorem rL6 {t : List Int32} {g here : Int32} {k : Nat} {r : Int32 × rq} (H : rB6 r.2) : rB6 (rL t g here k r).2 := by
  have n : ∀ (a : rq) (x : Int32), rB6 a → rB6 (a.set 8 x) := fun a x b => by
    unfold rB6 at b ⊢
    rw [rq.set_n (by decide)]; exact b
  unfold rL
  repeat' split
  all_goals first | exact n _ _ (rGb6 H) | exact rGb6 H | exact H
theorem rGs6 {t : List Int32} : ∀ {n g : Nat} {r : Int32 × rq}, rB6 r.2 → rB6 (rGs t n g r).2
  | 0, _, _, H => H
  | n + 1, g, r, H => by
    unfold rGs
    repeat' split
    · exact H
    · exact rGs6 (rL6 (rL6 (rL6 (rL6 (by
        unfold rB6 at H ⊢
        rw [rq.set_n (by decide), rq.set_n (by decide)]; exact H)))))
    · exact H
theorem rH6 {t : List Int32} : ∀ {n : Nat} {s : Int32 × (rq × List Int32)}, rB6 s.2.1 → rB6 (rH t n s).2.1
  | 0, _, H => H
  | n + 1, s, H => by
    unfold rH
    repeat' split
    · exact rH6 H
    · exact rH6 (by
        unfold rB6 at H ⊢
        rw [rq.set_n (by decide)]; exact H)
    · exact H
theorem rRd6 {q : rq} {t : List Int32} : rB6 (rRd q t).2.1 := by
  have c0 : rB6 (rX3_clear q) := Or.inl rfl
  have n : ∀ (a : rq) (j : Nat) (x : Int32), ¬ 6 = j → rB6 a → rB6 (a.set j x) := fun a j x h b => by
    unfold rB6 at b ⊢
    rw [rq.set_n h]; exact b
  have h0 : rB6 (rX3_readHead (rX3_clear q) t).2 := by
    unfold rX3_readHead
    repeat' split
    all_goals first | exact n _ _ _ (by decide) (n _ _ _ (by decide) (n _ _ _ (by decide) c0)) | exact n _ _ _ (by decide) c0 | exact c0
  have g0 : rB6 (rGs t 4 1 (0, (rX3_readHead (rX3_clear q) t).2)).2 := rGs6 h0
  unfold rRd
  repeat' split
  · have e6 := rH6 (t := t) (n := (gat t 1 &&& 15).toNatClampNeg) (s := (0, ((rGs t 4 1 (0, (rX3_readHead (rX3_clear q) t).2)).2, []))) g0
    generalize rH t (gat t 1 &&& 15).toNatClampNeg (0, ((rGs t 4 1 (0, (rX3_readHead (rX3_clear q) t).2)).2, [])) = s at e6 ⊢
    have c6 : rB6 (rC t s).2.1 := by
      unfold rC
      repeat' split
      all_goals first | exact n _ _ _ (by decide) e6 | exact e6
    generalize rC t s = u at c6 ⊢
    unfold rE
    repeat' split
    all_goals exact c6
  · exact g0
  · exact h0
