/-! the reference: asked and set (by program: wip/p2/m_my.py) -/
theorem gWj {x g : Int32} {m : Nat} (hm : m < 2 ^ 31) (hg : g = nI m) (h : ¬ rX8_within x 0 (g - 1) = 0) : ∃ k, k < m ∧ x = nI k := by
  subst hg
  unfold rX8_within at h
  by_cases c1 : x < 0
  · rw [if_pos c1] at h; exact absurd rfl h
  · rw [if_neg c1] at h
    by_cases c2 : nI m - 1 < x
    · rw [if_pos c2] at h; exact absurd rfl h
    · rw [Int32.lt_iff_toInt_lt] at c1 c2
      have h0 : (0 : Int32).toInt = 0 := rfl
      cases m with
      | zero =>
        have h1 : (nI 0 - 1).toInt = -1 := rfl
        omega
      | succ m =>
        rw [show nI (m + 1) - 1 = nI m from pk_sub (Nat.le_add_left 1 m), nI_toInt (by omega)] at c2
        refine ⟨x.toInt.toNat, by omega, ?_⟩
        apply Int32.toInt_inj.mp
        rw [nI_toInt (by omega)]; omega
theorem gLpl {b a : Nat} (hb : b < 30) (ha : a ≤ 30) : (nI b - nI a + 30) - (nI b - nI a + 30) / 30 * 30 = nI ((b + 30 - a) % 30) := by
  have e : nI b - nI a + 30 = nI (b + 30 - a) := by
    rw [← pk_sub (show a ≤ b + 30 by omega), show nI (b + 30) = nI b + 30 from (nI_add b 30).symm, Int32.sub_eq_add_neg, Int32.sub_eq_add_neg, Int32.add_assoc, Int32.add_comm (-nI a), ← Int32.add_assoc]
  rw [e]
  exact nI_rem (by omega) (show 30 < 2 ^ 31 by decide)
theorem dX8_state_0 : decode cX8_state 0 = .ok (.aload_n 0, 1) := by decide +kernel
theorem dX8_state_1 : decode cX8_state 1 = .ok (.iconst 0, 1) := by decide +kernel
theorem dX8_state_2 : decode cX8_state 2 = .ok (.putfield 66, 3) := by decide +kernel
theorem dX8_state_5 : decode cX8_state 5 = .ok (.aload_n 0, 1) := by decide +kernel
theorem dX8_state_6 : decode cX8_state 6 = .ok (.getfield 134, 3) := by decide +kernel
theorem dX8_state_9 : decode cX8_state 9 = .ok (.ifCond .eq 14, 3) := by decide +kernel
theorem dX8_state_12 : decode cX8_state 12 = .ok (.aload_n 0, 1) := by decide +kernel
theorem dX8_state_13 : decode cX8_state 13 = .ok (.getfield 22, 3) := by decide +kernel
theorem dX8_state_16 : decode cX8_state 16 = .ok (.sipush 419, 3) := by decide +kernel
theorem dX8_state_19 : decode cX8_state 19 = .ok (.iaload, 1) := by decide +kernel
theorem dX8_state_20 : decode cX8_state 20 = .ok (.goto 4, 3) := by decide +kernel
theorem dX8_state_23 : decode cX8_state 23 = .ok (.iconst (-1), 1) := by decide +kernel
theorem dX8_state_24 : decode cX8_state 24 = .ok (.ireturn, 1) := by decide +kernel
set_option maxRecDepth 100000 in
set_option maxHeartbeats 4000000 in
theorem c_X8_state_r {hp : List gA} {M : gMd}  (HM : gMod hp M)  : gM yX8_state cX8_state 1 ((some .int)) 0 0 [.ref 122] (hp) (0) (0) (fun v h => ∃ x, v = some (.int x) ∧ gMod h (M.set 2 0) ∧ gFM hp h) := by
  refine gM_of (ls0 := [some (.ref 122)]) (by decide +kernel) (Nat.le_of_ble_eq_true rfl) rfl fun X C E => ?_
  refine g_aload_n (q := 1) C dX8_state_0 rfl rfl ?_
  refine g_iconst (v := 0) (q := 2) C dX8_state_1 (by decide) rfl ?_
  refine g_putfield (q := 5) C fX8_66 dX8_state_2 rfl HM.1 (Nat.le_of_ble_eq_true rfl) (Or.inl rfl) rfl rfl (by intro z h; cases h) ?_
  refine gMput (j := 2) (x := 0) HM rfl fun h1 HL1 fr1 => ?_
  refine g_aload_n (q := 6) C dX8_state_5 rfl rfl ?_
  refine g_getfield (v := .int ((M.f 3))) (q := 9) C fX8_134 dX8_state_6 rfl HL1.1 rfl ?_
  refine g_if_eq (t := 23) (q := 12) C dX8_state_9 (by decide) rfl (fun c_9 => ?_) (fun c_9 => ?_)
  ·
    refine g_iconst (v := (-1)) (q := 24) C dX8_state_23 (by decide) rfl ?_
    exact E.1 _ _ _ _ _ _ _ dX8_state_24 rfl rfl (Nat.le_of_ble_eq_true rfl) (Nat.le_of_ble_eq_true rfl) ⟨_, rfl, HL1, fr1⟩
  ·
    refine g_aload_n (q := 13) C dX8_state_12 rfl rfl ?_
    refine g_getfield (v := .ref 127) (q := 16) C fX8_22 dX8_state_13 rfl HL1.1 rfl ?_
    refine g_sipush (v := 419) (q := 19) C dX8_state_16 (by decide) rfl ?_
    refine g_ialoadN (x := (M.a 4 419)) (j := 419) (q := 20) C dX8_state_19 rfl (HL1.ar (i := 4) (n := 772) (by decide) rfl) (pk_in 419 772 (by decide)) (pk_cl 419) gset_a ?_
    refine g_goto (q := 24) C dX8_state_20 (by decide) ?_
    exact E.1 _ _ _ _ _ _ _ dX8_state_24 rfl rfl (Nat.le_of_ble_eq_true rfl) (Nat.le_of_ble_eq_true rfl) ⟨_, rfl, HL1, fr1⟩
theorem dX8_answer_0 : decode cX8_answer 0 = .ok (.aload_n 0, 1) := by decide +kernel
theorem dX8_answer_1 : decode cX8_answer 1 = .ok (.iconst 0, 1) := by decide +kernel
theorem dX8_answer_2 : decode cX8_answer 2 = .ok (.putfield 66, 3) := by decide +kernel
theorem dX8_answer_5 : decode cX8_answer 5 = .ok (.aload_n 0, 1) := by decide +kernel
theorem dX8_answer_6 : decode cX8_answer 6 = .ok (.getfield 134, 3) := by decide +kernel
theorem dX8_answer_9 : decode cX8_answer 9 = .ok (.ifCond .eq 22, 3) := by decide +kernel
theorem dX8_answer_12 : decode cX8_answer 12 = .ok (.iload_n 1, 1) := by decide +kernel
theorem dX8_answer_13 : decode cX8_answer 13 = .ok (.iconst 0, 1) := by decide +kernel
theorem dX8_answer_14 : decode cX8_answer 14 = .ok (.bipush 8, 2) := by decide +kernel
theorem dX8_answer_16 : decode cX8_answer 16 = .ok (.invokestatic 82, 3) := by decide +kernel
theorem dX8_answer_19 : decode cX8_answer 19 = .ok (.ifCond .eq 12, 3) := by decide +kernel
theorem dX8_answer_22 : decode cX8_answer 22 = .ok (.aload_n 0, 1) := by decide +kernel
theorem dX8_answer_23 : decode cX8_answer 23 = .ok (.getfield 13, 3) := by decide +kernel
theorem dX8_answer_26 : decode cX8_answer 26 = .ok (.iload_n 1, 1) := by decide +kernel
theorem dX8_answer_27 : decode cX8_answer 27 = .ok (.iaload, 1) := by decide +kernel
theorem dX8_answer_28 : decode cX8_answer 28 = .ok (.goto 4, 3) := by decide +kernel
theorem dX8_answer_31 : decode cX8_answer 31 = .ok (.iconst (-1), 1) := by decide +kernel
theorem dX8_answer_32 : decode cX8_answer 32 = .ok (.ireturn, 1) := by decide +kernel
set_option maxRecDepth 100000 in
set_option maxHeartbeats 4000000 in
theorem c_X8_answer_r {hp : List gA} {M : gMd} {y : Int32} (HM : gMod hp M)  : gM yX8_answer cX8_answer 2 ((some .int)) 1 22 [.ref 122, .int y] (hp) (0) (0) (fun v h => ∃ x, v = some (.int x) ∧ gMod h (M.set 2 0) ∧ gFM hp h) := by
  refine gM_of (ls0 := [some (.ref 122), some (.int y)]) (by decide +kernel) (Nat.le_of_ble_eq_true rfl) rfl fun X C E => ?_
  refine g_aload_n (q := 1) C dX8_answer_0 rfl rfl ?_
  refine g_iconst (v := 0) (q := 2) C dX8_answer_1 (by decide) rfl ?_
  refine g_putfield (q := 5) C fX8_66 dX8_answer_2 rfl HM.1 (Nat.le_of_ble_eq_true rfl) (Or.inl rfl) rfl rfl (by intro z h; cases h) ?_
  refine gMput (j := 2) (x := 0) HM rfl fun h1 HL1 fr1 => ?_
  refine g_aload_n (q := 6) C dX8_answer_5 rfl rfl ?_
  refine g_getfield (v := .int ((M.f 3))) (q := 9) C fX8_134 dX8_answer_6 rfl HL1.1 rfl ?_
  refine g_if_eq (t := 31) (q := 12) C dX8_answer_9 (by decide) rfl (fun c_9 => ?_) (fun c_9 => ?_)
  ·
    refine g_iconst (v := (-1)) (q := 32) C dX8_answer_31 (by decide) rfl ?_
    exact E.1 _ _ _ _ _ _ _ dX8_answer_32 rfl rfl (Nat.le_of_ble_eq_true rfl) (Nat.le_of_ble_eq_true rfl) ⟨_, rfl, HL1, fr1⟩
  ·
    refine g_iload_n (q := 13) C dX8_answer_12 rfl rfl ?_
    refine g_iconst (v := 0) (q := 14) C dX8_answer_13 (by decide) rfl ?_
    refine g_bipush (v := 8) (q := 16) C dX8_answer_14 (by decide) rfl ?_
    refine g_callSi (x := (rX8_within y 0 8)) (q := 19) (As := [.int y, .int 0, .int 8]) C gyX8_within t_1212 t_1211 (c_X8_within_m) dX8_answer_16 rfl rfl rfl (Nat.le_of_ble_eq_true rfl) (Nat.le_of_ble_eq_true rfl) (Nat.le_of_ble_eq_true rfl) (Nat.le_of_ble_eq_true rfl) (Nat.le_of_ble_eq_true rfl) rfl ?_
    refine g_if_eq (t := 31) (q := 22) C dX8_answer_19 (by decide) rfl (fun c_19 => ?_) (fun c_19 => ?_)
    ·
      refine g_iconst (v := (-1)) (q := 32) C dX8_answer_31 (by decide) rfl ?_
      exact E.1 _ _ _ _ _ _ _ dX8_answer_32 rfl rfl (Nat.le_of_ble_eq_true rfl) (Nat.le_of_ble_eq_true rfl) ⟨_, rfl, HL1, fr1⟩
    ·
      refine g_aload_n (q := 23) C dX8_answer_22 rfl rfl ?_
      refine g_getfield (v := .ref 124) (q := 26) C fX8_13 dX8_answer_23 rfl HL1.1 rfl ?_
      refine g_iload_n (q := 27) C dX8_answer_26 rfl rfl ?_
      obtain ⟨n, -, hn, ey⟩ := gWi (a := 0) (b := 8) (by decide) (by decide) c_19
      refine g_ialoadN (x := (M.a 1 n)) (j := n) (q := 28) C dX8_answer_27 rfl (HL1.ar (i := 1) (n := 9) (by decide) rfl) (pk_in n 9 (by omega) ey) (pk_cl n ey (by omega)) gset_a ?_
      refine g_goto (q := 32) C dX8_answer_28 (by decide) ?_
      exact E.1 _ _ _ _ _ _ _ dX8_answer_32 rfl rfl (Nat.le_of_ble_eq_true rfl) (Nat.le_of_ble_eq_true rfl) ⟨_, rfl, HL1, fr1⟩
theorem dX8_historical_0 : decode cX8_historical 0 = .ok (.aload_n 0, 1) := by decide +kernel
theorem dX8_historical_1 : decode cX8_historical 1 = .ok (.iconst 0, 1) := by decide +kernel
theorem dX8_historical_2 : decode cX8_historical 2 = .ok (.putfield 66, 3) := by decide +kernel
theorem dX8_historical_5 : decode cX8_historical 5 = .ok (.aload_n 0, 1) := by decide +kernel
theorem dX8_historical_6 : decode cX8_historical 6 = .ok (.getfield 134, 3) := by decide +kernel
theorem dX8_historical_9 : decode cX8_historical 9 = .ok (.ifCond .eq 29, 3) := by decide +kernel
theorem dX8_historical_12 : decode cX8_historical 12 = .ok (.iload_n 1, 1) := by decide +kernel
theorem dX8_historical_13 : decode cX8_historical 13 = .ok (.iconst 0, 1) := by decide +kernel
theorem dX8_historical_14 : decode cX8_historical 14 = .ok (.aload_n 0, 1) := by decide +kernel
theorem dX8_historical_15 : decode cX8_historical 15 = .ok (.getfield 13, 3) := by decide +kernel
theorem dX8_historical_18 : decode cX8_historical 18 = .ok (.bipush 6, 2) := by decide +kernel
theorem dX8_historical_20 : decode cX8_historical 20 = .ok (.iaload, 1) := by decide +kernel
theorem dX8_historical_21 : decode cX8_historical 21 = .ok (.iconst 1, 1) := by decide +kernel
theorem dX8_historical_22 : decode cX8_historical 22 = .ok (.isub, 1) := by decide +kernel
theorem dX8_historical_23 : decode cX8_historical 23 = .ok (.invokestatic 82, 3) := by decide +kernel
theorem dX8_historical_26 : decode cX8_historical 26 = .ok (.ifCond .eq 12, 3) := by decide +kernel
theorem dX8_historical_29 : decode cX8_historical 29 = .ok (.aload_n 0, 1) := by decide +kernel
theorem dX8_historical_30 : decode cX8_historical 30 = .ok (.getfield 19, 3) := by decide +kernel
theorem dX8_historical_33 : decode cX8_historical 33 = .ok (.iload_n 1, 1) := by decide +kernel
theorem dX8_historical_34 : decode cX8_historical 34 = .ok (.iaload, 1) := by decide +kernel
theorem dX8_historical_35 : decode cX8_historical 35 = .ok (.goto 4, 3) := by decide +kernel
theorem dX8_historical_38 : decode cX8_historical 38 = .ok (.iconst (-1), 1) := by decide +kernel
theorem dX8_historical_39 : decode cX8_historical 39 = .ok (.ireturn, 1) := by decide +kernel
set_option maxRecDepth 100000 in
set_option maxHeartbeats 4000000 in
theorem c_X8_historical_r {hp : List gA} {M : gMd} {y : Int32} (HM : gMod hp M) (ht : gIr (M.a 1 6) 15) : gM yX8_historical cX8_historical 2 ((some .int)) 1 22 [.ref 122, .int y] (hp) (0) (0) (fun v h => ∃ x, v = some (.int x) ∧ gMod h (M.set 2 0) ∧ gFM hp h) := by
  refine gM_of (ls0 := [some (.ref 122), some (.int y)]) (by decide +kernel) (Nat.le_of_ble_eq_true rfl) rfl fun X C E => ?_
  refine g_aload_n (q := 1) C dX8_historical_0 rfl rfl ?_
  refine g_iconst (v := 0) (q := 2) C dX8_historical_1 (by decide) rfl ?_
  refine g_putfield (q := 5) C fX8_66 dX8_historical_2 rfl HM.1 (Nat.le_of_ble_eq_true rfl) (Or.inl rfl) rfl rfl (by intro z h; cases h) ?_
  refine gMput (j := 2) (x := 0) HM rfl fun h1 HL1 fr1 => ?_
  refine g_aload_n (q := 6) C dX8_historical_5 rfl rfl ?_
  refine g_getfield (v := .int ((M.f 3))) (q := 9) C fX8_134 dX8_historical_6 rfl HL1.1 rfl ?_
  refine g_if_eq (t := 38) (q := 12) C dX8_historical_9 (by decide) rfl (fun c_9 => ?_) (fun c_9 => ?_)
  ·
    refine g_iconst (v := (-1)) (q := 39) C dX8_historical_38 (by decide) rfl ?_
    exact E.1 _ _ _ _ _ _ _ dX8_historical_39 rfl rfl (Nat.le_of_ble_eq_true rfl) (Nat.le_of_ble_eq_true rfl) ⟨_, rfl, HL1, fr1⟩
  ·
    refine g_iload_n (q := 13) C dX8_historical_12 rfl rfl ?_
    refine g_iconst (v := 0) (q := 14) C dX8_historical_13 (by decide) rfl ?_
    refine g_aload_n (q := 15) C dX8_historical_14 rfl rfl ?_
    refine g_getfield (v := .ref 124) (q := 18) C fX8_13 dX8_historical_15 rfl HL1.1 rfl ?_
    refine g_bipush (v := 6) (q := 20) C dX8_historical_18 (by decide) rfl ?_
    refine g_ialoadN (x := (M.a 1 6)) (j := 6) (q := 21) C dX8_historical_20 rfl (HL1.ar (i := 1) (n := 9) (by decide) rfl) (pk_in 6 9 (by decide)) (pk_cl 6) gset_a ?_
    refine g_iconst (v := 1) (q := 22) C dX8_historical_21 (by decide) rfl ?_
    refine g_isub (q := 23) C dX8_historical_22 rfl ?_
    refine g_callSi (x := (rX8_within y 0 ((M.a 1 6) - 1))) (q := 26) (As := [.int y, .int 0, .int (((M.a 1 6) - 1))]) C gyX8_within t_1212 t_1211 (c_X8_within_m) dX8_historical_23 rfl rfl rfl (Nat.le_of_ble_eq_true rfl) (Nat.le_of_ble_eq_true rfl) (Nat.le_of_ble_eq_true rfl) (Nat.le_of_ble_eq_true rfl) (Nat.le_of_ble_eq_true rfl) rfl ?_
    refine g_if_eq (t := 38) (q := 29) C dX8_historical_26 (by decide) rfl (fun c_26 => ?_) (fun c_26 => ?_)
    ·
      refine g_iconst (v := (-1)) (q := 39) C dX8_historical_38 (by decide) rfl ?_
      exact E.1 _ _ _ _ _ _ _ dX8_historical_39 rfl rfl (Nat.le_of_ble_eq_true rfl) (Nat.le_of_ble_eq_true rfl) ⟨_, rfl, HL1, fr1⟩
    ·
      refine g_aload_n (q := 30) C dX8_historical_29 rfl rfl ?_
      refine g_getfield (v := .ref 126) (q := 33) C fX8_19 dX8_historical_30 rfl HL1.1 rfl ?_
      refine g_iload_n (q := 34) C dX8_historical_33 rfl rfl ?_
      obtain ⟨m9, hm9, em9⟩ := ht
      obtain ⟨n, hn, ey⟩ := gWj (by omega) em9 c_26
      refine g_ialoadN (x := (M.a 3 n)) (j := n) (q := 35) C dX8_historical_34 rfl (HL1.ar (i := 3) (n := 15) (by decide) rfl) (pk_in n 15 (by omega) ey) (pk_cl n ey (by omega)) gset_a ?_
      refine g_goto (q := 39) C dX8_historical_35 (by decide) ?_
      exact E.1 _ _ _ _ _ _ _ dX8_historical_39 rfl rfl (Nat.le_of_ble_eq_true rfl) (Nat.le_of_ble_eq_true rfl) ⟨_, rfl, HL1, fr1⟩
def rX8_repeats (M : gMd) (y : Int32) : Int32 × gMd := (if (rX8_within y 0 3) = 0 then ((-1), (M.set 2 0)) else ((M.f 9), ((M.set 2 0).set 9 y)))
theorem dX8_repeats_0 : decode cX8_repeats 0 = .ok (.aload_n 0, 1) := by decide +kernel
theorem dX8_repeats_1 : decode cX8_repeats 1 = .ok (.iconst 0, 1) := by decide +kernel
theorem dX8_repeats_2 : decode cX8_repeats 2 = .ok (.putfield 66, 3) := by decide +kernel
theorem dX8_repeats_5 : decode cX8_repeats 5 = .ok (.iload_n 1, 1) := by decide +kernel
theorem dX8_repeats_6 : decode cX8_repeats 6 = .ok (.iconst 0, 1) := by decide +kernel
theorem dX8_repeats_7 : decode cX8_repeats 7 = .ok (.iconst 3, 1) := by decide +kernel
theorem dX8_repeats_8 : decode cX8_repeats 8 = .ok (.invokestatic 82, 3) := by decide +kernel
theorem dX8_repeats_11 : decode cX8_repeats 11 = .ok (.ifCond .ne 5, 3) := by decide +kernel
theorem dX8_repeats_14 : decode cX8_repeats 14 = .ok (.iconst (-1), 1) := by decide +kernel
theorem dX8_repeats_15 : decode cX8_repeats 15 = .ok (.ireturn, 1) := by decide +kernel
theorem dX8_repeats_16 : decode cX8_repeats 16 = .ok (.aload_n 0, 1) := by decide +kernel
theorem dX8_repeats_17 : decode cX8_repeats 17 = .ok (.getfield 28, 3) := by decide +kernel
theorem dX8_repeats_20 : decode cX8_repeats 20 = .ok (.istore_n 2, 1) := by decide +kernel
theorem dX8_repeats_21 : decode cX8_repeats 21 = .ok (.aload_n 0, 1) := by decide +kernel
theorem dX8_repeats_22 : decode cX8_repeats 22 = .ok (.iload_n 1, 1) := by decide +kernel
theorem dX8_repeats_23 : decode cX8_repeats 23 = .ok (.putfield 28, 3) := by decide +kernel
theorem dX8_repeats_26 : decode cX8_repeats 26 = .ok (.iload_n 2, 1) := by decide +kernel
theorem dX8_repeats_27 : decode cX8_repeats 27 = .ok (.ireturn, 1) := by decide +kernel
set_option maxRecDepth 100000 in
set_option maxHeartbeats 4000000 in
theorem c_X8_repeats_m {hp : List gA} {M : gMd} {y : Int32}  (HM : gMod hp M)  : gM yX8_repeats cX8_repeats 3 ((some .int)) 1 22 [.ref 122, .int y] (hp) (0) (0) (fun v h => v = some (.int (rX8_repeats M y).1) ∧ (gMod h (rX8_repeats M y).2 ∧ gFM hp h)) := by
  refine gM_of (ls0 := [some (.ref 122), some (.int y), none]) (by decide +kernel) (Nat.le_of_ble_eq_true rfl) rfl fun X C E => ?_
  refine g_aload_n (q := 1) C dX8_repeats_0 rfl rfl ?_
  refine g_iconst (v := 0) (q := 2) C dX8_repeats_1 (by decide) rfl ?_
  refine g_putfield (q := 5) C fX8_66 dX8_repeats_2 rfl HM.1 (Nat.le_of_ble_eq_true rfl) (Or.inl rfl) rfl rfl (by intro z h; cases h) ?_
  refine gMput (j := 2) (x := 0) HM rfl fun h1 HL1 fr1 => ?_
  refine g_iload_n (q := 6) C dX8_repeats_5 rfl rfl ?_
  refine g_iconst (v := 0) (q := 7) C dX8_repeats_6 (by decide) rfl ?_
  refine g_iconst (v := 3) (q := 8) C dX8_repeats_7 (by decide) rfl ?_
  refine g_callSi (x := (rX8_within y 0 3)) (q := 11) (As := [.int y, .int 0, .int 3]) C gyX8_within t_1212 t_1211 (c_X8_within_m) dX8_repeats_8 rfl rfl rfl (Nat.le_of_ble_eq_true rfl) (Nat.le_of_ble_eq_true rfl) (Nat.le_of_ble_eq_true rfl) (Nat.le_of_ble_eq_true rfl) (Nat.le_of_ble_eq_true rfl) rfl ?_
  refine g_if_ne (t := 16) (q := 14) C dX8_repeats_11 (by decide) rfl (fun c_11 => ?_) (fun c_11 => ?_)
  ·
    refine g_aload_n (q := 17) C dX8_repeats_16 rfl rfl ?_
    refine g_getfield (v := .int ((M.f 9))) (q := 20) C fX8_28 dX8_repeats_17 rfl HL1.1 rfl ?_
    refine g_istore_n (q := 21) C dX8_repeats_20 (Nat.le_of_ble_eq_true rfl) (by simp only [gset]; rfl) rfl ?_
    refine g_aload_n (q := 22) C dX8_repeats_21 rfl rfl ?_
    refine g_iload_n (q := 23) C dX8_repeats_22 rfl rfl ?_
    refine g_putfield (q := 26) C fX8_28 dX8_repeats_23 rfl HL1.1 (Nat.le_of_ble_eq_true rfl) (Or.inl rfl) rfl rfl (by intro z h; cases h) ?_
    refine gMput (j := 9) (x := y) HL1 rfl fun h2 HL2 fr2 => ?_
    refine g_iload_n (q := 27) C dX8_repeats_26 rfl rfl ?_
    have e : rX8_repeats M y = ((M.f 9), ((M.set 2 0).set 9 y)) := (if_neg c_11)
    exact E.1 _ _ _ _ _ _ _ dX8_repeats_27 rfl rfl (Nat.le_of_ble_eq_true rfl) (Nat.le_of_ble_eq_true rfl) ⟨by rw [e], by rw [e]; exact ⟨HL2, (gFM.trans fr1 fr2)⟩⟩
  ·
    refine g_iconst (v := (-1)) (q := 15) C dX8_repeats_14 (by decide) rfl ?_
    have e : rX8_repeats M y = ((-1), (M.set 2 0)) := (if_pos c_11)
    exact E.1 _ _ _ _ _ _ _ dX8_repeats_15 rfl rfl (Nat.le_of_ble_eq_true rfl) (Nat.le_of_ble_eq_true rfl) ⟨by rw [e], by rw [e]; exact ⟨HL1, fr1⟩⟩
def rX8_room (M : gMd) (y : Int32) : Int32 × gMd := (if (rX8_within y 1 254) = 0 then ((-1), (M.set 2 0)) else (if (rX8_canBegin (M.set 2 0)) = 0 then ((-1), (M.set 2 0)) else (1, ((rX8_starts_2 (M.set 2 0)).put 4 10 y))))
theorem dX8_room_0 : decode cX8_room 0 = .ok (.aload_n 0, 1) := by decide +kernel
theorem dX8_room_1 : decode cX8_room 1 = .ok (.iconst 0, 1) := by decide +kernel
theorem dX8_room_2 : decode cX8_room 2 = .ok (.putfield 66, 3) := by decide +kernel
theorem dX8_room_5 : decode cX8_room 5 = .ok (.iload_n 1, 1) := by decide +kernel
theorem dX8_room_6 : decode cX8_room 6 = .ok (.iconst 1, 1) := by decide +kernel
theorem dX8_room_7 : decode cX8_room 7 = .ok (.sipush 254, 3) := by decide +kernel
theorem dX8_room_10 : decode cX8_room 10 = .ok (.invokestatic 82, 3) := by decide +kernel
theorem dX8_room_13 : decode cX8_room 13 = .ok (.ifCond .eq 10, 3) := by decide +kernel
theorem dX8_room_16 : decode cX8_room 16 = .ok (.aload_n 0, 1) := by decide +kernel
theorem dX8_room_17 : decode cX8_room 17 = .ok (.invokevirtual 137, 3) := by decide +kernel
theorem dX8_room_20 : decode cX8_room 20 = .ok (.ifCond .ne 5, 3) := by decide +kernel
theorem dX8_room_23 : decode cX8_room 23 = .ok (.iconst (-1), 1) := by decide +kernel
theorem dX8_room_24 : decode cX8_room 24 = .ok (.ireturn, 1) := by decide +kernel
theorem dX8_room_25 : decode cX8_room 25 = .ok (.aload_n 0, 1) := by decide +kernel
theorem dX8_room_26 : decode cX8_room 26 = .ok (.iconst 2, 1) := by decide +kernel
theorem dX8_room_27 : decode cX8_room 27 = .ok (.invokevirtual 141, 3) := by decide +kernel
theorem dX8_room_30 : decode cX8_room 30 = .ok (.aload_n 0, 1) := by decide +kernel
theorem dX8_room_31 : decode cX8_room 31 = .ok (.getfield 22, 3) := by decide +kernel
theorem dX8_room_34 : decode cX8_room 34 = .ok (.bipush 10, 2) := by decide +kernel
theorem dX8_room_36 : decode cX8_room 36 = .ok (.iload_n 1, 1) := by decide +kernel
theorem dX8_room_37 : decode cX8_room 37 = .ok (.iastore, 1) := by decide +kernel
theorem dX8_room_38 : decode cX8_room 38 = .ok (.iconst 1, 1) := by decide +kernel
theorem dX8_room_39 : decode cX8_room 39 = .ok (.ireturn, 1) := by decide +kernel
set_option maxRecDepth 100000 in
set_option maxHeartbeats 4000000 in
theorem c_X8_room_m {hp : List gA} {M : gMd} {y : Int32}  (HM : gMod hp M)  : gM yX8_room cX8_room 2 ((some .int)) 1 22 [.ref 122, .int y] (hp) (0) (0) (fun v h => v = some (.int (rX8_room M y).1) ∧ (gMod h (rX8_room M y).2 ∧ gFM hp h)) := by
  refine gM_of (ls0 := [some (.ref 122), some (.int y)]) (by decide +kernel) (Nat.le_of_ble_eq_true rfl) rfl fun X C E => ?_
  refine g_aload_n (q := 1) C dX8_room_0 rfl rfl ?_
  refine g_iconst (v := 0) (q := 2) C dX8_room_1 (by decide) rfl ?_
  refine g_putfield (q := 5) C fX8_66 dX8_room_2 rfl HM.1 (Nat.le_of_ble_eq_true rfl) (Or.inl rfl) rfl rfl (by intro z h; cases h) ?_
  refine gMput (j := 2) (x := 0) HM rfl fun h1 HL1 fr1 => ?_
  refine g_iload_n (q := 6) C dX8_room_5 rfl rfl ?_
  refine g_iconst (v := 1) (q := 7) C dX8_room_6 (by decide) rfl ?_
  refine g_sipush (v := 254) (q := 10) C dX8_room_7 (by decide) rfl ?_
  refine g_callSi (x := (rX8_within y 1 254)) (q := 13) (As := [.int y, .int 1, .int 254]) C gyX8_within t_1212 t_1211 (c_X8_within_m) dX8_room_10 rfl rfl rfl (Nat.le_of_ble_eq_true rfl) (Nat.le_of_ble_eq_true rfl) (Nat.le_of_ble_eq_true rfl) (Nat.le_of_ble_eq_true rfl) (Nat.le_of_ble_eq_true rfl) rfl ?_
  refine g_if_eq (t := 23) (q := 16) C dX8_room_13 (by decide) rfl (fun c_13 => ?_) (fun c_13 => ?_)
  ·
    refine g_iconst (v := (-1)) (q := 24) C dX8_room_23 (by decide) rfl ?_
    have e : rX8_room M y = ((-1), (M.set 2 0)) := (if_pos c_13)
    exact E.1 _ _ _ _ _ _ _ dX8_room_24 rfl rfl (Nat.le_of_ble_eq_true rfl) (Nat.le_of_ble_eq_true rfl) ⟨by rw [e], by rw [e]; exact ⟨HL1, fr1⟩⟩
  ·
    refine g_aload_n (q := 17) C dX8_room_16 rfl rfl ?_
    refine g_callVi (x := (rX8_canBegin (M.set 2 0))) (q := 20) (As := []) C gyX8_canBegin gvX8_canBegin t_1264 (c_X8_canBegin_m HL1) dX8_room_17 rfl HL1.1 rfl rfl rfl (Nat.le_of_ble_eq_true rfl) (Nat.le_of_ble_eq_true rfl) (Nat.le_of_ble_eq_true rfl) (Nat.le_of_ble_eq_true rfl) (Nat.le_of_ble_eq_true rfl) rfl ?_
    refine g_if_ne (t := 25) (q := 23) C dX8_room_20 (by decide) rfl (fun c_20 => ?_) (fun c_20 => ?_)
    ·
      refine g_aload_n (q := 26) C dX8_room_25 rfl rfl ?_
      refine g_iconst (v := 2) (q := 27) C dX8_room_26 (by decide) rfl ?_
      refine g_callVvp (q := 30) (As := [.int 2]) C gyX8_starts gvX8_starts t_1268 (c_X8_starts_2_m HL1) dX8_room_27 rfl HL1.1 rfl rfl rfl (Nat.le_of_ble_eq_true rfl) (Nat.le_of_ble_eq_true rfl) (Nat.le_of_ble_eq_true rfl) (Nat.le_of_ble_eq_true rfl) (Nat.le_of_ble_eq_true rfl) rfl (fun h2 z2 => ?_)
      obtain ⟨HL2, fr2⟩ := z2
      refine g_aload_n (q := 31) C dX8_room_30 rfl rfl ?_
      refine g_getfield (v := .ref 127) (q := 34) C fX8_22 dX8_room_31 rfl HL2.1 rfl ?_
      refine g_bipush (v := 10) (q := 36) C dX8_room_34 (by decide) rfl ?_
      refine g_iload_n (q := 37) C dX8_room_36 rfl rfl ?_
      refine g_iastoreN (j := 10) (q := 38) C dX8_room_37 rfl (HL2.ar (i := 4) (n := 772) (by decide) rfl) (pk_in 10 772 (by decide)) (pk_cl 10) ?_
      refine gMsto (i := 4) (j := 10) (x := y) HL2 (by decide) rfl rfl fun h3 HL3 fr3 => ?_
      refine g_iconst (v := 1) (q := 39) C dX8_room_38 (by decide) rfl ?_
      have e : rX8_room M y = (1, ((rX8_starts_2 (M.set 2 0)).put 4 10 y)) := ((if_neg c_13).trans (if_neg c_20))
      exact E.1 _ _ _ _ _ _ _ dX8_room_39 rfl rfl (Nat.le_of_ble_eq_true rfl) (Nat.le_of_ble_eq_true rfl) ⟨by rw [e], by rw [e]; exact ⟨HL3, (gFM.trans (gFM.trans fr1 fr2) fr3)⟩⟩
    ·
      refine g_iconst (v := (-1)) (q := 24) C dX8_room_23 (by decide) rfl ?_
      have e : rX8_room M y = ((-1), (M.set 2 0)) := ((if_neg c_13).trans (if_pos c_20))
      exact E.1 _ _ _ _ _ _ _ dX8_room_24 rfl rfl (Nat.le_of_ble_eq_true rfl) (Nat.le_of_ble_eq_true rfl) ⟨by rw [e], by rw [e]; exact ⟨HL1, fr1⟩⟩
theorem dX8_got_0 : decode cX8_got 0 = .ok (.aload_n 0, 1) := by decide +kernel
theorem dX8_got_1 : decode cX8_got 1 = .ok (.iconst 0, 1) := by decide +kernel
theorem dX8_got_2 : decode cX8_got 2 = .ok (.putfield 66, 3) := by decide +kernel
theorem dX8_got_5 : decode cX8_got 5 = .ok (.aload_n 0, 1) := by decide +kernel
theorem dX8_got_6 : decode cX8_got 6 = .ok (.getfield 134, 3) := by decide +kernel
theorem dX8_got_9 : decode cX8_got 9 = .ok (.ifCond .eq 27, 3) := by decide +kernel
theorem dX8_got_12 : decode cX8_got 12 = .ok (.iload_n 1, 1) := by decide +kernel
theorem dX8_got_13 : decode cX8_got 13 = .ok (.iconst 0, 1) := by decide +kernel
theorem dX8_got_14 : decode cX8_got 14 = .ok (.iconst 1, 1) := by decide +kernel
theorem dX8_got_15 : decode cX8_got 15 = .ok (.invokestatic 82, 3) := by decide +kernel
theorem dX8_got_18 : decode cX8_got 18 = .ok (.ifCond .eq 18, 3) := by decide +kernel
theorem dX8_got_21 : decode cX8_got 21 = .ok (.aload_n 0, 1) := by decide +kernel
theorem dX8_got_22 : decode cX8_got 22 = .ok (.getfield 22, 3) := by decide +kernel
theorem dX8_got_25 : decode cX8_got 25 = .ok (.bipush 16, 2) := by decide +kernel
theorem dX8_got_27 : decode cX8_got 27 = .ok (.iload_n 1, 1) := by decide +kernel
theorem dX8_got_28 : decode cX8_got 28 = .ok (.imul, 1) := by decide +kernel
theorem dX8_got_29 : decode cX8_got 29 = .ok (.bipush 14, 2) := by decide +kernel
theorem dX8_got_31 : decode cX8_got 31 = .ok (.iadd, 1) := by decide +kernel
theorem dX8_got_32 : decode cX8_got 32 = .ok (.iaload, 1) := by decide +kernel
theorem dX8_got_33 : decode cX8_got 33 = .ok (.ifCond .ge 6, 3) := by decide +kernel
theorem dX8_got_36 : decode cX8_got 36 = .ok (.bipush (-2), 2) := by decide +kernel
theorem dX8_got_38 : decode cX8_got 38 = .ok (.ireturn, 1) := by decide +kernel
theorem dX8_got_39 : decode cX8_got 39 = .ok (.iload_n 2, 1) := by decide +kernel
theorem dX8_got_40 : decode cX8_got 40 = .ok (.iconst (-1), 1) := by decide +kernel
theorem dX8_got_41 : decode cX8_got 41 = .ok (.if_icmp .ne 16, 3) := by decide +kernel
theorem dX8_got_44 : decode cX8_got 44 = .ok (.aload_n 0, 1) := by decide +kernel
theorem dX8_got_45 : decode cX8_got 45 = .ok (.getfield 22, 3) := by decide +kernel
theorem dX8_got_48 : decode cX8_got 48 = .ok (.bipush 16, 2) := by decide +kernel
theorem dX8_got_50 : decode cX8_got 50 = .ok (.iload_n 1, 1) := by decide +kernel
theorem dX8_got_51 : decode cX8_got 51 = .ok (.imul, 1) := by decide +kernel
theorem dX8_got_52 : decode cX8_got 52 = .ok (.bipush 14, 2) := by decide +kernel
theorem dX8_got_54 : decode cX8_got 54 = .ok (.iadd, 1) := by decide +kernel
theorem dX8_got_55 : decode cX8_got 55 = .ok (.iaload, 1) := by decide +kernel
theorem dX8_got_56 : decode cX8_got 56 = .ok (.ireturn, 1) := by decide +kernel
theorem dX8_got_57 : decode cX8_got 57 = .ok (.iload_n 2, 1) := by decide +kernel
theorem dX8_got_58 : decode cX8_got 58 = .ok (.iconst 0, 1) := by decide +kernel
theorem dX8_got_59 : decode cX8_got 59 = .ok (.aload_n 0, 1) := by decide +kernel
theorem dX8_got_60 : decode cX8_got 60 = .ok (.getfield 22, 3) := by decide +kernel
theorem dX8_got_63 : decode cX8_got 63 = .ok (.bipush 16, 2) := by decide +kernel
theorem dX8_got_65 : decode cX8_got 65 = .ok (.iload_n 1, 1) := by decide +kernel
theorem dX8_got_66 : decode cX8_got 66 = .ok (.imul, 1) := by decide +kernel
theorem dX8_got_67 : decode cX8_got 67 = .ok (.bipush 14, 2) := by decide +kernel
theorem dX8_got_69 : decode cX8_got 69 = .ok (.iadd, 1) := by decide +kernel
theorem dX8_got_70 : decode cX8_got 70 = .ok (.iaload, 1) := by decide +kernel
theorem dX8_got_71 : decode cX8_got 71 = .ok (.iconst 1, 1) := by decide +kernel
theorem dX8_got_72 : decode cX8_got 72 = .ok (.isub, 1) := by decide +kernel
theorem dX8_got_73 : decode cX8_got 73 = .ok (.invokestatic 82, 3) := by decide +kernel
theorem dX8_got_76 : decode cX8_got 76 = .ok (.ifCond .eq 21, 3) := by decide +kernel
theorem dX8_got_79 : decode cX8_got 79 = .ok (.aload_n 0, 1) := by decide +kernel
theorem dX8_got_80 : decode cX8_got 80 = .ok (.getfield 22, 3) := by decide +kernel
theorem dX8_got_83 : decode cX8_got 83 = .ok (.sipush 288, 3) := by decide +kernel
theorem dX8_got_86 : decode cX8_got 86 = .ok (.bipush 64, 2) := by decide +kernel
theorem dX8_got_88 : decode cX8_got 88 = .ok (.iload_n 1, 1) := by decide +kernel
theorem dX8_got_89 : decode cX8_got 89 = .ok (.imul, 1) := by decide +kernel
theorem dX8_got_90 : decode cX8_got 90 = .ok (.iadd, 1) := by decide +kernel
theorem dX8_got_91 : decode cX8_got 91 = .ok (.iload_n 2, 1) := by decide +kernel
theorem dX8_got_92 : decode cX8_got 92 = .ok (.iadd, 1) := by decide +kernel
theorem dX8_got_93 : decode cX8_got 93 = .ok (.iaload, 1) := by decide +kernel
theorem dX8_got_94 : decode cX8_got 94 = .ok (.goto 5, 3) := by decide +kernel
theorem dX8_got_97 : decode cX8_got 97 = .ok (.bipush (-2), 2) := by decide +kernel
theorem dX8_got_99 : decode cX8_got 99 = .ok (.ireturn, 1) := by decide +kernel
set_option maxRecDepth 100000 in
set_option maxHeartbeats 4000000 in
theorem c_X8_got_r {hp : List gA} {M : gMd} {y z : Int32} (HM : gMod hp M) (hg : ∀ n, n < 2 → M.a 4 (16 * n + 14) = -1 ∨ gIr (M.a 4 (16 * n + 14)) 60) : gM yX8_got cX8_got 3 ((some .int)) 1 22 [.ref 122, .int y, .int z] (hp) (0) (0) (fun v h => ∃ x, v = some (.int x) ∧ gMod h (M.set 2 0) ∧ gFM hp h) := by
  refine gM_of (ls0 := [some (.ref 122), some (.int y), some (.int z)]) (by decide +kernel) (Nat.le_of_ble_eq_true rfl) rfl fun X C E => ?_
  refine g_aload_n (q := 1) C dX8_got_0 rfl rfl ?_
  refine g_iconst (v := 0) (q := 2) C dX8_got_1 (by decide) rfl ?_
  refine g_putfield (q := 5) C fX8_66 dX8_got_2 rfl HM.1 (Nat.le_of_ble_eq_true rfl) (Or.inl rfl) rfl rfl (by intro z h; cases h) ?_
  refine gMput (j := 2) (x := 0) HM rfl fun h1 HL1 fr1 => ?_
  refine g_aload_n (q := 6) C dX8_got_5 rfl rfl ?_
  refine g_getfield (v := .int ((M.f 3))) (q := 9) C fX8_134 dX8_got_6 rfl HL1.1 rfl ?_
  refine g_if_eq (t := 36) (q := 12) C dX8_got_9 (by decide) rfl (fun c_9 => ?_) (fun c_9 => ?_)
  ·
    refine g_bipush (v := (-2)) (q := 38) C dX8_got_36 (by decide) rfl ?_
    exact E.1 _ _ _ _ _ _ _ dX8_got_38 rfl rfl (Nat.le_of_ble_eq_true rfl) (Nat.le_of_ble_eq_true rfl) ⟨_, rfl, HL1, fr1⟩
  ·
    refine g_iload_n (q := 13) C dX8_got_12 rfl rfl ?_
    refine g_iconst (v := 0) (q := 14) C dX8_got_13 (by decide) rfl ?_
    refine g_iconst (v := 1) (q := 15) C dX8_got_14 (by decide) rfl ?_
    refine g_callSi (x := (rX8_within y 0 1)) (q := 18) (As := [.int y, .int 0, .int 1]) C gyX8_within t_1212 t_1211 (c_X8_within_m) dX8_got_15 rfl rfl rfl (Nat.le_of_ble_eq_true rfl) (Nat.le_of_ble_eq_true rfl) (Nat.le_of_ble_eq_true rfl) (Nat.le_of_ble_eq_true rfl) (Nat.le_of_ble_eq_true rfl) rfl ?_
    refine g_if_eq (t := 36) (q := 21) C dX8_got_18 (by decide) rfl (fun c_18 => ?_) (fun c_18 => ?_)
    ·
      refine g_bipush (v := (-2)) (q := 38) C dX8_got_36 (by decide) rfl ?_
      exact E.1 _ _ _ _ _ _ _ dX8_got_38 rfl rfl (Nat.le_of_ble_eq_true rfl) (Nat.le_of_ble_eq_true rfl) ⟨_, rfl, HL1, fr1⟩
    ·
      refine g_aload_n (q := 22) C dX8_got_21 rfl rfl ?_
      refine g_getfield (v := .ref 127) (q := 25) C fX8_22 dX8_got_22 rfl HL1.1 rfl ?_
      refine g_bipush (v := 16) (q := 27) C dX8_got_25 (by decide) rfl ?_
      refine g_iload_n (q := 28) C dX8_got_27 rfl rfl ?_
      refine g_imul (q := 29) C dX8_got_28 rfl ?_
      refine g_bipush (v := 14) (q := 31) C dX8_got_29 (by decide) rfl ?_
      refine g_iadd (q := 32) C dX8_got_31 rfl ?_
      obtain ⟨n, -, hn, ey⟩ := gWi (a := 0) (b := 1) (by decide) (by decide) c_18
      have e16 : (16 : Int32) * y + 14 = nI (16 * n + 14) := by rw [ey, show (16 : Int32) = nI 16 from rfl, nI_mulS (by omega) (by decide) (by omega), show (14 : Int32) = nI 14 from rfl, nI_add]
      refine g_ialoadN (x := (M.a 4 (16 * n + 14))) (j := (16 * n + 14)) (q := 33) C dX8_got_32 rfl (HL1.ar (i := 4) (n := 772) (by decide) rfl) (pk_in (16 * n + 14) 772 (by omega) e16) (pk_cl (16 * n + 14) e16 (by omega)) gset_a ?_
      refine g_if_ge (t := 39) (q := 36) C dX8_got_33 (by decide) rfl (fun c_33 => ?_) (fun c_33 => ?_)
      ·
        refine g_iload_n (q := 40) C dX8_got_39 rfl rfl ?_
        refine g_iconst (v := (-1)) (q := 41) C dX8_got_40 (by decide) rfl ?_
        refine g_icmp_ne (t := 57) (q := 44) C dX8_got_41 (by decide) rfl (fun c_41 => ?_) (fun c_41 => ?_)
        ·
          refine g_iload_n (q := 58) C dX8_got_57 rfl rfl ?_
          refine g_iconst (v := 0) (q := 59) C dX8_got_58 (by decide) rfl ?_
          refine g_aload_n (q := 60) C dX8_got_59 rfl rfl ?_
          refine g_getfield (v := .ref 127) (q := 63) C fX8_22 dX8_got_60 rfl HL1.1 rfl ?_
          refine g_bipush (v := 16) (q := 65) C dX8_got_63 (by decide) rfl ?_
          refine g_iload_n (q := 66) C dX8_got_65 rfl rfl ?_
          refine g_imul (q := 67) C dX8_got_66 rfl ?_
          refine g_bipush (v := 14) (q := 69) C dX8_got_67 (by decide) rfl ?_
          refine g_iadd (q := 70) C dX8_got_69 rfl ?_
          refine g_ialoadN (x := (M.a 4 (16 * n + 14))) (j := (16 * n + 14)) (q := 71) C dX8_got_70 rfl (HL1.ar (i := 4) (n := 772) (by decide) rfl) (pk_in (16 * n + 14) 772 (by omega) e16) (pk_cl (16 * n + 14) e16 (by omega)) gset_a ?_
          refine g_iconst (v := 1) (q := 72) C dX8_got_71 (by decide) rfl ?_
          refine g_isub (q := 73) C dX8_got_72 rfl ?_
          refine g_callSi (x := (rX8_within z 0 ((M.a 4 (16 * n + 14)) - 1))) (q := 76) (As := [.int z, .int 0, .int (((M.a 4 (16 * n + 14)) - 1))]) C gyX8_within t_1212 t_1211 (c_X8_within_m) dX8_got_73 rfl rfl rfl (Nat.le_of_ble_eq_true rfl) (Nat.le_of_ble_eq_true rfl) (Nat.le_of_ble_eq_true rfl) (Nat.le_of_ble_eq_true rfl) (Nat.le_of_ble_eq_true rfl) rfl ?_
          refine g_if_eq (t := 97) (q := 79) C dX8_got_76 (by decide) rfl (fun c_76 => ?_) (fun c_76 => ?_)
          ·
            refine g_bipush (v := (-2)) (q := 99) C dX8_got_97 (by decide) rfl ?_
            exact E.1 _ _ _ _ _ _ _ dX8_got_99 rfl rfl (Nat.le_of_ble_eq_true rfl) (Nat.le_of_ble_eq_true rfl) ⟨_, rfl, HL1, fr1⟩
          ·
            refine g_aload_n (q := 80) C dX8_got_79 rfl rfl ?_
            refine g_getfield (v := .ref 127) (q := 83) C fX8_22 dX8_got_80 rfl HL1.1 rfl ?_
            refine g_sipush (v := 288) (q := 86) C dX8_got_83 (by decide) rfl ?_
            refine g_bipush (v := 64) (q := 88) C dX8_got_86 (by decide) rfl ?_
            refine g_iload_n (q := 89) C dX8_got_88 rfl rfl ?_
            refine g_imul (q := 90) C dX8_got_89 rfl ?_
            refine g_iadd (q := 91) C dX8_got_90 rfl ?_
            refine g_iload_n (q := 92) C dX8_got_91 rfl rfl ?_
            refine g_iadd (q := 93) C dX8_got_92 rfl ?_
            obtain ⟨g9, hg9, eg9⟩ : gIr (M.a 4 (16 * n + 14)) 60 := by
              rcases hg n (by omega) with e | e
              · rw [e] at c_33; exact absurd c_33 (by decide)
              · exact e
            obtain ⟨m, hm, em⟩ := gWj (by omega) eg9 c_76
            have e93 : (288 : Int32) + 64 * y + z = nI (288 + 64 * n + m) := by rw [ey, em, show (64 : Int32) = nI 64 from rfl, nI_mulS (by omega) (by decide) (by omega), show (288 : Int32) = nI 288 from rfl, nI_add, nI_add]
            refine g_ialoadN (x := (M.a 4 (288 + 64 * n + m))) (j := (288 + 64 * n + m)) (q := 94) C dX8_got_93 rfl (HL1.ar (i := 4) (n := 772) (by decide) rfl) (pk_in (288 + 64 * n + m) 772 (by omega) e93) (pk_cl (288 + 64 * n + m) e93 (by omega)) gset_a ?_
            refine g_goto (q := 99) C dX8_got_94 (by decide) ?_
            exact E.1 _ _ _ _ _ _ _ dX8_got_99 rfl rfl (Nat.le_of_ble_eq_true rfl) (Nat.le_of_ble_eq_true rfl) ⟨_, rfl, HL1, fr1⟩
        ·
          refine g_aload_n (q := 45) C dX8_got_44 rfl rfl ?_
          refine g_getfield (v := .ref 127) (q := 48) C fX8_22 dX8_got_45 rfl HL1.1 rfl ?_
          refine g_bipush (v := 16) (q := 50) C dX8_got_48 (by decide) rfl ?_
          refine g_iload_n (q := 51) C dX8_got_50 rfl rfl ?_
          refine g_imul (q := 52) C dX8_got_51 rfl ?_
          refine g_bipush (v := 14) (q := 54) C dX8_got_52 (by decide) rfl ?_
          refine g_iadd (q := 55) C dX8_got_54 rfl ?_
          refine g_ialoadN (x := (M.a 4 (16 * n + 14))) (j := (16 * n + 14)) (q := 56) C dX8_got_55 rfl (HL1.ar (i := 4) (n := 772) (by decide) rfl) (pk_in (16 * n + 14) 772 (by omega) e16) (pk_cl (16 * n + 14) e16 (by omega)) gset_a ?_
          exact E.1 _ _ _ _ _ _ _ dX8_got_56 rfl rfl (Nat.le_of_ble_eq_true rfl) (Nat.le_of_ble_eq_true rfl) ⟨_, rfl, HL1, fr1⟩
      ·
        refine g_bipush (v := (-2)) (q := 38) C dX8_got_36 (by decide) rfl ?_
        exact E.1 _ _ _ _ _ _ _ dX8_got_38 rfl rfl (Nat.le_of_ble_eq_true rfl) (Nat.le_of_ble_eq_true rfl) ⟨_, rfl, HL1, fr1⟩
def rX8_logPlace (M : gMd) (y : Int32) : Int32 := ((((M.f 13) - y) + 30) - (((M.f 13) - y) + 30) / 30 * 30)
theorem dX8_logPlace_0 : decode cX8_logPlace 0 = .ok (.aload_n 0, 1) := by decide +kernel
theorem dX8_logPlace_1 : decode cX8_logPlace 1 = .ok (.getfield 192, 3) := by decide +kernel
theorem dX8_logPlace_4 : decode cX8_logPlace 4 = .ok (.iload_n 1, 1) := by decide +kernel
theorem dX8_logPlace_5 : decode cX8_logPlace 5 = .ok (.isub, 1) := by decide +kernel
theorem dX8_logPlace_6 : decode cX8_logPlace 6 = .ok (.bipush 30, 2) := by decide +kernel
theorem dX8_logPlace_8 : decode cX8_logPlace 8 = .ok (.iadd, 1) := by decide +kernel
theorem dX8_logPlace_9 : decode cX8_logPlace 9 = .ok (.bipush 30, 2) := by decide +kernel
theorem dX8_logPlace_11 : decode cX8_logPlace 11 = .ok (.irem, 1) := by decide +kernel
theorem dX8_logPlace_12 : decode cX8_logPlace 12 = .ok (.ireturn, 1) := by decide +kernel
set_option maxRecDepth 100000 in
set_option maxHeartbeats 4000000 in
theorem c_X8_logPlace_m {hp : List gA} {M : gMd} {y : Int32}  (HM : gMod hp M)  : gM yX8_logPlace cX8_logPlace 2 ((some .int)) 0 0 [.ref 122, .int y] (hp) (0) (0) (fun v h => v = some (.int (rX8_logPlace M y)) ∧ h = hp) := by
  refine gM_of (ls0 := [some (.ref 122), some (.int y)]) (by decide +kernel) (Nat.le_of_ble_eq_true rfl) rfl fun X C E => ?_
  refine g_aload_n (q := 1) C dX8_logPlace_0 rfl rfl ?_
  refine g_getfield (v := .int ((M.f 13))) (q := 4) C fX8_192 dX8_logPlace_1 rfl HM.1 rfl ?_
  refine g_iload_n (q := 5) C dX8_logPlace_4 rfl rfl ?_
  refine g_isub (q := 6) C dX8_logPlace_5 rfl ?_
  refine g_bipush (v := 30) (q := 8) C dX8_logPlace_6 (by decide) rfl ?_
  refine g_iadd (q := 9) C dX8_logPlace_8 rfl ?_
  refine g_bipush (v := 30) (q := 11) C dX8_logPlace_9 (by decide) rfl ?_
  refine g_irem (q := 12) C dX8_logPlace_11 (by decide) rfl ?_
  have e : rX8_logPlace M y = (((((M.f 13) - y) + 30) - (((M.f 13) - y) + 30) / 30 * 30)) := rfl
  exact E.1 _ _ _ _ _ _ _ dX8_logPlace_12 rfl rfl (Nat.le_of_ble_eq_true rfl) (Nat.le_of_ble_eq_true rfl) ⟨by rw [e], rfl⟩
theorem dX8_count_0 : decode cX8_count 0 = .ok (.aload_n 0, 1) := by decide +kernel
theorem dX8_count_1 : decode cX8_count 1 = .ok (.iconst 0, 1) := by decide +kernel
theorem dX8_count_2 : decode cX8_count 2 = .ok (.putfield 66, 3) := by decide +kernel
theorem dX8_count_5 : decode cX8_count 5 = .ok (.iload_n 1, 1) := by decide +kernel
theorem dX8_count_6 : decode cX8_count 6 = .ok (.tableswitch 137 0 10 #[58, 67, 76, 81, 90, 95, 100, 105, 114, 123, 132], 58) := by decide +kernel
theorem dX8_count_64 : decode cX8_count 64 = .ok (.aload_n 0, 1) := by decide +kernel
theorem dX8_count_65 : decode cX8_count 65 = .ok (.getfield 22, 3) := by decide +kernel
theorem dX8_count_68 : decode cX8_count 68 = .ok (.sipush 423, 3) := by decide +kernel
theorem dX8_count_71 : decode cX8_count 71 = .ok (.iaload, 1) := by decide +kernel
theorem dX8_count_72 : decode cX8_count 72 = .ok (.ireturn, 1) := by decide +kernel
theorem dX8_count_73 : decode cX8_count 73 = .ok (.aload_n 0, 1) := by decide +kernel
theorem dX8_count_74 : decode cX8_count 74 = .ok (.getfield 22, 3) := by decide +kernel
theorem dX8_count_77 : decode cX8_count 77 = .ok (.sipush 424, 3) := by decide +kernel
theorem dX8_count_80 : decode cX8_count 80 = .ok (.iaload, 1) := by decide +kernel
theorem dX8_count_81 : decode cX8_count 81 = .ok (.ireturn, 1) := by decide +kernel
theorem dX8_count_82 : decode cX8_count 82 = .ok (.aload_n 0, 1) := by decide +kernel
theorem dX8_count_83 : decode cX8_count 83 = .ok (.invokevirtual 324, 3) := by decide +kernel
theorem dX8_count_86 : decode cX8_count 86 = .ok (.ireturn, 1) := by decide +kernel
theorem dX8_count_87 : decode cX8_count 87 = .ok (.aload_n 0, 1) := by decide +kernel
theorem dX8_count_88 : decode cX8_count 88 = .ok (.getfield 22, 3) := by decide +kernel
theorem dX8_count_91 : decode cX8_count 91 = .ok (.sipush 422, 3) := by decide +kernel
theorem dX8_count_94 : decode cX8_count 94 = .ok (.iaload, 1) := by decide +kernel
theorem dX8_count_95 : decode cX8_count 95 = .ok (.ireturn, 1) := by decide +kernel
theorem dX8_count_96 : decode cX8_count 96 = .ok (.aload_n 0, 1) := by decide +kernel
theorem dX8_count_97 : decode cX8_count 97 = .ok (.getfield 72, 3) := by decide +kernel
theorem dX8_count_100 : decode cX8_count 100 = .ok (.ireturn, 1) := by decide +kernel
theorem dX8_count_101 : decode cX8_count 101 = .ok (.aload_n 0, 1) := by decide +kernel
theorem dX8_count_102 : decode cX8_count 102 = .ok (.getfield 69, 3) := by decide +kernel
theorem dX8_count_105 : decode cX8_count 105 = .ok (.ireturn, 1) := by decide +kernel
theorem dX8_count_106 : decode cX8_count 106 = .ok (.aload_n 0, 1) := by decide +kernel
theorem dX8_count_107 : decode cX8_count 107 = .ok (.getfield 28, 3) := by decide +kernel
theorem dX8_count_110 : decode cX8_count 110 = .ok (.ireturn, 1) := by decide +kernel
theorem dX8_count_111 : decode cX8_count 111 = .ok (.aload_n 0, 1) := by decide +kernel
theorem dX8_count_112 : decode cX8_count 112 = .ok (.getfield 22, 3) := by decide +kernel
theorem dX8_count_115 : decode cX8_count 115 = .ok (.sipush 425, 3) := by decide +kernel
theorem dX8_count_118 : decode cX8_count 118 = .ok (.iaload, 1) := by decide +kernel
theorem dX8_count_119 : decode cX8_count 119 = .ok (.ireturn, 1) := by decide +kernel
theorem dX8_count_120 : decode cX8_count 120 = .ok (.aload_n 0, 1) := by decide +kernel
theorem dX8_count_121 : decode cX8_count 121 = .ok (.getfield 22, 3) := by decide +kernel
theorem dX8_count_124 : decode cX8_count 124 = .ok (.sipush 426, 3) := by decide +kernel
theorem dX8_count_127 : decode cX8_count 127 = .ok (.iaload, 1) := by decide +kernel
theorem dX8_count_128 : decode cX8_count 128 = .ok (.ireturn, 1) := by decide +kernel
theorem dX8_count_129 : decode cX8_count 129 = .ok (.aload_n 0, 1) := by decide +kernel
theorem dX8_count_130 : decode cX8_count 130 = .ok (.getfield 22, 3) := by decide +kernel
theorem dX8_count_133 : decode cX8_count 133 = .ok (.sipush 427, 3) := by decide +kernel
theorem dX8_count_136 : decode cX8_count 136 = .ok (.iaload, 1) := by decide +kernel
theorem dX8_count_137 : decode cX8_count 137 = .ok (.ireturn, 1) := by decide +kernel
theorem dX8_count_138 : decode cX8_count 138 = .ok (.aload_n 0, 1) := by decide +kernel
theorem dX8_count_139 : decode cX8_count 139 = .ok (.getfield 75, 3) := by decide +kernel
theorem dX8_count_142 : decode cX8_count 142 = .ok (.ireturn, 1) := by decide +kernel
theorem dX8_count_143 : decode cX8_count 143 = .ok (.iconst (-1), 1) := by decide +kernel
theorem dX8_count_144 : decode cX8_count 144 = .ok (.ireturn, 1) := by decide +kernel
set_option maxRecDepth 100000 in
set_option maxHeartbeats 4000000 in
theorem c_X8_count_r {hp : List gA} {M : gMd} {y : Int32} (HM : gMod hp M) (hf : gIr (M.a 4 430) 25) : gM yX8_count cX8_count 2 ((some .int)) 1 22 [.ref 122, .int y] (hp) (0) (0) (fun v h => ∃ x, v = some (.int x) ∧ gMod h (M.set 2 0) ∧ gFM hp h) := by
  refine gM_of (ls0 := [some (.ref 122), some (.int y)]) (by decide +kernel) (Nat.le_of_ble_eq_true rfl) rfl fun X C E => ?_
  refine g_aload_n (q := 1) C dX8_count_0 rfl rfl ?_
  refine g_iconst (v := 0) (q := 2) C dX8_count_1 (by decide) rfl ?_
  refine g_putfield (q := 5) C fX8_66 dX8_count_2 rfl HM.1 (Nat.le_of_ble_eq_true rfl) (Or.inl rfl) rfl rfl (by intro z h; cases h) ?_
  refine gMput (j := 2) (x := 0) HM rfl fun h1 HL1 fr1 => ?_
  refine g_iload_n (q := 6) C dX8_count_5 rfl rfl ?_
  by_cases c_6_0 : y = 0
  ·
    refine g_tableE (v := 0) (off := 58) (t := 64) C dX8_count_6 c_6_0 (by decide) (by decide) (by decide) (by decide) ?_
    refine g_aload_n (q := 65) C dX8_count_64 rfl rfl ?_
    refine g_getfield (v := .ref 127) (q := 68) C fX8_22 dX8_count_65 rfl HL1.1 rfl ?_
    refine g_sipush (v := 423) (q := 71) C dX8_count_68 (by decide) rfl ?_
    refine g_ialoadN (x := (M.a 4 423)) (j := 423) (q := 72) C dX8_count_71 rfl (HL1.ar (i := 4) (n := 772) (by decide) rfl) (pk_in 423 772 (by decide)) (pk_cl 423) gset_a ?_
    exact E.1 _ _ _ _ _ _ _ dX8_count_72 rfl rfl (Nat.le_of_ble_eq_true rfl) (Nat.le_of_ble_eq_true rfl) ⟨_, rfl, HL1, fr1⟩
  by_cases c_6_1 : y = 1
  ·
    refine g_tableE (v := 1) (off := 67) (t := 73) C dX8_count_6 c_6_1 (by decide) (by decide) (by decide) (by decide) ?_
    refine g_aload_n (q := 74) C dX8_count_73 rfl rfl ?_
    refine g_getfield (v := .ref 127) (q := 77) C fX8_22 dX8_count_74 rfl HL1.1 rfl ?_
    refine g_sipush (v := 424) (q := 80) C dX8_count_77 (by decide) rfl ?_
    refine g_ialoadN (x := (M.a 4 424)) (j := 424) (q := 81) C dX8_count_80 rfl (HL1.ar (i := 4) (n := 772) (by decide) rfl) (pk_in 424 772 (by decide)) (pk_cl 424) gset_a ?_
    exact E.1 _ _ _ _ _ _ _ dX8_count_81 rfl rfl (Nat.le_of_ble_eq_true rfl) (Nat.le_of_ble_eq_true rfl) ⟨_, rfl, HL1, fr1⟩
  by_cases c_6_2 : y = 2
  ·
    refine g_tableE (v := 2) (off := 76) (t := 82) C dX8_count_6 c_6_2 (by decide) (by decide) (by decide) (by decide) ?_
    refine g_aload_n (q := 83) C dX8_count_82 rfl rfl ?_
    refine g_callVip (q := 86) (As := []) C gyX8_faultsToCome gvX8_faultsToCome t_1506 (c_X8_faultsToCome_r HL1 hf) dX8_count_83 rfl HL1.1 rfl rfl rfl (Nat.le_of_ble_eq_true rfl) (Nat.le_of_ble_eq_true rfl) (Nat.le_of_ble_eq_true rfl) (Nat.le_of_ble_eq_true rfl) (Nat.le_of_ble_eq_true rfl) rfl (fun x2 h2 z2 => ?_)
    subst z2
    exact E.1 _ _ _ _ _ _ _ dX8_count_86 rfl rfl (Nat.le_of_ble_eq_true rfl) (Nat.le_of_ble_eq_true rfl) ⟨_, rfl, HL1, fr1⟩
  by_cases c_6_3 : y = 3
  ·
    refine g_tableE (v := 3) (off := 81) (t := 87) C dX8_count_6 c_6_3 (by decide) (by decide) (by decide) (by decide) ?_
    refine g_aload_n (q := 88) C dX8_count_87 rfl rfl ?_
    refine g_getfield (v := .ref 127) (q := 91) C fX8_22 dX8_count_88 rfl HL1.1 rfl ?_
    refine g_sipush (v := 422) (q := 94) C dX8_count_91 (by decide) rfl ?_
    refine g_ialoadN (x := (M.a 4 422)) (j := 422) (q := 95) C dX8_count_94 rfl (HL1.ar (i := 4) (n := 772) (by decide) rfl) (pk_in 422 772 (by decide)) (pk_cl 422) gset_a ?_
    exact E.1 _ _ _ _ _ _ _ dX8_count_95 rfl rfl (Nat.le_of_ble_eq_true rfl) (Nat.le_of_ble_eq_true rfl) ⟨_, rfl, HL1, fr1⟩
  by_cases c_6_4 : y = 4
  ·
    refine g_tableE (v := 4) (off := 90) (t := 96) C dX8_count_6 c_6_4 (by decide) (by decide) (by decide) (by decide) ?_
    refine g_aload_n (q := 97) C dX8_count_96 rfl rfl ?_
    refine g_getfield (v := .int ((M.f 18))) (q := 100) C fX8_72 dX8_count_97 rfl HL1.1 rfl ?_
    exact E.1 _ _ _ _ _ _ _ dX8_count_100 rfl rfl (Nat.le_of_ble_eq_true rfl) (Nat.le_of_ble_eq_true rfl) ⟨_, rfl, HL1, fr1⟩
  by_cases c_6_5 : y = 5
  ·
    refine g_tableE (v := 5) (off := 95) (t := 101) C dX8_count_6 c_6_5 (by decide) (by decide) (by decide) (by decide) ?_
    refine g_aload_n (q := 102) C dX8_count_101 rfl rfl ?_
    refine g_getfield (v := .int ((M.f 12))) (q := 105) C fX8_69 dX8_count_102 rfl HL1.1 rfl ?_
    exact E.1 _ _ _ _ _ _ _ dX8_count_105 rfl rfl (Nat.le_of_ble_eq_true rfl) (Nat.le_of_ble_eq_true rfl) ⟨_, rfl, HL1, fr1⟩
  by_cases c_6_6 : y = 6
  ·
    refine g_tableE (v := 6) (off := 100) (t := 106) C dX8_count_6 c_6_6 (by decide) (by decide) (by decide) (by decide) ?_
    refine g_aload_n (q := 107) C dX8_count_106 rfl rfl ?_
    refine g_getfield (v := .int ((M.f 9))) (q := 110) C fX8_28 dX8_count_107 rfl HL1.1 rfl ?_
    exact E.1 _ _ _ _ _ _ _ dX8_count_110 rfl rfl (Nat.le_of_ble_eq_true rfl) (Nat.le_of_ble_eq_true rfl) ⟨_, rfl, HL1, fr1⟩
  by_cases c_6_7 : y = 7
  ·
    refine g_tableE (v := 7) (off := 105) (t := 111) C dX8_count_6 c_6_7 (by decide) (by decide) (by decide) (by decide) ?_
    refine g_aload_n (q := 112) C dX8_count_111 rfl rfl ?_
    refine g_getfield (v := .ref 127) (q := 115) C fX8_22 dX8_count_112 rfl HL1.1 rfl ?_
    refine g_sipush (v := 425) (q := 118) C dX8_count_115 (by decide) rfl ?_
    refine g_ialoadN (x := (M.a 4 425)) (j := 425) (q := 119) C dX8_count_118 rfl (HL1.ar (i := 4) (n := 772) (by decide) rfl) (pk_in 425 772 (by decide)) (pk_cl 425) gset_a ?_
    exact E.1 _ _ _ _ _ _ _ dX8_count_119 rfl rfl (Nat.le_of_ble_eq_true rfl) (Nat.le_of_ble_eq_true rfl) ⟨_, rfl, HL1, fr1⟩
  by_cases c_6_8 : y = 8
  ·
    refine g_tableE (v := 8) (off := 114) (t := 120) C dX8_count_6 c_6_8 (by decide) (by decide) (by decide) (by decide) ?_
    refine g_aload_n (q := 121) C dX8_count_120 rfl rfl ?_
    refine g_getfield (v := .ref 127) (q := 124) C fX8_22 dX8_count_121 rfl HL1.1 rfl ?_
    refine g_sipush (v := 426) (q := 127) C dX8_count_124 (by decide) rfl ?_
    refine g_ialoadN (x := (M.a 4 426)) (j := 426) (q := 128) C dX8_count_127 rfl (HL1.ar (i := 4) (n := 772) (by decide) rfl) (pk_in 426 772 (by decide)) (pk_cl 426) gset_a ?_
    exact E.1 _ _ _ _ _ _ _ dX8_count_128 rfl rfl (Nat.le_of_ble_eq_true rfl) (Nat.le_of_ble_eq_true rfl) ⟨_, rfl, HL1, fr1⟩
  by_cases c_6_9 : y = 9
  ·
    refine g_tableE (v := 9) (off := 123) (t := 129) C dX8_count_6 c_6_9 (by decide) (by decide) (by decide) (by decide) ?_
    refine g_aload_n (q := 130) C dX8_count_129 rfl rfl ?_
    refine g_getfield (v := .ref 127) (q := 133) C fX8_22 dX8_count_130 rfl HL1.1 rfl ?_
    refine g_sipush (v := 427) (q := 136) C dX8_count_133 (by decide) rfl ?_
    refine g_ialoadN (x := (M.a 4 427)) (j := 427) (q := 137) C dX8_count_136 rfl (HL1.ar (i := 4) (n := 772) (by decide) rfl) (pk_in 427 772 (by decide)) (pk_cl 427) gset_a ?_
    exact E.1 _ _ _ _ _ _ _ dX8_count_137 rfl rfl (Nat.le_of_ble_eq_true rfl) (Nat.le_of_ble_eq_true rfl) ⟨_, rfl, HL1, fr1⟩
  by_cases c_6_10 : y = 10
  ·
    refine g_tableE (v := 10) (off := 132) (t := 138) C dX8_count_6 c_6_10 (by decide) (by decide) (by decide) (by decide) ?_
    refine g_aload_n (q := 139) C dX8_count_138 rfl rfl ?_
    refine g_getfield (v := .int ((M.f 1))) (q := 142) C fX8_75 dX8_count_139 rfl HL1.1 rfl ?_
    exact E.1 _ _ _ _ _ _ _ dX8_count_142 rfl rfl (Nat.le_of_ble_eq_true rfl) (Nat.le_of_ble_eq_true rfl) ⟨_, rfl, HL1, fr1⟩
  refine g_tableOut (t := 143) C dX8_count_6 (gOut11 c_6_0 c_6_1 c_6_2 c_6_3 c_6_4 c_6_5 c_6_6 c_6_7 c_6_8 c_6_9 c_6_10) (by decide) ?_
  refine g_iconst (v := (-1)) (q := 144) C dX8_count_143 (by decide) rfl ?_
  exact E.1 _ _ _ _ _ _ _ dX8_count_144 rfl rfl (Nat.le_of_ble_eq_true rfl) (Nat.le_of_ble_eq_true rfl) ⟨_, rfl, HL1, fr1⟩
