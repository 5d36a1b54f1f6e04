/-! the reference: runs of turns (by program: wip/p2/m_mu.py) -/
theorem gWi {x : Int32} {a b : Nat} (ha : a < 2 ^ 31) (hb : b < 2 ^ 31) (h : ¬ rX8_within x (nI a) (nI b) = 0) : ∃ n, a ≤ n ∧ n ≤ b ∧ x = nI n := by
  unfold rX8_within at h
  by_cases c1 : x < nI a
  · rw [if_pos c1] at h; exact absurd rfl h
  · rw [if_neg c1] at h
    by_cases c2 : nI b < x
    · rw [if_pos c2] at h; exact absurd rfl h
    · rw [Int32.lt_iff_toInt_lt, nI_toInt ha] at c1
      rw [Int32.lt_iff_toInt_lt, nI_toInt hb] at c2
      refine ⟨x.toInt.toNat, by omega, by omega, ?_⟩
      apply Int32.toInt_inj.mp
      rw [nI_toInt (by omega)]; omega
theorem dX8_step_0 : decode cX8_step 0 = .ok (.aload_n 0, 1) := by decide +kernel
theorem dX8_step_1 : decode cX8_step 1 = .ok (.iconst 0, 1) := by decide +kernel
theorem dX8_step_2 : decode cX8_step 2 = .ok (.putfield 66, 3) := by decide +kernel
theorem dX8_step_5 : decode cX8_step 5 = .ok (.aload_n 0, 1) := by decide +kernel
theorem dX8_step_6 : decode cX8_step 6 = .ok (.getfield 134, 3) := by decide +kernel
theorem dX8_step_9 : decode cX8_step 9 = .ok (.ifCond .eq 25, 3) := by decide +kernel
theorem dX8_step_12 : decode cX8_step 12 = .ok (.iload_n 1, 1) := by decide +kernel
theorem dX8_step_13 : decode cX8_step 13 = .ok (.iconst 1, 1) := by decide +kernel
theorem dX8_step_14 : decode cX8_step 14 = .ok (.bipush 60, 2) := by decide +kernel
theorem dX8_step_16 : decode cX8_step 16 = .ok (.invokestatic 82, 3) := by decide +kernel
theorem dX8_step_19 : decode cX8_step 19 = .ok (.ifCond .eq 15, 3) := by decide +kernel
theorem dX8_step_22 : decode cX8_step 22 = .ok (.aload_n 0, 1) := by decide +kernel
theorem dX8_step_23 : decode cX8_step 23 = .ok (.getfield 22, 3) := by decide +kernel
theorem dX8_step_26 : decode cX8_step 26 = .ok (.sipush 419, 3) := by decide +kernel
theorem dX8_step_29 : decode cX8_step 29 = .ok (.iaload, 1) := by decide +kernel
theorem dX8_step_30 : decode cX8_step 30 = .ok (.iconst 1, 1) := by decide +kernel
theorem dX8_step_31 : decode cX8_step 31 = .ok (.if_icmp .eq 5, 3) := by decide +kernel
theorem dX8_step_34 : decode cX8_step 34 = .ok (.iconst (-1), 1) := by decide +kernel
theorem dX8_step_35 : decode cX8_step 35 = .ok (.ireturn, 1) := by decide +kernel
theorem dX8_step_36 : decode cX8_step 36 = .ok (.iconst 0, 1) := by decide +kernel
theorem dX8_step_37 : decode cX8_step 37 = .ok (.istore_n 2, 1) := by decide +kernel
theorem dX8_step_38 : decode cX8_step 38 = .ok (.iconst 0, 1) := by decide +kernel
theorem dX8_step_39 : decode cX8_step 39 = .ok (.istore_n 3, 1) := by decide +kernel
theorem dX8_step_40 : decode cX8_step 40 = .ok (.iload_n 3, 1) := by decide +kernel
theorem dX8_step_41 : decode cX8_step 41 = .ok (.iload_n 1, 1) := by decide +kernel
theorem dX8_step_42 : decode cX8_step 42 = .ok (.if_icmp .ge 28, 3) := by decide +kernel
theorem dX8_step_45 : decode cX8_step 45 = .ok (.aload_n 0, 1) := by decide +kernel
theorem dX8_step_46 : decode cX8_step 46 = .ok (.getfield 22, 3) := by decide +kernel
theorem dX8_step_49 : decode cX8_step 49 = .ok (.sipush 419, 3) := by decide +kernel
theorem dX8_step_52 : decode cX8_step 52 = .ok (.iaload, 1) := by decide +kernel
theorem dX8_step_53 : decode cX8_step 53 = .ok (.iconst 1, 1) := by decide +kernel
theorem dX8_step_54 : decode cX8_step 54 = .ok (.if_icmp .ne 16, 3) := by decide +kernel
theorem dX8_step_57 : decode cX8_step 57 = .ok (.iload_n 2, 1) := by decide +kernel
theorem dX8_step_58 : decode cX8_step 58 = .ok (.aload_n 0, 1) := by decide +kernel
theorem dX8_step_59 : decode cX8_step 59 = .ok (.invokevirtual 297, 3) := by decide +kernel
theorem dX8_step_62 : decode cX8_step 62 = .ok (.iadd, 1) := by decide +kernel
theorem dX8_step_63 : decode cX8_step 63 = .ok (.istore_n 2, 1) := by decide +kernel
theorem dX8_step_64 : decode cX8_step 64 = .ok (.iinc 3 1, 3) := by decide +kernel
theorem dX8_step_67 : decode cX8_step 67 = .ok (.goto (-27), 3) := by decide +kernel
theorem dX8_step_70 : decode cX8_step 70 = .ok (.aload_n 0, 1) := by decide +kernel
theorem dX8_step_71 : decode cX8_step 71 = .ok (.invokevirtual 147, 3) := by decide +kernel
theorem dX8_step_74 : decode cX8_step 74 = .ok (.iload_n 2, 1) := by decide +kernel
theorem dX8_step_75 : decode cX8_step 75 = .ok (.ireturn, 1) := by decide +kernel
set_option maxRecDepth 100000 in
set_option maxHeartbeats 4000000 in
theorem c_X8_step_r {hp : List gA} {M : gMd} {y : Int32} {J : Nat → gMd → Nat → List (Int32 × List Int32) → Prop} (HM : gMod hp M) (h0 : ¬ M.f 3 = 0 → M.a 4 419 = 1 → ∃ l D, J 0 (M.set 2 0) l D) (hJ : ∀ k M1 l D, k < 60 → J k M1 l D → M1.a 4 419 = 1 → oTn M1 l D ∧ ∀ M' D' x, gTn M1 l D M' D' x → ∃ l', J (k + 1) M' l' D') (hP : ∀ k M1 l D, J k M1 l D → gIr (M1.a 4 430) 25 ∧ gFe (M1.a 4)) : gM yX8_step cX8_step 4 ((some .int)) 11 253 [.ref 122, .int y] (hp) (0) (0) (fun v h => ∃ x, v = some (.int x) ∧ ∃ M', gMod h M' ∧ gFM hp h ∧ ((M' = M.set 2 0) ∨ (¬ M.f 3 = 0 ∧ M.a 4 419 = 1 ∧ ∃ n k Mz l D g L, n ≤ 60 ∧ k ≤ n ∧ J k Mz l D ∧ (k = n ∨ ¬ Mz.a 4 419 = 1) ∧ M' = (Mz.arr 4 g).put 4 430 (nI L) ∧ gPs (Mz.a 4) g (Mz.a 4 430).toNatClampNeg L))) := by
  refine gM_of (ls0 := [some (.ref 122), some (.int y), none, none]) (by decide +kernel) (Nat.le_of_ble_eq_true rfl) rfl fun X C E => ?_
  refine g_aload_n (q := 1) C dX8_step_0 rfl rfl ?_
  refine g_iconst (v := 0) (q := 2) C dX8_step_1 (by decide) rfl ?_
  refine g_putfield (q := 5) C fX8_66 dX8_step_2 rfl HM.1 (Nat.le_of_ble_eq_true rfl) (Or.inl rfl) rfl rfl (by intro z h; cases h) ?_
  refine gMput (j := 2) (x := 0) HM rfl fun h1 HL1 fr1 => ?_
  refine g_aload_n (q := 6) C dX8_step_5 rfl rfl ?_
  refine g_getfield (v := .int ((M.f 3))) (q := 9) C fX8_134 dX8_step_6 rfl HL1.1 rfl ?_
  refine g_if_eq (t := 34) (q := 12) C dX8_step_9 (by decide) rfl (fun c_9 => ?_) (fun c_9 => ?_)
  ·
    refine g_iconst (v := (-1)) (q := 35) C dX8_step_34 (by decide) rfl ?_
    exact E.1 _ _ _ _ _ _ _ dX8_step_35 rfl rfl (Nat.le_of_ble_eq_true rfl) (Nat.le_of_ble_eq_true rfl) ⟨_, rfl, _, HL1, fr1, Or.inl rfl⟩
  ·
    refine g_iload_n (q := 13) C dX8_step_12 rfl rfl ?_
    refine g_iconst (v := 1) (q := 14) C dX8_step_13 (by decide) rfl ?_
    refine g_bipush (v := 60) (q := 16) C dX8_step_14 (by decide) rfl ?_
    refine g_callSi (x := (rX8_within y 1 60)) (q := 19) (As := [.int y, .int 1, .int 60]) C gyX8_within t_1212 t_1211 (c_X8_within_m) dX8_step_16 rfl rfl rfl (Nat.le_of_ble_eq_true rfl) (Nat.le_of_ble_eq_true rfl) (Nat.le_of_ble_eq_true rfl) (Nat.le_of_ble_eq_true rfl) (Nat.le_of_ble_eq_true rfl) rfl ?_
    refine g_if_eq (t := 34) (q := 22) C dX8_step_19 (by decide) rfl (fun c_19 => ?_) (fun c_19 => ?_)
    ·
      refine g_iconst (v := (-1)) (q := 35) C dX8_step_34 (by decide) rfl ?_
      exact E.1 _ _ _ _ _ _ _ dX8_step_35 rfl rfl (Nat.le_of_ble_eq_true rfl) (Nat.le_of_ble_eq_true rfl) ⟨_, rfl, _, HL1, fr1, Or.inl rfl⟩
    ·
      refine g_aload_n (q := 23) C dX8_step_22 rfl rfl ?_
      refine g_getfield (v := .ref 127) (q := 26) C fX8_22 dX8_step_23 rfl HL1.1 rfl ?_
      refine g_sipush (v := 419) (q := 29) C dX8_step_26 (by decide) rfl ?_
      refine g_ialoadN (x := (M.a 4 419)) (j := 419) (q := 30) C dX8_step_29 rfl (HL1.ar (i := 4) (n := 772) (by decide) rfl) (pk_in 419 772 (by decide)) (pk_cl 419) gset_a ?_
      refine g_iconst (v := 1) (q := 31) C dX8_step_30 (by decide) rfl ?_
      refine g_icmp_eq (t := 36) (q := 34) C dX8_step_31 (by decide) rfl (fun c_31 => ?_) (fun c_31 => ?_)
      ·
        refine g_iconst (v := 0) (q := 37) C dX8_step_36 (by decide) rfl ?_
        refine g_istore_n (q := 38) C dX8_step_37 (Nat.le_of_ble_eq_true rfl) (by simp only [gset]; rfl) rfl ?_
        refine g_iconst (v := 0) (q := 39) C dX8_step_38 (by decide) rfl ?_
        refine g_istore_n (q := 40) C dX8_step_39 (Nat.le_of_ble_eq_true rfl) (by simp only [gset]; rfl) rfl ?_
        obtain ⟨n, hn1, hn2, rfl⟩ := gWi (a := 1) (b := 60) (by decide) (by decide) c_19
        obtain ⟨l0, D0, H0⟩ := h0 c_9 c_31
        have KK : ∀ (j : Nat) (t : Int32) (M1 : gMd) (l : Nat) (D : List (Int32 × List Int32)) (hz : List gA), j ≤ n → gMod hz M1 → gFM hp hz → J j M1 l D → (j = n ∨ ¬ M1.a 4 419 = 1) → gG X 70 [some (.ref 122), some (.int ((nI n))), some (.int t), some (.int ((nI j)))] [] hz 0 0 := by
          intro j t M1 l D hz hj HZ frz HJ hs
          refine g_aload_n (q := 71) C dX8_step_70 rfl rfl ?_
          refine g_callVvp (q := 74) (As := []) C gyX8_passes gvX8_passes t_1280 (c_X8_passes_r HZ (hP _ _ _ _ HJ).1 (hP _ _ _ _ HJ).2) dX8_step_71 rfl HZ.1 rfl rfl rfl (Nat.le_of_ble_eq_true rfl) (Nat.le_of_ble_eq_true rfl) (Nat.le_of_ble_eq_true rfl) (Nat.le_of_ble_eq_true rfl) (Nat.le_of_ble_eq_true rfl) rfl (fun h2 z2 => ?_)
          obtain ⟨g9, L9, HM9, frt9, hp9⟩ := z2
          refine g_iload_n (q := 75) C dX8_step_74 rfl rfl ?_
          exact E.1 _ _ _ _ _ _ _ dX8_step_75 rfl rfl (Nat.le_of_ble_eq_true rfl) (Nat.le_of_ble_eq_true rfl) ⟨_, rfl, _, HM9, (gFM.trans frz frt9), Or.inr ⟨c_9, c_31, n, j, M1, l, D, g9, L9, hn2, hj, HJ, hs, rfl, hp9⟩⟩
        have LL : ∀ d j : Nat, j + d = n → ∀ (t : Int32) (M1 : gMd) (l : Nat) (D : List (Int32 × List Int32)) (hz : List gA), gMod hz M1 → gFM hp hz → J j M1 l D → gG X 40 [some (.ref 122), some (.int ((nI n))), some (.int t), some (.int ((nI j)))] [] hz 0 0 := by
          intro d
          induction d with
          | zero =>
            intro j hj t M1 l D hz HZ frz HJ
            obtain rfl : n = j := by omega
            refine g_iload_n (q := 41) C dX8_step_40 rfl rfl ?_
            refine g_iload_n (q := 42) C dX8_step_41 rfl rfl ?_
            refine g_icmp_ge_t (t := 70) C dX8_step_42 (by decide) (nI_le (Nat.le_refl _) (by omega)) ?_
            exact KK n t M1 l D hz (Nat.le_refl _) HZ frz HJ (Or.inl rfl)
          | succ d ih =>
            intro j hj t M1 l D hz HZ frz HJ
            refine g_iload_n (q := 41) C dX8_step_40 rfl rfl ?_
            refine g_iload_n (q := 42) C dX8_step_41 rfl rfl ?_
            refine g_icmp_ge_f (t := 70) (q := 45) C dX8_step_42 (by decide) rfl (fun h => nI_ge (show j < n by omega) (by omega) h) ?_
            refine g_aload_n (q := 46) C dX8_step_45 rfl rfl ?_
            refine g_getfield (v := .ref 127) (q := 49) C fX8_22 dX8_step_46 rfl HZ.1 rfl ?_
            refine g_sipush (v := 419) (q := 52) C dX8_step_49 (by decide) rfl ?_
            refine g_ialoadN (x := (M1.a 4 419)) (j := 419) (q := 53) C dX8_step_52 rfl (HZ.ar (i := 4) (n := 772) (by decide) rfl) (pk_in 419 772 (by decide)) (pk_cl 419) rfl ?_
            refine g_iconst (v := 1) (q := 54) C dX8_step_53 (by decide) rfl ?_
            refine g_icmp_ne (t := 70) (q := 57) C dX8_step_54 (by decide) rfl (fun c_54 => ?_) (fun c_54 => ?_)
            ·
              exact KK j t M1 l D hz (by omega) HZ frz HJ (Or.inr c_54)
            ·
              refine g_iload_n (q := 58) C dX8_step_57 rfl rfl ?_
              refine g_aload_n (q := 59) C dX8_step_58 rfl rfl ?_
              obtain ⟨okT, hN⟩ := hJ j M1 l D (by omega) HJ c_54
              refine g_callVip (q := 62) (As := []) C gyX8_turns gvX8_turns t_1300 (c_X8_turns_r HZ okT) dX8_step_59 rfl HZ.1 rfl rfl rfl (Nat.le_of_ble_eq_true rfl) (Nat.le_of_ble_eq_true rfl) (Nat.le_of_ble_eq_true rfl) (Nat.le_of_ble_eq_true rfl) (Nat.le_of_ble_eq_true rfl) rfl (fun x3 h3 z3 => ?_)
              obtain ⟨M9, D9, HM9, frt9, ht9⟩ := z3
              refine g_iadd (q := 63) C dX8_step_62 rfl ?_
              refine g_istore_n (q := 64) C dX8_step_63 (Nat.le_of_ble_eq_true rfl) (by simp only [gset]; rfl) rfl ?_
              refine g_iinc (v := (nI (j + 1))) (q := 67) C dX8_step_64 rfl (nI_1 j) (by simp only [gset]; rfl) rfl ?_
              obtain ⟨l9, J9⟩ := hN _ _ _ ht9
              refine g_goto (q := 40) C dX8_step_67 (by decide) ?_
              exact ih (j + 1) (by omega) _ _ l9 D9 _ HM9 (gFM.trans frz frt9) J9
        exact LL n 0 (by omega) 0 _ l0 D0 h1 HL1 fr1 H0
        
      ·
        refine g_iconst (v := (-1)) (q := 35) C dX8_step_34 (by decide) rfl ?_
        exact E.1 _ _ _ _ _ _ _ dX8_step_35 rfl rfl (Nat.le_of_ble_eq_true rfl) (Nat.le_of_ble_eq_true rfl) ⟨_, rfl, _, HL1, fr1, Or.inl rfl⟩
theorem dX8_triesOut_0 : decode cX8_triesOut 0 = .ok (.aload_n 0, 1) := by decide +kernel
theorem dX8_triesOut_1 : decode cX8_triesOut 1 = .ok (.iconst 1, 1) := by decide +kernel
theorem dX8_triesOut_2 : decode cX8_triesOut 2 = .ok (.putfield 182, 3) := by decide +kernel
theorem dX8_triesOut_5 : decode cX8_triesOut 5 = .ok (.aload_n 0, 1) := by decide +kernel
theorem dX8_triesOut_6 : decode cX8_triesOut 6 = .ok (.iconst 0, 1) := by decide +kernel
theorem dX8_triesOut_7 : decode cX8_triesOut 7 = .ok (.putfield 306, 3) := by decide +kernel
theorem dX8_triesOut_10 : decode cX8_triesOut 10 = .ok (.iconst 0, 1) := by decide +kernel
theorem dX8_triesOut_11 : decode cX8_triesOut 11 = .ok (.istore_n 1, 1) := by decide +kernel
theorem dX8_triesOut_12 : decode cX8_triesOut 12 = .ok (.iload_n 1, 1) := by decide +kernel
theorem dX8_triesOut_13 : decode cX8_triesOut 13 = .ok (.sipush 400, 3) := by decide +kernel
theorem dX8_triesOut_16 : decode cX8_triesOut 16 = .ok (.if_icmp .ge 34, 3) := by decide +kernel
theorem dX8_triesOut_19 : decode cX8_triesOut 19 = .ok (.aload_n 0, 1) := by decide +kernel
theorem dX8_triesOut_20 : decode cX8_triesOut 20 = .ok (.getfield 22, 3) := by decide +kernel
theorem dX8_triesOut_23 : decode cX8_triesOut 23 = .ok (.sipush 419, 3) := by decide +kernel
theorem dX8_triesOut_26 : decode cX8_triesOut 26 = .ok (.iaload, 1) := by decide +kernel
theorem dX8_triesOut_27 : decode cX8_triesOut 27 = .ok (.iconst 1, 1) := by decide +kernel
theorem dX8_triesOut_28 : decode cX8_triesOut 28 = .ok (.if_icmp .ne 22, 3) := by decide +kernel
theorem dX8_triesOut_31 : decode cX8_triesOut 31 = .ok (.aload_n 0, 1) := by decide +kernel
theorem dX8_triesOut_32 : decode cX8_triesOut 32 = .ok (.dup, 1) := by decide +kernel
theorem dX8_triesOut_33 : decode cX8_triesOut 33 = .ok (.getfield 306, 3) := by decide +kernel
theorem dX8_triesOut_36 : decode cX8_triesOut 36 = .ok (.aload_n 0, 1) := by decide +kernel
theorem dX8_triesOut_37 : decode cX8_triesOut 37 = .ok (.invokevirtual 297, 3) := by decide +kernel
theorem dX8_triesOut_40 : decode cX8_triesOut 40 = .ok (.iadd, 1) := by decide +kernel
theorem dX8_triesOut_41 : decode cX8_triesOut 41 = .ok (.putfield 306, 3) := by decide +kernel
theorem dX8_triesOut_44 : decode cX8_triesOut 44 = .ok (.iinc 1 1, 3) := by decide +kernel
theorem dX8_triesOut_47 : decode cX8_triesOut 47 = .ok (.goto (-35), 3) := by decide +kernel
theorem dX8_triesOut_50 : decode cX8_triesOut 50 = .ok (.aload_n 0, 1) := by decide +kernel
theorem dX8_triesOut_51 : decode cX8_triesOut 51 = .ok (.iconst 0, 1) := by decide +kernel
theorem dX8_triesOut_52 : decode cX8_triesOut 52 = .ok (.putfield 182, 3) := by decide +kernel
theorem dX8_triesOut_55 : decode cX8_triesOut 55 = .ok (.return_, 1) := by decide +kernel
set_option maxRecDepth 100000 in
set_option maxHeartbeats 4000000 in
theorem c_X8_triesOut_r {hp : List gA} {M : gMd} {J : Nat → gMd → Nat → List (Int32 × List Int32) → Prop} (HM : gMod hp M) (h0 : ∃ l D, J 0 ((M.set 19 1).set 36 0) l D) (hJ : ∀ k M1 l D, k < 400 → J k M1 l D → M1.a 4 419 = 1 → oTn M1 l D ∧ ∀ M' D' x, gTn M1 l D M' D' x → ∀ s, ∃ l', J (k + 1) (M'.set 36 s) l' D') : gM yX8_triesOut cX8_triesOut 2 (none) 11 253 [.ref 122] (hp) (0) (0) (fun v h => v = none ∧ ∃ k Mz l D, k ≤ 400 ∧ J k Mz l D ∧ (k = 400 ∨ ¬ Mz.a 4 419 = 1) ∧ gMod h (Mz.set 19 0) ∧ gFM hp h) := by
  refine gM_of (ls0 := [some (.ref 122), none]) (by decide +kernel) (Nat.le_of_ble_eq_true rfl) rfl fun X C E => ?_
  refine g_aload_n (q := 1) C dX8_triesOut_0 rfl rfl ?_
  refine g_iconst (v := 1) (q := 2) C dX8_triesOut_1 (by decide) rfl ?_
  refine g_putfield (q := 5) C fX8_182 dX8_triesOut_2 rfl HM.1 (Nat.le_of_ble_eq_true rfl) (Or.inl rfl) rfl rfl (by intro z h; cases h) ?_
  refine gMput (j := 19) (x := 1) HM rfl fun h1 HL1 fr1 => ?_
  refine g_aload_n (q := 6) C dX8_triesOut_5 rfl rfl ?_
  refine g_iconst (v := 0) (q := 7) C dX8_triesOut_6 (by decide) rfl ?_
  refine g_putfield (q := 10) C fX8_306 dX8_triesOut_7 rfl HL1.1 (Nat.le_of_ble_eq_true rfl) (Or.inl rfl) rfl rfl (by intro z h; cases h) ?_
  refine gMput (j := 36) (x := 0) HL1 rfl fun h2 HL2 fr2 => ?_
  refine g_iconst (v := 0) (q := 11) C dX8_triesOut_10 (by decide) rfl ?_
  refine g_istore_n (q := 12) C dX8_triesOut_11 (Nat.le_of_ble_eq_true rfl) (by simp only [gset]; rfl) rfl ?_
  obtain ⟨l0, D0, H0⟩ := h0
  have LL : ∀ d j : Nat, j + d = 400 → ∀ (M1 : gMd) (l : Nat) (D : List (Int32 × List Int32)) (hz : List gA), gMod hz M1 → gFM hp hz → J j M1 l D → gG X 12 [some (.ref 122), some (.int ((nI j)))] [] hz 0 0 := by
    intro d
    induction d with
    | zero =>
      intro j hj M1 l D hz HZ frz HJ
      obtain rfl : 400 = j := by omega
      refine g_iload_n (q := 13) C dX8_triesOut_12 rfl rfl ?_
      refine g_sipush (v := 400) (q := 16) C dX8_triesOut_13 (by decide) rfl ?_
      refine g_icmp_ge_t (t := 50) C dX8_triesOut_16 (by decide) (nI_le (b := 400) (Nat.le_refl _) (by omega)) ?_
      refine g_aload_n (q := 51) C dX8_triesOut_50 rfl rfl ?_
      refine g_iconst (v := 0) (q := 52) C dX8_triesOut_51 (by decide) rfl ?_
      refine g_putfield (q := 55) C fX8_182 dX8_triesOut_52 rfl HZ.1 (Nat.le_of_ble_eq_true rfl) (Or.inl rfl) rfl rfl (by intro z h; cases h) ?_
      refine gMput (j := 19) (x := 0) HZ rfl fun h3 HL3 fr3 => ?_
      exact E.2.1 _ _ _ _ _ dX8_triesOut_55 rfl (Nat.le_of_ble_eq_true rfl) (Nat.le_of_ble_eq_true rfl) ⟨rfl, 400, M1, l, D, by omega, HJ, Or.inl rfl, HL3, (gFM.trans frz fr3)⟩
    | succ d ih =>
      intro j hj M1 l D hz HZ frz HJ
      refine g_iload_n (q := 13) C dX8_triesOut_12 rfl rfl ?_
      refine g_sipush (v := 400) (q := 16) C dX8_triesOut_13 (by decide) rfl ?_
      refine g_icmp_ge_f (t := 50) (q := 19) C dX8_triesOut_16 (by decide) rfl (fun h => nI_ge (show j < 400 by omega) (by omega) h) ?_
      refine g_aload_n (q := 20) C dX8_triesOut_19 rfl rfl ?_
      refine g_getfield (v := .ref 127) (q := 23) C fX8_22 dX8_triesOut_20 rfl HZ.1 rfl ?_
      refine g_sipush (v := 419) (q := 26) C dX8_triesOut_23 (by decide) rfl ?_
      refine g_ialoadN (x := (M1.a 4 419)) (j := 419) (q := 27) C dX8_triesOut_26 rfl (HZ.ar (i := 4) (n := 772) (by decide) rfl) (pk_in 419 772 (by decide)) (pk_cl 419) rfl ?_
      refine g_iconst (v := 1) (q := 28) C dX8_triesOut_27 (by decide) rfl ?_
      refine g_icmp_ne (t := 50) (q := 31) C dX8_triesOut_28 (by decide) rfl (fun c_28 => ?_) (fun c_28 => ?_)
      ·
        refine g_aload_n (q := 51) C dX8_triesOut_50 rfl rfl ?_
        refine g_iconst (v := 0) (q := 52) C dX8_triesOut_51 (by decide) rfl ?_
        refine g_putfield (q := 55) C fX8_182 dX8_triesOut_52 rfl HZ.1 (Nat.le_of_ble_eq_true rfl) (Or.inl rfl) rfl rfl (by intro z h; cases h) ?_
        refine gMput (j := 19) (x := 0) HZ rfl fun h4 HL4 fr4 => ?_
        exact E.2.1 _ _ _ _ _ dX8_triesOut_55 rfl (Nat.le_of_ble_eq_true rfl) (Nat.le_of_ble_eq_true rfl) ⟨rfl, j, M1, l, D, by omega, HJ, Or.inr c_28, HL4, (gFM.trans frz fr4)⟩
      ·
        refine g_aload_n (q := 32) C dX8_triesOut_31 rfl rfl ?_
        refine g_dup (q := 33) C dX8_triesOut_32 rfl rfl ?_
        refine g_getfield (v := .int ((M1.f 36))) (q := 36) C fX8_306 dX8_triesOut_33 rfl HZ.1 rfl ?_
        refine g_aload_n (q := 37) C dX8_triesOut_36 rfl rfl ?_
        obtain ⟨okT, hN⟩ := hJ j M1 l D (by omega) HJ c_28
        refine g_callVip (q := 40) (As := []) C gyX8_turns gvX8_turns t_1300 (c_X8_turns_r HZ okT) dX8_triesOut_37 rfl HZ.1 rfl rfl rfl (Nat.le_of_ble_eq_true rfl) (Nat.le_of_ble_eq_true rfl) (Nat.le_of_ble_eq_true rfl) (Nat.le_of_ble_eq_true rfl) (Nat.le_of_ble_eq_true rfl) rfl (fun x5 h5 z5 => ?_)
        obtain ⟨M9, D9, HM9, frt9, ht9⟩ := z5
        refine g_iadd (q := 41) C dX8_triesOut_40 rfl ?_
        refine g_putfield (q := 44) C fX8_306 dX8_triesOut_41 rfl HM9.1 (Nat.le_of_ble_eq_true rfl) (Or.inl rfl) rfl rfl (by intro z h; cases h) ?_
        refine gMput (j := 36) (x := ((M1.f 36) + x5)) HM9 rfl fun h6 HL6 fr6 => ?_
        refine g_iinc (v := (nI (j + 1))) (q := 47) C dX8_triesOut_44 rfl (nI_1 j) (by simp only [gset]; rfl) rfl ?_
        obtain ⟨l9, J9⟩ := hN _ _ _ ht9 (((M1.f 36) + x5))
        refine g_goto (q := 12) C dX8_triesOut_47 (by decide) ?_
        exact ih (j + 1) (by omega) _ l9 D9 _ HL6 (gFM.trans (gFM.trans frz frt9) fr6) J9
  exact LL 400 0 (by omega) _ l0 D0 h2 HL2 (gFM.trans fr1 fr2) H0
  
