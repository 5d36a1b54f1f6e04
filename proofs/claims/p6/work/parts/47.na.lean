/-! the reference: a message told (by program: wip/p2/m_na.py) -/
theorem dX8_message_0 : decode cX8_message 0 = .ok (.aload_n 0, 1) := by decide +kernel
theorem dX8_message_1 : decode cX8_message 1 = .ok (.iconst 0, 1) := by decide +kernel
theorem dX8_message_2 : decode cX8_message 2 = .ok (.putfield 66, 3) := by decide +kernel
theorem dX8_message_5 : decode cX8_message 5 = .ok (.aload_n 0, 1) := by decide +kernel
theorem dX8_message_6 : decode cX8_message 6 = .ok (.getfield 75, 3) := by decide +kernel
theorem dX8_message_9 : decode cX8_message 9 = .ok (.istore_n 1, 1) := by decide +kernel
theorem dX8_message_10 : decode cX8_message 10 = .ok (.aload_n 0, 1) := by decide +kernel
theorem dX8_message_11 : decode cX8_message 11 = .ok (.iconst 0, 1) := by decide +kernel
theorem dX8_message_12 : decode cX8_message 12 = .ok (.putfield 75, 3) := by decide +kernel
theorem dX8_message_15 : decode cX8_message 15 = .ok (.iload_n 1, 1) := by decide +kernel
theorem dX8_message_16 : decode cX8_message 16 = .ok (.bipush 60, 2) := by decide +kernel
theorem dX8_message_18 : decode cX8_message 18 = .ok (.if_icmp .gt 10, 3) := by decide +kernel
theorem dX8_message_21 : decode cX8_message 21 = .ok (.aload_n 0, 1) := by decide +kernel
theorem dX8_message_22 : decode cX8_message 22 = .ok (.invokevirtual 137, 3) := by decide +kernel
theorem dX8_message_25 : decode cX8_message 25 = .ok (.ifCond .ne 5, 3) := by decide +kernel
theorem dX8_message_28 : decode cX8_message 28 = .ok (.iconst (-1), 1) := by decide +kernel
theorem dX8_message_29 : decode cX8_message 29 = .ok (.ireturn, 1) := by decide +kernel
theorem dX8_message_30 : decode cX8_message 30 = .ok (.aload_n 0, 1) := by decide +kernel
theorem dX8_message_31 : decode cX8_message 31 = .ok (.iconst 1, 1) := by decide +kernel
theorem dX8_message_32 : decode cX8_message 32 = .ok (.invokevirtual 141, 3) := by decide +kernel
theorem dX8_message_35 : decode cX8_message 35 = .ok (.iconst 0, 1) := by decide +kernel
theorem dX8_message_36 : decode cX8_message 36 = .ok (.istore_n 2, 1) := by decide +kernel
theorem dX8_message_37 : decode cX8_message 37 = .ok (.iload_n 2, 1) := by decide +kernel
theorem dX8_message_38 : decode cX8_message 38 = .ok (.iload_n 1, 1) := by decide +kernel
theorem dX8_message_39 : decode cX8_message 39 = .ok (.if_icmp .ge 24, 3) := by decide +kernel
theorem dX8_message_42 : decode cX8_message 42 = .ok (.aload_n 0, 1) := by decide +kernel
theorem dX8_message_43 : decode cX8_message 43 = .ok (.getfield 22, 3) := by decide +kernel
theorem dX8_message_46 : decode cX8_message 46 = .ok (.bipush 32, 2) := by decide +kernel
theorem dX8_message_48 : decode cX8_message 48 = .ok (.iload_n 2, 1) := by decide +kernel
theorem dX8_message_49 : decode cX8_message 49 = .ok (.iadd, 1) := by decide +kernel
theorem dX8_message_50 : decode cX8_message 50 = .ok (.aload_n 0, 1) := by decide +kernel
theorem dX8_message_51 : decode cX8_message 51 = .ok (.getfield 7, 3) := by decide +kernel
theorem dX8_message_54 : decode cX8_message 54 = .ok (.iload_n 2, 1) := by decide +kernel
theorem dX8_message_55 : decode cX8_message 55 = .ok (.iaload, 1) := by decide +kernel
theorem dX8_message_56 : decode cX8_message 56 = .ok (.iastore, 1) := by decide +kernel
theorem dX8_message_57 : decode cX8_message 57 = .ok (.iinc 2 1, 3) := by decide +kernel
theorem dX8_message_60 : decode cX8_message 60 = .ok (.goto (-23), 3) := by decide +kernel
theorem dX8_message_63 : decode cX8_message 63 = .ok (.aload_n 0, 1) := by decide +kernel
theorem dX8_message_64 : decode cX8_message 64 = .ok (.getfield 22, 3) := by decide +kernel
theorem dX8_message_67 : decode cX8_message 67 = .ok (.iconst 3, 1) := by decide +kernel
theorem dX8_message_68 : decode cX8_message 68 = .ok (.iload_n 1, 1) := by decide +kernel
theorem dX8_message_69 : decode cX8_message 69 = .ok (.iastore, 1) := by decide +kernel
theorem dX8_message_70 : decode cX8_message 70 = .ok (.aload_n 0, 1) := by decide +kernel
theorem dX8_message_71 : decode cX8_message 71 = .ok (.getfield 22, 3) := by decide +kernel
theorem dX8_message_74 : decode cX8_message 74 = .ok (.iconst 4, 1) := by decide +kernel
theorem dX8_message_75 : decode cX8_message 75 = .ok (.iconst 0, 1) := by decide +kernel
theorem dX8_message_76 : decode cX8_message 76 = .ok (.iastore, 1) := by decide +kernel
theorem dX8_message_77 : decode cX8_message 77 = .ok (.aload_n 0, 1) := by decide +kernel
theorem dX8_message_78 : decode cX8_message 78 = .ok (.getfield 22, 3) := by decide +kernel
theorem dX8_message_81 : decode cX8_message 81 = .ok (.bipush 18, 2) := by decide +kernel
theorem dX8_message_83 : decode cX8_message 83 = .ok (.iaload, 1) := by decide +kernel
theorem dX8_message_84 : decode cX8_message 84 = .ok (.istore_n 2, 1) := by decide +kernel
theorem dX8_message_85 : decode cX8_message 85 = .ok (.iload_n 1, 1) := by decide +kernel
theorem dX8_message_86 : decode cX8_message 86 = .ok (.ifCond .ne 7, 3) := by decide +kernel
theorem dX8_message_89 : decode cX8_message 89 = .ok (.iconst 1, 1) := by decide +kernel
theorem dX8_message_90 : decode cX8_message 90 = .ok (.goto 10, 3) := by decide +kernel
theorem dX8_message_93 : decode cX8_message 93 = .ok (.iload_n 1, 1) := by decide +kernel
theorem dX8_message_94 : decode cX8_message 94 = .ok (.iload_n 2, 1) := by decide +kernel
theorem dX8_message_95 : decode cX8_message 95 = .ok (.iadd, 1) := by decide +kernel
theorem dX8_message_96 : decode cX8_message 96 = .ok (.iconst 1, 1) := by decide +kernel
theorem dX8_message_97 : decode cX8_message 97 = .ok (.isub, 1) := by decide +kernel
theorem dX8_message_98 : decode cX8_message 98 = .ok (.iload_n 2, 1) := by decide +kernel
theorem dX8_message_99 : decode cX8_message 99 = .ok (.idiv, 1) := by decide +kernel
theorem dX8_message_100 : decode cX8_message 100 = .ok (.ireturn, 1) := by decide +kernel
set_option maxRecDepth 100000 in
set_option maxHeartbeats 4000000 in
theorem c_X8_message_r {hp : List gA} {M : gMd}  (HM : gMod hp M) (ht : gIr (M.f 1) 96) (hw : ∃ w, 1 ≤ w ∧ w < 256 ∧ M.a 4 18 = nI w) : gM yX8_message cX8_message 3 ((some .int)) 1 21 [.ref 122] (hp) (0) (0) (fun v h => ∃ x, v = some (.int x) ∧ ∃ M', gMod h M' ∧ gFM hp h ∧ (M' = ((M.set 2 0).set 1 0) ∨ (¬ rX8_canBegin ((M.set 2 0).set 1 0) = 0 ∧ ∃ n, n ≤ 60 ∧ M.f 1 = nI n ∧ M' = ((((rX8_starts_1 ((M.set 2 0).set 1 0)).arr 4 (gCpy ((rX8_starts_1 ((M.set 2 0).set 1 0)).a 4) 32 ((rX8_starts_1 ((M.set 2 0).set 1 0)).a 0) 0 n)).put 4 3 (nI n)).put 4 4 0)))) := by
  refine gM_of (ls0 := [some (.ref 122), none, none]) (by decide +kernel) (Nat.le_of_ble_eq_true rfl) rfl fun X C E => ?_
  obtain ⟨n, hn, en⟩ := ht
  obtain ⟨w, hw1, hw2, ew⟩ := hw
  refine g_aload_n (q := 1) C dX8_message_0 rfl rfl ?_
  refine g_iconst (v := 0) (q := 2) C dX8_message_1 (by decide) rfl ?_
  refine g_putfield (q := 5) C fX8_66 dX8_message_2 rfl HM.1 (Nat.le_of_ble_eq_true rfl) (Or.inl rfl) rfl rfl (by intro z h; cases h) ?_
  refine gMput (j := 2) (x := 0) HM rfl fun h1 HL1 fr1 => ?_
  refine g_aload_n (q := 6) C dX8_message_5 rfl rfl ?_
  refine g_getfield (v := .int ((M.f 1))) (q := 9) C fX8_75 dX8_message_6 rfl HL1.1 rfl ?_
  refine g_istore_n (q := 10) C dX8_message_9 (Nat.le_of_ble_eq_true rfl) (by simp only [gset]; rfl) rfl ?_
  rw [en]
  refine g_aload_n (q := 11) C dX8_message_10 rfl rfl ?_
  refine g_iconst (v := 0) (q := 12) C dX8_message_11 (by decide) rfl ?_
  refine g_putfield (q := 15) C fX8_75 dX8_message_12 rfl HL1.1 (Nat.le_of_ble_eq_true rfl) (Or.inl rfl) rfl rfl (by intro z h; cases h) ?_
  refine gMput (j := 1) (x := 0) HL1 rfl fun h2 HL2 fr2 => ?_
  refine g_iload_n (q := 16) C dX8_message_15 rfl rfl ?_
  refine g_bipush (v := 60) (q := 18) C dX8_message_16 (by decide) rfl ?_
  refine g_icmp_gt (t := 28) (q := 21) C dX8_message_18 (by decide) rfl (fun c_18 => ?_) (fun c_18 => ?_)
  ·
    refine g_iconst (v := (-1)) (q := 29) C dX8_message_28 (by decide) rfl ?_
    exact E.1 _ _ _ _ _ _ _ dX8_message_29 rfl rfl (Nat.le_of_ble_eq_true rfl) (Nat.le_of_ble_eq_true rfl) ⟨_, rfl, _, HL2, (gFM.trans fr1 fr2), Or.inl rfl⟩
  ·
    refine g_aload_n (q := 22) C dX8_message_21 rfl rfl ?_
    refine g_callVi (x := (rX8_canBegin ((M.set 2 0).set 1 0))) (q := 25) (As := []) C gyX8_canBegin gvX8_canBegin t_1264 (c_X8_canBegin_m HL2) dX8_message_22 rfl HL2.1 rfl rfl rfl (Nat.le_of_ble_eq_true rfl) (Nat.le_of_ble_eq_true rfl) (Nat.le_of_ble_eq_true rfl) (Nat.le_of_ble_eq_true rfl) (Nat.le_of_ble_eq_true rfl) rfl ?_
    refine g_if_ne (t := 30) (q := 28) C dX8_message_25 (by decide) rfl (fun c_25 => ?_) (fun c_25 => ?_)
    ·
      refine g_aload_n (q := 31) C dX8_message_30 rfl rfl ?_
      refine g_iconst (v := 1) (q := 32) C dX8_message_31 (by decide) rfl ?_
      refine g_callVvp (q := 35) (As := [.int 1]) C gyX8_starts gvX8_starts t_1268 (c_X8_starts_1_m HL2) dX8_message_32 rfl HL2.1 rfl rfl rfl (Nat.le_of_ble_eq_true rfl) (Nat.le_of_ble_eq_true rfl) (Nat.le_of_ble_eq_true rfl) (Nat.le_of_ble_eq_true rfl) (Nat.le_of_ble_eq_true rfl) rfl (fun h3 z3 => ?_)
      obtain ⟨HL3, fr3⟩ := z3
      refine g_iconst (v := 0) (q := 36) C dX8_message_35 (by decide) rfl ?_
      refine g_istore_n (q := 37) C dX8_message_36 (Nat.le_of_ble_eq_true rfl) (by simp only [gset]; rfl) rfl ?_
      have h60 : n ≤ 60 := Nat.le_of_not_lt fun h => c_18 (Int32.not_le.mp (nI_ge (a := 60) h (by omega)))
      have LL4 : ∀ d j : Nat, j + d = n → ∀  (h1 : List gA), gMod h1 ((rX8_starts_1 ((M.set 2 0).set 1 0)).arr 4 (gCpy ((rX8_starts_1 ((M.set 2 0).set 1 0)).a 4) 32 ((rX8_starts_1 ((M.set 2 0).set 1 0)).a 0) 0 j)) → gFM hp h1 → gG X 37 [some (.ref 122), some (.int ((nI n))), some (.int ((nI j)))] [] h1 0 0 := by
        intro d
        induction d with
        | zero =>
          intro j hj  h1 HL1_ fr_
          obtain rfl : n = j := by omega
          refine g_iload_n (q := 38) C dX8_message_37 rfl rfl ?_
          refine g_iload_n (q := 39) C dX8_message_38 rfl rfl ?_
          refine g_icmp_ge_t (t := 63) C dX8_message_39 (by decide) (nI_le (Nat.le_refl _) (by omega)) ?_
          refine g_aload_n (q := 64) C dX8_message_63 rfl rfl ?_
          refine g_getfield (v := .ref 127) (q := 67) C fX8_22 dX8_message_64 rfl HL1_.1 rfl ?_
          refine g_iconst (v := 3) (q := 68) C dX8_message_67 (by decide) rfl ?_
          refine g_iload_n (q := 69) C dX8_message_68 rfl rfl ?_
          refine g_iastoreN (j := 3) (q := 70) C dX8_message_69 rfl (HL1_.ar (i := 4) (n := 772) (by decide) rfl) (pk_in 3 772 (by decide)) (pk_cl 3) ?_
          refine gMsto (i := 4) (j := 3) (x := (nI n)) HL1_ (by decide) rfl rfl fun h5 HL5 fr5 => ?_
          refine g_aload_n (q := 71) C dX8_message_70 rfl rfl ?_
          refine g_getfield (v := .ref 127) (q := 74) C fX8_22 dX8_message_71 rfl HL5.1 rfl ?_
          refine g_iconst (v := 4) (q := 75) C dX8_message_74 (by decide) rfl ?_
          refine g_iconst (v := 0) (q := 76) C dX8_message_75 (by decide) rfl ?_
          refine g_iastoreN (j := 4) (q := 77) C dX8_message_76 rfl (HL5.ar (i := 4) (n := 772) (by decide) rfl) (pk_in 4 772 (by decide)) (pk_cl 4) ?_
          refine gMsto (i := 4) (j := 4) (x := 0) HL5 (by decide) rfl rfl fun h6 HL6 fr6 => ?_
          refine g_aload_n (q := 78) C dX8_message_77 rfl rfl ?_
          refine g_getfield (v := .ref 127) (q := 81) C fX8_22 dX8_message_78 rfl HL6.1 rfl ?_
          refine g_bipush (v := 18) (q := 83) C dX8_message_81 (by decide) rfl ?_
          refine g_ialoadN (x := (((rX8_starts_1 ((M.set 2 0).set 1 0)).arr 4 (gCpy ((rX8_starts_1 ((M.set 2 0).set 1 0)).a 4) 32 ((rX8_starts_1 ((M.set 2 0).set 1 0)).a 0) 0 n)).a 4 18)) (j := 18) (q := 84) C dX8_message_83 rfl (HL6.ar (i := 4) (n := 772) (by decide) rfl) (pk_in 18 772 (by decide)) (pk_cl 18) ((gput_n (by decide)).trans (gput_n (by decide))) ?_
          refine g_istore_n (q := 85) C dX8_message_84 (Nat.le_of_ble_eq_true rfl) (by simp only [gset]; rfl) rfl ?_
          have e18 : (((rX8_starts_1 ((M.set 2 0).set 1 0)).arr 4 (gCpy ((rX8_starts_1 ((M.set 2 0).set 1 0)).a 4) 32 ((rX8_starts_1 ((M.set 2 0).set 1 0)).a 0) 0 n)).a 4 18) = nI w := by rw [← ew]; exact garr_s.trans ((gCpy_out (by omega)).trans rfl)
          rw [e18]
          refine g_iload_n (q := 86) C dX8_message_85 rfl rfl ?_
          refine g_if_ne (t := 93) (q := 89) C dX8_message_86 (by decide) rfl (fun c_86 => ?_) (fun c_86 => ?_)
          ·
            refine g_iload_n (q := 94) C dX8_message_93 rfl rfl ?_
            refine g_iload_n (q := 95) C dX8_message_94 rfl rfl ?_
            refine g_iadd (q := 96) C dX8_message_95 rfl ?_
            refine g_iconst (v := 1) (q := 97) C dX8_message_96 (by decide) rfl ?_
            refine g_isub (q := 98) C dX8_message_97 rfl ?_
            refine g_iload_n (q := 99) C dX8_message_98 rfl rfl ?_
            refine g_idiv (q := 100) C dX8_message_99 (fun h => absurd (nI_inj (b := 0) (by omega) (by decide) h) (by omega)) rfl ?_
            exact E.1 _ _ _ _ _ _ _ dX8_message_100 rfl rfl (Nat.le_of_ble_eq_true rfl) (Nat.le_of_ble_eq_true rfl) ⟨_, rfl, _, HL6, (gFM.trans (gFM.trans fr_ fr5) fr6), Or.inr ⟨c_25, n, by omega, en, rfl⟩⟩
          ·
            refine g_iconst (v := 1) (q := 90) C dX8_message_89 (by decide) rfl ?_
            refine g_goto (q := 100) C dX8_message_90 (by decide) ?_
            exact E.1 _ _ _ _ _ _ _ dX8_message_100 rfl rfl (Nat.le_of_ble_eq_true rfl) (Nat.le_of_ble_eq_true rfl) ⟨_, rfl, _, HL6, (gFM.trans (gFM.trans fr_ fr5) fr6), Or.inr ⟨c_25, n, by omega, en, rfl⟩⟩
          
        | succ d ih =>
          intro j hj  h1 HL1_ fr_
          refine g_iload_n (q := 38) C dX8_message_37 rfl rfl ?_
          refine g_iload_n (q := 39) C dX8_message_38 rfl rfl ?_
          refine g_icmp_ge_f (t := 63) (q := 42) C dX8_message_39 (by decide) rfl (fun h => nI_ge (show j < n by omega) (by omega) h) ?_
          refine g_aload_n (q := 43) C dX8_message_42 rfl rfl ?_
          refine g_getfield (v := .ref 127) (q := 46) C fX8_22 dX8_message_43 rfl HL1_.1 rfl ?_
          refine g_bipush (v := 32) (q := 48) C dX8_message_46 (by decide) rfl ?_
          refine g_iload_n (q := 49) C dX8_message_48 rfl rfl ?_
          refine g_iadd (q := 50) C dX8_message_49 rfl ?_
          refine g_aload_n (q := 51) C dX8_message_50 rfl rfl ?_
          refine g_getfield (v := .ref 123) (q := 54) C fX8_7 dX8_message_51 rfl HL1_.1 rfl ?_
          refine g_iload_n (q := 55) C dX8_message_54 rfl rfl ?_
          refine g_ialoadN (x := (((rX8_starts_1 ((M.set 2 0).set 1 0)).arr 4 (gCpy ((rX8_starts_1 ((M.set 2 0).set 1 0)).a 4) 32 ((rX8_starts_1 ((M.set 2 0).set 1 0)).a 0) 0 j)).a 0 j)) (j := j) (q := 56) C dX8_message_55 rfl (HL1_.ar (i := 0) (n := 96) (by decide) rfl) (pk_in j 96 (by omega)) (pk_cl j rfl (by omega)) rfl ?_
          refine g_iastoreN (j := (32 + j)) (q := 57) C dX8_message_56 rfl (HL1_.ar (i := 4) (n := 772) (by decide) rfl) (pk_in (32 + j) 772 (by omega) (nI_add 32 j)) (pk_cl (32 + j) (nI_add 32 j) (by omega)) ?_
          refine gMsto (i := 4) (j := (32 + j)) (x := (((rX8_starts_1 ((M.set 2 0).set 1 0)).arr 4 (gCpy ((rX8_starts_1 ((M.set 2 0).set 1 0)).a 4) 32 ((rX8_starts_1 ((M.set 2 0).set 1 0)).a 0) 0 j)).a 0 j)) HL1_ (by decide) rfl rfl fun h7 HL7 fr7 => ?_
          refine g_iinc (v := (nI (j + 1))) (q := 60) C dX8_message_57 rfl (nI_1 j) (by simp only [gset]; rfl) rfl ?_
          have e9 : ((rX8_starts_1 ((M.set 2 0).set 1 0)).arr 4 (gCpy ((rX8_starts_1 ((M.set 2 0).set 1 0)).a 4) 32 ((rX8_starts_1 ((M.set 2 0).set 1 0)).a 0) 0 j)).put 4 (32 + j) (((rX8_starts_1 ((M.set 2 0).set 1 0)).arr 4 (gCpy ((rX8_starts_1 ((M.set 2 0).set 1 0)).a 4) 32 ((rX8_starts_1 ((M.set 2 0).set 1 0)).a 0) 0 j)).a 0 j) = ((rX8_starts_1 ((M.set 2 0).set 1 0)).arr 4 (gCpy ((rX8_starts_1 ((M.set 2 0).set 1 0)).a 4) 32 ((rX8_starts_1 ((M.set 2 0).set 1 0)).a 0) 0 (j + 1))) := garr_cp (by show ((rX8_starts_1 ((M.set 2 0).set 1 0)).arr 4 (gCpy ((rX8_starts_1 ((M.set 2 0).set 1 0)).a 4) 32 ((rX8_starts_1 ((M.set 2 0).set 1 0)).a 0) 0 j)).a 0 _ = _; rw [(garr_o (by decide))]; rw [Nat.zero_add])
          have HL9 : gMod h7 ((rX8_starts_1 ((M.set 2 0).set 1 0)).arr 4 (gCpy ((rX8_starts_1 ((M.set 2 0).set 1 0)).a 4) 32 ((rX8_starts_1 ((M.set 2 0).set 1 0)).a 0) 0 (j + 1))) := by rw [← e9]; exact HL7
          refine g_goto (q := 37) C dX8_message_60 (by decide) ?_
          exact ih (j + 1) (by omega)  h7 HL9 (gFM.trans fr_ fr7)
      have HL8 : gMod h3 ((rX8_starts_1 ((M.set 2 0).set 1 0)).arr 4 (gCpy ((rX8_starts_1 ((M.set 2 0).set 1 0)).a 4) 32 ((rX8_starts_1 ((M.set 2 0).set 1 0)).a 0) 0 0)) := by rw [garr_0]; exact HL3
      exact LL4 (n - 0) 0 (by omega)  h3 HL8 (gFM.trans (gFM.trans fr1 fr2) fr3)
      
    ·
      refine g_iconst (v := (-1)) (q := 29) C dX8_message_28 (by decide) rfl ?_
      exact E.1 _ _ _ _ _ _ _ dX8_message_29 rfl rfl (Nat.le_of_ble_eq_true rfl) (Nat.le_of_ble_eq_true rfl) ⟨_, rfl, _, HL2, (gFM.trans fr1 fr2), Or.inl rfl⟩
  
