/-! the reference: the log asked (by program: wip/p2/m_mz.py) -/
theorem dX8_log_0 : decode cX8_log 0 = .ok (.aload_n 0, 1) := by decide +kernel
theorem dX8_log_1 : decode cX8_log 1 = .ok (.iload_n 1, 1) := by decide +kernel
theorem dX8_log_2 : decode cX8_log 2 = .ok (.iconst 0, 1) := by decide +kernel
theorem dX8_log_3 : decode cX8_log 3 = .ok (.aload_n 0, 1) := by decide +kernel
theorem dX8_log_4 : decode cX8_log 4 = .ok (.getfield 69, 3) := by decide +kernel
theorem dX8_log_7 : decode cX8_log 7 = .ok (.iconst 1, 1) := by decide +kernel
theorem dX8_log_8 : decode cX8_log 8 = .ok (.isub, 1) := by decide +kernel
theorem dX8_log_9 : decode cX8_log 9 = .ok (.invokestatic 82, 3) := by decide +kernel
theorem dX8_log_12 : decode cX8_log 12 = .ok (.ifCond .eq 16, 3) := by decide +kernel
theorem dX8_log_15 : decode cX8_log 15 = .ok (.iload_n 2, 1) := by decide +kernel
theorem dX8_log_16 : decode cX8_log 16 = .ok (.iconst 0, 1) := by decide +kernel
theorem dX8_log_17 : decode cX8_log 17 = .ok (.iconst 5, 1) := by decide +kernel
theorem dX8_log_18 : decode cX8_log 18 = .ok (.invokestatic 82, 3) := by decide +kernel
theorem dX8_log_21 : decode cX8_log 21 = .ok (.ifCond .eq 7, 3) := by decide +kernel
theorem dX8_log_24 : decode cX8_log 24 = .ok (.iconst 0, 1) := by decide +kernel
theorem dX8_log_25 : decode cX8_log 25 = .ok (.goto 4, 3) := by decide +kernel
theorem dX8_log_28 : decode cX8_log 28 = .ok (.iconst 1, 1) := by decide +kernel
theorem dX8_log_29 : decode cX8_log 29 = .ok (.putfield 66, 3) := by decide +kernel
theorem dX8_log_32 : decode cX8_log 32 = .ok (.aload_n 0, 1) := by decide +kernel
theorem dX8_log_33 : decode cX8_log 33 = .ok (.getfield 66, 3) := by decide +kernel
theorem dX8_log_36 : decode cX8_log 36 = .ok (.iconst 1, 1) := by decide +kernel
theorem dX8_log_37 : decode cX8_log 37 = .ok (.if_icmp .ne 5, 3) := by decide +kernel
theorem dX8_log_40 : decode cX8_log 40 = .ok (.iconst 0, 1) := by decide +kernel
theorem dX8_log_41 : decode cX8_log 41 = .ok (.ireturn, 1) := by decide +kernel
theorem dX8_log_42 : decode cX8_log 42 = .ok (.aload_n 0, 1) := by decide +kernel
theorem dX8_log_43 : decode cX8_log 43 = .ok (.getfield 32, 3) := by decide +kernel
theorem dX8_log_46 : decode cX8_log 46 = .ok (.bipush 6, 2) := by decide +kernel
theorem dX8_log_48 : decode cX8_log 48 = .ok (.aload_n 0, 1) := by decide +kernel
theorem dX8_log_49 : decode cX8_log 49 = .ok (.iload_n 1, 1) := by decide +kernel
theorem dX8_log_50 : decode cX8_log 50 = .ok (.invokevirtual 303, 3) := by decide +kernel
theorem dX8_log_53 : decode cX8_log 53 = .ok (.imul, 1) := by decide +kernel
theorem dX8_log_54 : decode cX8_log 54 = .ok (.iload_n 2, 1) := by decide +kernel
theorem dX8_log_55 : decode cX8_log 55 = .ok (.iadd, 1) := by decide +kernel
theorem dX8_log_56 : decode cX8_log 56 = .ok (.iaload, 1) := by decide +kernel
theorem dX8_log_57 : decode cX8_log 57 = .ok (.istore_n 3, 1) := by decide +kernel
theorem dX8_log_58 : decode cX8_log 58 = .ok (.iload_n 2, 1) := by decide +kernel
theorem dX8_log_59 : decode cX8_log 59 = .ok (.iconst 5, 1) := by decide +kernel
theorem dX8_log_60 : decode cX8_log 60 = .ok (.if_icmp .ne 12, 3) := by decide +kernel
theorem dX8_log_63 : decode cX8_log 63 = .ok (.aload_n 0, 1) := by decide +kernel
theorem dX8_log_64 : decode cX8_log 64 = .ok (.getfield 44, 3) := by decide +kernel
theorem dX8_log_67 : decode cX8_log 67 = .ok (.iload_n 3, 1) := by decide +kernel
theorem dX8_log_68 : decode cX8_log 68 = .ok (.iaload, 1) := by decide +kernel
theorem dX8_log_69 : decode cX8_log 69 = .ok (.goto 4, 3) := by decide +kernel
theorem dX8_log_72 : decode cX8_log 72 = .ok (.iload_n 3, 1) := by decide +kernel
theorem dX8_log_73 : decode cX8_log 73 = .ok (.ireturn, 1) := by decide +kernel
set_option maxRecDepth 100000 in
set_option maxHeartbeats 4000000 in
theorem c_X8_log_r {hp : List gA} {M : gMd} {y z : Int32} (HM : gMod hp M) (hg : gLg M) : gM yX8_log cX8_log 4 ((some .int)) 1 22 [.ref 122, .int y, .int z] (hp) (0) (0) (fun v h => ∃ x, v = some (.int x) ∧ ∃ b, gMod h (M.set 2 b) ∧ gFM hp h) := by
  refine gM_of (ls0 := [some (.ref 122), some (.int y), some (.int z), none]) (by decide +kernel) (Nat.le_of_ble_eq_true rfl) rfl fun X C E => ?_
  refine g_aload_n (q := 1) C dX8_log_0 rfl rfl ?_
  refine g_iload_n (q := 2) C dX8_log_1 rfl rfl ?_
  refine g_iconst (v := 0) (q := 3) C dX8_log_2 (by decide) rfl ?_
  refine g_aload_n (q := 4) C dX8_log_3 rfl rfl ?_
  refine g_getfield (v := .int ((M.f 12))) (q := 7) C fX8_69 dX8_log_4 rfl HM.1 rfl ?_
  refine g_iconst (v := 1) (q := 8) C dX8_log_7 (by decide) rfl ?_
  refine g_isub (q := 9) C dX8_log_8 rfl ?_
  refine g_callSi (x := (rX8_within y 0 ((M.f 12) - 1))) (q := 12) (As := [.int y, .int 0, .int (((M.f 12) - 1))]) C gyX8_within t_1212 t_1211 (c_X8_within_m) dX8_log_9 rfl rfl rfl (Nat.le_of_ble_eq_true rfl) (Nat.le_of_ble_eq_true rfl) (Nat.le_of_ble_eq_true rfl) (Nat.le_of_ble_eq_true rfl) (Nat.le_of_ble_eq_true rfl) rfl ?_
  refine g_if_eq (t := 28) (q := 15) C dX8_log_12 (by decide) rfl (fun c_12 => ?_) (fun c_12 => ?_)
  ·
    refine g_iconst (v := 1) (q := 29) C dX8_log_28 (by decide) rfl ?_
    refine g_putfield (q := 32) C fX8_66 dX8_log_29 rfl HM.1 (Nat.le_of_ble_eq_true rfl) (Or.inl rfl) rfl rfl (by intro z h; cases h) ?_
    refine gMput (j := 2) (x := 1) HM rfl fun h1 HL1 fr1 => ?_
    refine g_aload_n (q := 33) C dX8_log_32 rfl rfl ?_
    refine g_getfield (v := .int 1) (q := 36) C fX8_66 dX8_log_33 rfl HL1.1 rfl ?_
    refine g_iconst (v := 1) (q := 37) C dX8_log_36 (by decide) rfl ?_
    refine g_icmp_ne_f (t := 42) (q := 40) C dX8_log_37 (by decide) rfl (by decide) ?_
    refine g_iconst (v := 0) (q := 41) C dX8_log_40 (by decide) rfl ?_
    exact E.1 _ _ _ _ _ _ _ dX8_log_41 rfl rfl (Nat.le_of_ble_eq_true rfl) (Nat.le_of_ble_eq_true rfl) ⟨_, rfl, _, HL1, fr1⟩
  ·
    refine g_iload_n (q := 16) C dX8_log_15 rfl rfl ?_
    refine g_iconst (v := 0) (q := 17) C dX8_log_16 (by decide) rfl ?_
    refine g_iconst (v := 5) (q := 18) C dX8_log_17 (by decide) rfl ?_
    refine g_callSi (x := (rX8_within z 0 5)) (q := 21) (As := [.int z, .int 0, .int 5]) C gyX8_within t_1212 t_1211 (c_X8_within_m) dX8_log_18 rfl rfl rfl (Nat.le_of_ble_eq_true rfl) (Nat.le_of_ble_eq_true rfl) (Nat.le_of_ble_eq_true rfl) (Nat.le_of_ble_eq_true rfl) (Nat.le_of_ble_eq_true rfl) rfl ?_
    skip
    skip
    refine g_if_eq (t := 28) (q := 24) C dX8_log_21 (by decide) rfl (fun c_21 => ?_) (fun c_21 => ?_)
    ·
      refine g_iconst (v := 1) (q := 29) C dX8_log_28 (by decide) rfl ?_
      refine g_putfield (q := 32) C fX8_66 dX8_log_29 rfl HM.1 (Nat.le_of_ble_eq_true rfl) (Or.inl rfl) rfl rfl (by intro z h; cases h) ?_
      refine gMput (j := 2) (x := 1) HM rfl fun h2 HL2 fr2 => ?_
      refine g_aload_n (q := 33) C dX8_log_32 rfl rfl ?_
      refine g_getfield (v := .int 1) (q := 36) C fX8_66 dX8_log_33 rfl HL2.1 rfl ?_
      refine g_iconst (v := 1) (q := 37) C dX8_log_36 (by decide) rfl ?_
      refine g_icmp_ne_f (t := 42) (q := 40) C dX8_log_37 (by decide) rfl (by decide) ?_
      refine g_iconst (v := 0) (q := 41) C dX8_log_40 (by decide) rfl ?_
      exact E.1 _ _ _ _ _ _ _ dX8_log_41 rfl rfl (Nat.le_of_ble_eq_true rfl) (Nat.le_of_ble_eq_true rfl) ⟨_, rfl, _, HL2, fr2⟩
    ·
      refine g_iconst (v := 0) (q := 25) C dX8_log_24 (by decide) rfl ?_
      refine g_goto (q := 29) C dX8_log_25 (by decide) ?_
      refine g_putfield (q := 32) C fX8_66 dX8_log_29 rfl HM.1 (Nat.le_of_ble_eq_true rfl) (Or.inl rfl) rfl rfl (by intro z h; cases h) ?_
      refine gMput (j := 2) (x := 0) HM rfl fun h3 HL3 fr3 => ?_
      refine g_aload_n (q := 33) C dX8_log_32 rfl rfl ?_
      refine g_getfield (v := .int 0) (q := 36) C fX8_66 dX8_log_33 rfl HL3.1 rfl ?_
      refine g_iconst (v := 1) (q := 37) C dX8_log_36 (by decide) rfl ?_
      refine g_icmp_ne_t (t := 42) C dX8_log_37 (by decide) (by decide) ?_
      refine g_aload_n (q := 43) C dX8_log_42 rfl rfl ?_
      refine g_getfield (v := .ref 129) (q := 46) C fX8_32 dX8_log_43 rfl HL3.1 rfl ?_
      refine g_bipush (v := 6) (q := 48) C dX8_log_46 (by decide) rfl ?_
      refine g_aload_n (q := 49) C dX8_log_48 rfl rfl ?_
      refine g_iload_n (q := 50) C dX8_log_49 rfl rfl ?_
      refine g_callVi (x := (rX8_logPlace (M.set 2 0) y)) (q := 53) (As := [.int y]) C gyX8_logPlace gvX8_logPlace t_1470 (c_X8_logPlace_m HL3) dX8_log_50 rfl HL3.1 rfl rfl rfl (Nat.le_of_ble_eq_true rfl) (Nat.le_of_ble_eq_true rfl) (Nat.le_of_ble_eq_true rfl) (Nat.le_of_ble_eq_true rfl) (Nat.le_of_ble_eq_true rfl) rfl ?_
      refine g_imul (q := 54) C dX8_log_53 rfl ?_
      refine g_iload_n (q := 55) C dX8_log_54 rfl rfl ?_
      refine g_iadd (q := 56) C dX8_log_55 rfl ?_
      obtain ⟨⟨b, hb, eb⟩, ⟨L, hL, eL⟩, hr⟩ := hg
      obtain ⟨a, ha, ey⟩ := gWj (by omega) eL c_12
      obtain ⟨p, hp9, ep9⟩ : ∃ p, p < 30 ∧ rX8_logPlace (M.set 2 0) y = nI p := ⟨(b + 30 - a) % 30, Nat.mod_lt _ (by decide), by unfold rX8_logPlace; rw [show (M.set 2 0).f 13 = nI b from (gset_n (by decide)).trans eb, ey]; exact gLpl hb (by omega)⟩
      obtain ⟨z', -, hz, ez⟩ := gWi (a := 0) (b := 5) (by decide) (by decide) c_21
      have e56 : (6 : Int32) * rX8_logPlace (M.set 2 0) y + z = nI (6 * p + z') := by rw [ep9, ez, g6b (by omega), nI_add]
      refine g_ialoadN (x := (M.a 6 (6 * p + z'))) (j := (6 * p + z')) (q := 57) C dX8_log_56 rfl (HL3.ar (i := 6) (n := 180) (by decide) rfl) (pk_in (6 * p + z') 180 (by omega) e56) (pk_cl (6 * p + z') e56 (by omega)) gset_a ?_
      refine g_istore_n (q := 58) C dX8_log_57 (Nat.le_of_ble_eq_true rfl) (by simp only [gset]; rfl) rfl ?_
      refine g_iload_n (q := 59) C dX8_log_58 rfl rfl ?_
      refine g_iconst (v := 5) (q := 60) C dX8_log_59 (by decide) rfl ?_
      refine g_icmp_ne (t := 72) (q := 63) C dX8_log_60 (by decide) rfl (fun c_60 => ?_) (fun c_60 => ?_)
      ·
        refine g_iload_n (q := 73) C dX8_log_72 rfl rfl ?_
        exact E.1 _ _ _ _ _ _ _ dX8_log_73 rfl rfl (Nat.le_of_ble_eq_true rfl) (Nat.le_of_ble_eq_true rfl) ⟨_, rfl, _, HL3, fr3⟩
      ·
        refine g_aload_n (q := 64) C dX8_log_63 rfl rfl ?_
        refine g_getfield (v := .ref 133) (q := 67) C fX8_44 dX8_log_64 rfl HL3.1 rfl ?_
        refine g_iload_n (q := 68) C dX8_log_67 rfl rfl ?_
        have e5 : z' = 5 := nI_inj (by omega) (by decide) (ez.symm.trans c_60)
        obtain ⟨u, hu, eu⟩ := (hr p hp9).1
        have e68 : M.a 6 (6 * p + z') = nI u := by rw [e5]; exact eu
        refine g_ialoadN (x := (M.a 10 u)) (j := u) (q := 69) C dX8_log_68 rfl (HL3.ar (i := 10) (n := 8192) (by decide) rfl) (pk_in u 8192 (by omega) e68) (pk_cl u e68 (by omega)) gset_a ?_
        refine g_goto (q := 73) C dX8_log_69 (by decide) ?_
        exact E.1 _ _ _ _ _ _ _ dX8_log_73 rfl rfl (Nat.le_of_ble_eq_true rfl) (Nat.le_of_ble_eq_true rfl) ⟨_, rfl, _, HL3, fr3⟩
theorem dX8_byteOf_0 : decode cX8_byteOf 0 = .ok (.aload_n 0, 1) := by decide +kernel
theorem dX8_byteOf_1 : decode cX8_byteOf 1 = .ok (.iconst 0, 1) := by decide +kernel
theorem dX8_byteOf_2 : decode cX8_byteOf 2 = .ok (.putfield 66, 3) := by decide +kernel
theorem dX8_byteOf_5 : decode cX8_byteOf 5 = .ok (.iload_n 1, 1) := by decide +kernel
theorem dX8_byteOf_6 : decode cX8_byteOf 6 = .ok (.iconst 0, 1) := by decide +kernel
theorem dX8_byteOf_7 : decode cX8_byteOf 7 = .ok (.aload_n 0, 1) := by decide +kernel
theorem dX8_byteOf_8 : decode cX8_byteOf 8 = .ok (.getfield 69, 3) := by decide +kernel
theorem dX8_byteOf_11 : decode cX8_byteOf 11 = .ok (.iconst 1, 1) := by decide +kernel
theorem dX8_byteOf_12 : decode cX8_byteOf 12 = .ok (.isub, 1) := by decide +kernel
theorem dX8_byteOf_13 : decode cX8_byteOf 13 = .ok (.invokestatic 82, 3) := by decide +kernel
theorem dX8_byteOf_16 : decode cX8_byteOf 16 = .ok (.ifCond .eq 47, 3) := by decide +kernel
theorem dX8_byteOf_19 : decode cX8_byteOf 19 = .ok (.iload_n 2, 1) := by decide +kernel
theorem dX8_byteOf_20 : decode cX8_byteOf 20 = .ok (.iconst 0, 1) := by decide +kernel
theorem dX8_byteOf_21 : decode cX8_byteOf 21 = .ok (.aload_n 0, 1) := by decide +kernel
theorem dX8_byteOf_22 : decode cX8_byteOf 22 = .ok (.getfield 32, 3) := by decide +kernel
theorem dX8_byteOf_25 : decode cX8_byteOf 25 = .ok (.bipush 6, 2) := by decide +kernel
theorem dX8_byteOf_27 : decode cX8_byteOf 27 = .ok (.aload_n 0, 1) := by decide +kernel
theorem dX8_byteOf_28 : decode cX8_byteOf 28 = .ok (.iload_n 1, 1) := by decide +kernel
theorem dX8_byteOf_29 : decode cX8_byteOf 29 = .ok (.invokevirtual 303, 3) := by decide +kernel
theorem dX8_byteOf_32 : decode cX8_byteOf 32 = .ok (.imul, 1) := by decide +kernel
theorem dX8_byteOf_33 : decode cX8_byteOf 33 = .ok (.iconst 2, 1) := by decide +kernel
theorem dX8_byteOf_34 : decode cX8_byteOf 34 = .ok (.iadd, 1) := by decide +kernel
theorem dX8_byteOf_35 : decode cX8_byteOf 35 = .ok (.iaload, 1) := by decide +kernel
theorem dX8_byteOf_36 : decode cX8_byteOf 36 = .ok (.iconst 3, 1) := by decide +kernel
theorem dX8_byteOf_37 : decode cX8_byteOf 37 = .ok (.iadd, 1) := by decide +kernel
theorem dX8_byteOf_38 : decode cX8_byteOf 38 = .ok (.invokestatic 82, 3) := by decide +kernel
theorem dX8_byteOf_41 : decode cX8_byteOf 41 = .ok (.ifCond .eq 22, 3) := by decide +kernel
theorem dX8_byteOf_44 : decode cX8_byteOf 44 = .ok (.aload_n 0, 1) := by decide +kernel
theorem dX8_byteOf_45 : decode cX8_byteOf 45 = .ok (.getfield 35, 3) := by decide +kernel
theorem dX8_byteOf_48 : decode cX8_byteOf 48 = .ok (.sipush 258, 3) := by decide +kernel
theorem dX8_byteOf_51 : decode cX8_byteOf 51 = .ok (.aload_n 0, 1) := by decide +kernel
theorem dX8_byteOf_52 : decode cX8_byteOf 52 = .ok (.iload_n 1, 1) := by decide +kernel
theorem dX8_byteOf_53 : decode cX8_byteOf 53 = .ok (.invokevirtual 303, 3) := by decide +kernel
theorem dX8_byteOf_56 : decode cX8_byteOf 56 = .ok (.imul, 1) := by decide +kernel
theorem dX8_byteOf_57 : decode cX8_byteOf 57 = .ok (.iload_n 2, 1) := by decide +kernel
theorem dX8_byteOf_58 : decode cX8_byteOf 58 = .ok (.iadd, 1) := by decide +kernel
theorem dX8_byteOf_59 : decode cX8_byteOf 59 = .ok (.iaload, 1) := by decide +kernel
theorem dX8_byteOf_60 : decode cX8_byteOf 60 = .ok (.goto 4, 3) := by decide +kernel
theorem dX8_byteOf_63 : decode cX8_byteOf 63 = .ok (.iconst (-1), 1) := by decide +kernel
theorem dX8_byteOf_64 : decode cX8_byteOf 64 = .ok (.ireturn, 1) := by decide +kernel
set_option maxRecDepth 100000 in
set_option maxHeartbeats 4000000 in
theorem c_X8_byteOf_r {hp : List gA} {M : gMd} {y z : Int32} (HM : gMod hp M) (hg : gLg M) : gM yX8_byteOf cX8_byteOf 3 ((some .int)) 1 22 [.ref 122, .int y, .int z] (hp) (0) (0) (fun v h => ∃ x, v = some (.int x) ∧ ∃ b, gMod h (M.set 2 b) ∧ gFM hp h) := by
  refine gM_of (ls0 := [some (.ref 122), some (.int y), some (.int z)]) (by decide +kernel) (Nat.le_of_ble_eq_true rfl) rfl fun X C E => ?_
  refine g_aload_n (q := 1) C dX8_byteOf_0 rfl rfl ?_
  refine g_iconst (v := 0) (q := 2) C dX8_byteOf_1 (by decide) rfl ?_
  refine g_putfield (q := 5) C fX8_66 dX8_byteOf_2 rfl HM.1 (Nat.le_of_ble_eq_true rfl) (Or.inl rfl) rfl rfl (by intro z h; cases h) ?_
  refine gMput (j := 2) (x := 0) HM rfl fun h1 HL1 fr1 => ?_
  refine g_iload_n (q := 6) C dX8_byteOf_5 rfl rfl ?_
  refine g_iconst (v := 0) (q := 7) C dX8_byteOf_6 (by decide) rfl ?_
  refine g_aload_n (q := 8) C dX8_byteOf_7 rfl rfl ?_
  refine g_getfield (v := .int ((M.f 12))) (q := 11) C fX8_69 dX8_byteOf_8 rfl HL1.1 rfl ?_
  refine g_iconst (v := 1) (q := 12) C dX8_byteOf_11 (by decide) rfl ?_
  refine g_isub (q := 13) C dX8_byteOf_12 rfl ?_
  refine g_callSi (x := (rX8_within y 0 ((M.f 12) - 1))) (q := 16) (As := [.int y, .int 0, .int (((M.f 12) - 1))]) C gyX8_within t_1212 t_1211 (c_X8_within_m) dX8_byteOf_13 rfl rfl rfl (Nat.le_of_ble_eq_true rfl) (Nat.le_of_ble_eq_true rfl) (Nat.le_of_ble_eq_true rfl) (Nat.le_of_ble_eq_true rfl) (Nat.le_of_ble_eq_true rfl) rfl ?_
  refine g_if_eq (t := 63) (q := 19) C dX8_byteOf_16 (by decide) rfl (fun c_16 => ?_) (fun c_16 => ?_)
  ·
    refine g_iconst (v := (-1)) (q := 64) C dX8_byteOf_63 (by decide) rfl ?_
    exact E.1 _ _ _ _ _ _ _ dX8_byteOf_64 rfl rfl (Nat.le_of_ble_eq_true rfl) (Nat.le_of_ble_eq_true rfl) ⟨_, rfl, _, HL1, fr1⟩
  ·
    refine g_iload_n (q := 20) C dX8_byteOf_19 rfl rfl ?_
    refine g_iconst (v := 0) (q := 21) C dX8_byteOf_20 (by decide) rfl ?_
    refine g_aload_n (q := 22) C dX8_byteOf_21 rfl rfl ?_
    refine g_getfield (v := .ref 129) (q := 25) C fX8_32 dX8_byteOf_22 rfl HL1.1 rfl ?_
    refine g_bipush (v := 6) (q := 27) C dX8_byteOf_25 (by decide) rfl ?_
    refine g_aload_n (q := 28) C dX8_byteOf_27 rfl rfl ?_
    refine g_iload_n (q := 29) C dX8_byteOf_28 rfl rfl ?_
    refine g_callVi (x := (rX8_logPlace (M.set 2 0) y)) (q := 32) (As := [.int y]) C gyX8_logPlace gvX8_logPlace t_1470 (c_X8_logPlace_m HL1) dX8_byteOf_29 rfl HL1.1 rfl rfl rfl (Nat.le_of_ble_eq_true rfl) (Nat.le_of_ble_eq_true rfl) (Nat.le_of_ble_eq_true rfl) (Nat.le_of_ble_eq_true rfl) (Nat.le_of_ble_eq_true rfl) rfl ?_
    refine g_imul (q := 33) C dX8_byteOf_32 rfl ?_
    refine g_iconst (v := 2) (q := 34) C dX8_byteOf_33 (by decide) rfl ?_
    refine g_iadd (q := 35) C dX8_byteOf_34 rfl ?_
    obtain ⟨⟨b, hb, eb⟩, ⟨L, hL, eL⟩, hr⟩ := hg
    obtain ⟨a, ha, ey⟩ := gWj (by omega) eL c_16
    obtain ⟨p, hp9, ep9⟩ : ∃ p, p < 30 ∧ rX8_logPlace (M.set 2 0) y = nI p := ⟨(b + 30 - a) % 30, Nat.mod_lt _ (by decide), by unfold rX8_logPlace; rw [show (M.set 2 0).f 13 = nI b from (gset_n (by decide)).trans eb, ey]; exact gLpl hb (by omega)⟩
    have e35 : (6 : Int32) * rX8_logPlace (M.set 2 0) y + 2 = nI (6 * p + 2) := by rw [ep9, g6b (by omega), show (2 : Int32) = nI 2 from rfl, nI_add]
    refine g_ialoadN (x := (M.a 6 (6 * p + 2))) (j := (6 * p + 2)) (q := 36) C dX8_byteOf_35 rfl (HL1.ar (i := 6) (n := 180) (by decide) rfl) (pk_in (6 * p + 2) 180 (by omega) e35) (pk_cl (6 * p + 2) e35 (by omega)) gset_a ?_
    refine g_iconst (v := 3) (q := 37) C dX8_byteOf_36 (by decide) rfl ?_
    refine g_iadd (q := 38) C dX8_byteOf_37 rfl ?_
    refine g_callSi (x := (rX8_within z 0 ((M.a 6 (6 * p + 2)) + 3))) (q := 41) (As := [.int z, .int 0, .int (((M.a 6 (6 * p + 2)) + 3))]) C gyX8_within t_1212 t_1211 (c_X8_within_m) dX8_byteOf_38 rfl rfl rfl (Nat.le_of_ble_eq_true rfl) (Nat.le_of_ble_eq_true rfl) (Nat.le_of_ble_eq_true rfl) (Nat.le_of_ble_eq_true rfl) (Nat.le_of_ble_eq_true rfl) rfl ?_
    refine g_if_eq (t := 63) (q := 44) C dX8_byteOf_41 (by decide) rfl (fun c_41 => ?_) (fun c_41 => ?_)
    ·
      refine g_iconst (v := (-1)) (q := 64) C dX8_byteOf_63 (by decide) rfl ?_
      exact E.1 _ _ _ _ _ _ _ dX8_byteOf_64 rfl rfl (Nat.le_of_ble_eq_true rfl) (Nat.le_of_ble_eq_true rfl) ⟨_, rfl, _, HL1, fr1⟩
    ·
      refine g_aload_n (q := 45) C dX8_byteOf_44 rfl rfl ?_
      refine g_getfield (v := .ref 130) (q := 48) C fX8_35 dX8_byteOf_45 rfl HL1.1 rfl ?_
      refine g_sipush (v := 258) (q := 51) C dX8_byteOf_48 (by decide) rfl ?_
      refine g_aload_n (q := 52) C dX8_byteOf_51 rfl rfl ?_
      refine g_iload_n (q := 53) C dX8_byteOf_52 rfl rfl ?_
      refine g_callVi (x := (rX8_logPlace (M.set 2 0) y)) (q := 56) (As := [.int y]) C gyX8_logPlace gvX8_logPlace t_1470 (c_X8_logPlace_m HL1) dX8_byteOf_53 rfl HL1.1 rfl rfl rfl (Nat.le_of_ble_eq_true rfl) (Nat.le_of_ble_eq_true rfl) (Nat.le_of_ble_eq_true rfl) (Nat.le_of_ble_eq_true rfl) (Nat.le_of_ble_eq_true rfl) rfl ?_
      refine g_imul (q := 57) C dX8_byteOf_56 rfl ?_
      refine g_iload_n (q := 58) C dX8_byteOf_57 rfl rfl ?_
      refine g_iadd (q := 59) C dX8_byteOf_58 rfl ?_
      obtain ⟨w, hw, ew⟩ := (hr p hp9).2
      obtain ⟨m, -, hm, ez⟩ := gWi (a := 0) (b := w + 3) (by decide) (by omega) (by rw [show nI (w + 3) = M.a 6 (6 * p + 2) + 3 by rw [ew, show (3 : Int32) = nI 3 from rfl, nI_add]]; exact c_41)
      have e59 : (258 : Int32) * rX8_logPlace (M.set 2 0) y + z = nI (258 * p + m) := by rw [ep9, ez, g258 (by omega), nI_add]
      refine g_ialoadN (x := (M.a 7 (258 * p + m))) (j := (258 * p + m)) (q := 60) C dX8_byteOf_59 rfl (HL1.ar (i := 7) (n := 7740) (by decide) rfl) (pk_in (258 * p + m) 7740 (by omega) e59) (pk_cl (258 * p + m) e59 (by omega)) gset_a ?_
      refine g_goto (q := 64) C dX8_byteOf_60 (by decide) ?_
      exact E.1 _ _ _ _ _ _ _ dX8_byteOf_64 rfl rfl (Nat.le_of_ble_eq_true rfl) (Nat.le_of_ble_eq_true rfl) ⟨_, rfl, _, HL1, fr1⟩
