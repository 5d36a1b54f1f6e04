/-! the reference: a fault put (by program: wip/p2/m_mt.py) -/
def gPf (M : gMd) (y z w : Int32) (k n : Nat) : gMd := (((M.put 4 430 (nI n)).put 4 (431 + 3 * k) y).put 4 (431 + 3 * k + 1) z).put 4 (431 + 3 * k + 2) w
theorem dX8_putsFault_0 : decode cX8_putsFault 0 = .ok (.aload_n 0, 1) := by decide +kernel
theorem dX8_putsFault_1 : decode cX8_putsFault 1 = .ok (.iload_n 1, 1) := by decide +kernel
theorem dX8_putsFault_2 : decode cX8_putsFault 2 = .ok (.invokevirtual 144, 3) := by decide +kernel
theorem dX8_putsFault_5 : decode cX8_putsFault 5 = .ok (.istore 4, 2) := by decide +kernel
theorem dX8_putsFault_7 : decode cX8_putsFault 7 = .ok (.iload 4, 2) := by decide +kernel
theorem dX8_putsFault_9 : decode cX8_putsFault 9 = .ok (.ifCond .ge 25, 3) := by decide +kernel
theorem dX8_putsFault_12 : decode cX8_putsFault 12 = .ok (.aload_n 0, 1) := by decide +kernel
theorem dX8_putsFault_13 : decode cX8_putsFault 13 = .ok (.getfield 22, 3) := by decide +kernel
theorem dX8_putsFault_16 : decode cX8_putsFault 16 = .ok (.sipush 430, 3) := by decide +kernel
theorem dX8_putsFault_19 : decode cX8_putsFault 19 = .ok (.iaload, 1) := by decide +kernel
theorem dX8_putsFault_20 : decode cX8_putsFault 20 = .ok (.istore 4, 2) := by decide +kernel
theorem dX8_putsFault_22 : decode cX8_putsFault 22 = .ok (.aload_n 0, 1) := by decide +kernel
theorem dX8_putsFault_23 : decode cX8_putsFault 23 = .ok (.getfield 22, 3) := by decide +kernel
theorem dX8_putsFault_26 : decode cX8_putsFault 26 = .ok (.sipush 430, 3) := by decide +kernel
theorem dX8_putsFault_29 : decode cX8_putsFault 29 = .ok (.dup2, 1) := by decide +kernel
theorem dX8_putsFault_30 : decode cX8_putsFault 30 = .ok (.iaload, 1) := by decide +kernel
theorem dX8_putsFault_31 : decode cX8_putsFault 31 = .ok (.iconst 1, 1) := by decide +kernel
theorem dX8_putsFault_32 : decode cX8_putsFault 32 = .ok (.iadd, 1) := by decide +kernel
theorem dX8_putsFault_33 : decode cX8_putsFault 33 = .ok (.iastore, 1) := by decide +kernel
theorem dX8_putsFault_34 : decode cX8_putsFault 34 = .ok (.aload_n 0, 1) := by decide +kernel
theorem dX8_putsFault_35 : decode cX8_putsFault 35 = .ok (.getfield 22, 3) := by decide +kernel
theorem dX8_putsFault_38 : decode cX8_putsFault 38 = .ok (.sipush 431, 3) := by decide +kernel
theorem dX8_putsFault_41 : decode cX8_putsFault 41 = .ok (.iconst 3, 1) := by decide +kernel
theorem dX8_putsFault_42 : decode cX8_putsFault 42 = .ok (.iload 4, 2) := by decide +kernel
theorem dX8_putsFault_44 : decode cX8_putsFault 44 = .ok (.imul, 1) := by decide +kernel
theorem dX8_putsFault_45 : decode cX8_putsFault 45 = .ok (.iadd, 1) := by decide +kernel
theorem dX8_putsFault_46 : decode cX8_putsFault 46 = .ok (.iload_n 1, 1) := by decide +kernel
theorem dX8_putsFault_47 : decode cX8_putsFault 47 = .ok (.iastore, 1) := by decide +kernel
theorem dX8_putsFault_48 : decode cX8_putsFault 48 = .ok (.aload_n 0, 1) := by decide +kernel
theorem dX8_putsFault_49 : decode cX8_putsFault 49 = .ok (.getfield 22, 3) := by decide +kernel
theorem dX8_putsFault_52 : decode cX8_putsFault 52 = .ok (.sipush 431, 3) := by decide +kernel
theorem dX8_putsFault_55 : decode cX8_putsFault 55 = .ok (.iconst 3, 1) := by decide +kernel
theorem dX8_putsFault_56 : decode cX8_putsFault 56 = .ok (.iload 4, 2) := by decide +kernel
theorem dX8_putsFault_58 : decode cX8_putsFault 58 = .ok (.imul, 1) := by decide +kernel
theorem dX8_putsFault_59 : decode cX8_putsFault 59 = .ok (.iadd, 1) := by decide +kernel
theorem dX8_putsFault_60 : decode cX8_putsFault 60 = .ok (.iconst 1, 1) := by decide +kernel
theorem dX8_putsFault_61 : decode cX8_putsFault 61 = .ok (.iadd, 1) := by decide +kernel
theorem dX8_putsFault_62 : decode cX8_putsFault 62 = .ok (.iload_n 2, 1) := by decide +kernel
theorem dX8_putsFault_63 : decode cX8_putsFault 63 = .ok (.iastore, 1) := by decide +kernel
theorem dX8_putsFault_64 : decode cX8_putsFault 64 = .ok (.aload_n 0, 1) := by decide +kernel
theorem dX8_putsFault_65 : decode cX8_putsFault 65 = .ok (.getfield 22, 3) := by decide +kernel
theorem dX8_putsFault_68 : decode cX8_putsFault 68 = .ok (.sipush 431, 3) := by decide +kernel
theorem dX8_putsFault_71 : decode cX8_putsFault 71 = .ok (.iconst 3, 1) := by decide +kernel
theorem dX8_putsFault_72 : decode cX8_putsFault 72 = .ok (.iload 4, 2) := by decide +kernel
theorem dX8_putsFault_74 : decode cX8_putsFault 74 = .ok (.imul, 1) := by decide +kernel
theorem dX8_putsFault_75 : decode cX8_putsFault 75 = .ok (.iadd, 1) := by decide +kernel
theorem dX8_putsFault_76 : decode cX8_putsFault 76 = .ok (.iconst 2, 1) := by decide +kernel
theorem dX8_putsFault_77 : decode cX8_putsFault 77 = .ok (.iadd, 1) := by decide +kernel
theorem dX8_putsFault_78 : decode cX8_putsFault 78 = .ok (.iload_n 3, 1) := by decide +kernel
theorem dX8_putsFault_79 : decode cX8_putsFault 79 = .ok (.iastore, 1) := by decide +kernel
theorem dX8_putsFault_80 : decode cX8_putsFault 80 = .ok (.return_, 1) := by decide +kernel
set_option maxRecDepth 100000 in
set_option maxHeartbeats 4000000 in
theorem c_X8_putsFault_r {hp : List gA} {M : gMd} {y z w : Int32} (HM : gMod hp M) (hf : gIr (M.a 4 430) 24) : gM yX8_putsFault cX8_putsFault 5 (none) 1 22 [.ref 122, .int y, .int z, .int w] (hp) (0) (0) (fun v h => v = none ∧ ∃ k n, ((k < (M.a 4 430).toNatClampNeg ∧ n = (M.a 4 430).toNatClampNeg ∧ M.a 4 (431 + 3 * k) = y) ∨ (k = (M.a 4 430).toNatClampNeg ∧ n = (M.a 4 430).toNatClampNeg + 1 ∧ ∀ j, j < (M.a 4 430).toNatClampNeg → ¬ M.a 4 (431 + 3 * j) = y)) ∧ gMod h (gPf M y z w k n) ∧ gFM hp h) := by
  refine gM_of (ls0 := [some (.ref 122), some (.int y), some (.int z), some (.int w), none]) (by decide +kernel) (Nat.le_of_ble_eq_true rfl) rfl fun X C E => ?_
  have h24 := hf.le (by decide)
  have hf25 : gIr (M.a 4 430) 25 := hf.imp fun n h => ⟨Nat.le_succ_of_le h.1, h.2⟩
  refine g_aload_n (q := 1) C dX8_putsFault_0 rfl rfl ?_
  refine g_iload_n (q := 2) C dX8_putsFault_1 rfl rfl ?_
  refine g_callVip (q := 5) (As := [.int y]) C gyX8_faultAt gvX8_faultAt t_1284 (c_X8_faultAt_r (y := y) HM hf25) dX8_putsFault_2 rfl HM.1 rfl rfl rfl (Nat.le_of_ble_eq_true rfl) (Nat.le_of_ble_eq_true rfl) (Nat.le_of_ble_eq_true rfl) (Nat.le_of_ble_eq_true rfl) (Nat.le_of_ble_eq_true rfl) rfl (fun x1 h1 z1 => ?_)
  obtain ⟨rfl, z1⟩ := z1
  refine g_istore (q := 7) C dX8_putsFault_5 (Nat.le_of_ble_eq_true rfl) (by simp only [gset]; rfl) rfl ?_
  rcases z1 with ⟨ex, hno⟩ | ⟨k9, hk9, ex, ek9⟩
  ·
    rw [ex]
    refine g_iload (q := 9) C dX8_putsFault_7 rfl rfl ?_
    refine g_if_ge_f (t := 34) (q := 12) C dX8_putsFault_9 (by decide) rfl (by decide) ?_
    refine g_aload_n (q := 13) C dX8_putsFault_12 rfl rfl ?_
    refine g_getfield (v := .ref 127) (q := 16) C fX8_22 dX8_putsFault_13 rfl HM.1 rfl ?_
    refine g_sipush (v := 430) (q := 19) C dX8_putsFault_16 (by decide) rfl ?_
    refine g_ialoadN (x := (M.a 4 430)) (j := 430) (q := 20) C dX8_putsFault_19 rfl (HM.ar (i := 4) (n := 772) (by decide) rfl) (pk_in 430 772 (by decide)) (pk_cl 430) rfl ?_
    rw [show M.a 4 430 = nI (M.a 4 430).toNatClampNeg from hf.c (by decide)]
    refine g_istore (q := 22) C dX8_putsFault_20 (Nat.le_of_ble_eq_true rfl) (by simp only [gset]; rfl) rfl ?_
    refine g_aload_n (q := 23) C dX8_putsFault_22 rfl rfl ?_
    refine g_getfield (v := .ref 127) (q := 26) C fX8_22 dX8_putsFault_23 rfl HM.1 rfl ?_
    refine g_sipush (v := 430) (q := 29) C dX8_putsFault_26 (by decide) rfl ?_
    refine g_dup2 (q := 30) C dX8_putsFault_29 rfl rfl rfl ?_
    refine g_ialoadN (x := (M.a 4 430)) (j := 430) (q := 31) C dX8_putsFault_30 rfl (HM.ar (i := 4) (n := 772) (by decide) rfl) (pk_in 430 772 (by decide)) (pk_cl 430) rfl ?_
    refine g_iconst (v := 1) (q := 32) C dX8_putsFault_31 (by decide) rfl ?_
    refine g_iadd (q := 33) C dX8_putsFault_32 rfl ?_
    refine g_iastoreN (j := 430) (q := 34) C dX8_putsFault_33 rfl (HM.ar (i := 4) (n := 772) (by decide) rfl) (pk_in 430 772 (by decide)) (pk_cl 430) ?_
    refine gMsto (i := 4) (j := 430) (x := ((M.a 4 430) + 1)) HM (by decide) rfl rfl fun h2 HL2 fr2 => ?_
    refine g_aload_n (q := 35) C dX8_putsFault_34 rfl rfl ?_
    refine g_getfield (v := .ref 127) (q := 38) C fX8_22 dX8_putsFault_35 rfl HL2.1 rfl ?_
    refine g_sipush (v := 431) (q := 41) C dX8_putsFault_38 (by decide) rfl ?_
    refine g_iconst (v := 3) (q := 42) C dX8_putsFault_41 (by decide) rfl ?_
    refine g_iload (q := 44) C dX8_putsFault_42 rfl rfl ?_
    refine g_imul (q := 45) C dX8_putsFault_44 rfl ?_
    refine g_iadd (q := 46) C dX8_putsFault_45 rfl ?_
    refine g_iload_n (q := 47) C dX8_putsFault_46 rfl rfl ?_
    refine g_iastoreN (j := (431 + 3 * (M.a 4 430).toNatClampNeg)) (q := 48) C dX8_putsFault_47 rfl (HL2.ar (i := 4) (n := 772) (by decide) rfl) (pk_in (431 + 3 * (M.a 4 430).toNatClampNeg) 772 (by omega) (g3j (by omega))) (pk_cl (431 + 3 * (M.a 4 430).toNatClampNeg) (g3j (by omega)) (by omega)) ?_
    refine gMsto (i := 4) (j := (431 + 3 * (M.a 4 430).toNatClampNeg)) (x := y) HL2 (by decide) rfl rfl fun h3 HL3 fr3 => ?_
    refine g_aload_n (q := 49) C dX8_putsFault_48 rfl rfl ?_
    refine g_getfield (v := .ref 127) (q := 52) C fX8_22 dX8_putsFault_49 rfl HL3.1 rfl ?_
    refine g_sipush (v := 431) (q := 55) C dX8_putsFault_52 (by decide) rfl ?_
    refine g_iconst (v := 3) (q := 56) C dX8_putsFault_55 (by decide) rfl ?_
    refine g_iload (q := 58) C dX8_putsFault_56 rfl rfl ?_
    refine g_imul (q := 59) C dX8_putsFault_58 rfl ?_
    refine g_iadd (q := 60) C dX8_putsFault_59 rfl ?_
    refine g_iconst (v := 1) (q := 61) C dX8_putsFault_60 (by decide) rfl ?_
    refine g_iadd (q := 62) C dX8_putsFault_61 rfl ?_
    refine g_iload_n (q := 63) C dX8_putsFault_62 rfl rfl ?_
    refine g_iastoreN (j := (431 + 3 * (M.a 4 430).toNatClampNeg + 1)) (q := 64) C dX8_putsFault_63 rfl (HL3.ar (i := 4) (n := 772) (by decide) rfl) (pk_in (431 + 3 * (M.a 4 430).toNatClampNeg + 1) 772 (by omega) (g3c (c := 1) (by omega) (by decide))) (pk_cl (431 + 3 * (M.a 4 430).toNatClampNeg + 1) (g3c (c := 1) (by omega) (by decide)) (by omega)) ?_
    refine gMsto (i := 4) (j := (431 + 3 * (M.a 4 430).toNatClampNeg + 1)) (x := z) HL3 (by decide) rfl rfl fun h4 HL4 fr4 => ?_
    refine g_aload_n (q := 65) C dX8_putsFault_64 rfl rfl ?_
    refine g_getfield (v := .ref 127) (q := 68) C fX8_22 dX8_putsFault_65 rfl HL4.1 rfl ?_
    refine g_sipush (v := 431) (q := 71) C dX8_putsFault_68 (by decide) rfl ?_
    refine g_iconst (v := 3) (q := 72) C dX8_putsFault_71 (by decide) rfl ?_
    refine g_iload (q := 74) C dX8_putsFault_72 rfl rfl ?_
    refine g_imul (q := 75) C dX8_putsFault_74 rfl ?_
    refine g_iadd (q := 76) C dX8_putsFault_75 rfl ?_
    refine g_iconst (v := 2) (q := 77) C dX8_putsFault_76 (by decide) rfl ?_
    refine g_iadd (q := 78) C dX8_putsFault_77 rfl ?_
    refine g_iload_n (q := 79) C dX8_putsFault_78 rfl rfl ?_
    refine g_iastoreN (j := (431 + 3 * (M.a 4 430).toNatClampNeg + 2)) (q := 80) C dX8_putsFault_79 rfl (HL4.ar (i := 4) (n := 772) (by decide) rfl) (pk_in (431 + 3 * (M.a 4 430).toNatClampNeg + 2) 772 (by omega) (g3c (c := 2) (by omega) (by decide))) (pk_cl (431 + 3 * (M.a 4 430).toNatClampNeg + 2) (g3c (c := 2) (by omega) (by decide)) (by omega)) ?_
    refine gMsto (i := 4) (j := (431 + 3 * (M.a 4 430).toNatClampNeg + 2)) (x := w) HL4 (by decide) rfl rfl fun h5 HL5 fr5 => ?_
    exact E.2.1 _ _ _ _ _ dX8_putsFault_80 rfl (Nat.le_of_ble_eq_true rfl) (Nat.le_of_ble_eq_true rfl) ⟨rfl, (M.a 4 430).toNatClampNeg, (M.a 4 430).toNatClampNeg + 1, Or.inr ⟨rfl, rfl, hno⟩, (by unfold gPf; rw [← nI_1, ← hf.c (by decide)]; exact HL5), (gFM.trans (gFM.trans (gFM.trans fr2 fr3) fr4) fr5)⟩
  ·
    rw [ex]
    refine g_iload (q := 9) C dX8_putsFault_7 rfl rfl ?_
    refine g_if_ge_t (t := 34) C dX8_putsFault_9 (by decide) (nI_pos2 (by omega)) ?_
    refine g_aload_n (q := 35) C dX8_putsFault_34 rfl rfl ?_
    refine g_getfield (v := .ref 127) (q := 38) C fX8_22 dX8_putsFault_35 rfl HM.1 rfl ?_
    refine g_sipush (v := 431) (q := 41) C dX8_putsFault_38 (by decide) rfl ?_
    refine g_iconst (v := 3) (q := 42) C dX8_putsFault_41 (by decide) rfl ?_
    refine g_iload (q := 44) C dX8_putsFault_42 rfl rfl ?_
    refine g_imul (q := 45) C dX8_putsFault_44 rfl ?_
    refine g_iadd (q := 46) C dX8_putsFault_45 rfl ?_
    refine g_iload_n (q := 47) C dX8_putsFault_46 rfl rfl ?_
    refine g_iastoreN (j := (431 + 3 * k9)) (q := 48) C dX8_putsFault_47 rfl (HM.ar (i := 4) (n := 772) (by decide) rfl) (pk_in (431 + 3 * k9) 772 (by omega) (g3j (by omega))) (pk_cl (431 + 3 * k9) (g3j (by omega)) (by omega)) ?_
    refine gMsto (i := 4) (j := (431 + 3 * k9)) (x := y) HM (by decide) rfl rfl fun h6 HL6 fr6 => ?_
    refine g_aload_n (q := 49) C dX8_putsFault_48 rfl rfl ?_
    refine g_getfield (v := .ref 127) (q := 52) C fX8_22 dX8_putsFault_49 rfl HL6.1 rfl ?_
    refine g_sipush (v := 431) (q := 55) C dX8_putsFault_52 (by decide) rfl ?_
    refine g_iconst (v := 3) (q := 56) C dX8_putsFault_55 (by decide) rfl ?_
    refine g_iload (q := 58) C dX8_putsFault_56 rfl rfl ?_
    refine g_imul (q := 59) C dX8_putsFault_58 rfl ?_
    refine g_iadd (q := 60) C dX8_putsFault_59 rfl ?_
    refine g_iconst (v := 1) (q := 61) C dX8_putsFault_60 (by decide) rfl ?_
    refine g_iadd (q := 62) C dX8_putsFault_61 rfl ?_
    refine g_iload_n (q := 63) C dX8_putsFault_62 rfl rfl ?_
    refine g_iastoreN (j := (431 + 3 * k9 + 1)) (q := 64) C dX8_putsFault_63 rfl (HL6.ar (i := 4) (n := 772) (by decide) rfl) (pk_in (431 + 3 * k9 + 1) 772 (by omega) (g3c (c := 1) (by omega) (by decide))) (pk_cl (431 + 3 * k9 + 1) (g3c (c := 1) (by omega) (by decide)) (by omega)) ?_
    refine gMsto (i := 4) (j := (431 + 3 * k9 + 1)) (x := z) HL6 (by decide) rfl rfl fun h7 HL7 fr7 => ?_
    refine g_aload_n (q := 65) C dX8_putsFault_64 rfl rfl ?_
    refine g_getfield (v := .ref 127) (q := 68) C fX8_22 dX8_putsFault_65 rfl HL7.1 rfl ?_
    refine g_sipush (v := 431) (q := 71) C dX8_putsFault_68 (by decide) rfl ?_
    refine g_iconst (v := 3) (q := 72) C dX8_putsFault_71 (by decide) rfl ?_
    refine g_iload (q := 74) C dX8_putsFault_72 rfl rfl ?_
    refine g_imul (q := 75) C dX8_putsFault_74 rfl ?_
    refine g_iadd (q := 76) C dX8_putsFault_75 rfl ?_
    refine g_iconst (v := 2) (q := 77) C dX8_putsFault_76 (by decide) rfl ?_
    refine g_iadd (q := 78) C dX8_putsFault_77 rfl ?_
    refine g_iload_n (q := 79) C dX8_putsFault_78 rfl rfl ?_
    refine g_iastoreN (j := (431 + 3 * k9 + 2)) (q := 80) C dX8_putsFault_79 rfl (HL7.ar (i := 4) (n := 772) (by decide) rfl) (pk_in (431 + 3 * k9 + 2) 772 (by omega) (g3c (c := 2) (by omega) (by decide))) (pk_cl (431 + 3 * k9 + 2) (g3c (c := 2) (by omega) (by decide)) (by omega)) ?_
    refine gMsto (i := 4) (j := (431 + 3 * k9 + 2)) (x := w) HL7 (by decide) rfl rfl fun h8 HL8 fr8 => ?_
    exact E.2.1 _ _ _ _ _ dX8_putsFault_80 rfl (Nat.le_of_ble_eq_true rfl) (Nat.le_of_ble_eq_true rfl) ⟨rfl, k9, (M.a 4 430).toNatClampNeg, Or.inl ⟨hk9, rfl, ek9⟩, (by unfold gPf; rw [← hf.c (by decide), gput_id]; exact HL8), (gFM.trans (gFM.trans fr6 fr7) fr8)⟩
  
