/-! the reference: the reset's parts (by program: wip/p2/m_nc.py) -/
def rX8_begins (M : gMd) : gMd := (((((((((((((((M.arr 4 (gCpy (M.a 4) 0 (fun _ => 0) 0 772)).put 4 2 32).put 4 5 (-1)).put 4 9 (-1)).put 4 11 (-1)).put 4 14 (-1)).put 4 18 32).put 4 21 (-1)).put 4 25 (-1)).put 4 27 (-1)).put 4 30 (-1)).put 4 418 (-1)).put 4 428 3).set 12 0).set 18 0)
theorem dX8_begins_0 : decode cX8_begins 0 = .ok (.iconst 0, 1) := by decide +kernel
theorem dX8_begins_1 : decode cX8_begins 1 = .ok (.istore_n 1, 1) := by decide +kernel
theorem dX8_begins_2 : decode cX8_begins 2 = .ok (.iload_n 1, 1) := by decide +kernel
theorem dX8_begins_3 : decode cX8_begins 3 = .ok (.sipush 772, 3) := by decide +kernel
theorem dX8_begins_6 : decode cX8_begins 6 = .ok (.if_icmp .ge 16, 3) := by decide +kernel
theorem dX8_begins_9 : decode cX8_begins 9 = .ok (.aload_n 0, 1) := by decide +kernel
theorem dX8_begins_10 : decode cX8_begins 10 = .ok (.getfield 22, 3) := by decide +kernel
theorem dX8_begins_13 : decode cX8_begins 13 = .ok (.iload_n 1, 1) := by decide +kernel
theorem dX8_begins_14 : decode cX8_begins 14 = .ok (.iconst 0, 1) := by decide +kernel
theorem dX8_begins_15 : decode cX8_begins 15 = .ok (.iastore, 1) := by decide +kernel
theorem dX8_begins_16 : decode cX8_begins 16 = .ok (.iinc 1 1, 3) := by decide +kernel
theorem dX8_begins_19 : decode cX8_begins 19 = .ok (.goto (-17), 3) := by decide +kernel
theorem dX8_begins_22 : decode cX8_begins 22 = .ok (.iconst 0, 1) := by decide +kernel
theorem dX8_begins_23 : decode cX8_begins 23 = .ok (.istore_n 1, 1) := by decide +kernel
theorem dX8_begins_24 : decode cX8_begins 24 = .ok (.iload_n 1, 1) := by decide +kernel
theorem dX8_begins_25 : decode cX8_begins 25 = .ok (.iconst 2, 1) := by decide +kernel
theorem dX8_begins_26 : decode cX8_begins 26 = .ok (.if_icmp .ge 73, 3) := by decide +kernel
theorem dX8_begins_29 : decode cX8_begins 29 = .ok (.aload_n 0, 1) := by decide +kernel
theorem dX8_begins_30 : decode cX8_begins 30 = .ok (.getfield 22, 3) := by decide +kernel
theorem dX8_begins_33 : decode cX8_begins 33 = .ok (.bipush 16, 2) := by decide +kernel
theorem dX8_begins_35 : decode cX8_begins 35 = .ok (.iload_n 1, 1) := by decide +kernel
theorem dX8_begins_36 : decode cX8_begins 36 = .ok (.imul, 1) := by decide +kernel
theorem dX8_begins_37 : decode cX8_begins 37 = .ok (.iconst 2, 1) := by decide +kernel
theorem dX8_begins_38 : decode cX8_begins 38 = .ok (.iadd, 1) := by decide +kernel
theorem dX8_begins_39 : decode cX8_begins 39 = .ok (.bipush 32, 2) := by decide +kernel
theorem dX8_begins_41 : decode cX8_begins 41 = .ok (.iastore, 1) := by decide +kernel
theorem dX8_begins_42 : decode cX8_begins 42 = .ok (.aload_n 0, 1) := by decide +kernel
theorem dX8_begins_43 : decode cX8_begins 43 = .ok (.getfield 22, 3) := by decide +kernel
theorem dX8_begins_46 : decode cX8_begins 46 = .ok (.bipush 16, 2) := by decide +kernel
theorem dX8_begins_48 : decode cX8_begins 48 = .ok (.iload_n 1, 1) := by decide +kernel
theorem dX8_begins_49 : decode cX8_begins 49 = .ok (.imul, 1) := by decide +kernel
theorem dX8_begins_50 : decode cX8_begins 50 = .ok (.iconst 5, 1) := by decide +kernel
theorem dX8_begins_51 : decode cX8_begins 51 = .ok (.iadd, 1) := by decide +kernel
theorem dX8_begins_52 : decode cX8_begins 52 = .ok (.iconst (-1), 1) := by decide +kernel
theorem dX8_begins_53 : decode cX8_begins 53 = .ok (.iastore, 1) := by decide +kernel
theorem dX8_begins_54 : decode cX8_begins 54 = .ok (.aload_n 0, 1) := by decide +kernel
theorem dX8_begins_55 : decode cX8_begins 55 = .ok (.getfield 22, 3) := by decide +kernel
theorem dX8_begins_58 : decode cX8_begins 58 = .ok (.bipush 16, 2) := by decide +kernel
theorem dX8_begins_60 : decode cX8_begins 60 = .ok (.iload_n 1, 1) := by decide +kernel
theorem dX8_begins_61 : decode cX8_begins 61 = .ok (.imul, 1) := by decide +kernel
theorem dX8_begins_62 : decode cX8_begins 62 = .ok (.bipush 9, 2) := by decide +kernel
theorem dX8_begins_64 : decode cX8_begins 64 = .ok (.iadd, 1) := by decide +kernel
theorem dX8_begins_65 : decode cX8_begins 65 = .ok (.iconst (-1), 1) := by decide +kernel
theorem dX8_begins_66 : decode cX8_begins 66 = .ok (.iastore, 1) := by decide +kernel
theorem dX8_begins_67 : decode cX8_begins 67 = .ok (.aload_n 0, 1) := by decide +kernel
theorem dX8_begins_68 : decode cX8_begins 68 = .ok (.getfield 22, 3) := by decide +kernel
theorem dX8_begins_71 : decode cX8_begins 71 = .ok (.bipush 16, 2) := by decide +kernel
theorem dX8_begins_73 : decode cX8_begins 73 = .ok (.iload_n 1, 1) := by decide +kernel
theorem dX8_begins_74 : decode cX8_begins 74 = .ok (.imul, 1) := by decide +kernel
theorem dX8_begins_75 : decode cX8_begins 75 = .ok (.bipush 11, 2) := by decide +kernel
theorem dX8_begins_77 : decode cX8_begins 77 = .ok (.iadd, 1) := by decide +kernel
theorem dX8_begins_78 : decode cX8_begins 78 = .ok (.iconst (-1), 1) := by decide +kernel
theorem dX8_begins_79 : decode cX8_begins 79 = .ok (.iastore, 1) := by decide +kernel
theorem dX8_begins_80 : decode cX8_begins 80 = .ok (.aload_n 0, 1) := by decide +kernel
theorem dX8_begins_81 : decode cX8_begins 81 = .ok (.getfield 22, 3) := by decide +kernel
theorem dX8_begins_84 : decode cX8_begins 84 = .ok (.bipush 16, 2) := by decide +kernel
theorem dX8_begins_86 : decode cX8_begins 86 = .ok (.iload_n 1, 1) := by decide +kernel
theorem dX8_begins_87 : decode cX8_begins 87 = .ok (.imul, 1) := by decide +kernel
theorem dX8_begins_88 : decode cX8_begins 88 = .ok (.bipush 14, 2) := by decide +kernel
theorem dX8_begins_90 : decode cX8_begins 90 = .ok (.iadd, 1) := by decide +kernel
theorem dX8_begins_91 : decode cX8_begins 91 = .ok (.iconst (-1), 1) := by decide +kernel
theorem dX8_begins_92 : decode cX8_begins 92 = .ok (.iastore, 1) := by decide +kernel
theorem dX8_begins_93 : decode cX8_begins 93 = .ok (.iinc 1 1, 3) := by decide +kernel
theorem dX8_begins_96 : decode cX8_begins 96 = .ok (.goto (-72), 3) := by decide +kernel
theorem dX8_begins_99 : decode cX8_begins 99 = .ok (.aload_n 0, 1) := by decide +kernel
theorem dX8_begins_100 : decode cX8_begins 100 = .ok (.getfield 22, 3) := by decide +kernel
theorem dX8_begins_103 : decode cX8_begins 103 = .ok (.sipush 418, 3) := by decide +kernel
theorem dX8_begins_106 : decode cX8_begins 106 = .ok (.iconst (-1), 1) := by decide +kernel
theorem dX8_begins_107 : decode cX8_begins 107 = .ok (.iastore, 1) := by decide +kernel
theorem dX8_begins_108 : decode cX8_begins 108 = .ok (.aload_n 0, 1) := by decide +kernel
theorem dX8_begins_109 : decode cX8_begins 109 = .ok (.getfield 22, 3) := by decide +kernel
theorem dX8_begins_112 : decode cX8_begins 112 = .ok (.sipush 428, 3) := by decide +kernel
theorem dX8_begins_115 : decode cX8_begins 115 = .ok (.iconst 3, 1) := by decide +kernel
theorem dX8_begins_116 : decode cX8_begins 116 = .ok (.iastore, 1) := by decide +kernel
theorem dX8_begins_117 : decode cX8_begins 117 = .ok (.aload_n 0, 1) := by decide +kernel
theorem dX8_begins_118 : decode cX8_begins 118 = .ok (.iconst 0, 1) := by decide +kernel
theorem dX8_begins_119 : decode cX8_begins 119 = .ok (.putfield 69, 3) := by decide +kernel
theorem dX8_begins_122 : decode cX8_begins 122 = .ok (.aload_n 0, 1) := by decide +kernel
theorem dX8_begins_123 : decode cX8_begins 123 = .ok (.iconst 0, 1) := by decide +kernel
theorem dX8_begins_124 : decode cX8_begins 124 = .ok (.putfield 72, 3) := by decide +kernel
theorem dX8_begins_127 : decode cX8_begins 127 = .ok (.return_, 1) := by decide +kernel
set_option maxRecDepth 100000 in
set_option maxHeartbeats 4000000 in
theorem c_X8_begins_m {hp : List gA} {M : gMd}  (HM : gMod hp M)  : gM yX8_begins cX8_begins 2 (none) 0 0 [.ref 122] (hp) (0) (0) (fun v h => v = none ∧ (gMod h (rX8_begins M) ∧ gFM hp h)) := by
  refine gM_of (ls0 := [some (.ref 122), none]) (by decide +kernel) (Nat.le_of_ble_eq_true rfl) rfl fun X C E => ?_
  refine g_iconst (v := 0) (q := 1) C dX8_begins_0 (by decide) rfl ?_
  refine g_istore_n (q := 2) C dX8_begins_1 (Nat.le_of_ble_eq_true rfl) (by simp only [gset]; rfl) rfl ?_
  have HL8 : gMod hp (M.arr 4 (gCpy (M.a 4) 0 (fun _ => 0) 0 0)) := by rw [gCpy_0, garr_id]; exact HM
  have LL1 : ∀ d j : Nat, j + d = 772 → ∀  (h1 : List gA), gMod h1 (M.arr 4 (gCpy (M.a 4) 0 (fun _ => 0) 0 j)) → gFM hp h1 → gG X 2 [some (.ref 122), some (.int ((nI j)))] [] h1 0 0 := by
    intro d
    induction d with
    | zero =>
      intro j hj  h1 HL1_ fr_
      obtain rfl : 772 = j := by omega
      refine g_iload_n (q := 3) C dX8_begins_2 rfl rfl ?_
      refine g_sipush (v := 772) (q := 6) C dX8_begins_3 (by decide) rfl ?_
      refine g_icmp_ge_t (t := 22) C dX8_begins_6 (by decide) (nI_le (a := 772) (Nat.le_refl _) (by omega)) ?_
      refine g_iconst (v := 0) (q := 23) C dX8_begins_22 (by decide) rfl ?_
      refine g_istore_n (q := 24) C dX8_begins_23 (Nat.le_of_ble_eq_true rfl) (by simp only [gset]; rfl) rfl ?_
      refine g_iload_n (q := 25) C dX8_begins_24 rfl rfl ?_
      refine g_iconst (v := 2) (q := 26) C dX8_begins_25 (by decide) rfl ?_
      refine g_icmp_ge_f (t := 99) (q := 29) C dX8_begins_26 (by decide) rfl (by decide) ?_
      refine g_aload_n (q := 30) C dX8_begins_29 rfl rfl ?_
      refine g_getfield (v := .ref 127) (q := 33) C fX8_22 dX8_begins_30 rfl HL1_.1 rfl ?_
      refine g_bipush (v := 16) (q := 35) C dX8_begins_33 (by decide) rfl ?_
      refine g_iload_n (q := 36) C dX8_begins_35 rfl rfl ?_
      refine g_imul (q := 37) C dX8_begins_36 rfl ?_
      refine g_iconst (v := 2) (q := 38) C dX8_begins_37 (by decide) rfl ?_
      refine g_iadd (q := 39) C dX8_begins_38 rfl ?_
      refine g_bipush (v := 32) (q := 41) C dX8_begins_39 (by decide) rfl ?_
      refine g_iastoreN (j := 2) (q := 42) C dX8_begins_41 rfl (HL1_.ar (i := 4) (n := 772) (by decide) rfl) (pk_in 2 772 (by decide) rfl) (pk_cl 2 rfl (by decide)) ?_
      refine gMsto (i := 4) (j := 2) (x := 32) HL1_ (by decide) rfl rfl fun h2 HL2 fr2 => ?_
      refine g_aload_n (q := 43) C dX8_begins_42 rfl rfl ?_
      refine g_getfield (v := .ref 127) (q := 46) C fX8_22 dX8_begins_43 rfl HL2.1 rfl ?_
      refine g_bipush (v := 16) (q := 48) C dX8_begins_46 (by decide) rfl ?_
      refine g_iload_n (q := 49) C dX8_begins_48 rfl rfl ?_
      refine g_imul (q := 50) C dX8_begins_49 rfl ?_
      refine g_iconst (v := 5) (q := 51) C dX8_begins_50 (by decide) rfl ?_
      refine g_iadd (q := 52) C dX8_begins_51 rfl ?_
      refine g_iconst (v := (-1)) (q := 53) C dX8_begins_52 (by decide) rfl ?_
      refine g_iastoreN (j := 5) (q := 54) C dX8_begins_53 rfl (HL2.ar (i := 4) (n := 772) (by decide) rfl) (pk_in 5 772 (by decide) rfl) (pk_cl 5 rfl (by decide)) ?_
      refine gMsto (i := 4) (j := 5) (x := (-1)) HL2 (by decide) rfl rfl fun h3 HL3 fr3 => ?_
      refine g_aload_n (q := 55) C dX8_begins_54 rfl rfl ?_
      refine g_getfield (v := .ref 127) (q := 58) C fX8_22 dX8_begins_55 rfl HL3.1 rfl ?_
      refine g_bipush (v := 16) (q := 60) C dX8_begins_58 (by decide) rfl ?_
      refine g_iload_n (q := 61) C dX8_begins_60 rfl rfl ?_
      refine g_imul (q := 62) C dX8_begins_61 rfl ?_
      refine g_bipush (v := 9) (q := 64) C dX8_begins_62 (by decide) rfl ?_
      refine g_iadd (q := 65) C dX8_begins_64 rfl ?_
      refine g_iconst (v := (-1)) (q := 66) C dX8_begins_65 (by decide) rfl ?_
      refine g_iastoreN (j := 9) (q := 67) C dX8_begins_66 rfl (HL3.ar (i := 4) (n := 772) (by decide) rfl) (pk_in 9 772 (by decide) rfl) (pk_cl 9 rfl (by decide)) ?_
      refine gMsto (i := 4) (j := 9) (x := (-1)) HL3 (by decide) rfl rfl fun h4 HL4 fr4 => ?_
      refine g_aload_n (q := 68) C dX8_begins_67 rfl rfl ?_
      refine g_getfield (v := .ref 127) (q := 71) C fX8_22 dX8_begins_68 rfl HL4.1 rfl ?_
      refine g_bipush (v := 16) (q := 73) C dX8_begins_71 (by decide) rfl ?_
      refine g_iload_n (q := 74) C dX8_begins_73 rfl rfl ?_
      refine g_imul (q := 75) C dX8_begins_74 rfl ?_
      refine g_bipush (v := 11) (q := 77) C dX8_begins_75 (by decide) rfl ?_
      refine g_iadd (q := 78) C dX8_begins_77 rfl ?_
      refine g_iconst (v := (-1)) (q := 79) C dX8_begins_78 (by decide) rfl ?_
      refine g_iastoreN (j := 11) (q := 80) C dX8_begins_79 rfl (HL4.ar (i := 4) (n := 772) (by decide) rfl) (pk_in 11 772 (by decide) rfl) (pk_cl 11 rfl (by decide)) ?_
      refine gMsto (i := 4) (j := 11) (x := (-1)) HL4 (by decide) rfl rfl fun h5 HL5 fr5 => ?_
      refine g_aload_n (q := 81) C dX8_begins_80 rfl rfl ?_
      refine g_getfield (v := .ref 127) (q := 84) C fX8_22 dX8_begins_81 rfl HL5.1 rfl ?_
      refine g_bipush (v := 16) (q := 86) C dX8_begins_84 (by decide) rfl ?_
      refine g_iload_n (q := 87) C dX8_begins_86 rfl rfl ?_
      refine g_imul (q := 88) C dX8_begins_87 rfl ?_
      refine g_bipush (v := 14) (q := 90) C dX8_begins_88 (by decide) rfl ?_
      refine g_iadd (q := 91) C dX8_begins_90 rfl ?_
      refine g_iconst (v := (-1)) (q := 92) C dX8_begins_91 (by decide) rfl ?_
      refine g_iastoreN (j := 14) (q := 93) C dX8_begins_92 rfl (HL5.ar (i := 4) (n := 772) (by decide) rfl) (pk_in 14 772 (by decide) rfl) (pk_cl 14 rfl (by decide)) ?_
      refine gMsto (i := 4) (j := 14) (x := (-1)) HL5 (by decide) rfl rfl fun h6 HL6 fr6 => ?_
      refine g_iinc (v := 1) (q := 96) C dX8_begins_93 rfl (by decide) (by simp only [gset]; rfl) rfl ?_
      refine g_goto (q := 24) C dX8_begins_96 (by decide) ?_
      refine g_iload_n (q := 25) C dX8_begins_24 rfl rfl ?_
      refine g_iconst (v := 2) (q := 26) C dX8_begins_25 (by decide) rfl ?_
      refine g_icmp_ge_f (t := 99) (q := 29) C dX8_begins_26 (by decide) rfl (by decide) ?_
      refine g_aload_n (q := 30) C dX8_begins_29 rfl rfl ?_
      refine g_getfield (v := .ref 127) (q := 33) C fX8_22 dX8_begins_30 rfl HL6.1 rfl ?_
      refine g_bipush (v := 16) (q := 35) C dX8_begins_33 (by decide) rfl ?_
      refine g_iload_n (q := 36) C dX8_begins_35 rfl rfl ?_
      refine g_imul (q := 37) C dX8_begins_36 rfl ?_
      refine g_iconst (v := 2) (q := 38) C dX8_begins_37 (by decide) rfl ?_
      refine g_iadd (q := 39) C dX8_begins_38 rfl ?_
      refine g_bipush (v := 32) (q := 41) C dX8_begins_39 (by decide) rfl ?_
      refine g_iastoreN (j := 18) (q := 42) C dX8_begins_41 rfl (HL6.ar (i := 4) (n := 772) (by decide) rfl) (pk_in 18 772 (by decide) rfl) (pk_cl 18 rfl (by decide)) ?_
      refine gMsto (i := 4) (j := 18) (x := 32) HL6 (by decide) rfl rfl fun h7 HL7 fr7 => ?_
      refine g_aload_n (q := 43) C dX8_begins_42 rfl rfl ?_
      refine g_getfield (v := .ref 127) (q := 46) C fX8_22 dX8_begins_43 rfl HL7.1 rfl ?_
      refine g_bipush (v := 16) (q := 48) C dX8_begins_46 (by decide) rfl ?_
      refine g_iload_n (q := 49) C dX8_begins_48 rfl rfl ?_
      refine g_imul (q := 50) C dX8_begins_49 rfl ?_
      refine g_iconst (v := 5) (q := 51) C dX8_begins_50 (by decide) rfl ?_
      refine g_iadd (q := 52) C dX8_begins_51 rfl ?_
      refine g_iconst (v := (-1)) (q := 53) C dX8_begins_52 (by decide) rfl ?_
      refine g_iastoreN (j := 21) (q := 54) C dX8_begins_53 rfl (HL7.ar (i := 4) (n := 772) (by decide) rfl) (pk_in 21 772 (by decide) rfl) (pk_cl 21 rfl (by decide)) ?_
      refine gMsto (i := 4) (j := 21) (x := (-1)) HL7 (by decide) rfl rfl fun h8 HL8 fr8 => ?_
      refine g_aload_n (q := 55) C dX8_begins_54 rfl rfl ?_
      refine g_getfield (v := .ref 127) (q := 58) C fX8_22 dX8_begins_55 rfl HL8.1 rfl ?_
      refine g_bipush (v := 16) (q := 60) C dX8_begins_58 (by decide) rfl ?_
      refine g_iload_n (q := 61) C dX8_begins_60 rfl rfl ?_
      refine g_imul (q := 62) C dX8_begins_61 rfl ?_
      refine g_bipush (v := 9) (q := 64) C dX8_begins_62 (by decide) rfl ?_
      refine g_iadd (q := 65) C dX8_begins_64 rfl ?_
      refine g_iconst (v := (-1)) (q := 66) C dX8_begins_65 (by decide) rfl ?_
      refine g_iastoreN (j := 25) (q := 67) C dX8_begins_66 rfl (HL8.ar (i := 4) (n := 772) (by decide) rfl) (pk_in 25 772 (by decide) rfl) (pk_cl 25 rfl (by decide)) ?_
      refine gMsto (i := 4) (j := 25) (x := (-1)) HL8 (by decide) rfl rfl fun h9 HL9 fr9 => ?_
      refine g_aload_n (q := 68) C dX8_begins_67 rfl rfl ?_
      refine g_getfield (v := .ref 127) (q := 71) C fX8_22 dX8_begins_68 rfl HL9.1 rfl ?_
      refine g_bipush (v := 16) (q := 73) C dX8_begins_71 (by decide) rfl ?_
      refine g_iload_n (q := 74) C dX8_begins_73 rfl rfl ?_
      refine g_imul (q := 75) C dX8_begins_74 rfl ?_
      refine g_bipush (v := 11) (q := 77) C dX8_begins_75 (by decide) rfl ?_
      refine g_iadd (q := 78) C dX8_begins_77 rfl ?_
      refine g_iconst (v := (-1)) (q := 79) C dX8_begins_78 (by decide) rfl ?_
      refine g_iastoreN (j := 27) (q := 80) C dX8_begins_79 rfl (HL9.ar (i := 4) (n := 772) (by decide) rfl) (pk_in 27 772 (by decide) rfl) (pk_cl 27 rfl (by decide)) ?_
      refine gMsto (i := 4) (j := 27) (x := (-1)) HL9 (by decide) rfl rfl fun h10 HL10 fr10 => ?_
      refine g_aload_n (q := 81) C dX8_begins_80 rfl rfl ?_
      refine g_getfield (v := .ref 127) (q := 84) C fX8_22 dX8_begins_81 rfl HL10.1 rfl ?_
      refine g_bipush (v := 16) (q := 86) C dX8_begins_84 (by decide) rfl ?_
      refine g_iload_n (q := 87) C dX8_begins_86 rfl rfl ?_
      refine g_imul (q := 88) C dX8_begins_87 rfl ?_
      refine g_bipush (v := 14) (q := 90) C dX8_begins_88 (by decide) rfl ?_
      refine g_iadd (q := 91) C dX8_begins_90 rfl ?_
      refine g_iconst (v := (-1)) (q := 92) C dX8_begins_91 (by decide) rfl ?_
      refine g_iastoreN (j := 30) (q := 93) C dX8_begins_92 rfl (HL10.ar (i := 4) (n := 772) (by decide) rfl) (pk_in 30 772 (by decide) rfl) (pk_cl 30 rfl (by decide)) ?_
      refine gMsto (i := 4) (j := 30) (x := (-1)) HL10 (by decide) rfl rfl fun h11 HL11 fr11 => ?_
      refine g_iinc (v := 2) (q := 96) C dX8_begins_93 rfl (by decide) (by simp only [gset]; rfl) rfl ?_
      refine g_goto (q := 24) C dX8_begins_96 (by decide) ?_
      refine g_iload_n (q := 25) C dX8_begins_24 rfl rfl ?_
      refine g_iconst (v := 2) (q := 26) C dX8_begins_25 (by decide) rfl ?_
      refine g_icmp_ge_t (t := 99) C dX8_begins_26 (by decide) (by decide) ?_
      refine g_aload_n (q := 100) C dX8_begins_99 rfl rfl ?_
      refine g_getfield (v := .ref 127) (q := 103) C fX8_22 dX8_begins_100 rfl HL11.1 rfl ?_
      refine g_sipush (v := 418) (q := 106) C dX8_begins_103 (by decide) rfl ?_
      refine g_iconst (v := (-1)) (q := 107) C dX8_begins_106 (by decide) rfl ?_
      refine g_iastoreN (j := 418) (q := 108) C dX8_begins_107 rfl (HL11.ar (i := 4) (n := 772) (by decide) rfl) (pk_in 418 772 (by decide)) (pk_cl 418) ?_
      refine gMsto (i := 4) (j := 418) (x := (-1)) HL11 (by decide) rfl rfl fun h12 HL12 fr12 => ?_
      refine g_aload_n (q := 109) C dX8_begins_108 rfl rfl ?_
      refine g_getfield (v := .ref 127) (q := 112) C fX8_22 dX8_begins_109 rfl HL12.1 rfl ?_
      refine g_sipush (v := 428) (q := 115) C dX8_begins_112 (by decide) rfl ?_
      refine g_iconst (v := 3) (q := 116) C dX8_begins_115 (by decide) rfl ?_
      refine g_iastoreN (j := 428) (q := 117) C dX8_begins_116 rfl (HL12.ar (i := 4) (n := 772) (by decide) rfl) (pk_in 428 772 (by decide)) (pk_cl 428) ?_
      refine gMsto (i := 4) (j := 428) (x := 3) HL12 (by decide) rfl rfl fun h13 HL13 fr13 => ?_
      refine g_aload_n (q := 118) C dX8_begins_117 rfl rfl ?_
      refine g_iconst (v := 0) (q := 119) C dX8_begins_118 (by decide) rfl ?_
      refine g_putfield (q := 122) C fX8_69 dX8_begins_119 rfl HL13.1 (Nat.le_of_ble_eq_true rfl) (Or.inl rfl) rfl rfl (by intro z h; cases h) ?_
      refine gMput (j := 12) (x := 0) HL13 rfl fun h14 HL14 fr14 => ?_
      refine g_aload_n (q := 123) C dX8_begins_122 rfl rfl ?_
      refine g_iconst (v := 0) (q := 124) C dX8_begins_123 (by decide) rfl ?_
      refine g_putfield (q := 127) C fX8_72 dX8_begins_124 rfl HL14.1 (Nat.le_of_ble_eq_true rfl) (Or.inl rfl) rfl rfl (by intro z h; cases h) ?_
      refine gMput (j := 18) (x := 0) HL14 rfl fun h15 HL15 fr15 => ?_
      have e : rX8_begins M = (((((((((((((((M.arr 4 (gCpy (M.a 4) 0 (fun _ => 0) 0 772)).put 4 2 32).put 4 5 (-1)).put 4 9 (-1)).put 4 11 (-1)).put 4 14 (-1)).put 4 18 32).put 4 21 (-1)).put 4 25 (-1)).put 4 27 (-1)).put 4 30 (-1)).put 4 418 (-1)).put 4 428 3).set 12 0).set 18 0) := rfl
      exact E.2.1 _ _ _ _ _ dX8_begins_127 rfl (Nat.le_of_ble_eq_true rfl) (Nat.le_of_ble_eq_true rfl) ⟨rfl, by rw [e]; exact ⟨HL15, (gFM.trans (gFM.trans (gFM.trans (gFM.trans (gFM.trans (gFM.trans (gFM.trans (gFM.trans (gFM.trans (gFM.trans (gFM.trans (gFM.trans (gFM.trans (gFM.trans fr_ fr2) fr3) fr4) fr5) fr6) fr7) fr8) fr9) fr10) fr11) fr12) fr13) fr14) fr15)⟩⟩
    | succ d ih =>
      intro j hj  h1 HL1_ fr_
      refine g_iload_n (q := 3) C dX8_begins_2 rfl rfl ?_
      refine g_sipush (v := 772) (q := 6) C dX8_begins_3 (by decide) rfl ?_
      refine g_icmp_ge_f (t := 22) (q := 9) C dX8_begins_6 (by decide) rfl (fun h => nI_ge (show j < 772 by omega) (by omega) h) ?_
      refine g_aload_n (q := 10) C dX8_begins_9 rfl rfl ?_
      refine g_getfield (v := .ref 127) (q := 13) C fX8_22 dX8_begins_10 rfl HL1_.1 rfl ?_
      refine g_iload_n (q := 14) C dX8_begins_13 rfl rfl ?_
      refine g_iconst (v := 0) (q := 15) C dX8_begins_14 (by decide) rfl ?_
      refine g_iastoreN (j := j) (q := 16) C dX8_begins_15 rfl (HL1_.ar (i := 4) (n := 772) (by decide) rfl) (pk_in j 772 (by omega)) (pk_cl j rfl (by omega)) ?_
      refine gMsto (i := 4) (j := j) (x := 0) HL1_ (by decide) rfl rfl fun h16 HL16 fr16 => ?_
      refine g_iinc (v := (nI (j + 1))) (q := 19) C dX8_begins_16 rfl (nI_1 j) (by simp only [gset]; rfl) rfl ?_
      have e9 : (M.arr 4 (gCpy (M.a 4) 0 (fun _ => 0) 0 j)).put 4 j 0 = (M.arr 4 (gCpy (M.a 4) 0 (fun _ => 0) 0 (j + 1))) := by
        have e8 := garr_cp (M := M) (i := 4) (a := 0) (n := j) (f := M.a 4) (g := fun _ => 0) (b := 0) (x := 0) rfl
        rw [Nat.zero_add] at e8; exact e8
      have HL9 : gMod h16 (M.arr 4 (gCpy (M.a 4) 0 (fun _ => 0) 0 (j + 1))) := by rw [← e9]; exact HL16
      refine g_goto (q := 2) C dX8_begins_19 (by decide) ?_
      exact ih (j + 1) (by omega)  h16 HL9 (gFM.trans fr_ fr16)
  exact LL1 (772 - 0) 0 (by omega)  hp HL8 gFM.rf
  
def rX8_wrong (M : gMd) (y : Int32) (z : Int32) : gMd := (if (M.f 22) = 0 then (M.set 22 ((8 * z) + y)) else M)
theorem dX8_wrong_0 : decode cX8_wrong 0 = .ok (.aload_n 0, 1) := by decide +kernel
theorem dX8_wrong_1 : decode cX8_wrong 1 = .ok (.getfield 86, 3) := by decide +kernel
theorem dX8_wrong_4 : decode cX8_wrong 4 = .ok (.ifCond .ne 13, 3) := by decide +kernel
theorem dX8_wrong_7 : decode cX8_wrong 7 = .ok (.aload_n 0, 1) := by decide +kernel
theorem dX8_wrong_8 : decode cX8_wrong 8 = .ok (.bipush 8, 2) := by decide +kernel
theorem dX8_wrong_10 : decode cX8_wrong 10 = .ok (.iload_n 2, 1) := by decide +kernel
theorem dX8_wrong_11 : decode cX8_wrong 11 = .ok (.imul, 1) := by decide +kernel
theorem dX8_wrong_12 : decode cX8_wrong 12 = .ok (.iload_n 1, 1) := by decide +kernel
theorem dX8_wrong_13 : decode cX8_wrong 13 = .ok (.iadd, 1) := by decide +kernel
theorem dX8_wrong_14 : decode cX8_wrong 14 = .ok (.putfield 86, 3) := by decide +kernel
theorem dX8_wrong_17 : decode cX8_wrong 17 = .ok (.return_, 1) := by decide +kernel
set_option maxRecDepth 100000 in
set_option maxHeartbeats 4000000 in
theorem c_X8_wrong_m {hp : List gA} {M : gMd} {y : Int32} {z : Int32}  (HM : gMod hp M)  : gM yX8_wrong cX8_wrong 3 (none) 0 0 [.ref 122, .int y, .int z] (hp) (0) (0) (fun v h => v = none ∧ (gMod h (rX8_wrong M y z) ∧ gFM hp h)) := by
  refine gM_of (ls0 := [some (.ref 122), some (.int y), some (.int z)]) (by decide +kernel) (Nat.le_of_ble_eq_true rfl) rfl fun X C E => ?_
  refine g_aload_n (q := 1) C dX8_wrong_0 rfl rfl ?_
  refine g_getfield (v := .int ((M.f 22))) (q := 4) C fX8_86 dX8_wrong_1 rfl HM.1 rfl ?_
  refine g_if_ne (t := 17) (q := 7) C dX8_wrong_4 (by decide) rfl (fun c_4 => ?_) (fun c_4 => ?_)
  ·
    have e : rX8_wrong M y z = M := (if_neg c_4)
    exact E.2.1 _ _ _ _ _ dX8_wrong_17 rfl (Nat.le_of_ble_eq_true rfl) (Nat.le_of_ble_eq_true rfl) ⟨rfl, by rw [e]; exact ⟨HM, gFM.rf⟩⟩
  ·
    refine g_aload_n (q := 8) C dX8_wrong_7 rfl rfl ?_
    refine g_bipush (v := 8) (q := 10) C dX8_wrong_8 (by decide) rfl ?_
    refine g_iload_n (q := 11) C dX8_wrong_10 rfl rfl ?_
    refine g_imul (q := 12) C dX8_wrong_11 rfl ?_
    refine g_iload_n (q := 13) C dX8_wrong_12 rfl rfl ?_
    refine g_iadd (q := 14) C dX8_wrong_13 rfl ?_
    refine g_putfield (q := 17) C fX8_86 dX8_wrong_14 rfl HM.1 (Nat.le_of_ble_eq_true rfl) (Or.inl rfl) rfl rfl (by intro z h; cases h) ?_
    refine gMput (j := 22) (x := ((8 * z) + y)) HM rfl fun h1 HL1 fr1 => ?_
    have e : rX8_wrong M y z = (M.set 22 ((8 * z) + y)) := (if_pos c_4)
    exact E.2.1 _ _ _ _ _ dX8_wrong_17 rfl (Nat.le_of_ble_eq_true rfl) (Nat.le_of_ble_eq_true rfl) ⟨rfl, by rw [e]; exact ⟨HL1, fr1⟩⟩
/-- the next byte: a fault stands; the end; a byte -/
def gBn (M M' : gMd) (x : Int32) : Prop := (¬ M.f 22 = 0 ∧ M' = M ∧ x = 0) ∨ (M.f 22 = 0 ∧ M.f 21 = M.f 20 ∧ M' = rX8_wrong M 1 (M.f 20) ∧ x = 0) ∨ (M.f 22 = 0 ∧ ∃ a z, M.f 21 = nI a ∧ M.f 20 = nI z ∧ a < z ∧ z ≤ 96 ∧ M' = M.set 21 (nI (a + 1)) ∧ x = M.a 0 a)
theorem dX8_byteNext_0 : decode cX8_byteNext 0 = .ok (.aload_n 0, 1) := by decide +kernel
theorem dX8_byteNext_1 : decode cX8_byteNext 1 = .ok (.getfield 86, 3) := by decide +kernel
theorem dX8_byteNext_4 : decode cX8_byteNext 4 = .ok (.ifCond .eq 5, 3) := by decide +kernel
theorem dX8_byteNext_7 : decode cX8_byteNext 7 = .ok (.iconst 0, 1) := by decide +kernel
theorem dX8_byteNext_8 : decode cX8_byteNext 8 = .ok (.ireturn, 1) := by decide +kernel
theorem dX8_byteNext_9 : decode cX8_byteNext 9 = .ok (.aload_n 0, 1) := by decide +kernel
theorem dX8_byteNext_10 : decode cX8_byteNext 10 = .ok (.getfield 89, 3) := by decide +kernel
theorem dX8_byteNext_13 : decode cX8_byteNext 13 = .ok (.aload_n 0, 1) := by decide +kernel
theorem dX8_byteNext_14 : decode cX8_byteNext 14 = .ok (.getfield 92, 3) := by decide +kernel
theorem dX8_byteNext_17 : decode cX8_byteNext 17 = .ok (.if_icmp .ne 14, 3) := by decide +kernel
theorem dX8_byteNext_20 : decode cX8_byteNext 20 = .ok (.aload_n 0, 1) := by decide +kernel
theorem dX8_byteNext_21 : decode cX8_byteNext 21 = .ok (.iconst 1, 1) := by decide +kernel
theorem dX8_byteNext_22 : decode cX8_byteNext 22 = .ok (.aload_n 0, 1) := by decide +kernel
theorem dX8_byteNext_23 : decode cX8_byteNext 23 = .ok (.getfield 92, 3) := by decide +kernel
theorem dX8_byteNext_26 : decode cX8_byteNext 26 = .ok (.invokevirtual 95, 3) := by decide +kernel
theorem dX8_byteNext_29 : decode cX8_byteNext 29 = .ok (.iconst 0, 1) := by decide +kernel
theorem dX8_byteNext_30 : decode cX8_byteNext 30 = .ok (.ireturn, 1) := by decide +kernel
theorem dX8_byteNext_31 : decode cX8_byteNext 31 = .ok (.aload_n 0, 1) := by decide +kernel
theorem dX8_byteNext_32 : decode cX8_byteNext 32 = .ok (.dup, 1) := by decide +kernel
theorem dX8_byteNext_33 : decode cX8_byteNext 33 = .ok (.getfield 89, 3) := by decide +kernel
theorem dX8_byteNext_36 : decode cX8_byteNext 36 = .ok (.iconst 1, 1) := by decide +kernel
theorem dX8_byteNext_37 : decode cX8_byteNext 37 = .ok (.iadd, 1) := by decide +kernel
theorem dX8_byteNext_38 : decode cX8_byteNext 38 = .ok (.putfield 89, 3) := by decide +kernel
theorem dX8_byteNext_41 : decode cX8_byteNext 41 = .ok (.aload_n 0, 1) := by decide +kernel
theorem dX8_byteNext_42 : decode cX8_byteNext 42 = .ok (.getfield 7, 3) := by decide +kernel
theorem dX8_byteNext_45 : decode cX8_byteNext 45 = .ok (.aload_n 0, 1) := by decide +kernel
theorem dX8_byteNext_46 : decode cX8_byteNext 46 = .ok (.getfield 89, 3) := by decide +kernel
theorem dX8_byteNext_49 : decode cX8_byteNext 49 = .ok (.iconst 1, 1) := by decide +kernel
theorem dX8_byteNext_50 : decode cX8_byteNext 50 = .ok (.isub, 1) := by decide +kernel
theorem dX8_byteNext_51 : decode cX8_byteNext 51 = .ok (.iaload, 1) := by decide +kernel
theorem dX8_byteNext_52 : decode cX8_byteNext 52 = .ok (.ireturn, 1) := by decide +kernel
set_option maxRecDepth 100000 in
set_option maxHeartbeats 4000000 in
theorem c_X8_byteNext_r {hp : List gA} {M : gMd}  (HM : gMod hp M) (hz : ∃ z, z ≤ 96 ∧ M.f 20 = nI z ∧ ∃ a, a ≤ z ∧ M.f 21 = nI a) : gM yX8_byteNext cX8_byteNext 1 ((some .int)) 1 22 [.ref 122] (hp) (0) (0) (fun v h => ∃ x, v = some (.int x) ∧ ∃ M', gMod h M' ∧ gFM hp h ∧ gBn M M' x) := by
  refine gM_of (ls0 := [some (.ref 122)]) (by decide +kernel) (Nat.le_of_ble_eq_true rfl) rfl fun X C E => ?_
  obtain ⟨z, hz, ez, a, ha, ea⟩ := hz
  refine g_aload_n (q := 1) C dX8_byteNext_0 rfl rfl ?_
  refine g_getfield (v := .int ((M.f 22))) (q := 4) C fX8_86 dX8_byteNext_1 rfl HM.1 rfl ?_
  refine g_if_eq (t := 9) (q := 7) C dX8_byteNext_4 (by decide) rfl (fun c_4 => ?_) (fun c_4 => ?_)
  ·
    refine g_aload_n (q := 10) C dX8_byteNext_9 rfl rfl ?_
    refine g_getfield (v := .int ((M.f 21))) (q := 13) C fX8_89 dX8_byteNext_10 rfl HM.1 rfl ?_
    refine g_aload_n (q := 14) C dX8_byteNext_13 rfl rfl ?_
    refine g_getfield (v := .int ((M.f 20))) (q := 17) C fX8_92 dX8_byteNext_14 rfl HM.1 rfl ?_
    refine g_icmp_ne (t := 31) (q := 20) C dX8_byteNext_17 (by decide) rfl (fun c_17 => ?_) (fun c_17 => ?_)
    ·
      refine g_aload_n (q := 32) C dX8_byteNext_31 rfl rfl ?_
      refine g_dup (q := 33) C dX8_byteNext_32 rfl rfl ?_
      refine g_getfield (v := .int ((M.f 21))) (q := 36) C fX8_89 dX8_byteNext_33 rfl HM.1 rfl ?_
      refine g_iconst (v := 1) (q := 37) C dX8_byteNext_36 (by decide) rfl ?_
      refine g_iadd (q := 38) C dX8_byteNext_37 rfl ?_
      refine g_putfield (q := 41) C fX8_89 dX8_byteNext_38 rfl HM.1 (Nat.le_of_ble_eq_true rfl) (Or.inl rfl) rfl rfl (by intro z h; cases h) ?_
      refine gMput (j := 21) (x := ((M.f 21) + 1)) HM rfl fun h1 HL1 fr1 => ?_
      refine g_aload_n (q := 42) C dX8_byteNext_41 rfl rfl ?_
      refine g_getfield (v := .ref 123) (q := 45) C fX8_7 dX8_byteNext_42 rfl HL1.1 rfl ?_
      refine g_aload_n (q := 46) C dX8_byteNext_45 rfl rfl ?_
      refine g_getfield (v := .int (((M.f 21) + 1))) (q := 49) C fX8_89 dX8_byteNext_46 rfl HL1.1 rfl ?_
      refine g_iconst (v := 1) (q := 50) C dX8_byteNext_49 (by decide) rfl ?_
      refine g_isub (q := 51) C dX8_byteNext_50 rfl ?_
      have haz : a < z := Nat.lt_of_le_of_ne ha fun e => c_17 (by rw [ea, ez, e])
      have e51 : M.f 21 + 1 - 1 = nI a := by rw [ea, nI_1, show (1 : Int32) = nI 1 from rfl, pk_sub (by omega)]; rfl
      refine g_ialoadN (x := (M.a 0 a)) (j := a) (q := 52) C dX8_byteNext_51 rfl (HL1.ar (i := 0) (n := 96) (by decide) rfl) (pk_in a 96 (by omega) e51) (pk_cl a e51 (by omega)) gset_a ?_
      exact E.1 _ _ _ _ _ _ _ dX8_byteNext_52 rfl rfl (Nat.le_of_ble_eq_true rfl) (Nat.le_of_ble_eq_true rfl) ⟨_, rfl, _, HL1, fr1, Or.inr (Or.inr ⟨c_4, a, z, ea, ez, haz, hz, by rw [← nI_1, ← ea], rfl⟩)⟩
    ·
      refine g_aload_n (q := 21) C dX8_byteNext_20 rfl rfl ?_
      refine g_iconst (v := 1) (q := 22) C dX8_byteNext_21 (by decide) rfl ?_
      refine g_aload_n (q := 23) C dX8_byteNext_22 rfl rfl ?_
      refine g_getfield (v := .int ((M.f 20))) (q := 26) C fX8_92 dX8_byteNext_23 rfl HM.1 rfl ?_
      refine g_callVvp (q := 29) (As := [.int 1, .int ((M.f 20))]) C gyX8_wrong gvX8_wrong t_1222 (c_X8_wrong_m HM) dX8_byteNext_26 rfl HM.1 rfl rfl rfl (Nat.le_of_ble_eq_true rfl) (Nat.le_of_ble_eq_true rfl) (Nat.le_of_ble_eq_true rfl) (Nat.le_of_ble_eq_true rfl) (Nat.le_of_ble_eq_true rfl) rfl (fun h2 z2 => ?_)
      obtain ⟨HL2, fr2⟩ := z2
      refine g_iconst (v := 0) (q := 30) C dX8_byteNext_29 (by decide) rfl ?_
      exact E.1 _ _ _ _ _ _ _ dX8_byteNext_30 rfl rfl (Nat.le_of_ble_eq_true rfl) (Nat.le_of_ble_eq_true rfl) ⟨_, rfl, _, HL2, fr2, Or.inr (Or.inl ⟨c_4, c_17, rfl, rfl⟩)⟩
  ·
    refine g_iconst (v := 0) (q := 8) C dX8_byteNext_7 (by decide) rfl ?_
    exact E.1 _ _ _ _ _ _ _ dX8_byteNext_8 rfl rfl (Nat.le_of_ble_eq_true rfl) (Nat.le_of_ble_eq_true rfl) ⟨_, rfl, _, HM, gFM.rf, Or.inl ⟨c_4, rfl, rfl⟩⟩
theorem gOut14 {x : Int32} (c0 : ¬ x = 0) (c1 : ¬ x = 1) (c2 : ¬ x = 2) (c3 : ¬ x = 3) (c4 : ¬ x = 4) (c5 : ¬ x = 5) (c6 : ¬ x = 6) (c7 : ¬ x = 7) (c8 : ¬ x = 8) (c9 : ¬ x = 9) (c10 : ¬ x = 10) (c11 : ¬ x = 11) (c12 : ¬ x = 12) (c13 : ¬ x = 13) : x.toInt < 0 ∨ 13 < x.toInt := by have d0 : x.toInt ≠ 0 := fun h => c0 (Int32.toInt_inj.mp (h.trans (by decide))); have d1 : x.toInt ≠ 1 := fun h => c1 (Int32.toInt_inj.mp (h.trans (by decide))); have d2 : x.toInt ≠ 2 := fun h => c2 (Int32.toInt_inj.mp (h.trans (by decide))); have d3 : x.toInt ≠ 3 := fun h => c3 (Int32.toInt_inj.mp (h.trans (by decide))); have d4 : x.toInt ≠ 4 := fun h => c4 (Int32.toInt_inj.mp (h.trans (by decide))); have d5 : x.toInt ≠ 5 := fun h => c5 (Int32.toInt_inj.mp (h.trans (by decide))); have d6 : x.toInt ≠ 6 := fun h => c6 (Int32.toInt_inj.mp (h.trans (by decide))); have d7 : x.toInt ≠ 7 := fun h => c7 (Int32.toInt_inj.mp (h.trans (by decide))); have d8 : x.toInt ≠ 8 := fun h => c8 (Int32.toInt_inj.mp (h.trans (by decide))); have d9 : x.toInt ≠ 9 := fun h => c9 (Int32.toInt_inj.mp (h.trans (by decide))); have d10 : x.toInt ≠ 10 := fun h => c10 (Int32.toInt_inj.mp (h.trans (by decide))); have d11 : x.toInt ≠ 11 := fun h => c11 (Int32.toInt_inj.mp (h.trans (by decide))); have d12 : x.toInt ≠ 12 := fun h => c12 (Int32.toInt_inj.mp (h.trans (by decide))); have d13 : x.toInt ≠ 13 := fun h => c13 (Int32.toInt_inj.mp (h.trans (by decide))); omega
theorem dX8_clocks_0 : decode cX8_clocks 0 = .ok (.iload_n 0, 1) := by decide +kernel
theorem dX8_clocks_1 : decode cX8_clocks 1 = .ok (.tableswitch 115 0 13 #[71, 71, 75, 79, 83, 87, 91, 115, 115, 95, 99, 103, 107, 111], 71) := by decide +kernel
theorem dX8_clocks_72 : decode cX8_clocks 72 = .ok (.sipush 372, 3) := by decide +kernel
theorem dX8_clocks_75 : decode cX8_clocks 75 = .ok (.ireturn, 1) := by decide +kernel
theorem dX8_clocks_76 : decode cX8_clocks 76 = .ok (.sipush 558, 3) := by decide +kernel
theorem dX8_clocks_79 : decode cX8_clocks 79 = .ok (.ireturn, 1) := by decide +kernel
theorem dX8_clocks_80 : decode cX8_clocks 80 = .ok (.sipush 744, 3) := by decide +kernel
theorem dX8_clocks_83 : decode cX8_clocks 83 = .ok (.ireturn, 1) := by decide +kernel
theorem dX8_clocks_84 : decode cX8_clocks 84 = .ok (.sipush 1116, 3) := by decide +kernel
theorem dX8_clocks_87 : decode cX8_clocks 87 = .ok (.ireturn, 1) := by decide +kernel
theorem dX8_clocks_88 : decode cX8_clocks 88 = .ok (.sipush 1488, 3) := by decide +kernel
theorem dX8_clocks_91 : decode cX8_clocks 91 = .ok (.ireturn, 1) := by decide +kernel
theorem dX8_clocks_92 : decode cX8_clocks 92 = .ok (.sipush 1860, 3) := by decide +kernel
theorem dX8_clocks_95 : decode cX8_clocks 95 = .ok (.ireturn, 1) := by decide +kernel
theorem dX8_clocks_96 : decode cX8_clocks 96 = .ok (.sipush 512, 3) := by decide +kernel
theorem dX8_clocks_99 : decode cX8_clocks 99 = .ok (.ireturn, 1) := by decide +kernel
theorem dX8_clocks_100 : decode cX8_clocks 100 = .ok (.sipush 768, 3) := by decide +kernel
theorem dX8_clocks_103 : decode cX8_clocks 103 = .ok (.ireturn, 1) := by decide +kernel
theorem dX8_clocks_104 : decode cX8_clocks 104 = .ok (.sipush 1024, 3) := by decide +kernel
theorem dX8_clocks_107 : decode cX8_clocks 107 = .ok (.ireturn, 1) := by decide +kernel
theorem dX8_clocks_108 : decode cX8_clocks 108 = .ok (.sipush 1536, 3) := by decide +kernel
theorem dX8_clocks_111 : decode cX8_clocks 111 = .ok (.ireturn, 1) := by decide +kernel
theorem dX8_clocks_112 : decode cX8_clocks 112 = .ok (.sipush 2048, 3) := by decide +kernel
theorem dX8_clocks_115 : decode cX8_clocks 115 = .ok (.ireturn, 1) := by decide +kernel
theorem dX8_clocks_116 : decode cX8_clocks 116 = .ok (.iconst 0, 1) := by decide +kernel
theorem dX8_clocks_117 : decode cX8_clocks 117 = .ok (.ireturn, 1) := by decide +kernel
set_option maxRecDepth 100000 in
set_option maxHeartbeats 4000000 in
theorem c_X8_clocks_r {hp : List gA}  {y : Int32}   : gM yX8_clocks cX8_clocks 1 ((some .int)) 0 0 [.int y] (hp) (0) (0) (fun v h => ∃ x, v = some (.int x) ∧ h = hp) := by
  refine gM_of (ls0 := [some (.int y)]) (by decide +kernel) (Nat.le_of_ble_eq_true rfl) rfl fun X C E => ?_
  refine g_iload_n (q := 1) C dX8_clocks_0 rfl rfl ?_
  by_cases c_1_0 : y = 0
  ·
    refine g_tableE (v := 0) (off := 71) (t := 72) C dX8_clocks_1 c_1_0 (by decide) (by decide) (by decide) (by decide) ?_
    refine g_sipush (v := 372) (q := 75) C dX8_clocks_72 (by decide) rfl ?_
    exact E.1 _ _ _ _ _ _ _ dX8_clocks_75 rfl rfl (Nat.le_of_ble_eq_true rfl) (Nat.le_of_ble_eq_true rfl) ⟨_, rfl, rfl⟩
  by_cases c_1_1 : y = 1
  ·
    refine g_tableE (v := 1) (off := 71) (t := 72) C dX8_clocks_1 c_1_1 (by decide) (by decide) (by decide) (by decide) ?_
    refine g_sipush (v := 372) (q := 75) C dX8_clocks_72 (by decide) rfl ?_
    exact E.1 _ _ _ _ _ _ _ dX8_clocks_75 rfl rfl (Nat.le_of_ble_eq_true rfl) (Nat.le_of_ble_eq_true rfl) ⟨_, rfl, rfl⟩
  by_cases c_1_2 : y = 2
  ·
    refine g_tableE (v := 2) (off := 75) (t := 76) C dX8_clocks_1 c_1_2 (by decide) (by decide) (by decide) (by decide) ?_
    refine g_sipush (v := 558) (q := 79) C dX8_clocks_76 (by decide) rfl ?_
    exact E.1 _ _ _ _ _ _ _ dX8_clocks_79 rfl rfl (Nat.le_of_ble_eq_true rfl) (Nat.le_of_ble_eq_true rfl) ⟨_, rfl, rfl⟩
  by_cases c_1_3 : y = 3
  ·
    refine g_tableE (v := 3) (off := 79) (t := 80) C dX8_clocks_1 c_1_3 (by decide) (by decide) (by decide) (by decide) ?_
    refine g_sipush (v := 744) (q := 83) C dX8_clocks_80 (by decide) rfl ?_
    exact E.1 _ _ _ _ _ _ _ dX8_clocks_83 rfl rfl (Nat.le_of_ble_eq_true rfl) (Nat.le_of_ble_eq_true rfl) ⟨_, rfl, rfl⟩
  by_cases c_1_4 : y = 4
  ·
    refine g_tableE (v := 4) (off := 83) (t := 84) C dX8_clocks_1 c_1_4 (by decide) (by decide) (by decide) (by decide) ?_
    refine g_sipush (v := 1116) (q := 87) C dX8_clocks_84 (by decide) rfl ?_
    exact E.1 _ _ _ _ _ _ _ dX8_clocks_87 rfl rfl (Nat.le_of_ble_eq_true rfl) (Nat.le_of_ble_eq_true rfl) ⟨_, rfl, rfl⟩
  by_cases c_1_5 : y = 5
  ·
    refine g_tableE (v := 5) (off := 87) (t := 88) C dX8_clocks_1 c_1_5 (by decide) (by decide) (by decide) (by decide) ?_
    refine g_sipush (v := 1488) (q := 91) C dX8_clocks_88 (by decide) rfl ?_
    exact E.1 _ _ _ _ _ _ _ dX8_clocks_91 rfl rfl (Nat.le_of_ble_eq_true rfl) (Nat.le_of_ble_eq_true rfl) ⟨_, rfl, rfl⟩
  by_cases c_1_6 : y = 6
  ·
    refine g_tableE (v := 6) (off := 91) (t := 92) C dX8_clocks_1 c_1_6 (by decide) (by decide) (by decide) (by decide) ?_
    refine g_sipush (v := 1860) (q := 95) C dX8_clocks_92 (by decide) rfl ?_
    exact E.1 _ _ _ _ _ _ _ dX8_clocks_95 rfl rfl (Nat.le_of_ble_eq_true rfl) (Nat.le_of_ble_eq_true rfl) ⟨_, rfl, rfl⟩
  by_cases c_1_7 : y = 7
  ·
    refine g_tableE (v := 7) (off := 115) (t := 116) C dX8_clocks_1 c_1_7 (by decide) (by decide) (by decide) (by decide) ?_
    refine g_iconst (v := 0) (q := 117) C dX8_clocks_116 (by decide) rfl ?_
    exact E.1 _ _ _ _ _ _ _ dX8_clocks_117 rfl rfl (Nat.le_of_ble_eq_true rfl) (Nat.le_of_ble_eq_true rfl) ⟨_, rfl, rfl⟩
  by_cases c_1_8 : y = 8
  ·
    refine g_tableE (v := 8) (off := 115) (t := 116) C dX8_clocks_1 c_1_8 (by decide) (by decide) (by decide) (by decide) ?_
    refine g_iconst (v := 0) (q := 117) C dX8_clocks_116 (by decide) rfl ?_
    exact E.1 _ _ _ _ _ _ _ dX8_clocks_117 rfl rfl (Nat.le_of_ble_eq_true rfl) (Nat.le_of_ble_eq_true rfl) ⟨_, rfl, rfl⟩
  by_cases c_1_9 : y = 9
  ·
    refine g_tableE (v := 9) (off := 95) (t := 96) C dX8_clocks_1 c_1_9 (by decide) (by decide) (by decide) (by decide) ?_
    refine g_sipush (v := 512) (q := 99) C dX8_clocks_96 (by decide) rfl ?_
    exact E.1 _ _ _ _ _ _ _ dX8_clocks_99 rfl rfl (Nat.le_of_ble_eq_true rfl) (Nat.le_of_ble_eq_true rfl) ⟨_, rfl, rfl⟩
  by_cases c_1_10 : y = 10
  ·
    refine g_tableE (v := 10) (off := 99) (t := 100) C dX8_clocks_1 c_1_10 (by decide) (by decide) (by decide) (by decide) ?_
    refine g_sipush (v := 768) (q := 103) C dX8_clocks_100 (by decide) rfl ?_
    exact E.1 _ _ _ _ _ _ _ dX8_clocks_103 rfl rfl (Nat.le_of_ble_eq_true rfl) (Nat.le_of_ble_eq_true rfl) ⟨_, rfl, rfl⟩
  by_cases c_1_11 : y = 11
  ·
    refine g_tableE (v := 11) (off := 103) (t := 104) C dX8_clocks_1 c_1_11 (by decide) (by decide) (by decide) (by decide) ?_
    refine g_sipush (v := 1024) (q := 107) C dX8_clocks_104 (by decide) rfl ?_
    exact E.1 _ _ _ _ _ _ _ dX8_clocks_107 rfl rfl (Nat.le_of_ble_eq_true rfl) (Nat.le_of_ble_eq_true rfl) ⟨_, rfl, rfl⟩
  by_cases c_1_12 : y = 12
  ·
    refine g_tableE (v := 12) (off := 107) (t := 108) C dX8_clocks_1 c_1_12 (by decide) (by decide) (by decide) (by decide) ?_
    refine g_sipush (v := 1536) (q := 111) C dX8_clocks_108 (by decide) rfl ?_
    exact E.1 _ _ _ _ _ _ _ dX8_clocks_111 rfl rfl (Nat.le_of_ble_eq_true rfl) (Nat.le_of_ble_eq_true rfl) ⟨_, rfl, rfl⟩
  by_cases c_1_13 : y = 13
  ·
    refine g_tableE (v := 13) (off := 111) (t := 112) C dX8_clocks_1 c_1_13 (by decide) (by decide) (by decide) (by decide) ?_
    refine g_sipush (v := 2048) (q := 115) C dX8_clocks_112 (by decide) rfl ?_
    exact E.1 _ _ _ _ _ _ _ dX8_clocks_115 rfl rfl (Nat.le_of_ble_eq_true rfl) (Nat.le_of_ble_eq_true rfl) ⟨_, rfl, rfl⟩
  refine g_tableOut (t := 116) C dX8_clocks_1 (gOut14 c_1_0 c_1_1 c_1_2 c_1_3 c_1_4 c_1_5 c_1_6 c_1_7 c_1_8 c_1_9 c_1_10 c_1_11 c_1_12 c_1_13) (by decide) ?_
  refine g_iconst (v := 0) (q := 117) C dX8_clocks_116 (by decide) rfl ?_
  exact E.1 _ _ _ _ _ _ _ dX8_clocks_117 rfl rfl (Nat.le_of_ble_eq_true rfl) (Nat.le_of_ble_eq_true rfl) ⟨_, rfl, rfl⟩
theorem dX8_bits_0 : decode cX8_bits 0 = .ok (.iload_n 0, 1) := by decide +kernel
theorem dX8_bits_1 : decode cX8_bits 1 = .ok (.iconst 1, 1) := by decide +kernel
theorem dX8_bits_2 : decode cX8_bits 2 = .ok (.bipush 7, 2) := by decide +kernel
theorem dX8_bits_4 : decode cX8_bits 4 = .ok (.invokestatic 82, 3) := by decide +kernel
theorem dX8_bits_7 : decode cX8_bits 7 = .ok (.ifCond .eq 9, 3) := by decide +kernel
theorem dX8_bits_10 : decode cX8_bits 10 = .ok (.iconst 1, 1) := by decide +kernel
theorem dX8_bits_11 : decode cX8_bits 11 = .ok (.iload_n 0, 1) := by decide +kernel
theorem dX8_bits_12 : decode cX8_bits 12 = .ok (.iconst 1, 1) := by decide +kernel
theorem dX8_bits_13 : decode cX8_bits 13 = .ok (.isub, 1) := by decide +kernel
theorem dX8_bits_14 : decode cX8_bits 14 = .ok (.ishl, 1) := by decide +kernel
theorem dX8_bits_15 : decode cX8_bits 15 = .ok (.ireturn, 1) := by decide +kernel
theorem dX8_bits_16 : decode cX8_bits 16 = .ok (.iload_n 0, 1) := by decide +kernel
theorem dX8_bits_17 : decode cX8_bits 17 = .ok (.bipush 8, 2) := by decide +kernel
theorem dX8_bits_19 : decode cX8_bits 19 = .ok (.if_icmp .ne 8, 3) := by decide +kernel
theorem dX8_bits_22 : decode cX8_bits 22 = .ok (.bipush 12, 2) := by decide +kernel
theorem dX8_bits_24 : decode cX8_bits 24 = .ok (.goto 15, 3) := by decide +kernel
theorem dX8_bits_27 : decode cX8_bits 27 = .ok (.iload_n 0, 1) := by decide +kernel
theorem dX8_bits_28 : decode cX8_bits 28 = .ok (.bipush 9, 2) := by decide +kernel
theorem dX8_bits_30 : decode cX8_bits 30 = .ok (.if_icmp .ne 8, 3) := by decide +kernel
theorem dX8_bits_33 : decode cX8_bits 33 = .ok (.bipush 20, 2) := by decide +kernel
theorem dX8_bits_35 : decode cX8_bits 35 = .ok (.goto 4, 3) := by decide +kernel
theorem dX8_bits_38 : decode cX8_bits 38 = .ok (.iconst 0, 1) := by decide +kernel
theorem dX8_bits_39 : decode cX8_bits 39 = .ok (.ireturn, 1) := by decide +kernel
set_option maxRecDepth 100000 in
set_option maxHeartbeats 4000000 in
theorem c_X8_bits_r {hp : List gA}  {y : Int32}   : gM yX8_bits cX8_bits 1 ((some .int)) 1 22 [.int y] (hp) (0) (0) (fun v h => ∃ x, v = some (.int x) ∧ h = hp) := by
  refine gM_of (ls0 := [some (.int y)]) (by decide +kernel) (Nat.le_of_ble_eq_true rfl) rfl fun X C E => ?_
  refine g_iload_n (q := 1) C dX8_bits_0 rfl rfl ?_
  refine g_iconst (v := 1) (q := 2) C dX8_bits_1 (by decide) rfl ?_
  refine g_bipush (v := 7) (q := 4) C dX8_bits_2 (by decide) rfl ?_
  refine g_callSi (x := (rX8_within y 1 7)) (q := 7) (As := [.int y, .int 1, .int 7]) C gyX8_within t_1212 t_1211 (c_X8_within_m) dX8_bits_4 rfl rfl rfl (Nat.le_of_ble_eq_true rfl) (Nat.le_of_ble_eq_true rfl) (Nat.le_of_ble_eq_true rfl) (Nat.le_of_ble_eq_true rfl) (Nat.le_of_ble_eq_true rfl) rfl ?_
  refine g_if_eq (t := 16) (q := 10) C dX8_bits_7 (by decide) rfl (fun c_7 => ?_) (fun c_7 => ?_)
  ·
    refine g_iload_n (q := 17) C dX8_bits_16 rfl rfl ?_
    refine g_bipush (v := 8) (q := 19) C dX8_bits_17 (by decide) rfl ?_
    refine g_icmp_ne (t := 27) (q := 22) C dX8_bits_19 (by decide) rfl (fun c_19 => ?_) (fun c_19 => ?_)
    ·
      refine g_iload_n (q := 28) C dX8_bits_27 rfl rfl ?_
      refine g_bipush (v := 9) (q := 30) C dX8_bits_28 (by decide) rfl ?_
      suffices K30 : gG X 39 [some (.int y)] [.int (if y = 9 then 20 else 0 : Int32)] hp 0 0 by
        refine g_icmp_ne (t := 38) (q := 33) C dX8_bits_30 (by decide) rfl (fun c_30 => ?_) (fun c_30 => ?_)
        · refine g_iconst (v := 0) (q := 39) C dX8_bits_38 (by decide) rfl ?_
          rw [if_neg c_30] at K30
          exact K30
        · refine g_bipush (v := 20) (q := 35) C dX8_bits_33 (by decide) rfl ?_
          refine g_goto (q := 39) C dX8_bits_35 (by decide) ?_
          rw [if_pos c_30] at K30
          exact K30
      exact E.1 _ _ _ _ _ _ _ dX8_bits_39 rfl rfl (Nat.le_of_ble_eq_true rfl) (Nat.le_of_ble_eq_true rfl) ⟨_, rfl, rfl⟩
    ·
      refine g_bipush (v := 12) (q := 24) C dX8_bits_22 (by decide) rfl ?_
      refine g_goto (q := 39) C dX8_bits_24 (by decide) ?_
      exact E.1 _ _ _ _ _ _ _ dX8_bits_39 rfl rfl (Nat.le_of_ble_eq_true rfl) (Nat.le_of_ble_eq_true rfl) ⟨_, rfl, rfl⟩
  ·
    refine g_iconst (v := 1) (q := 11) C dX8_bits_10 (by decide) rfl ?_
    refine g_iload_n (q := 12) C dX8_bits_11 rfl rfl ?_
    refine g_iconst (v := 1) (q := 13) C dX8_bits_12 (by decide) rfl ?_
    refine g_isub (q := 14) C dX8_bits_13 rfl ?_
    refine g_ishl (q := 15) C dX8_bits_14 rfl ?_
    exact E.1 _ _ _ _ _ _ _ dX8_bits_15 rfl rfl (Nat.le_of_ble_eq_true rfl) (Nat.le_of_ble_eq_true rfl) ⟨_, rfl, rfl⟩
