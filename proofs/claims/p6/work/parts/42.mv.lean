/-! the reference: what would come (by program: wip/p2/m_mv.py) -/
theorem dX8_would_0 : decode cX8_would 0 = .ok (.aload_n 0, 1) := by decide +kernel
theorem dX8_would_1 : decode cX8_would 1 = .ok (.iconst 0, 1) := by decide +kernel
theorem dX8_would_2 : decode cX8_would 2 = .ok (.putfield 66, 3) := by decide +kernel
theorem dX8_would_5 : decode cX8_would 5 = .ok (.aload_n 0, 1) := by decide +kernel
theorem dX8_would_6 : decode cX8_would 6 = .ok (.getfield 134, 3) := by decide +kernel
theorem dX8_would_9 : decode cX8_would 9 = .ok (.ifCond .eq 24, 3) := by decide +kernel
theorem dX8_would_12 : decode cX8_would 12 = .ok (.aload_n 0, 1) := by decide +kernel
theorem dX8_would_13 : decode cX8_would 13 = .ok (.getfield 22, 3) := by decide +kernel
theorem dX8_would_16 : decode cX8_would 16 = .ok (.sipush 419, 3) := by decide +kernel
theorem dX8_would_19 : decode cX8_would 19 = .ok (.iaload, 1) := by decide +kernel
theorem dX8_would_20 : decode cX8_would 20 = .ok (.iconst 1, 1) := by decide +kernel
theorem dX8_would_21 : decode cX8_would 21 = .ok (.if_icmp .ne 12, 3) := by decide +kernel
theorem dX8_would_24 : decode cX8_would 24 = .ok (.iload_n 1, 1) := by decide +kernel
theorem dX8_would_25 : decode cX8_would 25 = .ok (.iconst 0, 1) := by decide +kernel
theorem dX8_would_26 : decode cX8_would 26 = .ok (.iconst 3, 1) := by decide +kernel
theorem dX8_would_27 : decode cX8_would 27 = .ok (.invokestatic 82, 3) := by decide +kernel
theorem dX8_would_30 : decode cX8_would 30 = .ok (.ifCond .ne 5, 3) := by decide +kernel
theorem dX8_would_33 : decode cX8_would 33 = .ok (.iconst (-1), 1) := by decide +kernel
theorem dX8_would_34 : decode cX8_would 34 = .ok (.ireturn, 1) := by decide +kernel
theorem dX8_would_35 : decode cX8_would 35 = .ok (.aload_n 0, 1) := by decide +kernel
theorem dX8_would_36 : decode cX8_would 36 = .ok (.invokevirtual 309, 3) := by decide +kernel
theorem dX8_would_39 : decode cX8_would 39 = .ok (.aload_n 0, 1) := by decide +kernel
theorem dX8_would_40 : decode cX8_would 40 = .ok (.invokevirtual 312, 3) := by decide +kernel
theorem dX8_would_43 : decode cX8_would 43 = .ok (.iload_n 1, 1) := by decide +kernel
theorem dX8_would_44 : decode cX8_would 44 = .ok (.ifCond .ne 14, 3) := by decide +kernel
theorem dX8_would_47 : decode cX8_would 47 = .ok (.aload_n 0, 1) := by decide +kernel
theorem dX8_would_48 : decode cX8_would 48 = .ok (.getfield 22, 3) := by decide +kernel
theorem dX8_would_51 : decode cX8_would 51 = .ok (.sipush 419, 3) := by decide +kernel
theorem dX8_would_54 : decode cX8_would 54 = .ok (.iaload, 1) := by decide +kernel
theorem dX8_would_55 : decode cX8_would 55 = .ok (.goto 63, 3) := by decide +kernel
theorem dX8_would_58 : decode cX8_would 58 = .ok (.iload_n 1, 1) := by decide +kernel
theorem dX8_would_59 : decode cX8_would 59 = .ok (.iconst 1, 1) := by decide +kernel
theorem dX8_would_60 : decode cX8_would 60 = .ok (.if_icmp .ne 10, 3) := by decide +kernel
theorem dX8_would_63 : decode cX8_would 63 = .ok (.aload_n 0, 1) := by decide +kernel
theorem dX8_would_64 : decode cX8_would 64 = .ok (.getfield 306, 3) := by decide +kernel
theorem dX8_would_67 : decode cX8_would 67 = .ok (.goto 51, 3) := by decide +kernel
theorem dX8_would_70 : decode cX8_would 70 = .ok (.iload_n 1, 1) := by decide +kernel
theorem dX8_would_71 : decode cX8_would 71 = .ok (.iconst 2, 1) := by decide +kernel
theorem dX8_would_72 : decode cX8_would 72 = .ok (.if_icmp .ne 23, 3) := by decide +kernel
theorem dX8_would_75 : decode cX8_would 75 = .ok (.aload_n 0, 1) := by decide +kernel
theorem dX8_would_76 : decode cX8_would 76 = .ok (.getfield 22, 3) := by decide +kernel
theorem dX8_would_79 : decode cX8_would 79 = .ok (.sipush 423, 3) := by decide +kernel
theorem dX8_would_82 : decode cX8_would 82 = .ok (.iaload, 1) := by decide +kernel
theorem dX8_would_83 : decode cX8_would 83 = .ok (.aload_n 0, 1) := by decide +kernel
theorem dX8_would_84 : decode cX8_would 84 = .ok (.getfield 25, 3) := by decide +kernel
theorem dX8_would_87 : decode cX8_would 87 = .ok (.sipush 423, 3) := by decide +kernel
theorem dX8_would_90 : decode cX8_would 90 = .ok (.iaload, 1) := by decide +kernel
theorem dX8_would_91 : decode cX8_would 91 = .ok (.isub, 1) := by decide +kernel
theorem dX8_would_92 : decode cX8_would 92 = .ok (.goto 26, 3) := by decide +kernel
theorem dX8_would_95 : decode cX8_would 95 = .ok (.aload_n 0, 1) := by decide +kernel
theorem dX8_would_96 : decode cX8_would 96 = .ok (.getfield 22, 3) := by decide +kernel
theorem dX8_would_99 : decode cX8_would 99 = .ok (.sipush 419, 3) := by decide +kernel
theorem dX8_would_102 : decode cX8_would 102 = .ok (.iaload, 1) := by decide +kernel
theorem dX8_would_103 : decode cX8_would 103 = .ok (.iconst 2, 1) := by decide +kernel
theorem dX8_would_104 : decode cX8_would 104 = .ok (.if_icmp .ne 13, 3) := by decide +kernel
theorem dX8_would_107 : decode cX8_would 107 = .ok (.aload_n 0, 1) := by decide +kernel
theorem dX8_would_108 : decode cX8_would 108 = .ok (.getfield 22, 3) := by decide +kernel
theorem dX8_would_111 : decode cX8_would 111 = .ok (.bipush 14, 2) := by decide +kernel
theorem dX8_would_113 : decode cX8_would 113 = .ok (.iaload, 1) := by decide +kernel
theorem dX8_would_114 : decode cX8_would 114 = .ok (.goto 4, 3) := by decide +kernel
theorem dX8_would_117 : decode cX8_would 117 = .ok (.iconst (-1), 1) := by decide +kernel
theorem dX8_would_118 : decode cX8_would 118 = .ok (.istore_n 2, 1) := by decide +kernel
theorem dX8_would_119 : decode cX8_would 119 = .ok (.aload_n 0, 1) := by decide +kernel
theorem dX8_would_120 : decode cX8_would 120 = .ok (.invokevirtual 315, 3) := by decide +kernel
theorem dX8_would_123 : decode cX8_would 123 = .ok (.iload_n 2, 1) := by decide +kernel
theorem dX8_would_124 : decode cX8_would 124 = .ok (.ireturn, 1) := by decide +kernel
set_option maxRecDepth 100000 in
set_option maxHeartbeats 4000000 in
theorem c_X8_would_r {hp : List gA} {M : gMd} {y : Int32} {J : Nat → gMd → Nat → List (Int32 × List Int32) → Prop} (HM : gMod hp M) (h0 : ¬ M.f 3 = 0 → M.a 4 419 = 1 → ∃ l D, J 0 (((rX8_keeps (M.set 2 0)).set 19 1).set 36 0) l D) (hJ : ∀ k M1 l D, k < 400 → J k M1 l D → M1.a 4 419 = 1 → oTn M1 l D ∧ ∀ M' D' x, gTn M1 l D M' D' x → ∀ s, ∃ l', J (k + 1) (M'.set 36 s) l' D') : gM yX8_would cX8_would 3 ((some .int)) 12 274 [.ref 122, .int y] (hp) (0) (0) (fun v h => ∃ x, v = some (.int x) ∧ ∃ M', gMod h M' ∧ gFM hp h ∧ ((M' = M.set 2 0) ∨ (¬ M.f 3 = 0 ∧ M.a 4 419 = 1 ∧ ∃ k Mz l D, k ≤ 400 ∧ J k Mz l D ∧ M' = rX8_comesBack (Mz.set 19 0)))) := by
  refine gM_of (ls0 := [some (.ref 122), some (.int y), none]) (by decide +kernel) (Nat.le_of_ble_eq_true rfl) rfl fun X C E => ?_
  refine g_aload_n (q := 1) C dX8_would_0 rfl rfl ?_
  refine g_iconst (v := 0) (q := 2) C dX8_would_1 (by decide) rfl ?_
  refine g_putfield (q := 5) C fX8_66 dX8_would_2 rfl HM.1 (Nat.le_of_ble_eq_true rfl) (Or.inl rfl) rfl rfl (by intro z h; cases h) ?_
  refine gMput (j := 2) (x := 0) HM rfl fun h1 HL1 fr1 => ?_
  refine g_aload_n (q := 6) C dX8_would_5 rfl rfl ?_
  refine g_getfield (v := .int ((M.f 3))) (q := 9) C fX8_134 dX8_would_6 rfl HL1.1 rfl ?_
  refine g_if_eq (t := 33) (q := 12) C dX8_would_9 (by decide) rfl (fun c_9 => ?_) (fun c_9 => ?_)
  ·
    refine g_iconst (v := (-1)) (q := 34) C dX8_would_33 (by decide) rfl ?_
    exact E.1 _ _ _ _ _ _ _ dX8_would_34 rfl rfl (Nat.le_of_ble_eq_true rfl) (Nat.le_of_ble_eq_true rfl) ⟨_, rfl, _, HL1, fr1, Or.inl rfl⟩
  ·
    refine g_aload_n (q := 13) C dX8_would_12 rfl rfl ?_
    refine g_getfield (v := .ref 127) (q := 16) C fX8_22 dX8_would_13 rfl HL1.1 rfl ?_
    refine g_sipush (v := 419) (q := 19) C dX8_would_16 (by decide) rfl ?_
    refine g_ialoadN (x := (M.a 4 419)) (j := 419) (q := 20) C dX8_would_19 rfl (HL1.ar (i := 4) (n := 772) (by decide) rfl) (pk_in 419 772 (by decide)) (pk_cl 419) gset_a ?_
    refine g_iconst (v := 1) (q := 21) C dX8_would_20 (by decide) rfl ?_
    refine g_icmp_ne (t := 33) (q := 24) C dX8_would_21 (by decide) rfl (fun c_21 => ?_) (fun c_21 => ?_)
    ·
      refine g_iconst (v := (-1)) (q := 34) C dX8_would_33 (by decide) rfl ?_
      exact E.1 _ _ _ _ _ _ _ dX8_would_34 rfl rfl (Nat.le_of_ble_eq_true rfl) (Nat.le_of_ble_eq_true rfl) ⟨_, rfl, _, HL1, fr1, Or.inl rfl⟩
    ·
      refine g_iload_n (q := 25) C dX8_would_24 rfl rfl ?_
      refine g_iconst (v := 0) (q := 26) C dX8_would_25 (by decide) rfl ?_
      refine g_iconst (v := 3) (q := 27) C dX8_would_26 (by decide) rfl ?_
      refine g_callSi (x := (rX8_within y 0 3)) (q := 30) (As := [.int y, .int 0, .int 3]) C gyX8_within t_1212 t_1211 (c_X8_within_m) dX8_would_27 rfl rfl rfl (Nat.le_of_ble_eq_true rfl) (Nat.le_of_ble_eq_true rfl) (Nat.le_of_ble_eq_true rfl) (Nat.le_of_ble_eq_true rfl) (Nat.le_of_ble_eq_true rfl) rfl ?_
      refine g_if_ne (t := 35) (q := 33) C dX8_would_30 (by decide) rfl (fun c_30 => ?_) (fun c_30 => ?_)
      ·
        refine g_aload_n (q := 36) C dX8_would_35 rfl rfl ?_
        refine g_callVvp (q := 39) (As := []) C gyX8_keeps gvX8_keeps t_1482 (c_X8_keeps_m HL1) dX8_would_36 rfl HL1.1 rfl rfl rfl (Nat.le_of_ble_eq_true rfl) (Nat.le_of_ble_eq_true rfl) (Nat.le_of_ble_eq_true rfl) (Nat.le_of_ble_eq_true rfl) (Nat.le_of_ble_eq_true rfl) rfl (fun h2 z2 => ?_)
        obtain ⟨HL2, fr2⟩ := z2
        refine g_aload_n (q := 40) C dX8_would_39 rfl rfl ?_
        refine g_callVvp (q := 43) (As := []) C gyX8_triesOut gvX8_triesOut t_1486 (c_X8_triesOut_r HL2 (h0 c_9 c_21) hJ) dX8_would_40 rfl HL2.1 rfl rfl rfl (Nat.le_of_ble_eq_true rfl) (Nat.le_of_ble_eq_true rfl) (Nat.le_of_ble_eq_true rfl) (Nat.le_of_ble_eq_true rfl) (Nat.le_of_ble_eq_true rfl) rfl (fun h3 z3 => ?_)
        obtain ⟨k9, Mz, l9, D9, hk9, HJ9, hs9, HM9, frt9⟩ := z3
        refine g_iload_n (q := 44) C dX8_would_43 rfl rfl ?_
        refine g_if_ne (t := 58) (q := 47) C dX8_would_44 (by decide) rfl (fun c_44 => ?_) (fun c_44 => ?_)
        ·
          refine g_iload_n (q := 59) C dX8_would_58 rfl rfl ?_
          refine g_iconst (v := 1) (q := 60) C dX8_would_59 (by decide) rfl ?_
          refine g_icmp_ne (t := 70) (q := 63) C dX8_would_60 (by decide) rfl (fun c_60 => ?_) (fun c_60 => ?_)
          ·
            refine g_iload_n (q := 71) C dX8_would_70 rfl rfl ?_
            refine g_iconst (v := 2) (q := 72) C dX8_would_71 (by decide) rfl ?_
            refine g_icmp_ne (t := 95) (q := 75) C dX8_would_72 (by decide) rfl (fun c_72 => ?_) (fun c_72 => ?_)
            ·
              refine g_aload_n (q := 96) C dX8_would_95 rfl rfl ?_
              refine g_getfield (v := .ref 127) (q := 99) C fX8_22 dX8_would_96 rfl HM9.1 rfl ?_
              refine g_sipush (v := 419) (q := 102) C dX8_would_99 (by decide) rfl ?_
              refine g_ialoadN (x := ((Mz.set 19 0).a 4 419)) (j := 419) (q := 103) C dX8_would_102 rfl (HM9.ar (i := 4) (n := 772) (by decide) rfl) (pk_in 419 772 (by decide)) (pk_cl 419) rfl ?_
              refine g_iconst (v := 2) (q := 104) C dX8_would_103 (by decide) rfl ?_
              refine g_icmp_ne (t := 117) (q := 107) C dX8_would_104 (by decide) rfl (fun c_104 => ?_) (fun c_104 => ?_)
              ·
                refine g_iconst (v := (-1)) (q := 118) C dX8_would_117 (by decide) rfl ?_
                refine g_istore_n (q := 119) C dX8_would_118 (Nat.le_of_ble_eq_true rfl) (by simp only [gset]; rfl) rfl ?_
                refine g_aload_n (q := 120) C dX8_would_119 rfl rfl ?_
                refine g_callVvp (q := 123) (As := []) C gyX8_comesBack gvX8_comesBack t_1490 (c_X8_comesBack_m HM9) dX8_would_120 rfl HM9.1 rfl rfl rfl (Nat.le_of_ble_eq_true rfl) (Nat.le_of_ble_eq_true rfl) (Nat.le_of_ble_eq_true rfl) (Nat.le_of_ble_eq_true rfl) (Nat.le_of_ble_eq_true rfl) rfl (fun h4 z4 => ?_)
                obtain ⟨HL4, fr4⟩ := z4
                refine g_iload_n (q := 124) C dX8_would_123 rfl rfl ?_
                exact E.1 _ _ _ _ _ _ _ dX8_would_124 rfl rfl (Nat.le_of_ble_eq_true rfl) (Nat.le_of_ble_eq_true rfl) ⟨_, rfl, _, HL4, (gFM.trans (gFM.trans (gFM.trans fr1 fr2) frt9) fr4), Or.inr ⟨c_9, c_21, k9, Mz, l9, D9, hk9, HJ9, rfl⟩⟩
              ·
                refine g_aload_n (q := 108) C dX8_would_107 rfl rfl ?_
                refine g_getfield (v := .ref 127) (q := 111) C fX8_22 dX8_would_108 rfl HM9.1 rfl ?_
                refine g_bipush (v := 14) (q := 113) C dX8_would_111 (by decide) rfl ?_
                refine g_ialoadN (x := ((Mz.set 19 0).a 4 14)) (j := 14) (q := 114) C dX8_would_113 rfl (HM9.ar (i := 4) (n := 772) (by decide) rfl) (pk_in 14 772 (by decide)) (pk_cl 14) rfl ?_
                refine g_goto (q := 118) C dX8_would_114 (by decide) ?_
                refine g_istore_n (q := 119) C dX8_would_118 (Nat.le_of_ble_eq_true rfl) (by simp only [gset]; rfl) rfl ?_
                refine g_aload_n (q := 120) C dX8_would_119 rfl rfl ?_
                refine g_callVvp (q := 123) (As := []) C gyX8_comesBack gvX8_comesBack t_1490 (c_X8_comesBack_m HM9) dX8_would_120 rfl HM9.1 rfl rfl rfl (Nat.le_of_ble_eq_true rfl) (Nat.le_of_ble_eq_true rfl) (Nat.le_of_ble_eq_true rfl) (Nat.le_of_ble_eq_true rfl) (Nat.le_of_ble_eq_true rfl) rfl (fun h5 z5 => ?_)
                obtain ⟨HL5, fr5⟩ := z5
                refine g_iload_n (q := 124) C dX8_would_123 rfl rfl ?_
                exact E.1 _ _ _ _ _ _ _ dX8_would_124 rfl rfl (Nat.le_of_ble_eq_true rfl) (Nat.le_of_ble_eq_true rfl) ⟨_, rfl, _, HL5, (gFM.trans (gFM.trans (gFM.trans fr1 fr2) frt9) fr5), Or.inr ⟨c_9, c_21, k9, Mz, l9, D9, hk9, HJ9, rfl⟩⟩
            ·
              refine g_aload_n (q := 76) C dX8_would_75 rfl rfl ?_
              refine g_getfield (v := .ref 127) (q := 79) C fX8_22 dX8_would_76 rfl HM9.1 rfl ?_
              refine g_sipush (v := 423) (q := 82) C dX8_would_79 (by decide) rfl ?_
              refine g_ialoadN (x := ((Mz.set 19 0).a 4 423)) (j := 423) (q := 83) C dX8_would_82 rfl (HM9.ar (i := 4) (n := 772) (by decide) rfl) (pk_in 423 772 (by decide)) (pk_cl 423) rfl ?_
              refine g_aload_n (q := 84) C dX8_would_83 rfl rfl ?_
              refine g_getfield (v := .ref 128) (q := 87) C fX8_25 dX8_would_84 rfl HM9.1 rfl ?_
              refine g_sipush (v := 423) (q := 90) C dX8_would_87 (by decide) rfl ?_
              refine g_ialoadN (x := ((Mz.set 19 0).a 5 423)) (j := 423) (q := 91) C dX8_would_90 rfl (HM9.ar (i := 5) (n := 772) (by decide) rfl) (pk_in 423 772 (by decide)) (pk_cl 423) rfl ?_
              refine g_isub (q := 92) C dX8_would_91 rfl ?_
              refine g_goto (q := 118) C dX8_would_92 (by decide) ?_
              refine g_istore_n (q := 119) C dX8_would_118 (Nat.le_of_ble_eq_true rfl) (by simp only [gset]; rfl) rfl ?_
              refine g_aload_n (q := 120) C dX8_would_119 rfl rfl ?_
              refine g_callVvp (q := 123) (As := []) C gyX8_comesBack gvX8_comesBack t_1490 (c_X8_comesBack_m HM9) dX8_would_120 rfl HM9.1 rfl rfl rfl (Nat.le_of_ble_eq_true rfl) (Nat.le_of_ble_eq_true rfl) (Nat.le_of_ble_eq_true rfl) (Nat.le_of_ble_eq_true rfl) (Nat.le_of_ble_eq_true rfl) rfl (fun h6 z6 => ?_)
              obtain ⟨HL6, fr6⟩ := z6
              refine g_iload_n (q := 124) C dX8_would_123 rfl rfl ?_
              exact E.1 _ _ _ _ _ _ _ dX8_would_124 rfl rfl (Nat.le_of_ble_eq_true rfl) (Nat.le_of_ble_eq_true rfl) ⟨_, rfl, _, HL6, (gFM.trans (gFM.trans (gFM.trans fr1 fr2) frt9) fr6), Or.inr ⟨c_9, c_21, k9, Mz, l9, D9, hk9, HJ9, rfl⟩⟩
          ·
            refine g_aload_n (q := 64) C dX8_would_63 rfl rfl ?_
            refine g_getfield (v := .int (((Mz.set 19 0).f 36))) (q := 67) C fX8_306 dX8_would_64 rfl HM9.1 rfl ?_
            refine g_goto (q := 118) C dX8_would_67 (by decide) ?_
            refine g_istore_n (q := 119) C dX8_would_118 (Nat.le_of_ble_eq_true rfl) (by simp only [gset]; rfl) rfl ?_
            refine g_aload_n (q := 120) C dX8_would_119 rfl rfl ?_
            refine g_callVvp (q := 123) (As := []) C gyX8_comesBack gvX8_comesBack t_1490 (c_X8_comesBack_m HM9) dX8_would_120 rfl HM9.1 rfl rfl rfl (Nat.le_of_ble_eq_true rfl) (Nat.le_of_ble_eq_true rfl) (Nat.le_of_ble_eq_true rfl) (Nat.le_of_ble_eq_true rfl) (Nat.le_of_ble_eq_true rfl) rfl (fun h7 z7 => ?_)
            obtain ⟨HL7, fr7⟩ := z7
            refine g_iload_n (q := 124) C dX8_would_123 rfl rfl ?_
            exact E.1 _ _ _ _ _ _ _ dX8_would_124 rfl rfl (Nat.le_of_ble_eq_true rfl) (Nat.le_of_ble_eq_true rfl) ⟨_, rfl, _, HL7, (gFM.trans (gFM.trans (gFM.trans fr1 fr2) frt9) fr7), Or.inr ⟨c_9, c_21, k9, Mz, l9, D9, hk9, HJ9, rfl⟩⟩
        ·
          refine g_aload_n (q := 48) C dX8_would_47 rfl rfl ?_
          refine g_getfield (v := .ref 127) (q := 51) C fX8_22 dX8_would_48 rfl HM9.1 rfl ?_
          refine g_sipush (v := 419) (q := 54) C dX8_would_51 (by decide) rfl ?_
          refine g_ialoadN (x := ((Mz.set 19 0).a 4 419)) (j := 419) (q := 55) C dX8_would_54 rfl (HM9.ar (i := 4) (n := 772) (by decide) rfl) (pk_in 419 772 (by decide)) (pk_cl 419) rfl ?_
          refine g_goto (q := 118) C dX8_would_55 (by decide) ?_
          refine g_istore_n (q := 119) C dX8_would_118 (Nat.le_of_ble_eq_true rfl) (by simp only [gset]; rfl) rfl ?_
          refine g_aload_n (q := 120) C dX8_would_119 rfl rfl ?_
          refine g_callVvp (q := 123) (As := []) C gyX8_comesBack gvX8_comesBack t_1490 (c_X8_comesBack_m HM9) dX8_would_120 rfl HM9.1 rfl rfl rfl (Nat.le_of_ble_eq_true rfl) (Nat.le_of_ble_eq_true rfl) (Nat.le_of_ble_eq_true rfl) (Nat.le_of_ble_eq_true rfl) (Nat.le_of_ble_eq_true rfl) rfl (fun h8 z8 => ?_)
          obtain ⟨HL8, fr8⟩ := z8
          refine g_iload_n (q := 124) C dX8_would_123 rfl rfl ?_
          exact E.1 _ _ _ _ _ _ _ dX8_would_124 rfl rfl (Nat.le_of_ble_eq_true rfl) (Nat.le_of_ble_eq_true rfl) ⟨_, rfl, _, HL8, (gFM.trans (gFM.trans (gFM.trans fr1 fr2) frt9) fr8), Or.inr ⟨c_9, c_21, k9, Mz, l9, D9, hk9, HJ9, rfl⟩⟩
      ·
        refine g_iconst (v := (-1)) (q := 34) C dX8_would_33 (by decide) rfl ?_
        exact E.1 _ _ _ _ _ _ _ dX8_would_34 rfl rfl (Nat.le_of_ble_eq_true rfl) (Nat.le_of_ble_eq_true rfl) ⟨_, rfl, _, HL1, fr1, Or.inl rfl⟩
theorem gTt {t : Int32} : t ≤ nI t.toNatClampNeg := by
  by_cases c : t < 0
  · rw [Int32.le_iff_toInt_le, nI_toInt t.toNatClampNeg_lt]
    rw [Int32.lt_iff_toInt_lt] at c
    have : (0 : Int32).toInt = 0 := rfl
    omega
  · have h : (0 : Int32) ≤ t := Int32.not_lt.mp c
    rw [Int32.le_iff_toInt_le, nI_toInt t.toNatClampNeg_lt]
    show t.toInt ≤ (t.toInt.toNat : Int)
    omega
theorem gTf {t : Int32} {j : Nat} (h : j < t.toNatClampNeg) : ¬ t ≤ nI j := by
  have l := t.toNatClampNeg_lt
  rw [Int32.le_iff_toInt_le, nI_toInt (by omega)]
  have : j < t.toInt.toNat := h
  omega
theorem dX8_isSame_0 : decode cX8_isSame 0 = .ok (.aload_n 0, 1) := by decide +kernel
theorem dX8_isSame_1 : decode cX8_isSame 1 = .ok (.getfield 22, 3) := by decide +kernel
theorem dX8_isSame_4 : decode cX8_isSame 4 = .ok (.sipush 419, 3) := by decide +kernel
theorem dX8_isSame_7 : decode cX8_isSame 7 = .ok (.iaload, 1) := by decide +kernel
theorem dX8_isSame_8 : decode cX8_isSame 8 = .ok (.iconst 2, 1) := by decide +kernel
theorem dX8_isSame_9 : decode cX8_isSame 9 = .ok (.if_icmp .ne 17, 3) := by decide +kernel
theorem dX8_isSame_12 : decode cX8_isSame 12 = .ok (.aload_n 0, 1) := by decide +kernel
theorem dX8_isSame_13 : decode cX8_isSame 13 = .ok (.getfield 22, 3) := by decide +kernel
theorem dX8_isSame_16 : decode cX8_isSame 16 = .ok (.bipush 14, 2) := by decide +kernel
theorem dX8_isSame_18 : decode cX8_isSame 18 = .ok (.iaload, 1) := by decide +kernel
theorem dX8_isSame_19 : decode cX8_isSame 19 = .ok (.aload_n 0, 1) := by decide +kernel
theorem dX8_isSame_20 : decode cX8_isSame 20 = .ok (.getfield 318, 3) := by decide +kernel
theorem dX8_isSame_23 : decode cX8_isSame 23 = .ok (.if_icmp .eq 5, 3) := by decide +kernel
theorem dX8_isSame_26 : decode cX8_isSame 26 = .ok (.iconst 0, 1) := by decide +kernel
theorem dX8_isSame_27 : decode cX8_isSame 27 = .ok (.ireturn, 1) := by decide +kernel
theorem dX8_isSame_28 : decode cX8_isSame 28 = .ok (.iconst 0, 1) := by decide +kernel
theorem dX8_isSame_29 : decode cX8_isSame 29 = .ok (.istore_n 1, 1) := by decide +kernel
theorem dX8_isSame_30 : decode cX8_isSame 30 = .ok (.iload_n 1, 1) := by decide +kernel
theorem dX8_isSame_31 : decode cX8_isSame 31 = .ok (.aload_n 0, 1) := by decide +kernel
theorem dX8_isSame_32 : decode cX8_isSame 32 = .ok (.getfield 318, 3) := by decide +kernel
theorem dX8_isSame_35 : decode cX8_isSame 35 = .ok (.if_icmp .ge 30, 3) := by decide +kernel
theorem dX8_isSame_38 : decode cX8_isSame 38 = .ok (.aload_n 0, 1) := by decide +kernel
theorem dX8_isSame_39 : decode cX8_isSame 39 = .ok (.getfield 22, 3) := by decide +kernel
theorem dX8_isSame_42 : decode cX8_isSame 42 = .ok (.sipush 288, 3) := by decide +kernel
theorem dX8_isSame_45 : decode cX8_isSame 45 = .ok (.iload_n 1, 1) := by decide +kernel
theorem dX8_isSame_46 : decode cX8_isSame 46 = .ok (.iadd, 1) := by decide +kernel
theorem dX8_isSame_47 : decode cX8_isSame 47 = .ok (.iaload, 1) := by decide +kernel
theorem dX8_isSame_48 : decode cX8_isSame 48 = .ok (.aload_n 0, 1) := by decide +kernel
theorem dX8_isSame_49 : decode cX8_isSame 49 = .ok (.getfield 60, 3) := by decide +kernel
theorem dX8_isSame_52 : decode cX8_isSame 52 = .ok (.iload_n 1, 1) := by decide +kernel
theorem dX8_isSame_53 : decode cX8_isSame 53 = .ok (.iaload, 1) := by decide +kernel
theorem dX8_isSame_54 : decode cX8_isSame 54 = .ok (.if_icmp .eq 5, 3) := by decide +kernel
theorem dX8_isSame_57 : decode cX8_isSame 57 = .ok (.iconst 0, 1) := by decide +kernel
theorem dX8_isSame_58 : decode cX8_isSame 58 = .ok (.ireturn, 1) := by decide +kernel
theorem dX8_isSame_59 : decode cX8_isSame 59 = .ok (.iinc 1 1, 3) := by decide +kernel
theorem dX8_isSame_62 : decode cX8_isSame 62 = .ok (.goto (-32), 3) := by decide +kernel
theorem dX8_isSame_65 : decode cX8_isSame 65 = .ok (.iconst 1, 1) := by decide +kernel
theorem dX8_isSame_66 : decode cX8_isSame 66 = .ok (.ireturn, 1) := by decide +kernel
set_option maxRecDepth 100000 in
set_option maxHeartbeats 4000000 in
theorem c_X8_isSame_r {hp : List gA} {M : gMd}  (HM : gMod hp M) (hw : (M.f 38).toNatClampNeg ≤ 60) : gM yX8_isSame cX8_isSame 2 ((some .boolean)) 0 0 [.ref 122] (hp) (0) (0) (fun v h => ∃ x, v = some (.int x) ∧ h = hp) := by
  refine gM_of (ls0 := [some (.ref 122), none]) (by decide +kernel) (Nat.le_of_ble_eq_true rfl) rfl fun X C E => ?_
  have h60 := hw
  refine g_aload_n (q := 1) C dX8_isSame_0 rfl rfl ?_
  refine g_getfield (v := .ref 127) (q := 4) C fX8_22 dX8_isSame_1 rfl HM.1 rfl ?_
  refine g_sipush (v := 419) (q := 7) C dX8_isSame_4 (by decide) rfl ?_
  refine g_ialoadN (x := (M.a 4 419)) (j := 419) (q := 8) C dX8_isSame_7 rfl (HM.ar (i := 4) (n := 772) (by decide) rfl) (pk_in 419 772 (by decide)) (pk_cl 419) rfl ?_
  refine g_iconst (v := 2) (q := 9) C dX8_isSame_8 (by decide) rfl ?_
  refine g_icmp_ne (t := 26) (q := 12) C dX8_isSame_9 (by decide) rfl (fun c_9 => ?_) (fun c_9 => ?_)
  ·
    refine g_iconst (v := 0) (q := 27) C dX8_isSame_26 (by decide) rfl ?_
    exact E.1 _ _ _ _ _ _ _ dX8_isSame_27 rfl rfl (Nat.le_of_ble_eq_true rfl) (Nat.le_of_ble_eq_true rfl) ⟨_, rfl, rfl⟩
  ·
    refine g_aload_n (q := 13) C dX8_isSame_12 rfl rfl ?_
    refine g_getfield (v := .ref 127) (q := 16) C fX8_22 dX8_isSame_13 rfl HM.1 rfl ?_
    refine g_bipush (v := 14) (q := 18) C dX8_isSame_16 (by decide) rfl ?_
    refine g_ialoadN (x := (M.a 4 14)) (j := 14) (q := 19) C dX8_isSame_18 rfl (HM.ar (i := 4) (n := 772) (by decide) rfl) (pk_in 14 772 (by decide)) (pk_cl 14) rfl ?_
    refine g_aload_n (q := 20) C dX8_isSame_19 rfl rfl ?_
    refine g_getfield (v := .int ((M.f 38))) (q := 23) C fX8_318 dX8_isSame_20 rfl HM.1 rfl ?_
    refine g_icmp_eq (t := 28) (q := 26) C dX8_isSame_23 (by decide) rfl (fun c_23 => ?_) (fun c_23 => ?_)
    ·
      refine g_iconst (v := 0) (q := 29) C dX8_isSame_28 (by decide) rfl ?_
      refine g_istore_n (q := 30) C dX8_isSame_29 (Nat.le_of_ble_eq_true rfl) (by simp only [gset]; rfl) rfl ?_
      have LL1 : ∀ d j : Nat, j + d = (M.f 38).toNatClampNeg → gG X 30 [some (.ref 122), some (.int ((nI j)))] [] hp 0 0 := by
        intro d
        induction d with
        | zero =>
          intro j hj 
          obtain rfl : (M.f 38).toNatClampNeg = j := by omega
          refine g_iload_n (q := 31) C dX8_isSame_30 rfl rfl ?_
          refine g_aload_n (q := 32) C dX8_isSame_31 rfl rfl ?_
          refine g_getfield (v := .int ((M.f 38))) (q := 35) C fX8_318 dX8_isSame_32 rfl HM.1 rfl ?_
          refine g_icmp_ge_t (t := 65) C dX8_isSame_35 (by decide) gTt ?_
          refine g_iconst (v := 1) (q := 66) C dX8_isSame_65 (by decide) rfl ?_
          exact E.1 _ _ _ _ _ _ _ dX8_isSame_66 rfl rfl (Nat.le_of_ble_eq_true rfl) (Nat.le_of_ble_eq_true rfl) ⟨_, rfl, rfl⟩
        | succ d ih =>
          intro j hj 
          refine g_iload_n (q := 31) C dX8_isSame_30 rfl rfl ?_
          refine g_aload_n (q := 32) C dX8_isSame_31 rfl rfl ?_
          refine g_getfield (v := .int ((M.f 38))) (q := 35) C fX8_318 dX8_isSame_32 rfl HM.1 rfl ?_
          refine g_icmp_ge_f (t := 65) (q := 38) C dX8_isSame_35 (by decide) rfl (gTf (by omega)) ?_
          refine g_aload_n (q := 39) C dX8_isSame_38 rfl rfl ?_
          refine g_getfield (v := .ref 127) (q := 42) C fX8_22 dX8_isSame_39 rfl HM.1 rfl ?_
          refine g_sipush (v := 288) (q := 45) C dX8_isSame_42 (by decide) rfl ?_
          refine g_iload_n (q := 46) C dX8_isSame_45 rfl rfl ?_
          refine g_iadd (q := 47) C dX8_isSame_46 rfl ?_
          refine g_ialoadN (x := (M.a 4 (288 + j))) (j := (288 + j)) (q := 48) C dX8_isSame_47 rfl (HM.ar (i := 4) (n := 772) (by decide) rfl) (pk_in (288 + j) 772 (by omega) (nI_add 288 j)) (pk_cl (288 + j) (nI_add 288 j) (by omega)) rfl ?_
          refine g_aload_n (q := 49) C dX8_isSame_48 rfl rfl ?_
          refine g_getfield (v := .ref 138) (q := 52) C fX8_60 dX8_isSame_49 rfl HM.1 rfl ?_
          refine g_iload_n (q := 53) C dX8_isSame_52 rfl rfl ?_
          refine g_ialoadN (x := (M.a 15 j)) (j := j) (q := 54) C dX8_isSame_53 rfl (HM.ar (i := 15) (n := 64) (by decide) rfl) (pk_in j 64 (by omega)) (pk_cl j rfl (by omega)) rfl ?_
          refine g_icmp_eq (t := 59) (q := 57) C dX8_isSame_54 (by decide) rfl (fun c_54 => ?_) (fun c_54 => ?_)
          ·
            refine g_iinc (v := (nI (j + 1))) (q := 62) C dX8_isSame_59 rfl (nI_1 j) (by simp only [gset]; rfl) rfl ?_
            refine g_goto (q := 30) C dX8_isSame_62 (by decide) ?_
            exact ih (j + 1) (by omega) 
          ·
            refine g_iconst (v := 0) (q := 58) C dX8_isSame_57 (by decide) rfl ?_
            exact E.1 _ _ _ _ _ _ _ dX8_isSame_58 rfl rfl (Nat.le_of_ble_eq_true rfl) (Nat.le_of_ble_eq_true rfl) ⟨_, rfl, rfl⟩
      exact LL1 ((M.f 38).toNatClampNeg) 0 (by omega) 
      
    ·
      refine g_iconst (v := 0) (q := 27) C dX8_isSame_26 (by decide) rfl ?_
      exact E.1 _ _ _ _ _ _ _ dX8_isSame_27 rfl rfl (Nat.le_of_ble_eq_true rfl) (Nat.le_of_ble_eq_true rfl) ⟨_, rfl, rfl⟩
