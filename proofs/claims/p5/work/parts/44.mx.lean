/-! the reference: a fault told (by program: wip/p2/m_mx.py) -/
theorem dX8_fault_0 : decode cX8_fault 0 = .ok (.aload_n 0, 1) := by decide +kernel
theorem dX8_fault_1 : decode cX8_fault 1 = .ok (.iconst 0, 1) := by decide +kernel
theorem dX8_fault_2 : decode cX8_fault 2 = .ok (.putfield 66, 3) := by decide +kernel
theorem dX8_fault_5 : decode cX8_fault 5 = .ok (.aload_n 0, 1) := by decide +kernel
theorem dX8_fault_6 : decode cX8_fault 6 = .ok (.getfield 134, 3) := by decide +kernel
theorem dX8_fault_9 : decode cX8_fault 9 = .ok (.ifCond .eq 46, 3) := by decide +kernel
theorem dX8_fault_12 : decode cX8_fault 12 = .ok (.iload_n 1, 1) := by decide +kernel
theorem dX8_fault_13 : decode cX8_fault 13 = .ok (.iconst 0, 1) := by decide +kernel
theorem dX8_fault_14 : decode cX8_fault 14 = .ok (.sipush 999, 3) := by decide +kernel
theorem dX8_fault_17 : decode cX8_fault 17 = .ok (.invokestatic 82, 3) := by decide +kernel
theorem dX8_fault_20 : decode cX8_fault 20 = .ok (.ifCond .eq 35, 3) := by decide +kernel
theorem dX8_fault_23 : decode cX8_fault 23 = .ok (.iload_n 2, 1) := by decide +kernel
theorem dX8_fault_24 : decode cX8_fault 24 = .ok (.iconst 1, 1) := by decide +kernel
theorem dX8_fault_25 : decode cX8_fault 25 = .ok (.iconst 3, 1) := by decide +kernel
theorem dX8_fault_26 : decode cX8_fault 26 = .ok (.invokestatic 82, 3) := by decide +kernel
theorem dX8_fault_29 : decode cX8_fault 29 = .ok (.ifCond .eq 26, 3) := by decide +kernel
theorem dX8_fault_32 : decode cX8_fault 32 = .ok (.iload_n 2, 1) := by decide +kernel
theorem dX8_fault_33 : decode cX8_fault 33 = .ok (.iconst 2, 1) := by decide +kernel
theorem dX8_fault_34 : decode cX8_fault 34 = .ok (.if_icmp .ne 17, 3) := by decide +kernel
theorem dX8_fault_37 : decode cX8_fault 37 = .ok (.iload_n 3, 1) := by decide +kernel
theorem dX8_fault_38 : decode cX8_fault 38 = .ok (.iconst 1, 1) := by decide +kernel
theorem dX8_fault_39 : decode cX8_fault 39 = .ok (.sipush 255, 3) := by decide +kernel
theorem dX8_fault_42 : decode cX8_fault 42 = .ok (.invokestatic 82, 3) := by decide +kernel
theorem dX8_fault_45 : decode cX8_fault 45 = .ok (.ifCond .eq 10, 3) := by decide +kernel
theorem dX8_fault_48 : decode cX8_fault 48 = .ok (.goto 9, 3) := by decide +kernel
theorem dX8_fault_51 : decode cX8_fault 51 = .ok (.iload_n 3, 1) := by decide +kernel
theorem dX8_fault_52 : decode cX8_fault 52 = .ok (.ifCond .eq 5, 3) := by decide +kernel
theorem dX8_fault_55 : decode cX8_fault 55 = .ok (.iconst (-1), 1) := by decide +kernel
theorem dX8_fault_56 : decode cX8_fault 56 = .ok (.ireturn, 1) := by decide +kernel
theorem dX8_fault_57 : decode cX8_fault 57 = .ok (.aload_n 0, 1) := by decide +kernel
theorem dX8_fault_58 : decode cX8_fault 58 = .ok (.invokevirtual 147, 3) := by decide +kernel
theorem dX8_fault_61 : decode cX8_fault 61 = .ok (.aload_n 0, 1) := by decide +kernel
theorem dX8_fault_62 : decode cX8_fault 62 = .ok (.getfield 22, 3) := by decide +kernel
theorem dX8_fault_65 : decode cX8_fault 65 = .ok (.sipush 430, 3) := by decide +kernel
theorem dX8_fault_68 : decode cX8_fault 68 = .ok (.iaload, 1) := by decide +kernel
theorem dX8_fault_69 : decode cX8_fault 69 = .ok (.bipush 24, 2) := by decide +kernel
theorem dX8_fault_71 : decode cX8_fault 71 = .ok (.if_icmp .ne 22, 3) := by decide +kernel
theorem dX8_fault_74 : decode cX8_fault 74 = .ok (.aload_n 0, 1) := by decide +kernel
theorem dX8_fault_75 : decode cX8_fault 75 = .ok (.aload_n 0, 1) := by decide +kernel
theorem dX8_fault_76 : decode cX8_fault 76 = .ok (.getfield 22, 3) := by decide +kernel
theorem dX8_fault_79 : decode cX8_fault 79 = .ok (.sipush 423, 3) := by decide +kernel
theorem dX8_fault_82 : decode cX8_fault 82 = .ok (.iaload, 1) := by decide +kernel
theorem dX8_fault_83 : decode cX8_fault 83 = .ok (.iload_n 1, 1) := by decide +kernel
theorem dX8_fault_84 : decode cX8_fault 84 = .ok (.iadd, 1) := by decide +kernel
theorem dX8_fault_85 : decode cX8_fault 85 = .ok (.invokevirtual 144, 3) := by decide +kernel
theorem dX8_fault_88 : decode cX8_fault 88 = .ok (.ifCond .ge 5, 3) := by decide +kernel
theorem dX8_fault_91 : decode cX8_fault 91 = .ok (.iconst (-1), 1) := by decide +kernel
theorem dX8_fault_92 : decode cX8_fault 92 = .ok (.ireturn, 1) := by decide +kernel
theorem dX8_fault_93 : decode cX8_fault 93 = .ok (.aload_n 0, 1) := by decide +kernel
theorem dX8_fault_94 : decode cX8_fault 94 = .ok (.aload_n 0, 1) := by decide +kernel
theorem dX8_fault_95 : decode cX8_fault 95 = .ok (.getfield 22, 3) := by decide +kernel
theorem dX8_fault_98 : decode cX8_fault 98 = .ok (.sipush 423, 3) := by decide +kernel
theorem dX8_fault_101 : decode cX8_fault 101 = .ok (.iaload, 1) := by decide +kernel
theorem dX8_fault_102 : decode cX8_fault 102 = .ok (.iload_n 1, 1) := by decide +kernel
theorem dX8_fault_103 : decode cX8_fault 103 = .ok (.iadd, 1) := by decide +kernel
theorem dX8_fault_104 : decode cX8_fault 104 = .ok (.iload_n 2, 1) := by decide +kernel
theorem dX8_fault_105 : decode cX8_fault 105 = .ok (.iload_n 3, 1) := by decide +kernel
theorem dX8_fault_106 : decode cX8_fault 106 = .ok (.invokevirtual 150, 3) := by decide +kernel
theorem dX8_fault_109 : decode cX8_fault 109 = .ok (.aload_n 0, 1) := by decide +kernel
theorem dX8_fault_110 : decode cX8_fault 110 = .ok (.getfield 22, 3) := by decide +kernel
theorem dX8_fault_113 : decode cX8_fault 113 = .ok (.sipush 430, 3) := by decide +kernel
theorem dX8_fault_116 : decode cX8_fault 116 = .ok (.iaload, 1) := by decide +kernel
theorem dX8_fault_117 : decode cX8_fault 117 = .ok (.ireturn, 1) := by decide +kernel
set_option maxRecDepth 100000 in
set_option maxHeartbeats 4000000 in
theorem c_X8_fault_r {hp : List gA} {M : gMd} {y z w : Int32} (HM : gMod hp M) (hf : gIr (M.a 4 430) 24) (hE : gFe (M.a 4)) : gM yX8_fault cX8_fault 4 ((some .int)) 2 46 [.ref 122, .int y, .int z, .int w] (hp) (0) (0) (fun v h => ∃ x, v = some (.int x) ∧ ∃ M', gMod h M' ∧ gFM hp h ∧ (M' = M.set 2 0 ∨ (¬ M.f 3 = 0 ∧ ∃ g L, gPs (M.a 4) g (M.a 4 430).toNatClampNeg L ∧ (M' = (((M.set 2 0).arr 4 g).put 4 430 (nI L)) ∨ ∃ k n y', n ≤ 24 ∧ gF1 z w ∧ ((k < L ∧ n = L) ∨ (k = L ∧ n = L + 1)) ∧ M' = gPf (((M.set 2 0).arr 4 g).put 4 430 (nI L)) y' z w k n)))) := by
  refine gM_of (ls0 := [some (.ref 122), some (.int y), some (.int z), some (.int w)]) (by decide +kernel) (Nat.le_of_ble_eq_true rfl) rfl fun X C E => ?_
  have h24 := hf.le (by decide)
  have hf25 : gIr (M.a 4 430) 25 := hf.imp fun n h => ⟨Nat.le_succ_of_le h.1, h.2⟩
  refine g_aload_n (q := 1) C dX8_fault_0 rfl rfl ?_
  refine g_iconst (v := 0) (q := 2) C dX8_fault_1 (by decide) rfl ?_
  refine g_putfield (q := 5) C fX8_66 dX8_fault_2 rfl HM.1 (Nat.le_of_ble_eq_true rfl) (Or.inl rfl) rfl rfl (by intro z h; cases h) ?_
  refine gMput (j := 2) (x := 0) HM rfl fun h1 HL1 fr1 => ?_
  refine g_aload_n (q := 6) C dX8_fault_5 rfl rfl ?_
  refine g_getfield (v := .int ((M.f 3))) (q := 9) C fX8_134 dX8_fault_6 rfl HL1.1 rfl ?_
  refine g_if_eq (t := 55) (q := 12) C dX8_fault_9 (by decide) rfl (fun c_9 => ?_) (fun c_9 => ?_)
  ·
    refine g_iconst (v := (-1)) (q := 56) C dX8_fault_55 (by decide) rfl ?_
    exact E.1 _ _ _ _ _ _ _ dX8_fault_56 rfl rfl (Nat.le_of_ble_eq_true rfl) (Nat.le_of_ble_eq_true rfl) ⟨_, rfl, _, HL1, fr1, Or.inl rfl⟩
  ·
    refine g_iload_n (q := 13) C dX8_fault_12 rfl rfl ?_
    refine g_iconst (v := 0) (q := 14) C dX8_fault_13 (by decide) rfl ?_
    refine g_sipush (v := 999) (q := 17) C dX8_fault_14 (by decide) rfl ?_
    refine g_callSi (x := (rX8_within y 0 999)) (q := 20) (As := [.int y, .int 0, .int 999]) C gyX8_within t_1212 t_1211 (c_X8_within_m) dX8_fault_17 rfl rfl rfl (Nat.le_of_ble_eq_true rfl) (Nat.le_of_ble_eq_true rfl) (Nat.le_of_ble_eq_true rfl) (Nat.le_of_ble_eq_true rfl) (Nat.le_of_ble_eq_true rfl) rfl ?_
    refine g_if_eq (t := 55) (q := 23) C dX8_fault_20 (by decide) rfl (fun c_20 => ?_) (fun c_20 => ?_)
    ·
      refine g_iconst (v := (-1)) (q := 56) C dX8_fault_55 (by decide) rfl ?_
      exact E.1 _ _ _ _ _ _ _ dX8_fault_56 rfl rfl (Nat.le_of_ble_eq_true rfl) (Nat.le_of_ble_eq_true rfl) ⟨_, rfl, _, HL1, fr1, Or.inl rfl⟩
    ·
      refine g_iload_n (q := 24) C dX8_fault_23 rfl rfl ?_
      refine g_iconst (v := 1) (q := 25) C dX8_fault_24 (by decide) rfl ?_
      refine g_iconst (v := 3) (q := 26) C dX8_fault_25 (by decide) rfl ?_
      refine g_callSi (x := (rX8_within z 1 3)) (q := 29) (As := [.int z, .int 1, .int 3]) C gyX8_within t_1212 t_1211 (c_X8_within_m) dX8_fault_26 rfl rfl rfl (Nat.le_of_ble_eq_true rfl) (Nat.le_of_ble_eq_true rfl) (Nat.le_of_ble_eq_true rfl) (Nat.le_of_ble_eq_true rfl) (Nat.le_of_ble_eq_true rfl) rfl ?_
      refine g_if_eq (t := 55) (q := 32) C dX8_fault_29 (by decide) rfl (fun c_29 => ?_) (fun c_29 => ?_)
      ·
        refine g_iconst (v := (-1)) (q := 56) C dX8_fault_55 (by decide) rfl ?_
        exact E.1 _ _ _ _ _ _ _ dX8_fault_56 rfl rfl (Nat.le_of_ble_eq_true rfl) (Nat.le_of_ble_eq_true rfl) ⟨_, rfl, _, HL1, fr1, Or.inl rfl⟩
      ·
        refine g_iload_n (q := 33) C dX8_fault_32 rfl rfl ?_
        refine g_iconst (v := 2) (q := 34) C dX8_fault_33 (by decide) rfl ?_
        refine g_icmp_ne (t := 51) (q := 37) C dX8_fault_34 (by decide) rfl (fun c_34 => ?_) (fun c_34 => ?_)
        ·
          refine g_iload_n (q := 52) C dX8_fault_51 rfl rfl ?_
          refine g_if_eq (t := 57) (q := 55) C dX8_fault_52 (by decide) rfl (fun c_52 => ?_) (fun c_52 => ?_)
          ·
            have hF : gF1 z w := by
              rcases gI3 c_29 with e | e | e
              · exact Or.inl ⟨e, c_52⟩
              · exact absurd e c_34
              · exact Or.inr (Or.inl ⟨e, c_52⟩)
            refine g_aload_n (q := 58) C dX8_fault_57 rfl rfl ?_
            refine g_callVvp (q := 61) (As := []) C gyX8_passes gvX8_passes t_1280 (c_X8_passes_r HL1 hf25 hE) dX8_fault_58 rfl HL1.1 rfl rfl rfl (Nat.le_of_ble_eq_true rfl) (Nat.le_of_ble_eq_true rfl) (Nat.le_of_ble_eq_true rfl) (Nat.le_of_ble_eq_true rfl) (Nat.le_of_ble_eq_true rfl) rfl (fun h2 z2 => ?_)
            obtain ⟨gp, Lp, HM9, frt8, hp9⟩ := z2
            refine g_aload_n (q := 62) C dX8_fault_61 rfl rfl ?_
            refine g_getfield (v := .ref 127) (q := 65) C fX8_22 dX8_fault_62 rfl HM9.1 rfl ?_
            refine g_sipush (v := 430) (q := 68) C dX8_fault_65 (by decide) rfl ?_
            refine g_ialoadN (x := ((((M.set 2 0).arr 4 gp).put 4 430 (nI Lp)).a 4 430)) (j := 430) (q := 69) C dX8_fault_68 rfl (HM9.ar (i := 4) (n := 772) (by decide) rfl) (pk_in 430 772 (by decide)) (pk_cl 430) rfl ?_
            refine g_bipush (v := 24) (q := 71) C dX8_fault_69 (by decide) rfl ?_
            have hL9 : Lp ≤ (M.a 4 430).toNatClampNeg := hp9.2.2.2
            have hb1 : gIr ((((M.set 2 0).arr 4 gp).put 4 430 (nI Lp)).a 4 430) 24 := ⟨Lp, by omega, gput_s⟩
            have hb25 : gIr ((((M.set 2 0).arr 4 gp).put 4 430 (nI Lp)).a 4 430) 25 := ⟨Lp, by omega, gput_s⟩
            have hL9 : Lp ≤ (M.a 4 430).toNatClampNeg := hp9.2.2.2
            have hb1 : gIr ((((M.set 2 0).arr 4 gp).put 4 430 (nI Lp)).a 4 430) 24 := ⟨Lp, by omega, gput_s⟩
            have hb25 : gIr ((((M.set 2 0).arr 4 gp).put 4 430 (nI Lp)).a 4 430) 25 := ⟨Lp, by omega, gput_s⟩
            refine g_icmp_ne (t := 93) (q := 74) C dX8_fault_71 (by decide) rfl (fun c_71 => ?_) (fun c_71 => ?_)
            ·
              refine g_aload_n (q := 94) C dX8_fault_93 rfl rfl ?_
              refine g_aload_n (q := 95) C dX8_fault_94 rfl rfl ?_
              refine g_getfield (v := .ref 127) (q := 98) C fX8_22 dX8_fault_95 rfl HM9.1 rfl ?_
              refine g_sipush (v := 423) (q := 101) C dX8_fault_98 (by decide) rfl ?_
              refine g_ialoadN (x := ((((M.set 2 0).arr 4 gp).put 4 430 (nI Lp)).a 4 423)) (j := 423) (q := 102) C dX8_fault_101 rfl (HM9.ar (i := 4) (n := 772) (by decide) rfl) (pk_in 423 772 (by decide)) (pk_cl 423) rfl ?_
              refine g_iload_n (q := 103) C dX8_fault_102 rfl rfl ?_
              refine g_iadd (q := 104) C dX8_fault_103 rfl ?_
              refine g_iload_n (q := 105) C dX8_fault_104 rfl rfl ?_
              refine g_iload_n (q := 106) C dX8_fault_105 rfl rfl ?_
              refine g_callVvp (q := 109) (As := [.int ((((((M.set 2 0).arr 4 gp).put 4 430 (nI Lp)).a 4 423) + y)), .int z, .int w]) C gyX8_putsFault gvX8_putsFault t_1288 (c_X8_putsFault_r (y := (((((M.set 2 0).arr 4 gp).put 4 430 (nI Lp)).a 4 423) + y)) (z := z) (w := w) HM9 hb1) dX8_fault_106 rfl HM9.1 rfl rfl rfl (Nat.le_of_ble_eq_true rfl) (Nat.le_of_ble_eq_true rfl) (Nat.le_of_ble_eq_true rfl) (Nat.le_of_ble_eq_true rfl) (Nat.le_of_ble_eq_true rfl) rfl (fun h3 z3 => ?_)
              obtain ⟨kp, np, hkp, HP9, frp9⟩ := z3
              refine g_aload_n (q := 110) C dX8_fault_109 rfl rfl ?_
              refine g_getfield (v := .ref 127) (q := 113) C fX8_22 dX8_fault_110 rfl HP9.1 rfl ?_
              refine g_sipush (v := 430) (q := 116) C dX8_fault_113 (by decide) rfl ?_
              refine g_ialoadN (x := ((gPf (((M.set 2 0).arr 4 gp).put 4 430 (nI Lp)) (((((M.set 2 0).arr 4 gp).put 4 430 (nI Lp)).a 4 423) + y) z w kp np).a 4 430)) (j := 430) (q := 117) C dX8_fault_116 rfl (HP9.ar (i := 4) (n := 772) (by decide) rfl) (pk_in 430 772 (by decide)) (pk_cl 430) rfl ?_
              have eL : ((((M.set 2 0).arr 4 gp).put 4 430 (nI Lp)).a 4 430).toNatClampNeg = Lp := by rw [show (((M.set 2 0).arr 4 gp).put 4 430 (nI Lp)).a 4 430 = nI Lp from gput_s, nI_clamp (by omega)]
              have hkq := hkp
              rw [eL] at hkq
              have hn9 : np ≤ 24 := by
                rcases hkq with ⟨a, b, _⟩ | ⟨a, b, c⟩
                · omega
                · have : ¬ Lp = 24 := fun e => c_71 (by rw [e]; rfl)
                  omega
              exact E.1 _ _ _ _ _ _ _ dX8_fault_117 rfl rfl (Nat.le_of_ble_eq_true rfl) (Nat.le_of_ble_eq_true rfl) ⟨_, rfl, _, HP9, (gFM.trans (gFM.trans fr1 frt8) frp9), Or.inr ⟨c_9, gp, Lp, hp9, Or.inr ⟨kp, np, _, hn9, hF, hkq.imp (fun a => ⟨a.1, a.2.1⟩) (fun a => ⟨a.1, a.2.1⟩), rfl⟩⟩⟩
            ·
              refine g_aload_n (q := 75) C dX8_fault_74 rfl rfl ?_
              refine g_aload_n (q := 76) C dX8_fault_75 rfl rfl ?_
              refine g_getfield (v := .ref 127) (q := 79) C fX8_22 dX8_fault_76 rfl HM9.1 rfl ?_
              refine g_sipush (v := 423) (q := 82) C dX8_fault_79 (by decide) rfl ?_
              refine g_ialoadN (x := ((((M.set 2 0).arr 4 gp).put 4 430 (nI Lp)).a 4 423)) (j := 423) (q := 83) C dX8_fault_82 rfl (HM9.ar (i := 4) (n := 772) (by decide) rfl) (pk_in 423 772 (by decide)) (pk_cl 423) rfl ?_
              refine g_iload_n (q := 84) C dX8_fault_83 rfl rfl ?_
              refine g_iadd (q := 85) C dX8_fault_84 rfl ?_
              refine g_callVip (q := 88) (As := [.int ((((((M.set 2 0).arr 4 gp).put 4 430 (nI Lp)).a 4 423) + y))]) C gyX8_faultAt gvX8_faultAt t_1284 (c_X8_faultAt_r (y := (((((M.set 2 0).arr 4 gp).put 4 430 (nI Lp)).a 4 423) + y)) HM9 hb25) dX8_fault_85 rfl HM9.1 rfl rfl rfl (Nat.le_of_ble_eq_true rfl) (Nat.le_of_ble_eq_true rfl) (Nat.le_of_ble_eq_true rfl) (Nat.le_of_ble_eq_true rfl) (Nat.le_of_ble_eq_true rfl) rfl (fun x4 h4 z4 => ?_)
              obtain ⟨rfl, zf⟩ := z4
              refine g_if_ge (t := 93) (q := 91) C dX8_fault_88 (by decide) rfl (fun c_88 => ?_) (fun c_88 => ?_)
              ·
                refine g_aload_n (q := 94) C dX8_fault_93 rfl rfl ?_
                refine g_aload_n (q := 95) C dX8_fault_94 rfl rfl ?_
                refine g_getfield (v := .ref 127) (q := 98) C fX8_22 dX8_fault_95 rfl HM9.1 rfl ?_
                refine g_sipush (v := 423) (q := 101) C dX8_fault_98 (by decide) rfl ?_
                refine g_ialoadN (x := ((((M.set 2 0).arr 4 gp).put 4 430 (nI Lp)).a 4 423)) (j := 423) (q := 102) C dX8_fault_101 rfl (HM9.ar (i := 4) (n := 772) (by decide) rfl) (pk_in 423 772 (by decide)) (pk_cl 423) rfl ?_
                refine g_iload_n (q := 103) C dX8_fault_102 rfl rfl ?_
                refine g_iadd (q := 104) C dX8_fault_103 rfl ?_
                refine g_iload_n (q := 105) C dX8_fault_104 rfl rfl ?_
                refine g_iload_n (q := 106) C dX8_fault_105 rfl rfl ?_
                refine g_callVvp (q := 109) (As := [.int ((((((M.set 2 0).arr 4 gp).put 4 430 (nI Lp)).a 4 423) + y)), .int z, .int w]) C gyX8_putsFault gvX8_putsFault t_1288 (c_X8_putsFault_r (y := (((((M.set 2 0).arr 4 gp).put 4 430 (nI Lp)).a 4 423) + y)) (z := z) (w := w) HM9 hb1) dX8_fault_106 rfl HM9.1 rfl rfl rfl (Nat.le_of_ble_eq_true rfl) (Nat.le_of_ble_eq_true rfl) (Nat.le_of_ble_eq_true rfl) (Nat.le_of_ble_eq_true rfl) (Nat.le_of_ble_eq_true rfl) rfl (fun h5 z5 => ?_)
                obtain ⟨kp, np, hkp, HP9, frp9⟩ := z5
                refine g_aload_n (q := 110) C dX8_fault_109 rfl rfl ?_
                refine g_getfield (v := .ref 127) (q := 113) C fX8_22 dX8_fault_110 rfl HP9.1 rfl ?_
                refine g_sipush (v := 430) (q := 116) C dX8_fault_113 (by decide) rfl ?_
                refine g_ialoadN (x := ((gPf (((M.set 2 0).arr 4 gp).put 4 430 (nI Lp)) (((((M.set 2 0).arr 4 gp).put 4 430 (nI Lp)).a 4 423) + y) z w kp np).a 4 430)) (j := 430) (q := 117) C dX8_fault_116 rfl (HP9.ar (i := 4) (n := 772) (by decide) rfl) (pk_in 430 772 (by decide)) (pk_cl 430) rfl ?_
                have eL : ((((M.set 2 0).arr 4 gp).put 4 430 (nI Lp)).a 4 430).toNatClampNeg = Lp := by rw [show (((M.set 2 0).arr 4 gp).put 4 430 (nI Lp)).a 4 430 = nI Lp from gput_s, nI_clamp (by omega)]
                have hkq := hkp
                rw [eL] at hkq
                have hn9 : np ≤ 24 := by
                  rcases hkq with ⟨a, b, _⟩ | ⟨a, b, c⟩
                  · omega
                  · exfalso
                    rcases zf with ⟨e, _⟩ | ⟨k8, q1, q2, q3⟩
                    · rw [e] at c_88; exact absurd c_88 (by decide)
                    · rw [eL] at q1; exact c k8 q1 q3
                exact E.1 _ _ _ _ _ _ _ dX8_fault_117 rfl rfl (Nat.le_of_ble_eq_true rfl) (Nat.le_of_ble_eq_true rfl) ⟨_, rfl, _, HP9, (gFM.trans (gFM.trans fr1 frt8) frp9), Or.inr ⟨c_9, gp, Lp, hp9, Or.inr ⟨kp, np, _, hn9, hF, hkq.imp (fun a => ⟨a.1, a.2.1⟩) (fun a => ⟨a.1, a.2.1⟩), rfl⟩⟩⟩
              ·
                refine g_iconst (v := (-1)) (q := 92) C dX8_fault_91 (by decide) rfl ?_
                exact E.1 _ _ _ _ _ _ _ dX8_fault_92 rfl rfl (Nat.le_of_ble_eq_true rfl) (Nat.le_of_ble_eq_true rfl) ⟨_, rfl, _, HM9, (gFM.trans fr1 frt8), Or.inr ⟨c_9, gp, Lp, hp9, Or.inl rfl⟩⟩
            
          ·
            refine g_iconst (v := (-1)) (q := 56) C dX8_fault_55 (by decide) rfl ?_
            exact E.1 _ _ _ _ _ _ _ dX8_fault_56 rfl rfl (Nat.le_of_ble_eq_true rfl) (Nat.le_of_ble_eq_true rfl) ⟨_, rfl, _, HL1, fr1, Or.inl rfl⟩
        ·
          refine g_iload_n (q := 38) C dX8_fault_37 rfl rfl ?_
          refine g_iconst (v := 1) (q := 39) C dX8_fault_38 (by decide) rfl ?_
          refine g_sipush (v := 255) (q := 42) C dX8_fault_39 (by decide) rfl ?_
          refine g_callSi (x := (rX8_within w 1 255)) (q := 45) (As := [.int w, .int 1, .int 255]) C gyX8_within t_1212 t_1211 (c_X8_within_m) dX8_fault_42 rfl rfl rfl (Nat.le_of_ble_eq_true rfl) (Nat.le_of_ble_eq_true rfl) (Nat.le_of_ble_eq_true rfl) (Nat.le_of_ble_eq_true rfl) (Nat.le_of_ble_eq_true rfl) rfl ?_
          refine g_if_eq (t := 55) (q := 48) C dX8_fault_45 (by decide) rfl (fun c_45 => ?_) (fun c_45 => ?_)
          ·
            refine g_iconst (v := (-1)) (q := 56) C dX8_fault_55 (by decide) rfl ?_
            exact E.1 _ _ _ _ _ _ _ dX8_fault_56 rfl rfl (Nat.le_of_ble_eq_true rfl) (Nat.le_of_ble_eq_true rfl) ⟨_, rfl, _, HL1, fr1, Or.inl rfl⟩
          ·
            refine g_goto (q := 57) C dX8_fault_48 (by decide) ?_
            have hF : gF1 z w := by
              obtain ⟨n, h1, h2, e⟩ := gWi (a := 1) (b := 255) (by decide) (by decide) c_45
              exact Or.inr (Or.inr ⟨c_34, n, h1, by omega, e⟩)
            refine g_aload_n (q := 58) C dX8_fault_57 rfl rfl ?_
            refine g_callVvp (q := 61) (As := []) C gyX8_passes gvX8_passes t_1280 (c_X8_passes_r HL1 hf25 hE) dX8_fault_58 rfl HL1.1 rfl rfl rfl (Nat.le_of_ble_eq_true rfl) (Nat.le_of_ble_eq_true rfl) (Nat.le_of_ble_eq_true rfl) (Nat.le_of_ble_eq_true rfl) (Nat.le_of_ble_eq_true rfl) rfl (fun h6 z6 => ?_)
            obtain ⟨gp, Lp, HM9, frt8, hp9⟩ := z6
            refine g_aload_n (q := 62) C dX8_fault_61 rfl rfl ?_
            refine g_getfield (v := .ref 127) (q := 65) C fX8_22 dX8_fault_62 rfl HM9.1 rfl ?_
            refine g_sipush (v := 430) (q := 68) C dX8_fault_65 (by decide) rfl ?_
            refine g_ialoadN (x := ((((M.set 2 0).arr 4 gp).put 4 430 (nI Lp)).a 4 430)) (j := 430) (q := 69) C dX8_fault_68 rfl (HM9.ar (i := 4) (n := 772) (by decide) rfl) (pk_in 430 772 (by decide)) (pk_cl 430) rfl ?_
            refine g_bipush (v := 24) (q := 71) C dX8_fault_69 (by decide) rfl ?_
            have hL9 : Lp ≤ (M.a 4 430).toNatClampNeg := hp9.2.2.2
            have hb1 : gIr ((((M.set 2 0).arr 4 gp).put 4 430 (nI Lp)).a 4 430) 24 := ⟨Lp, by omega, gput_s⟩
            have hb25 : gIr ((((M.set 2 0).arr 4 gp).put 4 430 (nI Lp)).a 4 430) 25 := ⟨Lp, by omega, gput_s⟩
            have hL9 : Lp ≤ (M.a 4 430).toNatClampNeg := hp9.2.2.2
            have hb1 : gIr ((((M.set 2 0).arr 4 gp).put 4 430 (nI Lp)).a 4 430) 24 := ⟨Lp, by omega, gput_s⟩
            have hb25 : gIr ((((M.set 2 0).arr 4 gp).put 4 430 (nI Lp)).a 4 430) 25 := ⟨Lp, by omega, gput_s⟩
            refine g_icmp_ne (t := 93) (q := 74) C dX8_fault_71 (by decide) rfl (fun c_71 => ?_) (fun c_71 => ?_)
            ·
              refine g_aload_n (q := 94) C dX8_fault_93 rfl rfl ?_
              refine g_aload_n (q := 95) C dX8_fault_94 rfl rfl ?_
              refine g_getfield (v := .ref 127) (q := 98) C fX8_22 dX8_fault_95 rfl HM9.1 rfl ?_
              refine g_sipush (v := 423) (q := 101) C dX8_fault_98 (by decide) rfl ?_
              refine g_ialoadN (x := ((((M.set 2 0).arr 4 gp).put 4 430 (nI Lp)).a 4 423)) (j := 423) (q := 102) C dX8_fault_101 rfl (HM9.ar (i := 4) (n := 772) (by decide) rfl) (pk_in 423 772 (by decide)) (pk_cl 423) rfl ?_
              refine g_iload_n (q := 103) C dX8_fault_102 rfl rfl ?_
              refine g_iadd (q := 104) C dX8_fault_103 rfl ?_
              refine g_iload_n (q := 105) C dX8_fault_104 rfl rfl ?_
              refine g_iload_n (q := 106) C dX8_fault_105 rfl rfl ?_
              refine g_callVvp (q := 109) (As := [.int ((((((M.set 2 0).arr 4 gp).put 4 430 (nI Lp)).a 4 423) + y)), .int z, .int w]) C gyX8_putsFault gvX8_putsFault t_1288 (c_X8_putsFault_r (y := (((((M.set 2 0).arr 4 gp).put 4 430 (nI Lp)).a 4 423) + y)) (z := z) (w := w) HM9 hb1) dX8_fault_106 rfl HM9.1 rfl rfl rfl (Nat.le_of_ble_eq_true rfl) (Nat.le_of_ble_eq_true rfl) (Nat.le_of_ble_eq_true rfl) (Nat.le_of_ble_eq_true rfl) (Nat.le_of_ble_eq_true rfl) rfl (fun h7 z7 => ?_)
              obtain ⟨kp, np, hkp, HP9, frp9⟩ := z7
              refine g_aload_n (q := 110) C dX8_fault_109 rfl rfl ?_
              refine g_getfield (v := .ref 127) (q := 113) C fX8_22 dX8_fault_110 rfl HP9.1 rfl ?_
              refine g_sipush (v := 430) (q := 116) C dX8_fault_113 (by decide) rfl ?_
              refine g_ialoadN (x := ((gPf (((M.set 2 0).arr 4 gp).put 4 430 (nI Lp)) (((((M.set 2 0).arr 4 gp).put 4 430 (nI Lp)).a 4 423) + y) z w kp np).a 4 430)) (j := 430) (q := 117) C dX8_fault_116 rfl (HP9.ar (i := 4) (n := 772) (by decide) rfl) (pk_in 430 772 (by decide)) (pk_cl 430) rfl ?_
              have eL : ((((M.set 2 0).arr 4 gp).put 4 430 (nI Lp)).a 4 430).toNatClampNeg = Lp := by rw [show (((M.set 2 0).arr 4 gp).put 4 430 (nI Lp)).a 4 430 = nI Lp from gput_s, nI_clamp (by omega)]
              have hkq := hkp
              rw [eL] at hkq
              have hn9 : np ≤ 24 := by
                rcases hkq with ⟨a, b, _⟩ | ⟨a, b, c⟩
                · omega
                · have : ¬ Lp = 24 := fun e => c_71 (by rw [e]; rfl)
                  omega
              exact E.1 _ _ _ _ _ _ _ dX8_fault_117 rfl rfl (Nat.le_of_ble_eq_true rfl) (Nat.le_of_ble_eq_true rfl) ⟨_, rfl, _, HP9, (gFM.trans (gFM.trans fr1 frt8) frp9), Or.inr ⟨c_9, gp, Lp, hp9, Or.inr ⟨kp, np, _, hn9, hF, hkq.imp (fun a => ⟨a.1, a.2.1⟩) (fun a => ⟨a.1, a.2.1⟩), rfl⟩⟩⟩
            ·
              refine g_aload_n (q := 75) C dX8_fault_74 rfl rfl ?_
              refine g_aload_n (q := 76) C dX8_fault_75 rfl rfl ?_
              refine g_getfield (v := .ref 127) (q := 79) C fX8_22 dX8_fault_76 rfl HM9.1 rfl ?_
              refine g_sipush (v := 423) (q := 82) C dX8_fault_79 (by decide) rfl ?_
              refine g_ialoadN (x := ((((M.set 2 0).arr 4 gp).put 4 430 (nI Lp)).a 4 423)) (j := 423) (q := 83) C dX8_fault_82 rfl (HM9.ar (i := 4) (n := 772) (by decide) rfl) (pk_in 423 772 (by decide)) (pk_cl 423) rfl ?_
              refine g_iload_n (q := 84) C dX8_fault_83 rfl rfl ?_
              refine g_iadd (q := 85) C dX8_fault_84 rfl ?_
              refine g_callVip (q := 88) (As := [.int ((((((M.set 2 0).arr 4 gp).put 4 430 (nI Lp)).a 4 423) + y))]) C gyX8_faultAt gvX8_faultAt t_1284 (c_X8_faultAt_r (y := (((((M.set 2 0).arr 4 gp).put 4 430 (nI Lp)).a 4 423) + y)) HM9 hb25) dX8_fault_85 rfl HM9.1 rfl rfl rfl (Nat.le_of_ble_eq_true rfl) (Nat.le_of_ble_eq_true rfl) (Nat.le_of_ble_eq_true rfl) (Nat.le_of_ble_eq_true rfl) (Nat.le_of_ble_eq_true rfl) rfl (fun x8 h8 z8 => ?_)
              obtain ⟨rfl, zf⟩ := z8
              refine g_if_ge (t := 93) (q := 91) C dX8_fault_88 (by decide) rfl (fun c_88 => ?_) (fun c_88 => ?_)
              ·
                refine g_aload_n (q := 94) C dX8_fault_93 rfl rfl ?_
                refine g_aload_n (q := 95) C dX8_fault_94 rfl rfl ?_
                refine g_getfield (v := .ref 127) (q := 98) C fX8_22 dX8_fault_95 rfl HM9.1 rfl ?_
                refine g_sipush (v := 423) (q := 101) C dX8_fault_98 (by decide) rfl ?_
                refine g_ialoadN (x := ((((M.set 2 0).arr 4 gp).put 4 430 (nI Lp)).a 4 423)) (j := 423) (q := 102) C dX8_fault_101 rfl (HM9.ar (i := 4) (n := 772) (by decide) rfl) (pk_in 423 772 (by decide)) (pk_cl 423) rfl ?_
                refine g_iload_n (q := 103) C dX8_fault_102 rfl rfl ?_
                refine g_iadd (q := 104) C dX8_fault_103 rfl ?_
                refine g_iload_n (q := 105) C dX8_fault_104 rfl rfl ?_
                refine g_iload_n (q := 106) C dX8_fault_105 rfl rfl ?_
                refine g_callVvp (q := 109) (As := [.int ((((((M.set 2 0).arr 4 gp).put 4 430 (nI Lp)).a 4 423) + y)), .int z, .int w]) C gyX8_putsFault gvX8_putsFault t_1288 (c_X8_putsFault_r (y := (((((M.set 2 0).arr 4 gp).put 4 430 (nI Lp)).a 4 423) + y)) (z := z) (w := w) HM9 hb1) dX8_fault_106 rfl HM9.1 rfl rfl rfl (Nat.le_of_ble_eq_true rfl) (Nat.le_of_ble_eq_true rfl) (Nat.le_of_ble_eq_true rfl) (Nat.le_of_ble_eq_true rfl) (Nat.le_of_ble_eq_true rfl) rfl (fun h9 z9 => ?_)
                obtain ⟨kp, np, hkp, HP9, frp9⟩ := z9
                refine g_aload_n (q := 110) C dX8_fault_109 rfl rfl ?_
                refine g_getfield (v := .ref 127) (q := 113) C fX8_22 dX8_fault_110 rfl HP9.1 rfl ?_
                refine g_sipush (v := 430) (q := 116) C dX8_fault_113 (by decide) rfl ?_
                refine g_ialoadN (x := ((gPf (((M.set 2 0).arr 4 gp).put 4 430 (nI Lp)) (((((M.set 2 0).arr 4 gp).put 4 430 (nI Lp)).a 4 423) + y) z w kp np).a 4 430)) (j := 430) (q := 117) C dX8_fault_116 rfl (HP9.ar (i := 4) (n := 772) (by decide) rfl) (pk_in 430 772 (by decide)) (pk_cl 430) rfl ?_
                have eL : ((((M.set 2 0).arr 4 gp).put 4 430 (nI Lp)).a 4 430).toNatClampNeg = Lp := by rw [show (((M.set 2 0).arr 4 gp).put 4 430 (nI Lp)).a 4 430 = nI Lp from gput_s, nI_clamp (by omega)]
                have hkq := hkp
                rw [eL] at hkq
                have hn9 : np ≤ 24 := by
                  rcases hkq with ⟨a, b, _⟩ | ⟨a, b, c⟩
                  · omega
                  · exfalso
                    rcases zf with ⟨e, _⟩ | ⟨k8, q1, q2, q3⟩
                    · rw [e] at c_88; exact absurd c_88 (by decide)
                    · rw [eL] at q1; exact c k8 q1 q3
                exact E.1 _ _ _ _ _ _ _ dX8_fault_117 rfl rfl (Nat.le_of_ble_eq_true rfl) (Nat.le_of_ble_eq_true rfl) ⟨_, rfl, _, HP9, (gFM.trans (gFM.trans fr1 frt8) frp9), Or.inr ⟨c_9, gp, Lp, hp9, Or.inr ⟨kp, np, _, hn9, hF, hkq.imp (fun a => ⟨a.1, a.2.1⟩) (fun a => ⟨a.1, a.2.1⟩), rfl⟩⟩⟩
              ·
                refine g_iconst (v := (-1)) (q := 92) C dX8_fault_91 (by decide) rfl ?_
                exact E.1 _ _ _ _ _ _ _ dX8_fault_92 rfl rfl (Nat.le_of_ble_eq_true rfl) (Nat.le_of_ble_eq_true rfl) ⟨_, rfl, _, HM9, (gFM.trans fr1 frt8), Or.inr ⟨c_9, gp, Lp, hp9, Or.inl rfl⟩⟩
            
