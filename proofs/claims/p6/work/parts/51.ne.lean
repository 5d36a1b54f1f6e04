/-! the reference: the reset's groups, further (by program: wip/p2/m_ne.py) -/
theorem dX8_groupTold_0 : decode cX8_groupTold 0 = .ok (.iload_n 2, 1) := by decide +kernel
theorem dX8_groupTold_1 : decode cX8_groupTold 1 = .ok (.iconst 1, 1) := by decide +kernel
theorem dX8_groupTold_2 : decode cX8_groupTold 2 = .ok (.iand, 1) := by decide +kernel
theorem dX8_groupTold_3 : decode cX8_groupTold 3 = .ok (.ifCond .eq 35, 3) := by decide +kernel
theorem dX8_groupTold_6 : decode cX8_groupTold 6 = .ok (.iload_n 1, 1) := by decide +kernel
theorem dX8_groupTold_7 : decode cX8_groupTold 7 = .ok (.iconst 1, 1) := by decide +kernel
theorem dX8_groupTold_8 : decode cX8_groupTold 8 = .ok (.if_icmp .ne 10, 3) := by decide +kernel
theorem dX8_groupTold_11 : decode cX8_groupTold 11 = .ok (.aload_n 0, 1) := by decide +kernel
theorem dX8_groupTold_12 : decode cX8_groupTold 12 = .ok (.invokevirtual 110, 3) := by decide +kernel
theorem dX8_groupTold_15 : decode cX8_groupTold 15 = .ok (.goto 23, 3) := by decide +kernel
theorem dX8_groupTold_18 : decode cX8_groupTold 18 = .ok (.iload_n 1, 1) := by decide +kernel
theorem dX8_groupTold_19 : decode cX8_groupTold 19 = .ok (.aload_n 0, 1) := by decide +kernel
theorem dX8_groupTold_20 : decode cX8_groupTold 20 = .ok (.getfield 113, 3) := by decide +kernel
theorem dX8_groupTold_23 : decode cX8_groupTold 23 = .ok (.if_icmp .ne 10, 3) := by decide +kernel
theorem dX8_groupTold_26 : decode cX8_groupTold 26 = .ok (.aload_n 0, 1) := by decide +kernel
theorem dX8_groupTold_27 : decode cX8_groupTold 27 = .ok (.invokevirtual 116, 3) := by decide +kernel
theorem dX8_groupTold_30 : decode cX8_groupTold 30 = .ok (.goto 8, 3) := by decide +kernel
theorem dX8_groupTold_33 : decode cX8_groupTold 33 = .ok (.aload_n 0, 1) := by decide +kernel
theorem dX8_groupTold_34 : decode cX8_groupTold 34 = .ok (.invokevirtual 99, 3) := by decide +kernel
theorem dX8_groupTold_37 : decode cX8_groupTold 37 = .ok (.pop, 1) := by decide +kernel
theorem dX8_groupTold_38 : decode cX8_groupTold 38 = .ok (.iload_n 2, 1) := by decide +kernel
theorem dX8_groupTold_39 : decode cX8_groupTold 39 = .ok (.iconst 2, 1) := by decide +kernel
theorem dX8_groupTold_40 : decode cX8_groupTold 40 = .ok (.iand, 1) := by decide +kernel
theorem dX8_groupTold_41 : decode cX8_groupTold 41 = .ok (.ifCond .eq 42, 3) := by decide +kernel
theorem dX8_groupTold_44 : decode cX8_groupTold 44 = .ok (.aload_n 0, 1) := by decide +kernel
theorem dX8_groupTold_45 : decode cX8_groupTold 45 = .ok (.invokevirtual 99, 3) := by decide +kernel
theorem dX8_groupTold_48 : decode cX8_groupTold 48 = .ok (.istore_n 3, 1) := by decide +kernel
theorem dX8_groupTold_49 : decode cX8_groupTold 49 = .ok (.aload_n 0, 1) := by decide +kernel
theorem dX8_groupTold_50 : decode cX8_groupTold 50 = .ok (.getfield 86, 3) := by decide +kernel
theorem dX8_groupTold_53 : decode cX8_groupTold 53 = .ok (.ifCond .ne 30, 3) := by decide +kernel
theorem dX8_groupTold_56 : decode cX8_groupTold 56 = .ok (.iload_n 1, 1) := by decide +kernel
theorem dX8_groupTold_57 : decode cX8_groupTold 57 = .ok (.aload_n 0, 1) := by decide +kernel
theorem dX8_groupTold_58 : decode cX8_groupTold 58 = .ok (.getfield 113, 3) := by decide +kernel
theorem dX8_groupTold_61 : decode cX8_groupTold 61 = .ok (.if_icmp .ne 22, 3) := by decide +kernel
theorem dX8_groupTold_64 : decode cX8_groupTold 64 = .ok (.iload_n 3, 1) := by decide +kernel
theorem dX8_groupTold_65 : decode cX8_groupTold 65 = .ok (.iconst 4, 1) := by decide +kernel
theorem dX8_groupTold_66 : decode cX8_groupTold 66 = .ok (.ishr, 1) := by decide +kernel
theorem dX8_groupTold_67 : decode cX8_groupTold 67 = .ok (.bipush 9, 2) := by decide +kernel
theorem dX8_groupTold_69 : decode cX8_groupTold 69 = .ok (.if_icmp .le 14, 3) := by decide +kernel
theorem dX8_groupTold_72 : decode cX8_groupTold 72 = .ok (.aload_n 0, 1) := by decide +kernel
theorem dX8_groupTold_73 : decode cX8_groupTold 73 = .ok (.iconst 5, 1) := by decide +kernel
theorem dX8_groupTold_74 : decode cX8_groupTold 74 = .ok (.aload_n 0, 1) := by decide +kernel
theorem dX8_groupTold_75 : decode cX8_groupTold 75 = .ok (.getfield 89, 3) := by decide +kernel
theorem dX8_groupTold_78 : decode cX8_groupTold 78 = .ok (.iconst 1, 1) := by decide +kernel
theorem dX8_groupTold_79 : decode cX8_groupTold 79 = .ok (.isub, 1) := by decide +kernel
theorem dX8_groupTold_80 : decode cX8_groupTold 80 = .ok (.invokevirtual 95, 3) := by decide +kernel
theorem dX8_groupTold_83 : decode cX8_groupTold 83 = .ok (.iload_n 2, 1) := by decide +kernel
theorem dX8_groupTold_84 : decode cX8_groupTold 84 = .ok (.iconst 4, 1) := by decide +kernel
theorem dX8_groupTold_85 : decode cX8_groupTold 85 = .ok (.iand, 1) := by decide +kernel
theorem dX8_groupTold_86 : decode cX8_groupTold 86 = .ok (.ifCond .eq 50, 3) := by decide +kernel
theorem dX8_groupTold_89 : decode cX8_groupTold 89 = .ok (.aload_n 0, 1) := by decide +kernel
theorem dX8_groupTold_90 : decode cX8_groupTold 90 = .ok (.invokevirtual 99, 3) := by decide +kernel
theorem dX8_groupTold_93 : decode cX8_groupTold 93 = .ok (.istore_n 3, 1) := by decide +kernel
theorem dX8_groupTold_94 : decode cX8_groupTold 94 = .ok (.iload_n 1, 1) := by decide +kernel
theorem dX8_groupTold_95 : decode cX8_groupTold 95 = .ok (.iconst 1, 1) := by decide +kernel
theorem dX8_groupTold_96 : decode cX8_groupTold 96 = .ok (.if_icmp .ne 10, 3) := by decide +kernel
theorem dX8_groupTold_99 : decode cX8_groupTold 99 = .ok (.aload_n 0, 1) := by decide +kernel
theorem dX8_groupTold_100 : decode cX8_groupTold 100 = .ok (.getfield 16, 3) := by decide +kernel
theorem dX8_groupTold_103 : decode cX8_groupTold 103 = .ok (.iconst 3, 1) := by decide +kernel
theorem dX8_groupTold_104 : decode cX8_groupTold 104 = .ok (.iload_n 3, 1) := by decide +kernel
theorem dX8_groupTold_105 : decode cX8_groupTold 105 = .ok (.iastore, 1) := by decide +kernel
theorem dX8_groupTold_106 : decode cX8_groupTold 106 = .ok (.aload_n 0, 1) := by decide +kernel
theorem dX8_groupTold_107 : decode cX8_groupTold 107 = .ok (.getfield 86, 3) := by decide +kernel
theorem dX8_groupTold_110 : decode cX8_groupTold 110 = .ok (.ifCond .ne 26, 3) := by decide +kernel
theorem dX8_groupTold_113 : decode cX8_groupTold 113 = .ok (.iload_n 1, 1) := by decide +kernel
theorem dX8_groupTold_114 : decode cX8_groupTold 114 = .ok (.aload_n 0, 1) := by decide +kernel
theorem dX8_groupTold_115 : decode cX8_groupTold 115 = .ok (.getfield 113, 3) := by decide +kernel
theorem dX8_groupTold_118 : decode cX8_groupTold 118 = .ok (.if_icmp .ne 18, 3) := by decide +kernel
theorem dX8_groupTold_121 : decode cX8_groupTold 121 = .ok (.iload_n 3, 1) := by decide +kernel
theorem dX8_groupTold_122 : decode cX8_groupTold 122 = .ok (.ifCond .eq 14, 3) := by decide +kernel
theorem dX8_groupTold_125 : decode cX8_groupTold 125 = .ok (.aload_n 0, 1) := by decide +kernel
theorem dX8_groupTold_126 : decode cX8_groupTold 126 = .ok (.iconst 5, 1) := by decide +kernel
theorem dX8_groupTold_127 : decode cX8_groupTold 127 = .ok (.aload_n 0, 1) := by decide +kernel
theorem dX8_groupTold_128 : decode cX8_groupTold 128 = .ok (.getfield 89, 3) := by decide +kernel
theorem dX8_groupTold_131 : decode cX8_groupTold 131 = .ok (.iconst 1, 1) := by decide +kernel
theorem dX8_groupTold_132 : decode cX8_groupTold 132 = .ok (.isub, 1) := by decide +kernel
theorem dX8_groupTold_133 : decode cX8_groupTold 133 = .ok (.invokevirtual 95, 3) := by decide +kernel
theorem dX8_groupTold_136 : decode cX8_groupTold 136 = .ok (.iload_n 2, 1) := by decide +kernel
theorem dX8_groupTold_137 : decode cX8_groupTold 137 = .ok (.bipush 8, 2) := by decide +kernel
theorem dX8_groupTold_139 : decode cX8_groupTold 139 = .ok (.iand, 1) := by decide +kernel
theorem dX8_groupTold_140 : decode cX8_groupTold 140 = .ok (.ifCond .eq 10, 3) := by decide +kernel
theorem dX8_groupTold_143 : decode cX8_groupTold 143 = .ok (.aload_n 0, 1) := by decide +kernel
theorem dX8_groupTold_144 : decode cX8_groupTold 144 = .ok (.invokevirtual 99, 3) := by decide +kernel
theorem dX8_groupTold_147 : decode cX8_groupTold 147 = .ok (.goto 4, 3) := by decide +kernel
theorem dX8_groupTold_150 : decode cX8_groupTold 150 = .ok (.iconst (-1), 1) := by decide +kernel
theorem dX8_groupTold_151 : decode cX8_groupTold 151 = .ok (.ireturn, 1) := by decide +kernel
set_option maxRecDepth 100000 in
set_option maxHeartbeats 4000000 in
theorem c_X8_groupTold_r {hp : List gA} {M : gMd} {y z : Int32} (HM : gMod hp M) (hr : gRi M) : gM yX8_groupTold cX8_groupTold 4 ((some .int)) 3 63 [.ref 122, .int y, .int z] (hp) (0) (0) (fun v h => ∃ x, v = some (.int x) ∧ ∃ n M', gMod h M' ∧ gFM hp h ∧ gRz n M M' ∧ (x = -1 ∨ gIr x 255) ∧ (¬ (((z &&& 1 = 0 ∧ z &&& 2 = 0) ∧ z &&& 4 = 0) ∧ z &&& 8 = 0) → 1 ≤ n)) := by
  refine gM_of (ls0 := [some (.ref 122), some (.int y), some (.int z), none]) (by decide +kernel) (Nat.le_of_ble_eq_true rfl) rfl fun X C E => ?_
  have J136 : ∀ (n : Nat) (M1 : gMd) (x3 : Option Value) (hz : List gA), gMod hz M1 → gFM hp hz → gRz n M M1 → (¬ ((z &&& 1 = 0 ∧ z &&& 2 = 0) ∧ z &&& 4 = 0) → 1 ≤ n) → gG X 136 [some (.ref 122), some (.int y), some (.int z), x3] [] hz 0 0 := by
    intro n M1 x3 hz HZ frz RZ hn
    refine g_iload_n (q := 137) C dX8_groupTold_136 rfl rfl ?_
    refine g_bipush (v := 8) (q := 139) C dX8_groupTold_137 (by decide) rfl ?_
    refine g_iand (q := 140) C dX8_groupTold_139 rfl ?_
    refine g_if_eq (t := 150) (q := 143) C dX8_groupTold_140 (by decide) rfl (fun c_140 => ?_) (fun c_140 => ?_)
    ·
      refine g_iconst (v := (-1)) (q := 151) C dX8_groupTold_150 (by decide) rfl ?_
      exact E.1 _ _ _ _ _ _ _ dX8_groupTold_151 rfl rfl (Nat.le_of_ble_eq_true rfl) (Nat.le_of_ble_eq_true rfl) ⟨_, rfl, _, _, HZ, frz, RZ, Or.inl rfl, fun h => hn (fun e => h ⟨e, c_140⟩)⟩
    ·
      refine g_aload_n (q := 144) C dX8_groupTold_143 rfl rfl ?_
      refine g_callVip (q := 147) (As := []) C gyX8_byteNext gvX8_byteNext t_1218 (c_X8_byteNext_r HZ (hr.of RZ).1) dX8_groupTold_144 rfl HZ.1 rfl rfl rfl (Nat.le_of_ble_eq_true rfl) (Nat.le_of_ble_eq_true rfl) (Nat.le_of_ble_eq_true rfl) (Nat.le_of_ble_eq_true rfl) (Nat.le_of_ble_eq_true rfl) rfl (fun x1 h1 z1 => ?_)
      obtain ⟨N1, HN1, fn1, bn1⟩ := z1
      obtain ⟨rn1, X1⟩ := gRz.bn (hr.of RZ) bn1
      have R1 := gRz.trans RZ rn1
      refine g_goto (q := 151) C dX8_groupTold_147 (by decide) ?_
      exact E.1 _ _ _ _ _ _ _ dX8_groupTold_151 rfl rfl (Nat.le_of_ble_eq_true rfl) (Nat.le_of_ble_eq_true rfl) ⟨_, rfl, _, _, HN1, (gFM.trans frz fn1), R1, Or.inr X1, fun _ => by omega⟩
  have J83 : ∀ (n : Nat) (M1 : gMd) (x3 : Option Value) (hz : List gA), gMod hz M1 → gFM hp hz → gRz n M M1 → (¬ (z &&& 1 = 0 ∧ z &&& 2 = 0) → 1 ≤ n) → gG X 83 [some (.ref 122), some (.int y), some (.int z), x3] [] hz 0 0 := by
    intro n M1 x3 hz HZ frz RZ hn
    refine g_iload_n (q := 84) C dX8_groupTold_83 rfl rfl ?_
    refine g_iconst (v := 4) (q := 85) C dX8_groupTold_84 (by decide) rfl ?_
    refine g_iand (q := 86) C dX8_groupTold_85 rfl ?_
    refine g_if_eq (t := 136) (q := 89) C dX8_groupTold_86 (by decide) rfl (fun c_86 => ?_) (fun c_86 => ?_)
    ·
      exact J136 _ _ _ _ HZ frz RZ (fun h => by first | omega | exact hn (fun e => h ⟨e, c_86⟩))
    ·
      refine g_aload_n (q := 90) C dX8_groupTold_89 rfl rfl ?_
      refine g_callVip (q := 93) (As := []) C gyX8_byteNext gvX8_byteNext t_1218 (c_X8_byteNext_r HZ (hr.of RZ).1) dX8_groupTold_90 rfl HZ.1 rfl rfl rfl (Nat.le_of_ble_eq_true rfl) (Nat.le_of_ble_eq_true rfl) (Nat.le_of_ble_eq_true rfl) (Nat.le_of_ble_eq_true rfl) (Nat.le_of_ble_eq_true rfl) rfl (fun x2 h2 z2 => ?_)
      obtain ⟨N2, HN2, fn2, bn2⟩ := z2
      obtain ⟨rn2, X2⟩ := gRz.bn (hr.of RZ) bn2
      have R2 := gRz.trans RZ rn2
      refine g_istore_n (q := 94) C dX8_groupTold_93 (Nat.le_of_ble_eq_true rfl) (by simp only [gset]; rfl) rfl ?_
      refine g_iload_n (q := 95) C dX8_groupTold_94 rfl rfl ?_
      refine g_iconst (v := 1) (q := 96) C dX8_groupTold_95 (by decide) rfl ?_
      refine g_icmp_ne (t := 106) (q := 99) C dX8_groupTold_96 (by decide) rfl (fun c_96 => ?_) (fun c_96 => ?_)
      ·
        refine g_aload_n (q := 107) C dX8_groupTold_106 rfl rfl ?_
        refine g_getfield (v := .int ((N2.f 22))) (q := 110) C fX8_86 dX8_groupTold_107 rfl HN2.1 rfl ?_
        refine g_if_ne (t := 136) (q := 113) C dX8_groupTold_110 (by decide) rfl (fun c_110 => ?_) (fun c_110 => ?_)
        ·
          exact J136 _ _ _ _ HN2 (gFM.trans frz fn2) R2 (fun h => by first | omega | exact hn (fun e => h ⟨e, c_86⟩))
        ·
          refine g_iload_n (q := 114) C dX8_groupTold_113 rfl rfl ?_
          refine g_aload_n (q := 115) C dX8_groupTold_114 rfl rfl ?_
          refine g_getfield (v := .int ((N2.f 23))) (q := 118) C fX8_113 dX8_groupTold_115 rfl HN2.1 rfl ?_
          refine g_icmp_ne (t := 136) (q := 121) C dX8_groupTold_118 (by decide) rfl (fun c_118 => ?_) (fun c_118 => ?_)
          ·
            exact J136 _ _ _ _ HN2 (gFM.trans frz fn2) R2 (fun h => by first | omega | exact hn (fun e => h ⟨e, c_86⟩))
          ·
            refine g_iload_n (q := 122) C dX8_groupTold_121 rfl rfl ?_
            refine g_if_eq (t := 136) (q := 125) C dX8_groupTold_122 (by decide) rfl (fun c_122 => ?_) (fun c_122 => ?_)
            ·
              exact J136 _ _ _ _ HN2 (gFM.trans frz fn2) R2 (fun h => by first | omega | exact hn (fun e => h ⟨e, c_86⟩))
            ·
              refine g_aload_n (q := 126) C dX8_groupTold_125 rfl rfl ?_
              refine g_iconst (v := 5) (q := 127) C dX8_groupTold_126 (by decide) rfl ?_
              refine g_aload_n (q := 128) C dX8_groupTold_127 rfl rfl ?_
              refine g_getfield (v := .int ((N2.f 21))) (q := 131) C fX8_89 dX8_groupTold_128 rfl HN2.1 rfl ?_
              refine g_iconst (v := 1) (q := 132) C dX8_groupTold_131 (by decide) rfl ?_
              refine g_isub (q := 133) C dX8_groupTold_132 rfl ?_
              refine g_callVvp (q := 136) (As := [.int 5, .int (((N2.f 21) - 1))]) C gyX8_wrong gvX8_wrong t_1222 (c_X8_wrong_m (y := 5) (z := ((N2.f 21) - 1)) HN2) dX8_groupTold_133 rfl HN2.1 rfl rfl rfl (Nat.le_of_ble_eq_true rfl) (Nat.le_of_ble_eq_true rfl) (Nat.le_of_ble_eq_true rfl) (Nat.le_of_ble_eq_true rfl) (Nat.le_of_ble_eq_true rfl) rfl (fun h3 z3 => ?_)
              obtain ⟨HN3, fn3⟩ := z3
              have R3 := gRz.trans R2 (gRz.wr (y := 5) (z := ((N2.f 21) - 1)))
              exact J136 _ _ _ _ HN3 (gFM.trans (gFM.trans frz fn2) fn3) R3 (fun h => by first | omega | exact hn (fun e => h ⟨e, c_86⟩))
      ·
        refine g_aload_n (q := 100) C dX8_groupTold_99 rfl rfl ?_
        refine g_getfield (v := .ref 125) (q := 103) C fX8_16 dX8_groupTold_100 rfl HN2.1 rfl ?_
        refine g_iconst (v := 3) (q := 104) C dX8_groupTold_103 (by decide) rfl ?_
        refine g_iload_n (q := 105) C dX8_groupTold_104 rfl rfl ?_
        refine g_iastoreN (j := 3) (q := 106) C dX8_groupTold_105 rfl (HN2.ar (i := 2) (n := 9) (by decide) rfl) (pk_in 3 9 (by decide)) (pk_cl 3) ?_
        refine gMsto (i := 2) (j := 3) (x := x2) HN2 (by decide) rfl rfl fun h4 HL4 fr4 => ?_
        refine g_aload_n (q := 107) C dX8_groupTold_106 rfl rfl ?_
        refine g_getfield (v := .int ((N2.f 22))) (q := 110) C fX8_86 dX8_groupTold_107 rfl HL4.1 rfl ?_
        refine g_if_ne (t := 136) (q := 113) C dX8_groupTold_110 (by decide) rfl (fun c_110 => ?_) (fun c_110 => ?_)
        ·
          exact J136 _ _ _ _ HL4 (gFM.trans (gFM.trans frz fn2) fr4) (gRz.trans R2 (gRz.put (M := N2) (j := 3) (x := x2) (by decide))) (fun h => by first | omega | exact hn (fun e => h ⟨e, c_86⟩))
        ·
          refine g_iload_n (q := 114) C dX8_groupTold_113 rfl rfl ?_
          refine g_aload_n (q := 115) C dX8_groupTold_114 rfl rfl ?_
          refine g_getfield (v := .int ((N2.f 23))) (q := 118) C fX8_113 dX8_groupTold_115 rfl HL4.1 rfl ?_
          refine g_icmp_ne (t := 136) (q := 121) C dX8_groupTold_118 (by decide) rfl (fun c_118 => ?_) (fun c_118 => ?_)
          ·
            exact J136 _ _ _ _ HL4 (gFM.trans (gFM.trans frz fn2) fr4) (gRz.trans R2 (gRz.put (M := N2) (j := 3) (x := x2) (by decide))) (fun h => by first | omega | exact hn (fun e => h ⟨e, c_86⟩))
          ·
            refine g_iload_n (q := 122) C dX8_groupTold_121 rfl rfl ?_
            refine g_if_eq (t := 136) (q := 125) C dX8_groupTold_122 (by decide) rfl (fun c_122 => ?_) (fun c_122 => ?_)
            ·
              exact J136 _ _ _ _ HL4 (gFM.trans (gFM.trans frz fn2) fr4) (gRz.trans R2 (gRz.put (M := N2) (j := 3) (x := x2) (by decide))) (fun h => by first | omega | exact hn (fun e => h ⟨e, c_86⟩))
            ·
              refine g_aload_n (q := 126) C dX8_groupTold_125 rfl rfl ?_
              refine g_iconst (v := 5) (q := 127) C dX8_groupTold_126 (by decide) rfl ?_
              refine g_aload_n (q := 128) C dX8_groupTold_127 rfl rfl ?_
              refine g_getfield (v := .int ((N2.f 21))) (q := 131) C fX8_89 dX8_groupTold_128 rfl HL4.1 rfl ?_
              refine g_iconst (v := 1) (q := 132) C dX8_groupTold_131 (by decide) rfl ?_
              refine g_isub (q := 133) C dX8_groupTold_132 rfl ?_
              refine g_callVvp (q := 136) (As := [.int 5, .int (((N2.f 21) - 1))]) C gyX8_wrong gvX8_wrong t_1222 (c_X8_wrong_m (y := 5) (z := ((N2.f 21) - 1)) HL4) dX8_groupTold_133 rfl HL4.1 rfl rfl rfl (Nat.le_of_ble_eq_true rfl) (Nat.le_of_ble_eq_true rfl) (Nat.le_of_ble_eq_true rfl) (Nat.le_of_ble_eq_true rfl) (Nat.le_of_ble_eq_true rfl) rfl (fun h5 z5 => ?_)
              obtain ⟨HN5, fn5⟩ := z5
              have R5 := gRz.trans (gRz.trans R2 (gRz.put (M := N2) (j := 3) (x := x2) (by decide))) (gRz.wr (y := 5) (z := ((N2.f 21) - 1)))
              exact J136 _ _ _ _ HN5 (gFM.trans (gFM.trans (gFM.trans frz fn2) fr4) fn5) R5 (fun h => by first | omega | exact hn (fun e => h ⟨e, c_86⟩))
  have J38 : ∀ (n : Nat) (M1 : gMd) (x3 : Option Value) (hz : List gA), gMod hz M1 → gFM hp hz → gRz n M M1 → (¬ (z &&& 1 = 0) → 1 ≤ n) → gG X 38 [some (.ref 122), some (.int y), some (.int z), x3] [] hz 0 0 := by
    intro n M1 x3 hz HZ frz RZ hn
    refine g_iload_n (q := 39) C dX8_groupTold_38 rfl rfl ?_
    refine g_iconst (v := 2) (q := 40) C dX8_groupTold_39 (by decide) rfl ?_
    refine g_iand (q := 41) C dX8_groupTold_40 rfl ?_
    refine g_if_eq (t := 83) (q := 44) C dX8_groupTold_41 (by decide) rfl (fun c_41 => ?_) (fun c_41 => ?_)
    ·
      exact J83 _ _ _ _ HZ frz RZ (fun h => by first | omega | exact hn (fun e => h ⟨e, c_41⟩))
    ·
      refine g_aload_n (q := 45) C dX8_groupTold_44 rfl rfl ?_
      refine g_callVip (q := 48) (As := []) C gyX8_byteNext gvX8_byteNext t_1218 (c_X8_byteNext_r HZ (hr.of RZ).1) dX8_groupTold_45 rfl HZ.1 rfl rfl rfl (Nat.le_of_ble_eq_true rfl) (Nat.le_of_ble_eq_true rfl) (Nat.le_of_ble_eq_true rfl) (Nat.le_of_ble_eq_true rfl) (Nat.le_of_ble_eq_true rfl) rfl (fun x6 h6 z6 => ?_)
      obtain ⟨N6, HN6, fn6, bn6⟩ := z6
      obtain ⟨rn6, X6⟩ := gRz.bn (hr.of RZ) bn6
      have R6 := gRz.trans RZ rn6
      refine g_istore_n (q := 49) C dX8_groupTold_48 (Nat.le_of_ble_eq_true rfl) (by simp only [gset]; rfl) rfl ?_
      refine g_aload_n (q := 50) C dX8_groupTold_49 rfl rfl ?_
      refine g_getfield (v := .int ((N6.f 22))) (q := 53) C fX8_86 dX8_groupTold_50 rfl HN6.1 rfl ?_
      refine g_if_ne (t := 83) (q := 56) C dX8_groupTold_53 (by decide) rfl (fun c_53 => ?_) (fun c_53 => ?_)
      ·
        exact J83 _ _ _ _ HN6 (gFM.trans frz fn6) R6 (fun h => by first | omega | exact hn (fun e => h ⟨e, c_41⟩))
      ·
        refine g_iload_n (q := 57) C dX8_groupTold_56 rfl rfl ?_
        refine g_aload_n (q := 58) C dX8_groupTold_57 rfl rfl ?_
        refine g_getfield (v := .int ((N6.f 23))) (q := 61) C fX8_113 dX8_groupTold_58 rfl HN6.1 rfl ?_
        refine g_icmp_ne (t := 83) (q := 64) C dX8_groupTold_61 (by decide) rfl (fun c_61 => ?_) (fun c_61 => ?_)
        ·
          exact J83 _ _ _ _ HN6 (gFM.trans frz fn6) R6 (fun h => by first | omega | exact hn (fun e => h ⟨e, c_41⟩))
        ·
          refine g_iload_n (q := 65) C dX8_groupTold_64 rfl rfl ?_
          refine g_iconst (v := 4) (q := 66) C dX8_groupTold_65 (by decide) rfl ?_
          refine g_ishr (q := 67) C dX8_groupTold_66 rfl ?_
          refine g_bipush (v := 9) (q := 69) C dX8_groupTold_67 (by decide) rfl ?_
          refine g_icmp_le (t := 83) (q := 72) C dX8_groupTold_69 (by decide) rfl (fun c_69 => ?_) (fun c_69 => ?_)
          ·
            exact J83 _ _ _ _ HN6 (gFM.trans frz fn6) R6 (fun h => by first | omega | exact hn (fun e => h ⟨e, c_41⟩))
          ·
            refine g_aload_n (q := 73) C dX8_groupTold_72 rfl rfl ?_
            refine g_iconst (v := 5) (q := 74) C dX8_groupTold_73 (by decide) rfl ?_
            refine g_aload_n (q := 75) C dX8_groupTold_74 rfl rfl ?_
            refine g_getfield (v := .int ((N6.f 21))) (q := 78) C fX8_89 dX8_groupTold_75 rfl HN6.1 rfl ?_
            refine g_iconst (v := 1) (q := 79) C dX8_groupTold_78 (by decide) rfl ?_
            refine g_isub (q := 80) C dX8_groupTold_79 rfl ?_
            refine g_callVvp (q := 83) (As := [.int 5, .int (((N6.f 21) - 1))]) C gyX8_wrong gvX8_wrong t_1222 (c_X8_wrong_m (y := 5) (z := ((N6.f 21) - 1)) HN6) dX8_groupTold_80 rfl HN6.1 rfl rfl rfl (Nat.le_of_ble_eq_true rfl) (Nat.le_of_ble_eq_true rfl) (Nat.le_of_ble_eq_true rfl) (Nat.le_of_ble_eq_true rfl) (Nat.le_of_ble_eq_true rfl) rfl (fun h7 z7 => ?_)
            obtain ⟨HN7, fn7⟩ := z7
            have R7 := gRz.trans R6 (gRz.wr (y := 5) (z := ((N6.f 21) - 1)))
            exact J83 _ _ _ _ HN7 (gFM.trans (gFM.trans frz fn6) fn7) R7 (fun h => by first | omega | exact hn (fun e => h ⟨e, c_41⟩))
  refine g_iload_n (q := 1) C dX8_groupTold_0 rfl rfl ?_
  refine g_iconst (v := 1) (q := 2) C dX8_groupTold_1 (by decide) rfl ?_
  refine g_iand (q := 3) C dX8_groupTold_2 rfl ?_
  refine g_if_eq (t := 38) (q := 6) C dX8_groupTold_3 (by decide) rfl (fun c_3 => ?_) (fun c_3 => ?_)
  ·
    exact J38 _ _ _ _ HM gFM.rf gRz.rf (fun h => by first | omega | exact absurd c_3 h)
  ·
    refine g_iload_n (q := 7) C dX8_groupTold_6 rfl rfl ?_
    refine g_iconst (v := 1) (q := 8) C dX8_groupTold_7 (by decide) rfl ?_
    refine g_icmp_ne (t := 18) (q := 11) C dX8_groupTold_8 (by decide) rfl (fun c_8 => ?_) (fun c_8 => ?_)
    ·
      refine g_iload_n (q := 19) C dX8_groupTold_18 rfl rfl ?_
      refine g_aload_n (q := 20) C dX8_groupTold_19 rfl rfl ?_
      refine g_getfield (v := .int ((M.f 23))) (q := 23) C fX8_113 dX8_groupTold_20 rfl HM.1 rfl ?_
      refine g_icmp_ne (t := 33) (q := 26) C dX8_groupTold_23 (by decide) rfl (fun c_23 => ?_) (fun c_23 => ?_)
      ·
        refine g_aload_n (q := 34) C dX8_groupTold_33 rfl rfl ?_
        refine g_callVip (q := 37) (As := []) C gyX8_byteNext gvX8_byteNext t_1218 (c_X8_byteNext_r HM (hr.of gRz.rf).1) dX8_groupTold_34 rfl HM.1 rfl rfl rfl (Nat.le_of_ble_eq_true rfl) (Nat.le_of_ble_eq_true rfl) (Nat.le_of_ble_eq_true rfl) (Nat.le_of_ble_eq_true rfl) (Nat.le_of_ble_eq_true rfl) rfl (fun x8 h8 z8 => ?_)
        obtain ⟨N8, HN8, fn8, bn8⟩ := z8
        obtain ⟨rn8, X8⟩ := gRz.bn (hr.of gRz.rf) bn8
        have R8 := gRz.trans gRz.rf rn8
        refine g_pop (q := 38) C dX8_groupTold_37 rfl rfl ?_
        exact J38 _ _ _ _ HN8 fn8 R8 (fun h => by first | omega | exact absurd c_3 h)
      ·
        refine g_aload_n (q := 27) C dX8_groupTold_26 rfl rfl ?_
        refine g_callVvp (q := 30) (As := []) C gyX8_window gvX8_window t_1244 (c_X8_window_r HM (hr.of gRz.rf)) dX8_groupTold_27 rfl HM.1 rfl rfl rfl (Nat.le_of_ble_eq_true rfl) (Nat.le_of_ble_eq_true rfl) (Nat.le_of_ble_eq_true rfl) (Nat.le_of_ble_eq_true rfl) (Nat.le_of_ble_eq_true rfl) rfl (fun h9 z9 => ?_)
        obtain ⟨N9, HN9, fn9, rn9⟩ := z9
        have R9 := gRz.trans gRz.rf rn9
        refine g_goto (q := 38) C dX8_groupTold_30 (by decide) ?_
        exact J38 _ _ _ _ HN9 fn9 R9 (fun h => by first | omega | exact absurd c_3 h)
    ·
      refine g_aload_n (q := 12) C dX8_groupTold_11 rfl rfl ?_
      refine g_callVvp (q := 15) (As := []) C gyX8_factor gvX8_factor t_1234 (c_X8_factor_r HM (hr.of gRz.rf)) dX8_groupTold_12 rfl HM.1 rfl rfl rfl (Nat.le_of_ble_eq_true rfl) (Nat.le_of_ble_eq_true rfl) (Nat.le_of_ble_eq_true rfl) (Nat.le_of_ble_eq_true rfl) (Nat.le_of_ble_eq_true rfl) rfl (fun h10 z10 => ?_)
      obtain ⟨N10, HN10, fn10, rn10⟩ := z10
      have R10 := gRz.trans gRz.rf rn10
      refine g_goto (q := 38) C dX8_groupTold_15 (by decide) ?_
      exact J38 _ _ _ _ HN10 fn10 R10 (fun h => by first | omega | exact absurd c_3 h)
