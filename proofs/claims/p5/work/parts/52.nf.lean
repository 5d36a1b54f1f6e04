/-! the reference: the reset's groups, one after the other (by program: wip/p2/m_nf.py) -/
theorem gNz {z : Int32} (h : gIr z 15) (c : ¬ z ≤ 0) : ¬ (((z &&& 1 = 0 ∧ z &&& 2 = 0) ∧ z &&& 4 = 0) ∧ z &&& 8 = 0) := by
  obtain ⟨b, hb, rfl⟩ := h
  have key : ∀ b : Fin 16, ¬ nI b.1 ≤ 0 → ¬ (((nI b.1 &&& 1 = 0 ∧ nI b.1 &&& 2 = 0) ∧ nI b.1 &&& 4 = 0) ∧ nI b.1 &&& 8 = 0) := by decide +kernel
  exact key ⟨b, by omega⟩ c
theorem gSh4 {x : Int32} (h : gIr x 255) : gIr (x >>> (4 : Int32)) 15 := by
  obtain ⟨b, hb, rfl⟩ := h
  have key : ∀ b : Fin 256, nI b.1 >>> (4 : Int32) = nI (b.1 / 16) := by decide +kernel
  exact ⟨b / 16, by omega, key ⟨b, by omega⟩⟩
theorem dX8_groupsTold_0 : decode cX8_groupsTold 0 = .ok (.iload_n 1, 1) := by decide +kernel
theorem dX8_groupsTold_1 : decode cX8_groupsTold 1 = .ok (.istore_n 2, 1) := by decide +kernel
theorem dX8_groupsTold_2 : decode cX8_groupsTold 2 = .ok (.iconst 1, 1) := by decide +kernel
theorem dX8_groupsTold_3 : decode cX8_groupsTold 3 = .ok (.istore_n 3, 1) := by decide +kernel
theorem dX8_groupsTold_4 : decode cX8_groupsTold 4 = .ok (.aload_n 0, 1) := by decide +kernel
theorem dX8_groupsTold_5 : decode cX8_groupsTold 5 = .ok (.getfield 86, 3) := by decide +kernel
theorem dX8_groupsTold_8 : decode cX8_groupsTold 8 = .ok (.ifCond .ne 145, 3) := by decide +kernel
theorem dX8_groupsTold_11 : decode cX8_groupsTold 11 = .ok (.iload_n 2, 1) := by decide +kernel
theorem dX8_groupsTold_12 : decode cX8_groupsTold 12 = .ok (.ifCond .le 141, 3) := by decide +kernel
theorem dX8_groupsTold_15 : decode cX8_groupsTold 15 = .ok (.aload_n 0, 1) := by decide +kernel
theorem dX8_groupsTold_16 : decode cX8_groupsTold 16 = .ok (.getfield 16, 3) := by decide +kernel
theorem dX8_groupsTold_19 : decode cX8_groupsTold 19 = .ok (.iconst 5, 1) := by decide +kernel
theorem dX8_groupsTold_20 : decode cX8_groupsTold 20 = .ok (.dup2, 1) := by decide +kernel
theorem dX8_groupsTold_21 : decode cX8_groupsTold 21 = .ok (.iaload, 1) := by decide +kernel
theorem dX8_groupsTold_22 : decode cX8_groupsTold 22 = .ok (.iconst 1, 1) := by decide +kernel
theorem dX8_groupsTold_23 : decode cX8_groupsTold 23 = .ok (.iadd, 1) := by decide +kernel
theorem dX8_groupsTold_24 : decode cX8_groupsTold 24 = .ok (.iastore, 1) := by decide +kernel
theorem dX8_groupsTold_25 : decode cX8_groupsTold 25 = .ok (.aload_n 0, 1) := by decide +kernel
theorem dX8_groupsTold_26 : decode cX8_groupsTold 26 = .ok (.iload_n 3, 1) := by decide +kernel
theorem dX8_groupsTold_27 : decode cX8_groupsTold 27 = .ok (.iload_n 2, 1) := by decide +kernel
theorem dX8_groupsTold_28 : decode cX8_groupsTold 28 = .ok (.invokevirtual 119, 3) := by decide +kernel
theorem dX8_groupsTold_31 : decode cX8_groupsTold 31 = .ok (.istore 4, 2) := by decide +kernel
theorem dX8_groupsTold_33 : decode cX8_groupsTold 33 = .ok (.aload_n 0, 1) := by decide +kernel
theorem dX8_groupsTold_34 : decode cX8_groupsTold 34 = .ok (.getfield 86, 3) := by decide +kernel
theorem dX8_groupsTold_37 : decode cX8_groupsTold 37 = .ok (.ifCond .ne 8, 3) := by decide +kernel
theorem dX8_groupsTold_40 : decode cX8_groupsTold 40 = .ok (.iload 4, 2) := by decide +kernel
theorem dX8_groupsTold_42 : decode cX8_groupsTold 42 = .ok (.ifCond .ge 4, 3) := by decide +kernel
theorem dX8_groupsTold_45 : decode cX8_groupsTold 45 = .ok (.return_, 1) := by decide +kernel
theorem dX8_groupsTold_46 : decode cX8_groupsTold 46 = .ok (.iload 4, 2) := by decide +kernel
theorem dX8_groupsTold_48 : decode cX8_groupsTold 48 = .ok (.bipush 15, 2) := by decide +kernel
theorem dX8_groupsTold_50 : decode cX8_groupsTold 50 = .ok (.iand, 1) := by decide +kernel
theorem dX8_groupsTold_51 : decode cX8_groupsTold 51 = .ok (.istore 5, 2) := by decide +kernel
theorem dX8_groupsTold_53 : decode cX8_groupsTold 53 = .ok (.iload 5, 2) := by decide +kernel
theorem dX8_groupsTold_55 : decode cX8_groupsTold 55 = .ok (.ifCond .eq 16, 3) := by decide +kernel
theorem dX8_groupsTold_58 : decode cX8_groupsTold 58 = .ok (.iload 5, 2) := by decide +kernel
theorem dX8_groupsTold_60 : decode cX8_groupsTold 60 = .ok (.iconst 1, 1) := by decide +kernel
theorem dX8_groupsTold_61 : decode cX8_groupsTold 61 = .ok (.if_icmp .eq 10, 3) := by decide +kernel
theorem dX8_groupsTold_64 : decode cX8_groupsTold 64 = .ok (.iload 5, 2) := by decide +kernel
theorem dX8_groupsTold_66 : decode cX8_groupsTold 66 = .ok (.bipush 15, 2) := by decide +kernel
theorem dX8_groupsTold_68 : decode cX8_groupsTold 68 = .ok (.if_icmp .ne 15, 3) := by decide +kernel
theorem dX8_groupsTold_71 : decode cX8_groupsTold 71 = .ok (.iload_n 3, 1) := by decide +kernel
theorem dX8_groupsTold_72 : decode cX8_groupsTold 72 = .ok (.iconst 4, 1) := by decide +kernel
theorem dX8_groupsTold_73 : decode cX8_groupsTold 73 = .ok (.if_icmp .ne 21, 3) := by decide +kernel
theorem dX8_groupsTold_76 : decode cX8_groupsTold 76 = .ok (.iload 4, 2) := by decide +kernel
theorem dX8_groupsTold_78 : decode cX8_groupsTold 78 = .ok (.iconst 4, 1) := by decide +kernel
theorem dX8_groupsTold_79 : decode cX8_groupsTold 79 = .ok (.ishr, 1) := by decide +kernel
theorem dX8_groupsTold_80 : decode cX8_groupsTold 80 = .ok (.ifCond .eq 14, 3) := by decide +kernel
theorem dX8_groupsTold_83 : decode cX8_groupsTold 83 = .ok (.aload_n 0, 1) := by decide +kernel
theorem dX8_groupsTold_84 : decode cX8_groupsTold 84 = .ok (.iconst 3, 1) := by decide +kernel
theorem dX8_groupsTold_85 : decode cX8_groupsTold 85 = .ok (.aload_n 0, 1) := by decide +kernel
theorem dX8_groupsTold_86 : decode cX8_groupsTold 86 = .ok (.getfield 89, 3) := by decide +kernel
theorem dX8_groupsTold_89 : decode cX8_groupsTold 89 = .ok (.iconst 1, 1) := by decide +kernel
theorem dX8_groupsTold_90 : decode cX8_groupsTold 90 = .ok (.isub, 1) := by decide +kernel
theorem dX8_groupsTold_91 : decode cX8_groupsTold 91 = .ok (.invokevirtual 95, 3) := by decide +kernel
theorem dX8_groupsTold_94 : decode cX8_groupsTold 94 = .ok (.iload_n 3, 1) := by decide +kernel
theorem dX8_groupsTold_95 : decode cX8_groupsTold 95 = .ok (.iconst 1, 1) := by decide +kernel
theorem dX8_groupsTold_96 : decode cX8_groupsTold 96 = .ok (.if_icmp .ne 11, 3) := by decide +kernel
theorem dX8_groupsTold_99 : decode cX8_groupsTold 99 = .ok (.aload_n 0, 1) := by decide +kernel
theorem dX8_groupsTold_100 : decode cX8_groupsTold 100 = .ok (.getfield 16, 3) := by decide +kernel
theorem dX8_groupsTold_103 : decode cX8_groupsTold 103 = .ok (.iconst 4, 1) := by decide +kernel
theorem dX8_groupsTold_104 : decode cX8_groupsTold 104 = .ok (.iload 5, 2) := by decide +kernel
theorem dX8_groupsTold_106 : decode cX8_groupsTold 106 = .ok (.iastore, 1) := by decide +kernel
theorem dX8_groupsTold_107 : decode cX8_groupsTold 107 = .ok (.iload 5, 2) := by decide +kernel
theorem dX8_groupsTold_109 : decode cX8_groupsTold 109 = .ok (.ifCond .eq 8, 3) := by decide +kernel
theorem dX8_groupsTold_112 : decode cX8_groupsTold 112 = .ok (.aload_n 0, 1) := by decide +kernel
theorem dX8_groupsTold_113 : decode cX8_groupsTold 113 = .ok (.iconst 1, 1) := by decide +kernel
theorem dX8_groupsTold_114 : decode cX8_groupsTold 114 = .ok (.putfield 123, 3) := by decide +kernel
theorem dX8_groupsTold_117 : decode cX8_groupsTold 117 = .ok (.iload 5, 2) := by decide +kernel
theorem dX8_groupsTold_119 : decode cX8_groupsTold 119 = .ok (.iconst 1, 1) := by decide +kernel
theorem dX8_groupsTold_120 : decode cX8_groupsTold 120 = .ok (.if_icmp .ne 22, 3) := by decide +kernel
theorem dX8_groupsTold_123 : decode cX8_groupsTold 123 = .ok (.iload_n 3, 1) := by decide +kernel
theorem dX8_groupsTold_124 : decode cX8_groupsTold 124 = .ok (.iconst 1, 1) := by decide +kernel
theorem dX8_groupsTold_125 : decode cX8_groupsTold 125 = .ok (.if_icmp .le 17, 3) := by decide +kernel
theorem dX8_groupsTold_128 : decode cX8_groupsTold 128 = .ok (.aload_n 0, 1) := by decide +kernel
theorem dX8_groupsTold_129 : decode cX8_groupsTold 129 = .ok (.getfield 113, 3) := by decide +kernel
theorem dX8_groupsTold_132 : decode cX8_groupsTold 132 = .ok (.ifCond .ne 10, 3) := by decide +kernel
theorem dX8_groupsTold_135 : decode cX8_groupsTold 135 = .ok (.aload_n 0, 1) := by decide +kernel
theorem dX8_groupsTold_136 : decode cX8_groupsTold 136 = .ok (.iload_n 3, 1) := by decide +kernel
theorem dX8_groupsTold_137 : decode cX8_groupsTold 137 = .ok (.iconst 1, 1) := by decide +kernel
theorem dX8_groupsTold_138 : decode cX8_groupsTold 138 = .ok (.iadd, 1) := by decide +kernel
theorem dX8_groupsTold_139 : decode cX8_groupsTold 139 = .ok (.putfield 113, 3) := by decide +kernel
theorem dX8_groupsTold_142 : decode cX8_groupsTold 142 = .ok (.iload 4, 2) := by decide +kernel
theorem dX8_groupsTold_144 : decode cX8_groupsTold 144 = .ok (.iconst 4, 1) := by decide +kernel
theorem dX8_groupsTold_145 : decode cX8_groupsTold 145 = .ok (.ishr, 1) := by decide +kernel
theorem dX8_groupsTold_146 : decode cX8_groupsTold 146 = .ok (.istore_n 2, 1) := by decide +kernel
theorem dX8_groupsTold_147 : decode cX8_groupsTold 147 = .ok (.iinc 3 1, 3) := by decide +kernel
theorem dX8_groupsTold_150 : decode cX8_groupsTold 150 = .ok (.goto (-146), 3) := by decide +kernel
theorem dX8_groupsTold_153 : decode cX8_groupsTold 153 = .ok (.return_, 1) := by decide +kernel
set_option maxRecDepth 100000 in
set_option maxHeartbeats 4000000 in
theorem c_X8_groupsTold_r {hp : List gA} {M : gMd} {y : Int32} (HM : gMod hp M) (hr : gRi M) (hy : gIr y 15) : gM yX8_groupsTold cX8_groupsTold 6 (none) 4 86 [.ref 122, .int y] (hp) (0) (0) (fun v h => v = none ∧ ∃ M', gMod h M' ∧ gFM hp h ∧ gRz 0 M M') := by
  refine gM_of (ls0 := [some (.ref 122), some (.int y), none, none, none, none]) (by decide +kernel) (Nat.le_of_ble_eq_true rfl) rfl fun X C E => ?_
  refine g_iload_n (q := 1) C dX8_groupsTold_0 rfl rfl ?_
  refine g_istore_n (q := 2) C dX8_groupsTold_1 (Nat.le_of_ble_eq_true rfl) (by simp only [gset]; rfl) rfl ?_
  refine g_iconst (v := 1) (q := 3) C dX8_groupsTold_2 (by decide) rfl ?_
  refine g_istore_n (q := 4) C dX8_groupsTold_3 (Nat.le_of_ble_eq_true rfl) (by simp only [gset]; rfl) rfl ?_
  obtain ⟨⟨z0, hz0, ez0, a0, ha0, ea0⟩, hb0⟩ := id hr
  have LL : ∀ d n : Nat, z0 + 1 ≤ a0 + n + d → ∀ (q gr : Int32) (x4 x5 : Option Value) (M1 : gMd) (hz : List gA), gMod hz M1 → gFM hp hz → gRz n M M1 → gIr q 15 → gG X 4 [some (.ref 122), some (.int y), some (.int q), some (.int gr), x4, x5] [] hz 0 0 := by
    intro d
    induction d with
    | zero =>
      intro n hd q gr x4 x5 M1 hz HZ frz RZ hq
      have hne : ¬ M1.f 22 = 0 := fun e => by
        obtain ⟨a', p1, p2, p3, p4⟩ := RZ.2.2.2 z0 a0 hz0 ez0 ha0 ea0
        have := p4 e
        omega
      refine g_aload_n (q := 5) C dX8_groupsTold_4 rfl rfl ?_
      refine g_getfield (v := .int ((M1.f 22))) (q := 8) C fX8_86 dX8_groupsTold_5 rfl HZ.1 rfl ?_
      refine g_if_ne_t (t := 153) C dX8_groupsTold_8 (by decide) hne ?_
      exact E.2.1 _ _ _ _ _ dX8_groupsTold_153 rfl (Nat.le_of_ble_eq_true rfl) (Nat.le_of_ble_eq_true rfl) ⟨rfl, _, HZ, frz, gRz.le RZ (by omega)⟩
    | succ d ih =>
      intro n hd q gr x4 x5 M1 hz HZ frz RZ hq
      refine g_aload_n (q := 5) C dX8_groupsTold_4 rfl rfl ?_
      refine g_getfield (v := .int ((M1.f 22))) (q := 8) C fX8_86 dX8_groupsTold_5 rfl HZ.1 rfl ?_
      refine g_if_ne (t := 153) (q := 11) C dX8_groupsTold_8 (by decide) rfl (fun c_8 => ?_) (fun c_8 => ?_)
      ·
        exact E.2.1 _ _ _ _ _ dX8_groupsTold_153 rfl (Nat.le_of_ble_eq_true rfl) (Nat.le_of_ble_eq_true rfl) ⟨rfl, _, HZ, frz, gRz.le RZ (by omega)⟩
      ·
        refine g_iload_n (q := 12) C dX8_groupsTold_11 rfl rfl ?_
        refine g_if_le (t := 153) (q := 15) C dX8_groupsTold_12 (by decide) rfl (fun c_12 => ?_) (fun c_12 => ?_)
        ·
          exact E.2.1 _ _ _ _ _ dX8_groupsTold_153 rfl (Nat.le_of_ble_eq_true rfl) (Nat.le_of_ble_eq_true rfl) ⟨rfl, _, HZ, frz, gRz.le RZ (by omega)⟩
        ·
          refine g_aload_n (q := 16) C dX8_groupsTold_15 rfl rfl ?_
          refine g_getfield (v := .ref 125) (q := 19) C fX8_16 dX8_groupsTold_16 rfl HZ.1 rfl ?_
          refine g_iconst (v := 5) (q := 20) C dX8_groupsTold_19 (by decide) rfl ?_
          refine g_dup2 (q := 21) C dX8_groupsTold_20 rfl rfl rfl ?_
          refine g_ialoadN (x := (M1.a 2 5)) (j := 5) (q := 22) C dX8_groupsTold_21 rfl (HZ.ar (i := 2) (n := 9) (by decide) rfl) (pk_in 5 9 (by decide)) (pk_cl 5) rfl ?_
          refine g_iconst (v := 1) (q := 23) C dX8_groupsTold_22 (by decide) rfl ?_
          refine g_iadd (q := 24) C dX8_groupsTold_23 rfl ?_
          refine g_iastoreN (j := 5) (q := 25) C dX8_groupsTold_24 rfl (HZ.ar (i := 2) (n := 9) (by decide) rfl) (pk_in 5 9 (by decide)) (pk_cl 5) ?_
          refine gMsto (i := 2) (j := 5) (x := ((M1.a 2 5) + 1)) HZ (by decide) rfl rfl fun h1 HL1 fr1 => ?_
          refine g_aload_n (q := 26) C dX8_groupsTold_25 rfl rfl ?_
          refine g_iload_n (q := 27) C dX8_groupsTold_26 rfl rfl ?_
          refine g_iload_n (q := 28) C dX8_groupsTold_27 rfl rfl ?_
          refine g_callVip (q := 31) (As := [.int gr, .int q]) C gyX8_groupTold gvX8_groupTold t_1230 (c_X8_groupTold_r (y := gr) (z := q) HL1 (hr.of (gRz.trans RZ (gRz.put (M := M1) (j := 5) (x := ((M1.a 2 5) + 1)) (by decide))))) dX8_groupsTold_28 rfl HL1.1 rfl rfl rfl (Nat.le_of_ble_eq_true rfl) (Nat.le_of_ble_eq_true rfl) (Nat.le_of_ble_eq_true rfl) (Nat.le_of_ble_eq_true rfl) (Nat.le_of_ble_eq_true rfl) rfl (fun x2 h2 z2 => ?_)
          obtain ⟨m2, N2, HN2, fn2, rn2, X2, hm2⟩ := z2
          have R2 := gRz.trans (gRz.trans RZ (gRz.put (M := M1) (j := 5) (x := ((M1.a 2 5) + 1)) (by decide))) rn2
          have hm := hm2 (gNz hq c_12)
          refine g_istore (q := 33) C dX8_groupsTold_31 (Nat.le_of_ble_eq_true rfl) (by simp only [gset]; rfl) rfl ?_
          refine g_aload_n (q := 34) C dX8_groupsTold_33 rfl rfl ?_
          refine g_getfield (v := .int ((N2.f 22))) (q := 37) C fX8_86 dX8_groupsTold_34 rfl HN2.1 rfl ?_
          refine g_if_ne (t := 45) (q := 40) C dX8_groupsTold_37 (by decide) rfl (fun c_37 => ?_) (fun c_37 => ?_)
          ·
            exact E.2.1 _ _ _ _ _ dX8_groupsTold_45 rfl (Nat.le_of_ble_eq_true rfl) (Nat.le_of_ble_eq_true rfl) ⟨rfl, _, HN2, (gFM.trans (gFM.trans frz fr1) fn2), gRz.le R2 (by omega)⟩
          ·
            refine g_iload (q := 42) C dX8_groupsTold_40 rfl rfl ?_
            refine g_if_ge (t := 46) (q := 45) C dX8_groupsTold_42 (by decide) rfl (fun c_42 => ?_) (fun c_42 => ?_)
            ·
              have hx : gIr x2 255 := X2.resolve_left (fun e => by rw [e] at c_42; exact absurd c_42 (by decide))
              have J142 : ∀ (n1 : Nat) (M2 : gMd) (t5 : Int32) (h0z : List gA), z0 + 1 ≤ a0 + n1 + d → gMod h0z M2 → gFM hp h0z → gRz n1 M M2 → gG X 142 [some (.ref 122), some (.int y), some (.int q), some (.int gr), some (.int x2), some (.int t5)] [] h0z 0 0 := by
                intro n1 M2 t5 h0z hd1 H0 fr0 R0
                refine g_iload (q := 144) C dX8_groupsTold_142 rfl rfl ?_
                refine g_iconst (v := 4) (q := 145) C dX8_groupsTold_144 (by decide) rfl ?_
                refine g_ishr (q := 146) C dX8_groupsTold_145 rfl ?_
                refine g_istore_n (q := 147) C dX8_groupsTold_146 (Nat.le_of_ble_eq_true rfl) (by simp only [gset]; rfl) rfl ?_
                refine g_iinc (v := (gr + Int32.ofInt 1)) (q := 150) C dX8_groupsTold_147 rfl rfl (by simp only [gset]; rfl) rfl ?_
                refine g_goto (q := 4) C dX8_groupsTold_150 (by decide) ?_
                exact ih _ (by omega) _ _ _ _ _ _ H0 fr0 R0 (gSh4 hx)
              have J117 : ∀ (n1 : Nat) (M2 : gMd) (t5 : Int32) (h0z : List gA), z0 + 1 ≤ a0 + n1 + d → gMod h0z M2 → gFM hp h0z → gRz n1 M M2 → gG X 117 [some (.ref 122), some (.int y), some (.int q), some (.int gr), some (.int x2), some (.int t5)] [] h0z 0 0 := by
                intro n1 M2 t5 h0z hd1 H0 fr0 R0
                refine g_iload (q := 119) C dX8_groupsTold_117 rfl rfl ?_
                refine g_iconst (v := 1) (q := 120) C dX8_groupsTold_119 (by decide) rfl ?_
                refine g_icmp_ne (t := 142) (q := 123) C dX8_groupsTold_120 (by decide) rfl (fun c_120 => ?_) (fun c_120 => ?_)
                ·
                  exact J142 _ _ _ _ (by omega) H0 fr0 R0
                ·
                  refine g_iload_n (q := 124) C dX8_groupsTold_123 rfl rfl ?_
                  refine g_iconst (v := 1) (q := 125) C dX8_groupsTold_124 (by decide) rfl ?_
                  refine g_icmp_le (t := 142) (q := 128) C dX8_groupsTold_125 (by decide) rfl (fun c_125 => ?_) (fun c_125 => ?_)
                  ·
                    exact J142 _ _ _ _ (by omega) H0 fr0 R0
                  ·
                    refine g_aload_n (q := 129) C dX8_groupsTold_128 rfl rfl ?_
                    refine g_getfield (v := .int ((M2.f 23))) (q := 132) C fX8_113 dX8_groupsTold_129 rfl H0.1 rfl ?_
                    refine g_if_ne (t := 142) (q := 135) C dX8_groupsTold_132 (by decide) rfl (fun c_132 => ?_) (fun c_132 => ?_)
                    ·
                      exact J142 _ _ _ _ (by omega) H0 fr0 R0
                    ·
                      refine g_aload_n (q := 136) C dX8_groupsTold_135 rfl rfl ?_
                      refine g_iload_n (q := 137) C dX8_groupsTold_136 rfl rfl ?_
                      refine g_iconst (v := 1) (q := 138) C dX8_groupsTold_137 (by decide) rfl ?_
                      refine g_iadd (q := 139) C dX8_groupsTold_138 rfl ?_
                      refine g_putfield (q := 142) C fX8_113 dX8_groupsTold_139 rfl H0.1 (Nat.le_of_ble_eq_true rfl) (Or.inl rfl) rfl rfl (by intro z h; cases h) ?_
                      refine gMput (j := 23) (x := (gr + 1)) H0 rfl fun h3 HL3 fr3 => ?_
                      exact J142 _ _ _ _ (by omega) HL3 (gFM.trans fr0 fr3) (gRz.trans R0 (gRz.set (M := M2) (j := 23) (x := (gr + 1)) (by decide)))
              have J107 : ∀ (n1 : Nat) (M2 : gMd) (t5 : Int32) (h0z : List gA), z0 + 1 ≤ a0 + n1 + d → gMod h0z M2 → gFM hp h0z → gRz n1 M M2 → gG X 107 [some (.ref 122), some (.int y), some (.int q), some (.int gr), some (.int x2), some (.int t5)] [] h0z 0 0 := by
                intro n1 M2 t5 h0z hd1 H0 fr0 R0
                refine g_iload (q := 109) C dX8_groupsTold_107 rfl rfl ?_
                refine g_if_eq (t := 117) (q := 112) C dX8_groupsTold_109 (by decide) rfl (fun c_109 => ?_) (fun c_109 => ?_)
                ·
                  exact J117 _ _ _ _ (by omega) H0 fr0 R0
                ·
                  refine g_aload_n (q := 113) C dX8_groupsTold_112 rfl rfl ?_
                  refine g_iconst (v := 1) (q := 114) C dX8_groupsTold_113 (by decide) rfl ?_
                  refine g_putfield (q := 117) C fX8_123 dX8_groupsTold_114 rfl H0.1 (Nat.le_of_ble_eq_true rfl) (Or.inl rfl) rfl rfl (by intro z h; cases h) ?_
                  refine gMput (j := 24) (x := 1) H0 rfl fun h4 HL4 fr4 => ?_
                  exact J117 _ _ _ _ (by omega) HL4 (gFM.trans fr0 fr4) (gRz.trans R0 (gRz.set (M := M2) (j := 24) (x := 1) (by decide)))
              have J94 : ∀ (n1 : Nat) (M2 : gMd) (t5 : Int32) (h0z : List gA), z0 + 1 ≤ a0 + n1 + d → gMod h0z M2 → gFM hp h0z → gRz n1 M M2 → gG X 94 [some (.ref 122), some (.int y), some (.int q), some (.int gr), some (.int x2), some (.int t5)] [] h0z 0 0 := by
                intro n1 M2 t5 h0z hd1 H0 fr0 R0
                refine g_iload_n (q := 95) C dX8_groupsTold_94 rfl rfl ?_
                refine g_iconst (v := 1) (q := 96) C dX8_groupsTold_95 (by decide) rfl ?_
                refine g_icmp_ne (t := 107) (q := 99) C dX8_groupsTold_96 (by decide) rfl (fun c_96 => ?_) (fun c_96 => ?_)
                ·
                  exact J107 _ _ _ _ (by omega) H0 fr0 R0
                ·
                  refine g_aload_n (q := 100) C dX8_groupsTold_99 rfl rfl ?_
                  refine g_getfield (v := .ref 125) (q := 103) C fX8_16 dX8_groupsTold_100 rfl H0.1 rfl ?_
                  refine g_iconst (v := 4) (q := 104) C dX8_groupsTold_103 (by decide) rfl ?_
                  refine g_iload (q := 106) C dX8_groupsTold_104 rfl rfl ?_
                  refine g_iastoreN (j := 4) (q := 107) C dX8_groupsTold_106 rfl (H0.ar (i := 2) (n := 9) (by decide) rfl) (pk_in 4 9 (by decide)) (pk_cl 4) ?_
                  refine gMsto (i := 2) (j := 4) (x := t5) H0 (by decide) rfl rfl fun h5 HL5 fr5 => ?_
                  exact J107 _ _ _ _ (by omega) HL5 (gFM.trans fr0 fr5) (gRz.trans R0 (gRz.put (M := M2) (j := 4) (x := t5) (by decide)))
              refine g_iload (q := 48) C dX8_groupsTold_46 rfl rfl ?_
              refine g_bipush (v := 15) (q := 50) C dX8_groupsTold_48 (by decide) rfl ?_
              refine g_iand (q := 51) C dX8_groupsTold_50 rfl ?_
              refine g_istore (q := 53) C dX8_groupsTold_51 (Nat.le_of_ble_eq_true rfl) (by simp only [gset]; rfl) rfl ?_
              refine g_iload (q := 55) C dX8_groupsTold_53 rfl rfl ?_
              refine g_if_eq (t := 71) (q := 58) C dX8_groupsTold_55 (by decide) rfl (fun c_55 => ?_) (fun c_55 => ?_)
              ·
                refine g_iload_n (q := 72) C dX8_groupsTold_71 rfl rfl ?_
                refine g_iconst (v := 4) (q := 73) C dX8_groupsTold_72 (by decide) rfl ?_
                refine g_icmp_ne (t := 94) (q := 76) C dX8_groupsTold_73 (by decide) rfl (fun c_73 => ?_) (fun c_73 => ?_)
                ·
                  exact J94 _ _ _ _ (by omega) HN2 (gFM.trans (gFM.trans frz fr1) fn2) R2
                ·
                  refine g_iload (q := 78) C dX8_groupsTold_76 rfl rfl ?_
                  refine g_iconst (v := 4) (q := 79) C dX8_groupsTold_78 (by decide) rfl ?_
                  refine g_ishr (q := 80) C dX8_groupsTold_79 rfl ?_
                  refine g_if_eq (t := 94) (q := 83) C dX8_groupsTold_80 (by decide) rfl (fun c_80 => ?_) (fun c_80 => ?_)
                  ·
                    exact J94 _ _ _ _ (by omega) HN2 (gFM.trans (gFM.trans frz fr1) fn2) R2
                  ·
                    refine g_aload_n (q := 84) C dX8_groupsTold_83 rfl rfl ?_
                    refine g_iconst (v := 3) (q := 85) C dX8_groupsTold_84 (by decide) rfl ?_
                    refine g_aload_n (q := 86) C dX8_groupsTold_85 rfl rfl ?_
                    refine g_getfield (v := .int ((N2.f 21))) (q := 89) C fX8_89 dX8_groupsTold_86 rfl HN2.1 rfl ?_
                    refine g_iconst (v := 1) (q := 90) C dX8_groupsTold_89 (by decide) rfl ?_
                    refine g_isub (q := 91) C dX8_groupsTold_90 rfl ?_
                    refine g_callVvp (q := 94) (As := [.int 3, .int (((N2.f 21) - 1))]) C gyX8_wrong gvX8_wrong t_1222 (c_X8_wrong_m (y := 3) (z := ((N2.f 21) - 1)) HN2) dX8_groupsTold_91 rfl HN2.1 rfl rfl rfl (Nat.le_of_ble_eq_true rfl) (Nat.le_of_ble_eq_true rfl) (Nat.le_of_ble_eq_true rfl) (Nat.le_of_ble_eq_true rfl) (Nat.le_of_ble_eq_true rfl) rfl (fun h6 z6 => ?_)
                    obtain ⟨HN6, fn6⟩ := z6
                    have R6 := gRz.trans R2 (gRz.wr (y := 3) (z := ((N2.f 21) - 1)))
                    exact J94 _ _ _ _ (by omega) HN6 (gFM.trans (gFM.trans (gFM.trans frz fr1) fn2) fn6) R6
              ·
                refine g_iload (q := 60) C dX8_groupsTold_58 rfl rfl ?_
                refine g_iconst (v := 1) (q := 61) C dX8_groupsTold_60 (by decide) rfl ?_
                refine g_icmp_eq (t := 71) (q := 64) C dX8_groupsTold_61 (by decide) rfl (fun c_61 => ?_) (fun c_61 => ?_)
                ·
                  refine g_iload_n (q := 72) C dX8_groupsTold_71 rfl rfl ?_
                  refine g_iconst (v := 4) (q := 73) C dX8_groupsTold_72 (by decide) rfl ?_
                  refine g_icmp_ne (t := 94) (q := 76) C dX8_groupsTold_73 (by decide) rfl (fun c_73 => ?_) (fun c_73 => ?_)
                  ·
                    exact J94 _ _ _ _ (by omega) HN2 (gFM.trans (gFM.trans frz fr1) fn2) R2
                  ·
                    refine g_iload (q := 78) C dX8_groupsTold_76 rfl rfl ?_
                    refine g_iconst (v := 4) (q := 79) C dX8_groupsTold_78 (by decide) rfl ?_
                    refine g_ishr (q := 80) C dX8_groupsTold_79 rfl ?_
                    refine g_if_eq (t := 94) (q := 83) C dX8_groupsTold_80 (by decide) rfl (fun c_80 => ?_) (fun c_80 => ?_)
                    ·
                      exact J94 _ _ _ _ (by omega) HN2 (gFM.trans (gFM.trans frz fr1) fn2) R2
                    ·
                      refine g_aload_n (q := 84) C dX8_groupsTold_83 rfl rfl ?_
                      refine g_iconst (v := 3) (q := 85) C dX8_groupsTold_84 (by decide) rfl ?_
                      refine g_aload_n (q := 86) C dX8_groupsTold_85 rfl rfl ?_
                      refine g_getfield (v := .int ((N2.f 21))) (q := 89) C fX8_89 dX8_groupsTold_86 rfl HN2.1 rfl ?_
                      refine g_iconst (v := 1) (q := 90) C dX8_groupsTold_89 (by decide) rfl ?_
                      refine g_isub (q := 91) C dX8_groupsTold_90 rfl ?_
                      refine g_callVvp (q := 94) (As := [.int 3, .int (((N2.f 21) - 1))]) C gyX8_wrong gvX8_wrong t_1222 (c_X8_wrong_m (y := 3) (z := ((N2.f 21) - 1)) HN2) dX8_groupsTold_91 rfl HN2.1 rfl rfl rfl (Nat.le_of_ble_eq_true rfl) (Nat.le_of_ble_eq_true rfl) (Nat.le_of_ble_eq_true rfl) (Nat.le_of_ble_eq_true rfl) (Nat.le_of_ble_eq_true rfl) rfl (fun h7 z7 => ?_)
                      obtain ⟨HN7, fn7⟩ := z7
                      have R7 := gRz.trans R2 (gRz.wr (y := 3) (z := ((N2.f 21) - 1)))
                      exact J94 _ _ _ _ (by omega) HN7 (gFM.trans (gFM.trans (gFM.trans frz fr1) fn2) fn7) R7
                ·
                  refine g_iload (q := 66) C dX8_groupsTold_64 rfl rfl ?_
                  refine g_bipush (v := 15) (q := 68) C dX8_groupsTold_66 (by decide) rfl ?_
                  refine g_icmp_ne (t := 83) (q := 71) C dX8_groupsTold_68 (by decide) rfl (fun c_68 => ?_) (fun c_68 => ?_)
                  ·
                    refine g_aload_n (q := 84) C dX8_groupsTold_83 rfl rfl ?_
                    refine g_iconst (v := 3) (q := 85) C dX8_groupsTold_84 (by decide) rfl ?_
                    refine g_aload_n (q := 86) C dX8_groupsTold_85 rfl rfl ?_
                    refine g_getfield (v := .int ((N2.f 21))) (q := 89) C fX8_89 dX8_groupsTold_86 rfl HN2.1 rfl ?_
                    refine g_iconst (v := 1) (q := 90) C dX8_groupsTold_89 (by decide) rfl ?_
                    refine g_isub (q := 91) C dX8_groupsTold_90 rfl ?_
                    refine g_callVvp (q := 94) (As := [.int 3, .int (((N2.f 21) - 1))]) C gyX8_wrong gvX8_wrong t_1222 (c_X8_wrong_m (y := 3) (z := ((N2.f 21) - 1)) HN2) dX8_groupsTold_91 rfl HN2.1 rfl rfl rfl (Nat.le_of_ble_eq_true rfl) (Nat.le_of_ble_eq_true rfl) (Nat.le_of_ble_eq_true rfl) (Nat.le_of_ble_eq_true rfl) (Nat.le_of_ble_eq_true rfl) rfl (fun h8 z8 => ?_)
                    obtain ⟨HN8, fn8⟩ := z8
                    have R8 := gRz.trans R2 (gRz.wr (y := 3) (z := ((N2.f 21) - 1)))
                    exact J94 _ _ _ _ (by omega) HN8 (gFM.trans (gFM.trans (gFM.trans frz fr1) fn2) fn8) R8
                  ·
                    refine g_iload_n (q := 72) C dX8_groupsTold_71 rfl rfl ?_
                    refine g_iconst (v := 4) (q := 73) C dX8_groupsTold_72 (by decide) rfl ?_
                    refine g_icmp_ne (t := 94) (q := 76) C dX8_groupsTold_73 (by decide) rfl (fun c_73 => ?_) (fun c_73 => ?_)
                    ·
                      exact J94 _ _ _ _ (by omega) HN2 (gFM.trans (gFM.trans frz fr1) fn2) R2
                    ·
                      refine g_iload (q := 78) C dX8_groupsTold_76 rfl rfl ?_
                      refine g_iconst (v := 4) (q := 79) C dX8_groupsTold_78 (by decide) rfl ?_
                      refine g_ishr (q := 80) C dX8_groupsTold_79 rfl ?_
                      refine g_if_eq (t := 94) (q := 83) C dX8_groupsTold_80 (by decide) rfl (fun c_80 => ?_) (fun c_80 => ?_)
                      ·
                        exact J94 _ _ _ _ (by omega) HN2 (gFM.trans (gFM.trans frz fr1) fn2) R2
                      ·
                        refine g_aload_n (q := 84) C dX8_groupsTold_83 rfl rfl ?_
                        refine g_iconst (v := 3) (q := 85) C dX8_groupsTold_84 (by decide) rfl ?_
                        refine g_aload_n (q := 86) C dX8_groupsTold_85 rfl rfl ?_
                        refine g_getfield (v := .int ((N2.f 21))) (q := 89) C fX8_89 dX8_groupsTold_86 rfl HN2.1 rfl ?_
                        refine g_iconst (v := 1) (q := 90) C dX8_groupsTold_89 (by decide) rfl ?_
                        refine g_isub (q := 91) C dX8_groupsTold_90 rfl ?_
                        refine g_callVvp (q := 94) (As := [.int 3, .int (((N2.f 21) - 1))]) C gyX8_wrong gvX8_wrong t_1222 (c_X8_wrong_m (y := 3) (z := ((N2.f 21) - 1)) HN2) dX8_groupsTold_91 rfl HN2.1 rfl rfl rfl (Nat.le_of_ble_eq_true rfl) (Nat.le_of_ble_eq_true rfl) (Nat.le_of_ble_eq_true rfl) (Nat.le_of_ble_eq_true rfl) (Nat.le_of_ble_eq_true rfl) rfl (fun h9 z9 => ?_)
                        obtain ⟨HN9, fn9⟩ := z9
                        have R9 := gRz.trans R2 (gRz.wr (y := 3) (z := ((N2.f 21) - 1)))
                        exact J94 _ _ _ _ (by omega) HN9 (gFM.trans (gFM.trans (gFM.trans frz fr1) fn2) fn9) R9
              
            ·
              exact E.2.1 _ _ _ _ _ dX8_groupsTold_45 rfl (Nat.le_of_ble_eq_true rfl) (Nat.le_of_ble_eq_true rfl) ⟨rfl, _, HN2, (gFM.trans (gFM.trans frz fr1) fn2), gRz.le R2 (by omega)⟩
  exact LL (z0 + 1) 0 (by omega) _ _ _ _ M hp HM gFM.rf gRz.rf hy
  
