/-! THE LINK ITSELF BY SHAPE (by program: wip/p2t/m_tcard.py, gen6.py) -/
theorem dX7_byteOf_0 : decode cX7_byteOf 0 = .ok (.iload_n 1, 1) := by decide +kernel
theorem dX7_byteOf_1 : decode cX7_byteOf 1 = .ok (.ifCond .lt 14, 3) := by decide +kernel
theorem dX7_byteOf_4 : decode cX7_byteOf 4 = .ok (.iload_n 1, 1) := by decide +kernel
theorem dX7_byteOf_5 : decode cX7_byteOf 5 = .ok (.aload_n 0, 1) := by decide +kernel
theorem dX7_byteOf_6 : decode cX7_byteOf 6 = .ok (.getfield 21, 3) := by decide +kernel
theorem dX7_byteOf_9 : decode cX7_byteOf 9 = .ok (.invokevirtual 162, 3) := by decide +kernel
theorem dX7_byteOf_12 : decode cX7_byteOf 12 = .ok (.if_icmp .lt 5, 3) := by decide +kernel
theorem dX7_byteOf_15 : decode cX7_byteOf 15 = .ok (.iconst (-1), 1) := by decide +kernel
theorem dX7_byteOf_16 : decode cX7_byteOf 16 = .ok (.ireturn, 1) := by decide +kernel
theorem dX7_byteOf_17 : decode cX7_byteOf 17 = .ok (.aload_n 0, 1) := by decide +kernel
theorem dX7_byteOf_18 : decode cX7_byteOf 18 = .ok (.getfield 21, 3) := by decide +kernel
theorem dX7_byteOf_21 : decode cX7_byteOf 21 = .ok (.iload_n 1, 1) := by decide +kernel
theorem dX7_byteOf_22 : decode cX7_byteOf 22 = .ok (.iload_n 2, 1) := by decide +kernel
theorem dX7_byteOf_23 : decode cX7_byteOf 23 = .ok (.invokevirtual 171, 3) := by decide +kernel
theorem dX7_byteOf_26 : decode cX7_byteOf 26 = .ok (.ireturn, 1) := by decide +kernel
set_option maxRecDepth 100000 in
set_option maxHeartbeats 4000000 in
theorem tX7_byteOf {T : tyT} {R : Nat} {J : Nat → Prop} {Bc Bs : Nat} {M : gMd} {z : Nat → Nat} {hp : List gA} {a0 : Int32} {a1 : Int32}  (H : tyS T R J Bc Bs M z hp)  : gM yX7_byteOf cX7_byteOf 3 ((some .int)) 2 45 [.ref 0, .int a0, .int a1] (hp) (0) (0) (fun v h => ∃ x, v = some (.int x) ∧ tyS T R J Bc Bs M z h) := by
  refine gM_of (ls0 := [some (.ref 0), some (.int a0), some (.int a1)]) (by decide +kernel) (Nat.le_of_ble_eq_true rfl) rfl fun X C E => ?_
  have J_15 : ∀ (y15_1 y15_2 : Int32) (hJ15 : List gA), tyS T R J Bc Bs M z hJ15 → gG X 15 [some (.ref 0), some (.int y15_1), some (.int y15_2)] [] hJ15 0 0 := by
    intro y15_1 y15_2 hJ15 HJ15
    refine g_iconst (v := (-1)) (q := 16) C dX7_byteOf_15 (by decide) rfl ?_
    exact E.1 _ _ _ _ _ _ _ dX7_byteOf_16 rfl rfl (Nat.le_of_ble_eq_true rfl) (Nat.le_of_ble_eq_true rfl) ⟨_, rfl, HJ15⟩
  refine g_iload_n (q := 1) C dX7_byteOf_0 rfl rfl ?_
  refine g_if_lt (t := 15) (q := 4) C dX7_byteOf_1 (by decide) rfl (fun c_1 => ?_) (fun c_1 => ?_)
  ·
    exact J_15 _ _ _  H
  ·
    refine g_iload_n (q := 5) C dX7_byteOf_4 rfl rfl ?_
    refine g_aload_n (q := 6) C dX7_byteOf_5 rfl rfl ?_
    obtain ⟨x6_1, q4_1, q5_1, o1, e1_0, e1_1, e1_2⟩ := tyG7 H (rfl : tyK 0 = (0, 0))
    refine g_getfield (v := .ref 3) (q := 9) C fX7_21 dX7_byteOf_6 rfl o1 rfl ?_
    obtain ⟨x8_2, o2⟩ := tyG1 H (rfl : tyK 3 = (3, 0))
    refine g_callVip (q := 12) (As := []) C gyX1_kept gvX1_kept t_927 (tX1_kept H) dX7_byteOf_9 rfl o2 rfl rfl rfl (Nat.le_of_ble_eq_true rfl) (Nat.le_of_ble_eq_true rfl) (Nat.le_of_ble_eq_true rfl) (Nat.le_of_ble_eq_true rfl) (Nat.le_of_ble_eq_true rfl) rfl (fun x3 h3 q3 => ?_)
    have H3 := q3
    refine g_icmp_lt (t := 17) (q := 15) C dX7_byteOf_12 (by decide) rfl (fun c_12 => ?_) (fun c_12 => ?_)
    ·
      refine g_aload_n (q := 18) C dX7_byteOf_17 rfl rfl ?_
      obtain ⟨x6_4, q4_4, q5_4, o4, e4_0, e4_1, e4_2⟩ := tyG7 H3 (rfl : tyK 0 = (0, 0))
      refine g_getfield (v := .ref 3) (q := 21) C fX7_21 dX7_byteOf_18 rfl o4 rfl ?_
      refine g_iload_n (q := 22) C dX7_byteOf_21 rfl rfl ?_
      refine g_iload_n (q := 23) C dX7_byteOf_22 rfl rfl ?_
      obtain ⟨x8_5, o5⟩ := tyG1 H3 (rfl : tyK 3 = (3, 0))
      refine g_callVip (q := 26) (As := [.int a0, .int a1]) C gyX1_byteAt gvX1_byteAt t_931 (tX1_byteAt H3) dX7_byteOf_23 rfl o5 rfl rfl rfl (Nat.le_of_ble_eq_true rfl) (Nat.le_of_ble_eq_true rfl) (Nat.le_of_ble_eq_true rfl) (Nat.le_of_ble_eq_true rfl) (Nat.le_of_ble_eq_true rfl) rfl (fun x6 h6 q6 => ?_)
      have H6 := q6
      exact E.1 _ _ _ _ _ _ _ dX7_byteOf_26 rfl rfl (Nat.le_of_ble_eq_true rfl) (Nat.le_of_ble_eq_true rfl) ⟨_, rfl, H6⟩
    ·
      exact J_15 _ _ _  H3
theorem dX7_count_0 : decode cX7_count 0 = .ok (.iload_n 1, 1) := by decide +kernel
theorem dX7_count_1 : decode cX7_count 1 = .ok (.tableswitch 159 0 10 #[59, 70, 81, 92, 100, 108, 116, 127, 135, 143, 151], 59) := by decide +kernel
theorem dX7_count_60 : decode cX7_count 60 = .ok (.aload_n 0, 1) := by decide +kernel
theorem dX7_count_61 : decode cX7_count 61 = .ok (.getfield 30, 3) := by decide +kernel
theorem dX7_count_64 : decode cX7_count 64 = .ok (.getfield 114, 3) := by decide +kernel
theorem dX7_count_67 : decode cX7_count 67 = .ok (.getfield 181, 3) := by decide +kernel
theorem dX7_count_70 : decode cX7_count 70 = .ok (.ireturn, 1) := by decide +kernel
theorem dX7_count_71 : decode cX7_count 71 = .ok (.aload_n 0, 1) := by decide +kernel
theorem dX7_count_72 : decode cX7_count 72 = .ok (.getfield 30, 3) := by decide +kernel
theorem dX7_count_75 : decode cX7_count 75 = .ok (.getfield 114, 3) := by decide +kernel
theorem dX7_count_78 : decode cX7_count 78 = .ok (.getfield 194, 3) := by decide +kernel
theorem dX7_count_81 : decode cX7_count 81 = .ok (.ireturn, 1) := by decide +kernel
theorem dX7_count_82 : decode cX7_count 82 = .ok (.aload_n 0, 1) := by decide +kernel
theorem dX7_count_83 : decode cX7_count 83 = .ok (.getfield 30, 3) := by decide +kernel
theorem dX7_count_86 : decode cX7_count 86 = .ok (.getfield 114, 3) := by decide +kernel
theorem dX7_count_89 : decode cX7_count 89 = .ok (.invokevirtual 127, 3) := by decide +kernel
theorem dX7_count_92 : decode cX7_count 92 = .ok (.ireturn, 1) := by decide +kernel
theorem dX7_count_93 : decode cX7_count 93 = .ok (.aload_n 0, 1) := by decide +kernel
theorem dX7_count_94 : decode cX7_count 94 = .ok (.getfield 30, 3) := by decide +kernel
theorem dX7_count_97 : decode cX7_count 97 = .ok (.getfield 197, 3) := by decide +kernel
theorem dX7_count_100 : decode cX7_count 100 = .ok (.ireturn, 1) := by decide +kernel
theorem dX7_count_101 : decode cX7_count 101 = .ok (.aload_n 0, 1) := by decide +kernel
theorem dX7_count_102 : decode cX7_count 102 = .ok (.getfield 21, 3) := by decide +kernel
theorem dX7_count_105 : decode cX7_count 105 = .ok (.invokevirtual 200, 3) := by decide +kernel
theorem dX7_count_108 : decode cX7_count 108 = .ok (.ireturn, 1) := by decide +kernel
theorem dX7_count_109 : decode cX7_count 109 = .ok (.aload_n 0, 1) := by decide +kernel
theorem dX7_count_110 : decode cX7_count 110 = .ok (.getfield 21, 3) := by decide +kernel
theorem dX7_count_113 : decode cX7_count 113 = .ok (.invokevirtual 162, 3) := by decide +kernel
theorem dX7_count_116 : decode cX7_count 116 = .ok (.ireturn, 1) := by decide +kernel
theorem dX7_count_117 : decode cX7_count 117 = .ok (.aload_n 0, 1) := by decide +kernel
theorem dX7_count_118 : decode cX7_count 118 = .ok (.getfield 30, 3) := by decide +kernel
theorem dX7_count_121 : decode cX7_count 121 = .ok (.getfield 114, 3) := by decide +kernel
theorem dX7_count_124 : decode cX7_count 124 = .ok (.getfield 130, 3) := by decide +kernel
theorem dX7_count_127 : decode cX7_count 127 = .ok (.ireturn, 1) := by decide +kernel
theorem dX7_count_128 : decode cX7_count 128 = .ok (.aload_n 0, 1) := by decide +kernel
theorem dX7_count_129 : decode cX7_count 129 = .ok (.getfield 30, 3) := by decide +kernel
theorem dX7_count_132 : decode cX7_count 132 = .ok (.getfield 203, 3) := by decide +kernel
theorem dX7_count_135 : decode cX7_count 135 = .ok (.ireturn, 1) := by decide +kernel
theorem dX7_count_136 : decode cX7_count 136 = .ok (.aload_n 0, 1) := by decide +kernel
theorem dX7_count_137 : decode cX7_count 137 = .ok (.getfield 30, 3) := by decide +kernel
theorem dX7_count_140 : decode cX7_count 140 = .ok (.getfield 206, 3) := by decide +kernel
theorem dX7_count_143 : decode cX7_count 143 = .ok (.ireturn, 1) := by decide +kernel
theorem dX7_count_144 : decode cX7_count 144 = .ok (.aload_n 0, 1) := by decide +kernel
theorem dX7_count_145 : decode cX7_count 145 = .ok (.getfield 30, 3) := by decide +kernel
theorem dX7_count_148 : decode cX7_count 148 = .ok (.getfield 209, 3) := by decide +kernel
theorem dX7_count_151 : decode cX7_count 151 = .ok (.ireturn, 1) := by decide +kernel
theorem dX7_count_152 : decode cX7_count 152 = .ok (.aload_n 0, 1) := by decide +kernel
theorem dX7_count_153 : decode cX7_count 153 = .ok (.getfield 14, 3) := by decide +kernel
theorem dX7_count_156 : decode cX7_count 156 = .ok (.invokevirtual 55, 3) := by decide +kernel
theorem dX7_count_159 : decode cX7_count 159 = .ok (.ireturn, 1) := by decide +kernel
theorem dX7_count_160 : decode cX7_count 160 = .ok (.iconst (-1), 1) := by decide +kernel
theorem dX7_count_161 : decode cX7_count 161 = .ok (.ireturn, 1) := by decide +kernel
set_option maxRecDepth 100000 in
set_option maxHeartbeats 4000000 in
theorem tX7_count {T : tyT} {R : Nat} {J : Nat → Prop} {Bc Bs : Nat} {M : gMd} {z : Nat → Nat} {hp : List gA} {a0 : Int32}  (H : tyS T R J Bc Bs M z hp)  : gM yX7_count cX7_count 2 ((some .int)) 2 40 [.ref 0, .int a0] (hp) (0) (0) (fun v h => ∃ x, v = some (.int x) ∧ tyS T R J Bc Bs M z h) := by
  refine gM_of (ls0 := [some (.ref 0), some (.int a0)]) (by decide +kernel) (Nat.le_of_ble_eq_true rfl) rfl fun X C E => ?_
  refine g_iload_n (q := 1) C dX7_count_0 rfl rfl ?_
  -- switch
  by_cases c_1_0 : a0 = 0
  · subst c_1_0
    refine g_tableIn (off := 59) (t := 60) C dX7_count_1 (by decide) (by decide) (by decide) (by decide) ?_
    refine g_aload_n (q := 61) C dX7_count_60 rfl rfl ?_
    obtain ⟨x6_1, q4_1, q5_1, o1, e1_0, e1_1, e1_2⟩ := tyG7 H (rfl : tyK 0 = (0, 0))
    refine g_getfield (v := .ref 20) (q := 64) C fX7_30 dX7_count_61 rfl o1 rfl ?_
    obtain ⟨x3_2, x4_2, x5_2, x6_2, x7_2, x11_2, x12_2, x13_2, x14_2, x15_2, x16_2, x17_2, jv_2, o2, e2_0, e2_1, e2_2, e2_3⟩ := tyG2 H (rfl : tyK 20 = (7, 0))
    refine g_getfieldW (v := .ref ((20 + 15))) (q := 67) C fX7_114 dX7_count_64 rfl o2 rfl ?_
    obtain ⟨x0_3, x1_3, x2_3, x6_3, x7_3, x8_3, x9_3, o3, e3_0⟩ := tyG6 H (tyF2_2 (rfl : tyK 20 = (7, 0)))
    refine g_getfield (v := .int x1_3) (q := 70) C fX7_181 dX7_count_67 rfl o3 rfl ?_
    exact E.1 _ _ _ _ _ _ _ dX7_count_70 rfl rfl (Nat.le_of_ble_eq_true rfl) (Nat.le_of_ble_eq_true rfl) ⟨_, rfl, H⟩
  by_cases c_1_1 : a0 = 1
  · subst c_1_1
    refine g_tableIn (off := 70) (t := 71) C dX7_count_1 (by decide) (by decide) (by decide) (by decide) ?_
    refine g_aload_n (q := 72) C dX7_count_71 rfl rfl ?_
    obtain ⟨x6_4, q4_4, q5_4, o4, e4_0, e4_1, e4_2⟩ := tyG7 H (rfl : tyK 0 = (0, 0))
    refine g_getfield (v := .ref 20) (q := 75) C fX7_30 dX7_count_72 rfl o4 rfl ?_
    obtain ⟨x3_5, x4_5, x5_5, x6_5, x7_5, x11_5, x12_5, x13_5, x14_5, x15_5, x16_5, x17_5, jv_5, o5, e5_0, e5_1, e5_2, e5_3⟩ := tyG2 H (rfl : tyK 20 = (7, 0))
    refine g_getfieldW (v := .ref ((20 + 15))) (q := 78) C fX7_114 dX7_count_75 rfl o5 rfl ?_
    obtain ⟨x0_6, x1_6, x2_6, x6_6, x7_6, x8_6, x9_6, o6, e6_0⟩ := tyG6 H (tyF2_2 (rfl : tyK 20 = (7, 0)))
    refine g_getfield (v := .int x2_6) (q := 81) C fX7_194 dX7_count_78 rfl o6 rfl ?_
    exact E.1 _ _ _ _ _ _ _ dX7_count_81 rfl rfl (Nat.le_of_ble_eq_true rfl) (Nat.le_of_ble_eq_true rfl) ⟨_, rfl, H⟩
  by_cases c_1_2 : a0 = 2
  · subst c_1_2
    refine g_tableIn (off := 81) (t := 82) C dX7_count_1 (by decide) (by decide) (by decide) (by decide) ?_
    refine g_aload_n (q := 83) C dX7_count_82 rfl rfl ?_
    obtain ⟨x6_7, q4_7, q5_7, o7, e7_0, e7_1, e7_2⟩ := tyG7 H (rfl : tyK 0 = (0, 0))
    refine g_getfield (v := .ref 20) (q := 86) C fX7_30 dX7_count_83 rfl o7 rfl ?_
    obtain ⟨x3_8, x4_8, x5_8, x6_8, x7_8, x11_8, x12_8, x13_8, x14_8, x15_8, x16_8, x17_8, jv_8, o8, e8_0, e8_1, e8_2, e8_3⟩ := tyG2 H (rfl : tyK 20 = (7, 0))
    refine g_getfieldW (v := .ref ((20 + 15))) (q := 89) C fX7_114 dX7_count_86 rfl o8 rfl ?_
    obtain ⟨x0_9, x1_9, x2_9, x6_9, x7_9, x8_9, x9_9, o9, e9_0⟩ := tyG6 H (tyF2_2 (rfl : tyK 20 = (7, 0)))
    refine g_callVip (q := 92) (As := []) C gyX6_faults gvX6_faults t_665 (tX6_faults H (tyF2_2 (rfl : tyK 20 = (7, 0)))) dX7_count_89 rfl o9 rfl rfl rfl (Nat.le_of_ble_eq_true rfl) (Nat.le_of_ble_eq_true rfl) (Nat.le_of_ble_eq_true rfl) (Nat.le_of_ble_eq_true rfl) (Nat.le_of_ble_eq_true rfl) rfl (fun x10 h10 q10 => ?_)
    have H10 := q10
    exact E.1 _ _ _ _ _ _ _ dX7_count_92 rfl rfl (Nat.le_of_ble_eq_true rfl) (Nat.le_of_ble_eq_true rfl) ⟨_, rfl, H10⟩
  by_cases c_1_3 : a0 = 3
  · subst c_1_3
    refine g_tableIn (off := 92) (t := 93) C dX7_count_1 (by decide) (by decide) (by decide) (by decide) ?_
    refine g_aload_n (q := 94) C dX7_count_93 rfl rfl ?_
    obtain ⟨x6_11, q4_11, q5_11, o11, e11_0, e11_1, e11_2⟩ := tyG7 H (rfl : tyK 0 = (0, 0))
    refine g_getfield (v := .ref 20) (q := 97) C fX7_30 dX7_count_94 rfl o11 rfl ?_
    obtain ⟨x3_12, x4_12, x5_12, x6_12, x7_12, x11_12, x12_12, x13_12, x14_12, x15_12, x16_12, x17_12, jv_12, o12, e12_0, e12_1, e12_2, e12_3⟩ := tyG2 H (rfl : tyK 20 = (7, 0))
    refine g_getfield (v := .int x4_12) (q := 100) C fX7_197 dX7_count_97 rfl o12 rfl ?_
    exact E.1 _ _ _ _ _ _ _ dX7_count_100 rfl rfl (Nat.le_of_ble_eq_true rfl) (Nat.le_of_ble_eq_true rfl) ⟨_, rfl, H⟩
  by_cases c_1_4 : a0 = 4
  · subst c_1_4
    refine g_tableIn (off := 100) (t := 101) C dX7_count_1 (by decide) (by decide) (by decide) (by decide) ?_
    refine g_aload_n (q := 102) C dX7_count_101 rfl rfl ?_
    obtain ⟨x6_13, q4_13, q5_13, o13, e13_0, e13_1, e13_2⟩ := tyG7 H (rfl : tyK 0 = (0, 0))
    refine g_getfield (v := .ref 3) (q := 105) C fX7_21 dX7_count_102 rfl o13 rfl ?_
    obtain ⟨x8_14, o14⟩ := tyG1 H (rfl : tyK 3 = (3, 0))
    refine g_callVip (q := 108) (As := []) C gyX1_unlike gvX1_unlike t_993 (tX1_unlike H) dX7_count_105 rfl o14 rfl rfl rfl (Nat.le_of_ble_eq_true rfl) (Nat.le_of_ble_eq_true rfl) (Nat.le_of_ble_eq_true rfl) (Nat.le_of_ble_eq_true rfl) (Nat.le_of_ble_eq_true rfl) rfl (fun x15 h15 q15 => ?_)
    have H15 := q15
    exact E.1 _ _ _ _ _ _ _ dX7_count_108 rfl rfl (Nat.le_of_ble_eq_true rfl) (Nat.le_of_ble_eq_true rfl) ⟨_, rfl, H15⟩
  by_cases c_1_5 : a0 = 5
  · subst c_1_5
    refine g_tableIn (off := 108) (t := 109) C dX7_count_1 (by decide) (by decide) (by decide) (by decide) ?_
    refine g_aload_n (q := 110) C dX7_count_109 rfl rfl ?_
    obtain ⟨x6_16, q4_16, q5_16, o16, e16_0, e16_1, e16_2⟩ := tyG7 H (rfl : tyK 0 = (0, 0))
    refine g_getfield (v := .ref 3) (q := 113) C fX7_21 dX7_count_110 rfl o16 rfl ?_
    obtain ⟨x8_17, o17⟩ := tyG1 H (rfl : tyK 3 = (3, 0))
    refine g_callVip (q := 116) (As := []) C gyX1_kept gvX1_kept t_927 (tX1_kept H) dX7_count_113 rfl o17 rfl rfl rfl (Nat.le_of_ble_eq_true rfl) (Nat.le_of_ble_eq_true rfl) (Nat.le_of_ble_eq_true rfl) (Nat.le_of_ble_eq_true rfl) (Nat.le_of_ble_eq_true rfl) rfl (fun x18 h18 q18 => ?_)
    have H18 := q18
    exact E.1 _ _ _ _ _ _ _ dX7_count_116 rfl rfl (Nat.le_of_ble_eq_true rfl) (Nat.le_of_ble_eq_true rfl) ⟨_, rfl, H18⟩
  by_cases c_1_6 : a0 = 6
  · subst c_1_6
    refine g_tableIn (off := 116) (t := 117) C dX7_count_1 (by decide) (by decide) (by decide) (by decide) ?_
    refine g_aload_n (q := 118) C dX7_count_117 rfl rfl ?_
    obtain ⟨x6_19, q4_19, q5_19, o19, e19_0, e19_1, e19_2⟩ := tyG7 H (rfl : tyK 0 = (0, 0))
    refine g_getfield (v := .ref 20) (q := 121) C fX7_30 dX7_count_118 rfl o19 rfl ?_
    obtain ⟨x3_20, x4_20, x5_20, x6_20, x7_20, x11_20, x12_20, x13_20, x14_20, x15_20, x16_20, x17_20, jv_20, o20, e20_0, e20_1, e20_2, e20_3⟩ := tyG2 H (rfl : tyK 20 = (7, 0))
    refine g_getfieldW (v := .ref ((20 + 15))) (q := 124) C fX7_114 dX7_count_121 rfl o20 rfl ?_
    obtain ⟨x0_21, x1_21, x2_21, x6_21, x7_21, x8_21, x9_21, o21, e21_0⟩ := tyG6 H (tyF2_2 (rfl : tyK 20 = (7, 0)))
    refine g_getfield (v := .int x0_21) (q := 127) C fX7_130 dX7_count_124 rfl o21 rfl ?_
    exact E.1 _ _ _ _ _ _ _ dX7_count_127 rfl rfl (Nat.le_of_ble_eq_true rfl) (Nat.le_of_ble_eq_true rfl) ⟨_, rfl, H⟩
  by_cases c_1_7 : a0 = 7
  · subst c_1_7
    refine g_tableIn (off := 127) (t := 128) C dX7_count_1 (by decide) (by decide) (by decide) (by decide) ?_
    refine g_aload_n (q := 129) C dX7_count_128 rfl rfl ?_
    obtain ⟨x6_22, q4_22, q5_22, o22, e22_0, e22_1, e22_2⟩ := tyG7 H (rfl : tyK 0 = (0, 0))
    refine g_getfield (v := .ref 20) (q := 132) C fX7_30 dX7_count_129 rfl o22 rfl ?_
    obtain ⟨x3_23, x4_23, x5_23, x6_23, x7_23, x11_23, x12_23, x13_23, x14_23, x15_23, x16_23, x17_23, jv_23, o23, e23_0, e23_1, e23_2, e23_3⟩ := tyG2 H (rfl : tyK 20 = (7, 0))
    refine g_getfield (v := .int x5_23) (q := 135) C fX7_203 dX7_count_132 rfl o23 rfl ?_
    exact E.1 _ _ _ _ _ _ _ dX7_count_135 rfl rfl (Nat.le_of_ble_eq_true rfl) (Nat.le_of_ble_eq_true rfl) ⟨_, rfl, H⟩
  by_cases c_1_8 : a0 = 8
  · subst c_1_8
    refine g_tableIn (off := 135) (t := 136) C dX7_count_1 (by decide) (by decide) (by decide) (by decide) ?_
    refine g_aload_n (q := 137) C dX7_count_136 rfl rfl ?_
    obtain ⟨x6_24, q4_24, q5_24, o24, e24_0, e24_1, e24_2⟩ := tyG7 H (rfl : tyK 0 = (0, 0))
    refine g_getfield (v := .ref 20) (q := 140) C fX7_30 dX7_count_137 rfl o24 rfl ?_
    obtain ⟨x3_25, x4_25, x5_25, x6_25, x7_25, x11_25, x12_25, x13_25, x14_25, x15_25, x16_25, x17_25, jv_25, o25, e25_0, e25_1, e25_2, e25_3⟩ := tyG2 H (rfl : tyK 20 = (7, 0))
    refine g_getfield (v := .int x6_25) (q := 143) C fX7_206 dX7_count_140 rfl o25 rfl ?_
    exact E.1 _ _ _ _ _ _ _ dX7_count_143 rfl rfl (Nat.le_of_ble_eq_true rfl) (Nat.le_of_ble_eq_true rfl) ⟨_, rfl, H⟩
  by_cases c_1_9 : a0 = 9
  · subst c_1_9
    refine g_tableIn (off := 143) (t := 144) C dX7_count_1 (by decide) (by decide) (by decide) (by decide) ?_
    refine g_aload_n (q := 145) C dX7_count_144 rfl rfl ?_
    obtain ⟨x6_26, q4_26, q5_26, o26, e26_0, e26_1, e26_2⟩ := tyG7 H (rfl : tyK 0 = (0, 0))
    refine g_getfield (v := .ref 20) (q := 148) C fX7_30 dX7_count_145 rfl o26 rfl ?_
    obtain ⟨x3_27, x4_27, x5_27, x6_27, x7_27, x11_27, x12_27, x13_27, x14_27, x15_27, x16_27, x17_27, jv_27, o27, e27_0, e27_1, e27_2, e27_3⟩ := tyG2 H (rfl : tyK 20 = (7, 0))
    refine g_getfield (v := .int x7_27) (q := 151) C fX7_209 dX7_count_148 rfl o27 rfl ?_
    exact E.1 _ _ _ _ _ _ _ dX7_count_151 rfl rfl (Nat.le_of_ble_eq_true rfl) (Nat.le_of_ble_eq_true rfl) ⟨_, rfl, H⟩
  by_cases c_1_10 : a0 = 10
  · subst c_1_10
    refine g_tableIn (off := 151) (t := 152) C dX7_count_1 (by decide) (by decide) (by decide) (by decide) ?_
    refine g_aload_n (q := 153) C dX7_count_152 rfl rfl ?_
    obtain ⟨x6_28, q4_28, q5_28, o28, e28_0, e28_1, e28_2⟩ := tyG7 H (rfl : tyK 0 = (0, 0))
    refine g_getfield (v := .ref 1) (q := 156) C fX7_14 dX7_count_153 rfl o28 rfl ?_
    obtain ⟨l29, g29, -⟩ := tyRow H (rfl : tyK 1 = (1, 96))
    refine g_callVip (q := 159) (As := []) C gyX4_size gvX4_size t_463 (tX4_size H (rfl : tyK 1 = (1, 96))) dX7_count_156 rfl g29.obj rfl rfl rfl (Nat.le_of_ble_eq_true rfl) (Nat.le_of_ble_eq_true rfl) (Nat.le_of_ble_eq_true rfl) (Nat.le_of_ble_eq_true rfl) (Nat.le_of_ble_eq_true rfl) rfl (fun x30 h30 q30 => ?_)
    subst q30
    exact E.1 _ _ _ _ _ _ _ dX7_count_159 rfl rfl (Nat.le_of_ble_eq_true rfl) (Nat.le_of_ble_eq_true rfl) ⟨_, rfl, H⟩
  refine g_tableOut (t := 160) C dX7_count_1 (gOut11 c_1_0 c_1_1 c_1_2 c_1_3 c_1_4 c_1_5 c_1_6 c_1_7 c_1_8 c_1_9 c_1_10) (by decide) ?_
  refine g_iconst (v := (-1)) (q := 161) C dX7_count_160 (by decide) rfl ?_
  exact E.1 _ _ _ _ _ _ _ dX7_count_161 rfl rfl (Nat.le_of_ble_eq_true rfl) (Nat.le_of_ble_eq_true rfl) ⟨_, rfl, H⟩
theorem dX7_fault_0 : decode cX7_fault 0 = .ok (.iload_n 2, 1) := by decide +kernel
theorem dX7_fault_1 : decode cX7_fault 1 = .ok (.iconst 2, 1) := by decide +kernel
theorem dX7_fault_2 : decode cX7_fault 2 = .ok (.if_icmp .ne 23, 3) := by decide +kernel
theorem dX7_fault_5 : decode cX7_fault 5 = .ok (.iload_n 3, 1) := by decide +kernel
theorem dX7_fault_6 : decode cX7_fault 6 = .ok (.iconst 1, 1) := by decide +kernel
theorem dX7_fault_7 : decode cX7_fault 7 = .ok (.if_icmp .lt 14, 3) := by decide +kernel
theorem dX7_fault_10 : decode cX7_fault 10 = .ok (.iload_n 3, 1) := by decide +kernel
theorem dX7_fault_11 : decode cX7_fault 11 = .ok (.sipush 255, 3) := by decide +kernel
theorem dX7_fault_14 : decode cX7_fault 14 = .ok (.if_icmp .gt 7, 3) := by decide +kernel
theorem dX7_fault_17 : decode cX7_fault 17 = .ok (.iconst 1, 1) := by decide +kernel
theorem dX7_fault_18 : decode cX7_fault 18 = .ok (.goto 16, 3) := by decide +kernel
theorem dX7_fault_21 : decode cX7_fault 21 = .ok (.iconst 0, 1) := by decide +kernel
theorem dX7_fault_22 : decode cX7_fault 22 = .ok (.goto 12, 3) := by decide +kernel
theorem dX7_fault_25 : decode cX7_fault 25 = .ok (.iload_n 3, 1) := by decide +kernel
theorem dX7_fault_26 : decode cX7_fault 26 = .ok (.ifCond .ne 7, 3) := by decide +kernel
theorem dX7_fault_29 : decode cX7_fault 29 = .ok (.iconst 1, 1) := by decide +kernel
theorem dX7_fault_30 : decode cX7_fault 30 = .ok (.goto 4, 3) := by decide +kernel
theorem dX7_fault_33 : decode cX7_fault 33 = .ok (.iconst 0, 1) := by decide +kernel
theorem dX7_fault_34 : decode cX7_fault 34 = .ok (.istore 4, 2) := by decide +kernel
theorem dX7_fault_36 : decode cX7_fault 36 = .ok (.aload_n 0, 1) := by decide +kernel
theorem dX7_fault_37 : decode cX7_fault 37 = .ok (.getfield 51, 3) := by decide +kernel
theorem dX7_fault_40 : decode cX7_fault 40 = .ok (.ifCond .eq 29, 3) := by decide +kernel
theorem dX7_fault_43 : decode cX7_fault 43 = .ok (.iload_n 1, 1) := by decide +kernel
theorem dX7_fault_44 : decode cX7_fault 44 = .ok (.ifCond .lt 25, 3) := by decide +kernel
theorem dX7_fault_47 : decode cX7_fault 47 = .ok (.iload_n 1, 1) := by decide +kernel
theorem dX7_fault_48 : decode cX7_fault 48 = .ok (.sipush 999, 3) := by decide +kernel
theorem dX7_fault_51 : decode cX7_fault 51 = .ok (.if_icmp .gt 18, 3) := by decide +kernel
theorem dX7_fault_54 : decode cX7_fault 54 = .ok (.iload_n 2, 1) := by decide +kernel
theorem dX7_fault_55 : decode cX7_fault 55 = .ok (.iconst 1, 1) := by decide +kernel
theorem dX7_fault_56 : decode cX7_fault 56 = .ok (.if_icmp .lt 13, 3) := by decide +kernel
theorem dX7_fault_59 : decode cX7_fault 59 = .ok (.iload_n 2, 1) := by decide +kernel
theorem dX7_fault_60 : decode cX7_fault 60 = .ok (.iconst 3, 1) := by decide +kernel
theorem dX7_fault_61 : decode cX7_fault 61 = .ok (.if_icmp .gt 8, 3) := by decide +kernel
theorem dX7_fault_64 : decode cX7_fault 64 = .ok (.iload 4, 2) := by decide +kernel
theorem dX7_fault_66 : decode cX7_fault 66 = .ok (.ifCond .ne 5, 3) := by decide +kernel
theorem dX7_fault_69 : decode cX7_fault 69 = .ok (.iconst (-1), 1) := by decide +kernel
theorem dX7_fault_70 : decode cX7_fault 70 = .ok (.ireturn, 1) := by decide +kernel
theorem dX7_fault_71 : decode cX7_fault 71 = .ok (.aload_n 0, 1) := by decide +kernel
theorem dX7_fault_72 : decode cX7_fault 72 = .ok (.getfield 30, 3) := by decide +kernel
theorem dX7_fault_75 : decode cX7_fault 75 = .ok (.getfield 114, 3) := by decide +kernel
theorem dX7_fault_78 : decode cX7_fault 78 = .ok (.invokevirtual 118, 3) := by decide +kernel
theorem dX7_fault_81 : decode cX7_fault 81 = .ok (.ifCond .eq 5, 3) := by decide +kernel
theorem dX7_fault_84 : decode cX7_fault 84 = .ok (.iconst (-1), 1) := by decide +kernel
theorem dX7_fault_85 : decode cX7_fault 85 = .ok (.ireturn, 1) := by decide +kernel
theorem dX7_fault_86 : decode cX7_fault 86 = .ok (.aload_n 0, 1) := by decide +kernel
theorem dX7_fault_87 : decode cX7_fault 87 = .ok (.getfield 30, 3) := by decide +kernel
theorem dX7_fault_90 : decode cX7_fault 90 = .ok (.getfield 114, 3) := by decide +kernel
theorem dX7_fault_93 : decode cX7_fault 93 = .ok (.iload_n 1, 1) := by decide +kernel
theorem dX7_fault_94 : decode cX7_fault 94 = .ok (.iload_n 2, 1) := by decide +kernel
theorem dX7_fault_95 : decode cX7_fault 95 = .ok (.iload_n 3, 1) := by decide +kernel
theorem dX7_fault_96 : decode cX7_fault 96 = .ok (.invokevirtual 123, 3) := by decide +kernel
theorem dX7_fault_99 : decode cX7_fault 99 = .ok (.aload_n 0, 1) := by decide +kernel
theorem dX7_fault_100 : decode cX7_fault 100 = .ok (.getfield 37, 3) := by decide +kernel
theorem dX7_fault_103 : decode cX7_fault 103 = .ok (.invokevirtual 83, 3) := by decide +kernel
theorem dX7_fault_106 : decode cX7_fault 106 = .ok (.aload_n 0, 1) := by decide +kernel
theorem dX7_fault_107 : decode cX7_fault 107 = .ok (.getfield 30, 3) := by decide +kernel
theorem dX7_fault_110 : decode cX7_fault 110 = .ok (.getfield 114, 3) := by decide +kernel
theorem dX7_fault_113 : decode cX7_fault 113 = .ok (.invokevirtual 127, 3) := by decide +kernel
theorem dX7_fault_116 : decode cX7_fault 116 = .ok (.ireturn, 1) := by decide +kernel
set_option maxRecDepth 100000 in
set_option maxHeartbeats 4000000 in
theorem tX7_fault {T : tyT} {R : Nat} {J : Nat → Prop} {Bc Bs : Nat} {M : gMd} {z : Nat → Nat} {hp : List gA} {a0 : Int32} {a1 : Int32} {a2 : Int32}  (H : tyS T R J Bc Bs M z hp)  : gM yX7_fault cX7_fault 5 ((some .int)) 3 68 [.ref 0, .int a0, .int a1, .int a2] (hp) (0) (0) (fun v h => ∃ x, v = some (.int x) ∧ tyS T R J Bc Bs M z h) := by
  refine gM_of (ls0 := [some (.ref 0), some (.int a0), some (.int a1), some (.int a2), none]) (by decide +kernel) (Nat.le_of_ble_eq_true rfl) rfl fun X C E => ?_
  have J_69 : ∀ (y69_1 y69_2 y69_3 y69_4 : Int32) (by69_4 : y69_4 = 0 ∨ y69_4 = 1) (hJ69 : List gA), tyS T R J Bc Bs M z hJ69 → gG X 69 [some (.ref 0), some (.int y69_1), some (.int y69_2), some (.int y69_3), some (.int y69_4)] [] hJ69 0 0 := by
    intro y69_1 y69_2 y69_3 y69_4 by69_4 hJ69 HJ69
    refine g_iconst (v := (-1)) (q := 70) C dX7_fault_69 (by decide) rfl ?_
    exact E.1 _ _ _ _ _ _ _ dX7_fault_70 rfl rfl (Nat.le_of_ble_eq_true rfl) (Nat.le_of_ble_eq_true rfl) ⟨_, rfl, HJ69⟩
  have J_34 : ∀ (y34_1 y34_2 y34_3 s34_0 : Int32) (bs34_0 : s34_0 = 0 ∨ s34_0 = 1) (hJ34 : List gA), tyS T R J Bc Bs M z hJ34 → gG X 34 [some (.ref 0), some (.int y34_1), some (.int y34_2), some (.int y34_3), none] [.int s34_0] hJ34 0 0 := by
    intro y34_1 y34_2 y34_3 s34_0 bs34_0 hJ34 HJ34
    refine g_istore (q := 36) C dX7_fault_34 (Nat.le_of_ble_eq_true rfl) (by simp only [gset]; rfl) rfl ?_
    refine g_aload_n (q := 37) C dX7_fault_36 rfl rfl ?_
    obtain ⟨x6_1, q4_1, q5_1, o1, e1_0, e1_1, e1_2⟩ := tyG7 HJ34 (rfl : tyK 0 = (0, 0))
    refine g_getfield (v := .int x6_1) (q := 40) C fX7_51 dX7_fault_37 rfl o1 rfl ?_
    refine g_if_eq (t := 69) (q := 43) C dX7_fault_40 (by decide) rfl (fun c_40 => ?_) (fun c_40 => ?_)
    ·
      exact J_69 _ _ _ _ bs34_0 _  HJ34
    ·
      refine g_iload_n (q := 44) C dX7_fault_43 rfl rfl ?_
      refine g_if_lt (t := 69) (q := 47) C dX7_fault_44 (by decide) rfl (fun c_44 => ?_) (fun c_44 => ?_)
      ·
        exact J_69 _ _ _ _ bs34_0 _  HJ34
      ·
        refine g_iload_n (q := 48) C dX7_fault_47 rfl rfl ?_
        refine g_sipush (v := 999) (q := 51) C dX7_fault_48 (by decide) rfl ?_
        refine g_icmp_gt (t := 69) (q := 54) C dX7_fault_51 (by decide) rfl (fun c_51 => ?_) (fun c_51 => ?_)
        ·
          exact J_69 _ _ _ _ bs34_0 _  HJ34
        ·
          refine g_iload_n (q := 55) C dX7_fault_54 rfl rfl ?_
          refine g_iconst (v := 1) (q := 56) C dX7_fault_55 (by decide) rfl ?_
          refine g_icmp_lt (t := 69) (q := 59) C dX7_fault_56 (by decide) rfl (fun c_56 => ?_) (fun c_56 => ?_)
          ·
            exact J_69 _ _ _ _ bs34_0 _  HJ34
          ·
            refine g_iload_n (q := 60) C dX7_fault_59 rfl rfl ?_
            refine g_iconst (v := 3) (q := 61) C dX7_fault_60 (by decide) rfl ?_
            refine g_icmp_gt (t := 69) (q := 64) C dX7_fault_61 (by decide) rfl (fun c_61 => ?_) (fun c_61 => ?_)
            ·
              exact J_69 _ _ _ _ bs34_0 _  HJ34
            ·
              refine g_iload (q := 66) C dX7_fault_64 rfl rfl ?_
              refine g_if_ne (t := 71) (q := 69) C dX7_fault_66 (by decide) rfl (fun c_66 => ?_) (fun c_66 => ?_)
              ·
                refine g_aload_n (q := 72) C dX7_fault_71 rfl rfl ?_
                refine g_getfield (v := .ref 20) (q := 75) C fX7_30 dX7_fault_72 rfl o1 rfl ?_
                obtain ⟨x3_2, x4_2, x5_2, x6_2, x7_2, x11_2, x12_2, x13_2, x14_2, x15_2, x16_2, x17_2, jv_2, o2, e2_0, e2_1, e2_2, e2_3⟩ := tyG2 HJ34 (rfl : tyK 20 = (7, 0))
                refine g_getfieldW (v := .ref ((20 + 15))) (q := 78) C fX7_114 dX7_fault_75 rfl o2 rfl ?_
                obtain ⟨x0_3, x1_3, x2_3, x6_3, x7_3, x8_3, x9_3, o3, e3_0⟩ := tyG6 HJ34 (tyF2_2 (rfl : tyK 20 = (7, 0)))
                refine g_callVip (q := 81) (As := []) C gyX6_isFull gvX6_isFull t_652 (tX6_isFull HJ34 (tyF2_2 (rfl : tyK 20 = (7, 0)))) dX7_fault_78 rfl o3 rfl rfl rfl (Nat.le_of_ble_eq_true rfl) (Nat.le_of_ble_eq_true rfl) (Nat.le_of_ble_eq_true rfl) (Nat.le_of_ble_eq_true rfl) (Nat.le_of_ble_eq_true rfl) rfl (fun x4 h4 q4 => ?_)
                obtain ⟨b4, H4⟩ := q4
                refine g_if_eq (t := 86) (q := 84) C dX7_fault_81 (by decide) rfl (fun c_81 => ?_) (fun c_81 => ?_)
                ·
                  refine g_aload_n (q := 87) C dX7_fault_86 rfl rfl ?_
                  obtain ⟨x6_5, q4_5, q5_5, o5, e5_0, e5_1, e5_2⟩ := tyG7 H4 (rfl : tyK 0 = (0, 0))
                  refine g_getfield (v := .ref 20) (q := 90) C fX7_30 dX7_fault_87 rfl o5 rfl ?_
                  obtain ⟨x3_6, x4_6, x5_6, x6_6, x7_6, x11_6, x12_6, x13_6, x14_6, x15_6, x16_6, x17_6, jv_6, o6, e6_0, e6_1, e6_2, e6_3⟩ := tyG2 H4 (rfl : tyK 20 = (7, 0))
                  refine g_getfieldW (v := .ref ((20 + 15))) (q := 93) C fX7_114 dX7_fault_90 rfl o6 rfl ?_
                  refine g_iload_n (q := 94) C dX7_fault_93 rfl rfl ?_
                  refine g_iload_n (q := 95) C dX7_fault_94 rfl rfl ?_
                  refine g_iload_n (q := 96) C dX7_fault_95 rfl rfl ?_
                  obtain ⟨x0_7, x1_7, x2_7, x6_7, x7_7, x8_7, x9_7, o7, e7_0⟩ := tyG6 H4 (tyF2_2 (rfl : tyK 20 = (7, 0)))
                  refine g_callVvp (q := 99) (As := [.int y34_1, .int y34_2, .int y34_3]) C gyX6_addFault gvX6_addFault t_656 (tX6_addFault H4 (tyF2_2 (rfl : tyK 20 = (7, 0)))) dX7_fault_96 rfl o7 rfl rfl rfl (Nat.le_of_ble_eq_true rfl) (Nat.le_of_ble_eq_true rfl) (Nat.le_of_ble_eq_true rfl) (Nat.le_of_ble_eq_true rfl) (Nat.le_of_ble_eq_true rfl) rfl (fun h8 q8 => ?_)
                  have H8 := q8
                  refine g_aload_n (q := 100) C dX7_fault_99 rfl rfl ?_
                  obtain ⟨x6_9, q4_9, q5_9, o9, e9_0, e9_1, e9_2⟩ := tyG7 H8 (rfl : tyK 0 = (0, 0))
                  refine g_getfield (v := .ref 43) (q := 103) C fX7_37 dX7_fault_100 rfl o9 rfl ?_
                  obtain ⟨x3_10, o10, e10_0⟩ := tyG0 H8 (rfl : tyK 43 = (8, 0))
                  refine g_callVvp (q := 106) (As := []) C gyX0_forget gvX0_forget t_587 (tX0_forget H8) dX7_fault_103 rfl o10 rfl rfl rfl (Nat.le_of_ble_eq_true rfl) (Nat.le_of_ble_eq_true rfl) (Nat.le_of_ble_eq_true rfl) (Nat.le_of_ble_eq_true rfl) (Nat.le_of_ble_eq_true rfl) rfl (fun h11 q11 => ?_)
                  have H11 := q11
                  refine g_aload_n (q := 107) C dX7_fault_106 rfl rfl ?_
                  obtain ⟨x6_12, q4_12, q5_12, o12, e12_0, e12_1, e12_2⟩ := tyG7 H11 (rfl : tyK 0 = (0, 0))
                  refine g_getfield (v := .ref 20) (q := 110) C fX7_30 dX7_fault_107 rfl o12 rfl ?_
                  obtain ⟨x3_13, x4_13, x5_13, x6_13, x7_13, x11_13, x12_13, x13_13, x14_13, x15_13, x16_13, x17_13, jv_13, o13, e13_0, e13_1, e13_2, e13_3⟩ := tyG2 H11 (rfl : tyK 20 = (7, 0))
                  refine g_getfieldW (v := .ref ((20 + 15))) (q := 113) C fX7_114 dX7_fault_110 rfl o13 rfl ?_
                  obtain ⟨x0_14, x1_14, x2_14, x6_14, x7_14, x8_14, x9_14, o14, e14_0⟩ := tyG6 H11 (tyF2_2 (rfl : tyK 20 = (7, 0)))
                  refine g_callVip (q := 116) (As := []) C gyX6_faults gvX6_faults t_665 (tX6_faults H11 (tyF2_2 (rfl : tyK 20 = (7, 0)))) dX7_fault_113 rfl o14 rfl rfl rfl (Nat.le_of_ble_eq_true rfl) (Nat.le_of_ble_eq_true rfl) (Nat.le_of_ble_eq_true rfl) (Nat.le_of_ble_eq_true rfl) (Nat.le_of_ble_eq_true rfl) rfl (fun x15 h15 q15 => ?_)
                  have H15 := q15
                  exact E.1 _ _ _ _ _ _ _ dX7_fault_116 rfl rfl (Nat.le_of_ble_eq_true rfl) (Nat.le_of_ble_eq_true rfl) ⟨_, rfl, H15⟩
                ·
                  refine g_iconst (v := (-1)) (q := 85) C dX7_fault_84 (by decide) rfl ?_
                  exact E.1 _ _ _ _ _ _ _ dX7_fault_85 rfl rfl (Nat.le_of_ble_eq_true rfl) (Nat.le_of_ble_eq_true rfl) ⟨_, rfl, H4⟩
              ·
                exact J_69 _ _ _ _ bs34_0 _  HJ34
  have J_21 : ∀ (y21_1 y21_2 y21_3 : Int32) (hJ21 : List gA), tyS T R J Bc Bs M z hJ21 → gG X 21 [some (.ref 0), some (.int y21_1), some (.int y21_2), some (.int y21_3), none] [] hJ21 0 0 := by
    intro y21_1 y21_2 y21_3 hJ21 HJ21
    refine g_iconst (v := 0) (q := 22) C dX7_fault_21 (by decide) rfl ?_
    refine g_goto (q := 34) C dX7_fault_22 (by decide) ?_
    exact J_34 _ _ _ _ (Or.inl rfl) _  HJ21
  refine g_iload_n (q := 1) C dX7_fault_0 rfl rfl ?_
  refine g_iconst (v := 2) (q := 2) C dX7_fault_1 (by decide) rfl ?_
  refine g_icmp_ne (t := 25) (q := 5) C dX7_fault_2 (by decide) rfl (fun c_2 => ?_) (fun c_2 => ?_)
  ·
    refine g_iload_n (q := 26) C dX7_fault_25 rfl rfl ?_
    refine g_if_ne (t := 33) (q := 29) C dX7_fault_26 (by decide) rfl (fun c_26 => ?_) (fun c_26 => ?_)
    ·
      refine g_iconst (v := 0) (q := 34) C dX7_fault_33 (by decide) rfl ?_
      exact J_34 _ _ _ _ (Or.inl rfl) _  H
    ·
      refine g_iconst (v := 1) (q := 30) C dX7_fault_29 (by decide) rfl ?_
      refine g_goto (q := 34) C dX7_fault_30 (by decide) ?_
      exact J_34 _ _ _ _ (Or.inr rfl) _  H
  ·
    refine g_iload_n (q := 6) C dX7_fault_5 rfl rfl ?_
    refine g_iconst (v := 1) (q := 7) C dX7_fault_6 (by decide) rfl ?_
    refine g_icmp_lt (t := 21) (q := 10) C dX7_fault_7 (by decide) rfl (fun c_7 => ?_) (fun c_7 => ?_)
    ·
      exact J_21 _ _ _ _  H
    ·
      refine g_iload_n (q := 11) C dX7_fault_10 rfl rfl ?_
      refine g_sipush (v := 255) (q := 14) C dX7_fault_11 (by decide) rfl ?_
      refine g_icmp_gt (t := 21) (q := 17) C dX7_fault_14 (by decide) rfl (fun c_14 => ?_) (fun c_14 => ?_)
      ·
        exact J_21 _ _ _ _  H
      ·
        refine g_iconst (v := 1) (q := 18) C dX7_fault_17 (by decide) rfl ?_
        refine g_goto (q := 34) C dX7_fault_18 (by decide) ?_
        exact J_34 _ _ _ _ (Or.inr rfl) _  H
theorem dX7_mayStart_0 : decode cX7_mayStart 0 = .ok (.aload_n 0, 1) := by decide +kernel
theorem dX7_mayStart_1 : decode cX7_mayStart 1 = .ok (.getfield 51, 3) := by decide +kernel
theorem dX7_mayStart_4 : decode cX7_mayStart 4 = .ok (.ifCond .eq 29, 3) := by decide +kernel
theorem dX7_mayStart_7 : decode cX7_mayStart 7 = .ok (.aload_n 0, 1) := by decide +kernel
theorem dX7_mayStart_8 : decode cX7_mayStart 8 = .ok (.getfield 30, 3) := by decide +kernel
theorem dX7_mayStart_11 : decode cX7_mayStart 11 = .ok (.getfield 110, 3) := by decide +kernel
theorem dX7_mayStart_14 : decode cX7_mayStart 14 = .ok (.iconst 1, 1) := by decide +kernel
theorem dX7_mayStart_15 : decode cX7_mayStart 15 = .ok (.if_icmp .eq 18, 3) := by decide +kernel
theorem dX7_mayStart_18 : decode cX7_mayStart 18 = .ok (.aload_n 0, 1) := by decide +kernel
theorem dX7_mayStart_19 : decode cX7_mayStart 19 = .ok (.getfield 30, 3) := by decide +kernel
theorem dX7_mayStart_22 : decode cX7_mayStart 22 = .ok (.getfield 110, 3) := by decide +kernel
theorem dX7_mayStart_25 : decode cX7_mayStart 25 = .ok (.iconst 4, 1) := by decide +kernel
theorem dX7_mayStart_26 : decode cX7_mayStart 26 = .ok (.if_icmp .eq 7, 3) := by decide +kernel
theorem dX7_mayStart_29 : decode cX7_mayStart 29 = .ok (.iconst 1, 1) := by decide +kernel
theorem dX7_mayStart_30 : decode cX7_mayStart 30 = .ok (.goto 4, 3) := by decide +kernel
theorem dX7_mayStart_33 : decode cX7_mayStart 33 = .ok (.iconst 0, 1) := by decide +kernel
theorem dX7_mayStart_34 : decode cX7_mayStart 34 = .ok (.ireturn, 1) := by decide +kernel
set_option maxRecDepth 100000 in
set_option maxHeartbeats 4000000 in
theorem tX7_mayStart {T : tyT} {R : Nat} {J : Nat → Prop} {Bc Bs : Nat} {M : gMd} {z : Nat → Nat} {hp : List gA}  (H : tyS T R J Bc Bs M z hp)  : gM yX7_mayStart cX7_mayStart 1 ((some .boolean)) 0 0 [.ref 0] (hp) (0) (0) (fun v h => ∃ x, v = some (.int x) ∧ ((x = 0 ∨ x = 1) ∧ tyS T R J Bc Bs M z h)) := by
  refine gM_of (ls0 := [some (.ref 0)]) (by decide +kernel) (Nat.le_of_ble_eq_true rfl) rfl fun X C E => ?_
  have J_33 : ∀ (hJ33 : List gA), tyS T R J Bc Bs M z hJ33 → gG X 33 [some (.ref 0)] [] hJ33 0 0 := by
    intro hJ33 HJ33
    refine g_iconst (v := 0) (q := 34) C dX7_mayStart_33 (by decide) rfl ?_
    exact E.1 _ _ _ _ _ _ _ dX7_mayStart_34 rfl (tyNar (Or.inl rfl)) (Nat.le_of_ble_eq_true rfl) (Nat.le_of_ble_eq_true rfl) ⟨_, rfl, (Or.inl rfl), HJ33⟩
  refine g_aload_n (q := 1) C dX7_mayStart_0 rfl rfl ?_
  obtain ⟨x6_1, q4_1, q5_1, o1, e1_0, e1_1, e1_2⟩ := tyG7 H (rfl : tyK 0 = (0, 0))
  refine g_getfield (v := .int x6_1) (q := 4) C fX7_51 dX7_mayStart_1 rfl o1 rfl ?_
  refine g_if_eq (t := 33) (q := 7) C dX7_mayStart_4 (by decide) rfl (fun c_4 => ?_) (fun c_4 => ?_)
  ·
    exact J_33 _  H
  ·
    refine g_aload_n (q := 8) C dX7_mayStart_7 rfl rfl ?_
    refine g_getfield (v := .ref 20) (q := 11) C fX7_30 dX7_mayStart_8 rfl o1 rfl ?_
    obtain ⟨x3_2, x4_2, x5_2, x6_2, x7_2, x11_2, x12_2, x13_2, x14_2, x15_2, x16_2, x17_2, jv_2, o2, e2_0, e2_1, e2_2, e2_3⟩ := tyG2 H (rfl : tyK 20 = (7, 0))
    refine g_getfield (v := .int x3_2) (q := 14) C fX7_110 dX7_mayStart_11 rfl o2 rfl ?_
    refine g_iconst (v := 1) (q := 15) C dX7_mayStart_14 (by decide) rfl ?_
    refine g_icmp_eq (t := 33) (q := 18) C dX7_mayStart_15 (by decide) rfl (fun c_15 => ?_) (fun c_15 => ?_)
    ·
      exact J_33 _  H
    ·
      refine g_aload_n (q := 19) C dX7_mayStart_18 rfl rfl ?_
      refine g_getfield (v := .ref 20) (q := 22) C fX7_30 dX7_mayStart_19 rfl o1 rfl ?_
      refine g_getfield (v := .int x3_2) (q := 25) C fX7_110 dX7_mayStart_22 rfl o2 rfl ?_
      refine g_iconst (v := 4) (q := 26) C dX7_mayStart_25 (by decide) rfl ?_
      refine g_icmp_eq (t := 33) (q := 29) C dX7_mayStart_26 (by decide) rfl (fun c_26 => ?_) (fun c_26 => ?_)
      ·
        exact J_33 _  H
      ·
        refine g_iconst (v := 1) (q := 30) C dX7_mayStart_29 (by decide) rfl ?_
        refine g_goto (q := 34) C dX7_mayStart_30 (by decide) ?_
        exact E.1 _ _ _ _ _ _ _ dX7_mayStart_34 rfl (tyNar (Or.inr rfl)) (Nat.le_of_ble_eq_true rfl) (Nat.le_of_ble_eq_true rfl) ⟨_, rfl, (Or.inr rfl), H⟩
theorem dX7_onWay_0 : decode cX7_onWay 0 = .ok (.aload_n 0, 1) := by decide +kernel
theorem dX7_onWay_1 : decode cX7_onWay 1 = .ok (.getfield 51, 3) := by decide +kernel
theorem dX7_onWay_4 : decode cX7_onWay 4 = .ok (.ifCond .eq 18, 3) := by decide +kernel
theorem dX7_onWay_7 : decode cX7_onWay 7 = .ok (.aload_n 0, 1) := by decide +kernel
theorem dX7_onWay_8 : decode cX7_onWay 8 = .ok (.getfield 30, 3) := by decide +kernel
theorem dX7_onWay_11 : decode cX7_onWay 11 = .ok (.getfield 110, 3) := by decide +kernel
theorem dX7_onWay_14 : decode cX7_onWay 14 = .ok (.iconst 1, 1) := by decide +kernel
theorem dX7_onWay_15 : decode cX7_onWay 15 = .ok (.if_icmp .ne 7, 3) := by decide +kernel
theorem dX7_onWay_18 : decode cX7_onWay 18 = .ok (.iconst 1, 1) := by decide +kernel
theorem dX7_onWay_19 : decode cX7_onWay 19 = .ok (.goto 4, 3) := by decide +kernel
theorem dX7_onWay_22 : decode cX7_onWay 22 = .ok (.iconst 0, 1) := by decide +kernel
theorem dX7_onWay_23 : decode cX7_onWay 23 = .ok (.ireturn, 1) := by decide +kernel
set_option maxRecDepth 100000 in
set_option maxHeartbeats 4000000 in
theorem tX7_onWay {T : tyT} {R : Nat} {J : Nat → Prop} {Bc Bs : Nat} {M : gMd} {z : Nat → Nat} {hp : List gA}  (H : tyS T R J Bc Bs M z hp)  : gM yX7_onWay cX7_onWay 1 ((some .boolean)) 0 0 [.ref 0] (hp) (0) (0) (fun v h => ∃ x, v = some (.int x) ∧ ((x = 0 ∨ x = 1) ∧ tyS T R J Bc Bs M z h)) := by
  refine gM_of (ls0 := [some (.ref 0)]) (by decide +kernel) (Nat.le_of_ble_eq_true rfl) rfl fun X C E => ?_
  have J_22 : ∀ (hJ22 : List gA), tyS T R J Bc Bs M z hJ22 → gG X 22 [some (.ref 0)] [] hJ22 0 0 := by
    intro hJ22 HJ22
    refine g_iconst (v := 0) (q := 23) C dX7_onWay_22 (by decide) rfl ?_
    exact E.1 _ _ _ _ _ _ _ dX7_onWay_23 rfl (tyNar (Or.inl rfl)) (Nat.le_of_ble_eq_true rfl) (Nat.le_of_ble_eq_true rfl) ⟨_, rfl, (Or.inl rfl), HJ22⟩
  refine g_aload_n (q := 1) C dX7_onWay_0 rfl rfl ?_
  obtain ⟨x6_1, q4_1, q5_1, o1, e1_0, e1_1, e1_2⟩ := tyG7 H (rfl : tyK 0 = (0, 0))
  refine g_getfield (v := .int x6_1) (q := 4) C fX7_51 dX7_onWay_1 rfl o1 rfl ?_
  refine g_if_eq (t := 22) (q := 7) C dX7_onWay_4 (by decide) rfl (fun c_4 => ?_) (fun c_4 => ?_)
  ·
    exact J_22 _  H
  ·
    refine g_aload_n (q := 8) C dX7_onWay_7 rfl rfl ?_
    refine g_getfield (v := .ref 20) (q := 11) C fX7_30 dX7_onWay_8 rfl o1 rfl ?_
    obtain ⟨x3_2, x4_2, x5_2, x6_2, x7_2, x11_2, x12_2, x13_2, x14_2, x15_2, x16_2, x17_2, jv_2, o2, e2_0, e2_1, e2_2, e2_3⟩ := tyG2 H (rfl : tyK 20 = (7, 0))
    refine g_getfield (v := .int x3_2) (q := 14) C fX7_110 dX7_onWay_11 rfl o2 rfl ?_
    refine g_iconst (v := 1) (q := 15) C dX7_onWay_14 (by decide) rfl ?_
    refine g_icmp_ne (t := 22) (q := 18) C dX7_onWay_15 (by decide) rfl (fun c_15 => ?_) (fun c_15 => ?_)
    ·
      exact J_22 _  H
    ·
      refine g_iconst (v := 1) (q := 19) C dX7_onWay_18 (by decide) rfl ?_
      refine g_goto (q := 23) C dX7_onWay_19 (by decide) ?_
      exact E.1 _ _ _ _ _ _ _ dX7_onWay_23 rfl (tyNar (Or.inr rfl)) (Nat.le_of_ble_eq_true rfl) (Nat.le_of_ble_eq_true rfl) ⟨_, rfl, (Or.inr rfl), H⟩
theorem dX7_room_0 : decode cX7_room 0 = .ok (.aload_n 0, 1) := by decide +kernel
theorem dX7_room_1 : decode cX7_room 1 = .ok (.invokevirtual 96, 3) := by decide +kernel
theorem dX7_room_4 : decode cX7_room 4 = .ok (.ifCond .eq 15, 3) := by decide +kernel
theorem dX7_room_7 : decode cX7_room 7 = .ok (.iload_n 1, 1) := by decide +kernel
theorem dX7_room_8 : decode cX7_room 8 = .ok (.iconst 1, 1) := by decide +kernel
theorem dX7_room_9 : decode cX7_room 9 = .ok (.if_icmp .lt 10, 3) := by decide +kernel
theorem dX7_room_12 : decode cX7_room 12 = .ok (.iload_n 1, 1) := by decide +kernel
theorem dX7_room_13 : decode cX7_room 13 = .ok (.sipush 254, 3) := by decide +kernel
theorem dX7_room_16 : decode cX7_room 16 = .ok (.if_icmp .le 5, 3) := by decide +kernel
theorem dX7_room_19 : decode cX7_room 19 = .ok (.iconst (-1), 1) := by decide +kernel
theorem dX7_room_20 : decode cX7_room 20 = .ok (.ireturn, 1) := by decide +kernel
theorem dX7_room_21 : decode cX7_room 21 = .ok (.aload_n 0, 1) := by decide +kernel
theorem dX7_room_22 : decode cX7_room 22 = .ok (.getfield 30, 3) := by decide +kernel
theorem dX7_room_25 : decode cX7_room 25 = .ok (.iload_n 1, 1) := by decide +kernel
theorem dX7_room_26 : decode cX7_room 26 = .ok (.invokevirtual 107, 3) := by decide +kernel
theorem dX7_room_29 : decode cX7_room 29 = .ok (.aload_n 0, 1) := by decide +kernel
theorem dX7_room_30 : decode cX7_room 30 = .ok (.getfield 37, 3) := by decide +kernel
theorem dX7_room_33 : decode cX7_room 33 = .ok (.invokevirtual 83, 3) := by decide +kernel
theorem dX7_room_36 : decode cX7_room 36 = .ok (.iconst 1, 1) := by decide +kernel
theorem dX7_room_37 : decode cX7_room 37 = .ok (.ireturn, 1) := by decide +kernel
set_option maxRecDepth 100000 in
set_option maxHeartbeats 4000000 in
theorem tX7_room {T : tyT} {R : Nat} {J : Nat → Prop} {Bc Bs : Nat} {M : gMd} {z : Nat → Nat} {hp : List gA} {a0 : Int32}  (H : tyS T R J Bc Bs M z hp)  : gM yX7_room cX7_room 2 ((some .int)) 2 43 [.ref 0, .int a0] (hp) (0) (0) (fun v h => ∃ x, v = some (.int x) ∧ tyS T R J Bc Bs M z h) := by
  refine gM_of (ls0 := [some (.ref 0), some (.int a0)]) (by decide +kernel) (Nat.le_of_ble_eq_true rfl) rfl fun X C E => ?_
  have J_19 : ∀ (y19_1 : Int32) (hJ19 : List gA), tyS T R J Bc Bs M z hJ19 → gG X 19 [some (.ref 0), some (.int y19_1)] [] hJ19 0 0 := by
    intro y19_1 hJ19 HJ19
    refine g_iconst (v := (-1)) (q := 20) C dX7_room_19 (by decide) rfl ?_
    exact E.1 _ _ _ _ _ _ _ dX7_room_20 rfl rfl (Nat.le_of_ble_eq_true rfl) (Nat.le_of_ble_eq_true rfl) ⟨_, rfl, HJ19⟩
  refine g_aload_n (q := 1) C dX7_room_0 rfl rfl ?_
  obtain ⟨x6_1, q4_1, q5_1, o1, e1_0, e1_1, e1_2⟩ := tyG7 H (rfl : tyK 0 = (0, 0))
  refine g_callVip (q := 4) (As := []) C gyX7_mayStart gvX7_mayStart t_618 (tX7_mayStart H) dX7_room_1 rfl o1 rfl rfl rfl (Nat.le_of_ble_eq_true rfl) (Nat.le_of_ble_eq_true rfl) (Nat.le_of_ble_eq_true rfl) (Nat.le_of_ble_eq_true rfl) (Nat.le_of_ble_eq_true rfl) rfl (fun x2 h2 q2 => ?_)
  obtain ⟨b2, H2⟩ := q2
  refine g_if_eq (t := 19) (q := 7) C dX7_room_4 (by decide) rfl (fun c_4 => ?_) (fun c_4 => ?_)
  ·
    exact J_19 _ _  H2
  ·
    refine g_iload_n (q := 8) C dX7_room_7 rfl rfl ?_
    refine g_iconst (v := 1) (q := 9) C dX7_room_8 (by decide) rfl ?_
    refine g_icmp_lt (t := 19) (q := 12) C dX7_room_9 (by decide) rfl (fun c_9 => ?_) (fun c_9 => ?_)
    ·
      exact J_19 _ _  H2
    ·
      refine g_iload_n (q := 13) C dX7_room_12 rfl rfl ?_
      refine g_sipush (v := 254) (q := 16) C dX7_room_13 (by decide) rfl ?_
      refine g_icmp_le (t := 21) (q := 19) C dX7_room_16 (by decide) rfl (fun c_16 => ?_) (fun c_16 => ?_)
      ·
        refine g_aload_n (q := 22) C dX7_room_21 rfl rfl ?_
        obtain ⟨x6_3, q4_3, q5_3, o3, e3_0, e3_1, e3_2⟩ := tyG7 H2 (rfl : tyK 0 = (0, 0))
        refine g_getfield (v := .ref 20) (q := 25) C fX7_30 dX7_room_22 rfl o3 rfl ?_
        refine g_iload_n (q := 26) C dX7_room_25 rfl rfl ?_
        obtain ⟨x3_4, x4_4, x5_4, x6_4, x7_4, x11_4, x12_4, x13_4, x14_4, x15_4, x16_4, x17_4, jv_4, o4, e4_0, e4_1, e4_2, e4_3⟩ := tyG2 H2 (rfl : tyK 20 = (7, 0))
        refine g_callVvp (q := 29) (As := [.int a0]) C gyX2_startRoom gvX2_startRoom t_644 (tX2_startRoom H2 (rfl : tyK 20 = (7, 0))) dX7_room_26 rfl o4 rfl rfl rfl (Nat.le_of_ble_eq_true rfl) (Nat.le_of_ble_eq_true rfl) (Nat.le_of_ble_eq_true rfl) (Nat.le_of_ble_eq_true rfl) (Nat.le_of_ble_eq_true rfl) rfl (fun h5 q5 => ?_)
        have H5 := q5
        refine g_aload_n (q := 30) C dX7_room_29 rfl rfl ?_
        obtain ⟨x6_6, q4_6, q5_6, o6, e6_0, e6_1, e6_2⟩ := tyG7 H5 (rfl : tyK 0 = (0, 0))
        refine g_getfield (v := .ref 43) (q := 33) C fX7_37 dX7_room_30 rfl o6 rfl ?_
        obtain ⟨x3_7, o7, e7_0⟩ := tyG0 H5 (rfl : tyK 43 = (8, 0))
        refine g_callVvp (q := 36) (As := []) C gyX0_forget gvX0_forget t_587 (tX0_forget H5) dX7_room_33 rfl o7 rfl rfl rfl (Nat.le_of_ble_eq_true rfl) (Nat.le_of_ble_eq_true rfl) (Nat.le_of_ble_eq_true rfl) (Nat.le_of_ble_eq_true rfl) (Nat.le_of_ble_eq_true rfl) rfl (fun h8 q8 => ?_)
        have H8 := q8
        refine g_iconst (v := 1) (q := 37) C dX7_room_36 (by decide) rfl ?_
        exact E.1 _ _ _ _ _ _ _ dX7_room_37 rfl rfl (Nat.le_of_ble_eq_true rfl) (Nat.le_of_ble_eq_true rfl) ⟨_, rfl, H8⟩
      ·
        exact J_19 _ _  H2
theorem dX7_state_0 : decode cX7_state 0 = .ok (.aload_n 0, 1) := by decide +kernel
theorem dX7_state_1 : decode cX7_state 1 = .ok (.getfield 51, 3) := by decide +kernel
theorem dX7_state_4 : decode cX7_state 4 = .ok (.ifCond .eq 13, 3) := by decide +kernel
theorem dX7_state_7 : decode cX7_state 7 = .ok (.aload_n 0, 1) := by decide +kernel
theorem dX7_state_8 : decode cX7_state 8 = .ok (.getfield 30, 3) := by decide +kernel
theorem dX7_state_11 : decode cX7_state 11 = .ok (.getfield 110, 3) := by decide +kernel
theorem dX7_state_14 : decode cX7_state 14 = .ok (.goto 4, 3) := by decide +kernel
theorem dX7_state_17 : decode cX7_state 17 = .ok (.iconst (-1), 1) := by decide +kernel
theorem dX7_state_18 : decode cX7_state 18 = .ok (.ireturn, 1) := by decide +kernel
set_option maxRecDepth 100000 in
set_option maxHeartbeats 4000000 in
theorem tX7_state {T : tyT} {R : Nat} {J : Nat → Prop} {Bc Bs : Nat} {M : gMd} {z : Nat → Nat} {hp : List gA}  (H : tyS T R J Bc Bs M z hp)  : gM yX7_state cX7_state 1 ((some .int)) 0 0 [.ref 0] (hp) (0) (0) (fun v h => ∃ x, v = some (.int x) ∧ tyS T R J Bc Bs M z h) := by
  refine gM_of (ls0 := [some (.ref 0)]) (by decide +kernel) (Nat.le_of_ble_eq_true rfl) rfl fun X C E => ?_
  refine g_aload_n (q := 1) C dX7_state_0 rfl rfl ?_
  obtain ⟨x6_1, q4_1, q5_1, o1, e1_0, e1_1, e1_2⟩ := tyG7 H (rfl : tyK 0 = (0, 0))
  refine g_getfield (v := .int x6_1) (q := 4) C fX7_51 dX7_state_1 rfl o1 rfl ?_
  refine g_if_eq (t := 17) (q := 7) C dX7_state_4 (by decide) rfl (fun c_4 => ?_) (fun c_4 => ?_)
  ·
    refine g_iconst (v := (-1)) (q := 18) C dX7_state_17 (by decide) rfl ?_
    exact E.1 _ _ _ _ _ _ _ dX7_state_18 rfl rfl (Nat.le_of_ble_eq_true rfl) (Nat.le_of_ble_eq_true rfl) ⟨_, rfl, H⟩
  ·
    refine g_aload_n (q := 8) C dX7_state_7 rfl rfl ?_
    refine g_getfield (v := .ref 20) (q := 11) C fX7_30 dX7_state_8 rfl o1 rfl ?_
    obtain ⟨x3_2, x4_2, x5_2, x6_2, x7_2, x11_2, x12_2, x13_2, x14_2, x15_2, x16_2, x17_2, jv_2, o2, e2_0, e2_1, e2_2, e2_3⟩ := tyG2 H (rfl : tyK 20 = (7, 0))
    refine g_getfield (v := .int x3_2) (q := 14) C fX7_110 dX7_state_11 rfl o2 rfl ?_
    refine g_goto (q := 18) C dX7_state_14 (by decide) ?_
    exact E.1 _ _ _ _ _ _ _ dX7_state_18 rfl rfl (Nat.le_of_ble_eq_true rfl) (Nat.le_of_ble_eq_true rfl) ⟨_, rfl, H⟩
theorem dX7_sideOf_0 : decode cX7_sideOf 0 = .ok (.iload_n 1, 1) := by decide +kernel
theorem dX7_sideOf_1 : decode cX7_sideOf 1 = .ok (.ifCond .ne 13, 3) := by decide +kernel
theorem dX7_sideOf_4 : decode cX7_sideOf 4 = .ok (.aload_n 0, 1) := by decide +kernel
theorem dX7_sideOf_5 : decode cX7_sideOf 5 = .ok (.getfield 30, 3) := by decide +kernel
theorem dX7_sideOf_8 : decode cX7_sideOf 8 = .ok (.getfield 146, 3) := by decide +kernel
theorem dX7_sideOf_11 : decode cX7_sideOf 11 = .ok (.goto 10, 3) := by decide +kernel
theorem dX7_sideOf_14 : decode cX7_sideOf 14 = .ok (.aload_n 0, 1) := by decide +kernel
theorem dX7_sideOf_15 : decode cX7_sideOf 15 = .ok (.getfield 30, 3) := by decide +kernel
theorem dX7_sideOf_18 : decode cX7_sideOf 18 = .ok (.getfield 150, 3) := by decide +kernel
theorem dX7_sideOf_21 : decode cX7_sideOf 21 = .ok (.areturn, 1) := by decide +kernel
set_option maxRecDepth 100000 in
set_option maxHeartbeats 4000000 in
theorem tX7_sideOf {T : tyT} {R : Nat} {J : Nat → Prop} {Bc Bs : Nat} {M : gMd} {z : Nat → Nat} {hp : List gA} {a0 : Int32}  (H : tyS T R J Bc Bs M z hp)  : gM yX7_sideOf cX7_sideOf 2 ((some (.object "CardLink$Side"))) 0 0 [.ref 0, .int a0] (hp) (0) (0) (fun v h => ∃ r, v = some (.ref r) ∧ (tyK r = (5, 0) ∧ tyS T R J Bc Bs M z h)) := by
  refine gM_of (ls0 := [some (.ref 0), some (.int a0)]) (by decide +kernel) (Nat.le_of_ble_eq_true rfl) rfl fun X C E => ?_
  refine g_iload_n (q := 1) C dX7_sideOf_0 rfl rfl ?_
  refine g_if_ne (t := 14) (q := 4) C dX7_sideOf_1 (by decide) rfl (fun c_1 => ?_) (fun c_1 => ?_)
  ·
    refine g_aload_n (q := 15) C dX7_sideOf_14 rfl rfl ?_
    obtain ⟨x6_1, q4_1, q5_1, o1, e1_0, e1_1, e1_2⟩ := tyG7 H (rfl : tyK 0 = (0, 0))
    refine g_getfield (v := .ref 20) (q := 18) C fX7_30 dX7_sideOf_15 rfl o1 rfl ?_
    obtain ⟨x3_2, x4_2, x5_2, x6_2, x7_2, x11_2, x12_2, x13_2, x14_2, x15_2, x16_2, x17_2, jv_2, o2, e2_0, e2_1, e2_2, e2_3⟩ := tyG2 H (rfl : tyK 20 = (7, 0))
    refine g_getfieldW (v := .ref ((20 + 8))) (q := 21) C fX7_150 dX7_sideOf_18 rfl o2 rfl ?_
    exact E.2.2 _ _ _ _ _ _ _ dX7_sideOf_21 rfl (Or.inl ⟨_, rfl⟩) (Nat.le_of_ble_eq_true rfl) (Nat.le_of_ble_eq_true rfl) ⟨_, rfl, (tyF2_1 (rfl : tyK 20 = (7, 0))), H⟩
  ·
    refine g_aload_n (q := 5) C dX7_sideOf_4 rfl rfl ?_
    obtain ⟨x6_3, q4_3, q5_3, o3, e3_0, e3_1, e3_2⟩ := tyG7 H (rfl : tyK 0 = (0, 0))
    refine g_getfield (v := .ref 20) (q := 8) C fX7_30 dX7_sideOf_5 rfl o3 rfl ?_
    obtain ⟨x3_4, x4_4, x5_4, x6_4, x7_4, x11_4, x12_4, x13_4, x14_4, x15_4, x16_4, x17_4, jv_4, o4, e4_0, e4_1, e4_2, e4_3⟩ := tyG2 H (rfl : tyK 20 = (7, 0))
    refine g_getfieldW (v := .ref ((20 + 1))) (q := 11) C fX7_146 dX7_sideOf_8 rfl o4 rfl ?_
    refine g_goto (q := 21) C dX7_sideOf_11 (by decide) ?_
    exact E.2.2 _ _ _ _ _ _ _ dX7_sideOf_21 rfl (Or.inl ⟨_, rfl⟩) (Nat.le_of_ble_eq_true rfl) (Nat.le_of_ble_eq_true rfl) ⟨_, rfl, (tyF2_0 (rfl : tyK 20 = (7, 0))), H⟩
theorem dX7_got_0 : decode cX7_got 0 = .ok (.aload_n 0, 1) := by decide +kernel
theorem dX7_got_1 : decode cX7_got 1 = .ok (.getfield 51, 3) := by decide +kernel
theorem dX7_got_4 : decode cX7_got 4 = .ok (.ifCond .eq 12, 3) := by decide +kernel
theorem dX7_got_7 : decode cX7_got 7 = .ok (.iload_n 1, 1) := by decide +kernel
theorem dX7_got_8 : decode cX7_got 8 = .ok (.ifCond .lt 8, 3) := by decide +kernel
theorem dX7_got_11 : decode cX7_got 11 = .ok (.iload_n 1, 1) := by decide +kernel
theorem dX7_got_12 : decode cX7_got 12 = .ok (.iconst 1, 1) := by decide +kernel
theorem dX7_got_13 : decode cX7_got 13 = .ok (.if_icmp .le 6, 3) := by decide +kernel
theorem dX7_got_16 : decode cX7_got 16 = .ok (.bipush (-2), 2) := by decide +kernel
theorem dX7_got_18 : decode cX7_got 18 = .ok (.ireturn, 1) := by decide +kernel
theorem dX7_got_19 : decode cX7_got 19 = .ok (.aload_n 0, 1) := by decide +kernel
theorem dX7_got_20 : decode cX7_got 20 = .ok (.iload_n 1, 1) := by decide +kernel
theorem dX7_got_21 : decode cX7_got 21 = .ok (.invokevirtual 139, 3) := by decide +kernel
theorem dX7_got_24 : decode cX7_got 24 = .ok (.astore_n 3, 1) := by decide +kernel
theorem dX7_got_25 : decode cX7_got 25 = .ok (.aload_n 3, 1) := by decide +kernel
theorem dX7_got_26 : decode cX7_got 26 = .ok (.getfield 153, 3) := by decide +kernel
theorem dX7_got_29 : decode cX7_got 29 = .ok (.ifCond .eq 19, 3) := by decide +kernel
theorem dX7_got_32 : decode cX7_got 32 = .ok (.iload_n 2, 1) := by decide +kernel
theorem dX7_got_33 : decode cX7_got 33 = .ok (.iconst (-1), 1) := by decide +kernel
theorem dX7_got_34 : decode cX7_got 34 = .ok (.if_icmp .lt 14, 3) := by decide +kernel
theorem dX7_got_37 : decode cX7_got 37 = .ok (.iload_n 2, 1) := by decide +kernel
theorem dX7_got_38 : decode cX7_got 38 = .ok (.aload_n 3, 1) := by decide +kernel
theorem dX7_got_39 : decode cX7_got 39 = .ok (.getfield 156, 3) := by decide +kernel
theorem dX7_got_42 : decode cX7_got 42 = .ok (.invokevirtual 55, 3) := by decide +kernel
theorem dX7_got_45 : decode cX7_got 45 = .ok (.if_icmp .lt 6, 3) := by decide +kernel
theorem dX7_got_48 : decode cX7_got 48 = .ok (.bipush (-2), 2) := by decide +kernel
theorem dX7_got_50 : decode cX7_got 50 = .ok (.ireturn, 1) := by decide +kernel
theorem dX7_got_51 : decode cX7_got 51 = .ok (.iload_n 2, 1) := by decide +kernel
theorem dX7_got_52 : decode cX7_got 52 = .ok (.iconst (-1), 1) := by decide +kernel
theorem dX7_got_53 : decode cX7_got 53 = .ok (.if_icmp .ne 13, 3) := by decide +kernel
theorem dX7_got_56 : decode cX7_got 56 = .ok (.aload_n 3, 1) := by decide +kernel
theorem dX7_got_57 : decode cX7_got 57 = .ok (.getfield 156, 3) := by decide +kernel
theorem dX7_got_60 : decode cX7_got 60 = .ok (.invokevirtual 55, 3) := by decide +kernel
theorem dX7_got_63 : decode cX7_got 63 = .ok (.goto 11, 3) := by decide +kernel
theorem dX7_got_66 : decode cX7_got 66 = .ok (.aload_n 3, 1) := by decide +kernel
theorem dX7_got_67 : decode cX7_got 67 = .ok (.getfield 156, 3) := by decide +kernel
theorem dX7_got_70 : decode cX7_got 70 = .ok (.iload_n 2, 1) := by decide +kernel
theorem dX7_got_71 : decode cX7_got 71 = .ok (.invokevirtual 159, 3) := by decide +kernel
theorem dX7_got_74 : decode cX7_got 74 = .ok (.ireturn, 1) := by decide +kernel
set_option maxRecDepth 100000 in
set_option maxHeartbeats 4000000 in
theorem tX7_got {T : tyT} {R : Nat} {J : Nat → Prop} {Bc Bs : Nat} {M : gMd} {z : Nat → Nat} {hp : List gA} {a0 : Int32} {a1 : Int32}  (H : tyS T R J Bc Bs M z hp)  : gM yX7_got cX7_got 4 ((some .int)) 1 21 [.ref 0, .int a0, .int a1] (hp) (0) (0) (fun v h => ∃ x, v = some (.int x) ∧ tyS T R J Bc Bs M z h) := by
  refine gM_of (ls0 := [some (.ref 0), some (.int a0), some (.int a1), none]) (by decide +kernel) (Nat.le_of_ble_eq_true rfl) rfl fun X C E => ?_
  have J_48 : ∀ (y48_1 y48_2 : Int32) (y48_3 : Nat) (ky48_3 : tyK y48_3 = (5, 0)) (hJ48 : List gA), tyS T R J Bc Bs M z hJ48 → gG X 48 [some (.ref 0), some (.int y48_1), some (.int y48_2), some (.ref y48_3)] [] hJ48 0 0 := by
    intro y48_1 y48_2 y48_3 ky48_3 hJ48 HJ48
    refine g_bipush (v := (-2)) (q := 50) C dX7_got_48 (by decide) rfl ?_
    exact E.1 _ _ _ _ _ _ _ dX7_got_50 rfl rfl (Nat.le_of_ble_eq_true rfl) (Nat.le_of_ble_eq_true rfl) ⟨_, rfl, HJ48⟩
  have J_16 : ∀ (y16_1 y16_2 : Int32) (hJ16 : List gA), tyS T R J Bc Bs M z hJ16 → gG X 16 [some (.ref 0), some (.int y16_1), some (.int y16_2), none] [] hJ16 0 0 := by
    intro y16_1 y16_2 hJ16 HJ16
    refine g_bipush (v := (-2)) (q := 18) C dX7_got_16 (by decide) rfl ?_
    exact E.1 _ _ _ _ _ _ _ dX7_got_18 rfl rfl (Nat.le_of_ble_eq_true rfl) (Nat.le_of_ble_eq_true rfl) ⟨_, rfl, HJ16⟩
  refine g_aload_n (q := 1) C dX7_got_0 rfl rfl ?_
  obtain ⟨x6_1, q4_1, q5_1, o1, e1_0, e1_1, e1_2⟩ := tyG7 H (rfl : tyK 0 = (0, 0))
  refine g_getfield (v := .int x6_1) (q := 4) C fX7_51 dX7_got_1 rfl o1 rfl ?_
  refine g_if_eq (t := 16) (q := 7) C dX7_got_4 (by decide) rfl (fun c_4 => ?_) (fun c_4 => ?_)
  ·
    exact J_16 _ _ _  H
  ·
    refine g_iload_n (q := 8) C dX7_got_7 rfl rfl ?_
    refine g_if_lt (t := 16) (q := 11) C dX7_got_8 (by decide) rfl (fun c_8 => ?_) (fun c_8 => ?_)
    ·
      exact J_16 _ _ _  H
    ·
      refine g_iload_n (q := 12) C dX7_got_11 rfl rfl ?_
      refine g_iconst (v := 1) (q := 13) C dX7_got_12 (by decide) rfl ?_
      refine g_icmp_le (t := 19) (q := 16) C dX7_got_13 (by decide) rfl (fun c_13 => ?_) (fun c_13 => ?_)
      ·
        refine g_aload_n (q := 20) C dX7_got_19 rfl rfl ?_
        refine g_iload_n (q := 21) C dX7_got_20 rfl rfl ?_
        refine g_callVrp (q := 24) (As := [.int a0]) C gyX7_sideOf gvX7_sideOf t_910 (tX7_sideOf H) dX7_got_21 rfl o1 rfl rfl rfl (Nat.le_of_ble_eq_true rfl) (Nat.le_of_ble_eq_true rfl) (Nat.le_of_ble_eq_true rfl) (Nat.le_of_ble_eq_true rfl) (Nat.le_of_ble_eq_true rfl) rfl (fun r2 h2 q2 => ?_)
        obtain ⟨k2, H2⟩ := q2
        refine g_astore_n (q := 25) C dX7_got_24 (Nat.le_of_ble_eq_true rfl) (by simp only [gset]; rfl) rfl ?_
        refine g_aload_n (q := 26) C dX7_got_25 rfl rfl ?_
        obtain ⟨x0_3, x1_3, x2_3, x3_3, x4_3, x5_3, x6_3, x7_3, x11_3, x12_3, x13_3, x14_3, o3, e3_0⟩ := tyG5 H2 k2
        refine g_getfield (v := .int x7_3) (q := 29) C fX7_153 dX7_got_26 rfl o3 rfl ?_
        refine g_if_eq (t := 48) (q := 32) C dX7_got_29 (by decide) rfl (fun c_29 => ?_) (fun c_29 => ?_)
        ·
          exact J_48 _ _ _ k2 _  H2
        ·
          refine g_iload_n (q := 33) C dX7_got_32 rfl rfl ?_
          refine g_iconst (v := (-1)) (q := 34) C dX7_got_33 (by decide) rfl ?_
          refine g_icmp_lt (t := 48) (q := 37) C dX7_got_34 (by decide) rfl (fun c_34 => ?_) (fun c_34 => ?_)
          ·
            exact J_48 _ _ _ k2 _  H2
          ·
            refine g_iload_n (q := 38) C dX7_got_37 rfl rfl ?_
            refine g_aload_n (q := 39) C dX7_got_38 rfl rfl ?_
            refine g_getfieldW (v := .ref ((r2 + 3))) (q := 42) C fX7_156 dX7_got_39 rfl o3 rfl ?_
            obtain ⟨l4, g4, -⟩ := tyRow H2 (tyF5_9 k2)
            refine g_callVip (q := 45) (As := []) C gyX4_size gvX4_size t_463 (tX4_size H2 (tyF5_9 k2)) dX7_got_42 rfl g4.obj rfl rfl rfl (Nat.le_of_ble_eq_true rfl) (Nat.le_of_ble_eq_true rfl) (Nat.le_of_ble_eq_true rfl) (Nat.le_of_ble_eq_true rfl) (Nat.le_of_ble_eq_true rfl) rfl (fun x5 h5 q5 => ?_)
            subst q5
            refine g_icmp_lt (t := 51) (q := 48) C dX7_got_45 (by decide) rfl (fun c_45 => ?_) (fun c_45 => ?_)
            ·
              refine g_iload_n (q := 52) C dX7_got_51 rfl rfl ?_
              refine g_iconst (v := (-1)) (q := 53) C dX7_got_52 (by decide) rfl ?_
              refine g_icmp_ne (t := 66) (q := 56) C dX7_got_53 (by decide) rfl (fun c_53 => ?_) (fun c_53 => ?_)
              ·
                refine g_aload_n (q := 67) C dX7_got_66 rfl rfl ?_
                refine g_getfieldW (v := .ref ((r2 + 3))) (q := 70) C fX7_156 dX7_got_67 rfl o3 rfl ?_
                refine g_iload_n (q := 71) C dX7_got_70 rfl rfl ?_
                refine g_callVip (q := 74) (As := [.int a1]) C gyX4_at gvX4_at t_922 (tX4_at H2 (tyF5_9 k2)) dX7_got_71 rfl g4.obj rfl rfl rfl (Nat.le_of_ble_eq_true rfl) (Nat.le_of_ble_eq_true rfl) (Nat.le_of_ble_eq_true rfl) (Nat.le_of_ble_eq_true rfl) (Nat.le_of_ble_eq_true rfl) rfl (fun x6 h6 q6 => ?_)
                subst q6
                exact E.1 _ _ _ _ _ _ _ dX7_got_74 rfl rfl (Nat.le_of_ble_eq_true rfl) (Nat.le_of_ble_eq_true rfl) ⟨_, rfl, H2⟩
              ·
                refine g_aload_n (q := 57) C dX7_got_56 rfl rfl ?_
                refine g_getfieldW (v := .ref ((r2 + 3))) (q := 60) C fX7_156 dX7_got_57 rfl o3 rfl ?_
                refine g_callVip (q := 63) (As := []) C gyX4_size gvX4_size t_463 (tX4_size H2 (tyF5_9 k2)) dX7_got_60 rfl g4.obj rfl rfl rfl (Nat.le_of_ble_eq_true rfl) (Nat.le_of_ble_eq_true rfl) (Nat.le_of_ble_eq_true rfl) (Nat.le_of_ble_eq_true rfl) (Nat.le_of_ble_eq_true rfl) rfl (fun x7 h7 q7 => ?_)
                subst q7
                refine g_goto (q := 74) C dX7_got_63 (by decide) ?_
                exact E.1 _ _ _ _ _ _ _ dX7_got_74 rfl rfl (Nat.le_of_ble_eq_true rfl) (Nat.le_of_ble_eq_true rfl) ⟨_, rfl, H2⟩
            ·
              exact J_48 _ _ _ k2 _  H2
      ·
        exact J_16 _ _ _  H
theorem dX7_side_0 : decode cX7_side 0 = .ok (.aload_n 0, 1) := by decide +kernel
theorem dX7_side_1 : decode cX7_side 1 = .ok (.getfield 51, 3) := by decide +kernel
theorem dX7_side_4 : decode cX7_side 4 = .ok (.ifCond .eq 12, 3) := by decide +kernel
theorem dX7_side_7 : decode cX7_side 7 = .ok (.iload_n 1, 1) := by decide +kernel
theorem dX7_side_8 : decode cX7_side 8 = .ok (.ifCond .lt 8, 3) := by decide +kernel
theorem dX7_side_11 : decode cX7_side 11 = .ok (.iload_n 1, 1) := by decide +kernel
theorem dX7_side_12 : decode cX7_side 12 = .ok (.iconst 1, 1) := by decide +kernel
theorem dX7_side_13 : decode cX7_side 13 = .ok (.if_icmp .le 6, 3) := by decide +kernel
theorem dX7_side_16 : decode cX7_side 16 = .ok (.bipush (-2), 2) := by decide +kernel
theorem dX7_side_18 : decode cX7_side 18 = .ok (.ireturn, 1) := by decide +kernel
theorem dX7_side_19 : decode cX7_side 19 = .ok (.aload_n 0, 1) := by decide +kernel
theorem dX7_side_20 : decode cX7_side 20 = .ok (.iload_n 1, 1) := by decide +kernel
theorem dX7_side_21 : decode cX7_side 21 = .ok (.invokevirtual 139, 3) := by decide +kernel
theorem dX7_side_24 : decode cX7_side 24 = .ok (.iload_n 2, 1) := by decide +kernel
theorem dX7_side_25 : decode cX7_side 25 = .ok (.invokevirtual 143, 3) := by decide +kernel
theorem dX7_side_28 : decode cX7_side 28 = .ok (.ireturn, 1) := by decide +kernel
set_option maxRecDepth 100000 in
set_option maxHeartbeats 4000000 in
theorem tX7_side {T : tyT} {R : Nat} {J : Nat → Prop} {Bc Bs : Nat} {M : gMd} {z : Nat → Nat} {hp : List gA} {a0 : Int32} {a1 : Int32}  (H : tyS T R J Bc Bs M z hp)  : gM yX7_side cX7_side 3 ((some .int)) 2 41 [.ref 0, .int a0, .int a1] (hp) (0) (0) (fun v h => ∃ x, v = some (.int x) ∧ tyS T R J Bc Bs M z h) := by
  refine gM_of (ls0 := [some (.ref 0), some (.int a0), some (.int a1)]) (by decide +kernel) (Nat.le_of_ble_eq_true rfl) rfl fun X C E => ?_
  have J_16 : ∀ (y16_1 y16_2 : Int32) (hJ16 : List gA), tyS T R J Bc Bs M z hJ16 → gG X 16 [some (.ref 0), some (.int y16_1), some (.int y16_2)] [] hJ16 0 0 := by
    intro y16_1 y16_2 hJ16 HJ16
    refine g_bipush (v := (-2)) (q := 18) C dX7_side_16 (by decide) rfl ?_
    exact E.1 _ _ _ _ _ _ _ dX7_side_18 rfl rfl (Nat.le_of_ble_eq_true rfl) (Nat.le_of_ble_eq_true rfl) ⟨_, rfl, HJ16⟩
  refine g_aload_n (q := 1) C dX7_side_0 rfl rfl ?_
  obtain ⟨x6_1, q4_1, q5_1, o1, e1_0, e1_1, e1_2⟩ := tyG7 H (rfl : tyK 0 = (0, 0))
  refine g_getfield (v := .int x6_1) (q := 4) C fX7_51 dX7_side_1 rfl o1 rfl ?_
  refine g_if_eq (t := 16) (q := 7) C dX7_side_4 (by decide) rfl (fun c_4 => ?_) (fun c_4 => ?_)
  ·
    exact J_16 _ _ _  H
  ·
    refine g_iload_n (q := 8) C dX7_side_7 rfl rfl ?_
    refine g_if_lt (t := 16) (q := 11) C dX7_side_8 (by decide) rfl (fun c_8 => ?_) (fun c_8 => ?_)
    ·
      exact J_16 _ _ _  H
    ·
      refine g_iload_n (q := 12) C dX7_side_11 rfl rfl ?_
      refine g_iconst (v := 1) (q := 13) C dX7_side_12 (by decide) rfl ?_
      refine g_icmp_le (t := 19) (q := 16) C dX7_side_13 (by decide) rfl (fun c_13 => ?_) (fun c_13 => ?_)
      ·
        refine g_aload_n (q := 20) C dX7_side_19 rfl rfl ?_
        refine g_iload_n (q := 21) C dX7_side_20 rfl rfl ?_
        refine g_callVrp (q := 24) (As := [.int a0]) C gyX7_sideOf gvX7_sideOf t_910 (tX7_sideOf H) dX7_side_21 rfl o1 rfl rfl rfl (Nat.le_of_ble_eq_true rfl) (Nat.le_of_ble_eq_true rfl) (Nat.le_of_ble_eq_true rfl) (Nat.le_of_ble_eq_true rfl) (Nat.le_of_ble_eq_true rfl) rfl (fun r2 h2 q2 => ?_)
        obtain ⟨k2, H2⟩ := q2
        refine g_iload_n (q := 25) C dX7_side_24 rfl rfl ?_
        obtain ⟨x0_3, x1_3, x2_3, x3_3, x4_3, x5_3, x6_3, x7_3, x11_3, x12_3, x13_3, x14_3, o3, e3_0⟩ := tyG5 H2 k2
        refine g_callVip (q := 28) (As := [.int a1]) C gyX5_tell gvX5_tell t_914 (tX5_tell H2 k2) dX7_side_25 rfl o3 rfl rfl rfl (Nat.le_of_ble_eq_true rfl) (Nat.le_of_ble_eq_true rfl) (Nat.le_of_ble_eq_true rfl) (Nat.le_of_ble_eq_true rfl) (Nat.le_of_ble_eq_true rfl) rfl (fun x4 h4 q4 => ?_)
        have H4 := q4
        exact E.1 _ _ _ _ _ _ _ dX7_side_28 rfl rfl (Nat.le_of_ble_eq_true rfl) (Nat.le_of_ble_eq_true rfl) ⟨_, rfl, H4⟩
      ·
        exact J_16 _ _ _  H
theorem dX7_step_0 : decode cX7_step 0 = .ok (.iload_n 1, 1) := by decide +kernel
theorem dX7_step_1 : decode cX7_step 1 = .ok (.iconst 1, 1) := by decide +kernel
theorem dX7_step_2 : decode cX7_step 2 = .ok (.if_icmp .lt 16, 3) := by decide +kernel
theorem dX7_step_5 : decode cX7_step 5 = .ok (.iload_n 1, 1) := by decide +kernel
theorem dX7_step_6 : decode cX7_step 6 = .ok (.bipush 60, 2) := by decide +kernel
theorem dX7_step_8 : decode cX7_step 8 = .ok (.if_icmp .gt 10, 3) := by decide +kernel
theorem dX7_step_11 : decode cX7_step 11 = .ok (.aload_n 0, 1) := by decide +kernel
theorem dX7_step_12 : decode cX7_step 12 = .ok (.invokevirtual 133, 3) := by decide +kernel
theorem dX7_step_15 : decode cX7_step 15 = .ok (.ifCond .ne 5, 3) := by decide +kernel
theorem dX7_step_18 : decode cX7_step 18 = .ok (.iconst (-1), 1) := by decide +kernel
theorem dX7_step_19 : decode cX7_step 19 = .ok (.ireturn, 1) := by decide +kernel
theorem dX7_step_20 : decode cX7_step 20 = .ok (.aload_n 0, 1) := by decide +kernel
theorem dX7_step_21 : decode cX7_step 21 = .ok (.getfield 37, 3) := by decide +kernel
theorem dX7_step_24 : decode cX7_step 24 = .ok (.invokevirtual 83, 3) := by decide +kernel
theorem dX7_step_27 : decode cX7_step 27 = .ok (.aload_n 0, 1) := by decide +kernel
theorem dX7_step_28 : decode cX7_step 28 = .ok (.getfield 30, 3) := by decide +kernel
theorem dX7_step_31 : decode cX7_step 31 = .ok (.iload_n 1, 1) := by decide +kernel
theorem dX7_step_32 : decode cX7_step 32 = .ok (.invokevirtual 136, 3) := by decide +kernel
theorem dX7_step_35 : decode cX7_step 35 = .ok (.ireturn, 1) := by decide +kernel
set_option maxRecDepth 100000 in
set_option maxHeartbeats 4000000 in
theorem tX7_step {T : tyT} {R : Nat} {J : Nat → Prop} {Bc Bs : Nat} {M : gMd} {z : Nat → Nat} {hp : List gA} {a0 : Int32}  (H : tyS T R J Bc Bs M z hp)  : gM yX7_step cX7_step 2 ((some .int)) 8 223 [.ref 0, .int a0] (hp) (300000 - hp.length) (7000000 - gsz hp) (fun v h => ∃ x, v = some (.int x) ∧ ∃ z', tyS T R J Bc Bs M z' h) := by
  refine gM_ofT (ls0 := [some (.ref 0), some (.int a0)]) (by decide +kernel) (Nat.le_of_ble_eq_true rfl) rfl fun X C E h0 => ?_
  have J_18 : ∀ (y18_1 : Int32) (zJ18 : Nat → Nat) (hJ18 : List gA), tyS T R J Bc Bs M zJ18 hJ18 → gG X 18 [some (.ref 0), some (.int y18_1)] [] hJ18 (hJ18.length - hp.length) (gsz hJ18 - gsz hp) := by
    intro y18_1 zJ18 hJ18 HJ18
    refine g_iconst (v := (-1)) (q := 19) C dX7_step_18 (by decide) rfl ?_
    refine g_tight h0 H.2.2.2.1 HJ18.2.2.2.1 (fun ta1 tb1 => ?_)
    have lm1 := HJ18.lim
    exact E.1 _ _ _ _ _ _ _ dX7_step_19 rfl rfl (by omega) (by omega) ⟨_, rfl, ⟨_, HJ18⟩⟩
  refine g_iload_n (q := 1) C dX7_step_0 rfl rfl ?_
  refine g_iconst (v := 1) (q := 2) C dX7_step_1 (by decide) rfl ?_
  refine g_icmp_lt (t := 18) (q := 5) C dX7_step_2 (by decide) rfl (fun c_2 => ?_) (fun c_2 => ?_)
  ·
    refine g_tight h0 H.2.2.2.1 H.2.2.2.1 (fun ta2 tb2 => ?_)
    exact J_18 _ _ _  H
  ·
    refine g_iload_n (q := 6) C dX7_step_5 rfl rfl ?_
    refine g_bipush (v := 60) (q := 8) C dX7_step_6 (by decide) rfl ?_
    refine g_icmp_gt (t := 18) (q := 11) C dX7_step_8 (by decide) rfl (fun c_8 => ?_) (fun c_8 => ?_)
    ·
      refine g_tight h0 H.2.2.2.1 H.2.2.2.1 (fun ta3 tb3 => ?_)
      exact J_18 _ _ _  H
    ·
      refine g_aload_n (q := 12) C dX7_step_11 rfl rfl ?_
      obtain ⟨x6_4, q4_4, q5_4, o4, e4_0, e4_1, e4_2⟩ := tyG7 H (rfl : tyK 0 = (0, 0))
      refine g_tight h0 H.2.2.2.1 H.2.2.2.1 (fun ta5 tb5 => ?_)
      have lm5 := H.lim
      refine g_callVip (q := 15) (As := []) C gyX7_onWay gvX7_onWay t_677 (tX7_onWay H) dX7_step_12 rfl o4 rfl rfl rfl (Nat.le_of_ble_eq_true rfl) (Nat.le_of_ble_eq_true rfl) (Nat.le_of_ble_eq_true rfl) (by show _ + _ ≤ 300000 - List.length hp; omega) (by show _ + _ ≤ 7000000 - gsz hp; omega) rfl (fun x6 h6 q6 => ?_)
      obtain ⟨b6, H6⟩ := q6
      refine g_if_ne (t := 20) (q := 18) C dX7_step_15 (by decide) rfl (fun c_15 => ?_) (fun c_15 => ?_)
      ·
        refine g_aload_n (q := 21) C dX7_step_20 rfl rfl ?_
        obtain ⟨x6_7, q4_7, q5_7, o7, e7_0, e7_1, e7_2⟩ := tyG7 H6 (rfl : tyK 0 = (0, 0))
        refine g_getfield (v := .ref 43) (q := 24) C fX7_37 dX7_step_21 rfl o7 rfl ?_
        obtain ⟨x3_8, o8, e8_0⟩ := tyG0 H6 (rfl : tyK 43 = (8, 0))
        refine g_tight h0 H.2.2.2.1 H6.2.2.2.1 (fun ta9 tb9 => ?_)
        have lm9 := H6.lim
        refine g_callVvp (q := 27) (As := []) C gyX0_forget gvX0_forget t_587 (tX0_forget H6) dX7_step_24 rfl o8 rfl rfl rfl (Nat.le_of_ble_eq_true rfl) (Nat.le_of_ble_eq_true rfl) (Nat.le_of_ble_eq_true rfl) (by show _ + _ ≤ 300000 - List.length hp; omega) (by show _ + _ ≤ 7000000 - gsz hp; omega) rfl (fun h10 q10 => ?_)
        have H10 := q10
        refine g_aload_n (q := 28) C dX7_step_27 rfl rfl ?_
        obtain ⟨x6_11, q4_11, q5_11, o11, e11_0, e11_1, e11_2⟩ := tyG7 H10 (rfl : tyK 0 = (0, 0))
        refine g_getfield (v := .ref 20) (q := 31) C fX7_30 dX7_step_28 rfl o11 rfl ?_
        refine g_iload_n (q := 32) C dX7_step_31 rfl rfl ?_
        obtain ⟨x3_12, x4_12, x5_12, x6_12, x7_12, x11_12, x12_12, x13_12, x14_12, x15_12, x16_12, x17_12, jv_12, o12, e12_0, e12_1, e12_2, e12_3⟩ := tyG2 H10 (rfl : tyK 20 = (7, 0))
        refine g_tight h0 H.2.2.2.1 H10.2.2.2.1 (fun ta13 tb13 => ?_)
        have lm13 := H10.lim
        refine g_callVip (q := 35) (As := [.int a0]) C gyX2_run gvX2_run t_681 (tX2_run H10 (rfl : tyK 20 = (7, 0))) dX7_step_32 rfl o12 rfl rfl rfl (Nat.le_of_ble_eq_true rfl) (Nat.le_of_ble_eq_true rfl) (Nat.le_of_ble_eq_true rfl) (by show _ + _ ≤ 300000 - List.length hp; omega) (by show _ + _ ≤ 7000000 - gsz hp; omega) rfl (fun x14 h14 q14 => ?_)
        obtain ⟨z14, H14⟩ := q14
        refine g_tight h0 H.2.2.2.1 H14.2.2.2.1 (fun ta15 tb15 => ?_)
        have lm15 := H14.lim
        exact E.1 _ _ _ _ _ _ _ dX7_step_35 rfl rfl (by omega) (by omega) ⟨_, rfl, ⟨_, H14⟩⟩
      ·
        refine g_tight h0 H.2.2.2.1 H6.2.2.2.1 (fun ta16 tb16 => ?_)
        exact J_18 _ _ _  H6
theorem dX7_would_0 : decode cX7_would 0 = .ok (.aload_n 0, 1) := by decide +kernel
theorem dX7_would_1 : decode cX7_would 1 = .ok (.invokevirtual 133, 3) := by decide +kernel
theorem dX7_would_4 : decode cX7_would 4 = .ok (.ifCond .ne 5, 3) := by decide +kernel
theorem dX7_would_7 : decode cX7_would 7 = .ok (.iconst (-1), 1) := by decide +kernel
theorem dX7_would_8 : decode cX7_would 8 = .ok (.ireturn, 1) := by decide +kernel
theorem dX7_would_9 : decode cX7_would 9 = .ok (.aload_n 0, 1) := by decide +kernel
theorem dX7_would_10 : decode cX7_would 10 = .ok (.getfield 37, 3) := by decide +kernel
theorem dX7_would_13 : decode cX7_would 13 = .ok (.aload_n 0, 1) := by decide +kernel
theorem dX7_would_14 : decode cX7_would 14 = .ok (.getfield 30, 3) := by decide +kernel
theorem dX7_would_17 : decode cX7_would 17 = .ok (.invokevirtual 174, 3) := by decide +kernel
theorem dX7_would_20 : decode cX7_would 20 = .ok (.astore_n 2, 1) := by decide +kernel
theorem dX7_would_21 : decode cX7_would 21 = .ok (.iload_n 1, 1) := by decide +kernel
theorem dX7_would_22 : decode cX7_would 22 = .ok (.tableswitch 100 0 3 #[30, 35, 48, 67], 30) := by decide +kernel
theorem dX7_would_52 : decode cX7_would 52 = .ok (.aload_n 2, 1) := by decide +kernel
theorem dX7_would_53 : decode cX7_would 53 = .ok (.getfield 110, 3) := by decide +kernel
theorem dX7_would_56 : decode cX7_would 56 = .ok (.ireturn, 1) := by decide +kernel
theorem dX7_would_57 : decode cX7_would 57 = .ok (.aload_n 2, 1) := by decide +kernel
theorem dX7_would_58 : decode cX7_would 58 = .ok (.invokevirtual 178, 3) := by decide +kernel
theorem dX7_would_61 : decode cX7_would 61 = .ok (.aload_n 0, 1) := by decide +kernel
theorem dX7_would_62 : decode cX7_would 62 = .ok (.getfield 30, 3) := by decide +kernel
theorem dX7_would_65 : decode cX7_would 65 = .ok (.invokevirtual 178, 3) := by decide +kernel
theorem dX7_would_68 : decode cX7_would 68 = .ok (.isub, 1) := by decide +kernel
theorem dX7_would_69 : decode cX7_would 69 = .ok (.ireturn, 1) := by decide +kernel
theorem dX7_would_70 : decode cX7_would 70 = .ok (.aload_n 2, 1) := by decide +kernel
theorem dX7_would_71 : decode cX7_would 71 = .ok (.getfield 114, 3) := by decide +kernel
theorem dX7_would_74 : decode cX7_would 74 = .ok (.getfield 181, 3) := by decide +kernel
theorem dX7_would_77 : decode cX7_would 77 = .ok (.aload_n 0, 1) := by decide +kernel
theorem dX7_would_78 : decode cX7_would 78 = .ok (.getfield 30, 3) := by decide +kernel
theorem dX7_would_81 : decode cX7_would 81 = .ok (.getfield 114, 3) := by decide +kernel
theorem dX7_would_84 : decode cX7_would 84 = .ok (.getfield 181, 3) := by decide +kernel
theorem dX7_would_87 : decode cX7_would 87 = .ok (.isub, 1) := by decide +kernel
theorem dX7_would_88 : decode cX7_would 88 = .ok (.ireturn, 1) := by decide +kernel
theorem dX7_would_89 : decode cX7_would 89 = .ok (.aload_n 2, 1) := by decide +kernel
theorem dX7_would_90 : decode cX7_would 90 = .ok (.getfield 110, 3) := by decide +kernel
theorem dX7_would_93 : decode cX7_would 93 = .ok (.iconst 2, 1) := by decide +kernel
theorem dX7_would_94 : decode cX7_would 94 = .ok (.if_icmp .ne 26, 3) := by decide +kernel
theorem dX7_would_97 : decode cX7_would 97 = .ok (.aload_n 2, 1) := by decide +kernel
theorem dX7_would_98 : decode cX7_would 98 = .ok (.getfield 146, 3) := by decide +kernel
theorem dX7_would_101 : decode cX7_would 101 = .ok (.getfield 153, 3) := by decide +kernel
theorem dX7_would_104 : decode cX7_would 104 = .ok (.ifCond .le 16, 3) := by decide +kernel
theorem dX7_would_107 : decode cX7_would 107 = .ok (.aload_n 2, 1) := by decide +kernel
theorem dX7_would_108 : decode cX7_would 108 = .ok (.getfield 146, 3) := by decide +kernel
theorem dX7_would_111 : decode cX7_would 111 = .ok (.getfield 156, 3) := by decide +kernel
theorem dX7_would_114 : decode cX7_would 114 = .ok (.invokevirtual 55, 3) := by decide +kernel
theorem dX7_would_117 : decode cX7_would 117 = .ok (.goto 4, 3) := by decide +kernel
theorem dX7_would_120 : decode cX7_would 120 = .ok (.iconst (-1), 1) := by decide +kernel
theorem dX7_would_121 : decode cX7_would 121 = .ok (.ireturn, 1) := by decide +kernel
theorem dX7_would_122 : decode cX7_would 122 = .ok (.iconst (-1), 1) := by decide +kernel
theorem dX7_would_123 : decode cX7_would 123 = .ok (.ireturn, 1) := by decide +kernel
set_option maxRecDepth 100000 in
set_option maxHeartbeats 4000000 in
theorem tX7_would {T : tyT} {R : Nat} {J : Nat → Prop} {Bc Bs : Nat} {M : gMd} {z : Nat → Nat} {hp : List gA} {a0 : Int32}  (H : tyS T R J Bc Bs M z hp)  : gM yX7_would cX7_would 3 ((some .int)) 8 222 [.ref 0, .int a0] (hp) (300000 - hp.length) (7000000 - gsz hp) (fun v h => ∃ x, v = some (.int x) ∧ ∃ z', tyS T R J Bc Bs M z' h) := by
  refine gM_ofT (ls0 := [some (.ref 0), some (.int a0), none]) (by decide +kernel) (Nat.le_of_ble_eq_true rfl) rfl fun X C E h0 => ?_
  have J_120 : ∀ (y120_1 : Int32) (y120_2 : Nat) (ky120_2 : tyK y120_2 = (7, 0)) (zJ120 : Nat → Nat) (hJ120 : List gA), tyS T R J Bc Bs M zJ120 hJ120 → gG X 120 [some (.ref 0), some (.int y120_1), some (.ref y120_2)] [] hJ120 (hJ120.length - hp.length) (gsz hJ120 - gsz hp) := by
    intro y120_1 y120_2 ky120_2 zJ120 hJ120 HJ120
    refine g_iconst (v := (-1)) (q := 121) C dX7_would_120 (by decide) rfl ?_
    refine g_tight h0 H.2.2.2.1 HJ120.2.2.2.1 (fun ta1 tb1 => ?_)
    have lm1 := HJ120.lim
    exact E.1 _ _ _ _ _ _ _ dX7_would_121 rfl rfl (by omega) (by omega) ⟨_, rfl, ⟨_, HJ120⟩⟩
  refine g_aload_n (q := 1) C dX7_would_0 rfl rfl ?_
  obtain ⟨x6_2, q4_2, q5_2, o2, e2_0, e2_1, e2_2⟩ := tyG7 H (rfl : tyK 0 = (0, 0))
  refine g_tight h0 H.2.2.2.1 H.2.2.2.1 (fun ta3 tb3 => ?_)
  have lm3 := H.lim
  refine g_callVip (q := 4) (As := []) C gyX7_onWay gvX7_onWay t_677 (tX7_onWay H) dX7_would_1 rfl o2 rfl rfl rfl (Nat.le_of_ble_eq_true rfl) (Nat.le_of_ble_eq_true rfl) (Nat.le_of_ble_eq_true rfl) (by show _ + _ ≤ 300000 - List.length hp; omega) (by show _ + _ ≤ 7000000 - gsz hp; omega) rfl (fun x4 h4 q4 => ?_)
  obtain ⟨b4, H4⟩ := q4
  refine g_if_ne (t := 9) (q := 7) C dX7_would_4 (by decide) rfl (fun c_4 => ?_) (fun c_4 => ?_)
  ·
    refine g_aload_n (q := 10) C dX7_would_9 rfl rfl ?_
    obtain ⟨x6_5, q4_5, q5_5, o5, e5_0, e5_1, e5_2⟩ := tyG7 H4 (rfl : tyK 0 = (0, 0))
    refine g_getfield (v := .ref 43) (q := 13) C fX7_37 dX7_would_10 rfl o5 rfl ?_
    refine g_aload_n (q := 14) C dX7_would_13 rfl rfl ?_
    refine g_getfield (v := .ref 20) (q := 17) C fX7_30 dX7_would_14 rfl o5 rfl ?_
    obtain ⟨x3_6, o6, e6_0⟩ := tyG0 H4 (rfl : tyK 43 = (8, 0))
    refine g_tight h0 H.2.2.2.1 H4.2.2.2.1 (fun ta7 tb7 => ?_)
    have lm7 := H4.lim
    refine g_callVrp (q := 20) (As := [.ref 20]) C gyX0_outlook gvX0_outlook t_943 (tX0_outlook H4 (rfl : tyK 20 = (7, 0))) dX7_would_17 rfl o6 rfl rfl rfl (Nat.le_of_ble_eq_true rfl) (Nat.le_of_ble_eq_true rfl) (Nat.le_of_ble_eq_true rfl) (by show _ + _ ≤ 300000 - List.length hp; omega) (by show _ + _ ≤ 7000000 - gsz hp; omega) rfl (fun r8 h8 q8 => ?_)
    obtain ⟨k8, ⟨z8, H8⟩⟩ := q8
    refine g_astore_n (q := 21) C dX7_would_20 (Nat.le_of_ble_eq_true rfl) (by simp only [gset]; rfl) rfl ?_
    refine g_iload_n (q := 22) C dX7_would_21 rfl rfl ?_
    -- switch
    by_cases c_22_0 : a0 = 0
    · subst c_22_0
      refine g_tableIn (off := 30) (t := 52) C dX7_would_22 (by decide) (by decide) (by decide) (by decide) ?_
      refine g_aload_n (q := 53) C dX7_would_52 rfl rfl ?_
      obtain ⟨x3_9, x4_9, x5_9, x6_9, x7_9, x11_9, x12_9, x13_9, x14_9, x15_9, x16_9, x17_9, jv_9, o9, e9_0, e9_1, e9_2, e9_3⟩ := tyG2 H8 k8
      refine g_getfield (v := .int x3_9) (q := 56) C fX7_110 dX7_would_53 rfl o9 rfl ?_
      refine g_tight h0 H.2.2.2.1 H8.2.2.2.1 (fun ta10 tb10 => ?_)
      have lm10 := H8.lim
      exact E.1 _ _ _ _ _ _ _ dX7_would_56 rfl rfl (by omega) (by omega) ⟨_, rfl, ⟨_, H8⟩⟩
    by_cases c_22_1 : a0 = 1
    · subst c_22_1
      refine g_tableIn (off := 35) (t := 57) C dX7_would_22 (by decide) (by decide) (by decide) (by decide) ?_
      refine g_aload_n (q := 58) C dX7_would_57 rfl rfl ?_
      obtain ⟨x3_11, x4_11, x5_11, x6_11, x7_11, x11_11, x12_11, x13_11, x14_11, x15_11, x16_11, x17_11, jv_11, o11, e11_0, e11_1, e11_2, e11_3⟩ := tyG2 H8 k8
      refine g_tight h0 H.2.2.2.1 H8.2.2.2.1 (fun ta12 tb12 => ?_)
      have lm12 := H8.lim
      refine g_callVip (q := 61) (As := []) C gyX2_blocksSent gvX2_blocksSent t_960 (tX2_blocksSent H8 k8) dX7_would_58 rfl o11 rfl rfl rfl (Nat.le_of_ble_eq_true rfl) (Nat.le_of_ble_eq_true rfl) (Nat.le_of_ble_eq_true rfl) (by show _ + _ ≤ 300000 - List.length hp; omega) (by show _ + _ ≤ 7000000 - gsz hp; omega) rfl (fun x13 h13 q13 => ?_)
      have H13 := q13
      refine g_aload_n (q := 62) C dX7_would_61 rfl rfl ?_
      obtain ⟨x6_14, q4_14, q5_14, o14, e14_0, e14_1, e14_2⟩ := tyG7 H13 (rfl : tyK 0 = (0, 0))
      refine g_getfield (v := .ref 20) (q := 65) C fX7_30 dX7_would_62 rfl o14 rfl ?_
      obtain ⟨x3_15, x4_15, x5_15, x6_15, x7_15, x11_15, x12_15, x13_15, x14_15, x15_15, x16_15, x17_15, jv_15, o15, e15_0, e15_1, e15_2, e15_3⟩ := tyG2 H13 (rfl : tyK 20 = (7, 0))
      refine g_tight h0 H.2.2.2.1 H13.2.2.2.1 (fun ta16 tb16 => ?_)
      have lm16 := H13.lim
      refine g_callVip (q := 68) (As := []) C gyX2_blocksSent gvX2_blocksSent t_960 (tX2_blocksSent H13 (rfl : tyK 20 = (7, 0))) dX7_would_65 rfl o15 rfl rfl rfl (Nat.le_of_ble_eq_true rfl) (Nat.le_of_ble_eq_true rfl) (Nat.le_of_ble_eq_true rfl) (by show _ + _ ≤ 300000 - List.length hp; omega) (by show _ + _ ≤ 7000000 - gsz hp; omega) rfl (fun x17 h17 q17 => ?_)
      have H17 := q17
      refine g_isub (q := 69) C dX7_would_68 rfl ?_
      refine g_tight h0 H.2.2.2.1 H17.2.2.2.1 (fun ta18 tb18 => ?_)
      have lm18 := H17.lim
      exact E.1 _ _ _ _ _ _ _ dX7_would_69 rfl rfl (by omega) (by omega) ⟨_, rfl, ⟨_, H17⟩⟩
    by_cases c_22_2 : a0 = 2
    · subst c_22_2
      refine g_tableIn (off := 48) (t := 70) C dX7_would_22 (by decide) (by decide) (by decide) (by decide) ?_
      refine g_aload_n (q := 71) C dX7_would_70 rfl rfl ?_
      obtain ⟨x3_19, x4_19, x5_19, x6_19, x7_19, x11_19, x12_19, x13_19, x14_19, x15_19, x16_19, x17_19, jv_19, o19, e19_0, e19_1, e19_2, e19_3⟩ := tyG2 H8 k8
      refine g_getfieldW (v := .ref ((r8 + 15))) (q := 74) C fX7_114 dX7_would_71 rfl o19 rfl ?_
      obtain ⟨x0_20, x1_20, x2_20, x6_20, x7_20, x8_20, x9_20, o20, e20_0⟩ := tyG6 H8 (tyF2_2 k8)
      refine g_getfield (v := .int x1_20) (q := 77) C fX7_181 dX7_would_74 rfl o20 rfl ?_
      refine g_aload_n (q := 78) C dX7_would_77 rfl rfl ?_
      obtain ⟨x6_21, q4_21, q5_21, o21, e21_0, e21_1, e21_2⟩ := tyG7 H8 (rfl : tyK 0 = (0, 0))
      refine g_getfield (v := .ref 20) (q := 81) C fX7_30 dX7_would_78 rfl o21 rfl ?_
      obtain ⟨x3_22, x4_22, x5_22, x6_22, x7_22, x11_22, x12_22, x13_22, x14_22, x15_22, x16_22, x17_22, jv_22, o22, e22_0, e22_1, e22_2, e22_3⟩ := tyG2 H8 (rfl : tyK 20 = (7, 0))
      refine g_getfieldW (v := .ref ((20 + 15))) (q := 84) C fX7_114 dX7_would_81 rfl o22 rfl ?_
      obtain ⟨x0_23, x1_23, x2_23, x6_23, x7_23, x8_23, x9_23, o23, e23_0⟩ := tyG6 H8 (tyF2_2 (rfl : tyK 20 = (7, 0)))
      refine g_getfield (v := .int x1_23) (q := 87) C fX7_181 dX7_would_84 rfl o23 rfl ?_
      refine g_isub (q := 88) C dX7_would_87 rfl ?_
      refine g_tight h0 H.2.2.2.1 H8.2.2.2.1 (fun ta24 tb24 => ?_)
      have lm24 := H8.lim
      exact E.1 _ _ _ _ _ _ _ dX7_would_88 rfl rfl (by omega) (by omega) ⟨_, rfl, ⟨_, H8⟩⟩
    by_cases c_22_3 : a0 = 3
    · subst c_22_3
      refine g_tableIn (off := 67) (t := 89) C dX7_would_22 (by decide) (by decide) (by decide) (by decide) ?_
      refine g_aload_n (q := 90) C dX7_would_89 rfl rfl ?_
      obtain ⟨x3_25, x4_25, x5_25, x6_25, x7_25, x11_25, x12_25, x13_25, x14_25, x15_25, x16_25, x17_25, jv_25, o25, e25_0, e25_1, e25_2, e25_3⟩ := tyG2 H8 k8
      refine g_getfield (v := .int x3_25) (q := 93) C fX7_110 dX7_would_90 rfl o25 rfl ?_
      refine g_iconst (v := 2) (q := 94) C dX7_would_93 (by decide) rfl ?_
      refine g_icmp_ne (t := 120) (q := 97) C dX7_would_94 (by decide) rfl (fun c_94 => ?_) (fun c_94 => ?_)
      ·
        refine g_tight h0 H.2.2.2.1 H8.2.2.2.1 (fun ta26 tb26 => ?_)
        exact J_120 _ _ k8 _ _  H8
      ·
        refine g_aload_n (q := 98) C dX7_would_97 rfl rfl ?_
        refine g_getfieldW (v := .ref ((r8 + 1))) (q := 101) C fX7_146 dX7_would_98 rfl o25 rfl ?_
        obtain ⟨x0_27, x1_27, x2_27, x3_27, x4_27, x5_27, x6_27, x7_27, x11_27, x12_27, x13_27, x14_27, o27, e27_0⟩ := tyG5 H8 (tyF2_0 k8)
        refine g_getfield (v := .int x7_27) (q := 104) C fX7_153 dX7_would_101 rfl o27 rfl ?_
        refine g_if_le (t := 120) (q := 107) C dX7_would_104 (by decide) rfl (fun c_104 => ?_) (fun c_104 => ?_)
        ·
          refine g_tight h0 H.2.2.2.1 H8.2.2.2.1 (fun ta28 tb28 => ?_)
          exact J_120 _ _ k8 _ _  H8
        ·
          refine g_aload_n (q := 108) C dX7_would_107 rfl rfl ?_
          refine g_getfieldW (v := .ref ((r8 + 1))) (q := 111) C fX7_146 dX7_would_108 rfl o25 rfl ?_
          refine g_getfieldW (v := .ref (((r8 + 1) + 3))) (q := 114) C fX7_156 dX7_would_111 rfl o27 rfl ?_
          obtain ⟨l29, g29, -⟩ := tyRow H8 (tyF5_9 (tyF2_0 k8))
          refine g_tight h0 H.2.2.2.1 H8.2.2.2.1 (fun ta30 tb30 => ?_)
          have lm30 := H8.lim
          refine g_callVip (q := 117) (As := []) C gyX4_size gvX4_size t_463 (tX4_size H8 (tyF5_9 (tyF2_0 k8))) dX7_would_114 rfl g29.obj rfl rfl rfl (Nat.le_of_ble_eq_true rfl) (Nat.le_of_ble_eq_true rfl) (Nat.le_of_ble_eq_true rfl) (by show _ + _ ≤ 300000 - List.length hp; omega) (by show _ + _ ≤ 7000000 - gsz hp; omega) rfl (fun x31 h31 q31 => ?_)
          subst q31
          refine g_goto (q := 121) C dX7_would_117 (by decide) ?_
          refine g_tight h0 H.2.2.2.1 H8.2.2.2.1 (fun ta32 tb32 => ?_)
          have lm32 := H8.lim
          exact E.1 _ _ _ _ _ _ _ dX7_would_121 rfl rfl (by omega) (by omega) ⟨_, rfl, ⟨_, H8⟩⟩
    refine g_tableOut (t := 122) C dX7_would_22 (gOut4 c_22_0 c_22_1 c_22_2 c_22_3) (by decide) ?_
    refine g_iconst (v := (-1)) (q := 123) C dX7_would_122 (by decide) rfl ?_
    refine g_tight h0 H.2.2.2.1 H8.2.2.2.1 (fun ta33 tb33 => ?_)
    have lm33 := H8.lim
    exact E.1 _ _ _ _ _ _ _ dX7_would_123 rfl rfl (by omega) (by omega) ⟨_, rfl, ⟨_, H8⟩⟩
  ·
    refine g_iconst (v := (-1)) (q := 8) C dX7_would_7 (by decide) rfl ?_
    refine g_tight h0 H.2.2.2.1 H4.2.2.2.1 (fun ta34 tb34 => ?_)
    have lm34 := H4.lim
    exact E.1 _ _ _ _ _ _ _ dX7_would_8 rfl rfl (by omega) (by omega) ⟨_, rfl, ⟨_, H4⟩⟩
theorem dX7_harm_0 : decode cX7_harm 0 = .ok (.iload_n 1, 1) := by decide +kernel
theorem dX7_harm_1 : decode cX7_harm 1 = .ok (.iconst 1, 1) := by decide +kernel
theorem dX7_harm_2 : decode cX7_harm 2 = .ok (.if_icmp .lt 24, 3) := by decide +kernel
theorem dX7_harm_5 : decode cX7_harm 5 = .ok (.iload_n 1, 1) := by decide +kernel
theorem dX7_harm_6 : decode cX7_harm 6 = .ok (.iconst 3, 1) := by decide +kernel
theorem dX7_harm_7 : decode cX7_harm 7 = .ok (.if_icmp .gt 19, 3) := by decide +kernel
theorem dX7_harm_10 : decode cX7_harm 10 = .ok (.iload_n 2, 1) := by decide +kernel
theorem dX7_harm_11 : decode cX7_harm 11 = .ok (.ifCond .lt 15, 3) := by decide +kernel
theorem dX7_harm_14 : decode cX7_harm 14 = .ok (.iload_n 2, 1) := by decide +kernel
theorem dX7_harm_15 : decode cX7_harm 15 = .ok (.iconst 1, 1) := by decide +kernel
theorem dX7_harm_16 : decode cX7_harm 16 = .ok (.if_icmp .gt 10, 3) := by decide +kernel
theorem dX7_harm_19 : decode cX7_harm 19 = .ok (.aload_n 0, 1) := by decide +kernel
theorem dX7_harm_20 : decode cX7_harm 20 = .ok (.invokevirtual 133, 3) := by decide +kernel
theorem dX7_harm_23 : decode cX7_harm 23 = .ok (.ifCond .ne 5, 3) := by decide +kernel
theorem dX7_harm_26 : decode cX7_harm 26 = .ok (.iconst (-1), 1) := by decide +kernel
theorem dX7_harm_27 : decode cX7_harm 27 = .ok (.ireturn, 1) := by decide +kernel
theorem dX7_harm_28 : decode cX7_harm 28 = .ok (.aload_n 0, 1) := by decide +kernel
theorem dX7_harm_29 : decode cX7_harm 29 = .ok (.getfield 37, 3) := by decide +kernel
theorem dX7_harm_32 : decode cX7_harm 32 = .ok (.aload_n 0, 1) := by decide +kernel
theorem dX7_harm_33 : decode cX7_harm 33 = .ok (.getfield 30, 3) := by decide +kernel
theorem dX7_harm_36 : decode cX7_harm 36 = .ok (.invokevirtual 174, 3) := by decide +kernel
theorem dX7_harm_39 : decode cX7_harm 39 = .ok (.getfield 110, 3) := by decide +kernel
theorem dX7_harm_42 : decode cX7_harm 42 = .ok (.iconst 2, 1) := by decide +kernel
theorem dX7_harm_43 : decode cX7_harm 43 = .ok (.if_icmp .eq 5, 3) := by decide +kernel
theorem dX7_harm_46 : decode cX7_harm 46 = .ok (.iconst (-1), 1) := by decide +kernel
theorem dX7_harm_47 : decode cX7_harm 47 = .ok (.ireturn, 1) := by decide +kernel
theorem dX7_harm_48 : decode cX7_harm 48 = .ok (.aload_n 0, 1) := by decide +kernel
theorem dX7_harm_49 : decode cX7_harm 49 = .ok (.getfield 37, 3) := by decide +kernel
theorem dX7_harm_52 : decode cX7_harm 52 = .ok (.aload_n 0, 1) := by decide +kernel
theorem dX7_harm_53 : decode cX7_harm 53 = .ok (.getfield 30, 3) := by decide +kernel
theorem dX7_harm_56 : decode cX7_harm 56 = .ok (.iload_n 1, 1) := by decide +kernel
theorem dX7_harm_57 : decode cX7_harm 57 = .ok (.invokevirtual 184, 3) := by decide +kernel
theorem dX7_harm_60 : decode cX7_harm 60 = .ok (.iload_n 2, 1) := by decide +kernel
theorem dX7_harm_61 : decode cX7_harm 61 = .ok (.ifCond .ne 14, 3) := by decide +kernel
theorem dX7_harm_64 : decode cX7_harm 64 = .ok (.aload_n 0, 1) := by decide +kernel
theorem dX7_harm_65 : decode cX7_harm 65 = .ok (.getfield 37, 3) := by decide +kernel
theorem dX7_harm_68 : decode cX7_harm 68 = .ok (.iload_n 1, 1) := by decide +kernel
theorem dX7_harm_69 : decode cX7_harm 69 = .ok (.invokevirtual 188, 3) := by decide +kernel
theorem dX7_harm_72 : decode cX7_harm 72 = .ok (.goto 11, 3) := by decide +kernel
theorem dX7_harm_75 : decode cX7_harm 75 = .ok (.aload_n 0, 1) := by decide +kernel
theorem dX7_harm_76 : decode cX7_harm 76 = .ok (.getfield 37, 3) := by decide +kernel
theorem dX7_harm_79 : decode cX7_harm 79 = .ok (.iload_n 1, 1) := by decide +kernel
theorem dX7_harm_80 : decode cX7_harm 80 = .ok (.invokevirtual 191, 3) := by decide +kernel
theorem dX7_harm_83 : decode cX7_harm 83 = .ok (.ireturn, 1) := by decide +kernel
set_option maxRecDepth 100000 in
set_option maxHeartbeats 4000000 in
theorem tX7_harm {T : tyT} {R : Nat} {J : Nat → Prop} {Bc Bs : Nat} {M : gMd} {z : Nat → Nat} {hp : List gA} {a0 : Int32} {a1 : Int32}  (H : tyS T R J Bc Bs M z hp)  : gM yX7_harm cX7_harm 3 ((some .int)) 8 227 [.ref 0, .int a0, .int a1] (hp) (300000 - hp.length) (7000000 - gsz hp) (fun v h => ∃ x, v = some (.int x) ∧ ∃ z', tyS T R J Bc Bs M z' h) := by
  refine gM_ofT (ls0 := [some (.ref 0), some (.int a0), some (.int a1)]) (by decide +kernel) (Nat.le_of_ble_eq_true rfl) rfl fun X C E h0 => ?_
  have J_26 : ∀ (y26_1 y26_2 : Int32) (zJ26 : Nat → Nat) (hJ26 : List gA), tyS T R J Bc Bs M zJ26 hJ26 → gG X 26 [some (.ref 0), some (.int y26_1), some (.int y26_2)] [] hJ26 (hJ26.length - hp.length) (gsz hJ26 - gsz hp) := by
    intro y26_1 y26_2 zJ26 hJ26 HJ26
    refine g_iconst (v := (-1)) (q := 27) C dX7_harm_26 (by decide) rfl ?_
    refine g_tight h0 H.2.2.2.1 HJ26.2.2.2.1 (fun ta1 tb1 => ?_)
    have lm1 := HJ26.lim
    exact E.1 _ _ _ _ _ _ _ dX7_harm_27 rfl rfl (by omega) (by omega) ⟨_, rfl, ⟨_, HJ26⟩⟩
  refine g_iload_n (q := 1) C dX7_harm_0 rfl rfl ?_
  refine g_iconst (v := 1) (q := 2) C dX7_harm_1 (by decide) rfl ?_
  refine g_icmp_lt (t := 26) (q := 5) C dX7_harm_2 (by decide) rfl (fun c_2 => ?_) (fun c_2 => ?_)
  ·
    refine g_tight h0 H.2.2.2.1 H.2.2.2.1 (fun ta2 tb2 => ?_)
    exact J_26 _ _ _ _  H
  ·
    refine g_iload_n (q := 6) C dX7_harm_5 rfl rfl ?_
    refine g_iconst (v := 3) (q := 7) C dX7_harm_6 (by decide) rfl ?_
    refine g_icmp_gt (t := 26) (q := 10) C dX7_harm_7 (by decide) rfl (fun c_7 => ?_) (fun c_7 => ?_)
    ·
      refine g_tight h0 H.2.2.2.1 H.2.2.2.1 (fun ta3 tb3 => ?_)
      exact J_26 _ _ _ _  H
    ·
      refine g_iload_n (q := 11) C dX7_harm_10 rfl rfl ?_
      refine g_if_lt (t := 26) (q := 14) C dX7_harm_11 (by decide) rfl (fun c_11 => ?_) (fun c_11 => ?_)
      ·
        refine g_tight h0 H.2.2.2.1 H.2.2.2.1 (fun ta4 tb4 => ?_)
        exact J_26 _ _ _ _  H
      ·
        refine g_iload_n (q := 15) C dX7_harm_14 rfl rfl ?_
        refine g_iconst (v := 1) (q := 16) C dX7_harm_15 (by decide) rfl ?_
        refine g_icmp_gt (t := 26) (q := 19) C dX7_harm_16 (by decide) rfl (fun c_16 => ?_) (fun c_16 => ?_)
        ·
          refine g_tight h0 H.2.2.2.1 H.2.2.2.1 (fun ta5 tb5 => ?_)
          exact J_26 _ _ _ _  H
        ·
          refine g_aload_n (q := 20) C dX7_harm_19 rfl rfl ?_
          obtain ⟨x6_6, q4_6, q5_6, o6, e6_0, e6_1, e6_2⟩ := tyG7 H (rfl : tyK 0 = (0, 0))
          refine g_tight h0 H.2.2.2.1 H.2.2.2.1 (fun ta7 tb7 => ?_)
          have lm7 := H.lim
          refine g_callVip (q := 23) (As := []) C gyX7_onWay gvX7_onWay t_677 (tX7_onWay H) dX7_harm_20 rfl o6 rfl rfl rfl (Nat.le_of_ble_eq_true rfl) (Nat.le_of_ble_eq_true rfl) (Nat.le_of_ble_eq_true rfl) (by show _ + _ ≤ 300000 - List.length hp; omega) (by show _ + _ ≤ 7000000 - gsz hp; omega) rfl (fun x8 h8 q8 => ?_)
          obtain ⟨b8, H8⟩ := q8
          refine g_if_ne (t := 28) (q := 26) C dX7_harm_23 (by decide) rfl (fun c_23 => ?_) (fun c_23 => ?_)
          ·
            refine g_aload_n (q := 29) C dX7_harm_28 rfl rfl ?_
            obtain ⟨x6_9, q4_9, q5_9, o9, e9_0, e9_1, e9_2⟩ := tyG7 H8 (rfl : tyK 0 = (0, 0))
            refine g_getfield (v := .ref 43) (q := 32) C fX7_37 dX7_harm_29 rfl o9 rfl ?_
            refine g_aload_n (q := 33) C dX7_harm_32 rfl rfl ?_
            refine g_getfield (v := .ref 20) (q := 36) C fX7_30 dX7_harm_33 rfl o9 rfl ?_
            obtain ⟨x3_10, o10, e10_0⟩ := tyG0 H8 (rfl : tyK 43 = (8, 0))
            refine g_tight h0 H.2.2.2.1 H8.2.2.2.1 (fun ta11 tb11 => ?_)
            have lm11 := H8.lim
            refine g_callVrp (q := 39) (As := [.ref 20]) C gyX0_outlook gvX0_outlook t_943 (tX0_outlook H8 (rfl : tyK 20 = (7, 0))) dX7_harm_36 rfl o10 rfl rfl rfl (Nat.le_of_ble_eq_true rfl) (Nat.le_of_ble_eq_true rfl) (Nat.le_of_ble_eq_true rfl) (by show _ + _ ≤ 300000 - List.length hp; omega) (by show _ + _ ≤ 7000000 - gsz hp; omega) rfl (fun r12 h12 q12 => ?_)
            obtain ⟨k12, ⟨z12, H12⟩⟩ := q12
            obtain ⟨x3_13, x4_13, x5_13, x6_13, x7_13, x11_13, x12_13, x13_13, x14_13, x15_13, x16_13, x17_13, jv_13, o13, e13_0, e13_1, e13_2, e13_3⟩ := tyG2 H12 k12
            refine g_getfield (v := .int x3_13) (q := 42) C fX7_110 dX7_harm_39 rfl o13 rfl ?_
            refine g_iconst (v := 2) (q := 43) C dX7_harm_42 (by decide) rfl ?_
            refine g_icmp_eq (t := 48) (q := 46) C dX7_harm_43 (by decide) rfl (fun c_43 => ?_) (fun c_43 => ?_)
            ·
              refine g_aload_n (q := 49) C dX7_harm_48 rfl rfl ?_
              obtain ⟨x6_14, q4_14, q5_14, o14, e14_0, e14_1, e14_2⟩ := tyG7 H12 (rfl : tyK 0 = (0, 0))
              refine g_getfield (v := .ref 43) (q := 52) C fX7_37 dX7_harm_49 rfl o14 rfl ?_
              refine g_aload_n (q := 53) C dX7_harm_52 rfl rfl ?_
              refine g_getfield (v := .ref 20) (q := 56) C fX7_30 dX7_harm_53 rfl o14 rfl ?_
              refine g_iload_n (q := 57) C dX7_harm_56 rfl rfl ?_
              obtain ⟨x3_15, o15, e15_0⟩ := tyG0 H12 (rfl : tyK 43 = (8, 0))
              refine g_tight h0 H.2.2.2.1 H12.2.2.2.1 (fun ta16 tb16 => ?_)
              have lm16 := H12.lim
              refine g_callVvp (q := 60) (As := [.ref 20, .int a0]) C gyX0_tryAll gvX0_tryAll t_965 (tX0_tryAll H12 (rfl : tyK 20 = (7, 0))) dX7_harm_57 rfl o15 rfl rfl rfl (Nat.le_of_ble_eq_true rfl) (Nat.le_of_ble_eq_true rfl) (Nat.le_of_ble_eq_true rfl) (by show _ + _ ≤ 300000 - List.length hp; omega) (by show _ + _ ≤ 7000000 - gsz hp; omega) rfl (fun h17 q17 => ?_)
              obtain ⟨z17, H17⟩ := q17
              refine g_iload_n (q := 61) C dX7_harm_60 rfl rfl ?_
              refine g_if_ne (t := 75) (q := 64) C dX7_harm_61 (by decide) rfl (fun c_61 => ?_) (fun c_61 => ?_)
              ·
                refine g_aload_n (q := 76) C dX7_harm_75 rfl rfl ?_
                obtain ⟨x6_18, q4_18, q5_18, o18, e18_0, e18_1, e18_2⟩ := tyG7 H17 (rfl : tyK 0 = (0, 0))
                refine g_getfield (v := .ref 43) (q := 79) C fX7_37 dX7_harm_76 rfl o18 rfl ?_
                refine g_iload_n (q := 80) C dX7_harm_79 rfl rfl ?_
                obtain ⟨x3_19, o19, e19_0⟩ := tyG0 H17 (rfl : tyK 43 = (8, 0))
                refine g_tight h0 H.2.2.2.1 H17.2.2.2.1 (fun ta20 tb20 => ?_)
                have lm20 := H17.lim
                refine g_callVip (q := 83) (As := [.int a0]) C gyX0_firstHarmful gvX0_firstHarmful t_985 (tX0_firstHarmful H17) dX7_harm_80 rfl o19 rfl rfl rfl (Nat.le_of_ble_eq_true rfl) (Nat.le_of_ble_eq_true rfl) (Nat.le_of_ble_eq_true rfl) (by show _ + _ ≤ 300000 - List.length hp; omega) (by show _ + _ ≤ 7000000 - gsz hp; omega) rfl (fun x21 h21 q21 => ?_)
                have H21 := q21
                refine g_tight h0 H.2.2.2.1 H21.2.2.2.1 (fun ta22 tb22 => ?_)
                have lm22 := H21.lim
                exact E.1 _ _ _ _ _ _ _ dX7_harm_83 rfl rfl (by omega) (by omega) ⟨_, rfl, ⟨_, H21⟩⟩
              ·
                refine g_aload_n (q := 65) C dX7_harm_64 rfl rfl ?_
                obtain ⟨x6_23, q4_23, q5_23, o23, e23_0, e23_1, e23_2⟩ := tyG7 H17 (rfl : tyK 0 = (0, 0))
                refine g_getfield (v := .ref 43) (q := 68) C fX7_37 dX7_harm_65 rfl o23 rfl ?_
                refine g_iload_n (q := 69) C dX7_harm_68 rfl rfl ?_
                obtain ⟨x3_24, o24, e24_0⟩ := tyG0 H17 (rfl : tyK 43 = (8, 0))
                refine g_tight h0 H.2.2.2.1 H17.2.2.2.1 (fun ta25 tb25 => ?_)
                have lm25 := H17.lim
                refine g_callVip (q := 72) (As := [.int a0]) C gyX0_harmful gvX0_harmful t_981 (tX0_harmful H17) dX7_harm_69 rfl o24 rfl rfl rfl (Nat.le_of_ble_eq_true rfl) (Nat.le_of_ble_eq_true rfl) (Nat.le_of_ble_eq_true rfl) (by show _ + _ ≤ 300000 - List.length hp; omega) (by show _ + _ ≤ 7000000 - gsz hp; omega) rfl (fun x26 h26 q26 => ?_)
                have H26 := q26
                refine g_goto (q := 83) C dX7_harm_72 (by decide) ?_
                refine g_tight h0 H.2.2.2.1 H26.2.2.2.1 (fun ta27 tb27 => ?_)
                have lm27 := H26.lim
                exact E.1 _ _ _ _ _ _ _ dX7_harm_83 rfl rfl (by omega) (by omega) ⟨_, rfl, ⟨_, H26⟩⟩
            ·
              refine g_iconst (v := (-1)) (q := 47) C dX7_harm_46 (by decide) rfl ?_
              refine g_tight h0 H.2.2.2.1 H12.2.2.2.1 (fun ta28 tb28 => ?_)
              have lm28 := H12.lim
              exact E.1 _ _ _ _ _ _ _ dX7_harm_47 rfl rfl (by omega) (by omega) ⟨_, rfl, ⟨_, H12⟩⟩
          ·
            refine g_tight h0 H.2.2.2.1 H8.2.2.2.1 (fun ta29 tb29 => ?_)
            exact J_26 _ _ _ _  H8
