/-! THE JOURNAL BY SHAPE (by program: wip/p2t/m_tjrn.py, gen6.py) -/
theorem dX1_kept_0 : decode cX1_kept 0 = .ok (.aload_n 0, 1) := by decide +kernel
theorem dX1_kept_1 : decode cX1_kept 1 = .ok (.getfield 34, 3) := by decide +kernel
theorem dX1_kept_4 : decode cX1_kept 4 = .ok (.invokevirtual 51, 3) := by decide +kernel
theorem dX1_kept_7 : decode cX1_kept 7 = .ok (.ireturn, 1) := by decide +kernel
set_option maxRecDepth 100000 in
set_option maxHeartbeats 4000000 in
theorem tX1_kept {T : tyT} {R : Nat} {J : Nat → Prop} {Bc Bs : Nat} {M : gMd} {z : Nat → Nat} {hp : List gA}  (H : tyS T R J Bc Bs M z hp)  : gM yX1_kept cX1_kept 1 ((some .int)) 1 20 [.ref 3] (hp) (0) (0) (fun v h => ∃ x, v = some (.int x) ∧ tyS T R J Bc Bs M z h) := by
  refine gM_of (ls0 := [some (.ref 3)]) (by decide +kernel) (Nat.le_of_ble_eq_true rfl) rfl fun X C E => ?_
  refine g_aload_n (q := 1) C dX1_kept_0 rfl rfl ?_
  obtain ⟨x8_1, o1⟩ := tyG1 H (rfl : tyK 3 = (3, 0))
  refine g_getfield (v := .ref 14) (q := 4) C fX1_34 dX1_kept_1 rfl o1 rfl ?_
  obtain ⟨l2, g2, -⟩ := tyRow H (rfl : tyK 14 = (1, 30))
  refine g_callVip (q := 7) (As := []) C gyX4_size gvX4_size t_856 (tX4_size H (rfl : tyK 14 = (1, 30))) dX1_kept_4 rfl g2.obj rfl rfl rfl (Nat.le_of_ble_eq_true rfl) (Nat.le_of_ble_eq_true rfl) (Nat.le_of_ble_eq_true rfl) (Nat.le_of_ble_eq_true rfl) (Nat.le_of_ble_eq_true rfl) rfl (fun x3 h3 q3 => ?_)
  subst q3
  exact E.1 _ _ _ _ _ _ _ dX1_kept_7 rfl rfl (Nat.le_of_ble_eq_true rfl) (Nat.le_of_ble_eq_true rfl) ⟨_, rfl, H⟩
theorem dX1_unlike_0 : decode cX1_unlike 0 = .ok (.aload_n 0, 1) := by decide +kernel
theorem dX1_unlike_1 : decode cX1_unlike 1 = .ok (.getfield 22, 3) := by decide +kernel
theorem dX1_unlike_4 : decode cX1_unlike 4 = .ok (.invokevirtual 51, 3) := by decide +kernel
theorem dX1_unlike_7 : decode cX1_unlike 7 = .ok (.ireturn, 1) := by decide +kernel
set_option maxRecDepth 100000 in
set_option maxHeartbeats 4000000 in
theorem tX1_unlike {T : tyT} {R : Nat} {J : Nat → Prop} {Bc Bs : Nat} {M : gMd} {z : Nat → Nat} {hp : List gA}  (H : tyS T R J Bc Bs M z hp)  : gM yX1_unlike cX1_unlike 1 ((some .int)) 1 20 [.ref 3] (hp) (0) (0) (fun v h => ∃ x, v = some (.int x) ∧ tyS T R J Bc Bs M z h) := by
  refine gM_of (ls0 := [some (.ref 3)]) (by decide +kernel) (Nat.le_of_ble_eq_true rfl) rfl fun X C E => ?_
  refine g_aload_n (q := 1) C dX1_unlike_0 rfl rfl ?_
  obtain ⟨x8_1, o1⟩ := tyG1 H (rfl : tyK 3 = (3, 0))
  refine g_getfield (v := .ref 6) (q := 4) C fX1_22 dX1_unlike_1 rfl o1 rfl ?_
  obtain ⟨a2, l2, g2, -⟩ := tyRowg H (rfl : tyK 6 = (4, 65536))
  refine g_callVip (q := 7) (As := []) C gyX4_size gvX4_size t_856 (tX4_size_g H (rfl : tyK 6 = (4, 65536))) dX1_unlike_4 rfl g2.obj rfl rfl rfl (Nat.le_of_ble_eq_true rfl) (Nat.le_of_ble_eq_true rfl) (Nat.le_of_ble_eq_true rfl) (Nat.le_of_ble_eq_true rfl) (Nat.le_of_ble_eq_true rfl) rfl (fun x3 h3 q3 => ?_)
  subst q3
  exact E.1 _ _ _ _ _ _ _ dX1_unlike_7 rfl rfl (Nat.le_of_ble_eq_true rfl) (Nat.le_of_ble_eq_true rfl) ⟨_, rfl, H⟩
theorem dX1_placeOf_0 : decode cX1_placeOf 0 = .ok (.aload_n 0, 1) := by decide +kernel
theorem dX1_placeOf_1 : decode cX1_placeOf 1 = .ok (.getfield 43, 3) := by decide +kernel
theorem dX1_placeOf_4 : decode cX1_placeOf 4 = .ok (.iload_n 1, 1) := by decide +kernel
theorem dX1_placeOf_5 : decode cX1_placeOf 5 = .ok (.isub, 1) := by decide +kernel
theorem dX1_placeOf_6 : decode cX1_placeOf 6 = .ok (.istore_n 2, 1) := by decide +kernel
theorem dX1_placeOf_7 : decode cX1_placeOf 7 = .ok (.iload_n 2, 1) := by decide +kernel
theorem dX1_placeOf_8 : decode cX1_placeOf 8 = .ok (.ifCond .ge 10, 3) := by decide +kernel
theorem dX1_placeOf_11 : decode cX1_placeOf 11 = .ok (.iload_n 2, 1) := by decide +kernel
theorem dX1_placeOf_12 : decode cX1_placeOf 12 = .ok (.bipush 30, 2) := by decide +kernel
theorem dX1_placeOf_14 : decode cX1_placeOf 14 = .ok (.iadd, 1) := by decide +kernel
theorem dX1_placeOf_15 : decode cX1_placeOf 15 = .ok (.goto 4, 3) := by decide +kernel
theorem dX1_placeOf_18 : decode cX1_placeOf 18 = .ok (.iload_n 2, 1) := by decide +kernel
theorem dX1_placeOf_19 : decode cX1_placeOf 19 = .ok (.ireturn, 1) := by decide +kernel
set_option maxRecDepth 100000 in
set_option maxHeartbeats 4000000 in
theorem tX1_placeOf {T : tyT} {R : Nat} {J : Nat → Prop} {Bc Bs : Nat} {M : gMd} {z : Nat → Nat} {hp : List gA} {a0 : Int32}  (H : tyS T R J Bc Bs M z hp)  : gM yX1_placeOf cX1_placeOf 3 ((some .int)) 0 0 [.ref 3, .int a0] (hp) (0) (0) (fun v h => ∃ x, v = some (.int x) ∧ tyS T R J Bc Bs M z h) := by
  refine gM_of (ls0 := [some (.ref 3), some (.int a0), none]) (by decide +kernel) (Nat.le_of_ble_eq_true rfl) rfl fun X C E => ?_
  refine g_aload_n (q := 1) C dX1_placeOf_0 rfl rfl ?_
  obtain ⟨x8_1, o1⟩ := tyG1 H (rfl : tyK 3 = (3, 0))
  refine g_getfield (v := .int x8_1) (q := 4) C fX1_43 dX1_placeOf_1 rfl o1 rfl ?_
  refine g_iload_n (q := 5) C dX1_placeOf_4 rfl rfl ?_
  refine g_isub (q := 6) C dX1_placeOf_5 rfl ?_
  refine g_istore_n (q := 7) C dX1_placeOf_6 (Nat.le_of_ble_eq_true rfl) (by simp only [gset]; rfl) rfl ?_
  refine g_iload_n (q := 8) C dX1_placeOf_7 rfl rfl ?_
  refine g_if_ge (t := 18) (q := 11) C dX1_placeOf_8 (by decide) rfl (fun c_8 => ?_) (fun c_8 => ?_)
  ·
    have i_8 := Int32.le_iff_toInt_le.mp c_8
    refine g_iload_n (q := 19) C dX1_placeOf_18 rfl rfl ?_
    exact E.1 _ _ _ _ _ _ _ dX1_placeOf_19 rfl rfl (Nat.le_of_ble_eq_true rfl) (Nat.le_of_ble_eq_true rfl) ⟨_, rfl, H⟩
  ·
    have i_8 := mt Int32.le_iff_toInt_le.mpr c_8
    refine g_iload_n (q := 12) C dX1_placeOf_11 rfl rfl ?_
    refine g_bipush (v := 30) (q := 14) C dX1_placeOf_12 (by decide) rfl ?_
    refine g_iadd (q := 15) C dX1_placeOf_14 rfl ?_
    refine g_goto (q := 19) C dX1_placeOf_15 (by decide) ?_
    exact E.1 _ _ _ _ _ _ _ dX1_placeOf_19 rfl rfl (Nat.le_of_ble_eq_true rfl) (Nat.le_of_ble_eq_true rfl) ⟨_, rfl, H⟩
theorem dX1_byteAt_0 : decode cX1_byteAt 0 = .ok (.aload_n 0, 1) := by decide +kernel
theorem dX1_byteAt_1 : decode cX1_byteAt 1 = .ok (.getfield 22, 3) := by decide +kernel
theorem dX1_byteAt_4 : decode cX1_byteAt 4 = .ok (.aload_n 0, 1) := by decide +kernel
theorem dX1_byteAt_5 : decode cX1_byteAt 5 = .ok (.getfield 34, 3) := by decide +kernel
theorem dX1_byteAt_8 : decode cX1_byteAt 8 = .ok (.aload_n 0, 1) := by decide +kernel
theorem dX1_byteAt_9 : decode cX1_byteAt 9 = .ok (.iload_n 1, 1) := by decide +kernel
theorem dX1_byteAt_10 : decode cX1_byteAt 10 = .ok (.invokevirtual 77, 3) := by decide +kernel
theorem dX1_byteAt_13 : decode cX1_byteAt 13 = .ok (.invokevirtual 55, 3) := by decide +kernel
theorem dX1_byteAt_16 : decode cX1_byteAt 16 = .ok (.invokevirtual 55, 3) := by decide +kernel
theorem dX1_byteAt_19 : decode cX1_byteAt 19 = .ok (.istore_n 3, 1) := by decide +kernel
theorem dX1_byteAt_20 : decode cX1_byteAt 20 = .ok (.iload_n 2, 1) := by decide +kernel
theorem dX1_byteAt_21 : decode cX1_byteAt 21 = .ok (.ifCond .lt 19, 3) := by decide +kernel
theorem dX1_byteAt_24 : decode cX1_byteAt 24 = .ok (.iload_n 2, 1) := by decide +kernel
theorem dX1_byteAt_25 : decode cX1_byteAt 25 = .ok (.aload_n 0, 1) := by decide +kernel
theorem dX1_byteAt_26 : decode cX1_byteAt 26 = .ok (.getfield 17, 3) := by decide +kernel
theorem dX1_byteAt_29 : decode cX1_byteAt 29 = .ok (.iload_n 3, 1) := by decide +kernel
theorem dX1_byteAt_30 : decode cX1_byteAt 30 = .ok (.iconst 3, 1) := by decide +kernel
theorem dX1_byteAt_31 : decode cX1_byteAt 31 = .ok (.iadd, 1) := by decide +kernel
theorem dX1_byteAt_32 : decode cX1_byteAt 32 = .ok (.invokevirtual 55, 3) := by decide +kernel
theorem dX1_byteAt_35 : decode cX1_byteAt 35 = .ok (.iconst 4, 1) := by decide +kernel
theorem dX1_byteAt_36 : decode cX1_byteAt 36 = .ok (.iadd, 1) := by decide +kernel
theorem dX1_byteAt_37 : decode cX1_byteAt 37 = .ok (.if_icmp .lt 5, 3) := by decide +kernel
theorem dX1_byteAt_40 : decode cX1_byteAt 40 = .ok (.iconst (-1), 1) := by decide +kernel
theorem dX1_byteAt_41 : decode cX1_byteAt 41 = .ok (.ireturn, 1) := by decide +kernel
theorem dX1_byteAt_42 : decode cX1_byteAt 42 = .ok (.aload_n 0, 1) := by decide +kernel
theorem dX1_byteAt_43 : decode cX1_byteAt 43 = .ok (.getfield 17, 3) := by decide +kernel
theorem dX1_byteAt_46 : decode cX1_byteAt 46 = .ok (.iload_n 3, 1) := by decide +kernel
theorem dX1_byteAt_47 : decode cX1_byteAt 47 = .ok (.iconst 1, 1) := by decide +kernel
theorem dX1_byteAt_48 : decode cX1_byteAt 48 = .ok (.iadd, 1) := by decide +kernel
theorem dX1_byteAt_49 : decode cX1_byteAt 49 = .ok (.iload_n 2, 1) := by decide +kernel
theorem dX1_byteAt_50 : decode cX1_byteAt 50 = .ok (.iadd, 1) := by decide +kernel
theorem dX1_byteAt_51 : decode cX1_byteAt 51 = .ok (.invokevirtual 55, 3) := by decide +kernel
theorem dX1_byteAt_54 : decode cX1_byteAt 54 = .ok (.ireturn, 1) := by decide +kernel
set_option maxRecDepth 100000 in
set_option maxHeartbeats 4000000 in
theorem tX1_byteAt {T : tyT} {R : Nat} {J : Nat → Prop} {Bc Bs : Nat} {M : gMd} {z : Nat → Nat} {hp : List gA} {a0 : Int32} {a1 : Int32}  (H : tyS T R J Bc Bs M z hp)  : gM yX1_byteAt cX1_byteAt 4 ((some .int)) 1 22 [.ref 3, .int a0, .int a1] (hp) (0) (0) (fun v h => ∃ x, v = some (.int x) ∧ tyS T R J Bc Bs M z h) := by
  refine gM_of (ls0 := [some (.ref 3), some (.int a0), some (.int a1), none]) (by decide +kernel) (Nat.le_of_ble_eq_true rfl) rfl fun X C E => ?_
  have J_40 : ∀ (y40_1 y40_2 y40_3 : Int32) (hJ40 : List gA), tyS T R J Bc Bs M z hJ40 → gG X 40 [some (.ref 3), some (.int y40_1), some (.int y40_2), some (.int y40_3)] [] hJ40 0 0 := by
    intro y40_1 y40_2 y40_3 hJ40 HJ40
    refine g_iconst (v := (-1)) (q := 41) C dX1_byteAt_40 (by decide) rfl ?_
    exact E.1 _ _ _ _ _ _ _ dX1_byteAt_41 rfl rfl (Nat.le_of_ble_eq_true rfl) (Nat.le_of_ble_eq_true rfl) ⟨_, rfl, HJ40⟩
  refine g_aload_n (q := 1) C dX1_byteAt_0 rfl rfl ?_
  obtain ⟨x8_1, o1⟩ := tyG1 H (rfl : tyK 3 = (3, 0))
  refine g_getfield (v := .ref 6) (q := 4) C fX1_22 dX1_byteAt_1 rfl o1 rfl ?_
  refine g_aload_n (q := 5) C dX1_byteAt_4 rfl rfl ?_
  refine g_getfield (v := .ref 14) (q := 8) C fX1_34 dX1_byteAt_5 rfl o1 rfl ?_
  refine g_aload_n (q := 9) C dX1_byteAt_8 rfl rfl ?_
  refine g_iload_n (q := 10) C dX1_byteAt_9 rfl rfl ?_
  refine g_callVip (q := 13) (As := [.int a0]) C gyX1_placeOf gvX1_placeOf t_935 (tX1_placeOf H) dX1_byteAt_10 rfl o1 rfl rfl rfl (Nat.le_of_ble_eq_true rfl) (Nat.le_of_ble_eq_true rfl) (Nat.le_of_ble_eq_true rfl) (Nat.le_of_ble_eq_true rfl) (Nat.le_of_ble_eq_true rfl) rfl (fun x2 h2 q2 => ?_)
  have H2 := q2
  obtain ⟨l3, g3, -⟩ := tyRow H2 (rfl : tyK 14 = (1, 30))
  refine g_callVip (q := 16) (As := [.int x2]) C gyX4_at gvX4_at t_861 (tX4_at H2 (rfl : tyK 14 = (1, 30))) dX1_byteAt_13 rfl g3.obj rfl rfl rfl (Nat.le_of_ble_eq_true rfl) (Nat.le_of_ble_eq_true rfl) (Nat.le_of_ble_eq_true rfl) (Nat.le_of_ble_eq_true rfl) (Nat.le_of_ble_eq_true rfl) rfl (fun x4 h4 q4 => ?_)
  subst q4
  obtain ⟨a5, l5, g5, -⟩ := tyRowg H2 (rfl : tyK 6 = (4, 65536))
  refine g_callVip (q := 19) (As := [.int x4]) C gyX4_at gvX4_at t_861 (tX4_at_g H2 (rfl : tyK 6 = (4, 65536))) dX1_byteAt_16 rfl g5.obj rfl rfl rfl (Nat.le_of_ble_eq_true rfl) (Nat.le_of_ble_eq_true rfl) (Nat.le_of_ble_eq_true rfl) (Nat.le_of_ble_eq_true rfl) (Nat.le_of_ble_eq_true rfl) rfl (fun x6 h6 q6 => ?_)
  subst q6
  refine g_istore_n (q := 20) C dX1_byteAt_19 (Nat.le_of_ble_eq_true rfl) (by simp only [gset]; rfl) rfl ?_
  refine g_iload_n (q := 21) C dX1_byteAt_20 rfl rfl ?_
  refine g_if_lt (t := 40) (q := 24) C dX1_byteAt_21 (by decide) rfl (fun c_21 => ?_) (fun c_21 => ?_)
  ·
    have i_21 := Int32.lt_iff_toInt_lt.mp c_21
    exact J_40 _ _ _ _  H2
  ·
    have i_21 := mt Int32.lt_iff_toInt_lt.mpr c_21
    refine g_iload_n (q := 25) C dX1_byteAt_24 rfl rfl ?_
    refine g_aload_n (q := 26) C dX1_byteAt_25 rfl rfl ?_
    obtain ⟨x8_7, o7⟩ := tyG1 H2 (rfl : tyK 3 = (3, 0))
    refine g_getfield (v := .ref 4) (q := 29) C fX1_17 dX1_byteAt_26 rfl o7 rfl ?_
    refine g_iload_n (q := 30) C dX1_byteAt_29 rfl rfl ?_
    refine g_iconst (v := 3) (q := 31) C dX1_byteAt_30 (by decide) rfl ?_
    refine g_iadd (q := 32) C dX1_byteAt_31 rfl ?_
    obtain ⟨a8, l8, g8, -⟩ := tyRowg H2 (rfl : tyK 4 = (4, 1048576))
    refine g_callVip (q := 35) (As := [.int (x6 + 3)]) C gyX4_at gvX4_at t_861 (tX4_at_g H2 (rfl : tyK 4 = (4, 1048576))) dX1_byteAt_32 rfl g8.obj rfl rfl rfl (Nat.le_of_ble_eq_true rfl) (Nat.le_of_ble_eq_true rfl) (Nat.le_of_ble_eq_true rfl) (Nat.le_of_ble_eq_true rfl) (Nat.le_of_ble_eq_true rfl) rfl (fun x9 h9 q9 => ?_)
    subst q9
    refine g_iconst (v := 4) (q := 36) C dX1_byteAt_35 (by decide) rfl ?_
    refine g_iadd (q := 37) C dX1_byteAt_36 rfl ?_
    refine g_icmp_lt (t := 42) (q := 40) C dX1_byteAt_37 (by decide) rfl (fun c_37 => ?_) (fun c_37 => ?_)
    ·
      have i_37 := Int32.lt_iff_toInt_lt.mp c_37
      refine g_aload_n (q := 43) C dX1_byteAt_42 rfl rfl ?_
      refine g_getfield (v := .ref 4) (q := 46) C fX1_17 dX1_byteAt_43 rfl o7 rfl ?_
      refine g_iload_n (q := 47) C dX1_byteAt_46 rfl rfl ?_
      refine g_iconst (v := 1) (q := 48) C dX1_byteAt_47 (by decide) rfl ?_
      refine g_iadd (q := 49) C dX1_byteAt_48 rfl ?_
      refine g_iload_n (q := 50) C dX1_byteAt_49 rfl rfl ?_
      refine g_iadd (q := 51) C dX1_byteAt_50 rfl ?_
      refine g_callVip (q := 54) (As := [.int ((x6 + 1) + a1)]) C gyX4_at gvX4_at t_861 (tX4_at_g H2 (rfl : tyK 4 = (4, 1048576))) dX1_byteAt_51 rfl g8.obj rfl rfl rfl (Nat.le_of_ble_eq_true rfl) (Nat.le_of_ble_eq_true rfl) (Nat.le_of_ble_eq_true rfl) (Nat.le_of_ble_eq_true rfl) (Nat.le_of_ble_eq_true rfl) rfl (fun x10 h10 q10 => ?_)
      subst q10
      exact E.1 _ _ _ _ _ _ _ dX1_byteAt_54 rfl rfl (Nat.le_of_ble_eq_true rfl) (Nat.le_of_ble_eq_true rfl) ⟨_, rfl, H2⟩
    ·
      have i_37 := mt Int32.lt_iff_toInt_lt.mpr c_37
      exact J_40 _ _ _ _  H2
theorem dX1_tell_0 : decode cX1_tell 0 = .ok (.aload_n 0, 1) := by decide +kernel
theorem dX1_tell_1 : decode cX1_tell 1 = .ok (.iload_n 1, 1) := by decide +kernel
theorem dX1_tell_2 : decode cX1_tell 2 = .ok (.invokevirtual 77, 3) := by decide +kernel
theorem dX1_tell_5 : decode cX1_tell 5 = .ok (.istore_n 3, 1) := by decide +kernel
theorem dX1_tell_6 : decode cX1_tell 6 = .ok (.aload_n 0, 1) := by decide +kernel
theorem dX1_tell_7 : decode cX1_tell 7 = .ok (.getfield 34, 3) := by decide +kernel
theorem dX1_tell_10 : decode cX1_tell 10 = .ok (.iload_n 3, 1) := by decide +kernel
theorem dX1_tell_11 : decode cX1_tell 11 = .ok (.invokevirtual 55, 3) := by decide +kernel
theorem dX1_tell_14 : decode cX1_tell 14 = .ok (.istore 4, 2) := by decide +kernel
theorem dX1_tell_16 : decode cX1_tell 16 = .ok (.aload_n 0, 1) := by decide +kernel
theorem dX1_tell_17 : decode cX1_tell 17 = .ok (.getfield 22, 3) := by decide +kernel
theorem dX1_tell_20 : decode cX1_tell 20 = .ok (.iload 4, 2) := by decide +kernel
theorem dX1_tell_22 : decode cX1_tell 22 = .ok (.invokevirtual 55, 3) := by decide +kernel
theorem dX1_tell_25 : decode cX1_tell 25 = .ok (.istore 5, 2) := by decide +kernel
theorem dX1_tell_27 : decode cX1_tell 27 = .ok (.iload_n 2, 1) := by decide +kernel
theorem dX1_tell_28 : decode cX1_tell 28 = .ok (.tableswitch 88 0 4 #[36, 46, 58, 70, 79], 36) := by decide +kernel
theorem dX1_tell_64 : decode cX1_tell 64 = .ok (.aload_n 0, 1) := by decide +kernel
theorem dX1_tell_65 : decode cX1_tell 65 = .ok (.getfield 17, 3) := by decide +kernel
theorem dX1_tell_68 : decode cX1_tell 68 = .ok (.iload 5, 2) := by decide +kernel
theorem dX1_tell_70 : decode cX1_tell 70 = .ok (.invokevirtual 55, 3) := by decide +kernel
theorem dX1_tell_73 : decode cX1_tell 73 = .ok (.ireturn, 1) := by decide +kernel
theorem dX1_tell_74 : decode cX1_tell 74 = .ok (.aload_n 0, 1) := by decide +kernel
theorem dX1_tell_75 : decode cX1_tell 75 = .ok (.getfield 17, 3) := by decide +kernel
theorem dX1_tell_78 : decode cX1_tell 78 = .ok (.iload 5, 2) := by decide +kernel
theorem dX1_tell_80 : decode cX1_tell 80 = .ok (.iconst 2, 1) := by decide +kernel
theorem dX1_tell_81 : decode cX1_tell 81 = .ok (.iadd, 1) := by decide +kernel
theorem dX1_tell_82 : decode cX1_tell 82 = .ok (.invokevirtual 55, 3) := by decide +kernel
theorem dX1_tell_85 : decode cX1_tell 85 = .ok (.ireturn, 1) := by decide +kernel
theorem dX1_tell_86 : decode cX1_tell 86 = .ok (.aload_n 0, 1) := by decide +kernel
theorem dX1_tell_87 : decode cX1_tell 87 = .ok (.getfield 17, 3) := by decide +kernel
theorem dX1_tell_90 : decode cX1_tell 90 = .ok (.iload 5, 2) := by decide +kernel
theorem dX1_tell_92 : decode cX1_tell 92 = .ok (.iconst 3, 1) := by decide +kernel
theorem dX1_tell_93 : decode cX1_tell 93 = .ok (.iadd, 1) := by decide +kernel
theorem dX1_tell_94 : decode cX1_tell 94 = .ok (.invokevirtual 55, 3) := by decide +kernel
theorem dX1_tell_97 : decode cX1_tell 97 = .ok (.ireturn, 1) := by decide +kernel
theorem dX1_tell_98 : decode cX1_tell 98 = .ok (.aload_n 0, 1) := by decide +kernel
theorem dX1_tell_99 : decode cX1_tell 99 = .ok (.getfield 37, 3) := by decide +kernel
theorem dX1_tell_102 : decode cX1_tell 102 = .ok (.iload_n 3, 1) := by decide +kernel
theorem dX1_tell_103 : decode cX1_tell 103 = .ok (.invokevirtual 55, 3) := by decide +kernel
theorem dX1_tell_106 : decode cX1_tell 106 = .ok (.ireturn, 1) := by decide +kernel
theorem dX1_tell_107 : decode cX1_tell 107 = .ok (.aload_n 0, 1) := by decide +kernel
theorem dX1_tell_108 : decode cX1_tell 108 = .ok (.getfield 40, 3) := by decide +kernel
theorem dX1_tell_111 : decode cX1_tell 111 = .ok (.iload_n 3, 1) := by decide +kernel
theorem dX1_tell_112 : decode cX1_tell 112 = .ok (.invokevirtual 55, 3) := by decide +kernel
theorem dX1_tell_115 : decode cX1_tell 115 = .ok (.ireturn, 1) := by decide +kernel
theorem dX1_tell_116 : decode cX1_tell 116 = .ok (.aload_n 0, 1) := by decide +kernel
theorem dX1_tell_117 : decode cX1_tell 117 = .ok (.getfield 25, 3) := by decide +kernel
theorem dX1_tell_120 : decode cX1_tell 120 = .ok (.iload 4, 2) := by decide +kernel
theorem dX1_tell_122 : decode cX1_tell 122 = .ok (.invokevirtual 55, 3) := by decide +kernel
theorem dX1_tell_125 : decode cX1_tell 125 = .ok (.ireturn, 1) := by decide +kernel
set_option maxRecDepth 100000 in
set_option maxHeartbeats 4000000 in
theorem tX1_tell {T : tyT} {R : Nat} {J : Nat → Prop} {Bc Bs : Nat} {M : gMd} {z : Nat → Nat} {hp : List gA} {a0 : Int32} {a1 : Int32}  (H : tyS T R J Bc Bs M z hp)  : gM yX1_tell cX1_tell 6 ((some .int)) 1 22 [.ref 3, .int a0, .int a1] (hp) (0) (0) (fun v h => ∃ x, v = some (.int x) ∧ tyS T R J Bc Bs M z h) := by
  refine gM_of (ls0 := [some (.ref 3), some (.int a0), some (.int a1), none, none, none]) (by decide +kernel) (Nat.le_of_ble_eq_true rfl) rfl fun X C E => ?_
  refine g_aload_n (q := 1) C dX1_tell_0 rfl rfl ?_
  refine g_iload_n (q := 2) C dX1_tell_1 rfl rfl ?_
  obtain ⟨x8_1, o1⟩ := tyG1 H (rfl : tyK 3 = (3, 0))
  refine g_callVip (q := 5) (As := [.int a0]) C gyX1_placeOf gvX1_placeOf t_935 (tX1_placeOf H) dX1_tell_2 rfl o1 rfl rfl rfl (Nat.le_of_ble_eq_true rfl) (Nat.le_of_ble_eq_true rfl) (Nat.le_of_ble_eq_true rfl) (Nat.le_of_ble_eq_true rfl) (Nat.le_of_ble_eq_true rfl) rfl (fun x2 h2 q2 => ?_)
  have H2 := q2
  refine g_istore_n (q := 6) C dX1_tell_5 (Nat.le_of_ble_eq_true rfl) (by simp only [gset]; rfl) rfl ?_
  refine g_aload_n (q := 7) C dX1_tell_6 rfl rfl ?_
  obtain ⟨x8_3, o3⟩ := tyG1 H2 (rfl : tyK 3 = (3, 0))
  refine g_getfield (v := .ref 14) (q := 10) C fX1_34 dX1_tell_7 rfl o3 rfl ?_
  refine g_iload_n (q := 11) C dX1_tell_10 rfl rfl ?_
  obtain ⟨l4, g4, -⟩ := tyRow H2 (rfl : tyK 14 = (1, 30))
  refine g_callVip (q := 14) (As := [.int x2]) C gyX4_at gvX4_at t_861 (tX4_at H2 (rfl : tyK 14 = (1, 30))) dX1_tell_11 rfl g4.obj rfl rfl rfl (Nat.le_of_ble_eq_true rfl) (Nat.le_of_ble_eq_true rfl) (Nat.le_of_ble_eq_true rfl) (Nat.le_of_ble_eq_true rfl) (Nat.le_of_ble_eq_true rfl) rfl (fun x5 h5 q5 => ?_)
  subst q5
  refine g_istore (q := 16) C dX1_tell_14 (Nat.le_of_ble_eq_true rfl) (by simp only [gset]; rfl) rfl ?_
  refine g_aload_n (q := 17) C dX1_tell_16 rfl rfl ?_
  refine g_getfield (v := .ref 6) (q := 20) C fX1_22 dX1_tell_17 rfl o3 rfl ?_
  refine g_iload (q := 22) C dX1_tell_20 rfl rfl ?_
  obtain ⟨a6, l6, g6, -⟩ := tyRowg H2 (rfl : tyK 6 = (4, 65536))
  refine g_callVip (q := 25) (As := [.int x5]) C gyX4_at gvX4_at t_861 (tX4_at_g H2 (rfl : tyK 6 = (4, 65536))) dX1_tell_22 rfl g6.obj rfl rfl rfl (Nat.le_of_ble_eq_true rfl) (Nat.le_of_ble_eq_true rfl) (Nat.le_of_ble_eq_true rfl) (Nat.le_of_ble_eq_true rfl) (Nat.le_of_ble_eq_true rfl) rfl (fun x7 h7 q7 => ?_)
  subst q7
  refine g_istore (q := 27) C dX1_tell_25 (Nat.le_of_ble_eq_true rfl) (by simp only [gset]; rfl) rfl ?_
  refine g_iload_n (q := 28) C dX1_tell_27 rfl rfl ?_
  -- switch
  by_cases c_28_0 : a1 = 0
  · subst c_28_0
    refine g_tableIn (off := 36) (t := 64) C dX1_tell_28 (by decide) (by decide) (by decide) (by decide) ?_
    refine g_aload_n (q := 65) C dX1_tell_64 rfl rfl ?_
    refine g_getfield (v := .ref 4) (q := 68) C fX1_17 dX1_tell_65 rfl o3 rfl ?_
    refine g_iload (q := 70) C dX1_tell_68 rfl rfl ?_
    obtain ⟨a8, l8, g8, -⟩ := tyRowg H2 (rfl : tyK 4 = (4, 1048576))
    refine g_callVip (q := 73) (As := [.int x7]) C gyX4_at gvX4_at t_861 (tX4_at_g H2 (rfl : tyK 4 = (4, 1048576))) dX1_tell_70 rfl g8.obj rfl rfl rfl (Nat.le_of_ble_eq_true rfl) (Nat.le_of_ble_eq_true rfl) (Nat.le_of_ble_eq_true rfl) (Nat.le_of_ble_eq_true rfl) (Nat.le_of_ble_eq_true rfl) rfl (fun x9 h9 q9 => ?_)
    subst q9
    exact E.1 _ _ _ _ _ _ _ dX1_tell_73 rfl rfl (Nat.le_of_ble_eq_true rfl) (Nat.le_of_ble_eq_true rfl) ⟨_, rfl, H2⟩
  by_cases c_28_1 : a1 = 1
  · subst c_28_1
    refine g_tableIn (off := 46) (t := 74) C dX1_tell_28 (by decide) (by decide) (by decide) (by decide) ?_
    refine g_aload_n (q := 75) C dX1_tell_74 rfl rfl ?_
    refine g_getfield (v := .ref 4) (q := 78) C fX1_17 dX1_tell_75 rfl o3 rfl ?_
    refine g_iload (q := 80) C dX1_tell_78 rfl rfl ?_
    refine g_iconst (v := 2) (q := 81) C dX1_tell_80 (by decide) rfl ?_
    refine g_iadd (q := 82) C dX1_tell_81 rfl ?_
    obtain ⟨a10, l10, g10, -⟩ := tyRowg H2 (rfl : tyK 4 = (4, 1048576))
    refine g_callVip (q := 85) (As := [.int (x7 + 2)]) C gyX4_at gvX4_at t_861 (tX4_at_g H2 (rfl : tyK 4 = (4, 1048576))) dX1_tell_82 rfl g10.obj rfl rfl rfl (Nat.le_of_ble_eq_true rfl) (Nat.le_of_ble_eq_true rfl) (Nat.le_of_ble_eq_true rfl) (Nat.le_of_ble_eq_true rfl) (Nat.le_of_ble_eq_true rfl) rfl (fun x11 h11 q11 => ?_)
    subst q11
    exact E.1 _ _ _ _ _ _ _ dX1_tell_85 rfl rfl (Nat.le_of_ble_eq_true rfl) (Nat.le_of_ble_eq_true rfl) ⟨_, rfl, H2⟩
  by_cases c_28_2 : a1 = 2
  · subst c_28_2
    refine g_tableIn (off := 58) (t := 86) C dX1_tell_28 (by decide) (by decide) (by decide) (by decide) ?_
    refine g_aload_n (q := 87) C dX1_tell_86 rfl rfl ?_
    refine g_getfield (v := .ref 4) (q := 90) C fX1_17 dX1_tell_87 rfl o3 rfl ?_
    refine g_iload (q := 92) C dX1_tell_90 rfl rfl ?_
    refine g_iconst (v := 3) (q := 93) C dX1_tell_92 (by decide) rfl ?_
    refine g_iadd (q := 94) C dX1_tell_93 rfl ?_
    obtain ⟨a12, l12, g12, -⟩ := tyRowg H2 (rfl : tyK 4 = (4, 1048576))
    refine g_callVip (q := 97) (As := [.int (x7 + 3)]) C gyX4_at gvX4_at t_861 (tX4_at_g H2 (rfl : tyK 4 = (4, 1048576))) dX1_tell_94 rfl g12.obj rfl rfl rfl (Nat.le_of_ble_eq_true rfl) (Nat.le_of_ble_eq_true rfl) (Nat.le_of_ble_eq_true rfl) (Nat.le_of_ble_eq_true rfl) (Nat.le_of_ble_eq_true rfl) rfl (fun x13 h13 q13 => ?_)
    subst q13
    exact E.1 _ _ _ _ _ _ _ dX1_tell_97 rfl rfl (Nat.le_of_ble_eq_true rfl) (Nat.le_of_ble_eq_true rfl) ⟨_, rfl, H2⟩
  by_cases c_28_3 : a1 = 3
  · subst c_28_3
    refine g_tableIn (off := 70) (t := 98) C dX1_tell_28 (by decide) (by decide) (by decide) (by decide) ?_
    refine g_aload_n (q := 99) C dX1_tell_98 rfl rfl ?_
    refine g_getfield (v := .ref 16) (q := 102) C fX1_37 dX1_tell_99 rfl o3 rfl ?_
    refine g_iload_n (q := 103) C dX1_tell_102 rfl rfl ?_
    obtain ⟨l14, g14, -⟩ := tyRow H2 (rfl : tyK 16 = (1, 30))
    refine g_callVip (q := 106) (As := [.int x2]) C gyX4_at gvX4_at t_861 (tX4_at H2 (rfl : tyK 16 = (1, 30))) dX1_tell_103 rfl g14.obj rfl rfl rfl (Nat.le_of_ble_eq_true rfl) (Nat.le_of_ble_eq_true rfl) (Nat.le_of_ble_eq_true rfl) (Nat.le_of_ble_eq_true rfl) (Nat.le_of_ble_eq_true rfl) rfl (fun x15 h15 q15 => ?_)
    subst q15
    exact E.1 _ _ _ _ _ _ _ dX1_tell_106 rfl rfl (Nat.le_of_ble_eq_true rfl) (Nat.le_of_ble_eq_true rfl) ⟨_, rfl, H2⟩
  by_cases c_28_4 : a1 = 4
  · subst c_28_4
    refine g_tableIn (off := 79) (t := 107) C dX1_tell_28 (by decide) (by decide) (by decide) (by decide) ?_
    refine g_aload_n (q := 108) C dX1_tell_107 rfl rfl ?_
    refine g_getfield (v := .ref 18) (q := 111) C fX1_40 dX1_tell_108 rfl o3 rfl ?_
    refine g_iload_n (q := 112) C dX1_tell_111 rfl rfl ?_
    obtain ⟨l16, g16, -⟩ := tyRow H2 (rfl : tyK 18 = (1, 30))
    refine g_callVip (q := 115) (As := [.int x2]) C gyX4_at gvX4_at t_861 (tX4_at H2 (rfl : tyK 18 = (1, 30))) dX1_tell_112 rfl g16.obj rfl rfl rfl (Nat.le_of_ble_eq_true rfl) (Nat.le_of_ble_eq_true rfl) (Nat.le_of_ble_eq_true rfl) (Nat.le_of_ble_eq_true rfl) (Nat.le_of_ble_eq_true rfl) rfl (fun x17 h17 q17 => ?_)
    subst q17
    exact E.1 _ _ _ _ _ _ _ dX1_tell_115 rfl rfl (Nat.le_of_ble_eq_true rfl) (Nat.le_of_ble_eq_true rfl) ⟨_, rfl, H2⟩
  refine g_tableOut (t := 116) C dX1_tell_28 (gOut5 c_28_0 c_28_1 c_28_2 c_28_3 c_28_4) (by decide) ?_
  refine g_aload_n (q := 117) C dX1_tell_116 rfl rfl ?_
  refine g_getfield (v := .ref 8) (q := 120) C fX1_25 dX1_tell_117 rfl o3 rfl ?_
  refine g_iload (q := 122) C dX1_tell_120 rfl rfl ?_
  obtain ⟨a18, l18, g18, -⟩ := tyRowg H2 (rfl : tyK 8 = (4, 65536))
  refine g_callVip (q := 125) (As := [.int x5]) C gyX4_at gvX4_at t_861 (tX4_at_g H2 (rfl : tyK 8 = (4, 65536))) dX1_tell_122 rfl g18.obj rfl rfl rfl (Nat.le_of_ble_eq_true rfl) (Nat.le_of_ble_eq_true rfl) (Nat.le_of_ble_eq_true rfl) (Nat.le_of_ble_eq_true rfl) (Nat.le_of_ble_eq_true rfl) rfl (fun x19 h19 q19 => ?_)
  subst q19
  exact E.1 _ _ _ _ _ _ _ dX1_tell_125 rfl rfl (Nat.le_of_ble_eq_true rfl) (Nat.le_of_ble_eq_true rfl) ⟨_, rfl, H2⟩
theorem dX1_isBlock_0 : decode cX1_isBlock 0 = .ok (.aload_n 0, 1) := by decide +kernel
theorem dX1_isBlock_1 : decode cX1_isBlock 1 = .ok (.getfield 22, 3) := by decide +kernel
theorem dX1_isBlock_4 : decode cX1_isBlock 4 = .ok (.iload_n 1, 1) := by decide +kernel
theorem dX1_isBlock_5 : decode cX1_isBlock 5 = .ok (.invokevirtual 55, 3) := by decide +kernel
theorem dX1_isBlock_8 : decode cX1_isBlock 8 = .ok (.istore 4, 2) := by decide +kernel
theorem dX1_isBlock_10 : decode cX1_isBlock 10 = .ok (.aload_n 0, 1) := by decide +kernel
theorem dX1_isBlock_11 : decode cX1_isBlock 11 = .ok (.getfield 17, 3) := by decide +kernel
theorem dX1_isBlock_14 : decode cX1_isBlock 14 = .ok (.iload 4, 2) := by decide +kernel
theorem dX1_isBlock_16 : decode cX1_isBlock 16 = .ok (.invokevirtual 55, 3) := by decide +kernel
theorem dX1_isBlock_19 : decode cX1_isBlock 19 = .ok (.iload_n 2, 1) := by decide +kernel
theorem dX1_isBlock_20 : decode cX1_isBlock 20 = .ok (.if_icmp .eq 5, 3) := by decide +kernel
theorem dX1_isBlock_23 : decode cX1_isBlock 23 = .ok (.iconst 0, 1) := by decide +kernel
theorem dX1_isBlock_24 : decode cX1_isBlock 24 = .ok (.ireturn, 1) := by decide +kernel
theorem dX1_isBlock_25 : decode cX1_isBlock 25 = .ok (.iconst 0, 1) := by decide +kernel
theorem dX1_isBlock_26 : decode cX1_isBlock 26 = .ok (.istore 5, 2) := by decide +kernel
theorem dX1_isBlock_28 : decode cX1_isBlock 28 = .ok (.iload 5, 2) := by decide +kernel
theorem dX1_isBlock_30 : decode cX1_isBlock 30 = .ok (.aload_n 3, 1) := by decide +kernel
theorem dX1_isBlock_31 : decode cX1_isBlock 31 = .ok (.invokevirtual 51, 3) := by decide +kernel
theorem dX1_isBlock_34 : decode cX1_isBlock 34 = .ok (.if_icmp .ge 34, 3) := by decide +kernel
theorem dX1_isBlock_37 : decode cX1_isBlock 37 = .ok (.aload_n 0, 1) := by decide +kernel
theorem dX1_isBlock_38 : decode cX1_isBlock 38 = .ok (.getfield 17, 3) := by decide +kernel
theorem dX1_isBlock_41 : decode cX1_isBlock 41 = .ok (.iload 4, 2) := by decide +kernel
theorem dX1_isBlock_43 : decode cX1_isBlock 43 = .ok (.iconst 1, 1) := by decide +kernel
theorem dX1_isBlock_44 : decode cX1_isBlock 44 = .ok (.iadd, 1) := by decide +kernel
theorem dX1_isBlock_45 : decode cX1_isBlock 45 = .ok (.iload 5, 2) := by decide +kernel
theorem dX1_isBlock_47 : decode cX1_isBlock 47 = .ok (.iadd, 1) := by decide +kernel
theorem dX1_isBlock_48 : decode cX1_isBlock 48 = .ok (.invokevirtual 55, 3) := by decide +kernel
theorem dX1_isBlock_51 : decode cX1_isBlock 51 = .ok (.aload_n 3, 1) := by decide +kernel
theorem dX1_isBlock_52 : decode cX1_isBlock 52 = .ok (.iload 5, 2) := by decide +kernel
theorem dX1_isBlock_54 : decode cX1_isBlock 54 = .ok (.invokevirtual 55, 3) := by decide +kernel
theorem dX1_isBlock_57 : decode cX1_isBlock 57 = .ok (.if_icmp .eq 5, 3) := by decide +kernel
theorem dX1_isBlock_60 : decode cX1_isBlock 60 = .ok (.iconst 0, 1) := by decide +kernel
theorem dX1_isBlock_61 : decode cX1_isBlock 61 = .ok (.ireturn, 1) := by decide +kernel
theorem dX1_isBlock_62 : decode cX1_isBlock 62 = .ok (.iinc 5 1, 3) := by decide +kernel
theorem dX1_isBlock_65 : decode cX1_isBlock 65 = .ok (.goto (-37), 3) := by decide +kernel
theorem dX1_isBlock_68 : decode cX1_isBlock 68 = .ok (.iconst 1, 1) := by decide +kernel
theorem dX1_isBlock_69 : decode cX1_isBlock 69 = .ok (.ireturn, 1) := by decide +kernel
set_option maxRecDepth 100000 in
set_option maxHeartbeats 4000000 in
theorem tX1_isBlock {T : tyT} {R : Nat} {J : Nat → Prop} {Bc Bs : Nat} {M : gMd} {z : Nat → Nat} {hp : List gA} {a0 : Int32} {a1 : Int32} {a2 m2 : Nat}  (H : tyS T R J Bc Bs M z hp) (hk2 : tyK a2 = (1, m2)) (hm_m2 : ¬ (m2 = 96 ∨ m2 = 15))  : gM yX1_isBlock cX1_isBlock 6 ((some .boolean)) 1 21 [.ref 3, .int a0, .int a1, .ref a2] (hp) (0) (0) (fun v h => ∃ x, v = some (.int x) ∧ ((x = 0 ∨ x = 1) ∧ tyS T R J Bc Bs M z h)) := by
  refine gM_of (ls0 := [some (.ref 3), some (.int a0), some (.int a1), some (.ref a2), none, none]) (by decide +kernel) (Nat.le_of_ble_eq_true rfl) rfl fun X C E => ?_
  have J_28 : ∀ (d28 : Nat) (y28_1 y28_2 y28_4 y28_5 : Int32) (hJ28 : List gA), (2147483647 - y28_5.toInt).toNat = d28 → ∀ (_ : True), tyS T R J Bc Bs M z hJ28 → gG X 28 [some (.ref 3), some (.int y28_1), some (.int y28_2), some (.ref a2), some (.int y28_4), some (.int y28_5)] [] hJ28 0 0 := by
    intro d28
    induction d28 using Nat.strongRecOn with
    | _ d28 ih28 =>
    intro y28_1 y28_2 y28_4 y28_5 hJ28 hd28 _ HJ28
    refine g_iload (q := 30) C dX1_isBlock_28 rfl rfl ?_
    refine g_aload_n (q := 31) C dX1_isBlock_30 rfl rfl ?_
    obtain ⟨l1, g1, -⟩ := tyRow HJ28 hk2
    refine g_callVip (q := 34) (As := []) C gyX4_size gvX4_size t_856 (tX4_size HJ28 hk2) dX1_isBlock_31 rfl g1.obj rfl rfl rfl (Nat.le_of_ble_eq_true rfl) (Nat.le_of_ble_eq_true rfl) (Nat.le_of_ble_eq_true rfl) (Nat.le_of_ble_eq_true rfl) (Nat.le_of_ble_eq_true rfl) rfl (fun x2 h2 q2 => ?_)
    subst q2
    refine g_icmp_ge (t := 68) (q := 37) C dX1_isBlock_34 (by decide) rfl (fun c_34 => ?_) (fun c_34 => ?_)
    ·
      have i_34 := Int32.le_iff_toInt_le.mp c_34
      refine g_iconst (v := 1) (q := 69) C dX1_isBlock_68 (by decide) rfl ?_
      exact E.1 _ _ _ _ _ _ _ dX1_isBlock_69 rfl (tyNar (Or.inr rfl)) (Nat.le_of_ble_eq_true rfl) (Nat.le_of_ble_eq_true rfl) ⟨_, rfl, (Or.inr rfl), HJ28⟩
    ·
      have i_34 := mt Int32.le_iff_toInt_le.mpr c_34
      refine g_aload_n (q := 38) C dX1_isBlock_37 rfl rfl ?_
      obtain ⟨x8_3, o3⟩ := tyG1 HJ28 (rfl : tyK 3 = (3, 0))
      refine g_getfield (v := .ref 4) (q := 41) C fX1_17 dX1_isBlock_38 rfl o3 rfl ?_
      refine g_iload (q := 43) C dX1_isBlock_41 rfl rfl ?_
      refine g_iconst (v := 1) (q := 44) C dX1_isBlock_43 (by decide) rfl ?_
      refine g_iadd (q := 45) C dX1_isBlock_44 rfl ?_
      refine g_iload (q := 47) C dX1_isBlock_45 rfl rfl ?_
      refine g_iadd (q := 48) C dX1_isBlock_47 rfl ?_
      obtain ⟨a4, l4, g4, -⟩ := tyRowg HJ28 (rfl : tyK 4 = (4, 1048576))
      refine g_callVip (q := 51) (As := [.int ((y28_4 + 1) + y28_5)]) C gyX4_at gvX4_at t_861 (tX4_at_g HJ28 (rfl : tyK 4 = (4, 1048576))) dX1_isBlock_48 rfl g4.obj rfl rfl rfl (Nat.le_of_ble_eq_true rfl) (Nat.le_of_ble_eq_true rfl) (Nat.le_of_ble_eq_true rfl) (Nat.le_of_ble_eq_true rfl) (Nat.le_of_ble_eq_true rfl) rfl (fun x5 h5 q5 => ?_)
      subst q5
      refine g_aload_n (q := 52) C dX1_isBlock_51 rfl rfl ?_
      refine g_iload (q := 54) C dX1_isBlock_52 rfl rfl ?_
      refine g_callVip (q := 57) (As := [.int y28_5]) C gyX4_at gvX4_at t_861 (tX4_at HJ28 hk2) dX1_isBlock_54 rfl g1.obj rfl rfl rfl (Nat.le_of_ble_eq_true rfl) (Nat.le_of_ble_eq_true rfl) (Nat.le_of_ble_eq_true rfl) (Nat.le_of_ble_eq_true rfl) (Nat.le_of_ble_eq_true rfl) rfl (fun x6 h6 q6 => ?_)
      subst q6
      refine g_icmp_eq (t := 62) (q := 60) C dX1_isBlock_57 (by decide) rfl (fun c_57 => ?_) (fun c_57 => ?_)
      ·
        refine g_iinc (v := y28_5 + 1) (q := 65) C dX1_isBlock_62 rfl rfl (by simp only [gset]; rfl) rfl ?_
        refine g_goto (q := 28) C dX1_isBlock_65 (by decide) ?_
        exact ih28 _ (tyUp' hd28 c_34) _ _ _ _ _ rfl trivial HJ28
      ·
        refine g_iconst (v := 0) (q := 61) C dX1_isBlock_60 (by decide) rfl ?_
        exact E.1 _ _ _ _ _ _ _ dX1_isBlock_61 rfl (tyNar (Or.inl rfl)) (Nat.le_of_ble_eq_true rfl) (Nat.le_of_ble_eq_true rfl) ⟨_, rfl, (Or.inl rfl), HJ28⟩
  refine g_aload_n (q := 1) C dX1_isBlock_0 rfl rfl ?_
  obtain ⟨x8_7, o7⟩ := tyG1 H (rfl : tyK 3 = (3, 0))
  refine g_getfield (v := .ref 6) (q := 4) C fX1_22 dX1_isBlock_1 rfl o7 rfl ?_
  refine g_iload_n (q := 5) C dX1_isBlock_4 rfl rfl ?_
  obtain ⟨a8, l8, g8, -⟩ := tyRowg H (rfl : tyK 6 = (4, 65536))
  refine g_callVip (q := 8) (As := [.int a0]) C gyX4_at gvX4_at t_861 (tX4_at_g H (rfl : tyK 6 = (4, 65536))) dX1_isBlock_5 rfl g8.obj rfl rfl rfl (Nat.le_of_ble_eq_true rfl) (Nat.le_of_ble_eq_true rfl) (Nat.le_of_ble_eq_true rfl) (Nat.le_of_ble_eq_true rfl) (Nat.le_of_ble_eq_true rfl) rfl (fun x9 h9 q9 => ?_)
  subst q9
  refine g_istore (q := 10) C dX1_isBlock_8 (Nat.le_of_ble_eq_true rfl) (by simp only [gset]; rfl) rfl ?_
  refine g_aload_n (q := 11) C dX1_isBlock_10 rfl rfl ?_
  refine g_getfield (v := .ref 4) (q := 14) C fX1_17 dX1_isBlock_11 rfl o7 rfl ?_
  refine g_iload (q := 16) C dX1_isBlock_14 rfl rfl ?_
  obtain ⟨a10, l10, g10, -⟩ := tyRowg H (rfl : tyK 4 = (4, 1048576))
  refine g_callVip (q := 19) (As := [.int x9]) C gyX4_at gvX4_at t_861 (tX4_at_g H (rfl : tyK 4 = (4, 1048576))) dX1_isBlock_16 rfl g10.obj rfl rfl rfl (Nat.le_of_ble_eq_true rfl) (Nat.le_of_ble_eq_true rfl) (Nat.le_of_ble_eq_true rfl) (Nat.le_of_ble_eq_true rfl) (Nat.le_of_ble_eq_true rfl) rfl (fun x11 h11 q11 => ?_)
  subst q11
  refine g_iload_n (q := 20) C dX1_isBlock_19 rfl rfl ?_
  refine g_icmp_eq (t := 25) (q := 23) C dX1_isBlock_20 (by decide) rfl (fun c_20 => ?_) (fun c_20 => ?_)
  ·
    refine g_iconst (v := 0) (q := 26) C dX1_isBlock_25 (by decide) rfl ?_
    refine g_istore (q := 28) C dX1_isBlock_26 (Nat.le_of_ble_eq_true rfl) (by simp only [gset]; rfl) rfl ?_
    exact J_28 _ _ _ _ _ _ rfl trivial H
  ·
    refine g_iconst (v := 0) (q := 24) C dX1_isBlock_23 (by decide) rfl ?_
    exact E.1 _ _ _ _ _ _ _ dX1_isBlock_24 rfl (tyNar (Or.inl rfl)) (Nat.le_of_ble_eq_true rfl) (Nat.le_of_ble_eq_true rfl) ⟨_, rfl, (Or.inl rfl), H⟩
theorem dX1_chainOf_0 : decode cX1_chainOf 0 = .ok (.iload_n 0, 1) := by decide +kernel
theorem dX1_chainOf_1 : decode cX1_chainOf 1 = .ok (.istore_n 2, 1) := by decide +kernel
theorem dX1_chainOf_2 : decode cX1_chainOf 2 = .ok (.iconst 1, 1) := by decide +kernel
theorem dX1_chainOf_3 : decode cX1_chainOf 3 = .ok (.istore_n 3, 1) := by decide +kernel
theorem dX1_chainOf_4 : decode cX1_chainOf 4 = .ok (.iload_n 3, 1) := by decide +kernel
theorem dX1_chainOf_5 : decode cX1_chainOf 5 = .ok (.aload_n 1, 1) := by decide +kernel
theorem dX1_chainOf_6 : decode cX1_chainOf 6 = .ok (.invokevirtual 51, 3) := by decide +kernel
theorem dX1_chainOf_9 : decode cX1_chainOf 9 = .ok (.if_icmp .ge 20, 3) := by decide +kernel
theorem dX1_chainOf_12 : decode cX1_chainOf 12 = .ok (.bipush 31, 2) := by decide +kernel
theorem dX1_chainOf_14 : decode cX1_chainOf 14 = .ok (.iload_n 2, 1) := by decide +kernel
theorem dX1_chainOf_15 : decode cX1_chainOf 15 = .ok (.imul, 1) := by decide +kernel
theorem dX1_chainOf_16 : decode cX1_chainOf 16 = .ok (.aload_n 1, 1) := by decide +kernel
theorem dX1_chainOf_17 : decode cX1_chainOf 17 = .ok (.iload_n 3, 1) := by decide +kernel
theorem dX1_chainOf_18 : decode cX1_chainOf 18 = .ok (.invokevirtual 55, 3) := by decide +kernel
theorem dX1_chainOf_21 : decode cX1_chainOf 21 = .ok (.iadd, 1) := by decide +kernel
theorem dX1_chainOf_22 : decode cX1_chainOf 22 = .ok (.istore_n 2, 1) := by decide +kernel
theorem dX1_chainOf_23 : decode cX1_chainOf 23 = .ok (.iinc 3 1, 3) := by decide +kernel
theorem dX1_chainOf_26 : decode cX1_chainOf 26 = .ok (.goto (-22), 3) := by decide +kernel
theorem dX1_chainOf_29 : decode cX1_chainOf 29 = .ok (.iload_n 2, 1) := by decide +kernel
theorem dX1_chainOf_30 : decode cX1_chainOf 30 = .ok (.iload_n 2, 1) := by decide +kernel
theorem dX1_chainOf_31 : decode cX1_chainOf 31 = .ok (.bipush 8, 2) := by decide +kernel
theorem dX1_chainOf_33 : decode cX1_chainOf 33 = .ok (.iushr, 1) := by decide +kernel
theorem dX1_chainOf_34 : decode cX1_chainOf 34 = .ok (.ixor, 1) := by decide +kernel
theorem dX1_chainOf_35 : decode cX1_chainOf 35 = .ok (.sipush 255, 3) := by decide +kernel
theorem dX1_chainOf_38 : decode cX1_chainOf 38 = .ok (.iand, 1) := by decide +kernel
theorem dX1_chainOf_39 : decode cX1_chainOf 39 = .ok (.ireturn, 1) := by decide +kernel
set_option maxRecDepth 100000 in
set_option maxHeartbeats 4000000 in
theorem tX1_chainOf {T : tyT} {R : Nat} {J : Nat → Prop} {Bc Bs : Nat} {M : gMd} {z : Nat → Nat} {hp : List gA} {a0 : Int32} {a1 m1 : Nat}  (H : tyS T R J Bc Bs M z hp) (hk1 : tyK a1 = (1, m1)) (hm_m1 : ¬ (m1 = 96 ∨ m1 = 15))  : gM yX1_chainOf cX1_chainOf 4 ((some .int)) 1 21 [.int a0, .ref a1] (hp) (0) (0) (fun v h => ∃ x, v = some (.int x) ∧ tyS T R J Bc Bs M z h) := by
  refine gM_of (ls0 := [some (.int a0), some (.ref a1), none, none]) (by decide +kernel) (Nat.le_of_ble_eq_true rfl) rfl fun X C E => ?_
  have J_4 : ∀ (d4 : Nat) (y4_0 y4_2 y4_3 : Int32) (hJ4 : List gA), (2147483647 - y4_3.toInt).toNat = d4 → ∀ (_ : True), tyS T R J Bc Bs M z hJ4 → gG X 4 [some (.int y4_0), some (.ref a1), some (.int y4_2), some (.int y4_3)] [] hJ4 0 0 := by
    intro d4
    induction d4 using Nat.strongRecOn with
    | _ d4 ih4 =>
    intro y4_0 y4_2 y4_3 hJ4 hd4 _ HJ4
    refine g_iload_n (q := 5) C dX1_chainOf_4 rfl rfl ?_
    refine g_aload_n (q := 6) C dX1_chainOf_5 rfl rfl ?_
    obtain ⟨l1, g1, -⟩ := tyRow HJ4 hk1
    refine g_callVip (q := 9) (As := []) C gyX4_size gvX4_size t_856 (tX4_size HJ4 hk1) dX1_chainOf_6 rfl g1.obj rfl rfl rfl (Nat.le_of_ble_eq_true rfl) (Nat.le_of_ble_eq_true rfl) (Nat.le_of_ble_eq_true rfl) (Nat.le_of_ble_eq_true rfl) (Nat.le_of_ble_eq_true rfl) rfl (fun x2 h2 q2 => ?_)
    subst q2
    refine g_icmp_ge (t := 29) (q := 12) C dX1_chainOf_9 (by decide) rfl (fun c_9 => ?_) (fun c_9 => ?_)
    ·
      have i_9 := Int32.le_iff_toInt_le.mp c_9
      refine g_iload_n (q := 30) C dX1_chainOf_29 rfl rfl ?_
      refine g_iload_n (q := 31) C dX1_chainOf_30 rfl rfl ?_
      refine g_bipush (v := 8) (q := 33) C dX1_chainOf_31 (by decide) rfl ?_
      refine g_iushr (q := 34) C dX1_chainOf_33 rfl ?_
      refine g_ixor (q := 35) C dX1_chainOf_34 rfl ?_
      refine g_sipush (v := 255) (q := 38) C dX1_chainOf_35 (by decide) rfl ?_
      refine g_iand (q := 39) C dX1_chainOf_38 rfl ?_
      exact E.1 _ _ _ _ _ _ _ dX1_chainOf_39 rfl rfl (Nat.le_of_ble_eq_true rfl) (Nat.le_of_ble_eq_true rfl) ⟨_, rfl, HJ4⟩
    ·
      have i_9 := mt Int32.le_iff_toInt_le.mpr c_9
      refine g_bipush (v := 31) (q := 14) C dX1_chainOf_12 (by decide) rfl ?_
      refine g_iload_n (q := 15) C dX1_chainOf_14 rfl rfl ?_
      refine g_imul (q := 16) C dX1_chainOf_15 rfl ?_
      refine g_aload_n (q := 17) C dX1_chainOf_16 rfl rfl ?_
      refine g_iload_n (q := 18) C dX1_chainOf_17 rfl rfl ?_
      refine g_callVip (q := 21) (As := [.int y4_3]) C gyX4_at gvX4_at t_861 (tX4_at HJ4 hk1) dX1_chainOf_18 rfl g1.obj rfl rfl rfl (Nat.le_of_ble_eq_true rfl) (Nat.le_of_ble_eq_true rfl) (Nat.le_of_ble_eq_true rfl) (Nat.le_of_ble_eq_true rfl) (Nat.le_of_ble_eq_true rfl) rfl (fun x3 h3 q3 => ?_)
      subst q3
      refine g_iadd (q := 22) C dX1_chainOf_21 rfl ?_
      refine g_istore_n (q := 23) C dX1_chainOf_22 (Nat.le_of_ble_eq_true rfl) (by simp only [gset]; rfl) rfl ?_
      refine g_iinc (v := y4_3 + 1) (q := 26) C dX1_chainOf_23 rfl rfl (by simp only [gset]; rfl) rfl ?_
      refine g_goto (q := 4) C dX1_chainOf_26 (by decide) ?_
      exact ih4 _ (tyUp' hd4 c_9) _ _ _ _ rfl trivial HJ4
  refine g_iload_n (q := 1) C dX1_chainOf_0 rfl rfl ?_
  refine g_istore_n (q := 2) C dX1_chainOf_1 (Nat.le_of_ble_eq_true rfl) (by simp only [gset]; rfl) rfl ?_
  refine g_iconst (v := 1) (q := 3) C dX1_chainOf_2 (by decide) rfl ?_
  refine g_istore_n (q := 4) C dX1_chainOf_3 (Nat.le_of_ble_eq_true rfl) (by simp only [gset]; rfl) rfl ?_
  exact J_4 _ _ _ _ _ rfl trivial H
theorem dX1_forgetAll_0 : decode cX1_forgetAll 0 = .ok (.aload_n 0, 1) := by decide +kernel
theorem dX1_forgetAll_1 : decode cX1_forgetAll 1 = .ok (.getfield 17, 3) := by decide +kernel
theorem dX1_forgetAll_4 : decode cX1_forgetAll 4 = .ok (.iconst 0, 1) := by decide +kernel
theorem dX1_forgetAll_5 : decode cX1_forgetAll 5 = .ok (.invokevirtual 47, 3) := by decide +kernel
theorem dX1_forgetAll_8 : decode cX1_forgetAll 8 = .ok (.aload_n 0, 1) := by decide +kernel
theorem dX1_forgetAll_9 : decode cX1_forgetAll 9 = .ok (.getfield 22, 3) := by decide +kernel
theorem dX1_forgetAll_12 : decode cX1_forgetAll 12 = .ok (.iconst 0, 1) := by decide +kernel
theorem dX1_forgetAll_13 : decode cX1_forgetAll 13 = .ok (.invokevirtual 47, 3) := by decide +kernel
theorem dX1_forgetAll_16 : decode cX1_forgetAll 16 = .ok (.aload_n 0, 1) := by decide +kernel
theorem dX1_forgetAll_17 : decode cX1_forgetAll 17 = .ok (.getfield 25, 3) := by decide +kernel
theorem dX1_forgetAll_20 : decode cX1_forgetAll 20 = .ok (.iconst 0, 1) := by decide +kernel
theorem dX1_forgetAll_21 : decode cX1_forgetAll 21 = .ok (.invokevirtual 47, 3) := by decide +kernel
theorem dX1_forgetAll_24 : decode cX1_forgetAll 24 = .ok (.aload_n 0, 1) := by decide +kernel
theorem dX1_forgetAll_25 : decode cX1_forgetAll 25 = .ok (.getfield 28, 3) := by decide +kernel
theorem dX1_forgetAll_28 : decode cX1_forgetAll 28 = .ok (.iconst 0, 1) := by decide +kernel
theorem dX1_forgetAll_29 : decode cX1_forgetAll 29 = .ok (.invokevirtual 47, 3) := by decide +kernel
theorem dX1_forgetAll_32 : decode cX1_forgetAll 32 = .ok (.aload_n 0, 1) := by decide +kernel
theorem dX1_forgetAll_33 : decode cX1_forgetAll 33 = .ok (.getfield 31, 3) := by decide +kernel
theorem dX1_forgetAll_36 : decode cX1_forgetAll 36 = .ok (.iconst 0, 1) := by decide +kernel
theorem dX1_forgetAll_37 : decode cX1_forgetAll 37 = .ok (.invokevirtual 47, 3) := by decide +kernel
theorem dX1_forgetAll_40 : decode cX1_forgetAll 40 = .ok (.aload_n 0, 1) := by decide +kernel
theorem dX1_forgetAll_41 : decode cX1_forgetAll 41 = .ok (.getfield 34, 3) := by decide +kernel
theorem dX1_forgetAll_44 : decode cX1_forgetAll 44 = .ok (.iconst 0, 1) := by decide +kernel
theorem dX1_forgetAll_45 : decode cX1_forgetAll 45 = .ok (.invokevirtual 47, 3) := by decide +kernel
theorem dX1_forgetAll_48 : decode cX1_forgetAll 48 = .ok (.aload_n 0, 1) := by decide +kernel
theorem dX1_forgetAll_49 : decode cX1_forgetAll 49 = .ok (.getfield 37, 3) := by decide +kernel
theorem dX1_forgetAll_52 : decode cX1_forgetAll 52 = .ok (.iconst 0, 1) := by decide +kernel
theorem dX1_forgetAll_53 : decode cX1_forgetAll 53 = .ok (.invokevirtual 47, 3) := by decide +kernel
theorem dX1_forgetAll_56 : decode cX1_forgetAll 56 = .ok (.aload_n 0, 1) := by decide +kernel
theorem dX1_forgetAll_57 : decode cX1_forgetAll 57 = .ok (.getfield 40, 3) := by decide +kernel
theorem dX1_forgetAll_60 : decode cX1_forgetAll 60 = .ok (.iconst 0, 1) := by decide +kernel
theorem dX1_forgetAll_61 : decode cX1_forgetAll 61 = .ok (.invokevirtual 47, 3) := by decide +kernel
theorem dX1_forgetAll_64 : decode cX1_forgetAll 64 = .ok (.aload_n 0, 1) := by decide +kernel
theorem dX1_forgetAll_65 : decode cX1_forgetAll 65 = .ok (.iconst (-1), 1) := by decide +kernel
theorem dX1_forgetAll_66 : decode cX1_forgetAll 66 = .ok (.putfield 43, 3) := by decide +kernel
theorem dX1_forgetAll_69 : decode cX1_forgetAll 69 = .ok (.return_, 1) := by decide +kernel
set_option maxRecDepth 100000 in
set_option maxHeartbeats 4000000 in
theorem tX1_forgetAll {T : tyT} {R : Nat} {J : Nat → Prop} {Bc Bs : Nat} {M : gMd} {z : Nat → Nat} {hp : List gA}  (H : tyS T R J Bc Bs M z hp)  : gM yX1_forgetAll cX1_forgetAll 1 (none) 2 42 [.ref 3] (hp) (0) (0) (fun v h => v = none ∧ tyS T R J Bc Bs M z h) := by
  refine gM_of (ls0 := [some (.ref 3)]) (by decide +kernel) (Nat.le_of_ble_eq_true rfl) rfl fun X C E => ?_
  refine g_aload_n (q := 1) C dX1_forgetAll_0 rfl rfl ?_
  obtain ⟨x8_1, o1⟩ := tyG1 H (rfl : tyK 3 = (3, 0))
  refine g_getfield (v := .ref 4) (q := 4) C fX1_17 dX1_forgetAll_1 rfl o1 rfl ?_
  refine g_iconst (v := 0) (q := 5) C dX1_forgetAll_4 (by decide) rfl ?_
  obtain ⟨a2, l2, g2, -⟩ := tyRowg H (rfl : tyK 4 = (4, 1048576))
  refine g_callVvp (q := 8) (As := [.int 0]) C gyX4_keep gvX4_keep t_564 (tX4_keep_g H (rfl : tyK 4 = (4, 1048576))) dX1_forgetAll_5 rfl g2.obj rfl rfl rfl (Nat.le_of_ble_eq_true rfl) (Nat.le_of_ble_eq_true rfl) (Nat.le_of_ble_eq_true rfl) (Nat.le_of_ble_eq_true rfl) (Nat.le_of_ble_eq_true rfl) rfl (fun h3 q3 => ?_)
  have H3 := q3
  refine g_aload_n (q := 9) C dX1_forgetAll_8 rfl rfl ?_
  obtain ⟨x8_4, o4⟩ := tyG1 H3 (rfl : tyK 3 = (3, 0))
  refine g_getfield (v := .ref 6) (q := 12) C fX1_22 dX1_forgetAll_9 rfl o4 rfl ?_
  refine g_iconst (v := 0) (q := 13) C dX1_forgetAll_12 (by decide) rfl ?_
  obtain ⟨a5, l5, g5, -⟩ := tyRowg H3 (rfl : tyK 6 = (4, 65536))
  refine g_callVvp (q := 16) (As := [.int 0]) C gyX4_keep gvX4_keep t_564 (tX4_keep_g H3 (rfl : tyK 6 = (4, 65536))) dX1_forgetAll_13 rfl g5.obj rfl rfl rfl (Nat.le_of_ble_eq_true rfl) (Nat.le_of_ble_eq_true rfl) (Nat.le_of_ble_eq_true rfl) (Nat.le_of_ble_eq_true rfl) (Nat.le_of_ble_eq_true rfl) rfl (fun h6 q6 => ?_)
  have H6 := q6
  refine g_aload_n (q := 17) C dX1_forgetAll_16 rfl rfl ?_
  obtain ⟨x8_7, o7⟩ := tyG1 H6 (rfl : tyK 3 = (3, 0))
  refine g_getfield (v := .ref 8) (q := 20) C fX1_25 dX1_forgetAll_17 rfl o7 rfl ?_
  refine g_iconst (v := 0) (q := 21) C dX1_forgetAll_20 (by decide) rfl ?_
  obtain ⟨a8, l8, g8, -⟩ := tyRowg H6 (rfl : tyK 8 = (4, 65536))
  refine g_callVvp (q := 24) (As := [.int 0]) C gyX4_keep gvX4_keep t_564 (tX4_keep_g H6 (rfl : tyK 8 = (4, 65536))) dX1_forgetAll_21 rfl g8.obj rfl rfl rfl (Nat.le_of_ble_eq_true rfl) (Nat.le_of_ble_eq_true rfl) (Nat.le_of_ble_eq_true rfl) (Nat.le_of_ble_eq_true rfl) (Nat.le_of_ble_eq_true rfl) rfl (fun h9 q9 => ?_)
  have H9 := q9
  refine g_aload_n (q := 25) C dX1_forgetAll_24 rfl rfl ?_
  obtain ⟨x8_10, o10⟩ := tyG1 H9 (rfl : tyK 3 = (3, 0))
  refine g_getfield (v := .ref 10) (q := 28) C fX1_28 dX1_forgetAll_25 rfl o10 rfl ?_
  refine g_iconst (v := 0) (q := 29) C dX1_forgetAll_28 (by decide) rfl ?_
  obtain ⟨a11, l11, g11, -⟩ := tyRowg H9 (rfl : tyK 10 = (4, 65536))
  refine g_callVvp (q := 32) (As := [.int 0]) C gyX4_keep gvX4_keep t_564 (tX4_keep_g H9 (rfl : tyK 10 = (4, 65536))) dX1_forgetAll_29 rfl g11.obj rfl rfl rfl (Nat.le_of_ble_eq_true rfl) (Nat.le_of_ble_eq_true rfl) (Nat.le_of_ble_eq_true rfl) (Nat.le_of_ble_eq_true rfl) (Nat.le_of_ble_eq_true rfl) rfl (fun h12 q12 => ?_)
  have H12 := q12
  refine g_aload_n (q := 33) C dX1_forgetAll_32 rfl rfl ?_
  obtain ⟨x8_13, o13⟩ := tyG1 H12 (rfl : tyK 3 = (3, 0))
  refine g_getfield (v := .ref 12) (q := 36) C fX1_31 dX1_forgetAll_33 rfl o13 rfl ?_
  refine g_iconst (v := 0) (q := 37) C dX1_forgetAll_36 (by decide) rfl ?_
  obtain ⟨l14, g14, -⟩ := tyRow H12 (rfl : tyK 12 = (1, 256))
  refine g_callVvp (q := 40) (As := [.int 0]) C gyX4_keep gvX4_keep t_564 (tX4_keep H12 (rfl : tyK 12 = (1, 256)) (by decide)) dX1_forgetAll_37 rfl g14.obj rfl rfl rfl (Nat.le_of_ble_eq_true rfl) (Nat.le_of_ble_eq_true rfl) (Nat.le_of_ble_eq_true rfl) (Nat.le_of_ble_eq_true rfl) (Nat.le_of_ble_eq_true rfl) rfl (fun h15 q15 => ?_)
  have H15 := q15
  refine g_aload_n (q := 41) C dX1_forgetAll_40 rfl rfl ?_
  obtain ⟨x8_16, o16⟩ := tyG1 H15 (rfl : tyK 3 = (3, 0))
  refine g_getfield (v := .ref 14) (q := 44) C fX1_34 dX1_forgetAll_41 rfl o16 rfl ?_
  refine g_iconst (v := 0) (q := 45) C dX1_forgetAll_44 (by decide) rfl ?_
  obtain ⟨l17, g17, -⟩ := tyRow H15 (rfl : tyK 14 = (1, 30))
  refine g_callVvp (q := 48) (As := [.int 0]) C gyX4_keep gvX4_keep t_564 (tX4_keep H15 (rfl : tyK 14 = (1, 30)) (by decide)) dX1_forgetAll_45 rfl g17.obj rfl rfl rfl (Nat.le_of_ble_eq_true rfl) (Nat.le_of_ble_eq_true rfl) (Nat.le_of_ble_eq_true rfl) (Nat.le_of_ble_eq_true rfl) (Nat.le_of_ble_eq_true rfl) rfl (fun h18 q18 => ?_)
  have H18 := q18
  refine g_aload_n (q := 49) C dX1_forgetAll_48 rfl rfl ?_
  obtain ⟨x8_19, o19⟩ := tyG1 H18 (rfl : tyK 3 = (3, 0))
  refine g_getfield (v := .ref 16) (q := 52) C fX1_37 dX1_forgetAll_49 rfl o19 rfl ?_
  refine g_iconst (v := 0) (q := 53) C dX1_forgetAll_52 (by decide) rfl ?_
  obtain ⟨l20, g20, -⟩ := tyRow H18 (rfl : tyK 16 = (1, 30))
  refine g_callVvp (q := 56) (As := [.int 0]) C gyX4_keep gvX4_keep t_564 (tX4_keep H18 (rfl : tyK 16 = (1, 30)) (by decide)) dX1_forgetAll_53 rfl g20.obj rfl rfl rfl (Nat.le_of_ble_eq_true rfl) (Nat.le_of_ble_eq_true rfl) (Nat.le_of_ble_eq_true rfl) (Nat.le_of_ble_eq_true rfl) (Nat.le_of_ble_eq_true rfl) rfl (fun h21 q21 => ?_)
  have H21 := q21
  refine g_aload_n (q := 57) C dX1_forgetAll_56 rfl rfl ?_
  obtain ⟨x8_22, o22⟩ := tyG1 H21 (rfl : tyK 3 = (3, 0))
  refine g_getfield (v := .ref 18) (q := 60) C fX1_40 dX1_forgetAll_57 rfl o22 rfl ?_
  refine g_iconst (v := 0) (q := 61) C dX1_forgetAll_60 (by decide) rfl ?_
  obtain ⟨l23, g23, -⟩ := tyRow H21 (rfl : tyK 18 = (1, 30))
  refine g_callVvp (q := 64) (As := [.int 0]) C gyX4_keep gvX4_keep t_564 (tX4_keep H21 (rfl : tyK 18 = (1, 30)) (by decide)) dX1_forgetAll_61 rfl g23.obj rfl rfl rfl (Nat.le_of_ble_eq_true rfl) (Nat.le_of_ble_eq_true rfl) (Nat.le_of_ble_eq_true rfl) (Nat.le_of_ble_eq_true rfl) (Nat.le_of_ble_eq_true rfl) rfl (fun h24 q24 => ?_)
  have H24 := q24
  refine g_aload_n (q := 65) C dX1_forgetAll_64 rfl rfl ?_
  refine g_iconst (v := (-1)) (q := 66) C dX1_forgetAll_65 (by decide) rfl ?_
  obtain ⟨x8_25, o25⟩ := tyG1 H24 (rfl : tyK 3 = (3, 0))
  refine g_putfield (q := 69) C fX1_43 dX1_forgetAll_66 rfl o25 (Nat.le_of_ble_eq_true rfl) (Or.inl rfl) rfl rfl (by intro z h; cases h) ?_
  refine tyP1 H24 (rfl : tyK 3 = (3, 0)) rfl  (fun h26 _ _ H26 => ?_)
  exact E.2.1 _ _ _ _ _ dX1_forgetAll_69 rfl (Nat.le_of_ble_eq_true rfl) (Nat.le_of_ble_eq_true rfl) ⟨rfl, H26⟩
theorem dX1_addUnlike_0 : decode cX1_addUnlike 0 = .ok (.aload_n 0, 1) := by decide +kernel
theorem dX1_addUnlike_1 : decode cX1_addUnlike 1 = .ok (.getfield 22, 3) := by decide +kernel
theorem dX1_addUnlike_4 : decode cX1_addUnlike 4 = .ok (.invokevirtual 51, 3) := by decide +kernel
theorem dX1_addUnlike_7 : decode cX1_addUnlike 7 = .ok (.istore 4, 2) := by decide +kernel
theorem dX1_addUnlike_9 : decode cX1_addUnlike 9 = .ok (.iload 4, 2) := by decide +kernel
theorem dX1_addUnlike_11 : decode cX1_addUnlike 11 = .ok (.ldc 21, 2) := by decide +kernel
theorem dX1_addUnlike_13 : decode cX1_addUnlike 13 = .ok (.if_icmp .ge 20, 3) := by decide +kernel
theorem dX1_addUnlike_16 : decode cX1_addUnlike 16 = .ok (.aload_n 0, 1) := by decide +kernel
theorem dX1_addUnlike_17 : decode cX1_addUnlike 17 = .ok (.getfield 17, 3) := by decide +kernel
theorem dX1_addUnlike_20 : decode cX1_addUnlike 20 = .ok (.invokevirtual 51, 3) := by decide +kernel
theorem dX1_addUnlike_23 : decode cX1_addUnlike 23 = .ok (.aload_n 2, 1) := by decide +kernel
theorem dX1_addUnlike_24 : decode cX1_addUnlike 24 = .ok (.invokevirtual 51, 3) := by decide +kernel
theorem dX1_addUnlike_27 : decode cX1_addUnlike 27 = .ok (.iadd, 1) := by decide +kernel
theorem dX1_addUnlike_28 : decode cX1_addUnlike 28 = .ok (.ldc 13, 2) := by decide +kernel
theorem dX1_addUnlike_30 : decode cX1_addUnlike 30 = .ok (.if_icmp .lt 5, 3) := by decide +kernel
theorem dX1_addUnlike_33 : decode cX1_addUnlike 33 = .ok (.iconst (-1), 1) := by decide +kernel
theorem dX1_addUnlike_34 : decode cX1_addUnlike 34 = .ok (.ireturn, 1) := by decide +kernel
theorem dX1_addUnlike_35 : decode cX1_addUnlike 35 = .ok (.aload_n 0, 1) := by decide +kernel
theorem dX1_addUnlike_36 : decode cX1_addUnlike 36 = .ok (.getfield 22, 3) := by decide +kernel
theorem dX1_addUnlike_39 : decode cX1_addUnlike 39 = .ok (.aload_n 0, 1) := by decide +kernel
theorem dX1_addUnlike_40 : decode cX1_addUnlike 40 = .ok (.getfield 17, 3) := by decide +kernel
theorem dX1_addUnlike_43 : decode cX1_addUnlike 43 = .ok (.invokevirtual 51, 3) := by decide +kernel
theorem dX1_addUnlike_46 : decode cX1_addUnlike 46 = .ok (.invokevirtual 62, 3) := by decide +kernel
theorem dX1_addUnlike_49 : decode cX1_addUnlike 49 = .ok (.aload_n 0, 1) := by decide +kernel
theorem dX1_addUnlike_50 : decode cX1_addUnlike 50 = .ok (.getfield 25, 3) := by decide +kernel
theorem dX1_addUnlike_53 : decode cX1_addUnlike 53 = .ok (.iconst 0, 1) := by decide +kernel
theorem dX1_addUnlike_54 : decode cX1_addUnlike 54 = .ok (.invokevirtual 62, 3) := by decide +kernel
theorem dX1_addUnlike_57 : decode cX1_addUnlike 57 = .ok (.aload_n 0, 1) := by decide +kernel
theorem dX1_addUnlike_58 : decode cX1_addUnlike 58 = .ok (.getfield 28, 3) := by decide +kernel
theorem dX1_addUnlike_61 : decode cX1_addUnlike 61 = .ok (.aload_n 0, 1) := by decide +kernel
theorem dX1_addUnlike_62 : decode cX1_addUnlike 62 = .ok (.getfield 31, 3) := by decide +kernel
theorem dX1_addUnlike_65 : decode cX1_addUnlike 65 = .ok (.iload_n 3, 1) := by decide +kernel
theorem dX1_addUnlike_66 : decode cX1_addUnlike 66 = .ok (.invokevirtual 55, 3) := by decide +kernel
theorem dX1_addUnlike_69 : decode cX1_addUnlike 69 = .ok (.invokevirtual 62, 3) := by decide +kernel
theorem dX1_addUnlike_72 : decode cX1_addUnlike 72 = .ok (.aload_n 0, 1) := by decide +kernel
theorem dX1_addUnlike_73 : decode cX1_addUnlike 73 = .ok (.getfield 31, 3) := by decide +kernel
theorem dX1_addUnlike_76 : decode cX1_addUnlike 76 = .ok (.iload_n 3, 1) := by decide +kernel
theorem dX1_addUnlike_77 : decode cX1_addUnlike 77 = .ok (.iload 4, 2) := by decide +kernel
theorem dX1_addUnlike_79 : decode cX1_addUnlike 79 = .ok (.invokevirtual 59, 3) := by decide +kernel
theorem dX1_addUnlike_82 : decode cX1_addUnlike 82 = .ok (.aload_n 0, 1) := by decide +kernel
theorem dX1_addUnlike_83 : decode cX1_addUnlike 83 = .ok (.getfield 17, 3) := by decide +kernel
theorem dX1_addUnlike_86 : decode cX1_addUnlike 86 = .ok (.iload_n 1, 1) := by decide +kernel
theorem dX1_addUnlike_87 : decode cX1_addUnlike 87 = .ok (.invokevirtual 62, 3) := by decide +kernel
theorem dX1_addUnlike_90 : decode cX1_addUnlike 90 = .ok (.iconst 0, 1) := by decide +kernel
theorem dX1_addUnlike_91 : decode cX1_addUnlike 91 = .ok (.istore 5, 2) := by decide +kernel
theorem dX1_addUnlike_93 : decode cX1_addUnlike 93 = .ok (.iload 5, 2) := by decide +kernel
theorem dX1_addUnlike_95 : decode cX1_addUnlike 95 = .ok (.aload_n 2, 1) := by decide +kernel
theorem dX1_addUnlike_96 : decode cX1_addUnlike 96 = .ok (.invokevirtual 51, 3) := by decide +kernel
theorem dX1_addUnlike_99 : decode cX1_addUnlike 99 = .ok (.if_icmp .ge 22, 3) := by decide +kernel
theorem dX1_addUnlike_102 : decode cX1_addUnlike 102 = .ok (.aload_n 0, 1) := by decide +kernel
theorem dX1_addUnlike_103 : decode cX1_addUnlike 103 = .ok (.getfield 17, 3) := by decide +kernel
theorem dX1_addUnlike_106 : decode cX1_addUnlike 106 = .ok (.aload_n 2, 1) := by decide +kernel
theorem dX1_addUnlike_107 : decode cX1_addUnlike 107 = .ok (.iload 5, 2) := by decide +kernel
theorem dX1_addUnlike_109 : decode cX1_addUnlike 109 = .ok (.invokevirtual 55, 3) := by decide +kernel
theorem dX1_addUnlike_112 : decode cX1_addUnlike 112 = .ok (.invokevirtual 62, 3) := by decide +kernel
theorem dX1_addUnlike_115 : decode cX1_addUnlike 115 = .ok (.iinc 5 1, 3) := by decide +kernel
theorem dX1_addUnlike_118 : decode cX1_addUnlike 118 = .ok (.goto (-25), 3) := by decide +kernel
theorem dX1_addUnlike_121 : decode cX1_addUnlike 121 = .ok (.iload 4, 2) := by decide +kernel
theorem dX1_addUnlike_123 : decode cX1_addUnlike 123 = .ok (.ireturn, 1) := by decide +kernel
set_option maxRecDepth 100000 in
set_option maxHeartbeats 4000000 in
theorem tX1_addUnlike {T : tyT} {R : Nat} {J : Nat → Prop} {Bc Bs : Nat} {M : gMd} {z : Nat → Nat} {hp : List gA} {a0 : Int32} {a1 m1 : Nat} {a2 : Int32}  (H : tyS T R J Bc Bs M z hp) (hk1 : tyK a1 = (1, m1)) (hm_m1 : ¬ (m1 = 96 ∨ m1 = 15))  : gM yX1_addUnlike cX1_addUnlike 6 ((some .int)) 3 103 [.ref 3, .int a0, .ref a1, .int a2] (hp) (300000 - hp.length) (7000000 - gsz hp) (fun v h => ∃ x, v = some (.int x) ∧ ∃ z', tyS T R J Bc Bs M z' h) := by
  refine gM_ofT (ls0 := [some (.ref 3), some (.int a0), some (.ref a1), some (.int a2), none, none]) (by decide +kernel) (Nat.le_of_ble_eq_true rfl) rfl fun X C E h0 => ?_
  have J_93 : ∀ (d93 : Nat) (y93_1 y93_3 y93_4 y93_5 : Int32) (zJ93 : Nat → Nat) (hJ93 : List gA), (2147483647 - y93_5.toInt).toNat = d93 → ∀ (_ : True), tyS T R J Bc Bs M zJ93 hJ93 → gG X 93 [some (.ref 3), some (.int y93_1), some (.ref a1), some (.int y93_3), some (.int y93_4), some (.int y93_5)] [] hJ93 (hJ93.length - hp.length) (gsz hJ93 - gsz hp) := by
    intro d93
    induction d93 using Nat.strongRecOn with
    | _ d93 ih93 =>
    intro y93_1 y93_3 y93_4 y93_5 zJ93 hJ93 hd93 _ HJ93
    refine g_iload (q := 95) C dX1_addUnlike_93 rfl rfl ?_
    refine g_aload_n (q := 96) C dX1_addUnlike_95 rfl rfl ?_
    obtain ⟨l1, g1, -⟩ := tyRow HJ93 hk1
    refine g_tight h0 H.2.2.2.1 HJ93.2.2.2.1 (fun ta2 tb2 => ?_)
    have lm2 := HJ93.lim
    refine g_callVip (q := 99) (As := []) C gyX4_size gvX4_size t_856 (tX4_size HJ93 hk1) dX1_addUnlike_96 rfl g1.obj rfl rfl rfl (Nat.le_of_ble_eq_true rfl) (Nat.le_of_ble_eq_true rfl) (Nat.le_of_ble_eq_true rfl) (by show _ + _ ≤ 300000 - List.length hp; omega) (by show _ + _ ≤ 7000000 - gsz hp; omega) rfl (fun x3 h3 q3 => ?_)
    subst q3
    refine g_icmp_ge (t := 121) (q := 102) C dX1_addUnlike_99 (by decide) rfl (fun c_99 => ?_) (fun c_99 => ?_)
    ·
      have i_99 := Int32.le_iff_toInt_le.mp c_99
      refine g_iload (q := 123) C dX1_addUnlike_121 rfl rfl ?_
      refine g_tight h0 H.2.2.2.1 HJ93.2.2.2.1 (fun ta4 tb4 => ?_)
      have lm4 := HJ93.lim
      exact E.1 _ _ _ _ _ _ _ dX1_addUnlike_123 rfl rfl (by omega) (by omega) ⟨_, rfl, ⟨_, HJ93⟩⟩
    ·
      have i_99 := mt Int32.le_iff_toInt_le.mpr c_99
      refine g_aload_n (q := 103) C dX1_addUnlike_102 rfl rfl ?_
      obtain ⟨x8_5, o5⟩ := tyG1 HJ93 (rfl : tyK 3 = (3, 0))
      refine g_getfield (v := .ref 4) (q := 106) C fX1_17 dX1_addUnlike_103 rfl o5 rfl ?_
      refine g_aload_n (q := 107) C dX1_addUnlike_106 rfl rfl ?_
      refine g_iload (q := 109) C dX1_addUnlike_107 rfl rfl ?_
      refine g_tight h0 H.2.2.2.1 HJ93.2.2.2.1 (fun ta6 tb6 => ?_)
      have lm6 := HJ93.lim
      refine g_callVip (q := 112) (As := [.int y93_5]) C gyX4_at gvX4_at t_861 (tX4_at HJ93 hk1) dX1_addUnlike_109 rfl g1.obj rfl rfl rfl (Nat.le_of_ble_eq_true rfl) (Nat.le_of_ble_eq_true rfl) (Nat.le_of_ble_eq_true rfl) (by show _ + _ ≤ 300000 - List.length hp; omega) (by show _ + _ ≤ 7000000 - gsz hp; omega) rfl (fun x7 h7 q7 => ?_)
      subst q7
      obtain ⟨a8, l8, g8, -⟩ := tyRowg HJ93 (rfl : tyK 4 = (4, 1048576))
      refine g_tight h0 H.2.2.2.1 HJ93.2.2.2.1 (fun ta9 tb9 => ?_)
      have lm9 := HJ93.lim
      refine g_callVvp (q := 115) (As := [.int x7]) C gyX4_add gvX4_add t_857 (tX4_add_g HJ93 (rfl : tyK 4 = (4, 1048576)) (by decide)) dX1_addUnlike_112 rfl g8.obj rfl rfl rfl (Nat.le_of_ble_eq_true rfl) (Nat.le_of_ble_eq_true rfl) (Nat.le_of_ble_eq_true rfl) (by show _ + _ ≤ 300000 - List.length hp; omega) (by show _ + _ ≤ 7000000 - gsz hp; omega) rfl (fun h10 q10 => ?_)
      obtain ⟨z10, H10⟩ := q10
      refine g_iinc (v := y93_5 + 1) (q := 118) C dX1_addUnlike_115 rfl rfl (by simp only [gset]; rfl) rfl ?_
      refine g_goto (q := 93) C dX1_addUnlike_118 (by decide) ?_
      refine g_tight h0 H.2.2.2.1 H10.2.2.2.1 (fun ta11 tb11 => ?_)
      exact ih93 _ (tyUp' hd93 c_99) _ _ _ _ _ _ rfl trivial H10
  have J_33 : ∀ (y33_1 y33_3 y33_4 : Int32) (zJ33 : Nat → Nat) (hJ33 : List gA), tyS T R J Bc Bs M zJ33 hJ33 → gG X 33 [some (.ref 3), some (.int y33_1), some (.ref a1), some (.int y33_3), some (.int y33_4), none] [] hJ33 (hJ33.length - hp.length) (gsz hJ33 - gsz hp) := by
    intro y33_1 y33_3 y33_4 zJ33 hJ33 HJ33
    refine g_iconst (v := (-1)) (q := 34) C dX1_addUnlike_33 (by decide) rfl ?_
    refine g_tight h0 H.2.2.2.1 HJ33.2.2.2.1 (fun ta12 tb12 => ?_)
    have lm12 := HJ33.lim
    exact E.1 _ _ _ _ _ _ _ dX1_addUnlike_34 rfl rfl (by omega) (by omega) ⟨_, rfl, ⟨_, HJ33⟩⟩
  refine g_aload_n (q := 1) C dX1_addUnlike_0 rfl rfl ?_
  obtain ⟨x8_13, o13⟩ := tyG1 H (rfl : tyK 3 = (3, 0))
  refine g_getfield (v := .ref 6) (q := 4) C fX1_22 dX1_addUnlike_1 rfl o13 rfl ?_
  obtain ⟨a14, l14, g14, -⟩ := tyRowg H (rfl : tyK 6 = (4, 65536))
  refine g_tight h0 H.2.2.2.1 H.2.2.2.1 (fun ta15 tb15 => ?_)
  have lm15 := H.lim
  refine g_callVip (q := 7) (As := []) C gyX4_size gvX4_size t_856 (tX4_size_g H (rfl : tyK 6 = (4, 65536))) dX1_addUnlike_4 rfl g14.obj rfl rfl rfl (Nat.le_of_ble_eq_true rfl) (Nat.le_of_ble_eq_true rfl) (Nat.le_of_ble_eq_true rfl) (by show _ + _ ≤ 300000 - List.length hp; omega) (by show _ + _ ≤ 7000000 - gsz hp; omega) rfl (fun x16 h16 q16 => ?_)
  subst q16
  refine g_istore (q := 9) C dX1_addUnlike_7 (Nat.le_of_ble_eq_true rfl) (by simp only [gset]; rfl) rfl ?_
  refine g_iload (q := 11) C dX1_addUnlike_9 rfl rfl ?_
  refine g_ldc (q := 13) C t_154 dX1_addUnlike_11 rfl ?_
  refine g_icmp_ge (t := 33) (q := 16) C dX1_addUnlike_13 (by decide) rfl (fun c_13 => ?_) (fun c_13 => ?_)
  ·
    have i_13 := Int32.le_iff_toInt_le.mp c_13
    refine g_tight h0 H.2.2.2.1 H.2.2.2.1 (fun ta17 tb17 => ?_)
    exact J_33 _ _ _ _ _  H
  ·
    have i_13 := mt Int32.le_iff_toInt_le.mpr c_13
    refine g_aload_n (q := 17) C dX1_addUnlike_16 rfl rfl ?_
    refine g_getfield (v := .ref 4) (q := 20) C fX1_17 dX1_addUnlike_17 rfl o13 rfl ?_
    obtain ⟨a18, l18, g18, -⟩ := tyRowg H (rfl : tyK 4 = (4, 1048576))
    refine g_tight h0 H.2.2.2.1 H.2.2.2.1 (fun ta19 tb19 => ?_)
    have lm19 := H.lim
    refine g_callVip (q := 23) (As := []) C gyX4_size gvX4_size t_856 (tX4_size_g H (rfl : tyK 4 = (4, 1048576))) dX1_addUnlike_20 rfl g18.obj rfl rfl rfl (Nat.le_of_ble_eq_true rfl) (Nat.le_of_ble_eq_true rfl) (Nat.le_of_ble_eq_true rfl) (by show _ + _ ≤ 300000 - List.length hp; omega) (by show _ + _ ≤ 7000000 - gsz hp; omega) rfl (fun x20 h20 q20 => ?_)
    subst q20
    refine g_aload_n (q := 24) C dX1_addUnlike_23 rfl rfl ?_
    obtain ⟨l21, g21, -⟩ := tyRow H hk1
    refine g_tight h0 H.2.2.2.1 H.2.2.2.1 (fun ta22 tb22 => ?_)
    have lm22 := H.lim
    refine g_callVip (q := 27) (As := []) C gyX4_size gvX4_size t_856 (tX4_size H hk1) dX1_addUnlike_24 rfl g21.obj rfl rfl rfl (Nat.le_of_ble_eq_true rfl) (Nat.le_of_ble_eq_true rfl) (Nat.le_of_ble_eq_true rfl) (by show _ + _ ≤ 300000 - List.length hp; omega) (by show _ + _ ≤ 7000000 - gsz hp; omega) rfl (fun x23 h23 q23 => ?_)
    subst q23
    refine g_iadd (q := 28) C dX1_addUnlike_27 rfl ?_
    refine g_ldc (q := 30) C t_152 dX1_addUnlike_28 rfl ?_
    refine g_icmp_lt (t := 35) (q := 33) C dX1_addUnlike_30 (by decide) rfl (fun c_30 => ?_) (fun c_30 => ?_)
    ·
      have i_30 := Int32.lt_iff_toInt_lt.mp c_30
      refine g_aload_n (q := 36) C dX1_addUnlike_35 rfl rfl ?_
      refine g_getfield (v := .ref 6) (q := 39) C fX1_22 dX1_addUnlike_36 rfl o13 rfl ?_
      refine g_aload_n (q := 40) C dX1_addUnlike_39 rfl rfl ?_
      refine g_getfield (v := .ref 4) (q := 43) C fX1_17 dX1_addUnlike_40 rfl o13 rfl ?_
      refine g_tight h0 H.2.2.2.1 H.2.2.2.1 (fun ta24 tb24 => ?_)
      have lm24 := H.lim
      refine g_callVip (q := 46) (As := []) C gyX4_size gvX4_size t_856 (tX4_size_g H (rfl : tyK 4 = (4, 1048576))) dX1_addUnlike_43 rfl g18.obj rfl rfl rfl (Nat.le_of_ble_eq_true rfl) (Nat.le_of_ble_eq_true rfl) (Nat.le_of_ble_eq_true rfl) (by show _ + _ ≤ 300000 - List.length hp; omega) (by show _ + _ ≤ 7000000 - gsz hp; omega) rfl (fun x25 h25 q25 => ?_)
      subst q25
      refine g_tight h0 H.2.2.2.1 H.2.2.2.1 (fun ta26 tb26 => ?_)
      have lm26 := H.lim
      refine g_callVvp (q := 49) (As := [.int x25]) C gyX4_add gvX4_add t_857 (tX4_add_g H (rfl : tyK 6 = (4, 65536)) (by decide)) dX1_addUnlike_46 rfl g14.obj rfl rfl rfl (Nat.le_of_ble_eq_true rfl) (Nat.le_of_ble_eq_true rfl) (Nat.le_of_ble_eq_true rfl) (by show _ + _ ≤ 300000 - List.length hp; omega) (by show _ + _ ≤ 7000000 - gsz hp; omega) rfl (fun h27 q27 => ?_)
      obtain ⟨z27, H27⟩ := q27
      refine g_aload_n (q := 50) C dX1_addUnlike_49 rfl rfl ?_
      obtain ⟨x8_28, o28⟩ := tyG1 H27 (rfl : tyK 3 = (3, 0))
      refine g_getfield (v := .ref 8) (q := 53) C fX1_25 dX1_addUnlike_50 rfl o28 rfl ?_
      refine g_iconst (v := 0) (q := 54) C dX1_addUnlike_53 (by decide) rfl ?_
      obtain ⟨a29, l29, g29, -⟩ := tyRowg H27 (rfl : tyK 8 = (4, 65536))
      refine g_tight h0 H.2.2.2.1 H27.2.2.2.1 (fun ta30 tb30 => ?_)
      have lm30 := H27.lim
      refine g_callVvp (q := 57) (As := [.int 0]) C gyX4_add gvX4_add t_857 (tX4_add_g H27 (rfl : tyK 8 = (4, 65536)) (by decide)) dX1_addUnlike_54 rfl g29.obj rfl rfl rfl (Nat.le_of_ble_eq_true rfl) (Nat.le_of_ble_eq_true rfl) (Nat.le_of_ble_eq_true rfl) (by show _ + _ ≤ 300000 - List.length hp; omega) (by show _ + _ ≤ 7000000 - gsz hp; omega) rfl (fun h31 q31 => ?_)
      obtain ⟨z31, H31⟩ := q31
      refine g_aload_n (q := 58) C dX1_addUnlike_57 rfl rfl ?_
      obtain ⟨x8_32, o32⟩ := tyG1 H31 (rfl : tyK 3 = (3, 0))
      refine g_getfield (v := .ref 10) (q := 61) C fX1_28 dX1_addUnlike_58 rfl o32 rfl ?_
      refine g_aload_n (q := 62) C dX1_addUnlike_61 rfl rfl ?_
      refine g_getfield (v := .ref 12) (q := 65) C fX1_31 dX1_addUnlike_62 rfl o32 rfl ?_
      refine g_iload_n (q := 66) C dX1_addUnlike_65 rfl rfl ?_
      obtain ⟨l33, g33, -⟩ := tyRow H31 (rfl : tyK 12 = (1, 256))
      refine g_tight h0 H.2.2.2.1 H31.2.2.2.1 (fun ta34 tb34 => ?_)
      have lm34 := H31.lim
      refine g_callVip (q := 69) (As := [.int a2]) C gyX4_at gvX4_at t_861 (tX4_at H31 (rfl : tyK 12 = (1, 256))) dX1_addUnlike_66 rfl g33.obj rfl rfl rfl (Nat.le_of_ble_eq_true rfl) (Nat.le_of_ble_eq_true rfl) (Nat.le_of_ble_eq_true rfl) (by show _ + _ ≤ 300000 - List.length hp; omega) (by show _ + _ ≤ 7000000 - gsz hp; omega) rfl (fun x35 h35 q35 => ?_)
      subst q35
      obtain ⟨a36, l36, g36, -⟩ := tyRowg H31 (rfl : tyK 10 = (4, 65536))
      refine g_tight h0 H.2.2.2.1 H31.2.2.2.1 (fun ta37 tb37 => ?_)
      have lm37 := H31.lim
      refine g_callVvp (q := 72) (As := [.int x35]) C gyX4_add gvX4_add t_857 (tX4_add_g H31 (rfl : tyK 10 = (4, 65536)) (by decide)) dX1_addUnlike_69 rfl g36.obj rfl rfl rfl (Nat.le_of_ble_eq_true rfl) (Nat.le_of_ble_eq_true rfl) (Nat.le_of_ble_eq_true rfl) (by show _ + _ ≤ 300000 - List.length hp; omega) (by show _ + _ ≤ 7000000 - gsz hp; omega) rfl (fun h38 q38 => ?_)
      obtain ⟨z38, H38⟩ := q38
      refine g_aload_n (q := 73) C dX1_addUnlike_72 rfl rfl ?_
      obtain ⟨x8_39, o39⟩ := tyG1 H38 (rfl : tyK 3 = (3, 0))
      refine g_getfield (v := .ref 12) (q := 76) C fX1_31 dX1_addUnlike_73 rfl o39 rfl ?_
      refine g_iload_n (q := 77) C dX1_addUnlike_76 rfl rfl ?_
      refine g_iload (q := 79) C dX1_addUnlike_77 rfl rfl ?_
      obtain ⟨l40, g40, -⟩ := tyRow H38 (rfl : tyK 12 = (1, 256))
      refine g_tight h0 H.2.2.2.1 H38.2.2.2.1 (fun ta41 tb41 => ?_)
      have lm41 := H38.lim
      refine g_callVvp (q := 82) (As := [.int a2, .int x16]) C gyX4_put gvX4_put t_870 (tX4_put H38 (rfl : tyK 12 = (1, 256)) (by decide)) dX1_addUnlike_79 rfl g40.obj rfl rfl rfl (Nat.le_of_ble_eq_true rfl) (Nat.le_of_ble_eq_true rfl) (Nat.le_of_ble_eq_true rfl) (by show _ + _ ≤ 300000 - List.length hp; omega) (by show _ + _ ≤ 7000000 - gsz hp; omega) rfl (fun h42 q42 => ?_)
      have H42 := q42
      refine g_aload_n (q := 83) C dX1_addUnlike_82 rfl rfl ?_
      obtain ⟨x8_43, o43⟩ := tyG1 H42 (rfl : tyK 3 = (3, 0))
      refine g_getfield (v := .ref 4) (q := 86) C fX1_17 dX1_addUnlike_83 rfl o43 rfl ?_
      refine g_iload_n (q := 87) C dX1_addUnlike_86 rfl rfl ?_
      obtain ⟨a44, l44, g44, -⟩ := tyRowg H42 (rfl : tyK 4 = (4, 1048576))
      refine g_tight h0 H.2.2.2.1 H42.2.2.2.1 (fun ta45 tb45 => ?_)
      have lm45 := H42.lim
      refine g_callVvp (q := 90) (As := [.int a0]) C gyX4_add gvX4_add t_857 (tX4_add_g H42 (rfl : tyK 4 = (4, 1048576)) (by decide)) dX1_addUnlike_87 rfl g44.obj rfl rfl rfl (Nat.le_of_ble_eq_true rfl) (Nat.le_of_ble_eq_true rfl) (Nat.le_of_ble_eq_true rfl) (by show _ + _ ≤ 300000 - List.length hp; omega) (by show _ + _ ≤ 7000000 - gsz hp; omega) rfl (fun h46 q46 => ?_)
      obtain ⟨z46, H46⟩ := q46
      refine g_iconst (v := 0) (q := 91) C dX1_addUnlike_90 (by decide) rfl ?_
      refine g_istore (q := 93) C dX1_addUnlike_91 (Nat.le_of_ble_eq_true rfl) (by simp only [gset]; rfl) rfl ?_
      refine g_tight h0 H.2.2.2.1 H46.2.2.2.1 (fun ta47 tb47 => ?_)
      exact J_93 _ _ _ _ _ _ _ rfl trivial H46
    ·
      have i_30 := mt Int32.lt_iff_toInt_lt.mpr c_30
      refine g_tight h0 H.2.2.2.1 H.2.2.2.1 (fun ta48 tb48 => ?_)
      exact J_33 _ _ _ _ _  H
theorem dX1_idOf_0 : decode cX1_idOf 0 = .ok (.aload_n 0, 1) := by decide +kernel
theorem dX1_idOf_1 : decode cX1_idOf 1 = .ok (.getfield 31, 3) := by decide +kernel
theorem dX1_idOf_4 : decode cX1_idOf 4 = .ok (.invokevirtual 51, 3) := by decide +kernel
theorem dX1_idOf_7 : decode cX1_idOf 7 = .ok (.istore_n 3, 1) := by decide +kernel
theorem dX1_idOf_8 : decode cX1_idOf 8 = .ok (.iload_n 3, 1) := by decide +kernel
theorem dX1_idOf_9 : decode cX1_idOf 9 = .ok (.sipush 256, 3) := by decide +kernel
theorem dX1_idOf_12 : decode cX1_idOf 12 = .ok (.if_icmp .ge 17, 3) := by decide +kernel
theorem dX1_idOf_15 : decode cX1_idOf 15 = .ok (.aload_n 0, 1) := by decide +kernel
theorem dX1_idOf_16 : decode cX1_idOf 16 = .ok (.getfield 31, 3) := by decide +kernel
theorem dX1_idOf_19 : decode cX1_idOf 19 = .ok (.iconst (-1), 1) := by decide +kernel
theorem dX1_idOf_20 : decode cX1_idOf 20 = .ok (.invokevirtual 62, 3) := by decide +kernel
theorem dX1_idOf_23 : decode cX1_idOf 23 = .ok (.iinc 3 1, 3) := by decide +kernel
theorem dX1_idOf_26 : decode cX1_idOf 26 = .ok (.goto (-18), 3) := by decide +kernel
theorem dX1_idOf_29 : decode cX1_idOf 29 = .ok (.iload_n 1, 1) := by decide +kernel
theorem dX1_idOf_30 : decode cX1_idOf 30 = .ok (.aload_n 2, 1) := by decide +kernel
theorem dX1_idOf_31 : decode cX1_idOf 31 = .ok (.invokestatic 65, 3) := by decide +kernel
theorem dX1_idOf_34 : decode cX1_idOf 34 = .ok (.istore_n 3, 1) := by decide +kernel
theorem dX1_idOf_35 : decode cX1_idOf 35 = .ok (.aload_n 0, 1) := by decide +kernel
theorem dX1_idOf_36 : decode cX1_idOf 36 = .ok (.getfield 31, 3) := by decide +kernel
theorem dX1_idOf_39 : decode cX1_idOf 39 = .ok (.iload_n 3, 1) := by decide +kernel
theorem dX1_idOf_40 : decode cX1_idOf 40 = .ok (.invokevirtual 55, 3) := by decide +kernel
theorem dX1_idOf_43 : decode cX1_idOf 43 = .ok (.istore 4, 2) := by decide +kernel
theorem dX1_idOf_45 : decode cX1_idOf 45 = .ok (.iconst 0, 1) := by decide +kernel
theorem dX1_idOf_46 : decode cX1_idOf 46 = .ok (.istore 5, 2) := by decide +kernel
theorem dX1_idOf_48 : decode cX1_idOf 48 = .ok (.iload 5, 2) := by decide +kernel
theorem dX1_idOf_50 : decode cX1_idOf 50 = .ok (.aload_n 0, 1) := by decide +kernel
theorem dX1_idOf_51 : decode cX1_idOf 51 = .ok (.getfield 22, 3) := by decide +kernel
theorem dX1_idOf_54 : decode cX1_idOf 54 = .ok (.invokevirtual 51, 3) := by decide +kernel
theorem dX1_idOf_57 : decode cX1_idOf 57 = .ok (.if_icmp .ge 40, 3) := by decide +kernel
theorem dX1_idOf_60 : decode cX1_idOf 60 = .ok (.iload 4, 2) := by decide +kernel
theorem dX1_idOf_62 : decode cX1_idOf 62 = .ok (.iconst (-1), 1) := by decide +kernel
theorem dX1_idOf_63 : decode cX1_idOf 63 = .ok (.if_icmp .eq 34, 3) := by decide +kernel
theorem dX1_idOf_66 : decode cX1_idOf 66 = .ok (.aload_n 0, 1) := by decide +kernel
theorem dX1_idOf_67 : decode cX1_idOf 67 = .ok (.iload 4, 2) := by decide +kernel
theorem dX1_idOf_69 : decode cX1_idOf 69 = .ok (.iload_n 1, 1) := by decide +kernel
theorem dX1_idOf_70 : decode cX1_idOf 70 = .ok (.aload_n 2, 1) := by decide +kernel
theorem dX1_idOf_71 : decode cX1_idOf 71 = .ok (.invokevirtual 69, 3) := by decide +kernel
theorem dX1_idOf_74 : decode cX1_idOf 74 = .ok (.ifCond .eq 6, 3) := by decide +kernel
theorem dX1_idOf_77 : decode cX1_idOf 77 = .ok (.iload 4, 2) := by decide +kernel
theorem dX1_idOf_79 : decode cX1_idOf 79 = .ok (.ireturn, 1) := by decide +kernel
theorem dX1_idOf_80 : decode cX1_idOf 80 = .ok (.aload_n 0, 1) := by decide +kernel
theorem dX1_idOf_81 : decode cX1_idOf 81 = .ok (.getfield 28, 3) := by decide +kernel
theorem dX1_idOf_84 : decode cX1_idOf 84 = .ok (.iload 4, 2) := by decide +kernel
theorem dX1_idOf_86 : decode cX1_idOf 86 = .ok (.invokevirtual 55, 3) := by decide +kernel
theorem dX1_idOf_89 : decode cX1_idOf 89 = .ok (.istore 4, 2) := by decide +kernel
theorem dX1_idOf_91 : decode cX1_idOf 91 = .ok (.iinc 5 1, 3) := by decide +kernel
theorem dX1_idOf_94 : decode cX1_idOf 94 = .ok (.goto (-46), 3) := by decide +kernel
theorem dX1_idOf_97 : decode cX1_idOf 97 = .ok (.aload_n 0, 1) := by decide +kernel
theorem dX1_idOf_98 : decode cX1_idOf 98 = .ok (.iload_n 1, 1) := by decide +kernel
theorem dX1_idOf_99 : decode cX1_idOf 99 = .ok (.aload_n 2, 1) := by decide +kernel
theorem dX1_idOf_100 : decode cX1_idOf 100 = .ok (.iload_n 3, 1) := by decide +kernel
theorem dX1_idOf_101 : decode cX1_idOf 101 = .ok (.invokevirtual 73, 3) := by decide +kernel
theorem dX1_idOf_104 : decode cX1_idOf 104 = .ok (.ireturn, 1) := by decide +kernel
set_option maxRecDepth 100000 in
set_option maxHeartbeats 4000000 in
theorem tX1_idOf {T : tyT} {R : Nat} {J : Nat → Prop} {Bc Bs : Nat} {M : gMd} {z : Nat → Nat} {hp : List gA} {a0 : Int32} {a1 m1 : Nat}  (H : tyS T R J Bc Bs M z hp) (hk1 : tyK a1 = (1, m1)) (hm_m1 : ¬ (m1 = 96 ∨ m1 = 15))  : gM yX1_idOf cX1_idOf 6 ((some .int)) 4 128 [.ref 3, .int a0, .ref a1] (hp) (300000 - hp.length) (7000000 - gsz hp) (fun v h => ∃ x, v = some (.int x) ∧ ∃ z', tyS T R J Bc Bs M z' h) := by
  refine gM_ofT (ls0 := [some (.ref 3), some (.int a0), some (.ref a1), none, none, none]) (by decide +kernel) (Nat.le_of_ble_eq_true rfl) rfl fun X C E h0 => ?_
  have J_97 : ∀ (y97_1 y97_3 y97_4 y97_5 : Int32) (zJ97 : Nat → Nat) (hJ97 : List gA), tyS T R J Bc Bs M zJ97 hJ97 → gG X 97 [some (.ref 3), some (.int y97_1), some (.ref a1), some (.int y97_3), some (.int y97_4), some (.int y97_5)] [] hJ97 (hJ97.length - hp.length) (gsz hJ97 - gsz hp) := by
    intro y97_1 y97_3 y97_4 y97_5 zJ97 hJ97 HJ97
    refine g_aload_n (q := 98) C dX1_idOf_97 rfl rfl ?_
    refine g_iload_n (q := 99) C dX1_idOf_98 rfl rfl ?_
    refine g_aload_n (q := 100) C dX1_idOf_99 rfl rfl ?_
    refine g_iload_n (q := 101) C dX1_idOf_100 rfl rfl ?_
    obtain ⟨x8_1, o1⟩ := tyG1 HJ97 (rfl : tyK 3 = (3, 0))
    refine g_tight h0 H.2.2.2.1 HJ97.2.2.2.1 (fun ta2 tb2 => ?_)
    have lm2 := HJ97.lim
    refine g_callVip (q := 104) (As := [.int y97_1, .ref a1, .int y97_3]) C gyX1_addUnlike gvX1_addUnlike t_866 (tX1_addUnlike HJ97 hk1 hm_m1) dX1_idOf_101 rfl o1 rfl rfl rfl (Nat.le_of_ble_eq_true rfl) (Nat.le_of_ble_eq_true rfl) (Nat.le_of_ble_eq_true rfl) (by show _ + _ ≤ 300000 - List.length hp; omega) (by show _ + _ ≤ 7000000 - gsz hp; omega) rfl (fun x3 h3 q3 => ?_)
    obtain ⟨z3, H3⟩ := q3
    refine g_tight h0 H.2.2.2.1 H3.2.2.2.1 (fun ta4 tb4 => ?_)
    have lm4 := H3.lim
    exact E.1 _ _ _ _ _ _ _ dX1_idOf_104 rfl rfl (by omega) (by omega) ⟨_, rfl, ⟨_, H3⟩⟩
  have J_48 : ∀ (d48 : Nat) (y48_1 y48_3 y48_4 y48_5 : Int32) (zJ48 : Nat → Nat) (hJ48 : List gA), (2147483647 - y48_5.toInt).toNat = d48 → ∀ (_ : True), tyS T R J Bc Bs M zJ48 hJ48 → gG X 48 [some (.ref 3), some (.int y48_1), some (.ref a1), some (.int y48_3), some (.int y48_4), some (.int y48_5)] [] hJ48 (hJ48.length - hp.length) (gsz hJ48 - gsz hp) := by
    intro d48
    induction d48 using Nat.strongRecOn with
    | _ d48 ih48 =>
    intro y48_1 y48_3 y48_4 y48_5 zJ48 hJ48 hd48 _ HJ48
    refine g_iload (q := 50) C dX1_idOf_48 rfl rfl ?_
    refine g_aload_n (q := 51) C dX1_idOf_50 rfl rfl ?_
    obtain ⟨x8_5, o5⟩ := tyG1 HJ48 (rfl : tyK 3 = (3, 0))
    refine g_getfield (v := .ref 6) (q := 54) C fX1_22 dX1_idOf_51 rfl o5 rfl ?_
    obtain ⟨a6, l6, g6, -⟩ := tyRowg HJ48 (rfl : tyK 6 = (4, 65536))
    refine g_tight h0 H.2.2.2.1 HJ48.2.2.2.1 (fun ta7 tb7 => ?_)
    have lm7 := HJ48.lim
    refine g_callVip (q := 57) (As := []) C gyX4_size gvX4_size t_856 (tX4_size_g HJ48 (rfl : tyK 6 = (4, 65536))) dX1_idOf_54 rfl g6.obj rfl rfl rfl (Nat.le_of_ble_eq_true rfl) (Nat.le_of_ble_eq_true rfl) (Nat.le_of_ble_eq_true rfl) (by show _ + _ ≤ 300000 - List.length hp; omega) (by show _ + _ ≤ 7000000 - gsz hp; omega) rfl (fun x8 h8 q8 => ?_)
    subst q8
    refine g_icmp_ge (t := 97) (q := 60) C dX1_idOf_57 (by decide) rfl (fun c_57 => ?_) (fun c_57 => ?_)
    ·
      refine g_tight h0 H.2.2.2.1 HJ48.2.2.2.1 (fun ta9 tb9 => ?_)
      exact J_97 _ _ _ _ _ _  HJ48
    ·
      refine g_iload (q := 62) C dX1_idOf_60 rfl rfl ?_
      refine g_iconst (v := (-1)) (q := 63) C dX1_idOf_62 (by decide) rfl ?_
      refine g_icmp_eq (t := 97) (q := 66) C dX1_idOf_63 (by decide) rfl (fun c_63 => ?_) (fun c_63 => ?_)
      ·
        refine g_tight h0 H.2.2.2.1 HJ48.2.2.2.1 (fun ta10 tb10 => ?_)
        exact J_97 _ _ _ _ _ _  HJ48
      ·
        refine g_aload_n (q := 67) C dX1_idOf_66 rfl rfl ?_
        refine g_iload (q := 69) C dX1_idOf_67 rfl rfl ?_
        refine g_iload_n (q := 70) C dX1_idOf_69 rfl rfl ?_
        refine g_aload_n (q := 71) C dX1_idOf_70 rfl rfl ?_
        refine g_tight h0 H.2.2.2.1 HJ48.2.2.2.1 (fun ta11 tb11 => ?_)
        have lm11 := HJ48.lim
        refine g_callVip (q := 74) (As := [.int y48_4, .int y48_1, .ref a1]) C gyX1_isBlock gvX1_isBlock t_862 (tX1_isBlock HJ48 hk1 hm_m1) dX1_idOf_71 rfl o5 rfl rfl rfl (Nat.le_of_ble_eq_true rfl) (Nat.le_of_ble_eq_true rfl) (Nat.le_of_ble_eq_true rfl) (by show _ + _ ≤ 300000 - List.length hp; omega) (by show _ + _ ≤ 7000000 - gsz hp; omega) rfl (fun x12 h12 q12 => ?_)
        obtain ⟨b12, H12⟩ := q12
        refine g_if_eq (t := 80) (q := 77) C dX1_idOf_74 (by decide) rfl (fun c_74 => ?_) (fun c_74 => ?_)
        ·
          refine g_aload_n (q := 81) C dX1_idOf_80 rfl rfl ?_
          obtain ⟨x8_13, o13⟩ := tyG1 H12 (rfl : tyK 3 = (3, 0))
          refine g_getfield (v := .ref 10) (q := 84) C fX1_28 dX1_idOf_81 rfl o13 rfl ?_
          refine g_iload (q := 86) C dX1_idOf_84 rfl rfl ?_
          obtain ⟨a14, l14, g14, -⟩ := tyRowg H12 (rfl : tyK 10 = (4, 65536))
          refine g_tight h0 H.2.2.2.1 H12.2.2.2.1 (fun ta15 tb15 => ?_)
          have lm15 := H12.lim
          refine g_callVip (q := 89) (As := [.int y48_4]) C gyX4_at gvX4_at t_861 (tX4_at_g H12 (rfl : tyK 10 = (4, 65536))) dX1_idOf_86 rfl g14.obj rfl rfl rfl (Nat.le_of_ble_eq_true rfl) (Nat.le_of_ble_eq_true rfl) (Nat.le_of_ble_eq_true rfl) (by show _ + _ ≤ 300000 - List.length hp; omega) (by show _ + _ ≤ 7000000 - gsz hp; omega) rfl (fun x16 h16 q16 => ?_)
          subst q16
          refine g_istore (q := 91) C dX1_idOf_89 (Nat.le_of_ble_eq_true rfl) (by simp only [gset]; rfl) rfl ?_
          refine g_iinc (v := y48_5 + 1) (q := 94) C dX1_idOf_91 rfl rfl (by simp only [gset]; rfl) rfl ?_
          refine g_goto (q := 48) C dX1_idOf_94 (by decide) ?_
          refine g_tight h0 H.2.2.2.1 H12.2.2.2.1 (fun ta17 tb17 => ?_)
          exact ih48 _ (tyUp' hd48 c_57) _ _ _ _ _ _ rfl trivial H12
        ·
          refine g_iload (q := 79) C dX1_idOf_77 rfl rfl ?_
          refine g_tight h0 H.2.2.2.1 H12.2.2.2.1 (fun ta18 tb18 => ?_)
          have lm18 := H12.lim
          exact E.1 _ _ _ _ _ _ _ dX1_idOf_79 rfl rfl (by omega) (by omega) ⟨_, rfl, ⟨_, H12⟩⟩
  have J_8 : ∀ (d8 : Nat) (y8_1 y8_3 : Int32) (zJ8 : Nat → Nat) (hJ8 : List gA), (2147483647 - y8_3.toInt).toNat = d8 → ∀ (_ : True), tyS T R J Bc Bs M zJ8 hJ8 → gG X 8 [some (.ref 3), some (.int y8_1), some (.ref a1), some (.int y8_3), none, none] [] hJ8 (hJ8.length - hp.length) (gsz hJ8 - gsz hp) := by
    intro d8
    induction d8 using Nat.strongRecOn with
    | _ d8 ih8 =>
    intro y8_1 y8_3 zJ8 hJ8 hd8 _ HJ8
    refine g_iload_n (q := 9) C dX1_idOf_8 rfl rfl ?_
    refine g_sipush (v := 256) (q := 12) C dX1_idOf_9 (by decide) rfl ?_
    refine g_icmp_ge (t := 29) (q := 15) C dX1_idOf_12 (by decide) rfl (fun c_12 => ?_) (fun c_12 => ?_)
    ·
      refine g_iload_n (q := 30) C dX1_idOf_29 rfl rfl ?_
      refine g_aload_n (q := 31) C dX1_idOf_30 rfl rfl ?_
      refine g_tight h0 H.2.2.2.1 HJ8.2.2.2.1 (fun ta19 tb19 => ?_)
      have lm19 := HJ8.lim
      refine g_callSip (q := 34) (As := [.int y8_1, .ref a1]) C gyX1_chainOf t_859 t_858 (tX1_chainOf HJ8 hk1 hm_m1) dX1_idOf_31 rfl rfl rfl (Nat.le_of_ble_eq_true rfl) (Nat.le_of_ble_eq_true rfl) (Nat.le_of_ble_eq_true rfl) (by show _ + _ ≤ 300000 - List.length hp; omega) (by show _ + _ ≤ 7000000 - gsz hp; omega) rfl (fun x20 h20 q20 => ?_)
      have H20 := q20
      refine g_istore_n (q := 35) C dX1_idOf_34 (Nat.le_of_ble_eq_true rfl) (by simp only [gset]; rfl) rfl ?_
      refine g_aload_n (q := 36) C dX1_idOf_35 rfl rfl ?_
      obtain ⟨x8_21, o21⟩ := tyG1 H20 (rfl : tyK 3 = (3, 0))
      refine g_getfield (v := .ref 12) (q := 39) C fX1_31 dX1_idOf_36 rfl o21 rfl ?_
      refine g_iload_n (q := 40) C dX1_idOf_39 rfl rfl ?_
      obtain ⟨l22, g22, -⟩ := tyRow H20 (rfl : tyK 12 = (1, 256))
      refine g_tight h0 H.2.2.2.1 H20.2.2.2.1 (fun ta23 tb23 => ?_)
      have lm23 := H20.lim
      refine g_callVip (q := 43) (As := [.int x20]) C gyX4_at gvX4_at t_861 (tX4_at H20 (rfl : tyK 12 = (1, 256))) dX1_idOf_40 rfl g22.obj rfl rfl rfl (Nat.le_of_ble_eq_true rfl) (Nat.le_of_ble_eq_true rfl) (Nat.le_of_ble_eq_true rfl) (by show _ + _ ≤ 300000 - List.length hp; omega) (by show _ + _ ≤ 7000000 - gsz hp; omega) rfl (fun x24 h24 q24 => ?_)
      subst q24
      refine g_istore (q := 45) C dX1_idOf_43 (Nat.le_of_ble_eq_true rfl) (by simp only [gset]; rfl) rfl ?_
      refine g_iconst (v := 0) (q := 46) C dX1_idOf_45 (by decide) rfl ?_
      refine g_istore (q := 48) C dX1_idOf_46 (Nat.le_of_ble_eq_true rfl) (by simp only [gset]; rfl) rfl ?_
      refine g_tight h0 H.2.2.2.1 H20.2.2.2.1 (fun ta25 tb25 => ?_)
      exact J_48 _ _ _ _ _ _ _ rfl trivial H20
    ·
      refine g_aload_n (q := 16) C dX1_idOf_15 rfl rfl ?_
      obtain ⟨x8_26, o26⟩ := tyG1 HJ8 (rfl : tyK 3 = (3, 0))
      refine g_getfield (v := .ref 12) (q := 19) C fX1_31 dX1_idOf_16 rfl o26 rfl ?_
      refine g_iconst (v := (-1)) (q := 20) C dX1_idOf_19 (by decide) rfl ?_
      obtain ⟨l27, g27, -⟩ := tyRow HJ8 (rfl : tyK 12 = (1, 256))
      refine g_tight h0 H.2.2.2.1 HJ8.2.2.2.1 (fun ta28 tb28 => ?_)
      have lm28 := HJ8.lim
      refine g_callVvp (q := 23) (As := [.int ((-1))]) C gyX4_add gvX4_add t_857 (tX4_add HJ8 (rfl : tyK 12 = (1, 256)) (by decide)) dX1_idOf_20 rfl g27.obj rfl rfl rfl (Nat.le_of_ble_eq_true rfl) (Nat.le_of_ble_eq_true rfl) (Nat.le_of_ble_eq_true rfl) (by show _ + _ ≤ 300000 - List.length hp; omega) (by show _ + _ ≤ 7000000 - gsz hp; omega) rfl (fun h29 q29 => ?_)
      have H29 := q29
      refine g_iinc (v := y8_3 + 1) (q := 26) C dX1_idOf_23 rfl rfl (by simp only [gset]; rfl) rfl ?_
      refine g_goto (q := 8) C dX1_idOf_26 (by decide) ?_
      refine g_tight h0 H.2.2.2.1 H29.2.2.2.1 (fun ta30 tb30 => ?_)
      exact ih8 _ (tyUp' hd8 c_12) _ _ _ _ rfl trivial H29
  refine g_aload_n (q := 1) C dX1_idOf_0 rfl rfl ?_
  obtain ⟨x8_31, o31⟩ := tyG1 H (rfl : tyK 3 = (3, 0))
  refine g_getfield (v := .ref 12) (q := 4) C fX1_31 dX1_idOf_1 rfl o31 rfl ?_
  obtain ⟨l32, g32, -⟩ := tyRow H (rfl : tyK 12 = (1, 256))
  refine g_tight h0 H.2.2.2.1 H.2.2.2.1 (fun ta33 tb33 => ?_)
  have lm33 := H.lim
  refine g_callVip (q := 7) (As := []) C gyX4_size gvX4_size t_856 (tX4_size H (rfl : tyK 12 = (1, 256))) dX1_idOf_4 rfl g32.obj rfl rfl rfl (Nat.le_of_ble_eq_true rfl) (Nat.le_of_ble_eq_true rfl) (Nat.le_of_ble_eq_true rfl) (by show _ + _ ≤ 300000 - List.length hp; omega) (by show _ + _ ≤ 7000000 - gsz hp; omega) rfl (fun x34 h34 q34 => ?_)
  subst q34
  refine g_istore_n (q := 8) C dX1_idOf_7 (Nat.le_of_ble_eq_true rfl) (by simp only [gset]; rfl) rfl ?_
  refine g_tight h0 H.2.2.2.1 H.2.2.2.1 (fun ta35 tb35 => ?_)
  exact J_8 _ _ _ _ _ rfl trivial H
theorem dX1_note_0 : decode cX1_note 0 = .ok (.aload_n 0, 1) := by decide +kernel
theorem dX1_note_1 : decode cX1_note 1 = .ok (.getfield 25, 3) := by decide +kernel
theorem dX1_note_4 : decode cX1_note 4 = .ok (.iload_n 1, 1) := by decide +kernel
theorem dX1_note_5 : decode cX1_note 5 = .ok (.aload_n 0, 1) := by decide +kernel
theorem dX1_note_6 : decode cX1_note 6 = .ok (.getfield 25, 3) := by decide +kernel
theorem dX1_note_9 : decode cX1_note 9 = .ok (.iload_n 1, 1) := by decide +kernel
theorem dX1_note_10 : decode cX1_note 10 = .ok (.invokevirtual 55, 3) := by decide +kernel
theorem dX1_note_13 : decode cX1_note 13 = .ok (.iconst 1, 1) := by decide +kernel
theorem dX1_note_14 : decode cX1_note 14 = .ok (.iadd, 1) := by decide +kernel
theorem dX1_note_15 : decode cX1_note 15 = .ok (.invokevirtual 59, 3) := by decide +kernel
theorem dX1_note_18 : decode cX1_note 18 = .ok (.aload_n 0, 1) := by decide +kernel
theorem dX1_note_19 : decode cX1_note 19 = .ok (.aload_n 0, 1) := by decide +kernel
theorem dX1_note_20 : decode cX1_note 20 = .ok (.getfield 43, 3) := by decide +kernel
theorem dX1_note_23 : decode cX1_note 23 = .ok (.iconst 1, 1) := by decide +kernel
theorem dX1_note_24 : decode cX1_note 24 = .ok (.iadd, 1) := by decide +kernel
theorem dX1_note_25 : decode cX1_note 25 = .ok (.bipush 30, 2) := by decide +kernel
theorem dX1_note_27 : decode cX1_note 27 = .ok (.if_icmp .ge 12, 3) := by decide +kernel
theorem dX1_note_30 : decode cX1_note 30 = .ok (.aload_n 0, 1) := by decide +kernel
theorem dX1_note_31 : decode cX1_note 31 = .ok (.getfield 43, 3) := by decide +kernel
theorem dX1_note_34 : decode cX1_note 34 = .ok (.iconst 1, 1) := by decide +kernel
theorem dX1_note_35 : decode cX1_note 35 = .ok (.iadd, 1) := by decide +kernel
theorem dX1_note_36 : decode cX1_note 36 = .ok (.goto 4, 3) := by decide +kernel
theorem dX1_note_39 : decode cX1_note 39 = .ok (.iconst 0, 1) := by decide +kernel
theorem dX1_note_40 : decode cX1_note 40 = .ok (.putfield 43, 3) := by decide +kernel
theorem dX1_note_43 : decode cX1_note 43 = .ok (.aload_n 0, 1) := by decide +kernel
theorem dX1_note_44 : decode cX1_note 44 = .ok (.getfield 34, 3) := by decide +kernel
theorem dX1_note_47 : decode cX1_note 47 = .ok (.invokevirtual 51, 3) := by decide +kernel
theorem dX1_note_50 : decode cX1_note 50 = .ok (.bipush 30, 2) := by decide +kernel
theorem dX1_note_52 : decode cX1_note 52 = .ok (.if_icmp .ge 30, 3) := by decide +kernel
theorem dX1_note_55 : decode cX1_note 55 = .ok (.aload_n 0, 1) := by decide +kernel
theorem dX1_note_56 : decode cX1_note 56 = .ok (.getfield 34, 3) := by decide +kernel
theorem dX1_note_59 : decode cX1_note 59 = .ok (.iload_n 1, 1) := by decide +kernel
theorem dX1_note_60 : decode cX1_note 60 = .ok (.invokevirtual 62, 3) := by decide +kernel
theorem dX1_note_63 : decode cX1_note 63 = .ok (.aload_n 0, 1) := by decide +kernel
theorem dX1_note_64 : decode cX1_note 64 = .ok (.getfield 37, 3) := by decide +kernel
theorem dX1_note_67 : decode cX1_note 67 = .ok (.iload_n 2, 1) := by decide +kernel
theorem dX1_note_68 : decode cX1_note 68 = .ok (.invokevirtual 62, 3) := by decide +kernel
theorem dX1_note_71 : decode cX1_note 71 = .ok (.aload_n 0, 1) := by decide +kernel
theorem dX1_note_72 : decode cX1_note 72 = .ok (.getfield 40, 3) := by decide +kernel
theorem dX1_note_75 : decode cX1_note 75 = .ok (.iload_n 3, 1) := by decide +kernel
theorem dX1_note_76 : decode cX1_note 76 = .ok (.invokevirtual 62, 3) := by decide +kernel
theorem dX1_note_79 : decode cX1_note 79 = .ok (.goto 39, 3) := by decide +kernel
theorem dX1_note_82 : decode cX1_note 82 = .ok (.aload_n 0, 1) := by decide +kernel
theorem dX1_note_83 : decode cX1_note 83 = .ok (.getfield 34, 3) := by decide +kernel
theorem dX1_note_86 : decode cX1_note 86 = .ok (.aload_n 0, 1) := by decide +kernel
theorem dX1_note_87 : decode cX1_note 87 = .ok (.getfield 43, 3) := by decide +kernel
theorem dX1_note_90 : decode cX1_note 90 = .ok (.iload_n 1, 1) := by decide +kernel
theorem dX1_note_91 : decode cX1_note 91 = .ok (.invokevirtual 59, 3) := by decide +kernel
theorem dX1_note_94 : decode cX1_note 94 = .ok (.aload_n 0, 1) := by decide +kernel
theorem dX1_note_95 : decode cX1_note 95 = .ok (.getfield 37, 3) := by decide +kernel
theorem dX1_note_98 : decode cX1_note 98 = .ok (.aload_n 0, 1) := by decide +kernel
theorem dX1_note_99 : decode cX1_note 99 = .ok (.getfield 43, 3) := by decide +kernel
theorem dX1_note_102 : decode cX1_note 102 = .ok (.iload_n 2, 1) := by decide +kernel
theorem dX1_note_103 : decode cX1_note 103 = .ok (.invokevirtual 59, 3) := by decide +kernel
theorem dX1_note_106 : decode cX1_note 106 = .ok (.aload_n 0, 1) := by decide +kernel
theorem dX1_note_107 : decode cX1_note 107 = .ok (.getfield 40, 3) := by decide +kernel
theorem dX1_note_110 : decode cX1_note 110 = .ok (.aload_n 0, 1) := by decide +kernel
theorem dX1_note_111 : decode cX1_note 111 = .ok (.getfield 43, 3) := by decide +kernel
theorem dX1_note_114 : decode cX1_note 114 = .ok (.iload_n 3, 1) := by decide +kernel
theorem dX1_note_115 : decode cX1_note 115 = .ok (.invokevirtual 59, 3) := by decide +kernel
theorem dX1_note_118 : decode cX1_note 118 = .ok (.return_, 1) := by decide +kernel
set_option maxRecDepth 100000 in
set_option maxHeartbeats 4000000 in
theorem tX1_note {T : tyT} {R : Nat} {J : Nat → Prop} {Bc Bs : Nat} {M : gMd} {z : Nat → Nat} {hp : List gA} {a0 : Int32} {a1 : Int32} {a2 : Int32}  (H : tyS T R J Bc Bs M z hp)  : gM yX1_note cX1_note 4 (none) 3 103 [.ref 3, .int a0, .int a1, .int a2] (hp) (300000 - hp.length) (7000000 - gsz hp) (fun v h => v = none ∧ ∃ z', tyS T R J Bc Bs M z' h) := by
  refine gM_ofT (ls0 := [some (.ref 3), some (.int a0), some (.int a1), some (.int a2)]) (by decide +kernel) (Nat.le_of_ble_eq_true rfl) rfl fun X C E h0 => ?_
  have J_40 : ∀ (y40_1 y40_2 y40_3 s40_0 : Int32) (zJ40 : Nat → Nat) (hJ40 : List gA), tyS T R J Bc Bs M zJ40 hJ40 → gG X 40 [some (.ref 3), some (.int y40_1), some (.int y40_2), some (.int y40_3)] [.int s40_0, .ref 3] hJ40 (hJ40.length - hp.length) (gsz hJ40 - gsz hp) := by
    intro y40_1 y40_2 y40_3 s40_0 zJ40 hJ40 HJ40
    obtain ⟨x8_1, o1⟩ := tyG1 HJ40 (rfl : tyK 3 = (3, 0))
    refine g_putfield (q := 43) C fX1_43 dX1_note_40 rfl o1 (Nat.le_of_ble_eq_true rfl) (Or.inl rfl) rfl rfl (by intro z h; cases h) ?_
    refine tyP1 HJ40 (rfl : tyK 3 = (3, 0)) rfl  (fun h2 _ _ H2 => ?_)
    refine g_aload_n (q := 44) C dX1_note_43 rfl rfl ?_
    obtain ⟨x8_3, o3⟩ := tyG1 H2 (rfl : tyK 3 = (3, 0))
    refine g_getfield (v := .ref 14) (q := 47) C fX1_34 dX1_note_44 rfl o3 rfl ?_
    obtain ⟨l4, g4, -⟩ := tyRow H2 (rfl : tyK 14 = (1, 30))
    refine g_tight h0 H.2.2.2.1 H2.2.2.2.1 (fun ta5 tb5 => ?_)
    have lm5 := H2.lim
    refine g_callVip (q := 50) (As := []) C gyX4_size gvX4_size t_856 (tX4_size H2 (rfl : tyK 14 = (1, 30))) dX1_note_47 rfl g4.obj rfl rfl rfl (Nat.le_of_ble_eq_true rfl) (Nat.le_of_ble_eq_true rfl) (Nat.le_of_ble_eq_true rfl) (by show _ + _ ≤ 300000 - List.length hp; omega) (by show _ + _ ≤ 7000000 - gsz hp; omega) rfl (fun x6 h6 q6 => ?_)
    subst q6
    refine g_bipush (v := 30) (q := 52) C dX1_note_50 (by decide) rfl ?_
    refine g_icmp_ge (t := 82) (q := 55) C dX1_note_52 (by decide) rfl (fun c_52 => ?_) (fun c_52 => ?_)
    ·
      have i_52 := Int32.le_iff_toInt_le.mp c_52
      refine g_aload_n (q := 83) C dX1_note_82 rfl rfl ?_
      refine g_getfield (v := .ref 14) (q := 86) C fX1_34 dX1_note_83 rfl o3 rfl ?_
      refine g_aload_n (q := 87) C dX1_note_86 rfl rfl ?_
      refine g_getfield (v := .int x8_3) (q := 90) C fX1_43 dX1_note_87 rfl o3 rfl ?_
      refine g_iload_n (q := 91) C dX1_note_90 rfl rfl ?_
      refine g_tight h0 H.2.2.2.1 H2.2.2.2.1 (fun ta7 tb7 => ?_)
      have lm7 := H2.lim
      refine g_callVvp (q := 94) (As := [.int x8_3, .int y40_1]) C gyX4_put gvX4_put t_870 (tX4_put H2 (rfl : tyK 14 = (1, 30)) (by decide)) dX1_note_91 rfl g4.obj rfl rfl rfl (Nat.le_of_ble_eq_true rfl) (Nat.le_of_ble_eq_true rfl) (Nat.le_of_ble_eq_true rfl) (by show _ + _ ≤ 300000 - List.length hp; omega) (by show _ + _ ≤ 7000000 - gsz hp; omega) rfl (fun h8 q8 => ?_)
      have H8 := q8
      refine g_aload_n (q := 95) C dX1_note_94 rfl rfl ?_
      obtain ⟨x8_9, o9⟩ := tyG1 H8 (rfl : tyK 3 = (3, 0))
      refine g_getfield (v := .ref 16) (q := 98) C fX1_37 dX1_note_95 rfl o9 rfl ?_
      refine g_aload_n (q := 99) C dX1_note_98 rfl rfl ?_
      refine g_getfield (v := .int x8_9) (q := 102) C fX1_43 dX1_note_99 rfl o9 rfl ?_
      refine g_iload_n (q := 103) C dX1_note_102 rfl rfl ?_
      obtain ⟨l10, g10, -⟩ := tyRow H8 (rfl : tyK 16 = (1, 30))
      refine g_tight h0 H.2.2.2.1 H8.2.2.2.1 (fun ta11 tb11 => ?_)
      have lm11 := H8.lim
      refine g_callVvp (q := 106) (As := [.int x8_9, .int y40_2]) C gyX4_put gvX4_put t_870 (tX4_put H8 (rfl : tyK 16 = (1, 30)) (by decide)) dX1_note_103 rfl g10.obj rfl rfl rfl (Nat.le_of_ble_eq_true rfl) (Nat.le_of_ble_eq_true rfl) (Nat.le_of_ble_eq_true rfl) (by show _ + _ ≤ 300000 - List.length hp; omega) (by show _ + _ ≤ 7000000 - gsz hp; omega) rfl (fun h12 q12 => ?_)
      have H12 := q12
      refine g_aload_n (q := 107) C dX1_note_106 rfl rfl ?_
      obtain ⟨x8_13, o13⟩ := tyG1 H12 (rfl : tyK 3 = (3, 0))
      refine g_getfield (v := .ref 18) (q := 110) C fX1_40 dX1_note_107 rfl o13 rfl ?_
      refine g_aload_n (q := 111) C dX1_note_110 rfl rfl ?_
      refine g_getfield (v := .int x8_13) (q := 114) C fX1_43 dX1_note_111 rfl o13 rfl ?_
      refine g_iload_n (q := 115) C dX1_note_114 rfl rfl ?_
      obtain ⟨l14, g14, -⟩ := tyRow H12 (rfl : tyK 18 = (1, 30))
      refine g_tight h0 H.2.2.2.1 H12.2.2.2.1 (fun ta15 tb15 => ?_)
      have lm15 := H12.lim
      refine g_callVvp (q := 118) (As := [.int x8_13, .int y40_3]) C gyX4_put gvX4_put t_870 (tX4_put H12 (rfl : tyK 18 = (1, 30)) (by decide)) dX1_note_115 rfl g14.obj rfl rfl rfl (Nat.le_of_ble_eq_true rfl) (Nat.le_of_ble_eq_true rfl) (Nat.le_of_ble_eq_true rfl) (by show _ + _ ≤ 300000 - List.length hp; omega) (by show _ + _ ≤ 7000000 - gsz hp; omega) rfl (fun h16 q16 => ?_)
      have H16 := q16
      refine g_tight h0 H.2.2.2.1 H16.2.2.2.1 (fun ta17 tb17 => ?_)
      have lm17 := H16.lim
      exact E.2.1 _ _ _ _ _ dX1_note_118 rfl (by omega) (by omega) ⟨rfl, ⟨_, H16⟩⟩
    ·
      have i_52 := mt Int32.le_iff_toInt_le.mpr c_52
      refine g_aload_n (q := 56) C dX1_note_55 rfl rfl ?_
      refine g_getfield (v := .ref 14) (q := 59) C fX1_34 dX1_note_56 rfl o3 rfl ?_
      refine g_iload_n (q := 60) C dX1_note_59 rfl rfl ?_
      refine g_tight h0 H.2.2.2.1 H2.2.2.2.1 (fun ta18 tb18 => ?_)
      have lm18 := H2.lim
      refine g_callVvp (q := 63) (As := [.int y40_1]) C gyX4_add gvX4_add t_857 (tX4_add H2 (rfl : tyK 14 = (1, 30)) (by decide)) dX1_note_60 rfl g4.obj rfl rfl rfl (Nat.le_of_ble_eq_true rfl) (Nat.le_of_ble_eq_true rfl) (Nat.le_of_ble_eq_true rfl) (by show _ + _ ≤ 300000 - List.length hp; omega) (by show _ + _ ≤ 7000000 - gsz hp; omega) rfl (fun h19 q19 => ?_)
      have H19 := q19
      refine g_aload_n (q := 64) C dX1_note_63 rfl rfl ?_
      obtain ⟨x8_20, o20⟩ := tyG1 H19 (rfl : tyK 3 = (3, 0))
      refine g_getfield (v := .ref 16) (q := 67) C fX1_37 dX1_note_64 rfl o20 rfl ?_
      refine g_iload_n (q := 68) C dX1_note_67 rfl rfl ?_
      obtain ⟨l21, g21, -⟩ := tyRow H19 (rfl : tyK 16 = (1, 30))
      refine g_tight h0 H.2.2.2.1 H19.2.2.2.1 (fun ta22 tb22 => ?_)
      have lm22 := H19.lim
      refine g_callVvp (q := 71) (As := [.int y40_2]) C gyX4_add gvX4_add t_857 (tX4_add H19 (rfl : tyK 16 = (1, 30)) (by decide)) dX1_note_68 rfl g21.obj rfl rfl rfl (Nat.le_of_ble_eq_true rfl) (Nat.le_of_ble_eq_true rfl) (Nat.le_of_ble_eq_true rfl) (by show _ + _ ≤ 300000 - List.length hp; omega) (by show _ + _ ≤ 7000000 - gsz hp; omega) rfl (fun h23 q23 => ?_)
      have H23 := q23
      refine g_aload_n (q := 72) C dX1_note_71 rfl rfl ?_
      obtain ⟨x8_24, o24⟩ := tyG1 H23 (rfl : tyK 3 = (3, 0))
      refine g_getfield (v := .ref 18) (q := 75) C fX1_40 dX1_note_72 rfl o24 rfl ?_
      refine g_iload_n (q := 76) C dX1_note_75 rfl rfl ?_
      obtain ⟨l25, g25, -⟩ := tyRow H23 (rfl : tyK 18 = (1, 30))
      refine g_tight h0 H.2.2.2.1 H23.2.2.2.1 (fun ta26 tb26 => ?_)
      have lm26 := H23.lim
      refine g_callVvp (q := 79) (As := [.int y40_3]) C gyX4_add gvX4_add t_857 (tX4_add H23 (rfl : tyK 18 = (1, 30)) (by decide)) dX1_note_76 rfl g25.obj rfl rfl rfl (Nat.le_of_ble_eq_true rfl) (Nat.le_of_ble_eq_true rfl) (Nat.le_of_ble_eq_true rfl) (by show _ + _ ≤ 300000 - List.length hp; omega) (by show _ + _ ≤ 7000000 - gsz hp; omega) rfl (fun h27 q27 => ?_)
      have H27 := q27
      refine g_goto (q := 118) C dX1_note_79 (by decide) ?_
      refine g_tight h0 H.2.2.2.1 H27.2.2.2.1 (fun ta28 tb28 => ?_)
      have lm28 := H27.lim
      exact E.2.1 _ _ _ _ _ dX1_note_118 rfl (by omega) (by omega) ⟨rfl, ⟨_, H27⟩⟩
  refine g_aload_n (q := 1) C dX1_note_0 rfl rfl ?_
  obtain ⟨x8_29, o29⟩ := tyG1 H (rfl : tyK 3 = (3, 0))
  refine g_getfield (v := .ref 8) (q := 4) C fX1_25 dX1_note_1 rfl o29 rfl ?_
  refine g_iload_n (q := 5) C dX1_note_4 rfl rfl ?_
  refine g_aload_n (q := 6) C dX1_note_5 rfl rfl ?_
  refine g_getfield (v := .ref 8) (q := 9) C fX1_25 dX1_note_6 rfl o29 rfl ?_
  refine g_iload_n (q := 10) C dX1_note_9 rfl rfl ?_
  obtain ⟨a30, l30, g30, -⟩ := tyRowg H (rfl : tyK 8 = (4, 65536))
  refine g_tight h0 H.2.2.2.1 H.2.2.2.1 (fun ta31 tb31 => ?_)
  have lm31 := H.lim
  refine g_callVip (q := 13) (As := [.int a0]) C gyX4_at gvX4_at t_861 (tX4_at_g H (rfl : tyK 8 = (4, 65536))) dX1_note_10 rfl g30.obj rfl rfl rfl (Nat.le_of_ble_eq_true rfl) (Nat.le_of_ble_eq_true rfl) (Nat.le_of_ble_eq_true rfl) (by show _ + _ ≤ 300000 - List.length hp; omega) (by show _ + _ ≤ 7000000 - gsz hp; omega) rfl (fun x32 h32 q32 => ?_)
  subst q32
  refine g_iconst (v := 1) (q := 14) C dX1_note_13 (by decide) rfl ?_
  refine g_iadd (q := 15) C dX1_note_14 rfl ?_
  refine g_tight h0 H.2.2.2.1 H.2.2.2.1 (fun ta33 tb33 => ?_)
  have lm33 := H.lim
  refine g_callVvp (q := 18) (As := [.int a0, .int (x32 + 1)]) C gyX4_put gvX4_put t_870 (tX4_put_g H (rfl : tyK 8 = (4, 65536))) dX1_note_15 rfl g30.obj rfl rfl rfl (Nat.le_of_ble_eq_true rfl) (Nat.le_of_ble_eq_true rfl) (Nat.le_of_ble_eq_true rfl) (by show _ + _ ≤ 300000 - List.length hp; omega) (by show _ + _ ≤ 7000000 - gsz hp; omega) rfl (fun h34 q34 => ?_)
  have H34 := q34
  refine g_aload_n (q := 19) C dX1_note_18 rfl rfl ?_
  refine g_aload_n (q := 20) C dX1_note_19 rfl rfl ?_
  obtain ⟨x8_35, o35⟩ := tyG1 H34 (rfl : tyK 3 = (3, 0))
  refine g_getfield (v := .int x8_35) (q := 23) C fX1_43 dX1_note_20 rfl o35 rfl ?_
  refine g_iconst (v := 1) (q := 24) C dX1_note_23 (by decide) rfl ?_
  refine g_iadd (q := 25) C dX1_note_24 rfl ?_
  refine g_bipush (v := 30) (q := 27) C dX1_note_25 (by decide) rfl ?_
  refine g_icmp_ge (t := 39) (q := 30) C dX1_note_27 (by decide) rfl (fun c_27 => ?_) (fun c_27 => ?_)
  ·
    have i_27 := Int32.le_iff_toInt_le.mp c_27
    refine g_iconst (v := 0) (q := 40) C dX1_note_39 (by decide) rfl ?_
    refine g_tight h0 H.2.2.2.1 H34.2.2.2.1 (fun ta36 tb36 => ?_)
    exact J_40 _ _ _ _ _ _  H34
  ·
    have i_27 := mt Int32.le_iff_toInt_le.mpr c_27
    refine g_aload_n (q := 31) C dX1_note_30 rfl rfl ?_
    refine g_getfield (v := .int x8_35) (q := 34) C fX1_43 dX1_note_31 rfl o35 rfl ?_
    refine g_iconst (v := 1) (q := 35) C dX1_note_34 (by decide) rfl ?_
    refine g_iadd (q := 36) C dX1_note_35 rfl ?_
    refine g_goto (q := 40) C dX1_note_36 (by decide) ?_
    refine g_tight h0 H.2.2.2.1 H34.2.2.2.1 (fun ta37 tb37 => ?_)
    exact J_40 _ _ _ _ _ _  H34
