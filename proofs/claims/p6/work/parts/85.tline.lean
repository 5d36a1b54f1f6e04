/-! THE LINE BY SHAPE (by program: wip/p2t/m_tline.py, gen6.py) -/
theorem dX2_blocksAhead_0 : decode cX2_blocksAhead 0 = .ok (.aload_n 0, 1) := by decide +kernel
theorem dX2_blocksAhead_1 : decode cX2_blocksAhead 1 = .ok (.getfield 14, 3) := by decide +kernel
theorem dX2_blocksAhead_4 : decode cX2_blocksAhead 4 = .ok (.getfield 102, 3) := by decide +kernel
theorem dX2_blocksAhead_7 : decode cX2_blocksAhead 7 = .ok (.invokevirtual 111, 3) := by decide +kernel
theorem dX2_blocksAhead_10 : decode cX2_blocksAhead 10 = .ok (.istore_n 1, 1) := by decide +kernel
theorem dX2_blocksAhead_11 : decode cX2_blocksAhead 11 = .ok (.iconst 1, 1) := by decide +kernel
theorem dX2_blocksAhead_12 : decode cX2_blocksAhead 12 = .ok (.istore_n 2, 1) := by decide +kernel
theorem dX2_blocksAhead_13 : decode cX2_blocksAhead 13 = .ok (.aload_n 0, 1) := by decide +kernel
theorem dX2_blocksAhead_14 : decode cX2_blocksAhead 14 = .ok (.getfield 20, 3) := by decide +kernel
theorem dX2_blocksAhead_17 : decode cX2_blocksAhead 17 = .ok (.getfield 115, 3) := by decide +kernel
theorem dX2_blocksAhead_20 : decode cX2_blocksAhead 20 = .ok (.istore_n 3, 1) := by decide +kernel
theorem dX2_blocksAhead_21 : decode cX2_blocksAhead 21 = .ok (.iload_n 3, 1) := by decide +kernel
theorem dX2_blocksAhead_22 : decode cX2_blocksAhead 22 = .ok (.iload_n 1, 1) := by decide +kernel
theorem dX2_blocksAhead_23 : decode cX2_blocksAhead 23 = .ok (.if_icmp .ge 25, 3) := by decide +kernel
theorem dX2_blocksAhead_26 : decode cX2_blocksAhead 26 = .ok (.iload_n 2, 1) := by decide +kernel
theorem dX2_blocksAhead_27 : decode cX2_blocksAhead 27 = .ok (.bipush 60, 2) := by decide +kernel
theorem dX2_blocksAhead_29 : decode cX2_blocksAhead 29 = .ok (.if_icmp .ge 19, 3) := by decide +kernel
theorem dX2_blocksAhead_32 : decode cX2_blocksAhead 32 = .ok (.iinc 2 1, 3) := by decide +kernel
theorem dX2_blocksAhead_35 : decode cX2_blocksAhead 35 = .ok (.iload_n 3, 1) := by decide +kernel
theorem dX2_blocksAhead_36 : decode cX2_blocksAhead 36 = .ok (.aload_n 0, 1) := by decide +kernel
theorem dX2_blocksAhead_37 : decode cX2_blocksAhead 37 = .ok (.getfield 20, 3) := by decide +kernel
theorem dX2_blocksAhead_40 : decode cX2_blocksAhead 40 = .ok (.getfield 115, 3) := by decide +kernel
theorem dX2_blocksAhead_43 : decode cX2_blocksAhead 43 = .ok (.iadd, 1) := by decide +kernel
theorem dX2_blocksAhead_44 : decode cX2_blocksAhead 44 = .ok (.istore_n 3, 1) := by decide +kernel
theorem dX2_blocksAhead_45 : decode cX2_blocksAhead 45 = .ok (.goto (-24), 3) := by decide +kernel
theorem dX2_blocksAhead_48 : decode cX2_blocksAhead 48 = .ok (.iload_n 2, 1) := by decide +kernel
theorem dX2_blocksAhead_49 : decode cX2_blocksAhead 49 = .ok (.ireturn, 1) := by decide +kernel
set_option maxRecDepth 100000 in
set_option maxHeartbeats 4000000 in
theorem tX2_blocksAhead {T : tyT} {R : Nat} {J : Nat → Prop} {Bc Bs : Nat} {M : gMd} {z : Nat → Nat} {hp : List gA} {o : Nat}  (H : tyS T R J Bc Bs M z hp) (hk : tyK o = (7, 0))  : gM yX2_blocksAhead cX2_blocksAhead 4 ((some .int)) 1 20 [.ref o] (hp) (0) (0) (fun v h => ∃ x, v = some (.int x) ∧ tyS T R J Bc Bs M z h) := by
  refine gM_of (ls0 := [some (.ref o), none, none, none]) (by decide +kernel) (Nat.le_of_ble_eq_true rfl) rfl fun X C E => ?_
  have J_48 : ∀ (y48_1 y48_2 y48_3 : Int32) (hJ48 : List gA), tyS T R J Bc Bs M z hJ48 → gG X 48 [some (.ref o), some (.int y48_1), some (.int y48_2), some (.int y48_3)] [] hJ48 0 0 := by
    intro y48_1 y48_2 y48_3 hJ48 HJ48
    refine g_iload_n (q := 49) C dX2_blocksAhead_48 rfl rfl ?_
    exact E.1 _ _ _ _ _ _ _ dX2_blocksAhead_49 rfl rfl (Nat.le_of_ble_eq_true rfl) (Nat.le_of_ble_eq_true rfl) ⟨_, rfl, HJ48⟩
  have J_21 : ∀ (d21 : Nat) (y21_1 y21_2 y21_3 : Int32) (hJ21 : List gA), (2147483647 - y21_2.toInt).toNat = d21 → ∀ (_ : True), tyS T R J Bc Bs M z hJ21 → gG X 21 [some (.ref o), some (.int y21_1), some (.int y21_2), some (.int y21_3)] [] hJ21 0 0 := by
    intro d21
    induction d21 using Nat.strongRecOn with
    | _ d21 ih21 =>
    intro y21_1 y21_2 y21_3 hJ21 hd21 _ HJ21
    refine g_iload_n (q := 22) C dX2_blocksAhead_21 rfl rfl ?_
    refine g_iload_n (q := 23) C dX2_blocksAhead_22 rfl rfl ?_
    refine g_icmp_ge (t := 48) (q := 26) C dX2_blocksAhead_23 (by decide) rfl (fun c_23 => ?_) (fun c_23 => ?_)
    ·
      have i_23 := Int32.le_iff_toInt_le.mp c_23
      exact J_48 _ _ _ _  HJ21
    ·
      have i_23 := mt Int32.le_iff_toInt_le.mpr c_23
      refine g_iload_n (q := 27) C dX2_blocksAhead_26 rfl rfl ?_
      refine g_bipush (v := 60) (q := 29) C dX2_blocksAhead_27 (by decide) rfl ?_
      refine g_icmp_ge (t := 48) (q := 32) C dX2_blocksAhead_29 (by decide) rfl (fun c_29 => ?_) (fun c_29 => ?_)
      ·
        have i_29 := Int32.le_iff_toInt_le.mp c_29
        exact J_48 _ _ _ _  HJ21
      ·
        have i_29 := mt Int32.le_iff_toInt_le.mpr c_29
        refine g_iinc (v := y21_2 + 1) (q := 35) C dX2_blocksAhead_32 rfl rfl (by simp only [gset]; rfl) rfl ?_
        refine g_iload_n (q := 36) C dX2_blocksAhead_35 rfl rfl ?_
        refine g_aload_n (q := 37) C dX2_blocksAhead_36 rfl rfl ?_
        obtain ⟨x3_1, x4_1, x5_1, x6_1, x7_1, x11_1, x12_1, x13_1, x14_1, x15_1, x16_1, x17_1, jv_1, o1, e1_0, e1_1, e1_2, e1_3⟩ := tyG2 HJ21 hk
        refine g_getfield (v := .ref ((o + 8))) (q := 40) C fX2_20 dX2_blocksAhead_37 rfl o1 rfl ?_
        obtain ⟨x0_2, x1_2, x2_2, x3_2, x4_2, x5_2, x6_2, x7_2, x11_2, x12_2, x13_2, x14_2, o2, e2_0⟩ := tyG5 HJ21 (tyF2_1 hk)
        refine g_getfield (v := .int x3_2) (q := 43) C fX2_115 dX2_blocksAhead_40 rfl o2 rfl ?_
        refine g_iadd (q := 44) C dX2_blocksAhead_43 rfl ?_
        refine g_istore_n (q := 45) C dX2_blocksAhead_44 (Nat.le_of_ble_eq_true rfl) (by simp only [gset]; rfl) rfl ?_
        refine g_goto (q := 21) C dX2_blocksAhead_45 (by decide) ?_
        exact ih21 _ (tyUp' hd21 c_29) _ _ _ _ rfl trivial HJ21
  refine g_aload_n (q := 1) C dX2_blocksAhead_0 rfl rfl ?_
  obtain ⟨x3_3, x4_3, x5_3, x6_3, x7_3, x11_3, x12_3, x13_3, x14_3, x15_3, x16_3, x17_3, jv_3, o3, e3_0, e3_1, e3_2, e3_3⟩ := tyG2 H hk
  refine g_getfield (v := .ref ((o + 1))) (q := 4) C fX2_14 dX2_blocksAhead_1 rfl o3 rfl ?_
  obtain ⟨x0_4, x1_4, x2_4, x3_4, x4_4, x5_4, x6_4, x7_4, x11_4, x12_4, x13_4, x14_4, o4, e4_0⟩ := tyG5 H (tyF2_0 hk)
  refine g_getfieldW (v := .ref (((o + 1) + 1))) (q := 7) C fX2_102 dX2_blocksAhead_4 rfl o4 rfl ?_
  obtain ⟨l5, g5, -⟩ := tyRow H (tyF5_8 (tyF2_0 hk))
  refine g_callVip (q := 10) (As := []) C gyX4_size gvX4_size t_639 (tX4_size H (tyF5_8 (tyF2_0 hk))) dX2_blocksAhead_7 rfl g5.obj rfl rfl rfl (Nat.le_of_ble_eq_true rfl) (Nat.le_of_ble_eq_true rfl) (Nat.le_of_ble_eq_true rfl) (Nat.le_of_ble_eq_true rfl) (Nat.le_of_ble_eq_true rfl) rfl (fun x6 h6 q6 => ?_)
  subst q6
  refine g_istore_n (q := 11) C dX2_blocksAhead_10 (Nat.le_of_ble_eq_true rfl) (by simp only [gset]; rfl) rfl ?_
  refine g_iconst (v := 1) (q := 12) C dX2_blocksAhead_11 (by decide) rfl ?_
  refine g_istore_n (q := 13) C dX2_blocksAhead_12 (Nat.le_of_ble_eq_true rfl) (by simp only [gset]; rfl) rfl ?_
  refine g_aload_n (q := 14) C dX2_blocksAhead_13 rfl rfl ?_
  refine g_getfield (v := .ref ((o + 8))) (q := 17) C fX2_20 dX2_blocksAhead_14 rfl o3 rfl ?_
  obtain ⟨x0_7, x1_7, x2_7, x3_7, x4_7, x5_7, x6_7, x7_7, x11_7, x12_7, x13_7, x14_7, o7, e7_0⟩ := tyG5 H (tyF2_1 hk)
  refine g_getfield (v := .int x3_7) (q := 20) C fX2_115 dX2_blocksAhead_17 rfl o7 rfl ?_
  refine g_istore_n (q := 21) C dX2_blocksAhead_20 (Nat.le_of_ble_eq_true rfl) (by simp only [gset]; rfl) rfl ?_
  exact J_21 _ _ _ _ _ rfl trivial H
theorem dX2_begin_0 : decode cX2_begin 0 = .ok (.aload_n 0, 1) := by decide +kernel
theorem dX2_begin_1 : decode cX2_begin 1 = .ok (.iconst 1, 1) := by decide +kernel
theorem dX2_begin_2 : decode cX2_begin 2 = .ok (.putfield 30, 3) := by decide +kernel
theorem dX2_begin_5 : decode cX2_begin 5 = .ok (.aload_n 0, 1) := by decide +kernel
theorem dX2_begin_6 : decode cX2_begin 6 = .ok (.iconst 1, 1) := by decide +kernel
theorem dX2_begin_7 : decode cX2_begin 7 = .ok (.putfield 61, 3) := by decide +kernel
theorem dX2_begin_10 : decode cX2_begin 10 = .ok (.aload_n 0, 1) := by decide +kernel
theorem dX2_begin_11 : decode cX2_begin 11 = .ok (.iload_n 1, 1) := by decide +kernel
theorem dX2_begin_12 : decode cX2_begin 12 = .ok (.putfield 65, 3) := by decide +kernel
theorem dX2_begin_15 : decode cX2_begin 15 = .ok (.return_, 1) := by decide +kernel
set_option maxRecDepth 100000 in
set_option maxHeartbeats 4000000 in
theorem tX2_begin {T : tyT} {R : Nat} {J : Nat → Prop} {Bc Bs : Nat} {M : gMd} {z : Nat → Nat} {hp : List gA} {o : Nat} {a0 : Int32}  (H : tyS T R J Bc Bs M z hp) (hk : tyK o = (7, 0))  : gM yX2_begin cX2_begin 2 (none) 0 0 [.ref o, .int a0] (hp) (0) (0) (fun v h => v = none ∧ tyS T R J Bc Bs M z h) := by
  refine gM_of (ls0 := [some (.ref o), some (.int a0)]) (by decide +kernel) (Nat.le_of_ble_eq_true rfl) rfl fun X C E => ?_
  refine g_aload_n (q := 1) C dX2_begin_0 rfl rfl ?_
  refine g_iconst (v := 1) (q := 2) C dX2_begin_1 (by decide) rfl ?_
  obtain ⟨x3_1, x4_1, x5_1, x6_1, x7_1, x11_1, x12_1, x13_1, x14_1, x15_1, x16_1, x17_1, jv_1, o1, e1_0, e1_1, e1_2, e1_3⟩ := tyG2 H hk
  refine g_putfield (q := 5) C fX2_30 dX2_begin_2 rfl o1 (Nat.le_of_ble_eq_true rfl) (Or.inl rfl) rfl rfl (by intro z h; cases h) ?_
  refine tyP2 H hk rfl e1_0 e1_1 e1_2 e1_3 (fun h2 _ _ H2 => ?_)
  refine g_aload_n (q := 6) C dX2_begin_5 rfl rfl ?_
  refine g_iconst (v := 1) (q := 7) C dX2_begin_6 (by decide) rfl ?_
  obtain ⟨x3_3, x4_3, x5_3, x6_3, x7_3, x11_3, x12_3, x13_3, x14_3, x15_3, x16_3, x17_3, jv_3, o3, e3_0, e3_1, e3_2, e3_3⟩ := tyG2 H2 hk
  refine g_putfield (q := 10) C fX2_61 dX2_begin_7 rfl o3 (Nat.le_of_ble_eq_true rfl) (Or.inl rfl) (tyNar (Or.inr rfl)) (tyFit (Or.inr rfl)) (by intro z h; cases h) ?_
  refine tyP2 H2 hk rfl (Or.inr rfl) e3_1 e3_2 e3_3 (fun h4 _ _ H4 => ?_)
  refine g_aload_n (q := 11) C dX2_begin_10 rfl rfl ?_
  refine g_iload_n (q := 12) C dX2_begin_11 rfl rfl ?_
  obtain ⟨x3_5, x4_5, x5_5, x6_5, x7_5, x11_5, x12_5, x13_5, x14_5, x15_5, x16_5, x17_5, jv_5, o5, e5_0, e5_1, e5_2, e5_3⟩ := tyG2 H4 hk
  refine g_putfield (q := 15) C fX2_65 dX2_begin_12 rfl o5 (Nat.le_of_ble_eq_true rfl) (Or.inl rfl) rfl rfl (by intro z h; cases h) ?_
  refine tyP2 H4 hk rfl e5_0 e5_1 e5_2 e5_3 (fun h6 _ _ H6 => ?_)
  exact E.2.1 _ _ _ _ _ dX2_begin_15 rfl (Nat.le_of_ble_eq_true rfl) (Nat.le_of_ble_eq_true rfl) ⟨rfl, H6⟩
theorem dX2_blocksSent_0 : decode cX2_blocksSent 0 = .ok (.aload_n 0, 1) := by decide +kernel
theorem dX2_blocksSent_1 : decode cX2_blocksSent 1 = .ok (.getfield 14, 3) := by decide +kernel
theorem dX2_blocksSent_4 : decode cX2_blocksSent 4 = .ok (.invokevirtual 118, 3) := by decide +kernel
theorem dX2_blocksSent_7 : decode cX2_blocksSent 7 = .ok (.aload_n 0, 1) := by decide +kernel
theorem dX2_blocksSent_8 : decode cX2_blocksSent 8 = .ok (.getfield 20, 3) := by decide +kernel
theorem dX2_blocksSent_11 : decode cX2_blocksSent 11 = .ok (.invokevirtual 118, 3) := by decide +kernel
theorem dX2_blocksSent_14 : decode cX2_blocksSent 14 = .ok (.iadd, 1) := by decide +kernel
theorem dX2_blocksSent_15 : decode cX2_blocksSent 15 = .ok (.ireturn, 1) := by decide +kernel
set_option maxRecDepth 100000 in
set_option maxHeartbeats 4000000 in
theorem tX2_blocksSent {T : tyT} {R : Nat} {J : Nat → Prop} {Bc Bs : Nat} {M : gMd} {z : Nat → Nat} {hp : List gA} {o : Nat}  (H : tyS T R J Bc Bs M z hp) (hk : tyK o = (7, 0))  : gM yX2_blocksSent cX2_blocksSent 1 ((some .int)) 1 20 [.ref o] (hp) (0) (0) (fun v h => ∃ x, v = some (.int x) ∧ tyS T R J Bc Bs M z h) := by
  refine gM_of (ls0 := [some (.ref o)]) (by decide +kernel) (Nat.le_of_ble_eq_true rfl) rfl fun X C E => ?_
  refine g_aload_n (q := 1) C dX2_blocksSent_0 rfl rfl ?_
  obtain ⟨x3_1, x4_1, x5_1, x6_1, x7_1, x11_1, x12_1, x13_1, x14_1, x15_1, x16_1, x17_1, jv_1, o1, e1_0, e1_1, e1_2, e1_3⟩ := tyG2 H hk
  refine g_getfield (v := .ref ((o + 1))) (q := 4) C fX2_14 dX2_blocksSent_1 rfl o1 rfl ?_
  obtain ⟨x0_2, x1_2, x2_2, x3_2, x4_2, x5_2, x6_2, x7_2, x11_2, x12_2, x13_2, x14_2, o2, e2_0⟩ := tyG5 H (tyF2_0 hk)
  refine g_callVip (q := 7) (As := []) C gyX5_blocksSent gvX5_blocksSent t_689 (tX5_blocksSent H (tyF2_0 hk)) dX2_blocksSent_4 rfl o2 rfl rfl rfl (Nat.le_of_ble_eq_true rfl) (Nat.le_of_ble_eq_true rfl) (Nat.le_of_ble_eq_true rfl) (Nat.le_of_ble_eq_true rfl) (Nat.le_of_ble_eq_true rfl) rfl (fun x3 h3 q3 => ?_)
  have H3 := q3
  refine g_aload_n (q := 8) C dX2_blocksSent_7 rfl rfl ?_
  obtain ⟨x3_4, x4_4, x5_4, x6_4, x7_4, x11_4, x12_4, x13_4, x14_4, x15_4, x16_4, x17_4, jv_4, o4, e4_0, e4_1, e4_2, e4_3⟩ := tyG2 H3 hk
  refine g_getfield (v := .ref ((o + 8))) (q := 11) C fX2_20 dX2_blocksSent_8 rfl o4 rfl ?_
  obtain ⟨x0_5, x1_5, x2_5, x3_5, x4_5, x5_5, x6_5, x7_5, x11_5, x12_5, x13_5, x14_5, o5, e5_0⟩ := tyG5 H3 (tyF2_1 hk)
  refine g_callVip (q := 14) (As := []) C gyX5_blocksSent gvX5_blocksSent t_689 (tX5_blocksSent H3 (tyF2_1 hk)) dX2_blocksSent_11 rfl o5 rfl rfl rfl (Nat.le_of_ble_eq_true rfl) (Nat.le_of_ble_eq_true rfl) (Nat.le_of_ble_eq_true rfl) (Nat.le_of_ble_eq_true rfl) (Nat.le_of_ble_eq_true rfl) rfl (fun x6 h6 q6 => ?_)
  have H6 := q6
  refine g_iadd (q := 15) C dX2_blocksSent_14 rfl ?_
  exact E.1 _ _ _ _ _ _ _ dX2_blocksSent_15 rfl rfl (Nat.le_of_ble_eq_true rfl) (Nat.le_of_ble_eq_true rfl) ⟨_, rfl, H6⟩
theorem dX2_hasInf_0 : decode cX2_hasInf 0 = .ok (.iload_n 0, 1) := by decide +kernel
theorem dX2_hasInf_1 : decode cX2_hasInf 1 = .ok (.sipush 192, 3) := by decide +kernel
theorem dX2_hasInf_4 : decode cX2_hasInf 4 = .ok (.if_icmp .lt 14, 3) := by decide +kernel
theorem dX2_hasInf_7 : decode cX2_hasInf 7 = .ok (.iload_n 0, 1) := by decide +kernel
theorem dX2_hasInf_8 : decode cX2_hasInf 8 = .ok (.iconst 1, 1) := by decide +kernel
theorem dX2_hasInf_9 : decode cX2_hasInf 9 = .ok (.iand, 1) := by decide +kernel
theorem dX2_hasInf_10 : decode cX2_hasInf 10 = .ok (.iconst 1, 1) := by decide +kernel
theorem dX2_hasInf_11 : decode cX2_hasInf 11 = .ok (.if_icmp .ne 7, 3) := by decide +kernel
theorem dX2_hasInf_14 : decode cX2_hasInf 14 = .ok (.iconst 1, 1) := by decide +kernel
theorem dX2_hasInf_15 : decode cX2_hasInf 15 = .ok (.goto 4, 3) := by decide +kernel
theorem dX2_hasInf_18 : decode cX2_hasInf 18 = .ok (.iconst 0, 1) := by decide +kernel
theorem dX2_hasInf_19 : decode cX2_hasInf 19 = .ok (.ireturn, 1) := by decide +kernel
set_option maxRecDepth 100000 in
set_option maxHeartbeats 4000000 in
theorem tX2_hasInf {T : tyT} {R : Nat} {J : Nat → Prop} {Bc Bs : Nat} {M : gMd} {z : Nat → Nat} {hp : List gA} {a0 : Int32}  (H : tyS T R J Bc Bs M z hp)  : gM yX2_hasInf cX2_hasInf 1 ((some .boolean)) 0 0 [.int a0] (hp) (0) (0) (fun v h => ∃ x, v = some (.int x) ∧ ((x = 0 ∨ x = 1) ∧ tyS T R J Bc Bs M z h)) := by
  refine gM_of (ls0 := [some (.int a0)]) (by decide +kernel) (Nat.le_of_ble_eq_true rfl) rfl fun X C E => ?_
  have J_18 : ∀ (y18_0 : Int32) (hJ18 : List gA), tyS T R J Bc Bs M z hJ18 → gG X 18 [some (.int y18_0)] [] hJ18 0 0 := by
    intro y18_0 hJ18 HJ18
    refine g_iconst (v := 0) (q := 19) C dX2_hasInf_18 (by decide) rfl ?_
    exact E.1 _ _ _ _ _ _ _ dX2_hasInf_19 rfl (tyNar (Or.inl rfl)) (Nat.le_of_ble_eq_true rfl) (Nat.le_of_ble_eq_true rfl) ⟨_, rfl, (Or.inl rfl), HJ18⟩
  refine g_iload_n (q := 1) C dX2_hasInf_0 rfl rfl ?_
  refine g_sipush (v := 192) (q := 4) C dX2_hasInf_1 (by decide) rfl ?_
  refine g_icmp_lt (t := 18) (q := 7) C dX2_hasInf_4 (by decide) rfl (fun c_4 => ?_) (fun c_4 => ?_)
  ·
    have i_4 := Int32.lt_iff_toInt_lt.mp c_4
    exact J_18 _ _  H
  ·
    have i_4 := mt Int32.lt_iff_toInt_lt.mpr c_4
    refine g_iload_n (q := 8) C dX2_hasInf_7 rfl rfl ?_
    refine g_iconst (v := 1) (q := 9) C dX2_hasInf_8 (by decide) rfl ?_
    refine g_iand (q := 10) C dX2_hasInf_9 rfl ?_
    refine g_iconst (v := 1) (q := 11) C dX2_hasInf_10 (by decide) rfl ?_
    refine g_icmp_ne (t := 18) (q := 14) C dX2_hasInf_11 (by decide) rfl (fun c_11 => ?_) (fun c_11 => ?_)
    ·
      exact J_18 _ _  H
    ·
      refine g_iconst (v := 1) (q := 15) C dX2_hasInf_14 (by decide) rfl ?_
      refine g_goto (q := 19) C dX2_hasInf_15 (by decide) ?_
      exact E.1 _ _ _ _ _ _ _ dX2_hasInf_19 rfl (tyNar (Or.inr rfl)) (Nat.le_of_ble_eq_true rfl) (Nat.le_of_ble_eq_true rfl) ⟨_, rfl, (Or.inr rfl), H⟩
theorem dX2_isWellFormed_0 : decode cX2_isWellFormed 0 = .ok (.aload_n 0, 1) := by decide +kernel
theorem dX2_isWellFormed_1 : decode cX2_isWellFormed 1 = .ok (.getfield 55, 3) := by decide +kernel
theorem dX2_isWellFormed_4 : decode cX2_isWellFormed 4 = .ok (.iconst 0, 1) := by decide +kernel
theorem dX2_isWellFormed_5 : decode cX2_isWellFormed 5 = .ok (.invokevirtual 156, 3) := by decide +kernel
theorem dX2_isWellFormed_8 : decode cX2_isWellFormed 8 = .ok (.ifCond .eq 5, 3) := by decide +kernel
theorem dX2_isWellFormed_11 : decode cX2_isWellFormed 11 = .ok (.iconst 0, 1) := by decide +kernel
theorem dX2_isWellFormed_12 : decode cX2_isWellFormed 12 = .ok (.ireturn, 1) := by decide +kernel
theorem dX2_isWellFormed_13 : decode cX2_isWellFormed 13 = .ok (.iload_n 1, 1) := by decide +kernel
theorem dX2_isWellFormed_14 : decode cX2_isWellFormed 14 = .ok (.sipush 128, 3) := by decide +kernel
theorem dX2_isWellFormed_17 : decode cX2_isWellFormed 17 = .ok (.if_icmp .ge 21, 3) := by decide +kernel
theorem dX2_isWellFormed_20 : decode cX2_isWellFormed 20 = .ok (.iload_n 1, 1) := by decide +kernel
theorem dX2_isWellFormed_21 : decode cX2_isWellFormed 21 = .ok (.bipush 31, 2) := by decide +kernel
theorem dX2_isWellFormed_23 : decode cX2_isWellFormed 23 = .ok (.iand, 1) := by decide +kernel
theorem dX2_isWellFormed_24 : decode cX2_isWellFormed 24 = .ok (.ifCond .ne 12, 3) := by decide +kernel
theorem dX2_isWellFormed_27 : decode cX2_isWellFormed 27 = .ok (.iload_n 2, 1) := by decide +kernel
theorem dX2_isWellFormed_28 : decode cX2_isWellFormed 28 = .ok (.iload_n 3, 1) := by decide +kernel
theorem dX2_isWellFormed_29 : decode cX2_isWellFormed 29 = .ok (.if_icmp .gt 7, 3) := by decide +kernel
theorem dX2_isWellFormed_32 : decode cX2_isWellFormed 32 = .ok (.iconst 1, 1) := by decide +kernel
theorem dX2_isWellFormed_33 : decode cX2_isWellFormed 33 = .ok (.goto 4, 3) := by decide +kernel
theorem dX2_isWellFormed_36 : decode cX2_isWellFormed 36 = .ok (.iconst 0, 1) := by decide +kernel
theorem dX2_isWellFormed_37 : decode cX2_isWellFormed 37 = .ok (.ireturn, 1) := by decide +kernel
theorem dX2_isWellFormed_38 : decode cX2_isWellFormed 38 = .ok (.iload_n 1, 1) := by decide +kernel
theorem dX2_isWellFormed_39 : decode cX2_isWellFormed 39 = .ok (.sipush 192, 3) := by decide +kernel
theorem dX2_isWellFormed_42 : decode cX2_isWellFormed 42 = .ok (.if_icmp .ge 28, 3) := by decide +kernel
theorem dX2_isWellFormed_45 : decode cX2_isWellFormed 45 = .ok (.iload_n 1, 1) := by decide +kernel
theorem dX2_isWellFormed_46 : decode cX2_isWellFormed 46 = .ok (.bipush 32, 2) := by decide +kernel
theorem dX2_isWellFormed_48 : decode cX2_isWellFormed 48 = .ok (.iand, 1) := by decide +kernel
theorem dX2_isWellFormed_49 : decode cX2_isWellFormed 49 = .ok (.ifCond .ne 19, 3) := by decide +kernel
theorem dX2_isWellFormed_52 : decode cX2_isWellFormed 52 = .ok (.iload_n 1, 1) := by decide +kernel
theorem dX2_isWellFormed_53 : decode cX2_isWellFormed 53 = .ok (.bipush 15, 2) := by decide +kernel
theorem dX2_isWellFormed_55 : decode cX2_isWellFormed 55 = .ok (.iand, 1) := by decide +kernel
theorem dX2_isWellFormed_56 : decode cX2_isWellFormed 56 = .ok (.iconst 2, 1) := by decide +kernel
theorem dX2_isWellFormed_57 : decode cX2_isWellFormed 57 = .ok (.if_icmp .gt 11, 3) := by decide +kernel
theorem dX2_isWellFormed_60 : decode cX2_isWellFormed 60 = .ok (.iload_n 2, 1) := by decide +kernel
theorem dX2_isWellFormed_61 : decode cX2_isWellFormed 61 = .ok (.ifCond .ne 7, 3) := by decide +kernel
theorem dX2_isWellFormed_64 : decode cX2_isWellFormed 64 = .ok (.iconst 1, 1) := by decide +kernel
theorem dX2_isWellFormed_65 : decode cX2_isWellFormed 65 = .ok (.goto 4, 3) := by decide +kernel
theorem dX2_isWellFormed_68 : decode cX2_isWellFormed 68 = .ok (.iconst 0, 1) := by decide +kernel
theorem dX2_isWellFormed_69 : decode cX2_isWellFormed 69 = .ok (.ireturn, 1) := by decide +kernel
theorem dX2_isWellFormed_70 : decode cX2_isWellFormed 70 = .ok (.iload_n 1, 1) := by decide +kernel
theorem dX2_isWellFormed_71 : decode cX2_isWellFormed 71 = .ok (.bipush 31, 2) := by decide +kernel
theorem dX2_isWellFormed_73 : decode cX2_isWellFormed 73 = .ok (.iand, 1) := by decide +kernel
theorem dX2_isWellFormed_74 : decode cX2_isWellFormed 74 = .ok (.iconst 3, 1) := by decide +kernel
theorem dX2_isWellFormed_75 : decode cX2_isWellFormed 75 = .ok (.if_icmp .gt 19, 3) := by decide +kernel
theorem dX2_isWellFormed_78 : decode cX2_isWellFormed 78 = .ok (.iload_n 2, 1) := by decide +kernel
theorem dX2_isWellFormed_79 : decode cX2_isWellFormed 79 = .ok (.iload_n 1, 1) := by decide +kernel
theorem dX2_isWellFormed_80 : decode cX2_isWellFormed 80 = .ok (.invokestatic 283, 3) := by decide +kernel
theorem dX2_isWellFormed_83 : decode cX2_isWellFormed 83 = .ok (.ifCond .eq 7, 3) := by decide +kernel
theorem dX2_isWellFormed_86 : decode cX2_isWellFormed 86 = .ok (.iconst 1, 1) := by decide +kernel
theorem dX2_isWellFormed_87 : decode cX2_isWellFormed 87 = .ok (.goto 4, 3) := by decide +kernel
theorem dX2_isWellFormed_90 : decode cX2_isWellFormed 90 = .ok (.iconst 0, 1) := by decide +kernel
theorem dX2_isWellFormed_91 : decode cX2_isWellFormed 91 = .ok (.if_icmp .eq 5, 3) := by decide +kernel
theorem dX2_isWellFormed_94 : decode cX2_isWellFormed 94 = .ok (.iconst 0, 1) := by decide +kernel
theorem dX2_isWellFormed_95 : decode cX2_isWellFormed 95 = .ok (.ireturn, 1) := by decide +kernel
theorem dX2_isWellFormed_96 : decode cX2_isWellFormed 96 = .ok (.iload_n 1, 1) := by decide +kernel
theorem dX2_isWellFormed_97 : decode cX2_isWellFormed 97 = .ok (.bipush 31, 2) := by decide +kernel
theorem dX2_isWellFormed_99 : decode cX2_isWellFormed 99 = .ok (.iand, 1) := by decide +kernel
theorem dX2_isWellFormed_100 : decode cX2_isWellFormed 100 = .ok (.iconst 1, 1) := by decide +kernel
theorem dX2_isWellFormed_101 : decode cX2_isWellFormed 101 = .ok (.if_icmp .ne 29, 3) := by decide +kernel
theorem dX2_isWellFormed_104 : decode cX2_isWellFormed 104 = .ok (.aload_n 0, 1) := by decide +kernel
theorem dX2_isWellFormed_105 : decode cX2_isWellFormed 105 = .ok (.getfield 55, 3) := by decide +kernel
theorem dX2_isWellFormed_108 : decode cX2_isWellFormed 108 = .ok (.iconst 3, 1) := by decide +kernel
theorem dX2_isWellFormed_109 : decode cX2_isWellFormed 109 = .ok (.invokevirtual 156, 3) := by decide +kernel
theorem dX2_isWellFormed_112 : decode cX2_isWellFormed 112 = .ok (.iconst 1, 1) := by decide +kernel
theorem dX2_isWellFormed_113 : decode cX2_isWellFormed 113 = .ok (.if_icmp .lt 21, 3) := by decide +kernel
theorem dX2_isWellFormed_116 : decode cX2_isWellFormed 116 = .ok (.aload_n 0, 1) := by decide +kernel
theorem dX2_isWellFormed_117 : decode cX2_isWellFormed 117 = .ok (.getfield 55, 3) := by decide +kernel
theorem dX2_isWellFormed_120 : decode cX2_isWellFormed 120 = .ok (.iconst 3, 1) := by decide +kernel
theorem dX2_isWellFormed_121 : decode cX2_isWellFormed 121 = .ok (.invokevirtual 156, 3) := by decide +kernel
theorem dX2_isWellFormed_124 : decode cX2_isWellFormed 124 = .ok (.sipush 254, 3) := by decide +kernel
theorem dX2_isWellFormed_127 : decode cX2_isWellFormed 127 = .ok (.if_icmp .gt 7, 3) := by decide +kernel
theorem dX2_isWellFormed_130 : decode cX2_isWellFormed 130 = .ok (.iconst 1, 1) := by decide +kernel
theorem dX2_isWellFormed_131 : decode cX2_isWellFormed 131 = .ok (.goto 4, 3) := by decide +kernel
theorem dX2_isWellFormed_134 : decode cX2_isWellFormed 134 = .ok (.iconst 0, 1) := by decide +kernel
theorem dX2_isWellFormed_135 : decode cX2_isWellFormed 135 = .ok (.ireturn, 1) := by decide +kernel
set_option maxRecDepth 100000 in
set_option maxHeartbeats 4000000 in
theorem tX2_isWellFormed {T : tyT} {R : Nat} {J : Nat → Prop} {Bc Bs : Nat} {M : gMd} {z : Nat → Nat} {hp : List gA} {o : Nat} {a0 : Int32} {a1 : Int32} {a2 : Int32}  (H : tyS T R J Bc Bs M z hp) (hk : tyK o = (7, 0))  : gM yX2_isWellFormed cX2_isWellFormed 4 ((some .boolean)) 1 21 [.ref o, .int a0, .int a1, .int a2] (hp) (0) (0) (fun v h => ∃ x, v = some (.int x) ∧ ((x = 0 ∨ x = 1) ∧ tyS T R J Bc Bs M z h)) := by
  refine gM_of (ls0 := [some (.ref o), some (.int a0), some (.int a1), some (.int a2)]) (by decide +kernel) (Nat.le_of_ble_eq_true rfl) rfl fun X C E => ?_
  have J_134 : ∀ (y134_1 y134_2 y134_3 : Int32) (hJ134 : List gA), tyS T R J Bc Bs M z hJ134 → gG X 134 [some (.ref o), some (.int y134_1), some (.int y134_2), some (.int y134_3)] [] hJ134 0 0 := by
    intro y134_1 y134_2 y134_3 hJ134 HJ134
    refine g_iconst (v := 0) (q := 135) C dX2_isWellFormed_134 (by decide) rfl ?_
    exact E.1 _ _ _ _ _ _ _ dX2_isWellFormed_135 rfl (tyNar (Or.inl rfl)) (Nat.le_of_ble_eq_true rfl) (Nat.le_of_ble_eq_true rfl) ⟨_, rfl, (Or.inl rfl), HJ134⟩
  have J_130 : ∀ (y130_1 y130_2 y130_3 : Int32) (hJ130 : List gA), tyS T R J Bc Bs M z hJ130 → gG X 130 [some (.ref o), some (.int y130_1), some (.int y130_2), some (.int y130_3)] [] hJ130 0 0 := by
    intro y130_1 y130_2 y130_3 hJ130 HJ130
    refine g_iconst (v := 1) (q := 131) C dX2_isWellFormed_130 (by decide) rfl ?_
    refine g_goto (q := 135) C dX2_isWellFormed_131 (by decide) ?_
    exact E.1 _ _ _ _ _ _ _ dX2_isWellFormed_135 rfl (tyNar (Or.inr rfl)) (Nat.le_of_ble_eq_true rfl) (Nat.le_of_ble_eq_true rfl) ⟨_, rfl, (Or.inr rfl), HJ130⟩
  have J_94 : ∀ (y94_1 y94_2 y94_3 : Int32) (hJ94 : List gA), tyS T R J Bc Bs M z hJ94 → gG X 94 [some (.ref o), some (.int y94_1), some (.int y94_2), some (.int y94_3)] [] hJ94 0 0 := by
    intro y94_1 y94_2 y94_3 hJ94 HJ94
    refine g_iconst (v := 0) (q := 95) C dX2_isWellFormed_94 (by decide) rfl ?_
    exact E.1 _ _ _ _ _ _ _ dX2_isWellFormed_95 rfl (tyNar (Or.inl rfl)) (Nat.le_of_ble_eq_true rfl) (Nat.le_of_ble_eq_true rfl) ⟨_, rfl, (Or.inl rfl), HJ94⟩
  have J_91 : ∀ (y91_1 y91_2 y91_3 s91_0 s91_1 : Int32) (bs91_0 : s91_0 = 0 ∨ s91_0 = 1) (hJ91 : List gA), tyS T R J Bc Bs M z hJ91 → gG X 91 [some (.ref o), some (.int y91_1), some (.int y91_2), some (.int y91_3)] [.int s91_0, .int s91_1] hJ91 0 0 := by
    intro y91_1 y91_2 y91_3 s91_0 s91_1 bs91_0 hJ91 HJ91
    refine g_icmp_eq (t := 96) (q := 94) C dX2_isWellFormed_91 (by decide) rfl (fun c_91 => ?_) (fun c_91 => ?_)
    ·
      refine g_iload_n (q := 97) C dX2_isWellFormed_96 rfl rfl ?_
      refine g_bipush (v := 31) (q := 99) C dX2_isWellFormed_97 (by decide) rfl ?_
      refine g_iand (q := 100) C dX2_isWellFormed_99 rfl ?_
      refine g_iconst (v := 1) (q := 101) C dX2_isWellFormed_100 (by decide) rfl ?_
      refine g_icmp_ne (t := 130) (q := 104) C dX2_isWellFormed_101 (by decide) rfl (fun c_101 => ?_) (fun c_101 => ?_)
      ·
        exact J_130 _ _ _ _  HJ91
      ·
        refine g_aload_n (q := 105) C dX2_isWellFormed_104 rfl rfl ?_
        obtain ⟨x3_1, x4_1, x5_1, x6_1, x7_1, x11_1, x12_1, x13_1, x14_1, x15_1, x16_1, x17_1, jv_1, o1, e1_0, e1_1, e1_2, e1_3⟩ := tyG2 HJ91 hk
        refine g_getfield (v := .ref ((o + 21))) (q := 108) C fX2_55 dX2_isWellFormed_105 rfl o1 rfl ?_
        refine g_iconst (v := 3) (q := 109) C dX2_isWellFormed_108 (by decide) rfl ?_
        obtain ⟨l2, g2, -⟩ := tyRow HJ91 (tyF2_9 hk)
        refine g_callVip (q := 112) (As := [.int 3]) C gyX4_at gvX4_at t_722 (tX4_at HJ91 (tyF2_9 hk)) dX2_isWellFormed_109 rfl g2.obj rfl rfl rfl (Nat.le_of_ble_eq_true rfl) (Nat.le_of_ble_eq_true rfl) (Nat.le_of_ble_eq_true rfl) (Nat.le_of_ble_eq_true rfl) (Nat.le_of_ble_eq_true rfl) rfl (fun x3 h3 q3 => ?_)
        subst q3
        refine g_iconst (v := 1) (q := 113) C dX2_isWellFormed_112 (by decide) rfl ?_
        refine g_icmp_lt (t := 134) (q := 116) C dX2_isWellFormed_113 (by decide) rfl (fun c_113 => ?_) (fun c_113 => ?_)
        ·
          have i_113 := Int32.lt_iff_toInt_lt.mp c_113
          exact J_134 _ _ _ _  HJ91
        ·
          have i_113 := mt Int32.lt_iff_toInt_lt.mpr c_113
          refine g_aload_n (q := 117) C dX2_isWellFormed_116 rfl rfl ?_
          refine g_getfield (v := .ref ((o + 21))) (q := 120) C fX2_55 dX2_isWellFormed_117 rfl o1 rfl ?_
          refine g_iconst (v := 3) (q := 121) C dX2_isWellFormed_120 (by decide) rfl ?_
          refine g_callVip (q := 124) (As := [.int 3]) C gyX4_at gvX4_at t_722 (tX4_at HJ91 (tyF2_9 hk)) dX2_isWellFormed_121 rfl g2.obj rfl rfl rfl (Nat.le_of_ble_eq_true rfl) (Nat.le_of_ble_eq_true rfl) (Nat.le_of_ble_eq_true rfl) (Nat.le_of_ble_eq_true rfl) (Nat.le_of_ble_eq_true rfl) rfl (fun x4 h4 q4 => ?_)
          subst q4
          refine g_sipush (v := 254) (q := 127) C dX2_isWellFormed_124 (by decide) rfl ?_
          refine g_icmp_gt (t := 134) (q := 130) C dX2_isWellFormed_127 (by decide) rfl (fun c_127 => ?_) (fun c_127 => ?_)
          ·
            have i_127 := Int32.lt_iff_toInt_lt.mp c_127
            exact J_134 _ _ _ _  HJ91
          ·
            have i_127 := mt Int32.lt_iff_toInt_lt.mpr c_127
            exact J_130 _ _ _ _  HJ91
    ·
      exact J_94 _ _ _ _  HJ91
  have J_68 : ∀ (y68_1 y68_2 y68_3 : Int32) (hJ68 : List gA), tyS T R J Bc Bs M z hJ68 → gG X 68 [some (.ref o), some (.int y68_1), some (.int y68_2), some (.int y68_3)] [] hJ68 0 0 := by
    intro y68_1 y68_2 y68_3 hJ68 HJ68
    refine g_iconst (v := 0) (q := 69) C dX2_isWellFormed_68 (by decide) rfl ?_
    exact E.1 _ _ _ _ _ _ _ dX2_isWellFormed_69 rfl (tyNar (Or.inl rfl)) (Nat.le_of_ble_eq_true rfl) (Nat.le_of_ble_eq_true rfl) ⟨_, rfl, (Or.inl rfl), HJ68⟩
  have J_36 : ∀ (y36_1 y36_2 y36_3 : Int32) (hJ36 : List gA), tyS T R J Bc Bs M z hJ36 → gG X 36 [some (.ref o), some (.int y36_1), some (.int y36_2), some (.int y36_3)] [] hJ36 0 0 := by
    intro y36_1 y36_2 y36_3 hJ36 HJ36
    refine g_iconst (v := 0) (q := 37) C dX2_isWellFormed_36 (by decide) rfl ?_
    exact E.1 _ _ _ _ _ _ _ dX2_isWellFormed_37 rfl (tyNar (Or.inl rfl)) (Nat.le_of_ble_eq_true rfl) (Nat.le_of_ble_eq_true rfl) ⟨_, rfl, (Or.inl rfl), HJ36⟩
  refine g_aload_n (q := 1) C dX2_isWellFormed_0 rfl rfl ?_
  obtain ⟨x3_5, x4_5, x5_5, x6_5, x7_5, x11_5, x12_5, x13_5, x14_5, x15_5, x16_5, x17_5, jv_5, o5, e5_0, e5_1, e5_2, e5_3⟩ := tyG2 H hk
  refine g_getfield (v := .ref ((o + 21))) (q := 4) C fX2_55 dX2_isWellFormed_1 rfl o5 rfl ?_
  refine g_iconst (v := 0) (q := 5) C dX2_isWellFormed_4 (by decide) rfl ?_
  obtain ⟨l6, g6, -⟩ := tyRow H (tyF2_9 hk)
  refine g_callVip (q := 8) (As := [.int 0]) C gyX4_at gvX4_at t_722 (tX4_at H (tyF2_9 hk)) dX2_isWellFormed_5 rfl g6.obj rfl rfl rfl (Nat.le_of_ble_eq_true rfl) (Nat.le_of_ble_eq_true rfl) (Nat.le_of_ble_eq_true rfl) (Nat.le_of_ble_eq_true rfl) (Nat.le_of_ble_eq_true rfl) rfl (fun x7 h7 q7 => ?_)
  subst q7
  refine g_if_eq (t := 13) (q := 11) C dX2_isWellFormed_8 (by decide) rfl (fun c_8 => ?_) (fun c_8 => ?_)
  ·
    refine g_iload_n (q := 14) C dX2_isWellFormed_13 rfl rfl ?_
    refine g_sipush (v := 128) (q := 17) C dX2_isWellFormed_14 (by decide) rfl ?_
    refine g_icmp_ge (t := 38) (q := 20) C dX2_isWellFormed_17 (by decide) rfl (fun c_17 => ?_) (fun c_17 => ?_)
    ·
      have i_17 := Int32.le_iff_toInt_le.mp c_17
      refine g_iload_n (q := 39) C dX2_isWellFormed_38 rfl rfl ?_
      refine g_sipush (v := 192) (q := 42) C dX2_isWellFormed_39 (by decide) rfl ?_
      refine g_icmp_ge (t := 70) (q := 45) C dX2_isWellFormed_42 (by decide) rfl (fun c_42 => ?_) (fun c_42 => ?_)
      ·
        have i_42 := Int32.le_iff_toInt_le.mp c_42
        refine g_iload_n (q := 71) C dX2_isWellFormed_70 rfl rfl ?_
        refine g_bipush (v := 31) (q := 73) C dX2_isWellFormed_71 (by decide) rfl ?_
        refine g_iand (q := 74) C dX2_isWellFormed_73 rfl ?_
        refine g_iconst (v := 3) (q := 75) C dX2_isWellFormed_74 (by decide) rfl ?_
        refine g_icmp_gt (t := 94) (q := 78) C dX2_isWellFormed_75 (by decide) rfl (fun c_75 => ?_) (fun c_75 => ?_)
        ·
          have i_75 := Int32.lt_iff_toInt_lt.mp c_75
          exact J_94 _ _ _ _  H
        ·
          have i_75 := mt Int32.lt_iff_toInt_lt.mpr c_75
          refine g_iload_n (q := 79) C dX2_isWellFormed_78 rfl rfl ?_
          refine g_iload_n (q := 80) C dX2_isWellFormed_79 rfl rfl ?_
          refine g_callSip (q := 83) (As := [.int a0]) C gyX2_hasInf t_817 t_816 (tX2_hasInf H) dX2_isWellFormed_80 rfl rfl rfl (Nat.le_of_ble_eq_true rfl) (Nat.le_of_ble_eq_true rfl) (Nat.le_of_ble_eq_true rfl) (Nat.le_of_ble_eq_true rfl) (Nat.le_of_ble_eq_true rfl) rfl (fun x8 h8 q8 => ?_)
          obtain ⟨b8, H8⟩ := q8
          refine g_if_eq (t := 90) (q := 86) C dX2_isWellFormed_83 (by decide) rfl (fun c_83 => ?_) (fun c_83 => ?_)
          ·
            refine g_iconst (v := 0) (q := 91) C dX2_isWellFormed_90 (by decide) rfl ?_
            exact J_91 _ _ _ _ _ (Or.inl rfl) _  H8
          ·
            refine g_iconst (v := 1) (q := 87) C dX2_isWellFormed_86 (by decide) rfl ?_
            refine g_goto (q := 91) C dX2_isWellFormed_87 (by decide) ?_
            exact J_91 _ _ _ _ _ (Or.inr rfl) _  H8
      ·
        have i_42 := mt Int32.le_iff_toInt_le.mpr c_42
        refine g_iload_n (q := 46) C dX2_isWellFormed_45 rfl rfl ?_
        refine g_bipush (v := 32) (q := 48) C dX2_isWellFormed_46 (by decide) rfl ?_
        refine g_iand (q := 49) C dX2_isWellFormed_48 rfl ?_
        refine g_if_ne (t := 68) (q := 52) C dX2_isWellFormed_49 (by decide) rfl (fun c_49 => ?_) (fun c_49 => ?_)
        ·
          exact J_68 _ _ _ _  H
        ·
          refine g_iload_n (q := 53) C dX2_isWellFormed_52 rfl rfl ?_
          refine g_bipush (v := 15) (q := 55) C dX2_isWellFormed_53 (by decide) rfl ?_
          refine g_iand (q := 56) C dX2_isWellFormed_55 rfl ?_
          refine g_iconst (v := 2) (q := 57) C dX2_isWellFormed_56 (by decide) rfl ?_
          refine g_icmp_gt (t := 68) (q := 60) C dX2_isWellFormed_57 (by decide) rfl (fun c_57 => ?_) (fun c_57 => ?_)
          ·
            have i_57 := Int32.lt_iff_toInt_lt.mp c_57
            exact J_68 _ _ _ _  H
          ·
            have i_57 := mt Int32.lt_iff_toInt_lt.mpr c_57
            refine g_iload_n (q := 61) C dX2_isWellFormed_60 rfl rfl ?_
            refine g_if_ne (t := 68) (q := 64) C dX2_isWellFormed_61 (by decide) rfl (fun c_61 => ?_) (fun c_61 => ?_)
            ·
              exact J_68 _ _ _ _  H
            ·
              refine g_iconst (v := 1) (q := 65) C dX2_isWellFormed_64 (by decide) rfl ?_
              refine g_goto (q := 69) C dX2_isWellFormed_65 (by decide) ?_
              exact E.1 _ _ _ _ _ _ _ dX2_isWellFormed_69 rfl (tyNar (Or.inr rfl)) (Nat.le_of_ble_eq_true rfl) (Nat.le_of_ble_eq_true rfl) ⟨_, rfl, (Or.inr rfl), H⟩
    ·
      have i_17 := mt Int32.le_iff_toInt_le.mpr c_17
      refine g_iload_n (q := 21) C dX2_isWellFormed_20 rfl rfl ?_
      refine g_bipush (v := 31) (q := 23) C dX2_isWellFormed_21 (by decide) rfl ?_
      refine g_iand (q := 24) C dX2_isWellFormed_23 rfl ?_
      refine g_if_ne (t := 36) (q := 27) C dX2_isWellFormed_24 (by decide) rfl (fun c_24 => ?_) (fun c_24 => ?_)
      ·
        exact J_36 _ _ _ _  H
      ·
        refine g_iload_n (q := 28) C dX2_isWellFormed_27 rfl rfl ?_
        refine g_iload_n (q := 29) C dX2_isWellFormed_28 rfl rfl ?_
        refine g_icmp_gt (t := 36) (q := 32) C dX2_isWellFormed_29 (by decide) rfl (fun c_29 => ?_) (fun c_29 => ?_)
        ·
          have i_29 := Int32.lt_iff_toInt_lt.mp c_29
          exact J_36 _ _ _ _  H
        ·
          have i_29 := mt Int32.lt_iff_toInt_lt.mpr c_29
          refine g_iconst (v := 1) (q := 33) C dX2_isWellFormed_32 (by decide) rfl ?_
          refine g_goto (q := 37) C dX2_isWellFormed_33 (by decide) ?_
          exact E.1 _ _ _ _ _ _ _ dX2_isWellFormed_37 rfl (tyNar (Or.inr rfl)) (Nat.le_of_ble_eq_true rfl) (Nat.le_of_ble_eq_true rfl) ⟨_, rfl, (Or.inr rfl), H⟩
  ·
    refine g_iconst (v := 0) (q := 12) C dX2_isWellFormed_11 (by decide) rfl ?_
    exact E.1 _ _ _ _ _ _ _ dX2_isWellFormed_12 rfl (tyNar (Or.inl rfl)) (Nat.le_of_ble_eq_true rfl) (Nat.le_of_ble_eq_true rfl) ⟨_, rfl, (Or.inl rfl), H⟩
theorem dX2_judge_0 : decode cX2_judge 0 = .ok (.iload_n 1, 1) := by decide +kernel
theorem dX2_judge_1 : decode cX2_judge 1 = .ok (.iconst 3, 1) := by decide +kernel
theorem dX2_judge_2 : decode cX2_judge 2 = .ok (.if_icmp .eq 8, 3) := by decide +kernel
theorem dX2_judge_5 : decode cX2_judge 5 = .ok (.iload_n 1, 1) := by decide +kernel
theorem dX2_judge_6 : decode cX2_judge 6 = .ok (.iconst 2, 1) := by decide +kernel
theorem dX2_judge_7 : decode cX2_judge 7 = .ok (.if_icmp .ne 5, 3) := by decide +kernel
theorem dX2_judge_10 : decode cX2_judge 10 = .ok (.iload_n 1, 1) := by decide +kernel
theorem dX2_judge_11 : decode cX2_judge 11 = .ok (.ireturn, 1) := by decide +kernel
theorem dX2_judge_12 : decode cX2_judge 12 = .ok (.aload_n 0, 1) := by decide +kernel
theorem dX2_judge_13 : decode cX2_judge 13 = .ok (.getfield 55, 3) := by decide +kernel
theorem dX2_judge_16 : decode cX2_judge 16 = .ok (.invokevirtual 111, 3) := by decide +kernel
theorem dX2_judge_19 : decode cX2_judge 19 = .ok (.aload_n 0, 1) := by decide +kernel
theorem dX2_judge_20 : decode cX2_judge 20 = .ok (.getfield 55, 3) := by decide +kernel
theorem dX2_judge_23 : decode cX2_judge 23 = .ok (.iconst 2, 1) := by decide +kernel
theorem dX2_judge_24 : decode cX2_judge 24 = .ok (.invokevirtual 156, 3) := by decide +kernel
theorem dX2_judge_27 : decode cX2_judge 27 = .ok (.iconst 4, 1) := by decide +kernel
theorem dX2_judge_28 : decode cX2_judge 28 = .ok (.iadd, 1) := by decide +kernel
theorem dX2_judge_29 : decode cX2_judge 29 = .ok (.if_icmp .eq 5, 3) := by decide +kernel
theorem dX2_judge_32 : decode cX2_judge 32 = .ok (.iconst 2, 1) := by decide +kernel
theorem dX2_judge_33 : decode cX2_judge 33 = .ok (.ireturn, 1) := by decide +kernel
theorem dX2_judge_34 : decode cX2_judge 34 = .ok (.iload_n 1, 1) := by decide +kernel
theorem dX2_judge_35 : decode cX2_judge 35 = .ok (.iconst 1, 1) := by decide +kernel
theorem dX2_judge_36 : decode cX2_judge 36 = .ok (.if_icmp .eq 14, 3) := by decide +kernel
theorem dX2_judge_39 : decode cX2_judge 39 = .ok (.aload_n 0, 1) := by decide +kernel
theorem dX2_judge_40 : decode cX2_judge 40 = .ok (.getfield 55, 3) := by decide +kernel
theorem dX2_judge_43 : decode cX2_judge 43 = .ok (.iconst 0, 1) := by decide +kernel
theorem dX2_judge_44 : decode cX2_judge 44 = .ok (.invokevirtual 287, 3) := by decide +kernel
theorem dX2_judge_47 : decode cX2_judge 47 = .ok (.ifCond .eq 5, 3) := by decide +kernel
theorem dX2_judge_50 : decode cX2_judge 50 = .ok (.iconst 1, 1) := by decide +kernel
theorem dX2_judge_51 : decode cX2_judge 51 = .ok (.ireturn, 1) := by decide +kernel
theorem dX2_judge_52 : decode cX2_judge 52 = .ok (.aload_n 0, 1) := by decide +kernel
theorem dX2_judge_53 : decode cX2_judge 53 = .ok (.aload_n 0, 1) := by decide +kernel
theorem dX2_judge_54 : decode cX2_judge 54 = .ok (.getfield 55, 3) := by decide +kernel
theorem dX2_judge_57 : decode cX2_judge 57 = .ok (.iconst 1, 1) := by decide +kernel
theorem dX2_judge_58 : decode cX2_judge 58 = .ok (.invokevirtual 156, 3) := by decide +kernel
theorem dX2_judge_61 : decode cX2_judge 61 = .ok (.aload_n 0, 1) := by decide +kernel
theorem dX2_judge_62 : decode cX2_judge 62 = .ok (.getfield 55, 3) := by decide +kernel
theorem dX2_judge_65 : decode cX2_judge 65 = .ok (.iconst 2, 1) := by decide +kernel
theorem dX2_judge_66 : decode cX2_judge 66 = .ok (.invokevirtual 156, 3) := by decide +kernel
theorem dX2_judge_69 : decode cX2_judge 69 = .ok (.iload_n 2, 1) := by decide +kernel
theorem dX2_judge_70 : decode cX2_judge 70 = .ok (.invokevirtual 290, 3) := by decide +kernel
theorem dX2_judge_73 : decode cX2_judge 73 = .ok (.ifCond .eq 7, 3) := by decide +kernel
theorem dX2_judge_76 : decode cX2_judge 76 = .ok (.iconst 0, 1) := by decide +kernel
theorem dX2_judge_77 : decode cX2_judge 77 = .ok (.goto 4, 3) := by decide +kernel
theorem dX2_judge_80 : decode cX2_judge 80 = .ok (.iconst 2, 1) := by decide +kernel
theorem dX2_judge_81 : decode cX2_judge 81 = .ok (.ireturn, 1) := by decide +kernel
set_option maxRecDepth 100000 in
set_option maxHeartbeats 4000000 in
theorem tX2_judge {T : tyT} {R : Nat} {J : Nat → Prop} {Bc Bs : Nat} {M : gMd} {z : Nat → Nat} {hp : List gA} {o : Nat} {a0 : Int32} {a1 : Int32}  (H : tyS T R J Bc Bs M z hp) (hk : tyK o = (7, 0))  : gM yX2_judge cX2_judge 3 ((some .int)) 2 44 [.ref o, .int a0, .int a1] (hp) (0) (0) (fun v h => ∃ x, v = some (.int x) ∧ tyS T R J Bc Bs M z h) := by
  refine gM_of (ls0 := [some (.ref o), some (.int a0), some (.int a1)]) (by decide +kernel) (Nat.le_of_ble_eq_true rfl) rfl fun X C E => ?_
  have J_50 : ∀ (y50_1 y50_2 : Int32) (hJ50 : List gA), tyS T R J Bc Bs M z hJ50 → gG X 50 [some (.ref o), some (.int y50_1), some (.int y50_2)] [] hJ50 0 0 := by
    intro y50_1 y50_2 hJ50 HJ50
    refine g_iconst (v := 1) (q := 51) C dX2_judge_50 (by decide) rfl ?_
    exact E.1 _ _ _ _ _ _ _ dX2_judge_51 rfl rfl (Nat.le_of_ble_eq_true rfl) (Nat.le_of_ble_eq_true rfl) ⟨_, rfl, HJ50⟩
  have J_10 : ∀ (y10_1 y10_2 : Int32) (hJ10 : List gA), tyS T R J Bc Bs M z hJ10 → gG X 10 [some (.ref o), some (.int y10_1), some (.int y10_2)] [] hJ10 0 0 := by
    intro y10_1 y10_2 hJ10 HJ10
    refine g_iload_n (q := 11) C dX2_judge_10 rfl rfl ?_
    exact E.1 _ _ _ _ _ _ _ dX2_judge_11 rfl rfl (Nat.le_of_ble_eq_true rfl) (Nat.le_of_ble_eq_true rfl) ⟨_, rfl, HJ10⟩
  refine g_iload_n (q := 1) C dX2_judge_0 rfl rfl ?_
  refine g_iconst (v := 3) (q := 2) C dX2_judge_1 (by decide) rfl ?_
  refine g_icmp_eq (t := 10) (q := 5) C dX2_judge_2 (by decide) rfl (fun c_2 => ?_) (fun c_2 => ?_)
  ·
    exact J_10 _ _ _  H
  ·
    refine g_iload_n (q := 6) C dX2_judge_5 rfl rfl ?_
    refine g_iconst (v := 2) (q := 7) C dX2_judge_6 (by decide) rfl ?_
    refine g_icmp_ne (t := 12) (q := 10) C dX2_judge_7 (by decide) rfl (fun c_7 => ?_) (fun c_7 => ?_)
    ·
      refine g_aload_n (q := 13) C dX2_judge_12 rfl rfl ?_
      obtain ⟨x3_1, x4_1, x5_1, x6_1, x7_1, x11_1, x12_1, x13_1, x14_1, x15_1, x16_1, x17_1, jv_1, o1, e1_0, e1_1, e1_2, e1_3⟩ := tyG2 H hk
      refine g_getfield (v := .ref ((o + 21))) (q := 16) C fX2_55 dX2_judge_13 rfl o1 rfl ?_
      obtain ⟨l2, g2, -⟩ := tyRow H (tyF2_9 hk)
      refine g_callVip (q := 19) (As := []) C gyX4_size gvX4_size t_639 (tX4_size H (tyF2_9 hk)) dX2_judge_16 rfl g2.obj rfl rfl rfl (Nat.le_of_ble_eq_true rfl) (Nat.le_of_ble_eq_true rfl) (Nat.le_of_ble_eq_true rfl) (Nat.le_of_ble_eq_true rfl) (Nat.le_of_ble_eq_true rfl) rfl (fun x3 h3 q3 => ?_)
      subst q3
      refine g_aload_n (q := 20) C dX2_judge_19 rfl rfl ?_
      refine g_getfield (v := .ref ((o + 21))) (q := 23) C fX2_55 dX2_judge_20 rfl o1 rfl ?_
      refine g_iconst (v := 2) (q := 24) C dX2_judge_23 (by decide) rfl ?_
      refine g_callVip (q := 27) (As := [.int 2]) C gyX4_at gvX4_at t_722 (tX4_at H (tyF2_9 hk)) dX2_judge_24 rfl g2.obj rfl rfl rfl (Nat.le_of_ble_eq_true rfl) (Nat.le_of_ble_eq_true rfl) (Nat.le_of_ble_eq_true rfl) (Nat.le_of_ble_eq_true rfl) (Nat.le_of_ble_eq_true rfl) rfl (fun x4 h4 q4 => ?_)
      subst q4
      refine g_iconst (v := 4) (q := 28) C dX2_judge_27 (by decide) rfl ?_
      refine g_iadd (q := 29) C dX2_judge_28 rfl ?_
      refine g_icmp_eq (t := 34) (q := 32) C dX2_judge_29 (by decide) rfl (fun c_29 => ?_) (fun c_29 => ?_)
      ·
        refine g_iload_n (q := 35) C dX2_judge_34 rfl rfl ?_
        refine g_iconst (v := 1) (q := 36) C dX2_judge_35 (by decide) rfl ?_
        refine g_icmp_eq (t := 50) (q := 39) C dX2_judge_36 (by decide) rfl (fun c_36 => ?_) (fun c_36 => ?_)
        ·
          exact J_50 _ _ _  H
        ·
          refine g_aload_n (q := 40) C dX2_judge_39 rfl rfl ?_
          refine g_getfield (v := .ref ((o + 21))) (q := 43) C fX2_55 dX2_judge_40 rfl o1 rfl ?_
          refine g_iconst (v := 0) (q := 44) C dX2_judge_43 (by decide) rfl ?_
          refine g_callVip (q := 47) (As := [.int 0]) C gyX4_xor gvX4_xor t_819 (tX4_xor H (tyF2_9 hk)) dX2_judge_44 rfl g2.obj rfl rfl rfl (Nat.le_of_ble_eq_true rfl) (Nat.le_of_ble_eq_true rfl) (Nat.le_of_ble_eq_true rfl) (Nat.le_of_ble_eq_true rfl) (Nat.le_of_ble_eq_true rfl) rfl (fun x5 h5 q5 => ?_)
          subst q5
          refine g_if_eq (t := 52) (q := 50) C dX2_judge_47 (by decide) rfl (fun c_47 => ?_) (fun c_47 => ?_)
          ·
            refine g_aload_n (q := 53) C dX2_judge_52 rfl rfl ?_
            refine g_aload_n (q := 54) C dX2_judge_53 rfl rfl ?_
            refine g_getfield (v := .ref ((o + 21))) (q := 57) C fX2_55 dX2_judge_54 rfl o1 rfl ?_
            refine g_iconst (v := 1) (q := 58) C dX2_judge_57 (by decide) rfl ?_
            refine g_callVip (q := 61) (As := [.int 1]) C gyX4_at gvX4_at t_722 (tX4_at H (tyF2_9 hk)) dX2_judge_58 rfl g2.obj rfl rfl rfl (Nat.le_of_ble_eq_true rfl) (Nat.le_of_ble_eq_true rfl) (Nat.le_of_ble_eq_true rfl) (Nat.le_of_ble_eq_true rfl) (Nat.le_of_ble_eq_true rfl) rfl (fun x6 h6 q6 => ?_)
            subst q6
            refine g_aload_n (q := 62) C dX2_judge_61 rfl rfl ?_
            refine g_getfield (v := .ref ((o + 21))) (q := 65) C fX2_55 dX2_judge_62 rfl o1 rfl ?_
            refine g_iconst (v := 2) (q := 66) C dX2_judge_65 (by decide) rfl ?_
            refine g_callVip (q := 69) (As := [.int 2]) C gyX4_at gvX4_at t_722 (tX4_at H (tyF2_9 hk)) dX2_judge_66 rfl g2.obj rfl rfl rfl (Nat.le_of_ble_eq_true rfl) (Nat.le_of_ble_eq_true rfl) (Nat.le_of_ble_eq_true rfl) (Nat.le_of_ble_eq_true rfl) (Nat.le_of_ble_eq_true rfl) rfl (fun x7 h7 q7 => ?_)
            subst q7
            refine g_iload_n (q := 70) C dX2_judge_69 rfl rfl ?_
            refine g_callVip (q := 73) (As := [.int x6, .int x7, .int a1]) C gyX2_isWellFormed gvX2_isWellFormed t_848 (tX2_isWellFormed H hk) dX2_judge_70 rfl o1 rfl rfl rfl (Nat.le_of_ble_eq_true rfl) (Nat.le_of_ble_eq_true rfl) (Nat.le_of_ble_eq_true rfl) (Nat.le_of_ble_eq_true rfl) (Nat.le_of_ble_eq_true rfl) rfl (fun x8 h8 q8 => ?_)
            obtain ⟨b8, H8⟩ := q8
            refine g_if_eq (t := 80) (q := 76) C dX2_judge_73 (by decide) rfl (fun c_73 => ?_) (fun c_73 => ?_)
            ·
              refine g_iconst (v := 2) (q := 81) C dX2_judge_80 (by decide) rfl ?_
              exact E.1 _ _ _ _ _ _ _ dX2_judge_81 rfl rfl (Nat.le_of_ble_eq_true rfl) (Nat.le_of_ble_eq_true rfl) ⟨_, rfl, H8⟩
            ·
              refine g_iconst (v := 0) (q := 77) C dX2_judge_76 (by decide) rfl ?_
              refine g_goto (q := 81) C dX2_judge_77 (by decide) ?_
              exact E.1 _ _ _ _ _ _ _ dX2_judge_81 rfl rfl (Nat.le_of_ble_eq_true rfl) (Nat.le_of_ble_eq_true rfl) ⟨_, rfl, H8⟩
          ·
            exact J_50 _ _ _  H
      ·
        refine g_iconst (v := 2) (q := 33) C dX2_judge_32 (by decide) rfl ?_
        exact E.1 _ _ _ _ _ _ _ dX2_judge_33 rfl rfl (Nat.le_of_ble_eq_true rfl) (Nat.le_of_ble_eq_true rfl) ⟨_, rfl, H⟩
    ·
      exact J_10 _ _ _  H
theorem dX2_putFirstByte_0 : decode cX2_putFirstByte 0 = .ok (.aload_n 0, 1) := by decide +kernel
theorem dX2_putFirstByte_1 : decode cX2_putFirstByte 1 = .ok (.getfield 20, 3) := by decide +kernel
theorem dX2_putFirstByte_4 : decode cX2_putFirstByte 4 = .ok (.getfield 102, 3) := by decide +kernel
theorem dX2_putFirstByte_7 : decode cX2_putFirstByte 7 = .ok (.iconst 0, 1) := by decide +kernel
theorem dX2_putFirstByte_8 : decode cX2_putFirstByte 8 = .ok (.invokevirtual 89, 3) := by decide +kernel
theorem dX2_putFirstByte_11 : decode cX2_putFirstByte 11 = .ok (.aload_n 0, 1) := by decide +kernel
theorem dX2_putFirstByte_12 : decode cX2_putFirstByte 12 = .ok (.getfield 20, 3) := by decide +kernel
theorem dX2_putFirstByte_15 : decode cX2_putFirstByte 15 = .ok (.getfield 102, 3) := by decide +kernel
theorem dX2_putFirstByte_18 : decode cX2_putFirstByte 18 = .ok (.aload_n 0, 1) := by decide +kernel
theorem dX2_putFirstByte_19 : decode cX2_putFirstByte 19 = .ok (.getfield 20, 3) := by decide +kernel
theorem dX2_putFirstByte_22 : decode cX2_putFirstByte 22 = .ok (.getfield 235, 3) := by decide +kernel
theorem dX2_putFirstByte_25 : decode cX2_putFirstByte 25 = .ok (.iconst 0, 1) := by decide +kernel
theorem dX2_putFirstByte_26 : decode cX2_putFirstByte 26 = .ok (.invokevirtual 156, 3) := by decide +kernel
theorem dX2_putFirstByte_29 : decode cX2_putFirstByte 29 = .ok (.invokevirtual 241, 3) := by decide +kernel
theorem dX2_putFirstByte_32 : decode cX2_putFirstByte 32 = .ok (.bipush (-2), 2) := by decide +kernel
theorem dX2_putFirstByte_34 : decode cX2_putFirstByte 34 = .ok (.ireturn, 1) := by decide +kernel
set_option maxRecDepth 100000 in
set_option maxHeartbeats 4000000 in
theorem tX2_putFirstByte {T : tyT} {R : Nat} {J : Nat → Prop} {Bc Bs : Nat} {M : gMd} {z : Nat → Nat} {hp : List gA} {o : Nat}  (H : tyS T R J Bc Bs M z hp) (hk : tyK o = (7, 0))  : gM yX2_putFirstByte cX2_putFirstByte 1 ((some .int)) 3 103 [.ref o] (hp) (0) (0) (fun v h => ∃ x, v = some (.int x) ∧ tyS T R J Bc Bs M z h) := by
  refine gM_of (ls0 := [some (.ref o)]) (by decide +kernel) (Nat.le_of_ble_eq_true rfl) rfl fun X C E => ?_
  refine g_aload_n (q := 1) C dX2_putFirstByte_0 rfl rfl ?_
  obtain ⟨x3_1, x4_1, x5_1, x6_1, x7_1, x11_1, x12_1, x13_1, x14_1, x15_1, x16_1, x17_1, jv_1, o1, e1_0, e1_1, e1_2, e1_3⟩ := tyG2 H hk
  refine g_getfield (v := .ref ((o + 8))) (q := 4) C fX2_20 dX2_putFirstByte_1 rfl o1 rfl ?_
  obtain ⟨x0_2, x1_2, x2_2, x3_2, x4_2, x5_2, x6_2, x7_2, x11_2, x12_2, x13_2, x14_2, o2, e2_0⟩ := tyG5 H (tyF2_1 hk)
  refine g_getfieldW (v := .ref (((o + 8) + 1))) (q := 7) C fX2_102 dX2_putFirstByte_4 rfl o2 rfl ?_
  refine g_iconst (v := 0) (q := 8) C dX2_putFirstByte_7 (by decide) rfl ?_
  obtain ⟨l3, g3, -⟩ := tyRow H (tyF5_8 (tyF2_1 hk))
  refine g_callVvp (q := 11) (As := [.int 0]) C gyX4_keep gvX4_keep t_586 (tX4_keep H (tyF5_8 (tyF2_1 hk)) (by decide)) dX2_putFirstByte_8 rfl g3.obj rfl rfl rfl (Nat.le_of_ble_eq_true rfl) (Nat.le_of_ble_eq_true rfl) (Nat.le_of_ble_eq_true rfl) (Nat.le_of_ble_eq_true rfl) (Nat.le_of_ble_eq_true rfl) rfl (fun h4 q4 => ?_)
  have H4 := q4
  refine g_aload_n (q := 12) C dX2_putFirstByte_11 rfl rfl ?_
  obtain ⟨x3_5, x4_5, x5_5, x6_5, x7_5, x11_5, x12_5, x13_5, x14_5, x15_5, x16_5, x17_5, jv_5, o5, e5_0, e5_1, e5_2, e5_3⟩ := tyG2 H4 hk
  refine g_getfield (v := .ref ((o + 8))) (q := 15) C fX2_20 dX2_putFirstByte_12 rfl o5 rfl ?_
  obtain ⟨x0_6, x1_6, x2_6, x3_6, x4_6, x5_6, x6_6, x7_6, x11_6, x12_6, x13_6, x14_6, o6, e6_0⟩ := tyG5 H4 (tyF2_1 hk)
  refine g_getfieldW (v := .ref (((o + 8) + 1))) (q := 18) C fX2_102 dX2_putFirstByte_15 rfl o6 rfl ?_
  refine g_aload_n (q := 19) C dX2_putFirstByte_18 rfl rfl ?_
  refine g_getfield (v := .ref ((o + 8))) (q := 22) C fX2_20 dX2_putFirstByte_19 rfl o5 rfl ?_
  refine g_getfieldW (v := .ref (((o + 8) + 3))) (q := 25) C fX2_235 dX2_putFirstByte_22 rfl o6 rfl ?_
  refine g_iconst (v := 0) (q := 26) C dX2_putFirstByte_25 (by decide) rfl ?_
  obtain ⟨l7, g7, -⟩ := tyRow H4 (tyF5_9 (tyF2_1 hk))
  refine g_callVip (q := 29) (As := [.int 0]) C gyX4_at gvX4_at t_722 (tX4_at H4 (tyF5_9 (tyF2_1 hk))) dX2_putFirstByte_26 rfl g7.obj rfl rfl rfl (Nat.le_of_ble_eq_true rfl) (Nat.le_of_ble_eq_true rfl) (Nat.le_of_ble_eq_true rfl) (Nat.le_of_ble_eq_true rfl) (Nat.le_of_ble_eq_true rfl) rfl (fun x8 h8 q8 => ?_)
  subst q8
  obtain ⟨l9, g9, -⟩ := tyRow H4 (tyF5_8 (tyF2_1 hk))
  refine g_callVvp (q := 32) (As := [.int x8]) C gyX4_add gvX4_add t_811 (tX4_add H4 (tyF5_8 (tyF2_1 hk)) (by decide)) dX2_putFirstByte_29 rfl g9.obj rfl rfl rfl (Nat.le_of_ble_eq_true rfl) (Nat.le_of_ble_eq_true rfl) (Nat.le_of_ble_eq_true rfl) (Nat.le_of_ble_eq_true rfl) (Nat.le_of_ble_eq_true rfl) rfl (fun h10 q10 => ?_)
  have H10 := q10
  refine g_bipush (v := (-2)) (q := 34) C dX2_putFirstByte_32 (by decide) rfl ?_
  exact E.1 _ _ _ _ _ _ _ dX2_putFirstByte_34 rfl rfl (Nat.le_of_ble_eq_true rfl) (Nat.le_of_ble_eq_true rfl) ⟨_, rfl, H10⟩
theorem dX2_putBehindThird_0 : decode cX2_putBehindThird 0 = .ok (.aload_n 0, 1) := by decide +kernel
theorem dX2_putBehindThird_1 : decode cX2_putBehindThird 1 = .ok (.getfield 20, 3) := by decide +kernel
theorem dX2_putBehindThird_4 : decode cX2_putBehindThird 4 = .ok (.getfield 102, 3) := by decide +kernel
theorem dX2_putBehindThird_7 : decode cX2_putBehindThird 7 = .ok (.iconst 0, 1) := by decide +kernel
theorem dX2_putBehindThird_8 : decode cX2_putBehindThird 8 = .ok (.invokevirtual 89, 3) := by decide +kernel
theorem dX2_putBehindThird_11 : decode cX2_putBehindThird 11 = .ok (.iconst 3, 1) := by decide +kernel
theorem dX2_putBehindThird_12 : decode cX2_putBehindThird 12 = .ok (.istore_n 1, 1) := by decide +kernel
theorem dX2_putBehindThird_13 : decode cX2_putBehindThird 13 = .ok (.iload_n 1, 1) := by decide +kernel
theorem dX2_putBehindThird_14 : decode cX2_putBehindThird 14 = .ok (.aload_n 0, 1) := by decide +kernel
theorem dX2_putBehindThird_15 : decode cX2_putBehindThird 15 = .ok (.getfield 20, 3) := by decide +kernel
theorem dX2_putBehindThird_18 : decode cX2_putBehindThird 18 = .ok (.getfield 235, 3) := by decide +kernel
theorem dX2_putBehindThird_21 : decode cX2_putBehindThird 21 = .ok (.invokevirtual 111, 3) := by decide +kernel
theorem dX2_putBehindThird_24 : decode cX2_putBehindThird 24 = .ok (.if_icmp .ge 30, 3) := by decide +kernel
theorem dX2_putBehindThird_27 : decode cX2_putBehindThird 27 = .ok (.aload_n 0, 1) := by decide +kernel
theorem dX2_putBehindThird_28 : decode cX2_putBehindThird 28 = .ok (.getfield 20, 3) := by decide +kernel
theorem dX2_putBehindThird_31 : decode cX2_putBehindThird 31 = .ok (.getfield 102, 3) := by decide +kernel
theorem dX2_putBehindThird_34 : decode cX2_putBehindThird 34 = .ok (.aload_n 0, 1) := by decide +kernel
theorem dX2_putBehindThird_35 : decode cX2_putBehindThird 35 = .ok (.getfield 20, 3) := by decide +kernel
theorem dX2_putBehindThird_38 : decode cX2_putBehindThird 38 = .ok (.getfield 235, 3) := by decide +kernel
theorem dX2_putBehindThird_41 : decode cX2_putBehindThird 41 = .ok (.iload_n 1, 1) := by decide +kernel
theorem dX2_putBehindThird_42 : decode cX2_putBehindThird 42 = .ok (.invokevirtual 156, 3) := by decide +kernel
theorem dX2_putBehindThird_45 : decode cX2_putBehindThird 45 = .ok (.invokevirtual 241, 3) := by decide +kernel
theorem dX2_putBehindThird_48 : decode cX2_putBehindThird 48 = .ok (.iinc 1 1, 3) := by decide +kernel
theorem dX2_putBehindThird_51 : decode cX2_putBehindThird 51 = .ok (.goto (-38), 3) := by decide +kernel
theorem dX2_putBehindThird_54 : decode cX2_putBehindThird 54 = .ok (.bipush (-2), 2) := by decide +kernel
theorem dX2_putBehindThird_56 : decode cX2_putBehindThird 56 = .ok (.ireturn, 1) := by decide +kernel
set_option maxRecDepth 100000 in
set_option maxHeartbeats 4000000 in
theorem tX2_putBehindThird {T : tyT} {R : Nat} {J : Nat → Prop} {Bc Bs : Nat} {M : gMd} {z : Nat → Nat} {hp : List gA} {o : Nat}  (H : tyS T R J Bc Bs M z hp) (hk : tyK o = (7, 0))  : gM yX2_putBehindThird cX2_putBehindThird 2 ((some .int)) 3 103 [.ref o] (hp) (0) (0) (fun v h => ∃ x, v = some (.int x) ∧ tyS T R J Bc Bs M z h) := by
  refine gM_of (ls0 := [some (.ref o), none]) (by decide +kernel) (Nat.le_of_ble_eq_true rfl) rfl fun X C E => ?_
  have J_13 : ∀ (d13 : Nat) (y13_1 : Int32) (hJ13 : List gA), (2147483647 - y13_1.toInt).toNat = d13 → ∀ (_ : True), tyS T R J Bc Bs M z hJ13 → gG X 13 [some (.ref o), some (.int y13_1)] [] hJ13 0 0 := by
    intro d13
    induction d13 using Nat.strongRecOn with
    | _ d13 ih13 =>
    intro y13_1 hJ13 hd13 _ HJ13
    refine g_iload_n (q := 14) C dX2_putBehindThird_13 rfl rfl ?_
    refine g_aload_n (q := 15) C dX2_putBehindThird_14 rfl rfl ?_
    obtain ⟨x3_1, x4_1, x5_1, x6_1, x7_1, x11_1, x12_1, x13_1, x14_1, x15_1, x16_1, x17_1, jv_1, o1, e1_0, e1_1, e1_2, e1_3⟩ := tyG2 HJ13 hk
    refine g_getfield (v := .ref ((o + 8))) (q := 18) C fX2_20 dX2_putBehindThird_15 rfl o1 rfl ?_
    obtain ⟨x0_2, x1_2, x2_2, x3_2, x4_2, x5_2, x6_2, x7_2, x11_2, x12_2, x13_2, x14_2, o2, e2_0⟩ := tyG5 HJ13 (tyF2_1 hk)
    refine g_getfieldW (v := .ref (((o + 8) + 3))) (q := 21) C fX2_235 dX2_putBehindThird_18 rfl o2 rfl ?_
    obtain ⟨l3, g3, -⟩ := tyRow HJ13 (tyF5_9 (tyF2_1 hk))
    refine g_callVip (q := 24) (As := []) C gyX4_size gvX4_size t_639 (tX4_size HJ13 (tyF5_9 (tyF2_1 hk))) dX2_putBehindThird_21 rfl g3.obj rfl rfl rfl (Nat.le_of_ble_eq_true rfl) (Nat.le_of_ble_eq_true rfl) (Nat.le_of_ble_eq_true rfl) (Nat.le_of_ble_eq_true rfl) (Nat.le_of_ble_eq_true rfl) rfl (fun x4 h4 q4 => ?_)
    subst q4
    refine g_icmp_ge (t := 54) (q := 27) C dX2_putBehindThird_24 (by decide) rfl (fun c_24 => ?_) (fun c_24 => ?_)
    ·
      refine g_bipush (v := (-2)) (q := 56) C dX2_putBehindThird_54 (by decide) rfl ?_
      exact E.1 _ _ _ _ _ _ _ dX2_putBehindThird_56 rfl rfl (Nat.le_of_ble_eq_true rfl) (Nat.le_of_ble_eq_true rfl) ⟨_, rfl, HJ13⟩
    ·
      refine g_aload_n (q := 28) C dX2_putBehindThird_27 rfl rfl ?_
      refine g_getfield (v := .ref ((o + 8))) (q := 31) C fX2_20 dX2_putBehindThird_28 rfl o1 rfl ?_
      refine g_getfieldW (v := .ref (((o + 8) + 1))) (q := 34) C fX2_102 dX2_putBehindThird_31 rfl o2 rfl ?_
      refine g_aload_n (q := 35) C dX2_putBehindThird_34 rfl rfl ?_
      refine g_getfield (v := .ref ((o + 8))) (q := 38) C fX2_20 dX2_putBehindThird_35 rfl o1 rfl ?_
      refine g_getfieldW (v := .ref (((o + 8) + 3))) (q := 41) C fX2_235 dX2_putBehindThird_38 rfl o2 rfl ?_
      refine g_iload_n (q := 42) C dX2_putBehindThird_41 rfl rfl ?_
      refine g_callVip (q := 45) (As := [.int y13_1]) C gyX4_at gvX4_at t_722 (tX4_at HJ13 (tyF5_9 (tyF2_1 hk))) dX2_putBehindThird_42 rfl g3.obj rfl rfl rfl (Nat.le_of_ble_eq_true rfl) (Nat.le_of_ble_eq_true rfl) (Nat.le_of_ble_eq_true rfl) (Nat.le_of_ble_eq_true rfl) (Nat.le_of_ble_eq_true rfl) rfl (fun x5 h5 q5 => ?_)
      subst q5
      obtain ⟨l6, g6, -⟩ := tyRow HJ13 (tyF5_8 (tyF2_1 hk))
      refine g_callVvp (q := 48) (As := [.int x5]) C gyX4_add gvX4_add t_811 (tX4_add HJ13 (tyF5_8 (tyF2_1 hk)) (by decide)) dX2_putBehindThird_45 rfl g6.obj rfl rfl rfl (Nat.le_of_ble_eq_true rfl) (Nat.le_of_ble_eq_true rfl) (Nat.le_of_ble_eq_true rfl) (Nat.le_of_ble_eq_true rfl) (Nat.le_of_ble_eq_true rfl) rfl (fun h7 q7 => ?_)
      have H7 := q7
      refine g_iinc (v := y13_1 + 1) (q := 51) C dX2_putBehindThird_48 rfl rfl (by simp only [gset]; rfl) rfl ?_
      refine g_goto (q := 13) C dX2_putBehindThird_51 (by decide) ?_
      exact ih13 _ (tyUp' hd13 c_24) _ _ rfl trivial H7
  refine g_aload_n (q := 1) C dX2_putBehindThird_0 rfl rfl ?_
  obtain ⟨x3_8, x4_8, x5_8, x6_8, x7_8, x11_8, x12_8, x13_8, x14_8, x15_8, x16_8, x17_8, jv_8, o8, e8_0, e8_1, e8_2, e8_3⟩ := tyG2 H hk
  refine g_getfield (v := .ref ((o + 8))) (q := 4) C fX2_20 dX2_putBehindThird_1 rfl o8 rfl ?_
  obtain ⟨x0_9, x1_9, x2_9, x3_9, x4_9, x5_9, x6_9, x7_9, x11_9, x12_9, x13_9, x14_9, o9, e9_0⟩ := tyG5 H (tyF2_1 hk)
  refine g_getfieldW (v := .ref (((o + 8) + 1))) (q := 7) C fX2_102 dX2_putBehindThird_4 rfl o9 rfl ?_
  refine g_iconst (v := 0) (q := 8) C dX2_putBehindThird_7 (by decide) rfl ?_
  obtain ⟨l10, g10, -⟩ := tyRow H (tyF5_8 (tyF2_1 hk))
  refine g_callVvp (q := 11) (As := [.int 0]) C gyX4_keep gvX4_keep t_586 (tX4_keep H (tyF5_8 (tyF2_1 hk)) (by decide)) dX2_putBehindThird_8 rfl g10.obj rfl rfl rfl (Nat.le_of_ble_eq_true rfl) (Nat.le_of_ble_eq_true rfl) (Nat.le_of_ble_eq_true rfl) (Nat.le_of_ble_eq_true rfl) (Nat.le_of_ble_eq_true rfl) rfl (fun h11 q11 => ?_)
  have H11 := q11
  refine g_iconst (v := 3) (q := 12) C dX2_putBehindThird_11 (by decide) rfl ?_
  refine g_istore_n (q := 13) C dX2_putBehindThird_12 (Nat.le_of_ble_eq_true rfl) (by simp only [gset]; rfl) rfl ?_
  exact J_13 _ _ _ rfl trivial H11
theorem dX2_putCounting_0 : decode cX2_putCounting 0 = .ok (.aload_n 0, 1) := by decide +kernel
theorem dX2_putCounting_1 : decode cX2_putCounting 1 = .ok (.getfield 20, 3) := by decide +kernel
theorem dX2_putCounting_4 : decode cX2_putCounting 4 = .ok (.getfield 102, 3) := by decide +kernel
theorem dX2_putCounting_7 : decode cX2_putCounting 7 = .ok (.iconst 0, 1) := by decide +kernel
theorem dX2_putCounting_8 : decode cX2_putCounting 8 = .ok (.invokevirtual 89, 3) := by decide +kernel
theorem dX2_putCounting_11 : decode cX2_putCounting 11 = .ok (.iconst 0, 1) := by decide +kernel
theorem dX2_putCounting_12 : decode cX2_putCounting 12 = .ok (.istore_n 2, 1) := by decide +kernel
theorem dX2_putCounting_13 : decode cX2_putCounting 13 = .ok (.iload_n 2, 1) := by decide +kernel
theorem dX2_putCounting_14 : decode cX2_putCounting 14 = .ok (.iload_n 1, 1) := by decide +kernel
theorem dX2_putCounting_15 : decode cX2_putCounting 15 = .ok (.if_icmp .ge 20, 3) := by decide +kernel
theorem dX2_putCounting_18 : decode cX2_putCounting 18 = .ok (.aload_n 0, 1) := by decide +kernel
theorem dX2_putCounting_19 : decode cX2_putCounting 19 = .ok (.getfield 20, 3) := by decide +kernel
theorem dX2_putCounting_22 : decode cX2_putCounting 22 = .ok (.getfield 102, 3) := by decide +kernel
theorem dX2_putCounting_25 : decode cX2_putCounting 25 = .ok (.iload_n 2, 1) := by decide +kernel
theorem dX2_putCounting_26 : decode cX2_putCounting 26 = .ok (.invokevirtual 241, 3) := by decide +kernel
theorem dX2_putCounting_29 : decode cX2_putCounting 29 = .ok (.iinc 2 1, 3) := by decide +kernel
theorem dX2_putCounting_32 : decode cX2_putCounting 32 = .ok (.goto (-19), 3) := by decide +kernel
theorem dX2_putCounting_35 : decode cX2_putCounting 35 = .ok (.bipush (-2), 2) := by decide +kernel
theorem dX2_putCounting_37 : decode cX2_putCounting 37 = .ok (.ireturn, 1) := by decide +kernel
set_option maxRecDepth 100000 in
set_option maxHeartbeats 4000000 in
theorem tX2_putCounting {T : tyT} {R : Nat} {J : Nat → Prop} {Bc Bs : Nat} {M : gMd} {z : Nat → Nat} {hp : List gA} {o : Nat} {a0 : Int32}  (H : tyS T R J Bc Bs M z hp) (hk : tyK o = (7, 0))  : gM yX2_putCounting cX2_putCounting 3 ((some .int)) 3 103 [.ref o, .int a0] (hp) (0) (0) (fun v h => ∃ x, v = some (.int x) ∧ tyS T R J Bc Bs M z h) := by
  refine gM_of (ls0 := [some (.ref o), some (.int a0), none]) (by decide +kernel) (Nat.le_of_ble_eq_true rfl) rfl fun X C E => ?_
  have J_13 : ∀ (d13 : Nat) (y13_1 y13_2 : Int32) (hJ13 : List gA), (2147483647 - y13_2.toInt).toNat = d13 → ∀ (_ : True), tyS T R J Bc Bs M z hJ13 → gG X 13 [some (.ref o), some (.int y13_1), some (.int y13_2)] [] hJ13 0 0 := by
    intro d13
    induction d13 using Nat.strongRecOn with
    | _ d13 ih13 =>
    intro y13_1 y13_2 hJ13 hd13 _ HJ13
    refine g_iload_n (q := 14) C dX2_putCounting_13 rfl rfl ?_
    refine g_iload_n (q := 15) C dX2_putCounting_14 rfl rfl ?_
    refine g_icmp_ge (t := 35) (q := 18) C dX2_putCounting_15 (by decide) rfl (fun c_15 => ?_) (fun c_15 => ?_)
    ·
      refine g_bipush (v := (-2)) (q := 37) C dX2_putCounting_35 (by decide) rfl ?_
      exact E.1 _ _ _ _ _ _ _ dX2_putCounting_37 rfl rfl (Nat.le_of_ble_eq_true rfl) (Nat.le_of_ble_eq_true rfl) ⟨_, rfl, HJ13⟩
    ·
      refine g_aload_n (q := 19) C dX2_putCounting_18 rfl rfl ?_
      obtain ⟨x3_1, x4_1, x5_1, x6_1, x7_1, x11_1, x12_1, x13_1, x14_1, x15_1, x16_1, x17_1, jv_1, o1, e1_0, e1_1, e1_2, e1_3⟩ := tyG2 HJ13 hk
      refine g_getfield (v := .ref ((o + 8))) (q := 22) C fX2_20 dX2_putCounting_19 rfl o1 rfl ?_
      obtain ⟨x0_2, x1_2, x2_2, x3_2, x4_2, x5_2, x6_2, x7_2, x11_2, x12_2, x13_2, x14_2, o2, e2_0⟩ := tyG5 HJ13 (tyF2_1 hk)
      refine g_getfieldW (v := .ref (((o + 8) + 1))) (q := 25) C fX2_102 dX2_putCounting_22 rfl o2 rfl ?_
      refine g_iload_n (q := 26) C dX2_putCounting_25 rfl rfl ?_
      obtain ⟨l3, g3, -⟩ := tyRow HJ13 (tyF5_8 (tyF2_1 hk))
      refine g_callVvp (q := 29) (As := [.int y13_2]) C gyX4_add gvX4_add t_811 (tX4_add HJ13 (tyF5_8 (tyF2_1 hk)) (by decide)) dX2_putCounting_26 rfl g3.obj rfl rfl rfl (Nat.le_of_ble_eq_true rfl) (Nat.le_of_ble_eq_true rfl) (Nat.le_of_ble_eq_true rfl) (Nat.le_of_ble_eq_true rfl) (Nat.le_of_ble_eq_true rfl) rfl (fun h4 q4 => ?_)
      have H4 := q4
      refine g_iinc (v := y13_2 + 1) (q := 32) C dX2_putCounting_29 rfl rfl (by simp only [gset]; rfl) rfl ?_
      refine g_goto (q := 13) C dX2_putCounting_32 (by decide) ?_
      exact ih13 _ (tyUp' hd13 c_15) _ _ _ rfl trivial H4
  refine g_aload_n (q := 1) C dX2_putCounting_0 rfl rfl ?_
  obtain ⟨x3_5, x4_5, x5_5, x6_5, x7_5, x11_5, x12_5, x13_5, x14_5, x15_5, x16_5, x17_5, jv_5, o5, e5_0, e5_1, e5_2, e5_3⟩ := tyG2 H hk
  refine g_getfield (v := .ref ((o + 8))) (q := 4) C fX2_20 dX2_putCounting_1 rfl o5 rfl ?_
  obtain ⟨x0_6, x1_6, x2_6, x3_6, x4_6, x5_6, x6_6, x7_6, x11_6, x12_6, x13_6, x14_6, o6, e6_0⟩ := tyG5 H (tyF2_1 hk)
  refine g_getfieldW (v := .ref (((o + 8) + 1))) (q := 7) C fX2_102 dX2_putCounting_4 rfl o6 rfl ?_
  refine g_iconst (v := 0) (q := 8) C dX2_putCounting_7 (by decide) rfl ?_
  obtain ⟨l7, g7, -⟩ := tyRow H (tyF5_8 (tyF2_1 hk))
  refine g_callVvp (q := 11) (As := [.int 0]) C gyX4_keep gvX4_keep t_586 (tX4_keep H (tyF5_8 (tyF2_1 hk)) (by decide)) dX2_putCounting_8 rfl g7.obj rfl rfl rfl (Nat.le_of_ble_eq_true rfl) (Nat.le_of_ble_eq_true rfl) (Nat.le_of_ble_eq_true rfl) (Nat.le_of_ble_eq_true rfl) (Nat.le_of_ble_eq_true rfl) rfl (fun h8 q8 => ?_)
  have H8 := q8
  refine g_iconst (v := 0) (q := 12) C dX2_putCounting_11 (by decide) rfl ?_
  refine g_istore_n (q := 13) C dX2_putCounting_12 (Nat.le_of_ble_eq_true rfl) (by simp only [gset]; rfl) rfl ?_
  exact J_13 _ _ _ _ rfl trivial H8
theorem dX2_finish_0 : decode cX2_finish 0 = .ok (.aload_n 0, 1) := by decide +kernel
theorem dX2_finish_1 : decode cX2_finish 1 = .ok (.iload_n 1, 1) := by decide +kernel
theorem dX2_finish_2 : decode cX2_finish 2 = .ok (.putfield 30, 3) := by decide +kernel
theorem dX2_finish_5 : decode cX2_finish 5 = .ok (.iload_n 1, 1) := by decide +kernel
theorem dX2_finish_6 : decode cX2_finish 6 = .ok (.iconst 2, 1) := by decide +kernel
theorem dX2_finish_7 : decode cX2_finish 7 = .ok (.if_icmp .ne 16, 3) := by decide +kernel
theorem dX2_finish_10 : decode cX2_finish 10 = .ok (.aload_n 0, 1) := by decide +kernel
theorem dX2_finish_11 : decode cX2_finish 11 = .ok (.dup, 1) := by decide +kernel
theorem dX2_finish_12 : decode cX2_finish 12 = .ok (.getfield 40, 3) := by decide +kernel
theorem dX2_finish_15 : decode cX2_finish 15 = .ok (.iconst 1, 1) := by decide +kernel
theorem dX2_finish_16 : decode cX2_finish 16 = .ok (.iadd, 1) := by decide +kernel
theorem dX2_finish_17 : decode cX2_finish 17 = .ok (.putfield 40, 3) := by decide +kernel
theorem dX2_finish_20 : decode cX2_finish 20 = .ok (.goto 13, 3) := by decide +kernel
theorem dX2_finish_23 : decode cX2_finish 23 = .ok (.aload_n 0, 1) := by decide +kernel
theorem dX2_finish_24 : decode cX2_finish 24 = .ok (.dup, 1) := by decide +kernel
theorem dX2_finish_25 : decode cX2_finish 25 = .ok (.getfield 43, 3) := by decide +kernel
theorem dX2_finish_28 : decode cX2_finish 28 = .ok (.iconst 1, 1) := by decide +kernel
theorem dX2_finish_29 : decode cX2_finish 29 = .ok (.iadd, 1) := by decide +kernel
theorem dX2_finish_30 : decode cX2_finish 30 = .ok (.putfield 43, 3) := by decide +kernel
theorem dX2_finish_33 : decode cX2_finish 33 = .ok (.iconst (-1), 1) := by decide +kernel
theorem dX2_finish_34 : decode cX2_finish 34 = .ok (.ireturn, 1) := by decide +kernel
set_option maxRecDepth 100000 in
set_option maxHeartbeats 4000000 in
theorem tX2_finish {T : tyT} {R : Nat} {J : Nat → Prop} {Bc Bs : Nat} {M : gMd} {z : Nat → Nat} {hp : List gA} {o : Nat} {a0 : Int32}  (H : tyS T R J Bc Bs M z hp) (hk : tyK o = (7, 0))  : gM yX2_finish cX2_finish 2 ((some .int)) 0 0 [.ref o, .int a0] (hp) (0) (0) (fun v h => ∃ x, v = some (.int x) ∧ tyS T R J Bc Bs M z h) := by
  refine gM_of (ls0 := [some (.ref o), some (.int a0)]) (by decide +kernel) (Nat.le_of_ble_eq_true rfl) rfl fun X C E => ?_
  have J_33 : ∀ (y33_1 : Int32) (hJ33 : List gA), tyS T R J Bc Bs M z hJ33 → gG X 33 [some (.ref o), some (.int y33_1)] [] hJ33 0 0 := by
    intro y33_1 hJ33 HJ33
    refine g_iconst (v := (-1)) (q := 34) C dX2_finish_33 (by decide) rfl ?_
    exact E.1 _ _ _ _ _ _ _ dX2_finish_34 rfl rfl (Nat.le_of_ble_eq_true rfl) (Nat.le_of_ble_eq_true rfl) ⟨_, rfl, HJ33⟩
  refine g_aload_n (q := 1) C dX2_finish_0 rfl rfl ?_
  refine g_iload_n (q := 2) C dX2_finish_1 rfl rfl ?_
  obtain ⟨x3_1, x4_1, x5_1, x6_1, x7_1, x11_1, x12_1, x13_1, x14_1, x15_1, x16_1, x17_1, jv_1, o1, e1_0, e1_1, e1_2, e1_3⟩ := tyG2 H hk
  refine g_putfield (q := 5) C fX2_30 dX2_finish_2 rfl o1 (Nat.le_of_ble_eq_true rfl) (Or.inl rfl) rfl rfl (by intro z h; cases h) ?_
  refine tyP2 H hk rfl e1_0 e1_1 e1_2 e1_3 (fun h2 _ _ H2 => ?_)
  refine g_iload_n (q := 6) C dX2_finish_5 rfl rfl ?_
  refine g_iconst (v := 2) (q := 7) C dX2_finish_6 (by decide) rfl ?_
  refine g_icmp_ne (t := 23) (q := 10) C dX2_finish_7 (by decide) rfl (fun c_7 => ?_) (fun c_7 => ?_)
  ·
    refine g_aload_n (q := 24) C dX2_finish_23 rfl rfl ?_
    refine g_dup (q := 25) C dX2_finish_24 rfl rfl ?_
    obtain ⟨x3_3, x4_3, x5_3, x6_3, x7_3, x11_3, x12_3, x13_3, x14_3, x15_3, x16_3, x17_3, jv_3, o3, e3_0, e3_1, e3_2, e3_3⟩ := tyG2 H2 hk
    refine g_getfield (v := .int x7_3) (q := 28) C fX2_43 dX2_finish_25 rfl o3 rfl ?_
    refine g_iconst (v := 1) (q := 29) C dX2_finish_28 (by decide) rfl ?_
    refine g_iadd (q := 30) C dX2_finish_29 rfl ?_
    refine g_putfield (q := 33) C fX2_43 dX2_finish_30 rfl o3 (Nat.le_of_ble_eq_true rfl) (Or.inl rfl) rfl rfl (by intro z h; cases h) ?_
    refine tyP2 H2 hk rfl e3_0 e3_1 e3_2 e3_3 (fun h4 _ _ H4 => ?_)
    exact J_33 _ _  H4
  ·
    refine g_aload_n (q := 11) C dX2_finish_10 rfl rfl ?_
    refine g_dup (q := 12) C dX2_finish_11 rfl rfl ?_
    obtain ⟨x3_5, x4_5, x5_5, x6_5, x7_5, x11_5, x12_5, x13_5, x14_5, x15_5, x16_5, x17_5, jv_5, o5, e5_0, e5_1, e5_2, e5_3⟩ := tyG2 H2 hk
    refine g_getfield (v := .int x6_5) (q := 15) C fX2_40 dX2_finish_12 rfl o5 rfl ?_
    refine g_iconst (v := 1) (q := 16) C dX2_finish_15 (by decide) rfl ?_
    refine g_iadd (q := 17) C dX2_finish_16 rfl ?_
    refine g_putfield (q := 20) C fX2_40 dX2_finish_17 rfl o5 (Nat.le_of_ble_eq_true rfl) (Or.inl rfl) rfl rfl (by intro z h; cases h) ?_
    refine tyP2 H2 hk rfl e5_0 e5_1 e5_2 e5_3 (fun h6 _ _ H6 => ?_)
    refine g_goto (q := 33) C dX2_finish_20 (by decide) ?_
    exact J_33 _ _  H6
theorem dX2_firstKind_0 : decode cX2_firstKind 0 = .ok (.aload_n 0, 1) := by decide +kernel
theorem dX2_firstKind_1 : decode cX2_firstKind 1 = .ok (.iconst 0, 1) := by decide +kernel
theorem dX2_firstKind_2 : decode cX2_firstKind 2 = .ok (.putfield 61, 3) := by decide +kernel
theorem dX2_firstKind_5 : decode cX2_firstKind 5 = .ok (.aload_n 0, 1) := by decide +kernel
theorem dX2_firstKind_6 : decode cX2_firstKind 6 = .ok (.iconst 0, 1) := by decide +kernel
theorem dX2_firstKind_7 : decode cX2_firstKind 7 = .ok (.putfield 34, 3) := by decide +kernel
theorem dX2_firstKind_10 : decode cX2_firstKind 10 = .ok (.aload_n 0, 1) := by decide +kernel
theorem dX2_firstKind_11 : decode cX2_firstKind 11 = .ok (.getfield 65, 3) := by decide +kernel
theorem dX2_firstKind_14 : decode cX2_firstKind 14 = .ok (.iconst (-1), 1) := by decide +kernel
theorem dX2_firstKind_15 : decode cX2_firstKind 15 = .ok (.if_icmp .ne 8, 3) := by decide +kernel
theorem dX2_firstKind_18 : decode cX2_firstKind 18 = .ok (.bipush (-2), 2) := by decide +kernel
theorem dX2_firstKind_20 : decode cX2_firstKind 20 = .ok (.goto 15, 3) := by decide +kernel
theorem dX2_firstKind_23 : decode cX2_firstKind 23 = .ok (.aload_n 0, 1) := by decide +kernel
theorem dX2_firstKind_24 : decode cX2_firstKind 24 = .ok (.getfield 14, 3) := by decide +kernel
theorem dX2_firstKind_27 : decode cX2_firstKind 27 = .ok (.iconst 1, 1) := by decide +kernel
theorem dX2_firstKind_28 : decode cX2_firstKind 28 = .ok (.aload_n 0, 1) := by decide +kernel
theorem dX2_firstKind_29 : decode cX2_firstKind 29 = .ok (.getfield 65, 3) := by decide +kernel
theorem dX2_firstKind_32 : decode cX2_firstKind 32 = .ok (.invokevirtual 145, 3) := by decide +kernel
theorem dX2_firstKind_35 : decode cX2_firstKind 35 = .ok (.ireturn, 1) := by decide +kernel
set_option maxRecDepth 100000 in
set_option maxHeartbeats 4000000 in
theorem tX2_firstKind {T : tyT} {R : Nat} {J : Nat → Prop} {Bc Bs : Nat} {M : gMd} {z : Nat → Nat} {hp : List gA} {o : Nat}  (H : tyS T R J Bc Bs M z hp) (hk : tyK o = (7, 0))  : gM yX2_firstKind cX2_firstKind 1 ((some .int)) 2 42 [.ref o] (hp) (0) (0) (fun v h => ∃ x, v = some (.int x) ∧ tyS T R J Bc Bs M z h) := by
  refine gM_of (ls0 := [some (.ref o)]) (by decide +kernel) (Nat.le_of_ble_eq_true rfl) rfl fun X C E => ?_
  refine g_aload_n (q := 1) C dX2_firstKind_0 rfl rfl ?_
  refine g_iconst (v := 0) (q := 2) C dX2_firstKind_1 (by decide) rfl ?_
  obtain ⟨x3_1, x4_1, x5_1, x6_1, x7_1, x11_1, x12_1, x13_1, x14_1, x15_1, x16_1, x17_1, jv_1, o1, e1_0, e1_1, e1_2, e1_3⟩ := tyG2 H hk
  refine g_putfield (q := 5) C fX2_61 dX2_firstKind_2 rfl o1 (Nat.le_of_ble_eq_true rfl) (Or.inl rfl) (tyNar (Or.inl rfl)) (tyFit (Or.inl rfl)) (by intro z h; cases h) ?_
  refine tyP2 H hk rfl (Or.inl rfl) e1_1 e1_2 e1_3 (fun h2 _ _ H2 => ?_)
  refine g_aload_n (q := 6) C dX2_firstKind_5 rfl rfl ?_
  refine g_iconst (v := 0) (q := 7) C dX2_firstKind_6 (by decide) rfl ?_
  obtain ⟨x3_3, x4_3, x5_3, x6_3, x7_3, x11_3, x12_3, x13_3, x14_3, x15_3, x16_3, x17_3, jv_3, o3, e3_0, e3_1, e3_2, e3_3⟩ := tyG2 H2 hk
  refine g_putfield (q := 10) C fX2_34 dX2_firstKind_7 rfl o3 (Nat.le_of_ble_eq_true rfl) (Or.inl rfl) rfl rfl (by intro z h; cases h) ?_
  refine tyP2 H2 hk rfl e3_0 e3_1 e3_2 e3_3 (fun h4 _ _ H4 => ?_)
  refine g_aload_n (q := 11) C dX2_firstKind_10 rfl rfl ?_
  obtain ⟨x3_5, x4_5, x5_5, x6_5, x7_5, x11_5, x12_5, x13_5, x14_5, x15_5, x16_5, x17_5, jv_5, o5, e5_0, e5_1, e5_2, e5_3⟩ := tyG2 H4 hk
  refine g_getfield (v := .int x13_5) (q := 14) C fX2_65 dX2_firstKind_11 rfl o5 rfl ?_
  refine g_iconst (v := (-1)) (q := 15) C dX2_firstKind_14 (by decide) rfl ?_
  refine g_icmp_ne (t := 23) (q := 18) C dX2_firstKind_15 (by decide) rfl (fun c_15 => ?_) (fun c_15 => ?_)
  ·
    refine g_aload_n (q := 24) C dX2_firstKind_23 rfl rfl ?_
    refine g_getfield (v := .ref ((o + 1))) (q := 27) C fX2_14 dX2_firstKind_24 rfl o5 rfl ?_
    refine g_iconst (v := 1) (q := 28) C dX2_firstKind_27 (by decide) rfl ?_
    refine g_aload_n (q := 29) C dX2_firstKind_28 rfl rfl ?_
    refine g_getfield (v := .int x13_5) (q := 32) C fX2_65 dX2_firstKind_29 rfl o5 rfl ?_
    obtain ⟨x0_6, x1_6, x2_6, x3_6, x4_6, x5_6, x6_6, x7_6, x11_6, x12_6, x13_6, x14_6, o6, e6_0⟩ := tyG5 H4 (tyF2_0 hk)
    refine g_callVip (q := 35) (As := [.int 1, .int x13_5]) C gyX5_ask gvX5_ask t_701 (tX5_ask H4 (tyF2_0 hk)) dX2_firstKind_32 rfl o6 rfl rfl rfl (Nat.le_of_ble_eq_true rfl) (Nat.le_of_ble_eq_true rfl) (Nat.le_of_ble_eq_true rfl) (Nat.le_of_ble_eq_true rfl) (Nat.le_of_ble_eq_true rfl) rfl (fun x7 h7 q7 => ?_)
    have H7 := q7
    exact E.1 _ _ _ _ _ _ _ dX2_firstKind_35 rfl rfl (Nat.le_of_ble_eq_true rfl) (Nat.le_of_ble_eq_true rfl) ⟨_, rfl, H7⟩
  ·
    refine g_bipush (v := (-2)) (q := 20) C dX2_firstKind_18 (by decide) rfl ?_
    refine g_goto (q := 35) C dX2_firstKind_20 (by decide) ?_
    exact E.1 _ _ _ _ _ _ _ dX2_firstKind_35 rfl rfl (Nat.le_of_ble_eq_true rfl) (Nat.le_of_ble_eq_true rfl) ⟨_, rfl, H4⟩
theorem dX2_countTries_0 : decode cX2_countTries 0 = .ok (.aload_n 0, 1) := by decide +kernel
theorem dX2_countTries_1 : decode cX2_countTries 1 = .ok (.aload_n 0, 1) := by decide +kernel
theorem dX2_countTries_2 : decode cX2_countTries 2 = .ok (.getfield 68, 3) := by decide +kernel
theorem dX2_countTries_5 : decode cX2_countTries 5 = .ok (.ifCond .eq 12, 3) := by decide +kernel
theorem dX2_countTries_8 : decode cX2_countTries 8 = .ok (.aload_n 0, 1) := by decide +kernel
theorem dX2_countTries_9 : decode cX2_countTries 9 = .ok (.getfield 34, 3) := by decide +kernel
theorem dX2_countTries_12 : decode cX2_countTries 12 = .ok (.iconst 1, 1) := by decide +kernel
theorem dX2_countTries_13 : decode cX2_countTries 13 = .ok (.iadd, 1) := by decide +kernel
theorem dX2_countTries_14 : decode cX2_countTries 14 = .ok (.goto 4, 3) := by decide +kernel
theorem dX2_countTries_17 : decode cX2_countTries 17 = .ok (.iconst 0, 1) := by decide +kernel
theorem dX2_countTries_18 : decode cX2_countTries 18 = .ok (.putfield 34, 3) := by decide +kernel
theorem dX2_countTries_21 : decode cX2_countTries 21 = .ok (.aload_n 0, 1) := by decide +kernel
theorem dX2_countTries_22 : decode cX2_countTries 22 = .ok (.getfield 34, 3) := by decide +kernel
theorem dX2_countTries_25 : decode cX2_countTries 25 = .ok (.iconst 3, 1) := by decide +kernel
theorem dX2_countTries_26 : decode cX2_countTries 26 = .ok (.if_icmp .ge 5, 3) := by decide +kernel
theorem dX2_countTries_29 : decode cX2_countTries 29 = .ok (.iload_n 1, 1) := by decide +kernel
theorem dX2_countTries_30 : decode cX2_countTries 30 = .ok (.ireturn, 1) := by decide +kernel
theorem dX2_countTries_31 : decode cX2_countTries 31 = .ok (.aload_n 0, 1) := by decide +kernel
theorem dX2_countTries_32 : decode cX2_countTries 32 = .ok (.iconst 0, 1) := by decide +kernel
theorem dX2_countTries_33 : decode cX2_countTries 33 = .ok (.putfield 34, 3) := by decide +kernel
theorem dX2_countTries_36 : decode cX2_countTries 36 = .ok (.aload_n 0, 1) := by decide +kernel
theorem dX2_countTries_37 : decode cX2_countTries 37 = .ok (.getfield 14, 3) := by decide +kernel
theorem dX2_countTries_40 : decode cX2_countTries 40 = .ok (.getfield 149, 3) := by decide +kernel
theorem dX2_countTries_43 : decode cX2_countTries 43 = .ok (.ifCond .ne 10, 3) := by decide +kernel
theorem dX2_countTries_46 : decode cX2_countTries 46 = .ok (.aload_n 0, 1) := by decide +kernel
theorem dX2_countTries_47 : decode cX2_countTries 47 = .ok (.iconst 4, 1) := by decide +kernel
theorem dX2_countTries_48 : decode cX2_countTries 48 = .ok (.putfield 30, 3) := by decide +kernel
theorem dX2_countTries_51 : decode cX2_countTries 51 = .ok (.iconst (-1), 1) := by decide +kernel
theorem dX2_countTries_52 : decode cX2_countTries 52 = .ok (.ireturn, 1) := by decide +kernel
theorem dX2_countTries_53 : decode cX2_countTries 53 = .ok (.aload_n 0, 1) := by decide +kernel
theorem dX2_countTries_54 : decode cX2_countTries 54 = .ok (.getfield 14, 3) := by decide +kernel
theorem dX2_countTries_57 : decode cX2_countTries 57 = .ok (.iconst 0, 1) := by decide +kernel
theorem dX2_countTries_58 : decode cX2_countTries 58 = .ok (.iconst 0, 1) := by decide +kernel
theorem dX2_countTries_59 : decode cX2_countTries 59 = .ok (.invokevirtual 145, 3) := by decide +kernel
theorem dX2_countTries_62 : decode cX2_countTries 62 = .ok (.ireturn, 1) := by decide +kernel
set_option maxRecDepth 100000 in
set_option maxHeartbeats 4000000 in
theorem tX2_countTries {T : tyT} {R : Nat} {J : Nat → Prop} {Bc Bs : Nat} {M : gMd} {z : Nat → Nat} {hp : List gA} {o : Nat} {a0 : Int32}  (H : tyS T R J Bc Bs M z hp) (hk : tyK o = (7, 0))  : gM yX2_countTries cX2_countTries 2 ((some .int)) 2 42 [.ref o, .int a0] (hp) (0) (0) (fun v h => ∃ x, v = some (.int x) ∧ tyS T R J Bc Bs M z h) := by
  refine gM_of (ls0 := [some (.ref o), some (.int a0)]) (by decide +kernel) (Nat.le_of_ble_eq_true rfl) rfl fun X C E => ?_
  have J_18 : ∀ (y18_1 s18_0 : Int32) (hJ18 : List gA), tyS T R J Bc Bs M z hJ18 → gG X 18 [some (.ref o), some (.int y18_1)] [.int s18_0, .ref o] hJ18 0 0 := by
    intro y18_1 s18_0 hJ18 HJ18
    obtain ⟨x3_1, x4_1, x5_1, x6_1, x7_1, x11_1, x12_1, x13_1, x14_1, x15_1, x16_1, x17_1, jv_1, o1, e1_0, e1_1, e1_2, e1_3⟩ := tyG2 HJ18 hk
    refine g_putfield (q := 21) C fX2_34 dX2_countTries_18 rfl o1 (Nat.le_of_ble_eq_true rfl) (Or.inl rfl) rfl rfl (by intro z h; cases h) ?_
    refine tyP2 HJ18 hk rfl e1_0 e1_1 e1_2 e1_3 (fun h2 _ _ H2 => ?_)
    refine g_aload_n (q := 22) C dX2_countTries_21 rfl rfl ?_
    obtain ⟨x3_3, x4_3, x5_3, x6_3, x7_3, x11_3, x12_3, x13_3, x14_3, x15_3, x16_3, x17_3, jv_3, o3, e3_0, e3_1, e3_2, e3_3⟩ := tyG2 H2 hk
    refine g_getfield (v := .int x4_3) (q := 25) C fX2_34 dX2_countTries_22 rfl o3 rfl ?_
    refine g_iconst (v := 3) (q := 26) C dX2_countTries_25 (by decide) rfl ?_
    refine g_icmp_ge (t := 31) (q := 29) C dX2_countTries_26 (by decide) rfl (fun c_26 => ?_) (fun c_26 => ?_)
    ·
      have i_26 := Int32.le_iff_toInt_le.mp c_26
      refine g_aload_n (q := 32) C dX2_countTries_31 rfl rfl ?_
      refine g_iconst (v := 0) (q := 33) C dX2_countTries_32 (by decide) rfl ?_
      refine g_putfield (q := 36) C fX2_34 dX2_countTries_33 rfl o3 (Nat.le_of_ble_eq_true rfl) (Or.inl rfl) rfl rfl (by intro z h; cases h) ?_
      refine tyP2 H2 hk rfl e3_0 e3_1 e3_2 e3_3 (fun h4 _ _ H4 => ?_)
      refine g_aload_n (q := 37) C dX2_countTries_36 rfl rfl ?_
      obtain ⟨x3_5, x4_5, x5_5, x6_5, x7_5, x11_5, x12_5, x13_5, x14_5, x15_5, x16_5, x17_5, jv_5, o5, e5_0, e5_1, e5_2, e5_3⟩ := tyG2 H4 hk
      refine g_getfield (v := .ref ((o + 1))) (q := 40) C fX2_14 dX2_countTries_37 rfl o5 rfl ?_
      obtain ⟨x0_6, x1_6, x2_6, x3_6, x4_6, x5_6, x6_6, x7_6, x11_6, x12_6, x13_6, x14_6, o6, e6_0⟩ := tyG5 H4 (tyF2_0 hk)
      refine g_getfield (v := .int x5_6) (q := 43) C fX2_149 dX2_countTries_40 rfl o6 rfl ?_
      refine g_if_ne (t := 53) (q := 46) C dX2_countTries_43 (by decide) rfl (fun c_43 => ?_) (fun c_43 => ?_)
      ·
        refine g_aload_n (q := 54) C dX2_countTries_53 rfl rfl ?_
        refine g_getfield (v := .ref ((o + 1))) (q := 57) C fX2_14 dX2_countTries_54 rfl o5 rfl ?_
        refine g_iconst (v := 0) (q := 58) C dX2_countTries_57 (by decide) rfl ?_
        refine g_iconst (v := 0) (q := 59) C dX2_countTries_58 (by decide) rfl ?_
        refine g_callVip (q := 62) (As := [.int 0, .int 0]) C gyX5_ask gvX5_ask t_701 (tX5_ask H4 (tyF2_0 hk)) dX2_countTries_59 rfl o6 rfl rfl rfl (Nat.le_of_ble_eq_true rfl) (Nat.le_of_ble_eq_true rfl) (Nat.le_of_ble_eq_true rfl) (Nat.le_of_ble_eq_true rfl) (Nat.le_of_ble_eq_true rfl) rfl (fun x7 h7 q7 => ?_)
        have H7 := q7
        exact E.1 _ _ _ _ _ _ _ dX2_countTries_62 rfl rfl (Nat.le_of_ble_eq_true rfl) (Nat.le_of_ble_eq_true rfl) ⟨_, rfl, H7⟩
      ·
        refine g_aload_n (q := 47) C dX2_countTries_46 rfl rfl ?_
        refine g_iconst (v := 4) (q := 48) C dX2_countTries_47 (by decide) rfl ?_
        refine g_putfield (q := 51) C fX2_30 dX2_countTries_48 rfl o5 (Nat.le_of_ble_eq_true rfl) (Or.inl rfl) rfl rfl (by intro z h; cases h) ?_
        refine tyP2 H4 hk rfl e5_0 e5_1 e5_2 e5_3 (fun h8 _ _ H8 => ?_)
        refine g_iconst (v := (-1)) (q := 52) C dX2_countTries_51 (by decide) rfl ?_
        exact E.1 _ _ _ _ _ _ _ dX2_countTries_52 rfl rfl (Nat.le_of_ble_eq_true rfl) (Nat.le_of_ble_eq_true rfl) ⟨_, rfl, H8⟩
    ·
      have i_26 := mt Int32.le_iff_toInt_le.mpr c_26
      refine g_iload_n (q := 30) C dX2_countTries_29 rfl rfl ?_
      exact E.1 _ _ _ _ _ _ _ dX2_countTries_30 rfl rfl (Nat.le_of_ble_eq_true rfl) (Nat.le_of_ble_eq_true rfl) ⟨_, rfl, H2⟩
  refine g_aload_n (q := 1) C dX2_countTries_0 rfl rfl ?_
  refine g_aload_n (q := 2) C dX2_countTries_1 rfl rfl ?_
  obtain ⟨x3_9, x4_9, x5_9, x6_9, x7_9, x11_9, x12_9, x13_9, x14_9, x15_9, x16_9, x17_9, jv_9, o9, e9_0, e9_1, e9_2, e9_3⟩ := tyG2 H hk
  refine g_getfield (v := .int x14_9) (q := 5) C fX2_68 dX2_countTries_2 rfl o9 rfl ?_
  refine g_if_eq (t := 17) (q := 8) C dX2_countTries_5 (by decide) rfl (fun c_5 => ?_) (fun c_5 => ?_)
  ·
    refine g_iconst (v := 0) (q := 18) C dX2_countTries_17 (by decide) rfl ?_
    exact J_18 _ _ _  H
  ·
    refine g_aload_n (q := 9) C dX2_countTries_8 rfl rfl ?_
    refine g_getfield (v := .int x4_9) (q := 12) C fX2_34 dX2_countTries_9 rfl o9 rfl ?_
    refine g_iconst (v := 1) (q := 13) C dX2_countTries_12 (by decide) rfl ?_
    refine g_iadd (q := 14) C dX2_countTries_13 rfl ?_
    refine g_goto (q := 18) C dX2_countTries_14 (by decide) ?_
    exact J_18 _ _ _  H
theorem dX2_isAnswerTo_0 : decode cX2_isAnswerTo 0 = .ok (.aload_n 0, 1) := by decide +kernel
theorem dX2_isAnswerTo_1 : decode cX2_isAnswerTo 1 = .ok (.getfield 55, 3) := by decide +kernel
theorem dX2_isAnswerTo_4 : decode cX2_isAnswerTo 4 = .ok (.iconst 1, 1) := by decide +kernel
theorem dX2_isAnswerTo_5 : decode cX2_isAnswerTo 5 = .ok (.invokevirtual 156, 3) := by decide +kernel
theorem dX2_isAnswerTo_8 : decode cX2_isAnswerTo 8 = .ok (.aload_n 1, 1) := by decide +kernel
theorem dX2_isAnswerTo_9 : decode cX2_isAnswerTo 9 = .ok (.invokevirtual 188, 3) := by decide +kernel
theorem dX2_isAnswerTo_12 : decode cX2_isAnswerTo 12 = .ok (.bipush 32, 2) := by decide +kernel
theorem dX2_isAnswerTo_14 : decode cX2_isAnswerTo 14 = .ok (.iadd, 1) := by decide +kernel
theorem dX2_isAnswerTo_15 : decode cX2_isAnswerTo 15 = .ok (.if_icmp .eq 5, 3) := by decide +kernel
theorem dX2_isAnswerTo_18 : decode cX2_isAnswerTo 18 = .ok (.iconst 0, 1) := by decide +kernel
theorem dX2_isAnswerTo_19 : decode cX2_isAnswerTo 19 = .ok (.ireturn, 1) := by decide +kernel
theorem dX2_isAnswerTo_20 : decode cX2_isAnswerTo 20 = .ok (.aload_n 0, 1) := by decide +kernel
theorem dX2_isAnswerTo_21 : decode cX2_isAnswerTo 21 = .ok (.getfield 55, 3) := by decide +kernel
theorem dX2_isAnswerTo_24 : decode cX2_isAnswerTo 24 = .ok (.iconst 2, 1) := by decide +kernel
theorem dX2_isAnswerTo_25 : decode cX2_isAnswerTo 25 = .ok (.invokevirtual 156, 3) := by decide +kernel
theorem dX2_isAnswerTo_28 : decode cX2_isAnswerTo 28 = .ok (.ifCond .eq 18, 3) := by decide +kernel
theorem dX2_isAnswerTo_31 : decode cX2_isAnswerTo 31 = .ok (.aload_n 0, 1) := by decide +kernel
theorem dX2_isAnswerTo_32 : decode cX2_isAnswerTo 32 = .ok (.getfield 55, 3) := by decide +kernel
theorem dX2_isAnswerTo_35 : decode cX2_isAnswerTo 35 = .ok (.iconst 3, 1) := by decide +kernel
theorem dX2_isAnswerTo_36 : decode cX2_isAnswerTo 36 = .ok (.invokevirtual 156, 3) := by decide +kernel
theorem dX2_isAnswerTo_39 : decode cX2_isAnswerTo 39 = .ok (.aload_n 1, 1) := by decide +kernel
theorem dX2_isAnswerTo_40 : decode cX2_isAnswerTo 40 = .ok (.getfield 194, 3) := by decide +kernel
theorem dX2_isAnswerTo_43 : decode cX2_isAnswerTo 43 = .ok (.if_icmp .ne 7, 3) := by decide +kernel
theorem dX2_isAnswerTo_46 : decode cX2_isAnswerTo 46 = .ok (.iconst 1, 1) := by decide +kernel
theorem dX2_isAnswerTo_47 : decode cX2_isAnswerTo 47 = .ok (.goto 4, 3) := by decide +kernel
theorem dX2_isAnswerTo_50 : decode cX2_isAnswerTo 50 = .ok (.iconst 0, 1) := by decide +kernel
theorem dX2_isAnswerTo_51 : decode cX2_isAnswerTo 51 = .ok (.ireturn, 1) := by decide +kernel
set_option maxRecDepth 100000 in
set_option maxHeartbeats 4000000 in
theorem tX2_isAnswerTo {T : tyT} {R : Nat} {J : Nat → Prop} {Bc Bs : Nat} {M : gMd} {z : Nat → Nat} {hp : List gA} {o : Nat} {a0 : Nat}  (H : tyS T R J Bc Bs M z hp) (hk : tyK o = (7, 0)) (hk0 : tyK a0 = (5, 0))  : gM yX2_isAnswerTo cX2_isAnswerTo 2 ((some .boolean)) 1 21 [.ref o, .ref a0] (hp) (0) (0) (fun v h => ∃ x, v = some (.int x) ∧ ((x = 0 ∨ x = 1) ∧ tyS T R J Bc Bs M z h)) := by
  refine gM_of (ls0 := [some (.ref o), some (.ref a0)]) (by decide +kernel) (Nat.le_of_ble_eq_true rfl) rfl fun X C E => ?_
  have J_46 : ∀ (hJ46 : List gA), tyS T R J Bc Bs M z hJ46 → gG X 46 [some (.ref o), some (.ref a0)] [] hJ46 0 0 := by
    intro hJ46 HJ46
    refine g_iconst (v := 1) (q := 47) C dX2_isAnswerTo_46 (by decide) rfl ?_
    refine g_goto (q := 51) C dX2_isAnswerTo_47 (by decide) ?_
    exact E.1 _ _ _ _ _ _ _ dX2_isAnswerTo_51 rfl (tyNar (Or.inr rfl)) (Nat.le_of_ble_eq_true rfl) (Nat.le_of_ble_eq_true rfl) ⟨_, rfl, (Or.inr rfl), HJ46⟩
  refine g_aload_n (q := 1) C dX2_isAnswerTo_0 rfl rfl ?_
  obtain ⟨x3_1, x4_1, x5_1, x6_1, x7_1, x11_1, x12_1, x13_1, x14_1, x15_1, x16_1, x17_1, jv_1, o1, e1_0, e1_1, e1_2, e1_3⟩ := tyG2 H hk
  refine g_getfield (v := .ref ((o + 21))) (q := 4) C fX2_55 dX2_isAnswerTo_1 rfl o1 rfl ?_
  refine g_iconst (v := 1) (q := 5) C dX2_isAnswerTo_4 (by decide) rfl ?_
  obtain ⟨l2, g2, -⟩ := tyRow H (tyF2_9 hk)
  refine g_callVip (q := 8) (As := [.int 1]) C gyX4_at gvX4_at t_722 (tX4_at H (tyF2_9 hk)) dX2_isAnswerTo_5 rfl g2.obj rfl rfl rfl (Nat.le_of_ble_eq_true rfl) (Nat.le_of_ble_eq_true rfl) (Nat.le_of_ble_eq_true rfl) (Nat.le_of_ble_eq_true rfl) (Nat.le_of_ble_eq_true rfl) rfl (fun x3 h3 q3 => ?_)
  subst q3
  refine g_aload_n (q := 9) C dX2_isAnswerTo_8 rfl rfl ?_
  obtain ⟨x0_4, x1_4, x2_4, x3_4, x4_4, x5_4, x6_4, x7_4, x11_4, x12_4, x13_4, x14_4, o4, e4_0⟩ := tyG5 H hk0
  refine g_callVip (q := 12) (As := []) C gyX5_requestKind gvX5_requestKind t_717 (tX5_requestKind H hk0) dX2_isAnswerTo_9 rfl o4 rfl rfl rfl (Nat.le_of_ble_eq_true rfl) (Nat.le_of_ble_eq_true rfl) (Nat.le_of_ble_eq_true rfl) (Nat.le_of_ble_eq_true rfl) (Nat.le_of_ble_eq_true rfl) rfl (fun x5 h5 q5 => ?_)
  have H5 := q5
  refine g_bipush (v := 32) (q := 14) C dX2_isAnswerTo_12 (by decide) rfl ?_
  refine g_iadd (q := 15) C dX2_isAnswerTo_14 rfl ?_
  refine g_icmp_eq (t := 20) (q := 18) C dX2_isAnswerTo_15 (by decide) rfl (fun c_15 => ?_) (fun c_15 => ?_)
  ·
    refine g_aload_n (q := 21) C dX2_isAnswerTo_20 rfl rfl ?_
    obtain ⟨x3_6, x4_6, x5_6, x6_6, x7_6, x11_6, x12_6, x13_6, x14_6, x15_6, x16_6, x17_6, jv_6, o6, e6_0, e6_1, e6_2, e6_3⟩ := tyG2 H5 hk
    refine g_getfield (v := .ref ((o + 21))) (q := 24) C fX2_55 dX2_isAnswerTo_21 rfl o6 rfl ?_
    refine g_iconst (v := 2) (q := 25) C dX2_isAnswerTo_24 (by decide) rfl ?_
    obtain ⟨l7, g7, -⟩ := tyRow H5 (tyF2_9 hk)
    refine g_callVip (q := 28) (As := [.int 2]) C gyX4_at gvX4_at t_722 (tX4_at H5 (tyF2_9 hk)) dX2_isAnswerTo_25 rfl g7.obj rfl rfl rfl (Nat.le_of_ble_eq_true rfl) (Nat.le_of_ble_eq_true rfl) (Nat.le_of_ble_eq_true rfl) (Nat.le_of_ble_eq_true rfl) (Nat.le_of_ble_eq_true rfl) rfl (fun x8 h8 q8 => ?_)
    subst q8
    refine g_if_eq (t := 46) (q := 31) C dX2_isAnswerTo_28 (by decide) rfl (fun c_28 => ?_) (fun c_28 => ?_)
    ·
      exact J_46 _  H5
    ·
      refine g_aload_n (q := 32) C dX2_isAnswerTo_31 rfl rfl ?_
      refine g_getfield (v := .ref ((o + 21))) (q := 35) C fX2_55 dX2_isAnswerTo_32 rfl o6 rfl ?_
      refine g_iconst (v := 3) (q := 36) C dX2_isAnswerTo_35 (by decide) rfl ?_
      refine g_callVip (q := 39) (As := [.int 3]) C gyX4_at gvX4_at t_722 (tX4_at H5 (tyF2_9 hk)) dX2_isAnswerTo_36 rfl g7.obj rfl rfl rfl (Nat.le_of_ble_eq_true rfl) (Nat.le_of_ble_eq_true rfl) (Nat.le_of_ble_eq_true rfl) (Nat.le_of_ble_eq_true rfl) (Nat.le_of_ble_eq_true rfl) rfl (fun x9 h9 q9 => ?_)
      subst q9
      refine g_aload_n (q := 40) C dX2_isAnswerTo_39 rfl rfl ?_
      obtain ⟨x0_10, x1_10, x2_10, x3_10, x4_10, x5_10, x6_10, x7_10, x11_10, x12_10, x13_10, x14_10, o10, e10_0⟩ := tyG5 H5 hk0
      refine g_getfield (v := .int x6_10) (q := 43) C fX2_194 dX2_isAnswerTo_40 rfl o10 rfl ?_
      refine g_icmp_ne (t := 50) (q := 46) C dX2_isAnswerTo_43 (by decide) rfl (fun c_43 => ?_) (fun c_43 => ?_)
      ·
        refine g_iconst (v := 0) (q := 51) C dX2_isAnswerTo_50 (by decide) rfl ?_
        exact E.1 _ _ _ _ _ _ _ dX2_isAnswerTo_51 rfl (tyNar (Or.inl rfl)) (Nat.le_of_ble_eq_true rfl) (Nat.le_of_ble_eq_true rfl) ⟨_, rfl, (Or.inl rfl), H5⟩
      ·
        exact J_46 _  H5
  ·
    refine g_iconst (v := 0) (q := 19) C dX2_isAnswerTo_18 (by decide) rfl ?_
    exact E.1 _ _ _ _ _ _ _ dX2_isAnswerTo_19 rfl (tyNar (Or.inl rfl)) (Nat.le_of_ble_eq_true rfl) (Nat.le_of_ble_eq_true rfl) ⟨_, rfl, (Or.inl rfl), H5⟩
theorem dX2_refuse_0 : decode cX2_refuse 0 = .ok (.aload_n 0, 1) := by decide +kernel
theorem dX2_refuse_1 : decode cX2_refuse 1 = .ok (.iconst 1, 1) := by decide +kernel
theorem dX2_refuse_2 : decode cX2_refuse 2 = .ok (.putfield 68, 3) := by decide +kernel
theorem dX2_refuse_5 : decode cX2_refuse 5 = .ok (.aload_n 1, 1) := by decide +kernel
theorem dX2_refuse_6 : decode cX2_refuse 6 = .ok (.iconst 2, 1) := by decide +kernel
theorem dX2_refuse_7 : decode cX2_refuse 7 = .ok (.invokevirtual 191, 3) := by decide +kernel
theorem dX2_refuse_10 : decode cX2_refuse 10 = .ok (.ireturn, 1) := by decide +kernel
set_option maxRecDepth 100000 in
set_option maxHeartbeats 4000000 in
theorem tX2_refuse {T : tyT} {R : Nat} {J : Nat → Prop} {Bc Bs : Nat} {M : gMd} {z : Nat → Nat} {hp : List gA} {o : Nat} {a0 : Nat}  (H : tyS T R J Bc Bs M z hp) (hk : tyK o = (7, 0)) (hk0 : tyK a0 = (5, 0))  : gM yX2_refuse cX2_refuse 2 ((some .int)) 1 21 [.ref o, .ref a0] (hp) (0) (0) (fun v h => ∃ x, v = some (.int x) ∧ tyS T R J Bc Bs M z h) := by
  refine gM_of (ls0 := [some (.ref o), some (.ref a0)]) (by decide +kernel) (Nat.le_of_ble_eq_true rfl) rfl fun X C E => ?_
  refine g_aload_n (q := 1) C dX2_refuse_0 rfl rfl ?_
  refine g_iconst (v := 1) (q := 2) C dX2_refuse_1 (by decide) rfl ?_
  obtain ⟨x3_1, x4_1, x5_1, x6_1, x7_1, x11_1, x12_1, x13_1, x14_1, x15_1, x16_1, x17_1, jv_1, o1, e1_0, e1_1, e1_2, e1_3⟩ := tyG2 H hk
  refine g_putfield (q := 5) C fX2_68 dX2_refuse_2 rfl o1 (Nat.le_of_ble_eq_true rfl) (Or.inl rfl) (tyNar (Or.inr rfl)) (tyFit (Or.inr rfl)) (by intro z h; cases h) ?_
  refine tyP2 H hk rfl e1_0 (Or.inr rfl) e1_2 e1_3 (fun h2 _ _ H2 => ?_)
  refine g_aload_n (q := 6) C dX2_refuse_5 rfl rfl ?_
  refine g_iconst (v := 2) (q := 7) C dX2_refuse_6 (by decide) rfl ?_
  obtain ⟨x0_3, x1_3, x2_3, x3_3, x4_3, x5_3, x6_3, x7_3, x11_3, x12_3, x13_3, x14_3, o3, e3_0⟩ := tyG5 H2 hk0
  refine g_callVip (q := 10) (As := [.int 2]) C gyX5_receipt gvX5_receipt t_718 (tX5_receipt H2 hk0) dX2_refuse_7 rfl o3 rfl rfl rfl (Nat.le_of_ble_eq_true rfl) (Nat.le_of_ble_eq_true rfl) (Nat.le_of_ble_eq_true rfl) (Nat.le_of_ble_eq_true rfl) (Nat.le_of_ble_eq_true rfl) rfl (fun x4 h4 q4 => ?_)
  have H4 := q4
  exact E.1 _ _ _ _ _ _ _ dX2_refuse_10 rfl rfl (Nat.le_of_ble_eq_true rfl) (Nat.le_of_ble_eq_true rfl) ⟨_, rfl, H4⟩
theorem dX2_onBroken_0 : decode cX2_onBroken 0 = .ok (.aload_n 0, 1) := by decide +kernel
theorem dX2_onBroken_1 : decode cX2_onBroken 1 = .ok (.iconst 1, 1) := by decide +kernel
theorem dX2_onBroken_2 : decode cX2_onBroken 2 = .ok (.putfield 68, 3) := by decide +kernel
theorem dX2_onBroken_5 : decode cX2_onBroken 5 = .ok (.aload_n 1, 1) := by decide +kernel
theorem dX2_onBroken_6 : decode cX2_onBroken 6 = .ok (.getfield 149, 3) := by decide +kernel
theorem dX2_onBroken_9 : decode cX2_onBroken 9 = .ok (.iconst (-1), 1) := by decide +kernel
theorem dX2_onBroken_10 : decode cX2_onBroken 10 = .ok (.if_icmp .eq 8, 3) := by decide +kernel
theorem dX2_onBroken_13 : decode cX2_onBroken 13 = .ok (.aload_n 1, 1) := by decide +kernel
theorem dX2_onBroken_14 : decode cX2_onBroken 14 = .ok (.invokevirtual 188, 3) := by decide +kernel
theorem dX2_onBroken_17 : decode cX2_onBroken 17 = .ok (.ireturn, 1) := by decide +kernel
theorem dX2_onBroken_18 : decode cX2_onBroken 18 = .ok (.aload_n 1, 1) := by decide +kernel
theorem dX2_onBroken_19 : decode cX2_onBroken 19 = .ok (.aload_n 0, 1) := by decide +kernel
theorem dX2_onBroken_20 : decode cX2_onBroken 20 = .ok (.getfield 58, 3) := by decide +kernel
theorem dX2_onBroken_23 : decode cX2_onBroken 23 = .ok (.iconst 1, 1) := by decide +kernel
theorem dX2_onBroken_24 : decode cX2_onBroken 24 = .ok (.if_icmp .ne 7, 3) := by decide +kernel
theorem dX2_onBroken_27 : decode cX2_onBroken 27 = .ok (.iconst 1, 1) := by decide +kernel
theorem dX2_onBroken_28 : decode cX2_onBroken 28 = .ok (.goto 4, 3) := by decide +kernel
theorem dX2_onBroken_31 : decode cX2_onBroken 31 = .ok (.iconst 2, 1) := by decide +kernel
theorem dX2_onBroken_32 : decode cX2_onBroken 32 = .ok (.invokevirtual 191, 3) := by decide +kernel
theorem dX2_onBroken_35 : decode cX2_onBroken 35 = .ok (.ireturn, 1) := by decide +kernel
set_option maxRecDepth 100000 in
set_option maxHeartbeats 4000000 in
theorem tX2_onBroken {T : tyT} {R : Nat} {J : Nat → Prop} {Bc Bs : Nat} {M : gMd} {z : Nat → Nat} {hp : List gA} {o : Nat} {a0 : Nat}  (H : tyS T R J Bc Bs M z hp) (hk : tyK o = (7, 0)) (hk0 : tyK a0 = (5, 0))  : gM yX2_onBroken cX2_onBroken 2 ((some .int)) 1 21 [.ref o, .ref a0] (hp) (0) (0) (fun v h => ∃ x, v = some (.int x) ∧ tyS T R J Bc Bs M z h) := by
  refine gM_of (ls0 := [some (.ref o), some (.ref a0)]) (by decide +kernel) (Nat.le_of_ble_eq_true rfl) rfl fun X C E => ?_
  have J_32 : ∀ (s32_0 : Int32) (hJ32 : List gA), tyS T R J Bc Bs M z hJ32 → gG X 32 [some (.ref o), some (.ref a0)] [.int s32_0, .ref a0] hJ32 0 0 := by
    intro s32_0 hJ32 HJ32
    obtain ⟨x0_1, x1_1, x2_1, x3_1, x4_1, x5_1, x6_1, x7_1, x11_1, x12_1, x13_1, x14_1, o1, e1_0⟩ := tyG5 HJ32 hk0
    refine g_callVip (q := 35) (As := [.int s32_0]) C gyX5_receipt gvX5_receipt t_718 (tX5_receipt HJ32 hk0) dX2_onBroken_32 rfl o1 rfl rfl rfl (Nat.le_of_ble_eq_true rfl) (Nat.le_of_ble_eq_true rfl) (Nat.le_of_ble_eq_true rfl) (Nat.le_of_ble_eq_true rfl) (Nat.le_of_ble_eq_true rfl) rfl (fun x2 h2 q2 => ?_)
    have H2 := q2
    exact E.1 _ _ _ _ _ _ _ dX2_onBroken_35 rfl rfl (Nat.le_of_ble_eq_true rfl) (Nat.le_of_ble_eq_true rfl) ⟨_, rfl, H2⟩
  refine g_aload_n (q := 1) C dX2_onBroken_0 rfl rfl ?_
  refine g_iconst (v := 1) (q := 2) C dX2_onBroken_1 (by decide) rfl ?_
  obtain ⟨x3_3, x4_3, x5_3, x6_3, x7_3, x11_3, x12_3, x13_3, x14_3, x15_3, x16_3, x17_3, jv_3, o3, e3_0, e3_1, e3_2, e3_3⟩ := tyG2 H hk
  refine g_putfield (q := 5) C fX2_68 dX2_onBroken_2 rfl o3 (Nat.le_of_ble_eq_true rfl) (Or.inl rfl) (tyNar (Or.inr rfl)) (tyFit (Or.inr rfl)) (by intro z h; cases h) ?_
  refine tyP2 H hk rfl e3_0 (Or.inr rfl) e3_2 e3_3 (fun h4 _ _ H4 => ?_)
  refine g_aload_n (q := 6) C dX2_onBroken_5 rfl rfl ?_
  obtain ⟨x0_5, x1_5, x2_5, x3_5, x4_5, x5_5, x6_5, x7_5, x11_5, x12_5, x13_5, x14_5, o5, e5_0⟩ := tyG5 H4 hk0
  refine g_getfield (v := .int x5_5) (q := 9) C fX2_149 dX2_onBroken_6 rfl o5 rfl ?_
  refine g_iconst (v := (-1)) (q := 10) C dX2_onBroken_9 (by decide) rfl ?_
  refine g_icmp_eq (t := 18) (q := 13) C dX2_onBroken_10 (by decide) rfl (fun c_10 => ?_) (fun c_10 => ?_)
  ·
    refine g_aload_n (q := 19) C dX2_onBroken_18 rfl rfl ?_
    refine g_aload_n (q := 20) C dX2_onBroken_19 rfl rfl ?_
    obtain ⟨x3_6, x4_6, x5_6, x6_6, x7_6, x11_6, x12_6, x13_6, x14_6, x15_6, x16_6, x17_6, jv_6, o6, e6_0, e6_1, e6_2, e6_3⟩ := tyG2 H4 hk
    refine g_getfield (v := .int x11_6) (q := 23) C fX2_58 dX2_onBroken_20 rfl o6 rfl ?_
    refine g_iconst (v := 1) (q := 24) C dX2_onBroken_23 (by decide) rfl ?_
    refine g_icmp_ne (t := 31) (q := 27) C dX2_onBroken_24 (by decide) rfl (fun c_24 => ?_) (fun c_24 => ?_)
    ·
      refine g_iconst (v := 2) (q := 32) C dX2_onBroken_31 (by decide) rfl ?_
      exact J_32 _ _  H4
    ·
      refine g_iconst (v := 1) (q := 28) C dX2_onBroken_27 (by decide) rfl ?_
      refine g_goto (q := 32) C dX2_onBroken_28 (by decide) ?_
      exact J_32 _ _  H4
  ·
    refine g_aload_n (q := 14) C dX2_onBroken_13 rfl rfl ?_
    refine g_callVip (q := 17) (As := []) C gyX5_requestKind gvX5_requestKind t_717 (tX5_requestKind H4 hk0) dX2_onBroken_14 rfl o5 rfl rfl rfl (Nat.le_of_ble_eq_true rfl) (Nat.le_of_ble_eq_true rfl) (Nat.le_of_ble_eq_true rfl) (Nat.le_of_ble_eq_true rfl) (Nat.le_of_ble_eq_true rfl) rfl (fun x7 h7 q7 => ?_)
    have H7 := q7
    exact E.1 _ _ _ _ _ _ _ dX2_onBroken_17 rfl rfl (Nat.le_of_ble_eq_true rfl) (Nat.le_of_ble_eq_true rfl) ⟨_, rfl, H7⟩
theorem dX2_onRequest_0 : decode cX2_onRequest 0 = .ok (.iload_n 3, 1) := by decide +kernel
theorem dX2_onRequest_1 : decode cX2_onRequest 1 = .ok (.sipush 192, 3) := by decide +kernel
theorem dX2_onRequest_4 : decode cX2_onRequest 4 = .ok (.isub, 1) := by decide +kernel
theorem dX2_onRequest_5 : decode cX2_onRequest 5 = .ok (.istore 4, 2) := by decide +kernel
theorem dX2_onRequest_7 : decode cX2_onRequest 7 = .ok (.iload 4, 2) := by decide +kernel
theorem dX2_onRequest_9 : decode cX2_onRequest 9 = .ok (.iconst 1, 1) := by decide +kernel
theorem dX2_onRequest_10 : decode cX2_onRequest 10 = .ok (.if_icmp .ne 20, 3) := by decide +kernel
theorem dX2_onRequest_13 : decode cX2_onRequest 13 = .ok (.aload_n 2, 1) := by decide +kernel
theorem dX2_onRequest_14 : decode cX2_onRequest 14 = .ok (.aload_n 0, 1) := by decide +kernel
theorem dX2_onRequest_15 : decode cX2_onRequest 15 = .ok (.getfield 55, 3) := by decide +kernel
theorem dX2_onRequest_18 : decode cX2_onRequest 18 = .ok (.iconst 3, 1) := by decide +kernel
theorem dX2_onRequest_19 : decode cX2_onRequest 19 = .ok (.invokevirtual 156, 3) := by decide +kernel
theorem dX2_onRequest_22 : decode cX2_onRequest 22 = .ok (.putfield 115, 3) := by decide +kernel
theorem dX2_onRequest_25 : decode cX2_onRequest 25 = .ok (.iload_n 3, 1) := by decide +kernel
theorem dX2_onRequest_26 : decode cX2_onRequest 26 = .ok (.bipush 32, 2) := by decide +kernel
theorem dX2_onRequest_28 : decode cX2_onRequest 28 = .ok (.iadd, 1) := by decide +kernel
theorem dX2_onRequest_29 : decode cX2_onRequest 29 = .ok (.ireturn, 1) := by decide +kernel
theorem dX2_onRequest_30 : decode cX2_onRequest 30 = .ok (.aload_n 1, 1) := by decide +kernel
theorem dX2_onRequest_31 : decode cX2_onRequest 31 = .ok (.aload_n 0, 1) := by decide +kernel
theorem dX2_onRequest_32 : decode cX2_onRequest 32 = .ok (.getfield 14, 3) := by decide +kernel
theorem dX2_onRequest_35 : decode cX2_onRequest 35 = .ok (.if_acmp .ne 26, 3) := by decide +kernel
theorem dX2_onRequest_38 : decode cX2_onRequest 38 = .ok (.iload 4, 2) := by decide +kernel
theorem dX2_onRequest_40 : decode cX2_onRequest 40 = .ok (.iconst 2, 1) := by decide +kernel
theorem dX2_onRequest_41 : decode cX2_onRequest 41 = .ok (.if_icmp .ne 20, 3) := by decide +kernel
theorem dX2_onRequest_44 : decode cX2_onRequest 44 = .ok (.aload_n 0, 1) := by decide +kernel
theorem dX2_onRequest_45 : decode cX2_onRequest 45 = .ok (.getfield 14, 3) := by decide +kernel
theorem dX2_onRequest_48 : decode cX2_onRequest 48 = .ok (.invokevirtual 232, 3) := by decide +kernel
theorem dX2_onRequest_51 : decode cX2_onRequest 51 = .ok (.aload_n 0, 1) := by decide +kernel
theorem dX2_onRequest_52 : decode cX2_onRequest 52 = .ok (.iconst 1, 1) := by decide +kernel
theorem dX2_onRequest_53 : decode cX2_onRequest 53 = .ok (.putfield 71, 3) := by decide +kernel
theorem dX2_onRequest_56 : decode cX2_onRequest 56 = .ok (.iload_n 3, 1) := by decide +kernel
theorem dX2_onRequest_57 : decode cX2_onRequest 57 = .ok (.bipush 32, 2) := by decide +kernel
theorem dX2_onRequest_59 : decode cX2_onRequest 59 = .ok (.iadd, 1) := by decide +kernel
theorem dX2_onRequest_60 : decode cX2_onRequest 60 = .ok (.ireturn, 1) := by decide +kernel
theorem dX2_onRequest_61 : decode cX2_onRequest 61 = .ok (.aload_n 1, 1) := by decide +kernel
theorem dX2_onRequest_62 : decode cX2_onRequest 62 = .ok (.aload_n 0, 1) := by decide +kernel
theorem dX2_onRequest_63 : decode cX2_onRequest 63 = .ok (.getfield 14, 3) := by decide +kernel
theorem dX2_onRequest_66 : decode cX2_onRequest 66 = .ok (.if_acmp .ne 14, 3) := by decide +kernel
theorem dX2_onRequest_69 : decode cX2_onRequest 69 = .ok (.iload 4, 2) := by decide +kernel
theorem dX2_onRequest_71 : decode cX2_onRequest 71 = .ok (.iconst 3, 1) := by decide +kernel
theorem dX2_onRequest_72 : decode cX2_onRequest 72 = .ok (.if_icmp .ne 8, 3) := by decide +kernel
theorem dX2_onRequest_75 : decode cX2_onRequest 75 = .ok (.iload_n 3, 1) := by decide +kernel
theorem dX2_onRequest_76 : decode cX2_onRequest 76 = .ok (.bipush 32, 2) := by decide +kernel
theorem dX2_onRequest_78 : decode cX2_onRequest 78 = .ok (.iadd, 1) := by decide +kernel
theorem dX2_onRequest_79 : decode cX2_onRequest 79 = .ok (.ireturn, 1) := by decide +kernel
theorem dX2_onRequest_80 : decode cX2_onRequest 80 = .ok (.aload_n 0, 1) := by decide +kernel
theorem dX2_onRequest_81 : decode cX2_onRequest 81 = .ok (.aload_n 1, 1) := by decide +kernel
theorem dX2_onRequest_82 : decode cX2_onRequest 82 = .ok (.invokevirtual 211, 3) := by decide +kernel
theorem dX2_onRequest_85 : decode cX2_onRequest 85 = .ok (.ireturn, 1) := by decide +kernel
set_option maxRecDepth 100000 in
set_option maxHeartbeats 4000000 in
theorem tX2_onRequest {T : tyT} {R : Nat} {J : Nat → Prop} {Bc Bs : Nat} {M : gMd} {z : Nat → Nat} {hp : List gA} {o : Nat} {a0 : Nat} {a1 : Nat} {a2 : Int32}  (H : tyS T R J Bc Bs M z hp) (hk : tyK o = (7, 0)) (hk0 : tyK a0 = (5, 0)) (hk1 : tyK a1 = (5, 0))  : gM yX2_onRequest cX2_onRequest 5 ((some .int)) 3 62 [.ref o, .ref a0, .ref a1, .int a2] (hp) (0) (0) (fun v h => ∃ x, v = some (.int x) ∧ tyS T R J Bc Bs M z h) := by
  refine gM_of (ls0 := [some (.ref o), some (.ref a0), some (.ref a1), some (.int a2), none]) (by decide +kernel) (Nat.le_of_ble_eq_true rfl) rfl fun X C E => ?_
  have J_80 : ∀ (y80_3 y80_4 : Int32) (hJ80 : List gA), tyS T R J Bc Bs M z hJ80 → gG X 80 [some (.ref o), some (.ref a0), some (.ref a1), some (.int y80_3), some (.int y80_4)] [] hJ80 0 0 := by
    intro y80_3 y80_4 hJ80 HJ80
    refine g_aload_n (q := 81) C dX2_onRequest_80 rfl rfl ?_
    refine g_aload_n (q := 82) C dX2_onRequest_81 rfl rfl ?_
    obtain ⟨x3_1, x4_1, x5_1, x6_1, x7_1, x11_1, x12_1, x13_1, x14_1, x15_1, x16_1, x17_1, jv_1, o1, e1_0, e1_1, e1_2, e1_3⟩ := tyG2 HJ80 hk
    refine g_callVip (q := 85) (As := [.ref a0]) C gyX2_refuse gvX2_refuse t_748 (tX2_refuse HJ80 hk hk0) dX2_onRequest_82 rfl o1 rfl rfl rfl (Nat.le_of_ble_eq_true rfl) (Nat.le_of_ble_eq_true rfl) (Nat.le_of_ble_eq_true rfl) (Nat.le_of_ble_eq_true rfl) (Nat.le_of_ble_eq_true rfl) rfl (fun x2 h2 q2 => ?_)
    have H2 := q2
    exact E.1 _ _ _ _ _ _ _ dX2_onRequest_85 rfl rfl (Nat.le_of_ble_eq_true rfl) (Nat.le_of_ble_eq_true rfl) ⟨_, rfl, H2⟩
  have J_61 : ∀ (y61_3 y61_4 : Int32) (hJ61 : List gA), tyS T R J Bc Bs M z hJ61 → gG X 61 [some (.ref o), some (.ref a0), some (.ref a1), some (.int y61_3), some (.int y61_4)] [] hJ61 0 0 := by
    intro y61_3 y61_4 hJ61 HJ61
    refine g_aload_n (q := 62) C dX2_onRequest_61 rfl rfl ?_
    refine g_aload_n (q := 63) C dX2_onRequest_62 rfl rfl ?_
    obtain ⟨x3_3, x4_3, x5_3, x6_3, x7_3, x11_3, x12_3, x13_3, x14_3, x15_3, x16_3, x17_3, jv_3, o3, e3_0, e3_1, e3_2, e3_3⟩ := tyG2 HJ61 hk
    refine g_getfield (v := .ref ((o + 1))) (q := 66) C fX2_14 dX2_onRequest_63 rfl o3 rfl ?_
    refine g_acmp_ne (t := 80) (q := 69) C dX2_onRequest_66 (by decide) rfl (fun c_66 => ?_) (fun c_66 => ?_)
    ·
      exact J_80 _ _ _  HJ61
    ·
      refine g_iload (q := 71) C dX2_onRequest_69 rfl rfl ?_
      refine g_iconst (v := 3) (q := 72) C dX2_onRequest_71 (by decide) rfl ?_
      refine g_icmp_ne (t := 80) (q := 75) C dX2_onRequest_72 (by decide) rfl (fun c_72 => ?_) (fun c_72 => ?_)
      ·
        exact J_80 _ _ _  HJ61
      ·
        refine g_iload_n (q := 76) C dX2_onRequest_75 rfl rfl ?_
        refine g_bipush (v := 32) (q := 78) C dX2_onRequest_76 (by decide) rfl ?_
        refine g_iadd (q := 79) C dX2_onRequest_78 rfl ?_
        exact E.1 _ _ _ _ _ _ _ dX2_onRequest_79 rfl rfl (Nat.le_of_ble_eq_true rfl) (Nat.le_of_ble_eq_true rfl) ⟨_, rfl, HJ61⟩
  refine g_iload_n (q := 1) C dX2_onRequest_0 rfl rfl ?_
  refine g_sipush (v := 192) (q := 4) C dX2_onRequest_1 (by decide) rfl ?_
  refine g_isub (q := 5) C dX2_onRequest_4 rfl ?_
  refine g_istore (q := 7) C dX2_onRequest_5 (Nat.le_of_ble_eq_true rfl) (by simp only [gset]; rfl) rfl ?_
  refine g_iload (q := 9) C dX2_onRequest_7 rfl rfl ?_
  refine g_iconst (v := 1) (q := 10) C dX2_onRequest_9 (by decide) rfl ?_
  refine g_icmp_ne (t := 30) (q := 13) C dX2_onRequest_10 (by decide) rfl (fun c_10 => ?_) (fun c_10 => ?_)
  ·
    refine g_aload_n (q := 31) C dX2_onRequest_30 rfl rfl ?_
    refine g_aload_n (q := 32) C dX2_onRequest_31 rfl rfl ?_
    obtain ⟨x3_4, x4_4, x5_4, x6_4, x7_4, x11_4, x12_4, x13_4, x14_4, x15_4, x16_4, x17_4, jv_4, o4, e4_0, e4_1, e4_2, e4_3⟩ := tyG2 H hk
    refine g_getfield (v := .ref ((o + 1))) (q := 35) C fX2_14 dX2_onRequest_32 rfl o4 rfl ?_
    refine g_acmp_ne (t := 61) (q := 38) C dX2_onRequest_35 (by decide) rfl (fun c_35 => ?_) (fun c_35 => ?_)
    ·
      exact J_61 _ _ _  H
    ·
      refine g_iload (q := 40) C dX2_onRequest_38 rfl rfl ?_
      refine g_iconst (v := 2) (q := 41) C dX2_onRequest_40 (by decide) rfl ?_
      refine g_icmp_ne (t := 61) (q := 44) C dX2_onRequest_41 (by decide) rfl (fun c_41 => ?_) (fun c_41 => ?_)
      ·
        exact J_61 _ _ _  H
      ·
        refine g_aload_n (q := 45) C dX2_onRequest_44 rfl rfl ?_
        refine g_getfield (v := .ref ((o + 1))) (q := 48) C fX2_14 dX2_onRequest_45 rfl o4 rfl ?_
        obtain ⟨x0_5, x1_5, x2_5, x3_5, x4_5, x5_5, x6_5, x7_5, x11_5, x12_5, x13_5, x14_5, o5, e5_0⟩ := tyG5 H (tyF2_0 hk)
        refine g_callVvp (q := 51) (As := []) C gyX5_breakOff gvX5_breakOff t_740 (tX5_breakOff H (tyF2_0 hk)) dX2_onRequest_48 rfl o5 rfl rfl rfl (Nat.le_of_ble_eq_true rfl) (Nat.le_of_ble_eq_true rfl) (Nat.le_of_ble_eq_true rfl) (Nat.le_of_ble_eq_true rfl) (Nat.le_of_ble_eq_true rfl) rfl (fun h6 q6 => ?_)
        have H6 := q6
        refine g_aload_n (q := 52) C dX2_onRequest_51 rfl rfl ?_
        refine g_iconst (v := 1) (q := 53) C dX2_onRequest_52 (by decide) rfl ?_
        obtain ⟨x3_7, x4_7, x5_7, x6_7, x7_7, x11_7, x12_7, x13_7, x14_7, x15_7, x16_7, x17_7, jv_7, o7, e7_0, e7_1, e7_2, e7_3⟩ := tyG2 H6 hk
        refine g_putfield (q := 56) C fX2_71 dX2_onRequest_53 rfl o7 (Nat.le_of_ble_eq_true rfl) (Or.inl rfl) (tyNar (Or.inr rfl)) (tyFit (Or.inr rfl)) (by intro z h; cases h) ?_
        refine tyP2 H6 hk rfl e7_0 e7_1 (Or.inr rfl) e7_3 (fun h8 _ _ H8 => ?_)
        refine g_iload_n (q := 57) C dX2_onRequest_56 rfl rfl ?_
        refine g_bipush (v := 32) (q := 59) C dX2_onRequest_57 (by decide) rfl ?_
        refine g_iadd (q := 60) C dX2_onRequest_59 rfl ?_
        exact E.1 _ _ _ _ _ _ _ dX2_onRequest_60 rfl rfl (Nat.le_of_ble_eq_true rfl) (Nat.le_of_ble_eq_true rfl) ⟨_, rfl, H8⟩
  ·
    refine g_aload_n (q := 14) C dX2_onRequest_13 rfl rfl ?_
    refine g_aload_n (q := 15) C dX2_onRequest_14 rfl rfl ?_
    obtain ⟨x3_9, x4_9, x5_9, x6_9, x7_9, x11_9, x12_9, x13_9, x14_9, x15_9, x16_9, x17_9, jv_9, o9, e9_0, e9_1, e9_2, e9_3⟩ := tyG2 H hk
    refine g_getfield (v := .ref ((o + 21))) (q := 18) C fX2_55 dX2_onRequest_15 rfl o9 rfl ?_
    refine g_iconst (v := 3) (q := 19) C dX2_onRequest_18 (by decide) rfl ?_
    obtain ⟨l10, g10, -⟩ := tyRow H (tyF2_9 hk)
    refine g_callVip (q := 22) (As := [.int 3]) C gyX4_at gvX4_at t_722 (tX4_at H (tyF2_9 hk)) dX2_onRequest_19 rfl g10.obj rfl rfl rfl (Nat.le_of_ble_eq_true rfl) (Nat.le_of_ble_eq_true rfl) (Nat.le_of_ble_eq_true rfl) (Nat.le_of_ble_eq_true rfl) (Nat.le_of_ble_eq_true rfl) rfl (fun x11 h11 q11 => ?_)
    subst q11
    obtain ⟨x0_12, x1_12, x2_12, x3_12, x4_12, x5_12, x6_12, x7_12, x11_12, x12_12, x13_12, x14_12, o12, e12_0⟩ := tyG5 H hk1
    refine g_putfield (q := 25) C fX2_115 dX2_onRequest_22 rfl o12 (Nat.le_of_ble_eq_true rfl) (Or.inl rfl) rfl rfl (by intro z h; cases h) ?_
    refine tyP5 H hk1 rfl e12_0 (fun h13 _ _ H13 => ?_)
    refine g_iload_n (q := 26) C dX2_onRequest_25 rfl rfl ?_
    refine g_bipush (v := 32) (q := 28) C dX2_onRequest_26 (by decide) rfl ?_
    refine g_iadd (q := 29) C dX2_onRequest_28 rfl ?_
    exact E.1 _ _ _ _ _ _ _ dX2_onRequest_29 rfl rfl (Nat.le_of_ble_eq_true rfl) (Nat.le_of_ble_eq_true rfl) ⟨_, rfl, H13⟩
theorem dX2_onReceipt_0 : decode cX2_onReceipt 0 = .ok (.aload_n 1, 1) := by decide +kernel
theorem dX2_onReceipt_1 : decode cX2_onReceipt 1 = .ok (.invokevirtual 223, 3) := by decide +kernel
theorem dX2_onReceipt_4 : decode cX2_onReceipt 4 = .ok (.ifCond .ne 9, 3) := by decide +kernel
theorem dX2_onReceipt_7 : decode cX2_onReceipt 7 = .ok (.aload_n 1, 1) := by decide +kernel
theorem dX2_onReceipt_8 : decode cX2_onReceipt 8 = .ok (.iconst 0, 1) := by decide +kernel
theorem dX2_onReceipt_9 : decode cX2_onReceipt 9 = .ok (.invokevirtual 191, 3) := by decide +kernel
theorem dX2_onReceipt_12 : decode cX2_onReceipt 12 = .ok (.ireturn, 1) := by decide +kernel
theorem dX2_onReceipt_13 : decode cX2_onReceipt 13 = .ok (.iload_n 2, 1) := by decide +kernel
theorem dX2_onReceipt_14 : decode cX2_onReceipt 14 = .ok (.iconst 4, 1) := by decide +kernel
theorem dX2_onReceipt_15 : decode cX2_onReceipt 15 = .ok (.ishr, 1) := by decide +kernel
theorem dX2_onReceipt_16 : decode cX2_onReceipt 16 = .ok (.iconst 1, 1) := by decide +kernel
theorem dX2_onReceipt_17 : decode cX2_onReceipt 17 = .ok (.iand, 1) := by decide +kernel
theorem dX2_onReceipt_18 : decode cX2_onReceipt 18 = .ok (.aload_n 1, 1) := by decide +kernel
theorem dX2_onReceipt_19 : decode cX2_onReceipt 19 = .ok (.getfield 226, 3) := by decide +kernel
theorem dX2_onReceipt_22 : decode cX2_onReceipt 22 = .ok (.if_icmp .ne 13, 3) := by decide +kernel
theorem dX2_onReceipt_25 : decode cX2_onReceipt 25 = .ok (.aload_n 0, 1) := by decide +kernel
theorem dX2_onReceipt_26 : decode cX2_onReceipt 26 = .ok (.iconst 1, 1) := by decide +kernel
theorem dX2_onReceipt_27 : decode cX2_onReceipt 27 = .ok (.putfield 68, 3) := by decide +kernel
theorem dX2_onReceipt_30 : decode cX2_onReceipt 30 = .ok (.aload_n 1, 1) := by decide +kernel
theorem dX2_onReceipt_31 : decode cX2_onReceipt 31 = .ok (.invokevirtual 229, 3) := by decide +kernel
theorem dX2_onReceipt_34 : decode cX2_onReceipt 34 = .ok (.ireturn, 1) := by decide +kernel
theorem dX2_onReceipt_35 : decode cX2_onReceipt 35 = .ok (.aload_n 1, 1) := by decide +kernel
theorem dX2_onReceipt_36 : decode cX2_onReceipt 36 = .ok (.invokevirtual 207, 3) := by decide +kernel
theorem dX2_onReceipt_39 : decode cX2_onReceipt 39 = .ok (.istore_n 3, 1) := by decide +kernel
theorem dX2_onReceipt_40 : decode cX2_onReceipt 40 = .ok (.aload_n 1, 1) := by decide +kernel
theorem dX2_onReceipt_41 : decode cX2_onReceipt 41 = .ok (.invokevirtual 214, 3) := by decide +kernel
theorem dX2_onReceipt_44 : decode cX2_onReceipt 44 = .ok (.iload_n 3, 1) := by decide +kernel
theorem dX2_onReceipt_45 : decode cX2_onReceipt 45 = .ok (.ifCond .eq 8, 3) := by decide +kernel
theorem dX2_onReceipt_48 : decode cX2_onReceipt 48 = .ok (.bipush (-3), 2) := by decide +kernel
theorem dX2_onReceipt_50 : decode cX2_onReceipt 50 = .ok (.goto 8, 3) := by decide +kernel
theorem dX2_onReceipt_53 : decode cX2_onReceipt 53 = .ok (.aload_n 1, 1) := by decide +kernel
theorem dX2_onReceipt_54 : decode cX2_onReceipt 54 = .ok (.iconst 0, 1) := by decide +kernel
theorem dX2_onReceipt_55 : decode cX2_onReceipt 55 = .ok (.invokevirtual 191, 3) := by decide +kernel
theorem dX2_onReceipt_58 : decode cX2_onReceipt 58 = .ok (.ireturn, 1) := by decide +kernel
set_option maxRecDepth 100000 in
set_option maxHeartbeats 4000000 in
theorem tX2_onReceipt {T : tyT} {R : Nat} {J : Nat → Prop} {Bc Bs : Nat} {M : gMd} {z : Nat → Nat} {hp : List gA} {o : Nat} {a0 : Nat} {a1 : Int32}  (H : tyS T R J Bc Bs M z hp) (hk : tyK o = (7, 0)) (hk0 : tyK a0 = (5, 0))  : gM yX2_onReceipt cX2_onReceipt 4 ((some .int)) 1 21 [.ref o, .ref a0, .int a1] (hp) (0) (0) (fun v h => ∃ x, v = some (.int x) ∧ tyS T R J Bc Bs M z h) := by
  refine gM_of (ls0 := [some (.ref o), some (.ref a0), some (.int a1), none]) (by decide +kernel) (Nat.le_of_ble_eq_true rfl) rfl fun X C E => ?_
  refine g_aload_n (q := 1) C dX2_onReceipt_0 rfl rfl ?_
  obtain ⟨x0_1, x1_1, x2_1, x3_1, x4_1, x5_1, x6_1, x7_1, x11_1, x12_1, x13_1, x14_1, o1, e1_0⟩ := tyG5 H hk0
  refine g_callVip (q := 4) (As := []) C gyX5_hasPending gvX5_hasPending t_781 (tX5_hasPending H hk0) dX2_onReceipt_1 rfl o1 rfl rfl rfl (Nat.le_of_ble_eq_true rfl) (Nat.le_of_ble_eq_true rfl) (Nat.le_of_ble_eq_true rfl) (Nat.le_of_ble_eq_true rfl) (Nat.le_of_ble_eq_true rfl) rfl (fun x2 h2 q2 => ?_)
  obtain ⟨b2, H2⟩ := q2
  refine g_if_ne (t := 13) (q := 7) C dX2_onReceipt_4 (by decide) rfl (fun c_4 => ?_) (fun c_4 => ?_)
  ·
    refine g_iload_n (q := 14) C dX2_onReceipt_13 rfl rfl ?_
    refine g_iconst (v := 4) (q := 15) C dX2_onReceipt_14 (by decide) rfl ?_
    refine g_ishr (q := 16) C dX2_onReceipt_15 rfl ?_
    refine g_iconst (v := 1) (q := 17) C dX2_onReceipt_16 (by decide) rfl ?_
    refine g_iand (q := 18) C dX2_onReceipt_17 rfl ?_
    refine g_aload_n (q := 19) C dX2_onReceipt_18 rfl rfl ?_
    obtain ⟨x0_3, x1_3, x2_3, x3_3, x4_3, x5_3, x6_3, x7_3, x11_3, x12_3, x13_3, x14_3, o3, e3_0⟩ := tyG5 H2 hk0
    refine g_getfield (v := .int x1_3) (q := 22) C fX2_226 dX2_onReceipt_19 rfl o3 rfl ?_
    refine g_icmp_ne (t := 35) (q := 25) C dX2_onReceipt_22 (by decide) rfl (fun c_22 => ?_) (fun c_22 => ?_)
    ·
      refine g_aload_n (q := 36) C dX2_onReceipt_35 rfl rfl ?_
      refine g_callVip (q := 39) (As := []) C gyX5_pendingHasMore gvX5_pendingHasMore t_756 (tX5_pendingHasMore H2 hk0) dX2_onReceipt_36 rfl o3 rfl rfl rfl (Nat.le_of_ble_eq_true rfl) (Nat.le_of_ble_eq_true rfl) (Nat.le_of_ble_eq_true rfl) (Nat.le_of_ble_eq_true rfl) (Nat.le_of_ble_eq_true rfl) rfl (fun x4 h4 q4 => ?_)
      obtain ⟨b4, H4⟩ := q4
      refine g_istore_n (q := 40) C dX2_onReceipt_39 (Nat.le_of_ble_eq_true rfl) (by simp only [gset]; rfl) rfl ?_
      refine g_aload_n (q := 41) C dX2_onReceipt_40 rfl rfl ?_
      obtain ⟨x0_5, x1_5, x2_5, x3_5, x4_5, x5_5, x6_5, x7_5, x11_5, x12_5, x13_5, x14_5, o5, e5_0⟩ := tyG5 H4 hk0
      refine g_callVvp (q := 44) (As := []) C gyX5_passPending gvX5_passPending t_760 (tX5_passPending H4 hk0) dX2_onReceipt_41 rfl o5 rfl rfl rfl (Nat.le_of_ble_eq_true rfl) (Nat.le_of_ble_eq_true rfl) (Nat.le_of_ble_eq_true rfl) (Nat.le_of_ble_eq_true rfl) (Nat.le_of_ble_eq_true rfl) rfl (fun h6 q6 => ?_)
      have H6 := q6
      refine g_iload_n (q := 45) C dX2_onReceipt_44 rfl rfl ?_
      refine g_if_eq (t := 53) (q := 48) C dX2_onReceipt_45 (by decide) rfl (fun c_45 => ?_) (fun c_45 => ?_)
      ·
        refine g_aload_n (q := 54) C dX2_onReceipt_53 rfl rfl ?_
        refine g_iconst (v := 0) (q := 55) C dX2_onReceipt_54 (by decide) rfl ?_
        obtain ⟨x0_7, x1_7, x2_7, x3_7, x4_7, x5_7, x6_7, x7_7, x11_7, x12_7, x13_7, x14_7, o7, e7_0⟩ := tyG5 H6 hk0
        refine g_callVip (q := 58) (As := [.int 0]) C gyX5_receipt gvX5_receipt t_718 (tX5_receipt H6 hk0) dX2_onReceipt_55 rfl o7 rfl rfl rfl (Nat.le_of_ble_eq_true rfl) (Nat.le_of_ble_eq_true rfl) (Nat.le_of_ble_eq_true rfl) (Nat.le_of_ble_eq_true rfl) (Nat.le_of_ble_eq_true rfl) rfl (fun x8 h8 q8 => ?_)
        have H8 := q8
        exact E.1 _ _ _ _ _ _ _ dX2_onReceipt_58 rfl rfl (Nat.le_of_ble_eq_true rfl) (Nat.le_of_ble_eq_true rfl) ⟨_, rfl, H8⟩
      ·
        refine g_bipush (v := (-3)) (q := 50) C dX2_onReceipt_48 (by decide) rfl ?_
        refine g_goto (q := 58) C dX2_onReceipt_50 (by decide) ?_
        exact E.1 _ _ _ _ _ _ _ dX2_onReceipt_58 rfl rfl (Nat.le_of_ble_eq_true rfl) (Nat.le_of_ble_eq_true rfl) ⟨_, rfl, H6⟩
    ·
      refine g_aload_n (q := 26) C dX2_onReceipt_25 rfl rfl ?_
      refine g_iconst (v := 1) (q := 27) C dX2_onReceipt_26 (by decide) rfl ?_
      obtain ⟨x3_9, x4_9, x5_9, x6_9, x7_9, x11_9, x12_9, x13_9, x14_9, x15_9, x16_9, x17_9, jv_9, o9, e9_0, e9_1, e9_2, e9_3⟩ := tyG2 H2 hk
      refine g_putfield (q := 30) C fX2_68 dX2_onReceipt_27 rfl o9 (Nat.le_of_ble_eq_true rfl) (Or.inl rfl) (tyNar (Or.inr rfl)) (tyFit (Or.inr rfl)) (by intro z h; cases h) ?_
      refine tyP2 H2 hk rfl e9_0 (Or.inr rfl) e9_2 e9_3 (fun h10 _ _ H10 => ?_)
      refine g_aload_n (q := 31) C dX2_onReceipt_30 rfl rfl ?_
      obtain ⟨x0_11, x1_11, x2_11, x3_11, x4_11, x5_11, x6_11, x7_11, x11_11, x12_11, x13_11, x14_11, o11, e11_0⟩ := tyG5 H10 hk0
      refine g_callVip (q := 34) (As := []) C gyX5_pendingKind gvX5_pendingKind t_785 (tX5_pendingKind H10 hk0) dX2_onReceipt_31 rfl o11 rfl rfl rfl (Nat.le_of_ble_eq_true rfl) (Nat.le_of_ble_eq_true rfl) (Nat.le_of_ble_eq_true rfl) (Nat.le_of_ble_eq_true rfl) (Nat.le_of_ble_eq_true rfl) rfl (fun x12 h12 q12 => ?_)
      have H12 := q12
      exact E.1 _ _ _ _ _ _ _ dX2_onReceipt_34 rfl rfl (Nat.le_of_ble_eq_true rfl) (Nat.le_of_ble_eq_true rfl) ⟨_, rfl, H12⟩
  ·
    refine g_aload_n (q := 8) C dX2_onReceipt_7 rfl rfl ?_
    refine g_iconst (v := 0) (q := 9) C dX2_onReceipt_8 (by decide) rfl ?_
    obtain ⟨x0_13, x1_13, x2_13, x3_13, x4_13, x5_13, x6_13, x7_13, x11_13, x12_13, x13_13, x14_13, o13, e13_0⟩ := tyG5 H2 hk0
    refine g_callVip (q := 12) (As := [.int 0]) C gyX5_receipt gvX5_receipt t_718 (tX5_receipt H2 hk0) dX2_onReceipt_9 rfl o13 rfl rfl rfl (Nat.le_of_ble_eq_true rfl) (Nat.le_of_ble_eq_true rfl) (Nat.le_of_ble_eq_true rfl) (Nat.le_of_ble_eq_true rfl) (Nat.le_of_ble_eq_true rfl) rfl (fun x14 h14 q14 => ?_)
    have H14 := q14
    exact E.1 _ _ _ _ _ _ _ dX2_onReceipt_12 rfl rfl (Nat.le_of_ble_eq_true rfl) (Nat.le_of_ble_eq_true rfl) ⟨_, rfl, H14⟩
theorem dX2_onI_0 : decode cX2_onI 0 = .ok (.iload_n 2, 1) := by decide +kernel
theorem dX2_onI_1 : decode cX2_onI 1 = .ok (.bipush 6, 2) := by decide +kernel
theorem dX2_onI_3 : decode cX2_onI 3 = .ok (.ishr, 1) := by decide +kernel
theorem dX2_onI_4 : decode cX2_onI 4 = .ok (.aload_n 1, 1) := by decide +kernel
theorem dX2_onI_5 : decode cX2_onI 5 = .ok (.getfield 204, 3) := by decide +kernel
theorem dX2_onI_8 : decode cX2_onI 8 = .ok (.if_icmp .ne 10, 3) := by decide +kernel
theorem dX2_onI_11 : decode cX2_onI 11 = .ok (.aload_n 1, 1) := by decide +kernel
theorem dX2_onI_12 : decode cX2_onI 12 = .ok (.invokevirtual 207, 3) := by decide +kernel
theorem dX2_onI_15 : decode cX2_onI 15 = .ok (.ifCond .eq 9, 3) := by decide +kernel
theorem dX2_onI_18 : decode cX2_onI 18 = .ok (.aload_n 0, 1) := by decide +kernel
theorem dX2_onI_19 : decode cX2_onI 19 = .ok (.aload_n 1, 1) := by decide +kernel
theorem dX2_onI_20 : decode cX2_onI 20 = .ok (.invokevirtual 211, 3) := by decide +kernel
theorem dX2_onI_23 : decode cX2_onI 23 = .ok (.ireturn, 1) := by decide +kernel
theorem dX2_onI_24 : decode cX2_onI 24 = .ok (.aload_n 1, 1) := by decide +kernel
theorem dX2_onI_25 : decode cX2_onI 25 = .ok (.invokevirtual 214, 3) := by decide +kernel
theorem dX2_onI_28 : decode cX2_onI 28 = .ok (.aload_n 1, 1) := by decide +kernel
theorem dX2_onI_29 : decode cX2_onI 29 = .ok (.aload_n 0, 1) := by decide +kernel
theorem dX2_onI_30 : decode cX2_onI 30 = .ok (.getfield 55, 3) := by decide +kernel
theorem dX2_onI_33 : decode cX2_onI 33 = .ok (.invokevirtual 217, 3) := by decide +kernel
theorem dX2_onI_36 : decode cX2_onI 36 = .ok (.iload_n 2, 1) := by decide +kernel
theorem dX2_onI_37 : decode cX2_onI 37 = .ok (.bipush 32, 2) := by decide +kernel
theorem dX2_onI_39 : decode cX2_onI 39 = .ok (.iand, 1) := by decide +kernel
theorem dX2_onI_40 : decode cX2_onI 40 = .ok (.ifCond .eq 9, 3) := by decide +kernel
theorem dX2_onI_43 : decode cX2_onI 43 = .ok (.aload_n 1, 1) := by decide +kernel
theorem dX2_onI_44 : decode cX2_onI 44 = .ok (.iconst 0, 1) := by decide +kernel
theorem dX2_onI_45 : decode cX2_onI 45 = .ok (.invokevirtual 191, 3) := by decide +kernel
theorem dX2_onI_48 : decode cX2_onI 48 = .ok (.ireturn, 1) := by decide +kernel
theorem dX2_onI_49 : decode cX2_onI 49 = .ok (.aload_n 1, 1) := by decide +kernel
theorem dX2_onI_50 : decode cX2_onI 50 = .ok (.invokevirtual 220, 3) := by decide +kernel
theorem dX2_onI_53 : decode cX2_onI 53 = .ok (.aload_n 1, 1) := by decide +kernel
theorem dX2_onI_54 : decode cX2_onI 54 = .ok (.aload_n 0, 1) := by decide +kernel
theorem dX2_onI_55 : decode cX2_onI 55 = .ok (.getfield 14, 3) := by decide +kernel
theorem dX2_onI_58 : decode cX2_onI 58 = .ok (.if_acmp .ne 11, 3) := by decide +kernel
theorem dX2_onI_61 : decode cX2_onI 61 = .ok (.aload_n 0, 1) := by decide +kernel
theorem dX2_onI_62 : decode cX2_onI 62 = .ok (.iconst 2, 1) := by decide +kernel
theorem dX2_onI_63 : decode cX2_onI 63 = .ok (.invokevirtual 173, 3) := by decide +kernel
theorem dX2_onI_66 : decode cX2_onI 66 = .ok (.goto 5, 3) := by decide +kernel
theorem dX2_onI_69 : decode cX2_onI 69 = .ok (.bipush (-4), 2) := by decide +kernel
theorem dX2_onI_71 : decode cX2_onI 71 = .ok (.ireturn, 1) := by decide +kernel
set_option maxRecDepth 100000 in
set_option maxHeartbeats 4000000 in
theorem tX2_onI {T : tyT} {R : Nat} {J : Nat → Prop} {Bc Bs : Nat} {M : gMd} {z : Nat → Nat} {hp : List gA} {o : Nat} {a0 : Nat} {a1 : Int32}  (H : tyS T R J Bc Bs M z hp) (hk : tyK o = (7, 0)) (hk0 : tyK a0 = (5, 0))  : gM yX2_onI cX2_onI 3 ((some .int)) 4 125 [.ref o, .ref a0, .int a1] (hp) (0) (0) (fun v h => ∃ x, v = some (.int x) ∧ tyS T R J Bc Bs M z h) := by
  refine gM_of (ls0 := [some (.ref o), some (.ref a0), some (.int a1)]) (by decide +kernel) (Nat.le_of_ble_eq_true rfl) rfl fun X C E => ?_
  have J_18 : ∀ (y18_2 : Int32) (hJ18 : List gA), tyS T R J Bc Bs M z hJ18 → gG X 18 [some (.ref o), some (.ref a0), some (.int y18_2)] [] hJ18 0 0 := by
    intro y18_2 hJ18 HJ18
    refine g_aload_n (q := 19) C dX2_onI_18 rfl rfl ?_
    refine g_aload_n (q := 20) C dX2_onI_19 rfl rfl ?_
    obtain ⟨x3_1, x4_1, x5_1, x6_1, x7_1, x11_1, x12_1, x13_1, x14_1, x15_1, x16_1, x17_1, jv_1, o1, e1_0, e1_1, e1_2, e1_3⟩ := tyG2 HJ18 hk
    refine g_callVip (q := 23) (As := [.ref a0]) C gyX2_refuse gvX2_refuse t_748 (tX2_refuse HJ18 hk hk0) dX2_onI_20 rfl o1 rfl rfl rfl (Nat.le_of_ble_eq_true rfl) (Nat.le_of_ble_eq_true rfl) (Nat.le_of_ble_eq_true rfl) (Nat.le_of_ble_eq_true rfl) (Nat.le_of_ble_eq_true rfl) rfl (fun x2 h2 q2 => ?_)
    have H2 := q2
    exact E.1 _ _ _ _ _ _ _ dX2_onI_23 rfl rfl (Nat.le_of_ble_eq_true rfl) (Nat.le_of_ble_eq_true rfl) ⟨_, rfl, H2⟩
  refine g_iload_n (q := 1) C dX2_onI_0 rfl rfl ?_
  refine g_bipush (v := 6) (q := 3) C dX2_onI_1 (by decide) rfl ?_
  refine g_ishr (q := 4) C dX2_onI_3 rfl ?_
  refine g_aload_n (q := 5) C dX2_onI_4 rfl rfl ?_
  obtain ⟨x0_3, x1_3, x2_3, x3_3, x4_3, x5_3, x6_3, x7_3, x11_3, x12_3, x13_3, x14_3, o3, e3_0⟩ := tyG5 H hk0
  refine g_getfield (v := .int x2_3) (q := 8) C fX2_204 dX2_onI_5 rfl o3 rfl ?_
  refine g_icmp_ne (t := 18) (q := 11) C dX2_onI_8 (by decide) rfl (fun c_8 => ?_) (fun c_8 => ?_)
  ·
    exact J_18 _ _  H
  ·
    refine g_aload_n (q := 12) C dX2_onI_11 rfl rfl ?_
    refine g_callVip (q := 15) (As := []) C gyX5_pendingHasMore gvX5_pendingHasMore t_756 (tX5_pendingHasMore H hk0) dX2_onI_12 rfl o3 rfl rfl rfl (Nat.le_of_ble_eq_true rfl) (Nat.le_of_ble_eq_true rfl) (Nat.le_of_ble_eq_true rfl) (Nat.le_of_ble_eq_true rfl) (Nat.le_of_ble_eq_true rfl) rfl (fun x4 h4 q4 => ?_)
    obtain ⟨b4, H4⟩ := q4
    refine g_if_eq (t := 24) (q := 18) C dX2_onI_15 (by decide) rfl (fun c_15 => ?_) (fun c_15 => ?_)
    ·
      refine g_aload_n (q := 25) C dX2_onI_24 rfl rfl ?_
      obtain ⟨x0_5, x1_5, x2_5, x3_5, x4_5, x5_5, x6_5, x7_5, x11_5, x12_5, x13_5, x14_5, o5, e5_0⟩ := tyG5 H4 hk0
      refine g_callVvp (q := 28) (As := []) C gyX5_passPending gvX5_passPending t_760 (tX5_passPending H4 hk0) dX2_onI_25 rfl o5 rfl rfl rfl (Nat.le_of_ble_eq_true rfl) (Nat.le_of_ble_eq_true rfl) (Nat.le_of_ble_eq_true rfl) (Nat.le_of_ble_eq_true rfl) (Nat.le_of_ble_eq_true rfl) rfl (fun h6 q6 => ?_)
      have H6 := q6
      refine g_aload_n (q := 29) C dX2_onI_28 rfl rfl ?_
      refine g_aload_n (q := 30) C dX2_onI_29 rfl rfl ?_
      obtain ⟨x3_7, x4_7, x5_7, x6_7, x7_7, x11_7, x12_7, x13_7, x14_7, x15_7, x16_7, x17_7, jv_7, o7, e7_0, e7_1, e7_2, e7_3⟩ := tyG2 H6 hk
      refine g_getfield (v := .ref ((o + 21))) (q := 33) C fX2_55 dX2_onI_30 rfl o7 rfl ?_
      obtain ⟨x0_8, x1_8, x2_8, x3_8, x4_8, x5_8, x6_8, x7_8, x11_8, x12_8, x13_8, x14_8, o8, e8_0⟩ := tyG5 H6 hk0
      refine g_callVvp (q := 36) (As := [.ref ((o + 21))]) C gyX5_takeInf gvX5_takeInf t_761 (tX5_takeInf H6 hk0 (tyF2_9 hk) (by decide)) dX2_onI_33 rfl o8 rfl rfl rfl (Nat.le_of_ble_eq_true rfl) (Nat.le_of_ble_eq_true rfl) (Nat.le_of_ble_eq_true rfl) (Nat.le_of_ble_eq_true rfl) (Nat.le_of_ble_eq_true rfl) rfl (fun h9 q9 => ?_)
      have H9 := q9
      refine g_iload_n (q := 37) C dX2_onI_36 rfl rfl ?_
      refine g_bipush (v := 32) (q := 39) C dX2_onI_37 (by decide) rfl ?_
      refine g_iand (q := 40) C dX2_onI_39 rfl ?_
      refine g_if_eq (t := 49) (q := 43) C dX2_onI_40 (by decide) rfl (fun c_40 => ?_) (fun c_40 => ?_)
      ·
        refine g_aload_n (q := 50) C dX2_onI_49 rfl rfl ?_
        obtain ⟨x0_10, x1_10, x2_10, x3_10, x4_10, x5_10, x6_10, x7_10, x11_10, x12_10, x13_10, x14_10, o10, e10_0⟩ := tyG5 H9 hk0
        refine g_callVvp (q := 53) (As := []) C gyX5_takeWhole gvX5_takeWhole t_768 (tX5_takeWhole H9 hk0) dX2_onI_50 rfl o10 rfl rfl rfl (Nat.le_of_ble_eq_true rfl) (Nat.le_of_ble_eq_true rfl) (Nat.le_of_ble_eq_true rfl) (Nat.le_of_ble_eq_true rfl) (Nat.le_of_ble_eq_true rfl) rfl (fun h11 q11 => ?_)
        have H11 := q11
        refine g_aload_n (q := 54) C dX2_onI_53 rfl rfl ?_
        refine g_aload_n (q := 55) C dX2_onI_54 rfl rfl ?_
        obtain ⟨x3_12, x4_12, x5_12, x6_12, x7_12, x11_12, x12_12, x13_12, x14_12, x15_12, x16_12, x17_12, jv_12, o12, e12_0, e12_1, e12_2, e12_3⟩ := tyG2 H11 hk
        refine g_getfield (v := .ref ((o + 1))) (q := 58) C fX2_14 dX2_onI_55 rfl o12 rfl ?_
        refine g_acmp_ne (t := 69) (q := 61) C dX2_onI_58 (by decide) rfl (fun c_58 => ?_) (fun c_58 => ?_)
        ·
          refine g_bipush (v := (-4)) (q := 71) C dX2_onI_69 (by decide) rfl ?_
          exact E.1 _ _ _ _ _ _ _ dX2_onI_71 rfl rfl (Nat.le_of_ble_eq_true rfl) (Nat.le_of_ble_eq_true rfl) ⟨_, rfl, H11⟩
        ·
          refine g_aload_n (q := 62) C dX2_onI_61 rfl rfl ?_
          refine g_iconst (v := 2) (q := 63) C dX2_onI_62 (by decide) rfl ?_
          refine g_callVip (q := 66) (As := [.int 2]) C gyX2_finish gvX2_finish t_732 (tX2_finish H11 hk) dX2_onI_63 rfl o12 rfl rfl rfl (Nat.le_of_ble_eq_true rfl) (Nat.le_of_ble_eq_true rfl) (Nat.le_of_ble_eq_true rfl) (Nat.le_of_ble_eq_true rfl) (Nat.le_of_ble_eq_true rfl) rfl (fun x13 h13 q13 => ?_)
          have H13 := q13
          refine g_goto (q := 71) C dX2_onI_66 (by decide) ?_
          exact E.1 _ _ _ _ _ _ _ dX2_onI_71 rfl rfl (Nat.le_of_ble_eq_true rfl) (Nat.le_of_ble_eq_true rfl) ⟨_, rfl, H13⟩
      ·
        refine g_aload_n (q := 44) C dX2_onI_43 rfl rfl ?_
        refine g_iconst (v := 0) (q := 45) C dX2_onI_44 (by decide) rfl ?_
        obtain ⟨x0_14, x1_14, x2_14, x3_14, x4_14, x5_14, x6_14, x7_14, x11_14, x12_14, x13_14, x14_14, o14, e14_0⟩ := tyG5 H9 hk0
        refine g_callVip (q := 48) (As := [.int 0]) C gyX5_receipt gvX5_receipt t_718 (tX5_receipt H9 hk0) dX2_onI_45 rfl o14 rfl rfl rfl (Nat.le_of_ble_eq_true rfl) (Nat.le_of_ble_eq_true rfl) (Nat.le_of_ble_eq_true rfl) (Nat.le_of_ble_eq_true rfl) (Nat.le_of_ble_eq_true rfl) rfl (fun x15 h15 q15 => ?_)
        have H15 := q15
        exact E.1 _ _ _ _ _ _ _ dX2_onI_48 rfl rfl (Nat.le_of_ble_eq_true rfl) (Nat.le_of_ble_eq_true rfl) ⟨_, rfl, H15⟩
    ·
      exact J_18 _ _  H4
theorem dX2_cardOnAnswer_0 : decode cX2_cardOnAnswer 0 = .ok (.aload_n 0, 1) := by decide +kernel
theorem dX2_cardOnAnswer_1 : decode cX2_cardOnAnswer 1 = .ok (.aload_n 0, 1) := by decide +kernel
theorem dX2_cardOnAnswer_2 : decode cX2_cardOnAnswer 2 = .ok (.getfield 20, 3) := by decide +kernel
theorem dX2_cardOnAnswer_5 : decode cX2_cardOnAnswer 5 = .ok (.invokevirtual 197, 3) := by decide +kernel
theorem dX2_cardOnAnswer_8 : decode cX2_cardOnAnswer 8 = .ok (.ifCond .ne 11, 3) := by decide +kernel
theorem dX2_cardOnAnswer_11 : decode cX2_cardOnAnswer 11 = .ok (.aload_n 0, 1) := by decide +kernel
theorem dX2_cardOnAnswer_12 : decode cX2_cardOnAnswer 12 = .ok (.getfield 20, 3) := by decide +kernel
theorem dX2_cardOnAnswer_15 : decode cX2_cardOnAnswer 15 = .ok (.invokevirtual 188, 3) := by decide +kernel
theorem dX2_cardOnAnswer_18 : decode cX2_cardOnAnswer 18 = .ok (.ireturn, 1) := by decide +kernel
theorem dX2_cardOnAnswer_19 : decode cX2_cardOnAnswer 19 = .ok (.aload_n 0, 1) := by decide +kernel
theorem dX2_cardOnAnswer_20 : decode cX2_cardOnAnswer 20 = .ok (.getfield 20, 3) := by decide +kernel
theorem dX2_cardOnAnswer_23 : decode cX2_cardOnAnswer 23 = .ok (.getfield 149, 3) := by decide +kernel
theorem dX2_cardOnAnswer_26 : decode cX2_cardOnAnswer 26 = .ok (.istore_n 1, 1) := by decide +kernel
theorem dX2_cardOnAnswer_27 : decode cX2_cardOnAnswer 27 = .ok (.aload_n 0, 1) := by decide +kernel
theorem dX2_cardOnAnswer_28 : decode cX2_cardOnAnswer 28 = .ok (.getfield 20, 3) := by decide +kernel
theorem dX2_cardOnAnswer_31 : decode cX2_cardOnAnswer 31 = .ok (.iconst (-1), 1) := by decide +kernel
theorem dX2_cardOnAnswer_32 : decode cX2_cardOnAnswer 32 = .ok (.putfield 149, 3) := by decide +kernel
theorem dX2_cardOnAnswer_35 : decode cX2_cardOnAnswer 35 = .ok (.iload_n 1, 1) := by decide +kernel
theorem dX2_cardOnAnswer_36 : decode cX2_cardOnAnswer 36 = .ok (.iconst 2, 1) := by decide +kernel
theorem dX2_cardOnAnswer_37 : decode cX2_cardOnAnswer 37 = .ok (.if_icmp .ne 12, 3) := by decide +kernel
theorem dX2_cardOnAnswer_40 : decode cX2_cardOnAnswer 40 = .ok (.aload_n 0, 1) := by decide +kernel
theorem dX2_cardOnAnswer_41 : decode cX2_cardOnAnswer 41 = .ok (.getfield 20, 3) := by decide +kernel
theorem dX2_cardOnAnswer_44 : decode cX2_cardOnAnswer 44 = .ok (.iconst 0, 1) := by decide +kernel
theorem dX2_cardOnAnswer_45 : decode cX2_cardOnAnswer 45 = .ok (.invokevirtual 191, 3) := by decide +kernel
theorem dX2_cardOnAnswer_48 : decode cX2_cardOnAnswer 48 = .ok (.ireturn, 1) := by decide +kernel
theorem dX2_cardOnAnswer_49 : decode cX2_cardOnAnswer 49 = .ok (.iload_n 1, 1) := by decide +kernel
theorem dX2_cardOnAnswer_50 : decode cX2_cardOnAnswer 50 = .ok (.iconst 1, 1) := by decide +kernel
theorem dX2_cardOnAnswer_51 : decode cX2_cardOnAnswer 51 = .ok (.if_icmp .ne 8, 3) := by decide +kernel
theorem dX2_cardOnAnswer_54 : decode cX2_cardOnAnswer 54 = .ok (.aload_n 0, 1) := by decide +kernel
theorem dX2_cardOnAnswer_55 : decode cX2_cardOnAnswer 55 = .ok (.invokevirtual 179, 3) := by decide +kernel
theorem dX2_cardOnAnswer_58 : decode cX2_cardOnAnswer 58 = .ok (.ireturn, 1) := by decide +kernel
theorem dX2_cardOnAnswer_59 : decode cX2_cardOnAnswer 59 = .ok (.aload_n 0, 1) := by decide +kernel
theorem dX2_cardOnAnswer_60 : decode cX2_cardOnAnswer 60 = .ok (.dup, 1) := by decide +kernel
theorem dX2_cardOnAnswer_61 : decode cX2_cardOnAnswer 61 = .ok (.getfield 37, 3) := by decide +kernel
theorem dX2_cardOnAnswer_64 : decode cX2_cardOnAnswer 64 = .ok (.iconst 1, 1) := by decide +kernel
theorem dX2_cardOnAnswer_65 : decode cX2_cardOnAnswer 65 = .ok (.iadd, 1) := by decide +kernel
theorem dX2_cardOnAnswer_66 : decode cX2_cardOnAnswer 66 = .ok (.putfield 37, 3) := by decide +kernel
theorem dX2_cardOnAnswer_69 : decode cX2_cardOnAnswer 69 = .ok (.aload_n 0, 1) := by decide +kernel
theorem dX2_cardOnAnswer_70 : decode cX2_cardOnAnswer 70 = .ok (.dup, 1) := by decide +kernel
theorem dX2_cardOnAnswer_71 : decode cX2_cardOnAnswer 71 = .ok (.getfield 74, 3) := by decide +kernel
theorem dX2_cardOnAnswer_74 : decode cX2_cardOnAnswer 74 = .ok (.iconst 1, 1) := by decide +kernel
theorem dX2_cardOnAnswer_75 : decode cX2_cardOnAnswer 75 = .ok (.isub, 1) := by decide +kernel
theorem dX2_cardOnAnswer_76 : decode cX2_cardOnAnswer 76 = .ok (.putfield 74, 3) := by decide +kernel
theorem dX2_cardOnAnswer_79 : decode cX2_cardOnAnswer 79 = .ok (.aload_n 0, 1) := by decide +kernel
theorem dX2_cardOnAnswer_80 : decode cX2_cardOnAnswer 80 = .ok (.getfield 74, 3) := by decide +kernel
theorem dX2_cardOnAnswer_83 : decode cX2_cardOnAnswer 83 = .ok (.ifCond .le 21, 3) := by decide +kernel
theorem dX2_cardOnAnswer_86 : decode cX2_cardOnAnswer 86 = .ok (.aload_n 0, 1) := by decide +kernel
theorem dX2_cardOnAnswer_87 : decode cX2_cardOnAnswer 87 = .ok (.getfield 20, 3) := by decide +kernel
theorem dX2_cardOnAnswer_90 : decode cX2_cardOnAnswer 90 = .ok (.iconst 3, 1) := by decide +kernel
theorem dX2_cardOnAnswer_91 : decode cX2_cardOnAnswer 91 = .ok (.aload_n 0, 1) := by decide +kernel
theorem dX2_cardOnAnswer_92 : decode cX2_cardOnAnswer 92 = .ok (.getfield 20, 3) := by decide +kernel
theorem dX2_cardOnAnswer_95 : decode cX2_cardOnAnswer 95 = .ok (.getfield 194, 3) := by decide +kernel
theorem dX2_cardOnAnswer_98 : decode cX2_cardOnAnswer 98 = .ok (.invokevirtual 145, 3) := by decide +kernel
theorem dX2_cardOnAnswer_101 : decode cX2_cardOnAnswer 101 = .ok (.goto 7, 3) := by decide +kernel
theorem dX2_cardOnAnswer_104 : decode cX2_cardOnAnswer 104 = .ok (.aload_n 0, 1) := by decide +kernel
theorem dX2_cardOnAnswer_105 : decode cX2_cardOnAnswer 105 = .ok (.invokevirtual 201, 3) := by decide +kernel
theorem dX2_cardOnAnswer_108 : decode cX2_cardOnAnswer 108 = .ok (.ireturn, 1) := by decide +kernel
set_option maxRecDepth 100000 in
set_option maxHeartbeats 4000000 in
theorem tX2_cardOnAnswer {T : tyT} {R : Nat} {J : Nat → Prop} {Bc Bs : Nat} {M : gMd} {z : Nat → Nat} {hp : List gA} {o : Nat}  (H : tyS T R J Bc Bs M z hp) (hk : tyK o = (7, 0))  : gM yX2_cardOnAnswer cX2_cardOnAnswer 2 ((some .int)) 4 124 [.ref o] (hp) (0) (0) (fun v h => ∃ x, v = some (.int x) ∧ tyS T R J Bc Bs M z h) := by
  refine gM_of (ls0 := [some (.ref o), none]) (by decide +kernel) (Nat.le_of_ble_eq_true rfl) rfl fun X C E => ?_
  refine g_aload_n (q := 1) C dX2_cardOnAnswer_0 rfl rfl ?_
  refine g_aload_n (q := 2) C dX2_cardOnAnswer_1 rfl rfl ?_
  obtain ⟨x3_1, x4_1, x5_1, x6_1, x7_1, x11_1, x12_1, x13_1, x14_1, x15_1, x16_1, x17_1, jv_1, o1, e1_0, e1_1, e1_2, e1_3⟩ := tyG2 H hk
  refine g_getfield (v := .ref ((o + 8))) (q := 5) C fX2_20 dX2_cardOnAnswer_2 rfl o1 rfl ?_
  refine g_callVip (q := 8) (As := [.ref ((o + 8))]) C gyX2_isAnswerTo gvX2_isAnswerTo t_727 (tX2_isAnswerTo H hk (tyF2_1 hk)) dX2_cardOnAnswer_5 rfl o1 rfl rfl rfl (Nat.le_of_ble_eq_true rfl) (Nat.le_of_ble_eq_true rfl) (Nat.le_of_ble_eq_true rfl) (Nat.le_of_ble_eq_true rfl) (Nat.le_of_ble_eq_true rfl) rfl (fun x2 h2 q2 => ?_)
  obtain ⟨b2, H2⟩ := q2
  refine g_if_ne (t := 19) (q := 11) C dX2_cardOnAnswer_8 (by decide) rfl (fun c_8 => ?_) (fun c_8 => ?_)
  ·
    refine g_aload_n (q := 20) C dX2_cardOnAnswer_19 rfl rfl ?_
    obtain ⟨x3_3, x4_3, x5_3, x6_3, x7_3, x11_3, x12_3, x13_3, x14_3, x15_3, x16_3, x17_3, jv_3, o3, e3_0, e3_1, e3_2, e3_3⟩ := tyG2 H2 hk
    refine g_getfield (v := .ref ((o + 8))) (q := 23) C fX2_20 dX2_cardOnAnswer_20 rfl o3 rfl ?_
    obtain ⟨x0_4, x1_4, x2_4, x3_4, x4_4, x5_4, x6_4, x7_4, x11_4, x12_4, x13_4, x14_4, o4, e4_0⟩ := tyG5 H2 (tyF2_1 hk)
    refine g_getfield (v := .int x5_4) (q := 26) C fX2_149 dX2_cardOnAnswer_23 rfl o4 rfl ?_
    refine g_istore_n (q := 27) C dX2_cardOnAnswer_26 (Nat.le_of_ble_eq_true rfl) (by simp only [gset]; rfl) rfl ?_
    refine g_aload_n (q := 28) C dX2_cardOnAnswer_27 rfl rfl ?_
    refine g_getfield (v := .ref ((o + 8))) (q := 31) C fX2_20 dX2_cardOnAnswer_28 rfl o3 rfl ?_
    refine g_iconst (v := (-1)) (q := 32) C dX2_cardOnAnswer_31 (by decide) rfl ?_
    refine g_putfield (q := 35) C fX2_149 dX2_cardOnAnswer_32 rfl o4 (Nat.le_of_ble_eq_true rfl) (Or.inl rfl) rfl rfl (by intro z h; cases h) ?_
    refine tyP5 H2 (tyF2_1 hk) rfl e4_0 (fun h5 _ _ H5 => ?_)
    refine g_iload_n (q := 36) C dX2_cardOnAnswer_35 rfl rfl ?_
    refine g_iconst (v := 2) (q := 37) C dX2_cardOnAnswer_36 (by decide) rfl ?_
    refine g_icmp_ne (t := 49) (q := 40) C dX2_cardOnAnswer_37 (by decide) rfl (fun c_37 => ?_) (fun c_37 => ?_)
    ·
      refine g_iload_n (q := 50) C dX2_cardOnAnswer_49 rfl rfl ?_
      refine g_iconst (v := 1) (q := 51) C dX2_cardOnAnswer_50 (by decide) rfl ?_
      refine g_icmp_ne (t := 59) (q := 54) C dX2_cardOnAnswer_51 (by decide) rfl (fun c_51 => ?_) (fun c_51 => ?_)
      ·
        refine g_aload_n (q := 60) C dX2_cardOnAnswer_59 rfl rfl ?_
        refine g_dup (q := 61) C dX2_cardOnAnswer_60 rfl rfl ?_
        obtain ⟨x3_6, x4_6, x5_6, x6_6, x7_6, x11_6, x12_6, x13_6, x14_6, x15_6, x16_6, x17_6, jv_6, o6, e6_0, e6_1, e6_2, e6_3⟩ := tyG2 H5 hk
        refine g_getfield (v := .int x5_6) (q := 64) C fX2_37 dX2_cardOnAnswer_61 rfl o6 rfl ?_
        refine g_iconst (v := 1) (q := 65) C dX2_cardOnAnswer_64 (by decide) rfl ?_
        refine g_iadd (q := 66) C dX2_cardOnAnswer_65 rfl ?_
        refine g_putfield (q := 69) C fX2_37 dX2_cardOnAnswer_66 rfl o6 (Nat.le_of_ble_eq_true rfl) (Or.inl rfl) rfl rfl (by intro z h; cases h) ?_
        refine tyP2 H5 hk rfl e6_0 e6_1 e6_2 e6_3 (fun h7 _ _ H7 => ?_)
        refine g_aload_n (q := 70) C dX2_cardOnAnswer_69 rfl rfl ?_
        refine g_dup (q := 71) C dX2_cardOnAnswer_70 rfl rfl ?_
        obtain ⟨x3_8, x4_8, x5_8, x6_8, x7_8, x11_8, x12_8, x13_8, x14_8, x15_8, x16_8, x17_8, jv_8, o8, e8_0, e8_1, e8_2, e8_3⟩ := tyG2 H7 hk
        refine g_getfield (v := .int x16_8) (q := 74) C fX2_74 dX2_cardOnAnswer_71 rfl o8 rfl ?_
        refine g_iconst (v := 1) (q := 75) C dX2_cardOnAnswer_74 (by decide) rfl ?_
        refine g_isub (q := 76) C dX2_cardOnAnswer_75 rfl ?_
        refine g_putfield (q := 79) C fX2_74 dX2_cardOnAnswer_76 rfl o8 (Nat.le_of_ble_eq_true rfl) (Or.inl rfl) rfl rfl (by intro z h; cases h) ?_
        refine tyP2 H7 hk rfl e8_0 e8_1 e8_2 e8_3 (fun h9 _ _ H9 => ?_)
        refine g_aload_n (q := 80) C dX2_cardOnAnswer_79 rfl rfl ?_
        obtain ⟨x3_10, x4_10, x5_10, x6_10, x7_10, x11_10, x12_10, x13_10, x14_10, x15_10, x16_10, x17_10, jv_10, o10, e10_0, e10_1, e10_2, e10_3⟩ := tyG2 H9 hk
        refine g_getfield (v := .int x16_10) (q := 83) C fX2_74 dX2_cardOnAnswer_80 rfl o10 rfl ?_
        refine g_if_le (t := 104) (q := 86) C dX2_cardOnAnswer_83 (by decide) rfl (fun c_83 => ?_) (fun c_83 => ?_)
        ·
          have i_83 := Int32.le_iff_toInt_le.mp c_83
          refine g_aload_n (q := 105) C dX2_cardOnAnswer_104 rfl rfl ?_
          refine g_callVip (q := 108) (As := []) C gyX2_putBehindThird gvX2_putBehindThird t_890 (tX2_putBehindThird H9 hk) dX2_cardOnAnswer_105 rfl o10 rfl rfl rfl (Nat.le_of_ble_eq_true rfl) (Nat.le_of_ble_eq_true rfl) (Nat.le_of_ble_eq_true rfl) (Nat.le_of_ble_eq_true rfl) (Nat.le_of_ble_eq_true rfl) rfl (fun x11 h11 q11 => ?_)
          have H11 := q11
          exact E.1 _ _ _ _ _ _ _ dX2_cardOnAnswer_108 rfl rfl (Nat.le_of_ble_eq_true rfl) (Nat.le_of_ble_eq_true rfl) ⟨_, rfl, H11⟩
        ·
          have i_83 := mt Int32.le_iff_toInt_le.mpr c_83
          refine g_aload_n (q := 87) C dX2_cardOnAnswer_86 rfl rfl ?_
          refine g_getfield (v := .ref ((o + 8))) (q := 90) C fX2_20 dX2_cardOnAnswer_87 rfl o10 rfl ?_
          refine g_iconst (v := 3) (q := 91) C dX2_cardOnAnswer_90 (by decide) rfl ?_
          refine g_aload_n (q := 92) C dX2_cardOnAnswer_91 rfl rfl ?_
          refine g_getfield (v := .ref ((o + 8))) (q := 95) C fX2_20 dX2_cardOnAnswer_92 rfl o10 rfl ?_
          obtain ⟨x0_12, x1_12, x2_12, x3_12, x4_12, x5_12, x6_12, x7_12, x11_12, x12_12, x13_12, x14_12, o12, e12_0⟩ := tyG5 H9 (tyF2_1 hk)
          refine g_getfield (v := .int x6_12) (q := 98) C fX2_194 dX2_cardOnAnswer_95 rfl o12 rfl ?_
          refine g_callVip (q := 101) (As := [.int 3, .int x6_12]) C gyX5_ask gvX5_ask t_701 (tX5_ask H9 (tyF2_1 hk)) dX2_cardOnAnswer_98 rfl o12 rfl rfl rfl (Nat.le_of_ble_eq_true rfl) (Nat.le_of_ble_eq_true rfl) (Nat.le_of_ble_eq_true rfl) (Nat.le_of_ble_eq_true rfl) (Nat.le_of_ble_eq_true rfl) rfl (fun x13 h13 q13 => ?_)
          have H13 := q13
          refine g_goto (q := 108) C dX2_cardOnAnswer_101 (by decide) ?_
          exact E.1 _ _ _ _ _ _ _ dX2_cardOnAnswer_108 rfl rfl (Nat.le_of_ble_eq_true rfl) (Nat.le_of_ble_eq_true rfl) ⟨_, rfl, H13⟩
      ·
        refine g_aload_n (q := 55) C dX2_cardOnAnswer_54 rfl rfl ?_
        obtain ⟨x3_14, x4_14, x5_14, x6_14, x7_14, x11_14, x12_14, x13_14, x14_14, x15_14, x16_14, x17_14, jv_14, o14, e14_0, e14_1, e14_2, e14_3⟩ := tyG2 H5 hk
        refine g_callVip (q := 58) (As := []) C gyX2_putFirstByte gvX2_putFirstByte t_882 (tX2_putFirstByte H5 hk) dX2_cardOnAnswer_55 rfl o14 rfl rfl rfl (Nat.le_of_ble_eq_true rfl) (Nat.le_of_ble_eq_true rfl) (Nat.le_of_ble_eq_true rfl) (Nat.le_of_ble_eq_true rfl) (Nat.le_of_ble_eq_true rfl) rfl (fun x15 h15 q15 => ?_)
        have H15 := q15
        exact E.1 _ _ _ _ _ _ _ dX2_cardOnAnswer_58 rfl rfl (Nat.le_of_ble_eq_true rfl) (Nat.le_of_ble_eq_true rfl) ⟨_, rfl, H15⟩
    ·
      refine g_aload_n (q := 41) C dX2_cardOnAnswer_40 rfl rfl ?_
      obtain ⟨x3_16, x4_16, x5_16, x6_16, x7_16, x11_16, x12_16, x13_16, x14_16, x15_16, x16_16, x17_16, jv_16, o16, e16_0, e16_1, e16_2, e16_3⟩ := tyG2 H5 hk
      refine g_getfield (v := .ref ((o + 8))) (q := 44) C fX2_20 dX2_cardOnAnswer_41 rfl o16 rfl ?_
      refine g_iconst (v := 0) (q := 45) C dX2_cardOnAnswer_44 (by decide) rfl ?_
      obtain ⟨x0_17, x1_17, x2_17, x3_17, x4_17, x5_17, x6_17, x7_17, x11_17, x12_17, x13_17, x14_17, o17, e17_0⟩ := tyG5 H5 (tyF2_1 hk)
      refine g_callVip (q := 48) (As := [.int 0]) C gyX5_receipt gvX5_receipt t_718 (tX5_receipt H5 (tyF2_1 hk)) dX2_cardOnAnswer_45 rfl o17 rfl rfl rfl (Nat.le_of_ble_eq_true rfl) (Nat.le_of_ble_eq_true rfl) (Nat.le_of_ble_eq_true rfl) (Nat.le_of_ble_eq_true rfl) (Nat.le_of_ble_eq_true rfl) rfl (fun x18 h18 q18 => ?_)
      have H18 := q18
      exact E.1 _ _ _ _ _ _ _ dX2_cardOnAnswer_48 rfl rfl (Nat.le_of_ble_eq_true rfl) (Nat.le_of_ble_eq_true rfl) ⟨_, rfl, H18⟩
  ·
    refine g_aload_n (q := 12) C dX2_cardOnAnswer_11 rfl rfl ?_
    obtain ⟨x3_19, x4_19, x5_19, x6_19, x7_19, x11_19, x12_19, x13_19, x14_19, x15_19, x16_19, x17_19, jv_19, o19, e19_0, e19_1, e19_2, e19_3⟩ := tyG2 H2 hk
    refine g_getfield (v := .ref ((o + 8))) (q := 15) C fX2_20 dX2_cardOnAnswer_12 rfl o19 rfl ?_
    obtain ⟨x0_20, x1_20, x2_20, x3_20, x4_20, x5_20, x6_20, x7_20, x11_20, x12_20, x13_20, x14_20, o20, e20_0⟩ := tyG5 H2 (tyF2_1 hk)
    refine g_callVip (q := 18) (As := []) C gyX5_requestKind gvX5_requestKind t_717 (tX5_requestKind H2 (tyF2_1 hk)) dX2_cardOnAnswer_15 rfl o20 rfl rfl rfl (Nat.le_of_ble_eq_true rfl) (Nat.le_of_ble_eq_true rfl) (Nat.le_of_ble_eq_true rfl) (Nat.le_of_ble_eq_true rfl) (Nat.le_of_ble_eq_true rfl) rfl (fun x21 h21 q21 => ?_)
    have H21 := q21
    exact E.1 _ _ _ _ _ _ _ dX2_cardOnAnswer_18 rfl rfl (Nat.le_of_ble_eq_true rfl) (Nat.le_of_ble_eq_true rfl) ⟨_, rfl, H21⟩
theorem dX2_cardKind_0 : decode cX2_cardKind 0 = .ok (.aload_n 0, 1) := by decide +kernel
theorem dX2_cardKind_1 : decode cX2_cardKind 1 = .ok (.getfield 77, 3) := by decide +kernel
theorem dX2_cardKind_4 : decode cX2_cardKind 4 = .ok (.ifCond .le 29, 3) := by decide +kernel
theorem dX2_cardKind_7 : decode cX2_cardKind 7 = .ok (.aload_n 0, 1) := by decide +kernel
theorem dX2_cardKind_8 : decode cX2_cardKind 8 = .ok (.dup, 1) := by decide +kernel
theorem dX2_cardKind_9 : decode cX2_cardKind 9 = .ok (.getfield 77, 3) := by decide +kernel
theorem dX2_cardKind_12 : decode cX2_cardKind 12 = .ok (.iconst 1, 1) := by decide +kernel
theorem dX2_cardKind_13 : decode cX2_cardKind 13 = .ok (.isub, 1) := by decide +kernel
theorem dX2_cardKind_14 : decode cX2_cardKind 14 = .ok (.putfield 77, 3) := by decide +kernel
theorem dX2_cardKind_17 : decode cX2_cardKind 17 = .ok (.aload_n 0, 1) := by decide +kernel
theorem dX2_cardKind_18 : decode cX2_cardKind 18 = .ok (.getfield 77, 3) := by decide +kernel
theorem dX2_cardKind_21 : decode cX2_cardKind 21 = .ok (.ifCond .le 7, 3) := by decide +kernel
theorem dX2_cardKind_24 : decode cX2_cardKind 24 = .ok (.iconst (-1), 1) := by decide +kernel
theorem dX2_cardKind_25 : decode cX2_cardKind 25 = .ok (.goto 7, 3) := by decide +kernel
theorem dX2_cardKind_28 : decode cX2_cardKind 28 = .ok (.aload_n 0, 1) := by decide +kernel
theorem dX2_cardKind_29 : decode cX2_cardKind 29 = .ok (.invokevirtual 179, 3) := by decide +kernel
theorem dX2_cardKind_32 : decode cX2_cardKind 32 = .ok (.ireturn, 1) := by decide +kernel
theorem dX2_cardKind_33 : decode cX2_cardKind 33 = .ok (.aload_n 0, 1) := by decide +kernel
theorem dX2_cardKind_34 : decode cX2_cardKind 34 = .ok (.getfield 58, 3) := by decide +kernel
theorem dX2_cardKind_37 : decode cX2_cardKind 37 = .ok (.iconst 3, 1) := by decide +kernel
theorem dX2_cardKind_38 : decode cX2_cardKind 38 = .ok (.if_icmp .ne 5, 3) := by decide +kernel
theorem dX2_cardKind_41 : decode cX2_cardKind 41 = .ok (.iconst (-1), 1) := by decide +kernel
theorem dX2_cardKind_42 : decode cX2_cardKind 42 = .ok (.ireturn, 1) := by decide +kernel
theorem dX2_cardKind_43 : decode cX2_cardKind 43 = .ok (.aload_n 0, 1) := by decide +kernel
theorem dX2_cardKind_44 : decode cX2_cardKind 44 = .ok (.getfield 58, 3) := by decide +kernel
theorem dX2_cardKind_47 : decode cX2_cardKind 47 = .ok (.ifCond .eq 12, 3) := by decide +kernel
theorem dX2_cardKind_50 : decode cX2_cardKind 50 = .ok (.aload_n 0, 1) := by decide +kernel
theorem dX2_cardKind_51 : decode cX2_cardKind 51 = .ok (.aload_n 0, 1) := by decide +kernel
theorem dX2_cardKind_52 : decode cX2_cardKind 52 = .ok (.getfield 20, 3) := by decide +kernel
theorem dX2_cardKind_55 : decode cX2_cardKind 55 = .ok (.invokevirtual 152, 3) := by decide +kernel
theorem dX2_cardKind_58 : decode cX2_cardKind 58 = .ok (.ireturn, 1) := by decide +kernel
theorem dX2_cardKind_59 : decode cX2_cardKind 59 = .ok (.aload_n 0, 1) := by decide +kernel
theorem dX2_cardKind_60 : decode cX2_cardKind 60 = .ok (.getfield 55, 3) := by decide +kernel
theorem dX2_cardKind_63 : decode cX2_cardKind 63 = .ok (.iconst 1, 1) := by decide +kernel
theorem dX2_cardKind_64 : decode cX2_cardKind 64 = .ok (.invokevirtual 156, 3) := by decide +kernel
theorem dX2_cardKind_67 : decode cX2_cardKind 67 = .ok (.istore_n 1, 1) := by decide +kernel
theorem dX2_cardKind_68 : decode cX2_cardKind 68 = .ok (.iload_n 1, 1) := by decide +kernel
theorem dX2_cardKind_69 : decode cX2_cardKind 69 = .ok (.sipush 192, 3) := by decide +kernel
theorem dX2_cardKind_72 : decode cX2_cardKind 72 = .ok (.if_icmp .ne 22, 3) := by decide +kernel
theorem dX2_cardKind_75 : decode cX2_cardKind 75 = .ok (.aload_n 0, 1) := by decide +kernel
theorem dX2_cardKind_76 : decode cX2_cardKind 76 = .ok (.getfield 20, 3) := by decide +kernel
theorem dX2_cardKind_79 : decode cX2_cardKind 79 = .ok (.invokevirtual 182, 3) := by decide +kernel
theorem dX2_cardKind_82 : decode cX2_cardKind 82 = .ok (.aload_n 0, 1) := by decide +kernel
theorem dX2_cardKind_83 : decode cX2_cardKind 83 = .ok (.getfield 20, 3) := by decide +kernel
theorem dX2_cardKind_86 : decode cX2_cardKind 86 = .ok (.iconst (-1), 1) := by decide +kernel
theorem dX2_cardKind_87 : decode cX2_cardKind 87 = .ok (.putfield 149, 3) := by decide +kernel
theorem dX2_cardKind_90 : decode cX2_cardKind 90 = .ok (.sipush 224, 3) := by decide +kernel
theorem dX2_cardKind_93 : decode cX2_cardKind 93 = .ok (.ireturn, 1) := by decide +kernel
theorem dX2_cardKind_94 : decode cX2_cardKind 94 = .ok (.aload_n 0, 1) := by decide +kernel
theorem dX2_cardKind_95 : decode cX2_cardKind 95 = .ok (.getfield 20, 3) := by decide +kernel
theorem dX2_cardKind_98 : decode cX2_cardKind 98 = .ok (.getfield 149, 3) := by decide +kernel
theorem dX2_cardKind_101 : decode cX2_cardKind 101 = .ok (.iconst (-1), 1) := by decide +kernel
theorem dX2_cardKind_102 : decode cX2_cardKind 102 = .ok (.if_icmp .eq 8, 3) := by decide +kernel
theorem dX2_cardKind_105 : decode cX2_cardKind 105 = .ok (.aload_n 0, 1) := by decide +kernel
theorem dX2_cardKind_106 : decode cX2_cardKind 106 = .ok (.invokevirtual 185, 3) := by decide +kernel
theorem dX2_cardKind_109 : decode cX2_cardKind 109 = .ok (.ireturn, 1) := by decide +kernel
theorem dX2_cardKind_110 : decode cX2_cardKind 110 = .ok (.iload_n 1, 1) := by decide +kernel
theorem dX2_cardKind_111 : decode cX2_cardKind 111 = .ok (.sipush 192, 3) := by decide +kernel
theorem dX2_cardKind_114 : decode cX2_cardKind 114 = .ok (.if_icmp .lt 17, 3) := by decide +kernel
theorem dX2_cardKind_117 : decode cX2_cardKind 117 = .ok (.aload_n 0, 1) := by decide +kernel
theorem dX2_cardKind_118 : decode cX2_cardKind 118 = .ok (.aload_n 0, 1) := by decide +kernel
theorem dX2_cardKind_119 : decode cX2_cardKind 119 = .ok (.getfield 20, 3) := by decide +kernel
theorem dX2_cardKind_122 : decode cX2_cardKind 122 = .ok (.aload_n 0, 1) := by decide +kernel
theorem dX2_cardKind_123 : decode cX2_cardKind 123 = .ok (.getfield 14, 3) := by decide +kernel
theorem dX2_cardKind_126 : decode cX2_cardKind 126 = .ok (.iload_n 1, 1) := by decide +kernel
theorem dX2_cardKind_127 : decode cX2_cardKind 127 = .ok (.invokevirtual 162, 3) := by decide +kernel
theorem dX2_cardKind_130 : decode cX2_cardKind 130 = .ok (.ireturn, 1) := by decide +kernel
theorem dX2_cardKind_131 : decode cX2_cardKind 131 = .ok (.iload_n 1, 1) := by decide +kernel
theorem dX2_cardKind_132 : decode cX2_cardKind 132 = .ok (.sipush 128, 3) := by decide +kernel
theorem dX2_cardKind_135 : decode cX2_cardKind 135 = .ok (.if_icmp .ge 15, 3) := by decide +kernel
theorem dX2_cardKind_138 : decode cX2_cardKind 138 = .ok (.aload_n 0, 1) := by decide +kernel
theorem dX2_cardKind_139 : decode cX2_cardKind 139 = .ok (.aload_n 0, 1) := by decide +kernel
theorem dX2_cardKind_140 : decode cX2_cardKind 140 = .ok (.getfield 20, 3) := by decide +kernel
theorem dX2_cardKind_143 : decode cX2_cardKind 143 = .ok (.iload_n 1, 1) := by decide +kernel
theorem dX2_cardKind_144 : decode cX2_cardKind 144 = .ok (.invokevirtual 166, 3) := by decide +kernel
theorem dX2_cardKind_147 : decode cX2_cardKind 147 = .ok (.goto 12, 3) := by decide +kernel
theorem dX2_cardKind_150 : decode cX2_cardKind 150 = .ok (.aload_n 0, 1) := by decide +kernel
theorem dX2_cardKind_151 : decode cX2_cardKind 151 = .ok (.aload_n 0, 1) := by decide +kernel
theorem dX2_cardKind_152 : decode cX2_cardKind 152 = .ok (.getfield 20, 3) := by decide +kernel
theorem dX2_cardKind_155 : decode cX2_cardKind 155 = .ok (.iload_n 1, 1) := by decide +kernel
theorem dX2_cardKind_156 : decode cX2_cardKind 156 = .ok (.invokevirtual 176, 3) := by decide +kernel
theorem dX2_cardKind_159 : decode cX2_cardKind 159 = .ok (.ireturn, 1) := by decide +kernel
set_option maxRecDepth 100000 in
set_option maxHeartbeats 4000000 in
theorem tX2_cardKind {T : tyT} {R : Nat} {J : Nat → Prop} {Bc Bs : Nat} {M : gMd} {z : Nat → Nat} {hp : List gA} {o : Nat}  (H : tyS T R J Bc Bs M z hp) (hk : tyK o = (7, 0))  : gM yX2_cardKind cX2_cardKind 2 ((some .int)) 5 147 [.ref o] (hp) (0) (0) (fun v h => ∃ x, v = some (.int x) ∧ tyS T R J Bc Bs M z h) := by
  refine gM_of (ls0 := [some (.ref o), none]) (by decide +kernel) (Nat.le_of_ble_eq_true rfl) rfl fun X C E => ?_
  refine g_aload_n (q := 1) C dX2_cardKind_0 rfl rfl ?_
  obtain ⟨x3_1, x4_1, x5_1, x6_1, x7_1, x11_1, x12_1, x13_1, x14_1, x15_1, x16_1, x17_1, jv_1, o1, e1_0, e1_1, e1_2, e1_3⟩ := tyG2 H hk
  refine g_getfield (v := .int x17_1) (q := 4) C fX2_77 dX2_cardKind_1 rfl o1 rfl ?_
  refine g_if_le (t := 33) (q := 7) C dX2_cardKind_4 (by decide) rfl (fun c_4 => ?_) (fun c_4 => ?_)
  ·
    refine g_aload_n (q := 34) C dX2_cardKind_33 rfl rfl ?_
    refine g_getfield (v := .int x11_1) (q := 37) C fX2_58 dX2_cardKind_34 rfl o1 rfl ?_
    refine g_iconst (v := 3) (q := 38) C dX2_cardKind_37 (by decide) rfl ?_
    refine g_icmp_ne (t := 43) (q := 41) C dX2_cardKind_38 (by decide) rfl (fun c_38 => ?_) (fun c_38 => ?_)
    ·
      refine g_aload_n (q := 44) C dX2_cardKind_43 rfl rfl ?_
      refine g_getfield (v := .int x11_1) (q := 47) C fX2_58 dX2_cardKind_44 rfl o1 rfl ?_
      refine g_if_eq (t := 59) (q := 50) C dX2_cardKind_47 (by decide) rfl (fun c_47 => ?_) (fun c_47 => ?_)
      ·
        refine g_aload_n (q := 60) C dX2_cardKind_59 rfl rfl ?_
        refine g_getfield (v := .ref ((o + 21))) (q := 63) C fX2_55 dX2_cardKind_60 rfl o1 rfl ?_
        refine g_iconst (v := 1) (q := 64) C dX2_cardKind_63 (by decide) rfl ?_
        obtain ⟨l2, g2, -⟩ := tyRow H (tyF2_9 hk)
        refine g_callVip (q := 67) (As := [.int 1]) C gyX4_at gvX4_at t_722 (tX4_at H (tyF2_9 hk)) dX2_cardKind_64 rfl g2.obj rfl rfl rfl (Nat.le_of_ble_eq_true rfl) (Nat.le_of_ble_eq_true rfl) (Nat.le_of_ble_eq_true rfl) (Nat.le_of_ble_eq_true rfl) (Nat.le_of_ble_eq_true rfl) rfl (fun x3 h3 q3 => ?_)
        subst q3
        refine g_istore_n (q := 68) C dX2_cardKind_67 (Nat.le_of_ble_eq_true rfl) (by simp only [gset]; rfl) rfl ?_
        refine g_iload_n (q := 69) C dX2_cardKind_68 rfl rfl ?_
        refine g_sipush (v := 192) (q := 72) C dX2_cardKind_69 (by decide) rfl ?_
        refine g_icmp_ne (t := 94) (q := 75) C dX2_cardKind_72 (by decide) rfl (fun c_72 => ?_) (fun c_72 => ?_)
        ·
          refine g_aload_n (q := 95) C dX2_cardKind_94 rfl rfl ?_
          refine g_getfield (v := .ref ((o + 8))) (q := 98) C fX2_20 dX2_cardKind_95 rfl o1 rfl ?_
          obtain ⟨x0_4, x1_4, x2_4, x3_4, x4_4, x5_4, x6_4, x7_4, x11_4, x12_4, x13_4, x14_4, o4, e4_0⟩ := tyG5 H (tyF2_1 hk)
          refine g_getfield (v := .int x5_4) (q := 101) C fX2_149 dX2_cardKind_98 rfl o4 rfl ?_
          refine g_iconst (v := (-1)) (q := 102) C dX2_cardKind_101 (by decide) rfl ?_
          refine g_icmp_eq (t := 110) (q := 105) C dX2_cardKind_102 (by decide) rfl (fun c_102 => ?_) (fun c_102 => ?_)
          ·
            refine g_iload_n (q := 111) C dX2_cardKind_110 rfl rfl ?_
            refine g_sipush (v := 192) (q := 114) C dX2_cardKind_111 (by decide) rfl ?_
            refine g_icmp_lt (t := 131) (q := 117) C dX2_cardKind_114 (by decide) rfl (fun c_114 => ?_) (fun c_114 => ?_)
            ·
              refine g_iload_n (q := 132) C dX2_cardKind_131 rfl rfl ?_
              refine g_sipush (v := 128) (q := 135) C dX2_cardKind_132 (by decide) rfl ?_
              refine g_icmp_ge (t := 150) (q := 138) C dX2_cardKind_135 (by decide) rfl (fun c_135 => ?_) (fun c_135 => ?_)
              ·
                refine g_aload_n (q := 151) C dX2_cardKind_150 rfl rfl ?_
                refine g_aload_n (q := 152) C dX2_cardKind_151 rfl rfl ?_
                refine g_getfield (v := .ref ((o + 8))) (q := 155) C fX2_20 dX2_cardKind_152 rfl o1 rfl ?_
                refine g_iload_n (q := 156) C dX2_cardKind_155 rfl rfl ?_
                refine g_callVip (q := 159) (As := [.ref ((o + 8)), .int x3]) C gyX2_onReceipt gvX2_onReceipt t_777 (tX2_onReceipt H hk (tyF2_1 hk)) dX2_cardKind_156 rfl o1 rfl rfl rfl (Nat.le_of_ble_eq_true rfl) (Nat.le_of_ble_eq_true rfl) (Nat.le_of_ble_eq_true rfl) (Nat.le_of_ble_eq_true rfl) (Nat.le_of_ble_eq_true rfl) rfl (fun x5 h5 q5 => ?_)
                have H5 := q5
                exact E.1 _ _ _ _ _ _ _ dX2_cardKind_159 rfl rfl (Nat.le_of_ble_eq_true rfl) (Nat.le_of_ble_eq_true rfl) ⟨_, rfl, H5⟩
              ·
                refine g_aload_n (q := 139) C dX2_cardKind_138 rfl rfl ?_
                refine g_aload_n (q := 140) C dX2_cardKind_139 rfl rfl ?_
                refine g_getfield (v := .ref ((o + 8))) (q := 143) C fX2_20 dX2_cardKind_140 rfl o1 rfl ?_
                refine g_iload_n (q := 144) C dX2_cardKind_143 rfl rfl ?_
                refine g_callVip (q := 147) (As := [.ref ((o + 8)), .int x3]) C gyX2_onI gvX2_onI t_752 (tX2_onI H hk (tyF2_1 hk)) dX2_cardKind_144 rfl o1 rfl rfl rfl (Nat.le_of_ble_eq_true rfl) (Nat.le_of_ble_eq_true rfl) (Nat.le_of_ble_eq_true rfl) (Nat.le_of_ble_eq_true rfl) (Nat.le_of_ble_eq_true rfl) rfl (fun x6 h6 q6 => ?_)
                have H6 := q6
                refine g_goto (q := 159) C dX2_cardKind_147 (by decide) ?_
                exact E.1 _ _ _ _ _ _ _ dX2_cardKind_159 rfl rfl (Nat.le_of_ble_eq_true rfl) (Nat.le_of_ble_eq_true rfl) ⟨_, rfl, H6⟩
            ·
              refine g_aload_n (q := 118) C dX2_cardKind_117 rfl rfl ?_
              refine g_aload_n (q := 119) C dX2_cardKind_118 rfl rfl ?_
              refine g_getfield (v := .ref ((o + 8))) (q := 122) C fX2_20 dX2_cardKind_119 rfl o1 rfl ?_
              refine g_aload_n (q := 123) C dX2_cardKind_122 rfl rfl ?_
              refine g_getfield (v := .ref ((o + 1))) (q := 126) C fX2_14 dX2_cardKind_123 rfl o1 rfl ?_
              refine g_iload_n (q := 127) C dX2_cardKind_126 rfl rfl ?_
              refine g_callVip (q := 130) (As := [.ref ((o + 8)), .ref ((o + 1)), .int x3]) C gyX2_onRequest gvX2_onRequest t_736 (tX2_onRequest H hk (tyF2_1 hk) (tyF2_0 hk)) dX2_cardKind_127 rfl o1 rfl rfl rfl (Nat.le_of_ble_eq_true rfl) (Nat.le_of_ble_eq_true rfl) (Nat.le_of_ble_eq_true rfl) (Nat.le_of_ble_eq_true rfl) (Nat.le_of_ble_eq_true rfl) rfl (fun x7 h7 q7 => ?_)
              have H7 := q7
              exact E.1 _ _ _ _ _ _ _ dX2_cardKind_130 rfl rfl (Nat.le_of_ble_eq_true rfl) (Nat.le_of_ble_eq_true rfl) ⟨_, rfl, H7⟩
          ·
            refine g_aload_n (q := 106) C dX2_cardKind_105 rfl rfl ?_
            refine g_callVip (q := 109) (As := []) C gyX2_cardOnAnswer gvX2_cardOnAnswer t_886 (tX2_cardOnAnswer H hk) dX2_cardKind_106 rfl o1 rfl rfl rfl (Nat.le_of_ble_eq_true rfl) (Nat.le_of_ble_eq_true rfl) (Nat.le_of_ble_eq_true rfl) (Nat.le_of_ble_eq_true rfl) (Nat.le_of_ble_eq_true rfl) rfl (fun x8 h8 q8 => ?_)
            have H8 := q8
            exact E.1 _ _ _ _ _ _ _ dX2_cardKind_109 rfl rfl (Nat.le_of_ble_eq_true rfl) (Nat.le_of_ble_eq_true rfl) ⟨_, rfl, H8⟩
        ·
          refine g_aload_n (q := 76) C dX2_cardKind_75 rfl rfl ?_
          refine g_getfield (v := .ref ((o + 8))) (q := 79) C fX2_20 dX2_cardKind_76 rfl o1 rfl ?_
          obtain ⟨x0_9, x1_9, x2_9, x3_9, x4_9, x5_9, x6_9, x7_9, x11_9, x12_9, x13_9, x14_9, o9, e9_0⟩ := tyG5 H (tyF2_1 hk)
          refine g_callVvp (q := 82) (As := []) C gyX5_emptyAll gvX5_emptyAll t_731 (tX5_emptyAll H (tyF2_1 hk)) dX2_cardKind_79 rfl o9 rfl rfl rfl (Nat.le_of_ble_eq_true rfl) (Nat.le_of_ble_eq_true rfl) (Nat.le_of_ble_eq_true rfl) (Nat.le_of_ble_eq_true rfl) (Nat.le_of_ble_eq_true rfl) rfl (fun h10 q10 => ?_)
          have H10 := q10
          refine g_aload_n (q := 83) C dX2_cardKind_82 rfl rfl ?_
          obtain ⟨x3_11, x4_11, x5_11, x6_11, x7_11, x11_11, x12_11, x13_11, x14_11, x15_11, x16_11, x17_11, jv_11, o11, e11_0, e11_1, e11_2, e11_3⟩ := tyG2 H10 hk
          refine g_getfield (v := .ref ((o + 8))) (q := 86) C fX2_20 dX2_cardKind_83 rfl o11 rfl ?_
          refine g_iconst (v := (-1)) (q := 87) C dX2_cardKind_86 (by decide) rfl ?_
          obtain ⟨x0_12, x1_12, x2_12, x3_12, x4_12, x5_12, x6_12, x7_12, x11_12, x12_12, x13_12, x14_12, o12, e12_0⟩ := tyG5 H10 (tyF2_1 hk)
          refine g_putfield (q := 90) C fX2_149 dX2_cardKind_87 rfl o12 (Nat.le_of_ble_eq_true rfl) (Or.inl rfl) rfl rfl (by intro z h; cases h) ?_
          refine tyP5 H10 (tyF2_1 hk) rfl e12_0 (fun h13 _ _ H13 => ?_)
          refine g_sipush (v := 224) (q := 93) C dX2_cardKind_90 (by decide) rfl ?_
          exact E.1 _ _ _ _ _ _ _ dX2_cardKind_93 rfl rfl (Nat.le_of_ble_eq_true rfl) (Nat.le_of_ble_eq_true rfl) ⟨_, rfl, H13⟩
      ·
        refine g_aload_n (q := 51) C dX2_cardKind_50 rfl rfl ?_
        refine g_aload_n (q := 52) C dX2_cardKind_51 rfl rfl ?_
        refine g_getfield (v := .ref ((o + 8))) (q := 55) C fX2_20 dX2_cardKind_52 rfl o1 rfl ?_
        refine g_callVip (q := 58) (As := [.ref ((o + 8))]) C gyX2_onBroken gvX2_onBroken t_713 (tX2_onBroken H hk (tyF2_1 hk)) dX2_cardKind_55 rfl o1 rfl rfl rfl (Nat.le_of_ble_eq_true rfl) (Nat.le_of_ble_eq_true rfl) (Nat.le_of_ble_eq_true rfl) (Nat.le_of_ble_eq_true rfl) (Nat.le_of_ble_eq_true rfl) rfl (fun x14 h14 q14 => ?_)
        have H14 := q14
        exact E.1 _ _ _ _ _ _ _ dX2_cardKind_58 rfl rfl (Nat.le_of_ble_eq_true rfl) (Nat.le_of_ble_eq_true rfl) ⟨_, rfl, H14⟩
    ·
      refine g_iconst (v := (-1)) (q := 42) C dX2_cardKind_41 (by decide) rfl ?_
      exact E.1 _ _ _ _ _ _ _ dX2_cardKind_42 rfl rfl (Nat.le_of_ble_eq_true rfl) (Nat.le_of_ble_eq_true rfl) ⟨_, rfl, H⟩
  ·
    refine g_aload_n (q := 8) C dX2_cardKind_7 rfl rfl ?_
    refine g_dup (q := 9) C dX2_cardKind_8 rfl rfl ?_
    refine g_getfield (v := .int x17_1) (q := 12) C fX2_77 dX2_cardKind_9 rfl o1 rfl ?_
    refine g_iconst (v := 1) (q := 13) C dX2_cardKind_12 (by decide) rfl ?_
    refine g_isub (q := 14) C dX2_cardKind_13 rfl ?_
    refine g_putfield (q := 17) C fX2_77 dX2_cardKind_14 rfl o1 (Nat.le_of_ble_eq_true rfl) (Or.inl rfl) rfl rfl (by intro z h; cases h) ?_
    refine tyP2 H hk rfl e1_0 e1_1 e1_2 e1_3 (fun h15 _ _ H15 => ?_)
    refine g_aload_n (q := 18) C dX2_cardKind_17 rfl rfl ?_
    obtain ⟨x3_16, x4_16, x5_16, x6_16, x7_16, x11_16, x12_16, x13_16, x14_16, x15_16, x16_16, x17_16, jv_16, o16, e16_0, e16_1, e16_2, e16_3⟩ := tyG2 H15 hk
    refine g_getfield (v := .int x17_16) (q := 21) C fX2_77 dX2_cardKind_18 rfl o16 rfl ?_
    refine g_if_le (t := 28) (q := 24) C dX2_cardKind_21 (by decide) rfl (fun c_21 => ?_) (fun c_21 => ?_)
    ·
      refine g_aload_n (q := 29) C dX2_cardKind_28 rfl rfl ?_
      refine g_callVip (q := 32) (As := []) C gyX2_putFirstByte gvX2_putFirstByte t_882 (tX2_putFirstByte H15 hk) dX2_cardKind_29 rfl o16 rfl rfl rfl (Nat.le_of_ble_eq_true rfl) (Nat.le_of_ble_eq_true rfl) (Nat.le_of_ble_eq_true rfl) (Nat.le_of_ble_eq_true rfl) (Nat.le_of_ble_eq_true rfl) rfl (fun x17 h17 q17 => ?_)
      have H17 := q17
      exact E.1 _ _ _ _ _ _ _ dX2_cardKind_32 rfl rfl (Nat.le_of_ble_eq_true rfl) (Nat.le_of_ble_eq_true rfl) ⟨_, rfl, H17⟩
    ·
      refine g_iconst (v := (-1)) (q := 25) C dX2_cardKind_24 (by decide) rfl ?_
      refine g_goto (q := 32) C dX2_cardKind_25 (by decide) ?_
      exact E.1 _ _ _ _ _ _ _ dX2_cardKind_32 rfl rfl (Nat.le_of_ble_eq_true rfl) (Nat.le_of_ble_eq_true rfl) ⟨_, rfl, H15⟩
theorem dX2_readerOnAnswer_0 : decode cX2_readerOnAnswer 0 = .ok (.aload_n 0, 1) := by decide +kernel
theorem dX2_readerOnAnswer_1 : decode cX2_readerOnAnswer 1 = .ok (.aload_n 0, 1) := by decide +kernel
theorem dX2_readerOnAnswer_2 : decode cX2_readerOnAnswer 2 = .ok (.getfield 14, 3) := by decide +kernel
theorem dX2_readerOnAnswer_5 : decode cX2_readerOnAnswer 5 = .ok (.invokevirtual 197, 3) := by decide +kernel
theorem dX2_readerOnAnswer_8 : decode cX2_readerOnAnswer 8 = .ok (.ifCond .ne 16, 3) := by decide +kernel
theorem dX2_readerOnAnswer_11 : decode cX2_readerOnAnswer 11 = .ok (.aload_n 0, 1) := by decide +kernel
theorem dX2_readerOnAnswer_12 : decode cX2_readerOnAnswer 12 = .ok (.iconst 1, 1) := by decide +kernel
theorem dX2_readerOnAnswer_13 : decode cX2_readerOnAnswer 13 = .ok (.putfield 68, 3) := by decide +kernel
theorem dX2_readerOnAnswer_16 : decode cX2_readerOnAnswer 16 = .ok (.aload_n 0, 1) := by decide +kernel
theorem dX2_readerOnAnswer_17 : decode cX2_readerOnAnswer 17 = .ok (.getfield 14, 3) := by decide +kernel
theorem dX2_readerOnAnswer_20 : decode cX2_readerOnAnswer 20 = .ok (.invokevirtual 188, 3) := by decide +kernel
theorem dX2_readerOnAnswer_23 : decode cX2_readerOnAnswer 23 = .ok (.ireturn, 1) := by decide +kernel
theorem dX2_readerOnAnswer_24 : decode cX2_readerOnAnswer 24 = .ok (.aload_n 0, 1) := by decide +kernel
theorem dX2_readerOnAnswer_25 : decode cX2_readerOnAnswer 25 = .ok (.getfield 14, 3) := by decide +kernel
theorem dX2_readerOnAnswer_28 : decode cX2_readerOnAnswer 28 = .ok (.getfield 149, 3) := by decide +kernel
theorem dX2_readerOnAnswer_31 : decode cX2_readerOnAnswer 31 = .ok (.ifCond .ne 7, 3) := by decide +kernel
theorem dX2_readerOnAnswer_34 : decode cX2_readerOnAnswer 34 = .ok (.iconst 1, 1) := by decide +kernel
theorem dX2_readerOnAnswer_35 : decode cX2_readerOnAnswer 35 = .ok (.goto 4, 3) := by decide +kernel
theorem dX2_readerOnAnswer_38 : decode cX2_readerOnAnswer 38 = .ok (.iconst 0, 1) := by decide +kernel
theorem dX2_readerOnAnswer_39 : decode cX2_readerOnAnswer 39 = .ok (.istore_n 1, 1) := by decide +kernel
theorem dX2_readerOnAnswer_40 : decode cX2_readerOnAnswer 40 = .ok (.aload_n 0, 1) := by decide +kernel
theorem dX2_readerOnAnswer_41 : decode cX2_readerOnAnswer 41 = .ok (.getfield 14, 3) := by decide +kernel
theorem dX2_readerOnAnswer_44 : decode cX2_readerOnAnswer 44 = .ok (.iconst (-1), 1) := by decide +kernel
theorem dX2_readerOnAnswer_45 : decode cX2_readerOnAnswer 45 = .ok (.putfield 149, 3) := by decide +kernel
theorem dX2_readerOnAnswer_48 : decode cX2_readerOnAnswer 48 = .ok (.iload_n 1, 1) := by decide +kernel
theorem dX2_readerOnAnswer_49 : decode cX2_readerOnAnswer 49 = .ok (.ifCond .eq 10, 3) := by decide +kernel
theorem dX2_readerOnAnswer_52 : decode cX2_readerOnAnswer 52 = .ok (.aload_n 0, 1) := by decide +kernel
theorem dX2_readerOnAnswer_53 : decode cX2_readerOnAnswer 53 = .ok (.getfield 14, 3) := by decide +kernel
theorem dX2_readerOnAnswer_56 : decode cX2_readerOnAnswer 56 = .ok (.invokevirtual 182, 3) := by decide +kernel
theorem dX2_readerOnAnswer_59 : decode cX2_readerOnAnswer 59 = .ok (.aload_n 0, 1) := by decide +kernel
theorem dX2_readerOnAnswer_60 : decode cX2_readerOnAnswer 60 = .ok (.iload_n 1, 1) := by decide +kernel
theorem dX2_readerOnAnswer_61 : decode cX2_readerOnAnswer 61 = .ok (.ifCond .eq 7, 3) := by decide +kernel
theorem dX2_readerOnAnswer_64 : decode cX2_readerOnAnswer 64 = .ok (.iconst 3, 1) := by decide +kernel
theorem dX2_readerOnAnswer_65 : decode cX2_readerOnAnswer 65 = .ok (.goto 4, 3) := by decide +kernel
theorem dX2_readerOnAnswer_68 : decode cX2_readerOnAnswer 68 = .ok (.iconst 2, 1) := by decide +kernel
theorem dX2_readerOnAnswer_69 : decode cX2_readerOnAnswer 69 = .ok (.invokevirtual 173, 3) := by decide +kernel
theorem dX2_readerOnAnswer_72 : decode cX2_readerOnAnswer 72 = .ok (.ireturn, 1) := by decide +kernel
set_option maxRecDepth 100000 in
set_option maxHeartbeats 4000000 in
theorem tX2_readerOnAnswer {T : tyT} {R : Nat} {J : Nat → Prop} {Bc Bs : Nat} {M : gMd} {z : Nat → Nat} {hp : List gA} {o : Nat}  (H : tyS T R J Bc Bs M z hp) (hk : tyK o = (7, 0))  : gM yX2_readerOnAnswer cX2_readerOnAnswer 2 ((some .int)) 3 62 [.ref o] (hp) (0) (0) (fun v h => ∃ x, v = some (.int x) ∧ tyS T R J Bc Bs M z h) := by
  refine gM_of (ls0 := [some (.ref o), none]) (by decide +kernel) (Nat.le_of_ble_eq_true rfl) rfl fun X C E => ?_
  have J_69 : ∀ (y69_1 s69_0 : Int32) (by69_1 : y69_1 = 0 ∨ y69_1 = 1) (hJ69 : List gA), tyS T R J Bc Bs M z hJ69 → gG X 69 [some (.ref o), some (.int y69_1)] [.int s69_0, .ref o] hJ69 0 0 := by
    intro y69_1 s69_0 by69_1 hJ69 HJ69
    obtain ⟨x3_1, x4_1, x5_1, x6_1, x7_1, x11_1, x12_1, x13_1, x14_1, x15_1, x16_1, x17_1, jv_1, o1, e1_0, e1_1, e1_2, e1_3⟩ := tyG2 HJ69 hk
    refine g_callVip (q := 72) (As := [.int s69_0]) C gyX2_finish gvX2_finish t_732 (tX2_finish HJ69 hk) dX2_readerOnAnswer_69 rfl o1 rfl rfl rfl (Nat.le_of_ble_eq_true rfl) (Nat.le_of_ble_eq_true rfl) (Nat.le_of_ble_eq_true rfl) (Nat.le_of_ble_eq_true rfl) (Nat.le_of_ble_eq_true rfl) rfl (fun x2 h2 q2 => ?_)
    have H2 := q2
    exact E.1 _ _ _ _ _ _ _ dX2_readerOnAnswer_72 rfl rfl (Nat.le_of_ble_eq_true rfl) (Nat.le_of_ble_eq_true rfl) ⟨_, rfl, H2⟩
  have J_59 : ∀ (y59_1 : Int32) (by59_1 : y59_1 = 0 ∨ y59_1 = 1) (hJ59 : List gA), tyS T R J Bc Bs M z hJ59 → gG X 59 [some (.ref o), some (.int y59_1)] [] hJ59 0 0 := by
    intro y59_1 by59_1 hJ59 HJ59
    refine g_aload_n (q := 60) C dX2_readerOnAnswer_59 rfl rfl ?_
    refine g_iload_n (q := 61) C dX2_readerOnAnswer_60 rfl rfl ?_
    refine g_if_eq (t := 68) (q := 64) C dX2_readerOnAnswer_61 (by decide) rfl (fun c_61 => ?_) (fun c_61 => ?_)
    ·
      refine g_iconst (v := 2) (q := 69) C dX2_readerOnAnswer_68 (by decide) rfl ?_
      exact J_69 _ _ by59_1 _  HJ59
    ·
      refine g_iconst (v := 3) (q := 65) C dX2_readerOnAnswer_64 (by decide) rfl ?_
      refine g_goto (q := 69) C dX2_readerOnAnswer_65 (by decide) ?_
      exact J_69 _ _ by59_1 _  HJ59
  have J_39 : ∀ (s39_0 : Int32) (bs39_0 : s39_0 = 0 ∨ s39_0 = 1) (hJ39 : List gA), tyS T R J Bc Bs M z hJ39 → gG X 39 [some (.ref o), none] [.int s39_0] hJ39 0 0 := by
    intro s39_0 bs39_0 hJ39 HJ39
    refine g_istore_n (q := 40) C dX2_readerOnAnswer_39 (Nat.le_of_ble_eq_true rfl) (by simp only [gset]; rfl) rfl ?_
    refine g_aload_n (q := 41) C dX2_readerOnAnswer_40 rfl rfl ?_
    obtain ⟨x3_3, x4_3, x5_3, x6_3, x7_3, x11_3, x12_3, x13_3, x14_3, x15_3, x16_3, x17_3, jv_3, o3, e3_0, e3_1, e3_2, e3_3⟩ := tyG2 HJ39 hk
    refine g_getfield (v := .ref ((o + 1))) (q := 44) C fX2_14 dX2_readerOnAnswer_41 rfl o3 rfl ?_
    refine g_iconst (v := (-1)) (q := 45) C dX2_readerOnAnswer_44 (by decide) rfl ?_
    obtain ⟨x0_4, x1_4, x2_4, x3_4, x4_4, x5_4, x6_4, x7_4, x11_4, x12_4, x13_4, x14_4, o4, e4_0⟩ := tyG5 HJ39 (tyF2_0 hk)
    refine g_putfield (q := 48) C fX2_149 dX2_readerOnAnswer_45 rfl o4 (Nat.le_of_ble_eq_true rfl) (Or.inl rfl) rfl rfl (by intro z h; cases h) ?_
    refine tyP5 HJ39 (tyF2_0 hk) rfl e4_0 (fun h5 _ _ H5 => ?_)
    refine g_iload_n (q := 49) C dX2_readerOnAnswer_48 rfl rfl ?_
    refine g_if_eq (t := 59) (q := 52) C dX2_readerOnAnswer_49 (by decide) rfl (fun c_49 => ?_) (fun c_49 => ?_)
    ·
      exact J_59 _ bs39_0 _  H5
    ·
      refine g_aload_n (q := 53) C dX2_readerOnAnswer_52 rfl rfl ?_
      obtain ⟨x3_6, x4_6, x5_6, x6_6, x7_6, x11_6, x12_6, x13_6, x14_6, x15_6, x16_6, x17_6, jv_6, o6, e6_0, e6_1, e6_2, e6_3⟩ := tyG2 H5 hk
      refine g_getfield (v := .ref ((o + 1))) (q := 56) C fX2_14 dX2_readerOnAnswer_53 rfl o6 rfl ?_
      obtain ⟨x0_7, x1_7, x2_7, x3_7, x4_7, x5_7, x6_7, x7_7, x11_7, x12_7, x13_7, x14_7, o7, e7_0⟩ := tyG5 H5 (tyF2_0 hk)
      refine g_callVvp (q := 59) (As := []) C gyX5_emptyAll gvX5_emptyAll t_731 (tX5_emptyAll H5 (tyF2_0 hk)) dX2_readerOnAnswer_56 rfl o7 rfl rfl rfl (Nat.le_of_ble_eq_true rfl) (Nat.le_of_ble_eq_true rfl) (Nat.le_of_ble_eq_true rfl) (Nat.le_of_ble_eq_true rfl) (Nat.le_of_ble_eq_true rfl) rfl (fun h8 q8 => ?_)
      have H8 := q8
      exact J_59 _ bs39_0 _  H8
  refine g_aload_n (q := 1) C dX2_readerOnAnswer_0 rfl rfl ?_
  refine g_aload_n (q := 2) C dX2_readerOnAnswer_1 rfl rfl ?_
  obtain ⟨x3_9, x4_9, x5_9, x6_9, x7_9, x11_9, x12_9, x13_9, x14_9, x15_9, x16_9, x17_9, jv_9, o9, e9_0, e9_1, e9_2, e9_3⟩ := tyG2 H hk
  refine g_getfield (v := .ref ((o + 1))) (q := 5) C fX2_14 dX2_readerOnAnswer_2 rfl o9 rfl ?_
  refine g_callVip (q := 8) (As := [.ref ((o + 1))]) C gyX2_isAnswerTo gvX2_isAnswerTo t_727 (tX2_isAnswerTo H hk (tyF2_0 hk)) dX2_readerOnAnswer_5 rfl o9 rfl rfl rfl (Nat.le_of_ble_eq_true rfl) (Nat.le_of_ble_eq_true rfl) (Nat.le_of_ble_eq_true rfl) (Nat.le_of_ble_eq_true rfl) (Nat.le_of_ble_eq_true rfl) rfl (fun x10 h10 q10 => ?_)
  obtain ⟨b10, H10⟩ := q10
  refine g_if_ne (t := 24) (q := 11) C dX2_readerOnAnswer_8 (by decide) rfl (fun c_8 => ?_) (fun c_8 => ?_)
  ·
    refine g_aload_n (q := 25) C dX2_readerOnAnswer_24 rfl rfl ?_
    obtain ⟨x3_11, x4_11, x5_11, x6_11, x7_11, x11_11, x12_11, x13_11, x14_11, x15_11, x16_11, x17_11, jv_11, o11, e11_0, e11_1, e11_2, e11_3⟩ := tyG2 H10 hk
    refine g_getfield (v := .ref ((o + 1))) (q := 28) C fX2_14 dX2_readerOnAnswer_25 rfl o11 rfl ?_
    obtain ⟨x0_12, x1_12, x2_12, x3_12, x4_12, x5_12, x6_12, x7_12, x11_12, x12_12, x13_12, x14_12, o12, e12_0⟩ := tyG5 H10 (tyF2_0 hk)
    refine g_getfield (v := .int x5_12) (q := 31) C fX2_149 dX2_readerOnAnswer_28 rfl o12 rfl ?_
    refine g_if_ne (t := 38) (q := 34) C dX2_readerOnAnswer_31 (by decide) rfl (fun c_31 => ?_) (fun c_31 => ?_)
    ·
      refine g_iconst (v := 0) (q := 39) C dX2_readerOnAnswer_38 (by decide) rfl ?_
      exact J_39 _ (Or.inl rfl) _  H10
    ·
      refine g_iconst (v := 1) (q := 35) C dX2_readerOnAnswer_34 (by decide) rfl ?_
      refine g_goto (q := 39) C dX2_readerOnAnswer_35 (by decide) ?_
      exact J_39 _ (Or.inr rfl) _  H10
  ·
    refine g_aload_n (q := 12) C dX2_readerOnAnswer_11 rfl rfl ?_
    refine g_iconst (v := 1) (q := 13) C dX2_readerOnAnswer_12 (by decide) rfl ?_
    obtain ⟨x3_13, x4_13, x5_13, x6_13, x7_13, x11_13, x12_13, x13_13, x14_13, x15_13, x16_13, x17_13, jv_13, o13, e13_0, e13_1, e13_2, e13_3⟩ := tyG2 H10 hk
    refine g_putfield (q := 16) C fX2_68 dX2_readerOnAnswer_13 rfl o13 (Nat.le_of_ble_eq_true rfl) (Or.inl rfl) (tyNar (Or.inr rfl)) (tyFit (Or.inr rfl)) (by intro z h; cases h) ?_
    refine tyP2 H10 hk rfl e13_0 (Or.inr rfl) e13_2 e13_3 (fun h14 _ _ H14 => ?_)
    refine g_aload_n (q := 17) C dX2_readerOnAnswer_16 rfl rfl ?_
    obtain ⟨x3_15, x4_15, x5_15, x6_15, x7_15, x11_15, x12_15, x13_15, x14_15, x15_15, x16_15, x17_15, jv_15, o15, e15_0, e15_1, e15_2, e15_3⟩ := tyG2 H14 hk
    refine g_getfield (v := .ref ((o + 1))) (q := 20) C fX2_14 dX2_readerOnAnswer_17 rfl o15 rfl ?_
    obtain ⟨x0_16, x1_16, x2_16, x3_16, x4_16, x5_16, x6_16, x7_16, x11_16, x12_16, x13_16, x14_16, o16, e16_0⟩ := tyG5 H14 (tyF2_0 hk)
    refine g_callVip (q := 23) (As := []) C gyX5_requestKind gvX5_requestKind t_717 (tX5_requestKind H14 (tyF2_0 hk)) dX2_readerOnAnswer_20 rfl o16 rfl rfl rfl (Nat.le_of_ble_eq_true rfl) (Nat.le_of_ble_eq_true rfl) (Nat.le_of_ble_eq_true rfl) (Nat.le_of_ble_eq_true rfl) (Nat.le_of_ble_eq_true rfl) rfl (fun x17 h17 q17 => ?_)
    have H17 := q17
    exact E.1 _ _ _ _ _ _ _ dX2_readerOnAnswer_23 rfl rfl (Nat.le_of_ble_eq_true rfl) (Nat.le_of_ble_eq_true rfl) ⟨_, rfl, H17⟩
theorem dX2_readerKind_0 : decode cX2_readerKind 0 = .ok (.aload_n 0, 1) := by decide +kernel
theorem dX2_readerKind_1 : decode cX2_readerKind 1 = .ok (.iconst 0, 1) := by decide +kernel
theorem dX2_readerKind_2 : decode cX2_readerKind 2 = .ok (.putfield 68, 3) := by decide +kernel
theorem dX2_readerKind_5 : decode cX2_readerKind 5 = .ok (.aload_n 0, 1) := by decide +kernel
theorem dX2_readerKind_6 : decode cX2_readerKind 6 = .ok (.getfield 58, 3) := by decide +kernel
theorem dX2_readerKind_9 : decode cX2_readerKind 9 = .ok (.ifCond .eq 12, 3) := by decide +kernel
theorem dX2_readerKind_12 : decode cX2_readerKind 12 = .ok (.aload_n 0, 1) := by decide +kernel
theorem dX2_readerKind_13 : decode cX2_readerKind 13 = .ok (.aload_n 0, 1) := by decide +kernel
theorem dX2_readerKind_14 : decode cX2_readerKind 14 = .ok (.getfield 14, 3) := by decide +kernel
theorem dX2_readerKind_17 : decode cX2_readerKind 17 = .ok (.invokevirtual 152, 3) := by decide +kernel
theorem dX2_readerKind_20 : decode cX2_readerKind 20 = .ok (.ireturn, 1) := by decide +kernel
theorem dX2_readerKind_21 : decode cX2_readerKind 21 = .ok (.aload_n 0, 1) := by decide +kernel
theorem dX2_readerKind_22 : decode cX2_readerKind 22 = .ok (.getfield 55, 3) := by decide +kernel
theorem dX2_readerKind_25 : decode cX2_readerKind 25 = .ok (.iconst 1, 1) := by decide +kernel
theorem dX2_readerKind_26 : decode cX2_readerKind 26 = .ok (.invokevirtual 156, 3) := by decide +kernel
theorem dX2_readerKind_29 : decode cX2_readerKind 29 = .ok (.istore_n 1, 1) := by decide +kernel
theorem dX2_readerKind_30 : decode cX2_readerKind 30 = .ok (.aload_n 0, 1) := by decide +kernel
theorem dX2_readerKind_31 : decode cX2_readerKind 31 = .ok (.getfield 14, 3) := by decide +kernel
theorem dX2_readerKind_34 : decode cX2_readerKind 34 = .ok (.getfield 149, 3) := by decide +kernel
theorem dX2_readerKind_37 : decode cX2_readerKind 37 = .ok (.iconst (-1), 1) := by decide +kernel
theorem dX2_readerKind_38 : decode cX2_readerKind 38 = .ok (.if_icmp .eq 8, 3) := by decide +kernel
theorem dX2_readerKind_41 : decode cX2_readerKind 41 = .ok (.aload_n 0, 1) := by decide +kernel
theorem dX2_readerKind_42 : decode cX2_readerKind 42 = .ok (.invokevirtual 159, 3) := by decide +kernel
theorem dX2_readerKind_45 : decode cX2_readerKind 45 = .ok (.ireturn, 1) := by decide +kernel
theorem dX2_readerKind_46 : decode cX2_readerKind 46 = .ok (.iload_n 1, 1) := by decide +kernel
theorem dX2_readerKind_47 : decode cX2_readerKind 47 = .ok (.sipush 192, 3) := by decide +kernel
theorem dX2_readerKind_50 : decode cX2_readerKind 50 = .ok (.if_icmp .lt 17, 3) := by decide +kernel
theorem dX2_readerKind_53 : decode cX2_readerKind 53 = .ok (.aload_n 0, 1) := by decide +kernel
theorem dX2_readerKind_54 : decode cX2_readerKind 54 = .ok (.aload_n 0, 1) := by decide +kernel
theorem dX2_readerKind_55 : decode cX2_readerKind 55 = .ok (.getfield 14, 3) := by decide +kernel
theorem dX2_readerKind_58 : decode cX2_readerKind 58 = .ok (.aload_n 0, 1) := by decide +kernel
theorem dX2_readerKind_59 : decode cX2_readerKind 59 = .ok (.getfield 20, 3) := by decide +kernel
theorem dX2_readerKind_62 : decode cX2_readerKind 62 = .ok (.iload_n 1, 1) := by decide +kernel
theorem dX2_readerKind_63 : decode cX2_readerKind 63 = .ok (.invokevirtual 162, 3) := by decide +kernel
theorem dX2_readerKind_66 : decode cX2_readerKind 66 = .ok (.ireturn, 1) := by decide +kernel
theorem dX2_readerKind_67 : decode cX2_readerKind 67 = .ok (.iload_n 1, 1) := by decide +kernel
theorem dX2_readerKind_68 : decode cX2_readerKind 68 = .ok (.sipush 128, 3) := by decide +kernel
theorem dX2_readerKind_71 : decode cX2_readerKind 71 = .ok (.if_icmp .ge 13, 3) := by decide +kernel
theorem dX2_readerKind_74 : decode cX2_readerKind 74 = .ok (.aload_n 0, 1) := by decide +kernel
theorem dX2_readerKind_75 : decode cX2_readerKind 75 = .ok (.aload_n 0, 1) := by decide +kernel
theorem dX2_readerKind_76 : decode cX2_readerKind 76 = .ok (.getfield 14, 3) := by decide +kernel
theorem dX2_readerKind_79 : decode cX2_readerKind 79 = .ok (.iload_n 1, 1) := by decide +kernel
theorem dX2_readerKind_80 : decode cX2_readerKind 80 = .ok (.invokevirtual 166, 3) := by decide +kernel
theorem dX2_readerKind_83 : decode cX2_readerKind 83 = .ok (.ireturn, 1) := by decide +kernel
theorem dX2_readerKind_84 : decode cX2_readerKind 84 = .ok (.aload_n 0, 1) := by decide +kernel
theorem dX2_readerKind_85 : decode cX2_readerKind 85 = .ok (.getfield 71, 3) := by decide +kernel
theorem dX2_readerKind_88 : decode cX2_readerKind 88 = .ok (.ifCond .eq 16, 3) := by decide +kernel
theorem dX2_readerKind_91 : decode cX2_readerKind 91 = .ok (.aload_n 0, 1) := by decide +kernel
theorem dX2_readerKind_92 : decode cX2_readerKind 92 = .ok (.getfield 14, 3) := by decide +kernel
theorem dX2_readerKind_95 : decode cX2_readerKind 95 = .ok (.invokevirtual 170, 3) := by decide +kernel
theorem dX2_readerKind_98 : decode cX2_readerKind 98 = .ok (.aload_n 0, 1) := by decide +kernel
theorem dX2_readerKind_99 : decode cX2_readerKind 99 = .ok (.iconst 2, 1) := by decide +kernel
theorem dX2_readerKind_100 : decode cX2_readerKind 100 = .ok (.invokevirtual 173, 3) := by decide +kernel
theorem dX2_readerKind_103 : decode cX2_readerKind 103 = .ok (.ireturn, 1) := by decide +kernel
theorem dX2_readerKind_104 : decode cX2_readerKind 104 = .ok (.aload_n 0, 1) := by decide +kernel
theorem dX2_readerKind_105 : decode cX2_readerKind 105 = .ok (.aload_n 0, 1) := by decide +kernel
theorem dX2_readerKind_106 : decode cX2_readerKind 106 = .ok (.getfield 14, 3) := by decide +kernel
theorem dX2_readerKind_109 : decode cX2_readerKind 109 = .ok (.iload_n 1, 1) := by decide +kernel
theorem dX2_readerKind_110 : decode cX2_readerKind 110 = .ok (.invokevirtual 176, 3) := by decide +kernel
theorem dX2_readerKind_113 : decode cX2_readerKind 113 = .ok (.ireturn, 1) := by decide +kernel
set_option maxRecDepth 100000 in
set_option maxHeartbeats 4000000 in
theorem tX2_readerKind {T : tyT} {R : Nat} {J : Nat → Prop} {Bc Bs : Nat} {M : gMd} {z : Nat → Nat} {hp : List gA} {o : Nat}  (H : tyS T R J Bc Bs M z hp) (hk : tyK o = (7, 0))  : gM yX2_readerKind cX2_readerKind 2 ((some .int)) 5 147 [.ref o] (hp) (0) (0) (fun v h => ∃ x, v = some (.int x) ∧ tyS T R J Bc Bs M z h) := by
  refine gM_of (ls0 := [some (.ref o), none]) (by decide +kernel) (Nat.le_of_ble_eq_true rfl) rfl fun X C E => ?_
  refine g_aload_n (q := 1) C dX2_readerKind_0 rfl rfl ?_
  refine g_iconst (v := 0) (q := 2) C dX2_readerKind_1 (by decide) rfl ?_
  obtain ⟨x3_1, x4_1, x5_1, x6_1, x7_1, x11_1, x12_1, x13_1, x14_1, x15_1, x16_1, x17_1, jv_1, o1, e1_0, e1_1, e1_2, e1_3⟩ := tyG2 H hk
  refine g_putfield (q := 5) C fX2_68 dX2_readerKind_2 rfl o1 (Nat.le_of_ble_eq_true rfl) (Or.inl rfl) (tyNar (Or.inl rfl)) (tyFit (Or.inl rfl)) (by intro z h; cases h) ?_
  refine tyP2 H hk rfl e1_0 (Or.inl rfl) e1_2 e1_3 (fun h2 _ _ H2 => ?_)
  refine g_aload_n (q := 6) C dX2_readerKind_5 rfl rfl ?_
  obtain ⟨x3_3, x4_3, x5_3, x6_3, x7_3, x11_3, x12_3, x13_3, x14_3, x15_3, x16_3, x17_3, jv_3, o3, e3_0, e3_1, e3_2, e3_3⟩ := tyG2 H2 hk
  refine g_getfield (v := .int x11_3) (q := 9) C fX2_58 dX2_readerKind_6 rfl o3 rfl ?_
  refine g_if_eq (t := 21) (q := 12) C dX2_readerKind_9 (by decide) rfl (fun c_9 => ?_) (fun c_9 => ?_)
  ·
    refine g_aload_n (q := 22) C dX2_readerKind_21 rfl rfl ?_
    refine g_getfield (v := .ref ((o + 21))) (q := 25) C fX2_55 dX2_readerKind_22 rfl o3 rfl ?_
    refine g_iconst (v := 1) (q := 26) C dX2_readerKind_25 (by decide) rfl ?_
    obtain ⟨l4, g4, -⟩ := tyRow H2 (tyF2_9 hk)
    refine g_callVip (q := 29) (As := [.int 1]) C gyX4_at gvX4_at t_722 (tX4_at H2 (tyF2_9 hk)) dX2_readerKind_26 rfl g4.obj rfl rfl rfl (Nat.le_of_ble_eq_true rfl) (Nat.le_of_ble_eq_true rfl) (Nat.le_of_ble_eq_true rfl) (Nat.le_of_ble_eq_true rfl) (Nat.le_of_ble_eq_true rfl) rfl (fun x5 h5 q5 => ?_)
    subst q5
    refine g_istore_n (q := 30) C dX2_readerKind_29 (Nat.le_of_ble_eq_true rfl) (by simp only [gset]; rfl) rfl ?_
    refine g_aload_n (q := 31) C dX2_readerKind_30 rfl rfl ?_
    refine g_getfield (v := .ref ((o + 1))) (q := 34) C fX2_14 dX2_readerKind_31 rfl o3 rfl ?_
    obtain ⟨x0_6, x1_6, x2_6, x3_6, x4_6, x5_6, x6_6, x7_6, x11_6, x12_6, x13_6, x14_6, o6, e6_0⟩ := tyG5 H2 (tyF2_0 hk)
    refine g_getfield (v := .int x5_6) (q := 37) C fX2_149 dX2_readerKind_34 rfl o6 rfl ?_
    refine g_iconst (v := (-1)) (q := 38) C dX2_readerKind_37 (by decide) rfl ?_
    refine g_icmp_eq (t := 46) (q := 41) C dX2_readerKind_38 (by decide) rfl (fun c_38 => ?_) (fun c_38 => ?_)
    ·
      refine g_iload_n (q := 47) C dX2_readerKind_46 rfl rfl ?_
      refine g_sipush (v := 192) (q := 50) C dX2_readerKind_47 (by decide) rfl ?_
      refine g_icmp_lt (t := 67) (q := 53) C dX2_readerKind_50 (by decide) rfl (fun c_50 => ?_) (fun c_50 => ?_)
      ·
        refine g_iload_n (q := 68) C dX2_readerKind_67 rfl rfl ?_
        refine g_sipush (v := 128) (q := 71) C dX2_readerKind_68 (by decide) rfl ?_
        refine g_icmp_ge (t := 84) (q := 74) C dX2_readerKind_71 (by decide) rfl (fun c_71 => ?_) (fun c_71 => ?_)
        ·
          refine g_aload_n (q := 85) C dX2_readerKind_84 rfl rfl ?_
          refine g_getfield (v := .int x15_3) (q := 88) C fX2_71 dX2_readerKind_85 rfl o3 rfl ?_
          refine g_if_eq (t := 104) (q := 91) C dX2_readerKind_88 (by decide) rfl (fun c_88 => ?_) (fun c_88 => ?_)
          ·
            refine g_aload_n (q := 105) C dX2_readerKind_104 rfl rfl ?_
            refine g_aload_n (q := 106) C dX2_readerKind_105 rfl rfl ?_
            refine g_getfield (v := .ref ((o + 1))) (q := 109) C fX2_14 dX2_readerKind_106 rfl o3 rfl ?_
            refine g_iload_n (q := 110) C dX2_readerKind_109 rfl rfl ?_
            refine g_callVip (q := 113) (As := [.ref ((o + 1)), .int x5]) C gyX2_onReceipt gvX2_onReceipt t_777 (tX2_onReceipt H2 hk (tyF2_0 hk)) dX2_readerKind_110 rfl o3 rfl rfl rfl (Nat.le_of_ble_eq_true rfl) (Nat.le_of_ble_eq_true rfl) (Nat.le_of_ble_eq_true rfl) (Nat.le_of_ble_eq_true rfl) (Nat.le_of_ble_eq_true rfl) rfl (fun x7 h7 q7 => ?_)
            have H7 := q7
            exact E.1 _ _ _ _ _ _ _ dX2_readerKind_113 rfl rfl (Nat.le_of_ble_eq_true rfl) (Nat.le_of_ble_eq_true rfl) ⟨_, rfl, H7⟩
          ·
            refine g_aload_n (q := 92) C dX2_readerKind_91 rfl rfl ?_
            refine g_getfield (v := .ref ((o + 1))) (q := 95) C fX2_14 dX2_readerKind_92 rfl o3 rfl ?_
            refine g_callVvp (q := 98) (As := []) C gyX5_takeEmpty gvX5_takeEmpty t_773 (tX5_takeEmpty H2 (tyF2_0 hk)) dX2_readerKind_95 rfl o6 rfl rfl rfl (Nat.le_of_ble_eq_true rfl) (Nat.le_of_ble_eq_true rfl) (Nat.le_of_ble_eq_true rfl) (Nat.le_of_ble_eq_true rfl) (Nat.le_of_ble_eq_true rfl) rfl (fun h8 q8 => ?_)
            have H8 := q8
            refine g_aload_n (q := 99) C dX2_readerKind_98 rfl rfl ?_
            refine g_iconst (v := 2) (q := 100) C dX2_readerKind_99 (by decide) rfl ?_
            obtain ⟨x3_9, x4_9, x5_9, x6_9, x7_9, x11_9, x12_9, x13_9, x14_9, x15_9, x16_9, x17_9, jv_9, o9, e9_0, e9_1, e9_2, e9_3⟩ := tyG2 H8 hk
            refine g_callVip (q := 103) (As := [.int 2]) C gyX2_finish gvX2_finish t_732 (tX2_finish H8 hk) dX2_readerKind_100 rfl o9 rfl rfl rfl (Nat.le_of_ble_eq_true rfl) (Nat.le_of_ble_eq_true rfl) (Nat.le_of_ble_eq_true rfl) (Nat.le_of_ble_eq_true rfl) (Nat.le_of_ble_eq_true rfl) rfl (fun x10 h10 q10 => ?_)
            have H10 := q10
            exact E.1 _ _ _ _ _ _ _ dX2_readerKind_103 rfl rfl (Nat.le_of_ble_eq_true rfl) (Nat.le_of_ble_eq_true rfl) ⟨_, rfl, H10⟩
        ·
          refine g_aload_n (q := 75) C dX2_readerKind_74 rfl rfl ?_
          refine g_aload_n (q := 76) C dX2_readerKind_75 rfl rfl ?_
          refine g_getfield (v := .ref ((o + 1))) (q := 79) C fX2_14 dX2_readerKind_76 rfl o3 rfl ?_
          refine g_iload_n (q := 80) C dX2_readerKind_79 rfl rfl ?_
          refine g_callVip (q := 83) (As := [.ref ((o + 1)), .int x5]) C gyX2_onI gvX2_onI t_752 (tX2_onI H2 hk (tyF2_0 hk)) dX2_readerKind_80 rfl o3 rfl rfl rfl (Nat.le_of_ble_eq_true rfl) (Nat.le_of_ble_eq_true rfl) (Nat.le_of_ble_eq_true rfl) (Nat.le_of_ble_eq_true rfl) (Nat.le_of_ble_eq_true rfl) rfl (fun x11 h11 q11 => ?_)
          have H11 := q11
          exact E.1 _ _ _ _ _ _ _ dX2_readerKind_83 rfl rfl (Nat.le_of_ble_eq_true rfl) (Nat.le_of_ble_eq_true rfl) ⟨_, rfl, H11⟩
      ·
        refine g_aload_n (q := 54) C dX2_readerKind_53 rfl rfl ?_
        refine g_aload_n (q := 55) C dX2_readerKind_54 rfl rfl ?_
        refine g_getfield (v := .ref ((o + 1))) (q := 58) C fX2_14 dX2_readerKind_55 rfl o3 rfl ?_
        refine g_aload_n (q := 59) C dX2_readerKind_58 rfl rfl ?_
        refine g_getfield (v := .ref ((o + 8))) (q := 62) C fX2_20 dX2_readerKind_59 rfl o3 rfl ?_
        refine g_iload_n (q := 63) C dX2_readerKind_62 rfl rfl ?_
        refine g_callVip (q := 66) (As := [.ref ((o + 1)), .ref ((o + 8)), .int x5]) C gyX2_onRequest gvX2_onRequest t_736 (tX2_onRequest H2 hk (tyF2_0 hk) (tyF2_1 hk)) dX2_readerKind_63 rfl o3 rfl rfl rfl (Nat.le_of_ble_eq_true rfl) (Nat.le_of_ble_eq_true rfl) (Nat.le_of_ble_eq_true rfl) (Nat.le_of_ble_eq_true rfl) (Nat.le_of_ble_eq_true rfl) rfl (fun x12 h12 q12 => ?_)
        have H12 := q12
        exact E.1 _ _ _ _ _ _ _ dX2_readerKind_66 rfl rfl (Nat.le_of_ble_eq_true rfl) (Nat.le_of_ble_eq_true rfl) ⟨_, rfl, H12⟩
    ·
      refine g_aload_n (q := 42) C dX2_readerKind_41 rfl rfl ?_
      refine g_callVip (q := 45) (As := []) C gyX2_readerOnAnswer gvX2_readerOnAnswer t_723 (tX2_readerOnAnswer H2 hk) dX2_readerKind_42 rfl o3 rfl rfl rfl (Nat.le_of_ble_eq_true rfl) (Nat.le_of_ble_eq_true rfl) (Nat.le_of_ble_eq_true rfl) (Nat.le_of_ble_eq_true rfl) (Nat.le_of_ble_eq_true rfl) rfl (fun x13 h13 q13 => ?_)
      have H13 := q13
      exact E.1 _ _ _ _ _ _ _ dX2_readerKind_45 rfl rfl (Nat.le_of_ble_eq_true rfl) (Nat.le_of_ble_eq_true rfl) ⟨_, rfl, H13⟩
  ·
    refine g_aload_n (q := 13) C dX2_readerKind_12 rfl rfl ?_
    refine g_aload_n (q := 14) C dX2_readerKind_13 rfl rfl ?_
    refine g_getfield (v := .ref ((o + 1))) (q := 17) C fX2_14 dX2_readerKind_14 rfl o3 rfl ?_
    refine g_callVip (q := 20) (As := [.ref ((o + 1))]) C gyX2_onBroken gvX2_onBroken t_713 (tX2_onBroken H2 hk (tyF2_0 hk)) dX2_readerKind_17 rfl o3 rfl rfl rfl (Nat.le_of_ble_eq_true rfl) (Nat.le_of_ble_eq_true rfl) (Nat.le_of_ble_eq_true rfl) (Nat.le_of_ble_eq_true rfl) (Nat.le_of_ble_eq_true rfl) rfl (fun x14 h14 q14 => ?_)
    have H14 := q14
    exact E.1 _ _ _ _ _ _ _ dX2_readerKind_20 rfl rfl (Nat.le_of_ble_eq_true rfl) (Nat.le_of_ble_eq_true rfl) ⟨_, rfl, H14⟩
theorem dX2_kindToSend_0 : decode cX2_kindToSend 0 = .ok (.iload_n 2, 1) := by decide +kernel
theorem dX2_kindToSend_1 : decode cX2_kindToSend 1 = .ok (.bipush (-2), 2) := by decide +kernel
theorem dX2_kindToSend_3 : decode cX2_kindToSend 3 = .ok (.if_icmp .ne 8, 3) := by decide +kernel
theorem dX2_kindToSend_6 : decode cX2_kindToSend 6 = .ok (.aload_n 0, 1) := by decide +kernel
theorem dX2_kindToSend_7 : decode cX2_kindToSend 7 = .ok (.iconst 0, 1) := by decide +kernel
theorem dX2_kindToSend_8 : decode cX2_kindToSend 8 = .ok (.putfield 105, 3) := by decide +kernel
theorem dX2_kindToSend_11 : decode cX2_kindToSend 11 = .ok (.iload_n 2, 1) := by decide +kernel
theorem dX2_kindToSend_12 : decode cX2_kindToSend 12 = .ok (.bipush (-2), 2) := by decide +kernel
theorem dX2_kindToSend_14 : decode cX2_kindToSend 14 = .ok (.if_icmp .eq 9, 3) := by decide +kernel
theorem dX2_kindToSend_17 : decode cX2_kindToSend 17 = .ok (.iload_n 2, 1) := by decide +kernel
theorem dX2_kindToSend_18 : decode cX2_kindToSend 18 = .ok (.bipush (-3), 2) := by decide +kernel
theorem dX2_kindToSend_20 : decode cX2_kindToSend 20 = .ok (.if_icmp .ne 14, 3) := by decide +kernel
theorem dX2_kindToSend_23 : decode cX2_kindToSend 23 = .ok (.aload_n 0, 1) := by decide +kernel
theorem dX2_kindToSend_24 : decode cX2_kindToSend 24 = .ok (.aload_n 1, 1) := by decide +kernel
theorem dX2_kindToSend_25 : decode cX2_kindToSend 25 = .ok (.getfield 115, 3) := by decide +kernel
theorem dX2_kindToSend_28 : decode cX2_kindToSend 28 = .ok (.invokevirtual 244, 3) := by decide +kernel
theorem dX2_kindToSend_31 : decode cX2_kindToSend 31 = .ok (.goto 4, 3) := by decide +kernel
theorem dX2_kindToSend_34 : decode cX2_kindToSend 34 = .ok (.iload_n 2, 1) := by decide +kernel
theorem dX2_kindToSend_35 : decode cX2_kindToSend 35 = .ok (.ireturn, 1) := by decide +kernel
set_option maxRecDepth 100000 in
set_option maxHeartbeats 4000000 in
theorem tX2_kindToSend {T : tyT} {R : Nat} {J : Nat → Prop} {Bc Bs : Nat} {M : gMd} {z : Nat → Nat} {hp : List gA} {a0 : Nat} {a1 : Nat} {a2 : Int32}  (H : tyS T R J Bc Bs M z hp) (hk0 : tyK a0 = (5, 0)) (hk1 : tyK a1 = (5, 0))  : gM yX2_kindToSend cX2_kindToSend 3 ((some .int)) 2 43 [.ref a0, .ref a1, .int a2] (hp) (0) (0) (fun v h => ∃ x, v = some (.int x) ∧ tyS T R J Bc Bs M z h) := by
  refine gM_of (ls0 := [some (.ref a0), some (.ref a1), some (.int a2)]) (by decide +kernel) (Nat.le_of_ble_eq_true rfl) rfl fun X C E => ?_
  have J_23 : ∀ (y23_2 : Int32) (hJ23 : List gA), tyS T R J Bc Bs M z hJ23 → gG X 23 [some (.ref a0), some (.ref a1), some (.int y23_2)] [] hJ23 0 0 := by
    intro y23_2 hJ23 HJ23
    refine g_aload_n (q := 24) C dX2_kindToSend_23 rfl rfl ?_
    refine g_aload_n (q := 25) C dX2_kindToSend_24 rfl rfl ?_
    obtain ⟨x0_1, x1_1, x2_1, x3_1, x4_1, x5_1, x6_1, x7_1, x11_1, x12_1, x13_1, x14_1, o1, e1_0⟩ := tyG5 HJ23 hk1
    refine g_getfield (v := .int x3_1) (q := 28) C fX2_115 dX2_kindToSend_25 rfl o1 rfl ?_
    obtain ⟨x0_2, x1_2, x2_2, x3_2, x4_2, x5_2, x6_2, x7_2, x11_2, x12_2, x13_2, x14_2, o2, e2_0⟩ := tyG5 HJ23 hk0
    refine g_callVip (q := 31) (As := [.int x3_1]) C gyX5_cutNext gvX5_cutNext t_800 (tX5_cutNext HJ23 hk0) dX2_kindToSend_28 rfl o2 rfl rfl rfl (Nat.le_of_ble_eq_true rfl) (Nat.le_of_ble_eq_true rfl) (Nat.le_of_ble_eq_true rfl) (Nat.le_of_ble_eq_true rfl) (Nat.le_of_ble_eq_true rfl) rfl (fun x3 h3 q3 => ?_)
    have H3 := q3
    refine g_goto (q := 35) C dX2_kindToSend_31 (by decide) ?_
    exact E.1 _ _ _ _ _ _ _ dX2_kindToSend_35 rfl rfl (Nat.le_of_ble_eq_true rfl) (Nat.le_of_ble_eq_true rfl) ⟨_, rfl, H3⟩
  have J_11 : ∀ (y11_2 : Int32) (hJ11 : List gA), tyS T R J Bc Bs M z hJ11 → gG X 11 [some (.ref a0), some (.ref a1), some (.int y11_2)] [] hJ11 0 0 := by
    intro y11_2 hJ11 HJ11
    refine g_iload_n (q := 12) C dX2_kindToSend_11 rfl rfl ?_
    refine g_bipush (v := (-2)) (q := 14) C dX2_kindToSend_12 (by decide) rfl ?_
    refine g_icmp_eq (t := 23) (q := 17) C dX2_kindToSend_14 (by decide) rfl (fun c_14 => ?_) (fun c_14 => ?_)
    ·
      exact J_23 _ _  HJ11
    ·
      refine g_iload_n (q := 18) C dX2_kindToSend_17 rfl rfl ?_
      refine g_bipush (v := (-3)) (q := 20) C dX2_kindToSend_18 (by decide) rfl ?_
      refine g_icmp_ne (t := 34) (q := 23) C dX2_kindToSend_20 (by decide) rfl (fun c_20 => ?_) (fun c_20 => ?_)
      ·
        refine g_iload_n (q := 35) C dX2_kindToSend_34 rfl rfl ?_
        exact E.1 _ _ _ _ _ _ _ dX2_kindToSend_35 rfl rfl (Nat.le_of_ble_eq_true rfl) (Nat.le_of_ble_eq_true rfl) ⟨_, rfl, HJ11⟩
      ·
        exact J_23 _ _  HJ11
  refine g_iload_n (q := 1) C dX2_kindToSend_0 rfl rfl ?_
  refine g_bipush (v := (-2)) (q := 3) C dX2_kindToSend_1 (by decide) rfl ?_
  refine g_icmp_ne (t := 11) (q := 6) C dX2_kindToSend_3 (by decide) rfl (fun c_3 => ?_) (fun c_3 => ?_)
  ·
    exact J_11 _ _  H
  ·
    refine g_aload_n (q := 7) C dX2_kindToSend_6 rfl rfl ?_
    refine g_iconst (v := 0) (q := 8) C dX2_kindToSend_7 (by decide) rfl ?_
    obtain ⟨x0_4, x1_4, x2_4, x3_4, x4_4, x5_4, x6_4, x7_4, x11_4, x12_4, x13_4, x14_4, o4, e4_0⟩ := tyG5 H hk0
    refine g_putfield (q := 11) C fX2_105 dX2_kindToSend_8 rfl o4 (Nat.le_of_ble_eq_true rfl) (Or.inl rfl) rfl rfl (by intro z h; cases h) ?_
    refine tyP5 H hk0 rfl e4_0 (fun h5 _ _ H5 => ?_)
    exact J_11 _ _  H5
theorem dX2_compose_0 : decode cX2_compose 0 = .ok (.iload_n 2, 1) := by decide +kernel
theorem dX2_compose_1 : decode cX2_compose 1 = .ok (.sipush 224, 3) := by decide +kernel
theorem dX2_compose_4 : decode cX2_compose 4 = .ok (.if_icmp .lt 14, 3) := by decide +kernel
theorem dX2_compose_7 : decode cX2_compose 7 = .ok (.aload_n 0, 1) := by decide +kernel
theorem dX2_compose_8 : decode cX2_compose 8 = .ok (.getfield 55, 3) := by decide +kernel
theorem dX2_compose_11 : decode cX2_compose 11 = .ok (.iconst 3, 1) := by decide +kernel
theorem dX2_compose_12 : decode cX2_compose 12 = .ok (.invokevirtual 156, 3) := by decide +kernel
theorem dX2_compose_15 : decode cX2_compose 15 = .ok (.goto 7, 3) := by decide +kernel
theorem dX2_compose_18 : decode cX2_compose 18 = .ok (.aload_n 1, 1) := by decide +kernel
theorem dX2_compose_19 : decode cX2_compose 19 = .ok (.getfield 194, 3) := by decide +kernel
theorem dX2_compose_22 : decode cX2_compose 22 = .ok (.istore_n 3, 1) := by decide +kernel
theorem dX2_compose_23 : decode cX2_compose 23 = .ok (.aload_n 0, 1) := by decide +kernel
theorem dX2_compose_24 : decode cX2_compose 24 = .ok (.getfield 51, 3) := by decide +kernel
theorem dX2_compose_27 : decode cX2_compose 27 = .ok (.iconst 0, 1) := by decide +kernel
theorem dX2_compose_28 : decode cX2_compose 28 = .ok (.invokevirtual 89, 3) := by decide +kernel
theorem dX2_compose_31 : decode cX2_compose 31 = .ok (.aload_n 0, 1) := by decide +kernel
theorem dX2_compose_32 : decode cX2_compose 32 = .ok (.getfield 51, 3) := by decide +kernel
theorem dX2_compose_35 : decode cX2_compose 35 = .ok (.iconst 0, 1) := by decide +kernel
theorem dX2_compose_36 : decode cX2_compose 36 = .ok (.invokevirtual 241, 3) := by decide +kernel
theorem dX2_compose_39 : decode cX2_compose 39 = .ok (.aload_n 0, 1) := by decide +kernel
theorem dX2_compose_40 : decode cX2_compose 40 = .ok (.getfield 51, 3) := by decide +kernel
theorem dX2_compose_43 : decode cX2_compose 43 = .ok (.iload_n 2, 1) := by decide +kernel
theorem dX2_compose_44 : decode cX2_compose 44 = .ok (.invokevirtual 241, 3) := by decide +kernel
theorem dX2_compose_47 : decode cX2_compose 47 = .ok (.iload_n 2, 1) := by decide +kernel
theorem dX2_compose_48 : decode cX2_compose 48 = .ok (.sipush 128, 3) := by decide +kernel
theorem dX2_compose_51 : decode cX2_compose 51 = .ok (.if_icmp .ge 56, 3) := by decide +kernel
theorem dX2_compose_54 : decode cX2_compose 54 = .ok (.aload_n 0, 1) := by decide +kernel
theorem dX2_compose_55 : decode cX2_compose 55 = .ok (.getfield 51, 3) := by decide +kernel
theorem dX2_compose_58 : decode cX2_compose 58 = .ok (.aload_n 1, 1) := by decide +kernel
theorem dX2_compose_59 : decode cX2_compose 59 = .ok (.invokevirtual 280, 3) := by decide +kernel
theorem dX2_compose_62 : decode cX2_compose 62 = .ok (.invokevirtual 241, 3) := by decide +kernel
theorem dX2_compose_65 : decode cX2_compose 65 = .ok (.iconst 0, 1) := by decide +kernel
theorem dX2_compose_66 : decode cX2_compose 66 = .ok (.istore 4, 2) := by decide +kernel
theorem dX2_compose_68 : decode cX2_compose 68 = .ok (.iload 4, 2) := by decide +kernel
theorem dX2_compose_70 : decode cX2_compose 70 = .ok (.aload_n 1, 1) := by decide +kernel
theorem dX2_compose_71 : decode cX2_compose 71 = .ok (.invokevirtual 280, 3) := by decide +kernel
theorem dX2_compose_74 : decode cX2_compose 74 = .ok (.if_icmp .ge 30, 3) := by decide +kernel
theorem dX2_compose_77 : decode cX2_compose 77 = .ok (.aload_n 0, 1) := by decide +kernel
theorem dX2_compose_78 : decode cX2_compose 78 = .ok (.getfield 51, 3) := by decide +kernel
theorem dX2_compose_81 : decode cX2_compose 81 = .ok (.aload_n 1, 1) := by decide +kernel
theorem dX2_compose_82 : decode cX2_compose 82 = .ok (.getfield 102, 3) := by decide +kernel
theorem dX2_compose_85 : decode cX2_compose 85 = .ok (.aload_n 1, 1) := by decide +kernel
theorem dX2_compose_86 : decode cX2_compose 86 = .ok (.getfield 105, 3) := by decide +kernel
theorem dX2_compose_89 : decode cX2_compose 89 = .ok (.iload 4, 2) := by decide +kernel
theorem dX2_compose_91 : decode cX2_compose 91 = .ok (.iadd, 1) := by decide +kernel
theorem dX2_compose_92 : decode cX2_compose 92 = .ok (.invokevirtual 156, 3) := by decide +kernel
theorem dX2_compose_95 : decode cX2_compose 95 = .ok (.invokevirtual 241, 3) := by decide +kernel
theorem dX2_compose_98 : decode cX2_compose 98 = .ok (.iinc 4 1, 3) := by decide +kernel
theorem dX2_compose_101 : decode cX2_compose 101 = .ok (.goto (-33), 3) := by decide +kernel
theorem dX2_compose_104 : decode cX2_compose 104 = .ok (.goto 37, 3) := by decide +kernel
theorem dX2_compose_107 : decode cX2_compose 107 = .ok (.iload_n 2, 1) := by decide +kernel
theorem dX2_compose_108 : decode cX2_compose 108 = .ok (.invokestatic 283, 3) := by decide +kernel
theorem dX2_compose_111 : decode cX2_compose 111 = .ok (.ifCond .eq 22, 3) := by decide +kernel
theorem dX2_compose_114 : decode cX2_compose 114 = .ok (.aload_n 0, 1) := by decide +kernel
theorem dX2_compose_115 : decode cX2_compose 115 = .ok (.getfield 51, 3) := by decide +kernel
theorem dX2_compose_118 : decode cX2_compose 118 = .ok (.iconst 1, 1) := by decide +kernel
theorem dX2_compose_119 : decode cX2_compose 119 = .ok (.invokevirtual 241, 3) := by decide +kernel
theorem dX2_compose_122 : decode cX2_compose 122 = .ok (.aload_n 0, 1) := by decide +kernel
theorem dX2_compose_123 : decode cX2_compose 123 = .ok (.getfield 51, 3) := by decide +kernel
theorem dX2_compose_126 : decode cX2_compose 126 = .ok (.iload_n 3, 1) := by decide +kernel
theorem dX2_compose_127 : decode cX2_compose 127 = .ok (.invokevirtual 241, 3) := by decide +kernel
theorem dX2_compose_130 : decode cX2_compose 130 = .ok (.goto 11, 3) := by decide +kernel
theorem dX2_compose_133 : decode cX2_compose 133 = .ok (.aload_n 0, 1) := by decide +kernel
theorem dX2_compose_134 : decode cX2_compose 134 = .ok (.getfield 51, 3) := by decide +kernel
theorem dX2_compose_137 : decode cX2_compose 137 = .ok (.iconst 0, 1) := by decide +kernel
theorem dX2_compose_138 : decode cX2_compose 138 = .ok (.invokevirtual 241, 3) := by decide +kernel
theorem dX2_compose_141 : decode cX2_compose 141 = .ok (.aload_n 0, 1) := by decide +kernel
theorem dX2_compose_142 : decode cX2_compose 142 = .ok (.getfield 51, 3) := by decide +kernel
theorem dX2_compose_145 : decode cX2_compose 145 = .ok (.aload_n 0, 1) := by decide +kernel
theorem dX2_compose_146 : decode cX2_compose 146 = .ok (.getfield 51, 3) := by decide +kernel
theorem dX2_compose_149 : decode cX2_compose 149 = .ok (.iconst 0, 1) := by decide +kernel
theorem dX2_compose_150 : decode cX2_compose 150 = .ok (.invokevirtual 287, 3) := by decide +kernel
theorem dX2_compose_153 : decode cX2_compose 153 = .ok (.invokevirtual 241, 3) := by decide +kernel
theorem dX2_compose_156 : decode cX2_compose 156 = .ok (.return_, 1) := by decide +kernel
set_option maxRecDepth 100000 in
set_option maxHeartbeats 4000000 in
theorem tX2_compose {T : tyT} {R : Nat} {J : Nat → Prop} {Bc Bs : Nat} {M : gMd} {z : Nat → Nat} {hp : List gA} {o : Nat} {a0 : Nat} {a1 : Int32}  (H : tyS T R J Bc Bs M z hp) (hk : tyK o = (7, 0)) (hk0 : tyK a0 = (5, 0))  : gM yX2_compose cX2_compose 5 (none) 3 103 [.ref o, .ref a0, .int a1] (hp) (0) (0) (fun v h => v = none ∧ tyS T R J Bc Bs M z h) := by
  refine gM_of (ls0 := [some (.ref o), some (.ref a0), some (.int a1), none, none]) (by decide +kernel) (Nat.le_of_ble_eq_true rfl) rfl fun X C E => ?_
  have J_141 : ∀ (y141_2 y141_3 : Int32) (hJ141 : List gA), tyS T R J Bc Bs M z hJ141 → gG X 141 [some (.ref o), some (.ref a0), some (.int y141_2), some (.int y141_3), none] [] hJ141 0 0 := by
    intro y141_2 y141_3 hJ141 HJ141
    refine g_aload_n (q := 142) C dX2_compose_141 rfl rfl ?_
    obtain ⟨x3_1, x4_1, x5_1, x6_1, x7_1, x11_1, x12_1, x13_1, x14_1, x15_1, x16_1, x17_1, jv_1, o1, e1_0, e1_1, e1_2, e1_3⟩ := tyG2 HJ141 hk
    refine g_getfield (v := .ref ((o + 19))) (q := 145) C fX2_51 dX2_compose_142 rfl o1 rfl ?_
    refine g_aload_n (q := 146) C dX2_compose_145 rfl rfl ?_
    refine g_getfield (v := .ref ((o + 19))) (q := 149) C fX2_51 dX2_compose_146 rfl o1 rfl ?_
    refine g_iconst (v := 0) (q := 150) C dX2_compose_149 (by decide) rfl ?_
    obtain ⟨l2, g2, -⟩ := tyRow HJ141 (tyF2_8 hk)
    refine g_callVip (q := 153) (As := [.int 0]) C gyX4_xor gvX4_xor t_819 (tX4_xor HJ141 (tyF2_8 hk)) dX2_compose_150 rfl g2.obj rfl rfl rfl (Nat.le_of_ble_eq_true rfl) (Nat.le_of_ble_eq_true rfl) (Nat.le_of_ble_eq_true rfl) (Nat.le_of_ble_eq_true rfl) (Nat.le_of_ble_eq_true rfl) rfl (fun x3 h3 q3 => ?_)
    subst q3
    refine g_callVvp (q := 156) (As := [.int x3]) C gyX4_add gvX4_add t_811 (tX4_add HJ141 (tyF2_8 hk) (by decide)) dX2_compose_153 rfl g2.obj rfl rfl rfl (Nat.le_of_ble_eq_true rfl) (Nat.le_of_ble_eq_true rfl) (Nat.le_of_ble_eq_true rfl) (Nat.le_of_ble_eq_true rfl) (Nat.le_of_ble_eq_true rfl) rfl (fun h4 q4 => ?_)
    have H4 := q4
    exact E.2.1 _ _ _ _ _ dX2_compose_156 rfl (Nat.le_of_ble_eq_true rfl) (Nat.le_of_ble_eq_true rfl) ⟨rfl, H4⟩
  have J_68 : ∀ (d68 : Nat) (y68_2 y68_3 y68_4 : Int32) (hJ68 : List gA), (2147483647 - y68_4.toInt).toNat = d68 → ∀ (_ : True), tyS T R J Bc Bs M z hJ68 → gG X 68 [some (.ref o), some (.ref a0), some (.int y68_2), some (.int y68_3), some (.int y68_4)] [] hJ68 0 0 := by
    intro d68
    induction d68 using Nat.strongRecOn with
    | _ d68 ih68 =>
    intro y68_2 y68_3 y68_4 hJ68 hd68 _ HJ68
    refine g_iload (q := 70) C dX2_compose_68 rfl rfl ?_
    refine g_aload_n (q := 71) C dX2_compose_70 rfl rfl ?_
    obtain ⟨x0_5, x1_5, x2_5, x3_5, x4_5, x5_5, x6_5, x7_5, x11_5, x12_5, x13_5, x14_5, o5, e5_0⟩ := tyG5 HJ68 hk0
    refine g_callVip (q := 74) (As := []) C gyX5_pendingSize gvX5_pendingSize t_812 (tX5_pendingSize HJ68 hk0) dX2_compose_71 rfl o5 rfl rfl rfl (Nat.le_of_ble_eq_true rfl) (Nat.le_of_ble_eq_true rfl) (Nat.le_of_ble_eq_true rfl) (Nat.le_of_ble_eq_true rfl) (Nat.le_of_ble_eq_true rfl) rfl (fun x6 h6 q6 => ?_)
    have H6 := q6
    refine g_icmp_ge (t := 104) (q := 77) C dX2_compose_74 (by decide) rfl (fun c_74 => ?_) (fun c_74 => ?_)
    ·
      have i_74 := Int32.le_iff_toInt_le.mp c_74
      refine g_goto (q := 141) C dX2_compose_104 (by decide) ?_
      refine g_forget (ls' := [some (.ref o), some (.ref a0), some (.int y68_2), some (.int y68_3), none]) rfl (gfK (gfK (gfK (gfK (gfD gfN))))) ?_
      exact J_141 _ _ _  H6
    ·
      have i_74 := mt Int32.le_iff_toInt_le.mpr c_74
      refine g_aload_n (q := 78) C dX2_compose_77 rfl rfl ?_
      obtain ⟨x3_7, x4_7, x5_7, x6_7, x7_7, x11_7, x12_7, x13_7, x14_7, x15_7, x16_7, x17_7, jv_7, o7, e7_0, e7_1, e7_2, e7_3⟩ := tyG2 H6 hk
      refine g_getfield (v := .ref ((o + 19))) (q := 81) C fX2_51 dX2_compose_78 rfl o7 rfl ?_
      refine g_aload_n (q := 82) C dX2_compose_81 rfl rfl ?_
      obtain ⟨x0_8, x1_8, x2_8, x3_8, x4_8, x5_8, x6_8, x7_8, x11_8, x12_8, x13_8, x14_8, o8, e8_0⟩ := tyG5 H6 hk0
      refine g_getfieldW (v := .ref ((a0 + 1))) (q := 85) C fX2_102 dX2_compose_82 rfl o8 rfl ?_
      refine g_aload_n (q := 86) C dX2_compose_85 rfl rfl ?_
      refine g_getfield (v := .int x4_8) (q := 89) C fX2_105 dX2_compose_86 rfl o8 rfl ?_
      refine g_iload (q := 91) C dX2_compose_89 rfl rfl ?_
      refine g_iadd (q := 92) C dX2_compose_91 rfl ?_
      obtain ⟨l9, g9, -⟩ := tyRow H6 (tyF5_8 hk0)
      refine g_callVip (q := 95) (As := [.int (x4_8 + y68_4)]) C gyX4_at gvX4_at t_722 (tX4_at H6 (tyF5_8 hk0)) dX2_compose_92 rfl g9.obj rfl rfl rfl (Nat.le_of_ble_eq_true rfl) (Nat.le_of_ble_eq_true rfl) (Nat.le_of_ble_eq_true rfl) (Nat.le_of_ble_eq_true rfl) (Nat.le_of_ble_eq_true rfl) rfl (fun x10 h10 q10 => ?_)
      subst q10
      obtain ⟨l11, g11, -⟩ := tyRow H6 (tyF2_8 hk)
      refine g_callVvp (q := 98) (As := [.int x10]) C gyX4_add gvX4_add t_811 (tX4_add H6 (tyF2_8 hk) (by decide)) dX2_compose_95 rfl g11.obj rfl rfl rfl (Nat.le_of_ble_eq_true rfl) (Nat.le_of_ble_eq_true rfl) (Nat.le_of_ble_eq_true rfl) (Nat.le_of_ble_eq_true rfl) (Nat.le_of_ble_eq_true rfl) rfl (fun h12 q12 => ?_)
      have H12 := q12
      refine g_iinc (v := y68_4 + 1) (q := 101) C dX2_compose_98 rfl rfl (by simp only [gset]; rfl) rfl ?_
      refine g_goto (q := 68) C dX2_compose_101 (by decide) ?_
      exact ih68 _ (tyUp' hd68 c_74) _ _ _ _ rfl trivial H12
  have J_22 : ∀ (y22_2 s22_0 : Int32) (hJ22 : List gA), tyS T R J Bc Bs M z hJ22 → gG X 22 [some (.ref o), some (.ref a0), some (.int y22_2), none, none] [.int s22_0] hJ22 0 0 := by
    intro y22_2 s22_0 hJ22 HJ22
    refine g_istore_n (q := 23) C dX2_compose_22 (Nat.le_of_ble_eq_true rfl) (by simp only [gset]; rfl) rfl ?_
    refine g_aload_n (q := 24) C dX2_compose_23 rfl rfl ?_
    obtain ⟨x3_13, x4_13, x5_13, x6_13, x7_13, x11_13, x12_13, x13_13, x14_13, x15_13, x16_13, x17_13, jv_13, o13, e13_0, e13_1, e13_2, e13_3⟩ := tyG2 HJ22 hk
    refine g_getfield (v := .ref ((o + 19))) (q := 27) C fX2_51 dX2_compose_24 rfl o13 rfl ?_
    refine g_iconst (v := 0) (q := 28) C dX2_compose_27 (by decide) rfl ?_
    obtain ⟨l14, g14, -⟩ := tyRow HJ22 (tyF2_8 hk)
    refine g_callVvp (q := 31) (As := [.int 0]) C gyX4_keep gvX4_keep t_586 (tX4_keep HJ22 (tyF2_8 hk) (by decide)) dX2_compose_28 rfl g14.obj rfl rfl rfl (Nat.le_of_ble_eq_true rfl) (Nat.le_of_ble_eq_true rfl) (Nat.le_of_ble_eq_true rfl) (Nat.le_of_ble_eq_true rfl) (Nat.le_of_ble_eq_true rfl) rfl (fun h15 q15 => ?_)
    have H15 := q15
    refine g_aload_n (q := 32) C dX2_compose_31 rfl rfl ?_
    obtain ⟨x3_16, x4_16, x5_16, x6_16, x7_16, x11_16, x12_16, x13_16, x14_16, x15_16, x16_16, x17_16, jv_16, o16, e16_0, e16_1, e16_2, e16_3⟩ := tyG2 H15 hk
    refine g_getfield (v := .ref ((o + 19))) (q := 35) C fX2_51 dX2_compose_32 rfl o16 rfl ?_
    refine g_iconst (v := 0) (q := 36) C dX2_compose_35 (by decide) rfl ?_
    obtain ⟨l17, g17, -⟩ := tyRow H15 (tyF2_8 hk)
    refine g_callVvp (q := 39) (As := [.int 0]) C gyX4_add gvX4_add t_811 (tX4_add H15 (tyF2_8 hk) (by decide)) dX2_compose_36 rfl g17.obj rfl rfl rfl (Nat.le_of_ble_eq_true rfl) (Nat.le_of_ble_eq_true rfl) (Nat.le_of_ble_eq_true rfl) (Nat.le_of_ble_eq_true rfl) (Nat.le_of_ble_eq_true rfl) rfl (fun h18 q18 => ?_)
    have H18 := q18
    refine g_aload_n (q := 40) C dX2_compose_39 rfl rfl ?_
    obtain ⟨x3_19, x4_19, x5_19, x6_19, x7_19, x11_19, x12_19, x13_19, x14_19, x15_19, x16_19, x17_19, jv_19, o19, e19_0, e19_1, e19_2, e19_3⟩ := tyG2 H18 hk
    refine g_getfield (v := .ref ((o + 19))) (q := 43) C fX2_51 dX2_compose_40 rfl o19 rfl ?_
    refine g_iload_n (q := 44) C dX2_compose_43 rfl rfl ?_
    obtain ⟨l20, g20, -⟩ := tyRow H18 (tyF2_8 hk)
    refine g_callVvp (q := 47) (As := [.int y22_2]) C gyX4_add gvX4_add t_811 (tX4_add H18 (tyF2_8 hk) (by decide)) dX2_compose_44 rfl g20.obj rfl rfl rfl (Nat.le_of_ble_eq_true rfl) (Nat.le_of_ble_eq_true rfl) (Nat.le_of_ble_eq_true rfl) (Nat.le_of_ble_eq_true rfl) (Nat.le_of_ble_eq_true rfl) rfl (fun h21 q21 => ?_)
    have H21 := q21
    refine g_iload_n (q := 48) C dX2_compose_47 rfl rfl ?_
    refine g_sipush (v := 128) (q := 51) C dX2_compose_48 (by decide) rfl ?_
    refine g_icmp_ge (t := 107) (q := 54) C dX2_compose_51 (by decide) rfl (fun c_51 => ?_) (fun c_51 => ?_)
    ·
      have i_51 := Int32.le_iff_toInt_le.mp c_51
      refine g_iload_n (q := 108) C dX2_compose_107 rfl rfl ?_
      refine g_callSip (q := 111) (As := [.int y22_2]) C gyX2_hasInf t_817 t_816 (tX2_hasInf H21) dX2_compose_108 rfl rfl rfl (Nat.le_of_ble_eq_true rfl) (Nat.le_of_ble_eq_true rfl) (Nat.le_of_ble_eq_true rfl) (Nat.le_of_ble_eq_true rfl) (Nat.le_of_ble_eq_true rfl) rfl (fun x22 h22 q22 => ?_)
      obtain ⟨b22, H22⟩ := q22
      refine g_if_eq (t := 133) (q := 114) C dX2_compose_111 (by decide) rfl (fun c_111 => ?_) (fun c_111 => ?_)
      ·
        refine g_aload_n (q := 134) C dX2_compose_133 rfl rfl ?_
        obtain ⟨x3_23, x4_23, x5_23, x6_23, x7_23, x11_23, x12_23, x13_23, x14_23, x15_23, x16_23, x17_23, jv_23, o23, e23_0, e23_1, e23_2, e23_3⟩ := tyG2 H22 hk
        refine g_getfield (v := .ref ((o + 19))) (q := 137) C fX2_51 dX2_compose_134 rfl o23 rfl ?_
        refine g_iconst (v := 0) (q := 138) C dX2_compose_137 (by decide) rfl ?_
        obtain ⟨l24, g24, -⟩ := tyRow H22 (tyF2_8 hk)
        refine g_callVvp (q := 141) (As := [.int 0]) C gyX4_add gvX4_add t_811 (tX4_add H22 (tyF2_8 hk) (by decide)) dX2_compose_138 rfl g24.obj rfl rfl rfl (Nat.le_of_ble_eq_true rfl) (Nat.le_of_ble_eq_true rfl) (Nat.le_of_ble_eq_true rfl) (Nat.le_of_ble_eq_true rfl) (Nat.le_of_ble_eq_true rfl) rfl (fun h25 q25 => ?_)
        have H25 := q25
        exact J_141 _ _ _  H25
      ·
        refine g_aload_n (q := 115) C dX2_compose_114 rfl rfl ?_
        obtain ⟨x3_26, x4_26, x5_26, x6_26, x7_26, x11_26, x12_26, x13_26, x14_26, x15_26, x16_26, x17_26, jv_26, o26, e26_0, e26_1, e26_2, e26_3⟩ := tyG2 H22 hk
        refine g_getfield (v := .ref ((o + 19))) (q := 118) C fX2_51 dX2_compose_115 rfl o26 rfl ?_
        refine g_iconst (v := 1) (q := 119) C dX2_compose_118 (by decide) rfl ?_
        obtain ⟨l27, g27, -⟩ := tyRow H22 (tyF2_8 hk)
        refine g_callVvp (q := 122) (As := [.int 1]) C gyX4_add gvX4_add t_811 (tX4_add H22 (tyF2_8 hk) (by decide)) dX2_compose_119 rfl g27.obj rfl rfl rfl (Nat.le_of_ble_eq_true rfl) (Nat.le_of_ble_eq_true rfl) (Nat.le_of_ble_eq_true rfl) (Nat.le_of_ble_eq_true rfl) (Nat.le_of_ble_eq_true rfl) rfl (fun h28 q28 => ?_)
        have H28 := q28
        refine g_aload_n (q := 123) C dX2_compose_122 rfl rfl ?_
        obtain ⟨x3_29, x4_29, x5_29, x6_29, x7_29, x11_29, x12_29, x13_29, x14_29, x15_29, x16_29, x17_29, jv_29, o29, e29_0, e29_1, e29_2, e29_3⟩ := tyG2 H28 hk
        refine g_getfield (v := .ref ((o + 19))) (q := 126) C fX2_51 dX2_compose_123 rfl o29 rfl ?_
        refine g_iload_n (q := 127) C dX2_compose_126 rfl rfl ?_
        obtain ⟨l30, g30, -⟩ := tyRow H28 (tyF2_8 hk)
        refine g_callVvp (q := 130) (As := [.int s22_0]) C gyX4_add gvX4_add t_811 (tX4_add H28 (tyF2_8 hk) (by decide)) dX2_compose_127 rfl g30.obj rfl rfl rfl (Nat.le_of_ble_eq_true rfl) (Nat.le_of_ble_eq_true rfl) (Nat.le_of_ble_eq_true rfl) (Nat.le_of_ble_eq_true rfl) (Nat.le_of_ble_eq_true rfl) rfl (fun h31 q31 => ?_)
        have H31 := q31
        refine g_goto (q := 141) C dX2_compose_130 (by decide) ?_
        exact J_141 _ _ _  H31
    ·
      have i_51 := mt Int32.le_iff_toInt_le.mpr c_51
      refine g_aload_n (q := 55) C dX2_compose_54 rfl rfl ?_
      obtain ⟨x3_32, x4_32, x5_32, x6_32, x7_32, x11_32, x12_32, x13_32, x14_32, x15_32, x16_32, x17_32, jv_32, o32, e32_0, e32_1, e32_2, e32_3⟩ := tyG2 H21 hk
      refine g_getfield (v := .ref ((o + 19))) (q := 58) C fX2_51 dX2_compose_55 rfl o32 rfl ?_
      refine g_aload_n (q := 59) C dX2_compose_58 rfl rfl ?_
      obtain ⟨x0_33, x1_33, x2_33, x3_33, x4_33, x5_33, x6_33, x7_33, x11_33, x12_33, x13_33, x14_33, o33, e33_0⟩ := tyG5 H21 hk0
      refine g_callVip (q := 62) (As := []) C gyX5_pendingSize gvX5_pendingSize t_812 (tX5_pendingSize H21 hk0) dX2_compose_59 rfl o33 rfl rfl rfl (Nat.le_of_ble_eq_true rfl) (Nat.le_of_ble_eq_true rfl) (Nat.le_of_ble_eq_true rfl) (Nat.le_of_ble_eq_true rfl) (Nat.le_of_ble_eq_true rfl) rfl (fun x34 h34 q34 => ?_)
      have H34 := q34
      obtain ⟨l35, g35, -⟩ := tyRow H34 (tyF2_8 hk)
      refine g_callVvp (q := 65) (As := [.int x34]) C gyX4_add gvX4_add t_811 (tX4_add H34 (tyF2_8 hk) (by decide)) dX2_compose_62 rfl g35.obj rfl rfl rfl (Nat.le_of_ble_eq_true rfl) (Nat.le_of_ble_eq_true rfl) (Nat.le_of_ble_eq_true rfl) (Nat.le_of_ble_eq_true rfl) (Nat.le_of_ble_eq_true rfl) rfl (fun h36 q36 => ?_)
      have H36 := q36
      refine g_iconst (v := 0) (q := 66) C dX2_compose_65 (by decide) rfl ?_
      refine g_istore (q := 68) C dX2_compose_66 (Nat.le_of_ble_eq_true rfl) (by simp only [gset]; rfl) rfl ?_
      exact J_68 _ _ _ _ _ rfl trivial H36
  refine g_iload_n (q := 1) C dX2_compose_0 rfl rfl ?_
  refine g_sipush (v := 224) (q := 4) C dX2_compose_1 (by decide) rfl ?_
  refine g_icmp_lt (t := 18) (q := 7) C dX2_compose_4 (by decide) rfl (fun c_4 => ?_) (fun c_4 => ?_)
  ·
    have i_4 := Int32.lt_iff_toInt_lt.mp c_4
    refine g_aload_n (q := 19) C dX2_compose_18 rfl rfl ?_
    obtain ⟨x0_37, x1_37, x2_37, x3_37, x4_37, x5_37, x6_37, x7_37, x11_37, x12_37, x13_37, x14_37, o37, e37_0⟩ := tyG5 H hk0
    refine g_getfield (v := .int x6_37) (q := 22) C fX2_194 dX2_compose_19 rfl o37 rfl ?_
    exact J_22 _ _ _  H
  ·
    have i_4 := mt Int32.lt_iff_toInt_lt.mpr c_4
    refine g_aload_n (q := 8) C dX2_compose_7 rfl rfl ?_
    obtain ⟨x3_38, x4_38, x5_38, x6_38, x7_38, x11_38, x12_38, x13_38, x14_38, x15_38, x16_38, x17_38, jv_38, o38, e38_0, e38_1, e38_2, e38_3⟩ := tyG2 H hk
    refine g_getfield (v := .ref ((o + 21))) (q := 11) C fX2_55 dX2_compose_8 rfl o38 rfl ?_
    refine g_iconst (v := 3) (q := 12) C dX2_compose_11 (by decide) rfl ?_
    obtain ⟨l39, g39, -⟩ := tyRow H (tyF2_9 hk)
    refine g_callVip (q := 15) (As := [.int 3]) C gyX4_at gvX4_at t_722 (tX4_at H (tyF2_9 hk)) dX2_compose_12 rfl g39.obj rfl rfl rfl (Nat.le_of_ble_eq_true rfl) (Nat.le_of_ble_eq_true rfl) (Nat.le_of_ble_eq_true rfl) (Nat.le_of_ble_eq_true rfl) (Nat.le_of_ble_eq_true rfl) rfl (fun x40 h40 q40 => ?_)
    subst q40
    refine g_goto (q := 22) C dX2_compose_15 (by decide) ?_
    exact J_22 _ _ _  H
theorem dX2_doMessage_0 : decode cX2_doMessage 0 = .ok (.aload_n 0, 1) := by decide +kernel
theorem dX2_doMessage_1 : decode cX2_doMessage 1 = .ok (.getfield 20, 3) := by decide +kernel
theorem dX2_doMessage_4 : decode cX2_doMessage 4 = .ok (.getfield 235, 3) := by decide +kernel
theorem dX2_doMessage_7 : decode cX2_doMessage 7 = .ok (.astore_n 1, 1) := by decide +kernel
theorem dX2_doMessage_8 : decode cX2_doMessage 8 = .ok (.aload_n 1, 1) := by decide +kernel
theorem dX2_doMessage_9 : decode cX2_doMessage 9 = .ok (.iconst 1, 1) := by decide +kernel
theorem dX2_doMessage_10 : decode cX2_doMessage 10 = .ok (.invokevirtual 156, 3) := by decide +kernel
theorem dX2_doMessage_13 : decode cX2_doMessage 13 = .ok (.istore_n 2, 1) := by decide +kernel
theorem dX2_doMessage_14 : decode cX2_doMessage 14 = .ok (.aload_n 1, 1) := by decide +kernel
theorem dX2_doMessage_15 : decode cX2_doMessage 15 = .ok (.iconst 0, 1) := by decide +kernel
theorem dX2_doMessage_16 : decode cX2_doMessage 16 = .ok (.invokevirtual 156, 3) := by decide +kernel
theorem dX2_doMessage_19 : decode cX2_doMessage 19 = .ok (.bipush 7, 2) := by decide +kernel
theorem dX2_doMessage_21 : decode cX2_doMessage 21 = .ok (.iand, 1) := by decide +kernel
theorem dX2_doMessage_22 : decode cX2_doMessage 22 = .ok (.tableswitch 168 0 5 #[38, 52, 61, 120, 147, 157], 38) := by decide +kernel
theorem dX2_doMessage_60 : decode cX2_doMessage 60 = .ok (.aload_n 0, 1) := by decide +kernel
theorem dX2_doMessage_61 : decode cX2_doMessage 61 = .ok (.getfield 20, 3) := by decide +kernel
theorem dX2_doMessage_64 : decode cX2_doMessage 64 = .ok (.getfield 102, 3) := by decide +kernel
theorem dX2_doMessage_67 : decode cX2_doMessage 67 = .ok (.aload_n 1, 1) := by decide +kernel
theorem dX2_doMessage_68 : decode cX2_doMessage 68 = .ok (.invokevirtual 99, 3) := by decide +kernel
theorem dX2_doMessage_71 : decode cX2_doMessage 71 = .ok (.bipush (-2), 2) := by decide +kernel
theorem dX2_doMessage_73 : decode cX2_doMessage 73 = .ok (.ireturn, 1) := by decide +kernel
theorem dX2_doMessage_74 : decode cX2_doMessage 74 = .ok (.aload_n 0, 1) := by decide +kernel
theorem dX2_doMessage_75 : decode cX2_doMessage 75 = .ok (.iload_n 2, 1) := by decide +kernel
theorem dX2_doMessage_76 : decode cX2_doMessage 76 = .ok (.bipush 61, 2) := by decide +kernel
theorem dX2_doMessage_78 : decode cX2_doMessage 78 = .ok (.irem, 1) := by decide +kernel
theorem dX2_doMessage_79 : decode cX2_doMessage 79 = .ok (.invokevirtual 238, 3) := by decide +kernel
theorem dX2_doMessage_82 : decode cX2_doMessage 82 = .ok (.ireturn, 1) := by decide +kernel
theorem dX2_doMessage_83 : decode cX2_doMessage 83 = .ok (.aload_n 0, 1) := by decide +kernel
theorem dX2_doMessage_84 : decode cX2_doMessage 84 = .ok (.aload_n 1, 1) := by decide +kernel
theorem dX2_doMessage_85 : decode cX2_doMessage 85 = .ok (.invokevirtual 111, 3) := by decide +kernel
theorem dX2_doMessage_88 : decode cX2_doMessage 88 = .ok (.iconst 2, 1) := by decide +kernel
theorem dX2_doMessage_89 : decode cX2_doMessage 89 = .ok (.if_icmp .le 13, 3) := by decide +kernel
theorem dX2_doMessage_92 : decode cX2_doMessage 92 = .ok (.aload_n 1, 1) := by decide +kernel
theorem dX2_doMessage_93 : decode cX2_doMessage 93 = .ok (.iconst 2, 1) := by decide +kernel
theorem dX2_doMessage_94 : decode cX2_doMessage 94 = .ok (.invokevirtual 156, 3) := by decide +kernel
theorem dX2_doMessage_97 : decode cX2_doMessage 97 = .ok (.iconst 3, 1) := by decide +kernel
theorem dX2_doMessage_98 : decode cX2_doMessage 98 = .ok (.iand, 1) := by decide +kernel
theorem dX2_doMessage_99 : decode cX2_doMessage 99 = .ok (.goto 4, 3) := by decide +kernel
theorem dX2_doMessage_102 : decode cX2_doMessage 102 = .ok (.iconst 1, 1) := by decide +kernel
theorem dX2_doMessage_103 : decode cX2_doMessage 103 = .ok (.putfield 74, 3) := by decide +kernel
theorem dX2_doMessage_106 : decode cX2_doMessage 106 = .ok (.aload_n 0, 1) := by decide +kernel
theorem dX2_doMessage_107 : decode cX2_doMessage 107 = .ok (.getfield 74, 3) := by decide +kernel
theorem dX2_doMessage_110 : decode cX2_doMessage 110 = .ok (.ifCond .le 27, 3) := by decide +kernel
theorem dX2_doMessage_113 : decode cX2_doMessage 113 = .ok (.aload_n 0, 1) := by decide +kernel
theorem dX2_doMessage_114 : decode cX2_doMessage 114 = .ok (.getfield 20, 3) := by decide +kernel
theorem dX2_doMessage_117 : decode cX2_doMessage 117 = .ok (.iconst 3, 1) := by decide +kernel
theorem dX2_doMessage_118 : decode cX2_doMessage 118 = .ok (.aload_n 1, 1) := by decide +kernel
theorem dX2_doMessage_119 : decode cX2_doMessage 119 = .ok (.invokevirtual 111, 3) := by decide +kernel
theorem dX2_doMessage_122 : decode cX2_doMessage 122 = .ok (.iconst 1, 1) := by decide +kernel
theorem dX2_doMessage_123 : decode cX2_doMessage 123 = .ok (.if_icmp .le 7, 3) := by decide +kernel
theorem dX2_doMessage_126 : decode cX2_doMessage 126 = .ok (.iload_n 2, 1) := by decide +kernel
theorem dX2_doMessage_127 : decode cX2_doMessage 127 = .ok (.goto 4, 3) := by decide +kernel
theorem dX2_doMessage_130 : decode cX2_doMessage 130 = .ok (.iconst 1, 1) := by decide +kernel
theorem dX2_doMessage_131 : decode cX2_doMessage 131 = .ok (.invokevirtual 145, 3) := by decide +kernel
theorem dX2_doMessage_134 : decode cX2_doMessage 134 = .ok (.goto 7, 3) := by decide +kernel
theorem dX2_doMessage_137 : decode cX2_doMessage 137 = .ok (.aload_n 0, 1) := by decide +kernel
theorem dX2_doMessage_138 : decode cX2_doMessage 138 = .ok (.invokevirtual 201, 3) := by decide +kernel
theorem dX2_doMessage_141 : decode cX2_doMessage 141 = .ok (.ireturn, 1) := by decide +kernel
theorem dX2_doMessage_142 : decode cX2_doMessage 142 = .ok (.aload_n 0, 1) := by decide +kernel
theorem dX2_doMessage_143 : decode cX2_doMessage 143 = .ok (.getfield 20, 3) := by decide +kernel
theorem dX2_doMessage_146 : decode cX2_doMessage 146 = .ok (.iconst 1, 1) := by decide +kernel
theorem dX2_doMessage_147 : decode cX2_doMessage 147 = .ok (.iload_n 2, 1) := by decide +kernel
theorem dX2_doMessage_148 : decode cX2_doMessage 148 = .ok (.iconst 1, 1) := by decide +kernel
theorem dX2_doMessage_149 : decode cX2_doMessage 149 = .ok (.if_icmp .lt 14, 3) := by decide +kernel
theorem dX2_doMessage_152 : decode cX2_doMessage 152 = .ok (.iload_n 2, 1) := by decide +kernel
theorem dX2_doMessage_153 : decode cX2_doMessage 153 = .ok (.sipush 254, 3) := by decide +kernel
theorem dX2_doMessage_156 : decode cX2_doMessage 156 = .ok (.if_icmp .gt 7, 3) := by decide +kernel
theorem dX2_doMessage_159 : decode cX2_doMessage 159 = .ok (.iload_n 2, 1) := by decide +kernel
theorem dX2_doMessage_160 : decode cX2_doMessage 160 = .ok (.goto 5, 3) := by decide +kernel
theorem dX2_doMessage_163 : decode cX2_doMessage 163 = .ok (.bipush 32, 2) := by decide +kernel
theorem dX2_doMessage_165 : decode cX2_doMessage 165 = .ok (.invokevirtual 145, 3) := by decide +kernel
theorem dX2_doMessage_168 : decode cX2_doMessage 168 = .ok (.ireturn, 1) := by decide +kernel
theorem dX2_doMessage_169 : decode cX2_doMessage 169 = .ok (.aload_n 0, 1) := by decide +kernel
theorem dX2_doMessage_170 : decode cX2_doMessage 170 = .ok (.getfield 20, 3) := by decide +kernel
theorem dX2_doMessage_173 : decode cX2_doMessage 173 = .ok (.iconst 2, 1) := by decide +kernel
theorem dX2_doMessage_174 : decode cX2_doMessage 174 = .ok (.iconst 0, 1) := by decide +kernel
theorem dX2_doMessage_175 : decode cX2_doMessage 175 = .ok (.invokevirtual 145, 3) := by decide +kernel
theorem dX2_doMessage_178 : decode cX2_doMessage 178 = .ok (.ireturn, 1) := by decide +kernel
theorem dX2_doMessage_179 : decode cX2_doMessage 179 = .ok (.aload_n 0, 1) := by decide +kernel
theorem dX2_doMessage_180 : decode cX2_doMessage 180 = .ok (.iload_n 2, 1) := by decide +kernel
theorem dX2_doMessage_181 : decode cX2_doMessage 181 = .ok (.iconst 3, 1) := by decide +kernel
theorem dX2_doMessage_182 : decode cX2_doMessage 182 = .ok (.iand, 1) := by decide +kernel
theorem dX2_doMessage_183 : decode cX2_doMessage 183 = .ok (.iconst 1, 1) := by decide +kernel
theorem dX2_doMessage_184 : decode cX2_doMessage 184 = .ok (.iadd, 1) := by decide +kernel
theorem dX2_doMessage_185 : decode cX2_doMessage 185 = .ok (.putfield 77, 3) := by decide +kernel
theorem dX2_doMessage_188 : decode cX2_doMessage 188 = .ok (.iconst (-1), 1) := by decide +kernel
theorem dX2_doMessage_189 : decode cX2_doMessage 189 = .ok (.ireturn, 1) := by decide +kernel
theorem dX2_doMessage_190 : decode cX2_doMessage 190 = .ok (.aload_n 0, 1) := by decide +kernel
theorem dX2_doMessage_191 : decode cX2_doMessage 191 = .ok (.getfield 20, 3) := by decide +kernel
theorem dX2_doMessage_194 : decode cX2_doMessage 194 = .ok (.getfield 102, 3) := by decide +kernel
theorem dX2_doMessage_197 : decode cX2_doMessage 197 = .ok (.iconst 0, 1) := by decide +kernel
theorem dX2_doMessage_198 : decode cX2_doMessage 198 = .ok (.invokevirtual 89, 3) := by decide +kernel
theorem dX2_doMessage_201 : decode cX2_doMessage 201 = .ok (.aload_n 0, 1) := by decide +kernel
theorem dX2_doMessage_202 : decode cX2_doMessage 202 = .ok (.getfield 20, 3) := by decide +kernel
theorem dX2_doMessage_205 : decode cX2_doMessage 205 = .ok (.getfield 102, 3) := by decide +kernel
theorem dX2_doMessage_208 : decode cX2_doMessage 208 = .ok (.aload_n 1, 1) := by decide +kernel
theorem dX2_doMessage_209 : decode cX2_doMessage 209 = .ok (.iconst 0, 1) := by decide +kernel
theorem dX2_doMessage_210 : decode cX2_doMessage 210 = .ok (.invokevirtual 156, 3) := by decide +kernel
theorem dX2_doMessage_213 : decode cX2_doMessage 213 = .ok (.invokevirtual 241, 3) := by decide +kernel
theorem dX2_doMessage_216 : decode cX2_doMessage 216 = .ok (.aload_n 0, 1) := by decide +kernel
theorem dX2_doMessage_217 : decode cX2_doMessage 217 = .ok (.getfield 20, 3) := by decide +kernel
theorem dX2_doMessage_220 : decode cX2_doMessage 220 = .ok (.getfield 102, 3) := by decide +kernel
theorem dX2_doMessage_223 : decode cX2_doMessage 223 = .ok (.aload_n 1, 1) := by decide +kernel
theorem dX2_doMessage_224 : decode cX2_doMessage 224 = .ok (.invokevirtual 111, 3) := by decide +kernel
theorem dX2_doMessage_227 : decode cX2_doMessage 227 = .ok (.invokevirtual 241, 3) := by decide +kernel
theorem dX2_doMessage_230 : decode cX2_doMessage 230 = .ok (.bipush (-2), 2) := by decide +kernel
theorem dX2_doMessage_232 : decode cX2_doMessage 232 = .ok (.ireturn, 1) := by decide +kernel
set_option maxRecDepth 100000 in
set_option maxHeartbeats 4000000 in
theorem tX2_doMessage {T : tyT} {R : Nat} {J : Nat → Prop} {Bc Bs : Nat} {M : gMd} {z : Nat → Nat} {hp : List gA} {o : Nat}  (H : tyS T R J Bc Bs M z hp) (hk : tyK o = (7, 0))  : gM yX2_doMessage cX2_doMessage 3 ((some .int)) 4 125 [.ref o] (hp) (0) (0) (fun v h => ∃ x, v = some (.int x) ∧ tyS T R J Bc Bs M z h) := by
  refine gM_of (ls0 := [some (.ref o), none, none]) (by decide +kernel) (Nat.le_of_ble_eq_true rfl) rfl fun X C E => ?_
  have J_165 : ∀ (y165_2 s165_0 s165_1 : Int32) (bs165_1 : s165_1 = 0 ∨ s165_1 = 1) (y165_1 : Nat) (ky165_1 : tyK y165_1 = (1, 60)) (hJ165 : List gA), tyS T R J Bc Bs M z hJ165 → gG X 165 [some (.ref o), some (.ref y165_1), some (.int y165_2)] [.int s165_0, .int s165_1, .ref ((o + 8))] hJ165 0 0 := by
    intro y165_2 s165_0 s165_1 bs165_1 y165_1 ky165_1 hJ165 HJ165
    obtain ⟨x0_1, x1_1, x2_1, x3_1, x4_1, x5_1, x6_1, x7_1, x11_1, x12_1, x13_1, x14_1, o1, e1_0⟩ := tyG5 HJ165 (tyF2_1 hk)
    refine g_callVip (q := 168) (As := [.int s165_1, .int s165_0]) C gyX5_ask gvX5_ask t_701 (tX5_ask HJ165 (tyF2_1 hk)) dX2_doMessage_165 rfl o1 rfl rfl rfl (Nat.le_of_ble_eq_true rfl) (Nat.le_of_ble_eq_true rfl) (Nat.le_of_ble_eq_true rfl) (Nat.le_of_ble_eq_true rfl) (Nat.le_of_ble_eq_true rfl) rfl (fun x2 h2 q2 => ?_)
    have H2 := q2
    exact E.1 _ _ _ _ _ _ _ dX2_doMessage_168 rfl rfl (Nat.le_of_ble_eq_true rfl) (Nat.le_of_ble_eq_true rfl) ⟨_, rfl, H2⟩
  have J_163 : ∀ (y163_2 s163_0 : Int32) (bs163_0 : s163_0 = 0 ∨ s163_0 = 1) (y163_1 : Nat) (ky163_1 : tyK y163_1 = (1, 60)) (hJ163 : List gA), tyS T R J Bc Bs M z hJ163 → gG X 163 [some (.ref o), some (.ref y163_1), some (.int y163_2)] [.int s163_0, .ref ((o + 8))] hJ163 0 0 := by
    intro y163_2 s163_0 bs163_0 y163_1 ky163_1 hJ163 HJ163
    refine g_bipush (v := 32) (q := 165) C dX2_doMessage_163 (by decide) rfl ?_
    exact J_165 _ _ _ bs163_0 _ ky163_1 _  HJ163
  have J_131 : ∀ (y131_2 s131_0 s131_1 : Int32) (y131_1 : Nat) (ky131_1 : tyK y131_1 = (1, 60)) (hJ131 : List gA), tyS T R J Bc Bs M z hJ131 → gG X 131 [some (.ref o), some (.ref y131_1), some (.int y131_2)] [.int s131_0, .int s131_1, .ref ((o + 8))] hJ131 0 0 := by
    intro y131_2 s131_0 s131_1 y131_1 ky131_1 hJ131 HJ131
    obtain ⟨x0_3, x1_3, x2_3, x3_3, x4_3, x5_3, x6_3, x7_3, x11_3, x12_3, x13_3, x14_3, o3, e3_0⟩ := tyG5 HJ131 (tyF2_1 hk)
    refine g_callVip (q := 134) (As := [.int s131_1, .int s131_0]) C gyX5_ask gvX5_ask t_701 (tX5_ask HJ131 (tyF2_1 hk)) dX2_doMessage_131 rfl o3 rfl rfl rfl (Nat.le_of_ble_eq_true rfl) (Nat.le_of_ble_eq_true rfl) (Nat.le_of_ble_eq_true rfl) (Nat.le_of_ble_eq_true rfl) (Nat.le_of_ble_eq_true rfl) rfl (fun x4 h4 q4 => ?_)
    have H4 := q4
    refine g_goto (q := 141) C dX2_doMessage_134 (by decide) ?_
    exact E.1 _ _ _ _ _ _ _ dX2_doMessage_141 rfl rfl (Nat.le_of_ble_eq_true rfl) (Nat.le_of_ble_eq_true rfl) ⟨_, rfl, H4⟩
  have J_103 : ∀ (y103_2 s103_0 : Int32) (y103_1 : Nat) (ky103_1 : tyK y103_1 = (1, 60)) (hJ103 : List gA), tyS T R J Bc Bs M z hJ103 → gG X 103 [some (.ref o), some (.ref y103_1), some (.int y103_2)] [.int s103_0, .ref o] hJ103 0 0 := by
    intro y103_2 s103_0 y103_1 ky103_1 hJ103 HJ103
    obtain ⟨x3_5, x4_5, x5_5, x6_5, x7_5, x11_5, x12_5, x13_5, x14_5, x15_5, x16_5, x17_5, jv_5, o5, e5_0, e5_1, e5_2, e5_3⟩ := tyG2 HJ103 hk
    refine g_putfield (q := 106) C fX2_74 dX2_doMessage_103 rfl o5 (Nat.le_of_ble_eq_true rfl) (Or.inl rfl) rfl rfl (by intro z h; cases h) ?_
    refine tyP2 HJ103 hk rfl e5_0 e5_1 e5_2 e5_3 (fun h6 _ _ H6 => ?_)
    refine g_aload_n (q := 107) C dX2_doMessage_106 rfl rfl ?_
    obtain ⟨x3_7, x4_7, x5_7, x6_7, x7_7, x11_7, x12_7, x13_7, x14_7, x15_7, x16_7, x17_7, jv_7, o7, e7_0, e7_1, e7_2, e7_3⟩ := tyG2 H6 hk
    refine g_getfield (v := .int x16_7) (q := 110) C fX2_74 dX2_doMessage_107 rfl o7 rfl ?_
    refine g_if_le (t := 137) (q := 113) C dX2_doMessage_110 (by decide) rfl (fun c_110 => ?_) (fun c_110 => ?_)
    ·
      have i_110 := Int32.le_iff_toInt_le.mp c_110
      refine g_aload_n (q := 138) C dX2_doMessage_137 rfl rfl ?_
      refine g_callVip (q := 141) (As := []) C gyX2_putBehindThird gvX2_putBehindThird t_890 (tX2_putBehindThird H6 hk) dX2_doMessage_138 rfl o7 rfl rfl rfl (Nat.le_of_ble_eq_true rfl) (Nat.le_of_ble_eq_true rfl) (Nat.le_of_ble_eq_true rfl) (Nat.le_of_ble_eq_true rfl) (Nat.le_of_ble_eq_true rfl) rfl (fun x8 h8 q8 => ?_)
      have H8 := q8
      exact E.1 _ _ _ _ _ _ _ dX2_doMessage_141 rfl rfl (Nat.le_of_ble_eq_true rfl) (Nat.le_of_ble_eq_true rfl) ⟨_, rfl, H8⟩
    ·
      have i_110 := mt Int32.le_iff_toInt_le.mpr c_110
      refine g_aload_n (q := 114) C dX2_doMessage_113 rfl rfl ?_
      refine g_getfield (v := .ref ((o + 8))) (q := 117) C fX2_20 dX2_doMessage_114 rfl o7 rfl ?_
      refine g_iconst (v := 3) (q := 118) C dX2_doMessage_117 (by decide) rfl ?_
      refine g_aload_n (q := 119) C dX2_doMessage_118 rfl rfl ?_
      obtain ⟨l9, g9, -⟩ := tyRow H6 ky103_1
      refine g_callVip (q := 122) (As := []) C gyX4_size gvX4_size t_639 (tX4_size H6 ky103_1) dX2_doMessage_119 rfl g9.obj rfl rfl rfl (Nat.le_of_ble_eq_true rfl) (Nat.le_of_ble_eq_true rfl) (Nat.le_of_ble_eq_true rfl) (Nat.le_of_ble_eq_true rfl) (Nat.le_of_ble_eq_true rfl) rfl (fun x10 h10 q10 => ?_)
      subst q10
      refine g_iconst (v := 1) (q := 123) C dX2_doMessage_122 (by decide) rfl ?_
      refine g_icmp_le (t := 130) (q := 126) C dX2_doMessage_123 (by decide) rfl (fun c_123 => ?_) (fun c_123 => ?_)
      ·
        have i_123 := Int32.le_iff_toInt_le.mp c_123
        refine g_iconst (v := 1) (q := 131) C dX2_doMessage_130 (by decide) rfl ?_
        exact J_131 _ _ _ _ ky103_1 _  H6
      ·
        have i_123 := mt Int32.le_iff_toInt_le.mpr c_123
        refine g_iload_n (q := 127) C dX2_doMessage_126 rfl rfl ?_
        refine g_goto (q := 131) C dX2_doMessage_127 (by decide) ?_
        exact J_131 _ _ _ _ ky103_1 _  H6
  refine g_aload_n (q := 1) C dX2_doMessage_0 rfl rfl ?_
  obtain ⟨x3_11, x4_11, x5_11, x6_11, x7_11, x11_11, x12_11, x13_11, x14_11, x15_11, x16_11, x17_11, jv_11, o11, e11_0, e11_1, e11_2, e11_3⟩ := tyG2 H hk
  refine g_getfield (v := .ref ((o + 8))) (q := 4) C fX2_20 dX2_doMessage_1 rfl o11 rfl ?_
  obtain ⟨x0_12, x1_12, x2_12, x3_12, x4_12, x5_12, x6_12, x7_12, x11_12, x12_12, x13_12, x14_12, o12, e12_0⟩ := tyG5 H (tyF2_1 hk)
  refine g_getfieldW (v := .ref (((o + 8) + 3))) (q := 7) C fX2_235 dX2_doMessage_4 rfl o12 rfl ?_
  refine g_astore_n (q := 8) C dX2_doMessage_7 (Nat.le_of_ble_eq_true rfl) (by simp only [gset]; rfl) rfl ?_
  refine g_aload_n (q := 9) C dX2_doMessage_8 rfl rfl ?_
  refine g_iconst (v := 1) (q := 10) C dX2_doMessage_9 (by decide) rfl ?_
  obtain ⟨l13, g13, -⟩ := tyRow H (tyF5_9 (tyF2_1 hk))
  refine g_callVip (q := 13) (As := [.int 1]) C gyX4_at gvX4_at t_722 (tX4_at H (tyF5_9 (tyF2_1 hk))) dX2_doMessage_10 rfl g13.obj rfl rfl rfl (Nat.le_of_ble_eq_true rfl) (Nat.le_of_ble_eq_true rfl) (Nat.le_of_ble_eq_true rfl) (Nat.le_of_ble_eq_true rfl) (Nat.le_of_ble_eq_true rfl) rfl (fun x14 h14 q14 => ?_)
  subst q14
  refine g_istore_n (q := 14) C dX2_doMessage_13 (Nat.le_of_ble_eq_true rfl) (by simp only [gset]; rfl) rfl ?_
  refine g_aload_n (q := 15) C dX2_doMessage_14 rfl rfl ?_
  refine g_iconst (v := 0) (q := 16) C dX2_doMessage_15 (by decide) rfl ?_
  refine g_callVip (q := 19) (As := [.int 0]) C gyX4_at gvX4_at t_722 (tX4_at H (tyF5_9 (tyF2_1 hk))) dX2_doMessage_16 rfl g13.obj rfl rfl rfl (Nat.le_of_ble_eq_true rfl) (Nat.le_of_ble_eq_true rfl) (Nat.le_of_ble_eq_true rfl) (Nat.le_of_ble_eq_true rfl) (Nat.le_of_ble_eq_true rfl) rfl (fun x15 h15 q15 => ?_)
  subst q15
  refine g_bipush (v := 7) (q := 21) C dX2_doMessage_19 (by decide) rfl ?_
  refine g_iand (q := 22) C dX2_doMessage_21 rfl ?_
  -- switch
  by_cases c_22_0 : x15 &&& 7 = 0
  · rw [c_22_0]
    refine g_tableIn (off := 38) (t := 60) C dX2_doMessage_22 (by decide) (by decide) (by decide) (by decide) ?_
    refine g_aload_n (q := 61) C dX2_doMessage_60 rfl rfl ?_
    refine g_getfield (v := .ref ((o + 8))) (q := 64) C fX2_20 dX2_doMessage_61 rfl o11 rfl ?_
    refine g_getfieldW (v := .ref (((o + 8) + 1))) (q := 67) C fX2_102 dX2_doMessage_64 rfl o12 rfl ?_
    refine g_aload_n (q := 68) C dX2_doMessage_67 rfl rfl ?_
    obtain ⟨l16, g16, -⟩ := tyRow H (tyF5_8 (tyF2_1 hk))
    refine g_callVvp (q := 71) (As := [.ref (((o + 8) + 3))]) C gyX4_copy gvX4_copy t_626 (tX4_copy H (tyF5_8 (tyF2_1 hk)) (by decide) (tyF5_9 (tyF2_1 hk))) dX2_doMessage_68 rfl g16.obj rfl rfl rfl (Nat.le_of_ble_eq_true rfl) (Nat.le_of_ble_eq_true rfl) (Nat.le_of_ble_eq_true rfl) (Nat.le_of_ble_eq_true rfl) (Nat.le_of_ble_eq_true rfl) rfl (fun h17 q17 => ?_)
    have H17 := q17
    refine g_bipush (v := (-2)) (q := 73) C dX2_doMessage_71 (by decide) rfl ?_
    exact E.1 _ _ _ _ _ _ _ dX2_doMessage_73 rfl rfl (Nat.le_of_ble_eq_true rfl) (Nat.le_of_ble_eq_true rfl) ⟨_, rfl, H17⟩
  by_cases c_22_1 : x15 &&& 7 = 1
  · rw [c_22_1]
    refine g_tableIn (off := 52) (t := 74) C dX2_doMessage_22 (by decide) (by decide) (by decide) (by decide) ?_
    refine g_aload_n (q := 75) C dX2_doMessage_74 rfl rfl ?_
    refine g_iload_n (q := 76) C dX2_doMessage_75 rfl rfl ?_
    refine g_bipush (v := 61) (q := 78) C dX2_doMessage_76 (by decide) rfl ?_
    refine g_irem (q := 79) C dX2_doMessage_78 (by decide) rfl ?_
    refine g_callVip (q := 82) (As := [.int _]) C gyX2_putCounting gvX2_putCounting t_898 (tX2_putCounting H hk) dX2_doMessage_79 rfl o11 rfl rfl rfl (Nat.le_of_ble_eq_true rfl) (Nat.le_of_ble_eq_true rfl) (Nat.le_of_ble_eq_true rfl) (Nat.le_of_ble_eq_true rfl) (Nat.le_of_ble_eq_true rfl) rfl (fun x18 h18 q18 => ?_)
    have H18 := q18
    exact E.1 _ _ _ _ _ _ _ dX2_doMessage_82 rfl rfl (Nat.le_of_ble_eq_true rfl) (Nat.le_of_ble_eq_true rfl) ⟨_, rfl, H18⟩
  by_cases c_22_2 : x15 &&& 7 = 2
  · rw [c_22_2]
    refine g_tableIn (off := 61) (t := 83) C dX2_doMessage_22 (by decide) (by decide) (by decide) (by decide) ?_
    refine g_aload_n (q := 84) C dX2_doMessage_83 rfl rfl ?_
    refine g_aload_n (q := 85) C dX2_doMessage_84 rfl rfl ?_
    refine g_callVip (q := 88) (As := []) C gyX4_size gvX4_size t_639 (tX4_size H (tyF5_9 (tyF2_1 hk))) dX2_doMessage_85 rfl g13.obj rfl rfl rfl (Nat.le_of_ble_eq_true rfl) (Nat.le_of_ble_eq_true rfl) (Nat.le_of_ble_eq_true rfl) (Nat.le_of_ble_eq_true rfl) (Nat.le_of_ble_eq_true rfl) rfl (fun x19 h19 q19 => ?_)
    subst q19
    refine g_iconst (v := 2) (q := 89) C dX2_doMessage_88 (by decide) rfl ?_
    refine g_icmp_le (t := 102) (q := 92) C dX2_doMessage_89 (by decide) rfl (fun c_89 => ?_) (fun c_89 => ?_)
    ·
      have i_89 := Int32.le_iff_toInt_le.mp c_89
      refine g_iconst (v := 1) (q := 103) C dX2_doMessage_102 (by decide) rfl ?_
      exact J_103 _ _ _ (tyF5_9 (tyF2_1 hk)) _  H
    ·
      have i_89 := mt Int32.le_iff_toInt_le.mpr c_89
      refine g_aload_n (q := 93) C dX2_doMessage_92 rfl rfl ?_
      refine g_iconst (v := 2) (q := 94) C dX2_doMessage_93 (by decide) rfl ?_
      refine g_callVip (q := 97) (As := [.int 2]) C gyX4_at gvX4_at t_722 (tX4_at H (tyF5_9 (tyF2_1 hk))) dX2_doMessage_94 rfl g13.obj rfl rfl rfl (Nat.le_of_ble_eq_true rfl) (Nat.le_of_ble_eq_true rfl) (Nat.le_of_ble_eq_true rfl) (Nat.le_of_ble_eq_true rfl) (Nat.le_of_ble_eq_true rfl) rfl (fun x20 h20 q20 => ?_)
      subst q20
      refine g_iconst (v := 3) (q := 98) C dX2_doMessage_97 (by decide) rfl ?_
      refine g_iand (q := 99) C dX2_doMessage_98 rfl ?_
      refine g_goto (q := 103) C dX2_doMessage_99 (by decide) ?_
      exact J_103 _ _ _ (tyF5_9 (tyF2_1 hk)) _  H
  by_cases c_22_3 : x15 &&& 7 = 3
  · rw [c_22_3]
    refine g_tableIn (off := 120) (t := 142) C dX2_doMessage_22 (by decide) (by decide) (by decide) (by decide) ?_
    refine g_aload_n (q := 143) C dX2_doMessage_142 rfl rfl ?_
    refine g_getfield (v := .ref ((o + 8))) (q := 146) C fX2_20 dX2_doMessage_143 rfl o11 rfl ?_
    refine g_iconst (v := 1) (q := 147) C dX2_doMessage_146 (by decide) rfl ?_
    refine g_iload_n (q := 148) C dX2_doMessage_147 rfl rfl ?_
    refine g_iconst (v := 1) (q := 149) C dX2_doMessage_148 (by decide) rfl ?_
    refine g_icmp_lt (t := 163) (q := 152) C dX2_doMessage_149 (by decide) rfl (fun c_149 => ?_) (fun c_149 => ?_)
    ·
      have i_149 := Int32.lt_iff_toInt_lt.mp c_149
      exact J_163 _ _ (Or.inr rfl) _ (tyF5_9 (tyF2_1 hk)) _  H
    ·
      have i_149 := mt Int32.lt_iff_toInt_lt.mpr c_149
      refine g_iload_n (q := 153) C dX2_doMessage_152 rfl rfl ?_
      refine g_sipush (v := 254) (q := 156) C dX2_doMessage_153 (by decide) rfl ?_
      refine g_icmp_gt (t := 163) (q := 159) C dX2_doMessage_156 (by decide) rfl (fun c_156 => ?_) (fun c_156 => ?_)
      ·
        have i_156 := Int32.lt_iff_toInt_lt.mp c_156
        exact J_163 _ _ (Or.inr rfl) _ (tyF5_9 (tyF2_1 hk)) _  H
      ·
        have i_156 := mt Int32.lt_iff_toInt_lt.mpr c_156
        refine g_iload_n (q := 160) C dX2_doMessage_159 rfl rfl ?_
        refine g_goto (q := 165) C dX2_doMessage_160 (by decide) ?_
        exact J_165 _ _ _ (Or.inr rfl) _ (tyF5_9 (tyF2_1 hk)) _  H
  by_cases c_22_4 : x15 &&& 7 = 4
  · rw [c_22_4]
    refine g_tableIn (off := 147) (t := 169) C dX2_doMessage_22 (by decide) (by decide) (by decide) (by decide) ?_
    refine g_aload_n (q := 170) C dX2_doMessage_169 rfl rfl ?_
    refine g_getfield (v := .ref ((o + 8))) (q := 173) C fX2_20 dX2_doMessage_170 rfl o11 rfl ?_
    refine g_iconst (v := 2) (q := 174) C dX2_doMessage_173 (by decide) rfl ?_
    refine g_iconst (v := 0) (q := 175) C dX2_doMessage_174 (by decide) rfl ?_
    refine g_callVip (q := 178) (As := [.int 2, .int 0]) C gyX5_ask gvX5_ask t_701 (tX5_ask H (tyF2_1 hk)) dX2_doMessage_175 rfl o12 rfl rfl rfl (Nat.le_of_ble_eq_true rfl) (Nat.le_of_ble_eq_true rfl) (Nat.le_of_ble_eq_true rfl) (Nat.le_of_ble_eq_true rfl) (Nat.le_of_ble_eq_true rfl) rfl (fun x21 h21 q21 => ?_)
    have H21 := q21
    exact E.1 _ _ _ _ _ _ _ dX2_doMessage_178 rfl rfl (Nat.le_of_ble_eq_true rfl) (Nat.le_of_ble_eq_true rfl) ⟨_, rfl, H21⟩
  by_cases c_22_5 : x15 &&& 7 = 5
  · rw [c_22_5]
    refine g_tableIn (off := 157) (t := 179) C dX2_doMessage_22 (by decide) (by decide) (by decide) (by decide) ?_
    refine g_aload_n (q := 180) C dX2_doMessage_179 rfl rfl ?_
    refine g_iload_n (q := 181) C dX2_doMessage_180 rfl rfl ?_
    refine g_iconst (v := 3) (q := 182) C dX2_doMessage_181 (by decide) rfl ?_
    refine g_iand (q := 183) C dX2_doMessage_182 rfl ?_
    refine g_iconst (v := 1) (q := 184) C dX2_doMessage_183 (by decide) rfl ?_
    refine g_iadd (q := 185) C dX2_doMessage_184 rfl ?_
    refine g_putfield (q := 188) C fX2_77 dX2_doMessage_185 rfl o11 (Nat.le_of_ble_eq_true rfl) (Or.inl rfl) rfl rfl (by intro z h; cases h) ?_
    refine tyP2 H hk rfl e11_0 e11_1 e11_2 e11_3 (fun h22 _ _ H22 => ?_)
    refine g_iconst (v := (-1)) (q := 189) C dX2_doMessage_188 (by decide) rfl ?_
    exact E.1 _ _ _ _ _ _ _ dX2_doMessage_189 rfl rfl (Nat.le_of_ble_eq_true rfl) (Nat.le_of_ble_eq_true rfl) ⟨_, rfl, H22⟩
  refine g_tableOut (t := 190) C dX2_doMessage_22 (gOut6 c_22_0 c_22_1 c_22_2 c_22_3 c_22_4 c_22_5) (by decide) ?_
  refine g_aload_n (q := 191) C dX2_doMessage_190 rfl rfl ?_
  refine g_getfield (v := .ref ((o + 8))) (q := 194) C fX2_20 dX2_doMessage_191 rfl o11 rfl ?_
  refine g_getfieldW (v := .ref (((o + 8) + 1))) (q := 197) C fX2_102 dX2_doMessage_194 rfl o12 rfl ?_
  refine g_iconst (v := 0) (q := 198) C dX2_doMessage_197 (by decide) rfl ?_
  obtain ⟨l23, g23, -⟩ := tyRow H (tyF5_8 (tyF2_1 hk))
  refine g_callVvp (q := 201) (As := [.int 0]) C gyX4_keep gvX4_keep t_586 (tX4_keep H (tyF5_8 (tyF2_1 hk)) (by decide)) dX2_doMessage_198 rfl g23.obj rfl rfl rfl (Nat.le_of_ble_eq_true rfl) (Nat.le_of_ble_eq_true rfl) (Nat.le_of_ble_eq_true rfl) (Nat.le_of_ble_eq_true rfl) (Nat.le_of_ble_eq_true rfl) rfl (fun h24 q24 => ?_)
  have H24 := q24
  refine g_aload_n (q := 202) C dX2_doMessage_201 rfl rfl ?_
  obtain ⟨x3_25, x4_25, x5_25, x6_25, x7_25, x11_25, x12_25, x13_25, x14_25, x15_25, x16_25, x17_25, jv_25, o25, e25_0, e25_1, e25_2, e25_3⟩ := tyG2 H24 hk
  refine g_getfield (v := .ref ((o + 8))) (q := 205) C fX2_20 dX2_doMessage_202 rfl o25 rfl ?_
  obtain ⟨x0_26, x1_26, x2_26, x3_26, x4_26, x5_26, x6_26, x7_26, x11_26, x12_26, x13_26, x14_26, o26, e26_0⟩ := tyG5 H24 (tyF2_1 hk)
  refine g_getfieldW (v := .ref (((o + 8) + 1))) (q := 208) C fX2_102 dX2_doMessage_205 rfl o26 rfl ?_
  refine g_aload_n (q := 209) C dX2_doMessage_208 rfl rfl ?_
  refine g_iconst (v := 0) (q := 210) C dX2_doMessage_209 (by decide) rfl ?_
  obtain ⟨l27, g27, -⟩ := tyRow H24 (tyF5_9 (tyF2_1 hk))
  refine g_callVip (q := 213) (As := [.int 0]) C gyX4_at gvX4_at t_722 (tX4_at H24 (tyF5_9 (tyF2_1 hk))) dX2_doMessage_210 rfl g27.obj rfl rfl rfl (Nat.le_of_ble_eq_true rfl) (Nat.le_of_ble_eq_true rfl) (Nat.le_of_ble_eq_true rfl) (Nat.le_of_ble_eq_true rfl) (Nat.le_of_ble_eq_true rfl) rfl (fun x28 h28 q28 => ?_)
  subst q28
  obtain ⟨l29, g29, -⟩ := tyRow H24 (tyF5_8 (tyF2_1 hk))
  refine g_callVvp (q := 216) (As := [.int x28]) C gyX4_add gvX4_add t_811 (tX4_add H24 (tyF5_8 (tyF2_1 hk)) (by decide)) dX2_doMessage_213 rfl g29.obj rfl rfl rfl (Nat.le_of_ble_eq_true rfl) (Nat.le_of_ble_eq_true rfl) (Nat.le_of_ble_eq_true rfl) (Nat.le_of_ble_eq_true rfl) (Nat.le_of_ble_eq_true rfl) rfl (fun h30 q30 => ?_)
  have H30 := q30
  refine g_aload_n (q := 217) C dX2_doMessage_216 rfl rfl ?_
  obtain ⟨x3_31, x4_31, x5_31, x6_31, x7_31, x11_31, x12_31, x13_31, x14_31, x15_31, x16_31, x17_31, jv_31, o31, e31_0, e31_1, e31_2, e31_3⟩ := tyG2 H30 hk
  refine g_getfield (v := .ref ((o + 8))) (q := 220) C fX2_20 dX2_doMessage_217 rfl o31 rfl ?_
  obtain ⟨x0_32, x1_32, x2_32, x3_32, x4_32, x5_32, x6_32, x7_32, x11_32, x12_32, x13_32, x14_32, o32, e32_0⟩ := tyG5 H30 (tyF2_1 hk)
  refine g_getfieldW (v := .ref (((o + 8) + 1))) (q := 223) C fX2_102 dX2_doMessage_220 rfl o32 rfl ?_
  refine g_aload_n (q := 224) C dX2_doMessage_223 rfl rfl ?_
  obtain ⟨l33, g33, -⟩ := tyRow H30 (tyF5_9 (tyF2_1 hk))
  refine g_callVip (q := 227) (As := []) C gyX4_size gvX4_size t_639 (tX4_size H30 (tyF5_9 (tyF2_1 hk))) dX2_doMessage_224 rfl g33.obj rfl rfl rfl (Nat.le_of_ble_eq_true rfl) (Nat.le_of_ble_eq_true rfl) (Nat.le_of_ble_eq_true rfl) (Nat.le_of_ble_eq_true rfl) (Nat.le_of_ble_eq_true rfl) rfl (fun x34 h34 q34 => ?_)
  subst q34
  obtain ⟨l35, g35, -⟩ := tyRow H30 (tyF5_8 (tyF2_1 hk))
  refine g_callVvp (q := 230) (As := [.int x34]) C gyX4_add gvX4_add t_811 (tX4_add H30 (tyF5_8 (tyF2_1 hk)) (by decide)) dX2_doMessage_227 rfl g35.obj rfl rfl rfl (Nat.le_of_ble_eq_true rfl) (Nat.le_of_ble_eq_true rfl) (Nat.le_of_ble_eq_true rfl) (Nat.le_of_ble_eq_true rfl) (Nat.le_of_ble_eq_true rfl) rfl (fun h36 q36 => ?_)
  have H36 := q36
  refine g_bipush (v := (-2)) (q := 232) C dX2_doMessage_230 (by decide) rfl ?_
  exact E.1 _ _ _ _ _ _ _ dX2_doMessage_232 rfl rfl (Nat.le_of_ble_eq_true rfl) (Nat.le_of_ble_eq_true rfl) ⟨_, rfl, H36⟩
theorem dX2_startMessage_0 : decode cX2_startMessage 0 = .ok (.aload_n 0, 1) := by decide +kernel
theorem dX2_startMessage_1 : decode cX2_startMessage 1 = .ok (.getfield 14, 3) := by decide +kernel
theorem dX2_startMessage_4 : decode cX2_startMessage 4 = .ok (.getfield 102, 3) := by decide +kernel
theorem dX2_startMessage_7 : decode cX2_startMessage 7 = .ok (.aload_n 1, 1) := by decide +kernel
theorem dX2_startMessage_8 : decode cX2_startMessage 8 = .ok (.invokevirtual 99, 3) := by decide +kernel
theorem dX2_startMessage_11 : decode cX2_startMessage 11 = .ok (.aload_n 0, 1) := by decide +kernel
theorem dX2_startMessage_12 : decode cX2_startMessage 12 = .ok (.getfield 14, 3) := by decide +kernel
theorem dX2_startMessage_15 : decode cX2_startMessage 15 = .ok (.iconst 0, 1) := by decide +kernel
theorem dX2_startMessage_16 : decode cX2_startMessage 16 = .ok (.putfield 105, 3) := by decide +kernel
theorem dX2_startMessage_19 : decode cX2_startMessage 19 = .ok (.aload_n 0, 1) := by decide +kernel
theorem dX2_startMessage_20 : decode cX2_startMessage 20 = .ok (.iconst 0, 1) := by decide +kernel
theorem dX2_startMessage_21 : decode cX2_startMessage 21 = .ok (.putfield 71, 3) := by decide +kernel
theorem dX2_startMessage_24 : decode cX2_startMessage 24 = .ok (.aload_n 0, 1) := by decide +kernel
theorem dX2_startMessage_25 : decode cX2_startMessage 25 = .ok (.iconst (-1), 1) := by decide +kernel
theorem dX2_startMessage_26 : decode cX2_startMessage 26 = .ok (.invokevirtual 108, 3) := by decide +kernel
theorem dX2_startMessage_29 : decode cX2_startMessage 29 = .ok (.return_, 1) := by decide +kernel
set_option maxRecDepth 100000 in
set_option maxHeartbeats 4000000 in
theorem tX2_startMessage {T : tyT} {R : Nat} {J : Nat → Prop} {Bc Bs : Nat} {M : gMd} {z : Nat → Nat} {hp : List gA} {o : Nat} {a0 m0 : Nat}  (H : tyS T R J Bc Bs M z hp) (hk : tyK o = (7, 0)) (hk0 : tyK a0 = (1, m0))  : gM yX2_startMessage cX2_startMessage 2 (none) 2 82 [.ref o, .ref a0] (hp) (0) (0) (fun v h => v = none ∧ tyS T R J Bc Bs M z h) := by
  refine gM_of (ls0 := [some (.ref o), some (.ref a0)]) (by decide +kernel) (Nat.le_of_ble_eq_true rfl) rfl fun X C E => ?_
  refine g_aload_n (q := 1) C dX2_startMessage_0 rfl rfl ?_
  obtain ⟨x3_1, x4_1, x5_1, x6_1, x7_1, x11_1, x12_1, x13_1, x14_1, x15_1, x16_1, x17_1, jv_1, o1, e1_0, e1_1, e1_2, e1_3⟩ := tyG2 H hk
  refine g_getfield (v := .ref ((o + 1))) (q := 4) C fX2_14 dX2_startMessage_1 rfl o1 rfl ?_
  obtain ⟨x0_2, x1_2, x2_2, x3_2, x4_2, x5_2, x6_2, x7_2, x11_2, x12_2, x13_2, x14_2, o2, e2_0⟩ := tyG5 H (tyF2_0 hk)
  refine g_getfieldW (v := .ref (((o + 1) + 1))) (q := 7) C fX2_102 dX2_startMessage_4 rfl o2 rfl ?_
  refine g_aload_n (q := 8) C dX2_startMessage_7 rfl rfl ?_
  obtain ⟨l3, g3, -⟩ := tyRow H (tyF5_8 (tyF2_0 hk))
  refine g_callVvp (q := 11) (As := [.ref a0]) C gyX4_copy gvX4_copy t_626 (tX4_copy H (tyF5_8 (tyF2_0 hk)) (by decide) hk0) dX2_startMessage_8 rfl g3.obj rfl rfl rfl (Nat.le_of_ble_eq_true rfl) (Nat.le_of_ble_eq_true rfl) (Nat.le_of_ble_eq_true rfl) (Nat.le_of_ble_eq_true rfl) (Nat.le_of_ble_eq_true rfl) rfl (fun h4 q4 => ?_)
  have H4 := q4
  refine g_aload_n (q := 12) C dX2_startMessage_11 rfl rfl ?_
  obtain ⟨x3_5, x4_5, x5_5, x6_5, x7_5, x11_5, x12_5, x13_5, x14_5, x15_5, x16_5, x17_5, jv_5, o5, e5_0, e5_1, e5_2, e5_3⟩ := tyG2 H4 hk
  refine g_getfield (v := .ref ((o + 1))) (q := 15) C fX2_14 dX2_startMessage_12 rfl o5 rfl ?_
  refine g_iconst (v := 0) (q := 16) C dX2_startMessage_15 (by decide) rfl ?_
  obtain ⟨x0_6, x1_6, x2_6, x3_6, x4_6, x5_6, x6_6, x7_6, x11_6, x12_6, x13_6, x14_6, o6, e6_0⟩ := tyG5 H4 (tyF2_0 hk)
  refine g_putfield (q := 19) C fX2_105 dX2_startMessage_16 rfl o6 (Nat.le_of_ble_eq_true rfl) (Or.inl rfl) rfl rfl (by intro z h; cases h) ?_
  refine tyP5 H4 (tyF2_0 hk) rfl e6_0 (fun h7 _ _ H7 => ?_)
  refine g_aload_n (q := 20) C dX2_startMessage_19 rfl rfl ?_
  refine g_iconst (v := 0) (q := 21) C dX2_startMessage_20 (by decide) rfl ?_
  obtain ⟨x3_8, x4_8, x5_8, x6_8, x7_8, x11_8, x12_8, x13_8, x14_8, x15_8, x16_8, x17_8, jv_8, o8, e8_0, e8_1, e8_2, e8_3⟩ := tyG2 H7 hk
  refine g_putfield (q := 24) C fX2_71 dX2_startMessage_21 rfl o8 (Nat.le_of_ble_eq_true rfl) (Or.inl rfl) (tyNar (Or.inl rfl)) (tyFit (Or.inl rfl)) (by intro z h; cases h) ?_
  refine tyP2 H7 hk rfl e8_0 e8_1 (Or.inl rfl) e8_3 (fun h9 _ _ H9 => ?_)
  refine g_aload_n (q := 25) C dX2_startMessage_24 rfl rfl ?_
  refine g_iconst (v := (-1)) (q := 26) C dX2_startMessage_25 (by decide) rfl ?_
  obtain ⟨x3_10, x4_10, x5_10, x6_10, x7_10, x11_10, x12_10, x13_10, x14_10, x15_10, x16_10, x17_10, jv_10, o10, e10_0, e10_1, e10_2, e10_3⟩ := tyG2 H9 hk
  refine g_callVvp (q := 29) (As := [.int ((-1))]) C gyX2_begin gvX2_begin t_631 (tX2_begin H9 hk) dX2_startMessage_26 rfl o10 rfl rfl rfl (Nat.le_of_ble_eq_true rfl) (Nat.le_of_ble_eq_true rfl) (Nat.le_of_ble_eq_true rfl) (Nat.le_of_ble_eq_true rfl) (Nat.le_of_ble_eq_true rfl) rfl (fun h11 q11 => ?_)
  have H11 := q11
  exact E.2.1 _ _ _ _ _ dX2_startMessage_29 rfl (Nat.le_of_ble_eq_true rfl) (Nat.le_of_ble_eq_true rfl) ⟨rfl, H11⟩
theorem dX2_startRoom_0 : decode cX2_startRoom 0 = .ok (.aload_n 0, 1) := by decide +kernel
theorem dX2_startRoom_1 : decode cX2_startRoom 1 = .ok (.iload_n 1, 1) := by decide +kernel
theorem dX2_startRoom_2 : decode cX2_startRoom 2 = .ok (.invokevirtual 108, 3) := by decide +kernel
theorem dX2_startRoom_5 : decode cX2_startRoom 5 = .ok (.return_, 1) := by decide +kernel
set_option maxRecDepth 100000 in
set_option maxHeartbeats 4000000 in
theorem tX2_startRoom {T : tyT} {R : Nat} {J : Nat → Prop} {Bc Bs : Nat} {M : gMd} {z : Nat → Nat} {hp : List gA} {o : Nat} {a0 : Int32}  (H : tyS T R J Bc Bs M z hp) (hk : tyK o = (7, 0))  : gM yX2_startRoom cX2_startRoom 2 (none) 1 21 [.ref o, .int a0] (hp) (0) (0) (fun v h => v = none ∧ tyS T R J Bc Bs M z h) := by
  refine gM_of (ls0 := [some (.ref o), some (.int a0)]) (by decide +kernel) (Nat.le_of_ble_eq_true rfl) rfl fun X C E => ?_
  refine g_aload_n (q := 1) C dX2_startRoom_0 rfl rfl ?_
  refine g_iload_n (q := 2) C dX2_startRoom_1 rfl rfl ?_
  obtain ⟨x3_1, x4_1, x5_1, x6_1, x7_1, x11_1, x12_1, x13_1, x14_1, x15_1, x16_1, x17_1, jv_1, o1, e1_0, e1_1, e1_2, e1_3⟩ := tyG2 H hk
  refine g_callVvp (q := 5) (As := [.int a0]) C gyX2_begin gvX2_begin t_631 (tX2_begin H hk) dX2_startRoom_2 rfl o1 rfl rfl rfl (Nat.le_of_ble_eq_true rfl) (Nat.le_of_ble_eq_true rfl) (Nat.le_of_ble_eq_true rfl) (Nat.le_of_ble_eq_true rfl) (Nat.le_of_ble_eq_true rfl) rfl (fun h2 q2 => ?_)
  have H2 := q2
  exact E.2.1 _ _ _ _ _ dX2_startRoom_5 rfl (Nat.le_of_ble_eq_true rfl) (Nat.le_of_ble_eq_true rfl) ⟨rfl, H2⟩
theorem dX2_restart_0 : decode cX2_restart 0 = .ok (.aload_n 0, 1) := by decide +kernel
theorem dX2_restart_1 : decode cX2_restart 1 = .ok (.getfield 14, 3) := by decide +kernel
theorem dX2_restart_4 : decode cX2_restart 4 = .ok (.bipush 32, 2) := by decide +kernel
theorem dX2_restart_6 : decode cX2_restart 6 = .ok (.invokevirtual 84, 3) := by decide +kernel
theorem dX2_restart_9 : decode cX2_restart 9 = .ok (.aload_n 0, 1) := by decide +kernel
theorem dX2_restart_10 : decode cX2_restart 10 = .ok (.getfield 20, 3) := by decide +kernel
theorem dX2_restart_13 : decode cX2_restart 13 = .ok (.iload_n 1, 1) := by decide +kernel
theorem dX2_restart_14 : decode cX2_restart 14 = .ok (.invokevirtual 84, 3) := by decide +kernel
theorem dX2_restart_17 : decode cX2_restart 17 = .ok (.aload_n 0, 1) := by decide +kernel
theorem dX2_restart_18 : decode cX2_restart 18 = .ok (.getfield 26, 3) := by decide +kernel
theorem dX2_restart_21 : decode cX2_restart 21 = .ok (.invokevirtual 87, 3) := by decide +kernel
theorem dX2_restart_24 : decode cX2_restart 24 = .ok (.aload_n 0, 1) := by decide +kernel
theorem dX2_restart_25 : decode cX2_restart 25 = .ok (.iconst 0, 1) := by decide +kernel
theorem dX2_restart_26 : decode cX2_restart 26 = .ok (.putfield 30, 3) := by decide +kernel
theorem dX2_restart_29 : decode cX2_restart 29 = .ok (.aload_n 0, 1) := by decide +kernel
theorem dX2_restart_30 : decode cX2_restart 30 = .ok (.iconst 0, 1) := by decide +kernel
theorem dX2_restart_31 : decode cX2_restart 31 = .ok (.putfield 34, 3) := by decide +kernel
theorem dX2_restart_34 : decode cX2_restart 34 = .ok (.aload_n 0, 1) := by decide +kernel
theorem dX2_restart_35 : decode cX2_restart 35 = .ok (.iconst 0, 1) := by decide +kernel
theorem dX2_restart_36 : decode cX2_restart 36 = .ok (.putfield 37, 3) := by decide +kernel
theorem dX2_restart_39 : decode cX2_restart 39 = .ok (.aload_n 0, 1) := by decide +kernel
theorem dX2_restart_40 : decode cX2_restart 40 = .ok (.iconst 0, 1) := by decide +kernel
theorem dX2_restart_41 : decode cX2_restart 41 = .ok (.putfield 40, 3) := by decide +kernel
theorem dX2_restart_44 : decode cX2_restart 44 = .ok (.aload_n 0, 1) := by decide +kernel
theorem dX2_restart_45 : decode cX2_restart 45 = .ok (.iconst 0, 1) := by decide +kernel
theorem dX2_restart_46 : decode cX2_restart 46 = .ok (.putfield 43, 3) := by decide +kernel
theorem dX2_restart_49 : decode cX2_restart 49 = .ok (.aload_n 0, 1) := by decide +kernel
theorem dX2_restart_50 : decode cX2_restart 50 = .ok (.getfield 55, 3) := by decide +kernel
theorem dX2_restart_53 : decode cX2_restart 53 = .ok (.iconst 0, 1) := by decide +kernel
theorem dX2_restart_54 : decode cX2_restart 54 = .ok (.invokevirtual 89, 3) := by decide +kernel
theorem dX2_restart_57 : decode cX2_restart 57 = .ok (.aload_n 0, 1) := by decide +kernel
theorem dX2_restart_58 : decode cX2_restart 58 = .ok (.iconst 3, 1) := by decide +kernel
theorem dX2_restart_59 : decode cX2_restart 59 = .ok (.putfield 58, 3) := by decide +kernel
theorem dX2_restart_62 : decode cX2_restart 62 = .ok (.aload_n 0, 1) := by decide +kernel
theorem dX2_restart_63 : decode cX2_restart 63 = .ok (.iconst 0, 1) := by decide +kernel
theorem dX2_restart_64 : decode cX2_restart 64 = .ok (.putfield 61, 3) := by decide +kernel
theorem dX2_restart_67 : decode cX2_restart 67 = .ok (.aload_n 0, 1) := by decide +kernel
theorem dX2_restart_68 : decode cX2_restart 68 = .ok (.iconst 0, 1) := by decide +kernel
theorem dX2_restart_69 : decode cX2_restart 69 = .ok (.putfield 71, 3) := by decide +kernel
theorem dX2_restart_72 : decode cX2_restart 72 = .ok (.aload_n 0, 1) := by decide +kernel
theorem dX2_restart_73 : decode cX2_restart 73 = .ok (.iconst 0, 1) := by decide +kernel
theorem dX2_restart_74 : decode cX2_restart 74 = .ok (.putfield 74, 3) := by decide +kernel
theorem dX2_restart_77 : decode cX2_restart 77 = .ok (.aload_n 0, 1) := by decide +kernel
theorem dX2_restart_78 : decode cX2_restart 78 = .ok (.iconst 0, 1) := by decide +kernel
theorem dX2_restart_79 : decode cX2_restart 79 = .ok (.putfield 77, 3) := by decide +kernel
theorem dX2_restart_82 : decode cX2_restart 82 = .ok (.return_, 1) := by decide +kernel
set_option maxRecDepth 100000 in
set_option maxHeartbeats 4000000 in
theorem tX2_restart {T : tyT} {R : Nat} {J : Nat → Prop} {Bc Bs : Nat} {M : gMd} {z : Nat → Nat} {hp : List gA} {o : Nat} {a0 : Int32}  (H : tyS T R J Bc Bs M z hp) (hk : tyK o = (7, 0))  : gM yX2_restart cX2_restart 2 (none) 4 83 [.ref o, .int a0] (hp) (0) (0) (fun v h => v = none ∧ tyS T R J Bc Bs M z h) := by
  refine gM_of (ls0 := [some (.ref o), some (.int a0)]) (by decide +kernel) (Nat.le_of_ble_eq_true rfl) rfl fun X C E => ?_
  refine g_aload_n (q := 1) C dX2_restart_0 rfl rfl ?_
  obtain ⟨x3_1, x4_1, x5_1, x6_1, x7_1, x11_1, x12_1, x13_1, x14_1, x15_1, x16_1, x17_1, jv_1, o1, e1_0, e1_1, e1_2, e1_3⟩ := tyG2 H hk
  refine g_getfield (v := .ref ((o + 1))) (q := 4) C fX2_14 dX2_restart_1 rfl o1 rfl ?_
  refine g_bipush (v := 32) (q := 6) C dX2_restart_4 (by decide) rfl ?_
  obtain ⟨x0_2, x1_2, x2_2, x3_2, x4_2, x5_2, x6_2, x7_2, x11_2, x12_2, x13_2, x14_2, o2, e2_0⟩ := tyG5 H (tyF2_0 hk)
  refine g_callVvp (q := 9) (As := [.int 32]) C gyX5_restart gvX5_restart t_573 (tX5_restart H (tyF2_0 hk)) dX2_restart_6 rfl o2 rfl rfl rfl (Nat.le_of_ble_eq_true rfl) (Nat.le_of_ble_eq_true rfl) (Nat.le_of_ble_eq_true rfl) (Nat.le_of_ble_eq_true rfl) (Nat.le_of_ble_eq_true rfl) rfl (fun h3 q3 => ?_)
  have H3 := q3
  refine g_aload_n (q := 10) C dX2_restart_9 rfl rfl ?_
  obtain ⟨x3_4, x4_4, x5_4, x6_4, x7_4, x11_4, x12_4, x13_4, x14_4, x15_4, x16_4, x17_4, jv_4, o4, e4_0, e4_1, e4_2, e4_3⟩ := tyG2 H3 hk
  refine g_getfield (v := .ref ((o + 8))) (q := 13) C fX2_20 dX2_restart_10 rfl o4 rfl ?_
  refine g_iload_n (q := 14) C dX2_restart_13 rfl rfl ?_
  obtain ⟨x0_5, x1_5, x2_5, x3_5, x4_5, x5_5, x6_5, x7_5, x11_5, x12_5, x13_5, x14_5, o5, e5_0⟩ := tyG5 H3 (tyF2_1 hk)
  refine g_callVvp (q := 17) (As := [.int a0]) C gyX5_restart gvX5_restart t_573 (tX5_restart H3 (tyF2_1 hk)) dX2_restart_14 rfl o5 rfl rfl rfl (Nat.le_of_ble_eq_true rfl) (Nat.le_of_ble_eq_true rfl) (Nat.le_of_ble_eq_true rfl) (Nat.le_of_ble_eq_true rfl) (Nat.le_of_ble_eq_true rfl) rfl (fun h6 q6 => ?_)
  have H6 := q6
  refine g_aload_n (q := 18) C dX2_restart_17 rfl rfl ?_
  obtain ⟨x3_7, x4_7, x5_7, x6_7, x7_7, x11_7, x12_7, x13_7, x14_7, x15_7, x16_7, x17_7, jv_7, o7, e7_0, e7_1, e7_2, e7_3⟩ := tyG2 H6 hk
  refine g_getfield (v := .ref ((o + 15))) (q := 21) C fX2_26 dX2_restart_18 rfl o7 rfl ?_
  obtain ⟨x0_8, x1_8, x2_8, x6_8, x7_8, x8_8, x9_8, o8, e8_0⟩ := tyG6 H6 (tyF2_2 hk)
  refine g_callVvp (q := 24) (As := []) C gyX6_restart gvX6_restart t_582 (tX6_restart H6 (tyF2_2 hk)) dX2_restart_21 rfl o8 rfl rfl rfl (Nat.le_of_ble_eq_true rfl) (Nat.le_of_ble_eq_true rfl) (Nat.le_of_ble_eq_true rfl) (Nat.le_of_ble_eq_true rfl) (Nat.le_of_ble_eq_true rfl) rfl (fun h9 q9 => ?_)
  have H9 := q9
  refine g_aload_n (q := 25) C dX2_restart_24 rfl rfl ?_
  refine g_iconst (v := 0) (q := 26) C dX2_restart_25 (by decide) rfl ?_
  obtain ⟨x3_10, x4_10, x5_10, x6_10, x7_10, x11_10, x12_10, x13_10, x14_10, x15_10, x16_10, x17_10, jv_10, o10, e10_0, e10_1, e10_2, e10_3⟩ := tyG2 H9 hk
  refine g_putfield (q := 29) C fX2_30 dX2_restart_26 rfl o10 (Nat.le_of_ble_eq_true rfl) (Or.inl rfl) rfl rfl (by intro z h; cases h) ?_
  refine tyP2 H9 hk rfl e10_0 e10_1 e10_2 e10_3 (fun h11 _ _ H11 => ?_)
  refine g_aload_n (q := 30) C dX2_restart_29 rfl rfl ?_
  refine g_iconst (v := 0) (q := 31) C dX2_restart_30 (by decide) rfl ?_
  obtain ⟨x3_12, x4_12, x5_12, x6_12, x7_12, x11_12, x12_12, x13_12, x14_12, x15_12, x16_12, x17_12, jv_12, o12, e12_0, e12_1, e12_2, e12_3⟩ := tyG2 H11 hk
  refine g_putfield (q := 34) C fX2_34 dX2_restart_31 rfl o12 (Nat.le_of_ble_eq_true rfl) (Or.inl rfl) rfl rfl (by intro z h; cases h) ?_
  refine tyP2 H11 hk rfl e12_0 e12_1 e12_2 e12_3 (fun h13 _ _ H13 => ?_)
  refine g_aload_n (q := 35) C dX2_restart_34 rfl rfl ?_
  refine g_iconst (v := 0) (q := 36) C dX2_restart_35 (by decide) rfl ?_
  obtain ⟨x3_14, x4_14, x5_14, x6_14, x7_14, x11_14, x12_14, x13_14, x14_14, x15_14, x16_14, x17_14, jv_14, o14, e14_0, e14_1, e14_2, e14_3⟩ := tyG2 H13 hk
  refine g_putfield (q := 39) C fX2_37 dX2_restart_36 rfl o14 (Nat.le_of_ble_eq_true rfl) (Or.inl rfl) rfl rfl (by intro z h; cases h) ?_
  refine tyP2 H13 hk rfl e14_0 e14_1 e14_2 e14_3 (fun h15 _ _ H15 => ?_)
  refine g_aload_n (q := 40) C dX2_restart_39 rfl rfl ?_
  refine g_iconst (v := 0) (q := 41) C dX2_restart_40 (by decide) rfl ?_
  obtain ⟨x3_16, x4_16, x5_16, x6_16, x7_16, x11_16, x12_16, x13_16, x14_16, x15_16, x16_16, x17_16, jv_16, o16, e16_0, e16_1, e16_2, e16_3⟩ := tyG2 H15 hk
  refine g_putfield (q := 44) C fX2_40 dX2_restart_41 rfl o16 (Nat.le_of_ble_eq_true rfl) (Or.inl rfl) rfl rfl (by intro z h; cases h) ?_
  refine tyP2 H15 hk rfl e16_0 e16_1 e16_2 e16_3 (fun h17 _ _ H17 => ?_)
  refine g_aload_n (q := 45) C dX2_restart_44 rfl rfl ?_
  refine g_iconst (v := 0) (q := 46) C dX2_restart_45 (by decide) rfl ?_
  obtain ⟨x3_18, x4_18, x5_18, x6_18, x7_18, x11_18, x12_18, x13_18, x14_18, x15_18, x16_18, x17_18, jv_18, o18, e18_0, e18_1, e18_2, e18_3⟩ := tyG2 H17 hk
  refine g_putfield (q := 49) C fX2_43 dX2_restart_46 rfl o18 (Nat.le_of_ble_eq_true rfl) (Or.inl rfl) rfl rfl (by intro z h; cases h) ?_
  refine tyP2 H17 hk rfl e18_0 e18_1 e18_2 e18_3 (fun h19 _ _ H19 => ?_)
  refine g_aload_n (q := 50) C dX2_restart_49 rfl rfl ?_
  obtain ⟨x3_20, x4_20, x5_20, x6_20, x7_20, x11_20, x12_20, x13_20, x14_20, x15_20, x16_20, x17_20, jv_20, o20, e20_0, e20_1, e20_2, e20_3⟩ := tyG2 H19 hk
  refine g_getfield (v := .ref ((o + 21))) (q := 53) C fX2_55 dX2_restart_50 rfl o20 rfl ?_
  refine g_iconst (v := 0) (q := 54) C dX2_restart_53 (by decide) rfl ?_
  obtain ⟨l21, g21, -⟩ := tyRow H19 (tyF2_9 hk)
  refine g_callVvp (q := 57) (As := [.int 0]) C gyX4_keep gvX4_keep t_586 (tX4_keep H19 (tyF2_9 hk) (by decide)) dX2_restart_54 rfl g21.obj rfl rfl rfl (Nat.le_of_ble_eq_true rfl) (Nat.le_of_ble_eq_true rfl) (Nat.le_of_ble_eq_true rfl) (Nat.le_of_ble_eq_true rfl) (Nat.le_of_ble_eq_true rfl) rfl (fun h22 q22 => ?_)
  have H22 := q22
  refine g_aload_n (q := 58) C dX2_restart_57 rfl rfl ?_
  refine g_iconst (v := 3) (q := 59) C dX2_restart_58 (by decide) rfl ?_
  obtain ⟨x3_23, x4_23, x5_23, x6_23, x7_23, x11_23, x12_23, x13_23, x14_23, x15_23, x16_23, x17_23, jv_23, o23, e23_0, e23_1, e23_2, e23_3⟩ := tyG2 H22 hk
  refine g_putfield (q := 62) C fX2_58 dX2_restart_59 rfl o23 (Nat.le_of_ble_eq_true rfl) (Or.inl rfl) rfl rfl (by intro z h; cases h) ?_
  refine tyP2 H22 hk rfl e23_0 e23_1 e23_2 e23_3 (fun h24 _ _ H24 => ?_)
  refine g_aload_n (q := 63) C dX2_restart_62 rfl rfl ?_
  refine g_iconst (v := 0) (q := 64) C dX2_restart_63 (by decide) rfl ?_
  obtain ⟨x3_25, x4_25, x5_25, x6_25, x7_25, x11_25, x12_25, x13_25, x14_25, x15_25, x16_25, x17_25, jv_25, o25, e25_0, e25_1, e25_2, e25_3⟩ := tyG2 H24 hk
  refine g_putfield (q := 67) C fX2_61 dX2_restart_64 rfl o25 (Nat.le_of_ble_eq_true rfl) (Or.inl rfl) (tyNar (Or.inl rfl)) (tyFit (Or.inl rfl)) (by intro z h; cases h) ?_
  refine tyP2 H24 hk rfl (Or.inl rfl) e25_1 e25_2 e25_3 (fun h26 _ _ H26 => ?_)
  refine g_aload_n (q := 68) C dX2_restart_67 rfl rfl ?_
  refine g_iconst (v := 0) (q := 69) C dX2_restart_68 (by decide) rfl ?_
  obtain ⟨x3_27, x4_27, x5_27, x6_27, x7_27, x11_27, x12_27, x13_27, x14_27, x15_27, x16_27, x17_27, jv_27, o27, e27_0, e27_1, e27_2, e27_3⟩ := tyG2 H26 hk
  refine g_putfield (q := 72) C fX2_71 dX2_restart_69 rfl o27 (Nat.le_of_ble_eq_true rfl) (Or.inl rfl) (tyNar (Or.inl rfl)) (tyFit (Or.inl rfl)) (by intro z h; cases h) ?_
  refine tyP2 H26 hk rfl e27_0 e27_1 (Or.inl rfl) e27_3 (fun h28 _ _ H28 => ?_)
  refine g_aload_n (q := 73) C dX2_restart_72 rfl rfl ?_
  refine g_iconst (v := 0) (q := 74) C dX2_restart_73 (by decide) rfl ?_
  obtain ⟨x3_29, x4_29, x5_29, x6_29, x7_29, x11_29, x12_29, x13_29, x14_29, x15_29, x16_29, x17_29, jv_29, o29, e29_0, e29_1, e29_2, e29_3⟩ := tyG2 H28 hk
  refine g_putfield (q := 77) C fX2_74 dX2_restart_74 rfl o29 (Nat.le_of_ble_eq_true rfl) (Or.inl rfl) rfl rfl (by intro z h; cases h) ?_
  refine tyP2 H28 hk rfl e29_0 e29_1 e29_2 e29_3 (fun h30 _ _ H30 => ?_)
  refine g_aload_n (q := 78) C dX2_restart_77 rfl rfl ?_
  refine g_iconst (v := 0) (q := 79) C dX2_restart_78 (by decide) rfl ?_
  obtain ⟨x3_31, x4_31, x5_31, x6_31, x7_31, x11_31, x12_31, x13_31, x14_31, x15_31, x16_31, x17_31, jv_31, o31, e31_0, e31_1, e31_2, e31_3⟩ := tyG2 H30 hk
  refine g_putfield (q := 82) C fX2_77 dX2_restart_79 rfl o31 (Nat.le_of_ble_eq_true rfl) (Or.inl rfl) rfl rfl (by intro z h; cases h) ?_
  refine tyP2 H30 hk rfl e31_0 e31_1 e31_2 e31_3 (fun h32 _ _ H32 => ?_)
  exact E.2.1 _ _ _ _ _ dX2_restart_82 rfl (Nat.le_of_ble_eq_true rfl) (Nat.le_of_ble_eq_true rfl) ⟨rfl, H32⟩
theorem dX2_copy_0 : decode cX2_copy 0 = .ok (.aload_n 0, 1) := by decide +kernel
theorem dX2_copy_1 : decode cX2_copy 1 = .ok (.getfield 14, 3) := by decide +kernel
theorem dX2_copy_4 : decode cX2_copy 4 = .ok (.aload_n 1, 1) := by decide +kernel
theorem dX2_copy_5 : decode cX2_copy 5 = .ok (.getfield 14, 3) := by decide +kernel
theorem dX2_copy_8 : decode cX2_copy 8 = .ok (.invokevirtual 92, 3) := by decide +kernel
theorem dX2_copy_11 : decode cX2_copy 11 = .ok (.aload_n 0, 1) := by decide +kernel
theorem dX2_copy_12 : decode cX2_copy 12 = .ok (.getfield 20, 3) := by decide +kernel
theorem dX2_copy_15 : decode cX2_copy 15 = .ok (.aload_n 1, 1) := by decide +kernel
theorem dX2_copy_16 : decode cX2_copy 16 = .ok (.getfield 20, 3) := by decide +kernel
theorem dX2_copy_19 : decode cX2_copy 19 = .ok (.invokevirtual 92, 3) := by decide +kernel
theorem dX2_copy_22 : decode cX2_copy 22 = .ok (.aload_n 0, 1) := by decide +kernel
theorem dX2_copy_23 : decode cX2_copy 23 = .ok (.getfield 26, 3) := by decide +kernel
theorem dX2_copy_26 : decode cX2_copy 26 = .ok (.aload_n 1, 1) := by decide +kernel
theorem dX2_copy_27 : decode cX2_copy 27 = .ok (.getfield 26, 3) := by decide +kernel
theorem dX2_copy_30 : decode cX2_copy 30 = .ok (.invokevirtual 96, 3) := by decide +kernel
theorem dX2_copy_33 : decode cX2_copy 33 = .ok (.aload_n 0, 1) := by decide +kernel
theorem dX2_copy_34 : decode cX2_copy 34 = .ok (.aload_n 1, 1) := by decide +kernel
theorem dX2_copy_35 : decode cX2_copy 35 = .ok (.getfield 30, 3) := by decide +kernel
theorem dX2_copy_38 : decode cX2_copy 38 = .ok (.putfield 30, 3) := by decide +kernel
theorem dX2_copy_41 : decode cX2_copy 41 = .ok (.aload_n 0, 1) := by decide +kernel
theorem dX2_copy_42 : decode cX2_copy 42 = .ok (.aload_n 1, 1) := by decide +kernel
theorem dX2_copy_43 : decode cX2_copy 43 = .ok (.getfield 34, 3) := by decide +kernel
theorem dX2_copy_46 : decode cX2_copy 46 = .ok (.putfield 34, 3) := by decide +kernel
theorem dX2_copy_49 : decode cX2_copy 49 = .ok (.aload_n 0, 1) := by decide +kernel
theorem dX2_copy_50 : decode cX2_copy 50 = .ok (.aload_n 1, 1) := by decide +kernel
theorem dX2_copy_51 : decode cX2_copy 51 = .ok (.getfield 37, 3) := by decide +kernel
theorem dX2_copy_54 : decode cX2_copy 54 = .ok (.putfield 37, 3) := by decide +kernel
theorem dX2_copy_57 : decode cX2_copy 57 = .ok (.aload_n 0, 1) := by decide +kernel
theorem dX2_copy_58 : decode cX2_copy 58 = .ok (.aload_n 1, 1) := by decide +kernel
theorem dX2_copy_59 : decode cX2_copy 59 = .ok (.getfield 40, 3) := by decide +kernel
theorem dX2_copy_62 : decode cX2_copy 62 = .ok (.putfield 40, 3) := by decide +kernel
theorem dX2_copy_65 : decode cX2_copy 65 = .ok (.aload_n 0, 1) := by decide +kernel
theorem dX2_copy_66 : decode cX2_copy 66 = .ok (.aload_n 1, 1) := by decide +kernel
theorem dX2_copy_67 : decode cX2_copy 67 = .ok (.getfield 43, 3) := by decide +kernel
theorem dX2_copy_70 : decode cX2_copy 70 = .ok (.putfield 43, 3) := by decide +kernel
theorem dX2_copy_73 : decode cX2_copy 73 = .ok (.aload_n 0, 1) := by decide +kernel
theorem dX2_copy_74 : decode cX2_copy 74 = .ok (.getfield 55, 3) := by decide +kernel
theorem dX2_copy_77 : decode cX2_copy 77 = .ok (.aload_n 1, 1) := by decide +kernel
theorem dX2_copy_78 : decode cX2_copy 78 = .ok (.getfield 55, 3) := by decide +kernel
theorem dX2_copy_81 : decode cX2_copy 81 = .ok (.invokevirtual 99, 3) := by decide +kernel
theorem dX2_copy_84 : decode cX2_copy 84 = .ok (.aload_n 0, 1) := by decide +kernel
theorem dX2_copy_85 : decode cX2_copy 85 = .ok (.aload_n 1, 1) := by decide +kernel
theorem dX2_copy_86 : decode cX2_copy 86 = .ok (.getfield 58, 3) := by decide +kernel
theorem dX2_copy_89 : decode cX2_copy 89 = .ok (.putfield 58, 3) := by decide +kernel
theorem dX2_copy_92 : decode cX2_copy 92 = .ok (.aload_n 0, 1) := by decide +kernel
theorem dX2_copy_93 : decode cX2_copy 93 = .ok (.aload_n 1, 1) := by decide +kernel
theorem dX2_copy_94 : decode cX2_copy 94 = .ok (.getfield 61, 3) := by decide +kernel
theorem dX2_copy_97 : decode cX2_copy 97 = .ok (.putfield 61, 3) := by decide +kernel
theorem dX2_copy_100 : decode cX2_copy 100 = .ok (.aload_n 0, 1) := by decide +kernel
theorem dX2_copy_101 : decode cX2_copy 101 = .ok (.aload_n 1, 1) := by decide +kernel
theorem dX2_copy_102 : decode cX2_copy 102 = .ok (.getfield 65, 3) := by decide +kernel
theorem dX2_copy_105 : decode cX2_copy 105 = .ok (.putfield 65, 3) := by decide +kernel
theorem dX2_copy_108 : decode cX2_copy 108 = .ok (.aload_n 0, 1) := by decide +kernel
theorem dX2_copy_109 : decode cX2_copy 109 = .ok (.aload_n 1, 1) := by decide +kernel
theorem dX2_copy_110 : decode cX2_copy 110 = .ok (.getfield 71, 3) := by decide +kernel
theorem dX2_copy_113 : decode cX2_copy 113 = .ok (.putfield 71, 3) := by decide +kernel
theorem dX2_copy_116 : decode cX2_copy 116 = .ok (.aload_n 0, 1) := by decide +kernel
theorem dX2_copy_117 : decode cX2_copy 117 = .ok (.aload_n 1, 1) := by decide +kernel
theorem dX2_copy_118 : decode cX2_copy 118 = .ok (.getfield 74, 3) := by decide +kernel
theorem dX2_copy_121 : decode cX2_copy 121 = .ok (.putfield 74, 3) := by decide +kernel
theorem dX2_copy_124 : decode cX2_copy 124 = .ok (.aload_n 0, 1) := by decide +kernel
theorem dX2_copy_125 : decode cX2_copy 125 = .ok (.aload_n 1, 1) := by decide +kernel
theorem dX2_copy_126 : decode cX2_copy 126 = .ok (.getfield 77, 3) := by decide +kernel
theorem dX2_copy_129 : decode cX2_copy 129 = .ok (.putfield 77, 3) := by decide +kernel
theorem dX2_copy_132 : decode cX2_copy 132 = .ok (.return_, 1) := by decide +kernel
set_option maxRecDepth 100000 in
set_option maxHeartbeats 4000000 in
theorem tX2_copy {T : tyT} {R : Nat} {J : Nat → Prop} {Bc Bs : Nat} {M : gMd} {z : Nat → Nat} {hp : List gA} {o : Nat} {a0 : Nat}  (H : tyS T R J Bc Bs M z hp) (hk : tyK o = (7, 0)) (hk0 : tyK a0 = (7, 0)) (h20 : ¬ o = 20) : gM yX2_copy cX2_copy 2 (none) 3 103 [.ref o, .ref a0] (hp) (0) (0) (fun v h => v = none ∧ tyS T R J Bc Bs M z h) := by
  refine gM_of (ls0 := [some (.ref o), some (.ref a0)]) (by decide +kernel) (Nat.le_of_ble_eq_true rfl) rfl fun X C E => ?_
  refine g_aload_n (q := 1) C dX2_copy_0 rfl rfl ?_
  obtain ⟨x3_1, x4_1, x5_1, x6_1, x7_1, x11_1, x12_1, x13_1, x14_1, x15_1, x16_1, x17_1, jv_1, o1, e1_0, e1_1, e1_2, e1_3⟩ := tyG2 H hk
  refine g_getfield (v := .ref ((o + 1))) (q := 4) C fX2_14 dX2_copy_1 rfl o1 rfl ?_
  refine g_aload_n (q := 5) C dX2_copy_4 rfl rfl ?_
  obtain ⟨x3_2, x4_2, x5_2, x6_2, x7_2, x11_2, x12_2, x13_2, x14_2, x15_2, x16_2, x17_2, jv_2, o2, e2_0, e2_1, e2_2, e2_3⟩ := tyG2 H hk0
  refine g_getfield (v := .ref ((a0 + 1))) (q := 8) C fX2_14 dX2_copy_5 rfl o2 rfl ?_
  obtain ⟨x0_3, x1_3, x2_3, x3_3, x4_3, x5_3, x6_3, x7_3, x11_3, x12_3, x13_3, x14_3, o3, e3_0⟩ := tyG5 H (tyF2_0 hk)
  refine g_callVvp (q := 11) (As := [.ref ((a0 + 1))]) C gyX5_copy gvX5_copy t_951 (tX5_copy H (tyF2_0 hk) (tyF2_0 hk0)) dX2_copy_8 rfl o3 rfl rfl rfl (Nat.le_of_ble_eq_true rfl) (Nat.le_of_ble_eq_true rfl) (Nat.le_of_ble_eq_true rfl) (Nat.le_of_ble_eq_true rfl) (Nat.le_of_ble_eq_true rfl) rfl (fun h4 q4 => ?_)
  have H4 := q4
  refine g_aload_n (q := 12) C dX2_copy_11 rfl rfl ?_
  obtain ⟨x3_5, x4_5, x5_5, x6_5, x7_5, x11_5, x12_5, x13_5, x14_5, x15_5, x16_5, x17_5, jv_5, o5, e5_0, e5_1, e5_2, e5_3⟩ := tyG2 H4 hk
  refine g_getfield (v := .ref ((o + 8))) (q := 15) C fX2_20 dX2_copy_12 rfl o5 rfl ?_
  refine g_aload_n (q := 16) C dX2_copy_15 rfl rfl ?_
  obtain ⟨x3_6, x4_6, x5_6, x6_6, x7_6, x11_6, x12_6, x13_6, x14_6, x15_6, x16_6, x17_6, jv_6, o6, e6_0, e6_1, e6_2, e6_3⟩ := tyG2 H4 hk0
  refine g_getfield (v := .ref ((a0 + 8))) (q := 19) C fX2_20 dX2_copy_16 rfl o6 rfl ?_
  obtain ⟨x0_7, x1_7, x2_7, x3_7, x4_7, x5_7, x6_7, x7_7, x11_7, x12_7, x13_7, x14_7, o7, e7_0⟩ := tyG5 H4 (tyF2_1 hk)
  refine g_callVvp (q := 22) (As := [.ref ((a0 + 8))]) C gyX5_copy gvX5_copy t_951 (tX5_copy H4 (tyF2_1 hk) (tyF2_1 hk0)) dX2_copy_19 rfl o7 rfl rfl rfl (Nat.le_of_ble_eq_true rfl) (Nat.le_of_ble_eq_true rfl) (Nat.le_of_ble_eq_true rfl) (Nat.le_of_ble_eq_true rfl) (Nat.le_of_ble_eq_true rfl) rfl (fun h8 q8 => ?_)
  have H8 := q8
  refine g_aload_n (q := 23) C dX2_copy_22 rfl rfl ?_
  obtain ⟨x3_9, x4_9, x5_9, x6_9, x7_9, x11_9, x12_9, x13_9, x14_9, x15_9, x16_9, x17_9, jv_9, o9, e9_0, e9_1, e9_2, e9_3⟩ := tyG2 H8 hk
  refine g_getfield (v := .ref ((o + 15))) (q := 26) C fX2_26 dX2_copy_23 rfl o9 rfl ?_
  refine g_aload_n (q := 27) C dX2_copy_26 rfl rfl ?_
  obtain ⟨x3_10, x4_10, x5_10, x6_10, x7_10, x11_10, x12_10, x13_10, x14_10, x15_10, x16_10, x17_10, jv_10, o10, e10_0, e10_1, e10_2, e10_3⟩ := tyG2 H8 hk0
  refine g_getfield (v := .ref ((a0 + 15))) (q := 30) C fX2_26 dX2_copy_27 rfl o10 rfl ?_
  obtain ⟨x0_11, x1_11, x2_11, x6_11, x7_11, x8_11, x9_11, o11, e11_0⟩ := tyG6 H8 (tyF2_2 hk)
  refine g_callVvp (q := 33) (As := [.ref ((a0 + 15))]) C gyX6_copy gvX6_copy t_955 (tX6_copy H8 (tyF2_2 hk) (tyF2_2 hk0) (by omega)) dX2_copy_30 rfl o11 rfl rfl rfl (Nat.le_of_ble_eq_true rfl) (Nat.le_of_ble_eq_true rfl) (Nat.le_of_ble_eq_true rfl) (Nat.le_of_ble_eq_true rfl) (Nat.le_of_ble_eq_true rfl) rfl (fun h12 q12 => ?_)
  have H12 := q12
  refine g_aload_n (q := 34) C dX2_copy_33 rfl rfl ?_
  refine g_aload_n (q := 35) C dX2_copy_34 rfl rfl ?_
  obtain ⟨x3_13, x4_13, x5_13, x6_13, x7_13, x11_13, x12_13, x13_13, x14_13, x15_13, x16_13, x17_13, jv_13, o13, e13_0, e13_1, e13_2, e13_3⟩ := tyG2 H12 hk0
  refine g_getfield (v := .int x3_13) (q := 38) C fX2_30 dX2_copy_35 rfl o13 rfl ?_
  obtain ⟨x3_14, x4_14, x5_14, x6_14, x7_14, x11_14, x12_14, x13_14, x14_14, x15_14, x16_14, x17_14, jv_14, o14, e14_0, e14_1, e14_2, e14_3⟩ := tyG2 H12 hk
  refine g_putfield (q := 41) C fX2_30 dX2_copy_38 rfl o14 (Nat.le_of_ble_eq_true rfl) (Or.inl rfl) rfl rfl (by intro z h; cases h) ?_
  refine tyP2 H12 hk rfl e14_0 e14_1 e14_2 e14_3 (fun h15 _ _ H15 => ?_)
  refine g_aload_n (q := 42) C dX2_copy_41 rfl rfl ?_
  refine g_aload_n (q := 43) C dX2_copy_42 rfl rfl ?_
  obtain ⟨x3_16, x4_16, x5_16, x6_16, x7_16, x11_16, x12_16, x13_16, x14_16, x15_16, x16_16, x17_16, jv_16, o16, e16_0, e16_1, e16_2, e16_3⟩ := tyG2 H15 hk0
  refine g_getfield (v := .int x4_16) (q := 46) C fX2_34 dX2_copy_43 rfl o16 rfl ?_
  obtain ⟨x3_17, x4_17, x5_17, x6_17, x7_17, x11_17, x12_17, x13_17, x14_17, x15_17, x16_17, x17_17, jv_17, o17, e17_0, e17_1, e17_2, e17_3⟩ := tyG2 H15 hk
  refine g_putfield (q := 49) C fX2_34 dX2_copy_46 rfl o17 (Nat.le_of_ble_eq_true rfl) (Or.inl rfl) rfl rfl (by intro z h; cases h) ?_
  refine tyP2 H15 hk rfl e17_0 e17_1 e17_2 e17_3 (fun h18 _ _ H18 => ?_)
  refine g_aload_n (q := 50) C dX2_copy_49 rfl rfl ?_
  refine g_aload_n (q := 51) C dX2_copy_50 rfl rfl ?_
  obtain ⟨x3_19, x4_19, x5_19, x6_19, x7_19, x11_19, x12_19, x13_19, x14_19, x15_19, x16_19, x17_19, jv_19, o19, e19_0, e19_1, e19_2, e19_3⟩ := tyG2 H18 hk0
  refine g_getfield (v := .int x5_19) (q := 54) C fX2_37 dX2_copy_51 rfl o19 rfl ?_
  obtain ⟨x3_20, x4_20, x5_20, x6_20, x7_20, x11_20, x12_20, x13_20, x14_20, x15_20, x16_20, x17_20, jv_20, o20, e20_0, e20_1, e20_2, e20_3⟩ := tyG2 H18 hk
  refine g_putfield (q := 57) C fX2_37 dX2_copy_54 rfl o20 (Nat.le_of_ble_eq_true rfl) (Or.inl rfl) rfl rfl (by intro z h; cases h) ?_
  refine tyP2 H18 hk rfl e20_0 e20_1 e20_2 e20_3 (fun h21 _ _ H21 => ?_)
  refine g_aload_n (q := 58) C dX2_copy_57 rfl rfl ?_
  refine g_aload_n (q := 59) C dX2_copy_58 rfl rfl ?_
  obtain ⟨x3_22, x4_22, x5_22, x6_22, x7_22, x11_22, x12_22, x13_22, x14_22, x15_22, x16_22, x17_22, jv_22, o22, e22_0, e22_1, e22_2, e22_3⟩ := tyG2 H21 hk0
  refine g_getfield (v := .int x6_22) (q := 62) C fX2_40 dX2_copy_59 rfl o22 rfl ?_
  obtain ⟨x3_23, x4_23, x5_23, x6_23, x7_23, x11_23, x12_23, x13_23, x14_23, x15_23, x16_23, x17_23, jv_23, o23, e23_0, e23_1, e23_2, e23_3⟩ := tyG2 H21 hk
  refine g_putfield (q := 65) C fX2_40 dX2_copy_62 rfl o23 (Nat.le_of_ble_eq_true rfl) (Or.inl rfl) rfl rfl (by intro z h; cases h) ?_
  refine tyP2 H21 hk rfl e23_0 e23_1 e23_2 e23_3 (fun h24 _ _ H24 => ?_)
  refine g_aload_n (q := 66) C dX2_copy_65 rfl rfl ?_
  refine g_aload_n (q := 67) C dX2_copy_66 rfl rfl ?_
  obtain ⟨x3_25, x4_25, x5_25, x6_25, x7_25, x11_25, x12_25, x13_25, x14_25, x15_25, x16_25, x17_25, jv_25, o25, e25_0, e25_1, e25_2, e25_3⟩ := tyG2 H24 hk0
  refine g_getfield (v := .int x7_25) (q := 70) C fX2_43 dX2_copy_67 rfl o25 rfl ?_
  obtain ⟨x3_26, x4_26, x5_26, x6_26, x7_26, x11_26, x12_26, x13_26, x14_26, x15_26, x16_26, x17_26, jv_26, o26, e26_0, e26_1, e26_2, e26_3⟩ := tyG2 H24 hk
  refine g_putfield (q := 73) C fX2_43 dX2_copy_70 rfl o26 (Nat.le_of_ble_eq_true rfl) (Or.inl rfl) rfl rfl (by intro z h; cases h) ?_
  refine tyP2 H24 hk rfl e26_0 e26_1 e26_2 e26_3 (fun h27 _ _ H27 => ?_)
  refine g_aload_n (q := 74) C dX2_copy_73 rfl rfl ?_
  obtain ⟨x3_28, x4_28, x5_28, x6_28, x7_28, x11_28, x12_28, x13_28, x14_28, x15_28, x16_28, x17_28, jv_28, o28, e28_0, e28_1, e28_2, e28_3⟩ := tyG2 H27 hk
  refine g_getfield (v := .ref ((o + 21))) (q := 77) C fX2_55 dX2_copy_74 rfl o28 rfl ?_
  refine g_aload_n (q := 78) C dX2_copy_77 rfl rfl ?_
  obtain ⟨x3_29, x4_29, x5_29, x6_29, x7_29, x11_29, x12_29, x13_29, x14_29, x15_29, x16_29, x17_29, jv_29, o29, e29_0, e29_1, e29_2, e29_3⟩ := tyG2 H27 hk0
  refine g_getfield (v := .ref ((a0 + 21))) (q := 81) C fX2_55 dX2_copy_78 rfl o29 rfl ?_
  obtain ⟨l30, g30, -⟩ := tyRow H27 (tyF2_9 hk)
  refine g_callVvp (q := 84) (As := [.ref ((a0 + 21))]) C gyX4_copy gvX4_copy t_626 (tX4_copy H27 (tyF2_9 hk) (by decide) (tyF2_9 hk0)) dX2_copy_81 rfl g30.obj rfl rfl rfl (Nat.le_of_ble_eq_true rfl) (Nat.le_of_ble_eq_true rfl) (Nat.le_of_ble_eq_true rfl) (Nat.le_of_ble_eq_true rfl) (Nat.le_of_ble_eq_true rfl) rfl (fun h31 q31 => ?_)
  have H31 := q31
  refine g_aload_n (q := 85) C dX2_copy_84 rfl rfl ?_
  refine g_aload_n (q := 86) C dX2_copy_85 rfl rfl ?_
  obtain ⟨x3_32, x4_32, x5_32, x6_32, x7_32, x11_32, x12_32, x13_32, x14_32, x15_32, x16_32, x17_32, jv_32, o32, e32_0, e32_1, e32_2, e32_3⟩ := tyG2 H31 hk0
  refine g_getfield (v := .int x11_32) (q := 89) C fX2_58 dX2_copy_86 rfl o32 rfl ?_
  obtain ⟨x3_33, x4_33, x5_33, x6_33, x7_33, x11_33, x12_33, x13_33, x14_33, x15_33, x16_33, x17_33, jv_33, o33, e33_0, e33_1, e33_2, e33_3⟩ := tyG2 H31 hk
  refine g_putfield (q := 92) C fX2_58 dX2_copy_89 rfl o33 (Nat.le_of_ble_eq_true rfl) (Or.inl rfl) rfl rfl (by intro z h; cases h) ?_
  refine tyP2 H31 hk rfl e33_0 e33_1 e33_2 e33_3 (fun h34 _ _ H34 => ?_)
  refine g_aload_n (q := 93) C dX2_copy_92 rfl rfl ?_
  refine g_aload_n (q := 94) C dX2_copy_93 rfl rfl ?_
  obtain ⟨x3_35, x4_35, x5_35, x6_35, x7_35, x11_35, x12_35, x13_35, x14_35, x15_35, x16_35, x17_35, jv_35, o35, e35_0, e35_1, e35_2, e35_3⟩ := tyG2 H34 hk0
  refine g_getfield (v := .int x12_35) (q := 97) C fX2_61 dX2_copy_94 rfl o35 rfl ?_
  obtain ⟨x3_36, x4_36, x5_36, x6_36, x7_36, x11_36, x12_36, x13_36, x14_36, x15_36, x16_36, x17_36, jv_36, o36, e36_0, e36_1, e36_2, e36_3⟩ := tyG2 H34 hk
  refine g_putfield (q := 100) C fX2_61 dX2_copy_97 rfl o36 (Nat.le_of_ble_eq_true rfl) (Or.inl rfl) (tyNar e35_0) (tyFit e35_0) (by intro z h; cases h) ?_
  refine tyP2 H34 hk rfl e35_0 e36_1 e36_2 e36_3 (fun h37 _ _ H37 => ?_)
  refine g_aload_n (q := 101) C dX2_copy_100 rfl rfl ?_
  refine g_aload_n (q := 102) C dX2_copy_101 rfl rfl ?_
  obtain ⟨x3_38, x4_38, x5_38, x6_38, x7_38, x11_38, x12_38, x13_38, x14_38, x15_38, x16_38, x17_38, jv_38, o38, e38_0, e38_1, e38_2, e38_3⟩ := tyG2 H37 hk0
  refine g_getfield (v := .int x13_38) (q := 105) C fX2_65 dX2_copy_102 rfl o38 rfl ?_
  obtain ⟨x3_39, x4_39, x5_39, x6_39, x7_39, x11_39, x12_39, x13_39, x14_39, x15_39, x16_39, x17_39, jv_39, o39, e39_0, e39_1, e39_2, e39_3⟩ := tyG2 H37 hk
  refine g_putfield (q := 108) C fX2_65 dX2_copy_105 rfl o39 (Nat.le_of_ble_eq_true rfl) (Or.inl rfl) rfl rfl (by intro z h; cases h) ?_
  refine tyP2 H37 hk rfl e39_0 e39_1 e39_2 e39_3 (fun h40 _ _ H40 => ?_)
  refine g_aload_n (q := 109) C dX2_copy_108 rfl rfl ?_
  refine g_aload_n (q := 110) C dX2_copy_109 rfl rfl ?_
  obtain ⟨x3_41, x4_41, x5_41, x6_41, x7_41, x11_41, x12_41, x13_41, x14_41, x15_41, x16_41, x17_41, jv_41, o41, e41_0, e41_1, e41_2, e41_3⟩ := tyG2 H40 hk0
  refine g_getfield (v := .int x15_41) (q := 113) C fX2_71 dX2_copy_110 rfl o41 rfl ?_
  obtain ⟨x3_42, x4_42, x5_42, x6_42, x7_42, x11_42, x12_42, x13_42, x14_42, x15_42, x16_42, x17_42, jv_42, o42, e42_0, e42_1, e42_2, e42_3⟩ := tyG2 H40 hk
  refine g_putfield (q := 116) C fX2_71 dX2_copy_113 rfl o42 (Nat.le_of_ble_eq_true rfl) (Or.inl rfl) (tyNar e41_2) (tyFit e41_2) (by intro z h; cases h) ?_
  refine tyP2 H40 hk rfl e42_0 e42_1 e41_2 e42_3 (fun h43 _ _ H43 => ?_)
  refine g_aload_n (q := 117) C dX2_copy_116 rfl rfl ?_
  refine g_aload_n (q := 118) C dX2_copy_117 rfl rfl ?_
  obtain ⟨x3_44, x4_44, x5_44, x6_44, x7_44, x11_44, x12_44, x13_44, x14_44, x15_44, x16_44, x17_44, jv_44, o44, e44_0, e44_1, e44_2, e44_3⟩ := tyG2 H43 hk0
  refine g_getfield (v := .int x16_44) (q := 121) C fX2_74 dX2_copy_118 rfl o44 rfl ?_
  obtain ⟨x3_45, x4_45, x5_45, x6_45, x7_45, x11_45, x12_45, x13_45, x14_45, x15_45, x16_45, x17_45, jv_45, o45, e45_0, e45_1, e45_2, e45_3⟩ := tyG2 H43 hk
  refine g_putfield (q := 124) C fX2_74 dX2_copy_121 rfl o45 (Nat.le_of_ble_eq_true rfl) (Or.inl rfl) rfl rfl (by intro z h; cases h) ?_
  refine tyP2 H43 hk rfl e45_0 e45_1 e45_2 e45_3 (fun h46 _ _ H46 => ?_)
  refine g_aload_n (q := 125) C dX2_copy_124 rfl rfl ?_
  refine g_aload_n (q := 126) C dX2_copy_125 rfl rfl ?_
  obtain ⟨x3_47, x4_47, x5_47, x6_47, x7_47, x11_47, x12_47, x13_47, x14_47, x15_47, x16_47, x17_47, jv_47, o47, e47_0, e47_1, e47_2, e47_3⟩ := tyG2 H46 hk0
  refine g_getfield (v := .int x17_47) (q := 129) C fX2_77 dX2_copy_126 rfl o47 rfl ?_
  obtain ⟨x3_48, x4_48, x5_48, x6_48, x7_48, x11_48, x12_48, x13_48, x14_48, x15_48, x16_48, x17_48, jv_48, o48, e48_0, e48_1, e48_2, e48_3⟩ := tyG2 H46 hk
  refine g_putfield (q := 132) C fX2_77 dX2_copy_129 rfl o48 (Nat.le_of_ble_eq_true rfl) (Or.inl rfl) rfl rfl (by intro z h; cases h) ?_
  refine tyP2 H46 hk rfl e48_0 e48_1 e48_2 e48_3 (fun h49 _ _ H49 => ?_)
  exact E.2.1 _ _ _ _ _ dX2_copy_132 rfl (Nat.le_of_ble_eq_true rfl) (Nat.le_of_ble_eq_true rfl) ⟨rfl, H49⟩
theorem dX2_send_0 : decode cX2_send 0 = .ok (.aload_n 1, 1) := by decide +kernel
theorem dX2_send_1 : decode cX2_send 1 = .ok (.aload_n 2, 1) := by decide +kernel
theorem dX2_send_2 : decode cX2_send 2 = .ok (.iload_n 3, 1) := by decide +kernel
theorem dX2_send_3 : decode cX2_send 3 = .ok (.invokestatic 247, 3) := by decide +kernel
theorem dX2_send_6 : decode cX2_send 6 = .ok (.istore 4, 2) := by decide +kernel
theorem dX2_send_8 : decode cX2_send 8 = .ok (.aload_n 0, 1) := by decide +kernel
theorem dX2_send_9 : decode cX2_send 9 = .ok (.aload_n 1, 1) := by decide +kernel
theorem dX2_send_10 : decode cX2_send 10 = .ok (.iload 4, 2) := by decide +kernel
theorem dX2_send_12 : decode cX2_send 12 = .ok (.invokevirtual 250, 3) := by decide +kernel
theorem dX2_send_15 : decode cX2_send 15 = .ok (.aload_n 1, 1) := by decide +kernel
theorem dX2_send_16 : decode cX2_send 16 = .ok (.iload 4, 2) := by decide +kernel
theorem dX2_send_18 : decode cX2_send 18 = .ok (.invokevirtual 254, 3) := by decide +kernel
theorem dX2_send_21 : decode cX2_send 21 = .ok (.aload_n 0, 1) := by decide +kernel
theorem dX2_send_22 : decode cX2_send 22 = .ok (.getfield 26, 3) := by decide +kernel
theorem dX2_send_25 : decode cX2_send 25 = .ok (.getfield 257, 3) := by decide +kernel
theorem dX2_send_28 : decode cX2_send 28 = .ok (.istore 5, 2) := by decide +kernel
theorem dX2_send_30 : decode cX2_send 30 = .ok (.aload_n 0, 1) := by decide +kernel
theorem dX2_send_31 : decode cX2_send 31 = .ok (.getfield 26, 3) := by decide +kernel
theorem dX2_send_34 : decode cX2_send 34 = .ok (.aload_n 0, 1) := by decide +kernel
theorem dX2_send_35 : decode cX2_send 35 = .ok (.getfield 51, 3) := by decide +kernel
theorem dX2_send_38 : decode cX2_send 38 = .ok (.aload_n 0, 1) := by decide +kernel
theorem dX2_send_39 : decode cX2_send 39 = .ok (.getfield 55, 3) := by decide +kernel
theorem dX2_send_42 : decode cX2_send 42 = .ok (.invokevirtual 260, 3) := by decide +kernel
theorem dX2_send_45 : decode cX2_send 45 = .ok (.istore 6, 2) := by decide +kernel
theorem dX2_send_47 : decode cX2_send 47 = .ok (.aload_n 0, 1) := by decide +kernel
theorem dX2_send_48 : decode cX2_send 48 = .ok (.aload_n 0, 1) := by decide +kernel
theorem dX2_send_49 : decode cX2_send 49 = .ok (.iload 6, 2) := by decide +kernel
theorem dX2_send_51 : decode cX2_send 51 = .ok (.aload_n 2, 1) := by decide +kernel
theorem dX2_send_52 : decode cX2_send 52 = .ok (.getfield 115, 3) := by decide +kernel
theorem dX2_send_55 : decode cX2_send 55 = .ok (.invokevirtual 264, 3) := by decide +kernel
theorem dX2_send_58 : decode cX2_send 58 = .ok (.putfield 58, 3) := by decide +kernel
theorem dX2_send_61 : decode cX2_send 61 = .ok (.aload_n 0, 1) := by decide +kernel
theorem dX2_send_62 : decode cX2_send 62 = .ok (.getfield 80, 3) := by decide +kernel
theorem dX2_send_65 : decode cX2_send 65 = .ok (.ifnull 39, 3) := by decide +kernel
theorem dX2_send_68 : decode cX2_send 68 = .ok (.aload_n 0, 1) := by decide +kernel
theorem dX2_send_69 : decode cX2_send 69 = .ok (.getfield 80, 3) := by decide +kernel
theorem dX2_send_72 : decode cX2_send 72 = .ok (.aload_n 0, 1) := by decide +kernel
theorem dX2_send_73 : decode cX2_send 73 = .ok (.getfield 80, 3) := by decide +kernel
theorem dX2_send_76 : decode cX2_send 76 = .ok (.aload_n 1, 1) := by decide +kernel
theorem dX2_send_77 : decode cX2_send 77 = .ok (.getfield 267, 3) := by decide +kernel
theorem dX2_send_80 : decode cX2_send 80 = .ok (.aload_n 0, 1) := by decide +kernel
theorem dX2_send_81 : decode cX2_send 81 = .ok (.getfield 51, 3) := by decide +kernel
theorem dX2_send_84 : decode cX2_send 84 = .ok (.invokevirtual 270, 3) := by decide +kernel
theorem dX2_send_87 : decode cX2_send 87 = .ok (.aload_n 0, 1) := by decide +kernel
theorem dX2_send_88 : decode cX2_send 88 = .ok (.getfield 58, 3) := by decide +kernel
theorem dX2_send_91 : decode cX2_send 91 = .ok (.aload_n 0, 1) := by decide +kernel
theorem dX2_send_92 : decode cX2_send 92 = .ok (.getfield 26, 3) := by decide +kernel
theorem dX2_send_95 : decode cX2_send 95 = .ok (.getfield 257, 3) := by decide +kernel
theorem dX2_send_98 : decode cX2_send 98 = .ok (.iload 5, 2) := by decide +kernel
theorem dX2_send_100 : decode cX2_send 100 = .ok (.isub, 1) := by decide +kernel
theorem dX2_send_101 : decode cX2_send 101 = .ok (.invokevirtual 276, 3) := by decide +kernel
theorem dX2_send_104 : decode cX2_send 104 = .ok (.return_, 1) := by decide +kernel
set_option maxRecDepth 100000 in
set_option maxHeartbeats 4000000 in
theorem tX2_send {T : tyT} {R : Nat} {J : Nat → Prop} {Bc Bs : Nat} {M : gMd} {z : Nat → Nat} {hp : List gA} {o : Nat} {a0 : Nat} {a1 : Nat} {a2 : Int32}  (H : tyS T R J Bc Bs M z hp) (hk : tyK o = (7, 0)) (hk0 : tyK a0 = (5, 0)) (hk1 : tyK a1 = (5, 0))  : gM yX2_send cX2_send 7 (none) 5 153 [.ref o, .ref a0, .ref a1, .int a2] (hp) (300000 - hp.length) (7000000 - gsz hp) (fun v h => v = none ∧ ∃ z', tyS T R J Bc Bs M z' h) := by
  refine gM_ofT (ls0 := [some (.ref o), some (.ref a0), some (.ref a1), some (.int a2), none, none, none]) (by decide +kernel) (Nat.le_of_ble_eq_true rfl) rfl fun X C E h0 => ?_
  refine g_aload_n (q := 1) C dX2_send_0 rfl rfl ?_
  refine g_aload_n (q := 2) C dX2_send_1 rfl rfl ?_
  refine g_iload_n (q := 3) C dX2_send_2 rfl rfl ?_
  refine g_tight h0 H.2.2.2.1 H.2.2.2.1 (fun ta1 tb1 => ?_)
  have lm1 := H.lim
  refine g_callSip (q := 6) (As := [.ref a0, .ref a1, .int a2]) C gyX2_kindToSend t_798 t_797 (tX2_kindToSend H hk0 hk1) dX2_send_3 rfl rfl rfl (Nat.le_of_ble_eq_true rfl) (Nat.le_of_ble_eq_true rfl) (Nat.le_of_ble_eq_true rfl) (by show _ + _ ≤ 300000 - List.length hp; omega) (by show _ + _ ≤ 7000000 - gsz hp; omega) rfl (fun x2 h2 q2 => ?_)
  have H2 := q2
  refine g_istore (q := 8) C dX2_send_6 (Nat.le_of_ble_eq_true rfl) (by simp only [gset]; rfl) rfl ?_
  refine g_aload_n (q := 9) C dX2_send_8 rfl rfl ?_
  refine g_aload_n (q := 10) C dX2_send_9 rfl rfl ?_
  refine g_iload (q := 12) C dX2_send_10 rfl rfl ?_
  obtain ⟨x3_3, x4_3, x5_3, x6_3, x7_3, x11_3, x12_3, x13_3, x14_3, x15_3, x16_3, x17_3, jv_3, o3, e3_0, e3_1, e3_2, e3_3⟩ := tyG2 H2 hk
  refine g_tight h0 H.2.2.2.1 H2.2.2.2.1 (fun ta4 tb4 => ?_)
  have lm4 := H2.lim
  refine g_callVvp (q := 15) (As := [.ref a0, .int x2]) C gyX2_compose gvX2_compose t_807 (tX2_compose H2 hk hk0) dX2_send_12 rfl o3 rfl rfl rfl (Nat.le_of_ble_eq_true rfl) (Nat.le_of_ble_eq_true rfl) (Nat.le_of_ble_eq_true rfl) (by show _ + _ ≤ 300000 - List.length hp; omega) (by show _ + _ ≤ 7000000 - gsz hp; omega) rfl (fun h5 q5 => ?_)
  have H5 := q5
  refine g_aload_n (q := 16) C dX2_send_15 rfl rfl ?_
  refine g_iload (q := 18) C dX2_send_16 rfl rfl ?_
  obtain ⟨x0_6, x1_6, x2_6, x3_6, x4_6, x5_6, x6_6, x7_6, x11_6, x12_6, x13_6, x14_6, o6, e6_0⟩ := tyG5 H5 hk0
  refine g_tight h0 H.2.2.2.1 H5.2.2.2.1 (fun ta7 tb7 => ?_)
  have lm7 := H5.lim
  refine g_callVvp (q := 21) (As := [.int x2]) C gyX5_noteSent gvX5_noteSent t_824 (tX5_noteSent H5 hk0) dX2_send_18 rfl o6 rfl rfl rfl (Nat.le_of_ble_eq_true rfl) (Nat.le_of_ble_eq_true rfl) (Nat.le_of_ble_eq_true rfl) (by show _ + _ ≤ 300000 - List.length hp; omega) (by show _ + _ ≤ 7000000 - gsz hp; omega) rfl (fun h8 q8 => ?_)
  have H8 := q8
  refine g_aload_n (q := 22) C dX2_send_21 rfl rfl ?_
  obtain ⟨x3_9, x4_9, x5_9, x6_9, x7_9, x11_9, x12_9, x13_9, x14_9, x15_9, x16_9, x17_9, jv_9, o9, e9_0, e9_1, e9_2, e9_3⟩ := tyG2 H8 hk
  refine g_getfield (v := .ref ((o + 15))) (q := 25) C fX2_26 dX2_send_22 rfl o9 rfl ?_
  obtain ⟨x0_10, x1_10, x2_10, x6_10, x7_10, x8_10, x9_10, o10, e10_0⟩ := tyG6 H8 (tyF2_2 hk)
  refine g_getfield (v := .int x1_10) (q := 28) C fX2_257 dX2_send_25 rfl o10 rfl ?_
  refine g_istore (q := 30) C dX2_send_28 (Nat.le_of_ble_eq_true rfl) (by simp only [gset]; rfl) rfl ?_
  refine g_aload_n (q := 31) C dX2_send_30 rfl rfl ?_
  refine g_getfield (v := .ref ((o + 15))) (q := 34) C fX2_26 dX2_send_31 rfl o9 rfl ?_
  refine g_aload_n (q := 35) C dX2_send_34 rfl rfl ?_
  refine g_getfield (v := .ref ((o + 19))) (q := 38) C fX2_51 dX2_send_35 rfl o9 rfl ?_
  refine g_aload_n (q := 39) C dX2_send_38 rfl rfl ?_
  refine g_getfield (v := .ref ((o + 21))) (q := 42) C fX2_55 dX2_send_39 rfl o9 rfl ?_
  refine g_tight h0 H.2.2.2.1 H8.2.2.2.1 (fun ta11 tb11 => ?_)
  have lm11 := H8.lim
  refine g_callVip (q := 45) (As := [.ref ((o + 19)), .ref ((o + 21))]) C gyX6_carry gvX6_carry t_828 (tX6_carry H8 (tyF2_2 hk) (tyF2_8 hk) (by decide) (tyF2_9 hk) (by decide)) dX2_send_42 rfl o10 rfl rfl rfl (Nat.le_of_ble_eq_true rfl) (Nat.le_of_ble_eq_true rfl) (Nat.le_of_ble_eq_true rfl) (by show _ + _ ≤ 300000 - List.length hp; omega) (by show _ + _ ≤ 7000000 - gsz hp; omega) rfl (fun x12 h12 q12 => ?_)
  have H12 := q12
  refine g_istore (q := 47) C dX2_send_45 (Nat.le_of_ble_eq_true rfl) (by simp only [gset]; rfl) rfl ?_
  refine g_aload_n (q := 48) C dX2_send_47 rfl rfl ?_
  refine g_aload_n (q := 49) C dX2_send_48 rfl rfl ?_
  refine g_iload (q := 51) C dX2_send_49 rfl rfl ?_
  refine g_aload_n (q := 52) C dX2_send_51 rfl rfl ?_
  obtain ⟨x0_13, x1_13, x2_13, x3_13, x4_13, x5_13, x6_13, x7_13, x11_13, x12_13, x13_13, x14_13, o13, e13_0⟩ := tyG5 H12 hk1
  refine g_getfield (v := .int x3_13) (q := 55) C fX2_115 dX2_send_52 rfl o13 rfl ?_
  obtain ⟨x3_14, x4_14, x5_14, x6_14, x7_14, x11_14, x12_14, x13_14, x14_14, x15_14, x16_14, x17_14, jv_14, o14, e14_0, e14_1, e14_2, e14_3⟩ := tyG2 H12 hk
  refine g_tight h0 H.2.2.2.1 H12.2.2.2.1 (fun ta15 tb15 => ?_)
  have lm15 := H12.lim
  refine g_callVip (q := 58) (As := [.int x12, .int x3_13]) C gyX2_judge gvX2_judge t_844 (tX2_judge H12 hk) dX2_send_55 rfl o14 rfl rfl rfl (Nat.le_of_ble_eq_true rfl) (Nat.le_of_ble_eq_true rfl) (Nat.le_of_ble_eq_true rfl) (by show _ + _ ≤ 300000 - List.length hp; omega) (by show _ + _ ≤ 7000000 - gsz hp; omega) rfl (fun x16 h16 q16 => ?_)
  have H16 := q16
  obtain ⟨x3_17, x4_17, x5_17, x6_17, x7_17, x11_17, x12_17, x13_17, x14_17, x15_17, x16_17, x17_17, jv_17, o17, e17_0, e17_1, e17_2, e17_3⟩ := tyG2 H16 hk
  refine g_putfield (q := 61) C fX2_58 dX2_send_58 rfl o17 (Nat.le_of_ble_eq_true rfl) (Or.inl rfl) rfl rfl (by intro z h; cases h) ?_
  refine tyP2 H16 hk rfl e17_0 e17_1 e17_2 e17_3 (fun h18 _ _ H18 => ?_)
  refine g_aload_n (q := 62) C dX2_send_61 rfl rfl ?_
  obtain ⟨x3_19, x4_19, x5_19, x6_19, x7_19, x11_19, x12_19, x13_19, x14_19, x15_19, x16_19, x17_19, jv_19, o19, e19_0, e19_1, e19_2, e19_3⟩ := tyG2 H18 hk
  rcases e19_3 with ⟨w19a, rfl⟩ | ⟨w19a, rfl⟩
  ·
    refine g_getfield (v := .ref 3) (q := 65) C fX2_80 dX2_send_62 rfl o19 rfl ?_
    refine g_ifnull (q := 68) C dX2_send_65 rfl ?_
    refine g_aload_n (q := 69) C dX2_send_68 rfl rfl ?_
    refine g_getfield (v := .ref 3) (q := 72) C fX2_80 dX2_send_69 rfl o19 rfl ?_
    refine g_aload_n (q := 73) C dX2_send_72 rfl rfl ?_
    refine g_getfield (v := .ref 3) (q := 76) C fX2_80 dX2_send_73 rfl o19 rfl ?_
    refine g_aload_n (q := 77) C dX2_send_76 rfl rfl ?_
    obtain ⟨x0_20, x1_20, x2_20, x3_20, x4_20, x5_20, x6_20, x7_20, x11_20, x12_20, x13_20, x14_20, o20, e20_0⟩ := tyG5 H18 hk0
    refine g_getfieldW (v := .int x0_20) (q := 80) C fX2_267 dX2_send_77 rfl o20 rfl ?_
    refine g_aload_n (q := 81) C dX2_send_80 rfl rfl ?_
    refine g_getfield (v := .ref ((o + 19))) (q := 84) C fX2_51 dX2_send_81 rfl o19 rfl ?_
    obtain ⟨x8_21, o21⟩ := tyG1 H18 (rfl : tyK 3 = (3, 0))
    refine g_tight h0 H.2.2.2.1 H18.2.2.2.1 (fun ta22 tb22 => ?_)
    have lm22 := H18.lim
    refine g_callVip (q := 87) (As := [.int x0_20, .ref ((o + 19))]) C gyX1_idOf gvX1_idOf t_852 (tX1_idOf H18 (tyF2_8 hk) (by decide)) dX2_send_84 rfl o21 rfl rfl rfl (Nat.le_of_ble_eq_true rfl) (Nat.le_of_ble_eq_true rfl) (Nat.le_of_ble_eq_true rfl) (by show _ + _ ≤ 300000 - List.length hp; omega) (by show _ + _ ≤ 7000000 - gsz hp; omega) rfl (fun x23 h23 q23 => ?_)
    obtain ⟨z23, H23⟩ := q23
    refine g_aload_n (q := 88) C dX2_send_87 rfl rfl ?_
    obtain ⟨x3_24, x4_24, x5_24, x6_24, x7_24, x11_24, x12_24, x13_24, x14_24, x15_24, x16_24, x17_24, jv_24, o24, e24_0, e24_1, e24_2, e24_3⟩ := tyG2 H23 hk
    refine g_getfield (v := .int x11_24) (q := 91) C fX2_58 dX2_send_88 rfl o24 rfl ?_
    refine g_aload_n (q := 92) C dX2_send_91 rfl rfl ?_
    refine g_getfield (v := .ref ((o + 15))) (q := 95) C fX2_26 dX2_send_92 rfl o24 rfl ?_
    obtain ⟨x0_25, x1_25, x2_25, x6_25, x7_25, x8_25, x9_25, o25, e25_0⟩ := tyG6 H23 (tyF2_2 hk)
    refine g_getfield (v := .int x1_25) (q := 98) C fX2_257 dX2_send_95 rfl o25 rfl ?_
    refine g_iload (q := 100) C dX2_send_98 rfl rfl ?_
    refine g_isub (q := 101) C dX2_send_100 rfl ?_
    obtain ⟨x8_26, o26⟩ := tyG1 H23 (rfl : tyK 3 = (3, 0))
    refine g_tight h0 H.2.2.2.1 H23.2.2.2.1 (fun ta27 tb27 => ?_)
    have lm27 := H23.lim
    refine g_callVvp (q := 104) (As := [.int x23, .int x11_24, .int (x1_25 - x1_10)]) C gyX1_note gvX1_note t_874 (tX1_note H23) dX2_send_101 rfl o26 rfl rfl rfl (Nat.le_of_ble_eq_true rfl) (Nat.le_of_ble_eq_true rfl) (Nat.le_of_ble_eq_true rfl) (by show _ + _ ≤ 300000 - List.length hp; omega) (by show _ + _ ≤ 7000000 - gsz hp; omega) rfl (fun h28 q28 => ?_)
    obtain ⟨z28, H28⟩ := q28
    refine g_tight h0 H.2.2.2.1 H28.2.2.2.1 (fun ta29 tb29 => ?_)
    have lm29 := H28.lim
    exact E.2.1 _ _ _ _ _ dX2_send_104 rfl (by omega) (by omega) ⟨rfl, ⟨_, H28⟩⟩
  ·
    refine g_getfield (v := .null) (q := 65) C fX2_80 dX2_send_62 rfl o19 rfl ?_
    refine g_ifnullN (t := 104) C dX2_send_65 (by decide) ?_
    refine g_tight h0 H.2.2.2.1 H18.2.2.2.1 (fun ta30 tb30 => ?_)
    have lm30 := H18.lim
    exact E.2.1 _ _ _ _ _ dX2_send_104 rfl (by omega) (by omega) ⟨rfl, ⟨_, H18⟩⟩
theorem dX2_turn_0 : decode cX2_turn 0 = .ok (.aload_n 0, 1) := by decide +kernel
theorem dX2_turn_1 : decode cX2_turn 1 = .ok (.getfield 61, 3) := by decide +kernel
theorem dX2_turn_4 : decode cX2_turn 4 = .ok (.ifCond .eq 10, 3) := by decide +kernel
theorem dX2_turn_7 : decode cX2_turn 7 = .ok (.aload_n 0, 1) := by decide +kernel
theorem dX2_turn_8 : decode cX2_turn 8 = .ok (.invokevirtual 125, 3) := by decide +kernel
theorem dX2_turn_11 : decode cX2_turn 11 = .ok (.goto 11, 3) := by decide +kernel
theorem dX2_turn_14 : decode cX2_turn 14 = .ok (.aload_n 0, 1) := by decide +kernel
theorem dX2_turn_15 : decode cX2_turn 15 = .ok (.aload_n 0, 1) := by decide +kernel
theorem dX2_turn_16 : decode cX2_turn 16 = .ok (.invokevirtual 128, 3) := by decide +kernel
theorem dX2_turn_19 : decode cX2_turn 19 = .ok (.invokevirtual 131, 3) := by decide +kernel
theorem dX2_turn_22 : decode cX2_turn 22 = .ok (.istore_n 1, 1) := by decide +kernel
theorem dX2_turn_23 : decode cX2_turn 23 = .ok (.iload_n 1, 1) := by decide +kernel
theorem dX2_turn_24 : decode cX2_turn 24 = .ok (.iconst (-1), 1) := by decide +kernel
theorem dX2_turn_25 : decode cX2_turn 25 = .ok (.if_icmp .ne 4, 3) := by decide +kernel
theorem dX2_turn_28 : decode cX2_turn 28 = .ok (.return_, 1) := by decide +kernel
theorem dX2_turn_29 : decode cX2_turn 29 = .ok (.aload_n 0, 1) := by decide +kernel
theorem dX2_turn_30 : decode cX2_turn 30 = .ok (.aload_n 0, 1) := by decide +kernel
theorem dX2_turn_31 : decode cX2_turn 31 = .ok (.getfield 14, 3) := by decide +kernel
theorem dX2_turn_34 : decode cX2_turn 34 = .ok (.aload_n 0, 1) := by decide +kernel
theorem dX2_turn_35 : decode cX2_turn 35 = .ok (.getfield 20, 3) := by decide +kernel
theorem dX2_turn_38 : decode cX2_turn 38 = .ok (.iload_n 1, 1) := by decide +kernel
theorem dX2_turn_39 : decode cX2_turn 39 = .ok (.invokevirtual 135, 3) := by decide +kernel
theorem dX2_turn_42 : decode cX2_turn 42 = .ok (.aload_n 0, 1) := by decide +kernel
theorem dX2_turn_43 : decode cX2_turn 43 = .ok (.invokevirtual 139, 3) := by decide +kernel
theorem dX2_turn_46 : decode cX2_turn 46 = .ok (.istore_n 1, 1) := by decide +kernel
theorem dX2_turn_47 : decode cX2_turn 47 = .ok (.iload_n 1, 1) := by decide +kernel
theorem dX2_turn_48 : decode cX2_turn 48 = .ok (.bipush (-4), 2) := by decide +kernel
theorem dX2_turn_50 : decode cX2_turn 50 = .ok (.if_icmp .ne 8, 3) := by decide +kernel
theorem dX2_turn_53 : decode cX2_turn 53 = .ok (.aload_n 0, 1) := by decide +kernel
theorem dX2_turn_54 : decode cX2_turn 54 = .ok (.invokevirtual 142, 3) := by decide +kernel
theorem dX2_turn_57 : decode cX2_turn 57 = .ok (.istore_n 1, 1) := by decide +kernel
theorem dX2_turn_58 : decode cX2_turn 58 = .ok (.iload_n 1, 1) := by decide +kernel
theorem dX2_turn_59 : decode cX2_turn 59 = .ok (.iconst (-1), 1) := by decide +kernel
theorem dX2_turn_60 : decode cX2_turn 60 = .ok (.if_icmp .ne 9, 3) := by decide +kernel
theorem dX2_turn_63 : decode cX2_turn 63 = .ok (.aload_n 0, 1) := by decide +kernel
theorem dX2_turn_64 : decode cX2_turn 64 = .ok (.iconst 3, 1) := by decide +kernel
theorem dX2_turn_65 : decode cX2_turn 65 = .ok (.putfield 58, 3) := by decide +kernel
theorem dX2_turn_68 : decode cX2_turn 68 = .ok (.return_, 1) := by decide +kernel
theorem dX2_turn_69 : decode cX2_turn 69 = .ok (.aload_n 0, 1) := by decide +kernel
theorem dX2_turn_70 : decode cX2_turn 70 = .ok (.aload_n 0, 1) := by decide +kernel
theorem dX2_turn_71 : decode cX2_turn 71 = .ok (.getfield 20, 3) := by decide +kernel
theorem dX2_turn_74 : decode cX2_turn 74 = .ok (.aload_n 0, 1) := by decide +kernel
theorem dX2_turn_75 : decode cX2_turn 75 = .ok (.getfield 14, 3) := by decide +kernel
theorem dX2_turn_78 : decode cX2_turn 78 = .ok (.iload_n 1, 1) := by decide +kernel
theorem dX2_turn_79 : decode cX2_turn 79 = .ok (.invokevirtual 135, 3) := by decide +kernel
theorem dX2_turn_82 : decode cX2_turn 82 = .ok (.return_, 1) := by decide +kernel
set_option maxRecDepth 100000 in
set_option maxHeartbeats 4000000 in
theorem tX2_turn {T : tyT} {R : Nat} {J : Nat → Prop} {Bc Bs : Nat} {M : gMd} {z : Nat → Nat} {hp : List gA} {o : Nat}  (H : tyS T R J Bc Bs M z hp) (hk : tyK o = (7, 0))  : gM yX2_turn cX2_turn 2 (none) 6 179 [.ref o] (hp) (300000 - hp.length) (7000000 - gsz hp) (fun v h => v = none ∧ ∃ z', tyS T R J Bc Bs M z' h) := by
  refine gM_ofT (ls0 := [some (.ref o), none]) (by decide +kernel) (Nat.le_of_ble_eq_true rfl) rfl fun X C E h0 => ?_
  have J_58 : ∀ (y58_1 : Int32) (zJ58 : Nat → Nat) (hJ58 : List gA), tyS T R J Bc Bs M zJ58 hJ58 → gG X 58 [some (.ref o), some (.int y58_1)] [] hJ58 (hJ58.length - hp.length) (gsz hJ58 - gsz hp) := by
    intro y58_1 zJ58 hJ58 HJ58
    refine g_iload_n (q := 59) C dX2_turn_58 rfl rfl ?_
    refine g_iconst (v := (-1)) (q := 60) C dX2_turn_59 (by decide) rfl ?_
    refine g_icmp_ne (t := 69) (q := 63) C dX2_turn_60 (by decide) rfl (fun c_60 => ?_) (fun c_60 => ?_)
    ·
      refine g_aload_n (q := 70) C dX2_turn_69 rfl rfl ?_
      refine g_aload_n (q := 71) C dX2_turn_70 rfl rfl ?_
      obtain ⟨x3_1, x4_1, x5_1, x6_1, x7_1, x11_1, x12_1, x13_1, x14_1, x15_1, x16_1, x17_1, jv_1, o1, e1_0, e1_1, e1_2, e1_3⟩ := tyG2 HJ58 hk
      refine g_getfield (v := .ref ((o + 8))) (q := 74) C fX2_20 dX2_turn_71 rfl o1 rfl ?_
      refine g_aload_n (q := 75) C dX2_turn_74 rfl rfl ?_
      refine g_getfield (v := .ref ((o + 1))) (q := 78) C fX2_14 dX2_turn_75 rfl o1 rfl ?_
      refine g_iload_n (q := 79) C dX2_turn_78 rfl rfl ?_
      refine g_tight h0 H.2.2.2.1 HJ58.2.2.2.1 (fun ta2 tb2 => ?_)
      have lm2 := HJ58.lim
      refine g_callVvp (q := 82) (As := [.ref ((o + 8)), .ref ((o + 1)), .int y58_1]) C gyX2_send gvX2_send t_793 (tX2_send HJ58 hk (tyF2_1 hk) (tyF2_0 hk)) dX2_turn_79 rfl o1 rfl rfl rfl (Nat.le_of_ble_eq_true rfl) (Nat.le_of_ble_eq_true rfl) (Nat.le_of_ble_eq_true rfl) (by show _ + _ ≤ 300000 - List.length hp; omega) (by show _ + _ ≤ 7000000 - gsz hp; omega) rfl (fun h3 q3 => ?_)
      obtain ⟨z3, H3⟩ := q3
      refine g_tight h0 H.2.2.2.1 H3.2.2.2.1 (fun ta4 tb4 => ?_)
      have lm4 := H3.lim
      exact E.2.1 _ _ _ _ _ dX2_turn_82 rfl (by omega) (by omega) ⟨rfl, ⟨_, H3⟩⟩
    ·
      refine g_aload_n (q := 64) C dX2_turn_63 rfl rfl ?_
      refine g_iconst (v := 3) (q := 65) C dX2_turn_64 (by decide) rfl ?_
      obtain ⟨x3_5, x4_5, x5_5, x6_5, x7_5, x11_5, x12_5, x13_5, x14_5, x15_5, x16_5, x17_5, jv_5, o5, e5_0, e5_1, e5_2, e5_3⟩ := tyG2 HJ58 hk
      refine g_putfield (q := 68) C fX2_58 dX2_turn_65 rfl o5 (Nat.le_of_ble_eq_true rfl) (Or.inl rfl) rfl rfl (by intro z h; cases h) ?_
      refine tyP2 HJ58 hk rfl e5_0 e5_1 e5_2 e5_3 (fun h6 _ _ H6 => ?_)
      refine g_tight h0 H.2.2.2.1 H6.2.2.2.1 (fun ta7 tb7 => ?_)
      have lm7 := H6.lim
      exact E.2.1 _ _ _ _ _ dX2_turn_68 rfl (by omega) (by omega) ⟨rfl, ⟨_, H6⟩⟩
  have J_22 : ∀ (s22_0 : Int32) (zJ22 : Nat → Nat) (hJ22 : List gA), tyS T R J Bc Bs M zJ22 hJ22 → gG X 22 [some (.ref o), none] [.int s22_0] hJ22 (hJ22.length - hp.length) (gsz hJ22 - gsz hp) := by
    intro s22_0 zJ22 hJ22 HJ22
    refine g_istore_n (q := 23) C dX2_turn_22 (Nat.le_of_ble_eq_true rfl) (by simp only [gset]; rfl) rfl ?_
    refine g_iload_n (q := 24) C dX2_turn_23 rfl rfl ?_
    refine g_iconst (v := (-1)) (q := 25) C dX2_turn_24 (by decide) rfl ?_
    refine g_icmp_ne (t := 29) (q := 28) C dX2_turn_25 (by decide) rfl (fun c_25 => ?_) (fun c_25 => ?_)
    ·
      refine g_aload_n (q := 30) C dX2_turn_29 rfl rfl ?_
      refine g_aload_n (q := 31) C dX2_turn_30 rfl rfl ?_
      obtain ⟨x3_8, x4_8, x5_8, x6_8, x7_8, x11_8, x12_8, x13_8, x14_8, x15_8, x16_8, x17_8, jv_8, o8, e8_0, e8_1, e8_2, e8_3⟩ := tyG2 HJ22 hk
      refine g_getfield (v := .ref ((o + 1))) (q := 34) C fX2_14 dX2_turn_31 rfl o8 rfl ?_
      refine g_aload_n (q := 35) C dX2_turn_34 rfl rfl ?_
      refine g_getfield (v := .ref ((o + 8))) (q := 38) C fX2_20 dX2_turn_35 rfl o8 rfl ?_
      refine g_iload_n (q := 39) C dX2_turn_38 rfl rfl ?_
      refine g_tight h0 H.2.2.2.1 HJ22.2.2.2.1 (fun ta9 tb9 => ?_)
      have lm9 := HJ22.lim
      refine g_callVvp (q := 42) (As := [.ref ((o + 1)), .ref ((o + 8)), .int s22_0]) C gyX2_send gvX2_send t_793 (tX2_send HJ22 hk (tyF2_0 hk) (tyF2_1 hk)) dX2_turn_39 rfl o8 rfl rfl rfl (Nat.le_of_ble_eq_true rfl) (Nat.le_of_ble_eq_true rfl) (Nat.le_of_ble_eq_true rfl) (by show _ + _ ≤ 300000 - List.length hp; omega) (by show _ + _ ≤ 7000000 - gsz hp; omega) rfl (fun h10 q10 => ?_)
      obtain ⟨z10, H10⟩ := q10
      refine g_aload_n (q := 43) C dX2_turn_42 rfl rfl ?_
      obtain ⟨x3_11, x4_11, x5_11, x6_11, x7_11, x11_11, x12_11, x13_11, x14_11, x15_11, x16_11, x17_11, jv_11, o11, e11_0, e11_1, e11_2, e11_3⟩ := tyG2 H10 hk
      refine g_tight h0 H.2.2.2.1 H10.2.2.2.1 (fun ta12 tb12 => ?_)
      have lm12 := H10.lim
      refine g_callVip (q := 46) (As := []) C gyX2_cardKind gvX2_cardKind t_878 (tX2_cardKind H10 hk) dX2_turn_43 rfl o11 rfl rfl rfl (Nat.le_of_ble_eq_true rfl) (Nat.le_of_ble_eq_true rfl) (Nat.le_of_ble_eq_true rfl) (by show _ + _ ≤ 300000 - List.length hp; omega) (by show _ + _ ≤ 7000000 - gsz hp; omega) rfl (fun x13 h13 q13 => ?_)
      have H13 := q13
      refine g_istore_n (q := 47) C dX2_turn_46 (Nat.le_of_ble_eq_true rfl) (by simp only [gset]; rfl) rfl ?_
      refine g_iload_n (q := 48) C dX2_turn_47 rfl rfl ?_
      refine g_bipush (v := (-4)) (q := 50) C dX2_turn_48 (by decide) rfl ?_
      refine g_icmp_ne (t := 58) (q := 53) C dX2_turn_50 (by decide) rfl (fun c_50 => ?_) (fun c_50 => ?_)
      ·
        refine g_tight h0 H.2.2.2.1 H13.2.2.2.1 (fun ta14 tb14 => ?_)
        exact J_58 _ _ _  H13
      ·
        refine g_aload_n (q := 54) C dX2_turn_53 rfl rfl ?_
        obtain ⟨x3_15, x4_15, x5_15, x6_15, x7_15, x11_15, x12_15, x13_15, x14_15, x15_15, x16_15, x17_15, jv_15, o15, e15_0, e15_1, e15_2, e15_3⟩ := tyG2 H13 hk
        refine g_tight h0 H.2.2.2.1 H13.2.2.2.1 (fun ta16 tb16 => ?_)
        have lm16 := H13.lim
        refine g_callVip (q := 57) (As := []) C gyX2_doMessage gvX2_doMessage t_894 (tX2_doMessage H13 hk) dX2_turn_54 rfl o15 rfl rfl rfl (Nat.le_of_ble_eq_true rfl) (Nat.le_of_ble_eq_true rfl) (Nat.le_of_ble_eq_true rfl) (by show _ + _ ≤ 300000 - List.length hp; omega) (by show _ + _ ≤ 7000000 - gsz hp; omega) rfl (fun x17 h17 q17 => ?_)
        have H17 := q17
        refine g_istore_n (q := 58) C dX2_turn_57 (Nat.le_of_ble_eq_true rfl) (by simp only [gset]; rfl) rfl ?_
        refine g_tight h0 H.2.2.2.1 H17.2.2.2.1 (fun ta18 tb18 => ?_)
        exact J_58 _ _ _  H17
    ·
      refine g_tight h0 H.2.2.2.1 HJ22.2.2.2.1 (fun ta19 tb19 => ?_)
      have lm19 := HJ22.lim
      exact E.2.1 _ _ _ _ _ dX2_turn_28 rfl (by omega) (by omega) ⟨rfl, ⟨_, HJ22⟩⟩
  refine g_aload_n (q := 1) C dX2_turn_0 rfl rfl ?_
  obtain ⟨x3_20, x4_20, x5_20, x6_20, x7_20, x11_20, x12_20, x13_20, x14_20, x15_20, x16_20, x17_20, jv_20, o20, e20_0, e20_1, e20_2, e20_3⟩ := tyG2 H hk
  refine g_getfield (v := .int x12_20) (q := 4) C fX2_61 dX2_turn_1 rfl o20 rfl ?_
  refine g_if_eq (t := 14) (q := 7) C dX2_turn_4 (by decide) rfl (fun c_4 => ?_) (fun c_4 => ?_)
  ·
    refine g_aload_n (q := 15) C dX2_turn_14 rfl rfl ?_
    refine g_aload_n (q := 16) C dX2_turn_15 rfl rfl ?_
    refine g_tight h0 H.2.2.2.1 H.2.2.2.1 (fun ta21 tb21 => ?_)
    have lm21 := H.lim
    refine g_callVip (q := 19) (As := []) C gyX2_readerKind gvX2_readerKind t_709 (tX2_readerKind H hk) dX2_turn_16 rfl o20 rfl rfl rfl (Nat.le_of_ble_eq_true rfl) (Nat.le_of_ble_eq_true rfl) (Nat.le_of_ble_eq_true rfl) (by show _ + _ ≤ 300000 - List.length hp; omega) (by show _ + _ ≤ 7000000 - gsz hp; omega) rfl (fun x22 h22 q22 => ?_)
    have H22 := q22
    obtain ⟨x3_23, x4_23, x5_23, x6_23, x7_23, x11_23, x12_23, x13_23, x14_23, x15_23, x16_23, x17_23, jv_23, o23, e23_0, e23_1, e23_2, e23_3⟩ := tyG2 H22 hk
    refine g_tight h0 H.2.2.2.1 H22.2.2.2.1 (fun ta24 tb24 => ?_)
    have lm24 := H22.lim
    refine g_callVip (q := 22) (As := [.int x22]) C gyX2_countTries gvX2_countTries t_789 (tX2_countTries H22 hk) dX2_turn_19 rfl o23 rfl rfl rfl (Nat.le_of_ble_eq_true rfl) (Nat.le_of_ble_eq_true rfl) (Nat.le_of_ble_eq_true rfl) (by show _ + _ ≤ 300000 - List.length hp; omega) (by show _ + _ ≤ 7000000 - gsz hp; omega) rfl (fun x25 h25 q25 => ?_)
    have H25 := q25
    refine g_tight h0 H.2.2.2.1 H25.2.2.2.1 (fun ta26 tb26 => ?_)
    exact J_22 _ _ _  H25
  ·
    refine g_aload_n (q := 8) C dX2_turn_7 rfl rfl ?_
    refine g_tight h0 H.2.2.2.1 H.2.2.2.1 (fun ta27 tb27 => ?_)
    have lm27 := H.lim
    refine g_callVip (q := 11) (As := []) C gyX2_firstKind gvX2_firstKind t_697 (tX2_firstKind H hk) dX2_turn_8 rfl o20 rfl rfl rfl (Nat.le_of_ble_eq_true rfl) (Nat.le_of_ble_eq_true rfl) (Nat.le_of_ble_eq_true rfl) (by show _ + _ ≤ 300000 - List.length hp; omega) (by show _ + _ ≤ 7000000 - gsz hp; omega) rfl (fun x28 h28 q28 => ?_)
    have H28 := q28
    refine g_goto (q := 22) C dX2_turn_11 (by decide) ?_
    refine g_tight h0 H.2.2.2.1 H28.2.2.2.1 (fun ta29 tb29 => ?_)
    exact J_22 _ _ _  H28
theorem dX2_run_0 : decode cX2_run 0 = .ok (.aload_n 0, 1) := by decide +kernel
theorem dX2_run_1 : decode cX2_run 1 = .ok (.invokevirtual 121, 3) := by decide +kernel
theorem dX2_run_4 : decode cX2_run 4 = .ok (.istore_n 2, 1) := by decide +kernel
theorem dX2_run_5 : decode cX2_run 5 = .ok (.iconst 0, 1) := by decide +kernel
theorem dX2_run_6 : decode cX2_run 6 = .ok (.istore_n 3, 1) := by decide +kernel
theorem dX2_run_7 : decode cX2_run 7 = .ok (.iload_n 3, 1) := by decide +kernel
theorem dX2_run_8 : decode cX2_run 8 = .ok (.iload_n 1, 1) := by decide +kernel
theorem dX2_run_9 : decode cX2_run 9 = .ok (.if_icmp .ge 21, 3) := by decide +kernel
theorem dX2_run_12 : decode cX2_run 12 = .ok (.aload_n 0, 1) := by decide +kernel
theorem dX2_run_13 : decode cX2_run 13 = .ok (.getfield 30, 3) := by decide +kernel
theorem dX2_run_16 : decode cX2_run 16 = .ok (.iconst 1, 1) := by decide +kernel
theorem dX2_run_17 : decode cX2_run 17 = .ok (.if_icmp .ne 13, 3) := by decide +kernel
theorem dX2_run_20 : decode cX2_run 20 = .ok (.aload_n 0, 1) := by decide +kernel
theorem dX2_run_21 : decode cX2_run 21 = .ok (.invokevirtual 122, 3) := by decide +kernel
theorem dX2_run_24 : decode cX2_run 24 = .ok (.iinc 3 1, 3) := by decide +kernel
theorem dX2_run_27 : decode cX2_run 27 = .ok (.goto (-20), 3) := by decide +kernel
theorem dX2_run_30 : decode cX2_run 30 = .ok (.aload_n 0, 1) := by decide +kernel
theorem dX2_run_31 : decode cX2_run 31 = .ok (.invokevirtual 121, 3) := by decide +kernel
theorem dX2_run_34 : decode cX2_run 34 = .ok (.iload_n 2, 1) := by decide +kernel
theorem dX2_run_35 : decode cX2_run 35 = .ok (.isub, 1) := by decide +kernel
theorem dX2_run_36 : decode cX2_run 36 = .ok (.ireturn, 1) := by decide +kernel
set_option maxRecDepth 100000 in
set_option maxHeartbeats 4000000 in
theorem tX2_run {T : tyT} {R : Nat} {J : Nat → Prop} {Bc Bs : Nat} {M : gMd} {z : Nat → Nat} {hp : List gA} {o : Nat} {a0 : Int32}  (H : tyS T R J Bc Bs M z hp) (hk : tyK o = (7, 0))  : gM yX2_run cX2_run 4 ((some .int)) 7 200 [.ref o, .int a0] (hp) (300000 - hp.length) (7000000 - gsz hp) (fun v h => ∃ x, v = some (.int x) ∧ ∃ z', tyS T R J Bc Bs M z' h) := by
  refine gM_ofT (ls0 := [some (.ref o), some (.int a0), none, none]) (by decide +kernel) (Nat.le_of_ble_eq_true rfl) rfl fun X C E h0 => ?_
  have J_30 : ∀ (y30_1 y30_2 y30_3 : Int32) (zJ30 : Nat → Nat) (hJ30 : List gA), tyS T R J Bc Bs M zJ30 hJ30 → gG X 30 [some (.ref o), some (.int y30_1), some (.int y30_2), some (.int y30_3)] [] hJ30 (hJ30.length - hp.length) (gsz hJ30 - gsz hp) := by
    intro y30_1 y30_2 y30_3 zJ30 hJ30 HJ30
    refine g_aload_n (q := 31) C dX2_run_30 rfl rfl ?_
    obtain ⟨x3_1, x4_1, x5_1, x6_1, x7_1, x11_1, x12_1, x13_1, x14_1, x15_1, x16_1, x17_1, jv_1, o1, e1_0, e1_1, e1_2, e1_3⟩ := tyG2 HJ30 hk
    refine g_tight h0 H.2.2.2.1 HJ30.2.2.2.1 (fun ta2 tb2 => ?_)
    have lm2 := HJ30.lim
    refine g_callVip (q := 34) (As := []) C gyX2_blocksSent gvX2_blocksSent t_685 (tX2_blocksSent HJ30 hk) dX2_run_31 rfl o1 rfl rfl rfl (Nat.le_of_ble_eq_true rfl) (Nat.le_of_ble_eq_true rfl) (Nat.le_of_ble_eq_true rfl) (by show _ + _ ≤ 300000 - List.length hp; omega) (by show _ + _ ≤ 7000000 - gsz hp; omega) rfl (fun x3 h3 q3 => ?_)
    have H3 := q3
    refine g_iload_n (q := 35) C dX2_run_34 rfl rfl ?_
    refine g_isub (q := 36) C dX2_run_35 rfl ?_
    refine g_tight h0 H.2.2.2.1 H3.2.2.2.1 (fun ta4 tb4 => ?_)
    have lm4 := H3.lim
    exact E.1 _ _ _ _ _ _ _ dX2_run_36 rfl rfl (by omega) (by omega) ⟨_, rfl, ⟨_, H3⟩⟩
  have J_7 : ∀ (d7 : Nat) (y7_1 y7_2 y7_3 : Int32) (zJ7 : Nat → Nat) (hJ7 : List gA), (2147483647 - y7_3.toInt).toNat = d7 → ∀ (_ : True), tyS T R J Bc Bs M zJ7 hJ7 → gG X 7 [some (.ref o), some (.int y7_1), some (.int y7_2), some (.int y7_3)] [] hJ7 (hJ7.length - hp.length) (gsz hJ7 - gsz hp) := by
    intro d7
    induction d7 using Nat.strongRecOn with
    | _ d7 ih7 =>
    intro y7_1 y7_2 y7_3 zJ7 hJ7 hd7 _ HJ7
    refine g_iload_n (q := 8) C dX2_run_7 rfl rfl ?_
    refine g_iload_n (q := 9) C dX2_run_8 rfl rfl ?_
    refine g_icmp_ge (t := 30) (q := 12) C dX2_run_9 (by decide) rfl (fun c_9 => ?_) (fun c_9 => ?_)
    ·
      refine g_tight h0 H.2.2.2.1 HJ7.2.2.2.1 (fun ta5 tb5 => ?_)
      exact J_30 _ _ _ _ _  HJ7
    ·
      refine g_aload_n (q := 13) C dX2_run_12 rfl rfl ?_
      obtain ⟨x3_6, x4_6, x5_6, x6_6, x7_6, x11_6, x12_6, x13_6, x14_6, x15_6, x16_6, x17_6, jv_6, o6, e6_0, e6_1, e6_2, e6_3⟩ := tyG2 HJ7 hk
      refine g_getfield (v := .int x3_6) (q := 16) C fX2_30 dX2_run_13 rfl o6 rfl ?_
      refine g_iconst (v := 1) (q := 17) C dX2_run_16 (by decide) rfl ?_
      refine g_icmp_ne (t := 30) (q := 20) C dX2_run_17 (by decide) rfl (fun c_17 => ?_) (fun c_17 => ?_)
      ·
        refine g_tight h0 H.2.2.2.1 HJ7.2.2.2.1 (fun ta7 tb7 => ?_)
        exact J_30 _ _ _ _ _  HJ7
      ·
        refine g_aload_n (q := 21) C dX2_run_20 rfl rfl ?_
        refine g_tight h0 H.2.2.2.1 HJ7.2.2.2.1 (fun ta8 tb8 => ?_)
        have lm8 := HJ7.lim
        refine g_callVvp (q := 24) (As := []) C gyX2_turn gvX2_turn t_693 (tX2_turn HJ7 hk) dX2_run_21 rfl o6 rfl rfl rfl (Nat.le_of_ble_eq_true rfl) (Nat.le_of_ble_eq_true rfl) (Nat.le_of_ble_eq_true rfl) (by show _ + _ ≤ 300000 - List.length hp; omega) (by show _ + _ ≤ 7000000 - gsz hp; omega) rfl (fun h9 q9 => ?_)
        obtain ⟨z9, H9⟩ := q9
        refine g_iinc (v := y7_3 + 1) (q := 27) C dX2_run_24 rfl rfl (by simp only [gset]; rfl) rfl ?_
        refine g_goto (q := 7) C dX2_run_27 (by decide) ?_
        refine g_tight h0 H.2.2.2.1 H9.2.2.2.1 (fun ta10 tb10 => ?_)
        exact ih7 _ (tyUp' hd7 c_9) _ _ _ _ _ rfl trivial H9
  refine g_aload_n (q := 1) C dX2_run_0 rfl rfl ?_
  obtain ⟨x3_11, x4_11, x5_11, x6_11, x7_11, x11_11, x12_11, x13_11, x14_11, x15_11, x16_11, x17_11, jv_11, o11, e11_0, e11_1, e11_2, e11_3⟩ := tyG2 H hk
  refine g_tight h0 H.2.2.2.1 H.2.2.2.1 (fun ta12 tb12 => ?_)
  have lm12 := H.lim
  refine g_callVip (q := 4) (As := []) C gyX2_blocksSent gvX2_blocksSent t_685 (tX2_blocksSent H hk) dX2_run_1 rfl o11 rfl rfl rfl (Nat.le_of_ble_eq_true rfl) (Nat.le_of_ble_eq_true rfl) (Nat.le_of_ble_eq_true rfl) (by show _ + _ ≤ 300000 - List.length hp; omega) (by show _ + _ ≤ 7000000 - gsz hp; omega) rfl (fun x13 h13 q13 => ?_)
  have H13 := q13
  refine g_istore_n (q := 5) C dX2_run_4 (Nat.le_of_ble_eq_true rfl) (by simp only [gset]; rfl) rfl ?_
  refine g_iconst (v := 0) (q := 6) C dX2_run_5 (by decide) rfl ?_
  refine g_istore_n (q := 7) C dX2_run_6 (Nat.le_of_ble_eq_true rfl) (by simp only [gset]; rfl) rfl ?_
  refine g_tight h0 H.2.2.2.1 H13.2.2.2.1 (fun ta14 tb14 => ?_)
  exact J_7 _ _ _ _ _ _ rfl trivial H13
