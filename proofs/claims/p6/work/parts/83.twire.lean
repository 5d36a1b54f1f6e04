/-! THE WIRE BY SHAPE (by program: wip/p2t/m_twire.py, gen6.py) -/
theorem dX4_same_0 : decode cX4_same 0 = .ok (.aload_n 0, 1) := by decide +kernel
theorem dX4_same_1 : decode cX4_same 1 = .ok (.getfield 7, 3) := by decide +kernel
theorem dX4_same_4 : decode cX4_same 4 = .ok (.aload_n 1, 1) := by decide +kernel
theorem dX4_same_5 : decode cX4_same 5 = .ok (.getfield 7, 3) := by decide +kernel
theorem dX4_same_8 : decode cX4_same 8 = .ok (.if_icmp .eq 5, 3) := by decide +kernel
theorem dX4_same_11 : decode cX4_same 11 = .ok (.iconst 0, 1) := by decide +kernel
theorem dX4_same_12 : decode cX4_same 12 = .ok (.ireturn, 1) := by decide +kernel
theorem dX4_same_13 : decode cX4_same 13 = .ok (.iconst 0, 1) := by decide +kernel
theorem dX4_same_14 : decode cX4_same 14 = .ok (.istore_n 2, 1) := by decide +kernel
theorem dX4_same_15 : decode cX4_same 15 = .ok (.iload_n 2, 1) := by decide +kernel
theorem dX4_same_16 : decode cX4_same 16 = .ok (.aload_n 0, 1) := by decide +kernel
theorem dX4_same_17 : decode cX4_same 17 = .ok (.getfield 7, 3) := by decide +kernel
theorem dX4_same_20 : decode cX4_same 20 = .ok (.if_icmp .ge 24, 3) := by decide +kernel
theorem dX4_same_23 : decode cX4_same 23 = .ok (.aload_n 0, 1) := by decide +kernel
theorem dX4_same_24 : decode cX4_same 24 = .ok (.iload_n 2, 1) := by decide +kernel
theorem dX4_same_25 : decode cX4_same 25 = .ok (.invokevirtual 41, 3) := by decide +kernel
theorem dX4_same_28 : decode cX4_same 28 = .ok (.aload_n 1, 1) := by decide +kernel
theorem dX4_same_29 : decode cX4_same 29 = .ok (.iload_n 2, 1) := by decide +kernel
theorem dX4_same_30 : decode cX4_same 30 = .ok (.invokevirtual 41, 3) := by decide +kernel
theorem dX4_same_33 : decode cX4_same 33 = .ok (.if_icmp .eq 5, 3) := by decide +kernel
theorem dX4_same_36 : decode cX4_same 36 = .ok (.iconst 0, 1) := by decide +kernel
theorem dX4_same_37 : decode cX4_same 37 = .ok (.ireturn, 1) := by decide +kernel
theorem dX4_same_38 : decode cX4_same 38 = .ok (.iinc 2 1, 3) := by decide +kernel
theorem dX4_same_41 : decode cX4_same 41 = .ok (.goto (-26), 3) := by decide +kernel
theorem dX4_same_44 : decode cX4_same 44 = .ok (.iconst 1, 1) := by decide +kernel
theorem dX4_same_45 : decode cX4_same 45 = .ok (.ireturn, 1) := by decide +kernel
set_option maxRecDepth 100000 in
set_option maxHeartbeats 4000000 in
theorem tX4_same {T : tyT} {R : Nat} {J : Nat → Prop} {Bc Bs : Nat} {M : gMd} {z : Nat → Nat} {hp : List gA} {o mo : Nat} {a0 m0 : Nat}  (H : tyS T R J Bc Bs M z hp) (hk : tyK o = (1, mo)) (hk0 : tyK a0 = (1, m0))  : gM yX4_same cX4_same 3 ((some .boolean)) 1 21 [.ref o, .ref a0] (hp) (0) (0) (fun v h => ∃ x, v = some (.int x) ∧ ((x = 0 ∨ x = 1) ∧ tyS T R J Bc Bs M z h)) := by
  refine gM_of (ls0 := [some (.ref o), some (.ref a0), none]) (by decide +kernel) (Nat.le_of_ble_eq_true rfl) rfl fun X C E => ?_
  have J_15 : ∀ (d15 : Nat) (y15_2 : Int32) (hJ15 : List gA), (2147483647 - y15_2.toInt).toNat = d15 → ∀ (_ : True), tyS T R J Bc Bs M z hJ15 → gG X 15 [some (.ref o), some (.ref a0), some (.int y15_2)] [] hJ15 0 0 := by
    intro d15
    induction d15 using Nat.strongRecOn with
    | _ d15 ih15 =>
    intro y15_2 hJ15 hd15 _ HJ15
    refine g_iload_n (q := 16) C dX4_same_15 rfl rfl ?_
    refine g_aload_n (q := 17) C dX4_same_16 rfl rfl ?_
    obtain ⟨l1, g1, -⟩ := tyRow HJ15 hk
    refine g_getfield (q := 20) C fX4_7 dX4_same_17 rfl g1.obj rfl ?_
    refine g_icmp_ge (t := 44) (q := 23) C dX4_same_20 (by decide) rfl (fun c_20 => ?_) (fun c_20 => ?_)
    ·
      refine g_iconst (v := 1) (q := 45) C dX4_same_44 (by decide) rfl ?_
      exact E.1 _ _ _ _ _ _ _ dX4_same_45 rfl (tyNar (Or.inr rfl)) (Nat.le_of_ble_eq_true rfl) (Nat.le_of_ble_eq_true rfl) ⟨_, rfl, (Or.inr rfl), HJ15⟩
    ·
      refine g_aload_n (q := 24) C dX4_same_23 rfl rfl ?_
      refine g_iload_n (q := 25) C dX4_same_24 rfl rfl ?_
      refine g_callVip (q := 28) (As := [.int y15_2]) C gyX4_at gvX4_at t_823 (tX4_at HJ15 hk) dX4_same_25 rfl g1.obj rfl rfl rfl (Nat.le_of_ble_eq_true rfl) (Nat.le_of_ble_eq_true rfl) (Nat.le_of_ble_eq_true rfl) (Nat.le_of_ble_eq_true rfl) (Nat.le_of_ble_eq_true rfl) rfl (fun x2 h2 q2 => ?_)
      subst q2
      refine g_aload_n (q := 29) C dX4_same_28 rfl rfl ?_
      refine g_iload_n (q := 30) C dX4_same_29 rfl rfl ?_
      obtain ⟨l3, g3, -⟩ := tyRow HJ15 hk0
      refine g_callVip (q := 33) (As := [.int y15_2]) C gyX4_at gvX4_at t_823 (tX4_at HJ15 hk0) dX4_same_30 rfl g3.obj rfl rfl rfl (Nat.le_of_ble_eq_true rfl) (Nat.le_of_ble_eq_true rfl) (Nat.le_of_ble_eq_true rfl) (Nat.le_of_ble_eq_true rfl) (Nat.le_of_ble_eq_true rfl) rfl (fun x4 h4 q4 => ?_)
      subst q4
      refine g_icmp_eq (t := 38) (q := 36) C dX4_same_33 (by decide) rfl (fun c_33 => ?_) (fun c_33 => ?_)
      ·
        refine g_iinc (v := y15_2 + 1) (q := 41) C dX4_same_38 rfl rfl (by simp only [gset]; rfl) rfl ?_
        refine g_goto (q := 15) C dX4_same_41 (by decide) ?_
        exact ih15 _ (tyUp' hd15 c_20) _ _ rfl trivial HJ15
      ·
        refine g_iconst (v := 0) (q := 37) C dX4_same_36 (by decide) rfl ?_
        exact E.1 _ _ _ _ _ _ _ dX4_same_37 rfl (tyNar (Or.inl rfl)) (Nat.le_of_ble_eq_true rfl) (Nat.le_of_ble_eq_true rfl) ⟨_, rfl, (Or.inl rfl), HJ15⟩
  refine g_aload_n (q := 1) C dX4_same_0 rfl rfl ?_
  obtain ⟨l5, g5, -⟩ := tyRow H hk
  refine g_getfield (q := 4) C fX4_7 dX4_same_1 rfl g5.obj rfl ?_
  refine g_aload_n (q := 5) C dX4_same_4 rfl rfl ?_
  obtain ⟨l6, g6, -⟩ := tyRow H hk0
  refine g_getfield (q := 8) C fX4_7 dX4_same_5 rfl g6.obj rfl ?_
  refine g_icmp_eq (t := 13) (q := 11) C dX4_same_8 (by decide) rfl (fun c_8 => ?_) (fun c_8 => ?_)
  ·
    refine g_iconst (v := 0) (q := 14) C dX4_same_13 (by decide) rfl ?_
    refine g_istore_n (q := 15) C dX4_same_14 (Nat.le_of_ble_eq_true rfl) (by simp only [gset]; rfl) rfl ?_
    exact J_15 _ _ _ rfl trivial H
  ·
    refine g_iconst (v := 0) (q := 12) C dX4_same_11 (by decide) rfl ?_
    exact E.1 _ _ _ _ _ _ _ dX4_same_12 rfl (tyNar (Or.inl rfl)) (Nat.le_of_ble_eq_true rfl) (Nat.le_of_ble_eq_true rfl) ⟨_, rfl, (Or.inl rfl), H⟩
theorem dX5_takeWhole_0 : decode cX5_takeWhole 0 = .ok (.aload_n 0, 1) := by decide +kernel
theorem dX5_takeWhole_1 : decode cX5_takeWhole 1 = .ok (.getfield 42, 3) := by decide +kernel
theorem dX5_takeWhole_4 : decode cX5_takeWhole 4 = .ok (.aload_n 0, 1) := by decide +kernel
theorem dX5_takeWhole_5 : decode cX5_takeWhole 5 = .ok (.getfield 45, 3) := by decide +kernel
theorem dX5_takeWhole_8 : decode cX5_takeWhole 8 = .ok (.invokevirtual 71, 3) := by decide +kernel
theorem dX5_takeWhole_11 : decode cX5_takeWhole 11 = .ok (.aload_n 0, 1) := by decide +kernel
theorem dX5_takeWhole_12 : decode cX5_takeWhole 12 = .ok (.getfield 45, 3) := by decide +kernel
theorem dX5_takeWhole_15 : decode cX5_takeWhole 15 = .ok (.iconst 0, 1) := by decide +kernel
theorem dX5_takeWhole_16 : decode cX5_takeWhole 16 = .ok (.invokevirtual 67, 3) := by decide +kernel
theorem dX5_takeWhole_19 : decode cX5_takeWhole 19 = .ok (.aload_n 0, 1) := by decide +kernel
theorem dX5_takeWhole_20 : decode cX5_takeWhole 20 = .ok (.dup, 1) := by decide +kernel
theorem dX5_takeWhole_21 : decode cX5_takeWhole 21 = .ok (.getfield 30, 3) := by decide +kernel
theorem dX5_takeWhole_24 : decode cX5_takeWhole 24 = .ok (.iconst 1, 1) := by decide +kernel
theorem dX5_takeWhole_25 : decode cX5_takeWhole 25 = .ok (.iadd, 1) := by decide +kernel
theorem dX5_takeWhole_26 : decode cX5_takeWhole 26 = .ok (.putfield 30, 3) := by decide +kernel
theorem dX5_takeWhole_29 : decode cX5_takeWhole 29 = .ok (.return_, 1) := by decide +kernel
set_option maxRecDepth 100000 in
set_option maxHeartbeats 4000000 in
theorem tX5_takeWhole {T : tyT} {R : Nat} {J : Nat → Prop} {Bc Bs : Nat} {M : gMd} {z : Nat → Nat} {hp : List gA} {o : Nat}  (H : tyS T R J Bc Bs M z hp) (hk : tyK o = (5, 0))  : gM yX5_takeWhole cX5_takeWhole 1 (none) 2 82 [.ref o] (hp) (0) (0) (fun v h => v = none ∧ tyS T R J Bc Bs M z h) := by
  refine gM_of (ls0 := [some (.ref o)]) (by decide +kernel) (Nat.le_of_ble_eq_true rfl) rfl fun X C E => ?_
  refine g_aload_n (q := 1) C dX5_takeWhole_0 rfl rfl ?_
  obtain ⟨x0_1, x1_1, x2_1, x3_1, x4_1, x5_1, x6_1, x7_1, x11_1, x12_1, x13_1, x14_1, o1, e1_0⟩ := tyG5 H hk
  refine g_getfield (v := .ref ((o + 3))) (q := 4) C fX5_42 dX5_takeWhole_1 rfl o1 rfl ?_
  refine g_aload_n (q := 5) C dX5_takeWhole_4 rfl rfl ?_
  refine g_getfield (v := .ref ((o + 5))) (q := 8) C fX5_45 dX5_takeWhole_5 rfl o1 rfl ?_
  obtain ⟨l2, g2, -⟩ := tyRow H (tyF5_9 hk)
  refine g_callVvp (q := 11) (As := [.ref ((o + 5))]) C gyX4_copy gvX4_copy t_772 (tX4_copy H (tyF5_9 hk) (by decide) (tyF5_10 hk)) dX5_takeWhole_8 rfl g2.obj rfl rfl rfl (Nat.le_of_ble_eq_true rfl) (Nat.le_of_ble_eq_true rfl) (Nat.le_of_ble_eq_true rfl) (Nat.le_of_ble_eq_true rfl) (Nat.le_of_ble_eq_true rfl) rfl (fun h3 q3 => ?_)
  have H3 := q3
  refine g_aload_n (q := 12) C dX5_takeWhole_11 rfl rfl ?_
  obtain ⟨x0_4, x1_4, x2_4, x3_4, x4_4, x5_4, x6_4, x7_4, x11_4, x12_4, x13_4, x14_4, o4, e4_0⟩ := tyG5 H3 hk
  refine g_getfield (v := .ref ((o + 5))) (q := 15) C fX5_45 dX5_takeWhole_12 rfl o4 rfl ?_
  refine g_iconst (v := 0) (q := 16) C dX5_takeWhole_15 (by decide) rfl ?_
  obtain ⟨l5, g5, -⟩ := tyRow H3 (tyF5_10 hk)
  refine g_callVvp (q := 19) (As := [.int 0]) C gyX4_keep gvX4_keep t_581 (tX4_keep H3 (tyF5_10 hk) (by decide)) dX5_takeWhole_16 rfl g5.obj rfl rfl rfl (Nat.le_of_ble_eq_true rfl) (Nat.le_of_ble_eq_true rfl) (Nat.le_of_ble_eq_true rfl) (Nat.le_of_ble_eq_true rfl) (Nat.le_of_ble_eq_true rfl) rfl (fun h6 q6 => ?_)
  have H6 := q6
  refine g_aload_n (q := 20) C dX5_takeWhole_19 rfl rfl ?_
  refine g_dup (q := 21) C dX5_takeWhole_20 rfl rfl ?_
  obtain ⟨x0_7, x1_7, x2_7, x3_7, x4_7, x5_7, x6_7, x7_7, x11_7, x12_7, x13_7, x14_7, o7, e7_0⟩ := tyG5 H6 hk
  refine g_getfield (v := .int x7_7) (q := 24) C fX5_30 dX5_takeWhole_21 rfl o7 rfl ?_
  refine g_iconst (v := 1) (q := 25) C dX5_takeWhole_24 (by decide) rfl ?_
  refine g_iadd (q := 26) C dX5_takeWhole_25 rfl ?_
  refine g_putfield (q := 29) C fX5_30 dX5_takeWhole_26 rfl o7 (Nat.le_of_ble_eq_true rfl) (Or.inl rfl) rfl rfl (by intro z h; cases h) ?_
  refine tyP5 H6 hk rfl e7_0 (fun h8 _ _ H8 => ?_)
  exact E.2.1 _ _ _ _ _ dX5_takeWhole_29 rfl (Nat.le_of_ble_eq_true rfl) (Nat.le_of_ble_eq_true rfl) ⟨rfl, H8⟩
theorem dX5_copy_0 : decode cX5_copy 0 = .ok (.aload_n 0, 1) := by decide +kernel
theorem dX5_copy_1 : decode cX5_copy 1 = .ok (.aload_n 1, 1) := by decide +kernel
theorem dX5_copy_2 : decode cX5_copy 2 = .ok (.getfield 9, 3) := by decide +kernel
theorem dX5_copy_5 : decode cX5_copy 5 = .ok (.putfield 9, 3) := by decide +kernel
theorem dX5_copy_8 : decode cX5_copy 8 = .ok (.aload_n 0, 1) := by decide +kernel
theorem dX5_copy_9 : decode cX5_copy 9 = .ok (.aload_n 1, 1) := by decide +kernel
theorem dX5_copy_10 : decode cX5_copy 10 = .ok (.getfield 15, 3) := by decide +kernel
theorem dX5_copy_13 : decode cX5_copy 13 = .ok (.putfield 15, 3) := by decide +kernel
theorem dX5_copy_16 : decode cX5_copy 16 = .ok (.aload_n 0, 1) := by decide +kernel
theorem dX5_copy_17 : decode cX5_copy 17 = .ok (.aload_n 1, 1) := by decide +kernel
theorem dX5_copy_18 : decode cX5_copy 18 = .ok (.getfield 18, 3) := by decide +kernel
theorem dX5_copy_21 : decode cX5_copy 21 = .ok (.putfield 18, 3) := by decide +kernel
theorem dX5_copy_24 : decode cX5_copy 24 = .ok (.aload_n 0, 1) := by decide +kernel
theorem dX5_copy_25 : decode cX5_copy 25 = .ok (.aload_n 1, 1) := by decide +kernel
theorem dX5_copy_26 : decode cX5_copy 26 = .ok (.getfield 21, 3) := by decide +kernel
theorem dX5_copy_29 : decode cX5_copy 29 = .ok (.putfield 21, 3) := by decide +kernel
theorem dX5_copy_32 : decode cX5_copy 32 = .ok (.aload_n 0, 1) := by decide +kernel
theorem dX5_copy_33 : decode cX5_copy 33 = .ok (.aload_n 1, 1) := by decide +kernel
theorem dX5_copy_34 : decode cX5_copy 34 = .ok (.getfield 24, 3) := by decide +kernel
theorem dX5_copy_37 : decode cX5_copy 37 = .ok (.putfield 24, 3) := by decide +kernel
theorem dX5_copy_40 : decode cX5_copy 40 = .ok (.aload_n 0, 1) := by decide +kernel
theorem dX5_copy_41 : decode cX5_copy 41 = .ok (.aload_n 1, 1) := by decide +kernel
theorem dX5_copy_42 : decode cX5_copy 42 = .ok (.getfield 27, 3) := by decide +kernel
theorem dX5_copy_45 : decode cX5_copy 45 = .ok (.putfield 27, 3) := by decide +kernel
theorem dX5_copy_48 : decode cX5_copy 48 = .ok (.aload_n 0, 1) := by decide +kernel
theorem dX5_copy_49 : decode cX5_copy 49 = .ok (.aload_n 1, 1) := by decide +kernel
theorem dX5_copy_50 : decode cX5_copy 50 = .ok (.getfield 30, 3) := by decide +kernel
theorem dX5_copy_53 : decode cX5_copy 53 = .ok (.putfield 30, 3) := by decide +kernel
theorem dX5_copy_56 : decode cX5_copy 56 = .ok (.aload_n 0, 1) := by decide +kernel
theorem dX5_copy_57 : decode cX5_copy 57 = .ok (.getfield 38, 3) := by decide +kernel
theorem dX5_copy_60 : decode cX5_copy 60 = .ok (.aload_n 1, 1) := by decide +kernel
theorem dX5_copy_61 : decode cX5_copy 61 = .ok (.getfield 38, 3) := by decide +kernel
theorem dX5_copy_64 : decode cX5_copy 64 = .ok (.invokevirtual 71, 3) := by decide +kernel
theorem dX5_copy_67 : decode cX5_copy 67 = .ok (.aload_n 0, 1) := by decide +kernel
theorem dX5_copy_68 : decode cX5_copy 68 = .ok (.getfield 42, 3) := by decide +kernel
theorem dX5_copy_71 : decode cX5_copy 71 = .ok (.aload_n 1, 1) := by decide +kernel
theorem dX5_copy_72 : decode cX5_copy 72 = .ok (.getfield 42, 3) := by decide +kernel
theorem dX5_copy_75 : decode cX5_copy 75 = .ok (.invokevirtual 71, 3) := by decide +kernel
theorem dX5_copy_78 : decode cX5_copy 78 = .ok (.aload_n 0, 1) := by decide +kernel
theorem dX5_copy_79 : decode cX5_copy 79 = .ok (.getfield 45, 3) := by decide +kernel
theorem dX5_copy_82 : decode cX5_copy 82 = .ok (.aload_n 1, 1) := by decide +kernel
theorem dX5_copy_83 : decode cX5_copy 83 = .ok (.getfield 45, 3) := by decide +kernel
theorem dX5_copy_86 : decode cX5_copy 86 = .ok (.invokevirtual 71, 3) := by decide +kernel
theorem dX5_copy_89 : decode cX5_copy 89 = .ok (.aload_n 0, 1) := by decide +kernel
theorem dX5_copy_90 : decode cX5_copy 90 = .ok (.aload_n 1, 1) := by decide +kernel
theorem dX5_copy_91 : decode cX5_copy 91 = .ok (.getfield 48, 3) := by decide +kernel
theorem dX5_copy_94 : decode cX5_copy 94 = .ok (.putfield 48, 3) := by decide +kernel
theorem dX5_copy_97 : decode cX5_copy 97 = .ok (.aload_n 0, 1) := by decide +kernel
theorem dX5_copy_98 : decode cX5_copy 98 = .ok (.aload_n 1, 1) := by decide +kernel
theorem dX5_copy_99 : decode cX5_copy 99 = .ok (.getfield 51, 3) := by decide +kernel
theorem dX5_copy_102 : decode cX5_copy 102 = .ok (.putfield 51, 3) := by decide +kernel
theorem dX5_copy_105 : decode cX5_copy 105 = .ok (.aload_n 0, 1) := by decide +kernel
theorem dX5_copy_106 : decode cX5_copy 106 = .ok (.aload_n 1, 1) := by decide +kernel
theorem dX5_copy_107 : decode cX5_copy 107 = .ok (.getfield 55, 3) := by decide +kernel
theorem dX5_copy_110 : decode cX5_copy 110 = .ok (.putfield 55, 3) := by decide +kernel
theorem dX5_copy_113 : decode cX5_copy 113 = .ok (.aload_n 0, 1) := by decide +kernel
theorem dX5_copy_114 : decode cX5_copy 114 = .ok (.aload_n 1, 1) := by decide +kernel
theorem dX5_copy_115 : decode cX5_copy 115 = .ok (.getfield 58, 3) := by decide +kernel
theorem dX5_copy_118 : decode cX5_copy 118 = .ok (.putfield 58, 3) := by decide +kernel
theorem dX5_copy_121 : decode cX5_copy 121 = .ok (.return_, 1) := by decide +kernel
set_option maxRecDepth 100000 in
set_option maxHeartbeats 4000000 in
theorem tX5_copy {T : tyT} {R : Nat} {J : Nat → Prop} {Bc Bs : Nat} {M : gMd} {z : Nat → Nat} {hp : List gA} {o : Nat} {a0 : Nat}  (H : tyS T R J Bc Bs M z hp) (hk : tyK o = (5, 0)) (hk0 : tyK a0 = (5, 0))  : gM yX5_copy cX5_copy 2 (none) 2 82 [.ref o, .ref a0] (hp) (0) (0) (fun v h => v = none ∧ tyS T R J Bc Bs M z h) := by
  refine gM_of (ls0 := [some (.ref o), some (.ref a0)]) (by decide +kernel) (Nat.le_of_ble_eq_true rfl) rfl fun X C E => ?_
  refine g_aload_n (q := 1) C dX5_copy_0 rfl rfl ?_
  refine g_aload_n (q := 2) C dX5_copy_1 rfl rfl ?_
  obtain ⟨x0_1, x1_1, x2_1, x3_1, x4_1, x5_1, x6_1, x7_1, x11_1, x12_1, x13_1, x14_1, o1, e1_0⟩ := tyG5 H hk0
  refine g_getfield (v := .int x1_1) (q := 5) C fX5_9 dX5_copy_2 rfl o1 rfl ?_
  obtain ⟨x0_2, x1_2, x2_2, x3_2, x4_2, x5_2, x6_2, x7_2, x11_2, x12_2, x13_2, x14_2, o2, e2_0⟩ := tyG5 H hk
  refine g_putfield (q := 8) C fX5_9 dX5_copy_5 rfl o2 (Nat.le_of_ble_eq_true rfl) (Or.inl rfl) rfl rfl (by intro z h; cases h) ?_
  refine tyP5 H hk rfl e2_0 (fun h3 _ _ H3 => ?_)
  refine g_aload_n (q := 9) C dX5_copy_8 rfl rfl ?_
  refine g_aload_n (q := 10) C dX5_copy_9 rfl rfl ?_
  obtain ⟨x0_4, x1_4, x2_4, x3_4, x4_4, x5_4, x6_4, x7_4, x11_4, x12_4, x13_4, x14_4, o4, e4_0⟩ := tyG5 H3 hk0
  refine g_getfield (v := .int x2_4) (q := 13) C fX5_15 dX5_copy_10 rfl o4 rfl ?_
  obtain ⟨x0_5, x1_5, x2_5, x3_5, x4_5, x5_5, x6_5, x7_5, x11_5, x12_5, x13_5, x14_5, o5, e5_0⟩ := tyG5 H3 hk
  refine g_putfield (q := 16) C fX5_15 dX5_copy_13 rfl o5 (Nat.le_of_ble_eq_true rfl) (Or.inl rfl) rfl rfl (by intro z h; cases h) ?_
  refine tyP5 H3 hk rfl e5_0 (fun h6 _ _ H6 => ?_)
  refine g_aload_n (q := 17) C dX5_copy_16 rfl rfl ?_
  refine g_aload_n (q := 18) C dX5_copy_17 rfl rfl ?_
  obtain ⟨x0_7, x1_7, x2_7, x3_7, x4_7, x5_7, x6_7, x7_7, x11_7, x12_7, x13_7, x14_7, o7, e7_0⟩ := tyG5 H6 hk0
  refine g_getfield (v := .int x3_7) (q := 21) C fX5_18 dX5_copy_18 rfl o7 rfl ?_
  obtain ⟨x0_8, x1_8, x2_8, x3_8, x4_8, x5_8, x6_8, x7_8, x11_8, x12_8, x13_8, x14_8, o8, e8_0⟩ := tyG5 H6 hk
  refine g_putfield (q := 24) C fX5_18 dX5_copy_21 rfl o8 (Nat.le_of_ble_eq_true rfl) (Or.inl rfl) rfl rfl (by intro z h; cases h) ?_
  refine tyP5 H6 hk rfl e8_0 (fun h9 _ _ H9 => ?_)
  refine g_aload_n (q := 25) C dX5_copy_24 rfl rfl ?_
  refine g_aload_n (q := 26) C dX5_copy_25 rfl rfl ?_
  obtain ⟨x0_10, x1_10, x2_10, x3_10, x4_10, x5_10, x6_10, x7_10, x11_10, x12_10, x13_10, x14_10, o10, e10_0⟩ := tyG5 H9 hk0
  refine g_getfield (v := .int x4_10) (q := 29) C fX5_21 dX5_copy_26 rfl o10 rfl ?_
  obtain ⟨x0_11, x1_11, x2_11, x3_11, x4_11, x5_11, x6_11, x7_11, x11_11, x12_11, x13_11, x14_11, o11, e11_0⟩ := tyG5 H9 hk
  refine g_putfield (q := 32) C fX5_21 dX5_copy_29 rfl o11 (Nat.le_of_ble_eq_true rfl) (Or.inl rfl) rfl rfl (by intro z h; cases h) ?_
  refine tyP5 H9 hk rfl e11_0 (fun h12 _ _ H12 => ?_)
  refine g_aload_n (q := 33) C dX5_copy_32 rfl rfl ?_
  refine g_aload_n (q := 34) C dX5_copy_33 rfl rfl ?_
  obtain ⟨x0_13, x1_13, x2_13, x3_13, x4_13, x5_13, x6_13, x7_13, x11_13, x12_13, x13_13, x14_13, o13, e13_0⟩ := tyG5 H12 hk0
  refine g_getfield (v := .int x5_13) (q := 37) C fX5_24 dX5_copy_34 rfl o13 rfl ?_
  obtain ⟨x0_14, x1_14, x2_14, x3_14, x4_14, x5_14, x6_14, x7_14, x11_14, x12_14, x13_14, x14_14, o14, e14_0⟩ := tyG5 H12 hk
  refine g_putfield (q := 40) C fX5_24 dX5_copy_37 rfl o14 (Nat.le_of_ble_eq_true rfl) (Or.inl rfl) rfl rfl (by intro z h; cases h) ?_
  refine tyP5 H12 hk rfl e14_0 (fun h15 _ _ H15 => ?_)
  refine g_aload_n (q := 41) C dX5_copy_40 rfl rfl ?_
  refine g_aload_n (q := 42) C dX5_copy_41 rfl rfl ?_
  obtain ⟨x0_16, x1_16, x2_16, x3_16, x4_16, x5_16, x6_16, x7_16, x11_16, x12_16, x13_16, x14_16, o16, e16_0⟩ := tyG5 H15 hk0
  refine g_getfield (v := .int x6_16) (q := 45) C fX5_27 dX5_copy_42 rfl o16 rfl ?_
  obtain ⟨x0_17, x1_17, x2_17, x3_17, x4_17, x5_17, x6_17, x7_17, x11_17, x12_17, x13_17, x14_17, o17, e17_0⟩ := tyG5 H15 hk
  refine g_putfield (q := 48) C fX5_27 dX5_copy_45 rfl o17 (Nat.le_of_ble_eq_true rfl) (Or.inl rfl) rfl rfl (by intro z h; cases h) ?_
  refine tyP5 H15 hk rfl e17_0 (fun h18 _ _ H18 => ?_)
  refine g_aload_n (q := 49) C dX5_copy_48 rfl rfl ?_
  refine g_aload_n (q := 50) C dX5_copy_49 rfl rfl ?_
  obtain ⟨x0_19, x1_19, x2_19, x3_19, x4_19, x5_19, x6_19, x7_19, x11_19, x12_19, x13_19, x14_19, o19, e19_0⟩ := tyG5 H18 hk0
  refine g_getfield (v := .int x7_19) (q := 53) C fX5_30 dX5_copy_50 rfl o19 rfl ?_
  obtain ⟨x0_20, x1_20, x2_20, x3_20, x4_20, x5_20, x6_20, x7_20, x11_20, x12_20, x13_20, x14_20, o20, e20_0⟩ := tyG5 H18 hk
  refine g_putfield (q := 56) C fX5_30 dX5_copy_53 rfl o20 (Nat.le_of_ble_eq_true rfl) (Or.inl rfl) rfl rfl (by intro z h; cases h) ?_
  refine tyP5 H18 hk rfl e20_0 (fun h21 _ _ H21 => ?_)
  refine g_aload_n (q := 57) C dX5_copy_56 rfl rfl ?_
  obtain ⟨x0_22, x1_22, x2_22, x3_22, x4_22, x5_22, x6_22, x7_22, x11_22, x12_22, x13_22, x14_22, o22, e22_0⟩ := tyG5 H21 hk
  refine g_getfield (v := .ref ((o + 1))) (q := 60) C fX5_38 dX5_copy_57 rfl o22 rfl ?_
  refine g_aload_n (q := 61) C dX5_copy_60 rfl rfl ?_
  obtain ⟨x0_23, x1_23, x2_23, x3_23, x4_23, x5_23, x6_23, x7_23, x11_23, x12_23, x13_23, x14_23, o23, e23_0⟩ := tyG5 H21 hk0
  refine g_getfield (v := .ref ((a0 + 1))) (q := 64) C fX5_38 dX5_copy_61 rfl o23 rfl ?_
  obtain ⟨l24, g24, -⟩ := tyRow H21 (tyF5_8 hk)
  refine g_callVvp (q := 67) (As := [.ref ((a0 + 1))]) C gyX4_copy gvX4_copy t_772 (tX4_copy H21 (tyF5_8 hk) (by decide) (tyF5_8 hk0)) dX5_copy_64 rfl g24.obj rfl rfl rfl (Nat.le_of_ble_eq_true rfl) (Nat.le_of_ble_eq_true rfl) (Nat.le_of_ble_eq_true rfl) (Nat.le_of_ble_eq_true rfl) (Nat.le_of_ble_eq_true rfl) rfl (fun h25 q25 => ?_)
  have H25 := q25
  refine g_aload_n (q := 68) C dX5_copy_67 rfl rfl ?_
  obtain ⟨x0_26, x1_26, x2_26, x3_26, x4_26, x5_26, x6_26, x7_26, x11_26, x12_26, x13_26, x14_26, o26, e26_0⟩ := tyG5 H25 hk
  refine g_getfield (v := .ref ((o + 3))) (q := 71) C fX5_42 dX5_copy_68 rfl o26 rfl ?_
  refine g_aload_n (q := 72) C dX5_copy_71 rfl rfl ?_
  obtain ⟨x0_27, x1_27, x2_27, x3_27, x4_27, x5_27, x6_27, x7_27, x11_27, x12_27, x13_27, x14_27, o27, e27_0⟩ := tyG5 H25 hk0
  refine g_getfield (v := .ref ((a0 + 3))) (q := 75) C fX5_42 dX5_copy_72 rfl o27 rfl ?_
  obtain ⟨l28, g28, -⟩ := tyRow H25 (tyF5_9 hk)
  refine g_callVvp (q := 78) (As := [.ref ((a0 + 3))]) C gyX4_copy gvX4_copy t_772 (tX4_copy H25 (tyF5_9 hk) (by decide) (tyF5_9 hk0)) dX5_copy_75 rfl g28.obj rfl rfl rfl (Nat.le_of_ble_eq_true rfl) (Nat.le_of_ble_eq_true rfl) (Nat.le_of_ble_eq_true rfl) (Nat.le_of_ble_eq_true rfl) (Nat.le_of_ble_eq_true rfl) rfl (fun h29 q29 => ?_)
  have H29 := q29
  refine g_aload_n (q := 79) C dX5_copy_78 rfl rfl ?_
  obtain ⟨x0_30, x1_30, x2_30, x3_30, x4_30, x5_30, x6_30, x7_30, x11_30, x12_30, x13_30, x14_30, o30, e30_0⟩ := tyG5 H29 hk
  refine g_getfield (v := .ref ((o + 5))) (q := 82) C fX5_45 dX5_copy_79 rfl o30 rfl ?_
  refine g_aload_n (q := 83) C dX5_copy_82 rfl rfl ?_
  obtain ⟨x0_31, x1_31, x2_31, x3_31, x4_31, x5_31, x6_31, x7_31, x11_31, x12_31, x13_31, x14_31, o31, e31_0⟩ := tyG5 H29 hk0
  refine g_getfield (v := .ref ((a0 + 5))) (q := 86) C fX5_45 dX5_copy_83 rfl o31 rfl ?_
  obtain ⟨l32, g32, -⟩ := tyRow H29 (tyF5_10 hk)
  refine g_callVvp (q := 89) (As := [.ref ((a0 + 5))]) C gyX4_copy gvX4_copy t_772 (tX4_copy H29 (tyF5_10 hk) (by decide) (tyF5_10 hk0)) dX5_copy_86 rfl g32.obj rfl rfl rfl (Nat.le_of_ble_eq_true rfl) (Nat.le_of_ble_eq_true rfl) (Nat.le_of_ble_eq_true rfl) (Nat.le_of_ble_eq_true rfl) (Nat.le_of_ble_eq_true rfl) rfl (fun h33 q33 => ?_)
  have H33 := q33
  refine g_aload_n (q := 90) C dX5_copy_89 rfl rfl ?_
  refine g_aload_n (q := 91) C dX5_copy_90 rfl rfl ?_
  obtain ⟨x0_34, x1_34, x2_34, x3_34, x4_34, x5_34, x6_34, x7_34, x11_34, x12_34, x13_34, x14_34, o34, e34_0⟩ := tyG5 H33 hk0
  refine g_getfield (v := .int x11_34) (q := 94) C fX5_48 dX5_copy_91 rfl o34 rfl ?_
  obtain ⟨x0_35, x1_35, x2_35, x3_35, x4_35, x5_35, x6_35, x7_35, x11_35, x12_35, x13_35, x14_35, o35, e35_0⟩ := tyG5 H33 hk
  refine g_putfield (q := 97) C fX5_48 dX5_copy_94 rfl o35 (Nat.le_of_ble_eq_true rfl) (Or.inl rfl) rfl rfl (by intro z h; cases h) ?_
  refine tyP5 H33 hk rfl e35_0 (fun h36 _ _ H36 => ?_)
  refine g_aload_n (q := 98) C dX5_copy_97 rfl rfl ?_
  refine g_aload_n (q := 99) C dX5_copy_98 rfl rfl ?_
  obtain ⟨x0_37, x1_37, x2_37, x3_37, x4_37, x5_37, x6_37, x7_37, x11_37, x12_37, x13_37, x14_37, o37, e37_0⟩ := tyG5 H36 hk0
  refine g_getfield (v := .int x12_37) (q := 102) C fX5_51 dX5_copy_99 rfl o37 rfl ?_
  obtain ⟨x0_38, x1_38, x2_38, x3_38, x4_38, x5_38, x6_38, x7_38, x11_38, x12_38, x13_38, x14_38, o38, e38_0⟩ := tyG5 H36 hk
  refine g_putfield (q := 105) C fX5_51 dX5_copy_102 rfl o38 (Nat.le_of_ble_eq_true rfl) (Or.inl rfl) (tyNar e37_0) (tyFit e37_0) (by intro z h; cases h) ?_
  refine tyP5 H36 hk rfl e37_0 (fun h39 _ _ H39 => ?_)
  refine g_aload_n (q := 106) C dX5_copy_105 rfl rfl ?_
  refine g_aload_n (q := 107) C dX5_copy_106 rfl rfl ?_
  obtain ⟨x0_40, x1_40, x2_40, x3_40, x4_40, x5_40, x6_40, x7_40, x11_40, x12_40, x13_40, x14_40, o40, e40_0⟩ := tyG5 H39 hk0
  refine g_getfield (v := .int x13_40) (q := 110) C fX5_55 dX5_copy_107 rfl o40 rfl ?_
  obtain ⟨x0_41, x1_41, x2_41, x3_41, x4_41, x5_41, x6_41, x7_41, x11_41, x12_41, x13_41, x14_41, o41, e41_0⟩ := tyG5 H39 hk
  refine g_putfield (q := 113) C fX5_55 dX5_copy_110 rfl o41 (Nat.le_of_ble_eq_true rfl) (Or.inl rfl) rfl rfl (by intro z h; cases h) ?_
  refine tyP5 H39 hk rfl e41_0 (fun h42 _ _ H42 => ?_)
  refine g_aload_n (q := 114) C dX5_copy_113 rfl rfl ?_
  refine g_aload_n (q := 115) C dX5_copy_114 rfl rfl ?_
  obtain ⟨x0_43, x1_43, x2_43, x3_43, x4_43, x5_43, x6_43, x7_43, x11_43, x12_43, x13_43, x14_43, o43, e43_0⟩ := tyG5 H42 hk0
  refine g_getfield (v := .int x14_43) (q := 118) C fX5_58 dX5_copy_115 rfl o43 rfl ?_
  obtain ⟨x0_44, x1_44, x2_44, x3_44, x4_44, x5_44, x6_44, x7_44, x11_44, x12_44, x13_44, x14_44, o44, e44_0⟩ := tyG5 H42 hk
  refine g_putfield (q := 121) C fX5_58 dX5_copy_118 rfl o44 (Nat.le_of_ble_eq_true rfl) (Or.inl rfl) rfl rfl (by intro z h; cases h) ?_
  refine tyP5 H42 hk rfl e44_0 (fun h45 _ _ H45 => ?_)
  exact E.2.1 _ _ _ _ _ dX5_copy_121 rfl (Nat.le_of_ble_eq_true rfl) (Nat.le_of_ble_eq_true rfl) ⟨rfl, H45⟩
theorem dX5_tell_0 : decode cX5_tell 0 = .ok (.iload_n 1, 1) := by decide +kernel
theorem dX5_tell_1 : decode cX5_tell 1 = .ok (.tableswitch 132 0 10 #[59, 64, 69, 74, 82, 87, 95, 100, 105, 122, 127], 59) := by decide +kernel
theorem dX5_tell_60 : decode cX5_tell 60 = .ok (.aload_n 0, 1) := by decide +kernel
theorem dX5_tell_61 : decode cX5_tell 61 = .ok (.getfield 9, 3) := by decide +kernel
theorem dX5_tell_64 : decode cX5_tell 64 = .ok (.ireturn, 1) := by decide +kernel
theorem dX5_tell_65 : decode cX5_tell 65 = .ok (.aload_n 0, 1) := by decide +kernel
theorem dX5_tell_66 : decode cX5_tell 66 = .ok (.getfield 15, 3) := by decide +kernel
theorem dX5_tell_69 : decode cX5_tell 69 = .ok (.ireturn, 1) := by decide +kernel
theorem dX5_tell_70 : decode cX5_tell 70 = .ok (.aload_n 0, 1) := by decide +kernel
theorem dX5_tell_71 : decode cX5_tell 71 = .ok (.getfield 18, 3) := by decide +kernel
theorem dX5_tell_74 : decode cX5_tell 74 = .ok (.ireturn, 1) := by decide +kernel
theorem dX5_tell_75 : decode cX5_tell 75 = .ok (.aload_n 0, 1) := by decide +kernel
theorem dX5_tell_76 : decode cX5_tell 76 = .ok (.getfield 38, 3) := by decide +kernel
theorem dX5_tell_79 : decode cX5_tell 79 = .ok (.invokevirtual 78, 3) := by decide +kernel
theorem dX5_tell_82 : decode cX5_tell 82 = .ok (.ireturn, 1) := by decide +kernel
theorem dX5_tell_83 : decode cX5_tell 83 = .ok (.aload_n 0, 1) := by decide +kernel
theorem dX5_tell_84 : decode cX5_tell 84 = .ok (.getfield 21, 3) := by decide +kernel
theorem dX5_tell_87 : decode cX5_tell 87 = .ok (.ireturn, 1) := by decide +kernel
theorem dX5_tell_88 : decode cX5_tell 88 = .ok (.aload_n 0, 1) := by decide +kernel
theorem dX5_tell_89 : decode cX5_tell 89 = .ok (.getfield 45, 3) := by decide +kernel
theorem dX5_tell_92 : decode cX5_tell 92 = .ok (.invokevirtual 78, 3) := by decide +kernel
theorem dX5_tell_95 : decode cX5_tell 95 = .ok (.ireturn, 1) := by decide +kernel
theorem dX5_tell_96 : decode cX5_tell 96 = .ok (.aload_n 0, 1) := by decide +kernel
theorem dX5_tell_97 : decode cX5_tell 97 = .ok (.getfield 55, 3) := by decide +kernel
theorem dX5_tell_100 : decode cX5_tell 100 = .ok (.ireturn, 1) := by decide +kernel
theorem dX5_tell_101 : decode cX5_tell 101 = .ok (.aload_n 0, 1) := by decide +kernel
theorem dX5_tell_102 : decode cX5_tell 102 = .ok (.getfield 24, 3) := by decide +kernel
theorem dX5_tell_105 : decode cX5_tell 105 = .ok (.ireturn, 1) := by decide +kernel
theorem dX5_tell_106 : decode cX5_tell 106 = .ok (.aload_n 0, 1) := by decide +kernel
theorem dX5_tell_107 : decode cX5_tell 107 = .ok (.getfield 48, 3) := by decide +kernel
theorem dX5_tell_110 : decode cX5_tell 110 = .ok (.iconst (-1), 1) := by decide +kernel
theorem dX5_tell_111 : decode cX5_tell 111 = .ok (.if_icmp .ne 7, 3) := by decide +kernel
theorem dX5_tell_114 : decode cX5_tell 114 = .ok (.iconst (-1), 1) := by decide +kernel
theorem dX5_tell_115 : decode cX5_tell 115 = .ok (.goto 7, 3) := by decide +kernel
theorem dX5_tell_118 : decode cX5_tell 118 = .ok (.aload_n 0, 1) := by decide +kernel
theorem dX5_tell_119 : decode cX5_tell 119 = .ok (.getfield 9, 3) := by decide +kernel
theorem dX5_tell_122 : decode cX5_tell 122 = .ok (.ireturn, 1) := by decide +kernel
theorem dX5_tell_123 : decode cX5_tell 123 = .ok (.aload_n 0, 1) := by decide +kernel
theorem dX5_tell_124 : decode cX5_tell 124 = .ok (.getfield 58, 3) := by decide +kernel
theorem dX5_tell_127 : decode cX5_tell 127 = .ok (.ireturn, 1) := by decide +kernel
theorem dX5_tell_128 : decode cX5_tell 128 = .ok (.aload_n 0, 1) := by decide +kernel
theorem dX5_tell_129 : decode cX5_tell 129 = .ok (.getfield 30, 3) := by decide +kernel
theorem dX5_tell_132 : decode cX5_tell 132 = .ok (.ireturn, 1) := by decide +kernel
theorem dX5_tell_133 : decode cX5_tell 133 = .ok (.bipush (-2), 2) := by decide +kernel
theorem dX5_tell_135 : decode cX5_tell 135 = .ok (.ireturn, 1) := by decide +kernel
set_option maxRecDepth 100000 in
set_option maxHeartbeats 4000000 in
theorem tX5_tell {T : tyT} {R : Nat} {J : Nat → Prop} {Bc Bs : Nat} {M : gMd} {z : Nat → Nat} {hp : List gA} {o : Nat} {a0 : Int32}  (H : tyS T R J Bc Bs M z hp) (hk : tyK o = (5, 0))  : gM yX5_tell cX5_tell 2 ((some .int)) 1 20 [.ref o, .int a0] (hp) (0) (0) (fun v h => ∃ x, v = some (.int x) ∧ tyS T R J Bc Bs M z h) := by
  refine gM_of (ls0 := [some (.ref o), some (.int a0)]) (by decide +kernel) (Nat.le_of_ble_eq_true rfl) rfl fun X C E => ?_
  refine g_iload_n (q := 1) C dX5_tell_0 rfl rfl ?_
  -- switch
  by_cases c_1_0 : a0 = 0
  · subst c_1_0
    refine g_tableIn (off := 59) (t := 60) C dX5_tell_1 (by decide) (by decide) (by decide) (by decide) ?_
    refine g_aload_n (q := 61) C dX5_tell_60 rfl rfl ?_
    obtain ⟨x0_1, x1_1, x2_1, x3_1, x4_1, x5_1, x6_1, x7_1, x11_1, x12_1, x13_1, x14_1, o1, e1_0⟩ := tyG5 H hk
    refine g_getfield (v := .int x1_1) (q := 64) C fX5_9 dX5_tell_61 rfl o1 rfl ?_
    exact E.1 _ _ _ _ _ _ _ dX5_tell_64 rfl rfl (Nat.le_of_ble_eq_true rfl) (Nat.le_of_ble_eq_true rfl) ⟨_, rfl, H⟩
  by_cases c_1_1 : a0 = 1
  · subst c_1_1
    refine g_tableIn (off := 64) (t := 65) C dX5_tell_1 (by decide) (by decide) (by decide) (by decide) ?_
    refine g_aload_n (q := 66) C dX5_tell_65 rfl rfl ?_
    obtain ⟨x0_2, x1_2, x2_2, x3_2, x4_2, x5_2, x6_2, x7_2, x11_2, x12_2, x13_2, x14_2, o2, e2_0⟩ := tyG5 H hk
    refine g_getfield (v := .int x2_2) (q := 69) C fX5_15 dX5_tell_66 rfl o2 rfl ?_
    exact E.1 _ _ _ _ _ _ _ dX5_tell_69 rfl rfl (Nat.le_of_ble_eq_true rfl) (Nat.le_of_ble_eq_true rfl) ⟨_, rfl, H⟩
  by_cases c_1_2 : a0 = 2
  · subst c_1_2
    refine g_tableIn (off := 69) (t := 70) C dX5_tell_1 (by decide) (by decide) (by decide) (by decide) ?_
    refine g_aload_n (q := 71) C dX5_tell_70 rfl rfl ?_
    obtain ⟨x0_3, x1_3, x2_3, x3_3, x4_3, x5_3, x6_3, x7_3, x11_3, x12_3, x13_3, x14_3, o3, e3_0⟩ := tyG5 H hk
    refine g_getfield (v := .int x3_3) (q := 74) C fX5_18 dX5_tell_71 rfl o3 rfl ?_
    exact E.1 _ _ _ _ _ _ _ dX5_tell_74 rfl rfl (Nat.le_of_ble_eq_true rfl) (Nat.le_of_ble_eq_true rfl) ⟨_, rfl, H⟩
  by_cases c_1_3 : a0 = 3
  · subst c_1_3
    refine g_tableIn (off := 74) (t := 75) C dX5_tell_1 (by decide) (by decide) (by decide) (by decide) ?_
    refine g_aload_n (q := 76) C dX5_tell_75 rfl rfl ?_
    obtain ⟨x0_4, x1_4, x2_4, x3_4, x4_4, x5_4, x6_4, x7_4, x11_4, x12_4, x13_4, x14_4, o4, e4_0⟩ := tyG5 H hk
    refine g_getfield (v := .ref ((o + 1))) (q := 79) C fX5_38 dX5_tell_76 rfl o4 rfl ?_
    obtain ⟨l5, g5, -⟩ := tyRow H (tyF5_8 hk)
    refine g_callVip (q := 82) (As := []) C gyX4_size gvX4_size t_765 (tX4_size H (tyF5_8 hk)) dX5_tell_79 rfl g5.obj rfl rfl rfl (Nat.le_of_ble_eq_true rfl) (Nat.le_of_ble_eq_true rfl) (Nat.le_of_ble_eq_true rfl) (Nat.le_of_ble_eq_true rfl) (Nat.le_of_ble_eq_true rfl) rfl (fun x6 h6 q6 => ?_)
    subst q6
    exact E.1 _ _ _ _ _ _ _ dX5_tell_82 rfl rfl (Nat.le_of_ble_eq_true rfl) (Nat.le_of_ble_eq_true rfl) ⟨_, rfl, H⟩
  by_cases c_1_4 : a0 = 4
  · subst c_1_4
    refine g_tableIn (off := 82) (t := 83) C dX5_tell_1 (by decide) (by decide) (by decide) (by decide) ?_
    refine g_aload_n (q := 84) C dX5_tell_83 rfl rfl ?_
    obtain ⟨x0_7, x1_7, x2_7, x3_7, x4_7, x5_7, x6_7, x7_7, x11_7, x12_7, x13_7, x14_7, o7, e7_0⟩ := tyG5 H hk
    refine g_getfield (v := .int x4_7) (q := 87) C fX5_21 dX5_tell_84 rfl o7 rfl ?_
    exact E.1 _ _ _ _ _ _ _ dX5_tell_87 rfl rfl (Nat.le_of_ble_eq_true rfl) (Nat.le_of_ble_eq_true rfl) ⟨_, rfl, H⟩
  by_cases c_1_5 : a0 = 5
  · subst c_1_5
    refine g_tableIn (off := 87) (t := 88) C dX5_tell_1 (by decide) (by decide) (by decide) (by decide) ?_
    refine g_aload_n (q := 89) C dX5_tell_88 rfl rfl ?_
    obtain ⟨x0_8, x1_8, x2_8, x3_8, x4_8, x5_8, x6_8, x7_8, x11_8, x12_8, x13_8, x14_8, o8, e8_0⟩ := tyG5 H hk
    refine g_getfield (v := .ref ((o + 5))) (q := 92) C fX5_45 dX5_tell_89 rfl o8 rfl ?_
    obtain ⟨l9, g9, -⟩ := tyRow H (tyF5_10 hk)
    refine g_callVip (q := 95) (As := []) C gyX4_size gvX4_size t_765 (tX4_size H (tyF5_10 hk)) dX5_tell_92 rfl g9.obj rfl rfl rfl (Nat.le_of_ble_eq_true rfl) (Nat.le_of_ble_eq_true rfl) (Nat.le_of_ble_eq_true rfl) (Nat.le_of_ble_eq_true rfl) (Nat.le_of_ble_eq_true rfl) rfl (fun x10 h10 q10 => ?_)
    subst q10
    exact E.1 _ _ _ _ _ _ _ dX5_tell_95 rfl rfl (Nat.le_of_ble_eq_true rfl) (Nat.le_of_ble_eq_true rfl) ⟨_, rfl, H⟩
  by_cases c_1_6 : a0 = 6
  · subst c_1_6
    refine g_tableIn (off := 95) (t := 96) C dX5_tell_1 (by decide) (by decide) (by decide) (by decide) ?_
    refine g_aload_n (q := 97) C dX5_tell_96 rfl rfl ?_
    obtain ⟨x0_11, x1_11, x2_11, x3_11, x4_11, x5_11, x6_11, x7_11, x11_11, x12_11, x13_11, x14_11, o11, e11_0⟩ := tyG5 H hk
    refine g_getfield (v := .int x13_11) (q := 100) C fX5_55 dX5_tell_97 rfl o11 rfl ?_
    exact E.1 _ _ _ _ _ _ _ dX5_tell_100 rfl rfl (Nat.le_of_ble_eq_true rfl) (Nat.le_of_ble_eq_true rfl) ⟨_, rfl, H⟩
  by_cases c_1_7 : a0 = 7
  · subst c_1_7
    refine g_tableIn (off := 100) (t := 101) C dX5_tell_1 (by decide) (by decide) (by decide) (by decide) ?_
    refine g_aload_n (q := 102) C dX5_tell_101 rfl rfl ?_
    obtain ⟨x0_12, x1_12, x2_12, x3_12, x4_12, x5_12, x6_12, x7_12, x11_12, x12_12, x13_12, x14_12, o12, e12_0⟩ := tyG5 H hk
    refine g_getfield (v := .int x5_12) (q := 105) C fX5_24 dX5_tell_102 rfl o12 rfl ?_
    exact E.1 _ _ _ _ _ _ _ dX5_tell_105 rfl rfl (Nat.le_of_ble_eq_true rfl) (Nat.le_of_ble_eq_true rfl) ⟨_, rfl, H⟩
  by_cases c_1_8 : a0 = 8
  · subst c_1_8
    refine g_tableIn (off := 105) (t := 106) C dX5_tell_1 (by decide) (by decide) (by decide) (by decide) ?_
    refine g_aload_n (q := 107) C dX5_tell_106 rfl rfl ?_
    obtain ⟨x0_13, x1_13, x2_13, x3_13, x4_13, x5_13, x6_13, x7_13, x11_13, x12_13, x13_13, x14_13, o13, e13_0⟩ := tyG5 H hk
    refine g_getfield (v := .int x11_13) (q := 110) C fX5_48 dX5_tell_107 rfl o13 rfl ?_
    refine g_iconst (v := (-1)) (q := 111) C dX5_tell_110 (by decide) rfl ?_
    refine g_icmp_ne (t := 118) (q := 114) C dX5_tell_111 (by decide) rfl (fun c_111 => ?_) (fun c_111 => ?_)
    ·
      refine g_aload_n (q := 119) C dX5_tell_118 rfl rfl ?_
      refine g_getfield (v := .int x1_13) (q := 122) C fX5_9 dX5_tell_119 rfl o13 rfl ?_
      exact E.1 _ _ _ _ _ _ _ dX5_tell_122 rfl rfl (Nat.le_of_ble_eq_true rfl) (Nat.le_of_ble_eq_true rfl) ⟨_, rfl, H⟩
    ·
      refine g_iconst (v := (-1)) (q := 115) C dX5_tell_114 (by decide) rfl ?_
      refine g_goto (q := 122) C dX5_tell_115 (by decide) ?_
      exact E.1 _ _ _ _ _ _ _ dX5_tell_122 rfl rfl (Nat.le_of_ble_eq_true rfl) (Nat.le_of_ble_eq_true rfl) ⟨_, rfl, H⟩
  by_cases c_1_9 : a0 = 9
  · subst c_1_9
    refine g_tableIn (off := 122) (t := 123) C dX5_tell_1 (by decide) (by decide) (by decide) (by decide) ?_
    refine g_aload_n (q := 124) C dX5_tell_123 rfl rfl ?_
    obtain ⟨x0_14, x1_14, x2_14, x3_14, x4_14, x5_14, x6_14, x7_14, x11_14, x12_14, x13_14, x14_14, o14, e14_0⟩ := tyG5 H hk
    refine g_getfield (v := .int x14_14) (q := 127) C fX5_58 dX5_tell_124 rfl o14 rfl ?_
    exact E.1 _ _ _ _ _ _ _ dX5_tell_127 rfl rfl (Nat.le_of_ble_eq_true rfl) (Nat.le_of_ble_eq_true rfl) ⟨_, rfl, H⟩
  by_cases c_1_10 : a0 = 10
  · subst c_1_10
    refine g_tableIn (off := 127) (t := 128) C dX5_tell_1 (by decide) (by decide) (by decide) (by decide) ?_
    refine g_aload_n (q := 129) C dX5_tell_128 rfl rfl ?_
    obtain ⟨x0_15, x1_15, x2_15, x3_15, x4_15, x5_15, x6_15, x7_15, x11_15, x12_15, x13_15, x14_15, o15, e15_0⟩ := tyG5 H hk
    refine g_getfield (v := .int x7_15) (q := 132) C fX5_30 dX5_tell_129 rfl o15 rfl ?_
    exact E.1 _ _ _ _ _ _ _ dX5_tell_132 rfl rfl (Nat.le_of_ble_eq_true rfl) (Nat.le_of_ble_eq_true rfl) ⟨_, rfl, H⟩
  refine g_tableOut (t := 133) C dX5_tell_1 (gOut11 c_1_0 c_1_1 c_1_2 c_1_3 c_1_4 c_1_5 c_1_6 c_1_7 c_1_8 c_1_9 c_1_10) (by decide) ?_
  refine g_bipush (v := (-2)) (q := 135) C dX5_tell_133 (by decide) rfl ?_
  exact E.1 _ _ _ _ _ _ _ dX5_tell_135 rfl rfl (Nat.le_of_ble_eq_true rfl) (Nat.le_of_ble_eq_true rfl) ⟨_, rfl, H⟩
theorem dX6_faults_0 : decode cX6_faults 0 = .ok (.aload_n 0, 1) := by decide +kernel
theorem dX6_faults_1 : decode cX6_faults 1 = .ok (.getfield 31, 3) := by decide +kernel
theorem dX6_faults_4 : decode cX6_faults 4 = .ok (.ireturn, 1) := by decide +kernel
set_option maxRecDepth 100000 in
set_option maxHeartbeats 4000000 in
theorem tX6_faults {T : tyT} {R : Nat} {J : Nat → Prop} {Bc Bs : Nat} {M : gMd} {z : Nat → Nat} {hp : List gA} {o : Nat}  (H : tyS T R J Bc Bs M z hp) (hk : tyK o = (6, 0))  : gM yX6_faults cX6_faults 1 ((some .int)) 0 0 [.ref o] (hp) (0) (0) (fun v h => ∃ x, v = some (.int x) ∧ tyS T R J Bc Bs M z h) := by
  refine gM_of (ls0 := [some (.ref o)]) (by decide +kernel) (Nat.le_of_ble_eq_true rfl) rfl fun X C E => ?_
  refine g_aload_n (q := 1) C dX6_faults_0 rfl rfl ?_
  obtain ⟨x0_1, x1_1, x2_1, x6_1, x7_1, x8_1, x9_1, o1, e1_0⟩ := tyG6 H hk
  refine g_getfield (v := .int x6_1) (q := 4) C fX6_31 dX6_faults_1 rfl o1 rfl ?_
  exact E.1 _ _ _ _ _ _ _ dX6_faults_4 rfl rfl (Nat.le_of_ble_eq_true rfl) (Nat.le_of_ble_eq_true rfl) ⟨_, rfl, H⟩
theorem dX6_isFull_0 : decode cX6_isFull 0 = .ok (.aload_n 0, 1) := by decide +kernel
theorem dX6_isFull_1 : decode cX6_isFull 1 = .ok (.getfield 31, 3) := by decide +kernel
theorem dX6_isFull_4 : decode cX6_isFull 4 = .ok (.bipush 24, 2) := by decide +kernel
theorem dX6_isFull_6 : decode cX6_isFull 6 = .ok (.if_icmp .lt 7, 3) := by decide +kernel
theorem dX6_isFull_9 : decode cX6_isFull 9 = .ok (.iconst 1, 1) := by decide +kernel
theorem dX6_isFull_10 : decode cX6_isFull 10 = .ok (.goto 4, 3) := by decide +kernel
theorem dX6_isFull_13 : decode cX6_isFull 13 = .ok (.iconst 0, 1) := by decide +kernel
theorem dX6_isFull_14 : decode cX6_isFull 14 = .ok (.ireturn, 1) := by decide +kernel
set_option maxRecDepth 100000 in
set_option maxHeartbeats 4000000 in
theorem tX6_isFull {T : tyT} {R : Nat} {J : Nat → Prop} {Bc Bs : Nat} {M : gMd} {z : Nat → Nat} {hp : List gA} {o : Nat}  (H : tyS T R J Bc Bs M z hp) (hk : tyK o = (6, 0))  : gM yX6_isFull cX6_isFull 1 ((some .boolean)) 0 0 [.ref o] (hp) (0) (0) (fun v h => ∃ x, v = some (.int x) ∧ ((x = 0 ∨ x = 1) ∧ tyS T R J Bc Bs M z h)) := by
  refine gM_of (ls0 := [some (.ref o)]) (by decide +kernel) (Nat.le_of_ble_eq_true rfl) rfl fun X C E => ?_
  refine g_aload_n (q := 1) C dX6_isFull_0 rfl rfl ?_
  obtain ⟨x0_1, x1_1, x2_1, x6_1, x7_1, x8_1, x9_1, o1, e1_0⟩ := tyG6 H hk
  refine g_getfield (v := .int x6_1) (q := 4) C fX6_31 dX6_isFull_1 rfl o1 rfl ?_
  refine g_bipush (v := 24) (q := 6) C dX6_isFull_4 (by decide) rfl ?_
  refine g_icmp_lt (t := 13) (q := 9) C dX6_isFull_6 (by decide) rfl (fun c_6 => ?_) (fun c_6 => ?_)
  ·
    refine g_iconst (v := 0) (q := 14) C dX6_isFull_13 (by decide) rfl ?_
    exact E.1 _ _ _ _ _ _ _ dX6_isFull_14 rfl (tyNar (Or.inl rfl)) (Nat.le_of_ble_eq_true rfl) (Nat.le_of_ble_eq_true rfl) ⟨_, rfl, (Or.inl rfl), H⟩
  ·
    refine g_iconst (v := 1) (q := 10) C dX6_isFull_9 (by decide) rfl ?_
    refine g_goto (q := 14) C dX6_isFull_10 (by decide) ?_
    exact E.1 _ _ _ _ _ _ _ dX6_isFull_14 rfl (tyNar (Or.inr rfl)) (Nat.le_of_ble_eq_true rfl) (Nat.le_of_ble_eq_true rfl) ⟨_, rfl, (Or.inr rfl), H⟩
theorem dX6_probe_0 : decode cX6_probe 0 = .ok (.aload_n 0, 1) := by decide +kernel
theorem dX6_probe_1 : decode cX6_probe 1 = .ok (.iload_n 1, 1) := by decide +kernel
theorem dX6_probe_2 : decode cX6_probe 2 = .ok (.putfield 34, 3) := by decide +kernel
theorem dX6_probe_5 : decode cX6_probe 5 = .ok (.aload_n 0, 1) := by decide +kernel
theorem dX6_probe_6 : decode cX6_probe 6 = .ok (.iload_n 2, 1) := by decide +kernel
theorem dX6_probe_7 : decode cX6_probe 7 = .ok (.putfield 37, 3) := by decide +kernel
theorem dX6_probe_10 : decode cX6_probe 10 = .ok (.return_, 1) := by decide +kernel
set_option maxRecDepth 100000 in
set_option maxHeartbeats 4000000 in
theorem tX6_probe {T : tyT} {R : Nat} {J : Nat → Prop} {Bc Bs : Nat} {M : gMd} {z : Nat → Nat} {hp : List gA} {o : Nat} {a0 : Int32} {a1 : Int32}  (H : tyS T R J Bc Bs M z hp) (hk : tyK o = (6, 0))  : gM yX6_probe cX6_probe 3 (none) 0 0 [.ref o, .int a0, .int a1] (hp) (0) (0) (fun v h => v = none ∧ tyS T R J Bc Bs M z h) := by
  refine gM_of (ls0 := [some (.ref o), some (.int a0), some (.int a1)]) (by decide +kernel) (Nat.le_of_ble_eq_true rfl) rfl fun X C E => ?_
  refine g_aload_n (q := 1) C dX6_probe_0 rfl rfl ?_
  refine g_iload_n (q := 2) C dX6_probe_1 rfl rfl ?_
  obtain ⟨x0_1, x1_1, x2_1, x6_1, x7_1, x8_1, x9_1, o1, e1_0⟩ := tyG6 H hk
  refine g_putfield (q := 5) C fX6_34 dX6_probe_2 rfl o1 (Nat.le_of_ble_eq_true rfl) (Or.inl rfl) rfl rfl (by intro z h; cases h) ?_
  refine tyP6 H hk rfl e1_0 (fun h2 _ _ H2 => ?_)
  refine g_aload_n (q := 6) C dX6_probe_5 rfl rfl ?_
  refine g_iload_n (q := 7) C dX6_probe_6 rfl rfl ?_
  obtain ⟨x0_3, x1_3, x2_3, x6_3, x7_3, x8_3, x9_3, o3, e3_0⟩ := tyG6 H2 hk
  refine g_putfield (q := 10) C fX6_37 dX6_probe_7 rfl o3 (Nat.le_of_ble_eq_true rfl) (Or.inl rfl) rfl rfl (by intro z h; cases h) ?_
  refine tyP6 H2 hk rfl e3_0 (fun h4 _ _ H4 => ?_)
  exact E.2.1 _ _ _ _ _ dX6_probe_10 rfl (Nat.le_of_ble_eq_true rfl) (Nat.le_of_ble_eq_true rfl) ⟨rfl, H4⟩
theorem dX6_restart_0 : decode cX6_restart 0 = .ok (.aload_n 0, 1) := by decide +kernel
theorem dX6_restart_1 : decode cX6_restart 1 = .ok (.iconst 0, 1) := by decide +kernel
theorem dX6_restart_2 : decode cX6_restart 2 = .ok (.putfield 15, 3) := by decide +kernel
theorem dX6_restart_5 : decode cX6_restart 5 = .ok (.aload_n 0, 1) := by decide +kernel
theorem dX6_restart_6 : decode cX6_restart 6 = .ok (.iconst 0, 1) := by decide +kernel
theorem dX6_restart_7 : decode cX6_restart 7 = .ok (.putfield 18, 3) := by decide +kernel
theorem dX6_restart_10 : decode cX6_restart 10 = .ok (.aload_n 0, 1) := by decide +kernel
theorem dX6_restart_11 : decode cX6_restart 11 = .ok (.iconst 0, 1) := by decide +kernel
theorem dX6_restart_12 : decode cX6_restart 12 = .ok (.putfield 31, 3) := by decide +kernel
theorem dX6_restart_15 : decode cX6_restart 15 = .ok (.aload_n 0, 1) := by decide +kernel
theorem dX6_restart_16 : decode cX6_restart 16 = .ok (.iconst (-1), 1) := by decide +kernel
theorem dX6_restart_17 : decode cX6_restart 17 = .ok (.putfield 34, 3) := by decide +kernel
theorem dX6_restart_20 : decode cX6_restart 20 = .ok (.return_, 1) := by decide +kernel
set_option maxRecDepth 100000 in
set_option maxHeartbeats 4000000 in
theorem tX6_restart {T : tyT} {R : Nat} {J : Nat → Prop} {Bc Bs : Nat} {M : gMd} {z : Nat → Nat} {hp : List gA} {o : Nat}  (H : tyS T R J Bc Bs M z hp) (hk : tyK o = (6, 0))  : gM yX6_restart cX6_restart 1 (none) 0 0 [.ref o] (hp) (0) (0) (fun v h => v = none ∧ tyS T R J Bc Bs M z h) := by
  refine gM_of (ls0 := [some (.ref o)]) (by decide +kernel) (Nat.le_of_ble_eq_true rfl) rfl fun X C E => ?_
  refine g_aload_n (q := 1) C dX6_restart_0 rfl rfl ?_
  refine g_iconst (v := 0) (q := 2) C dX6_restart_1 (by decide) rfl ?_
  obtain ⟨x0_1, x1_1, x2_1, x6_1, x7_1, x8_1, x9_1, o1, e1_0⟩ := tyG6 H hk
  refine g_putfield (q := 5) C fX6_15 dX6_restart_2 rfl o1 (Nat.le_of_ble_eq_true rfl) (Or.inl rfl) rfl rfl (by intro z h; cases h) ?_
  refine tyP6 H hk rfl e1_0 (fun h2 _ _ H2 => ?_)
  refine g_aload_n (q := 6) C dX6_restart_5 rfl rfl ?_
  refine g_iconst (v := 0) (q := 7) C dX6_restart_6 (by decide) rfl ?_
  obtain ⟨x0_3, x1_3, x2_3, x6_3, x7_3, x8_3, x9_3, o3, e3_0⟩ := tyG6 H2 hk
  refine g_putfield (q := 10) C fX6_18 dX6_restart_7 rfl o3 (Nat.le_of_ble_eq_true rfl) (Or.inl rfl) rfl rfl (by intro z h; cases h) ?_
  refine tyP6 H2 hk rfl e3_0 (fun h4 _ _ H4 => ?_)
  refine g_aload_n (q := 11) C dX6_restart_10 rfl rfl ?_
  refine g_iconst (v := 0) (q := 12) C dX6_restart_11 (by decide) rfl ?_
  obtain ⟨x0_5, x1_5, x2_5, x6_5, x7_5, x8_5, x9_5, o5, e5_0⟩ := tyG6 H4 hk
  refine g_putfield (q := 15) C fX6_31 dX6_restart_12 rfl o5 (Nat.le_of_ble_eq_true rfl) (Or.inl rfl) rfl rfl (by intro z h; cases h) ?_
  refine tyP6 H4 hk rfl e5_0 (fun h6 _ _ H6 => ?_)
  refine g_aload_n (q := 16) C dX6_restart_15 rfl rfl ?_
  refine g_iconst (v := (-1)) (q := 17) C dX6_restart_16 (by decide) rfl ?_
  obtain ⟨x0_7, x1_7, x2_7, x6_7, x7_7, x8_7, x9_7, o7, e7_0⟩ := tyG6 H6 hk
  refine g_putfield (q := 20) C fX6_34 dX6_restart_17 rfl o7 (Nat.le_of_ble_eq_true rfl) (Or.inl rfl) rfl rfl (by intro z h; cases h) ?_
  refine tyP6 H6 hk rfl e7_0 (fun h8 _ _ H8 => ?_)
  exact E.2.1 _ _ _ _ _ dX6_restart_20 rfl (Nat.le_of_ble_eq_true rfl) (Nat.le_of_ble_eq_true rfl) ⟨rfl, H8⟩
theorem dX6_dropNearest_0 : decode cX6_dropNearest 0 = .ok (.iconst 1, 1) := by decide +kernel
theorem dX6_dropNearest_1 : decode cX6_dropNearest 1 = .ok (.istore_n 1, 1) := by decide +kernel
theorem dX6_dropNearest_2 : decode cX6_dropNearest 2 = .ok (.iload_n 1, 1) := by decide +kernel
theorem dX6_dropNearest_3 : decode cX6_dropNearest 3 = .ok (.aload_n 0, 1) := by decide +kernel
theorem dX6_dropNearest_4 : decode cX6_dropNearest 4 = .ok (.getfield 31, 3) := by decide +kernel
theorem dX6_dropNearest_7 : decode cX6_dropNearest 7 = .ok (.if_icmp .ge 57, 3) := by decide +kernel
theorem dX6_dropNearest_10 : decode cX6_dropNearest 10 = .ok (.iload_n 1, 1) := by decide +kernel
theorem dX6_dropNearest_11 : decode cX6_dropNearest 11 = .ok (.bipush 24, 2) := by decide +kernel
theorem dX6_dropNearest_13 : decode cX6_dropNearest 13 = .ok (.if_icmp .ge 51, 3) := by decide +kernel
theorem dX6_dropNearest_16 : decode cX6_dropNearest 16 = .ok (.aload_n 0, 1) := by decide +kernel
theorem dX6_dropNearest_17 : decode cX6_dropNearest 17 = .ok (.getfield 21, 3) := by decide +kernel
theorem dX6_dropNearest_20 : decode cX6_dropNearest 20 = .ok (.iload_n 1, 1) := by decide +kernel
theorem dX6_dropNearest_21 : decode cX6_dropNearest 21 = .ok (.iconst 1, 1) := by decide +kernel
theorem dX6_dropNearest_22 : decode cX6_dropNearest 22 = .ok (.isub, 1) := by decide +kernel
theorem dX6_dropNearest_23 : decode cX6_dropNearest 23 = .ok (.aload_n 0, 1) := by decide +kernel
theorem dX6_dropNearest_24 : decode cX6_dropNearest 24 = .ok (.getfield 21, 3) := by decide +kernel
theorem dX6_dropNearest_27 : decode cX6_dropNearest 27 = .ok (.iload_n 1, 1) := by decide +kernel
theorem dX6_dropNearest_28 : decode cX6_dropNearest 28 = .ok (.iaload, 1) := by decide +kernel
theorem dX6_dropNearest_29 : decode cX6_dropNearest 29 = .ok (.iastore, 1) := by decide +kernel
theorem dX6_dropNearest_30 : decode cX6_dropNearest 30 = .ok (.aload_n 0, 1) := by decide +kernel
theorem dX6_dropNearest_31 : decode cX6_dropNearest 31 = .ok (.getfield 25, 3) := by decide +kernel
theorem dX6_dropNearest_34 : decode cX6_dropNearest 34 = .ok (.iload_n 1, 1) := by decide +kernel
theorem dX6_dropNearest_35 : decode cX6_dropNearest 35 = .ok (.iconst 1, 1) := by decide +kernel
theorem dX6_dropNearest_36 : decode cX6_dropNearest 36 = .ok (.isub, 1) := by decide +kernel
theorem dX6_dropNearest_37 : decode cX6_dropNearest 37 = .ok (.aload_n 0, 1) := by decide +kernel
theorem dX6_dropNearest_38 : decode cX6_dropNearest 38 = .ok (.getfield 25, 3) := by decide +kernel
theorem dX6_dropNearest_41 : decode cX6_dropNearest 41 = .ok (.iload_n 1, 1) := by decide +kernel
theorem dX6_dropNearest_42 : decode cX6_dropNearest 42 = .ok (.iaload, 1) := by decide +kernel
theorem dX6_dropNearest_43 : decode cX6_dropNearest 43 = .ok (.iastore, 1) := by decide +kernel
theorem dX6_dropNearest_44 : decode cX6_dropNearest 44 = .ok (.aload_n 0, 1) := by decide +kernel
theorem dX6_dropNearest_45 : decode cX6_dropNearest 45 = .ok (.getfield 28, 3) := by decide +kernel
theorem dX6_dropNearest_48 : decode cX6_dropNearest 48 = .ok (.iload_n 1, 1) := by decide +kernel
theorem dX6_dropNearest_49 : decode cX6_dropNearest 49 = .ok (.iconst 1, 1) := by decide +kernel
theorem dX6_dropNearest_50 : decode cX6_dropNearest 50 = .ok (.isub, 1) := by decide +kernel
theorem dX6_dropNearest_51 : decode cX6_dropNearest 51 = .ok (.aload_n 0, 1) := by decide +kernel
theorem dX6_dropNearest_52 : decode cX6_dropNearest 52 = .ok (.getfield 28, 3) := by decide +kernel
theorem dX6_dropNearest_55 : decode cX6_dropNearest 55 = .ok (.iload_n 1, 1) := by decide +kernel
theorem dX6_dropNearest_56 : decode cX6_dropNearest 56 = .ok (.iaload, 1) := by decide +kernel
theorem dX6_dropNearest_57 : decode cX6_dropNearest 57 = .ok (.iastore, 1) := by decide +kernel
theorem dX6_dropNearest_58 : decode cX6_dropNearest 58 = .ok (.iinc 1 1, 3) := by decide +kernel
theorem dX6_dropNearest_61 : decode cX6_dropNearest 61 = .ok (.goto (-59), 3) := by decide +kernel
theorem dX6_dropNearest_64 : decode cX6_dropNearest 64 = .ok (.aload_n 0, 1) := by decide +kernel
theorem dX6_dropNearest_65 : decode cX6_dropNearest 65 = .ok (.dup, 1) := by decide +kernel
theorem dX6_dropNearest_66 : decode cX6_dropNearest 66 = .ok (.getfield 31, 3) := by decide +kernel
theorem dX6_dropNearest_69 : decode cX6_dropNearest 69 = .ok (.iconst 1, 1) := by decide +kernel
theorem dX6_dropNearest_70 : decode cX6_dropNearest 70 = .ok (.isub, 1) := by decide +kernel
theorem dX6_dropNearest_71 : decode cX6_dropNearest 71 = .ok (.putfield 31, 3) := by decide +kernel
theorem dX6_dropNearest_74 : decode cX6_dropNearest 74 = .ok (.return_, 1) := by decide +kernel
set_option maxRecDepth 100000 in
set_option maxHeartbeats 4000000 in
theorem tX6_dropNearest {T : tyT} {R : Nat} {J : Nat → Prop} {Bc Bs : Nat} {M : gMd} {z : Nat → Nat} {hp : List gA} {o : Nat}  (H : tyS T R J Bc Bs M z hp) (hk : tyK o = (6, 0))  : gM yX6_dropNearest cX6_dropNearest 2 (none) 0 0 [.ref o] (hp) (0) (0) (fun v h => v = none ∧ tyS T R J Bc Bs M z h) := by
  refine gM_of (ls0 := [some (.ref o), none]) (by decide +kernel) (Nat.le_of_ble_eq_true rfl) rfl fun X C E => ?_
  have J_64 : ∀ (y64_1 : Int32) (hJ64 : List gA), tyS T R J Bc Bs M z hJ64 → gG X 64 [some (.ref o), some (.int y64_1)] [] hJ64 0 0 := by
    intro y64_1 hJ64 HJ64
    refine g_aload_n (q := 65) C dX6_dropNearest_64 rfl rfl ?_
    refine g_dup (q := 66) C dX6_dropNearest_65 rfl rfl ?_
    obtain ⟨x0_1, x1_1, x2_1, x6_1, x7_1, x8_1, x9_1, o1, e1_0⟩ := tyG6 HJ64 hk
    refine g_getfield (v := .int x6_1) (q := 69) C fX6_31 dX6_dropNearest_66 rfl o1 rfl ?_
    refine g_iconst (v := 1) (q := 70) C dX6_dropNearest_69 (by decide) rfl ?_
    refine g_isub (q := 71) C dX6_dropNearest_70 rfl ?_
    refine g_putfield (q := 74) C fX6_31 dX6_dropNearest_71 rfl o1 (Nat.le_of_ble_eq_true rfl) (Or.inl rfl) rfl rfl (by intro z h; cases h) ?_
    refine tyP6 HJ64 hk rfl e1_0 (fun h2 _ _ H2 => ?_)
    exact E.2.1 _ _ _ _ _ dX6_dropNearest_74 rfl (Nat.le_of_ble_eq_true rfl) (Nat.le_of_ble_eq_true rfl) ⟨rfl, H2⟩
  have J_2 : ∀ (d2 : Nat) (y2_1 : Int32) (hJ2 : List gA), (2147483647 - y2_1.toInt).toNat = d2 → ∀ (v2_0 : ¬ y2_1.toInt < 1), tyS T R J Bc Bs M z hJ2 → gG X 2 [some (.ref o), some (.int y2_1)] [] hJ2 0 0 := by
    intro d2
    induction d2 using Nat.strongRecOn with
    | _ d2 ih2 =>
    intro y2_1 hJ2 hd2 v2_0 HJ2
    refine g_iload_n (q := 3) C dX6_dropNearest_2 rfl rfl ?_
    refine g_aload_n (q := 4) C dX6_dropNearest_3 rfl rfl ?_
    obtain ⟨x0_3, x1_3, x2_3, x6_3, x7_3, x8_3, x9_3, o3, e3_0⟩ := tyG6 HJ2 hk
    refine g_getfield (v := .int x6_3) (q := 7) C fX6_31 dX6_dropNearest_4 rfl o3 rfl ?_
    refine g_icmp_ge (t := 64) (q := 10) C dX6_dropNearest_7 (by decide) rfl (fun c_7 => ?_) (fun c_7 => ?_)
    ·
      have i_7 := Int32.le_iff_toInt_le.mp c_7
      exact J_64 _ _  HJ2
    ·
      have i_7 := mt Int32.le_iff_toInt_le.mpr c_7
      refine g_iload_n (q := 11) C dX6_dropNearest_10 rfl rfl ?_
      refine g_bipush (v := 24) (q := 13) C dX6_dropNearest_11 (by decide) rfl ?_
      refine g_icmp_ge (t := 64) (q := 16) C dX6_dropNearest_13 (by decide) rfl (fun c_13 => ?_) (fun c_13 => ?_)
      ·
        have i_13 := Int32.le_iff_toInt_le.mp c_13
        exact J_64 _ _  HJ2
      ·
        have i_13 := mt Int32.le_iff_toInt_le.mpr c_13
        refine g_aload_n (q := 17) C dX6_dropNearest_16 rfl rfl ?_
        refine g_getfield (v := .ref ((o + 1))) (q := 20) C fX6_21 dX6_dropNearest_17 rfl o3 rfl ?_
        refine g_iload_n (q := 21) C dX6_dropNearest_20 rfl rfl ?_
        refine g_iconst (v := 1) (q := 22) C dX6_dropNearest_21 (by decide) rfl ?_
        refine g_isub (q := 23) C dX6_dropNearest_22 rfl ?_
        refine g_aload_n (q := 24) C dX6_dropNearest_23 rfl rfl ?_
        refine g_getfield (v := .ref ((o + 1))) (q := 27) C fX6_21 dX6_dropNearest_24 rfl o3 rfl ?_
        refine g_iload_n (q := 28) C dX6_dropNearest_27 rfl rfl ?_
        obtain ⟨f4, o4⟩ := tyArr HJ2 (tyF6_3 hk)
        refine g_iaload (q := 29) C dX6_dropNearest_28 rfl o4 (by have k24 : (24 : Int32).toInt = 24 := (by decide); have k23 : (23 : Int32).toInt = 23 := (by decide); have k0 : (0 : Int32).toInt = 0 := (by decide); have k1 : (1 : Int32).toInt = 1 := (by decide); exact vp_in0 (by omega) (by omega)) ?_
        obtain ⟨f5, o5⟩ := tyArr HJ2 (tyF6_3 hk)
        refine g_iastore (q := 30) C dX6_dropNearest_29 rfl o5 (by have k24 : (24 : Int32).toInt = 24 := (by decide); have k23 : (23 : Int32).toInt = 23 := (by decide); have k0 : (0 : Int32).toInt = 0 := (by decide); have k1 : (1 : Int32).toInt = 1 := (by decide); have ks := tyS3 (x := y2_1); exact vp_in0 (by omega) (by omega)) ?_
        refine tyPa HJ2 (tyF6_3 hk) (tyWn hk (i := 0) (by decide)) o5 (fun h5 H5 => ?_)
        refine g_aload_n (q := 31) C dX6_dropNearest_30 rfl rfl ?_
        obtain ⟨x0_6, x1_6, x2_6, x6_6, x7_6, x8_6, x9_6, o6, e6_0⟩ := tyG6 H5 hk
        refine g_getfield (v := .ref ((o + 2))) (q := 34) C fX6_25 dX6_dropNearest_31 rfl o6 rfl ?_
        refine g_iload_n (q := 35) C dX6_dropNearest_34 rfl rfl ?_
        refine g_iconst (v := 1) (q := 36) C dX6_dropNearest_35 (by decide) rfl ?_
        refine g_isub (q := 37) C dX6_dropNearest_36 rfl ?_
        refine g_aload_n (q := 38) C dX6_dropNearest_37 rfl rfl ?_
        refine g_getfield (v := .ref ((o + 2))) (q := 41) C fX6_25 dX6_dropNearest_38 rfl o6 rfl ?_
        refine g_iload_n (q := 42) C dX6_dropNearest_41 rfl rfl ?_
        obtain ⟨f7, o7⟩ := tyArr H5 (tyF6_4 hk)
        refine g_iaload (q := 43) C dX6_dropNearest_42 rfl o7 (by have k24 : (24 : Int32).toInt = 24 := (by decide); have k23 : (23 : Int32).toInt = 23 := (by decide); have k0 : (0 : Int32).toInt = 0 := (by decide); have k1 : (1 : Int32).toInt = 1 := (by decide); exact vp_in0 (by omega) (by omega)) ?_
        obtain ⟨f8, o8⟩ := tyArr H5 (tyF6_4 hk)
        refine g_iastore (q := 44) C dX6_dropNearest_43 rfl o8 (by have k24 : (24 : Int32).toInt = 24 := (by decide); have k23 : (23 : Int32).toInt = 23 := (by decide); have k0 : (0 : Int32).toInt = 0 := (by decide); have k1 : (1 : Int32).toInt = 1 := (by decide); have ks := tyS3 (x := y2_1); exact vp_in0 (by omega) (by omega)) ?_
        refine tyPa H5 (tyF6_4 hk) (tyWn hk (i := 1) (by decide)) o8 (fun h8 H8 => ?_)
        refine g_aload_n (q := 45) C dX6_dropNearest_44 rfl rfl ?_
        obtain ⟨x0_9, x1_9, x2_9, x6_9, x7_9, x8_9, x9_9, o9, e9_0⟩ := tyG6 H8 hk
        refine g_getfield (v := .ref ((o + 3))) (q := 48) C fX6_28 dX6_dropNearest_45 rfl o9 rfl ?_
        refine g_iload_n (q := 49) C dX6_dropNearest_48 rfl rfl ?_
        refine g_iconst (v := 1) (q := 50) C dX6_dropNearest_49 (by decide) rfl ?_
        refine g_isub (q := 51) C dX6_dropNearest_50 rfl ?_
        refine g_aload_n (q := 52) C dX6_dropNearest_51 rfl rfl ?_
        refine g_getfield (v := .ref ((o + 3))) (q := 55) C fX6_28 dX6_dropNearest_52 rfl o9 rfl ?_
        refine g_iload_n (q := 56) C dX6_dropNearest_55 rfl rfl ?_
        obtain ⟨f10, o10⟩ := tyArr H8 (tyF6_5 hk)
        refine g_iaload (q := 57) C dX6_dropNearest_56 rfl o10 (by have k24 : (24 : Int32).toInt = 24 := (by decide); have k23 : (23 : Int32).toInt = 23 := (by decide); have k0 : (0 : Int32).toInt = 0 := (by decide); have k1 : (1 : Int32).toInt = 1 := (by decide); exact vp_in0 (by omega) (by omega)) ?_
        obtain ⟨f11, o11⟩ := tyArr H8 (tyF6_5 hk)
        refine g_iastore (q := 58) C dX6_dropNearest_57 rfl o11 (by have k24 : (24 : Int32).toInt = 24 := (by decide); have k23 : (23 : Int32).toInt = 23 := (by decide); have k0 : (0 : Int32).toInt = 0 := (by decide); have k1 : (1 : Int32).toInt = 1 := (by decide); have ks := tyS3 (x := y2_1); exact vp_in0 (by omega) (by omega)) ?_
        refine tyPa H8 (tyF6_5 hk) (tyWn hk (i := 2) (by decide)) o11 (fun h11 H11 => ?_)
        refine g_iinc (v := y2_1 + 1) (q := 61) C dX6_dropNearest_58 rfl rfl (by simp only [gset]; rfl) rfl ?_
        refine g_goto (q := 2) C dX6_dropNearest_61 (by decide) ?_
        exact ih2 _ (tyUp' hd2 c_7) _ _ rfl (by have k24 : (24 : Int32).toInt = 24 := (by decide); have k23 : (23 : Int32).toInt = 23 := (by decide); have k0 : (0 : Int32).toInt = 0 := (by decide); have k1 : (1 : Int32).toInt = 1 := (by decide); have ks := tyS1 (x := y2_1); omega) H11
  refine g_iconst (v := 1) (q := 1) C dX6_dropNearest_0 (by decide) rfl ?_
  refine g_istore_n (q := 2) C dX6_dropNearest_1 (Nat.le_of_ble_eq_true rfl) (by simp only [gset]; rfl) rfl ?_
  exact J_2 _ _ _ rfl (by have k24 : (24 : Int32).toInt = 24 := (by decide); have k23 : (23 : Int32).toInt = 23 := (by decide); have k0 : (0 : Int32).toInt = 0 := (by decide); have k1 : (1 : Int32).toInt = 1 := (by decide); omega) H
theorem dX6_sendLetter_0 : decode cX6_sendLetter 0 = .ok (.iconst 0, 1) := by decide +kernel
theorem dX6_sendLetter_1 : decode cX6_sendLetter 1 = .ok (.istore_n 1, 1) := by decide +kernel
theorem dX6_sendLetter_2 : decode cX6_sendLetter 2 = .ok (.aload_n 0, 1) := by decide +kernel
theorem dX6_sendLetter_3 : decode cX6_sendLetter 3 = .ok (.getfield 31, 3) := by decide +kernel
theorem dX6_sendLetter_6 : decode cX6_sendLetter 6 = .ok (.ifCond .le 37, 3) := by decide +kernel
theorem dX6_sendLetter_9 : decode cX6_sendLetter 9 = .ok (.aload_n 0, 1) := by decide +kernel
theorem dX6_sendLetter_10 : decode cX6_sendLetter 10 = .ok (.getfield 21, 3) := by decide +kernel
theorem dX6_sendLetter_13 : decode cX6_sendLetter 13 = .ok (.iconst 0, 1) := by decide +kernel
theorem dX6_sendLetter_14 : decode cX6_sendLetter 14 = .ok (.iaload, 1) := by decide +kernel
theorem dX6_sendLetter_15 : decode cX6_sendLetter 15 = .ok (.aload_n 0, 1) := by decide +kernel
theorem dX6_sendLetter_16 : decode cX6_sendLetter 16 = .ok (.getfield 15, 3) := by decide +kernel
theorem dX6_sendLetter_19 : decode cX6_sendLetter 19 = .ok (.if_icmp .ne 24, 3) := by decide +kernel
theorem dX6_sendLetter_22 : decode cX6_sendLetter 22 = .ok (.aload_n 0, 1) := by decide +kernel
theorem dX6_sendLetter_23 : decode cX6_sendLetter 23 = .ok (.getfield 25, 3) := by decide +kernel
theorem dX6_sendLetter_26 : decode cX6_sendLetter 26 = .ok (.iconst 0, 1) := by decide +kernel
theorem dX6_sendLetter_27 : decode cX6_sendLetter 27 = .ok (.iaload, 1) := by decide +kernel
theorem dX6_sendLetter_28 : decode cX6_sendLetter 28 = .ok (.istore_n 1, 1) := by decide +kernel
theorem dX6_sendLetter_29 : decode cX6_sendLetter 29 = .ok (.aload_n 0, 1) := by decide +kernel
theorem dX6_sendLetter_30 : decode cX6_sendLetter 30 = .ok (.aload_n 0, 1) := by decide +kernel
theorem dX6_sendLetter_31 : decode cX6_sendLetter 31 = .ok (.getfield 28, 3) := by decide +kernel
theorem dX6_sendLetter_34 : decode cX6_sendLetter 34 = .ok (.iconst 0, 1) := by decide +kernel
theorem dX6_sendLetter_35 : decode cX6_sendLetter 35 = .ok (.iaload, 1) := by decide +kernel
theorem dX6_sendLetter_36 : decode cX6_sendLetter 36 = .ok (.putfield 40, 3) := by decide +kernel
theorem dX6_sendLetter_39 : decode cX6_sendLetter 39 = .ok (.aload_n 0, 1) := by decide +kernel
theorem dX6_sendLetter_40 : decode cX6_sendLetter 40 = .ok (.invokevirtual 53, 3) := by decide +kernel
theorem dX6_sendLetter_43 : decode cX6_sendLetter 43 = .ok (.aload_n 0, 1) := by decide +kernel
theorem dX6_sendLetter_44 : decode cX6_sendLetter 44 = .ok (.getfield 15, 3) := by decide +kernel
theorem dX6_sendLetter_47 : decode cX6_sendLetter 47 = .ok (.aload_n 0, 1) := by decide +kernel
theorem dX6_sendLetter_48 : decode cX6_sendLetter 48 = .ok (.getfield 34, 3) := by decide +kernel
theorem dX6_sendLetter_51 : decode cX6_sendLetter 51 = .ok (.if_icmp .ne 13, 3) := by decide +kernel
theorem dX6_sendLetter_54 : decode cX6_sendLetter 54 = .ok (.aload_n 0, 1) := by decide +kernel
theorem dX6_sendLetter_55 : decode cX6_sendLetter 55 = .ok (.getfield 37, 3) := by decide +kernel
theorem dX6_sendLetter_58 : decode cX6_sendLetter 58 = .ok (.istore_n 1, 1) := by decide +kernel
theorem dX6_sendLetter_59 : decode cX6_sendLetter 59 = .ok (.aload_n 0, 1) := by decide +kernel
theorem dX6_sendLetter_60 : decode cX6_sendLetter 60 = .ok (.iconst 1, 1) := by decide +kernel
theorem dX6_sendLetter_61 : decode cX6_sendLetter 61 = .ok (.putfield 40, 3) := by decide +kernel
theorem dX6_sendLetter_64 : decode cX6_sendLetter 64 = .ok (.aload_n 0, 1) := by decide +kernel
theorem dX6_sendLetter_65 : decode cX6_sendLetter 65 = .ok (.dup, 1) := by decide +kernel
theorem dX6_sendLetter_66 : decode cX6_sendLetter 66 = .ok (.getfield 15, 3) := by decide +kernel
theorem dX6_sendLetter_69 : decode cX6_sendLetter 69 = .ok (.iconst 1, 1) := by decide +kernel
theorem dX6_sendLetter_70 : decode cX6_sendLetter 70 = .ok (.iadd, 1) := by decide +kernel
theorem dX6_sendLetter_71 : decode cX6_sendLetter 71 = .ok (.putfield 15, 3) := by decide +kernel
theorem dX6_sendLetter_74 : decode cX6_sendLetter 74 = .ok (.iload_n 1, 1) := by decide +kernel
theorem dX6_sendLetter_75 : decode cX6_sendLetter 75 = .ok (.ireturn, 1) := by decide +kernel
set_option maxRecDepth 100000 in
set_option maxHeartbeats 4000000 in
theorem tX6_sendLetter {T : tyT} {R : Nat} {J : Nat → Prop} {Bc Bs : Nat} {M : gMd} {z : Nat → Nat} {hp : List gA} {o : Nat}  (H : tyS T R J Bc Bs M z hp) (hk : tyK o = (6, 0))  : gM yX6_sendLetter cX6_sendLetter 2 ((some .int)) 1 21 [.ref o] (hp) (0) (0) (fun v h => ∃ x, v = some (.int x) ∧ tyS T R J Bc Bs M z h) := by
  refine gM_of (ls0 := [some (.ref o), none]) (by decide +kernel) (Nat.le_of_ble_eq_true rfl) rfl fun X C E => ?_
  have J_64 : ∀ (y64_1 : Int32) (hJ64 : List gA), tyS T R J Bc Bs M z hJ64 → gG X 64 [some (.ref o), some (.int y64_1)] [] hJ64 0 0 := by
    intro y64_1 hJ64 HJ64
    refine g_aload_n (q := 65) C dX6_sendLetter_64 rfl rfl ?_
    refine g_dup (q := 66) C dX6_sendLetter_65 rfl rfl ?_
    obtain ⟨x0_1, x1_1, x2_1, x6_1, x7_1, x8_1, x9_1, o1, e1_0⟩ := tyG6 HJ64 hk
    refine g_getfield (v := .int x1_1) (q := 69) C fX6_15 dX6_sendLetter_66 rfl o1 rfl ?_
    refine g_iconst (v := 1) (q := 70) C dX6_sendLetter_69 (by decide) rfl ?_
    refine g_iadd (q := 71) C dX6_sendLetter_70 rfl ?_
    refine g_putfield (q := 74) C fX6_15 dX6_sendLetter_71 rfl o1 (Nat.le_of_ble_eq_true rfl) (Or.inl rfl) rfl rfl (by intro z h; cases h) ?_
    refine tyP6 HJ64 hk rfl e1_0 (fun h2 _ _ H2 => ?_)
    refine g_iload_n (q := 75) C dX6_sendLetter_74 rfl rfl ?_
    exact E.1 _ _ _ _ _ _ _ dX6_sendLetter_75 rfl rfl (Nat.le_of_ble_eq_true rfl) (Nat.le_of_ble_eq_true rfl) ⟨_, rfl, H2⟩
  have J_43 : ∀ (y43_1 : Int32) (hJ43 : List gA), tyS T R J Bc Bs M z hJ43 → gG X 43 [some (.ref o), some (.int y43_1)] [] hJ43 0 0 := by
    intro y43_1 hJ43 HJ43
    refine g_aload_n (q := 44) C dX6_sendLetter_43 rfl rfl ?_
    obtain ⟨x0_3, x1_3, x2_3, x6_3, x7_3, x8_3, x9_3, o3, e3_0⟩ := tyG6 HJ43 hk
    refine g_getfield (v := .int x1_3) (q := 47) C fX6_15 dX6_sendLetter_44 rfl o3 rfl ?_
    refine g_aload_n (q := 48) C dX6_sendLetter_47 rfl rfl ?_
    refine g_getfield (v := .int x7_3) (q := 51) C fX6_34 dX6_sendLetter_48 rfl o3 rfl ?_
    refine g_icmp_ne (t := 64) (q := 54) C dX6_sendLetter_51 (by decide) rfl (fun c_51 => ?_) (fun c_51 => ?_)
    ·
      exact J_64 _ _  HJ43
    ·
      refine g_aload_n (q := 55) C dX6_sendLetter_54 rfl rfl ?_
      refine g_getfield (v := .int x8_3) (q := 58) C fX6_37 dX6_sendLetter_55 rfl o3 rfl ?_
      refine g_istore_n (q := 59) C dX6_sendLetter_58 (Nat.le_of_ble_eq_true rfl) (by simp only [gset]; rfl) rfl ?_
      refine g_aload_n (q := 60) C dX6_sendLetter_59 rfl rfl ?_
      refine g_iconst (v := 1) (q := 61) C dX6_sendLetter_60 (by decide) rfl ?_
      refine g_putfield (q := 64) C fX6_40 dX6_sendLetter_61 rfl o3 (Nat.le_of_ble_eq_true rfl) (Or.inl rfl) rfl rfl (by intro z h; cases h) ?_
      refine tyP6 HJ43 hk rfl e3_0 (fun h4 _ _ H4 => ?_)
      exact J_64 _ _  H4
  refine g_iconst (v := 0) (q := 1) C dX6_sendLetter_0 (by decide) rfl ?_
  refine g_istore_n (q := 2) C dX6_sendLetter_1 (Nat.le_of_ble_eq_true rfl) (by simp only [gset]; rfl) rfl ?_
  refine g_aload_n (q := 3) C dX6_sendLetter_2 rfl rfl ?_
  obtain ⟨x0_5, x1_5, x2_5, x6_5, x7_5, x8_5, x9_5, o5, e5_0⟩ := tyG6 H hk
  refine g_getfield (v := .int x6_5) (q := 6) C fX6_31 dX6_sendLetter_3 rfl o5 rfl ?_
  refine g_if_le (t := 43) (q := 9) C dX6_sendLetter_6 (by decide) rfl (fun c_6 => ?_) (fun c_6 => ?_)
  ·
    have i_6 := Int32.le_iff_toInt_le.mp c_6
    exact J_43 _ _  H
  ·
    have i_6 := mt Int32.le_iff_toInt_le.mpr c_6
    refine g_aload_n (q := 10) C dX6_sendLetter_9 rfl rfl ?_
    refine g_getfield (v := .ref ((o + 1))) (q := 13) C fX6_21 dX6_sendLetter_10 rfl o5 rfl ?_
    refine g_iconst (v := 0) (q := 14) C dX6_sendLetter_13 (by decide) rfl ?_
    obtain ⟨f6, o6⟩ := tyArr H (tyF6_3 hk)
    refine g_iaload (q := 15) C dX6_sendLetter_14 rfl o6 (pk_in 0 24 (by decide)) ?_
    refine g_aload_n (q := 16) C dX6_sendLetter_15 rfl rfl ?_
    refine g_getfield (v := .int x1_5) (q := 19) C fX6_15 dX6_sendLetter_16 rfl o5 rfl ?_
    refine g_icmp_ne (t := 43) (q := 22) C dX6_sendLetter_19 (by decide) rfl (fun c_19 => ?_) (fun c_19 => ?_)
    ·
      exact J_43 _ _  H
    ·
      refine g_aload_n (q := 23) C dX6_sendLetter_22 rfl rfl ?_
      refine g_getfield (v := .ref ((o + 2))) (q := 26) C fX6_25 dX6_sendLetter_23 rfl o5 rfl ?_
      refine g_iconst (v := 0) (q := 27) C dX6_sendLetter_26 (by decide) rfl ?_
      obtain ⟨f7, o7⟩ := tyArr H (tyF6_4 hk)
      refine g_iaload (q := 28) C dX6_sendLetter_27 rfl o7 (pk_in 0 24 (by decide)) ?_
      refine g_istore_n (q := 29) C dX6_sendLetter_28 (Nat.le_of_ble_eq_true rfl) (by simp only [gset]; rfl) rfl ?_
      refine g_aload_n (q := 30) C dX6_sendLetter_29 rfl rfl ?_
      refine g_aload_n (q := 31) C dX6_sendLetter_30 rfl rfl ?_
      refine g_getfield (v := .ref ((o + 3))) (q := 34) C fX6_28 dX6_sendLetter_31 rfl o5 rfl ?_
      refine g_iconst (v := 0) (q := 35) C dX6_sendLetter_34 (by decide) rfl ?_
      obtain ⟨f8, o8⟩ := tyArr H (tyF6_5 hk)
      refine g_iaload (q := 36) C dX6_sendLetter_35 rfl o8 (pk_in 0 24 (by decide)) ?_
      refine g_putfield (q := 39) C fX6_40 dX6_sendLetter_36 rfl o5 (Nat.le_of_ble_eq_true rfl) (Or.inl rfl) rfl rfl (by intro z h; cases h) ?_
      refine tyP6 H hk rfl e5_0 (fun h9 _ _ H9 => ?_)
      refine g_aload_n (q := 40) C dX6_sendLetter_39 rfl rfl ?_
      obtain ⟨x0_10, x1_10, x2_10, x6_10, x7_10, x8_10, x9_10, o10, e10_0⟩ := tyG6 H9 hk
      refine g_callVvp (q := 43) (As := []) C gyX6_dropNearest gvX6_dropNearest t_838 (tX6_dropNearest H9 hk) dX6_sendLetter_40 rfl o10 rfl rfl rfl (Nat.le_of_ble_eq_true rfl) (Nat.le_of_ble_eq_true rfl) (Nat.le_of_ble_eq_true rfl) (Nat.le_of_ble_eq_true rfl) (Nat.le_of_ble_eq_true rfl) rfl (fun h11 q11 => ?_)
      have H11 := q11
      exact J_43 _ _  H11
theorem dX6_makePlace_0 : decode cX6_makePlace 0 = .ok (.aload_n 0, 1) := by decide +kernel
theorem dX6_makePlace_1 : decode cX6_makePlace 1 = .ok (.getfield 31, 3) := by decide +kernel
theorem dX6_makePlace_4 : decode cX6_makePlace 4 = .ok (.bipush 23, 2) := by decide +kernel
theorem dX6_makePlace_6 : decode cX6_makePlace 6 = .ok (.invokestatic 47, 3) := by decide +kernel
theorem dX6_makePlace_9 : decode cX6_makePlace 9 = .ok (.istore_n 2, 1) := by decide +kernel
theorem dX6_makePlace_10 : decode cX6_makePlace 10 = .ok (.iload_n 2, 1) := by decide +kernel
theorem dX6_makePlace_11 : decode cX6_makePlace 11 = .ok (.iload_n 1, 1) := by decide +kernel
theorem dX6_makePlace_12 : decode cX6_makePlace 12 = .ok (.if_icmp .le 55, 3) := by decide +kernel
theorem dX6_makePlace_15 : decode cX6_makePlace 15 = .ok (.iload_n 2, 1) := by decide +kernel
theorem dX6_makePlace_16 : decode cX6_makePlace 16 = .ok (.ifCond .le 51, 3) := by decide +kernel
theorem dX6_makePlace_19 : decode cX6_makePlace 19 = .ok (.aload_n 0, 1) := by decide +kernel
theorem dX6_makePlace_20 : decode cX6_makePlace 20 = .ok (.getfield 21, 3) := by decide +kernel
theorem dX6_makePlace_23 : decode cX6_makePlace 23 = .ok (.iload_n 2, 1) := by decide +kernel
theorem dX6_makePlace_24 : decode cX6_makePlace 24 = .ok (.aload_n 0, 1) := by decide +kernel
theorem dX6_makePlace_25 : decode cX6_makePlace 25 = .ok (.getfield 21, 3) := by decide +kernel
theorem dX6_makePlace_28 : decode cX6_makePlace 28 = .ok (.iload_n 2, 1) := by decide +kernel
theorem dX6_makePlace_29 : decode cX6_makePlace 29 = .ok (.iconst 1, 1) := by decide +kernel
theorem dX6_makePlace_30 : decode cX6_makePlace 30 = .ok (.isub, 1) := by decide +kernel
theorem dX6_makePlace_31 : decode cX6_makePlace 31 = .ok (.iaload, 1) := by decide +kernel
theorem dX6_makePlace_32 : decode cX6_makePlace 32 = .ok (.iastore, 1) := by decide +kernel
theorem dX6_makePlace_33 : decode cX6_makePlace 33 = .ok (.aload_n 0, 1) := by decide +kernel
theorem dX6_makePlace_34 : decode cX6_makePlace 34 = .ok (.getfield 25, 3) := by decide +kernel
theorem dX6_makePlace_37 : decode cX6_makePlace 37 = .ok (.iload_n 2, 1) := by decide +kernel
theorem dX6_makePlace_38 : decode cX6_makePlace 38 = .ok (.aload_n 0, 1) := by decide +kernel
theorem dX6_makePlace_39 : decode cX6_makePlace 39 = .ok (.getfield 25, 3) := by decide +kernel
theorem dX6_makePlace_42 : decode cX6_makePlace 42 = .ok (.iload_n 2, 1) := by decide +kernel
theorem dX6_makePlace_43 : decode cX6_makePlace 43 = .ok (.iconst 1, 1) := by decide +kernel
theorem dX6_makePlace_44 : decode cX6_makePlace 44 = .ok (.isub, 1) := by decide +kernel
theorem dX6_makePlace_45 : decode cX6_makePlace 45 = .ok (.iaload, 1) := by decide +kernel
theorem dX6_makePlace_46 : decode cX6_makePlace 46 = .ok (.iastore, 1) := by decide +kernel
theorem dX6_makePlace_47 : decode cX6_makePlace 47 = .ok (.aload_n 0, 1) := by decide +kernel
theorem dX6_makePlace_48 : decode cX6_makePlace 48 = .ok (.getfield 28, 3) := by decide +kernel
theorem dX6_makePlace_51 : decode cX6_makePlace 51 = .ok (.iload_n 2, 1) := by decide +kernel
theorem dX6_makePlace_52 : decode cX6_makePlace 52 = .ok (.aload_n 0, 1) := by decide +kernel
theorem dX6_makePlace_53 : decode cX6_makePlace 53 = .ok (.getfield 28, 3) := by decide +kernel
theorem dX6_makePlace_56 : decode cX6_makePlace 56 = .ok (.iload_n 2, 1) := by decide +kernel
theorem dX6_makePlace_57 : decode cX6_makePlace 57 = .ok (.iconst 1, 1) := by decide +kernel
theorem dX6_makePlace_58 : decode cX6_makePlace 58 = .ok (.isub, 1) := by decide +kernel
theorem dX6_makePlace_59 : decode cX6_makePlace 59 = .ok (.iaload, 1) := by decide +kernel
theorem dX6_makePlace_60 : decode cX6_makePlace 60 = .ok (.iastore, 1) := by decide +kernel
theorem dX6_makePlace_61 : decode cX6_makePlace 61 = .ok (.iinc 2 (-1), 3) := by decide +kernel
theorem dX6_makePlace_64 : decode cX6_makePlace 64 = .ok (.goto (-54), 3) := by decide +kernel
theorem dX6_makePlace_67 : decode cX6_makePlace 67 = .ok (.aload_n 0, 1) := by decide +kernel
theorem dX6_makePlace_68 : decode cX6_makePlace 68 = .ok (.aload_n 0, 1) := by decide +kernel
theorem dX6_makePlace_69 : decode cX6_makePlace 69 = .ok (.getfield 31, 3) := by decide +kernel
theorem dX6_makePlace_72 : decode cX6_makePlace 72 = .ok (.iconst 1, 1) := by decide +kernel
theorem dX6_makePlace_73 : decode cX6_makePlace 73 = .ok (.iadd, 1) := by decide +kernel
theorem dX6_makePlace_74 : decode cX6_makePlace 74 = .ok (.bipush 24, 2) := by decide +kernel
theorem dX6_makePlace_76 : decode cX6_makePlace 76 = .ok (.invokestatic 47, 3) := by decide +kernel
theorem dX6_makePlace_79 : decode cX6_makePlace 79 = .ok (.putfield 31, 3) := by decide +kernel
theorem dX6_makePlace_82 : decode cX6_makePlace 82 = .ok (.return_, 1) := by decide +kernel
set_option maxRecDepth 100000 in
set_option maxHeartbeats 4000000 in
theorem tX6_makePlace {T : tyT} {R : Nat} {J : Nat → Prop} {Bc Bs : Nat} {M : gMd} {z : Nat → Nat} {hp : List gA} {o : Nat} {a0 : Int32}  (H : tyS T R J Bc Bs M z hp) (hk : tyK o = (6, 0))  : gM yX6_makePlace cX6_makePlace 3 (none) 1 21 [.ref o, .int a0] (hp) (0) (0) (fun v h => v = none ∧ tyS T R J Bc Bs M z h) := by
  refine gM_of (ls0 := [some (.ref o), some (.int a0), none]) (by decide +kernel) (Nat.le_of_ble_eq_true rfl) rfl fun X C E => ?_
  have J_67 : ∀ (y67_1 y67_2 : Int32) (hJ67 : List gA), tyS T R J Bc Bs M z hJ67 → gG X 67 [some (.ref o), some (.int y67_1), some (.int y67_2)] [] hJ67 0 0 := by
    intro y67_1 y67_2 hJ67 HJ67
    refine g_aload_n (q := 68) C dX6_makePlace_67 rfl rfl ?_
    refine g_aload_n (q := 69) C dX6_makePlace_68 rfl rfl ?_
    obtain ⟨x0_1, x1_1, x2_1, x6_1, x7_1, x8_1, x9_1, o1, e1_0⟩ := tyG6 HJ67 hk
    refine g_getfield (v := .int x6_1) (q := 72) C fX6_31 dX6_makePlace_69 rfl o1 rfl ?_
    refine g_iconst (v := 1) (q := 73) C dX6_makePlace_72 (by decide) rfl ?_
    refine g_iadd (q := 74) C dX6_makePlace_73 rfl ?_
    refine g_bipush (v := 24) (q := 76) C dX6_makePlace_74 (by decide) rfl ?_
    refine g_callSi (q := 79) (As := [.int (x6_1 + 1), .int 24]) C gyJ9_min_7cf53 t_476 t_664 (c_J9_min_7cf53) dX6_makePlace_76 rfl rfl rfl (Nat.le_of_ble_eq_true rfl) (Nat.le_of_ble_eq_true rfl) (Nat.le_of_ble_eq_true rfl) (Nat.le_of_ble_eq_true rfl) (Nat.le_of_ble_eq_true rfl) rfl ?_
    refine g_putfield (q := 82) C fX6_31 dX6_makePlace_79 rfl o1 (Nat.le_of_ble_eq_true rfl) (Or.inl rfl) rfl rfl (by intro z h; cases h) ?_
    refine tyP6 HJ67 hk rfl e1_0 (fun h2 _ _ H2 => ?_)
    exact E.2.1 _ _ _ _ _ dX6_makePlace_82 rfl (Nat.le_of_ble_eq_true rfl) (Nat.le_of_ble_eq_true rfl) ⟨rfl, H2⟩
  have J_10 : ∀ (d10 : Nat) (y10_1 y10_2 : Int32) (hJ10 : List gA), y10_2.toInt.toNat = d10 → ∀ (v10_0 : y10_2.toInt < 24), tyS T R J Bc Bs M z hJ10 → gG X 10 [some (.ref o), some (.int y10_1), some (.int y10_2)] [] hJ10 0 0 := by
    intro d10
    induction d10 using Nat.strongRecOn with
    | _ d10 ih10 =>
    intro y10_1 y10_2 hJ10 hd10 v10_0 HJ10
    refine g_iload_n (q := 11) C dX6_makePlace_10 rfl rfl ?_
    refine g_iload_n (q := 12) C dX6_makePlace_11 rfl rfl ?_
    refine g_icmp_le (t := 67) (q := 15) C dX6_makePlace_12 (by decide) rfl (fun c_12 => ?_) (fun c_12 => ?_)
    ·
      have i_12 := Int32.le_iff_toInt_le.mp c_12
      exact J_67 _ _ _  HJ10
    ·
      have i_12 := mt Int32.le_iff_toInt_le.mpr c_12
      refine g_iload_n (q := 16) C dX6_makePlace_15 rfl rfl ?_
      refine g_if_le (t := 67) (q := 19) C dX6_makePlace_16 (by decide) rfl (fun c_16 => ?_) (fun c_16 => ?_)
      ·
        have i_16 := Int32.le_iff_toInt_le.mp c_16
        exact J_67 _ _ _  HJ10
      ·
        have i_16 := mt Int32.le_iff_toInt_le.mpr c_16
        refine g_aload_n (q := 20) C dX6_makePlace_19 rfl rfl ?_
        obtain ⟨x0_3, x1_3, x2_3, x6_3, x7_3, x8_3, x9_3, o3, e3_0⟩ := tyG6 HJ10 hk
        refine g_getfield (v := .ref ((o + 1))) (q := 23) C fX6_21 dX6_makePlace_20 rfl o3 rfl ?_
        refine g_iload_n (q := 24) C dX6_makePlace_23 rfl rfl ?_
        refine g_aload_n (q := 25) C dX6_makePlace_24 rfl rfl ?_
        refine g_getfield (v := .ref ((o + 1))) (q := 28) C fX6_21 dX6_makePlace_25 rfl o3 rfl ?_
        refine g_iload_n (q := 29) C dX6_makePlace_28 rfl rfl ?_
        refine g_iconst (v := 1) (q := 30) C dX6_makePlace_29 (by decide) rfl ?_
        refine g_isub (q := 31) C dX6_makePlace_30 rfl ?_
        obtain ⟨f4, o4⟩ := tyArr HJ10 (tyF6_3 hk)
        refine g_iaload (q := 32) C dX6_makePlace_31 rfl o4 (by have k24 : (24 : Int32).toInt = 24 := (by decide); have k23 : (23 : Int32).toInt = 23 := (by decide); have k0 : (0 : Int32).toInt = 0 := (by decide); have k1 : (1 : Int32).toInt = 1 := (by decide); have ks := tyS3 (x := y10_2); exact vp_in0 (by omega) (by omega)) ?_
        obtain ⟨f5, o5⟩ := tyArr HJ10 (tyF6_3 hk)
        refine g_iastore (q := 33) C dX6_makePlace_32 rfl o5 (by have k24 : (24 : Int32).toInt = 24 := (by decide); have k23 : (23 : Int32).toInt = 23 := (by decide); have k0 : (0 : Int32).toInt = 0 := (by decide); have k1 : (1 : Int32).toInt = 1 := (by decide); exact vp_in0 (by omega) (by omega)) ?_
        refine tyPa HJ10 (tyF6_3 hk) (tyWn hk (i := 0) (by decide)) o5 (fun h5 H5 => ?_)
        refine g_aload_n (q := 34) C dX6_makePlace_33 rfl rfl ?_
        obtain ⟨x0_6, x1_6, x2_6, x6_6, x7_6, x8_6, x9_6, o6, e6_0⟩ := tyG6 H5 hk
        refine g_getfield (v := .ref ((o + 2))) (q := 37) C fX6_25 dX6_makePlace_34 rfl o6 rfl ?_
        refine g_iload_n (q := 38) C dX6_makePlace_37 rfl rfl ?_
        refine g_aload_n (q := 39) C dX6_makePlace_38 rfl rfl ?_
        refine g_getfield (v := .ref ((o + 2))) (q := 42) C fX6_25 dX6_makePlace_39 rfl o6 rfl ?_
        refine g_iload_n (q := 43) C dX6_makePlace_42 rfl rfl ?_
        refine g_iconst (v := 1) (q := 44) C dX6_makePlace_43 (by decide) rfl ?_
        refine g_isub (q := 45) C dX6_makePlace_44 rfl ?_
        obtain ⟨f7, o7⟩ := tyArr H5 (tyF6_4 hk)
        refine g_iaload (q := 46) C dX6_makePlace_45 rfl o7 (by have k24 : (24 : Int32).toInt = 24 := (by decide); have k23 : (23 : Int32).toInt = 23 := (by decide); have k0 : (0 : Int32).toInt = 0 := (by decide); have k1 : (1 : Int32).toInt = 1 := (by decide); have ks := tyS3 (x := y10_2); exact vp_in0 (by omega) (by omega)) ?_
        obtain ⟨f8, o8⟩ := tyArr H5 (tyF6_4 hk)
        refine g_iastore (q := 47) C dX6_makePlace_46 rfl o8 (by have k24 : (24 : Int32).toInt = 24 := (by decide); have k23 : (23 : Int32).toInt = 23 := (by decide); have k0 : (0 : Int32).toInt = 0 := (by decide); have k1 : (1 : Int32).toInt = 1 := (by decide); exact vp_in0 (by omega) (by omega)) ?_
        refine tyPa H5 (tyF6_4 hk) (tyWn hk (i := 1) (by decide)) o8 (fun h8 H8 => ?_)
        refine g_aload_n (q := 48) C dX6_makePlace_47 rfl rfl ?_
        obtain ⟨x0_9, x1_9, x2_9, x6_9, x7_9, x8_9, x9_9, o9, e9_0⟩ := tyG6 H8 hk
        refine g_getfield (v := .ref ((o + 3))) (q := 51) C fX6_28 dX6_makePlace_48 rfl o9 rfl ?_
        refine g_iload_n (q := 52) C dX6_makePlace_51 rfl rfl ?_
        refine g_aload_n (q := 53) C dX6_makePlace_52 rfl rfl ?_
        refine g_getfield (v := .ref ((o + 3))) (q := 56) C fX6_28 dX6_makePlace_53 rfl o9 rfl ?_
        refine g_iload_n (q := 57) C dX6_makePlace_56 rfl rfl ?_
        refine g_iconst (v := 1) (q := 58) C dX6_makePlace_57 (by decide) rfl ?_
        refine g_isub (q := 59) C dX6_makePlace_58 rfl ?_
        obtain ⟨f10, o10⟩ := tyArr H8 (tyF6_5 hk)
        refine g_iaload (q := 60) C dX6_makePlace_59 rfl o10 (by have k24 : (24 : Int32).toInt = 24 := (by decide); have k23 : (23 : Int32).toInt = 23 := (by decide); have k0 : (0 : Int32).toInt = 0 := (by decide); have k1 : (1 : Int32).toInt = 1 := (by decide); have ks := tyS3 (x := y10_2); exact vp_in0 (by omega) (by omega)) ?_
        obtain ⟨f11, o11⟩ := tyArr H8 (tyF6_5 hk)
        refine g_iastore (q := 61) C dX6_makePlace_60 rfl o11 (by have k24 : (24 : Int32).toInt = 24 := (by decide); have k23 : (23 : Int32).toInt = 23 := (by decide); have k0 : (0 : Int32).toInt = 0 := (by decide); have k1 : (1 : Int32).toInt = 1 := (by decide); exact vp_in0 (by omega) (by omega)) ?_
        refine tyPa H8 (tyF6_5 hk) (tyWn hk (i := 2) (by decide)) o11 (fun h11 H11 => ?_)
        refine g_iinc (v := y10_2 + (-1)) (q := 64) C dX6_makePlace_61 rfl rfl (by simp only [gset]; rfl) rfl ?_
        refine g_goto (q := 10) C dX6_makePlace_64 (by decide) ?_
        exact ih10 _ (tyDn' hd10 c_16) _ _ _ rfl (by have k24 : (24 : Int32).toInt = 24 := (by decide); have k23 : (23 : Int32).toInt = 23 := (by decide); have k0 : (0 : Int32).toInt = 0 := (by decide); have k1 : (1 : Int32).toInt = 1 := (by decide); have ks := tyS2 (x := y10_2); omega) H11
  refine g_aload_n (q := 1) C dX6_makePlace_0 rfl rfl ?_
  obtain ⟨x0_12, x1_12, x2_12, x6_12, x7_12, x8_12, x9_12, o12, e12_0⟩ := tyG6 H hk
  refine g_getfield (v := .int x6_12) (q := 4) C fX6_31 dX6_makePlace_1 rfl o12 rfl ?_
  refine g_bipush (v := 23) (q := 6) C dX6_makePlace_4 (by decide) rfl ?_
  refine g_callSi (q := 9) (As := [.int x6_12, .int 23]) C gyJ9_min_7cf53 t_476 t_664 (c_J9_min_7cf53) dX6_makePlace_6 rfl rfl rfl (Nat.le_of_ble_eq_true rfl) (Nat.le_of_ble_eq_true rfl) (Nat.le_of_ble_eq_true rfl) (Nat.le_of_ble_eq_true rfl) (Nat.le_of_ble_eq_true rfl) rfl ?_
  refine g_istore_n (q := 10) C dX6_makePlace_9 (Nat.le_of_ble_eq_true rfl) (by simp only [gset]; rfl) rfl ?_
  exact J_10 _ _ _ _ rfl (by have k24 : (24 : Int32).toInt = 24 := (by decide); have k23 : (23 : Int32).toInt = 23 := (by decide); have k0 : (0 : Int32).toInt = 0 := (by decide); have k1 : (1 : Int32).toInt = 1 := (by decide); have ks := tyMin (x := x6_12) (y := 23); omega) H
theorem dX6_addFault_0 : decode cX6_addFault 0 = .ok (.aload_n 0, 1) := by decide +kernel
theorem dX6_addFault_1 : decode cX6_addFault 1 = .ok (.getfield 15, 3) := by decide +kernel
theorem dX6_addFault_4 : decode cX6_addFault 4 = .ok (.iload_n 1, 1) := by decide +kernel
theorem dX6_addFault_5 : decode cX6_addFault 5 = .ok (.iadd, 1) := by decide +kernel
theorem dX6_addFault_6 : decode cX6_addFault 6 = .ok (.istore 4, 2) := by decide +kernel
theorem dX6_addFault_8 : decode cX6_addFault 8 = .ok (.iconst 0, 1) := by decide +kernel
theorem dX6_addFault_9 : decode cX6_addFault 9 = .ok (.istore 5, 2) := by decide +kernel
theorem dX6_addFault_11 : decode cX6_addFault 11 = .ok (.iload 5, 2) := by decide +kernel
theorem dX6_addFault_13 : decode cX6_addFault 13 = .ok (.aload_n 0, 1) := by decide +kernel
theorem dX6_addFault_14 : decode cX6_addFault 14 = .ok (.getfield 31, 3) := by decide +kernel
theorem dX6_addFault_17 : decode cX6_addFault 17 = .ok (.if_icmp .ge 28, 3) := by decide +kernel
theorem dX6_addFault_20 : decode cX6_addFault 20 = .ok (.iload 5, 2) := by decide +kernel
theorem dX6_addFault_22 : decode cX6_addFault 22 = .ok (.bipush 24, 2) := by decide +kernel
theorem dX6_addFault_24 : decode cX6_addFault 24 = .ok (.if_icmp .ge 21, 3) := by decide +kernel
theorem dX6_addFault_27 : decode cX6_addFault 27 = .ok (.aload_n 0, 1) := by decide +kernel
theorem dX6_addFault_28 : decode cX6_addFault 28 = .ok (.getfield 21, 3) := by decide +kernel
theorem dX6_addFault_31 : decode cX6_addFault 31 = .ok (.iload 5, 2) := by decide +kernel
theorem dX6_addFault_33 : decode cX6_addFault 33 = .ok (.iaload, 1) := by decide +kernel
theorem dX6_addFault_34 : decode cX6_addFault 34 = .ok (.iload 4, 2) := by decide +kernel
theorem dX6_addFault_36 : decode cX6_addFault 36 = .ok (.if_icmp .ge 9, 3) := by decide +kernel
theorem dX6_addFault_39 : decode cX6_addFault 39 = .ok (.iinc 5 1, 3) := by decide +kernel
theorem dX6_addFault_42 : decode cX6_addFault 42 = .ok (.goto (-31), 3) := by decide +kernel
theorem dX6_addFault_45 : decode cX6_addFault 45 = .ok (.iload 5, 2) := by decide +kernel
theorem dX6_addFault_47 : decode cX6_addFault 47 = .ok (.bipush 24, 2) := by decide +kernel
theorem dX6_addFault_49 : decode cX6_addFault 49 = .ok (.if_icmp .lt 4, 3) := by decide +kernel
theorem dX6_addFault_52 : decode cX6_addFault 52 = .ok (.return_, 1) := by decide +kernel
theorem dX6_addFault_53 : decode cX6_addFault 53 = .ok (.iload 5, 2) := by decide +kernel
theorem dX6_addFault_55 : decode cX6_addFault 55 = .ok (.aload_n 0, 1) := by decide +kernel
theorem dX6_addFault_56 : decode cX6_addFault 56 = .ok (.getfield 31, 3) := by decide +kernel
theorem dX6_addFault_59 : decode cX6_addFault 59 = .ok (.if_icmp .ge 15, 3) := by decide +kernel
theorem dX6_addFault_62 : decode cX6_addFault 62 = .ok (.aload_n 0, 1) := by decide +kernel
theorem dX6_addFault_63 : decode cX6_addFault 63 = .ok (.getfield 21, 3) := by decide +kernel
theorem dX6_addFault_66 : decode cX6_addFault 66 = .ok (.iload 5, 2) := by decide +kernel
theorem dX6_addFault_68 : decode cX6_addFault 68 = .ok (.iaload, 1) := by decide +kernel
theorem dX6_addFault_69 : decode cX6_addFault 69 = .ok (.iload 4, 2) := by decide +kernel
theorem dX6_addFault_71 : decode cX6_addFault 71 = .ok (.if_icmp .eq 9, 3) := by decide +kernel
theorem dX6_addFault_74 : decode cX6_addFault 74 = .ok (.aload_n 0, 1) := by decide +kernel
theorem dX6_addFault_75 : decode cX6_addFault 75 = .ok (.iload 5, 2) := by decide +kernel
theorem dX6_addFault_77 : decode cX6_addFault 77 = .ok (.invokevirtual 43, 3) := by decide +kernel
theorem dX6_addFault_80 : decode cX6_addFault 80 = .ok (.aload_n 0, 1) := by decide +kernel
theorem dX6_addFault_81 : decode cX6_addFault 81 = .ok (.getfield 21, 3) := by decide +kernel
theorem dX6_addFault_84 : decode cX6_addFault 84 = .ok (.iload 5, 2) := by decide +kernel
theorem dX6_addFault_86 : decode cX6_addFault 86 = .ok (.iload 4, 2) := by decide +kernel
theorem dX6_addFault_88 : decode cX6_addFault 88 = .ok (.iastore, 1) := by decide +kernel
theorem dX6_addFault_89 : decode cX6_addFault 89 = .ok (.aload_n 0, 1) := by decide +kernel
theorem dX6_addFault_90 : decode cX6_addFault 90 = .ok (.getfield 25, 3) := by decide +kernel
theorem dX6_addFault_93 : decode cX6_addFault 93 = .ok (.iload 5, 2) := by decide +kernel
theorem dX6_addFault_95 : decode cX6_addFault 95 = .ok (.iload_n 2, 1) := by decide +kernel
theorem dX6_addFault_96 : decode cX6_addFault 96 = .ok (.iastore, 1) := by decide +kernel
theorem dX6_addFault_97 : decode cX6_addFault 97 = .ok (.aload_n 0, 1) := by decide +kernel
theorem dX6_addFault_98 : decode cX6_addFault 98 = .ok (.getfield 28, 3) := by decide +kernel
theorem dX6_addFault_101 : decode cX6_addFault 101 = .ok (.iload 5, 2) := by decide +kernel
theorem dX6_addFault_103 : decode cX6_addFault 103 = .ok (.iload_n 3, 1) := by decide +kernel
theorem dX6_addFault_104 : decode cX6_addFault 104 = .ok (.iastore, 1) := by decide +kernel
theorem dX6_addFault_105 : decode cX6_addFault 105 = .ok (.return_, 1) := by decide +kernel
set_option maxRecDepth 100000 in
set_option maxHeartbeats 4000000 in
theorem tX6_addFault {T : tyT} {R : Nat} {J : Nat → Prop} {Bc Bs : Nat} {M : gMd} {z : Nat → Nat} {hp : List gA} {o : Nat} {a0 : Int32} {a1 : Int32} {a2 : Int32}  (H : tyS T R J Bc Bs M z hp) (hk : tyK o = (6, 0))  : gM yX6_addFault cX6_addFault 6 (none) 2 43 [.ref o, .int a0, .int a1, .int a2] (hp) (0) (0) (fun v h => v = none ∧ tyS T R J Bc Bs M z h) := by
  refine gM_of (ls0 := [some (.ref o), some (.int a0), some (.int a1), some (.int a2), none, none]) (by decide +kernel) (Nat.le_of_ble_eq_true rfl) rfl fun X C E => ?_
  have J_80 : ∀ (y80_1 y80_2 y80_3 y80_4 y80_5 : Int32) (hJ80 : List gA) (v80_0 : ¬ y80_5.toInt < 0 ∧ y80_5.toInt < 24), tyS T R J Bc Bs M z hJ80 → gG X 80 [some (.ref o), some (.int y80_1), some (.int y80_2), some (.int y80_3), some (.int y80_4), some (.int y80_5)] [] hJ80 0 0 := by
    intro y80_1 y80_2 y80_3 y80_4 y80_5 hJ80 v80_0 HJ80
    refine g_aload_n (q := 81) C dX6_addFault_80 rfl rfl ?_
    obtain ⟨x0_1, x1_1, x2_1, x6_1, x7_1, x8_1, x9_1, o1, e1_0⟩ := tyG6 HJ80 hk
    refine g_getfield (v := .ref ((o + 1))) (q := 84) C fX6_21 dX6_addFault_81 rfl o1 rfl ?_
    refine g_iload (q := 86) C dX6_addFault_84 rfl rfl ?_
    refine g_iload (q := 88) C dX6_addFault_86 rfl rfl ?_
    obtain ⟨f2, o2⟩ := tyArr HJ80 (tyF6_3 hk)
    refine g_iastore (q := 89) C dX6_addFault_88 rfl o2 (by have k24 : (24 : Int32).toInt = 24 := (by decide); have k23 : (23 : Int32).toInt = 23 := (by decide); have k0 : (0 : Int32).toInt = 0 := (by decide); have k1 : (1 : Int32).toInt = 1 := (by decide); exact vp_in0 (by omega) (by omega)) ?_
    refine tyPa HJ80 (tyF6_3 hk) (tyWn hk (i := 0) (by decide)) o2 (fun h2 H2 => ?_)
    refine g_aload_n (q := 90) C dX6_addFault_89 rfl rfl ?_
    obtain ⟨x0_3, x1_3, x2_3, x6_3, x7_3, x8_3, x9_3, o3, e3_0⟩ := tyG6 H2 hk
    refine g_getfield (v := .ref ((o + 2))) (q := 93) C fX6_25 dX6_addFault_90 rfl o3 rfl ?_
    refine g_iload (q := 95) C dX6_addFault_93 rfl rfl ?_
    refine g_iload_n (q := 96) C dX6_addFault_95 rfl rfl ?_
    obtain ⟨f4, o4⟩ := tyArr H2 (tyF6_4 hk)
    refine g_iastore (q := 97) C dX6_addFault_96 rfl o4 (by have k24 : (24 : Int32).toInt = 24 := (by decide); have k23 : (23 : Int32).toInt = 23 := (by decide); have k0 : (0 : Int32).toInt = 0 := (by decide); have k1 : (1 : Int32).toInt = 1 := (by decide); exact vp_in0 (by omega) (by omega)) ?_
    refine tyPa H2 (tyF6_4 hk) (tyWn hk (i := 1) (by decide)) o4 (fun h4 H4 => ?_)
    refine g_aload_n (q := 98) C dX6_addFault_97 rfl rfl ?_
    obtain ⟨x0_5, x1_5, x2_5, x6_5, x7_5, x8_5, x9_5, o5, e5_0⟩ := tyG6 H4 hk
    refine g_getfield (v := .ref ((o + 3))) (q := 101) C fX6_28 dX6_addFault_98 rfl o5 rfl ?_
    refine g_iload (q := 103) C dX6_addFault_101 rfl rfl ?_
    refine g_iload_n (q := 104) C dX6_addFault_103 rfl rfl ?_
    obtain ⟨f6, o6⟩ := tyArr H4 (tyF6_5 hk)
    refine g_iastore (q := 105) C dX6_addFault_104 rfl o6 (by have k24 : (24 : Int32).toInt = 24 := (by decide); have k23 : (23 : Int32).toInt = 23 := (by decide); have k0 : (0 : Int32).toInt = 0 := (by decide); have k1 : (1 : Int32).toInt = 1 := (by decide); exact vp_in0 (by omega) (by omega)) ?_
    refine tyPa H4 (tyF6_5 hk) (tyWn hk (i := 2) (by decide)) o6 (fun h6 H6 => ?_)
    exact E.2.1 _ _ _ _ _ dX6_addFault_105 rfl (Nat.le_of_ble_eq_true rfl) (Nat.le_of_ble_eq_true rfl) ⟨rfl, H6⟩
  have J_74 : ∀ (y74_1 y74_2 y74_3 y74_4 y74_5 : Int32) (hJ74 : List gA) (v74_0 : ¬ y74_5.toInt < 0 ∧ y74_5.toInt < 24), tyS T R J Bc Bs M z hJ74 → gG X 74 [some (.ref o), some (.int y74_1), some (.int y74_2), some (.int y74_3), some (.int y74_4), some (.int y74_5)] [] hJ74 0 0 := by
    intro y74_1 y74_2 y74_3 y74_4 y74_5 hJ74 v74_0 HJ74
    refine g_aload_n (q := 75) C dX6_addFault_74 rfl rfl ?_
    refine g_iload (q := 77) C dX6_addFault_75 rfl rfl ?_
    obtain ⟨x0_7, x1_7, x2_7, x6_7, x7_7, x8_7, x9_7, o7, e7_0⟩ := tyG6 HJ74 hk
    refine g_callVvp (q := 80) (As := [.int y74_5]) C gyX6_makePlace gvX6_makePlace t_660 (tX6_makePlace HJ74 hk) dX6_addFault_77 rfl o7 rfl rfl rfl (Nat.le_of_ble_eq_true rfl) (Nat.le_of_ble_eq_true rfl) (Nat.le_of_ble_eq_true rfl) (Nat.le_of_ble_eq_true rfl) (Nat.le_of_ble_eq_true rfl) rfl (fun h8 q8 => ?_)
    have H8 := q8
    exact J_80 _ _ _ _ _ _ (by have k24 : (24 : Int32).toInt = 24 := (by decide); have k23 : (23 : Int32).toInt = 23 := (by decide); have k0 : (0 : Int32).toInt = 0 := (by decide); have k1 : (1 : Int32).toInt = 1 := (by decide); omega) H8
  have J_45 : ∀ (y45_1 y45_2 y45_3 y45_4 y45_5 : Int32) (hJ45 : List gA) (v45_0 : ¬ y45_5.toInt < 0), tyS T R J Bc Bs M z hJ45 → gG X 45 [some (.ref o), some (.int y45_1), some (.int y45_2), some (.int y45_3), some (.int y45_4), some (.int y45_5)] [] hJ45 0 0 := by
    intro y45_1 y45_2 y45_3 y45_4 y45_5 hJ45 v45_0 HJ45
    refine g_iload (q := 47) C dX6_addFault_45 rfl rfl ?_
    refine g_bipush (v := 24) (q := 49) C dX6_addFault_47 (by decide) rfl ?_
    refine g_icmp_lt (t := 53) (q := 52) C dX6_addFault_49 (by decide) rfl (fun c_49 => ?_) (fun c_49 => ?_)
    ·
      have i_49 := Int32.lt_iff_toInt_lt.mp c_49
      refine g_iload (q := 55) C dX6_addFault_53 rfl rfl ?_
      refine g_aload_n (q := 56) C dX6_addFault_55 rfl rfl ?_
      obtain ⟨x0_9, x1_9, x2_9, x6_9, x7_9, x8_9, x9_9, o9, e9_0⟩ := tyG6 HJ45 hk
      refine g_getfield (v := .int x6_9) (q := 59) C fX6_31 dX6_addFault_56 rfl o9 rfl ?_
      refine g_icmp_ge (t := 74) (q := 62) C dX6_addFault_59 (by decide) rfl (fun c_59 => ?_) (fun c_59 => ?_)
      ·
        have i_59 := Int32.le_iff_toInt_le.mp c_59
        exact J_74 _ _ _ _ _ _ (by have k24 : (24 : Int32).toInt = 24 := (by decide); have k23 : (23 : Int32).toInt = 23 := (by decide); have k0 : (0 : Int32).toInt = 0 := (by decide); have k1 : (1 : Int32).toInt = 1 := (by decide); omega) HJ45
      ·
        have i_59 := mt Int32.le_iff_toInt_le.mpr c_59
        refine g_aload_n (q := 63) C dX6_addFault_62 rfl rfl ?_
        refine g_getfield (v := .ref ((o + 1))) (q := 66) C fX6_21 dX6_addFault_63 rfl o9 rfl ?_
        refine g_iload (q := 68) C dX6_addFault_66 rfl rfl ?_
        obtain ⟨f10, o10⟩ := tyArr HJ45 (tyF6_3 hk)
        refine g_iaload (q := 69) C dX6_addFault_68 rfl o10 (by have k24 : (24 : Int32).toInt = 24 := (by decide); have k23 : (23 : Int32).toInt = 23 := (by decide); have k0 : (0 : Int32).toInt = 0 := (by decide); have k1 : (1 : Int32).toInt = 1 := (by decide); exact vp_in0 (by omega) (by omega)) ?_
        refine g_iload (q := 71) C dX6_addFault_69 rfl rfl ?_
        refine g_icmp_eq (t := 80) (q := 74) C dX6_addFault_71 (by decide) rfl (fun c_71 => ?_) (fun c_71 => ?_)
        ·
          exact J_80 _ _ _ _ _ _ (by have k24 : (24 : Int32).toInt = 24 := (by decide); have k23 : (23 : Int32).toInt = 23 := (by decide); have k0 : (0 : Int32).toInt = 0 := (by decide); have k1 : (1 : Int32).toInt = 1 := (by decide); omega) HJ45
        ·
          exact J_74 _ _ _ _ _ _ (by have k24 : (24 : Int32).toInt = 24 := (by decide); have k23 : (23 : Int32).toInt = 23 := (by decide); have k0 : (0 : Int32).toInt = 0 := (by decide); have k1 : (1 : Int32).toInt = 1 := (by decide); omega) HJ45
    ·
      have i_49 := mt Int32.lt_iff_toInt_lt.mpr c_49
      exact E.2.1 _ _ _ _ _ dX6_addFault_52 rfl (Nat.le_of_ble_eq_true rfl) (Nat.le_of_ble_eq_true rfl) ⟨rfl, HJ45⟩
  have J_11 : ∀ (d11 : Nat) (y11_1 y11_2 y11_3 y11_4 y11_5 : Int32) (hJ11 : List gA), (2147483647 - y11_5.toInt).toNat = d11 → ∀ (v11_0 : ¬ y11_5.toInt < 0), tyS T R J Bc Bs M z hJ11 → gG X 11 [some (.ref o), some (.int y11_1), some (.int y11_2), some (.int y11_3), some (.int y11_4), some (.int y11_5)] [] hJ11 0 0 := by
    intro d11
    induction d11 using Nat.strongRecOn with
    | _ d11 ih11 =>
    intro y11_1 y11_2 y11_3 y11_4 y11_5 hJ11 hd11 v11_0 HJ11
    refine g_iload (q := 13) C dX6_addFault_11 rfl rfl ?_
    refine g_aload_n (q := 14) C dX6_addFault_13 rfl rfl ?_
    obtain ⟨x0_11, x1_11, x2_11, x6_11, x7_11, x8_11, x9_11, o11, e11_0⟩ := tyG6 HJ11 hk
    refine g_getfield (v := .int x6_11) (q := 17) C fX6_31 dX6_addFault_14 rfl o11 rfl ?_
    refine g_icmp_ge (t := 45) (q := 20) C dX6_addFault_17 (by decide) rfl (fun c_17 => ?_) (fun c_17 => ?_)
    ·
      have i_17 := Int32.le_iff_toInt_le.mp c_17
      exact J_45 _ _ _ _ _ _ (by have k24 : (24 : Int32).toInt = 24 := (by decide); have k23 : (23 : Int32).toInt = 23 := (by decide); have k0 : (0 : Int32).toInt = 0 := (by decide); have k1 : (1 : Int32).toInt = 1 := (by decide); omega) HJ11
    ·
      have i_17 := mt Int32.le_iff_toInt_le.mpr c_17
      refine g_iload (q := 22) C dX6_addFault_20 rfl rfl ?_
      refine g_bipush (v := 24) (q := 24) C dX6_addFault_22 (by decide) rfl ?_
      refine g_icmp_ge (t := 45) (q := 27) C dX6_addFault_24 (by decide) rfl (fun c_24 => ?_) (fun c_24 => ?_)
      ·
        have i_24 := Int32.le_iff_toInt_le.mp c_24
        exact J_45 _ _ _ _ _ _ (by have k24 : (24 : Int32).toInt = 24 := (by decide); have k23 : (23 : Int32).toInt = 23 := (by decide); have k0 : (0 : Int32).toInt = 0 := (by decide); have k1 : (1 : Int32).toInt = 1 := (by decide); omega) HJ11
      ·
        have i_24 := mt Int32.le_iff_toInt_le.mpr c_24
        refine g_aload_n (q := 28) C dX6_addFault_27 rfl rfl ?_
        refine g_getfield (v := .ref ((o + 1))) (q := 31) C fX6_21 dX6_addFault_28 rfl o11 rfl ?_
        refine g_iload (q := 33) C dX6_addFault_31 rfl rfl ?_
        obtain ⟨f12, o12⟩ := tyArr HJ11 (tyF6_3 hk)
        refine g_iaload (q := 34) C dX6_addFault_33 rfl o12 (by have k24 : (24 : Int32).toInt = 24 := (by decide); have k23 : (23 : Int32).toInt = 23 := (by decide); have k0 : (0 : Int32).toInt = 0 := (by decide); have k1 : (1 : Int32).toInt = 1 := (by decide); exact vp_in0 (by omega) (by omega)) ?_
        refine g_iload (q := 36) C dX6_addFault_34 rfl rfl ?_
        refine g_icmp_ge (t := 45) (q := 39) C dX6_addFault_36 (by decide) rfl (fun c_36 => ?_) (fun c_36 => ?_)
        ·
          have i_36 := Int32.le_iff_toInt_le.mp c_36
          exact J_45 _ _ _ _ _ _ (by have k24 : (24 : Int32).toInt = 24 := (by decide); have k23 : (23 : Int32).toInt = 23 := (by decide); have k0 : (0 : Int32).toInt = 0 := (by decide); have k1 : (1 : Int32).toInt = 1 := (by decide); omega) HJ11
        ·
          have i_36 := mt Int32.le_iff_toInt_le.mpr c_36
          refine g_iinc (v := y11_5 + 1) (q := 42) C dX6_addFault_39 rfl rfl (by simp only [gset]; rfl) rfl ?_
          refine g_goto (q := 11) C dX6_addFault_42 (by decide) ?_
          exact ih11 _ (tyUp' hd11 c_17) _ _ _ _ _ _ rfl (by have k24 : (24 : Int32).toInt = 24 := (by decide); have k23 : (23 : Int32).toInt = 23 := (by decide); have k0 : (0 : Int32).toInt = 0 := (by decide); have k1 : (1 : Int32).toInt = 1 := (by decide); have ks := tyS1 (x := y11_5); omega) HJ11
  refine g_aload_n (q := 1) C dX6_addFault_0 rfl rfl ?_
  obtain ⟨x0_13, x1_13, x2_13, x6_13, x7_13, x8_13, x9_13, o13, e13_0⟩ := tyG6 H hk
  refine g_getfield (v := .int x1_13) (q := 4) C fX6_15 dX6_addFault_1 rfl o13 rfl ?_
  refine g_iload_n (q := 5) C dX6_addFault_4 rfl rfl ?_
  refine g_iadd (q := 6) C dX6_addFault_5 rfl ?_
  refine g_istore (q := 8) C dX6_addFault_6 (Nat.le_of_ble_eq_true rfl) (by simp only [gset]; rfl) rfl ?_
  refine g_iconst (v := 0) (q := 9) C dX6_addFault_8 (by decide) rfl ?_
  refine g_istore (q := 11) C dX6_addFault_9 (Nat.le_of_ble_eq_true rfl) (by simp only [gset]; rfl) rfl ?_
  exact J_11 _ _ _ _ _ _ _ rfl (by have k24 : (24 : Int32).toInt = 24 := (by decide); have k23 : (23 : Int32).toInt = 23 := (by decide); have k0 : (0 : Int32).toInt = 0 := (by decide); have k1 : (1 : Int32).toInt = 1 := (by decide); omega) H
theorem dX6_copy_0 : decode cX6_copy 0 = .ok (.aload_n 0, 1) := by decide +kernel
theorem dX6_copy_1 : decode cX6_copy 1 = .ok (.aload_n 1, 1) := by decide +kernel
theorem dX6_copy_2 : decode cX6_copy 2 = .ok (.getfield 9, 3) := by decide +kernel
theorem dX6_copy_5 : decode cX6_copy 5 = .ok (.putfield 9, 3) := by decide +kernel
theorem dX6_copy_8 : decode cX6_copy 8 = .ok (.aload_n 0, 1) := by decide +kernel
theorem dX6_copy_9 : decode cX6_copy 9 = .ok (.aload_n 1, 1) := by decide +kernel
theorem dX6_copy_10 : decode cX6_copy 10 = .ok (.getfield 15, 3) := by decide +kernel
theorem dX6_copy_13 : decode cX6_copy 13 = .ok (.putfield 15, 3) := by decide +kernel
theorem dX6_copy_16 : decode cX6_copy 16 = .ok (.aload_n 0, 1) := by decide +kernel
theorem dX6_copy_17 : decode cX6_copy 17 = .ok (.aload_n 1, 1) := by decide +kernel
theorem dX6_copy_18 : decode cX6_copy 18 = .ok (.getfield 18, 3) := by decide +kernel
theorem dX6_copy_21 : decode cX6_copy 21 = .ok (.putfield 18, 3) := by decide +kernel
theorem dX6_copy_24 : decode cX6_copy 24 = .ok (.aload_n 0, 1) := by decide +kernel
theorem dX6_copy_25 : decode cX6_copy 25 = .ok (.aload_n 1, 1) := by decide +kernel
theorem dX6_copy_26 : decode cX6_copy 26 = .ok (.getfield 31, 3) := by decide +kernel
theorem dX6_copy_29 : decode cX6_copy 29 = .ok (.putfield 31, 3) := by decide +kernel
theorem dX6_copy_32 : decode cX6_copy 32 = .ok (.iconst 0, 1) := by decide +kernel
theorem dX6_copy_33 : decode cX6_copy 33 = .ok (.istore_n 2, 1) := by decide +kernel
theorem dX6_copy_34 : decode cX6_copy 34 = .ok (.iload_n 2, 1) := by decide +kernel
theorem dX6_copy_35 : decode cX6_copy 35 = .ok (.aload_n 0, 1) := by decide +kernel
theorem dX6_copy_36 : decode cX6_copy 36 = .ok (.getfield 31, 3) := by decide +kernel
theorem dX6_copy_39 : decode cX6_copy 39 = .ok (.if_icmp .ge 51, 3) := by decide +kernel
theorem dX6_copy_42 : decode cX6_copy 42 = .ok (.iload_n 2, 1) := by decide +kernel
theorem dX6_copy_43 : decode cX6_copy 43 = .ok (.bipush 24, 2) := by decide +kernel
theorem dX6_copy_45 : decode cX6_copy 45 = .ok (.if_icmp .ge 45, 3) := by decide +kernel
theorem dX6_copy_48 : decode cX6_copy 48 = .ok (.aload_n 0, 1) := by decide +kernel
theorem dX6_copy_49 : decode cX6_copy 49 = .ok (.getfield 21, 3) := by decide +kernel
theorem dX6_copy_52 : decode cX6_copy 52 = .ok (.iload_n 2, 1) := by decide +kernel
theorem dX6_copy_53 : decode cX6_copy 53 = .ok (.aload_n 1, 1) := by decide +kernel
theorem dX6_copy_54 : decode cX6_copy 54 = .ok (.getfield 21, 3) := by decide +kernel
theorem dX6_copy_57 : decode cX6_copy 57 = .ok (.iload_n 2, 1) := by decide +kernel
theorem dX6_copy_58 : decode cX6_copy 58 = .ok (.iaload, 1) := by decide +kernel
theorem dX6_copy_59 : decode cX6_copy 59 = .ok (.iastore, 1) := by decide +kernel
theorem dX6_copy_60 : decode cX6_copy 60 = .ok (.aload_n 0, 1) := by decide +kernel
theorem dX6_copy_61 : decode cX6_copy 61 = .ok (.getfield 25, 3) := by decide +kernel
theorem dX6_copy_64 : decode cX6_copy 64 = .ok (.iload_n 2, 1) := by decide +kernel
theorem dX6_copy_65 : decode cX6_copy 65 = .ok (.aload_n 1, 1) := by decide +kernel
theorem dX6_copy_66 : decode cX6_copy 66 = .ok (.getfield 25, 3) := by decide +kernel
theorem dX6_copy_69 : decode cX6_copy 69 = .ok (.iload_n 2, 1) := by decide +kernel
theorem dX6_copy_70 : decode cX6_copy 70 = .ok (.iaload, 1) := by decide +kernel
theorem dX6_copy_71 : decode cX6_copy 71 = .ok (.iastore, 1) := by decide +kernel
theorem dX6_copy_72 : decode cX6_copy 72 = .ok (.aload_n 0, 1) := by decide +kernel
theorem dX6_copy_73 : decode cX6_copy 73 = .ok (.getfield 28, 3) := by decide +kernel
theorem dX6_copy_76 : decode cX6_copy 76 = .ok (.iload_n 2, 1) := by decide +kernel
theorem dX6_copy_77 : decode cX6_copy 77 = .ok (.aload_n 1, 1) := by decide +kernel
theorem dX6_copy_78 : decode cX6_copy 78 = .ok (.getfield 28, 3) := by decide +kernel
theorem dX6_copy_81 : decode cX6_copy 81 = .ok (.iload_n 2, 1) := by decide +kernel
theorem dX6_copy_82 : decode cX6_copy 82 = .ok (.iaload, 1) := by decide +kernel
theorem dX6_copy_83 : decode cX6_copy 83 = .ok (.iastore, 1) := by decide +kernel
theorem dX6_copy_84 : decode cX6_copy 84 = .ok (.iinc 2 1, 3) := by decide +kernel
theorem dX6_copy_87 : decode cX6_copy 87 = .ok (.goto (-53), 3) := by decide +kernel
theorem dX6_copy_90 : decode cX6_copy 90 = .ok (.aload_n 0, 1) := by decide +kernel
theorem dX6_copy_91 : decode cX6_copy 91 = .ok (.aload_n 1, 1) := by decide +kernel
theorem dX6_copy_92 : decode cX6_copy 92 = .ok (.getfield 34, 3) := by decide +kernel
theorem dX6_copy_95 : decode cX6_copy 95 = .ok (.putfield 34, 3) := by decide +kernel
theorem dX6_copy_98 : decode cX6_copy 98 = .ok (.aload_n 0, 1) := by decide +kernel
theorem dX6_copy_99 : decode cX6_copy 99 = .ok (.aload_n 1, 1) := by decide +kernel
theorem dX6_copy_100 : decode cX6_copy 100 = .ok (.getfield 37, 3) := by decide +kernel
theorem dX6_copy_103 : decode cX6_copy 103 = .ok (.putfield 37, 3) := by decide +kernel
theorem dX6_copy_106 : decode cX6_copy 106 = .ok (.return_, 1) := by decide +kernel
set_option maxRecDepth 100000 in
set_option maxHeartbeats 4000000 in
theorem tX6_copy {T : tyT} {R : Nat} {J : Nat → Prop} {Bc Bs : Nat} {M : gMd} {z : Nat → Nat} {hp : List gA} {o : Nat} {a0 : Nat}  (H : tyS T R J Bc Bs M z hp) (hk : tyK o = (6, 0)) (hk0 : tyK a0 = (6, 0)) (h35 : ¬ o = 35) : gM yX6_copy cX6_copy 3 (none) 0 0 [.ref o, .ref a0] (hp) (0) (0) (fun v h => v = none ∧ tyS T R J Bc Bs M z h) := by
  refine gM_of (ls0 := [some (.ref o), some (.ref a0), none]) (by decide +kernel) (Nat.le_of_ble_eq_true rfl) rfl fun X C E => ?_
  have J_90 : ∀ (y90_2 : Int32) (hJ90 : List gA), tyS T R J Bc Bs M z hJ90 → gG X 90 [some (.ref o), some (.ref a0), some (.int y90_2)] [] hJ90 0 0 := by
    intro y90_2 hJ90 HJ90
    refine g_aload_n (q := 91) C dX6_copy_90 rfl rfl ?_
    refine g_aload_n (q := 92) C dX6_copy_91 rfl rfl ?_
    obtain ⟨x0_1, x1_1, x2_1, x6_1, x7_1, x8_1, x9_1, o1, e1_0⟩ := tyG6 HJ90 hk0
    refine g_getfield (v := .int x7_1) (q := 95) C fX6_34 dX6_copy_92 rfl o1 rfl ?_
    obtain ⟨x0_2, x1_2, x2_2, x6_2, x7_2, x8_2, x9_2, o2, e2_0⟩ := tyG6 HJ90 hk
    refine g_putfield (q := 98) C fX6_34 dX6_copy_95 rfl o2 (Nat.le_of_ble_eq_true rfl) (Or.inl rfl) rfl rfl (by intro z h; cases h) ?_
    refine tyP6 HJ90 hk rfl e2_0 (fun h3 _ _ H3 => ?_)
    refine g_aload_n (q := 99) C dX6_copy_98 rfl rfl ?_
    refine g_aload_n (q := 100) C dX6_copy_99 rfl rfl ?_
    obtain ⟨x0_4, x1_4, x2_4, x6_4, x7_4, x8_4, x9_4, o4, e4_0⟩ := tyG6 H3 hk0
    refine g_getfield (v := .int x8_4) (q := 103) C fX6_37 dX6_copy_100 rfl o4 rfl ?_
    obtain ⟨x0_5, x1_5, x2_5, x6_5, x7_5, x8_5, x9_5, o5, e5_0⟩ := tyG6 H3 hk
    refine g_putfield (q := 106) C fX6_37 dX6_copy_103 rfl o5 (Nat.le_of_ble_eq_true rfl) (Or.inl rfl) rfl rfl (by intro z h; cases h) ?_
    refine tyP6 H3 hk rfl e5_0 (fun h6 _ _ H6 => ?_)
    exact E.2.1 _ _ _ _ _ dX6_copy_106 rfl (Nat.le_of_ble_eq_true rfl) (Nat.le_of_ble_eq_true rfl) ⟨rfl, H6⟩
  have J_34 : ∀ (d34 : Nat) (y34_2 : Int32) (hJ34 : List gA), (2147483647 - y34_2.toInt).toNat = d34 → ∀ (v34_0 : ¬ y34_2.toInt < 0), tyS T R J Bc Bs M z hJ34 → gG X 34 [some (.ref o), some (.ref a0), some (.int y34_2)] [] hJ34 0 0 := by
    intro d34
    induction d34 using Nat.strongRecOn with
    | _ d34 ih34 =>
    intro y34_2 hJ34 hd34 v34_0 HJ34
    refine g_iload_n (q := 35) C dX6_copy_34 rfl rfl ?_
    refine g_aload_n (q := 36) C dX6_copy_35 rfl rfl ?_
    obtain ⟨x0_7, x1_7, x2_7, x6_7, x7_7, x8_7, x9_7, o7, e7_0⟩ := tyG6 HJ34 hk
    refine g_getfield (v := .int x6_7) (q := 39) C fX6_31 dX6_copy_36 rfl o7 rfl ?_
    refine g_icmp_ge (t := 90) (q := 42) C dX6_copy_39 (by decide) rfl (fun c_39 => ?_) (fun c_39 => ?_)
    ·
      have i_39 := Int32.le_iff_toInt_le.mp c_39
      exact J_90 _ _  HJ34
    ·
      have i_39 := mt Int32.le_iff_toInt_le.mpr c_39
      refine g_iload_n (q := 43) C dX6_copy_42 rfl rfl ?_
      refine g_bipush (v := 24) (q := 45) C dX6_copy_43 (by decide) rfl ?_
      refine g_icmp_ge (t := 90) (q := 48) C dX6_copy_45 (by decide) rfl (fun c_45 => ?_) (fun c_45 => ?_)
      ·
        have i_45 := Int32.le_iff_toInt_le.mp c_45
        exact J_90 _ _  HJ34
      ·
        have i_45 := mt Int32.le_iff_toInt_le.mpr c_45
        refine g_aload_n (q := 49) C dX6_copy_48 rfl rfl ?_
        refine g_getfield (v := .ref ((o + 1))) (q := 52) C fX6_21 dX6_copy_49 rfl o7 rfl ?_
        refine g_iload_n (q := 53) C dX6_copy_52 rfl rfl ?_
        refine g_aload_n (q := 54) C dX6_copy_53 rfl rfl ?_
        obtain ⟨x0_8, x1_8, x2_8, x6_8, x7_8, x8_8, x9_8, o8, e8_0⟩ := tyG6 HJ34 hk0
        refine g_getfield (v := .ref ((a0 + 1))) (q := 57) C fX6_21 dX6_copy_54 rfl o8 rfl ?_
        refine g_iload_n (q := 58) C dX6_copy_57 rfl rfl ?_
        obtain ⟨f9, o9⟩ := tyArr HJ34 (tyF6_3 hk0)
        refine g_iaload (q := 59) C dX6_copy_58 rfl o9 (by have k24 : (24 : Int32).toInt = 24 := (by decide); have k23 : (23 : Int32).toInt = 23 := (by decide); have k0 : (0 : Int32).toInt = 0 := (by decide); have k1 : (1 : Int32).toInt = 1 := (by decide); exact vp_in0 (by omega) (by omega)) ?_
        obtain ⟨f10, o10⟩ := tyArr HJ34 (tyF6_3 hk)
        refine g_iastore (q := 60) C dX6_copy_59 rfl o10 (by have k24 : (24 : Int32).toInt = 24 := (by decide); have k23 : (23 : Int32).toInt = 23 := (by decide); have k0 : (0 : Int32).toInt = 0 := (by decide); have k1 : (1 : Int32).toInt = 1 := (by decide); exact vp_in0 (by omega) (by omega)) ?_
        refine tyPa HJ34 (tyF6_3 hk) (tyWn hk (i := 0) (by decide)) o10 (fun h10 H10 => ?_)
        refine g_aload_n (q := 61) C dX6_copy_60 rfl rfl ?_
        obtain ⟨x0_11, x1_11, x2_11, x6_11, x7_11, x8_11, x9_11, o11, e11_0⟩ := tyG6 H10 hk
        refine g_getfield (v := .ref ((o + 2))) (q := 64) C fX6_25 dX6_copy_61 rfl o11 rfl ?_
        refine g_iload_n (q := 65) C dX6_copy_64 rfl rfl ?_
        refine g_aload_n (q := 66) C dX6_copy_65 rfl rfl ?_
        obtain ⟨x0_12, x1_12, x2_12, x6_12, x7_12, x8_12, x9_12, o12, e12_0⟩ := tyG6 H10 hk0
        refine g_getfield (v := .ref ((a0 + 2))) (q := 69) C fX6_25 dX6_copy_66 rfl o12 rfl ?_
        refine g_iload_n (q := 70) C dX6_copy_69 rfl rfl ?_
        obtain ⟨f13, o13⟩ := tyArr H10 (tyF6_4 hk0)
        refine g_iaload (q := 71) C dX6_copy_70 rfl o13 (by have k24 : (24 : Int32).toInt = 24 := (by decide); have k23 : (23 : Int32).toInt = 23 := (by decide); have k0 : (0 : Int32).toInt = 0 := (by decide); have k1 : (1 : Int32).toInt = 1 := (by decide); exact vp_in0 (by omega) (by omega)) ?_
        obtain ⟨f14, o14⟩ := tyArr H10 (tyF6_4 hk)
        refine g_iastore (q := 72) C dX6_copy_71 rfl o14 (by have k24 : (24 : Int32).toInt = 24 := (by decide); have k23 : (23 : Int32).toInt = 23 := (by decide); have k0 : (0 : Int32).toInt = 0 := (by decide); have k1 : (1 : Int32).toInt = 1 := (by decide); exact vp_in0 (by omega) (by omega)) ?_
        refine tyPa H10 (tyF6_4 hk) (tyWn hk (i := 1) (by decide)) o14 (fun h14 H14 => ?_)
        refine g_aload_n (q := 73) C dX6_copy_72 rfl rfl ?_
        obtain ⟨x0_15, x1_15, x2_15, x6_15, x7_15, x8_15, x9_15, o15, e15_0⟩ := tyG6 H14 hk
        refine g_getfield (v := .ref ((o + 3))) (q := 76) C fX6_28 dX6_copy_73 rfl o15 rfl ?_
        refine g_iload_n (q := 77) C dX6_copy_76 rfl rfl ?_
        refine g_aload_n (q := 78) C dX6_copy_77 rfl rfl ?_
        obtain ⟨x0_16, x1_16, x2_16, x6_16, x7_16, x8_16, x9_16, o16, e16_0⟩ := tyG6 H14 hk0
        refine g_getfield (v := .ref ((a0 + 3))) (q := 81) C fX6_28 dX6_copy_78 rfl o16 rfl ?_
        refine g_iload_n (q := 82) C dX6_copy_81 rfl rfl ?_
        obtain ⟨f17, o17⟩ := tyArr H14 (tyF6_5 hk0)
        refine g_iaload (q := 83) C dX6_copy_82 rfl o17 (by have k24 : (24 : Int32).toInt = 24 := (by decide); have k23 : (23 : Int32).toInt = 23 := (by decide); have k0 : (0 : Int32).toInt = 0 := (by decide); have k1 : (1 : Int32).toInt = 1 := (by decide); exact vp_in0 (by omega) (by omega)) ?_
        obtain ⟨f18, o18⟩ := tyArr H14 (tyF6_5 hk)
        refine g_iastore (q := 84) C dX6_copy_83 rfl o18 (by have k24 : (24 : Int32).toInt = 24 := (by decide); have k23 : (23 : Int32).toInt = 23 := (by decide); have k0 : (0 : Int32).toInt = 0 := (by decide); have k1 : (1 : Int32).toInt = 1 := (by decide); exact vp_in0 (by omega) (by omega)) ?_
        refine tyPa H14 (tyF6_5 hk) (tyWn hk (i := 2) (by decide)) o18 (fun h18 H18 => ?_)
        refine g_iinc (v := y34_2 + 1) (q := 87) C dX6_copy_84 rfl rfl (by simp only [gset]; rfl) rfl ?_
        refine g_goto (q := 34) C dX6_copy_87 (by decide) ?_
        exact ih34 _ (tyUp' hd34 c_39) _ _ rfl (by have k24 : (24 : Int32).toInt = 24 := (by decide); have k23 : (23 : Int32).toInt = 23 := (by decide); have k0 : (0 : Int32).toInt = 0 := (by decide); have k1 : (1 : Int32).toInt = 1 := (by decide); have ks := tyS1 (x := y34_2); omega) H18
  refine g_aload_n (q := 1) C dX6_copy_0 rfl rfl ?_
  refine g_aload_n (q := 2) C dX6_copy_1 rfl rfl ?_
  obtain ⟨x0_19, x1_19, x2_19, x6_19, x7_19, x8_19, x9_19, o19, e19_0⟩ := tyG6 H hk0
  refine g_getfield (v := .int x0_19) (q := 5) C fX6_9 dX6_copy_2 rfl o19 rfl ?_
  obtain ⟨x0_20, x1_20, x2_20, x6_20, x7_20, x8_20, x9_20, o20, e20_0⟩ := tyG6 H hk
  refine g_putfield (q := 8) C fX6_9 dX6_copy_5 rfl o20 (Nat.le_of_ble_eq_true rfl) (Or.inl rfl) rfl rfl (by intro z h; cases h) ?_
  refine tyP6 H hk rfl (fun e => absurd e h35) (fun h21 _ _ H21 => ?_)
  refine g_aload_n (q := 9) C dX6_copy_8 rfl rfl ?_
  refine g_aload_n (q := 10) C dX6_copy_9 rfl rfl ?_
  obtain ⟨x0_22, x1_22, x2_22, x6_22, x7_22, x8_22, x9_22, o22, e22_0⟩ := tyG6 H21 hk0
  refine g_getfield (v := .int x1_22) (q := 13) C fX6_15 dX6_copy_10 rfl o22 rfl ?_
  obtain ⟨x0_23, x1_23, x2_23, x6_23, x7_23, x8_23, x9_23, o23, e23_0⟩ := tyG6 H21 hk
  refine g_putfield (q := 16) C fX6_15 dX6_copy_13 rfl o23 (Nat.le_of_ble_eq_true rfl) (Or.inl rfl) rfl rfl (by intro z h; cases h) ?_
  refine tyP6 H21 hk rfl e23_0 (fun h24 _ _ H24 => ?_)
  refine g_aload_n (q := 17) C dX6_copy_16 rfl rfl ?_
  refine g_aload_n (q := 18) C dX6_copy_17 rfl rfl ?_
  obtain ⟨x0_25, x1_25, x2_25, x6_25, x7_25, x8_25, x9_25, o25, e25_0⟩ := tyG6 H24 hk0
  refine g_getfield (v := .int x2_25) (q := 21) C fX6_18 dX6_copy_18 rfl o25 rfl ?_
  obtain ⟨x0_26, x1_26, x2_26, x6_26, x7_26, x8_26, x9_26, o26, e26_0⟩ := tyG6 H24 hk
  refine g_putfield (q := 24) C fX6_18 dX6_copy_21 rfl o26 (Nat.le_of_ble_eq_true rfl) (Or.inl rfl) rfl rfl (by intro z h; cases h) ?_
  refine tyP6 H24 hk rfl e26_0 (fun h27 _ _ H27 => ?_)
  refine g_aload_n (q := 25) C dX6_copy_24 rfl rfl ?_
  refine g_aload_n (q := 26) C dX6_copy_25 rfl rfl ?_
  obtain ⟨x0_28, x1_28, x2_28, x6_28, x7_28, x8_28, x9_28, o28, e28_0⟩ := tyG6 H27 hk0
  refine g_getfield (v := .int x6_28) (q := 29) C fX6_31 dX6_copy_26 rfl o28 rfl ?_
  obtain ⟨x0_29, x1_29, x2_29, x6_29, x7_29, x8_29, x9_29, o29, e29_0⟩ := tyG6 H27 hk
  refine g_putfield (q := 32) C fX6_31 dX6_copy_29 rfl o29 (Nat.le_of_ble_eq_true rfl) (Or.inl rfl) rfl rfl (by intro z h; cases h) ?_
  refine tyP6 H27 hk rfl e29_0 (fun h30 _ _ H30 => ?_)
  refine g_iconst (v := 0) (q := 33) C dX6_copy_32 (by decide) rfl ?_
  refine g_istore_n (q := 34) C dX6_copy_33 (Nat.le_of_ble_eq_true rfl) (by simp only [gset]; rfl) rfl ?_
  exact J_34 _ _ _ rfl (by have k24 : (24 : Int32).toInt = 24 := (by decide); have k23 : (23 : Int32).toInt = 23 := (by decide); have k0 : (0 : Int32).toInt = 0 := (by decide); have k1 : (1 : Int32).toInt = 1 := (by decide); omega) H30
theorem dX6_carry_0 : decode cX6_carry 0 = .ok (.aload_n 2, 1) := by decide +kernel
theorem dX6_carry_1 : decode cX6_carry 1 = .ok (.iconst 0, 1) := by decide +kernel
theorem dX6_carry_2 : decode cX6_carry 2 = .ok (.invokevirtual 56, 3) := by decide +kernel
theorem dX6_carry_5 : decode cX6_carry 5 = .ok (.iconst 0, 1) := by decide +kernel
theorem dX6_carry_6 : decode cX6_carry 6 = .ok (.istore_n 3, 1) := by decide +kernel
theorem dX6_carry_7 : decode cX6_carry 7 = .ok (.iconst 0, 1) := by decide +kernel
theorem dX6_carry_8 : decode cX6_carry 8 = .ok (.istore 4, 2) := by decide +kernel
theorem dX6_carry_10 : decode cX6_carry 10 = .ok (.iload 4, 2) := by decide +kernel
theorem dX6_carry_12 : decode cX6_carry 12 = .ok (.aload_n 1, 1) := by decide +kernel
theorem dX6_carry_13 : decode cX6_carry 13 = .ok (.invokevirtual 61, 3) := by decide +kernel
theorem dX6_carry_16 : decode cX6_carry 16 = .ok (.if_icmp .ge 99, 3) := by decide +kernel
theorem dX6_carry_19 : decode cX6_carry 19 = .ok (.aload_n 0, 1) := by decide +kernel
theorem dX6_carry_20 : decode cX6_carry 20 = .ok (.invokevirtual 65, 3) := by decide +kernel
theorem dX6_carry_23 : decode cX6_carry 23 = .ok (.istore 5, 2) := by decide +kernel
theorem dX6_carry_25 : decode cX6_carry 25 = .ok (.iconst 0, 1) := by decide +kernel
theorem dX6_carry_26 : decode cX6_carry 26 = .ok (.istore 6, 2) := by decide +kernel
theorem dX6_carry_28 : decode cX6_carry 28 = .ok (.iload 6, 2) := by decide +kernel
theorem dX6_carry_30 : decode cX6_carry 30 = .ok (.aload_n 0, 1) := by decide +kernel
theorem dX6_carry_31 : decode cX6_carry 31 = .ok (.getfield 9, 3) := by decide +kernel
theorem dX6_carry_34 : decode cX6_carry 34 = .ok (.if_icmp .ge 31, 3) := by decide +kernel
theorem dX6_carry_37 : decode cX6_carry 37 = .ok (.iload 5, 2) := by decide +kernel
theorem dX6_carry_39 : decode cX6_carry 39 = .ok (.iconst 1, 1) := by decide +kernel
theorem dX6_carry_40 : decode cX6_carry 40 = .ok (.if_icmp .ne 25, 3) := by decide +kernel
theorem dX6_carry_43 : decode cX6_carry 43 = .ok (.aload_n 0, 1) := by decide +kernel
theorem dX6_carry_44 : decode cX6_carry 44 = .ok (.dup, 1) := by decide +kernel
theorem dX6_carry_45 : decode cX6_carry 45 = .ok (.getfield 18, 3) := by decide +kernel
theorem dX6_carry_48 : decode cX6_carry 48 = .ok (.iconst 1, 1) := by decide +kernel
theorem dX6_carry_49 : decode cX6_carry 49 = .ok (.iadd, 1) := by decide +kernel
theorem dX6_carry_50 : decode cX6_carry 50 = .ok (.putfield 18, 3) := by decide +kernel
theorem dX6_carry_53 : decode cX6_carry 53 = .ok (.aload_n 0, 1) := by decide +kernel
theorem dX6_carry_54 : decode cX6_carry 54 = .ok (.invokevirtual 65, 3) := by decide +kernel
theorem dX6_carry_57 : decode cX6_carry 57 = .ok (.istore 5, 2) := by decide +kernel
theorem dX6_carry_59 : decode cX6_carry 59 = .ok (.iinc 6 1, 3) := by decide +kernel
theorem dX6_carry_62 : decode cX6_carry 62 = .ok (.goto (-34), 3) := by decide +kernel
theorem dX6_carry_65 : decode cX6_carry 65 = .ok (.iload 5, 2) := by decide +kernel
theorem dX6_carry_67 : decode cX6_carry 67 = .ok (.iconst 1, 1) := by decide +kernel
theorem dX6_carry_68 : decode cX6_carry 68 = .ok (.if_icmp .ne 5, 3) := by decide +kernel
theorem dX6_carry_71 : decode cX6_carry 71 = .ok (.iconst 1, 1) := by decide +kernel
theorem dX6_carry_72 : decode cX6_carry 72 = .ok (.istore_n 3, 1) := by decide +kernel
theorem dX6_carry_73 : decode cX6_carry 73 = .ok (.iload 5, 2) := by decide +kernel
theorem dX6_carry_75 : decode cX6_carry 75 = .ok (.iconst 3, 1) := by decide +kernel
theorem dX6_carry_76 : decode cX6_carry 76 = .ok (.if_icmp .eq 33, 3) := by decide +kernel
theorem dX6_carry_79 : decode cX6_carry 79 = .ok (.aload_n 2, 1) := by decide +kernel
theorem dX6_carry_80 : decode cX6_carry 80 = .ok (.iload 5, 2) := by decide +kernel
theorem dX6_carry_82 : decode cX6_carry 82 = .ok (.iconst 2, 1) := by decide +kernel
theorem dX6_carry_83 : decode cX6_carry 83 = .ok (.if_icmp .ne 17, 3) := by decide +kernel
theorem dX6_carry_86 : decode cX6_carry 86 = .ok (.aload_n 1, 1) := by decide +kernel
theorem dX6_carry_87 : decode cX6_carry 87 = .ok (.iload 4, 2) := by decide +kernel
theorem dX6_carry_89 : decode cX6_carry 89 = .ok (.invokevirtual 68, 3) := by decide +kernel
theorem dX6_carry_92 : decode cX6_carry 92 = .ok (.aload_n 0, 1) := by decide +kernel
theorem dX6_carry_93 : decode cX6_carry 93 = .ok (.getfield 40, 3) := by decide +kernel
theorem dX6_carry_96 : decode cX6_carry 96 = .ok (.ixor, 1) := by decide +kernel
theorem dX6_carry_97 : decode cX6_carry 97 = .ok (.goto 9, 3) := by decide +kernel
theorem dX6_carry_100 : decode cX6_carry 100 = .ok (.aload_n 1, 1) := by decide +kernel
theorem dX6_carry_101 : decode cX6_carry 101 = .ok (.iload 4, 2) := by decide +kernel
theorem dX6_carry_103 : decode cX6_carry 103 = .ok (.invokevirtual 68, 3) := by decide +kernel
theorem dX6_carry_106 : decode cX6_carry 106 = .ok (.invokevirtual 72, 3) := by decide +kernel
theorem dX6_carry_109 : decode cX6_carry 109 = .ok (.iinc 4 1, 3) := by decide +kernel
theorem dX6_carry_112 : decode cX6_carry 112 = .ok (.goto (-102), 3) := by decide +kernel
theorem dX6_carry_115 : decode cX6_carry 115 = .ok (.aload_n 2, 1) := by decide +kernel
theorem dX6_carry_116 : decode cX6_carry 116 = .ok (.invokevirtual 61, 3) := by decide +kernel
theorem dX6_carry_119 : decode cX6_carry 119 = .ok (.ifCond .ne 5, 3) := by decide +kernel
theorem dX6_carry_122 : decode cX6_carry 122 = .ok (.iconst 3, 1) := by decide +kernel
theorem dX6_carry_123 : decode cX6_carry 123 = .ok (.ireturn, 1) := by decide +kernel
theorem dX6_carry_124 : decode cX6_carry 124 = .ok (.aload_n 2, 1) := by decide +kernel
theorem dX6_carry_125 : decode cX6_carry 125 = .ok (.invokevirtual 61, 3) := by decide +kernel
theorem dX6_carry_128 : decode cX6_carry 128 = .ok (.aload_n 1, 1) := by decide +kernel
theorem dX6_carry_129 : decode cX6_carry 129 = .ok (.invokevirtual 61, 3) := by decide +kernel
theorem dX6_carry_132 : decode cX6_carry 132 = .ok (.if_icmp .ge 5, 3) := by decide +kernel
theorem dX6_carry_135 : decode cX6_carry 135 = .ok (.iconst 2, 1) := by decide +kernel
theorem dX6_carry_136 : decode cX6_carry 136 = .ok (.ireturn, 1) := by decide +kernel
theorem dX6_carry_137 : decode cX6_carry 137 = .ok (.iload_n 3, 1) := by decide +kernel
theorem dX6_carry_138 : decode cX6_carry 138 = .ok (.ifCond .eq 7, 3) := by decide +kernel
theorem dX6_carry_141 : decode cX6_carry 141 = .ok (.iconst 1, 1) := by decide +kernel
theorem dX6_carry_142 : decode cX6_carry 142 = .ok (.goto 4, 3) := by decide +kernel
theorem dX6_carry_145 : decode cX6_carry 145 = .ok (.iconst 0, 1) := by decide +kernel
theorem dX6_carry_146 : decode cX6_carry 146 = .ok (.ireturn, 1) := by decide +kernel
set_option maxRecDepth 100000 in
set_option maxHeartbeats 4000000 in
theorem tX6_carry {T : tyT} {R : Nat} {J : Nat → Prop} {Bc Bs : Nat} {M : gMd} {z : Nat → Nat} {hp : List gA} {o : Nat} {a0 m0 : Nat} {a1 m1 : Nat}  (H : tyS T R J Bc Bs M z hp) (hk : tyK o = (6, 0)) (hk0 : tyK a0 = (1, m0)) (hm_m0 : ¬ (m0 = 96 ∨ m0 = 15)) (hk1 : tyK a1 = (1, m1)) (hm_m1 : ¬ (m1 = 96 ∨ m1 = 15))  : gM yX6_carry cX6_carry 7 ((some .int)) 3 103 [.ref o, .ref a0, .ref a1] (hp) (0) (0) (fun v h => ∃ x, v = some (.int x) ∧ tyS T R J Bc Bs M z h) := by
  refine gM_of (ls0 := [some (.ref o), some (.ref a0), some (.ref a1), none, none, none, none]) (by decide +kernel) (Nat.le_of_ble_eq_true rfl) rfl fun X C E => ?_
  have J_10 : ∀ (d10 : Nat) (y10_3 y10_4 : Int32) (by10_3 : y10_3 = 0 ∨ y10_3 = 1) (hJ10 : List gA), (2147483647 - y10_4.toInt).toNat = d10 → ∀ (_ : True), tyS T R J Bc Bs M z hJ10 → gG X 10 [some (.ref o), some (.ref a0), some (.ref a1), some (.int y10_3), some (.int y10_4), none, none] [] hJ10 0 0 := by
    intro d10
    induction d10 using Nat.strongRecOn with
    | _ d10 ih10 =>
    intro y10_3 y10_4 by10_3 hJ10 hd10 _ HJ10
    have J_109 : ∀ (y109_3 y109_4 y109_5 y109_6 : Int32) (by109_3 : y109_3 = 0 ∨ y109_3 = 1) (hJ109 : List gA) (w109_10 : (2147483647 - (y109_4 + 1).toInt).toNat < d10), tyS T R J Bc Bs M z hJ109 → gG X 109 [some (.ref o), some (.ref a0), some (.ref a1), some (.int y109_3), some (.int y109_4), some (.int y109_5), some (.int y109_6)] [] hJ109 0 0 := by
      intro y109_3 y109_4 y109_5 y109_6 by109_3 hJ109 w109_10 HJ109
      refine g_iinc (v := y109_4 + 1) (q := 112) C dX6_carry_109 rfl rfl (by simp only [gset]; rfl) rfl ?_
      refine g_goto (q := 10) C dX6_carry_112 (by decide) ?_
      refine g_forget (ls' := [some (.ref o), some (.ref a0), some (.ref a1), some (.int y109_3), some (.int (y109_4 + 1)), none, none]) rfl (gfK (gfK (gfK (gfK (gfK (gfD (gfD gfN))))))) ?_
      exact ih10 _ w109_10 _ _ by109_3 _ rfl trivial HJ109
    have J_106 : ∀ (y106_3 y106_4 y106_5 y106_6 s106_0 : Int32) (by106_3 : y106_3 = 0 ∨ y106_3 = 1) (hJ106 : List gA) (w106_10 : (2147483647 - (y106_4 + 1).toInt).toNat < d10), tyS T R J Bc Bs M z hJ106 → gG X 106 [some (.ref o), some (.ref a0), some (.ref a1), some (.int y106_3), some (.int y106_4), some (.int y106_5), some (.int y106_6)] [.int s106_0, .ref a1] hJ106 0 0 := by
      intro y106_3 y106_4 y106_5 y106_6 s106_0 by106_3 hJ106 w106_10 HJ106
      obtain ⟨l1, g1, -⟩ := tyRow HJ106 hk1
      refine g_callVvp (q := 109) (As := [.int s106_0]) C gyX4_add gvX4_add t_843 (tX4_add HJ106 hk1 hm_m1) dX6_carry_106 rfl g1.obj rfl rfl rfl (Nat.le_of_ble_eq_true rfl) (Nat.le_of_ble_eq_true rfl) (Nat.le_of_ble_eq_true rfl) (Nat.le_of_ble_eq_true rfl) (Nat.le_of_ble_eq_true rfl) rfl (fun h2 q2 => ?_)
      have H2 := q2
      exact J_109 _ _ _ _ by106_3 _ w106_10 H2
    have J_73 : ∀ (y73_3 y73_4 y73_5 y73_6 : Int32) (by73_3 : y73_3 = 0 ∨ y73_3 = 1) (hJ73 : List gA) (w73_10 : (2147483647 - (y73_4 + 1).toInt).toNat < d10), tyS T R J Bc Bs M z hJ73 → gG X 73 [some (.ref o), some (.ref a0), some (.ref a1), some (.int y73_3), some (.int y73_4), some (.int y73_5), some (.int y73_6)] [] hJ73 0 0 := by
      intro y73_3 y73_4 y73_5 y73_6 by73_3 hJ73 w73_10 HJ73
      refine g_iload (q := 75) C dX6_carry_73 rfl rfl ?_
      refine g_iconst (v := 3) (q := 76) C dX6_carry_75 (by decide) rfl ?_
      refine g_icmp_eq (t := 109) (q := 79) C dX6_carry_76 (by decide) rfl (fun c_76 => ?_) (fun c_76 => ?_)
      ·
        exact J_109 _ _ _ _ by73_3 _ w73_10 HJ73
      ·
        refine g_aload_n (q := 80) C dX6_carry_79 rfl rfl ?_
        refine g_iload (q := 82) C dX6_carry_80 rfl rfl ?_
        refine g_iconst (v := 2) (q := 83) C dX6_carry_82 (by decide) rfl ?_
        refine g_icmp_ne (t := 100) (q := 86) C dX6_carry_83 (by decide) rfl (fun c_83 => ?_) (fun c_83 => ?_)
        ·
          refine g_aload_n (q := 101) C dX6_carry_100 rfl rfl ?_
          refine g_iload (q := 103) C dX6_carry_101 rfl rfl ?_
          obtain ⟨l3, g3, -⟩ := tyRow HJ73 hk0
          refine g_callVip (q := 106) (As := [.int y73_4]) C gyX4_at gvX4_at t_842 (tX4_at HJ73 hk0) dX6_carry_103 rfl g3.obj rfl rfl rfl (Nat.le_of_ble_eq_true rfl) (Nat.le_of_ble_eq_true rfl) (Nat.le_of_ble_eq_true rfl) (Nat.le_of_ble_eq_true rfl) (Nat.le_of_ble_eq_true rfl) rfl (fun x4 h4 q4 => ?_)
          subst q4
          exact J_106 _ _ _ _ _ by73_3 _ w73_10 HJ73
        ·
          refine g_aload_n (q := 87) C dX6_carry_86 rfl rfl ?_
          refine g_iload (q := 89) C dX6_carry_87 rfl rfl ?_
          obtain ⟨l5, g5, -⟩ := tyRow HJ73 hk0
          refine g_callVip (q := 92) (As := [.int y73_4]) C gyX4_at gvX4_at t_842 (tX4_at HJ73 hk0) dX6_carry_89 rfl g5.obj rfl rfl rfl (Nat.le_of_ble_eq_true rfl) (Nat.le_of_ble_eq_true rfl) (Nat.le_of_ble_eq_true rfl) (Nat.le_of_ble_eq_true rfl) (Nat.le_of_ble_eq_true rfl) rfl (fun x6 h6 q6 => ?_)
          subst q6
          refine g_aload_n (q := 93) C dX6_carry_92 rfl rfl ?_
          obtain ⟨x0_7, x1_7, x2_7, x6_7, x7_7, x8_7, x9_7, o7, e7_0⟩ := tyG6 HJ73 hk
          refine g_getfield (v := .int x9_7) (q := 96) C fX6_40 dX6_carry_93 rfl o7 rfl ?_
          refine g_ixor (q := 97) C dX6_carry_96 rfl ?_
          refine g_goto (q := 106) C dX6_carry_97 (by decide) ?_
          exact J_106 _ _ _ _ _ by73_3 _ w73_10 HJ73
    have J_65 : ∀ (y65_3 y65_4 y65_5 y65_6 : Int32) (by65_3 : y65_3 = 0 ∨ y65_3 = 1) (hJ65 : List gA) (w65_10 : (2147483647 - (y65_4 + 1).toInt).toNat < d10), tyS T R J Bc Bs M z hJ65 → gG X 65 [some (.ref o), some (.ref a0), some (.ref a1), some (.int y65_3), some (.int y65_4), some (.int y65_5), some (.int y65_6)] [] hJ65 0 0 := by
      intro y65_3 y65_4 y65_5 y65_6 by65_3 hJ65 w65_10 HJ65
      refine g_iload (q := 67) C dX6_carry_65 rfl rfl ?_
      refine g_iconst (v := 1) (q := 68) C dX6_carry_67 (by decide) rfl ?_
      refine g_icmp_ne (t := 73) (q := 71) C dX6_carry_68 (by decide) rfl (fun c_68 => ?_) (fun c_68 => ?_)
      ·
        exact J_73 _ _ _ _ by65_3 _ w65_10 HJ65
      ·
        refine g_iconst (v := 1) (q := 72) C dX6_carry_71 (by decide) rfl ?_
        refine g_istore_n (q := 73) C dX6_carry_72 (Nat.le_of_ble_eq_true rfl) (by simp only [gset]; rfl) rfl ?_
        exact J_73 _ _ _ _ (Or.inr rfl) _ w65_10 HJ65
    have J_28 : ∀ (d28 : Nat) (y28_3 y28_4 y28_5 y28_6 : Int32) (by28_3 : y28_3 = 0 ∨ y28_3 = 1) (hJ28 : List gA), (2147483647 - y28_6.toInt).toNat = d28 → ∀ (w28_10 : (2147483647 - (y28_4 + 1).toInt).toNat < d10), tyS T R J Bc Bs M z hJ28 → gG X 28 [some (.ref o), some (.ref a0), some (.ref a1), some (.int y28_3), some (.int y28_4), some (.int y28_5), some (.int y28_6)] [] hJ28 0 0 := by
      intro d28
      induction d28 using Nat.strongRecOn with
      | _ d28 ih28 =>
      intro y28_3 y28_4 y28_5 y28_6 by28_3 hJ28 hd28 w28_10 HJ28
      refine g_iload (q := 30) C dX6_carry_28 rfl rfl ?_
      refine g_aload_n (q := 31) C dX6_carry_30 rfl rfl ?_
      obtain ⟨x0_8, x1_8, x2_8, x6_8, x7_8, x8_8, x9_8, o8, e8_0⟩ := tyG6 HJ28 hk
      refine g_getfield (v := .int x0_8) (q := 34) C fX6_9 dX6_carry_31 rfl o8 rfl ?_
      refine g_icmp_ge (t := 65) (q := 37) C dX6_carry_34 (by decide) rfl (fun c_34 => ?_) (fun c_34 => ?_)
      ·
        have i_34 := Int32.le_iff_toInt_le.mp c_34
        exact J_65 _ _ _ _ by28_3 _ w28_10 HJ28
      ·
        have i_34 := mt Int32.le_iff_toInt_le.mpr c_34
        refine g_iload (q := 39) C dX6_carry_37 rfl rfl ?_
        refine g_iconst (v := 1) (q := 40) C dX6_carry_39 (by decide) rfl ?_
        refine g_icmp_ne (t := 65) (q := 43) C dX6_carry_40 (by decide) rfl (fun c_40 => ?_) (fun c_40 => ?_)
        ·
          exact J_65 _ _ _ _ by28_3 _ w28_10 HJ28
        ·
          refine g_aload_n (q := 44) C dX6_carry_43 rfl rfl ?_
          refine g_dup (q := 45) C dX6_carry_44 rfl rfl ?_
          refine g_getfield (v := .int x2_8) (q := 48) C fX6_18 dX6_carry_45 rfl o8 rfl ?_
          refine g_iconst (v := 1) (q := 49) C dX6_carry_48 (by decide) rfl ?_
          refine g_iadd (q := 50) C dX6_carry_49 rfl ?_
          refine g_putfield (q := 53) C fX6_18 dX6_carry_50 rfl o8 (Nat.le_of_ble_eq_true rfl) (Or.inl rfl) rfl rfl (by intro z h; cases h) ?_
          refine tyP6 HJ28 hk rfl e8_0 (fun h9 _ _ H9 => ?_)
          refine g_aload_n (q := 54) C dX6_carry_53 rfl rfl ?_
          obtain ⟨x0_10, x1_10, x2_10, x6_10, x7_10, x8_10, x9_10, o10, e10_0⟩ := tyG6 H9 hk
          refine g_callVip (q := 57) (As := []) C gyX6_sendLetter gvX6_sendLetter t_834 (tX6_sendLetter H9 hk) dX6_carry_54 rfl o10 rfl rfl rfl (Nat.le_of_ble_eq_true rfl) (Nat.le_of_ble_eq_true rfl) (Nat.le_of_ble_eq_true rfl) (Nat.le_of_ble_eq_true rfl) (Nat.le_of_ble_eq_true rfl) rfl (fun x11 h11 q11 => ?_)
          have H11 := q11
          refine g_istore (q := 59) C dX6_carry_57 (Nat.le_of_ble_eq_true rfl) (by simp only [gset]; rfl) rfl ?_
          refine g_iinc (v := y28_6 + 1) (q := 62) C dX6_carry_59 rfl rfl (by simp only [gset]; rfl) rfl ?_
          refine g_goto (q := 28) C dX6_carry_62 (by decide) ?_
          exact ih28 _ (tyUp' hd28 c_34) _ _ _ _ by28_3 _ rfl w28_10 H11
    refine g_iload (q := 12) C dX6_carry_10 rfl rfl ?_
    refine g_aload_n (q := 13) C dX6_carry_12 rfl rfl ?_
    obtain ⟨l12, g12, -⟩ := tyRow HJ10 hk0
    refine g_callVip (q := 16) (As := []) C gyX4_size gvX4_size t_833 (tX4_size HJ10 hk0) dX6_carry_13 rfl g12.obj rfl rfl rfl (Nat.le_of_ble_eq_true rfl) (Nat.le_of_ble_eq_true rfl) (Nat.le_of_ble_eq_true rfl) (Nat.le_of_ble_eq_true rfl) (Nat.le_of_ble_eq_true rfl) rfl (fun x13 h13 q13 => ?_)
    subst q13
    refine g_icmp_ge (t := 115) (q := 19) C dX6_carry_16 (by decide) rfl (fun c_16 => ?_) (fun c_16 => ?_)
    ·
      have i_16 := Int32.le_iff_toInt_le.mp c_16
      refine g_aload_n (q := 116) C dX6_carry_115 rfl rfl ?_
      obtain ⟨l14, g14, -⟩ := tyRow HJ10 hk1
      refine g_callVip (q := 119) (As := []) C gyX4_size gvX4_size t_833 (tX4_size HJ10 hk1) dX6_carry_116 rfl g14.obj rfl rfl rfl (Nat.le_of_ble_eq_true rfl) (Nat.le_of_ble_eq_true rfl) (Nat.le_of_ble_eq_true rfl) (Nat.le_of_ble_eq_true rfl) (Nat.le_of_ble_eq_true rfl) rfl (fun x15 h15 q15 => ?_)
      subst q15
      refine g_if_ne (t := 124) (q := 122) C dX6_carry_119 (by decide) rfl (fun c_119 => ?_) (fun c_119 => ?_)
      ·
        refine g_aload_n (q := 125) C dX6_carry_124 rfl rfl ?_
        refine g_callVip (q := 128) (As := []) C gyX4_size gvX4_size t_833 (tX4_size HJ10 hk1) dX6_carry_125 rfl g14.obj rfl rfl rfl (Nat.le_of_ble_eq_true rfl) (Nat.le_of_ble_eq_true rfl) (Nat.le_of_ble_eq_true rfl) (Nat.le_of_ble_eq_true rfl) (Nat.le_of_ble_eq_true rfl) rfl (fun x16 h16 q16 => ?_)
        subst q16
        refine g_aload_n (q := 129) C dX6_carry_128 rfl rfl ?_
        refine g_callVip (q := 132) (As := []) C gyX4_size gvX4_size t_833 (tX4_size HJ10 hk0) dX6_carry_129 rfl g12.obj rfl rfl rfl (Nat.le_of_ble_eq_true rfl) (Nat.le_of_ble_eq_true rfl) (Nat.le_of_ble_eq_true rfl) (Nat.le_of_ble_eq_true rfl) (Nat.le_of_ble_eq_true rfl) rfl (fun x17 h17 q17 => ?_)
        subst q17
        refine g_icmp_ge (t := 137) (q := 135) C dX6_carry_132 (by decide) rfl (fun c_132 => ?_) (fun c_132 => ?_)
        ·
          have i_132 := Int32.le_iff_toInt_le.mp c_132
          refine g_iload_n (q := 138) C dX6_carry_137 rfl rfl ?_
          refine g_if_eq (t := 145) (q := 141) C dX6_carry_138 (by decide) rfl (fun c_138 => ?_) (fun c_138 => ?_)
          ·
            refine g_iconst (v := 0) (q := 146) C dX6_carry_145 (by decide) rfl ?_
            exact E.1 _ _ _ _ _ _ _ dX6_carry_146 rfl rfl (Nat.le_of_ble_eq_true rfl) (Nat.le_of_ble_eq_true rfl) ⟨_, rfl, HJ10⟩
          ·
            refine g_iconst (v := 1) (q := 142) C dX6_carry_141 (by decide) rfl ?_
            refine g_goto (q := 146) C dX6_carry_142 (by decide) ?_
            exact E.1 _ _ _ _ _ _ _ dX6_carry_146 rfl rfl (Nat.le_of_ble_eq_true rfl) (Nat.le_of_ble_eq_true rfl) ⟨_, rfl, HJ10⟩
        ·
          have i_132 := mt Int32.le_iff_toInt_le.mpr c_132
          refine g_iconst (v := 2) (q := 136) C dX6_carry_135 (by decide) rfl ?_
          exact E.1 _ _ _ _ _ _ _ dX6_carry_136 rfl rfl (Nat.le_of_ble_eq_true rfl) (Nat.le_of_ble_eq_true rfl) ⟨_, rfl, HJ10⟩
      ·
        refine g_iconst (v := 3) (q := 123) C dX6_carry_122 (by decide) rfl ?_
        exact E.1 _ _ _ _ _ _ _ dX6_carry_123 rfl rfl (Nat.le_of_ble_eq_true rfl) (Nat.le_of_ble_eq_true rfl) ⟨_, rfl, HJ10⟩
    ·
      have i_16 := mt Int32.le_iff_toInt_le.mpr c_16
      refine g_aload_n (q := 20) C dX6_carry_19 rfl rfl ?_
      obtain ⟨x0_18, x1_18, x2_18, x6_18, x7_18, x8_18, x9_18, o18, e18_0⟩ := tyG6 HJ10 hk
      refine g_callVip (q := 23) (As := []) C gyX6_sendLetter gvX6_sendLetter t_834 (tX6_sendLetter HJ10 hk) dX6_carry_20 rfl o18 rfl rfl rfl (Nat.le_of_ble_eq_true rfl) (Nat.le_of_ble_eq_true rfl) (Nat.le_of_ble_eq_true rfl) (Nat.le_of_ble_eq_true rfl) (Nat.le_of_ble_eq_true rfl) rfl (fun x19 h19 q19 => ?_)
      have H19 := q19
      refine g_istore (q := 25) C dX6_carry_23 (Nat.le_of_ble_eq_true rfl) (by simp only [gset]; rfl) rfl ?_
      refine g_iconst (v := 0) (q := 26) C dX6_carry_25 (by decide) rfl ?_
      refine g_istore (q := 28) C dX6_carry_26 (Nat.le_of_ble_eq_true rfl) (by simp only [gset]; rfl) rfl ?_
      exact J_28 _ _ _ _ _ by10_3 _ rfl (tyUp' hd10 c_16) H19
  refine g_aload_n (q := 1) C dX6_carry_0 rfl rfl ?_
  refine g_iconst (v := 0) (q := 2) C dX6_carry_1 (by decide) rfl ?_
  obtain ⟨l20, g20, -⟩ := tyRow H hk1
  refine g_callVvp (q := 5) (As := [.int 0]) C gyX4_keep gvX4_keep t_832 (tX4_keep H hk1 hm_m1) dX6_carry_2 rfl g20.obj rfl rfl rfl (Nat.le_of_ble_eq_true rfl) (Nat.le_of_ble_eq_true rfl) (Nat.le_of_ble_eq_true rfl) (Nat.le_of_ble_eq_true rfl) (Nat.le_of_ble_eq_true rfl) rfl (fun h21 q21 => ?_)
  have H21 := q21
  refine g_iconst (v := 0) (q := 6) C dX6_carry_5 (by decide) rfl ?_
  refine g_istore_n (q := 7) C dX6_carry_6 (Nat.le_of_ble_eq_true rfl) (by simp only [gset]; rfl) rfl ?_
  refine g_iconst (v := 0) (q := 8) C dX6_carry_7 (by decide) rfl ?_
  refine g_istore (q := 10) C dX6_carry_8 (Nat.le_of_ble_eq_true rfl) (by simp only [gset]; rfl) rfl ?_
  exact J_10 _ _ _ (Or.inl rfl) _ rfl trivial H21
