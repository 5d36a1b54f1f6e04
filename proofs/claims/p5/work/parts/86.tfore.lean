/-! THE FORECAST, THE RESET ANSWER BY SHAPE (by program: wip/p2t/m_tfore.py, gen6.py) -/
theorem dJ7_fill_53178_0 : decode cJ7_fill_53178 0 = .ok (.iconst 0, 1) := by decide +kernel
theorem dJ7_fill_53178_1 : decode cJ7_fill_53178 1 = .ok (.istore_n 2, 1) := by decide +kernel
theorem dJ7_fill_53178_2 : decode cJ7_fill_53178 2 = .ok (.aload_n 0, 1) := by decide +kernel
theorem dJ7_fill_53178_3 : decode cJ7_fill_53178 3 = .ok (.arraylength, 1) := by decide +kernel
theorem dJ7_fill_53178_4 : decode cJ7_fill_53178 4 = .ok (.istore_n 3, 1) := by decide +kernel
theorem dJ7_fill_53178_5 : decode cJ7_fill_53178 5 = .ok (.iload_n 2, 1) := by decide +kernel
theorem dJ7_fill_53178_6 : decode cJ7_fill_53178 6 = .ok (.iload_n 3, 1) := by decide +kernel
theorem dJ7_fill_53178_7 : decode cJ7_fill_53178 7 = .ok (.if_icmp .ge 13, 3) := by decide +kernel
theorem dJ7_fill_53178_10 : decode cJ7_fill_53178 10 = .ok (.aload_n 0, 1) := by decide +kernel
theorem dJ7_fill_53178_11 : decode cJ7_fill_53178 11 = .ok (.iload_n 2, 1) := by decide +kernel
theorem dJ7_fill_53178_12 : decode cJ7_fill_53178 12 = .ok (.iload_n 1, 1) := by decide +kernel
theorem dJ7_fill_53178_13 : decode cJ7_fill_53178 13 = .ok (.iastore, 1) := by decide +kernel
theorem dJ7_fill_53178_14 : decode cJ7_fill_53178 14 = .ok (.iinc 2 1, 3) := by decide +kernel
theorem dJ7_fill_53178_17 : decode cJ7_fill_53178 17 = .ok (.goto (-12), 3) := by decide +kernel
theorem dJ7_fill_53178_20 : decode cJ7_fill_53178 20 = .ok (.return_, 1) := by decide +kernel
set_option maxRecDepth 100000 in
set_option maxHeartbeats 4000000 in
theorem tJ7_fill_53178 {T : tyT} {R : Nat} {J : Nat → Prop} {Bc Bs : Nat} {M : gMd} {z : Nat → Nat} {hp : List gA} {a0 : Nat} {a1 : Int32}  (H : tyS T R J Bc Bs M z hp) (hk0 : tyK a0 = (2, 4)) (hno0 : ∀ q, q < 122 → (tyK q).1 = 1 ∨ (tyK q).1 = 4 → ¬ q + 1 = a0)  : gM yJ7_fill_53178 cJ7_fill_53178 4 (none) 0 0 [.ref a0, .int a1] (hp) (0) (0) (fun v h => v = none ∧ tyS T R J Bc Bs M z h) := by
  refine gM_of (ls0 := [some (.ref a0), some (.int a1), none, none]) (by decide +kernel) (Nat.le_of_ble_eq_true rfl) rfl fun X C E => ?_
  have J_5 : ∀ (d5 : Nat) (y5_1 y5_2 y5_3 : Int32) (hJ5 : List gA), (2147483647 - y5_2.toInt).toNat = d5 → ∀ (v5_0 : ¬ y5_2.toInt < 0) (v5_1 : y5_3.toInt = 4), tyS T R J Bc Bs M z hJ5 → gG X 5 [some (.ref a0), some (.int y5_1), some (.int y5_2), some (.int y5_3)] [] hJ5 0 0 := by
    intro d5
    induction d5 using Nat.strongRecOn with
    | _ d5 ih5 =>
    intro y5_1 y5_2 y5_3 hJ5 hd5 v5_0 v5_1 HJ5
    refine g_iload_n (q := 6) C dJ7_fill_53178_5 rfl rfl ?_
    refine g_iload_n (q := 7) C dJ7_fill_53178_6 rfl rfl ?_
    refine g_icmp_ge (t := 20) (q := 10) C dJ7_fill_53178_7 (by decide) rfl (fun c_7 => ?_) (fun c_7 => ?_)
    ·
      have i_7 := Int32.le_iff_toInt_le.mp c_7
      exact E.2.1 _ _ _ _ _ dJ7_fill_53178_20 rfl (Nat.le_of_ble_eq_true rfl) (Nat.le_of_ble_eq_true rfl) ⟨rfl, HJ5⟩
    ·
      have i_7 := mt Int32.le_iff_toInt_le.mpr c_7
      refine g_aload_n (q := 11) C dJ7_fill_53178_10 rfl rfl ?_
      refine g_iload_n (q := 12) C dJ7_fill_53178_11 rfl rfl ?_
      refine g_iload_n (q := 13) C dJ7_fill_53178_12 rfl rfl ?_
      obtain ⟨f1, o1⟩ := tyArr HJ5 hk0
      refine g_iastore (q := 14) C dJ7_fill_53178_13 rfl o1 (by have k0 : (0 : Int32).toInt = 0 := (by decide); have k4 : (4 : Int32).toInt = 4 := (by decide); exact vp_in0 (by omega) (by omega)) ?_
      refine tyPa HJ5 hk0 hno0 o1 (fun h1 H1 => ?_)
      refine g_iinc (v := y5_2 + 1) (q := 17) C dJ7_fill_53178_14 rfl rfl (by simp only [gset]; rfl) rfl ?_
      refine g_goto (q := 5) C dJ7_fill_53178_17 (by decide) ?_
      exact ih5 _ (tyUp' hd5 c_7) _ _ _ _ rfl (by have k0 : (0 : Int32).toInt = 0 := (by decide); have k4 : (4 : Int32).toInt = 4 := (by decide); have ks := tyS1 (x := y5_2); omega) (by have k0 : (0 : Int32).toInt = 0 := (by decide); have k4 : (4 : Int32).toInt = 4 := (by decide); omega) H1
  refine g_iconst (v := 0) (q := 1) C dJ7_fill_53178_0 (by decide) rfl ?_
  refine g_istore_n (q := 2) C dJ7_fill_53178_1 (Nat.le_of_ble_eq_true rfl) (by simp only [gset]; rfl) rfl ?_
  refine g_aload_n (q := 3) C dJ7_fill_53178_2 rfl rfl ?_
  obtain ⟨f2, o2⟩ := tyArr H hk0
  refine g_arraylength (v := 4) (q := 4) C dJ7_fill_53178_3 rfl o2 (by decide) ?_
  refine g_istore_n (q := 5) C dJ7_fill_53178_4 (Nat.le_of_ble_eq_true rfl) (by simp only [gset]; rfl) rfl ?_
  exact J_5 _ _ _ _ _ rfl (by have k0 : (0 : Int32).toInt = 0 := (by decide); have k4 : (4 : Int32).toInt = 4 := (by decide); omega) (by have k0 : (0 : Int32).toInt = 0 := (by decide); have k4 : (4 : Int32).toInt = 4 := (by decide); omega) H
theorem dX0_forget_0 : decode cX0_forget 0 = .ok (.aload_n 0, 1) := by decide +kernel
theorem dX0_forget_1 : decode cX0_forget 1 = .ok (.iconst 0, 1) := by decide +kernel
theorem dX0_forget_2 : decode cX0_forget 2 = .ok (.putfield 26, 3) := by decide +kernel
theorem dX0_forget_5 : decode cX0_forget 5 = .ok (.aload_n 0, 1) := by decide +kernel
theorem dX0_forget_6 : decode cX0_forget 6 = .ok (.getfield 30, 3) := by decide +kernel
theorem dX0_forget_9 : decode cX0_forget 9 = .ok (.iconst 0, 1) := by decide +kernel
theorem dX0_forget_10 : decode cX0_forget 10 = .ok (.invokestatic 40, 3) := by decide +kernel
theorem dX0_forget_13 : decode cX0_forget 13 = .ok (.return_, 1) := by decide +kernel
set_option maxRecDepth 100000 in
set_option maxHeartbeats 4000000 in
theorem tX0_forget {T : tyT} {R : Nat} {J : Nat → Prop} {Bc Bs : Nat} {M : gMd} {z : Nat → Nat} {hp : List gA}  (H : tyS T R J Bc Bs M z hp)  : gM yX0_forget cX0_forget 1 (none) 1 23 [.ref 43] (hp) (0) (0) (fun v h => v = none ∧ tyS T R J Bc Bs M z h) := by
  refine gM_of (ls0 := [some (.ref 43)]) (by decide +kernel) (Nat.le_of_ble_eq_true rfl) rfl fun X C E => ?_
  refine g_aload_n (q := 1) C dX0_forget_0 rfl rfl ?_
  refine g_iconst (v := 0) (q := 2) C dX0_forget_1 (by decide) rfl ?_
  obtain ⟨x3_1, o1, e1_0⟩ := tyG0 H (rfl : tyK 43 = (8, 0))
  refine g_putfield (q := 5) C fX0_26 dX0_forget_2 rfl o1 (Nat.le_of_ble_eq_true rfl) (Or.inl rfl) (tyNar (Or.inl rfl)) (tyFit (Or.inl rfl)) (by intro z h; cases h) ?_
  refine tyP0 H (rfl : tyK 43 = (8, 0)) rfl (Or.inl rfl) (fun h2 _ _ H2 => ?_)
  refine g_aload_n (q := 6) C dX0_forget_5 rfl rfl ?_
  obtain ⟨x3_3, o3, e3_0⟩ := tyG0 H2 (rfl : tyK 43 = (8, 0))
  refine g_getfield (v := .ref 113) (q := 9) C fX0_30 dX0_forget_6 rfl o3 rfl ?_
  refine g_iconst (v := 0) (q := 10) C dX0_forget_9 (by decide) rfl ?_
  refine g_callSvp (q := 13) (As := [.ref 113, .int 0]) C gyJ7_fill_53178 t_592 t_591 (tJ7_fill_53178 H2 (rfl : tyK 113 = (2, 4)) (by decide +kernel)) dX0_forget_10 rfl rfl rfl (Nat.le_of_ble_eq_true rfl) (Nat.le_of_ble_eq_true rfl) (Nat.le_of_ble_eq_true rfl) (Nat.le_of_ble_eq_true rfl) (Nat.le_of_ble_eq_true rfl) rfl (fun h4 q4 => ?_)
  have H4 := q4
  exact E.2.1 _ _ _ _ _ dX0_forget_13 rfl (Nat.le_of_ble_eq_true rfl) (Nat.le_of_ble_eq_true rfl) ⟨rfl, H4⟩
theorem dX0_firstHarmful_0 : decode cX0_firstHarmful 0 = .ok (.iload_n 1, 1) := by decide +kernel
theorem dX0_firstHarmful_1 : decode cX0_firstHarmful 1 = .ok (.ifCond .lt 21, 3) := by decide +kernel
theorem dX0_firstHarmful_4 : decode cX0_firstHarmful 4 = .ok (.iload_n 1, 1) := by decide +kernel
theorem dX0_firstHarmful_5 : decode cX0_firstHarmful 5 = .ok (.aload_n 0, 1) := by decide +kernel
theorem dX0_firstHarmful_6 : decode cX0_firstHarmful 6 = .ok (.getfield 37, 3) := by decide +kernel
theorem dX0_firstHarmful_9 : decode cX0_firstHarmful 9 = .ok (.arraylength, 1) := by decide +kernel
theorem dX0_firstHarmful_10 : decode cX0_firstHarmful 10 = .ok (.if_icmp .ge 12, 3) := by decide +kernel
theorem dX0_firstHarmful_13 : decode cX0_firstHarmful 13 = .ok (.aload_n 0, 1) := by decide +kernel
theorem dX0_firstHarmful_14 : decode cX0_firstHarmful 14 = .ok (.getfield 37, 3) := by decide +kernel
theorem dX0_firstHarmful_17 : decode cX0_firstHarmful 17 = .ok (.iload_n 1, 1) := by decide +kernel
theorem dX0_firstHarmful_18 : decode cX0_firstHarmful 18 = .ok (.iaload, 1) := by decide +kernel
theorem dX0_firstHarmful_19 : decode cX0_firstHarmful 19 = .ok (.goto 4, 3) := by decide +kernel
theorem dX0_firstHarmful_22 : decode cX0_firstHarmful 22 = .ok (.iconst (-1), 1) := by decide +kernel
theorem dX0_firstHarmful_23 : decode cX0_firstHarmful 23 = .ok (.ireturn, 1) := by decide +kernel
set_option maxRecDepth 100000 in
set_option maxHeartbeats 4000000 in
theorem tX0_firstHarmful {T : tyT} {R : Nat} {J : Nat → Prop} {Bc Bs : Nat} {M : gMd} {z : Nat → Nat} {hp : List gA} {a0 : Int32}  (H : tyS T R J Bc Bs M z hp)  : gM yX0_firstHarmful cX0_firstHarmful 2 ((some .int)) 0 0 [.ref 43, .int a0] (hp) (0) (0) (fun v h => ∃ x, v = some (.int x) ∧ tyS T R J Bc Bs M z h) := by
  refine gM_of (ls0 := [some (.ref 43), some (.int a0)]) (by decide +kernel) (Nat.le_of_ble_eq_true rfl) rfl fun X C E => ?_
  have J_22 : ∀ (y22_1 : Int32) (hJ22 : List gA), tyS T R J Bc Bs M z hJ22 → gG X 22 [some (.ref 43), some (.int y22_1)] [] hJ22 0 0 := by
    intro y22_1 hJ22 HJ22
    refine g_iconst (v := (-1)) (q := 23) C dX0_firstHarmful_22 (by decide) rfl ?_
    exact E.1 _ _ _ _ _ _ _ dX0_firstHarmful_23 rfl rfl (Nat.le_of_ble_eq_true rfl) (Nat.le_of_ble_eq_true rfl) ⟨_, rfl, HJ22⟩
  refine g_iload_n (q := 1) C dX0_firstHarmful_0 rfl rfl ?_
  refine g_if_lt (t := 22) (q := 4) C dX0_firstHarmful_1 (by decide) rfl (fun c_1 => ?_) (fun c_1 => ?_)
  ·
    have i_1 := Int32.lt_iff_toInt_lt.mp c_1
    exact J_22 _ _  H
  ·
    have i_1 := mt Int32.lt_iff_toInt_lt.mpr c_1
    refine g_iload_n (q := 5) C dX0_firstHarmful_4 rfl rfl ?_
    refine g_aload_n (q := 6) C dX0_firstHarmful_5 rfl rfl ?_
    obtain ⟨x3_1, o1, e1_0⟩ := tyG0 H (rfl : tyK 43 = (8, 0))
    refine g_getfield (v := .ref 115) (q := 9) C fX0_37 dX0_firstHarmful_6 rfl o1 rfl ?_
    obtain ⟨f2, o2⟩ := tyArr H (rfl : tyK 115 = (2, 4))
    refine g_arraylength (v := 4) (q := 10) C dX0_firstHarmful_9 rfl o2 (by decide) ?_
    refine g_icmp_ge (t := 22) (q := 13) C dX0_firstHarmful_10 (by decide) rfl (fun c_10 => ?_) (fun c_10 => ?_)
    ·
      have i_10 := Int32.le_iff_toInt_le.mp c_10
      exact J_22 _ _  H
    ·
      have i_10 := mt Int32.le_iff_toInt_le.mpr c_10
      refine g_aload_n (q := 14) C dX0_firstHarmful_13 rfl rfl ?_
      refine g_getfield (v := .ref 115) (q := 17) C fX0_37 dX0_firstHarmful_14 rfl o1 rfl ?_
      refine g_iload_n (q := 18) C dX0_firstHarmful_17 rfl rfl ?_
      obtain ⟨f3, o3⟩ := tyArr H (rfl : tyK 115 = (2, 4))
      refine g_iaload (q := 19) C dX0_firstHarmful_18 rfl o3 (by have k0 : (0 : Int32).toInt = 0 := (by decide); have k4 : (4 : Int32).toInt = 4 := (by decide); exact vp_in0 (by omega) (by omega)) ?_
      refine g_goto (q := 23) C dX0_firstHarmful_19 (by decide) ?_
      exact E.1 _ _ _ _ _ _ _ dX0_firstHarmful_23 rfl rfl (Nat.le_of_ble_eq_true rfl) (Nat.le_of_ble_eq_true rfl) ⟨_, rfl, H⟩
theorem dX0_harmful_0 : decode cX0_harmful 0 = .ok (.iload_n 1, 1) := by decide +kernel
theorem dX0_harmful_1 : decode cX0_harmful 1 = .ok (.ifCond .lt 21, 3) := by decide +kernel
theorem dX0_harmful_4 : decode cX0_harmful 4 = .ok (.iload_n 1, 1) := by decide +kernel
theorem dX0_harmful_5 : decode cX0_harmful 5 = .ok (.aload_n 0, 1) := by decide +kernel
theorem dX0_harmful_6 : decode cX0_harmful 6 = .ok (.getfield 34, 3) := by decide +kernel
theorem dX0_harmful_9 : decode cX0_harmful 9 = .ok (.arraylength, 1) := by decide +kernel
theorem dX0_harmful_10 : decode cX0_harmful 10 = .ok (.if_icmp .ge 12, 3) := by decide +kernel
theorem dX0_harmful_13 : decode cX0_harmful 13 = .ok (.aload_n 0, 1) := by decide +kernel
theorem dX0_harmful_14 : decode cX0_harmful 14 = .ok (.getfield 34, 3) := by decide +kernel
theorem dX0_harmful_17 : decode cX0_harmful 17 = .ok (.iload_n 1, 1) := by decide +kernel
theorem dX0_harmful_18 : decode cX0_harmful 18 = .ok (.iaload, 1) := by decide +kernel
theorem dX0_harmful_19 : decode cX0_harmful 19 = .ok (.goto 4, 3) := by decide +kernel
theorem dX0_harmful_22 : decode cX0_harmful 22 = .ok (.iconst 0, 1) := by decide +kernel
theorem dX0_harmful_23 : decode cX0_harmful 23 = .ok (.ireturn, 1) := by decide +kernel
set_option maxRecDepth 100000 in
set_option maxHeartbeats 4000000 in
theorem tX0_harmful {T : tyT} {R : Nat} {J : Nat → Prop} {Bc Bs : Nat} {M : gMd} {z : Nat → Nat} {hp : List gA} {a0 : Int32}  (H : tyS T R J Bc Bs M z hp)  : gM yX0_harmful cX0_harmful 2 ((some .int)) 0 0 [.ref 43, .int a0] (hp) (0) (0) (fun v h => ∃ x, v = some (.int x) ∧ tyS T R J Bc Bs M z h) := by
  refine gM_of (ls0 := [some (.ref 43), some (.int a0)]) (by decide +kernel) (Nat.le_of_ble_eq_true rfl) rfl fun X C E => ?_
  have J_22 : ∀ (y22_1 : Int32) (hJ22 : List gA), tyS T R J Bc Bs M z hJ22 → gG X 22 [some (.ref 43), some (.int y22_1)] [] hJ22 0 0 := by
    intro y22_1 hJ22 HJ22
    refine g_iconst (v := 0) (q := 23) C dX0_harmful_22 (by decide) rfl ?_
    exact E.1 _ _ _ _ _ _ _ dX0_harmful_23 rfl rfl (Nat.le_of_ble_eq_true rfl) (Nat.le_of_ble_eq_true rfl) ⟨_, rfl, HJ22⟩
  refine g_iload_n (q := 1) C dX0_harmful_0 rfl rfl ?_
  refine g_if_lt (t := 22) (q := 4) C dX0_harmful_1 (by decide) rfl (fun c_1 => ?_) (fun c_1 => ?_)
  ·
    have i_1 := Int32.lt_iff_toInt_lt.mp c_1
    exact J_22 _ _  H
  ·
    have i_1 := mt Int32.lt_iff_toInt_lt.mpr c_1
    refine g_iload_n (q := 5) C dX0_harmful_4 rfl rfl ?_
    refine g_aload_n (q := 6) C dX0_harmful_5 rfl rfl ?_
    obtain ⟨x3_1, o1, e1_0⟩ := tyG0 H (rfl : tyK 43 = (8, 0))
    refine g_getfield (v := .ref 114) (q := 9) C fX0_34 dX0_harmful_6 rfl o1 rfl ?_
    obtain ⟨f2, o2⟩ := tyArr H (rfl : tyK 114 = (2, 4))
    refine g_arraylength (v := 4) (q := 10) C dX0_harmful_9 rfl o2 (by decide) ?_
    refine g_icmp_ge (t := 22) (q := 13) C dX0_harmful_10 (by decide) rfl (fun c_10 => ?_) (fun c_10 => ?_)
    ·
      have i_10 := Int32.le_iff_toInt_le.mp c_10
      exact J_22 _ _  H
    ·
      have i_10 := mt Int32.le_iff_toInt_le.mpr c_10
      refine g_aload_n (q := 14) C dX0_harmful_13 rfl rfl ?_
      refine g_getfield (v := .ref 114) (q := 17) C fX0_34 dX0_harmful_14 rfl o1 rfl ?_
      refine g_iload_n (q := 18) C dX0_harmful_17 rfl rfl ?_
      obtain ⟨f3, o3⟩ := tyArr H (rfl : tyK 114 = (2, 4))
      refine g_iaload (q := 19) C dX0_harmful_18 rfl o3 (by have k0 : (0 : Int32).toInt = 0 := (by decide); have k4 : (4 : Int32).toInt = 4 := (by decide); exact vp_in0 (by omega) (by omega)) ?_
      refine g_goto (q := 23) C dX0_harmful_19 (by decide) ?_
      exact E.1 _ _ _ _ _ _ _ dX0_harmful_23 rfl rfl (Nat.le_of_ble_eq_true rfl) (Nat.le_of_ble_eq_true rfl) ⟨_, rfl, H⟩
theorem dX0_forkIsHarmed_0 : decode cX0_forkIsHarmed 0 = .ok (.aload_n 0, 1) := by decide +kernel
theorem dX0_forkIsHarmed_1 : decode cX0_forkIsHarmed 1 = .ok (.getfield 23, 3) := by decide +kernel
theorem dX0_forkIsHarmed_4 : decode cX0_forkIsHarmed 4 = .ok (.getfield 50, 3) := by decide +kernel
theorem dX0_forkIsHarmed_7 : decode cX0_forkIsHarmed 7 = .ok (.iconst 2, 1) := by decide +kernel
theorem dX0_forkIsHarmed_8 : decode cX0_forkIsHarmed 8 = .ok (.if_icmp .ne 29, 3) := by decide +kernel
theorem dX0_forkIsHarmed_11 : decode cX0_forkIsHarmed 11 = .ok (.aload_n 0, 1) := by decide +kernel
theorem dX0_forkIsHarmed_12 : decode cX0_forkIsHarmed 12 = .ok (.getfield 23, 3) := by decide +kernel
theorem dX0_forkIsHarmed_15 : decode cX0_forkIsHarmed 15 = .ok (.getfield 74, 3) := by decide +kernel
theorem dX0_forkIsHarmed_18 : decode cX0_forkIsHarmed 18 = .ok (.getfield 78, 3) := by decide +kernel
theorem dX0_forkIsHarmed_21 : decode cX0_forkIsHarmed 21 = .ok (.aload_n 0, 1) := by decide +kernel
theorem dX0_forkIsHarmed_22 : decode cX0_forkIsHarmed 22 = .ok (.getfield 14, 3) := by decide +kernel
theorem dX0_forkIsHarmed_25 : decode cX0_forkIsHarmed 25 = .ok (.getfield 74, 3) := by decide +kernel
theorem dX0_forkIsHarmed_28 : decode cX0_forkIsHarmed 28 = .ok (.getfield 78, 3) := by decide +kernel
theorem dX0_forkIsHarmed_31 : decode cX0_forkIsHarmed 31 = .ok (.invokevirtual 84, 3) := by decide +kernel
theorem dX0_forkIsHarmed_34 : decode cX0_forkIsHarmed 34 = .ok (.ifCond .ne 7, 3) := by decide +kernel
theorem dX0_forkIsHarmed_37 : decode cX0_forkIsHarmed 37 = .ok (.iconst 1, 1) := by decide +kernel
theorem dX0_forkIsHarmed_38 : decode cX0_forkIsHarmed 38 = .ok (.goto 4, 3) := by decide +kernel
theorem dX0_forkIsHarmed_41 : decode cX0_forkIsHarmed 41 = .ok (.iconst 0, 1) := by decide +kernel
theorem dX0_forkIsHarmed_42 : decode cX0_forkIsHarmed 42 = .ok (.ireturn, 1) := by decide +kernel
set_option maxRecDepth 100000 in
set_option maxHeartbeats 4000000 in
theorem tX0_forkIsHarmed {T : tyT} {R : Nat} {J : Nat → Prop} {Bc Bs : Nat} {M : gMd} {z : Nat → Nat} {hp : List gA}  (H : tyS T R J Bc Bs M z hp)  : gM yX0_forkIsHarmed cX0_forkIsHarmed 1 ((some .boolean)) 2 43 [.ref 43] (hp) (0) (0) (fun v h => ∃ x, v = some (.int x) ∧ ((x = 0 ∨ x = 1) ∧ tyS T R J Bc Bs M z h)) := by
  refine gM_of (ls0 := [some (.ref 43)]) (by decide +kernel) (Nat.le_of_ble_eq_true rfl) rfl fun X C E => ?_
  have J_37 : ∀ (hJ37 : List gA), tyS T R J Bc Bs M z hJ37 → gG X 37 [some (.ref 43)] [] hJ37 0 0 := by
    intro hJ37 HJ37
    refine g_iconst (v := 1) (q := 38) C dX0_forkIsHarmed_37 (by decide) rfl ?_
    refine g_goto (q := 42) C dX0_forkIsHarmed_38 (by decide) ?_
    exact E.1 _ _ _ _ _ _ _ dX0_forkIsHarmed_42 rfl (tyNar (Or.inr rfl)) (Nat.le_of_ble_eq_true rfl) (Nat.le_of_ble_eq_true rfl) ⟨_, rfl, (Or.inr rfl), HJ37⟩
  refine g_aload_n (q := 1) C dX0_forkIsHarmed_0 rfl rfl ?_
  obtain ⟨x3_1, o1, e1_0⟩ := tyG0 H (rfl : tyK 43 = (8, 0))
  refine g_getfield (v := .ref 90) (q := 4) C fX0_23 dX0_forkIsHarmed_1 rfl o1 rfl ?_
  obtain ⟨x3_2, x4_2, x5_2, x6_2, x7_2, x11_2, x12_2, x13_2, x14_2, x15_2, x16_2, x17_2, jv_2, o2, e2_0, e2_1, e2_2, e2_3⟩ := tyG2 H (rfl : tyK 90 = (7, 0))
  refine g_getfield (v := .int x3_2) (q := 7) C fX0_50 dX0_forkIsHarmed_4 rfl o2 rfl ?_
  refine g_iconst (v := 2) (q := 8) C dX0_forkIsHarmed_7 (by decide) rfl ?_
  refine g_icmp_ne (t := 37) (q := 11) C dX0_forkIsHarmed_8 (by decide) rfl (fun c_8 => ?_) (fun c_8 => ?_)
  ·
    exact J_37 _  H
  ·
    refine g_aload_n (q := 12) C dX0_forkIsHarmed_11 rfl rfl ?_
    refine g_getfield (v := .ref 90) (q := 15) C fX0_23 dX0_forkIsHarmed_12 rfl o1 rfl ?_
    refine g_getfieldW (v := .ref ((90 + 1))) (q := 18) C fX0_74 dX0_forkIsHarmed_15 rfl o2 rfl ?_
    obtain ⟨x0_3, x1_3, x2_3, x3_3, x4_3, x5_3, x6_3, x7_3, x11_3, x12_3, x13_3, x14_3, o3, e3_0⟩ := tyG5 H (tyF2_0 (rfl : tyK 90 = (7, 0)))
    refine g_getfieldW (v := .ref (((90 + 1) + 3))) (q := 21) C fX0_78 dX0_forkIsHarmed_18 rfl o3 rfl ?_
    refine g_aload_n (q := 22) C dX0_forkIsHarmed_21 rfl rfl ?_
    refine g_getfield (v := .ref 44) (q := 25) C fX0_14 dX0_forkIsHarmed_22 rfl o1 rfl ?_
    obtain ⟨x3_4, x4_4, x5_4, x6_4, x7_4, x11_4, x12_4, x13_4, x14_4, x15_4, x16_4, x17_4, jv_4, o4, e4_0, e4_1, e4_2, e4_3⟩ := tyG2 H (rfl : tyK 44 = (7, 0))
    refine g_getfieldW (v := .ref ((44 + 1))) (q := 28) C fX0_74 dX0_forkIsHarmed_25 rfl o4 rfl ?_
    obtain ⟨x0_5, x1_5, x2_5, x3_5, x4_5, x5_5, x6_5, x7_5, x11_5, x12_5, x13_5, x14_5, o5, e5_0⟩ := tyG5 H (tyF2_0 (rfl : tyK 44 = (7, 0)))
    refine g_getfieldW (v := .ref (((44 + 1) + 3))) (q := 31) C fX0_78 dX0_forkIsHarmed_28 rfl o5 rfl ?_
    obtain ⟨l6, g6, -⟩ := tyRow H (tyF5_9 (tyF2_0 (rfl : tyK 90 = (7, 0))))
    refine g_callVip (q := 34) (As := [.ref (((44 + 1) + 3))]) C gyX4_same gvX4_same t_977 (tX4_same H (tyF5_9 (tyF2_0 (rfl : tyK 90 = (7, 0)))) (tyF5_9 (tyF2_0 (rfl : tyK 44 = (7, 0))))) dX0_forkIsHarmed_31 rfl g6.obj rfl rfl rfl (Nat.le_of_ble_eq_true rfl) (Nat.le_of_ble_eq_true rfl) (Nat.le_of_ble_eq_true rfl) (Nat.le_of_ble_eq_true rfl) (Nat.le_of_ble_eq_true rfl) rfl (fun x7 h7 q7 => ?_)
    obtain ⟨b7, H7⟩ := q7
    refine g_if_ne (t := 41) (q := 37) C dX0_forkIsHarmed_34 (by decide) rfl (fun c_34 => ?_) (fun c_34 => ?_)
    ·
      refine g_iconst (v := 0) (q := 42) C dX0_forkIsHarmed_41 (by decide) rfl ?_
      exact E.1 _ _ _ _ _ _ _ dX0_forkIsHarmed_42 rfl (tyNar (Or.inl rfl)) (Nat.le_of_ble_eq_true rfl) (Nat.le_of_ble_eq_true rfl) ⟨_, rfl, (Or.inl rfl), H7⟩
    ·
      exact J_37 _  H7
theorem dX0_outlook_0 : decode cX0_outlook 0 = .ok (.aload_n 0, 1) := by decide +kernel
theorem dX0_outlook_1 : decode cX0_outlook 1 = .ok (.getfield 26, 3) := by decide +kernel
theorem dX0_outlook_4 : decode cX0_outlook 4 = .ok (.ifCond .ne 49, 3) := by decide +kernel
theorem dX0_outlook_7 : decode cX0_outlook 7 = .ok (.aload_n 0, 1) := by decide +kernel
theorem dX0_outlook_8 : decode cX0_outlook 8 = .ok (.getfield 14, 3) := by decide +kernel
theorem dX0_outlook_11 : decode cX0_outlook 11 = .ok (.aload_n 1, 1) := by decide +kernel
theorem dX0_outlook_12 : decode cX0_outlook 12 = .ok (.invokevirtual 46, 3) := by decide +kernel
theorem dX0_outlook_15 : decode cX0_outlook 15 = .ok (.iconst 0, 1) := by decide +kernel
theorem dX0_outlook_16 : decode cX0_outlook 16 = .ok (.istore_n 2, 1) := by decide +kernel
theorem dX0_outlook_17 : decode cX0_outlook 17 = .ok (.iload_n 2, 1) := by decide +kernel
theorem dX0_outlook_18 : decode cX0_outlook 18 = .ok (.sipush 400, 3) := by decide +kernel
theorem dX0_outlook_21 : decode cX0_outlook 21 = .ok (.if_icmp .ge 27, 3) := by decide +kernel
theorem dX0_outlook_24 : decode cX0_outlook 24 = .ok (.aload_n 0, 1) := by decide +kernel
theorem dX0_outlook_25 : decode cX0_outlook 25 = .ok (.getfield 14, 3) := by decide +kernel
theorem dX0_outlook_28 : decode cX0_outlook 28 = .ok (.getfield 50, 3) := by decide +kernel
theorem dX0_outlook_31 : decode cX0_outlook 31 = .ok (.iconst 1, 1) := by decide +kernel
theorem dX0_outlook_32 : decode cX0_outlook 32 = .ok (.if_icmp .ne 16, 3) := by decide +kernel
theorem dX0_outlook_35 : decode cX0_outlook 35 = .ok (.aload_n 0, 1) := by decide +kernel
theorem dX0_outlook_36 : decode cX0_outlook 36 = .ok (.getfield 14, 3) := by decide +kernel
theorem dX0_outlook_39 : decode cX0_outlook 39 = .ok (.invokevirtual 54, 3) := by decide +kernel
theorem dX0_outlook_42 : decode cX0_outlook 42 = .ok (.iinc 2 1, 3) := by decide +kernel
theorem dX0_outlook_45 : decode cX0_outlook 45 = .ok (.goto (-28), 3) := by decide +kernel
theorem dX0_outlook_48 : decode cX0_outlook 48 = .ok (.aload_n 0, 1) := by decide +kernel
theorem dX0_outlook_49 : decode cX0_outlook 49 = .ok (.iconst 1, 1) := by decide +kernel
theorem dX0_outlook_50 : decode cX0_outlook 50 = .ok (.putfield 26, 3) := by decide +kernel
theorem dX0_outlook_53 : decode cX0_outlook 53 = .ok (.aload_n 0, 1) := by decide +kernel
theorem dX0_outlook_54 : decode cX0_outlook 54 = .ok (.getfield 14, 3) := by decide +kernel
theorem dX0_outlook_57 : decode cX0_outlook 57 = .ok (.areturn, 1) := by decide +kernel
set_option maxRecDepth 100000 in
set_option maxHeartbeats 4000000 in
theorem tX0_outlook {T : tyT} {R : Nat} {J : Nat → Prop} {Bc Bs : Nat} {M : gMd} {z : Nat → Nat} {hp : List gA} {a0 : Nat}  (H : tyS T R J Bc Bs M z hp) (hk0 : tyK a0 = (7, 0))  : gM yX0_outlook cX0_outlook 3 ((some (.object "CardLink$Line"))) 7 200 [.ref 43, .ref a0] (hp) (300000 - hp.length) (7000000 - gsz hp) (fun v h => ∃ r, v = some (.ref r) ∧ (tyK r = (7, 0) ∧ ∃ z', tyS T R J Bc Bs M z' h)) := by
  refine gM_ofT (ls0 := [some (.ref 43), some (.ref a0), none]) (by decide +kernel) (Nat.le_of_ble_eq_true rfl) rfl fun X C E h0 => ?_
  have J_53 : ∀ (zJ53 : Nat → Nat) (hJ53 : List gA), tyS T R J Bc Bs M zJ53 hJ53 → gG X 53 [some (.ref 43), some (.ref a0), none] [] hJ53 (hJ53.length - hp.length) (gsz hJ53 - gsz hp) := by
    intro zJ53 hJ53 HJ53
    refine g_aload_n (q := 54) C dX0_outlook_53 rfl rfl ?_
    obtain ⟨x3_1, o1, e1_0⟩ := tyG0 HJ53 (rfl : tyK 43 = (8, 0))
    refine g_getfield (v := .ref 44) (q := 57) C fX0_14 dX0_outlook_54 rfl o1 rfl ?_
    refine g_tight h0 H.2.2.2.1 HJ53.2.2.2.1 (fun ta2 tb2 => ?_)
    have lm2 := HJ53.lim
    exact E.2.2 _ _ _ _ _ _ _ dX0_outlook_57 rfl (Or.inl ⟨_, rfl⟩) (by omega) (by omega) ⟨_, rfl, (rfl : tyK 44 = (7, 0)), ⟨_, HJ53⟩⟩
  have J_48 : ∀ (y48_2 : Int32) (zJ48 : Nat → Nat) (hJ48 : List gA), tyS T R J Bc Bs M zJ48 hJ48 → gG X 48 [some (.ref 43), some (.ref a0), some (.int y48_2)] [] hJ48 (hJ48.length - hp.length) (gsz hJ48 - gsz hp) := by
    intro y48_2 zJ48 hJ48 HJ48
    refine g_aload_n (q := 49) C dX0_outlook_48 rfl rfl ?_
    refine g_iconst (v := 1) (q := 50) C dX0_outlook_49 (by decide) rfl ?_
    obtain ⟨x3_3, o3, e3_0⟩ := tyG0 HJ48 (rfl : tyK 43 = (8, 0))
    refine g_putfield (q := 53) C fX0_26 dX0_outlook_50 rfl o3 (Nat.le_of_ble_eq_true rfl) (Or.inl rfl) (tyNar (Or.inr rfl)) (tyFit (Or.inr rfl)) (by intro z h; cases h) ?_
    refine tyP0 HJ48 (rfl : tyK 43 = (8, 0)) rfl (Or.inr rfl) (fun h4 _ _ H4 => ?_)
    refine g_forget (ls' := [some (.ref 43), some (.ref a0), none]) rfl (gfK (gfK (gfD gfN))) ?_
    refine g_tight h0 H.2.2.2.1 H4.2.2.2.1 (fun ta5 tb5 => ?_)
    exact J_53 _ _  H4
  have J_17 : ∀ (d17 : Nat) (y17_2 : Int32) (zJ17 : Nat → Nat) (hJ17 : List gA), (2147483647 - y17_2.toInt).toNat = d17 → ∀ (_ : True), tyS T R J Bc Bs M zJ17 hJ17 → gG X 17 [some (.ref 43), some (.ref a0), some (.int y17_2)] [] hJ17 (hJ17.length - hp.length) (gsz hJ17 - gsz hp) := by
    intro d17
    induction d17 using Nat.strongRecOn with
    | _ d17 ih17 =>
    intro y17_2 zJ17 hJ17 hd17 _ HJ17
    refine g_iload_n (q := 18) C dX0_outlook_17 rfl rfl ?_
    refine g_sipush (v := 400) (q := 21) C dX0_outlook_18 (by decide) rfl ?_
    refine g_icmp_ge (t := 48) (q := 24) C dX0_outlook_21 (by decide) rfl (fun c_21 => ?_) (fun c_21 => ?_)
    ·
      refine g_tight h0 H.2.2.2.1 HJ17.2.2.2.1 (fun ta6 tb6 => ?_)
      exact J_48 _ _ _  HJ17
    ·
      refine g_aload_n (q := 25) C dX0_outlook_24 rfl rfl ?_
      obtain ⟨x3_7, o7, e7_0⟩ := tyG0 HJ17 (rfl : tyK 43 = (8, 0))
      refine g_getfield (v := .ref 44) (q := 28) C fX0_14 dX0_outlook_25 rfl o7 rfl ?_
      obtain ⟨x3_8, x4_8, x5_8, x6_8, x7_8, x11_8, x12_8, x13_8, x14_8, x15_8, x16_8, x17_8, jv_8, o8, e8_0, e8_1, e8_2, e8_3⟩ := tyG2 HJ17 (rfl : tyK 44 = (7, 0))
      refine g_getfield (v := .int x3_8) (q := 31) C fX0_50 dX0_outlook_28 rfl o8 rfl ?_
      refine g_iconst (v := 1) (q := 32) C dX0_outlook_31 (by decide) rfl ?_
      refine g_icmp_ne (t := 48) (q := 35) C dX0_outlook_32 (by decide) rfl (fun c_32 => ?_) (fun c_32 => ?_)
      ·
        refine g_tight h0 H.2.2.2.1 HJ17.2.2.2.1 (fun ta9 tb9 => ?_)
        exact J_48 _ _ _  HJ17
      ·
        refine g_aload_n (q := 36) C dX0_outlook_35 rfl rfl ?_
        refine g_getfield (v := .ref 44) (q := 39) C fX0_14 dX0_outlook_36 rfl o7 rfl ?_
        refine g_tight h0 H.2.2.2.1 HJ17.2.2.2.1 (fun ta10 tb10 => ?_)
        have lm10 := HJ17.lim
        refine g_callVvp (q := 42) (As := []) C gyX2_turn gvX2_turn t_959 (tX2_turn HJ17 (rfl : tyK 44 = (7, 0))) dX0_outlook_39 rfl o8 rfl rfl rfl (Nat.le_of_ble_eq_true rfl) (Nat.le_of_ble_eq_true rfl) (Nat.le_of_ble_eq_true rfl) (by show _ + _ ≤ 300000 - List.length hp; omega) (by show _ + _ ≤ 7000000 - gsz hp; omega) rfl (fun h11 q11 => ?_)
        obtain ⟨z11, H11⟩ := q11
        refine g_iinc (v := y17_2 + 1) (q := 45) C dX0_outlook_42 rfl rfl (by simp only [gset]; rfl) rfl ?_
        refine g_goto (q := 17) C dX0_outlook_45 (by decide) ?_
        refine g_tight h0 H.2.2.2.1 H11.2.2.2.1 (fun ta12 tb12 => ?_)
        exact ih17 _ (tyUp' hd17 c_21) _ _ _ rfl trivial H11
  refine g_aload_n (q := 1) C dX0_outlook_0 rfl rfl ?_
  obtain ⟨x3_13, o13, e13_0⟩ := tyG0 H (rfl : tyK 43 = (8, 0))
  refine g_getfield (v := .int x3_13) (q := 4) C fX0_26 dX0_outlook_1 rfl o13 rfl ?_
  refine g_if_ne (t := 53) (q := 7) C dX0_outlook_4 (by decide) rfl (fun c_4 => ?_) (fun c_4 => ?_)
  ·
    refine g_tight h0 H.2.2.2.1 H.2.2.2.1 (fun ta14 tb14 => ?_)
    exact J_53 _ _  H
  ·
    refine g_aload_n (q := 8) C dX0_outlook_7 rfl rfl ?_
    refine g_getfield (v := .ref 44) (q := 11) C fX0_14 dX0_outlook_8 rfl o13 rfl ?_
    refine g_aload_n (q := 12) C dX0_outlook_11 rfl rfl ?_
    obtain ⟨x3_15, x4_15, x5_15, x6_15, x7_15, x11_15, x12_15, x13_15, x14_15, x15_15, x16_15, x17_15, jv_15, o15, e15_0, e15_1, e15_2, e15_3⟩ := tyG2 H (rfl : tyK 44 = (7, 0))
    refine g_tight h0 H.2.2.2.1 H.2.2.2.1 (fun ta16 tb16 => ?_)
    have lm16 := H.lim
    refine g_callVvp (q := 15) (As := [.ref a0]) C gyX2_copy gvX2_copy t_947 (tX2_copy H (rfl : tyK 44 = (7, 0)) hk0 (by omega)) dX0_outlook_12 rfl o15 rfl rfl rfl (Nat.le_of_ble_eq_true rfl) (Nat.le_of_ble_eq_true rfl) (Nat.le_of_ble_eq_true rfl) (by show _ + _ ≤ 300000 - List.length hp; omega) (by show _ + _ ≤ 7000000 - gsz hp; omega) rfl (fun h17 q17 => ?_)
    have H17 := q17
    refine g_iconst (v := 0) (q := 16) C dX0_outlook_15 (by decide) rfl ?_
    refine g_istore_n (q := 17) C dX0_outlook_16 (Nat.le_of_ble_eq_true rfl) (by simp only [gset]; rfl) rfl ?_
    refine g_tight h0 H.2.2.2.1 H17.2.2.2.1 (fun ta18 tb18 => ?_)
    exact J_17 _ _ _ _ rfl trivial H17
theorem dX0_tryAll_0 : decode cX0_tryAll 0 = .ok (.iload_n 2, 1) := by decide +kernel
theorem dX0_tryAll_1 : decode cX0_tryAll 1 = .ok (.ifCond .lt 40, 3) := by decide +kernel
theorem dX0_tryAll_4 : decode cX0_tryAll 4 = .ok (.iload_n 2, 1) := by decide +kernel
theorem dX0_tryAll_5 : decode cX0_tryAll 5 = .ok (.aload_n 0, 1) := by decide +kernel
theorem dX0_tryAll_6 : decode cX0_tryAll 6 = .ok (.getfield 30, 3) := by decide +kernel
theorem dX0_tryAll_9 : decode cX0_tryAll 9 = .ok (.arraylength, 1) := by decide +kernel
theorem dX0_tryAll_10 : decode cX0_tryAll 10 = .ok (.if_icmp .ge 31, 3) := by decide +kernel
theorem dX0_tryAll_13 : decode cX0_tryAll 13 = .ok (.iload_n 2, 1) := by decide +kernel
theorem dX0_tryAll_14 : decode cX0_tryAll 14 = .ok (.aload_n 0, 1) := by decide +kernel
theorem dX0_tryAll_15 : decode cX0_tryAll 15 = .ok (.getfield 34, 3) := by decide +kernel
theorem dX0_tryAll_18 : decode cX0_tryAll 18 = .ok (.arraylength, 1) := by decide +kernel
theorem dX0_tryAll_19 : decode cX0_tryAll 19 = .ok (.if_icmp .ge 22, 3) := by decide +kernel
theorem dX0_tryAll_22 : decode cX0_tryAll 22 = .ok (.iload_n 2, 1) := by decide +kernel
theorem dX0_tryAll_23 : decode cX0_tryAll 23 = .ok (.aload_n 0, 1) := by decide +kernel
theorem dX0_tryAll_24 : decode cX0_tryAll 24 = .ok (.getfield 37, 3) := by decide +kernel
theorem dX0_tryAll_27 : decode cX0_tryAll 27 = .ok (.arraylength, 1) := by decide +kernel
theorem dX0_tryAll_28 : decode cX0_tryAll 28 = .ok (.if_icmp .ge 13, 3) := by decide +kernel
theorem dX0_tryAll_31 : decode cX0_tryAll 31 = .ok (.aload_n 0, 1) := by decide +kernel
theorem dX0_tryAll_32 : decode cX0_tryAll 32 = .ok (.getfield 30, 3) := by decide +kernel
theorem dX0_tryAll_35 : decode cX0_tryAll 35 = .ok (.iload_n 2, 1) := by decide +kernel
theorem dX0_tryAll_36 : decode cX0_tryAll 36 = .ok (.iaload, 1) := by decide +kernel
theorem dX0_tryAll_37 : decode cX0_tryAll 37 = .ok (.iconst 1, 1) := by decide +kernel
theorem dX0_tryAll_38 : decode cX0_tryAll 38 = .ok (.if_icmp .ne 4, 3) := by decide +kernel
theorem dX0_tryAll_41 : decode cX0_tryAll 41 = .ok (.return_, 1) := by decide +kernel
theorem dX0_tryAll_42 : decode cX0_tryAll 42 = .ok (.aload_n 0, 1) := by decide +kernel
theorem dX0_tryAll_43 : decode cX0_tryAll 43 = .ok (.getfield 30, 3) := by decide +kernel
theorem dX0_tryAll_46 : decode cX0_tryAll 46 = .ok (.iload_n 2, 1) := by decide +kernel
theorem dX0_tryAll_47 : decode cX0_tryAll 47 = .ok (.iconst 1, 1) := by decide +kernel
theorem dX0_tryAll_48 : decode cX0_tryAll 48 = .ok (.iastore, 1) := by decide +kernel
theorem dX0_tryAll_49 : decode cX0_tryAll 49 = .ok (.aload_n 0, 1) := by decide +kernel
theorem dX0_tryAll_50 : decode cX0_tryAll 50 = .ok (.getfield 34, 3) := by decide +kernel
theorem dX0_tryAll_53 : decode cX0_tryAll 53 = .ok (.iload_n 2, 1) := by decide +kernel
theorem dX0_tryAll_54 : decode cX0_tryAll 54 = .ok (.iconst 0, 1) := by decide +kernel
theorem dX0_tryAll_55 : decode cX0_tryAll 55 = .ok (.iastore, 1) := by decide +kernel
theorem dX0_tryAll_56 : decode cX0_tryAll 56 = .ok (.aload_n 0, 1) := by decide +kernel
theorem dX0_tryAll_57 : decode cX0_tryAll 57 = .ok (.getfield 37, 3) := by decide +kernel
theorem dX0_tryAll_60 : decode cX0_tryAll 60 = .ok (.iload_n 2, 1) := by decide +kernel
theorem dX0_tryAll_61 : decode cX0_tryAll 61 = .ok (.iconst (-1), 1) := by decide +kernel
theorem dX0_tryAll_62 : decode cX0_tryAll 62 = .ok (.iastore, 1) := by decide +kernel
theorem dX0_tryAll_63 : decode cX0_tryAll 63 = .ok (.aload_n 0, 1) := by decide +kernel
theorem dX0_tryAll_64 : decode cX0_tryAll 64 = .ok (.getfield 20, 3) := by decide +kernel
theorem dX0_tryAll_67 : decode cX0_tryAll 67 = .ok (.aload_n 1, 1) := by decide +kernel
theorem dX0_tryAll_68 : decode cX0_tryAll 68 = .ok (.invokevirtual 46, 3) := by decide +kernel
theorem dX0_tryAll_71 : decode cX0_tryAll 71 = .ok (.iconst 0, 1) := by decide +kernel
theorem dX0_tryAll_72 : decode cX0_tryAll 72 = .ok (.istore_n 3, 1) := by decide +kernel
theorem dX0_tryAll_73 : decode cX0_tryAll 73 = .ok (.iload_n 3, 1) := by decide +kernel
theorem dX0_tryAll_74 : decode cX0_tryAll 74 = .ok (.sipush 400, 3) := by decide +kernel
theorem dX0_tryAll_77 : decode cX0_tryAll 77 = .ok (.if_icmp .ge 197, 3) := by decide +kernel
theorem dX0_tryAll_80 : decode cX0_tryAll 80 = .ok (.aload_n 0, 1) := by decide +kernel
theorem dX0_tryAll_81 : decode cX0_tryAll 81 = .ok (.getfield 20, 3) := by decide +kernel
theorem dX0_tryAll_84 : decode cX0_tryAll 84 = .ok (.getfield 50, 3) := by decide +kernel
theorem dX0_tryAll_87 : decode cX0_tryAll 87 = .ok (.iconst 1, 1) := by decide +kernel
theorem dX0_tryAll_88 : decode cX0_tryAll 88 = .ok (.if_icmp .ne 186, 3) := by decide +kernel
theorem dX0_tryAll_91 : decode cX0_tryAll 91 = .ok (.aload_n 0, 1) := by decide +kernel
theorem dX0_tryAll_92 : decode cX0_tryAll 92 = .ok (.getfield 20, 3) := by decide +kernel
theorem dX0_tryAll_95 : decode cX0_tryAll 95 = .ok (.getfield 57, 3) := by decide +kernel
theorem dX0_tryAll_98 : decode cX0_tryAll 98 = .ok (.getfield 61, 3) := by decide +kernel
theorem dX0_tryAll_101 : decode cX0_tryAll 101 = .ok (.istore 4, 2) := by decide +kernel
theorem dX0_tryAll_103 : decode cX0_tryAll 103 = .ok (.aload_n 0, 1) := by decide +kernel
theorem dX0_tryAll_104 : decode cX0_tryAll 104 = .ok (.getfield 23, 3) := by decide +kernel
theorem dX0_tryAll_107 : decode cX0_tryAll 107 = .ok (.aload_n 0, 1) := by decide +kernel
theorem dX0_tryAll_108 : decode cX0_tryAll 108 = .ok (.getfield 20, 3) := by decide +kernel
theorem dX0_tryAll_111 : decode cX0_tryAll 111 = .ok (.invokevirtual 46, 3) := by decide +kernel
theorem dX0_tryAll_114 : decode cX0_tryAll 114 = .ok (.aload_n 0, 1) := by decide +kernel
theorem dX0_tryAll_115 : decode cX0_tryAll 115 = .ok (.getfield 23, 3) := by decide +kernel
theorem dX0_tryAll_118 : decode cX0_tryAll 118 = .ok (.invokevirtual 54, 3) := by decide +kernel
theorem dX0_tryAll_121 : decode cX0_tryAll 121 = .ok (.aload_n 0, 1) := by decide +kernel
theorem dX0_tryAll_122 : decode cX0_tryAll 122 = .ok (.getfield 23, 3) := by decide +kernel
theorem dX0_tryAll_125 : decode cX0_tryAll 125 = .ok (.getfield 57, 3) := by decide +kernel
theorem dX0_tryAll_128 : decode cX0_tryAll 128 = .ok (.getfield 61, 3) := by decide +kernel
theorem dX0_tryAll_131 : decode cX0_tryAll 131 = .ok (.istore 5, 2) := by decide +kernel
theorem dX0_tryAll_133 : decode cX0_tryAll 133 = .ok (.iload 4, 2) := by decide +kernel
theorem dX0_tryAll_135 : decode cX0_tryAll 135 = .ok (.istore 6, 2) := by decide +kernel
theorem dX0_tryAll_137 : decode cX0_tryAll 137 = .ok (.iload 6, 2) := by decide +kernel
theorem dX0_tryAll_139 : decode cX0_tryAll 139 = .ok (.iload 5, 2) := by decide +kernel
theorem dX0_tryAll_141 : decode cX0_tryAll 141 = .ok (.if_icmp .ge 120, 3) := by decide +kernel
theorem dX0_tryAll_144 : decode cX0_tryAll 144 = .ok (.aload_n 0, 1) := by decide +kernel
theorem dX0_tryAll_145 : decode cX0_tryAll 145 = .ok (.getfield 23, 3) := by decide +kernel
theorem dX0_tryAll_148 : decode cX0_tryAll 148 = .ok (.aload_n 0, 1) := by decide +kernel
theorem dX0_tryAll_149 : decode cX0_tryAll 149 = .ok (.getfield 20, 3) := by decide +kernel
theorem dX0_tryAll_152 : decode cX0_tryAll 152 = .ok (.invokevirtual 46, 3) := by decide +kernel
theorem dX0_tryAll_155 : decode cX0_tryAll 155 = .ok (.aload_n 0, 1) := by decide +kernel
theorem dX0_tryAll_156 : decode cX0_tryAll 156 = .ok (.getfield 23, 3) := by decide +kernel
theorem dX0_tryAll_159 : decode cX0_tryAll 159 = .ok (.getfield 57, 3) := by decide +kernel
theorem dX0_tryAll_162 : decode cX0_tryAll 162 = .ok (.iload 6, 2) := by decide +kernel
theorem dX0_tryAll_164 : decode cX0_tryAll 164 = .ok (.iload_n 2, 1) := by decide +kernel
theorem dX0_tryAll_165 : decode cX0_tryAll 165 = .ok (.invokevirtual 66, 3) := by decide +kernel
theorem dX0_tryAll_168 : decode cX0_tryAll 168 = .ok (.iload_n 3, 1) := by decide +kernel
theorem dX0_tryAll_169 : decode cX0_tryAll 169 = .ok (.istore 7, 2) := by decide +kernel
theorem dX0_tryAll_171 : decode cX0_tryAll 171 = .ok (.iload 7, 2) := by decide +kernel
theorem dX0_tryAll_173 : decode cX0_tryAll 173 = .ok (.sipush 400, 3) := by decide +kernel
theorem dX0_tryAll_176 : decode cX0_tryAll 176 = .ok (.if_icmp .ge 27, 3) := by decide +kernel
theorem dX0_tryAll_179 : decode cX0_tryAll 179 = .ok (.aload_n 0, 1) := by decide +kernel
theorem dX0_tryAll_180 : decode cX0_tryAll 180 = .ok (.getfield 23, 3) := by decide +kernel
theorem dX0_tryAll_183 : decode cX0_tryAll 183 = .ok (.getfield 50, 3) := by decide +kernel
theorem dX0_tryAll_186 : decode cX0_tryAll 186 = .ok (.iconst 1, 1) := by decide +kernel
theorem dX0_tryAll_187 : decode cX0_tryAll 187 = .ok (.if_icmp .ne 16, 3) := by decide +kernel
theorem dX0_tryAll_190 : decode cX0_tryAll 190 = .ok (.aload_n 0, 1) := by decide +kernel
theorem dX0_tryAll_191 : decode cX0_tryAll 191 = .ok (.getfield 23, 3) := by decide +kernel
theorem dX0_tryAll_194 : decode cX0_tryAll 194 = .ok (.invokevirtual 54, 3) := by decide +kernel
theorem dX0_tryAll_197 : decode cX0_tryAll 197 = .ok (.iinc 7 1, 3) := by decide +kernel
theorem dX0_tryAll_200 : decode cX0_tryAll 200 = .ok (.goto (-29), 3) := by decide +kernel
theorem dX0_tryAll_203 : decode cX0_tryAll 203 = .ok (.aload_n 0, 1) := by decide +kernel
theorem dX0_tryAll_204 : decode cX0_tryAll 204 = .ok (.invokevirtual 70, 3) := by decide +kernel
theorem dX0_tryAll_207 : decode cX0_tryAll 207 = .ok (.ifCond .eq 48, 3) := by decide +kernel
theorem dX0_tryAll_210 : decode cX0_tryAll 210 = .ok (.aload_n 0, 1) := by decide +kernel
theorem dX0_tryAll_211 : decode cX0_tryAll 211 = .ok (.getfield 34, 3) := by decide +kernel
theorem dX0_tryAll_214 : decode cX0_tryAll 214 = .ok (.iload_n 2, 1) := by decide +kernel
theorem dX0_tryAll_215 : decode cX0_tryAll 215 = .ok (.dup2, 1) := by decide +kernel
theorem dX0_tryAll_216 : decode cX0_tryAll 216 = .ok (.iaload, 1) := by decide +kernel
theorem dX0_tryAll_217 : decode cX0_tryAll 217 = .ok (.iconst 1, 1) := by decide +kernel
theorem dX0_tryAll_218 : decode cX0_tryAll 218 = .ok (.iadd, 1) := by decide +kernel
theorem dX0_tryAll_219 : decode cX0_tryAll 219 = .ok (.iastore, 1) := by decide +kernel
theorem dX0_tryAll_220 : decode cX0_tryAll 220 = .ok (.aload_n 0, 1) := by decide +kernel
theorem dX0_tryAll_221 : decode cX0_tryAll 221 = .ok (.getfield 37, 3) := by decide +kernel
theorem dX0_tryAll_224 : decode cX0_tryAll 224 = .ok (.iload_n 2, 1) := by decide +kernel
theorem dX0_tryAll_225 : decode cX0_tryAll 225 = .ok (.aload_n 0, 1) := by decide +kernel
theorem dX0_tryAll_226 : decode cX0_tryAll 226 = .ok (.getfield 37, 3) := by decide +kernel
theorem dX0_tryAll_229 : decode cX0_tryAll 229 = .ok (.iload_n 2, 1) := by decide +kernel
theorem dX0_tryAll_230 : decode cX0_tryAll 230 = .ok (.iaload, 1) := by decide +kernel
theorem dX0_tryAll_231 : decode cX0_tryAll 231 = .ok (.iconst (-1), 1) := by decide +kernel
theorem dX0_tryAll_232 : decode cX0_tryAll 232 = .ok (.if_icmp .ne 16, 3) := by decide +kernel
theorem dX0_tryAll_235 : decode cX0_tryAll 235 = .ok (.iload 6, 2) := by decide +kernel
theorem dX0_tryAll_237 : decode cX0_tryAll 237 = .ok (.aload_n 1, 1) := by decide +kernel
theorem dX0_tryAll_238 : decode cX0_tryAll 238 = .ok (.getfield 57, 3) := by decide +kernel
theorem dX0_tryAll_241 : decode cX0_tryAll 241 = .ok (.getfield 61, 3) := by decide +kernel
theorem dX0_tryAll_244 : decode cX0_tryAll 244 = .ok (.isub, 1) := by decide +kernel
theorem dX0_tryAll_245 : decode cX0_tryAll 245 = .ok (.goto 9, 3) := by decide +kernel
theorem dX0_tryAll_248 : decode cX0_tryAll 248 = .ok (.aload_n 0, 1) := by decide +kernel
theorem dX0_tryAll_249 : decode cX0_tryAll 249 = .ok (.getfield 37, 3) := by decide +kernel
theorem dX0_tryAll_252 : decode cX0_tryAll 252 = .ok (.iload_n 2, 1) := by decide +kernel
theorem dX0_tryAll_253 : decode cX0_tryAll 253 = .ok (.iaload, 1) := by decide +kernel
theorem dX0_tryAll_254 : decode cX0_tryAll 254 = .ok (.iastore, 1) := by decide +kernel
theorem dX0_tryAll_255 : decode cX0_tryAll 255 = .ok (.iinc 6 1, 3) := by decide +kernel
theorem dX0_tryAll_258 : decode cX0_tryAll 258 = .ok (.goto (-121), 3) := by decide +kernel
theorem dX0_tryAll_261 : decode cX0_tryAll 261 = .ok (.aload_n 0, 1) := by decide +kernel
theorem dX0_tryAll_262 : decode cX0_tryAll 262 = .ok (.getfield 20, 3) := by decide +kernel
theorem dX0_tryAll_265 : decode cX0_tryAll 265 = .ok (.invokevirtual 54, 3) := by decide +kernel
theorem dX0_tryAll_268 : decode cX0_tryAll 268 = .ok (.iinc 3 1, 3) := by decide +kernel
theorem dX0_tryAll_271 : decode cX0_tryAll 271 = .ok (.goto (-198), 3) := by decide +kernel
theorem dX0_tryAll_274 : decode cX0_tryAll 274 = .ok (.return_, 1) := by decide +kernel
set_option maxRecDepth 100000 in
set_option maxHeartbeats 4000000 in
theorem tX0_tryAll {T : tyT} {R : Nat} {J : Nat → Prop} {Bc Bs : Nat} {M : gMd} {z : Nat → Nat} {hp : List gA} {a0 : Nat} {a1 : Int32}  (H : tyS T R J Bc Bs M z hp) (hk0 : tyK a0 = (7, 0))  : gM yX0_tryAll cX0_tryAll 8 (none) 7 200 [.ref 43, .ref a0, .int a1] (hp) (300000 - hp.length) (7000000 - gsz hp) (fun v h => v = none ∧ ∃ z', tyS T R J Bc Bs M z' h) := by
  refine gM_ofT (ls0 := [some (.ref 43), some (.ref a0), some (.int a1), none, none, none, none, none]) (by decide +kernel) (Nat.le_of_ble_eq_true rfl) rfl fun X C E h0 => ?_
  have J_73 : ∀ (d73 : Nat) (y73_2 y73_3 : Int32) (zJ73 : Nat → Nat) (hJ73 : List gA), (2147483647 - y73_3.toInt).toNat = d73 → ∀ (v73_0 : ¬ y73_2.toInt < 0 ∧ y73_2.toInt < 4), tyS T R J Bc Bs M zJ73 hJ73 → gG X 73 [some (.ref 43), some (.ref a0), some (.int y73_2), some (.int y73_3), none, none, none, none] [] hJ73 (hJ73.length - hp.length) (gsz hJ73 - gsz hp) := by
    intro d73
    induction d73 using Nat.strongRecOn with
    | _ d73 ih73 =>
    intro y73_2 y73_3 zJ73 hJ73 hd73 v73_0 HJ73
    have J_137 : ∀ (d137 : Nat) (y137_2 y137_3 y137_4 y137_5 y137_6 : Int32) (zJ137 : Nat → Nat) (hJ137 : List gA), (2147483647 - y137_6.toInt).toNat = d137 → ∀ (v137_0 : ¬ y137_2.toInt < 0 ∧ y137_2.toInt < 4) (w137_73 : (2147483647 - (y137_3 + 1).toInt).toNat < d73), tyS T R J Bc Bs M zJ137 hJ137 → gG X 137 [some (.ref 43), some (.ref a0), some (.int y137_2), some (.int y137_3), some (.int y137_4), some (.int y137_5), some (.int y137_6), none] [] hJ137 (hJ137.length - hp.length) (gsz hJ137 - gsz hp) := by
      intro d137
      induction d137 using Nat.strongRecOn with
      | _ d137 ih137 =>
      intro y137_2 y137_3 y137_4 y137_5 y137_6 zJ137 hJ137 hd137 v137_0 w137_73 HJ137
      have J_255 : ∀ (y255_2 y255_3 y255_4 y255_5 y255_6 y255_7 : Int32) (zJ255 : Nat → Nat) (hJ255 : List gA) (v255_0 : ¬ y255_2.toInt < 0 ∧ y255_2.toInt < 4) (w255_73 : (2147483647 - (y255_3 + 1).toInt).toNat < d73) (w255_137 : (2147483647 - (y255_6 + 1).toInt).toNat < d137), tyS T R J Bc Bs M zJ255 hJ255 → gG X 255 [some (.ref 43), some (.ref a0), some (.int y255_2), some (.int y255_3), some (.int y255_4), some (.int y255_5), some (.int y255_6), some (.int y255_7)] [] hJ255 (hJ255.length - hp.length) (gsz hJ255 - gsz hp) := by
        intro y255_2 y255_3 y255_4 y255_5 y255_6 y255_7 zJ255 hJ255 v255_0 w255_73 w255_137 HJ255
        refine g_iinc (v := y255_6 + 1) (q := 258) C dX0_tryAll_255 rfl rfl (by simp only [gset]; rfl) rfl ?_
        refine g_goto (q := 137) C dX0_tryAll_258 (by decide) ?_
        refine g_forget (ls' := [some (.ref 43), some (.ref a0), some (.int y255_2), some (.int y255_3), some (.int y255_4), some (.int y255_5), some (.int (y255_6 + 1)), none]) rfl (gfK (gfK (gfK (gfK (gfK (gfK (gfK (gfD gfN)))))))) ?_
        refine g_tight h0 H.2.2.2.1 HJ255.2.2.2.1 (fun ta1 tb1 => ?_)
        exact ih137 _ w255_137 _ _ _ _ _ _ _ rfl (by have k0 : (0 : Int32).toInt = 0 := (by decide); have k4 : (4 : Int32).toInt = 4 := (by decide); omega) w255_73 HJ255
      have J_254 : ∀ (y254_2 y254_3 y254_4 y254_5 y254_6 y254_7 s254_0 s254_1 : Int32) (zJ254 : Nat → Nat) (hJ254 : List gA) (v254_0 : ¬ y254_2.toInt < 0 ∧ y254_2.toInt < 4) (v254_1 : ¬ s254_1.toInt < 0 ∧ s254_1.toInt < 4) (w254_73 : (2147483647 - (y254_3 + 1).toInt).toNat < d73) (w254_137 : (2147483647 - (y254_6 + 1).toInt).toNat < d137), tyS T R J Bc Bs M zJ254 hJ254 → gG X 254 [some (.ref 43), some (.ref a0), some (.int y254_2), some (.int y254_3), some (.int y254_4), some (.int y254_5), some (.int y254_6), some (.int y254_7)] [.int s254_0, .int s254_1, .ref 115] hJ254 (hJ254.length - hp.length) (gsz hJ254 - gsz hp) := by
        intro y254_2 y254_3 y254_4 y254_5 y254_6 y254_7 s254_0 s254_1 zJ254 hJ254 v254_0 v254_1 w254_73 w254_137 HJ254
        obtain ⟨f2, o2⟩ := tyArr HJ254 (rfl : tyK 115 = (2, 4))
        refine g_iastore (q := 255) C dX0_tryAll_254 rfl o2 (by have k0 : (0 : Int32).toInt = 0 := (by decide); have k4 : (4 : Int32).toInt = 4 := (by decide); exact vp_in0 (by omega) (by omega)) ?_
        refine tyPa HJ254 (rfl : tyK 115 = (2, 4)) (by decide +kernel) o2 (fun h2 H2 => ?_)
        refine g_tight h0 H.2.2.2.1 H2.2.2.2.1 (fun ta3 tb3 => ?_)
        exact J_255 _ _ _ _ _ _ _ _ (by have k0 : (0 : Int32).toInt = 0 := (by decide); have k4 : (4 : Int32).toInt = 4 := (by decide); omega) w254_73 w254_137 H2
      have J_203 : ∀ (y203_2 y203_3 y203_4 y203_5 y203_6 y203_7 : Int32) (zJ203 : Nat → Nat) (hJ203 : List gA) (v203_0 : ¬ y203_2.toInt < 0 ∧ y203_2.toInt < 4) (w203_73 : (2147483647 - (y203_3 + 1).toInt).toNat < d73) (w203_137 : (2147483647 - (y203_6 + 1).toInt).toNat < d137), tyS T R J Bc Bs M zJ203 hJ203 → gG X 203 [some (.ref 43), some (.ref a0), some (.int y203_2), some (.int y203_3), some (.int y203_4), some (.int y203_5), some (.int y203_6), some (.int y203_7)] [] hJ203 (hJ203.length - hp.length) (gsz hJ203 - gsz hp) := by
        intro y203_2 y203_3 y203_4 y203_5 y203_6 y203_7 zJ203 hJ203 v203_0 w203_73 w203_137 HJ203
        refine g_aload_n (q := 204) C dX0_tryAll_203 rfl rfl ?_
        obtain ⟨x3_4, o4, e4_0⟩ := tyG0 HJ203 (rfl : tyK 43 = (8, 0))
        refine g_tight h0 H.2.2.2.1 HJ203.2.2.2.1 (fun ta5 tb5 => ?_)
        have lm5 := HJ203.lim
        refine g_callVip (q := 207) (As := []) C gyX0_forkIsHarmed gvX0_forkIsHarmed t_973 (tX0_forkIsHarmed HJ203) dX0_tryAll_204 rfl o4 rfl rfl rfl (Nat.le_of_ble_eq_true rfl) (Nat.le_of_ble_eq_true rfl) (Nat.le_of_ble_eq_true rfl) (by show _ + _ ≤ 300000 - List.length hp; omega) (by show _ + _ ≤ 7000000 - gsz hp; omega) rfl (fun x6 h6 q6 => ?_)
        obtain ⟨b6, H6⟩ := q6
        refine g_if_eq (t := 255) (q := 210) C dX0_tryAll_207 (by decide) rfl (fun c_207 => ?_) (fun c_207 => ?_)
        ·
          refine g_tight h0 H.2.2.2.1 H6.2.2.2.1 (fun ta7 tb7 => ?_)
          exact J_255 _ _ _ _ _ _ _ _ (by have k0 : (0 : Int32).toInt = 0 := (by decide); have k4 : (4 : Int32).toInt = 4 := (by decide); omega) w203_73 w203_137 H6
        ·
          refine g_aload_n (q := 211) C dX0_tryAll_210 rfl rfl ?_
          obtain ⟨x3_8, o8, e8_0⟩ := tyG0 H6 (rfl : tyK 43 = (8, 0))
          refine g_getfield (v := .ref 114) (q := 214) C fX0_34 dX0_tryAll_211 rfl o8 rfl ?_
          refine g_iload_n (q := 215) C dX0_tryAll_214 rfl rfl ?_
          refine g_dup2 (q := 216) C dX0_tryAll_215 rfl rfl rfl ?_
          obtain ⟨f9, o9⟩ := tyArr H6 (rfl : tyK 114 = (2, 4))
          refine g_iaload (q := 217) C dX0_tryAll_216 rfl o9 (by have k0 : (0 : Int32).toInt = 0 := (by decide); have k4 : (4 : Int32).toInt = 4 := (by decide); exact vp_in0 (by omega) (by omega)) ?_
          refine g_iconst (v := 1) (q := 218) C dX0_tryAll_217 (by decide) rfl ?_
          refine g_iadd (q := 219) C dX0_tryAll_218 rfl ?_
          obtain ⟨f10, o10⟩ := tyArr H6 (rfl : tyK 114 = (2, 4))
          refine g_iastore (q := 220) C dX0_tryAll_219 rfl o10 (by have k0 : (0 : Int32).toInt = 0 := (by decide); have k4 : (4 : Int32).toInt = 4 := (by decide); exact vp_in0 (by omega) (by omega)) ?_
          refine tyPa H6 (rfl : tyK 114 = (2, 4)) (by decide +kernel) o10 (fun h10 H10 => ?_)
          refine g_aload_n (q := 221) C dX0_tryAll_220 rfl rfl ?_
          obtain ⟨x3_11, o11, e11_0⟩ := tyG0 H10 (rfl : tyK 43 = (8, 0))
          refine g_getfield (v := .ref 115) (q := 224) C fX0_37 dX0_tryAll_221 rfl o11 rfl ?_
          refine g_iload_n (q := 225) C dX0_tryAll_224 rfl rfl ?_
          refine g_aload_n (q := 226) C dX0_tryAll_225 rfl rfl ?_
          refine g_getfield (v := .ref 115) (q := 229) C fX0_37 dX0_tryAll_226 rfl o11 rfl ?_
          refine g_iload_n (q := 230) C dX0_tryAll_229 rfl rfl ?_
          obtain ⟨f12, o12⟩ := tyArr H10 (rfl : tyK 115 = (2, 4))
          refine g_iaload (q := 231) C dX0_tryAll_230 rfl o12 (by have k0 : (0 : Int32).toInt = 0 := (by decide); have k4 : (4 : Int32).toInt = 4 := (by decide); exact vp_in0 (by omega) (by omega)) ?_
          refine g_iconst (v := (-1)) (q := 232) C dX0_tryAll_231 (by decide) rfl ?_
          refine g_icmp_ne (t := 248) (q := 235) C dX0_tryAll_232 (by decide) rfl (fun c_232 => ?_) (fun c_232 => ?_)
          ·
            refine g_aload_n (q := 249) C dX0_tryAll_248 rfl rfl ?_
            refine g_getfield (v := .ref 115) (q := 252) C fX0_37 dX0_tryAll_249 rfl o11 rfl ?_
            refine g_iload_n (q := 253) C dX0_tryAll_252 rfl rfl ?_
            obtain ⟨f13, o13⟩ := tyArr H10 (rfl : tyK 115 = (2, 4))
            refine g_iaload (q := 254) C dX0_tryAll_253 rfl o13 (by have k0 : (0 : Int32).toInt = 0 := (by decide); have k4 : (4 : Int32).toInt = 4 := (by decide); exact vp_in0 (by omega) (by omega)) ?_
            refine g_tight h0 H.2.2.2.1 H10.2.2.2.1 (fun ta14 tb14 => ?_)
            exact J_254 _ _ _ _ _ _ _ _ _ _ (by have k0 : (0 : Int32).toInt = 0 := (by decide); have k4 : (4 : Int32).toInt = 4 := (by decide); omega) (by have k0 : (0 : Int32).toInt = 0 := (by decide); have k4 : (4 : Int32).toInt = 4 := (by decide); omega) w203_73 w203_137 H10
          ·
            refine g_iload (q := 237) C dX0_tryAll_235 rfl rfl ?_
            refine g_aload_n (q := 238) C dX0_tryAll_237 rfl rfl ?_
            obtain ⟨x3_15, x4_15, x5_15, x6_15, x7_15, x11_15, x12_15, x13_15, x14_15, x15_15, x16_15, x17_15, jv_15, o15, e15_0, e15_1, e15_2, e15_3⟩ := tyG2 H10 hk0
            refine g_getfieldW (v := .ref ((a0 + 15))) (q := 241) C fX0_57 dX0_tryAll_238 rfl o15 rfl ?_
            obtain ⟨x0_16, x1_16, x2_16, x6_16, x7_16, x8_16, x9_16, o16, e16_0⟩ := tyG6 H10 (tyF2_2 hk0)
            refine g_getfield (v := .int x1_16) (q := 244) C fX0_61 dX0_tryAll_241 rfl o16 rfl ?_
            refine g_isub (q := 245) C dX0_tryAll_244 rfl ?_
            refine g_goto (q := 254) C dX0_tryAll_245 (by decide) ?_
            refine g_tight h0 H.2.2.2.1 H10.2.2.2.1 (fun ta17 tb17 => ?_)
            exact J_254 _ _ _ _ _ _ _ _ _ _ (by have k0 : (0 : Int32).toInt = 0 := (by decide); have k4 : (4 : Int32).toInt = 4 := (by decide); omega) (by have k0 : (0 : Int32).toInt = 0 := (by decide); have k4 : (4 : Int32).toInt = 4 := (by decide); omega) w203_73 w203_137 H10
      have J_171 : ∀ (d171 : Nat) (y171_2 y171_3 y171_4 y171_5 y171_6 y171_7 : Int32) (zJ171 : Nat → Nat) (hJ171 : List gA), (2147483647 - y171_7.toInt).toNat = d171 → ∀ (v171_0 : ¬ y171_2.toInt < 0 ∧ y171_2.toInt < 4) (w171_73 : (2147483647 - (y171_3 + 1).toInt).toNat < d73) (w171_137 : (2147483647 - (y171_6 + 1).toInt).toNat < d137), tyS T R J Bc Bs M zJ171 hJ171 → gG X 171 [some (.ref 43), some (.ref a0), some (.int y171_2), some (.int y171_3), some (.int y171_4), some (.int y171_5), some (.int y171_6), some (.int y171_7)] [] hJ171 (hJ171.length - hp.length) (gsz hJ171 - gsz hp) := by
        intro d171
        induction d171 using Nat.strongRecOn with
        | _ d171 ih171 =>
        intro y171_2 y171_3 y171_4 y171_5 y171_6 y171_7 zJ171 hJ171 hd171 v171_0 w171_73 w171_137 HJ171
        refine g_iload (q := 173) C dX0_tryAll_171 rfl rfl ?_
        refine g_sipush (v := 400) (q := 176) C dX0_tryAll_173 (by decide) rfl ?_
        refine g_icmp_ge (t := 203) (q := 179) C dX0_tryAll_176 (by decide) rfl (fun c_176 => ?_) (fun c_176 => ?_)
        ·
          have i_176 := Int32.le_iff_toInt_le.mp c_176
          refine g_tight h0 H.2.2.2.1 HJ171.2.2.2.1 (fun ta18 tb18 => ?_)
          exact J_203 _ _ _ _ _ _ _ _ (by have k0 : (0 : Int32).toInt = 0 := (by decide); have k4 : (4 : Int32).toInt = 4 := (by decide); omega) w171_73 w171_137 HJ171
        ·
          have i_176 := mt Int32.le_iff_toInt_le.mpr c_176
          refine g_aload_n (q := 180) C dX0_tryAll_179 rfl rfl ?_
          obtain ⟨x3_19, o19, e19_0⟩ := tyG0 HJ171 (rfl : tyK 43 = (8, 0))
          refine g_getfield (v := .ref 90) (q := 183) C fX0_23 dX0_tryAll_180 rfl o19 rfl ?_
          obtain ⟨x3_20, x4_20, x5_20, x6_20, x7_20, x11_20, x12_20, x13_20, x14_20, x15_20, x16_20, x17_20, jv_20, o20, e20_0, e20_1, e20_2, e20_3⟩ := tyG2 HJ171 (rfl : tyK 90 = (7, 0))
          refine g_getfield (v := .int x3_20) (q := 186) C fX0_50 dX0_tryAll_183 rfl o20 rfl ?_
          refine g_iconst (v := 1) (q := 187) C dX0_tryAll_186 (by decide) rfl ?_
          refine g_icmp_ne (t := 203) (q := 190) C dX0_tryAll_187 (by decide) rfl (fun c_187 => ?_) (fun c_187 => ?_)
          ·
            refine g_tight h0 H.2.2.2.1 HJ171.2.2.2.1 (fun ta21 tb21 => ?_)
            exact J_203 _ _ _ _ _ _ _ _ (by have k0 : (0 : Int32).toInt = 0 := (by decide); have k4 : (4 : Int32).toInt = 4 := (by decide); omega) w171_73 w171_137 HJ171
          ·
            refine g_aload_n (q := 191) C dX0_tryAll_190 rfl rfl ?_
            refine g_getfield (v := .ref 90) (q := 194) C fX0_23 dX0_tryAll_191 rfl o19 rfl ?_
            refine g_tight h0 H.2.2.2.1 HJ171.2.2.2.1 (fun ta22 tb22 => ?_)
            have lm22 := HJ171.lim
            refine g_callVvp (q := 197) (As := []) C gyX2_turn gvX2_turn t_959 (tX2_turn HJ171 (rfl : tyK 90 = (7, 0))) dX0_tryAll_194 rfl o20 rfl rfl rfl (Nat.le_of_ble_eq_true rfl) (Nat.le_of_ble_eq_true rfl) (Nat.le_of_ble_eq_true rfl) (by show _ + _ ≤ 300000 - List.length hp; omega) (by show _ + _ ≤ 7000000 - gsz hp; omega) rfl (fun h23 q23 => ?_)
            obtain ⟨z23, H23⟩ := q23
            refine g_iinc (v := y171_7 + 1) (q := 200) C dX0_tryAll_197 rfl rfl (by simp only [gset]; rfl) rfl ?_
            refine g_goto (q := 171) C dX0_tryAll_200 (by decide) ?_
            refine g_tight h0 H.2.2.2.1 H23.2.2.2.1 (fun ta24 tb24 => ?_)
            exact ih171 _ (tyUp' hd171 c_176) _ _ _ _ _ _ _ _ rfl (by have k0 : (0 : Int32).toInt = 0 := (by decide); have k4 : (4 : Int32).toInt = 4 := (by decide); omega) w171_73 w171_137 H23
      refine g_iload (q := 139) C dX0_tryAll_137 rfl rfl ?_
      refine g_iload (q := 141) C dX0_tryAll_139 rfl rfl ?_
      refine g_icmp_ge (t := 261) (q := 144) C dX0_tryAll_141 (by decide) rfl (fun c_141 => ?_) (fun c_141 => ?_)
      ·
        have i_141 := Int32.le_iff_toInt_le.mp c_141
        refine g_aload_n (q := 262) C dX0_tryAll_261 rfl rfl ?_
        obtain ⟨x3_25, o25, e25_0⟩ := tyG0 HJ137 (rfl : tyK 43 = (8, 0))
        refine g_getfield (v := .ref 67) (q := 265) C fX0_20 dX0_tryAll_262 rfl o25 rfl ?_
        obtain ⟨x3_26, x4_26, x5_26, x6_26, x7_26, x11_26, x12_26, x13_26, x14_26, x15_26, x16_26, x17_26, jv_26, o26, e26_0, e26_1, e26_2, e26_3⟩ := tyG2 HJ137 (rfl : tyK 67 = (7, 0))
        refine g_tight h0 H.2.2.2.1 HJ137.2.2.2.1 (fun ta27 tb27 => ?_)
        have lm27 := HJ137.lim
        refine g_callVvp (q := 268) (As := []) C gyX2_turn gvX2_turn t_959 (tX2_turn HJ137 (rfl : tyK 67 = (7, 0))) dX0_tryAll_265 rfl o26 rfl rfl rfl (Nat.le_of_ble_eq_true rfl) (Nat.le_of_ble_eq_true rfl) (Nat.le_of_ble_eq_true rfl) (by show _ + _ ≤ 300000 - List.length hp; omega) (by show _ + _ ≤ 7000000 - gsz hp; omega) rfl (fun h28 q28 => ?_)
        obtain ⟨z28, H28⟩ := q28
        refine g_iinc (v := y137_3 + 1) (q := 271) C dX0_tryAll_268 rfl rfl (by simp only [gset]; rfl) rfl ?_
        refine g_goto (q := 73) C dX0_tryAll_271 (by decide) ?_
        refine g_forget (ls' := [some (.ref 43), some (.ref a0), some (.int y137_2), some (.int (y137_3 + 1)), none, none, none, none]) rfl (gfK (gfK (gfK (gfK (gfD (gfD (gfD (gfK gfN)))))))) ?_
        refine g_tight h0 H.2.2.2.1 H28.2.2.2.1 (fun ta29 tb29 => ?_)
        exact ih73 _ w137_73 _ _ _ _ rfl (by have k0 : (0 : Int32).toInt = 0 := (by decide); have k4 : (4 : Int32).toInt = 4 := (by decide); omega) H28
      ·
        have i_141 := mt Int32.le_iff_toInt_le.mpr c_141
        refine g_aload_n (q := 145) C dX0_tryAll_144 rfl rfl ?_
        obtain ⟨x3_30, o30, e30_0⟩ := tyG0 HJ137 (rfl : tyK 43 = (8, 0))
        refine g_getfield (v := .ref 90) (q := 148) C fX0_23 dX0_tryAll_145 rfl o30 rfl ?_
        refine g_aload_n (q := 149) C dX0_tryAll_148 rfl rfl ?_
        refine g_getfield (v := .ref 67) (q := 152) C fX0_20 dX0_tryAll_149 rfl o30 rfl ?_
        obtain ⟨x3_31, x4_31, x5_31, x6_31, x7_31, x11_31, x12_31, x13_31, x14_31, x15_31, x16_31, x17_31, jv_31, o31, e31_0, e31_1, e31_2, e31_3⟩ := tyG2 HJ137 (rfl : tyK 90 = (7, 0))
        refine g_tight h0 H.2.2.2.1 HJ137.2.2.2.1 (fun ta32 tb32 => ?_)
        have lm32 := HJ137.lim
        refine g_callVvp (q := 155) (As := [.ref 67]) C gyX2_copy gvX2_copy t_947 (tX2_copy HJ137 (rfl : tyK 90 = (7, 0)) (rfl : tyK 67 = (7, 0)) (by omega)) dX0_tryAll_152 rfl o31 rfl rfl rfl (Nat.le_of_ble_eq_true rfl) (Nat.le_of_ble_eq_true rfl) (Nat.le_of_ble_eq_true rfl) (by show _ + _ ≤ 300000 - List.length hp; omega) (by show _ + _ ≤ 7000000 - gsz hp; omega) rfl (fun h33 q33 => ?_)
        have H33 := q33
        refine g_aload_n (q := 156) C dX0_tryAll_155 rfl rfl ?_
        obtain ⟨x3_34, o34, e34_0⟩ := tyG0 H33 (rfl : tyK 43 = (8, 0))
        refine g_getfield (v := .ref 90) (q := 159) C fX0_23 dX0_tryAll_156 rfl o34 rfl ?_
        obtain ⟨x3_35, x4_35, x5_35, x6_35, x7_35, x11_35, x12_35, x13_35, x14_35, x15_35, x16_35, x17_35, jv_35, o35, e35_0, e35_1, e35_2, e35_3⟩ := tyG2 H33 (rfl : tyK 90 = (7, 0))
        refine g_getfieldW (v := .ref ((90 + 15))) (q := 162) C fX0_57 dX0_tryAll_159 rfl o35 rfl ?_
        refine g_iload (q := 164) C dX0_tryAll_162 rfl rfl ?_
        refine g_iload_n (q := 165) C dX0_tryAll_164 rfl rfl ?_
        obtain ⟨x0_36, x1_36, x2_36, x6_36, x7_36, x8_36, x9_36, o36, e36_0⟩ := tyG6 H33 (tyF2_2 (rfl : tyK 90 = (7, 0)))
        refine g_tight h0 H.2.2.2.1 H33.2.2.2.1 (fun ta37 tb37 => ?_)
        have lm37 := H33.lim
        refine g_callVvp (q := 168) (As := [.int y137_6, .int y137_2]) C gyX6_probe gvX6_probe t_969 (tX6_probe H33 (tyF2_2 (rfl : tyK 90 = (7, 0)))) dX0_tryAll_165 rfl o36 rfl rfl rfl (Nat.le_of_ble_eq_true rfl) (Nat.le_of_ble_eq_true rfl) (Nat.le_of_ble_eq_true rfl) (by show _ + _ ≤ 300000 - List.length hp; omega) (by show _ + _ ≤ 7000000 - gsz hp; omega) rfl (fun h38 q38 => ?_)
        have H38 := q38
        refine g_iload_n (q := 169) C dX0_tryAll_168 rfl rfl ?_
        refine g_istore (q := 171) C dX0_tryAll_169 (Nat.le_of_ble_eq_true rfl) (by simp only [gset]; rfl) rfl ?_
        refine g_tight h0 H.2.2.2.1 H38.2.2.2.1 (fun ta39 tb39 => ?_)
        exact J_171 _ _ _ _ _ _ _ _ _ rfl (by have k0 : (0 : Int32).toInt = 0 := (by decide); have k4 : (4 : Int32).toInt = 4 := (by decide); omega) w137_73 (tyUp' hd137 c_141) H38
    refine g_iload_n (q := 74) C dX0_tryAll_73 rfl rfl ?_
    refine g_sipush (v := 400) (q := 77) C dX0_tryAll_74 (by decide) rfl ?_
    refine g_icmp_ge (t := 274) (q := 80) C dX0_tryAll_77 (by decide) rfl (fun c_77 => ?_) (fun c_77 => ?_)
    ·
      have i_77 := Int32.le_iff_toInt_le.mp c_77
      refine g_tight h0 H.2.2.2.1 HJ73.2.2.2.1 (fun ta40 tb40 => ?_)
      have lm40 := HJ73.lim
      exact E.2.1 _ _ _ _ _ dX0_tryAll_274 rfl (by omega) (by omega) ⟨rfl, ⟨_, HJ73⟩⟩
    ·
      have i_77 := mt Int32.le_iff_toInt_le.mpr c_77
      refine g_aload_n (q := 81) C dX0_tryAll_80 rfl rfl ?_
      obtain ⟨x3_41, o41, e41_0⟩ := tyG0 HJ73 (rfl : tyK 43 = (8, 0))
      refine g_getfield (v := .ref 67) (q := 84) C fX0_20 dX0_tryAll_81 rfl o41 rfl ?_
      obtain ⟨x3_42, x4_42, x5_42, x6_42, x7_42, x11_42, x12_42, x13_42, x14_42, x15_42, x16_42, x17_42, jv_42, o42, e42_0, e42_1, e42_2, e42_3⟩ := tyG2 HJ73 (rfl : tyK 67 = (7, 0))
      refine g_getfield (v := .int x3_42) (q := 87) C fX0_50 dX0_tryAll_84 rfl o42 rfl ?_
      refine g_iconst (v := 1) (q := 88) C dX0_tryAll_87 (by decide) rfl ?_
      refine g_icmp_ne (t := 274) (q := 91) C dX0_tryAll_88 (by decide) rfl (fun c_88 => ?_) (fun c_88 => ?_)
      ·
        refine g_tight h0 H.2.2.2.1 HJ73.2.2.2.1 (fun ta43 tb43 => ?_)
        have lm43 := HJ73.lim
        exact E.2.1 _ _ _ _ _ dX0_tryAll_274 rfl (by omega) (by omega) ⟨rfl, ⟨_, HJ73⟩⟩
      ·
        refine g_aload_n (q := 92) C dX0_tryAll_91 rfl rfl ?_
        refine g_getfield (v := .ref 67) (q := 95) C fX0_20 dX0_tryAll_92 rfl o41 rfl ?_
        refine g_getfieldW (v := .ref ((67 + 15))) (q := 98) C fX0_57 dX0_tryAll_95 rfl o42 rfl ?_
        obtain ⟨x0_44, x1_44, x2_44, x6_44, x7_44, x8_44, x9_44, o44, e44_0⟩ := tyG6 HJ73 (tyF2_2 (rfl : tyK 67 = (7, 0)))
        refine g_getfield (v := .int x1_44) (q := 101) C fX0_61 dX0_tryAll_98 rfl o44 rfl ?_
        refine g_istore (q := 103) C dX0_tryAll_101 (Nat.le_of_ble_eq_true rfl) (by simp only [gset]; rfl) rfl ?_
        refine g_aload_n (q := 104) C dX0_tryAll_103 rfl rfl ?_
        refine g_getfield (v := .ref 90) (q := 107) C fX0_23 dX0_tryAll_104 rfl o41 rfl ?_
        refine g_aload_n (q := 108) C dX0_tryAll_107 rfl rfl ?_
        refine g_getfield (v := .ref 67) (q := 111) C fX0_20 dX0_tryAll_108 rfl o41 rfl ?_
        obtain ⟨x3_45, x4_45, x5_45, x6_45, x7_45, x11_45, x12_45, x13_45, x14_45, x15_45, x16_45, x17_45, jv_45, o45, e45_0, e45_1, e45_2, e45_3⟩ := tyG2 HJ73 (rfl : tyK 90 = (7, 0))
        refine g_tight h0 H.2.2.2.1 HJ73.2.2.2.1 (fun ta46 tb46 => ?_)
        have lm46 := HJ73.lim
        refine g_callVvp (q := 114) (As := [.ref 67]) C gyX2_copy gvX2_copy t_947 (tX2_copy HJ73 (rfl : tyK 90 = (7, 0)) (rfl : tyK 67 = (7, 0)) (by omega)) dX0_tryAll_111 rfl o45 rfl rfl rfl (Nat.le_of_ble_eq_true rfl) (Nat.le_of_ble_eq_true rfl) (Nat.le_of_ble_eq_true rfl) (by show _ + _ ≤ 300000 - List.length hp; omega) (by show _ + _ ≤ 7000000 - gsz hp; omega) rfl (fun h47 q47 => ?_)
        have H47 := q47
        refine g_aload_n (q := 115) C dX0_tryAll_114 rfl rfl ?_
        obtain ⟨x3_48, o48, e48_0⟩ := tyG0 H47 (rfl : tyK 43 = (8, 0))
        refine g_getfield (v := .ref 90) (q := 118) C fX0_23 dX0_tryAll_115 rfl o48 rfl ?_
        obtain ⟨x3_49, x4_49, x5_49, x6_49, x7_49, x11_49, x12_49, x13_49, x14_49, x15_49, x16_49, x17_49, jv_49, o49, e49_0, e49_1, e49_2, e49_3⟩ := tyG2 H47 (rfl : tyK 90 = (7, 0))
        refine g_tight h0 H.2.2.2.1 H47.2.2.2.1 (fun ta50 tb50 => ?_)
        have lm50 := H47.lim
        refine g_callVvp (q := 121) (As := []) C gyX2_turn gvX2_turn t_959 (tX2_turn H47 (rfl : tyK 90 = (7, 0))) dX0_tryAll_118 rfl o49 rfl rfl rfl (Nat.le_of_ble_eq_true rfl) (Nat.le_of_ble_eq_true rfl) (Nat.le_of_ble_eq_true rfl) (by show _ + _ ≤ 300000 - List.length hp; omega) (by show _ + _ ≤ 7000000 - gsz hp; omega) rfl (fun h51 q51 => ?_)
        obtain ⟨z51, H51⟩ := q51
        refine g_aload_n (q := 122) C dX0_tryAll_121 rfl rfl ?_
        obtain ⟨x3_52, o52, e52_0⟩ := tyG0 H51 (rfl : tyK 43 = (8, 0))
        refine g_getfield (v := .ref 90) (q := 125) C fX0_23 dX0_tryAll_122 rfl o52 rfl ?_
        obtain ⟨x3_53, x4_53, x5_53, x6_53, x7_53, x11_53, x12_53, x13_53, x14_53, x15_53, x16_53, x17_53, jv_53, o53, e53_0, e53_1, e53_2, e53_3⟩ := tyG2 H51 (rfl : tyK 90 = (7, 0))
        refine g_getfieldW (v := .ref ((90 + 15))) (q := 128) C fX0_57 dX0_tryAll_125 rfl o53 rfl ?_
        obtain ⟨x0_54, x1_54, x2_54, x6_54, x7_54, x8_54, x9_54, o54, e54_0⟩ := tyG6 H51 (tyF2_2 (rfl : tyK 90 = (7, 0)))
        refine g_getfield (v := .int x1_54) (q := 131) C fX0_61 dX0_tryAll_128 rfl o54 rfl ?_
        refine g_istore (q := 133) C dX0_tryAll_131 (Nat.le_of_ble_eq_true rfl) (by simp only [gset]; rfl) rfl ?_
        refine g_iload (q := 135) C dX0_tryAll_133 rfl rfl ?_
        refine g_istore (q := 137) C dX0_tryAll_135 (Nat.le_of_ble_eq_true rfl) (by simp only [gset]; rfl) rfl ?_
        refine g_tight h0 H.2.2.2.1 H51.2.2.2.1 (fun ta55 tb55 => ?_)
        exact J_137 _ _ _ _ _ _ _ _ rfl (by have k0 : (0 : Int32).toInt = 0 := (by decide); have k4 : (4 : Int32).toInt = 4 := (by decide); omega) (tyUp' hd73 c_77) H51
  refine g_iload_n (q := 1) C dX0_tryAll_0 rfl rfl ?_
  refine g_if_lt (t := 41) (q := 4) C dX0_tryAll_1 (by decide) rfl (fun c_1 => ?_) (fun c_1 => ?_)
  ·
    have i_1 := Int32.lt_iff_toInt_lt.mp c_1
    refine g_tight h0 H.2.2.2.1 H.2.2.2.1 (fun ta56 tb56 => ?_)
    have lm56 := H.lim
    exact E.2.1 _ _ _ _ _ dX0_tryAll_41 rfl (by omega) (by omega) ⟨rfl, ⟨_, H⟩⟩
  ·
    have i_1 := mt Int32.lt_iff_toInt_lt.mpr c_1
    refine g_iload_n (q := 5) C dX0_tryAll_4 rfl rfl ?_
    refine g_aload_n (q := 6) C dX0_tryAll_5 rfl rfl ?_
    obtain ⟨x3_57, o57, e57_0⟩ := tyG0 H (rfl : tyK 43 = (8, 0))
    refine g_getfield (v := .ref 113) (q := 9) C fX0_30 dX0_tryAll_6 rfl o57 rfl ?_
    obtain ⟨f58, o58⟩ := tyArr H (rfl : tyK 113 = (2, 4))
    refine g_arraylength (v := 4) (q := 10) C dX0_tryAll_9 rfl o58 (by decide) ?_
    refine g_icmp_ge (t := 41) (q := 13) C dX0_tryAll_10 (by decide) rfl (fun c_10 => ?_) (fun c_10 => ?_)
    ·
      have i_10 := Int32.le_iff_toInt_le.mp c_10
      refine g_tight h0 H.2.2.2.1 H.2.2.2.1 (fun ta59 tb59 => ?_)
      have lm59 := H.lim
      exact E.2.1 _ _ _ _ _ dX0_tryAll_41 rfl (by omega) (by omega) ⟨rfl, ⟨_, H⟩⟩
    ·
      have i_10 := mt Int32.le_iff_toInt_le.mpr c_10
      refine g_iload_n (q := 14) C dX0_tryAll_13 rfl rfl ?_
      refine g_aload_n (q := 15) C dX0_tryAll_14 rfl rfl ?_
      refine g_getfield (v := .ref 114) (q := 18) C fX0_34 dX0_tryAll_15 rfl o57 rfl ?_
      obtain ⟨f60, o60⟩ := tyArr H (rfl : tyK 114 = (2, 4))
      refine g_arraylength (v := 4) (q := 19) C dX0_tryAll_18 rfl o60 (by decide) ?_
      refine g_icmp_ge (t := 41) (q := 22) C dX0_tryAll_19 (by decide) rfl (fun c_19 => ?_) (fun c_19 => ?_)
      ·
        have i_19 := Int32.le_iff_toInt_le.mp c_19
        refine g_tight h0 H.2.2.2.1 H.2.2.2.1 (fun ta61 tb61 => ?_)
        have lm61 := H.lim
        exact E.2.1 _ _ _ _ _ dX0_tryAll_41 rfl (by omega) (by omega) ⟨rfl, ⟨_, H⟩⟩
      ·
        have i_19 := mt Int32.le_iff_toInt_le.mpr c_19
        refine g_iload_n (q := 23) C dX0_tryAll_22 rfl rfl ?_
        refine g_aload_n (q := 24) C dX0_tryAll_23 rfl rfl ?_
        refine g_getfield (v := .ref 115) (q := 27) C fX0_37 dX0_tryAll_24 rfl o57 rfl ?_
        obtain ⟨f62, o62⟩ := tyArr H (rfl : tyK 115 = (2, 4))
        refine g_arraylength (v := 4) (q := 28) C dX0_tryAll_27 rfl o62 (by decide) ?_
        refine g_icmp_ge (t := 41) (q := 31) C dX0_tryAll_28 (by decide) rfl (fun c_28 => ?_) (fun c_28 => ?_)
        ·
          have i_28 := Int32.le_iff_toInt_le.mp c_28
          refine g_tight h0 H.2.2.2.1 H.2.2.2.1 (fun ta63 tb63 => ?_)
          have lm63 := H.lim
          exact E.2.1 _ _ _ _ _ dX0_tryAll_41 rfl (by omega) (by omega) ⟨rfl, ⟨_, H⟩⟩
        ·
          have i_28 := mt Int32.le_iff_toInt_le.mpr c_28
          refine g_aload_n (q := 32) C dX0_tryAll_31 rfl rfl ?_
          refine g_getfield (v := .ref 113) (q := 35) C fX0_30 dX0_tryAll_32 rfl o57 rfl ?_
          refine g_iload_n (q := 36) C dX0_tryAll_35 rfl rfl ?_
          obtain ⟨f64, o64⟩ := tyArr H (rfl : tyK 113 = (2, 4))
          refine g_iaload (q := 37) C dX0_tryAll_36 rfl o64 (by have k0 : (0 : Int32).toInt = 0 := (by decide); have k4 : (4 : Int32).toInt = 4 := (by decide); exact vp_in0 (by omega) (by omega)) ?_
          refine g_iconst (v := 1) (q := 38) C dX0_tryAll_37 (by decide) rfl ?_
          refine g_icmp_ne (t := 42) (q := 41) C dX0_tryAll_38 (by decide) rfl (fun c_38 => ?_) (fun c_38 => ?_)
          ·
            refine g_aload_n (q := 43) C dX0_tryAll_42 rfl rfl ?_
            refine g_getfield (v := .ref 113) (q := 46) C fX0_30 dX0_tryAll_43 rfl o57 rfl ?_
            refine g_iload_n (q := 47) C dX0_tryAll_46 rfl rfl ?_
            refine g_iconst (v := 1) (q := 48) C dX0_tryAll_47 (by decide) rfl ?_
            obtain ⟨f65, o65⟩ := tyArr H (rfl : tyK 113 = (2, 4))
            refine g_iastore (q := 49) C dX0_tryAll_48 rfl o65 (by have k0 : (0 : Int32).toInt = 0 := (by decide); have k4 : (4 : Int32).toInt = 4 := (by decide); exact vp_in0 (by omega) (by omega)) ?_
            refine tyPa H (rfl : tyK 113 = (2, 4)) (by decide +kernel) o65 (fun h65 H65 => ?_)
            refine g_aload_n (q := 50) C dX0_tryAll_49 rfl rfl ?_
            obtain ⟨x3_66, o66, e66_0⟩ := tyG0 H65 (rfl : tyK 43 = (8, 0))
            refine g_getfield (v := .ref 114) (q := 53) C fX0_34 dX0_tryAll_50 rfl o66 rfl ?_
            refine g_iload_n (q := 54) C dX0_tryAll_53 rfl rfl ?_
            refine g_iconst (v := 0) (q := 55) C dX0_tryAll_54 (by decide) rfl ?_
            obtain ⟨f67, o67⟩ := tyArr H65 (rfl : tyK 114 = (2, 4))
            refine g_iastore (q := 56) C dX0_tryAll_55 rfl o67 (by have k0 : (0 : Int32).toInt = 0 := (by decide); have k4 : (4 : Int32).toInt = 4 := (by decide); exact vp_in0 (by omega) (by omega)) ?_
            refine tyPa H65 (rfl : tyK 114 = (2, 4)) (by decide +kernel) o67 (fun h67 H67 => ?_)
            refine g_aload_n (q := 57) C dX0_tryAll_56 rfl rfl ?_
            obtain ⟨x3_68, o68, e68_0⟩ := tyG0 H67 (rfl : tyK 43 = (8, 0))
            refine g_getfield (v := .ref 115) (q := 60) C fX0_37 dX0_tryAll_57 rfl o68 rfl ?_
            refine g_iload_n (q := 61) C dX0_tryAll_60 rfl rfl ?_
            refine g_iconst (v := (-1)) (q := 62) C dX0_tryAll_61 (by decide) rfl ?_
            obtain ⟨f69, o69⟩ := tyArr H67 (rfl : tyK 115 = (2, 4))
            refine g_iastore (q := 63) C dX0_tryAll_62 rfl o69 (by have k0 : (0 : Int32).toInt = 0 := (by decide); have k4 : (4 : Int32).toInt = 4 := (by decide); exact vp_in0 (by omega) (by omega)) ?_
            refine tyPa H67 (rfl : tyK 115 = (2, 4)) (by decide +kernel) o69 (fun h69 H69 => ?_)
            refine g_aload_n (q := 64) C dX0_tryAll_63 rfl rfl ?_
            obtain ⟨x3_70, o70, e70_0⟩ := tyG0 H69 (rfl : tyK 43 = (8, 0))
            refine g_getfield (v := .ref 67) (q := 67) C fX0_20 dX0_tryAll_64 rfl o70 rfl ?_
            refine g_aload_n (q := 68) C dX0_tryAll_67 rfl rfl ?_
            obtain ⟨x3_71, x4_71, x5_71, x6_71, x7_71, x11_71, x12_71, x13_71, x14_71, x15_71, x16_71, x17_71, jv_71, o71, e71_0, e71_1, e71_2, e71_3⟩ := tyG2 H69 (rfl : tyK 67 = (7, 0))
            refine g_tight h0 H.2.2.2.1 H69.2.2.2.1 (fun ta72 tb72 => ?_)
            have lm72 := H69.lim
            refine g_callVvp (q := 71) (As := [.ref a0]) C gyX2_copy gvX2_copy t_947 (tX2_copy H69 (rfl : tyK 67 = (7, 0)) hk0 (by omega)) dX0_tryAll_68 rfl o71 rfl rfl rfl (Nat.le_of_ble_eq_true rfl) (Nat.le_of_ble_eq_true rfl) (Nat.le_of_ble_eq_true rfl) (by show _ + _ ≤ 300000 - List.length hp; omega) (by show _ + _ ≤ 7000000 - gsz hp; omega) rfl (fun h73 q73 => ?_)
            have H73 := q73
            refine g_iconst (v := 0) (q := 72) C dX0_tryAll_71 (by decide) rfl ?_
            refine g_istore_n (q := 73) C dX0_tryAll_72 (Nat.le_of_ble_eq_true rfl) (by simp only [gset]; rfl) rfl ?_
            refine g_tight h0 H.2.2.2.1 H73.2.2.2.1 (fun ta74 tb74 => ?_)
            exact J_73 _ _ _ _ _ rfl (by have k0 : (0 : Int32).toInt = 0 := (by decide); have k4 : (4 : Int32).toInt = 4 := (by decide); omega) H73
          ·
            refine g_tight h0 H.2.2.2.1 H.2.2.2.1 (fun ta75 tb75 => ?_)
            have lm75 := H.lim
            exact E.2.1 _ _ _ _ _ dX0_tryAll_41 rfl (by omega) (by omega) ⟨rfl, ⟨_, H⟩⟩
