/-! THE FORECAST, THE RESET ANSWER BY SHAPE (by program: wip/p2t/m_tfore.py, gen6.py) -/
theorem dJ7_fill_53178_0 : decode cJ7_fill_53178 0 = .ok (.iconst 0, 1) := by decide +kernel
theorem dJ7_fill_53178_1 : decode cJ7_fill_53178 1 = .ok (.istore_n 2, 1) := by decide +kernel
theorem dJ7_fill_53178_2 : decode cJ7_fill_53178 2 = .ok (.aload_n 0, 1) := by decide +kernel
theorem dJ7_fill_53178_3 : decode cJ7_fill_53178 3 = .ok (.arraylength, 1) := by decide +kernel
theorem dJ7_fill_53178_4 : decode cJ7_fill_53178 4 = .ok (.istore_n 3, 1) := by decide +kernel
theorem dJ7_fill_53178_5 : decode cJ7_fill_53178 5 = .ok (.iload_n 2, 1) := by decide +kernel
theorem dJ7_fill_53178_6 : decode cJ7_fill_53178 6 = .ok (.iload_n 3, 1) := by decide +kernel
theorem dJ7_fill_53178_7 : decode cJ7_fill_53178 7 = .ok (.if_icmp .ge 13, 3) := by decide +kernel
theorem dJ7_fill_53178_10 : decode cJ7_fill_53178 10 = .ok (.aload_n 0, 1) := by decide +kernel
theorem dJ7_fill_53178_11 : decode cJ7_fill_53178 11 = .ok (.iload_n 2, 1) := by decide +kernel
theorem dJ7_fill_53178_12 : decode cJ7_fill_53178 12 = .ok (.iload_n 1, 1) := by decide +kernel
theorem dJ7_fill_53178_13 : decode cJ7_fill_53178 13 = .ok (.iastore, 1) := by decide +kernel
theorem dJ7_fill_53178_14 : decode cJ7_fill_53178 14 = .ok (.iinc 2 1, 3) := by decide +kernel
theorem dJ7_fill_53178_17 : decode cJ7_fill_53178 17 = .ok (.goto (-12), 3) := by decide +kernel
theorem dJ7_fill_53178_20 : decode cJ7_fill_53178 20 = .ok (.return_, 1) := by decide +kernel
set_option maxRecDepth 100000 in
set_option maxHeartbeats 4000000 in
theorem tJ7_fill_53178 {T R : Nat} {J : Nat → Prop} {Bc Bs : Nat} {M : gMd} {z : Nat → Nat} {hp : List gA} {a0 : Nat} {a1 : Int32}  (H : tyS T R J Bc Bs M z hp) (hk0 : tyK a0 = (2, 4)) (hno0 : ∀ q, q < 122 → (tyK q).1 = 1 ∨ (tyK q).1 = 4 → ¬ q + 1 = a0)  : gM yJ7_fill_53178 cJ7_fill_53178 4 (none) 0 0 [.ref a0, .int a1] (hp) (0) (0) (fun v h => v = none ∧ tyS T R J Bc Bs M z h) := by
  refine gM_of (ls0 := [some (.ref a0), some (.int a1), none, none]) (by decide +kernel) (Nat.le_of_ble_eq_true rfl) rfl fun X C E => ?_
  have J_5 : ∀ (d5 : Nat) (y5_1 y5_2 y5_3 : Int32) (hJ5 : List gA), (2147483647 - y5_2.toInt).toNat = d5 → ∀ (v5_0 : ¬ y5_2.toInt < 0) (v5_1 : y5_3.toInt = 4), tyS T R J Bc Bs M z hJ5 → gG X 5 [some (.ref a0), some (.int y5_1), some (.int y5_2), some (.int y5_3)] [] hJ5 0 0 := by
    intro d5
    induction d5 using Nat.strongRecOn with
    | _ d5 ih5 =>
    intro y5_1 y5_2 y5_3 hJ5 hd5 v5_0 v5_1 HJ5
    refine g_iload_n (q := 6) C dJ7_fill_53178_5 rfl rfl ?_
    refine g_iload_n (q := 7) C dJ7_fill_53178_6 rfl rfl ?_
    refine g_icmp_ge (t := 20) (q := 10) C dJ7_fill_53178_7 (by decide) rfl (fun c_7 => ?_) (fun c_7 => ?_)
    ·
      have i_7 := Int32.le_iff_toInt_le.mp c_7
      exact E.2.1 _ _ _ _ _ dJ7_fill_53178_20 rfl (Nat.le_of_ble_eq_true rfl) (Nat.le_of_ble_eq_true rfl) ⟨rfl, HJ5⟩
    ·
      have i_7 := mt Int32.le_iff_toInt_le.mpr c_7
      refine g_aload_n (q := 11) C dJ7_fill_53178_10 rfl rfl ?_
      refine g_iload_n (q := 12) C dJ7_fill_53178_11 rfl rfl ?_
      refine g_iload_n (q := 13) C dJ7_fill_53178_12 rfl rfl ?_
      obtain ⟨f1, o1⟩ := tyArr HJ5 hk0
      refine g_iastore (q := 14) C dJ7_fill_53178_13 rfl o1 (by have k0 : (0 : Int32).toInt = 0 := (by decide); have k4 : (4 : Int32).toInt = 4 := (by decide); exact vp_in0 (by omega) (by omega)) ?_
      refine tyPa HJ5 hk0 hno0 o1 (fun h1 H1 => ?_)
      refine g_iinc (v := y5_2 + 1) (q := 17) C dJ7_fill_53178_14 rfl rfl (by simp only [gset]; rfl) rfl ?_
      refine g_goto (q := 5) C dJ7_fill_53178_17 (by decide) ?_
      exact ih5 _ (tyUp' hd5 c_7) _ _ _ _ rfl (by have k0 : (0 : Int32).toInt = 0 := (by decide); have k4 : (4 : Int32).toInt = 4 := (by decide); have ks := tyS1 (x := y5_2); omega) (by have k0 : (0 : Int32).toInt = 0 := (by decide); have k4 : (4 : Int32).toInt = 4 := (by decide); omega) H1
  refine g_iconst (v := 0) (q := 1) C dJ7_fill_53178_0 (by decide) rfl ?_
  refine g_istore_n (q := 2) C dJ7_fill_53178_1 (Nat.le_of_ble_eq_true rfl) (by simp only [gset]; rfl) rfl ?_
  refine g_aload_n (q := 3) C dJ7_fill_53178_2 rfl rfl ?_
  obtain ⟨f2, o2⟩ := tyArr H hk0
  refine g_arraylength (v := 4) (q := 4) C dJ7_fill_53178_3 rfl o2 (by decide) ?_
  refine g_istore_n (q := 5) C dJ7_fill_53178_4 (Nat.le_of_ble_eq_true rfl) (by simp only [gset]; rfl) rfl ?_
  exact J_5 _ _ _ _ _ rfl (by have k0 : (0 : Int32).toInt = 0 := (by decide); have k4 : (4 : Int32).toInt = 4 := (by decide); omega) (by have k0 : (0 : Int32).toInt = 0 := (by decide); have k4 : (4 : Int32).toInt = 4 := (by decide); omega) H
theorem dX0_forget_0 : decode cX0_forget 0 = .ok (.aload_n 0, 1) := by decide +kernel
theorem dX0_forget_1 : decode cX0_forget 1 = .ok (.iconst 0, 1) := by decide +kernel
theorem dX0_forget_2 : decode cX0_forget 2 = .ok (.putfield 26, 3) := by decide +kernel
theorem dX0_forget_5 : decode cX0_forget 5 = .ok (.aload_n 0, 1) := by decide +kernel
theorem dX0_forget_6 : decode cX0_forget 6 = .ok (.getfield 30, 3) := by decide +kernel
theorem dX0_forget_9 : decode cX0_forget 9 = .ok (.iconst 0, 1) := by decide +kernel
theorem dX0_forget_10 : decode cX0_forget 10 = .ok (.invokestatic 40, 3) := by decide +kernel
theorem dX0_forget_13 : decode cX0_forget 13 = .ok (.return_, 1) := by decide +kernel
set_option maxRecDepth 100000 in
set_option maxHeartbeats 4000000 in
theorem tX0_forget {T R : Nat} {J : Nat → Prop} {Bc Bs : Nat} {M : gMd} {z : Nat → Nat} {hp : List gA}  (H : tyS T R J Bc Bs M z hp)  : gM yX0_forget cX0_forget 1 (none) 1 23 [.ref 43] (hp) (0) (0) (fun v h => v = none ∧ tyS T R J Bc Bs M z h) := by
  refine gM_of (ls0 := [some (.ref 43)]) (by decide +kernel) (Nat.le_of_ble_eq_true rfl) rfl fun X C E => ?_
  refine g_aload_n (q := 1) C dX0_forget_0 rfl rfl ?_
  refine g_iconst (v := 0) (q := 2) C dX0_forget_1 (by decide) rfl ?_
  obtain ⟨x3_1, o1, e1_0⟩ := tyG0 H (rfl : tyK 43 = (8, 0))
  refine g_putfield (q := 5) C fX0_26 dX0_forget_2 rfl o1 (Nat.le_of_ble_eq_true rfl) (Or.inl rfl) (tyNar (Or.inl rfl)) (tyFit (Or.inl rfl)) (by intro z h; cases h) ?_
  refine tyP0 H (rfl : tyK 43 = (8, 0)) rfl (Or.inl rfl) (fun h2 _ _ H2 => ?_)
  refine g_aload_n (q := 6) C dX0_forget_5 rfl rfl ?_
  obtain ⟨x3_3, o3, e3_0⟩ := tyG0 H2 (rfl : tyK 43 = (8, 0))
  refine g_getfield (v := .ref 113) (q := 9) C fX0_30 dX0_forget_6 rfl o3 rfl ?_
  refine g_iconst (v := 0) (q := 10) C dX0_forget_9 (by decide) rfl ?_
  refine g_callSvp (q := 13) (As := [.ref 113, .int 0]) C gyJ7_fill_53178 t_592 t_591 (tJ7_fill_53178 H2 (rfl : tyK 113 = (2, 4)) (by decide +kernel)) dX0_forget_10 rfl rfl rfl (Nat.le_of_ble_eq_true rfl) (Nat.le_of_ble_eq_true rfl) (Nat.le_of_ble_eq_true rfl) (Nat.le_of_ble_eq_true rfl) (Nat.le_of_ble_eq_true rfl) rfl (fun h4 q4 => ?_)
  have H4 := q4
  exact E.2.1 _ _ _ _ _ dX0_forget_13 rfl (Nat.le_of_ble_eq_true rfl) (Nat.le_of_ble_eq_true rfl) ⟨rfl, H4⟩
theorem dX0_firstHarmful_0 : decode cX0_firstHarmful 0 = .ok (.iload_n 1, 1) := by decide +kernel
theorem dX0_firstHarmful_1 : decode cX0_firstHarmful 1 = .ok (.ifCond .lt 21, 3) := by decide +kernel
theorem dX0_firstHarmful_4 : decode cX0_firstHarmful 4 = .ok (.iload_n 1, 1) := by decide +kernel
theorem dX0_firstHarmful_5 : decode cX0_firstHarmful 5 = .ok (.aload_n 0, 1) := by decide +kernel
theorem dX0_firstHarmful_6 : decode cX0_firstHarmful 6 = .ok (.getfield 37, 3) := by decide +kernel
theorem dX0_firstHarmful_9 : decode cX0_firstHarmful 9 = .ok (.arraylength, 1) := by decide +kernel
theorem dX0_firstHarmful_10 : decode cX0_firstHarmful 10 = .ok (.if_icmp .ge 12, 3) := by decide +kernel
theorem dX0_firstHarmful_13 : decode cX0_firstHarmful 13 = .ok (.aload_n 0, 1) := by decide +kernel
theorem dX0_firstHarmful_14 : decode cX0_firstHarmful 14 = .ok (.getfield 37, 3) := by decide +kernel
theorem dX0_firstHarmful_17 : decode cX0_firstHarmful 17 = .ok (.iload_n 1, 1) := by decide +kernel
theorem dX0_firstHarmful_18 : decode cX0_firstHarmful 18 = .ok (.iaload, 1) := by decide +kernel
theorem dX0_firstHarmful_19 : decode cX0_firstHarmful 19 = .ok (.goto 4, 3) := by decide +kernel
theorem dX0_firstHarmful_22 : decode cX0_firstHarmful 22 = .ok (.iconst (-1), 1) := by decide +kernel
theorem dX0_firstHarmful_23 : decode cX0_firstHarmful 23 = .ok (.ireturn, 1) := by decide +kernel
set_option maxRecDepth 100000 in
set_option maxHeartbeats 4000000 in
theorem tX0_firstHarmful {T R : Nat} {J : Nat → Prop} {Bc Bs : Nat} {M : gMd} {z : Nat → Nat} {hp : List gA} {a0 : Int32}  (H : tyS T R J Bc Bs M z hp)  : gM yX0_firstHarmful cX0_firstHarmful 2 ((some .int)) 0 0 [.ref 43, .int a0] (hp) (0) (0) (fun v h => ∃ x, v = some (.int x) ∧ tyS T R J Bc Bs M z h) := by
  refine gM_of (ls0 := [some (.ref 43), some (.int a0)]) (by decide +kernel) (Nat.le_of_ble_eq_true rfl) rfl fun X C E => ?_
  have J_22 : ∀ (y22_1 : Int32) (hJ22 : List gA), tyS T R J Bc Bs M z hJ22 → gG X 22 [some (.ref 43), some (.int y22_1)] [] hJ22 0 0 := by
    intro y22_1 hJ22 HJ22
    refine g_iconst (v := (-1)) (q := 23) C dX0_firstHarmful_22 (by decide) rfl ?_
    exact E.1 _ _ _ _ _ _ _ dX0_firstHarmful_23 rfl rfl (Nat.le_of_ble_eq_true rfl) (Nat.le_of_ble_eq_true rfl) ⟨_, rfl, HJ22⟩
  refine g_iload_n (q := 1) C dX0_firstHarmful_0 rfl rfl ?_
  refine g_if_lt (t := 22) (q := 4) C dX0_firstHarmful_1 (by decide) rfl (fun c_1 => ?_) (fun c_1 => ?_)
  ·
    have i_1 := Int32.lt_iff_toInt_lt.mp c_1
    exact J_22 _ _  H
  ·
    have i_1 := mt Int32.lt_iff_toInt_lt.mpr c_1
    refine g_iload_n (q := 5) C dX0_firstHarmful_4 rfl rfl ?_
    refine g_aload_n (q := 6) C dX0_firstHarmful_5 rfl rfl ?_
    obtain ⟨x3_1, o1, e1_0⟩ := tyG0 H (rfl : tyK 43 = (8, 0))
    refine g_getfield (v := .ref 115) (q := 9) C fX0_37 dX0_firstHarmful_6 rfl o1 rfl ?_
    obtain ⟨f2, o2⟩ := tyArr H (rfl : tyK 115 = (2, 4))
    refine g_arraylength (v := 4) (q := 10) C dX0_firstHarmful_9 rfl o2 (by decide) ?_
    refine g_icmp_ge (t := 22) (q := 13) C dX0_firstHarmful_10 (by decide) rfl (fun c_10 => ?_) (fun c_10 => ?_)
    ·
      have i_10 := Int32.le_iff_toInt_le.mp c_10
      exact J_22 _ _  H
    ·
      have i_10 := mt Int32.le_iff_toInt_le.mpr c_10
      refine g_aload_n (q := 14) C dX0_firstHarmful_13 rfl rfl ?_
      refine g_getfield (v := .ref 115) (q := 17) C fX0_37 dX0_firstHarmful_14 rfl o1 rfl ?_
      refine g_iload_n (q := 18) C dX0_firstHarmful_17 rfl rfl ?_
      obtain ⟨f3, o3⟩ := tyArr H (rfl : tyK 115 = (2, 4))
      refine g_iaload (q := 19) C dX0_firstHarmful_18 rfl o3 (by have k0 : (0 : Int32).toInt = 0 := (by decide); have k4 : (4 : Int32).toInt = 4 := (by decide); exact vp_in0 (by omega) (by omega)) ?_
      refine g_goto (q := 23) C dX0_firstHarmful_19 (by decide) ?_
      exact E.1 _ _ _ _ _ _ _ dX0_firstHarmful_23 rfl rfl (Nat.le_of_ble_eq_true rfl) (Nat.le_of_ble_eq_true rfl) ⟨_, rfl, H⟩
theorem dX0_harmful_0 : decode cX0_harmful 0 = .ok (.iload_n 1, 1) := by decide +kernel
theorem dX0_harmful_1 : decode cX0_harmful 1 = .ok (.ifCond .lt 21, 3) := by decide +kernel
theorem dX0_harmful_4 : decode cX0_harmful 4 = .ok (.iload_n 1, 1) := by decide +kernel
theorem dX0_harmful_5 : decode cX0_harmful 5 = .ok (.aload_n 0, 1) := by decide +kernel
theorem dX0_harmful_6 : decode cX0_harmful 6 = .ok (.getfield 34, 3) := by decide +kernel
theorem dX0_harmful_9 : decode cX0_harmful 9 = .ok (.arraylength, 1) := by decide +kernel
theorem dX0_harmful_10 : decode cX0_harmful 10 = .ok (.if_icmp .ge 12, 3) := by decide +kernel
theorem dX0_harmful_13 : decode cX0_harmful 13 = .ok (.aload_n 0, 1) := by decide +kernel
theorem dX0_harmful_14 : decode cX0_harmful 14 = .ok (.getfield 34, 3) := by decide +kernel
theorem dX0_harmful_17 : decode cX0_harmful 17 = .ok (.iload_n 1, 1) := by decide +kernel
theorem dX0_harmful_18 : decode cX0_harmful 18 = .ok (.iaload, 1) := by decide +kernel
theorem dX0_harmful_19 : decode cX0_harmful 19 = .ok (.goto 4, 3) := by decide +kernel
theorem dX0_harmful_22 : decode cX0_harmful 22 = .ok (.iconst 0, 1) := by decide +kernel
theorem dX0_harmful_23 : decode cX0_harmful 23 = .ok (.ireturn, 1) := by decide +kernel
set_option maxRecDepth 100000 in
set_option maxHeartbeats 4000000 in
theorem tX0_harmful {T R : Nat} {J : Nat → Prop} {Bc Bs : Nat} {M : gMd} {z : Nat → Nat} {hp : List gA} {a0 : Int32}  (H : tyS T R J Bc Bs M z hp)  : gM yX0_harmful cX0_harmful 2 ((some .int)) 0 0 [.ref 43, .int a0] (hp) (0) (0) (fun v h => ∃ x, v = some (.int x) ∧ tyS T R J Bc Bs M z h) := by
  refine gM_of (ls0 := [some (.ref 43), some (.int a0)]) (by decide +kernel) (Nat.le_of_ble_eq_true rfl) rfl fun X C E => ?_
  have J_22 : ∀ (y22_1 : Int32) (hJ22 : List gA), tyS T R J Bc Bs M z hJ22 → gG X 22 [some (.ref 43), some (.int y22_1)] [] hJ22 0 0 := by
    intro y22_1 hJ22 HJ22
    refine g_iconst (v := 0) (q := 23) C dX0_harmful_22 (by decide) rfl ?_
    exact E.1 _ _ _ _ _ _ _ dX0_harmful_23 rfl rfl (Nat.le_of_ble_eq_true rfl) (Nat.le_of_ble_eq_true rfl) ⟨_, rfl, HJ22⟩
  refine g_iload_n (q := 1) C dX0_harmful_0 rfl rfl ?_
  refine g_if_lt (t := 22) (q := 4) C dX0_harmful_1 (by decide) rfl (fun c_1 => ?_) (fun c_1 => ?_)
  ·
    have i_1 := Int32.lt_iff_toInt_lt.mp c_1
    exact J_22 _ _  H
  ·
    have i_1 := mt Int32.lt_iff_toInt_lt.mpr c_1
    refine g_iload_n (q := 5) C dX0_harmful_4 rfl rfl ?_
    refine g_aload_n (q := 6) C dX0_harmful_5 rfl rfl ?_
    obtain ⟨x3_1, o1, e1_0⟩ := tyG0 H (rfl : tyK 43 = (8, 0))
    refine g_getfield (v := .ref 114) (q := 9) C fX0_34 dX0_harmful_6 rfl o1 rfl ?_
    obtain ⟨f2, o2⟩ := tyArr H (rfl : tyK 114 = (2, 4))
    refine g_arraylength (v := 4) (q := 10) C dX0_harmful_9 rfl o2 (by decide) ?_
    refine g_icmp_ge (t := 22) (q := 13) C dX0_harmful_10 (by decide) rfl (fun c_10 => ?_) (fun c_10 => ?_)
    ·
      have i_10 := Int32.le_iff_toInt_le.mp c_10
      exact J_22 _ _  H
    ·
      have i_10 := mt Int32.le_iff_toInt_le.mpr c_10
      refine g_aload_n (q := 14) C dX0_harmful_13 rfl rfl ?_
      refine g_getfield (v := .ref 114) (q := 17) C fX0_34 dX0_harmful_14 rfl o1 rfl ?_
      refine g_iload_n (q := 18) C dX0_harmful_17 rfl rfl ?_
      obtain ⟨f3, o3⟩ := tyArr H (rfl : tyK 114 = (2, 4))
      refine g_iaload (q := 19) C dX0_harmful_18 rfl o3 (by have k0 : (0 : Int32).toInt = 0 := (by decide); have k4 : (4 : Int32).toInt = 4 := (by decide); exact vp_in0 (by omega) (by omega)) ?_
      refine g_goto (q := 23) C dX0_harmful_19 (by decide) ?_
      exact E.1 _ _ _ _ _ _ _ dX0_harmful_23 rfl rfl (Nat.le_of_ble_eq_true rfl) (Nat.le_of_ble_eq_true rfl) ⟨_, rfl, H⟩
theorem dX0_forkIsHarmed_0 : decode cX0_forkIsHarmed 0 = .ok (.aload_n 0, 1) := by decide +kernel
theorem dX0_forkIsHarmed_1 : decode cX0_forkIsHarmed 1 = .ok (.getfield 23, 3) := by decide +kernel
theorem dX0_forkIsHarmed_4 : decode cX0_forkIsHarmed 4 = .ok (.getfield 50, 3) := by decide +kernel
theorem dX0_forkIsHarmed_7 : decode cX0_forkIsHarmed 7 = .ok (.iconst 2, 1) := by decide +kernel
theorem dX0_forkIsHarmed_8 : decode cX0_forkIsHarmed 8 = .ok (.if_icmp .ne 29, 3) := by decide +kernel
theorem dX0_forkIsHarmed_11 : decode cX0_forkIsHarmed 11 = .ok (.aload_n 0, 1) := by decide +kernel
theorem dX0_forkIsHarmed_12 : decode cX0_forkIsHarmed 12 = .ok (.getfield 23, 3) := by decide +kernel
theorem dX0_forkIsHarmed_15 : decode cX0_forkIsHarmed 15 = .ok (.getfield 74, 3) := by decide +kernel
theorem dX0_forkIsHarmed_18 : decode cX0_forkIsHarmed 18 = .ok (.getfield 78, 3) := by decide +kernel
theorem dX0_forkIsHarmed_21 : decode cX0_forkIsHarmed 21 = .ok (.aload_n 0, 1) := by decide +kernel
theorem dX0_forkIsHarmed_22 : decode cX0_forkIsHarmed 22 = .ok (.getfield 14, 3) := by decide +kernel
theorem dX0_forkIsHarmed_25 : decode cX0_forkIsHarmed 25 = .ok (.getfield 74, 3) := by decide +kernel
theorem dX0_forkIsHarmed_28 : decode cX0_forkIsHarmed 28 = .ok (.getfield 78, 3) := by decide +kernel
theorem dX0_forkIsHarmed_31 : decode cX0_forkIsHarmed 31 = .ok (.invokevirtual 84, 3) := by decide +kernel
theorem dX0_forkIsHarmed_34 : decode cX0_forkIsHarmed 34 = .ok (.ifCond .ne 7, 3) := by decide +kernel
theorem dX0_forkIsHarmed_37 : decode cX0_forkIsHarmed 37 = .ok (.iconst 1, 1) := by decide +kernel
theorem dX0_forkIsHarmed_38 : decode cX0_forkIsHarmed 38 = .ok (.goto 4, 3) := by decide +kernel
theorem dX0_forkIsHarmed_41 : decode cX0_forkIsHarmed 41 = .ok (.iconst 0, 1) := by decide +kernel
theorem dX0_forkIsHarmed_42 : decode cX0_forkIsHarmed 42 = .ok (.ireturn, 1) := by decide +kernel
set_option maxRecDepth 100000 in
set_option maxHeartbeats 4000000 in
theorem tX0_forkIsHarmed {T R : Nat} {J : Nat → Prop} {Bc Bs : Nat} {M : gMd} {z : Nat → Nat} {hp : List gA}  (H : tyS T R J Bc Bs M z hp)  : gM yX0_forkIsHarmed cX0_forkIsHarmed 1 ((some .boolean)) 2 43 [.ref 43] (hp) (0) (0) (fun v h => ∃ x, v = some (.int x) ∧ ((x = 0 ∨ x = 1) ∧ tyS T R J Bc Bs M z h)) := by
  refine gM_of (ls0 := [some (.ref 43)]) (by decide +kernel) (Nat.le_of_ble_eq_true rfl) rfl fun X C E => ?_
  have J_37 : ∀ (hJ37 : List gA), tyS T R J Bc Bs M z hJ37 → gG X 37 [some (.ref 43)] [] hJ37 0 0 := by
    intro hJ37 HJ37
    refine g_iconst (v := 1) (q := 38) C dX0_forkIsHarmed_37 (by decide) rfl ?_
    refine g_goto (q := 42) C dX0_forkIsHarmed_38 (by decide) ?_
    exact E.1 _ _ _ _ _ _ _ dX0_forkIsHarmed_42 rfl (tyNar (Or.inr rfl)) (Nat.le_of_ble_eq_true rfl) (Nat.le_of_ble_eq_true rfl) ⟨_, rfl, (Or.inr rfl), HJ37⟩
  refine g_aload_n (q := 1) C dX0_forkIsHarmed_0 rfl rfl ?_
  obtain ⟨x3_1, o1, e1_0⟩ := tyG0 H (rfl : tyK 43 = (8, 0))
  refine g_getfield (v := .ref 90) (q := 4) C fX0_23 dX0_forkIsHarmed_1 rfl o1 rfl ?_
  obtain ⟨x3_2, x4_2, x5_2, x6_2, x7_2, x11_2, x12_2, x13_2, x14_2, x15_2, x16_2, x17_2, jv_2, o2, e2_0, e2_1, e2_2, e2_3⟩ := tyG2 H (rfl : tyK 90 = (7, 0))
  refine g_getfield (v := .int x3_2) (q := 7) C fX0_50 dX0_forkIsHarmed_4 rfl o2 rfl ?_
  refine g_iconst (v := 2) (q := 8) C dX0_forkIsHarmed_7 (by decide) rfl ?_
  refine g_icmp_ne (t := 37) (q := 11) C dX0_forkIsHarmed_8 (by decide) rfl (fun c_8 => ?_) (fun c_8 => ?_)
  ·
    exact J_37 _  H
  ·
    refine g_aload_n (q := 12) C dX0_forkIsHarmed_11 rfl rfl ?_
    refine g_getfield (v := .ref 90) (q := 15) C fX0_23 dX0_forkIsHarmed_12 rfl o1 rfl ?_
    refine g_getfieldW (v := .ref ((90 + 1))) (q := 18) C fX0_74 dX0_forkIsHarmed_15 rfl o2 rfl ?_
    obtain ⟨x0_3, x1_3, x2_3, x3_3, x4_3, x5_3, x6_3, x7_3, x11_3, x12_3, x13_3, x14_3, o3, e3_0⟩ := tyG5 H (tyF2_0 (rfl : tyK 90 = (7, 0)))
    refine g_getfieldW (v := .ref (((90 + 1) + 3))) (q := 21) C fX0_78 dX0_forkIsHarmed_18 rfl o3 rfl ?_
    refine g_aload_n (q := 22) C dX0_forkIsHarmed_21 rfl rfl ?_
    refine g_getfield (v := .ref 44) (q := 25) C fX0_14 dX0_forkIsHarmed_22 rfl o1 rfl ?_
    obtain ⟨x3_4, x4_4, x5_4, x6_4, x7_4, x11_4, x12_4, x13_4, x14_4, x15_4, x16_4, x17_4, jv_4, o4, e4_0, e4_1, e4_2, e4_3⟩ := tyG2 H (rfl : tyK 44 = (7, 0))
    refine g_getfieldW (v := .ref ((44 + 1))) (q := 28) C fX0_74 dX0_forkIsHarmed_25 rfl o4 rfl ?_
    obtain ⟨x0_5, x1_5, x2_5, x3_5, x4_5, x5_5, x6_5, x7_5, x11_5, x12_5, x13_5, x14_5, o5, e5_0⟩ := tyG5 H (tyF2_0 (rfl : tyK 44 = (7, 0)))
    refine g_getfieldW (v := .ref (((44 + 1) + 3))) (q := 31) C fX0_78 dX0_forkIsHarmed_28 rfl o5 rfl ?_
    obtain ⟨l6, g6, -⟩ := tyRow H (tyF5_9 (tyF2_0 (rfl : tyK 90 = (7, 0))))
    refine g_callVip (q := 34) (As := [.ref (((44 + 1) + 3))]) C gyX4_same gvX4_same t_977 (tX4_same H (tyF5_9 (tyF2_0 (rfl : tyK 90 = (7, 0)))) (tyF5_9 (tyF2_0 (rfl : tyK 44 = (7, 0))))) dX0_forkIsHarmed_31 rfl g6.obj rfl rfl rfl (Nat.le_of_ble_eq_true rfl) (Nat.le_of_ble_eq_true rfl) (Nat.le_of_ble_eq_true rfl) (Nat.le_of_ble_eq_true rfl) (Nat.le_of_ble_eq_true rfl) rfl (fun x7 h7 q7 => ?_)
    obtain ⟨b7, H7⟩ := q7
    refine g_if_ne (t := 41) (q := 37) C dX0_forkIsHarmed_34 (by decide) rfl (fun c_34 => ?_) (fun c_34 => ?_)
    ·
      refine g_iconst (v := 0) (q := 42) C dX0_forkIsHarmed_41 (by decide) rfl ?_
      exact E.1 _ _ _ _ _ _ _ dX0_forkIsHarmed_42 rfl (tyNar (Or.inl rfl)) (Nat.le_of_ble_eq_true rfl) (Nat.le_of_ble_eq_true rfl) ⟨_, rfl, (Or.inl rfl), H7⟩
    ·
      exact J_37 _  H7
theorem dX0_outlook_0 : decode cX0_outlook 0 = .ok (.aload_n 0, 1) := by decide +kernel
theorem dX0_outlook_1 : decode cX0_outlook 1 = .ok (.getfield 26, 3) := by decide +kernel
theorem dX0_outlook_4 : decode cX0_outlook 4 = .ok (.ifCond .ne 49, 3) := by decide +kernel
theorem dX0_outlook_7 : decode cX0_outlook 7 = .ok (.aload_n 0, 1) := by decide +kernel
theorem dX0_outlook_8 : decode cX0_outlook 8 = .ok (.getfield 14, 3) := by decide +kernel
theorem dX0_outlook_11 : decode cX0_outlook 11 = .ok (.aload_n 1, 1) := by decide +kernel
theorem dX0_outlook_12 : decode cX0_outlook 12 = .ok (.invokevirtual 46, 3) := by decide +kernel
theorem dX0_outlook_15 : decode cX0_outlook 15 = .ok (.iconst 0, 1) := by decide +kernel
theorem dX0_outlook_16 : decode cX0_outlook 16 = .ok (.istore_n 2, 1) := by decide +kernel
theorem dX0_outlook_17 : decode cX0_outlook 17 = .ok (.iload_n 2, 1) := by decide +kernel
theorem dX0_outlook_18 : decode cX0_outlook 18 = .ok (.sipush 400, 3) := by decide +kernel
theorem dX0_outlook_21 : decode cX0_outlook 21 = .ok (.if_icmp .ge 27, 3) := by decide +kernel
theorem dX0_outlook_24 : decode cX0_outlook 24 = .ok (.aload_n 0, 1) := by decide +kernel
theorem dX0_outlook_25 : decode cX0_outlook 25 = .ok (.getfield 14, 3) := by decide +kernel
theorem dX0_outlook_28 : decode cX0_outlook 28 = .ok (.getfield 50, 3) := by decide +kernel
theorem dX0_outlook_31 : decode cX0_outlook 31 = .ok (.iconst 1, 1) := by decide +kernel
theorem dX0_outlook_32 : decode cX0_outlook 32 = .ok (.if_icmp .ne 16, 3) := by decide +kernel
theorem dX0_outlook_35 : decode cX0_outlook 35 = .ok (.aload_n 0, 1) := by decide +kernel
theorem dX0_outlook_36 : decode cX0_outlook 36 = .ok (.getfield 14, 3) := by decide +kernel
theorem dX0_outlook_39 : decode cX0_outlook 39 = .ok (.invokevirtual 54, 3) := by decide +kernel
theorem dX0_outlook_42 : decode cX0_outlook 42 = .ok (.iinc 2 1, 3) := by decide +kernel
theorem dX0_outlook_45 : decode cX0_outlook 45 = .ok (.goto (-28), 3) := by decide +kernel
theorem dX0_outlook_48 : decode cX0_outlook 48 = .ok (.aload_n 0, 1) := by decide +kernel
theorem dX0_outlook_49 : decode cX0_outlook 49 = .ok (.iconst 1, 1) := by decide +kernel
theorem dX0_outlook_50 : decode cX0_outlook 50 = .ok (.putfield 26, 3) := by decide +kernel
theorem dX0_outlook_53 : decode cX0_outlook 53 = .ok (.aload_n 0, 1) := by decide +kernel
theorem dX0_outlook_54 : decode cX0_outlook 54 = .ok (.getfield 14, 3) := by decide +kernel
theorem dX0_outlook_57 : decode cX0_outlook 57 = .ok (.areturn, 1) := by decide +kernel
set_option maxRecDepth 100000 in
set_option maxHeartbeats 4000000 in
theorem tX0_outlook {T R : Nat} {J : Nat → Prop} {Bc Bs : Nat} {M : gMd} {z : Nat → Nat} {hp : List gA} {a0 : Nat}  (H : tyS T R J Bc Bs M z hp) (hk0 : tyK a0 = (7, 0))  : gM yX0_outlook cX0_outlook 3 ((some (.object "CardLink$Line"))) 7 200 [.ref 43, .ref a0] (hp) (300000 - hp.length) (7000000 - gsz hp) (fun v h => ∃ r, v = some (.ref r) ∧ (tyK r = (7, 0) ∧ ∃ z', tyS T R J Bc Bs M z' h)) := by
  refine gM_ofT (ls0 := [some (.ref 43), some (.ref a0), none]) (by decide +kernel) (Nat.le_of_ble_eq_true rfl) rfl fun X C E h0 => ?_
  have J_53 : ∀ (zJ53 : Nat → Nat) (hJ53 : List gA), tyS T R J Bc Bs M zJ53 hJ53 → gG X 53 [some (.ref 43), some (.ref a0), none] [] hJ53 (hJ53.length - hp.length) (gsz hJ53 - gsz hp) := by
    intro zJ53 hJ53 HJ53
    refine g_aload_n (q := 54) C dX0_outlook_53 rfl rfl ?_
    obtain ⟨x3_1, o1, e1_0⟩ := tyG0 HJ53 (rfl : tyK 43 = (8, 0))
    refine g_getfield (v := .ref 44) (q := 57) C fX0_14 dX0_outlook_54 rfl o1 rfl ?_
    refine g_tight h0 H.2.2.2.1 HJ53.2.2.2.1 (fun ta2 tb2 => ?_)
    have lm2 := HJ53.lim
    exact E.2.2 _ _ _ _ _ _ _ dX0_outlook_57 rfl (Or.inl ⟨_, rfl⟩) (by omega) (by omega) ⟨_, rfl, (rfl : tyK 44 = (7, 0)), ⟨_, HJ53⟩⟩
  have J_48 : ∀ (y48_2 : Int32) (zJ48 : Nat → Nat) (hJ48 : List gA), tyS T R J Bc Bs M zJ48 hJ48 → gG X 48 [some (.ref 43), some (.ref a0), some (.int y48_2)] [] hJ48 (hJ48.length - hp.length) (gsz hJ48 - gsz hp) := by
    intro y48_2 zJ48 hJ48 HJ48
    refine g_aload_n (q := 49) C dX0_outlook_48 rfl rfl ?_
    refine g_iconst (v := 1) (q := 50) C dX0_outlook_49 (by decide) rfl ?_
    obtain ⟨x3_3, o3, e3_0⟩ := tyG0 HJ48 (rfl : tyK 43 = (8, 0))
    refine g_putfield (q := 53) C fX0_26 dX0_outlook_50 rfl o3 (Nat.le_of_ble_eq_true rfl) (Or.inl rfl) (tyNar (Or.inr rfl)) (tyFit (Or.inr rfl)) (by intro z h; cases h) ?_
    refine tyP0 HJ48 (rfl : tyK 43 = (8, 0)) rfl (Or.inr rfl) (fun h4 _ _ H4 => ?_)
    refine g_forget (ls' := [some (.ref 43), some (.ref a0), none]) rfl (gfK (gfK (gfD gfN))) ?_
    refine g_tight h0 H.2.2.2.1 H4.2.2.2.1 (fun ta5 tb5 => ?_)
    exact J_53 _ _  H4
  have J_17 : ∀ (d17 : Nat) (y17_2 : Int32) (zJ17 : Nat → Nat) (hJ17 : List gA), (2147483647 - y17_2.toInt).toNat = d17 → ∀ (_ : True), tyS T R J Bc Bs M zJ17 hJ17 → gG X 17 [some (.ref 43), some (.ref a0), some (.int y17_2)] [] hJ17 (hJ17.length - hp.length) (gsz hJ17 - gsz hp) := by
    intro d17
    induction d17 using Nat.strongRecOn with
    | _ d17 ih17 =>
    intro y17_2 zJ17 hJ17 hd17 _ HJ17
    refine g_iload_n (q := 18) C dX0_outlook_17 rfl rfl ?_
    refine g_sipush (v := 400) (q := 21) C dX0_outlook_18 (by decide) rfl ?_
    refine g_icmp_ge (t := 48) (q := 24) C dX0_outlook_21 (by decide) rfl (fun c_21 => ?_) (fun c_21 => ?_)
    ·
      refine g_tight h0 H.2.2.2.1 HJ17.2.2.2.1 (fun ta6 tb6 => ?_)
      exact J_48 _ _ _  HJ17
    ·
      refine g_aload_n (q := 25) C dX0_outlook_24 rfl rfl ?_
      obtain ⟨x3_7, o7, e7_0⟩ := tyG0 HJ17 (rfl : tyK 43 = (8, 0))
      refine g_getfield (v := .ref 44) (q := 28) C fX0_14 dX0_outlook_25 rfl o7 rfl ?_
      obtain ⟨x3_8, x4_8, x5_8, x6_8, x7_8, x11_8, x12_8, x13_8, x14_8, x15_8, x16_8, x17_8, jv_8, o8, e8_0, e8_1, e8_2, e8_3⟩ := tyG2 HJ17 (rfl : tyK 44 = (7, 0))
      refine g_getfield (v := .int x3_8) (q := 31) C fX0_50 dX0_outlook_28 rfl o8 rfl ?_
      refine g_iconst (v := 1) (q := 32) C dX0_outlook_31 (by decide) rfl ?_
      refine g_icmp_ne (t := 48) (q := 35) C dX0_outlook_32 (by decide) rfl (fun c_32 => ?_) (fun c_32 => ?_)
      ·
        refine g_tight h0 H.2.2.2.1 HJ17.2.2.2.1 (fun ta9 tb9 => ?_)
        exact J_48 _ _ _  HJ17
      ·
        refine g_aload_n (q := 36) C dX0_outlook_35 rfl rfl ?_
        refine g_getfield (v := .ref 44) (q := 39) C fX0_14 dX0_outlook_36 rfl o7 rfl ?_
        refine g_tight h0 H.2.2.2.1 HJ17.2.2.2.1 (fun ta10 tb10 => ?_)
        have lm10 := HJ17.lim
        refine g_callVvp (q := 42) (As := []) C gyX2_turn gvX2_turn t_959 (tX2_turn HJ17 (rfl : tyK 44 = (7, 0))) dX0_outlook_39 rfl o8 rfl rfl rfl (Nat.le_of_ble_eq_true rfl) (Nat.le_of_ble_eq_true rfl) (Nat.le_of_ble_eq_true rfl) (by show _ + _ ≤ 300000 - List.length hp; omega) (by show _ + _ ≤ 7000000 - gsz hp; omega) rfl (fun h11 q11 => ?_)
        obtain ⟨z11, H11⟩ := q11
        refine g_iinc (v := y17_2 + 1) (q := 45) C dX0_outlook_42 rfl rfl (by simp only [gset]; rfl) rfl ?_
        refine g_goto (q := 17) C dX0_outlook_45 (by decide) ?_
        refine g_tight h0 H.2.2.2.1 H11.2.2.2.1 (fun ta12 tb12 => ?_)
        exact ih17 _ (tyUp' hd17 c_21) _ _ _ rfl trivial H11
  refine g_aload_n (q := 1) C dX0_outlook_0 rfl rfl ?_
  obtain ⟨x3_13, o13, e13_0⟩ := tyG0 H (rfl : tyK 43 = (8, 0))
  refine g_getfield (v := .int x3_13) (q := 4) C fX0_26 dX0_outlook_1 rfl o13 rfl ?_
  refine g_if_ne (t := 53) (q := 7) C dX0_outlook_4 (by decide) rfl (fun c_4 => ?_) (fun c_4 => ?_)
  ·
    refine g_tight h0 H.2.2.2.1 H.2.2.2.1 (fun ta14 tb14 => ?_)
    exact J_53 _ _  H
  ·
    refine g_aload_n (q := 8) C dX0_outlook_7 rfl rfl ?_
    refine g_getfield (v := .ref 44) (q := 11) C fX0_14 dX0_outlook_8 rfl o13 rfl ?_
    refine g_aload_n (q := 12) C dX0_outlook_11 rfl rfl ?_
    obtain ⟨x3_15, x4_15, x5_15, x6_15, x7_15, x11_15, x12_15, x13_15, x14_15, x15_15, x16_15, x17_15, jv_15, o15, e15_0, e15_1, e15_2, e15_3⟩ := tyG2 H (rfl : tyK 44 = (7, 0))
    refine g_tight h0 H.2.2.2.1 H.2.2.2.1 (fun ta16 tb16 => ?_)
    have lm16 := H.lim
    refine g_callVvp (q := 15) (As := [.ref a0]) C gyX2_copy gvX2_copy t_947 (tX2_copy H (rfl : tyK 44 = (7, 0)) hk0 (by omega)) dX0_outlook_12 rfl o15 rfl rfl rfl (Nat.le_of_ble_eq_true rfl) (Nat.le_of_ble_eq_true rfl) (Nat.le_of_ble_eq_true rfl) (by show _ + _ ≤ 300000 - List.length hp; omega) (by show _ + _ ≤ 7000000 - gsz hp; omega) rfl (fun h17 q17 => ?_)
    have H17 := q17
    refine g_iconst (v := 0) (q := 16) C dX0_outlook_15 (by decide) rfl ?_
    refine g_istore_n (q := 17) C dX0_outlook_16 (Nat.le_of_ble_eq_true rfl) (by simp only [gset]; rfl) rfl ?_
    refine g_tight h0 H.2.2.2.1 H17.2.2.2.1 (fun ta18 tb18 => ?_)
    exact J_17 _ _ _ _ rfl trivial H17
theorem dX0_tryAll_0 : decode cX0_tryAll 0 = .ok (.iload_n 2, 1) := by decide +kernel
theorem dX0_tryAll_1 : decode cX0_tryAll 1 = .ok (.ifCond .lt 40, 3) := by decide +kernel
theorem dX0_tryAll_4 : decode cX0_tryAll 4 = .ok (.iload_n 2, 1) := by decide +kernel
theorem dX0_tryAll_5 : decode cX0_tryAll 5 = .ok (.aload_n 0, 1) := by decide +kernel
theorem dX0_tryAll_6 : decode cX0_tryAll 6 = .ok (.getfield 30, 3) := by decide +kernel
theorem dX0_tryAll_9 : decode cX0_tryAll 9 = .ok (.arraylength, 1) := by decide +kernel
theorem dX0_tryAll_10 : decode cX0_tryAll 10 = .ok (.if_icmp .ge 31, 3) := by decide +kernel
theorem dX0_tryAll_13 : decode cX0_tryAll 13 = .ok (.iload_n 2, 1) := by decide +kernel
theorem dX0_tryAll_14 : decode cX0_tryAll 14 = .ok (.aload_n 0, 1) := by decide +kernel
theorem dX0_tryAll_15 : decode cX0_tryAll 15 = .ok (.getfield 34, 3) := by decide +kernel
theorem dX0_tryAll_18 : decode cX0_tryAll 18 = .ok (.arraylength, 1) := by decide +kernel
theorem dX0_tryAll_19 : decode cX0_tryAll 19 = .ok (.if_icmp .ge 22, 3) := by decide +kernel
theorem dX0_tryAll_22 : decode cX0_tryAll 22 = .ok (.iload_n 2, 1) := by decide +kernel
theorem dX0_tryAll_23 : decode cX0_tryAll 23 = .ok (.aload_n 0, 1) := by decide +kernel
theorem dX0_tryAll_24 : decode cX0_tryAll 24 = .ok (.getfield 37, 3) := by decide +kernel
theorem dX0_tryAll_27 : decode cX0_tryAll 27 = .ok (.arraylength, 1) := by decide +kernel
theorem dX0_tryAll_28 : decode cX0_tryAll 28 = .ok (.if_icmp .ge 13, 3) := by decide +kernel
theorem dX0_tryAll_31 : decode cX0_tryAll 31 = .ok (.aload_n 0, 1) := by decide +kernel
theorem dX0_tryAll_32 : decode cX0_tryAll 32 = .ok (.getfield 30, 3) := by decide +kernel
theorem dX0_tryAll_35 : decode cX0_tryAll 35 = .ok (.iload_n 2, 1) := by decide +kernel
theorem dX0_tryAll_36 : decode cX0_tryAll 36 = .ok (.iaload, 1) := by decide +kernel
theorem dX0_tryAll_37 : decode cX0_tryAll 37 = .ok (.iconst 1, 1) := by decide +kernel
theorem dX0_tryAll_38 : decode cX0_tryAll 38 = .ok (.if_icmp .ne 4, 3) := by decide +kernel
theorem dX0_tryAll_41 : decode cX0_tryAll 41 = .ok (.return_, 1) := by decide +kernel
theorem dX0_tryAll_42 : decode cX0_tryAll 42 = .ok (.aload_n 0, 1) := by decide +kernel
theorem dX0_tryAll_43 : decode cX0_tryAll 43 = .ok (.getfield 30, 3) := by decide +kernel
theorem dX0_tryAll_46 : decode cX0_tryAll 46 = .ok (.iload_n 2, 1) := by decide +kernel
theorem dX0_tryAll_47 : decode cX0_tryAll 47 = .ok (.iconst 1, 1) := by decide +kernel
theorem dX0_tryAll_48 : decode cX0_tryAll 48 = .ok (.iastore, 1) := by decide +kernel
theorem dX0_tryAll_49 : decode cX0_tryAll 49 = .ok (.aload_n 0, 1) := by decide +kernel
theorem dX0_tryAll_50 : decode cX0_tryAll 50 = .ok (.getfield 34, 3) := by decide +kernel
theorem dX0_tryAll_53 : decode cX0_tryAll 53 = .ok (.iload_n 2, 1) := by decide +kernel
theorem dX0_tryAll_54 : decode cX0_tryAll 54 = .ok (.iconst 0, 1) := by decide +kernel
theorem dX0_tryAll_55 : decode cX0_tryAll 55 = .ok (.iastore, 1) := by decide +kernel
theorem dX0_tryAll_56 : decode cX0_tryAll 56 = .ok (.aload_n 0, 1) := by decide +kernel
theorem dX0_tryAll_57 : decode cX0_tryAll 57 = .ok (.getfield 37, 3) := by decide +kernel
theorem dX0_tryAll_60 : decode cX0_tryAll 60 = .ok (.iload_n 2, 1) := by decide +kernel
theorem dX0_tryAll_61 : decode cX0_tryAll 61 = .ok (.iconst (-1), 1) := by decide +kernel
theorem dX0_tryAll_62 : decode cX0_tryAll 62 = .ok (.iastore, 1) := by decide +kernel
theorem dX0_tryAll_63 : decode cX0_tryAll 63 = .ok (.aload_n 0, 1) := by decide +kernel
theorem dX0_tryAll_64 : decode cX0_tryAll 64 = .ok (.getfield 20, 3) := by decide +kernel
theorem dX0_tryAll_67 : decode cX0_tryAll 67 = .ok (.aload_n 1, 1) := by decide +kernel
theorem dX0_tryAll_68 : decode cX0_tryAll 68 = .ok (.invokevirtual 46, 3) := by decide +kernel
theorem dX0_tryAll_71 : decode cX0_tryAll 71 = .ok (.iconst 0, 1) := by decide +kernel
theorem dX0_tryAll_72 : decode cX0_tryAll 72 = .ok (.istore_n 3, 1) := by decide +kernel
theorem dX0_tryAll_73 : decode cX0_tryAll 73 = .ok (.iload_n 3, 1) := by decide +kernel
theorem dX0_tryAll_74 : decode cX0_tryAll 74 = .ok (.sipush 400, 3) := by decide +kernel
theorem dX0_tryAll_77 : decode cX0_tryAll 77 = .ok (.if_icmp .ge 197, 3) := by decide +kernel
theorem dX0_tryAll_80 : decode cX0_tryAll 80 = .ok (.aload_n 0, 1) := by decide +kernel
theorem dX0_tryAll_81 : decode cX0_tryAll 81 = .ok (.getfield 20, 3) := by decide +kernel
theorem dX0_tryAll_84 : decode cX0_tryAll 84 = .ok (.getfield 50, 3) := by decide +kernel
theorem dX0_tryAll_87 : decode cX0_tryAll 87 = .ok (.iconst 1, 1) := by decide +kernel
theorem dX0_tryAll_88 : decode cX0_tryAll 88 = .ok (.if_icmp .ne 186, 3) := by decide +kernel
theorem dX0_tryAll_91 : decode cX0_tryAll 91 = .ok (.aload_n 0, 1) := by decide +kernel
theorem dX0_tryAll_92 : decode cX0_tryAll 92 = .ok (.getfield 20, 3) := by decide +kernel
theorem dX0_tryAll_95 : decode cX0_tryAll 95 = .ok (.getfield 57, 3) := by decide +kernel
theorem dX0_tryAll_98 : decode cX0_tryAll 98 = .ok (.getfield 61, 3) := by decide +kernel
theorem dX0_tryAll_101 : decode cX0_tryAll 101 = .ok (.istore 4, 2) := by decide +kernel
theorem dX0_tryAll_103 : decode cX0_tryAll 103 = .ok (.aload_n 0, 1) := by decide +kernel
theorem dX0_tryAll_104 : decode cX0_tryAll 104 = .ok (.getfield 23, 3) := by decide +kernel
theorem dX0_tryAll_107 : decode cX0_tryAll 107 = .ok (.aload_n 0, 1) := by decide +kernel
theorem dX0_tryAll_108 : decode cX0_tryAll 108 = .ok (.getfield 20, 3) := by decide +kernel
theorem dX0_tryAll_111 : decode cX0_tryAll 111 = .ok (.invokevirtual 46, 3) := by decide +kernel
theorem dX0_tryAll_114 : decode cX0_tryAll 114 = .ok (.aload_n 0, 1) := by decide +kernel
theorem dX0_tryAll_115 : decode cX0_tryAll 115 = .ok (.getfield 23, 3) := by decide +kernel
theorem dX0_tryAll_118 : decode cX0_tryAll 118 = .ok (.invokevirtual 54, 3) := by decide +kernel
theorem dX0_tryAll_121 : decode cX0_tryAll 121 = .ok (.aload_n 0, 1) := by decide +kernel
theorem dX0_tryAll_122 : decode cX0_tryAll 122 = .ok (.getfield 23, 3) := by decide +kernel
theorem dX0_tryAll_125 : decode cX0_tryAll 125 = .ok (.getfield 57, 3) := by decide +kernel
theorem dX0_tryAll_128 : decode cX0_tryAll 128 = .ok (.getfield 61, 3) := by decide +kernel
theorem dX0_tryAll_131 : decode cX0_tryAll 131 = .ok (.istore 5, 2) := by decide +kernel
theorem dX0_tryAll_133 : decode cX0_tryAll 133 = .ok (.iload 4, 2) := by decide +kernel
theorem dX0_tryAll_135 : decode cX0_tryAll 135 = .ok (.istore 6, 2) := by decide +kernel
theorem dX0_tryAll_137 : decode cX0_tryAll 137 = .ok (.iload 6, 2) := by decide +kernel
theorem dX0_tryAll_139 : decode cX0_tryAll 139 = .ok (.iload 5, 2) := by decide +kernel
theorem dX0_tryAll_141 : decode cX0_tryAll 141 = .ok (.if_icmp .ge 120, 3) := by decide +kernel
theorem dX0_tryAll_144 : decode cX0_tryAll 144 = .ok (.aload_n 0, 1) := by decide +kernel
theorem dX0_tryAll_145 : decode cX0_tryAll 145 = .ok (.getfield 23, 3) := by decide +kernel
theorem dX0_tryAll_148 : decode cX0_tryAll 148 = .ok (.aload_n 0, 1) := by decide +kernel
theorem dX0_tryAll_149 : decode cX0_tryAll 149 = .ok (.getfield 20, 3) := by decide +kernel
theorem dX0_tryAll_152 : decode cX0_tryAll 152 = .ok (.invokevirtual 46, 3) := by decide +kernel
theorem dX0_tryAll_155 : decode cX0_tryAll 155 = .ok (.aload_n 0, 1) := by decide +kernel
theorem dX0_tryAll_156 : decode cX0_tryAll 156 = .ok (.getfield 23, 3) := by decide +kernel
theorem dX0_tryAll_159 : decode cX0_tryAll 159 = .ok (.getfield 57, 3) := by decide +kernel
theorem dX0_tryAll_162 : decode cX0_tryAll 162 = .ok (.iload 6, 2) := by decide +kernel
theorem dX0_tryAll_164 : decode cX0_tryAll 164 = .ok (.iload_n 2, 1) := by decide +kernel
theorem dX0_tryAll_165 : decode cX0_tryAll 165 = .ok (.invokevirtual 66, 3) := by decide +kernel
theorem dX0_tryAll_168 : decode cX0_tryAll 168 = .ok (.iload_n 3, 1) := by decide +kernel
theorem dX0_tryAll_169 : decode cX0_tryAll 169 = .ok (.istore 7, 2) := by decide +kernel
theorem dX0_tryAll_171 : decode cX0_tryAll 171 = .ok (.iload 7, 2) := by decide +kernel
theorem dX0_tryAll_173 : decode cX0_tryAll 173 = .ok (.sipush 400, 3) := by decide +kernel
theorem dX0_tryAll_176 : decode cX0_tryAll 176 = .ok (.if_icmp .ge 27, 3) := by decide +kernel
theorem dX0_tryAll_179 : decode cX0_tryAll 179 = .ok (.aload_n 0, 1) := by decide +kernel
theorem dX0_tryAll_180 : decode cX0_tryAll 180 = .ok (.getfield 23, 3) := by decide +kernel
theorem dX0_tryAll_183 : decode cX0_tryAll 183 = .ok (.getfield 50, 3) := by decide +kernel
theorem dX0_tryAll_186 : decode cX0_tryAll 186 = .ok (.iconst 1, 1) := by decide +kernel
theorem dX0_tryAll_187 : decode cX0_tryAll 187 = .ok (.if_icmp .ne 16, 3) := by decide +kernel
theorem dX0_tryAll_190 : decode cX0_tryAll 190 = .ok (.aload_n 0, 1) := by decide +kernel
theorem dX0_tryAll_191 : decode cX0_tryAll 191 = .ok (.getfield 23, 3) := by decide +kernel
theorem dX0_tryAll_194 : decode cX0_tryAll 194 = .ok (.invokevirtual 54, 3) := by decide +kernel
theorem dX0_tryAll_197 : decode cX0_tryAll 197 = .ok (.iinc 7 1, 3) := by decide +kernel
theorem dX0_tryAll_200 : decode cX0_tryAll 200 = .ok (.goto (-29), 3) := by decide +kernel
theorem dX0_tryAll_203 : decode cX0_tryAll 203 = .ok (.aload_n 0, 1) := by decide +kernel
theorem dX0_tryAll_204 : decode cX0_tryAll 204 = .ok (.invokevirtual 70, 3) := by decide +kernel
theorem dX0_tryAll_207 : decode cX0_tryAll 207 = .ok (.ifCond .eq 48, 3) := by decide +kernel
theorem dX0_tryAll_210 : decode cX0_tryAll 210 = .ok (.aload_n 0, 1) := by decide +kernel
theorem dX0_tryAll_211 : decode cX0_tryAll 211 = .ok (.getfield 34, 3) := by decide +kernel
theorem dX0_tryAll_214 : decode cX0_tryAll 214 = .ok (.iload_n 2, 1) := by decide +kernel
theorem dX0_tryAll_215 : decode cX0_tryAll 215 = .ok (.dup2, 1) := by decide +kernel
theorem dX0_tryAll_216 : decode cX0_tryAll 216 = .ok (.iaload, 1) := by decide +kernel
theorem dX0_tryAll_217 : decode cX0_tryAll 217 = .ok (.iconst 1, 1) := by decide +kernel
theorem dX0_tryAll_218 : decode cX0_tryAll 218 = .ok (.iadd, 1) := by decide +kernel
theorem dX0_tryAll_219 : decode cX0_tryAll 219 = .ok (.iastore, 1) := by decide +kernel
theorem dX0_tryAll_220 : decode cX0_tryAll 220 = .ok (.aload_n 0, 1) := by decide +kernel
theorem dX0_tryAll_221 : decode cX0_tryAll 221 = .ok (.getfield 37, 3) := by decide +kernel
theorem dX0_tryAll_224 : decode cX0_tryAll 224 = .ok (.iload_n 2, 1) := by decide +kernel
theorem dX0_tryAll_225 : decode cX0_tryAll 225 = .ok (.aload_n 0, 1) := by decide +kernel
theorem dX0_tryAll_226 : decode cX0_tryAll 226 = .ok (.getfield 37, 3) := by decide +kernel
theorem dX0_tryAll_229 : decode cX0_tryAll 229 = .ok (.iload_n 2, 1) := by decide +kernel
theorem dX0_tryAll_230 : decode cX0_tryAll 230 = .ok (.iaload, 1) := by decide +kernel
theorem dX0_tryAll_231 : decode cX0_tryAll 231 = .ok (.iconst (-1), 1) := by decide +kernel
theorem dX0_tryAll_232 : decode cX0_tryAll 232 = .ok (.if_icmp .ne 16, 3) := by decide +kernel
theorem dX0_tryAll_235 : decode cX0_tryAll 235 = .ok (.iload 6, 2) := by decide +kernel
theorem dX0_tryAll_237 : decode cX0_tryAll 237 = .ok (.aload_n 1, 1) := by decide +kernel
theorem dX0_tryAll_238 : decode cX0_tryAll 238 = .ok (.getfield 57, 3) := by decide +kernel
theorem dX0_tryAll_241 : decode cX0_tryAll 241 = .ok (.getfield 61, 3) := by decide +kernel
theorem dX0_tryAll_244 : decode cX0_tryAll 244 = .ok (.isub, 1) := by decide +kernel
theorem dX0_tryAll_245 : decode cX0_tryAll 245 = .ok (.goto 9, 3) := by decide +kernel
theorem dX0_tryAll_248 : decode cX0_tryAll 248 = .ok (.aload_n 0, 1) := by decide +kernel
theorem dX0_tryAll_249 : decode cX0_tryAll 249 = .ok (.getfield 37, 3) := by decide +kernel
theorem dX0_tryAll_252 : decode cX0_tryAll 252 = .ok (.iload_n 2, 1) := by decide +kernel
theorem dX0_tryAll_253 : decode cX0_tryAll 253 = .ok (.iaload, 1) := by decide +kernel
theorem dX0_tryAll_254 : decode cX0_tryAll 254 = .ok (.iastore, 1) := by decide +kernel
theorem dX0_tryAll_255 : decode cX0_tryAll 255 = .ok (.iinc 6 1, 3) := by decide +kernel
theorem dX0_tryAll_258 : decode cX0_tryAll 258 = .ok (.goto (-121), 3) := by decide +kernel
theorem dX0_tryAll_261 : decode cX0_tryAll 261 = .ok (.aload_n 0, 1) := by decide +kernel
theorem dX0_tryAll_262 : decode cX0_tryAll 262 = .ok (.getfield 20, 3) := by decide +kernel
theorem dX0_tryAll_265 : decode cX0_tryAll 265 = .ok (.invokevirtual 54, 3) := by decide +kernel
theorem dX0_tryAll_268 : decode cX0_tryAll 268 = .ok (.iinc 3 1, 3) := by decide +kernel
theorem dX0_tryAll_271 : decode cX0_tryAll 271 = .ok (.goto (-198), 3) := by decide +kernel
theorem dX0_tryAll_274 : decode cX0_tryAll 274 = .ok (.return_, 1) := by decide +kernel
set_option maxRecDepth 100000 in
set_option maxHeartbeats 4000000 in
theorem tX0_tryAll {T R : Nat} {J : Nat → Prop} {Bc Bs : Nat} {M : gMd} {z : Nat → Nat} {hp : List gA} {a0 : Nat} {a1 : Int32}  (H : tyS T R J Bc Bs M z hp) (hk0 : tyK a0 = (7, 0))  : gM yX0_tryAll cX0_tryAll 8 (none) 7 200 [.ref 43, .ref a0, .int a1] (hp) (300000 - hp.length) (7000000 - gsz hp) (fun v h => v = none ∧ ∃ z', tyS T R J Bc Bs M z' h) := by
  refine gM_ofT (ls0 := [some (.ref 43), some (.ref a0), some (.int a1), none, none, none, none, none]) (by decide +kernel) (Nat.le_of_ble_eq_true rfl) rfl fun X C E h0 => ?_
  have J_73 : ∀ (d73 : Nat) (y73_2 y73_3 : Int32) (zJ73 : Nat → Nat) (hJ73 : List gA), (2147483647 - y73_3.toInt).toNat = d73 → ∀ (v73_0 : ¬ y73_2.toInt < 0 ∧ y73_2.toInt < 4), tyS T R J Bc Bs M zJ73 hJ73 → gG X 73 [some (.ref 43), some (.ref a0), some (.int y73_2), some (.int y73_3), none, none, none, none] [] hJ73 (hJ73.length - hp.length) (gsz hJ73 - gsz hp) := by
    intro d73
    induction d73 using Nat.strongRecOn with
    | _ d73 ih73 =>
    intro y73_2 y73_3 zJ73 hJ73 hd73 v73_0 HJ73
    have J_137 : ∀ (d137 : Nat) (y137_2 y137_3 y137_4 y137_5 y137_6 : Int32) (zJ137 : Nat → Nat) (hJ137 : List gA), (2147483647 - y137_6.toInt).toNat = d137 → ∀ (v137_0 : ¬ y137_2.toInt < 0 ∧ y137_2.toInt < 4) (w137_73 : (2147483647 - (y137_3 + 1).toInt).toNat < d73), tyS T R J Bc Bs M zJ137 hJ137 → gG X 137 [some (.ref 43), some (.ref a0), some (.int y137_2), some (.int y137_3), some (.int y137_4), some (.int y137_5), some (.int y137_6), none] [] hJ137 (hJ137.length - hp.length) (gsz hJ137 - gsz hp) := by
      intro d137
      induction d137 using Nat.strongRecOn with
      | _ d137 ih137 =>
      intro y137_2 y137_3 y137_4 y137_5 y137_6 zJ137 hJ137 hd137 v137_0 w137_73 HJ137
      have J_255 : ∀ (y255_2 y255_3 y255_4 y255_5 y255_6 y255_7 : Int32) (zJ255 : Nat → Nat) (hJ255 : List gA) (v255_0 : ¬ y255_2.toInt < 0 ∧ y255_2.toInt < 4) (w255_73 : (2147483647 - (y255_3 + 1).toInt).toNat < d73) (w255_137 : (2147483647 - (y255_6 + 1).toInt).toNat < d137), tyS T R J Bc Bs M zJ255 hJ255 → gG X 255 [some (.ref 43), some (.ref a0), some (.int y255_2), some (.int y255_3), some (.int y255_4), some (.int y255_5), some (.int y255_6), some (.int y255_7)] [] hJ255 (hJ255.length - hp.length) (gsz hJ255 - gsz hp) := by
        intro y255_2 y255_3 y255_4 y255_5 y255_6 y255_7 zJ255 hJ255 v255_0 w255_73 w255_137 HJ255
        refine g_iinc (v := y255_6 + 1) (q := 258) C dX0_tryAll_255 rfl rfl (by simp only [gset]; rfl) rfl ?_
        refine g_goto (q := 137) C dX0_tryAll_258 (by decide) ?_
        refine g_forget (ls' := [some (.ref 43), some (.ref a0), some (.int y255_2), some (.int y255_3), some (.int y255_4), some (.int y255_5), some (.int (y255_6 + 1)), none]) rfl (gfK (gfK (gfK (gfK (gfK (gfK (gfK (gfD gfN)))))))) ?_
        refine g_tight h0 H.2.2.2.1 HJ255.2.2.2.1 (fun ta1 tb1 => ?_)
        exact ih137 _ w255_137 _ _ _ _ _ _ _ rfl (by have k0 : (0 : Int32).toInt = 0 := (by decide); have k4 : (4 : Int32).toInt = 4 := (by decide); omega) w255_73 HJ255
      have J_254 : ∀ (y254_2 y254_3 y254_4 y254_5 y254_6 y254_7 s254_0 s254_1 : Int32) (zJ254 : Nat → Nat) (hJ254 : List gA) (v254_0 : ¬ y254_2.toInt < 0 ∧ y254_2.toInt < 4) (v254_1 : ¬ s254_1.toInt < 0 ∧ s254_1.toInt < 4) (w254_73 : (2147483647 - (y254_3 + 1).toInt).toNat < d73) (w254_137 : (2147483647 - (y254_6 + 1).toInt).toNat < d137), tyS T R J Bc Bs M zJ254 hJ254 → gG X 254 [some (.ref 43), some (.ref a0), some (.int y254_2), some (.int y254_3), some (.int y254_4), some (.int y254_5), some (.int y254_6), some (.int y254_7)] [.int s254_0, .int s254_1, .ref 115] hJ254 (hJ254.length - hp.length) (gsz hJ254 - gsz hp) := by
        intro y254_2 y254_3 y254_4 y254_5 y254_6 y254_7 s254_0 s254_1 zJ254 hJ254 v254_0 v254_1 w254_73 w254_137 HJ254
        obtain ⟨f2, o2⟩ := tyArr HJ254 (rfl : tyK 115 = (2, 4))
        refine g_iastore (q := 255) C dX0_tryAll_254 rfl o2 (by have k0 : (0 : Int32).toInt = 0 := (by decide); have k4 : (4 : Int32).toInt = 4 := (by decide); exact vp_in0 (by omega) (by omega)) ?_
        refine tyPa HJ254 (rfl : tyK 115 = (2, 4)) (by decide +kernel) o2 (fun h2 H2 => ?_)
        refine g_tight h0 H.2.2.2.1 H2.2.2.2.1 (fun ta3 tb3 => ?_)
        exact J_255 _ _ _ _ _ _ _ _ (by have k0 : (0 : Int32).toInt = 0 := (by decide); have k4 : (4 : Int32).toInt = 4 := (by decide); omega) w254_73 w254_137 H2
      have J_203 : ∀ (y203_2 y203_3 y203_4 y203_5 y203_6 y203_7 : Int32) (zJ203 : Nat → Nat) (hJ203 : List gA) (v203_0 : ¬ y203_2.toInt < 0 ∧ y203_2.toInt < 4) (w203_73 : (2147483647 - (y203_3 + 1).toInt).toNat < d73) (w203_137 : (2147483647 - (y203_6 + 1).toInt).toNat < d137), tyS T R J Bc Bs M zJ203 hJ203 → gG X 203 [some (.ref 43), some (.ref a0), some (.int y203_2), some (.int y203_3), some (.int y203_4), some (.int y203_5), some (.int y203_6), some (.int y203_7)] [] hJ203 (hJ203.length - hp.length) (gsz hJ203 - gsz hp) := by
        intro y203_2 y203_3 y203_4 y203_5 y203_6 y203_7 zJ203 hJ203 v203_0 w203_73 w203_137 HJ203
        refine g_aload_n (q := 204) C dX0_tryAll_203 rfl rfl ?_
        obtain ⟨x3_4, o4, e4_0⟩ := tyG0 HJ203 (rfl : tyK 43 = (8, 0))
        refine g_tight h0 H.2.2.2.1 HJ203.2.2.2.1 (fun ta5 tb5 => ?_)
        have lm5 := HJ203.lim
        refine g_callVip (q := 207) (As := []) C gyX0_forkIsHarmed gvX0_forkIsHarmed t_973 (tX0_forkIsHarmed HJ203) dX0_tryAll_204 rfl o4 rfl rfl rfl (Nat.le_of_ble_eq_true rfl) (Nat.le_of_ble_eq_true rfl) (Nat.le_of_ble_eq_true rfl) (by show _ + _ ≤ 300000 - List.length hp; omega) (by show _ + _ ≤ 7000000 - gsz hp; omega) rfl (fun x6 h6 q6 => ?_)
        obtain ⟨b6, H6⟩ := q6
        refine g_if_eq (t := 255) (q := 210) C dX0_tryAll_207 (by decide) rfl (fun c_207 => ?_) (fun c_207 => ?_)
        ·
          refine g_tight h0 H.2.2.2.1 H6.2.2.2.1 (fun ta7 tb7 => ?_)
          exact J_255 _ _ _ _ _ _ _ _ (by have k0 : (0 : Int32).toInt = 0 := (by decide); have k4 : (4 : Int32).toInt = 4 := (by decide); omega) w203_73 w203_137 H6
        ·
          refine g_aload_n (q := 211) C dX0_tryAll_210 rfl rfl ?_
          obtain ⟨x3_8, o8, e8_0⟩ := tyG0 H6 (rfl : tyK 43 = (8, 0))
          refine g_getfield (v := .ref 114) (q := 214) C fX0_34 dX0_tryAll_211 rfl o8 rfl ?_
          refine g_iload_n (q := 215) C dX0_tryAll_214 rfl rfl ?_
          refine g_dup2 (q := 216) C dX0_tryAll_215 rfl rfl rfl ?_
          obtain ⟨f9, o9⟩ := tyArr H6 (rfl : tyK 114 = (2, 4))
          refine g_iaload (q := 217) C dX0_tryAll_216 rfl o9 (by have k0 : (0 : Int32).toInt = 0 := (by decide); have k4 : (4 : Int32).toInt = 4 := (by decide); exact vp_in0 (by omega) (by omega)) ?_
          refine g_iconst (v := 1) (q := 218) C dX0_tryAll_217 (by decide) rfl ?_
          refine g_iadd (q := 219) C dX0_tryAll_218 rfl ?_
          obtain ⟨f10, o10⟩ := tyArr H6 (rfl : tyK 114 = (2, 4))
          refine g_iastore (q := 220) C dX0_tryAll_219 rfl o10 (by have k0 : (0 : Int32).toInt = 0 := (by decide); have k4 : (4 : Int32).toInt = 4 := (by decide); exact vp_in0 (by omega) (by omega)) ?_
          refine tyPa H6 (rfl : tyK 114 = (2, 4)) (by decide +kernel) o10 (fun h10 H10 => ?_)
          refine g_aload_n (q := 221) C dX0_tryAll_220 rfl rfl ?_
          obtain ⟨x3_11, o11, e11_0⟩ := tyG0 H10 (rfl : tyK 43 = (8, 0))
          refine g_getfield (v := .ref 115) (q := 224) C fX0_37 dX0_tryAll_221 rfl o11 rfl ?_
          refine g_iload_n (q := 225) C dX0_tryAll_224 rfl rfl ?_
          refine g_aload_n (q := 226) C dX0_tryAll_225 rfl rfl ?_
          refine g_getfield (v := .ref 115) (q := 229) C fX0_37 dX0_tryAll_226 rfl o11 rfl ?_
          refine g_iload_n (q := 230) C dX0_tryAll_229 rfl rfl ?_
          obtain ⟨f12, o12⟩ := tyArr H10 (rfl : tyK 115 = (2, 4))
          refine g_iaload (q := 231) C dX0_tryAll_230 rfl o12 (by have k0 : (0 : Int32).toInt = 0 := (by decide); have k4 : (4 : Int32).toInt = 4 := (by decide); exact vp_in0 (by omega) (by omega)) ?_
          refine g_iconst (v := (-1)) (q := 232) C dX0_tryAll_231 (by decide) rfl ?_
          refine g_icmp_ne (t := 248) (q := 235) C dX0_tryAll_232 (by decide) rfl (fun c_232 => ?_) (fun c_232 => ?_)
          ·
            refine g_aload_n (q := 249) C dX0_tryAll_248 rfl rfl ?_
            refine g_getfield (v := .ref 115) (q := 252) C fX0_37 dX0_tryAll_249 rfl o11 rfl ?_
            refine g_iload_n (q := 253) C dX0_tryAll_252 rfl rfl ?_
            obtain ⟨f13, o13⟩ := tyArr H10 (rfl : tyK 115 = (2, 4))
            refine g_iaload (q := 254) C dX0_tryAll_253 rfl o13 (by have k0 : (0 : Int32).toInt = 0 := (by decide); have k4 : (4 : Int32).toInt = 4 := (by decide); exact vp_in0 (by omega) (by omega)) ?_
            refine g_tight h0 H.2.2.2.1 H10.2.2.2.1 (fun ta14 tb14 => ?_)
            exact J_254 _ _ _ _ _ _ _ _ _ _ (by have k0 : (0 : Int32).toInt = 0 := (by decide); have k4 : (4 : Int32).toInt = 4 := (by decide); omega) (by have k0 : (0 : Int32).toInt = 0 := (by decide); have k4 : (4 : Int32).toInt = 4 := (by decide); omega) w203_73 w203_137 H10
          ·
            refine g_iload (q := 237) C dX0_tryAll_235 rfl rfl ?_
            refine g_aload_n (q := 238) C dX0_tryAll_237 rfl rfl ?_
            obtain ⟨x3_15, x4_15, x5_15, x6_15, x7_15, x11_15, x12_15, x13_15, x14_15, x15_15, x16_15, x17_15, jv_15, o15, e15_0, e15_1, e15_2, e15_3⟩ := tyG2 H10 hk0
            refine g_getfieldW (v := .ref ((a0 + 15))) (q := 241) C fX0_57 dX0_tryAll_238 rfl o15 rfl ?_
            obtain ⟨x0_16, x1_16, x2_16, x6_16, x7_16, x8_16, x9_16, o16, e16_0⟩ := tyG6 H10 (tyF2_2 hk0)
            refine g_getfield (v := .int x1_16) (q := 244) C fX0_61 dX0_tryAll_241 rfl o16 rfl ?_
            refine g_isub (q := 245) C dX0_tryAll_244 rfl ?_
            refine g_goto (q := 254) C dX0_tryAll_245 (by decide) ?_
            refine g_tight h0 H.2.2.2.1 H10.2.2.2.1 (fun ta17 tb17 => ?_)
            exact J_254 _ _ _ _ _ _ _ _ _ _ (by have k0 : (0 : Int32).toInt = 0 := (by decide); have k4 : (4 : Int32).toInt = 4 := (by decide); omega) (by have k0 : (0 : Int32).toInt = 0 := (by decide); have k4 : (4 : Int32).toInt = 4 := (by decide); omega) w203_73 w203_137 H10
      have J_171 : ∀ (d171 : Nat) (y171_2 y171_3 y171_4 y171_5 y171_6 y171_7 : Int32) (zJ171 : Nat → Nat) (hJ171 : List gA), (2147483647 - y171_7.toInt).toNat = d171 → ∀ (v171_0 : ¬ y171_2.toInt < 0 ∧ y171_2.toInt < 4) (w171_73 : (2147483647 - (y171_3 + 1).toInt).toNat < d73) (w171_137 : (2147483647 - (y171_6 + 1).toInt).toNat < d137), tyS T R J Bc Bs M zJ171 hJ171 → gG X 171 [some (.ref 43), some (.ref a0), some (.int y171_2), some (.int y171_3), some (.int y171_4), some (.int y171_5), some (.int y171_6), some (.int y171_7)] [] hJ171 (hJ171.length - hp.length) (gsz hJ171 - gsz hp) := by
        intro d171
        induction d171 using Nat.strongRecOn with
        | _ d171 ih171 =>
        intro y171_2 y171_3 y171_4 y171_5 y171_6 y171_7 zJ171 hJ171 hd171 v171_0 w171_73 w171_137 HJ171
        refine g_iload (q := 173) C dX0_tryAll_171 rfl rfl ?_
        refine g_sipush (v := 400) (q := 176) C dX0_tryAll_173 (by decide) rfl ?_
        refine g_icmp_ge (t := 203) (q := 179) C dX0_tryAll_176 (by decide) rfl (fun c_176 => ?_) (fun c_176 => ?_)
        ·
          have i_176 := Int32.le_iff_toInt_le.mp c_176
          refine g_tight h0 H.2.2.2.1 HJ171.2.2.2.1 (fun ta18 tb18 => ?_)
          exact J_203 _ _ _ _ _ _ _ _ (by have k0 : (0 : Int32).toInt = 0 := (by decide); have k4 : (4 : Int32).toInt = 4 := (by decide); omega) w171_73 w171_137 HJ171
        ·
          have i_176 := mt Int32.le_iff_toInt_le.mpr c_176
          refine g_aload_n (q := 180) C dX0_tryAll_179 rfl rfl ?_
          obtain ⟨x3_19, o19, e19_0⟩ := tyG0 HJ171 (rfl : tyK 43 = (8, 0))
          refine g_getfield (v := .ref 90) (q := 183) C fX0_23 dX0_tryAll_180 rfl o19 rfl ?_
          obtain ⟨x3_20, x4_20, x5_20, x6_20, x7_20, x11_20, x12_20, x13_20, x14_20, x15_20, x16_20, x17_20, jv_20, o20, e20_0, e20_1, e20_2, e20_3⟩ := tyG2 HJ171 (rfl : tyK 90 = (7, 0))
          refine g_getfield (v := .int x3_20) (q := 186) C fX0_50 dX0_tryAll_183 rfl o20 rfl ?_
          refine g_iconst (v := 1) (q := 187) C dX0_tryAll_186 (by decide) rfl ?_
          refine g_icmp_ne (t := 203) (q := 190) C dX0_tryAll_187 (by decide) rfl (fun c_187 => ?_) (fun c_187 => ?_)
          ·
            refine g_tight h0 H.2.2.2.1 HJ171.2.2.2.1 (fun ta21 tb21 => ?_)
            exact J_203 _ _ _ _ _ _ _ _ (by have k0 : (0 : Int32).toInt = 0 := (by decide); have k4 : (4 : Int32).toInt = 4 := (by decide); omega) w171_73 w171_137 HJ171
          ·
            refine g_aload_n (q := 191) C dX0_tryAll_190 rfl rfl ?_
            refine g_getfield (v := .ref 90) (q := 194) C fX0_23 dX0_tryAll_191 rfl o19 rfl ?_
            refine g_tight h0 H.2.2.2.1 HJ171.2.2.2.1 (fun ta22 tb22 => ?_)
            have lm22 := HJ171.lim
            refine g_callVvp (q := 197) (As := []) C gyX2_turn gvX2_turn t_959 (tX2_turn HJ171 (rfl : tyK 90 = (7, 0))) dX0_tryAll_194 rfl o20 rfl rfl rfl (Nat.le_of_ble_eq_true rfl) (Nat.le_of_ble_eq_true rfl) (Nat.le_of_ble_eq_true rfl) (by show _ + _ ≤ 300000 - List.length hp; omega) (by show _ + _ ≤ 7000000 - gsz hp; omega) rfl (fun h23 q23 => ?_)
            obtain ⟨z23, H23⟩ := q23
            refine g_iinc (v := y171_7 + 1) (q := 200) C dX0_tryAll_197 rfl rfl (by simp only [gset]; rfl) rfl ?_
            refine g_goto (q := 171) C dX0_tryAll_200 (by decide) ?_
            refine g_tight h0 H.2.2.2.1 H23.2.2.2.1 (fun ta24 tb24 => ?_)
            exact ih171 _ (tyUp' hd171 c_176) _ _ _ _ _ _ _ _ rfl (by have k0 : (0 : Int32).toInt = 0 := (by decide); have k4 : (4 : Int32).toInt = 4 := (by decide); omega) w171_73 w171_137 H23
      refine g_iload (q := 139) C dX0_tryAll_137 rfl rfl ?_
      refine g_iload (q := 141) C dX0_tryAll_139 rfl rfl ?_
      refine g_icmp_ge (t := 261) (q := 144) C dX0_tryAll_141 (by decide) rfl (fun c_141 => ?_) (fun c_141 => ?_)
      ·
        have i_141 := Int32.le_iff_toInt_le.mp c_141
        refine g_aload_n (q := 262) C dX0_tryAll_261 rfl rfl ?_
        obtain ⟨x3_25, o25, e25_0⟩ := tyG0 HJ137 (rfl : tyK 43 = (8, 0))
        refine g_getfield (v := .ref 67) (q := 265) C fX0_20 dX0_tryAll_262 rfl o25 rfl ?_
        obtain ⟨x3_26, x4_26, x5_26, x6_26, x7_26, x11_26, x12_26, x13_26, x14_26, x15_26, x16_26, x17_26, jv_26, o26, e26_0, e26_1, e26_2, e26_3⟩ := tyG2 HJ137 (rfl : tyK 67 = (7, 0))
        refine g_tight h0 H.2.2.2.1 HJ137.2.2.2.1 (fun ta27 tb27 => ?_)
        have lm27 := HJ137.lim
        refine g_callVvp (q := 268) (As := []) C gyX2_turn gvX2_turn t_959 (tX2_turn HJ137 (rfl : tyK 67 = (7, 0))) dX0_tryAll_265 rfl o26 rfl rfl rfl (Nat.le_of_ble_eq_true rfl) (Nat.le_of_ble_eq_true rfl) (Nat.le_of_ble_eq_true rfl) (by show _ + _ ≤ 300000 - List.length hp; omega) (by show _ + _ ≤ 7000000 - gsz hp; omega) rfl (fun h28 q28 => ?_)
        obtain ⟨z28, H28⟩ := q28
        refine g_iinc (v := y137_3 + 1) (q := 271) C dX0_tryAll_268 rfl rfl (by simp only [gset]; rfl) rfl ?_
        refine g_goto (q := 73) C dX0_tryAll_271 (by decide) ?_
        refine g_forget (ls' := [some (.ref 43), some (.ref a0), some (.int y137_2), some (.int (y137_3 + 1)), none, none, none, none]) rfl (gfK (gfK (gfK (gfK (gfD (gfD (gfD (gfK gfN)))))))) ?_
        refine g_tight h0 H.2.2.2.1 H28.2.2.2.1 (fun ta29 tb29 => ?_)
        exact ih73 _ w137_73 _ _ _ _ rfl (by have k0 : (0 : Int32).toInt = 0 := (by decide); have k4 : (4 : Int32).toInt = 4 := (by decide); omega) H28
      ·
        have i_141 := mt Int32.le_iff_toInt_le.mpr c_141
        refine g_aload_n (q := 145) C dX0_tryAll_144 rfl rfl ?_
        obtain ⟨x3_30, o30, e30_0⟩ := tyG0 HJ137 (rfl : tyK 43 = (8, 0))
        refine g_getfield (v := .ref 90) (q := 148) C fX0_23 dX0_tryAll_145 rfl o30 rfl ?_
        refine g_aload_n (q := 149) C dX0_tryAll_148 rfl rfl ?_
        refine g_getfield (v := .ref 67) (q := 152) C fX0_20 dX0_tryAll_149 rfl o30 rfl ?_
        obtain ⟨x3_31, x4_31, x5_31, x6_31, x7_31, x11_31, x12_31, x13_31, x14_31, x15_31, x16_31, x17_31, jv_31, o31, e31_0, e31_1, e31_2, e31_3⟩ := tyG2 HJ137 (rfl : tyK 90 = (7, 0))
        refine g_tight h0 H.2.2.2.1 HJ137.2.2.2.1 (fun ta32 tb32 => ?_)
        have lm32 := HJ137.lim
        refine g_callVvp (q := 155) (As := [.ref 67]) C gyX2_copy gvX2_copy t_947 (tX2_copy HJ137 (rfl : tyK 90 = (7, 0)) (rfl : tyK 67 = (7, 0)) (by omega)) dX0_tryAll_152 rfl o31 rfl rfl rfl (Nat.le_of_ble_eq_true rfl) (Nat.le_of_ble_eq_true rfl) (Nat.le_of_ble_eq_true rfl) (by show _ + _ ≤ 300000 - List.length hp; omega) (by show _ + _ ≤ 7000000 - gsz hp; omega) rfl (fun h33 q33 => ?_)
        have H33 := q33
        refine g_aload_n (q := 156) C dX0_tryAll_155 rfl rfl ?_
        obtain ⟨x3_34, o34, e34_0⟩ := tyG0 H33 (rfl : tyK 43 = (8, 0))
        refine g_getfield (v := .ref 90) (q := 159) C fX0_23 dX0_tryAll_156 rfl o34 rfl ?_
        obtain ⟨x3_35, x4_35, x5_35, x6_35, x7_35, x11_35, x12_35, x13_35, x14_35, x15_35, x16_35, x17_35, jv_35, o35, e35_0, e35_1, e35_2, e35_3⟩ := tyG2 H33 (rfl : tyK 90 = (7, 0))
        refine g_getfieldW (v := .ref ((90 + 15))) (q := 162) C fX0_57 dX0_tryAll_159 rfl o35 rfl ?_
        refine g_iload (q := 164) C dX0_tryAll_162 rfl rfl ?_
        refine g_iload_n (q := 165) C dX0_tryAll_164 rfl rfl ?_
        obtain ⟨x0_36, x1_36, x2_36, x6_36, x7_36, x8_36, x9_36, o36, e36_0⟩ := tyG6 H33 (tyF2_2 (rfl : tyK 90 = (7, 0)))
        refine g_tight h0 H.2.2.2.1 H33.2.2.2.1 (fun ta37 tb37 => ?_)
        have lm37 := H33.lim
        refine g_callVvp (q := 168) (As := [.int y137_6, .int y137_2]) C gyX6_probe gvX6_probe t_969 (tX6_probe H33 (tyF2_2 (rfl : tyK 90 = (7, 0)))) dX0_tryAll_165 rfl o36 rfl rfl rfl (Nat.le_of_ble_eq_true rfl) (Nat.le_of_ble_eq_true rfl) (Nat.le_of_ble_eq_true rfl) (by show _ + _ ≤ 300000 - List.length hp; omega) (by show _ + _ ≤ 7000000 - gsz hp; omega) rfl (fun h38 q38 => ?_)
        have H38 := q38
        refine g_iload_n (q := 169) C dX0_tryAll_168 rfl rfl ?_
        refine g_istore (q := 171) C dX0_tryAll_169 (Nat.le_of_ble_eq_true rfl) (by simp only [gset]; rfl) rfl ?_
        refine g_tight h0 H.2.2.2.1 H38.2.2.2.1 (fun ta39 tb39 => ?_)
        exact J_171 _ _ _ _ _ _ _ _ _ rfl (by have k0 : (0 : Int32).toInt = 0 := (by decide); have k4 : (4 : Int32).toInt = 4 := (by decide); omega) w137_73 (tyUp' hd137 c_141) H38
    refine g_iload_n (q := 74) C dX0_tryAll_73 rfl rfl ?_
    refine g_sipush (v := 400) (q := 77) C dX0_tryAll_74 (by decide) rfl ?_
    refine g_icmp_ge (t := 274) (q := 80) C dX0_tryAll_77 (by decide) rfl (fun c_77 => ?_) (fun c_77 => ?_)
    ·
      have i_77 := Int32.le_iff_toInt_le.mp c_77
      refine g_tight h0 H.2.2.2.1 HJ73.2.2.2.1 (fun ta40 tb40 => ?_)
      have lm40 := HJ73.lim
      exact E.2.1 _ _ _ _ _ dX0_tryAll_274 rfl (by omega) (by omega) ⟨rfl, ⟨_, HJ73⟩⟩
    ·
      have i_77 := mt Int32.le_iff_toInt_le.mpr c_77
      refine g_aload_n (q := 81) C dX0_tryAll_80 rfl rfl ?_
      obtain ⟨x3_41, o41, e41_0⟩ := tyG0 HJ73 (rfl : tyK 43 = (8, 0))
      refine g_getfield (v := .ref 67) (q := 84) C fX0_20 dX0_tryAll_81 rfl o41 rfl ?_
      obtain ⟨x3_42, x4_42, x5_42, x6_42, x7_42, x11_42, x12_42, x13_42, x14_42, x15_42, x16_42, x17_42, jv_42, o42, e42_0, e42_1, e42_2, e42_3⟩ := tyG2 HJ73 (rfl : tyK 67 = (7, 0))
      refine g_getfield (v := .int x3_42) (q := 87) C fX0_50 dX0_tryAll_84 rfl o42 rfl ?_
      refine g_iconst (v := 1) (q := 88) C dX0_tryAll_87 (by decide) rfl ?_
      refine g_icmp_ne (t := 274) (q := 91) C dX0_tryAll_88 (by decide) rfl (fun c_88 => ?_) (fun c_88 => ?_)
      ·
        refine g_tight h0 H.2.2.2.1 HJ73.2.2.2.1 (fun ta43 tb43 => ?_)
        have lm43 := HJ73.lim
        exact E.2.1 _ _ _ _ _ dX0_tryAll_274 rfl (by omega) (by omega) ⟨rfl, ⟨_, HJ73⟩⟩
      ·
        refine g_aload_n (q := 92) C dX0_tryAll_91 rfl rfl ?_
        refine g_getfield (v := .ref 67) (q := 95) C fX0_20 dX0_tryAll_92 rfl o41 rfl ?_
        refine g_getfieldW (v := .ref ((67 + 15))) (q := 98) C fX0_57 dX0_tryAll_95 rfl o42 rfl ?_
        obtain ⟨x0_44, x1_44, x2_44, x6_44, x7_44, x8_44, x9_44, o44, e44_0⟩ := tyG6 HJ73 (tyF2_2 (rfl : tyK 67 = (7, 0)))
        refine g_getfield (v := .int x1_44) (q := 101) C fX0_61 dX0_tryAll_98 rfl o44 rfl ?_
        refine g_istore (q := 103) C dX0_tryAll_101 (Nat.le_of_ble_eq_true rfl) (by simp only [gset]; rfl) rfl ?_
        refine g_aload_n (q := 104) C dX0_tryAll_103 rfl rfl ?_
        refine g_getfield (v := .ref 90) (q := 107) C fX0_23 dX0_tryAll_104 rfl o41 rfl ?_
        refine g_aload_n (q := 108) C dX0_tryAll_107 rfl rfl ?_
        refine g_getfield (v := .ref 67) (q := 111) C fX0_20 dX0_tryAll_108 rfl o41 rfl ?_
        obtain ⟨x3_45, x4_45, x5_45, x6_45, x7_45, x11_45, x12_45, x13_45, x14_45, x15_45, x16_45, x17_45, jv_45, o45, e45_0, e45_1, e45_2, e45_3⟩ := tyG2 HJ73 (rfl : tyK 90 = (7, 0))
        refine g_tight h0 H.2.2.2.1 HJ73.2.2.2.1 (fun ta46 tb46 => ?_)
        have lm46 := HJ73.lim
        refine g_callVvp (q := 114) (As := [.ref 67]) C gyX2_copy gvX2_copy t_947 (tX2_copy HJ73 (rfl : tyK 90 = (7, 0)) (rfl : tyK 67 = (7, 0)) (by omega)) dX0_tryAll_111 rfl o45 rfl rfl rfl (Nat.le_of_ble_eq_true rfl) (Nat.le_of_ble_eq_true rfl) (Nat.le_of_ble_eq_true rfl) (by show _ + _ ≤ 300000 - List.length hp; omega) (by show _ + _ ≤ 7000000 - gsz hp; omega) rfl (fun h47 q47 => ?_)
        have H47 := q47
        refine g_aload_n (q := 115) C dX0_tryAll_114 rfl rfl ?_
        obtain ⟨x3_48, o48, e48_0⟩ := tyG0 H47 (rfl : tyK 43 = (8, 0))
        refine g_getfield (v := .ref 90) (q := 118) C fX0_23 dX0_tryAll_115 rfl o48 rfl ?_
        obtain ⟨x3_49, x4_49, x5_49, x6_49, x7_49, x11_49, x12_49, x13_49, x14_49, x15_49, x16_49, x17_49, jv_49, o49, e49_0, e49_1, e49_2, e49_3⟩ := tyG2 H47 (rfl : tyK 90 = (7, 0))
        refine g_tight h0 H.2.2.2.1 H47.2.2.2.1 (fun ta50 tb50 => ?_)
        have lm50 := H47.lim
        refine g_callVvp (q := 121) (As := []) C gyX2_turn gvX2_turn t_959 (tX2_turn H47 (rfl : tyK 90 = (7, 0))) dX0_tryAll_118 rfl o49 rfl rfl rfl (Nat.le_of_ble_eq_true rfl) (Nat.le_of_ble_eq_true rfl) (Nat.le_of_ble_eq_true rfl) (by show _ + _ ≤ 300000 - List.length hp; omega) (by show _ + _ ≤ 7000000 - gsz hp; omega) rfl (fun h51 q51 => ?_)
        obtain ⟨z51, H51⟩ := q51
        refine g_aload_n (q := 122) C dX0_tryAll_121 rfl rfl ?_
        obtain ⟨x3_52, o52, e52_0⟩ := tyG0 H51 (rfl : tyK 43 = (8, 0))
        refine g_getfield (v := .ref 90) (q := 125) C fX0_23 dX0_tryAll_122 rfl o52 rfl ?_
        obtain ⟨x3_53, x4_53, x5_53, x6_53, x7_53, x11_53, x12_53, x13_53, x14_53, x15_53, x16_53, x17_53, jv_53, o53, e53_0, e53_1, e53_2, e53_3⟩ := tyG2 H51 (rfl : tyK 90 = (7, 0))
        refine g_getfieldW (v := .ref ((90 + 15))) (q := 128) C fX0_57 dX0_tryAll_125 rfl o53 rfl ?_
        obtain ⟨x0_54, x1_54, x2_54, x6_54, x7_54, x8_54, x9_54, o54, e54_0⟩ := tyG6 H51 (tyF2_2 (rfl : tyK 90 = (7, 0)))
        refine g_getfield (v := .int x1_54) (q := 131) C fX0_61 dX0_tryAll_128 rfl o54 rfl ?_
        refine g_istore (q := 133) C dX0_tryAll_131 (Nat.le_of_ble_eq_true rfl) (by simp only [gset]; rfl) rfl ?_
        refine g_iload (q := 135) C dX0_tryAll_133 rfl rfl ?_
        refine g_istore (q := 137) C dX0_tryAll_135 (Nat.le_of_ble_eq_true rfl) (by simp only [gset]; rfl) rfl ?_
        refine g_tight h0 H.2.2.2.1 H51.2.2.2.1 (fun ta55 tb55 => ?_)
        exact J_137 _ _ _ _ _ _ _ _ rfl (by have k0 : (0 : Int32).toInt = 0 := (by decide); have k4 : (4 : Int32).toInt = 4 := (by decide); omega) (tyUp' hd73 c_77) H51
  refine g_iload_n (q := 1) C dX0_tryAll_0 rfl rfl ?_
  refine g_if_lt (t := 41) (q := 4) C dX0_tryAll_1 (by decide) rfl (fun c_1 => ?_) (fun c_1 => ?_)
  ·
    have i_1 := Int32.lt_iff_toInt_lt.mp c_1
    refine g_tight h0 H.2.2.2.1 H.2.2.2.1 (fun ta56 tb56 => ?_)
    have lm56 := H.lim
    exact E.2.1 _ _ _ _ _ dX0_tryAll_41 rfl (by omega) (by omega) ⟨rfl, ⟨_, H⟩⟩
  ·
    have i_1 := mt Int32.lt_iff_toInt_lt.mpr c_1
    refine g_iload_n (q := 5) C dX0_tryAll_4 rfl rfl ?_
    refine g_aload_n (q := 6) C dX0_tryAll_5 rfl rfl ?_
    obtain ⟨x3_57, o57, e57_0⟩ := tyG0 H (rfl : tyK 43 = (8, 0))
    refine g_getfield (v := .ref 113) (q := 9) C fX0_30 dX0_tryAll_6 rfl o57 rfl ?_
    obtain ⟨f58, o58⟩ := tyArr H (rfl : tyK 113 = (2, 4))
    refine g_arraylength (v := 4) (q := 10) C dX0_tryAll_9 rfl o58 (by decide) ?_
    refine g_icmp_ge (t := 41) (q := 13) C dX0_tryAll_10 (by decide) rfl (fun c_10 => ?_) (fun c_10 => ?_)
    ·
      have i_10 := Int32.le_iff_toInt_le.mp c_10
      refine g_tight h0 H.2.2.2.1 H.2.2.2.1 (fun ta59 tb59 => ?_)
      have lm59 := H.lim
      exact E.2.1 _ _ _ _ _ dX0_tryAll_41 rfl (by omega) (by omega) ⟨rfl, ⟨_, H⟩⟩
    ·
      have i_10 := mt Int32.le_iff_toInt_le.mpr c_10
      refine g_iload_n (q := 14) C dX0_tryAll_13 rfl rfl ?_
      refine g_aload_n (q := 15) C dX0_tryAll_14 rfl rfl ?_
      refine g_getfield (v := .ref 114) (q := 18) C fX0_34 dX0_tryAll_15 rfl o57 rfl ?_
      obtain ⟨f60, o60⟩ := tyArr H (rfl : tyK 114 = (2, 4))
      refine g_arraylength (v := 4) (q := 19) C dX0_tryAll_18 rfl o60 (by decide) ?_
      refine g_icmp_ge (t := 41) (q := 22) C dX0_tryAll_19 (by decide) rfl (fun c_19 => ?_) (fun c_19 => ?_)
      ·
        have i_19 := Int32.le_iff_toInt_le.mp c_19
        refine g_tight h0 H.2.2.2.1 H.2.2.2.1 (fun ta61 tb61 => ?_)
        have lm61 := H.lim
        exact E.2.1 _ _ _ _ _ dX0_tryAll_41 rfl (by omega) (by omega) ⟨rfl, ⟨_, H⟩⟩
      ·
        have i_19 := mt Int32.le_iff_toInt_le.mpr c_19
        refine g_iload_n (q := 23) C dX0_tryAll_22 rfl rfl ?_
        refine g_aload_n (q := 24) C dX0_tryAll_23 rfl rfl ?_
        refine g_getfield (v := .ref 115) (q := 27) C fX0_37 dX0_tryAll_24 rfl o57 rfl ?_
        obtain ⟨f62, o62⟩ := tyArr H (rfl : tyK 115 = (2, 4))
        refine g_arraylength (v := 4) (q := 28) C dX0_tryAll_27 rfl o62 (by decide) ?_
        refine g_icmp_ge (t := 41) (q := 31) C dX0_tryAll_28 (by decide) rfl (fun c_28 => ?_) (fun c_28 => ?_)
        ·
          have i_28 := Int32.le_iff_toInt_le.mp c_28
          refine g_tight h0 H.2.2.2.1 H.2.2.2.1 (fun ta63 tb63 => ?_)
          have lm63 := H.lim
          exact E.2.1 _ _ _ _ _ dX0_tryAll_41 rfl (by omega) (by omega) ⟨rfl, ⟨_, H⟩⟩
        ·
          have i_28 := mt Int32.le_iff_toInt_le.mpr c_28
          refine g_aload_n (q := 32) C dX0_tryAll_31 rfl rfl ?_
          refine g_getfield (v := .ref 113) (q := 35) C fX0_30 dX0_tryAll_32 rfl o57 rfl ?_
          refine g_iload_n (q := 36) C dX0_tryAll_35 rfl rfl ?_
          obtain ⟨f64, o64⟩ := tyArr H (rfl : tyK 113 = (2, 4))
          refine g_iaload (q := 37) C dX0_tryAll_36 rfl o64 (by have k0 : (0 : Int32).toInt = 0 := (by decide); have k4 : (4 : Int32).toInt = 4 := (by decide); exact vp_in0 (by omega) (by omega)) ?_
          refine g_iconst (v := 1) (q := 38) C dX0_tryAll_37 (by decide) rfl ?_
          refine g_icmp_ne (t := 42) (q := 41) C dX0_tryAll_38 (by decide) rfl (fun c_38 => ?_) (fun c_38 => ?_)
          ·
            refine g_aload_n (q := 43) C dX0_tryAll_42 rfl rfl ?_
            refine g_getfield (v := .ref 113) (q := 46) C fX0_30 dX0_tryAll_43 rfl o57 rfl ?_
            refine g_iload_n (q := 47) C dX0_tryAll_46 rfl rfl ?_
            refine g_iconst (v := 1) (q := 48) C dX0_tryAll_47 (by decide) rfl ?_
            obtain ⟨f65, o65⟩ := tyArr H (rfl : tyK 113 = (2, 4))
            refine g_iastore (q := 49) C dX0_tryAll_48 rfl o65 (by have k0 : (0 : Int32).toInt = 0 := (by decide); have k4 : (4 : Int32).toInt = 4 := (by decide); exact vp_in0 (by omega) (by omega)) ?_
            refine tyPa H (rfl : tyK 113 = (2, 4)) (by decide +kernel) o65 (fun h65 H65 => ?_)
            refine g_aload_n (q := 50) C dX0_tryAll_49 rfl rfl ?_
            obtain ⟨x3_66, o66, e66_0⟩ := tyG0 H65 (rfl : tyK 43 = (8, 0))
            refine g_getfield (v := .ref 114) (q := 53) C fX0_34 dX0_tryAll_50 rfl o66 rfl ?_
            refine g_iload_n (q := 54) C dX0_tryAll_53 rfl rfl ?_
            refine g_iconst (v := 0) (q := 55) C dX0_tryAll_54 (by decide) rfl ?_
            obtain ⟨f67, o67⟩ := tyArr H65 (rfl : tyK 114 = (2, 4))
            refine g_iastore (q := 56) C dX0_tryAll_55 rfl o67 (by have k0 : (0 : Int32).toInt = 0 := (by decide); have k4 : (4 : Int32).toInt = 4 := (by decide); exact vp_in0 (by omega) (by omega)) ?_
            refine tyPa H65 (rfl : tyK 114 = (2, 4)) (by decide +kernel) o67 (fun h67 H67 => ?_)
            refine g_aload_n (q := 57) C dX0_tryAll_56 rfl rfl ?_
            obtain ⟨x3_68, o68, e68_0⟩ := tyG0 H67 (rfl : tyK 43 = (8, 0))
            refine g_getfield (v := .ref 115) (q := 60) C fX0_37 dX0_tryAll_57 rfl o68 rfl ?_
            refine g_iload_n (q := 61) C dX0_tryAll_60 rfl rfl ?_
            refine g_iconst (v := (-1)) (q := 62) C dX0_tryAll_61 (by decide) rfl ?_
            obtain ⟨f69, o69⟩ := tyArr H67 (rfl : tyK 115 = (2, 4))
            refine g_iastore (q := 63) C dX0_tryAll_62 rfl o69 (by have k0 : (0 : Int32).toInt = 0 := (by decide); have k4 : (4 : Int32).toInt = 4 := (by decide); exact vp_in0 (by omega) (by omega)) ?_
            refine tyPa H67 (rfl : tyK 115 = (2, 4)) (by decide +kernel) o69 (fun h69 H69 => ?_)
            refine g_aload_n (q := 64) C dX0_tryAll_63 rfl rfl ?_
            obtain ⟨x3_70, o70, e70_0⟩ := tyG0 H69 (rfl : tyK 43 = (8, 0))
            refine g_getfield (v := .ref 67) (q := 67) C fX0_20 dX0_tryAll_64 rfl o70 rfl ?_
            refine g_aload_n (q := 68) C dX0_tryAll_67 rfl rfl ?_
            obtain ⟨x3_71, x4_71, x5_71, x6_71, x7_71, x11_71, x12_71, x13_71, x14_71, x15_71, x16_71, x17_71, jv_71, o71, e71_0, e71_1, e71_2, e71_3⟩ := tyG2 H69 (rfl : tyK 67 = (7, 0))
            refine g_tight h0 H.2.2.2.1 H69.2.2.2.1 (fun ta72 tb72 => ?_)
            have lm72 := H69.lim
            refine g_callVvp (q := 71) (As := [.ref a0]) C gyX2_copy gvX2_copy t_947 (tX2_copy H69 (rfl : tyK 67 = (7, 0)) hk0 (by omega)) dX0_tryAll_68 rfl o71 rfl rfl rfl (Nat.le_of_ble_eq_true rfl) (Nat.le_of_ble_eq_true rfl) (Nat.le_of_ble_eq_true rfl) (by show _ + _ ≤ 300000 - List.length hp; omega) (by show _ + _ ≤ 7000000 - gsz hp; omega) rfl (fun h73 q73 => ?_)
            have H73 := q73
            refine g_iconst (v := 0) (q := 72) C dX0_tryAll_71 (by decide) rfl ?_
            refine g_istore_n (q := 73) C dX0_tryAll_72 (Nat.le_of_ble_eq_true rfl) (by simp only [gset]; rfl) rfl ?_
            refine g_tight h0 H.2.2.2.1 H73.2.2.2.1 (fun ta74 tb74 => ?_)
            exact J_73 _ _ _ _ _ rfl (by have k0 : (0 : Int32).toInt = 0 := (by decide); have k4 : (4 : Int32).toInt = 4 := (by decide); omega) H73
          ·
            refine g_tight h0 H.2.2.2.1 H.2.2.2.1 (fun ta75 tb75 => ?_)
            have lm75 := H.lim
            exact E.2.1 _ _ _ _ _ dX0_tryAll_41 rfl (by omega) (by omega) ⟨rfl, ⟨_, H⟩⟩
theorem dX3_faultAt_0 : decode cX3_faultAt 0 = .ok (.bipush 8, 2) := by decide +kernel
theorem dX3_faultAt_2 : decode cX3_faultAt 2 = .ok (.iload_n 0, 1) := by decide +kernel
theorem dX3_faultAt_3 : decode cX3_faultAt 3 = .ok (.imul, 1) := by decide +kernel
theorem dX3_faultAt_4 : decode cX3_faultAt 4 = .ok (.iload_n 1, 1) := by decide +kernel
theorem dX3_faultAt_5 : decode cX3_faultAt 5 = .ok (.iadd, 1) := by decide +kernel
theorem dX3_faultAt_6 : decode cX3_faultAt 6 = .ok (.ireturn, 1) := by decide +kernel
set_option maxRecDepth 100000 in
set_option maxHeartbeats 4000000 in
theorem tX3_faultAt {T R : Nat} {J : Nat → Prop} {Bc Bs : Nat} {M : gMd} {z : Nat → Nat} {hp : List gA} {a0 : Int32} {a1 : Int32}  (H : tyS T R J Bc Bs M z hp)  : gM yX3_faultAt cX3_faultAt 2 ((some .int)) 0 0 [.int a0, .int a1] (hp) (0) (0) (fun v h => ∃ x, v = some (.int x) ∧ tyS T R J Bc Bs M z h) := by
  refine gM_of (ls0 := [some (.int a0), some (.int a1)]) (by decide +kernel) (Nat.le_of_ble_eq_true rfl) rfl fun X C E => ?_
  refine g_bipush (v := 8) (q := 2) C dX3_faultAt_0 (by decide) rfl ?_
  refine g_iload_n (q := 3) C dX3_faultAt_2 rfl rfl ?_
  refine g_imul (q := 4) C dX3_faultAt_3 rfl ?_
  refine g_iload_n (q := 5) C dX3_faultAt_4 rfl rfl ?_
  refine g_iadd (q := 6) C dX3_faultAt_5 rfl ?_
  exact E.1 _ _ _ _ _ _ _ dX3_faultAt_6 rfl rfl (Nat.le_of_ble_eq_true rfl) (Nat.le_of_ble_eq_true rfl) ⟨_, rfl, H⟩
theorem dX3_cardRoom_0 : decode cX3_cardRoom 0 = .ok (.aload_n 0, 1) := by decide +kernel
theorem dX3_cardRoom_1 : decode cX3_cardRoom 1 = .ok (.getfield 51, 3) := by decide +kernel
theorem dX3_cardRoom_4 : decode cX3_cardRoom 4 = .ok (.ireturn, 1) := by decide +kernel
set_option maxRecDepth 100000 in
set_option maxHeartbeats 4000000 in
theorem tX3_cardRoom {T R : Nat} {J : Nat → Prop} {Bc Bs : Nat} {M : gMd} {z : Nat → Nat} {hp : List gA} {o : Nat}  (H : tyS T R J Bc Bs M z hp) (hk : tyK o = (9, 0))  : gM yX3_cardRoom cX3_cardRoom 1 ((some .int)) 0 0 [.ref o] (hp) (0) (0) (fun v h => ∃ x, v = some (.int x) ∧ tyS T R J Bc Bs M z h) := by
  refine gM_of (ls0 := [some (.ref o)]) (by decide +kernel) (Nat.le_of_ble_eq_true rfl) rfl fun X C E => ?_
  refine g_aload_n (q := 1) C dX3_cardRoom_0 rfl rfl ?_
  obtain ⟨x0_1, x1_1, x2_1, x3_1, x4_1, x5_1, x6_1, x8_1, x9_1, x10_1, o1, e1_0⟩ := tyG3 H hk
  refine g_getfield (v := .int x5_1) (q := 4) C fX3_51 dX3_cardRoom_1 rfl o1 rfl ?_
  exact E.1 _ _ _ _ _ _ _ dX3_cardRoom_4 rfl rfl (Nat.le_of_ble_eq_true rfl) (Nat.le_of_ble_eq_true rfl) ⟨_, rfl, H⟩
theorem dX3_historicalByte_0 : decode cX3_historicalByte 0 = .ok (.aload_n 0, 1) := by decide +kernel
theorem dX3_historicalByte_1 : decode cX3_historicalByte 1 = .ok (.getfield 14, 3) := by decide +kernel
theorem dX3_historicalByte_4 : decode cX3_historicalByte 4 = .ok (.iload_n 1, 1) := by decide +kernel
theorem dX3_historicalByte_5 : decode cX3_historicalByte 5 = .ok (.invokevirtual 30, 3) := by decide +kernel
theorem dX3_historicalByte_8 : decode cX3_historicalByte 8 = .ok (.ireturn, 1) := by decide +kernel
set_option maxRecDepth 100000 in
set_option maxHeartbeats 4000000 in
theorem tX3_historicalByte {T R : Nat} {J : Nat → Prop} {Bc Bs : Nat} {M : gMd} {z : Nat → Nat} {hp : List gA} {o : Nat} {a0 : Int32}  (H : tyS T R J Bc Bs M z hp) (hk : tyK o = (9, 0))  : gM yX3_historicalByte cX3_historicalByte 2 ((some .int)) 1 21 [.ref o, .int a0] (hp) (0) (0) (fun v h => ∃ x, v = some (.int x) ∧ tyS T R J Bc Bs M z h) := by
  refine gM_of (ls0 := [some (.ref o), some (.int a0)]) (by decide +kernel) (Nat.le_of_ble_eq_true rfl) rfl fun X C E => ?_
  refine g_aload_n (q := 1) C dX3_historicalByte_0 rfl rfl ?_
  obtain ⟨x0_1, x1_1, x2_1, x3_1, x4_1, x5_1, x6_1, x8_1, x9_1, x10_1, o1, e1_0⟩ := tyG3 H hk
  refine g_getfield (v := .ref ((o + 1))) (q := 4) C fX3_14 dX3_historicalByte_1 rfl o1 rfl ?_
  refine g_iload_n (q := 5) C dX3_historicalByte_4 rfl rfl ?_
  obtain ⟨l2, g2, -⟩ := tyRow H (tyF3_7 hk)
  refine g_callVip (q := 8) (As := [.int a0]) C gyX4_at gvX4_at t_521 (tX4_at H (tyF3_7 hk)) dX3_historicalByte_5 rfl g2.obj rfl rfl rfl (Nat.le_of_ble_eq_true rfl) (Nat.le_of_ble_eq_true rfl) (Nat.le_of_ble_eq_true rfl) (Nat.le_of_ble_eq_true rfl) (Nat.le_of_ble_eq_true rfl) rfl (fun x3 h3 q3 => ?_)
  subst q3
  exact E.1 _ _ _ _ _ _ _ dX3_historicalByte_8 rfl rfl (Nat.le_of_ble_eq_true rfl) (Nat.le_of_ble_eq_true rfl) ⟨_, rfl, H⟩
theorem dX3_historicalBytes_0 : decode cX3_historicalBytes 0 = .ok (.aload_n 0, 1) := by decide +kernel
theorem dX3_historicalBytes_1 : decode cX3_historicalBytes 1 = .ok (.getfield 14, 3) := by decide +kernel
theorem dX3_historicalBytes_4 : decode cX3_historicalBytes 4 = .ok (.invokevirtual 65, 3) := by decide +kernel
theorem dX3_historicalBytes_7 : decode cX3_historicalBytes 7 = .ok (.ireturn, 1) := by decide +kernel
set_option maxRecDepth 100000 in
set_option maxHeartbeats 4000000 in
theorem tX3_historicalBytes {T R : Nat} {J : Nat → Prop} {Bc Bs : Nat} {M : gMd} {z : Nat → Nat} {hp : List gA} {o : Nat}  (H : tyS T R J Bc Bs M z hp) (hk : tyK o = (9, 0))  : gM yX3_historicalBytes cX3_historicalBytes 1 ((some .int)) 1 20 [.ref o] (hp) (0) (0) (fun v h => ∃ x, v = some (.int x) ∧ tyS T R J Bc Bs M z h) := by
  refine gM_of (ls0 := [some (.ref o)]) (by decide +kernel) (Nat.le_of_ble_eq_true rfl) rfl fun X C E => ?_
  refine g_aload_n (q := 1) C dX3_historicalBytes_0 rfl rfl ?_
  obtain ⟨x0_1, x1_1, x2_1, x3_1, x4_1, x5_1, x6_1, x8_1, x9_1, x10_1, o1, e1_0⟩ := tyG3 H hk
  refine g_getfield (v := .ref ((o + 1))) (q := 4) C fX3_14 dX3_historicalBytes_1 rfl o1 rfl ?_
  obtain ⟨l2, g2, -⟩ := tyRow H (tyF3_7 hk)
  refine g_callVip (q := 7) (As := []) C gyX4_size gvX4_size t_517 (tX4_size H (tyF3_7 hk)) dX3_historicalBytes_4 rfl g2.obj rfl rfl rfl (Nat.le_of_ble_eq_true rfl) (Nat.le_of_ble_eq_true rfl) (Nat.le_of_ble_eq_true rfl) (Nat.le_of_ble_eq_true rfl) (Nat.le_of_ble_eq_true rfl) rfl (fun x3 h3 q3 => ?_)
  subst q3
  exact E.1 _ _ _ _ _ _ _ dX3_historicalBytes_7 rfl rfl (Nat.le_of_ble_eq_true rfl) (Nat.le_of_ble_eq_true rfl) ⟨_, rfl, H⟩
theorem dX3_clear_0 : decode cX3_clear 0 = .ok (.aload_n 0, 1) := by decide +kernel
theorem dX3_clear_1 : decode cX3_clear 1 = .ok (.bipush 17, 2) := by decide +kernel
theorem dX3_clear_3 : decode cX3_clear 3 = .ok (.putfield 38, 3) := by decide +kernel
theorem dX3_clear_6 : decode cX3_clear 6 = .ok (.aload_n 0, 1) := by decide +kernel
theorem dX3_clear_7 : decode cX3_clear 7 = .ok (.iconst 0, 1) := by decide +kernel
theorem dX3_clear_8 : decode cX3_clear 8 = .ok (.putfield 42, 3) := by decide +kernel
theorem dX3_clear_11 : decode cX3_clear 11 = .ok (.aload_n 0, 1) := by decide +kernel
theorem dX3_clear_12 : decode cX3_clear 12 = .ok (.iconst 0, 1) := by decide +kernel
theorem dX3_clear_13 : decode cX3_clear 13 = .ok (.putfield 45, 3) := by decide +kernel
theorem dX3_clear_16 : decode cX3_clear 16 = .ok (.aload_n 0, 1) := by decide +kernel
theorem dX3_clear_17 : decode cX3_clear 17 = .ok (.iconst 0, 1) := by decide +kernel
theorem dX3_clear_18 : decode cX3_clear 18 = .ok (.putfield 48, 3) := by decide +kernel
theorem dX3_clear_21 : decode cX3_clear 21 = .ok (.aload_n 0, 1) := by decide +kernel
theorem dX3_clear_22 : decode cX3_clear 22 = .ok (.bipush 32, 2) := by decide +kernel
theorem dX3_clear_24 : decode cX3_clear 24 = .ok (.putfield 51, 3) := by decide +kernel
theorem dX3_clear_27 : decode cX3_clear 27 = .ok (.aload_n 0, 1) := by decide +kernel
theorem dX3_clear_28 : decode cX3_clear 28 = .ok (.iconst 0, 1) := by decide +kernel
theorem dX3_clear_29 : decode cX3_clear 29 = .ok (.putfield 54, 3) := by decide +kernel
theorem dX3_clear_32 : decode cX3_clear 32 = .ok (.aload_n 0, 1) := by decide +kernel
theorem dX3_clear_33 : decode cX3_clear 33 = .ok (.getfield 14, 3) := by decide +kernel
theorem dX3_clear_36 : decode cX3_clear 36 = .ok (.iconst 0, 1) := by decide +kernel
theorem dX3_clear_37 : decode cX3_clear 37 = .ok (.invokevirtual 58, 3) := by decide +kernel
theorem dX3_clear_40 : decode cX3_clear 40 = .ok (.aload_n 0, 1) := by decide +kernel
theorem dX3_clear_41 : decode cX3_clear 41 = .ok (.iconst 0, 1) := by decide +kernel
theorem dX3_clear_42 : decode cX3_clear 42 = .ok (.putfield 62, 3) := by decide +kernel
theorem dX3_clear_45 : decode cX3_clear 45 = .ok (.return_, 1) := by decide +kernel
set_option maxRecDepth 100000 in
set_option maxHeartbeats 4000000 in
theorem tX3_clear {T R : Nat} {J : Nat → Prop} {Bc Bs : Nat} {M : gMd} {z : Nat → Nat} {hp : List gA} {o : Nat}  (H : tyS T R J Bc Bs M z hp) (hk : tyK o = (9, 0))  : gM yX3_clear cX3_clear 1 (none) 2 42 [.ref o] (hp) (0) (0) (fun v h => v = none ∧ tyS T R J Bc Bs M z h) := by
  refine gM_of (ls0 := [some (.ref o)]) (by decide +kernel) (Nat.le_of_ble_eq_true rfl) rfl fun X C E => ?_
  refine g_aload_n (q := 1) C dX3_clear_0 rfl rfl ?_
  refine g_bipush (v := 17) (q := 3) C dX3_clear_1 (by decide) rfl ?_
  obtain ⟨x0_1, x1_1, x2_1, x3_1, x4_1, x5_1, x6_1, x8_1, x9_1, x10_1, o1, e1_0⟩ := tyG3 H hk
  refine g_putfield (q := 6) C fX3_38 dX3_clear_3 rfl o1 (Nat.le_of_ble_eq_true rfl) (Or.inl rfl) rfl rfl (by intro z h; cases h) ?_
  refine tyP3 H hk rfl e1_0 (fun h2 _ _ H2 => ?_)
  refine g_aload_n (q := 7) C dX3_clear_6 rfl rfl ?_
  refine g_iconst (v := 0) (q := 8) C dX3_clear_7 (by decide) rfl ?_
  obtain ⟨x0_3, x1_3, x2_3, x3_3, x4_3, x5_3, x6_3, x8_3, x9_3, x10_3, o3, e3_0⟩ := tyG3 H2 hk
  refine g_putfield (q := 11) C fX3_42 dX3_clear_8 rfl o3 (Nat.le_of_ble_eq_true rfl) (Or.inl rfl) rfl rfl (by intro z h; cases h) ?_
  refine tyP3 H2 hk rfl e3_0 (fun h4 _ _ H4 => ?_)
  refine g_aload_n (q := 12) C dX3_clear_11 rfl rfl ?_
  refine g_iconst (v := 0) (q := 13) C dX3_clear_12 (by decide) rfl ?_
  obtain ⟨x0_5, x1_5, x2_5, x3_5, x4_5, x5_5, x6_5, x8_5, x9_5, x10_5, o5, e5_0⟩ := tyG3 H4 hk
  refine g_putfield (q := 16) C fX3_45 dX3_clear_13 rfl o5 (Nat.le_of_ble_eq_true rfl) (Or.inl rfl) rfl rfl (by intro z h; cases h) ?_
  refine tyP3 H4 hk rfl e5_0 (fun h6 _ _ H6 => ?_)
  refine g_aload_n (q := 17) C dX3_clear_16 rfl rfl ?_
  refine g_iconst (v := 0) (q := 18) C dX3_clear_17 (by decide) rfl ?_
  obtain ⟨x0_7, x1_7, x2_7, x3_7, x4_7, x5_7, x6_7, x8_7, x9_7, x10_7, o7, e7_0⟩ := tyG3 H6 hk
  refine g_putfield (q := 21) C fX3_48 dX3_clear_18 rfl o7 (Nat.le_of_ble_eq_true rfl) (Or.inl rfl) rfl rfl (by intro z h; cases h) ?_
  refine tyP3 H6 hk rfl e7_0 (fun h8 _ _ H8 => ?_)
  refine g_aload_n (q := 22) C dX3_clear_21 rfl rfl ?_
  refine g_bipush (v := 32) (q := 24) C dX3_clear_22 (by decide) rfl ?_
  obtain ⟨x0_9, x1_9, x2_9, x3_9, x4_9, x5_9, x6_9, x8_9, x9_9, x10_9, o9, e9_0⟩ := tyG3 H8 hk
  refine g_putfield (q := 27) C fX3_51 dX3_clear_24 rfl o9 (Nat.le_of_ble_eq_true rfl) (Or.inl rfl) rfl rfl (by intro z h; cases h) ?_
  refine tyP3 H8 hk rfl e9_0 (fun h10 _ _ H10 => ?_)
  refine g_aload_n (q := 28) C dX3_clear_27 rfl rfl ?_
  refine g_iconst (v := 0) (q := 29) C dX3_clear_28 (by decide) rfl ?_
  obtain ⟨x0_11, x1_11, x2_11, x3_11, x4_11, x5_11, x6_11, x8_11, x9_11, x10_11, o11, e11_0⟩ := tyG3 H10 hk
  refine g_putfield (q := 32) C fX3_54 dX3_clear_29 rfl o11 (Nat.le_of_ble_eq_true rfl) (Or.inl rfl) (tyNar (Or.inl rfl)) (tyFit (Or.inl rfl)) (by intro z h; cases h) ?_
  refine tyP3 H10 hk rfl (Or.inl rfl) (fun h12 _ _ H12 => ?_)
  refine g_aload_n (q := 33) C dX3_clear_32 rfl rfl ?_
  obtain ⟨x0_13, x1_13, x2_13, x3_13, x4_13, x5_13, x6_13, x8_13, x9_13, x10_13, o13, e13_0⟩ := tyG3 H12 hk
  refine g_getfield (v := .ref ((o + 1))) (q := 36) C fX3_14 dX3_clear_33 rfl o13 rfl ?_
  refine g_iconst (v := 0) (q := 37) C dX3_clear_36 (by decide) rfl ?_
  obtain ⟨l14, g14, -⟩ := tyRow H12 (tyF3_7 hk)
  refine g_callVvp (q := 40) (As := [.int 0]) C gyX4_keep gvX4_keep t_512 (tX4_keep H12 (tyF3_7 hk) (by decide)) dX3_clear_37 rfl g14.obj rfl rfl rfl (Nat.le_of_ble_eq_true rfl) (Nat.le_of_ble_eq_true rfl) (Nat.le_of_ble_eq_true rfl) (Nat.le_of_ble_eq_true rfl) (Nat.le_of_ble_eq_true rfl) rfl (fun h15 q15 => ?_)
  have H15 := q15
  refine g_aload_n (q := 41) C dX3_clear_40 rfl rfl ?_
  refine g_iconst (v := 0) (q := 42) C dX3_clear_41 (by decide) rfl ?_
  obtain ⟨x0_16, x1_16, x2_16, x3_16, x4_16, x5_16, x6_16, x8_16, x9_16, x10_16, o16, e16_0⟩ := tyG3 H15 hk
  refine g_putfield (q := 45) C fX3_62 dX3_clear_42 rfl o16 (Nat.le_of_ble_eq_true rfl) (Or.inl rfl) rfl rfl (by intro z h; cases h) ?_
  refine tyP3 H15 hk rfl e16_0 (fun h17 _ _ H17 => ?_)
  exact E.2.1 _ _ _ _ _ dX3_clear_45 rfl (Nat.le_of_ble_eq_true rfl) (Nat.le_of_ble_eq_true rfl) ⟨rfl, H17⟩
theorem dX3_clockOf_0 : decode cX3_clockOf 0 = .ok (.iload_n 0, 1) := by decide +kernel
theorem dX3_clockOf_1 : decode cX3_clockOf 1 = .ok (.iconst 4, 1) := by decide +kernel
theorem dX3_clockOf_2 : decode cX3_clockOf 2 = .ok (.ishr, 1) := by decide +kernel
theorem dX3_clockOf_3 : decode cX3_clockOf 3 = .ok (.istore_n 1, 1) := by decide +kernel
theorem dX3_clockOf_4 : decode cX3_clockOf 4 = .ok (.iload_n 1, 1) := by decide +kernel
theorem dX3_clockOf_5 : decode cX3_clockOf 5 = .ok (.ifCond .lt 19, 3) := by decide +kernel
theorem dX3_clockOf_8 : decode cX3_clockOf 8 = .ok (.iload_n 1, 1) := by decide +kernel
theorem dX3_clockOf_9 : decode cX3_clockOf 9 = .ok (.getstatic 104, 3) := by decide +kernel
theorem dX3_clockOf_12 : decode cX3_clockOf 12 = .ok (.arraylength, 1) := by decide +kernel
theorem dX3_clockOf_13 : decode cX3_clockOf 13 = .ok (.if_icmp .ge 11, 3) := by decide +kernel
theorem dX3_clockOf_16 : decode cX3_clockOf 16 = .ok (.getstatic 104, 3) := by decide +kernel
theorem dX3_clockOf_19 : decode cX3_clockOf 19 = .ok (.iload_n 1, 1) := by decide +kernel
theorem dX3_clockOf_20 : decode cX3_clockOf 20 = .ok (.iaload, 1) := by decide +kernel
theorem dX3_clockOf_21 : decode cX3_clockOf 21 = .ok (.goto 4, 3) := by decide +kernel
theorem dX3_clockOf_24 : decode cX3_clockOf 24 = .ok (.iconst 0, 1) := by decide +kernel
theorem dX3_clockOf_25 : decode cX3_clockOf 25 = .ok (.ireturn, 1) := by decide +kernel
set_option maxRecDepth 100000 in
set_option maxHeartbeats 4000000 in
theorem tX3_clockOf {T R : Nat} {J : Nat → Prop} {Bc Bs : Nat} {M : gMd} {z : Nat → Nat} {hp : List gA} {a0 : Int32}  (H : tyS T R J Bc Bs M z hp)  : gM yX3_clockOf cX3_clockOf 2 ((some .int)) 0 0 [.int a0] (hp) (0) (0) (fun v h => ∃ x, v = some (.int x) ∧ tyS T R J Bc Bs M z h) := by
  refine gM_of (ls0 := [some (.int a0), none]) (by decide +kernel) (Nat.le_of_ble_eq_true rfl) rfl fun X C E => ?_
  have J_24 : ∀ (y24_0 y24_1 : Int32) (hJ24 : List gA), tyS T R J Bc Bs M z hJ24 → gG X 24 [some (.int y24_0), some (.int y24_1)] [] hJ24 0 0 := by
    intro y24_0 y24_1 hJ24 HJ24
    refine g_iconst (v := 0) (q := 25) C dX3_clockOf_24 (by decide) rfl ?_
    exact E.1 _ _ _ _ _ _ _ dX3_clockOf_25 rfl rfl (Nat.le_of_ble_eq_true rfl) (Nat.le_of_ble_eq_true rfl) ⟨_, rfl, HJ24⟩
  refine g_iload_n (q := 1) C dX3_clockOf_0 rfl rfl ?_
  refine g_iconst (v := 4) (q := 2) C dX3_clockOf_1 (by decide) rfl ?_
  refine g_ishr (q := 3) C dX3_clockOf_2 rfl ?_
  refine g_istore_n (q := 4) C dX3_clockOf_3 (Nat.le_of_ble_eq_true rfl) (by simp only [gset]; rfl) rfl ?_
  refine g_iload_n (q := 5) C dX3_clockOf_4 rfl rfl ?_
  refine g_if_lt (t := 24) (q := 8) C dX3_clockOf_5 (by decide) rfl (fun c_5 => ?_) (fun c_5 => ?_)
  ·
    have i_5 := Int32.lt_iff_toInt_lt.mp c_5
    exact J_24 _ _ _  H
  ·
    have i_5 := mt Int32.lt_iff_toInt_lt.mpr c_5
    refine g_iload_n (q := 9) C dX3_clockOf_8 rfl rfl ?_
    refine g_tablen (z := ("CardLink$ResetAnswer", "CLOCKS", [372, 372, 558, 744, 1116, 1488, 1860, 0, 0, 512, 768, 1024, 1536, 2048, 0, 0])) C (List.mem_cons_of_mem _ List.mem_cons_self) (gW_of (List.mem_of_getElem? (i := 544) (by decide +kernel)) rfl) dX3_clockOf_9 dX3_clockOf_12 rfl ?_
    refine g_icmp_ge (t := 24) (q := 16) C dX3_clockOf_13 (by decide) rfl (fun c_13 => ?_) (fun c_13 => ?_)
    ·
      have i_13 := Int32.le_iff_toInt_le.mp c_13
      exact J_24 _ _ _  H
    ·
      have i_13 := mt Int32.le_iff_toInt_le.mpr c_13
      refine g_tabld (z := ("CardLink$ResetAnswer", "CLOCKS", [372, 372, 558, 744, 1116, 1488, 1860, 0, 0, 512, 768, 1024, 1536, 2048, 0, 0])) (i := 1) (q := 21) C (List.mem_cons_of_mem _ List.mem_cons_self) (gW_of (List.mem_of_getElem? (i := 544) (by decide +kernel)) rfl) dX3_clockOf_16 dX3_clockOf_19 dX3_clockOf_20 rfl rfl rfl c_5 (tyTl c_5 c_13) rfl ?_
      refine g_goto (q := 25) C dX3_clockOf_21 (by decide) ?_
      exact E.1 _ _ _ _ _ _ _ dX3_clockOf_25 rfl rfl (Nat.le_of_ble_eq_true rfl) (Nat.le_of_ble_eq_true rfl) ⟨_, rfl, H⟩
theorem dX3_divisorOf_0 : decode cX3_divisorOf 0 = .ok (.iload_n 0, 1) := by decide +kernel
theorem dX3_divisorOf_1 : decode cX3_divisorOf 1 = .ok (.bipush 15, 2) := by decide +kernel
theorem dX3_divisorOf_3 : decode cX3_divisorOf 3 = .ok (.iand, 1) := by decide +kernel
theorem dX3_divisorOf_4 : decode cX3_divisorOf 4 = .ok (.istore_n 1, 1) := by decide +kernel
theorem dX3_divisorOf_5 : decode cX3_divisorOf 5 = .ok (.iload_n 1, 1) := by decide +kernel
theorem dX3_divisorOf_6 : decode cX3_divisorOf 6 = .ok (.getstatic 108, 3) := by decide +kernel
theorem dX3_divisorOf_9 : decode cX3_divisorOf 9 = .ok (.arraylength, 1) := by decide +kernel
theorem dX3_divisorOf_10 : decode cX3_divisorOf 10 = .ok (.if_icmp .ge 11, 3) := by decide +kernel
theorem dX3_divisorOf_13 : decode cX3_divisorOf 13 = .ok (.getstatic 108, 3) := by decide +kernel
theorem dX3_divisorOf_16 : decode cX3_divisorOf 16 = .ok (.iload_n 1, 1) := by decide +kernel
theorem dX3_divisorOf_17 : decode cX3_divisorOf 17 = .ok (.iaload, 1) := by decide +kernel
theorem dX3_divisorOf_18 : decode cX3_divisorOf 18 = .ok (.goto 4, 3) := by decide +kernel
theorem dX3_divisorOf_21 : decode cX3_divisorOf 21 = .ok (.iconst 0, 1) := by decide +kernel
theorem dX3_divisorOf_22 : decode cX3_divisorOf 22 = .ok (.ireturn, 1) := by decide +kernel
set_option maxRecDepth 100000 in
set_option maxHeartbeats 4000000 in
theorem tX3_divisorOf {T R : Nat} {J : Nat → Prop} {Bc Bs : Nat} {M : gMd} {z : Nat → Nat} {hp : List gA} {a0 : Int32}  (H : tyS T R J Bc Bs M z hp)  : gM yX3_divisorOf cX3_divisorOf 2 ((some .int)) 0 0 [.int a0] (hp) (0) (0) (fun v h => ∃ x, v = some (.int x) ∧ tyS T R J Bc Bs M z h) := by
  refine gM_of (ls0 := [some (.int a0), none]) (by decide +kernel) (Nat.le_of_ble_eq_true rfl) rfl fun X C E => ?_
  refine g_iload_n (q := 1) C dX3_divisorOf_0 rfl rfl ?_
  refine g_bipush (v := 15) (q := 3) C dX3_divisorOf_1 (by decide) rfl ?_
  refine g_iand (q := 4) C dX3_divisorOf_3 rfl ?_
  refine g_istore_n (q := 5) C dX3_divisorOf_4 (Nat.le_of_ble_eq_true rfl) (by simp only [gset]; rfl) rfl ?_
  refine g_iload_n (q := 6) C dX3_divisorOf_5 rfl rfl ?_
  refine g_tablen (z := ("CardLink$ResetAnswer", "DIVISORS", [0, 1, 2, 4, 8, 16, 32, 64, 12, 20, 0, 0, 0, 0, 0, 0])) C (List.mem_cons_of_mem _ (List.mem_cons_of_mem _ List.mem_cons_self)) (gW_of (List.mem_of_getElem? (i := 549) (by decide +kernel)) rfl) dX3_divisorOf_6 dX3_divisorOf_9 rfl ?_
  refine g_icmp_ge (t := 21) (q := 13) C dX3_divisorOf_10 (by decide) rfl (fun c_10 => ?_) (fun c_10 => ?_)
  ·
    have i_10 := Int32.le_iff_toInt_le.mp c_10
    refine g_iconst (v := 0) (q := 22) C dX3_divisorOf_21 (by decide) rfl ?_
    exact E.1 _ _ _ _ _ _ _ dX3_divisorOf_22 rfl rfl (Nat.le_of_ble_eq_true rfl) (Nat.le_of_ble_eq_true rfl) ⟨_, rfl, H⟩
  ·
    have i_10 := mt Int32.le_iff_toInt_le.mpr c_10
    refine g_tabld (z := ("CardLink$ResetAnswer", "DIVISORS", [0, 1, 2, 4, 8, 16, 32, 64, 12, 20, 0, 0, 0, 0, 0, 0])) (i := 1) (q := 18) C (List.mem_cons_of_mem _ (List.mem_cons_of_mem _ List.mem_cons_self)) (gW_of (List.mem_of_getElem? (i := 549) (by decide +kernel)) rfl) dX3_divisorOf_13 dX3_divisorOf_16 dX3_divisorOf_17 rfl rfl rfl gand15.1 gand15.2 rfl ?_
    refine g_goto (q := 22) C dX3_divisorOf_18 (by decide) ?_
    exact E.1 _ _ _ _ _ _ _ dX3_divisorOf_22 rfl rfl (Nat.le_of_ble_eq_true rfl) (Nat.le_of_ble_eq_true rfl) ⟨_, rfl, H⟩
theorem dX3_readTd_0 : decode cX3_readTd 0 = .ok (.iload_n 2, 1) := by decide +kernel
theorem dX3_readTd_1 : decode cX3_readTd 1 = .ok (.bipush 15, 2) := by decide +kernel
theorem dX3_readTd_3 : decode cX3_readTd 3 = .ok (.iand, 1) := by decide +kernel
theorem dX3_readTd_4 : decode cX3_readTd 4 = .ok (.istore_n 3, 1) := by decide +kernel
theorem dX3_readTd_5 : decode cX3_readTd 5 = .ok (.aload_n 0, 1) := by decide +kernel
theorem dX3_readTd_6 : decode cX3_readTd 6 = .ok (.iload_n 2, 1) := by decide +kernel
theorem dX3_readTd_7 : decode cX3_readTd 7 = .ok (.iconst 4, 1) := by decide +kernel
theorem dX3_readTd_8 : decode cX3_readTd 8 = .ok (.ishr, 1) := by decide +kernel
theorem dX3_readTd_9 : decode cX3_readTd 9 = .ok (.putfield 76, 3) := by decide +kernel
theorem dX3_readTd_12 : decode cX3_readTd 12 = .ok (.iload_n 3, 1) := by decide +kernel
theorem dX3_readTd_13 : decode cX3_readTd 13 = .ok (.ifCond .eq 14, 3) := by decide +kernel
theorem dX3_readTd_16 : decode cX3_readTd 16 = .ok (.iload_n 3, 1) := by decide +kernel
theorem dX3_readTd_17 : decode cX3_readTd 17 = .ok (.iconst 1, 1) := by decide +kernel
theorem dX3_readTd_18 : decode cX3_readTd 18 = .ok (.if_icmp .eq 9, 3) := by decide +kernel
theorem dX3_readTd_21 : decode cX3_readTd 21 = .ok (.iload_n 3, 1) := by decide +kernel
theorem dX3_readTd_22 : decode cX3_readTd 22 = .ok (.bipush 15, 2) := by decide +kernel
theorem dX3_readTd_24 : decode cX3_readTd 24 = .ok (.if_icmp .ne 15, 3) := by decide +kernel
theorem dX3_readTd_27 : decode cX3_readTd 27 = .ok (.iload_n 1, 1) := by decide +kernel
theorem dX3_readTd_28 : decode cX3_readTd 28 = .ok (.iconst 4, 1) := by decide +kernel
theorem dX3_readTd_29 : decode cX3_readTd 29 = .ok (.if_icmp .ne 12, 3) := by decide +kernel
theorem dX3_readTd_32 : decode cX3_readTd 32 = .ok (.aload_n 0, 1) := by decide +kernel
theorem dX3_readTd_33 : decode cX3_readTd 33 = .ok (.getfield 76, 3) := by decide +kernel
theorem dX3_readTd_36 : decode cX3_readTd 36 = .ok (.ifCond .eq 5, 3) := by decide +kernel
theorem dX3_readTd_39 : decode cX3_readTd 39 = .ok (.iconst 3, 1) := by decide +kernel
theorem dX3_readTd_40 : decode cX3_readTd 40 = .ok (.ireturn, 1) := by decide +kernel
theorem dX3_readTd_41 : decode cX3_readTd 41 = .ok (.iload_n 1, 1) := by decide +kernel
theorem dX3_readTd_42 : decode cX3_readTd 42 = .ok (.iconst 1, 1) := by decide +kernel
theorem dX3_readTd_43 : decode cX3_readTd 43 = .ok (.if_icmp .ne 11, 3) := by decide +kernel
theorem dX3_readTd_46 : decode cX3_readTd 46 = .ok (.aload_n 0, 1) := by decide +kernel
theorem dX3_readTd_47 : decode cX3_readTd 47 = .ok (.iload_n 3, 1) := by decide +kernel
theorem dX3_readTd_48 : decode cX3_readTd 48 = .ok (.putfield 45, 3) := by decide +kernel
theorem dX3_readTd_51 : decode cX3_readTd 51 = .ok (.goto 22, 3) := by decide +kernel
theorem dX3_readTd_54 : decode cX3_readTd 54 = .ok (.iload_n 3, 1) := by decide +kernel
theorem dX3_readTd_55 : decode cX3_readTd 55 = .ok (.iconst 1, 1) := by decide +kernel
theorem dX3_readTd_56 : decode cX3_readTd 56 = .ok (.if_icmp .ne 17, 3) := by decide +kernel
theorem dX3_readTd_59 : decode cX3_readTd 59 = .ok (.aload_n 0, 1) := by decide +kernel
theorem dX3_readTd_60 : decode cX3_readTd 60 = .ok (.getfield 62, 3) := by decide +kernel
theorem dX3_readTd_63 : decode cX3_readTd 63 = .ok (.ifCond .ne 10, 3) := by decide +kernel
theorem dX3_readTd_66 : decode cX3_readTd 66 = .ok (.aload_n 0, 1) := by decide +kernel
theorem dX3_readTd_67 : decode cX3_readTd 67 = .ok (.iload_n 1, 1) := by decide +kernel
theorem dX3_readTd_68 : decode cX3_readTd 68 = .ok (.iconst 1, 1) := by decide +kernel
theorem dX3_readTd_69 : decode cX3_readTd 69 = .ok (.iadd, 1) := by decide +kernel
theorem dX3_readTd_70 : decode cX3_readTd 70 = .ok (.putfield 62, 3) := by decide +kernel
theorem dX3_readTd_73 : decode cX3_readTd 73 = .ok (.iload_n 3, 1) := by decide +kernel
theorem dX3_readTd_74 : decode cX3_readTd 74 = .ok (.ifCond .eq 8, 3) := by decide +kernel
theorem dX3_readTd_77 : decode cX3_readTd 77 = .ok (.aload_n 0, 1) := by decide +kernel
theorem dX3_readTd_78 : decode cX3_readTd 78 = .ok (.iconst 1, 1) := by decide +kernel
theorem dX3_readTd_79 : decode cX3_readTd 79 = .ok (.putfield 54, 3) := by decide +kernel
theorem dX3_readTd_82 : decode cX3_readTd 82 = .ok (.iconst 0, 1) := by decide +kernel
theorem dX3_readTd_83 : decode cX3_readTd 83 = .ok (.ireturn, 1) := by decide +kernel
set_option maxRecDepth 100000 in
set_option maxHeartbeats 4000000 in
theorem tX3_readTd {T R : Nat} {J : Nat → Prop} {Bc Bs : Nat} {M : gMd} {z : Nat → Nat} {hp : List gA} {o : Nat} {a0 : Int32} {a1 : Int32}  (H : tyS T R J Bc Bs M z hp) (hk : tyK o = (9, 0))  : gM yX3_readTd cX3_readTd 4 ((some .int)) 0 0 [.ref o, .int a0, .int a1] (hp) (0) (0) (fun v h => ∃ x, v = some (.int x) ∧ tyS T R J Bc Bs M z h) := by
  refine gM_of (ls0 := [some (.ref o), some (.int a0), some (.int a1), none]) (by decide +kernel) (Nat.le_of_ble_eq_true rfl) rfl fun X C E => ?_
  have J_82 : ∀ (y82_1 y82_2 y82_3 : Int32) (hJ82 : List gA), tyS T R J Bc Bs M z hJ82 → gG X 82 [some (.ref o), some (.int y82_1), some (.int y82_2), some (.int y82_3)] [] hJ82 0 0 := by
    intro y82_1 y82_2 y82_3 hJ82 HJ82
    refine g_iconst (v := 0) (q := 83) C dX3_readTd_82 (by decide) rfl ?_
    exact E.1 _ _ _ _ _ _ _ dX3_readTd_83 rfl rfl (Nat.le_of_ble_eq_true rfl) (Nat.le_of_ble_eq_true rfl) ⟨_, rfl, HJ82⟩
  have J_73 : ∀ (y73_1 y73_2 y73_3 : Int32) (hJ73 : List gA), tyS T R J Bc Bs M z hJ73 → gG X 73 [some (.ref o), some (.int y73_1), some (.int y73_2), some (.int y73_3)] [] hJ73 0 0 := by
    intro y73_1 y73_2 y73_3 hJ73 HJ73
    refine g_iload_n (q := 74) C dX3_readTd_73 rfl rfl ?_
    refine g_if_eq (t := 82) (q := 77) C dX3_readTd_74 (by decide) rfl (fun c_74 => ?_) (fun c_74 => ?_)
    ·
      exact J_82 _ _ _ _  HJ73
    ·
      refine g_aload_n (q := 78) C dX3_readTd_77 rfl rfl ?_
      refine g_iconst (v := 1) (q := 79) C dX3_readTd_78 (by decide) rfl ?_
      obtain ⟨x0_1, x1_1, x2_1, x3_1, x4_1, x5_1, x6_1, x8_1, x9_1, x10_1, o1, e1_0⟩ := tyG3 HJ73 hk
      refine g_putfield (q := 82) C fX3_54 dX3_readTd_79 rfl o1 (Nat.le_of_ble_eq_true rfl) (Or.inl rfl) (tyNar (Or.inr rfl)) (tyFit (Or.inr rfl)) (by intro z h; cases h) ?_
      refine tyP3 HJ73 hk rfl (Or.inr rfl) (fun h2 _ _ H2 => ?_)
      exact J_82 _ _ _ _  H2
  have J_41 : ∀ (y41_1 y41_2 y41_3 : Int32) (hJ41 : List gA), tyS T R J Bc Bs M z hJ41 → gG X 41 [some (.ref o), some (.int y41_1), some (.int y41_2), some (.int y41_3)] [] hJ41 0 0 := by
    intro y41_1 y41_2 y41_3 hJ41 HJ41
    refine g_iload_n (q := 42) C dX3_readTd_41 rfl rfl ?_
    refine g_iconst (v := 1) (q := 43) C dX3_readTd_42 (by decide) rfl ?_
    refine g_icmp_ne (t := 54) (q := 46) C dX3_readTd_43 (by decide) rfl (fun c_43 => ?_) (fun c_43 => ?_)
    ·
      refine g_iload_n (q := 55) C dX3_readTd_54 rfl rfl ?_
      refine g_iconst (v := 1) (q := 56) C dX3_readTd_55 (by decide) rfl ?_
      refine g_icmp_ne (t := 73) (q := 59) C dX3_readTd_56 (by decide) rfl (fun c_56 => ?_) (fun c_56 => ?_)
      ·
        exact J_73 _ _ _ _  HJ41
      ·
        refine g_aload_n (q := 60) C dX3_readTd_59 rfl rfl ?_
        obtain ⟨x0_3, x1_3, x2_3, x3_3, x4_3, x5_3, x6_3, x8_3, x9_3, x10_3, o3, e3_0⟩ := tyG3 HJ41 hk
        refine g_getfield (v := .int x10_3) (q := 63) C fX3_62 dX3_readTd_60 rfl o3 rfl ?_
        refine g_if_ne (t := 73) (q := 66) C dX3_readTd_63 (by decide) rfl (fun c_63 => ?_) (fun c_63 => ?_)
        ·
          exact J_73 _ _ _ _  HJ41
        ·
          refine g_aload_n (q := 67) C dX3_readTd_66 rfl rfl ?_
          refine g_iload_n (q := 68) C dX3_readTd_67 rfl rfl ?_
          refine g_iconst (v := 1) (q := 69) C dX3_readTd_68 (by decide) rfl ?_
          refine g_iadd (q := 70) C dX3_readTd_69 rfl ?_
          refine g_putfield (q := 73) C fX3_62 dX3_readTd_70 rfl o3 (Nat.le_of_ble_eq_true rfl) (Or.inl rfl) rfl rfl (by intro z h; cases h) ?_
          refine tyP3 HJ41 hk rfl e3_0 (fun h4 _ _ H4 => ?_)
          exact J_73 _ _ _ _  H4
    ·
      refine g_aload_n (q := 47) C dX3_readTd_46 rfl rfl ?_
      refine g_iload_n (q := 48) C dX3_readTd_47 rfl rfl ?_
      obtain ⟨x0_5, x1_5, x2_5, x3_5, x4_5, x5_5, x6_5, x8_5, x9_5, x10_5, o5, e5_0⟩ := tyG3 HJ41 hk
      refine g_putfield (q := 51) C fX3_45 dX3_readTd_48 rfl o5 (Nat.le_of_ble_eq_true rfl) (Or.inl rfl) rfl rfl (by intro z h; cases h) ?_
      refine tyP3 HJ41 hk rfl e5_0 (fun h6 _ _ H6 => ?_)
      refine g_goto (q := 73) C dX3_readTd_51 (by decide) ?_
      exact J_73 _ _ _ _  H6
  have J_39 : ∀ (y39_1 y39_2 y39_3 : Int32) (hJ39 : List gA), tyS T R J Bc Bs M z hJ39 → gG X 39 [some (.ref o), some (.int y39_1), some (.int y39_2), some (.int y39_3)] [] hJ39 0 0 := by
    intro y39_1 y39_2 y39_3 hJ39 HJ39
    refine g_iconst (v := 3) (q := 40) C dX3_readTd_39 (by decide) rfl ?_
    exact E.1 _ _ _ _ _ _ _ dX3_readTd_40 rfl rfl (Nat.le_of_ble_eq_true rfl) (Nat.le_of_ble_eq_true rfl) ⟨_, rfl, HJ39⟩
  have J_27 : ∀ (y27_1 y27_2 y27_3 : Int32) (hJ27 : List gA), tyS T R J Bc Bs M z hJ27 → gG X 27 [some (.ref o), some (.int y27_1), some (.int y27_2), some (.int y27_3)] [] hJ27 0 0 := by
    intro y27_1 y27_2 y27_3 hJ27 HJ27
    refine g_iload_n (q := 28) C dX3_readTd_27 rfl rfl ?_
    refine g_iconst (v := 4) (q := 29) C dX3_readTd_28 (by decide) rfl ?_
    refine g_icmp_ne (t := 41) (q := 32) C dX3_readTd_29 (by decide) rfl (fun c_29 => ?_) (fun c_29 => ?_)
    ·
      exact J_41 _ _ _ _  HJ27
    ·
      refine g_aload_n (q := 33) C dX3_readTd_32 rfl rfl ?_
      obtain ⟨x0_7, x1_7, x2_7, x3_7, x4_7, x5_7, x6_7, x8_7, x9_7, x10_7, o7, e7_0⟩ := tyG3 HJ27 hk
      refine g_getfield (v := .int x9_7) (q := 36) C fX3_76 dX3_readTd_33 rfl o7 rfl ?_
      refine g_if_eq (t := 41) (q := 39) C dX3_readTd_36 (by decide) rfl (fun c_36 => ?_) (fun c_36 => ?_)
      ·
        exact J_41 _ _ _ _  HJ27
      ·
        exact J_39 _ _ _ _  HJ27
  refine g_iload_n (q := 1) C dX3_readTd_0 rfl rfl ?_
  refine g_bipush (v := 15) (q := 3) C dX3_readTd_1 (by decide) rfl ?_
  refine g_iand (q := 4) C dX3_readTd_3 rfl ?_
  refine g_istore_n (q := 5) C dX3_readTd_4 (Nat.le_of_ble_eq_true rfl) (by simp only [gset]; rfl) rfl ?_
  refine g_aload_n (q := 6) C dX3_readTd_5 rfl rfl ?_
  refine g_iload_n (q := 7) C dX3_readTd_6 rfl rfl ?_
  refine g_iconst (v := 4) (q := 8) C dX3_readTd_7 (by decide) rfl ?_
  refine g_ishr (q := 9) C dX3_readTd_8 rfl ?_
  obtain ⟨x0_8, x1_8, x2_8, x3_8, x4_8, x5_8, x6_8, x8_8, x9_8, x10_8, o8, e8_0⟩ := tyG3 H hk
  refine g_putfield (q := 12) C fX3_76 dX3_readTd_9 rfl o8 (Nat.le_of_ble_eq_true rfl) (Or.inl rfl) rfl rfl (by intro z h; cases h) ?_
  refine tyP3 H hk rfl e8_0 (fun h9 _ _ H9 => ?_)
  refine g_iload_n (q := 13) C dX3_readTd_12 rfl rfl ?_
  refine g_if_eq (t := 27) (q := 16) C dX3_readTd_13 (by decide) rfl (fun c_13 => ?_) (fun c_13 => ?_)
  ·
    exact J_27 _ _ _ _  H9
  ·
    refine g_iload_n (q := 17) C dX3_readTd_16 rfl rfl ?_
    refine g_iconst (v := 1) (q := 18) C dX3_readTd_17 (by decide) rfl ?_
    refine g_icmp_eq (t := 27) (q := 21) C dX3_readTd_18 (by decide) rfl (fun c_18 => ?_) (fun c_18 => ?_)
    ·
      exact J_27 _ _ _ _  H9
    ·
      refine g_iload_n (q := 22) C dX3_readTd_21 rfl rfl ?_
      refine g_bipush (v := 15) (q := 24) C dX3_readTd_22 (by decide) rfl ?_
      refine g_icmp_ne (t := 39) (q := 27) C dX3_readTd_24 (by decide) rfl (fun c_24 => ?_) (fun c_24 => ?_)
      ·
        exact J_39 _ _ _ _  H9
      ·
        exact J_27 _ _ _ _  H9
theorem dX3_readLinkGroup_0 : decode cX3_readLinkGroup 0 = .ok (.iload_n 1, 1) := by decide +kernel
theorem dX3_readLinkGroup_1 : decode cX3_readLinkGroup 1 = .ok (.ifCond .ne 26, 3) := by decide +kernel
theorem dX3_readLinkGroup_4 : decode cX3_readLinkGroup 4 = .ok (.aload_n 0, 1) := by decide +kernel
theorem dX3_readLinkGroup_5 : decode cX3_readLinkGroup 5 = .ok (.iload_n 2, 1) := by decide +kernel
theorem dX3_readLinkGroup_6 : decode cX3_readLinkGroup 6 = .ok (.putfield 51, 3) := by decide +kernel
theorem dX3_readLinkGroup_9 : decode cX3_readLinkGroup 9 = .ok (.iload_n 2, 1) := by decide +kernel
theorem dX3_readLinkGroup_10 : decode cX3_readLinkGroup 10 = .ok (.iconst 1, 1) := by decide +kernel
theorem dX3_readLinkGroup_11 : decode cX3_readLinkGroup 11 = .ok (.if_icmp .lt 10, 3) := by decide +kernel
theorem dX3_readLinkGroup_14 : decode cX3_readLinkGroup 14 = .ok (.iload_n 2, 1) := by decide +kernel
theorem dX3_readLinkGroup_15 : decode cX3_readLinkGroup 15 = .ok (.sipush 254, 3) := by decide +kernel
theorem dX3_readLinkGroup_18 : decode cX3_readLinkGroup 18 = .ok (.if_icmp .le 7, 3) := by decide +kernel
theorem dX3_readLinkGroup_21 : decode cX3_readLinkGroup 21 = .ok (.iconst 5, 1) := by decide +kernel
theorem dX3_readLinkGroup_22 : decode cX3_readLinkGroup 22 = .ok (.goto 4, 3) := by decide +kernel
theorem dX3_readLinkGroup_25 : decode cX3_readLinkGroup 25 = .ok (.iconst 0, 1) := by decide +kernel
theorem dX3_readLinkGroup_26 : decode cX3_readLinkGroup 26 = .ok (.ireturn, 1) := by decide +kernel
theorem dX3_readLinkGroup_27 : decode cX3_readLinkGroup 27 = .ok (.iload_n 1, 1) := by decide +kernel
theorem dX3_readLinkGroup_28 : decode cX3_readLinkGroup 28 = .ok (.iconst 1, 1) := by decide +kernel
theorem dX3_readLinkGroup_29 : decode cX3_readLinkGroup 29 = .ok (.if_icmp .ne 17, 3) := by decide +kernel
theorem dX3_readLinkGroup_32 : decode cX3_readLinkGroup 32 = .ok (.iload_n 2, 1) := by decide +kernel
theorem dX3_readLinkGroup_33 : decode cX3_readLinkGroup 33 = .ok (.iconst 4, 1) := by decide +kernel
theorem dX3_readLinkGroup_34 : decode cX3_readLinkGroup 34 = .ok (.ishr, 1) := by decide +kernel
theorem dX3_readLinkGroup_35 : decode cX3_readLinkGroup 35 = .ok (.bipush 9, 2) := by decide +kernel
theorem dX3_readLinkGroup_37 : decode cX3_readLinkGroup 37 = .ok (.if_icmp .le 7, 3) := by decide +kernel
theorem dX3_readLinkGroup_40 : decode cX3_readLinkGroup 40 = .ok (.iconst 5, 1) := by decide +kernel
theorem dX3_readLinkGroup_41 : decode cX3_readLinkGroup 41 = .ok (.goto 4, 3) := by decide +kernel
theorem dX3_readLinkGroup_44 : decode cX3_readLinkGroup 44 = .ok (.iconst 0, 1) := by decide +kernel
theorem dX3_readLinkGroup_45 : decode cX3_readLinkGroup 45 = .ok (.ireturn, 1) := by decide +kernel
theorem dX3_readLinkGroup_46 : decode cX3_readLinkGroup 46 = .ok (.iload_n 2, 1) := by decide +kernel
theorem dX3_readLinkGroup_47 : decode cX3_readLinkGroup 47 = .ok (.ifCond .eq 7, 3) := by decide +kernel
theorem dX3_readLinkGroup_50 : decode cX3_readLinkGroup 50 = .ok (.iconst 5, 1) := by decide +kernel
theorem dX3_readLinkGroup_51 : decode cX3_readLinkGroup 51 = .ok (.goto 4, 3) := by decide +kernel
theorem dX3_readLinkGroup_54 : decode cX3_readLinkGroup 54 = .ok (.iconst 0, 1) := by decide +kernel
theorem dX3_readLinkGroup_55 : decode cX3_readLinkGroup 55 = .ok (.ireturn, 1) := by decide +kernel
set_option maxRecDepth 100000 in
set_option maxHeartbeats 4000000 in
theorem tX3_readLinkGroup {T R : Nat} {J : Nat → Prop} {Bc Bs : Nat} {M : gMd} {z : Nat → Nat} {hp : List gA} {o : Nat} {a0 : Int32} {a1 : Int32}  (H : tyS T R J Bc Bs M z hp) (hk : tyK o = (9, 0))  : gM yX3_readLinkGroup cX3_readLinkGroup 3 ((some .int)) 0 0 [.ref o, .int a0, .int a1] (hp) (0) (0) (fun v h => ∃ x, v = some (.int x) ∧ tyS T R J Bc Bs M z h) := by
  refine gM_of (ls0 := [some (.ref o), some (.int a0), some (.int a1)]) (by decide +kernel) (Nat.le_of_ble_eq_true rfl) rfl fun X C E => ?_
  have J_21 : ∀ (y21_1 y21_2 : Int32) (hJ21 : List gA), tyS T R J Bc Bs M z hJ21 → gG X 21 [some (.ref o), some (.int y21_1), some (.int y21_2)] [] hJ21 0 0 := by
    intro y21_1 y21_2 hJ21 HJ21
    refine g_iconst (v := 5) (q := 22) C dX3_readLinkGroup_21 (by decide) rfl ?_
    refine g_goto (q := 26) C dX3_readLinkGroup_22 (by decide) ?_
    exact E.1 _ _ _ _ _ _ _ dX3_readLinkGroup_26 rfl rfl (Nat.le_of_ble_eq_true rfl) (Nat.le_of_ble_eq_true rfl) ⟨_, rfl, HJ21⟩
  refine g_iload_n (q := 1) C dX3_readLinkGroup_0 rfl rfl ?_
  refine g_if_ne (t := 27) (q := 4) C dX3_readLinkGroup_1 (by decide) rfl (fun c_1 => ?_) (fun c_1 => ?_)
  ·
    refine g_iload_n (q := 28) C dX3_readLinkGroup_27 rfl rfl ?_
    refine g_iconst (v := 1) (q := 29) C dX3_readLinkGroup_28 (by decide) rfl ?_
    refine g_icmp_ne (t := 46) (q := 32) C dX3_readLinkGroup_29 (by decide) rfl (fun c_29 => ?_) (fun c_29 => ?_)
    ·
      refine g_iload_n (q := 47) C dX3_readLinkGroup_46 rfl rfl ?_
      refine g_if_eq (t := 54) (q := 50) C dX3_readLinkGroup_47 (by decide) rfl (fun c_47 => ?_) (fun c_47 => ?_)
      ·
        refine g_iconst (v := 0) (q := 55) C dX3_readLinkGroup_54 (by decide) rfl ?_
        exact E.1 _ _ _ _ _ _ _ dX3_readLinkGroup_55 rfl rfl (Nat.le_of_ble_eq_true rfl) (Nat.le_of_ble_eq_true rfl) ⟨_, rfl, H⟩
      ·
        refine g_iconst (v := 5) (q := 51) C dX3_readLinkGroup_50 (by decide) rfl ?_
        refine g_goto (q := 55) C dX3_readLinkGroup_51 (by decide) ?_
        exact E.1 _ _ _ _ _ _ _ dX3_readLinkGroup_55 rfl rfl (Nat.le_of_ble_eq_true rfl) (Nat.le_of_ble_eq_true rfl) ⟨_, rfl, H⟩
    ·
      refine g_iload_n (q := 33) C dX3_readLinkGroup_32 rfl rfl ?_
      refine g_iconst (v := 4) (q := 34) C dX3_readLinkGroup_33 (by decide) rfl ?_
      refine g_ishr (q := 35) C dX3_readLinkGroup_34 rfl ?_
      refine g_bipush (v := 9) (q := 37) C dX3_readLinkGroup_35 (by decide) rfl ?_
      refine g_icmp_le (t := 44) (q := 40) C dX3_readLinkGroup_37 (by decide) rfl (fun c_37 => ?_) (fun c_37 => ?_)
      ·
        refine g_iconst (v := 0) (q := 45) C dX3_readLinkGroup_44 (by decide) rfl ?_
        exact E.1 _ _ _ _ _ _ _ dX3_readLinkGroup_45 rfl rfl (Nat.le_of_ble_eq_true rfl) (Nat.le_of_ble_eq_true rfl) ⟨_, rfl, H⟩
      ·
        refine g_iconst (v := 5) (q := 41) C dX3_readLinkGroup_40 (by decide) rfl ?_
        refine g_goto (q := 45) C dX3_readLinkGroup_41 (by decide) ?_
        exact E.1 _ _ _ _ _ _ _ dX3_readLinkGroup_45 rfl rfl (Nat.le_of_ble_eq_true rfl) (Nat.le_of_ble_eq_true rfl) ⟨_, rfl, H⟩
  ·
    refine g_aload_n (q := 5) C dX3_readLinkGroup_4 rfl rfl ?_
    refine g_iload_n (q := 6) C dX3_readLinkGroup_5 rfl rfl ?_
    obtain ⟨x0_1, x1_1, x2_1, x3_1, x4_1, x5_1, x6_1, x8_1, x9_1, x10_1, o1, e1_0⟩ := tyG3 H hk
    refine g_putfield (q := 9) C fX3_51 dX3_readLinkGroup_6 rfl o1 (Nat.le_of_ble_eq_true rfl) (Or.inl rfl) rfl rfl (by intro z h; cases h) ?_
    refine tyP3 H hk rfl e1_0 (fun h2 _ _ H2 => ?_)
    refine g_iload_n (q := 10) C dX3_readLinkGroup_9 rfl rfl ?_
    refine g_iconst (v := 1) (q := 11) C dX3_readLinkGroup_10 (by decide) rfl ?_
    refine g_icmp_lt (t := 21) (q := 14) C dX3_readLinkGroup_11 (by decide) rfl (fun c_11 => ?_) (fun c_11 => ?_)
    ·
      exact J_21 _ _ _  H2
    ·
      refine g_iload_n (q := 15) C dX3_readLinkGroup_14 rfl rfl ?_
      refine g_sipush (v := 254) (q := 18) C dX3_readLinkGroup_15 (by decide) rfl ?_
      refine g_icmp_le (t := 25) (q := 21) C dX3_readLinkGroup_18 (by decide) rfl (fun c_18 => ?_) (fun c_18 => ?_)
      ·
        refine g_iconst (v := 0) (q := 26) C dX3_readLinkGroup_25 (by decide) rfl ?_
        exact E.1 _ _ _ _ _ _ _ dX3_readLinkGroup_26 rfl rfl (Nat.le_of_ble_eq_true rfl) (Nat.le_of_ble_eq_true rfl) ⟨_, rfl, H2⟩
      ·
        exact J_21 _ _ _  H2
theorem dX3_readFirstGroup_0 : decode cX3_readFirstGroup 0 = .ok (.iload_n 1, 1) := by decide +kernel
theorem dX3_readFirstGroup_1 : decode cX3_readFirstGroup 1 = .ok (.ifCond .ne 28, 3) := by decide +kernel
theorem dX3_readFirstGroup_4 : decode cX3_readFirstGroup 4 = .ok (.aload_n 0, 1) := by decide +kernel
theorem dX3_readFirstGroup_5 : decode cX3_readFirstGroup 5 = .ok (.iload_n 2, 1) := by decide +kernel
theorem dX3_readFirstGroup_6 : decode cX3_readFirstGroup 6 = .ok (.putfield 38, 3) := by decide +kernel
theorem dX3_readFirstGroup_9 : decode cX3_readFirstGroup 9 = .ok (.iload_n 2, 1) := by decide +kernel
theorem dX3_readFirstGroup_10 : decode cX3_readFirstGroup 10 = .ok (.invokestatic 95, 3) := by decide +kernel
theorem dX3_readFirstGroup_13 : decode cX3_readFirstGroup 13 = .ok (.ifCond .eq 10, 3) := by decide +kernel
theorem dX3_readFirstGroup_16 : decode cX3_readFirstGroup 16 = .ok (.iload_n 2, 1) := by decide +kernel
theorem dX3_readFirstGroup_17 : decode cX3_readFirstGroup 17 = .ok (.invokestatic 98, 3) := by decide +kernel
theorem dX3_readFirstGroup_20 : decode cX3_readFirstGroup 20 = .ok (.ifCond .ne 7, 3) := by decide +kernel
theorem dX3_readFirstGroup_23 : decode cX3_readFirstGroup 23 = .ok (.iconst 4, 1) := by decide +kernel
theorem dX3_readFirstGroup_24 : decode cX3_readFirstGroup 24 = .ok (.goto 4, 3) := by decide +kernel
theorem dX3_readFirstGroup_27 : decode cX3_readFirstGroup 27 = .ok (.iconst 0, 1) := by decide +kernel
theorem dX3_readFirstGroup_28 : decode cX3_readFirstGroup 28 = .ok (.ireturn, 1) := by decide +kernel
theorem dX3_readFirstGroup_29 : decode cX3_readFirstGroup 29 = .ok (.iload_n 1, 1) := by decide +kernel
theorem dX3_readFirstGroup_30 : decode cX3_readFirstGroup 30 = .ok (.iconst 2, 1) := by decide +kernel
theorem dX3_readFirstGroup_31 : decode cX3_readFirstGroup 31 = .ok (.if_icmp .ne 8, 3) := by decide +kernel
theorem dX3_readFirstGroup_34 : decode cX3_readFirstGroup 34 = .ok (.aload_n 0, 1) := by decide +kernel
theorem dX3_readFirstGroup_35 : decode cX3_readFirstGroup 35 = .ok (.iload_n 2, 1) := by decide +kernel
theorem dX3_readFirstGroup_36 : decode cX3_readFirstGroup 36 = .ok (.putfield 42, 3) := by decide +kernel
theorem dX3_readFirstGroup_39 : decode cX3_readFirstGroup 39 = .ok (.iconst 0, 1) := by decide +kernel
theorem dX3_readFirstGroup_40 : decode cX3_readFirstGroup 40 = .ok (.ireturn, 1) := by decide +kernel
set_option maxRecDepth 100000 in
set_option maxHeartbeats 4000000 in
theorem tX3_readFirstGroup {T R : Nat} {J : Nat → Prop} {Bc Bs : Nat} {M : gMd} {z : Nat → Nat} {hp : List gA} {o : Nat} {a0 : Int32} {a1 : Int32}  (H : tyS T R J Bc Bs M z hp) (hk : tyK o = (9, 0))  : gM yX3_readFirstGroup cX3_readFirstGroup 3 ((some .int)) 1 21 [.ref o, .int a0, .int a1] (hp) (0) (0) (fun v h => ∃ x, v = some (.int x) ∧ tyS T R J Bc Bs M z h) := by
  refine gM_of (ls0 := [some (.ref o), some (.int a0), some (.int a1)]) (by decide +kernel) (Nat.le_of_ble_eq_true rfl) rfl fun X C E => ?_
  have J_39 : ∀ (y39_1 y39_2 : Int32) (hJ39 : List gA), tyS T R J Bc Bs M z hJ39 → gG X 39 [some (.ref o), some (.int y39_1), some (.int y39_2)] [] hJ39 0 0 := by
    intro y39_1 y39_2 hJ39 HJ39
    refine g_iconst (v := 0) (q := 40) C dX3_readFirstGroup_39 (by decide) rfl ?_
    exact E.1 _ _ _ _ _ _ _ dX3_readFirstGroup_40 rfl rfl (Nat.le_of_ble_eq_true rfl) (Nat.le_of_ble_eq_true rfl) ⟨_, rfl, HJ39⟩
  have J_23 : ∀ (y23_1 y23_2 : Int32) (hJ23 : List gA), tyS T R J Bc Bs M z hJ23 → gG X 23 [some (.ref o), some (.int y23_1), some (.int y23_2)] [] hJ23 0 0 := by
    intro y23_1 y23_2 hJ23 HJ23
    refine g_iconst (v := 4) (q := 24) C dX3_readFirstGroup_23 (by decide) rfl ?_
    refine g_goto (q := 28) C dX3_readFirstGroup_24 (by decide) ?_
    exact E.1 _ _ _ _ _ _ _ dX3_readFirstGroup_28 rfl rfl (Nat.le_of_ble_eq_true rfl) (Nat.le_of_ble_eq_true rfl) ⟨_, rfl, HJ23⟩
  refine g_iload_n (q := 1) C dX3_readFirstGroup_0 rfl rfl ?_
  refine g_if_ne (t := 29) (q := 4) C dX3_readFirstGroup_1 (by decide) rfl (fun c_1 => ?_) (fun c_1 => ?_)
  ·
    refine g_iload_n (q := 30) C dX3_readFirstGroup_29 rfl rfl ?_
    refine g_iconst (v := 2) (q := 31) C dX3_readFirstGroup_30 (by decide) rfl ?_
    refine g_icmp_ne (t := 39) (q := 34) C dX3_readFirstGroup_31 (by decide) rfl (fun c_31 => ?_) (fun c_31 => ?_)
    ·
      exact J_39 _ _ _  H
    ·
      refine g_aload_n (q := 35) C dX3_readFirstGroup_34 rfl rfl ?_
      refine g_iload_n (q := 36) C dX3_readFirstGroup_35 rfl rfl ?_
      obtain ⟨x0_1, x1_1, x2_1, x3_1, x4_1, x5_1, x6_1, x8_1, x9_1, x10_1, o1, e1_0⟩ := tyG3 H hk
      refine g_putfield (q := 39) C fX3_42 dX3_readFirstGroup_36 rfl o1 (Nat.le_of_ble_eq_true rfl) (Or.inl rfl) rfl rfl (by intro z h; cases h) ?_
      refine tyP3 H hk rfl e1_0 (fun h2 _ _ H2 => ?_)
      exact J_39 _ _ _  H2
  ·
    refine g_aload_n (q := 5) C dX3_readFirstGroup_4 rfl rfl ?_
    refine g_iload_n (q := 6) C dX3_readFirstGroup_5 rfl rfl ?_
    obtain ⟨x0_3, x1_3, x2_3, x3_3, x4_3, x5_3, x6_3, x8_3, x9_3, x10_3, o3, e3_0⟩ := tyG3 H hk
    refine g_putfield (q := 9) C fX3_38 dX3_readFirstGroup_6 rfl o3 (Nat.le_of_ble_eq_true rfl) (Or.inl rfl) rfl rfl (by intro z h; cases h) ?_
    refine tyP3 H hk rfl e3_0 (fun h4 _ _ H4 => ?_)
    refine g_iload_n (q := 10) C dX3_readFirstGroup_9 rfl rfl ?_
    refine g_callSip (q := 13) (As := [.int a1]) C gyX3_clockOf t_542 t_541 (tX3_clockOf H4) dX3_readFirstGroup_10 rfl rfl rfl (Nat.le_of_ble_eq_true rfl) (Nat.le_of_ble_eq_true rfl) (Nat.le_of_ble_eq_true rfl) (Nat.le_of_ble_eq_true rfl) (Nat.le_of_ble_eq_true rfl) rfl (fun x5 h5 q5 => ?_)
    have H5 := q5
    refine g_if_eq (t := 23) (q := 16) C dX3_readFirstGroup_13 (by decide) rfl (fun c_13 => ?_) (fun c_13 => ?_)
    ·
      exact J_23 _ _ _  H5
    ·
      refine g_iload_n (q := 17) C dX3_readFirstGroup_16 rfl rfl ?_
      refine g_callSip (q := 20) (As := [.int a1]) C gyX3_divisorOf t_547 t_546 (tX3_divisorOf H5) dX3_readFirstGroup_17 rfl rfl rfl (Nat.le_of_ble_eq_true rfl) (Nat.le_of_ble_eq_true rfl) (Nat.le_of_ble_eq_true rfl) (Nat.le_of_ble_eq_true rfl) (Nat.le_of_ble_eq_true rfl) rfl (fun x6 h6 q6 => ?_)
      have H6 := q6
      refine g_if_ne (t := 27) (q := 23) C dX3_readFirstGroup_20 (by decide) rfl (fun c_20 => ?_) (fun c_20 => ?_)
      ·
        refine g_iconst (v := 0) (q := 28) C dX3_readFirstGroup_27 (by decide) rfl ?_
        exact E.1 _ _ _ _ _ _ _ dX3_readFirstGroup_28 rfl rfl (Nat.le_of_ble_eq_true rfl) (Nat.le_of_ble_eq_true rfl) ⟨_, rfl, H6⟩
      ·
        exact J_23 _ _ _  H6
theorem dX3_readGroupByte_0 : decode cX3_readGroupByte 0 = .ok (.iload_n 2, 1) := by decide +kernel
theorem dX3_readGroupByte_1 : decode cX3_readGroupByte 1 = .ok (.iconst 3, 1) := by decide +kernel
theorem dX3_readGroupByte_2 : decode cX3_readGroupByte 2 = .ok (.if_icmp .ne 10, 3) := by decide +kernel
theorem dX3_readGroupByte_5 : decode cX3_readGroupByte 5 = .ok (.aload_n 0, 1) := by decide +kernel
theorem dX3_readGroupByte_6 : decode cX3_readGroupByte 6 = .ok (.iload_n 1, 1) := by decide +kernel
theorem dX3_readGroupByte_7 : decode cX3_readGroupByte 7 = .ok (.iload_n 3, 1) := by decide +kernel
theorem dX3_readGroupByte_8 : decode cX3_readGroupByte 8 = .ok (.invokevirtual 86, 3) := by decide +kernel
theorem dX3_readGroupByte_11 : decode cX3_readGroupByte 11 = .ok (.ireturn, 1) := by decide +kernel
theorem dX3_readGroupByte_12 : decode cX3_readGroupByte 12 = .ok (.iload_n 1, 1) := by decide +kernel
theorem dX3_readGroupByte_13 : decode cX3_readGroupByte 13 = .ok (.iconst 1, 1) := by decide +kernel
theorem dX3_readGroupByte_14 : decode cX3_readGroupByte 14 = .ok (.if_icmp .ne 10, 3) := by decide +kernel
theorem dX3_readGroupByte_17 : decode cX3_readGroupByte 17 = .ok (.aload_n 0, 1) := by decide +kernel
theorem dX3_readGroupByte_18 : decode cX3_readGroupByte 18 = .ok (.iload_n 2, 1) := by decide +kernel
theorem dX3_readGroupByte_19 : decode cX3_readGroupByte 19 = .ok (.iload_n 3, 1) := by decide +kernel
theorem dX3_readGroupByte_20 : decode cX3_readGroupByte 20 = .ok (.invokevirtual 89, 3) := by decide +kernel
theorem dX3_readGroupByte_23 : decode cX3_readGroupByte 23 = .ok (.ireturn, 1) := by decide +kernel
theorem dX3_readGroupByte_24 : decode cX3_readGroupByte 24 = .ok (.iload_n 1, 1) := by decide +kernel
theorem dX3_readGroupByte_25 : decode cX3_readGroupByte 25 = .ok (.aload_n 0, 1) := by decide +kernel
theorem dX3_readGroupByte_26 : decode cX3_readGroupByte 26 = .ok (.getfield 62, 3) := by decide +kernel
theorem dX3_readGroupByte_29 : decode cX3_readGroupByte 29 = .ok (.if_icmp .ne 12, 3) := by decide +kernel
theorem dX3_readGroupByte_32 : decode cX3_readGroupByte 32 = .ok (.aload_n 0, 1) := by decide +kernel
theorem dX3_readGroupByte_33 : decode cX3_readGroupByte 33 = .ok (.iload_n 2, 1) := by decide +kernel
theorem dX3_readGroupByte_34 : decode cX3_readGroupByte 34 = .ok (.iload_n 3, 1) := by decide +kernel
theorem dX3_readGroupByte_35 : decode cX3_readGroupByte 35 = .ok (.invokevirtual 92, 3) := by decide +kernel
theorem dX3_readGroupByte_38 : decode cX3_readGroupByte 38 = .ok (.goto 4, 3) := by decide +kernel
theorem dX3_readGroupByte_41 : decode cX3_readGroupByte 41 = .ok (.iconst 0, 1) := by decide +kernel
theorem dX3_readGroupByte_42 : decode cX3_readGroupByte 42 = .ok (.ireturn, 1) := by decide +kernel
set_option maxRecDepth 100000 in
set_option maxHeartbeats 4000000 in
theorem tX3_readGroupByte {T R : Nat} {J : Nat → Prop} {Bc Bs : Nat} {M : gMd} {z : Nat → Nat} {hp : List gA} {o : Nat} {a0 : Int32} {a1 : Int32} {a2 : Int32}  (H : tyS T R J Bc Bs M z hp) (hk : tyK o = (9, 0))  : gM yX3_readGroupByte cX3_readGroupByte 4 ((some .int)) 2 43 [.ref o, .int a0, .int a1, .int a2] (hp) (0) (0) (fun v h => ∃ x, v = some (.int x) ∧ tyS T R J Bc Bs M z h) := by
  refine gM_of (ls0 := [some (.ref o), some (.int a0), some (.int a1), some (.int a2)]) (by decide +kernel) (Nat.le_of_ble_eq_true rfl) rfl fun X C E => ?_
  refine g_iload_n (q := 1) C dX3_readGroupByte_0 rfl rfl ?_
  refine g_iconst (v := 3) (q := 2) C dX3_readGroupByte_1 (by decide) rfl ?_
  refine g_icmp_ne (t := 12) (q := 5) C dX3_readGroupByte_2 (by decide) rfl (fun c_2 => ?_) (fun c_2 => ?_)
  ·
    refine g_iload_n (q := 13) C dX3_readGroupByte_12 rfl rfl ?_
    refine g_iconst (v := 1) (q := 14) C dX3_readGroupByte_13 (by decide) rfl ?_
    refine g_icmp_ne (t := 24) (q := 17) C dX3_readGroupByte_14 (by decide) rfl (fun c_14 => ?_) (fun c_14 => ?_)
    ·
      refine g_iload_n (q := 25) C dX3_readGroupByte_24 rfl rfl ?_
      refine g_aload_n (q := 26) C dX3_readGroupByte_25 rfl rfl ?_
      obtain ⟨x0_1, x1_1, x2_1, x3_1, x4_1, x5_1, x6_1, x8_1, x9_1, x10_1, o1, e1_0⟩ := tyG3 H hk
      refine g_getfield (v := .int x10_1) (q := 29) C fX3_62 dX3_readGroupByte_26 rfl o1 rfl ?_
      refine g_icmp_ne (t := 41) (q := 32) C dX3_readGroupByte_29 (by decide) rfl (fun c_29 => ?_) (fun c_29 => ?_)
      ·
        refine g_iconst (v := 0) (q := 42) C dX3_readGroupByte_41 (by decide) rfl ?_
        exact E.1 _ _ _ _ _ _ _ dX3_readGroupByte_42 rfl rfl (Nat.le_of_ble_eq_true rfl) (Nat.le_of_ble_eq_true rfl) ⟨_, rfl, H⟩
      ·
        refine g_aload_n (q := 33) C dX3_readGroupByte_32 rfl rfl ?_
        refine g_iload_n (q := 34) C dX3_readGroupByte_33 rfl rfl ?_
        refine g_iload_n (q := 35) C dX3_readGroupByte_34 rfl rfl ?_
        refine g_callVip (q := 38) (As := [.int a1, .int a2]) C gyX3_readLinkGroup gvX3_readLinkGroup t_551 (tX3_readLinkGroup H hk) dX3_readGroupByte_35 rfl o1 rfl rfl rfl (Nat.le_of_ble_eq_true rfl) (Nat.le_of_ble_eq_true rfl) (Nat.le_of_ble_eq_true rfl) (Nat.le_of_ble_eq_true rfl) (Nat.le_of_ble_eq_true rfl) rfl (fun x2 h2 q2 => ?_)
        have H2 := q2
        refine g_goto (q := 42) C dX3_readGroupByte_38 (by decide) ?_
        exact E.1 _ _ _ _ _ _ _ dX3_readGroupByte_42 rfl rfl (Nat.le_of_ble_eq_true rfl) (Nat.le_of_ble_eq_true rfl) ⟨_, rfl, H2⟩
    ·
      refine g_aload_n (q := 18) C dX3_readGroupByte_17 rfl rfl ?_
      refine g_iload_n (q := 19) C dX3_readGroupByte_18 rfl rfl ?_
      refine g_iload_n (q := 20) C dX3_readGroupByte_19 rfl rfl ?_
      obtain ⟨x0_3, x1_3, x2_3, x3_3, x4_3, x5_3, x6_3, x8_3, x9_3, x10_3, o3, e3_0⟩ := tyG3 H hk
      refine g_callVip (q := 23) (As := [.int a1, .int a2]) C gyX3_readFirstGroup gvX3_readFirstGroup t_537 (tX3_readFirstGroup H hk) dX3_readGroupByte_20 rfl o3 rfl rfl rfl (Nat.le_of_ble_eq_true rfl) (Nat.le_of_ble_eq_true rfl) (Nat.le_of_ble_eq_true rfl) (Nat.le_of_ble_eq_true rfl) (Nat.le_of_ble_eq_true rfl) rfl (fun x4 h4 q4 => ?_)
      have H4 := q4
      exact E.1 _ _ _ _ _ _ _ dX3_readGroupByte_23 rfl rfl (Nat.le_of_ble_eq_true rfl) (Nat.le_of_ble_eq_true rfl) ⟨_, rfl, H4⟩
  ·
    refine g_aload_n (q := 6) C dX3_readGroupByte_5 rfl rfl ?_
    refine g_iload_n (q := 7) C dX3_readGroupByte_6 rfl rfl ?_
    refine g_iload_n (q := 8) C dX3_readGroupByte_7 rfl rfl ?_
    obtain ⟨x0_5, x1_5, x2_5, x3_5, x4_5, x5_5, x6_5, x8_5, x9_5, x10_5, o5, e5_0⟩ := tyG3 H hk
    refine g_callVip (q := 11) (As := [.int a0, .int a2]) C gyX3_readTd gvX3_readTd t_533 (tX3_readTd H hk) dX3_readGroupByte_8 rfl o5 rfl rfl rfl (Nat.le_of_ble_eq_true rfl) (Nat.le_of_ble_eq_true rfl) (Nat.le_of_ble_eq_true rfl) (Nat.le_of_ble_eq_true rfl) (Nat.le_of_ble_eq_true rfl) rfl (fun x6 h6 q6 => ?_)
    have H6 := q6
    exact E.1 _ _ _ _ _ _ _ dX3_readGroupByte_11 rfl rfl (Nat.le_of_ble_eq_true rfl) (Nat.le_of_ble_eq_true rfl) ⟨_, rfl, H6⟩
theorem dX3_readHead_0 : decode cX3_readHead 0 = .ok (.aload_n 1, 1) := by decide +kernel
theorem dX3_readHead_1 : decode cX3_readHead 1 = .ok (.invokevirtual 65, 3) := by decide +kernel
theorem dX3_readHead_4 : decode cX3_readHead 4 = .ok (.ifCond .ne 9, 3) := by decide +kernel
theorem dX3_readHead_7 : decode cX3_readHead 7 = .ok (.iconst 0, 1) := by decide +kernel
theorem dX3_readHead_8 : decode cX3_readHead 8 = .ok (.iconst 1, 1) := by decide +kernel
theorem dX3_readHead_9 : decode cX3_readHead 9 = .ok (.invokestatic 69, 3) := by decide +kernel
theorem dX3_readHead_12 : decode cX3_readHead 12 = .ok (.ireturn, 1) := by decide +kernel
theorem dX3_readHead_13 : decode cX3_readHead 13 = .ok (.aload_n 0, 1) := by decide +kernel
theorem dX3_readHead_14 : decode cX3_readHead 14 = .ok (.aload_n 1, 1) := by decide +kernel
theorem dX3_readHead_15 : decode cX3_readHead 15 = .ok (.iconst 0, 1) := by decide +kernel
theorem dX3_readHead_16 : decode cX3_readHead 16 = .ok (.invokevirtual 30, 3) := by decide +kernel
theorem dX3_readHead_19 : decode cX3_readHead 19 = .ok (.putfield 73, 3) := by decide +kernel
theorem dX3_readHead_22 : decode cX3_readHead 22 = .ok (.aload_n 0, 1) := by decide +kernel
theorem dX3_readHead_23 : decode cX3_readHead 23 = .ok (.getfield 73, 3) := by decide +kernel
theorem dX3_readHead_26 : decode cX3_readHead 26 = .ok (.bipush 59, 2) := by decide +kernel
theorem dX3_readHead_28 : decode cX3_readHead 28 = .ok (.if_icmp .eq 18, 3) := by decide +kernel
theorem dX3_readHead_31 : decode cX3_readHead 31 = .ok (.aload_n 0, 1) := by decide +kernel
theorem dX3_readHead_32 : decode cX3_readHead 32 = .ok (.getfield 73, 3) := by decide +kernel
theorem dX3_readHead_35 : decode cX3_readHead 35 = .ok (.bipush 63, 2) := by decide +kernel
theorem dX3_readHead_37 : decode cX3_readHead 37 = .ok (.if_icmp .eq 9, 3) := by decide +kernel
theorem dX3_readHead_40 : decode cX3_readHead 40 = .ok (.iconst 0, 1) := by decide +kernel
theorem dX3_readHead_41 : decode cX3_readHead 41 = .ok (.iconst 2, 1) := by decide +kernel
theorem dX3_readHead_42 : decode cX3_readHead 42 = .ok (.invokestatic 69, 3) := by decide +kernel
theorem dX3_readHead_45 : decode cX3_readHead 45 = .ok (.ireturn, 1) := by decide +kernel
theorem dX3_readHead_46 : decode cX3_readHead 46 = .ok (.aload_n 1, 1) := by decide +kernel
theorem dX3_readHead_47 : decode cX3_readHead 47 = .ok (.invokevirtual 65, 3) := by decide +kernel
theorem dX3_readHead_50 : decode cX3_readHead 50 = .ok (.iconst 1, 1) := by decide +kernel
theorem dX3_readHead_51 : decode cX3_readHead 51 = .ok (.if_icmp .ne 9, 3) := by decide +kernel
theorem dX3_readHead_54 : decode cX3_readHead 54 = .ok (.iconst 1, 1) := by decide +kernel
theorem dX3_readHead_55 : decode cX3_readHead 55 = .ok (.iconst 1, 1) := by decide +kernel
theorem dX3_readHead_56 : decode cX3_readHead 56 = .ok (.invokestatic 69, 3) := by decide +kernel
theorem dX3_readHead_59 : decode cX3_readHead 59 = .ok (.ireturn, 1) := by decide +kernel
theorem dX3_readHead_60 : decode cX3_readHead 60 = .ok (.aload_n 0, 1) := by decide +kernel
theorem dX3_readHead_61 : decode cX3_readHead 61 = .ok (.aload_n 1, 1) := by decide +kernel
theorem dX3_readHead_62 : decode cX3_readHead 62 = .ok (.iconst 1, 1) := by decide +kernel
theorem dX3_readHead_63 : decode cX3_readHead 63 = .ok (.invokevirtual 30, 3) := by decide +kernel
theorem dX3_readHead_66 : decode cX3_readHead 66 = .ok (.iconst 4, 1) := by decide +kernel
theorem dX3_readHead_67 : decode cX3_readHead 67 = .ok (.ishr, 1) := by decide +kernel
theorem dX3_readHead_68 : decode cX3_readHead 68 = .ok (.putfield 76, 3) := by decide +kernel
theorem dX3_readHead_71 : decode cX3_readHead 71 = .ok (.aload_n 0, 1) := by decide +kernel
theorem dX3_readHead_72 : decode cX3_readHead 72 = .ok (.iconst 2, 1) := by decide +kernel
theorem dX3_readHead_73 : decode cX3_readHead 73 = .ok (.putfield 79, 3) := by decide +kernel
theorem dX3_readHead_76 : decode cX3_readHead 76 = .ok (.iconst 0, 1) := by decide +kernel
theorem dX3_readHead_77 : decode cX3_readHead 77 = .ok (.ireturn, 1) := by decide +kernel
set_option maxRecDepth 100000 in
set_option maxHeartbeats 4000000 in
theorem tX3_readHead {T R : Nat} {J : Nat → Prop} {Bc Bs : Nat} {M : gMd} {z : Nat → Nat} {hp : List gA} {o : Nat} {a0 m0 : Nat}  (H : tyS T R J Bc Bs M z hp) (hk : tyK o = (9, 0)) (hk0 : tyK a0 = (1, m0))  : gM yX3_readHead cX3_readHead 2 ((some .int)) 1 21 [.ref o, .ref a0] (hp) (0) (0) (fun v h => ∃ x, v = some (.int x) ∧ tyS T R J Bc Bs M z h) := by
  refine gM_of (ls0 := [some (.ref o), some (.ref a0)]) (by decide +kernel) (Nat.le_of_ble_eq_true rfl) rfl fun X C E => ?_
  have J_46 : ∀ (hJ46 : List gA), tyS T R J Bc Bs M z hJ46 → gG X 46 [some (.ref o), some (.ref a0)] [] hJ46 0 0 := by
    intro hJ46 HJ46
    refine g_aload_n (q := 47) C dX3_readHead_46 rfl rfl ?_
    obtain ⟨l1, g1, -⟩ := tyRow HJ46 hk0
    refine g_callVip (q := 50) (As := []) C gyX4_size gvX4_size t_517 (tX4_size HJ46 hk0) dX3_readHead_47 rfl g1.obj rfl rfl rfl (Nat.le_of_ble_eq_true rfl) (Nat.le_of_ble_eq_true rfl) (Nat.le_of_ble_eq_true rfl) (Nat.le_of_ble_eq_true rfl) (Nat.le_of_ble_eq_true rfl) rfl (fun x2 h2 q2 => ?_)
    subst q2
    refine g_iconst (v := 1) (q := 51) C dX3_readHead_50 (by decide) rfl ?_
    refine g_icmp_ne (t := 60) (q := 54) C dX3_readHead_51 (by decide) rfl (fun c_51 => ?_) (fun c_51 => ?_)
    ·
      refine g_aload_n (q := 61) C dX3_readHead_60 rfl rfl ?_
      refine g_aload_n (q := 62) C dX3_readHead_61 rfl rfl ?_
      refine g_iconst (v := 1) (q := 63) C dX3_readHead_62 (by decide) rfl ?_
      refine g_callVip (q := 66) (As := [.int 1]) C gyX4_at gvX4_at t_521 (tX4_at HJ46 hk0) dX3_readHead_63 rfl g1.obj rfl rfl rfl (Nat.le_of_ble_eq_true rfl) (Nat.le_of_ble_eq_true rfl) (Nat.le_of_ble_eq_true rfl) (Nat.le_of_ble_eq_true rfl) (Nat.le_of_ble_eq_true rfl) rfl (fun x3 h3 q3 => ?_)
      subst q3
      refine g_iconst (v := 4) (q := 67) C dX3_readHead_66 (by decide) rfl ?_
      refine g_ishr (q := 68) C dX3_readHead_67 rfl ?_
      obtain ⟨x0_4, x1_4, x2_4, x3_4, x4_4, x5_4, x6_4, x8_4, x9_4, x10_4, o4, e4_0⟩ := tyG3 HJ46 hk
      refine g_putfield (q := 71) C fX3_76 dX3_readHead_68 rfl o4 (Nat.le_of_ble_eq_true rfl) (Or.inl rfl) rfl rfl (by intro z h; cases h) ?_
      refine tyP3 HJ46 hk rfl e4_0 (fun h5 _ _ H5 => ?_)
      refine g_aload_n (q := 72) C dX3_readHead_71 rfl rfl ?_
      refine g_iconst (v := 2) (q := 73) C dX3_readHead_72 (by decide) rfl ?_
      obtain ⟨x0_6, x1_6, x2_6, x3_6, x4_6, x5_6, x6_6, x8_6, x9_6, x10_6, o6, e6_0⟩ := tyG3 H5 hk
      refine g_putfield (q := 76) C fX3_79 dX3_readHead_73 rfl o6 (Nat.le_of_ble_eq_true rfl) (Or.inl rfl) rfl rfl (by intro z h; cases h) ?_
      refine tyP3 H5 hk rfl e6_0 (fun h7 _ _ H7 => ?_)
      refine g_iconst (v := 0) (q := 77) C dX3_readHead_76 (by decide) rfl ?_
      exact E.1 _ _ _ _ _ _ _ dX3_readHead_77 rfl rfl (Nat.le_of_ble_eq_true rfl) (Nat.le_of_ble_eq_true rfl) ⟨_, rfl, H7⟩
    ·
      refine g_iconst (v := 1) (q := 55) C dX3_readHead_54 (by decide) rfl ?_
      refine g_iconst (v := 1) (q := 56) C dX3_readHead_55 (by decide) rfl ?_
      refine g_callSip (q := 59) (As := [.int 1, .int 1]) C gyX3_faultAt t_519 t_518 (tX3_faultAt HJ46) dX3_readHead_56 rfl rfl rfl (Nat.le_of_ble_eq_true rfl) (Nat.le_of_ble_eq_true rfl) (Nat.le_of_ble_eq_true rfl) (Nat.le_of_ble_eq_true rfl) (Nat.le_of_ble_eq_true rfl) rfl (fun x8 h8 q8 => ?_)
      have H8 := q8
      exact E.1 _ _ _ _ _ _ _ dX3_readHead_59 rfl rfl (Nat.le_of_ble_eq_true rfl) (Nat.le_of_ble_eq_true rfl) ⟨_, rfl, H8⟩
  refine g_aload_n (q := 1) C dX3_readHead_0 rfl rfl ?_
  obtain ⟨l9, g9, -⟩ := tyRow H hk0
  refine g_callVip (q := 4) (As := []) C gyX4_size gvX4_size t_517 (tX4_size H hk0) dX3_readHead_1 rfl g9.obj rfl rfl rfl (Nat.le_of_ble_eq_true rfl) (Nat.le_of_ble_eq_true rfl) (Nat.le_of_ble_eq_true rfl) (Nat.le_of_ble_eq_true rfl) (Nat.le_of_ble_eq_true rfl) rfl (fun x10 h10 q10 => ?_)
  subst q10
  refine g_if_ne (t := 13) (q := 7) C dX3_readHead_4 (by decide) rfl (fun c_4 => ?_) (fun c_4 => ?_)
  ·
    refine g_aload_n (q := 14) C dX3_readHead_13 rfl rfl ?_
    refine g_aload_n (q := 15) C dX3_readHead_14 rfl rfl ?_
    refine g_iconst (v := 0) (q := 16) C dX3_readHead_15 (by decide) rfl ?_
    refine g_callVip (q := 19) (As := [.int 0]) C gyX4_at gvX4_at t_521 (tX4_at H hk0) dX3_readHead_16 rfl g9.obj rfl rfl rfl (Nat.le_of_ble_eq_true rfl) (Nat.le_of_ble_eq_true rfl) (Nat.le_of_ble_eq_true rfl) (Nat.le_of_ble_eq_true rfl) (Nat.le_of_ble_eq_true rfl) rfl (fun x11 h11 q11 => ?_)
    subst q11
    obtain ⟨x0_12, x1_12, x2_12, x3_12, x4_12, x5_12, x6_12, x8_12, x9_12, x10_12, o12, e12_0⟩ := tyG3 H hk
    refine g_putfield (q := 22) C fX3_73 dX3_readHead_19 rfl o12 (Nat.le_of_ble_eq_true rfl) (Or.inl rfl) rfl rfl (by intro z h; cases h) ?_
    refine tyP3 H hk rfl e12_0 (fun h13 _ _ H13 => ?_)
    refine g_aload_n (q := 23) C dX3_readHead_22 rfl rfl ?_
    obtain ⟨x0_14, x1_14, x2_14, x3_14, x4_14, x5_14, x6_14, x8_14, x9_14, x10_14, o14, e14_0⟩ := tyG3 H13 hk
    refine g_getfield (v := .int x0_14) (q := 26) C fX3_73 dX3_readHead_23 rfl o14 rfl ?_
    refine g_bipush (v := 59) (q := 28) C dX3_readHead_26 (by decide) rfl ?_
    refine g_icmp_eq (t := 46) (q := 31) C dX3_readHead_28 (by decide) rfl (fun c_28 => ?_) (fun c_28 => ?_)
    ·
      exact J_46 _  H13
    ·
      refine g_aload_n (q := 32) C dX3_readHead_31 rfl rfl ?_
      refine g_getfield (v := .int x0_14) (q := 35) C fX3_73 dX3_readHead_32 rfl o14 rfl ?_
      refine g_bipush (v := 63) (q := 37) C dX3_readHead_35 (by decide) rfl ?_
      refine g_icmp_eq (t := 46) (q := 40) C dX3_readHead_37 (by decide) rfl (fun c_37 => ?_) (fun c_37 => ?_)
      ·
        exact J_46 _  H13
      ·
        refine g_iconst (v := 0) (q := 41) C dX3_readHead_40 (by decide) rfl ?_
        refine g_iconst (v := 2) (q := 42) C dX3_readHead_41 (by decide) rfl ?_
        refine g_callSip (q := 45) (As := [.int 0, .int 2]) C gyX3_faultAt t_519 t_518 (tX3_faultAt H13) dX3_readHead_42 rfl rfl rfl (Nat.le_of_ble_eq_true rfl) (Nat.le_of_ble_eq_true rfl) (Nat.le_of_ble_eq_true rfl) (Nat.le_of_ble_eq_true rfl) (Nat.le_of_ble_eq_true rfl) rfl (fun x15 h15 q15 => ?_)
        have H15 := q15
        exact E.1 _ _ _ _ _ _ _ dX3_readHead_45 rfl rfl (Nat.le_of_ble_eq_true rfl) (Nat.le_of_ble_eq_true rfl) ⟨_, rfl, H15⟩
  ·
    refine g_iconst (v := 0) (q := 8) C dX3_readHead_7 (by decide) rfl ?_
    refine g_iconst (v := 1) (q := 9) C dX3_readHead_8 (by decide) rfl ?_
    refine g_callSip (q := 12) (As := [.int 0, .int 1]) C gyX3_faultAt t_519 t_518 (tX3_faultAt H) dX3_readHead_9 rfl rfl rfl (Nat.le_of_ble_eq_true rfl) (Nat.le_of_ble_eq_true rfl) (Nat.le_of_ble_eq_true rfl) (Nat.le_of_ble_eq_true rfl) (Nat.le_of_ble_eq_true rfl) rfl (fun x16 h16 q16 => ?_)
    have H16 := q16
    exact E.1 _ _ _ _ _ _ _ dX3_readHead_12 rfl rfl (Nat.le_of_ble_eq_true rfl) (Nat.le_of_ble_eq_true rfl) ⟨_, rfl, H16⟩
theorem dX3_readGroups_0 : decode cX3_readGroups 0 = .ok (.iconst 1, 1) := by decide +kernel
theorem dX3_readGroups_1 : decode cX3_readGroups 1 = .ok (.istore_n 2, 1) := by decide +kernel
theorem dX3_readGroups_2 : decode cX3_readGroups 2 = .ok (.iload_n 2, 1) := by decide +kernel
theorem dX3_readGroups_3 : decode cX3_readGroups 3 = .ok (.iconst 4, 1) := by decide +kernel
theorem dX3_readGroups_4 : decode cX3_readGroups 4 = .ok (.if_icmp .gt 120, 3) := by decide +kernel
theorem dX3_readGroups_7 : decode cX3_readGroups 7 = .ok (.aload_n 0, 1) := by decide +kernel
theorem dX3_readGroups_8 : decode cX3_readGroups 8 = .ok (.getfield 76, 3) := by decide +kernel
theorem dX3_readGroups_11 : decode cX3_readGroups 11 = .ok (.ifCond .eq 113, 3) := by decide +kernel
theorem dX3_readGroups_14 : decode cX3_readGroups 14 = .ok (.aload_n 0, 1) := by decide +kernel
theorem dX3_readGroups_15 : decode cX3_readGroups 15 = .ok (.iload_n 2, 1) := by decide +kernel
theorem dX3_readGroups_16 : decode cX3_readGroups 16 = .ok (.putfield 48, 3) := by decide +kernel
theorem dX3_readGroups_19 : decode cX3_readGroups 19 = .ok (.aload_n 0, 1) := by decide +kernel
theorem dX3_readGroups_20 : decode cX3_readGroups 20 = .ok (.getfield 76, 3) := by decide +kernel
theorem dX3_readGroups_23 : decode cX3_readGroups 23 = .ok (.istore_n 3, 1) := by decide +kernel
theorem dX3_readGroups_24 : decode cX3_readGroups 24 = .ok (.aload_n 0, 1) := by decide +kernel
theorem dX3_readGroups_25 : decode cX3_readGroups 25 = .ok (.iconst 0, 1) := by decide +kernel
theorem dX3_readGroups_26 : decode cX3_readGroups 26 = .ok (.putfield 76, 3) := by decide +kernel
theorem dX3_readGroups_29 : decode cX3_readGroups 29 = .ok (.iconst 0, 1) := by decide +kernel
theorem dX3_readGroups_30 : decode cX3_readGroups 30 = .ok (.istore 4, 2) := by decide +kernel
theorem dX3_readGroups_32 : decode cX3_readGroups 32 = .ok (.iload 4, 2) := by decide +kernel
theorem dX3_readGroups_34 : decode cX3_readGroups 34 = .ok (.iconst 4, 1) := by decide +kernel
theorem dX3_readGroups_35 : decode cX3_readGroups 35 = .ok (.if_icmp .ge 83, 3) := by decide +kernel
theorem dX3_readGroups_38 : decode cX3_readGroups 38 = .ok (.iload_n 3, 1) := by decide +kernel
theorem dX3_readGroups_39 : decode cX3_readGroups 39 = .ok (.iload 4, 2) := by decide +kernel
theorem dX3_readGroups_41 : decode cX3_readGroups 41 = .ok (.ishr, 1) := by decide +kernel
theorem dX3_readGroups_42 : decode cX3_readGroups 42 = .ok (.iconst 1, 1) := by decide +kernel
theorem dX3_readGroups_43 : decode cX3_readGroups 43 = .ok (.iand, 1) := by decide +kernel
theorem dX3_readGroups_44 : decode cX3_readGroups 44 = .ok (.ifCond .ne 6, 3) := by decide +kernel
theorem dX3_readGroups_47 : decode cX3_readGroups 47 = .ok (.goto 65, 3) := by decide +kernel
theorem dX3_readGroups_50 : decode cX3_readGroups 50 = .ok (.aload_n 0, 1) := by decide +kernel
theorem dX3_readGroups_51 : decode cX3_readGroups 51 = .ok (.getfield 79, 3) := by decide +kernel
theorem dX3_readGroups_54 : decode cX3_readGroups 54 = .ok (.aload_n 1, 1) := by decide +kernel
theorem dX3_readGroups_55 : decode cX3_readGroups 55 = .ok (.invokevirtual 65, 3) := by decide +kernel
theorem dX3_readGroups_58 : decode cX3_readGroups 58 = .ok (.if_icmp .lt 12, 3) := by decide +kernel
theorem dX3_readGroups_61 : decode cX3_readGroups 61 = .ok (.aload_n 0, 1) := by decide +kernel
theorem dX3_readGroups_62 : decode cX3_readGroups 62 = .ok (.getfield 79, 3) := by decide +kernel
theorem dX3_readGroups_65 : decode cX3_readGroups 65 = .ok (.iconst 1, 1) := by decide +kernel
theorem dX3_readGroups_66 : decode cX3_readGroups 66 = .ok (.invokestatic 69, 3) := by decide +kernel
theorem dX3_readGroups_69 : decode cX3_readGroups 69 = .ok (.ireturn, 1) := by decide +kernel
theorem dX3_readGroups_70 : decode cX3_readGroups 70 = .ok (.aload_n 0, 1) := by decide +kernel
theorem dX3_readGroups_71 : decode cX3_readGroups 71 = .ok (.iload_n 2, 1) := by decide +kernel
theorem dX3_readGroups_72 : decode cX3_readGroups 72 = .ok (.iload 4, 2) := by decide +kernel
theorem dX3_readGroups_74 : decode cX3_readGroups 74 = .ok (.aload_n 1, 1) := by decide +kernel
theorem dX3_readGroups_75 : decode cX3_readGroups 75 = .ok (.aload_n 0, 1) := by decide +kernel
theorem dX3_readGroups_76 : decode cX3_readGroups 76 = .ok (.getfield 79, 3) := by decide +kernel
theorem dX3_readGroups_79 : decode cX3_readGroups 79 = .ok (.invokevirtual 30, 3) := by decide +kernel
theorem dX3_readGroups_82 : decode cX3_readGroups 82 = .ok (.invokevirtual 82, 3) := by decide +kernel
theorem dX3_readGroups_85 : decode cX3_readGroups 85 = .ok (.istore 5, 2) := by decide +kernel
theorem dX3_readGroups_87 : decode cX3_readGroups 87 = .ok (.iload 5, 2) := by decide +kernel
theorem dX3_readGroups_89 : decode cX3_readGroups 89 = .ok (.ifCond .eq 13, 3) := by decide +kernel
theorem dX3_readGroups_92 : decode cX3_readGroups 92 = .ok (.aload_n 0, 1) := by decide +kernel
theorem dX3_readGroups_93 : decode cX3_readGroups 93 = .ok (.getfield 79, 3) := by decide +kernel
theorem dX3_readGroups_96 : decode cX3_readGroups 96 = .ok (.iload 5, 2) := by decide +kernel
theorem dX3_readGroups_98 : decode cX3_readGroups 98 = .ok (.invokestatic 69, 3) := by decide +kernel
theorem dX3_readGroups_101 : decode cX3_readGroups 101 = .ok (.ireturn, 1) := by decide +kernel
theorem dX3_readGroups_102 : decode cX3_readGroups 102 = .ok (.aload_n 0, 1) := by decide +kernel
theorem dX3_readGroups_103 : decode cX3_readGroups 103 = .ok (.dup, 1) := by decide +kernel
theorem dX3_readGroups_104 : decode cX3_readGroups 104 = .ok (.getfield 79, 3) := by decide +kernel
theorem dX3_readGroups_107 : decode cX3_readGroups 107 = .ok (.iconst 1, 1) := by decide +kernel
theorem dX3_readGroups_108 : decode cX3_readGroups 108 = .ok (.iadd, 1) := by decide +kernel
theorem dX3_readGroups_109 : decode cX3_readGroups 109 = .ok (.putfield 79, 3) := by decide +kernel
theorem dX3_readGroups_112 : decode cX3_readGroups 112 = .ok (.iinc 4 1, 3) := by decide +kernel
theorem dX3_readGroups_115 : decode cX3_readGroups 115 = .ok (.goto (-83), 3) := by decide +kernel
theorem dX3_readGroups_118 : decode cX3_readGroups 118 = .ok (.iinc 2 1, 3) := by decide +kernel
theorem dX3_readGroups_121 : decode cX3_readGroups 121 = .ok (.goto (-119), 3) := by decide +kernel
theorem dX3_readGroups_124 : decode cX3_readGroups 124 = .ok (.iconst 0, 1) := by decide +kernel
theorem dX3_readGroups_125 : decode cX3_readGroups 125 = .ok (.ireturn, 1) := by decide +kernel
set_option maxRecDepth 100000 in
set_option maxHeartbeats 4000000 in
theorem tX3_readGroups {T R : Nat} {J : Nat → Prop} {Bc Bs : Nat} {M : gMd} {z : Nat → Nat} {hp : List gA} {o : Nat} {a0 m0 : Nat}  (H : tyS T R J Bc Bs M z hp) (hk : tyK o = (9, 0)) (hk0 : tyK a0 = (1, m0))  : gM yX3_readGroups cX3_readGroups 6 ((some .int)) 3 66 [.ref o, .ref a0] (hp) (0) (0) (fun v h => ∃ x, v = some (.int x) ∧ tyS T R J Bc Bs M z h) := by
  refine gM_of (ls0 := [some (.ref o), some (.ref a0), none, none, none, none]) (by decide +kernel) (Nat.le_of_ble_eq_true rfl) rfl fun X C E => ?_
  have J_124 : ∀ (y124_2 : Int32) (hJ124 : List gA), tyS T R J Bc Bs M z hJ124 → gG X 124 [some (.ref o), some (.ref a0), some (.int y124_2), none, none, none] [] hJ124 0 0 := by
    intro y124_2 hJ124 HJ124
    refine g_iconst (v := 0) (q := 125) C dX3_readGroups_124 (by decide) rfl ?_
    exact E.1 _ _ _ _ _ _ _ dX3_readGroups_125 rfl rfl (Nat.le_of_ble_eq_true rfl) (Nat.le_of_ble_eq_true rfl) ⟨_, rfl, HJ124⟩
  have J_2 : ∀ (d2 : Nat) (y2_2 : Int32) (hJ2 : List gA), (2147483647 - y2_2.toInt).toNat = d2 → ∀ (_ : True), tyS T R J Bc Bs M z hJ2 → gG X 2 [some (.ref o), some (.ref a0), some (.int y2_2), none, none, none] [] hJ2 0 0 := by
    intro d2
    induction d2 using Nat.strongRecOn with
    | _ d2 ih2 =>
    intro y2_2 hJ2 hd2 _ HJ2
    have J_32 : ∀ (d32 : Nat) (y32_2 y32_3 y32_4 : Int32) (hJ32 : List gA), (2147483647 - y32_4.toInt).toNat = d32 → ∀ (w32_2 : (2147483647 - (y32_2 + 1).toInt).toNat < d2), tyS T R J Bc Bs M z hJ32 → gG X 32 [some (.ref o), some (.ref a0), some (.int y32_2), some (.int y32_3), some (.int y32_4), none] [] hJ32 0 0 := by
      intro d32
      induction d32 using Nat.strongRecOn with
      | _ d32 ih32 =>
      intro y32_2 y32_3 y32_4 hJ32 hd32 w32_2 HJ32
      have J_112 : ∀ (y112_2 y112_3 y112_4 : Int32) (hJ112 : List gA) (w112_2 : (2147483647 - (y112_2 + 1).toInt).toNat < d2) (w112_32 : (2147483647 - (y112_4 + 1).toInt).toNat < d32), tyS T R J Bc Bs M z hJ112 → gG X 112 [some (.ref o), some (.ref a0), some (.int y112_2), some (.int y112_3), some (.int y112_4), none] [] hJ112 0 0 := by
        intro y112_2 y112_3 y112_4 hJ112 w112_2 w112_32 HJ112
        refine g_iinc (v := y112_4 + 1) (q := 115) C dX3_readGroups_112 rfl rfl (by simp only [gset]; rfl) rfl ?_
        refine g_goto (q := 32) C dX3_readGroups_115 (by decide) ?_
        exact ih32 _ w112_32 _ _ _ _ rfl w112_2 HJ112
      refine g_iload (q := 34) C dX3_readGroups_32 rfl rfl ?_
      refine g_iconst (v := 4) (q := 35) C dX3_readGroups_34 (by decide) rfl ?_
      refine g_icmp_ge (t := 118) (q := 38) C dX3_readGroups_35 (by decide) rfl (fun c_35 => ?_) (fun c_35 => ?_)
      ·
        have i_35 := Int32.le_iff_toInt_le.mp c_35
        refine g_iinc (v := y32_2 + 1) (q := 121) C dX3_readGroups_118 rfl rfl (by simp only [gset]; rfl) rfl ?_
        refine g_goto (q := 2) C dX3_readGroups_121 (by decide) ?_
        refine g_forget (ls' := [some (.ref o), some (.ref a0), some (.int (y32_2 + 1)), none, none, none]) rfl (gfK (gfK (gfK (gfD (gfD (gfK gfN)))))) ?_
        exact ih2 _ w32_2 _ _ rfl trivial HJ32
      ·
        have i_35 := mt Int32.le_iff_toInt_le.mpr c_35
        refine g_iload_n (q := 39) C dX3_readGroups_38 rfl rfl ?_
        refine g_iload (q := 41) C dX3_readGroups_39 rfl rfl ?_
        refine g_ishr (q := 42) C dX3_readGroups_41 rfl ?_
        refine g_iconst (v := 1) (q := 43) C dX3_readGroups_42 (by decide) rfl ?_
        refine g_iand (q := 44) C dX3_readGroups_43 rfl ?_
        refine g_if_ne (t := 50) (q := 47) C dX3_readGroups_44 (by decide) rfl (fun c_44 => ?_) (fun c_44 => ?_)
        ·
          refine g_aload_n (q := 51) C dX3_readGroups_50 rfl rfl ?_
          obtain ⟨x0_1, x1_1, x2_1, x3_1, x4_1, x5_1, x6_1, x8_1, x9_1, x10_1, o1, e1_0⟩ := tyG3 HJ32 hk
          refine g_getfield (v := .int x8_1) (q := 54) C fX3_79 dX3_readGroups_51 rfl o1 rfl ?_
          refine g_aload_n (q := 55) C dX3_readGroups_54 rfl rfl ?_
          obtain ⟨l2, g2, -⟩ := tyRow HJ32 hk0
          refine g_callVip (q := 58) (As := []) C gyX4_size gvX4_size t_517 (tX4_size HJ32 hk0) dX3_readGroups_55 rfl g2.obj rfl rfl rfl (Nat.le_of_ble_eq_true rfl) (Nat.le_of_ble_eq_true rfl) (Nat.le_of_ble_eq_true rfl) (Nat.le_of_ble_eq_true rfl) (Nat.le_of_ble_eq_true rfl) rfl (fun x3 h3 q3 => ?_)
          subst q3
          refine g_icmp_lt (t := 70) (q := 61) C dX3_readGroups_58 (by decide) rfl (fun c_58 => ?_) (fun c_58 => ?_)
          ·
            have i_58 := Int32.lt_iff_toInt_lt.mp c_58
            refine g_aload_n (q := 71) C dX3_readGroups_70 rfl rfl ?_
            refine g_iload_n (q := 72) C dX3_readGroups_71 rfl rfl ?_
            refine g_iload (q := 74) C dX3_readGroups_72 rfl rfl ?_
            refine g_aload_n (q := 75) C dX3_readGroups_74 rfl rfl ?_
            refine g_aload_n (q := 76) C dX3_readGroups_75 rfl rfl ?_
            refine g_getfield (v := .int x8_1) (q := 79) C fX3_79 dX3_readGroups_76 rfl o1 rfl ?_
            refine g_callVip (q := 82) (As := [.int x8_1]) C gyX4_at gvX4_at t_521 (tX4_at HJ32 hk0) dX3_readGroups_79 rfl g2.obj rfl rfl rfl (Nat.le_of_ble_eq_true rfl) (Nat.le_of_ble_eq_true rfl) (Nat.le_of_ble_eq_true rfl) (Nat.le_of_ble_eq_true rfl) (Nat.le_of_ble_eq_true rfl) rfl (fun x4 h4 q4 => ?_)
            subst q4
            refine g_callVip (q := 85) (As := [.int y32_2, .int y32_4, .int x4]) C gyX3_readGroupByte gvX3_readGroupByte t_529 (tX3_readGroupByte HJ32 hk) dX3_readGroups_82 rfl o1 rfl rfl rfl (Nat.le_of_ble_eq_true rfl) (Nat.le_of_ble_eq_true rfl) (Nat.le_of_ble_eq_true rfl) (Nat.le_of_ble_eq_true rfl) (Nat.le_of_ble_eq_true rfl) rfl (fun x5 h5 q5 => ?_)
            have H5 := q5
            refine g_istore (q := 87) C dX3_readGroups_85 (Nat.le_of_ble_eq_true rfl) (by simp only [gset]; rfl) rfl ?_
            refine g_iload (q := 89) C dX3_readGroups_87 rfl rfl ?_
            refine g_if_eq (t := 102) (q := 92) C dX3_readGroups_89 (by decide) rfl (fun c_89 => ?_) (fun c_89 => ?_)
            ·
              refine g_aload_n (q := 103) C dX3_readGroups_102 rfl rfl ?_
              refine g_dup (q := 104) C dX3_readGroups_103 rfl rfl ?_
              obtain ⟨x0_6, x1_6, x2_6, x3_6, x4_6, x5_6, x6_6, x8_6, x9_6, x10_6, o6, e6_0⟩ := tyG3 H5 hk
              refine g_getfield (v := .int x8_6) (q := 107) C fX3_79 dX3_readGroups_104 rfl o6 rfl ?_
              refine g_iconst (v := 1) (q := 108) C dX3_readGroups_107 (by decide) rfl ?_
              refine g_iadd (q := 109) C dX3_readGroups_108 rfl ?_
              refine g_putfield (q := 112) C fX3_79 dX3_readGroups_109 rfl o6 (Nat.le_of_ble_eq_true rfl) (Or.inl rfl) rfl rfl (by intro z h; cases h) ?_
              refine tyP3 H5 hk rfl e6_0 (fun h7 _ _ H7 => ?_)
              refine g_forget (ls' := [some (.ref o), some (.ref a0), some (.int y32_2), some (.int y32_3), some (.int y32_4), none]) rfl (gfK (gfK (gfK (gfK (gfK (gfD gfN)))))) ?_
              exact J_112 _ _ _ _ w32_2 (tyUp' hd32 c_35) H7
            ·
              refine g_aload_n (q := 93) C dX3_readGroups_92 rfl rfl ?_
              obtain ⟨x0_8, x1_8, x2_8, x3_8, x4_8, x5_8, x6_8, x8_8, x9_8, x10_8, o8, e8_0⟩ := tyG3 H5 hk
              refine g_getfield (v := .int x8_8) (q := 96) C fX3_79 dX3_readGroups_93 rfl o8 rfl ?_
              refine g_iload (q := 98) C dX3_readGroups_96 rfl rfl ?_
              refine g_callSip (q := 101) (As := [.int x8_8, .int x5]) C gyX3_faultAt t_519 t_518 (tX3_faultAt H5) dX3_readGroups_98 rfl rfl rfl (Nat.le_of_ble_eq_true rfl) (Nat.le_of_ble_eq_true rfl) (Nat.le_of_ble_eq_true rfl) (Nat.le_of_ble_eq_true rfl) (Nat.le_of_ble_eq_true rfl) rfl (fun x9 h9 q9 => ?_)
              have H9 := q9
              exact E.1 _ _ _ _ _ _ _ dX3_readGroups_101 rfl rfl (Nat.le_of_ble_eq_true rfl) (Nat.le_of_ble_eq_true rfl) ⟨_, rfl, H9⟩
          ·
            have i_58 := mt Int32.lt_iff_toInt_lt.mpr c_58
            refine g_aload_n (q := 62) C dX3_readGroups_61 rfl rfl ?_
            refine g_getfield (v := .int x8_1) (q := 65) C fX3_79 dX3_readGroups_62 rfl o1 rfl ?_
            refine g_iconst (v := 1) (q := 66) C dX3_readGroups_65 (by decide) rfl ?_
            refine g_callSip (q := 69) (As := [.int x8_1, .int 1]) C gyX3_faultAt t_519 t_518 (tX3_faultAt HJ32) dX3_readGroups_66 rfl rfl rfl (Nat.le_of_ble_eq_true rfl) (Nat.le_of_ble_eq_true rfl) (Nat.le_of_ble_eq_true rfl) (Nat.le_of_ble_eq_true rfl) (Nat.le_of_ble_eq_true rfl) rfl (fun x10 h10 q10 => ?_)
            have H10 := q10
            exact E.1 _ _ _ _ _ _ _ dX3_readGroups_69 rfl rfl (Nat.le_of_ble_eq_true rfl) (Nat.le_of_ble_eq_true rfl) ⟨_, rfl, H10⟩
        ·
          refine g_goto (q := 112) C dX3_readGroups_47 (by decide) ?_
          exact J_112 _ _ _ _ w32_2 (tyUp' hd32 c_35) HJ32
    refine g_iload_n (q := 3) C dX3_readGroups_2 rfl rfl ?_
    refine g_iconst (v := 4) (q := 4) C dX3_readGroups_3 (by decide) rfl ?_
    refine g_icmp_gt (t := 124) (q := 7) C dX3_readGroups_4 (by decide) rfl (fun c_4 => ?_) (fun c_4 => ?_)
    ·
      have i_4 := Int32.lt_iff_toInt_lt.mp c_4
      exact J_124 _ _  HJ2
    ·
      have i_4 := mt Int32.lt_iff_toInt_lt.mpr c_4
      refine g_aload_n (q := 8) C dX3_readGroups_7 rfl rfl ?_
      obtain ⟨x0_11, x1_11, x2_11, x3_11, x4_11, x5_11, x6_11, x8_11, x9_11, x10_11, o11, e11_0⟩ := tyG3 HJ2 hk
      refine g_getfield (v := .int x9_11) (q := 11) C fX3_76 dX3_readGroups_8 rfl o11 rfl ?_
      refine g_if_eq (t := 124) (q := 14) C dX3_readGroups_11 (by decide) rfl (fun c_11 => ?_) (fun c_11 => ?_)
      ·
        exact J_124 _ _  HJ2
      ·
        refine g_aload_n (q := 15) C dX3_readGroups_14 rfl rfl ?_
        refine g_iload_n (q := 16) C dX3_readGroups_15 rfl rfl ?_
        refine g_putfield (q := 19) C fX3_48 dX3_readGroups_16 rfl o11 (Nat.le_of_ble_eq_true rfl) (Or.inl rfl) rfl rfl (by intro z h; cases h) ?_
        refine tyP3 HJ2 hk rfl e11_0 (fun h12 _ _ H12 => ?_)
        refine g_aload_n (q := 20) C dX3_readGroups_19 rfl rfl ?_
        obtain ⟨x0_13, x1_13, x2_13, x3_13, x4_13, x5_13, x6_13, x8_13, x9_13, x10_13, o13, e13_0⟩ := tyG3 H12 hk
        refine g_getfield (v := .int x9_13) (q := 23) C fX3_76 dX3_readGroups_20 rfl o13 rfl ?_
        refine g_istore_n (q := 24) C dX3_readGroups_23 (Nat.le_of_ble_eq_true rfl) (by simp only [gset]; rfl) rfl ?_
        refine g_aload_n (q := 25) C dX3_readGroups_24 rfl rfl ?_
        refine g_iconst (v := 0) (q := 26) C dX3_readGroups_25 (by decide) rfl ?_
        refine g_putfield (q := 29) C fX3_76 dX3_readGroups_26 rfl o13 (Nat.le_of_ble_eq_true rfl) (Or.inl rfl) rfl rfl (by intro z h; cases h) ?_
        refine tyP3 H12 hk rfl e13_0 (fun h14 _ _ H14 => ?_)
        refine g_iconst (v := 0) (q := 30) C dX3_readGroups_29 (by decide) rfl ?_
        refine g_istore (q := 32) C dX3_readGroups_30 (Nat.le_of_ble_eq_true rfl) (by simp only [gset]; rfl) rfl ?_
        exact J_32 _ _ _ _ _ rfl (tyUpG hd2 c_4 (by decide)) H14
  refine g_iconst (v := 1) (q := 1) C dX3_readGroups_0 (by decide) rfl ?_
  refine g_istore_n (q := 2) C dX3_readGroups_1 (Nat.le_of_ble_eq_true rfl) (by simp only [gset]; rfl) rfl ?_
  exact J_2 _ _ _ rfl trivial H
theorem dX3_readTail_0 : decode cX3_readTail 0 = .ok (.iconst 0, 1) := by decide +kernel
theorem dX3_readTail_1 : decode cX3_readTail 1 = .ok (.istore_n 3, 1) := by decide +kernel
theorem dX3_readTail_2 : decode cX3_readTail 2 = .ok (.iload_n 3, 1) := by decide +kernel
theorem dX3_readTail_3 : decode cX3_readTail 3 = .ok (.iload_n 2, 1) := by decide +kernel
theorem dX3_readTail_4 : decode cX3_readTail 4 = .ok (.if_icmp .ge 54, 3) := by decide +kernel
theorem dX3_readTail_7 : decode cX3_readTail 7 = .ok (.aload_n 0, 1) := by decide +kernel
theorem dX3_readTail_8 : decode cX3_readTail 8 = .ok (.getfield 79, 3) := by decide +kernel
theorem dX3_readTail_11 : decode cX3_readTail 11 = .ok (.aload_n 1, 1) := by decide +kernel
theorem dX3_readTail_12 : decode cX3_readTail 12 = .ok (.invokevirtual 65, 3) := by decide +kernel
theorem dX3_readTail_15 : decode cX3_readTail 15 = .ok (.if_icmp .lt 12, 3) := by decide +kernel
theorem dX3_readTail_18 : decode cX3_readTail 18 = .ok (.aload_n 0, 1) := by decide +kernel
theorem dX3_readTail_19 : decode cX3_readTail 19 = .ok (.getfield 79, 3) := by decide +kernel
theorem dX3_readTail_22 : decode cX3_readTail 22 = .ok (.iconst 1, 1) := by decide +kernel
theorem dX3_readTail_23 : decode cX3_readTail 23 = .ok (.invokestatic 69, 3) := by decide +kernel
theorem dX3_readTail_26 : decode cX3_readTail 26 = .ok (.ireturn, 1) := by decide +kernel
theorem dX3_readTail_27 : decode cX3_readTail 27 = .ok (.aload_n 0, 1) := by decide +kernel
theorem dX3_readTail_28 : decode cX3_readTail 28 = .ok (.getfield 14, 3) := by decide +kernel
theorem dX3_readTail_31 : decode cX3_readTail 31 = .ok (.aload_n 1, 1) := by decide +kernel
theorem dX3_readTail_32 : decode cX3_readTail 32 = .ok (.aload_n 0, 1) := by decide +kernel
theorem dX3_readTail_33 : decode cX3_readTail 33 = .ok (.getfield 79, 3) := by decide +kernel
theorem dX3_readTail_36 : decode cX3_readTail 36 = .ok (.invokevirtual 30, 3) := by decide +kernel
theorem dX3_readTail_39 : decode cX3_readTail 39 = .ok (.invokevirtual 101, 3) := by decide +kernel
theorem dX3_readTail_42 : decode cX3_readTail 42 = .ok (.aload_n 0, 1) := by decide +kernel
theorem dX3_readTail_43 : decode cX3_readTail 43 = .ok (.dup, 1) := by decide +kernel
theorem dX3_readTail_44 : decode cX3_readTail 44 = .ok (.getfield 79, 3) := by decide +kernel
theorem dX3_readTail_47 : decode cX3_readTail 47 = .ok (.iconst 1, 1) := by decide +kernel
theorem dX3_readTail_48 : decode cX3_readTail 48 = .ok (.iadd, 1) := by decide +kernel
theorem dX3_readTail_49 : decode cX3_readTail 49 = .ok (.putfield 79, 3) := by decide +kernel
theorem dX3_readTail_52 : decode cX3_readTail 52 = .ok (.iinc 3 1, 3) := by decide +kernel
theorem dX3_readTail_55 : decode cX3_readTail 55 = .ok (.goto (-53), 3) := by decide +kernel
theorem dX3_readTail_58 : decode cX3_readTail 58 = .ok (.aload_n 0, 1) := by decide +kernel
theorem dX3_readTail_59 : decode cX3_readTail 59 = .ok (.getfield 54, 3) := by decide +kernel
theorem dX3_readTail_62 : decode cX3_readTail 62 = .ok (.ifCond .eq 76, 3) := by decide +kernel
theorem dX3_readTail_65 : decode cX3_readTail 65 = .ok (.aload_n 0, 1) := by decide +kernel
theorem dX3_readTail_66 : decode cX3_readTail 66 = .ok (.getfield 79, 3) := by decide +kernel
theorem dX3_readTail_69 : decode cX3_readTail 69 = .ok (.aload_n 1, 1) := by decide +kernel
theorem dX3_readTail_70 : decode cX3_readTail 70 = .ok (.invokevirtual 65, 3) := by decide +kernel
theorem dX3_readTail_73 : decode cX3_readTail 73 = .ok (.if_icmp .lt 12, 3) := by decide +kernel
theorem dX3_readTail_76 : decode cX3_readTail 76 = .ok (.aload_n 0, 1) := by decide +kernel
theorem dX3_readTail_77 : decode cX3_readTail 77 = .ok (.getfield 79, 3) := by decide +kernel
theorem dX3_readTail_80 : decode cX3_readTail 80 = .ok (.iconst 1, 1) := by decide +kernel
theorem dX3_readTail_81 : decode cX3_readTail 81 = .ok (.invokestatic 69, 3) := by decide +kernel
theorem dX3_readTail_84 : decode cX3_readTail 84 = .ok (.ireturn, 1) := by decide +kernel
theorem dX3_readTail_85 : decode cX3_readTail 85 = .ok (.iconst 0, 1) := by decide +kernel
theorem dX3_readTail_86 : decode cX3_readTail 86 = .ok (.istore_n 3, 1) := by decide +kernel
theorem dX3_readTail_87 : decode cX3_readTail 87 = .ok (.iconst 1, 1) := by decide +kernel
theorem dX3_readTail_88 : decode cX3_readTail 88 = .ok (.istore 4, 2) := by decide +kernel
theorem dX3_readTail_90 : decode cX3_readTail 90 = .ok (.iload 4, 2) := by decide +kernel
theorem dX3_readTail_92 : decode cX3_readTail 92 = .ok (.aload_n 0, 1) := by decide +kernel
theorem dX3_readTail_93 : decode cX3_readTail 93 = .ok (.getfield 79, 3) := by decide +kernel
theorem dX3_readTail_96 : decode cX3_readTail 96 = .ok (.if_icmp .gt 18, 3) := by decide +kernel
theorem dX3_readTail_99 : decode cX3_readTail 99 = .ok (.iload_n 3, 1) := by decide +kernel
theorem dX3_readTail_100 : decode cX3_readTail 100 = .ok (.aload_n 1, 1) := by decide +kernel
theorem dX3_readTail_101 : decode cX3_readTail 101 = .ok (.iload 4, 2) := by decide +kernel
theorem dX3_readTail_103 : decode cX3_readTail 103 = .ok (.invokevirtual 30, 3) := by decide +kernel
theorem dX3_readTail_106 : decode cX3_readTail 106 = .ok (.ixor, 1) := by decide +kernel
theorem dX3_readTail_107 : decode cX3_readTail 107 = .ok (.istore_n 3, 1) := by decide +kernel
theorem dX3_readTail_108 : decode cX3_readTail 108 = .ok (.iinc 4 1, 3) := by decide +kernel
theorem dX3_readTail_111 : decode cX3_readTail 111 = .ok (.goto (-21), 3) := by decide +kernel
theorem dX3_readTail_114 : decode cX3_readTail 114 = .ok (.iload_n 3, 1) := by decide +kernel
theorem dX3_readTail_115 : decode cX3_readTail 115 = .ok (.ifCond .eq 13, 3) := by decide +kernel
theorem dX3_readTail_118 : decode cX3_readTail 118 = .ok (.aload_n 0, 1) := by decide +kernel
theorem dX3_readTail_119 : decode cX3_readTail 119 = .ok (.getfield 79, 3) := by decide +kernel
theorem dX3_readTail_122 : decode cX3_readTail 122 = .ok (.bipush 6, 2) := by decide +kernel
theorem dX3_readTail_124 : decode cX3_readTail 124 = .ok (.invokestatic 69, 3) := by decide +kernel
theorem dX3_readTail_127 : decode cX3_readTail 127 = .ok (.ireturn, 1) := by decide +kernel
theorem dX3_readTail_128 : decode cX3_readTail 128 = .ok (.aload_n 0, 1) := by decide +kernel
theorem dX3_readTail_129 : decode cX3_readTail 129 = .ok (.dup, 1) := by decide +kernel
theorem dX3_readTail_130 : decode cX3_readTail 130 = .ok (.getfield 79, 3) := by decide +kernel
theorem dX3_readTail_133 : decode cX3_readTail 133 = .ok (.iconst 1, 1) := by decide +kernel
theorem dX3_readTail_134 : decode cX3_readTail 134 = .ok (.iadd, 1) := by decide +kernel
theorem dX3_readTail_135 : decode cX3_readTail 135 = .ok (.putfield 79, 3) := by decide +kernel
theorem dX3_readTail_138 : decode cX3_readTail 138 = .ok (.aload_n 0, 1) := by decide +kernel
theorem dX3_readTail_139 : decode cX3_readTail 139 = .ok (.getfield 79, 3) := by decide +kernel
theorem dX3_readTail_142 : decode cX3_readTail 142 = .ok (.aload_n 1, 1) := by decide +kernel
theorem dX3_readTail_143 : decode cX3_readTail 143 = .ok (.invokevirtual 65, 3) := by decide +kernel
theorem dX3_readTail_146 : decode cX3_readTail 146 = .ok (.if_icmp .ge 15, 3) := by decide +kernel
theorem dX3_readTail_149 : decode cX3_readTail 149 = .ok (.aload_n 0, 1) := by decide +kernel
theorem dX3_readTail_150 : decode cX3_readTail 150 = .ok (.getfield 79, 3) := by decide +kernel
theorem dX3_readTail_153 : decode cX3_readTail 153 = .ok (.bipush 7, 2) := by decide +kernel
theorem dX3_readTail_155 : decode cX3_readTail 155 = .ok (.invokestatic 69, 3) := by decide +kernel
theorem dX3_readTail_158 : decode cX3_readTail 158 = .ok (.goto 4, 3) := by decide +kernel
theorem dX3_readTail_161 : decode cX3_readTail 161 = .ok (.iconst 0, 1) := by decide +kernel
theorem dX3_readTail_162 : decode cX3_readTail 162 = .ok (.ireturn, 1) := by decide +kernel
set_option maxRecDepth 100000 in
set_option maxHeartbeats 4000000 in
theorem tX3_readTail {T R : Nat} {J : Nat → Prop} {Bc Bs : Nat} {M : gMd} {z : Nat → Nat} {hp : List gA} {o : Nat} {a0 m0 : Nat} {a1 : Int32}  (H : tyS T R J Bc Bs M z hp) (hk : tyK o = (9, 0)) (hk0 : tyK a0 = (1, m0))  : gM yX3_readTail cX3_readTail 5 ((some .int)) 3 103 [.ref o, .ref a0, .int a1] (hp) (0) (0) (fun v h => ∃ x, v = some (.int x) ∧ tyS T R J Bc Bs M z h) := by
  refine gM_of (ls0 := [some (.ref o), some (.ref a0), some (.int a1), none, none]) (by decide +kernel) (Nat.le_of_ble_eq_true rfl) rfl fun X C E => ?_
  have J_138 : ∀ (y138_2 y138_3 : Int32) (hJ138 : List gA), tyS T R J Bc Bs M z hJ138 → gG X 138 [some (.ref o), some (.ref a0), some (.int y138_2), some (.int y138_3), none] [] hJ138 0 0 := by
    intro y138_2 y138_3 hJ138 HJ138
    refine g_aload_n (q := 139) C dX3_readTail_138 rfl rfl ?_
    obtain ⟨x0_1, x1_1, x2_1, x3_1, x4_1, x5_1, x6_1, x8_1, x9_1, x10_1, o1, e1_0⟩ := tyG3 HJ138 hk
    refine g_getfield (v := .int x8_1) (q := 142) C fX3_79 dX3_readTail_139 rfl o1 rfl ?_
    refine g_aload_n (q := 143) C dX3_readTail_142 rfl rfl ?_
    obtain ⟨l2, g2, -⟩ := tyRow HJ138 hk0
    refine g_callVip (q := 146) (As := []) C gyX4_size gvX4_size t_517 (tX4_size HJ138 hk0) dX3_readTail_143 rfl g2.obj rfl rfl rfl (Nat.le_of_ble_eq_true rfl) (Nat.le_of_ble_eq_true rfl) (Nat.le_of_ble_eq_true rfl) (Nat.le_of_ble_eq_true rfl) (Nat.le_of_ble_eq_true rfl) rfl (fun x3 h3 q3 => ?_)
    subst q3
    refine g_icmp_ge (t := 161) (q := 149) C dX3_readTail_146 (by decide) rfl (fun c_146 => ?_) (fun c_146 => ?_)
    ·
      have i_146 := Int32.le_iff_toInt_le.mp c_146
      refine g_iconst (v := 0) (q := 162) C dX3_readTail_161 (by decide) rfl ?_
      exact E.1 _ _ _ _ _ _ _ dX3_readTail_162 rfl rfl (Nat.le_of_ble_eq_true rfl) (Nat.le_of_ble_eq_true rfl) ⟨_, rfl, HJ138⟩
    ·
      have i_146 := mt Int32.le_iff_toInt_le.mpr c_146
      refine g_aload_n (q := 150) C dX3_readTail_149 rfl rfl ?_
      refine g_getfield (v := .int x8_1) (q := 153) C fX3_79 dX3_readTail_150 rfl o1 rfl ?_
      refine g_bipush (v := 7) (q := 155) C dX3_readTail_153 (by decide) rfl ?_
      refine g_callSip (q := 158) (As := [.int x8_1, .int 7]) C gyX3_faultAt t_519 t_518 (tX3_faultAt HJ138) dX3_readTail_155 rfl rfl rfl (Nat.le_of_ble_eq_true rfl) (Nat.le_of_ble_eq_true rfl) (Nat.le_of_ble_eq_true rfl) (Nat.le_of_ble_eq_true rfl) (Nat.le_of_ble_eq_true rfl) rfl (fun x4 h4 q4 => ?_)
      have H4 := q4
      refine g_goto (q := 162) C dX3_readTail_158 (by decide) ?_
      exact E.1 _ _ _ _ _ _ _ dX3_readTail_162 rfl rfl (Nat.le_of_ble_eq_true rfl) (Nat.le_of_ble_eq_true rfl) ⟨_, rfl, H4⟩
  have J_2 : ∀ (d2 : Nat) (y2_2 y2_3 : Int32) (hJ2 : List gA), (2147483647 - y2_3.toInt).toNat = d2 → ∀ (_ : True), tyS T R J Bc Bs M z hJ2 → gG X 2 [some (.ref o), some (.ref a0), some (.int y2_2), some (.int y2_3), none] [] hJ2 0 0 := by
    intro d2
    induction d2 using Nat.strongRecOn with
    | _ d2 ih2 =>
    intro y2_2 y2_3 hJ2 hd2 _ HJ2
    refine g_iload_n (q := 3) C dX3_readTail_2 rfl rfl ?_
    refine g_iload_n (q := 4) C dX3_readTail_3 rfl rfl ?_
    refine g_icmp_ge (t := 58) (q := 7) C dX3_readTail_4 (by decide) rfl (fun c_4 => ?_) (fun c_4 => ?_)
    ·
      have i_4 := Int32.le_iff_toInt_le.mp c_4
      refine g_aload_n (q := 59) C dX3_readTail_58 rfl rfl ?_
      obtain ⟨x0_5, x1_5, x2_5, x3_5, x4_5, x5_5, x6_5, x8_5, x9_5, x10_5, o5, e5_0⟩ := tyG3 HJ2 hk
      refine g_getfield (v := .int x6_5) (q := 62) C fX3_54 dX3_readTail_59 rfl o5 rfl ?_
      refine g_if_eq (t := 138) (q := 65) C dX3_readTail_62 (by decide) rfl (fun c_62 => ?_) (fun c_62 => ?_)
      ·
        exact J_138 _ _ _  HJ2
      ·
        refine g_aload_n (q := 66) C dX3_readTail_65 rfl rfl ?_
        refine g_getfield (v := .int x8_5) (q := 69) C fX3_79 dX3_readTail_66 rfl o5 rfl ?_
        refine g_aload_n (q := 70) C dX3_readTail_69 rfl rfl ?_
        obtain ⟨l6, g6, -⟩ := tyRow HJ2 hk0
        refine g_callVip (q := 73) (As := []) C gyX4_size gvX4_size t_517 (tX4_size HJ2 hk0) dX3_readTail_70 rfl g6.obj rfl rfl rfl (Nat.le_of_ble_eq_true rfl) (Nat.le_of_ble_eq_true rfl) (Nat.le_of_ble_eq_true rfl) (Nat.le_of_ble_eq_true rfl) (Nat.le_of_ble_eq_true rfl) rfl (fun x7 h7 q7 => ?_)
        subst q7
        refine g_icmp_lt (t := 85) (q := 76) C dX3_readTail_73 (by decide) rfl (fun c_73 => ?_) (fun c_73 => ?_)
        ·
          have i_73 := Int32.lt_iff_toInt_lt.mp c_73
          refine g_iconst (v := 0) (q := 86) C dX3_readTail_85 (by decide) rfl ?_
          refine g_istore_n (q := 87) C dX3_readTail_86 (Nat.le_of_ble_eq_true rfl) (by simp only [gset]; rfl) rfl ?_
          refine g_iconst (v := 1) (q := 88) C dX3_readTail_87 (by decide) rfl ?_
          refine g_istore (q := 90) C dX3_readTail_88 (Nat.le_of_ble_eq_true rfl) (by simp only [gset]; rfl) rfl ?_
          have hb90 := tyLtM c_73
          have L_90 : ∀ (d : Nat) (u90_3 u90_4 : Int32), (2147483647 - u90_4.toInt).toNat = d → gG X 90 [some (.ref o), some (.ref a0), some (.int y2_2), some (.int u90_3), some (.int u90_4)] [] hJ2 0 0 := by
            intro d
            induction d using Nat.strongRecOn with
            | _ d ih90 =>
            intro u90_3 u90_4 hd90
            refine g_iload (q := 92) C dX3_readTail_90 rfl rfl ?_
            refine g_aload_n (q := 93) C dX3_readTail_92 rfl rfl ?_
            refine g_getfield (v := .int x8_5) (q := 96) C fX3_79 dX3_readTail_93 rfl o5 rfl ?_
            refine g_icmp_gt (t := 114) (q := 99) C dX3_readTail_96 (by decide) rfl (fun c_96 => ?_) (fun c_96 => ?_)
            ·
              have i_96 := Int32.lt_iff_toInt_lt.mp c_96
              refine g_iload_n (q := 115) C dX3_readTail_114 rfl rfl ?_
              refine g_if_eq (t := 128) (q := 118) C dX3_readTail_115 (by decide) rfl (fun c_115 => ?_) (fun c_115 => ?_)
              ·
                refine g_aload_n (q := 129) C dX3_readTail_128 rfl rfl ?_
                refine g_dup (q := 130) C dX3_readTail_129 rfl rfl ?_
                refine g_getfield (v := .int x8_5) (q := 133) C fX3_79 dX3_readTail_130 rfl o5 rfl ?_
                refine g_iconst (v := 1) (q := 134) C dX3_readTail_133 (by decide) rfl ?_
                refine g_iadd (q := 135) C dX3_readTail_134 rfl ?_
                refine g_putfield (q := 138) C fX3_79 dX3_readTail_135 rfl o5 (Nat.le_of_ble_eq_true rfl) (Or.inl rfl) rfl rfl (by intro z h; cases h) ?_
                refine tyP3 HJ2 hk rfl e5_0 (fun h8 _ _ H8 => ?_)
                refine g_forget (ls' := [some (.ref o), some (.ref a0), some (.int y2_2), some (.int u90_3), none]) rfl (gfK (gfK (gfK (gfK (gfD gfN))))) ?_
                exact J_138 _ _ _  H8
              ·
                refine g_aload_n (q := 119) C dX3_readTail_118 rfl rfl ?_
                refine g_getfield (v := .int x8_5) (q := 122) C fX3_79 dX3_readTail_119 rfl o5 rfl ?_
                refine g_bipush (v := 6) (q := 124) C dX3_readTail_122 (by decide) rfl ?_
                refine g_callSip (q := 127) (As := [.int x8_5, .int 6]) C gyX3_faultAt t_519 t_518 (tX3_faultAt HJ2) dX3_readTail_124 rfl rfl rfl (Nat.le_of_ble_eq_true rfl) (Nat.le_of_ble_eq_true rfl) (Nat.le_of_ble_eq_true rfl) (Nat.le_of_ble_eq_true rfl) (Nat.le_of_ble_eq_true rfl) rfl (fun x9 h9 q9 => ?_)
                have H9 := q9
                exact E.1 _ _ _ _ _ _ _ dX3_readTail_127 rfl rfl (Nat.le_of_ble_eq_true rfl) (Nat.le_of_ble_eq_true rfl) ⟨_, rfl, H9⟩
            ·
              have i_96 := mt Int32.lt_iff_toInt_lt.mpr c_96
              refine g_iload_n (q := 100) C dX3_readTail_99 rfl rfl ?_
              refine g_aload_n (q := 101) C dX3_readTail_100 rfl rfl ?_
              refine g_iload (q := 103) C dX3_readTail_101 rfl rfl ?_
              refine g_callVip (q := 106) (As := [.int u90_4]) C gyX4_at gvX4_at t_521 (tX4_at HJ2 hk0) dX3_readTail_103 rfl g6.obj rfl rfl rfl (Nat.le_of_ble_eq_true rfl) (Nat.le_of_ble_eq_true rfl) (Nat.le_of_ble_eq_true rfl) (Nat.le_of_ble_eq_true rfl) (Nat.le_of_ble_eq_true rfl) rfl (fun x10 h10 q10 => ?_)
              subst q10
              refine g_ixor (q := 107) C dX3_readTail_106 rfl ?_
              refine g_istore_n (q := 108) C dX3_readTail_107 (Nat.le_of_ble_eq_true rfl) (by simp only [gset]; rfl) rfl ?_
              refine g_iinc (v := u90_4 + 1) (q := 111) C dX3_readTail_108 rfl rfl (by simp only [gset]; rfl) rfl ?_
              refine g_goto (q := 90) C dX3_readTail_111 (by decide) ?_
              exact ih90 _ (tyUpG hd90 c_96 hb90) _ _ rfl
          exact L_90 _ _ _ rfl
        ·
          have i_73 := mt Int32.lt_iff_toInt_lt.mpr c_73
          refine g_aload_n (q := 77) C dX3_readTail_76 rfl rfl ?_
          refine g_getfield (v := .int x8_5) (q := 80) C fX3_79 dX3_readTail_77 rfl o5 rfl ?_
          refine g_iconst (v := 1) (q := 81) C dX3_readTail_80 (by decide) rfl ?_
          refine g_callSip (q := 84) (As := [.int x8_5, .int 1]) C gyX3_faultAt t_519 t_518 (tX3_faultAt HJ2) dX3_readTail_81 rfl rfl rfl (Nat.le_of_ble_eq_true rfl) (Nat.le_of_ble_eq_true rfl) (Nat.le_of_ble_eq_true rfl) (Nat.le_of_ble_eq_true rfl) (Nat.le_of_ble_eq_true rfl) rfl (fun x11 h11 q11 => ?_)
          have H11 := q11
          exact E.1 _ _ _ _ _ _ _ dX3_readTail_84 rfl rfl (Nat.le_of_ble_eq_true rfl) (Nat.le_of_ble_eq_true rfl) ⟨_, rfl, H11⟩
    ·
      have i_4 := mt Int32.le_iff_toInt_le.mpr c_4
      refine g_aload_n (q := 8) C dX3_readTail_7 rfl rfl ?_
      obtain ⟨x0_12, x1_12, x2_12, x3_12, x4_12, x5_12, x6_12, x8_12, x9_12, x10_12, o12, e12_0⟩ := tyG3 HJ2 hk
      refine g_getfield (v := .int x8_12) (q := 11) C fX3_79 dX3_readTail_8 rfl o12 rfl ?_
      refine g_aload_n (q := 12) C dX3_readTail_11 rfl rfl ?_
      obtain ⟨l13, g13, -⟩ := tyRow HJ2 hk0
      refine g_callVip (q := 15) (As := []) C gyX4_size gvX4_size t_517 (tX4_size HJ2 hk0) dX3_readTail_12 rfl g13.obj rfl rfl rfl (Nat.le_of_ble_eq_true rfl) (Nat.le_of_ble_eq_true rfl) (Nat.le_of_ble_eq_true rfl) (Nat.le_of_ble_eq_true rfl) (Nat.le_of_ble_eq_true rfl) rfl (fun x14 h14 q14 => ?_)
      subst q14
      refine g_icmp_lt (t := 27) (q := 18) C dX3_readTail_15 (by decide) rfl (fun c_15 => ?_) (fun c_15 => ?_)
      ·
        have i_15 := Int32.lt_iff_toInt_lt.mp c_15
        refine g_aload_n (q := 28) C dX3_readTail_27 rfl rfl ?_
        refine g_getfield (v := .ref ((o + 1))) (q := 31) C fX3_14 dX3_readTail_28 rfl o12 rfl ?_
        refine g_aload_n (q := 32) C dX3_readTail_31 rfl rfl ?_
        refine g_aload_n (q := 33) C dX3_readTail_32 rfl rfl ?_
        refine g_getfield (v := .int x8_12) (q := 36) C fX3_79 dX3_readTail_33 rfl o12 rfl ?_
        refine g_callVip (q := 39) (As := [.int x8_12]) C gyX4_at gvX4_at t_521 (tX4_at HJ2 hk0) dX3_readTail_36 rfl g13.obj rfl rfl rfl (Nat.le_of_ble_eq_true rfl) (Nat.le_of_ble_eq_true rfl) (Nat.le_of_ble_eq_true rfl) (Nat.le_of_ble_eq_true rfl) (Nat.le_of_ble_eq_true rfl) rfl (fun x15 h15 q15 => ?_)
        subst q15
        obtain ⟨l16, g16, -⟩ := tyRow HJ2 (tyF3_7 hk)
        refine g_callVvp (q := 42) (As := [.int x15]) C gyX4_add gvX4_add t_559 (tX4_add HJ2 (tyF3_7 hk) (by decide)) dX3_readTail_39 rfl g16.obj rfl rfl rfl (Nat.le_of_ble_eq_true rfl) (Nat.le_of_ble_eq_true rfl) (Nat.le_of_ble_eq_true rfl) (Nat.le_of_ble_eq_true rfl) (Nat.le_of_ble_eq_true rfl) rfl (fun h17 q17 => ?_)
        have H17 := q17
        refine g_aload_n (q := 43) C dX3_readTail_42 rfl rfl ?_
        refine g_dup (q := 44) C dX3_readTail_43 rfl rfl ?_
        obtain ⟨x0_18, x1_18, x2_18, x3_18, x4_18, x5_18, x6_18, x8_18, x9_18, x10_18, o18, e18_0⟩ := tyG3 H17 hk
        refine g_getfield (v := .int x8_18) (q := 47) C fX3_79 dX3_readTail_44 rfl o18 rfl ?_
        refine g_iconst (v := 1) (q := 48) C dX3_readTail_47 (by decide) rfl ?_
        refine g_iadd (q := 49) C dX3_readTail_48 rfl ?_
        refine g_putfield (q := 52) C fX3_79 dX3_readTail_49 rfl o18 (Nat.le_of_ble_eq_true rfl) (Or.inl rfl) rfl rfl (by intro z h; cases h) ?_
        refine tyP3 H17 hk rfl e18_0 (fun h19 _ _ H19 => ?_)
        refine g_iinc (v := y2_3 + 1) (q := 55) C dX3_readTail_52 rfl rfl (by simp only [gset]; rfl) rfl ?_
        refine g_goto (q := 2) C dX3_readTail_55 (by decide) ?_
        exact ih2 _ (tyUp' hd2 c_4) _ _ _ rfl trivial H19
      ·
        have i_15 := mt Int32.lt_iff_toInt_lt.mpr c_15
        refine g_aload_n (q := 19) C dX3_readTail_18 rfl rfl ?_
        refine g_getfield (v := .int x8_12) (q := 22) C fX3_79 dX3_readTail_19 rfl o12 rfl ?_
        refine g_iconst (v := 1) (q := 23) C dX3_readTail_22 (by decide) rfl ?_
        refine g_callSip (q := 26) (As := [.int x8_12, .int 1]) C gyX3_faultAt t_519 t_518 (tX3_faultAt HJ2) dX3_readTail_23 rfl rfl rfl (Nat.le_of_ble_eq_true rfl) (Nat.le_of_ble_eq_true rfl) (Nat.le_of_ble_eq_true rfl) (Nat.le_of_ble_eq_true rfl) (Nat.le_of_ble_eq_true rfl) rfl (fun x20 h20 q20 => ?_)
        have H20 := q20
        exact E.1 _ _ _ _ _ _ _ dX3_readTail_26 rfl rfl (Nat.le_of_ble_eq_true rfl) (Nat.le_of_ble_eq_true rfl) ⟨_, rfl, H20⟩
  refine g_iconst (v := 0) (q := 1) C dX3_readTail_0 (by decide) rfl ?_
  refine g_istore_n (q := 2) C dX3_readTail_1 (Nat.le_of_ble_eq_true rfl) (by simp only [gset]; rfl) rfl ?_
  exact J_2 _ _ _ _ rfl trivial H
theorem dX3_read_0 : decode cX3_read 0 = .ok (.aload_n 0, 1) := by decide +kernel
theorem dX3_read_1 : decode cX3_read 1 = .ok (.invokevirtual 20, 3) := by decide +kernel
theorem dX3_read_4 : decode cX3_read 4 = .ok (.aload_n 0, 1) := by decide +kernel
theorem dX3_read_5 : decode cX3_read 5 = .ok (.aload_n 1, 1) := by decide +kernel
theorem dX3_read_6 : decode cX3_read 6 = .ok (.invokevirtual 23, 3) := by decide +kernel
theorem dX3_read_9 : decode cX3_read 9 = .ok (.istore_n 2, 1) := by decide +kernel
theorem dX3_read_10 : decode cX3_read 10 = .ok (.iload_n 2, 1) := by decide +kernel
theorem dX3_read_11 : decode cX3_read 11 = .ok (.ifCond .ne 9, 3) := by decide +kernel
theorem dX3_read_14 : decode cX3_read 14 = .ok (.aload_n 0, 1) := by decide +kernel
theorem dX3_read_15 : decode cX3_read 15 = .ok (.aload_n 1, 1) := by decide +kernel
theorem dX3_read_16 : decode cX3_read 16 = .ok (.invokevirtual 27, 3) := by decide +kernel
theorem dX3_read_19 : decode cX3_read 19 = .ok (.istore_n 2, 1) := by decide +kernel
theorem dX3_read_20 : decode cX3_read 20 = .ok (.iload_n 2, 1) := by decide +kernel
theorem dX3_read_21 : decode cX3_read 21 = .ok (.ifCond .ne 17, 3) := by decide +kernel
theorem dX3_read_24 : decode cX3_read 24 = .ok (.aload_n 0, 1) := by decide +kernel
theorem dX3_read_25 : decode cX3_read 25 = .ok (.aload_n 1, 1) := by decide +kernel
theorem dX3_read_26 : decode cX3_read 26 = .ok (.aload_n 1, 1) := by decide +kernel
theorem dX3_read_27 : decode cX3_read 27 = .ok (.iconst 1, 1) := by decide +kernel
theorem dX3_read_28 : decode cX3_read 28 = .ok (.invokevirtual 30, 3) := by decide +kernel
theorem dX3_read_31 : decode cX3_read 31 = .ok (.bipush 15, 2) := by decide +kernel
theorem dX3_read_33 : decode cX3_read 33 = .ok (.iand, 1) := by decide +kernel
theorem dX3_read_34 : decode cX3_read 34 = .ok (.invokevirtual 34, 3) := by decide +kernel
theorem dX3_read_37 : decode cX3_read 37 = .ok (.istore_n 2, 1) := by decide +kernel
theorem dX3_read_38 : decode cX3_read 38 = .ok (.iload_n 2, 1) := by decide +kernel
theorem dX3_read_39 : decode cX3_read 39 = .ok (.ireturn, 1) := by decide +kernel
set_option maxRecDepth 100000 in
set_option maxHeartbeats 4000000 in
theorem tX3_read {T R : Nat} {J : Nat → Prop} {Bc Bs : Nat} {M : gMd} {z : Nat → Nat} {hp : List gA} {o : Nat} {a0 m0 : Nat}  (H : tyS T R J Bc Bs M z hp) (hk : tyK o = (9, 0)) (hk0 : tyK a0 = (1, m0))  : gM yX3_read cX3_read 3 ((some .int)) 4 127 [.ref o, .ref a0] (hp) (0) (0) (fun v h => ∃ x, v = some (.int x) ∧ tyS T R J Bc Bs M z h) := by
  refine gM_of (ls0 := [some (.ref o), some (.ref a0), none]) (by decide +kernel) (Nat.le_of_ble_eq_true rfl) rfl fun X C E => ?_
  have J_38 : ∀ (y38_2 : Int32) (hJ38 : List gA), tyS T R J Bc Bs M z hJ38 → gG X 38 [some (.ref o), some (.ref a0), some (.int y38_2)] [] hJ38 0 0 := by
    intro y38_2 hJ38 HJ38
    refine g_iload_n (q := 39) C dX3_read_38 rfl rfl ?_
    exact E.1 _ _ _ _ _ _ _ dX3_read_39 rfl rfl (Nat.le_of_ble_eq_true rfl) (Nat.le_of_ble_eq_true rfl) ⟨_, rfl, HJ38⟩
  have J_20 : ∀ (y20_2 : Int32) (hJ20 : List gA), tyS T R J Bc Bs M z hJ20 → gG X 20 [some (.ref o), some (.ref a0), some (.int y20_2)] [] hJ20 0 0 := by
    intro y20_2 hJ20 HJ20
    refine g_iload_n (q := 21) C dX3_read_20 rfl rfl ?_
    refine g_if_ne (t := 38) (q := 24) C dX3_read_21 (by decide) rfl (fun c_21 => ?_) (fun c_21 => ?_)
    ·
      exact J_38 _ _  HJ20
    ·
      refine g_aload_n (q := 25) C dX3_read_24 rfl rfl ?_
      refine g_aload_n (q := 26) C dX3_read_25 rfl rfl ?_
      refine g_aload_n (q := 27) C dX3_read_26 rfl rfl ?_
      refine g_iconst (v := 1) (q := 28) C dX3_read_27 (by decide) rfl ?_
      obtain ⟨l1, g1, -⟩ := tyRow HJ20 hk0
      refine g_callVip (q := 31) (As := [.int 1]) C gyX4_at gvX4_at t_521 (tX4_at HJ20 hk0) dX3_read_28 rfl g1.obj rfl rfl rfl (Nat.le_of_ble_eq_true rfl) (Nat.le_of_ble_eq_true rfl) (Nat.le_of_ble_eq_true rfl) (Nat.le_of_ble_eq_true rfl) (Nat.le_of_ble_eq_true rfl) rfl (fun x2 h2 q2 => ?_)
      subst q2
      refine g_bipush (v := 15) (q := 33) C dX3_read_31 (by decide) rfl ?_
      refine g_iand (q := 34) C dX3_read_33 rfl ?_
      obtain ⟨x0_3, x1_3, x2_3, x3_3, x4_3, x5_3, x6_3, x8_3, x9_3, x10_3, o3, e3_0⟩ := tyG3 HJ20 hk
      refine g_callVip (q := 37) (As := [.ref a0, .int (x2 &&& 15)]) C gyX3_readTail gvX3_readTail t_555 (tX3_readTail HJ20 hk hk0) dX3_read_34 rfl o3 rfl rfl rfl (Nat.le_of_ble_eq_true rfl) (Nat.le_of_ble_eq_true rfl) (Nat.le_of_ble_eq_true rfl) (Nat.le_of_ble_eq_true rfl) (Nat.le_of_ble_eq_true rfl) rfl (fun x4 h4 q4 => ?_)
      have H4 := q4
      refine g_istore_n (q := 38) C dX3_read_37 (Nat.le_of_ble_eq_true rfl) (by simp only [gset]; rfl) rfl ?_
      exact J_38 _ _  H4
  refine g_aload_n (q := 1) C dX3_read_0 rfl rfl ?_
  obtain ⟨x0_5, x1_5, x2_5, x3_5, x4_5, x5_5, x6_5, x8_5, x9_5, x10_5, o5, e5_0⟩ := tyG3 H hk
  refine g_callVvp (q := 4) (As := []) C gyX3_clear gvX3_clear t_508 (tX3_clear H hk) dX3_read_1 rfl o5 rfl rfl rfl (Nat.le_of_ble_eq_true rfl) (Nat.le_of_ble_eq_true rfl) (Nat.le_of_ble_eq_true rfl) (Nat.le_of_ble_eq_true rfl) (Nat.le_of_ble_eq_true rfl) rfl (fun h6 q6 => ?_)
  have H6 := q6
  refine g_aload_n (q := 5) C dX3_read_4 rfl rfl ?_
  refine g_aload_n (q := 6) C dX3_read_5 rfl rfl ?_
  obtain ⟨x0_7, x1_7, x2_7, x3_7, x4_7, x5_7, x6_7, x8_7, x9_7, x10_7, o7, e7_0⟩ := tyG3 H6 hk
  refine g_callVip (q := 9) (As := [.ref a0]) C gyX3_readHead gvX3_readHead t_513 (tX3_readHead H6 hk hk0) dX3_read_6 rfl o7 rfl rfl rfl (Nat.le_of_ble_eq_true rfl) (Nat.le_of_ble_eq_true rfl) (Nat.le_of_ble_eq_true rfl) (Nat.le_of_ble_eq_true rfl) (Nat.le_of_ble_eq_true rfl) rfl (fun x8 h8 q8 => ?_)
  have H8 := q8
  refine g_istore_n (q := 10) C dX3_read_9 (Nat.le_of_ble_eq_true rfl) (by simp only [gset]; rfl) rfl ?_
  refine g_iload_n (q := 11) C dX3_read_10 rfl rfl ?_
  refine g_if_ne (t := 20) (q := 14) C dX3_read_11 (by decide) rfl (fun c_11 => ?_) (fun c_11 => ?_)
  ·
    exact J_20 _ _  H8
  ·
    refine g_aload_n (q := 15) C dX3_read_14 rfl rfl ?_
    refine g_aload_n (q := 16) C dX3_read_15 rfl rfl ?_
    obtain ⟨x0_9, x1_9, x2_9, x3_9, x4_9, x5_9, x6_9, x8_9, x9_9, x10_9, o9, e9_0⟩ := tyG3 H8 hk
    refine g_callVip (q := 19) (As := [.ref a0]) C gyX3_readGroups gvX3_readGroups t_525 (tX3_readGroups H8 hk hk0) dX3_read_16 rfl o9 rfl rfl rfl (Nat.le_of_ble_eq_true rfl) (Nat.le_of_ble_eq_true rfl) (Nat.le_of_ble_eq_true rfl) (Nat.le_of_ble_eq_true rfl) (Nat.le_of_ble_eq_true rfl) rfl (fun x10 h10 q10 => ?_)
    have H10 := q10
    refine g_istore_n (q := 20) C dX3_read_19 (Nat.le_of_ble_eq_true rfl) (by simp only [gset]; rfl) rfl ?_
    exact J_20 _ _  H10
theorem dX3_tell_0 : decode cX3_tell 0 = .ok (.iload_n 1, 1) := by decide +kernel
theorem dX3_tell_1 : decode cX3_tell 1 = .ok (.tableswitch 113 0 8 #[51, 56, 64, 72, 77, 82, 87, 95, 100], 51) := by decide +kernel
theorem dX3_tell_52 : decode cX3_tell 52 = .ok (.aload_n 0, 1) := by decide +kernel
theorem dX3_tell_53 : decode cX3_tell 53 = .ok (.getfield 73, 3) := by decide +kernel
theorem dX3_tell_56 : decode cX3_tell 56 = .ok (.ireturn, 1) := by decide +kernel
theorem dX3_tell_57 : decode cX3_tell 57 = .ok (.aload_n 0, 1) := by decide +kernel
theorem dX3_tell_58 : decode cX3_tell 58 = .ok (.getfield 38, 3) := by decide +kernel
theorem dX3_tell_61 : decode cX3_tell 61 = .ok (.invokestatic 95, 3) := by decide +kernel
theorem dX3_tell_64 : decode cX3_tell 64 = .ok (.ireturn, 1) := by decide +kernel
theorem dX3_tell_65 : decode cX3_tell 65 = .ok (.aload_n 0, 1) := by decide +kernel
theorem dX3_tell_66 : decode cX3_tell 66 = .ok (.getfield 38, 3) := by decide +kernel
theorem dX3_tell_69 : decode cX3_tell 69 = .ok (.invokestatic 98, 3) := by decide +kernel
theorem dX3_tell_72 : decode cX3_tell 72 = .ok (.ireturn, 1) := by decide +kernel
theorem dX3_tell_73 : decode cX3_tell 73 = .ok (.aload_n 0, 1) := by decide +kernel
theorem dX3_tell_74 : decode cX3_tell 74 = .ok (.getfield 42, 3) := by decide +kernel
theorem dX3_tell_77 : decode cX3_tell 77 = .ok (.ireturn, 1) := by decide +kernel
theorem dX3_tell_78 : decode cX3_tell 78 = .ok (.aload_n 0, 1) := by decide +kernel
theorem dX3_tell_79 : decode cX3_tell 79 = .ok (.getfield 45, 3) := by decide +kernel
theorem dX3_tell_82 : decode cX3_tell 82 = .ok (.ireturn, 1) := by decide +kernel
theorem dX3_tell_83 : decode cX3_tell 83 = .ok (.aload_n 0, 1) := by decide +kernel
theorem dX3_tell_84 : decode cX3_tell 84 = .ok (.getfield 48, 3) := by decide +kernel
theorem dX3_tell_87 : decode cX3_tell 87 = .ok (.ireturn, 1) := by decide +kernel
theorem dX3_tell_88 : decode cX3_tell 88 = .ok (.aload_n 0, 1) := by decide +kernel
theorem dX3_tell_89 : decode cX3_tell 89 = .ok (.getfield 14, 3) := by decide +kernel
theorem dX3_tell_92 : decode cX3_tell 92 = .ok (.invokevirtual 65, 3) := by decide +kernel
theorem dX3_tell_95 : decode cX3_tell 95 = .ok (.ireturn, 1) := by decide +kernel
theorem dX3_tell_96 : decode cX3_tell 96 = .ok (.aload_n 0, 1) := by decide +kernel
theorem dX3_tell_97 : decode cX3_tell 97 = .ok (.getfield 51, 3) := by decide +kernel
theorem dX3_tell_100 : decode cX3_tell 100 = .ok (.ireturn, 1) := by decide +kernel
theorem dX3_tell_101 : decode cX3_tell 101 = .ok (.aload_n 0, 1) := by decide +kernel
theorem dX3_tell_102 : decode cX3_tell 102 = .ok (.getfield 54, 3) := by decide +kernel
theorem dX3_tell_105 : decode cX3_tell 105 = .ok (.ifCond .eq 7, 3) := by decide +kernel
theorem dX3_tell_108 : decode cX3_tell 108 = .ok (.iconst 1, 1) := by decide +kernel
theorem dX3_tell_109 : decode cX3_tell 109 = .ok (.goto 4, 3) := by decide +kernel
theorem dX3_tell_112 : decode cX3_tell 112 = .ok (.iconst 0, 1) := by decide +kernel
theorem dX3_tell_113 : decode cX3_tell 113 = .ok (.ireturn, 1) := by decide +kernel
theorem dX3_tell_114 : decode cX3_tell 114 = .ok (.iconst (-1), 1) := by decide +kernel
theorem dX3_tell_115 : decode cX3_tell 115 = .ok (.ireturn, 1) := by decide +kernel
set_option maxRecDepth 100000 in
set_option maxHeartbeats 4000000 in
theorem tX3_tell {T R : Nat} {J : Nat → Prop} {Bc Bs : Nat} {M : gMd} {z : Nat → Nat} {hp : List gA} {o : Nat} {a0 : Int32}  (H : tyS T R J Bc Bs M z hp) (hk : tyK o = (9, 0))  : gM yX3_tell cX3_tell 2 ((some .int)) 1 21 [.ref o, .int a0] (hp) (0) (0) (fun v h => ∃ x, v = some (.int x) ∧ tyS T R J Bc Bs M z h) := by
  refine gM_of (ls0 := [some (.ref o), some (.int a0)]) (by decide +kernel) (Nat.le_of_ble_eq_true rfl) rfl fun X C E => ?_
  refine g_iload_n (q := 1) C dX3_tell_0 rfl rfl ?_
  -- switch
  by_cases c_1_0 : a0 = 0
  · subst c_1_0
    refine g_tableIn (off := 51) (t := 52) C dX3_tell_1 (by decide) (by decide) (by decide) (by decide) ?_
    refine g_aload_n (q := 53) C dX3_tell_52 rfl rfl ?_
    obtain ⟨x0_1, x1_1, x2_1, x3_1, x4_1, x5_1, x6_1, x8_1, x9_1, x10_1, o1, e1_0⟩ := tyG3 H hk
    refine g_getfield (v := .int x0_1) (q := 56) C fX3_73 dX3_tell_53 rfl o1 rfl ?_
    exact E.1 _ _ _ _ _ _ _ dX3_tell_56 rfl rfl (Nat.le_of_ble_eq_true rfl) (Nat.le_of_ble_eq_true rfl) ⟨_, rfl, H⟩
  by_cases c_1_1 : a0 = 1
  · subst c_1_1
    refine g_tableIn (off := 56) (t := 57) C dX3_tell_1 (by decide) (by decide) (by decide) (by decide) ?_
    refine g_aload_n (q := 58) C dX3_tell_57 rfl rfl ?_
    obtain ⟨x0_2, x1_2, x2_2, x3_2, x4_2, x5_2, x6_2, x8_2, x9_2, x10_2, o2, e2_0⟩ := tyG3 H hk
    refine g_getfield (v := .int x1_2) (q := 61) C fX3_38 dX3_tell_58 rfl o2 rfl ?_
    refine g_callSip (q := 64) (As := [.int x1_2]) C gyX3_clockOf t_542 t_541 (tX3_clockOf H) dX3_tell_61 rfl rfl rfl (Nat.le_of_ble_eq_true rfl) (Nat.le_of_ble_eq_true rfl) (Nat.le_of_ble_eq_true rfl) (Nat.le_of_ble_eq_true rfl) (Nat.le_of_ble_eq_true rfl) rfl (fun x3 h3 q3 => ?_)
    have H3 := q3
    exact E.1 _ _ _ _ _ _ _ dX3_tell_64 rfl rfl (Nat.le_of_ble_eq_true rfl) (Nat.le_of_ble_eq_true rfl) ⟨_, rfl, H3⟩
  by_cases c_1_2 : a0 = 2
  · subst c_1_2
    refine g_tableIn (off := 64) (t := 65) C dX3_tell_1 (by decide) (by decide) (by decide) (by decide) ?_
    refine g_aload_n (q := 66) C dX3_tell_65 rfl rfl ?_
    obtain ⟨x0_4, x1_4, x2_4, x3_4, x4_4, x5_4, x6_4, x8_4, x9_4, x10_4, o4, e4_0⟩ := tyG3 H hk
    refine g_getfield (v := .int x1_4) (q := 69) C fX3_38 dX3_tell_66 rfl o4 rfl ?_
    refine g_callSip (q := 72) (As := [.int x1_4]) C gyX3_divisorOf t_547 t_546 (tX3_divisorOf H) dX3_tell_69 rfl rfl rfl (Nat.le_of_ble_eq_true rfl) (Nat.le_of_ble_eq_true rfl) (Nat.le_of_ble_eq_true rfl) (Nat.le_of_ble_eq_true rfl) (Nat.le_of_ble_eq_true rfl) rfl (fun x5 h5 q5 => ?_)
    have H5 := q5
    exact E.1 _ _ _ _ _ _ _ dX3_tell_72 rfl rfl (Nat.le_of_ble_eq_true rfl) (Nat.le_of_ble_eq_true rfl) ⟨_, rfl, H5⟩
  by_cases c_1_3 : a0 = 3
  · subst c_1_3
    refine g_tableIn (off := 72) (t := 73) C dX3_tell_1 (by decide) (by decide) (by decide) (by decide) ?_
    refine g_aload_n (q := 74) C dX3_tell_73 rfl rfl ?_
    obtain ⟨x0_6, x1_6, x2_6, x3_6, x4_6, x5_6, x6_6, x8_6, x9_6, x10_6, o6, e6_0⟩ := tyG3 H hk
    refine g_getfield (v := .int x2_6) (q := 77) C fX3_42 dX3_tell_74 rfl o6 rfl ?_
    exact E.1 _ _ _ _ _ _ _ dX3_tell_77 rfl rfl (Nat.le_of_ble_eq_true rfl) (Nat.le_of_ble_eq_true rfl) ⟨_, rfl, H⟩
  by_cases c_1_4 : a0 = 4
  · subst c_1_4
    refine g_tableIn (off := 77) (t := 78) C dX3_tell_1 (by decide) (by decide) (by decide) (by decide) ?_
    refine g_aload_n (q := 79) C dX3_tell_78 rfl rfl ?_
    obtain ⟨x0_7, x1_7, x2_7, x3_7, x4_7, x5_7, x6_7, x8_7, x9_7, x10_7, o7, e7_0⟩ := tyG3 H hk
    refine g_getfield (v := .int x3_7) (q := 82) C fX3_45 dX3_tell_79 rfl o7 rfl ?_
    exact E.1 _ _ _ _ _ _ _ dX3_tell_82 rfl rfl (Nat.le_of_ble_eq_true rfl) (Nat.le_of_ble_eq_true rfl) ⟨_, rfl, H⟩
  by_cases c_1_5 : a0 = 5
  · subst c_1_5
    refine g_tableIn (off := 82) (t := 83) C dX3_tell_1 (by decide) (by decide) (by decide) (by decide) ?_
    refine g_aload_n (q := 84) C dX3_tell_83 rfl rfl ?_
    obtain ⟨x0_8, x1_8, x2_8, x3_8, x4_8, x5_8, x6_8, x8_8, x9_8, x10_8, o8, e8_0⟩ := tyG3 H hk
    refine g_getfield (v := .int x4_8) (q := 87) C fX3_48 dX3_tell_84 rfl o8 rfl ?_
    exact E.1 _ _ _ _ _ _ _ dX3_tell_87 rfl rfl (Nat.le_of_ble_eq_true rfl) (Nat.le_of_ble_eq_true rfl) ⟨_, rfl, H⟩
  by_cases c_1_6 : a0 = 6
  · subst c_1_6
    refine g_tableIn (off := 87) (t := 88) C dX3_tell_1 (by decide) (by decide) (by decide) (by decide) ?_
    refine g_aload_n (q := 89) C dX3_tell_88 rfl rfl ?_
    obtain ⟨x0_9, x1_9, x2_9, x3_9, x4_9, x5_9, x6_9, x8_9, x9_9, x10_9, o9, e9_0⟩ := tyG3 H hk
    refine g_getfield (v := .ref ((o + 1))) (q := 92) C fX3_14 dX3_tell_89 rfl o9 rfl ?_
    obtain ⟨l10, g10, -⟩ := tyRow H (tyF3_7 hk)
    refine g_callVip (q := 95) (As := []) C gyX4_size gvX4_size t_517 (tX4_size H (tyF3_7 hk)) dX3_tell_92 rfl g10.obj rfl rfl rfl (Nat.le_of_ble_eq_true rfl) (Nat.le_of_ble_eq_true rfl) (Nat.le_of_ble_eq_true rfl) (Nat.le_of_ble_eq_true rfl) (Nat.le_of_ble_eq_true rfl) rfl (fun x11 h11 q11 => ?_)
    subst q11
    exact E.1 _ _ _ _ _ _ _ dX3_tell_95 rfl rfl (Nat.le_of_ble_eq_true rfl) (Nat.le_of_ble_eq_true rfl) ⟨_, rfl, H⟩
  by_cases c_1_7 : a0 = 7
  · subst c_1_7
    refine g_tableIn (off := 95) (t := 96) C dX3_tell_1 (by decide) (by decide) (by decide) (by decide) ?_
    refine g_aload_n (q := 97) C dX3_tell_96 rfl rfl ?_
    obtain ⟨x0_12, x1_12, x2_12, x3_12, x4_12, x5_12, x6_12, x8_12, x9_12, x10_12, o12, e12_0⟩ := tyG3 H hk
    refine g_getfield (v := .int x5_12) (q := 100) C fX3_51 dX3_tell_97 rfl o12 rfl ?_
    exact E.1 _ _ _ _ _ _ _ dX3_tell_100 rfl rfl (Nat.le_of_ble_eq_true rfl) (Nat.le_of_ble_eq_true rfl) ⟨_, rfl, H⟩
  by_cases c_1_8 : a0 = 8
  · subst c_1_8
    refine g_tableIn (off := 100) (t := 101) C dX3_tell_1 (by decide) (by decide) (by decide) (by decide) ?_
    refine g_aload_n (q := 102) C dX3_tell_101 rfl rfl ?_
    obtain ⟨x0_13, x1_13, x2_13, x3_13, x4_13, x5_13, x6_13, x8_13, x9_13, x10_13, o13, e13_0⟩ := tyG3 H hk
    refine g_getfield (v := .int x6_13) (q := 105) C fX3_54 dX3_tell_102 rfl o13 rfl ?_
    refine g_if_eq (t := 112) (q := 108) C dX3_tell_105 (by decide) rfl (fun c_105 => ?_) (fun c_105 => ?_)
    ·
      refine g_iconst (v := 0) (q := 113) C dX3_tell_112 (by decide) rfl ?_
      exact E.1 _ _ _ _ _ _ _ dX3_tell_113 rfl rfl (Nat.le_of_ble_eq_true rfl) (Nat.le_of_ble_eq_true rfl) ⟨_, rfl, H⟩
    ·
      refine g_iconst (v := 1) (q := 109) C dX3_tell_108 (by decide) rfl ?_
      refine g_goto (q := 113) C dX3_tell_109 (by decide) ?_
      exact E.1 _ _ _ _ _ _ _ dX3_tell_113 rfl rfl (Nat.le_of_ble_eq_true rfl) (Nat.le_of_ble_eq_true rfl) ⟨_, rfl, H⟩
  refine g_tableOut (t := 114) C dX3_tell_1 (gOut9 c_1_0 c_1_1 c_1_2 c_1_3 c_1_4 c_1_5 c_1_6 c_1_7 c_1_8) (by decide) ?_
  refine g_iconst (v := (-1)) (q := 115) C dX3_tell_114 (by decide) rfl ?_
  exact E.1 _ _ _ _ _ _ _ dX3_tell_115 rfl rfl (Nat.le_of_ble_eq_true rfl) (Nat.le_of_ble_eq_true rfl) ⟨_, rfl, H⟩
