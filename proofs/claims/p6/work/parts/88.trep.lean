/-! REPEATS (by program: wip/p2t/m_trep.py, gen6.py) -/
theorem tyPr {X : gX} {pc cl sl : Nat} {ls : List (Option Value)} {st : List Value} {T : tyT} {R R' : Nat} {J : Nat → Prop} {Bc Bs : Nat} {M : gMd} {z : Nat → Nat} {hp : List gA} {a x1 x2 x6 x7 x8 x9 y0 : Int32} (H : tyS T R J Bc Bs M z hp) (he : hp[35]? = some (.inr (.inr (6, [.int y0, .int x1, .int x2, .ref (35 + 1), .ref (35 + 2), .ref (35 + 3), .int x6, .int x7, .int x8, .int x9])))) (ha : a = nI R') (kk : ∀ h, tyS T R' J Bc Bs M z h → gG X pc ls st h cl sl) : gG X pc ls st (hp.set 35 (.inr (.inr (6, [.int a, .int x1, .int x2, .ref (35 + 1), .ref (35 + 2), .ref (35 + 3), .int x6, .int x7, .int x8, .int x9])))) cl sl := by
  subst ha
  exact kk _ (H.rep he)
theorem dX7_repeats_0 : decode cX7_repeats 0 = .ok (.iload_n 1, 1) := by decide +kernel
theorem dX7_repeats_1 : decode cX7_repeats 1 = .ok (.ifCond .lt 8, 3) := by decide +kernel
theorem dX7_repeats_4 : decode cX7_repeats 4 = .ok (.iload_n 1, 1) := by decide +kernel
theorem dX7_repeats_5 : decode cX7_repeats 5 = .ok (.iconst 3, 1) := by decide +kernel
theorem dX7_repeats_6 : decode cX7_repeats 6 = .ok (.if_icmp .le 5, 3) := by decide +kernel
theorem dX7_repeats_9 : decode cX7_repeats 9 = .ok (.iconst (-1), 1) := by decide +kernel
theorem dX7_repeats_10 : decode cX7_repeats 10 = .ok (.ireturn, 1) := by decide +kernel
theorem dX7_repeats_11 : decode cX7_repeats 11 = .ok (.aload_n 0, 1) := by decide +kernel
theorem dX7_repeats_12 : decode cX7_repeats 12 = .ok (.getfield 30, 3) := by decide +kernel
theorem dX7_repeats_15 : decode cX7_repeats 15 = .ok (.getfield 114, 3) := by decide +kernel
theorem dX7_repeats_18 : decode cX7_repeats 18 = .ok (.getfield 130, 3) := by decide +kernel
theorem dX7_repeats_21 : decode cX7_repeats 21 = .ok (.istore_n 2, 1) := by decide +kernel
theorem dX7_repeats_22 : decode cX7_repeats 22 = .ok (.aload_n 0, 1) := by decide +kernel
theorem dX7_repeats_23 : decode cX7_repeats 23 = .ok (.getfield 30, 3) := by decide +kernel
theorem dX7_repeats_26 : decode cX7_repeats 26 = .ok (.getfield 114, 3) := by decide +kernel
theorem dX7_repeats_29 : decode cX7_repeats 29 = .ok (.iload_n 1, 1) := by decide +kernel
theorem dX7_repeats_30 : decode cX7_repeats 30 = .ok (.putfield 130, 3) := by decide +kernel
theorem dX7_repeats_33 : decode cX7_repeats 33 = .ok (.aload_n 0, 1) := by decide +kernel
theorem dX7_repeats_34 : decode cX7_repeats 34 = .ok (.getfield 37, 3) := by decide +kernel
theorem dX7_repeats_37 : decode cX7_repeats 37 = .ok (.invokevirtual 83, 3) := by decide +kernel
theorem dX7_repeats_40 : decode cX7_repeats 40 = .ok (.iload_n 2, 1) := by decide +kernel
theorem dX7_repeats_41 : decode cX7_repeats 41 = .ok (.ireturn, 1) := by decide +kernel
set_option maxRecDepth 100000 in
set_option maxHeartbeats 4000000 in
theorem tX7_repeats {T : tyT} {R : Nat} {J : Nat → Prop} {Bc Bs : Nat} {M : gMd} {z : Nat → Nat} {hp : List gA} {a0 : Int32}  (H : tyS T R J Bc Bs M z hp)  : gM yX7_repeats cX7_repeats 3 ((some .int)) 2 43 [.ref 0, .int a0] (hp) (0) (0) (fun v h => ∃ x, v = some (.int x) ∧ ((¬ gIr a0 3 ∧ x = -1 ∧ tyS T R J Bc Bs M z h) ∨ (gIr a0 3 ∧ x = nI R ∧ ∃ R', a0 = nI R' ∧ tyS T R' J Bc Bs M z h))) := by
  refine gM_of (ls0 := [some (.ref 0), some (.int a0), none]) (by decide +kernel) (Nat.le_of_ble_eq_true rfl) rfl fun X C E => ?_
  refine g_iload_n (q := 1) C dX7_repeats_0 rfl rfl ?_
  refine g_if_lt (t := 9) (q := 4) C dX7_repeats_1 (by decide) rfl (fun c_1 => ?_) (fun c_1 => ?_)
  ·
    have i_1 := Int32.lt_iff_toInt_lt.mp c_1
    refine g_iconst (v := (-1)) (q := 10) C dX7_repeats_9 (by decide) rfl ?_
    exact E.1 _ _ _ _ _ _ _ dX7_repeats_10 rfl rfl (Nat.le_of_ble_eq_true rfl) (Nat.le_of_ble_eq_true rfl) ⟨_, rfl, Or.inl ⟨(fun ⟨n, hn, e⟩ => by have e2 : a0.toInt = n := (by rw [e]; exact nI_toInt (by omega)); have k0 : (0 : Int32).toInt = 0 := (by decide); have k3 : (3 : Int32).toInt = 3 := (by decide); omega), rfl, H⟩⟩
  ·
    have i_1 := mt Int32.lt_iff_toInt_lt.mpr c_1
    refine g_iload_n (q := 5) C dX7_repeats_4 rfl rfl ?_
    refine g_iconst (v := 3) (q := 6) C dX7_repeats_5 (by decide) rfl ?_
    refine g_icmp_le (t := 11) (q := 9) C dX7_repeats_6 (by decide) rfl (fun c_6 => ?_) (fun c_6 => ?_)
    ·
      have i_6 := Int32.le_iff_toInt_le.mp c_6
      have hg := gcl c_1
      have k3 : (3 : Int32).toInt = 3 := by decide
      have hr2 : a0 = nI a0.toNatClampNeg := Int32.toInt_inj.mp (by rw [nI_toInt (by omega)]; exact hg.symm)
      have hr3 : gIr a0 3 := ⟨a0.toNatClampNeg, by omega, hr2⟩
      refine g_aload_n (q := 12) C dX7_repeats_11 rfl rfl ?_
      obtain ⟨x6_1, q4_1, q5_1, o1, e1_0, e1_1, e1_2⟩ := tyG7 H (rfl : tyK 0 = (0, 0))
      refine g_getfield (v := .ref 20) (q := 15) C fX7_30 dX7_repeats_12 rfl o1 rfl ?_
      obtain ⟨x3_2, x4_2, x5_2, x6_2, x7_2, x11_2, x12_2, x13_2, x14_2, x15_2, x16_2, x17_2, jv_2, o2, e2_0, e2_1, e2_2, e2_3⟩ := tyG2 H (rfl : tyK 20 = (7, 0))
      refine g_getfieldW (v := .ref ((20 + 15))) (q := 18) C fX7_114 dX7_repeats_15 rfl o2 rfl ?_
      obtain ⟨x0_3, x1_3, x2_3, x6_3, x7_3, x8_3, x9_3, o3, e3_0⟩ := tyG6 H (tyF2_2 (rfl : tyK 20 = (7, 0)))
      refine g_getfield (v := .int x0_3) (q := 21) C fX7_130 dX7_repeats_18 rfl o3 rfl ?_
      refine g_istore_n (q := 22) C dX7_repeats_21 (Nat.le_of_ble_eq_true rfl) (by simp only [gset]; rfl) rfl ?_
      refine g_aload_n (q := 23) C dX7_repeats_22 rfl rfl ?_
      refine g_getfield (v := .ref 20) (q := 26) C fX7_30 dX7_repeats_23 rfl o1 rfl ?_
      refine g_getfieldW (v := .ref ((20 + 15))) (q := 29) C fX7_114 dX7_repeats_26 rfl o2 rfl ?_
      refine g_iload_n (q := 30) C dX7_repeats_29 rfl rfl ?_
      refine g_putfield (q := 33) C fX7_130 dX7_repeats_30 rfl o3 (Nat.le_of_ble_eq_true rfl) (Or.inl rfl) rfl rfl (by intro z h; cases h) ?_
      refine tyPr (R' := a0.toNatClampNeg) H o3 hr2 (fun h4 H4 => ?_)
      refine g_aload_n (q := 34) C dX7_repeats_33 rfl rfl ?_
      obtain ⟨x6_5, q4_5, q5_5, o5, e5_0, e5_1, e5_2⟩ := tyG7 H4 (rfl : tyK 0 = (0, 0))
      refine g_getfield (v := .ref 43) (q := 37) C fX7_37 dX7_repeats_34 rfl o5 rfl ?_
      obtain ⟨x3_6, o6, e6_0⟩ := tyG0 H4 (rfl : tyK 43 = (8, 0))
      refine g_callVvp (q := 40) (As := []) C gyX0_forget gvX0_forget t_587 (tX0_forget H4) dX7_repeats_37 rfl o6 rfl rfl rfl (Nat.le_of_ble_eq_true rfl) (Nat.le_of_ble_eq_true rfl) (Nat.le_of_ble_eq_true rfl) (Nat.le_of_ble_eq_true rfl) (Nat.le_of_ble_eq_true rfl) rfl (fun h7 q7 => ?_)
      have H7 := q7
      refine g_iload_n (q := 41) C dX7_repeats_40 rfl rfl ?_
      exact E.1 _ _ _ _ _ _ _ dX7_repeats_41 rfl rfl (Nat.le_of_ble_eq_true rfl) (Nat.le_of_ble_eq_true rfl) ⟨_, rfl, Or.inr ⟨hr3, e3_0 rfl, _, hr2, H7⟩⟩
    ·
      have i_6 := mt Int32.le_iff_toInt_le.mpr c_6
      refine g_iconst (v := (-1)) (q := 10) C dX7_repeats_9 (by decide) rfl ?_
      exact E.1 _ _ _ _ _ _ _ dX7_repeats_10 rfl rfl (Nat.le_of_ble_eq_true rfl) (Nat.le_of_ble_eq_true rfl) ⟨_, rfl, Or.inl ⟨(fun ⟨n, hn, e⟩ => by have e2 : a0.toInt = n := (by rw [e]; exact nI_toInt (by omega)); have k0 : (0 : Int32).toInt = 0 := (by decide); have k3 : (3 : Int32).toInt = 3 := (by decide); omega), rfl, H⟩⟩
