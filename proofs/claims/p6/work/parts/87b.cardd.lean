set_option maxRecDepth 100000 in
set_option maxHeartbeats 4000000 in
theorem tX7_reset_b {T : tyT} {R : Nat} {J : Nat → Prop} {Bc Bs : Nat} {M : gMd} {z : Nat → Nat} {hp : List gA} (H : tyS T R J Bc Bs M z hp) (hfo : T.fo = 119) (hsp : T.sp = 116) : gM yX7_reset cX7_reset 3 ((some .int)) 5 149 [.ref 0] (hp) (0) (0) (fun v h => ∃ x, v = some (.int x) ∧ ∃ Q : rq, (¬ (rRd Q T.tp).1 = 0 ∧ x = -2 - (rRd Q T.tp).1 ∧ tyS (T.stp []) R J Bc Bs M z h) ∨ ((rRd Q T.tp).1 = 0 ∧ x = nI (rRd Q T.tp).2.2.length ∧ tyS (([], ((116, (119, 1)), ((rRd Q T.tp).2.1, (rRd Q T.tp).2.2))) : tyT) R J Bc Bs M z h)) := by
  refine gM_of (ls0 := [some (.ref 0), none, none]) (by decide +kernel) (Nat.le_of_ble_eq_true rfl) rfl fun X C E => ?_
  refine g_aload_n (q := 1) C dX7_reset_0 rfl rfl ?_
  obtain ⟨x6_1, q4_1, q5_1, o1, e1_0, -, -, ec, ef, es⟩ := tyG7x H (rfl : tyK 0 = (0, 0))
  obtain rfl : q4_1 = 119 := ef.trans hfo
  obtain rfl : q5_1 = 116 := es.trans hsp
  refine g_getfield (v := .ref 116) (q := 4) C fX7_48 dX7_reset_1 rfl o1 rfl ?_
  refine g_aload_n (q := 5) C dX7_reset_4 rfl rfl ?_
  refine g_getfield (v := .ref 1) (q := 8) C fX7_14 dX7_reset_5 rfl o1 rfl ?_
  obtain ⟨Q, l, HQ, -, -⟩ := tyRq H (rfl : tyK 116 = (9, 0))
  obtain ⟨lt, gt, wt⟩ := tyRow H (rfl : tyK 1 = (1, 96))
  obtain rfl : lt = T.tp := wt.1 rfl
  refine g_callVix (x := (rRd Q T.tp).1) (q := 11) (As := [.ref 1]) C gyX3_read gvX3_read t_504 (c_X3_read_116 HQ gt) dX7_reset_8 rfl HQ.1 rfl rfl rfl (Nat.le_of_ble_eq_true rfl) (Nat.le_of_ble_eq_true rfl) (Nat.le_of_ble_eq_true rfl) (Nat.le_of_ble_eq_true rfl) (Nat.le_of_ble_eq_true rfl) rfl (fun h3 q3 => ?_)
  obtain ⟨HQ3, F3⟩ := q3
  have H3 : tyS T R J Bc Bs M z h3 := H.spare (rfl : tyK 116 = (9, 0)) (by rw [hfo]; decide) HQ3 F3 rRd6
  refine g_istore_n (q := 12) C dX7_reset_11 (Nat.le_of_ble_eq_true rfl) (by simp only [gset]; rfl) rfl ?_
  refine g_aload_n (q := 13) C dX7_reset_12 rfl rfl ?_
  obtain ⟨x6_4, q4_4, q5_4, o4, -, -, -⟩ := tyG7 H3 (rfl : tyK 0 = (0, 0))
  refine g_getfield (v := .ref 1) (q := 16) C fX7_14 dX7_reset_13 rfl o4 rfl ?_
  refine g_iconst (v := 0) (q := 17) C dX7_reset_16 (by decide) rfl ?_
  obtain ⟨l5, g5, -⟩ := tyRow H3 (rfl : tyK 1 = (1, 96))
  have kk : gM yX4_keep cX4_keep 2 (none) 1 21 [.ref 1, .int 0] h3 0 0 (fun v h => v = none ∧ (tyS (T.stp []) R J Bc Bs M z h ∧ rqH h 116 (rRd Q T.tp).2.1 (rRd Q T.tp).2.2)) :=
    (c_X4_keep_w (k := 0) g5 (by decide)).mp fun v h q => by
      obtain ⟨rfl, q1, q2⟩ := q
      rw [List.take_zero] at q1
      exact ⟨rfl, H3.tape q1 q2, (q2 116 (by decide) (by decide)).trans HQ3.1, HQ3.2.kept (q2 _ (by decide) (by decide)) (q2 _ (by decide) (by decide))⟩
  refine g_callVvp (q := 20) (As := [.int 0]) C gyX4_keep gvX4_keep t_496 kk dX7_reset_17 rfl g5.obj rfl rfl rfl (Nat.le_of_ble_eq_true rfl) (Nat.le_of_ble_eq_true rfl) (Nat.le_of_ble_eq_true rfl) (Nat.le_of_ble_eq_true rfl) (Nat.le_of_ble_eq_true rfl) rfl (fun h6 q6 => ?_)
  obtain ⟨H6, HQ6⟩ := q6
  refine g_iload_n (q := 21) C dX7_reset_20 rfl rfl ?_
  refine g_if_eq (t := 29) (q := 24) C dX7_reset_21 (by decide) rfl (fun c_21 => ?_) (fun c_21 => ?_)
  · refine g_aload_n (q := 30) C dX7_reset_29 rfl rfl ?_
    obtain ⟨x6_7, q4_7, q5_7, o7, e7_0, -, -, ec7, ef7, es7⟩ := tyG7x H6 (rfl : tyK 0 = (0, 0))
    obtain rfl : q4_7 = 119 := ef7.trans hfo
    obtain rfl : q5_7 = 116 := es7.trans hsp
    refine g_getfield (v := .ref 119) (q := 33) C fX7_44 dX7_reset_30 rfl o7 rfl ?_
    refine g_astore_n (q := 34) C dX7_reset_33 (Nat.le_of_ble_eq_true rfl) (by simp only [gset]; rfl) rfl ?_
    refine g_aload_n (q := 35) C dX7_reset_34 rfl rfl ?_
    refine g_aload_n (q := 36) C dX7_reset_35 rfl rfl ?_
    refine g_getfield (v := .ref 116) (q := 39) C fX7_48 dX7_reset_36 rfl o7 rfl ?_
    refine g_putfield (q := 42) C fX7_44 dX7_reset_39 rfl o7 (Nat.le_of_ble_eq_true rfl) (Or.inl rfl) rfl rfl (by intro z h; cases h) ?_
    obtain ⟨h8, H8, o8, HQ8, k8⟩ : ∃ h8, tyS (([], ((116, (116, x6_7)), ((rRd Q T.tp).2.1, (rRd Q T.tp).2.2))) : tyT) R J Bc Bs M z h8 ∧ h8[0]? = some (.inr (.inr (7, [.ref 1, .ref 3, .ref 20, .ref 43, .ref 116, .ref 116, .int x6_7]))) ∧ rqH h8 116 (rRd Q T.tp).2.1 (rRd Q T.tp).2.2 ∧ h8 = h6.set 0 (.inr (.inr (7, [.ref 1, .ref 3, .ref 20, .ref 43, .ref 116, .ref 116, .int x6_7]))) :=
      ⟨_, H6.card (T' := (([], ((116, (116, x6_7)), ((rRd Q T.tp).2.1, (rRd Q T.tp).2.2))) : tyT)) rfl ⟨rfl, rfl, rfl⟩ e7_0 (by first | exact Or.inl rfl | exact Or.inr rfl) (by first | exact Or.inl rfl | exact Or.inr rfl) HQ6 (fun _ _ => rfl) rfl o7, gset_self o7, ⟨(List.getElem?_set_ne (by decide)).trans HQ6.1, HQ6.2.kept (List.getElem?_set_ne (by decide)) (List.getElem?_set_ne (by decide))⟩, rfl⟩
    refine g_heap (hp2 := h8) k8.symm ?_
    refine g_aload_n (q := 43) C dX7_reset_42 rfl rfl ?_
    refine g_aload_n (q := 44) C dX7_reset_43 rfl rfl ?_
    refine g_putfield (q := 47) C fX7_48 dX7_reset_44 rfl o8 (Nat.le_of_ble_eq_true rfl) (Or.inl rfl) rfl rfl (by intro z h; cases h) ?_
    obtain ⟨h10, H10, o10, HQ10, k10⟩ : ∃ h10, tyS (([], ((116, (119, x6_7)), ((rRd Q T.tp).2.1, (rRd Q T.tp).2.2))) : tyT) R J Bc Bs M z h10 ∧ h10[0]? = some (.inr (.inr (7, [.ref 1, .ref 3, .ref 20, .ref 43, .ref 116, .ref 119, .int x6_7]))) ∧ rqH h10 116 (rRd Q T.tp).2.1 (rRd Q T.tp).2.2 ∧ h10 = h8.set 0 (.inr (.inr (7, [.ref 1, .ref 3, .ref 20, .ref 43, .ref 116, .ref 119, .int x6_7]))) :=
      ⟨_, H8.card (T' := (([], ((116, (119, x6_7)), ((rRd Q T.tp).2.1, (rRd Q T.tp).2.2))) : tyT)) rfl ⟨rfl, rfl, rfl⟩ e7_0 (by first | exact Or.inl rfl | exact Or.inr rfl) (by first | exact Or.inl rfl | exact Or.inr rfl) HQ8 (fun _ _ => rfl) rfl o8, gset_self o8, ⟨(List.getElem?_set_ne (by decide)).trans HQ8.1, HQ8.2.kept (List.getElem?_set_ne (by decide)) (List.getElem?_set_ne (by decide))⟩, rfl⟩
    refine g_heap (hp2 := h10) k10.symm ?_
    refine g_aload_n (q := 48) C dX7_reset_47 rfl rfl ?_
    refine g_iconst (v := 1) (q := 49) C dX7_reset_48 (by decide) rfl ?_
    refine g_putfield (q := 52) C fX7_51 dX7_reset_49 rfl o10 (Nat.le_of_ble_eq_true rfl) (Or.inl rfl) (tyNar (Or.inr rfl)) (tyFit (Or.inr rfl)) (by intro z h; cases h) ?_
    obtain ⟨h12, H12, k12⟩ : ∃ h12, tyS (([], ((116, (119, 1)), ((rRd Q T.tp).2.1, (rRd Q T.tp).2.2))) : tyT) R J Bc Bs M z h12 ∧ h12 = h10.set 0 (.inr (.inr (7, [.ref 1, .ref 3, .ref 20, .ref 43, .ref 116, .ref 119, .int 1]))) :=
      ⟨_, H10.card (T' := (([], ((116, (119, 1)), ((rRd Q T.tp).2.1, (rRd Q T.tp).2.2))) : tyT)) rfl ⟨rfl, rfl, rfl⟩ (Or.inr rfl) (by first | exact Or.inl rfl | exact Or.inr rfl) (by first | exact Or.inl rfl | exact Or.inr rfl) HQ10 (fun _ _ => rfl) rfl o10, rfl⟩
    refine g_heap (hp2 := h12) k12.symm ?_
    refine g_aload_n (q := 53) C dX7_reset_52 rfl rfl ?_
    obtain ⟨x6_13, q4_13, q5_13, o13, -, -, -⟩ := tyG7 H12 (rfl : tyK 0 = (0, 0))
    refine g_getfield (v := .ref 3) (q := 56) C fX7_21 dX7_reset_53 rfl o13 rfl ?_
    obtain ⟨x8_14, o14⟩ := tyG1 H12 (rfl : tyK 3 = (3, 0))
    refine g_callVvp (q := 59) (As := []) C gyX1_forgetAll gvX1_forgetAll t_560 (tX1_forgetAll H12) dX7_reset_56 rfl o14 rfl rfl rfl (Nat.le_of_ble_eq_true rfl) (Nat.le_of_ble_eq_true rfl) (Nat.le_of_ble_eq_true rfl) (Nat.le_of_ble_eq_true rfl) (Nat.le_of_ble_eq_true rfl) rfl (fun h15 H15 => ?_)
    refine g_aload_n (q := 60) C dX7_reset_59 rfl rfl ?_
    obtain ⟨x6_16, q4_16, q5_16, o16, -, -, -, -, ef16, -⟩ := tyG7x H15 (rfl : tyK 0 = (0, 0))
    obtain rfl : q4_16 = 116 := ef16
    refine g_getfield (v := .ref 20) (q := 63) C fX7_30 dX7_reset_60 rfl o16 rfl ?_
    refine g_aload_n (q := 64) C dX7_reset_63 rfl rfl ?_
    refine g_getfield (v := .ref 116) (q := 67) C fX7_44 dX7_reset_64 rfl o16 rfl ?_
    obtain ⟨Q17, l17, HQ17, -, -⟩ := tyRq H15 (rfl : tyK 116 = (9, 0))
    refine g_callVi (q := 70) (As := []) C gyX3_cardRoom gvX3_cardRoom t_565 (c_X3_cardRoom_116 HQ17) dX7_reset_67 rfl HQ17.1 rfl rfl rfl (Nat.le_of_ble_eq_true rfl) (Nat.le_of_ble_eq_true rfl) (Nat.le_of_ble_eq_true rfl) (Nat.le_of_ble_eq_true rfl) (Nat.le_of_ble_eq_true rfl) rfl ?_
    obtain ⟨x3_19, x4_19, x5_19, x6_19, x7_19, x11_19, x12_19, x13_19, x14_19, x15_19, x16_19, x17_19, jv_19, o19, -, -, -, -⟩ := tyG2 H15 (rfl : tyK 20 = (7, 0))
    refine g_callVvp (q := 73) (As := [.int _]) C gyX2_restart gvX2_restart t_569 (tX2_restart H15 (rfl : tyK 20 = (7, 0))) dX7_reset_70 rfl o19 rfl rfl rfl (Nat.le_of_ble_eq_true rfl) (Nat.le_of_ble_eq_true rfl) (Nat.le_of_ble_eq_true rfl) (Nat.le_of_ble_eq_true rfl) (Nat.le_of_ble_eq_true rfl) rfl (fun h20 H20 => ?_)
    refine g_aload_n (q := 74) C dX7_reset_73 rfl rfl ?_
    obtain ⟨x6_21, q4_21, q5_21, o21, -, -, -⟩ := tyG7 H20 (rfl : tyK 0 = (0, 0))
    refine g_getfield (v := .ref 43) (q := 77) C fX7_37 dX7_reset_74 rfl o21 rfl ?_
    obtain ⟨x3_22, o22, -⟩ := tyG0 H20 (rfl : tyK 43 = (8, 0))
    refine g_callVvp (q := 80) (As := []) C gyX0_forget gvX0_forget t_587 (tX0_forget H20) dX7_reset_77 rfl o22 rfl rfl rfl (Nat.le_of_ble_eq_true rfl) (Nat.le_of_ble_eq_true rfl) (Nat.le_of_ble_eq_true rfl) (Nat.le_of_ble_eq_true rfl) (Nat.le_of_ble_eq_true rfl) rfl (fun h23 H23 => ?_)
    refine g_aload_n (q := 81) C dX7_reset_80 rfl rfl ?_
    obtain ⟨x6_24, q4_24, q5_24, o24, -, -, -, -, ef24, -⟩ := tyG7x H23 (rfl : tyK 0 = (0, 0))
    obtain rfl : q4_24 = 116 := ef24
    refine g_getfield (v := .ref 116) (q := 84) C fX7_44 dX7_reset_81 rfl o24 rfl ?_
    obtain ⟨Q25, l25, HQ25, -, w25⟩ := tyRq H23 (rfl : tyK 116 = (9, 0))
    refine g_callVi (q := 87) (As := []) C gyX3_historicalBytes gvX3_historicalBytes t_594 (c_X3_historicalBytes_116 HQ25) dX7_reset_84 rfl HQ25.1 rfl rfl rfl (Nat.le_of_ble_eq_true rfl) (Nat.le_of_ble_eq_true rfl) (Nat.le_of_ble_eq_true rfl) (Nat.le_of_ble_eq_true rfl) (Nat.le_of_ble_eq_true rfl) rfl ?_
    exact E.1 _ _ _ _ _ _ _ dX7_reset_87 rfl rfl (Nat.le_of_ble_eq_true rfl) (Nat.le_of_ble_eq_true rfl) ⟨_, rfl, Q, Or.inr ⟨c_21, by rw [(w25 rfl).2]; rfl, H23⟩⟩
  · refine g_bipush (v := (-2)) (q := 26) C dX7_reset_24 (by decide) rfl ?_
    refine g_iload_n (q := 27) C dX7_reset_26 rfl rfl ?_
    refine g_isub (q := 28) C dX7_reset_27 rfl ?_
    exact E.1 _ _ _ _ _ _ _ dX7_reset_28 rfl rfl (Nat.le_of_ble_eq_true rfl) (Nat.le_of_ble_eq_true rfl) ⟨_, rfl, Q, Or.inl ⟨c_21, rfl, H6⟩⟩
