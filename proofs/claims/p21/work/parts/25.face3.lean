/-! repeats, restart, feed, end (by program: wip/p1/m_face3.py) -/
theorem gWput {X : gX} {q : Nat} {ls : List (Option Value)} {st : List Value} {cl sl : Nat} {hp : List gA} {fi sp : Nat} {ci : Int32} {T : List Int32} {L : gLn} {R Lt A m : Nat} {J : gJr} {q1 q2 : gRs} {Bc Bs : Nat} {R' : Nat} {pk bn : Int32} {e : gA} (H : gWo hp fi sp ci T L R Lt A m J q1 q2 Bc Bs) (hw : hp[35]? = some (.inr (.inr (6, [.int (nI R), .int (nI Lt), .int (nI A), .ref (35 + 1), .ref (35 + 2), .ref (35 + 3), .int (nI m), .int (-1), .int pk, .int bn])))) (he : e = (.inr (.inr (6, [.int (nI R'), .int (nI Lt), .int (nI A), .ref (35 + 1), .ref (35 + 2), .ref (35 + 3), .int (nI m), .int (-1), .int pk, .int bn])) : gA)) (kk : ∀ h, gWo h fi sp ci T L R' Lt A m J q1 q2 Bc Bs → gFO hp h J J → gG X q ls st h cl sl) : gG X q ls st (hp.set 35 e) cl sl := by
  subst he
  obtain ⟨fl, fk, fb, pk', bn', b1, b2, b3, b4, b5⟩ := H.w
  have e1 := Option.some.inj (hw.symm.trans b1)
  simp only [Sum.inr.injEq, Prod.mk.injEq, List.cons.injEq, Value.int.injEq, true_and, and_true] at e1
  have f : ∀ k, k ≠ 35 → (hp.set 35 (.inr (.inr (6, [.int (nI R'), .int (nI Lt), .int (nI A), .ref (35 + 1), .ref (35 + 2), .ref (35 + 3), .int (nI m), .int (-1), .int pk, .int bn])) : gA))[k]? = hp[k]? := fun k hk => List.getElem?_set_ne (Ne.symm hk)
  have z := H.wire (R' := R') (Lt' := Lt) (A' := A) (m' := m) (h := hp.set 35 (.inr (.inr (6, [.int (nI R'), .int (nI Lt), .int (nI A), .ref (35 + 1), .ref (35 + 2), .ref (35 + 3), .int (nI m), .int (-1), .int pk, .int bn])) : gA)) ⟨⟨fl, fk, fb, pk, bn, gset_self hw, (f 36 (by decide)).trans b2, (f 37 (by decide)).trans b3, (f 38 (by decide)).trans b4, b5⟩, fun k hk => f k (by omega)⟩
  exact kk _ z.1 z.2
theorem dX7_repeats_0 : decode cX7_repeats 0 = .ok (.iload_n 1, 1) := by decide +kernel
theorem dX7_repeats_1 : decode cX7_repeats 1 = .ok (.ifCond .lt 8, 3) := by decide +kernel
theorem dX7_repeats_4 : decode cX7_repeats 4 = .ok (.iload_n 1, 1) := by decide +kernel
theorem dX7_repeats_5 : decode cX7_repeats 5 = .ok (.iconst 3, 1) := by decide +kernel
theorem dX7_repeats_6 : decode cX7_repeats 6 = .ok (.if_icmp .le 5, 3) := by decide +kernel
theorem dX7_repeats_11 : decode cX7_repeats 11 = .ok (.aload_n 0, 1) := by decide +kernel
theorem dX7_repeats_12 : decode cX7_repeats 12 = .ok (.getfield 30, 3) := by decide +kernel
theorem dX7_repeats_15 : decode cX7_repeats 15 = .ok (.getfield 114, 3) := by decide +kernel
theorem dX7_repeats_18 : decode cX7_repeats 18 = .ok (.getfield 130, 3) := by decide +kernel
theorem dX7_repeats_21 : decode cX7_repeats 21 = .ok (.istore_n 2, 1) := by decide +kernel
theorem dX7_repeats_22 : decode cX7_repeats 22 = .ok (.aload_n 0, 1) := by decide +kernel
theorem dX7_repeats_23 : decode cX7_repeats 23 = .ok (.getfield 30, 3) := by decide +kernel
theorem dX7_repeats_26 : decode cX7_repeats 26 = .ok (.getfield 114, 3) := by decide +kernel
theorem dX7_repeats_29 : decode cX7_repeats 29 = .ok (.iload_n 1, 1) := by decide +kernel
theorem dX7_repeats_30 : decode cX7_repeats 30 = .ok (.putfield 130, 3) := by decide +kernel
theorem dX7_repeats_33 : decode cX7_repeats 33 = .ok (.aload_n 0, 1) := by decide +kernel
theorem dX7_repeats_34 : decode cX7_repeats 34 = .ok (.getfield 37, 3) := by decide +kernel
theorem dX7_repeats_37 : decode cX7_repeats 37 = .ok (.invokevirtual 83, 3) := by decide +kernel
theorem dX7_repeats_40 : decode cX7_repeats 40 = .ok (.iload_n 2, 1) := by decide +kernel
theorem dX7_repeats_41 : decode cX7_repeats 41 = .ok (.ireturn, 1) := by decide +kernel
set_option maxRecDepth 100000 in
set_option maxHeartbeats 4000000 in
theorem c_X7_repeats_o {hp : List gA} {fi : Nat} {sp : Nat} {ci : Int32} {T : List Int32} {L : gLn} {R Lt A m : Nat} {J : gJr} {q1 q2 : gRs} {Bc Bs : Nat} {k0 : Nat} (HO : gWo hp fi sp ci T L R Lt A m J q1 q2 Bc Bs) (hk : k0 ≤ 3) : gM yX7_repeats cX7_repeats 3 ((some .int)) 2 43 [.ref 0, .int ((nI k0))] (hp) (0) (0) (fun v h => v = some (.int ((nI R))) ∧ (gWo h fi sp ci T L k0 Lt A m J q1 q2 Bc Bs ∧ gFO hp h J J)) := by
  refine gM_of (ls0 := [some (.ref 0), some (.int ((nI k0))), none]) (by decide +kernel) (Nat.le_of_ble_eq_true rfl) rfl fun X C E => ?_
  refine g_iload_n (q := 1) C dX7_repeats_0 rfl rfl ?_
  refine g_if_lt_f (t := 9) (q := 4) C dX7_repeats_1 (by decide) rfl (nI_pos (by omega)) ?_
  refine g_iload_n (q := 5) C dX7_repeats_4 rfl rfl ?_
  refine g_iconst (v := 3) (q := 6) C dX7_repeats_5 (by decide) rfl ?_
  refine g_icmp_le_t (t := 11) C dX7_repeats_6 (by decide) (nI_le (show k0 ≤ 3 by omega) (by decide)) ?_
  obtain ⟨fl, fk, fb, pk, bn, hw, -⟩ := id HO.w
  refine g_aload_n (q := 12) C dX7_repeats_11 rfl rfl ?_
  refine g_getfield (v := .ref 20) (q := 15) C fX7_30 dX7_repeats_12 rfl HO.c rfl ?_
  refine g_getfieldW (v := .ref 35) (q := 18) C fX7_114 dX7_repeats_15 rfl HO.l.1 rfl ?_
  refine g_getfield (v := .int ((nI R))) (q := 21) C fX7_130 dX7_repeats_18 rfl hw rfl ?_
  refine g_istore_n (q := 22) C dX7_repeats_21 (Nat.le_of_ble_eq_true rfl) (by simp only [gset]; rfl) rfl ?_
  refine g_aload_n (q := 23) C dX7_repeats_22 rfl rfl ?_
  refine g_getfield (v := .ref 20) (q := 26) C fX7_30 dX7_repeats_23 rfl HO.c rfl ?_
  refine g_getfieldW (v := .ref 35) (q := 29) C fX7_114 dX7_repeats_26 rfl HO.l.1 rfl ?_
  refine g_iload_n (q := 30) C dX7_repeats_29 rfl rfl ?_
  refine g_putfield (q := 33) C fX7_130 dX7_repeats_30 rfl hw (Nat.le_of_ble_eq_true rfl) (Or.inl rfl) rfl rfl (by intro z h; cases h) ?_
  refine gWput (R' := k0) HO hw rfl fun h1 HO1 FO1 => ?_
  refine g_aload_n (q := 34) C dX7_repeats_33 rfl rfl ?_
  refine g_getfield (v := .ref 43) (q := 37) C fX7_37 dX7_repeats_34 rfl HO1.c rfl ?_
  refine g_callVvp (q := 40) (As := []) C gyX0_forget gvX0_forget t_508 (c_X0_forget_w HO1.f) dX7_repeats_37 rfl HO1.f.1 rfl rfl rfl (Nat.le_of_ble_eq_true rfl) (Nat.le_of_ble_eq_true rfl) (Nat.le_of_ble_eq_true rfl) (Nat.le_of_ble_eq_true rfl) (Nat.le_of_ble_eq_true rfl) rfl (fun h2 z2 => ?_)
  obtain ⟨HO2, FO2⟩ := gWo.fore HO1 z2
  refine g_iload_n (q := 41) C dX7_repeats_40 rfl rfl ?_
  exact E.1 _ _ _ _ _ _ _ dX7_repeats_41 rfl rfl (Nat.le_of_ble_eq_true rfl) (Nat.le_of_ble_eq_true rfl) ⟨rfl, HO2, (gFO.trans FO1 FO2)⟩
def gRst (L : gLn) (x : Int32) : gLn := (((((((((((((L.side 0 (L.rd.rst 32)).side 1 ((L.side 0 (L.rd.rst 32)).cd.rst x)).set 0 0).set 1 0).set 2 0).set 3 0).set 4 0).row 1 []).set 5 3).set 6 0).set 9 0).set 10 0).set 11 0)
theorem dX2_restart_0 : decode cX2_restart 0 = .ok (.aload_n 0, 1) := by decide +kernel
theorem dX2_restart_1 : decode cX2_restart 1 = .ok (.getfield 14, 3) := by decide +kernel
theorem dX2_restart_4 : decode cX2_restart 4 = .ok (.bipush 32, 2) := by decide +kernel
theorem dX2_restart_6 : decode cX2_restart 6 = .ok (.invokevirtual 84, 3) := by decide +kernel
theorem dX2_restart_9 : decode cX2_restart 9 = .ok (.aload_n 0, 1) := by decide +kernel
theorem dX2_restart_10 : decode cX2_restart 10 = .ok (.getfield 20, 3) := by decide +kernel
theorem dX2_restart_13 : decode cX2_restart 13 = .ok (.iload_n 1, 1) := by decide +kernel
theorem dX2_restart_14 : decode cX2_restart 14 = .ok (.invokevirtual 84, 3) := by decide +kernel
theorem dX2_restart_17 : decode cX2_restart 17 = .ok (.aload_n 0, 1) := by decide +kernel
theorem dX2_restart_18 : decode cX2_restart 18 = .ok (.getfield 26, 3) := by decide +kernel
theorem dX2_restart_21 : decode cX2_restart 21 = .ok (.invokevirtual 87, 3) := by decide +kernel
theorem dX2_restart_24 : decode cX2_restart 24 = .ok (.aload_n 0, 1) := by decide +kernel
theorem dX2_restart_25 : decode cX2_restart 25 = .ok (.iconst 0, 1) := by decide +kernel
theorem dX2_restart_26 : decode cX2_restart 26 = .ok (.putfield 30, 3) := by decide +kernel
theorem dX2_restart_29 : decode cX2_restart 29 = .ok (.aload_n 0, 1) := by decide +kernel
theorem dX2_restart_30 : decode cX2_restart 30 = .ok (.iconst 0, 1) := by decide +kernel
theorem dX2_restart_31 : decode cX2_restart 31 = .ok (.putfield 34, 3) := by decide +kernel
theorem dX2_restart_34 : decode cX2_restart 34 = .ok (.aload_n 0, 1) := by decide +kernel
theorem dX2_restart_35 : decode cX2_restart 35 = .ok (.iconst 0, 1) := by decide +kernel
theorem dX2_restart_36 : decode cX2_restart 36 = .ok (.putfield 37, 3) := by decide +kernel
theorem dX2_restart_39 : decode cX2_restart 39 = .ok (.aload_n 0, 1) := by decide +kernel
theorem dX2_restart_40 : decode cX2_restart 40 = .ok (.iconst 0, 1) := by decide +kernel
theorem dX2_restart_41 : decode cX2_restart 41 = .ok (.putfield 40, 3) := by decide +kernel
theorem dX2_restart_44 : decode cX2_restart 44 = .ok (.aload_n 0, 1) := by decide +kernel
theorem dX2_restart_45 : decode cX2_restart 45 = .ok (.iconst 0, 1) := by decide +kernel
theorem dX2_restart_46 : decode cX2_restart 46 = .ok (.putfield 43, 3) := by decide +kernel
theorem dX2_restart_49 : decode cX2_restart 49 = .ok (.aload_n 0, 1) := by decide +kernel
theorem dX2_restart_50 : decode cX2_restart 50 = .ok (.getfield 55, 3) := by decide +kernel
theorem dX2_restart_53 : decode cX2_restart 53 = .ok (.iconst 0, 1) := by decide +kernel
theorem dX2_restart_54 : decode cX2_restart 54 = .ok (.invokevirtual 89, 3) := by decide +kernel
theorem dX2_restart_57 : decode cX2_restart 57 = .ok (.aload_n 0, 1) := by decide +kernel
theorem dX2_restart_58 : decode cX2_restart 58 = .ok (.iconst 3, 1) := by decide +kernel
theorem dX2_restart_59 : decode cX2_restart 59 = .ok (.putfield 58, 3) := by decide +kernel
theorem dX2_restart_62 : decode cX2_restart 62 = .ok (.aload_n 0, 1) := by decide +kernel
theorem dX2_restart_63 : decode cX2_restart 63 = .ok (.iconst 0, 1) := by decide +kernel
theorem dX2_restart_64 : decode cX2_restart 64 = .ok (.putfield 61, 3) := by decide +kernel
theorem dX2_restart_67 : decode cX2_restart 67 = .ok (.aload_n 0, 1) := by decide +kernel
theorem dX2_restart_68 : decode cX2_restart 68 = .ok (.iconst 0, 1) := by decide +kernel
theorem dX2_restart_69 : decode cX2_restart 69 = .ok (.putfield 71, 3) := by decide +kernel
theorem dX2_restart_72 : decode cX2_restart 72 = .ok (.aload_n 0, 1) := by decide +kernel
theorem dX2_restart_73 : decode cX2_restart 73 = .ok (.iconst 0, 1) := by decide +kernel
theorem dX2_restart_74 : decode cX2_restart 74 = .ok (.putfield 74, 3) := by decide +kernel
theorem dX2_restart_77 : decode cX2_restart 77 = .ok (.aload_n 0, 1) := by decide +kernel
theorem dX2_restart_78 : decode cX2_restart 78 = .ok (.iconst 0, 1) := by decide +kernel
theorem dX2_restart_79 : decode cX2_restart 79 = .ok (.putfield 77, 3) := by decide +kernel
theorem dX2_restart_82 : decode cX2_restart 82 = .ok (.return_, 1) := by decide +kernel
set_option maxRecDepth 100000 in
set_option maxHeartbeats 4000000 in
theorem c_X2_restart_o {hp : List gA} {fi : Nat} {sp : Nat} {ci : Int32} {T : List Int32} {L : gLn} {R Lt A m : Nat} {J : gJr} {q1 q2 : gRs} {Bc Bs : Nat} {x : Int32} (HO : gWo hp fi sp ci T L R Lt A m J q1 q2 Bc Bs)  : gM yX2_restart cX2_restart 2 (none) 4 83 [.ref 20, .int x] (hp) (0) (0) (fun v h => v = none ∧ (gWo h fi sp ci T (gRst L x) R 0 0 0 J q1 q2 Bc Bs ∧ gFO hp h J J)) := by
  refine gM_of (ls0 := [some (.ref 20), some (.int x)]) (by decide +kernel) (Nat.le_of_ble_eq_true rfl) rfl fun X C E => ?_
  refine g_aload_n (q := 1) C dX2_restart_0 rfl rfl ?_
  refine g_getfield (v := .ref 21) (q := 4) C fX2_14 dX2_restart_1 rfl HO.l.1 rfl ?_
  refine g_bipush (v := 32) (q := 6) C dX2_restart_4 (by decide) rfl ?_
  refine g_callVvp (q := 9) (As := [.int 32]) C gyX5_restart gvX5_restart t_494 (c_X5_restart_s HO.l.2.1) dX2_restart_6 rfl HO.l.2.1.1 rfl rfl rfl (Nat.le_of_ble_eq_true rfl) (Nat.le_of_ble_eq_true rfl) (Nat.le_of_ble_eq_true rfl) (Nat.le_of_ble_eq_true rfl) (Nat.le_of_ble_eq_true rfl) rfl (fun h1 z1 => ?_)
  obtain ⟨HL1, fr1⟩ := gLine.rd_ HO.l z1
  obtain ⟨HO1, FO1⟩ := gWo.line HO ⟨HL1, fr1⟩
  refine g_aload_n (q := 10) C dX2_restart_9 rfl rfl ?_
  refine g_getfield (v := .ref 28) (q := 13) C fX2_20 dX2_restart_10 rfl HO1.l.1 rfl ?_
  refine g_iload_n (q := 14) C dX2_restart_13 rfl rfl ?_
  refine g_callVvp (q := 17) (As := [.int x]) C gyX5_restart gvX5_restart t_494 (c_X5_restart_s HO1.l.2.2.1) dX2_restart_14 rfl HO1.l.2.2.1.1 rfl rfl rfl (Nat.le_of_ble_eq_true rfl) (Nat.le_of_ble_eq_true rfl) (Nat.le_of_ble_eq_true rfl) (Nat.le_of_ble_eq_true rfl) (Nat.le_of_ble_eq_true rfl) rfl (fun h2 z2 => ?_)
  obtain ⟨HL2, fr2⟩ := gLine.cd_ HO1.l z2
  obtain ⟨HO2, FO2⟩ := gWo.line HO1 ⟨HL2, fr2⟩
  obtain ⟨fl, fk, fb, pk, bn, hw, -⟩ := id HO2.w
  refine g_aload_n (q := 18) C dX2_restart_17 rfl rfl ?_
  refine g_getfield (v := .ref 35) (q := 21) C fX2_26 dX2_restart_18 rfl HO2.l.1 rfl ?_
  refine g_callVvp (q := 24) (As := []) C gyX6_restart gvX6_restart t_503 (c_X6_restart_w HO2.w) dX2_restart_21 rfl hw rfl rfl rfl (Nat.le_of_ble_eq_true rfl) (Nat.le_of_ble_eq_true rfl) (Nat.le_of_ble_eq_true rfl) (Nat.le_of_ble_eq_true rfl) (Nat.le_of_ble_eq_true rfl) rfl (fun h3 z3 => ?_)
  obtain ⟨zw1, zw2⟩ := z3
  obtain ⟨HO3, FO3⟩ := gWo.wire (Lt' := 0) (A' := 0) (m' := 0) HO2 ⟨zw1, zw2⟩
  refine g_aload_n (q := 25) C dX2_restart_24 rfl rfl ?_
  refine g_iconst (v := 0) (q := 26) C dX2_restart_25 (by decide) rfl ?_
  refine g_putfield (q := 29) C fX2_30 dX2_restart_26 rfl HO3.l.1 (Nat.le_of_ble_eq_true rfl) (Or.inl rfl) rfl rfl (by intro z h; cases h) ?_
  refine gLput (k := 0) (x := 0) HO3.l rfl fun h4 HL4 fr4 => ?_
  obtain ⟨HO4, FO4⟩ := gWo.line HO3 ⟨HL4, fr4⟩
  refine g_aload_n (q := 30) C dX2_restart_29 rfl rfl ?_
  refine g_iconst (v := 0) (q := 31) C dX2_restart_30 (by decide) rfl ?_
  refine g_putfield (q := 34) C fX2_34 dX2_restart_31 rfl HO4.l.1 (Nat.le_of_ble_eq_true rfl) (Or.inl rfl) rfl rfl (by intro z h; cases h) ?_
  refine gLput (k := 1) (x := 0) HO4.l rfl fun h5 HL5 fr5 => ?_
  obtain ⟨HO5, FO5⟩ := gWo.line HO4 ⟨HL5, fr5⟩
  refine g_aload_n (q := 35) C dX2_restart_34 rfl rfl ?_
  refine g_iconst (v := 0) (q := 36) C dX2_restart_35 (by decide) rfl ?_
  refine g_putfield (q := 39) C fX2_37 dX2_restart_36 rfl HO5.l.1 (Nat.le_of_ble_eq_true rfl) (Or.inl rfl) rfl rfl (by intro z h; cases h) ?_
  refine gLput (k := 2) (x := 0) HO5.l rfl fun h6 HL6 fr6 => ?_
  obtain ⟨HO6, FO6⟩ := gWo.line HO5 ⟨HL6, fr6⟩
  refine g_aload_n (q := 40) C dX2_restart_39 rfl rfl ?_
  refine g_iconst (v := 0) (q := 41) C dX2_restart_40 (by decide) rfl ?_
  refine g_putfield (q := 44) C fX2_40 dX2_restart_41 rfl HO6.l.1 (Nat.le_of_ble_eq_true rfl) (Or.inl rfl) rfl rfl (by intro z h; cases h) ?_
  refine gLput (k := 3) (x := 0) HO6.l rfl fun h7 HL7 fr7 => ?_
  obtain ⟨HO7, FO7⟩ := gWo.line HO6 ⟨HL7, fr7⟩
  refine g_aload_n (q := 45) C dX2_restart_44 rfl rfl ?_
  refine g_iconst (v := 0) (q := 46) C dX2_restart_45 (by decide) rfl ?_
  refine g_putfield (q := 49) C fX2_43 dX2_restart_46 rfl HO7.l.1 (Nat.le_of_ble_eq_true rfl) (Or.inl rfl) rfl rfl (by intro z h; cases h) ?_
  refine gLput (k := 4) (x := 0) HO7.l rfl fun h8 HL8 fr8 => ?_
  obtain ⟨HO8, FO8⟩ := gWo.line HO7 ⟨HL8, fr8⟩
  refine g_aload_n (q := 50) C dX2_restart_49 rfl rfl ?_
  refine g_getfield (v := .ref 41) (q := 53) C fX2_55 dX2_restart_50 rfl HO8.l.1 rfl ?_
  refine g_iconst (v := 0) (q := 54) C dX2_restart_53 (by decide) rfl ?_
  refine g_callVvp (q := 57) (As := [.int 0]) C gyX4_keep gvX4_keep t_507 (c_X4_keep0 HO8.l.2.2.2.2) dX2_restart_54 rfl (gRw.obj HO8.l.2.2.2.2) rfl rfl rfl (Nat.le_of_ble_eq_true rfl) (Nat.le_of_ble_eq_true rfl) (Nat.le_of_ble_eq_true rfl) (Nat.le_of_ble_eq_true rfl) (Nat.le_of_ble_eq_true rfl) rfl (fun h9 z9 => ?_)
  obtain ⟨HL9, fr9⟩ := gLine.ca HO8.l z9
  replace HL9 : gLine h9 ((((((((L.side 0 (L.rd.rst 32)).side 1 ((L.side 0 (L.rd.rst 32)).cd.rst x)).set 0 0).set 1 0).set 2 0).set 3 0).set 4 0).row 1 []) := HL9
  obtain ⟨HO9, FO9⟩ := gWo.line HO8 ⟨HL9, fr9⟩
  refine g_aload_n (q := 58) C dX2_restart_57 rfl rfl ?_
  refine g_iconst (v := 3) (q := 59) C dX2_restart_58 (by decide) rfl ?_
  refine g_putfield (q := 62) C fX2_58 dX2_restart_59 rfl HO9.l.1 (Nat.le_of_ble_eq_true rfl) (Or.inl rfl) rfl rfl (by intro z h; cases h) ?_
  refine gLput (k := 5) (x := 3) HO9.l rfl fun h10 HL10 fr10 => ?_
  obtain ⟨HO10, FO10⟩ := gWo.line HO9 ⟨HL10, fr10⟩
  refine g_aload_n (q := 63) C dX2_restart_62 rfl rfl ?_
  refine g_iconst (v := 0) (q := 64) C dX2_restart_63 (by decide) rfl ?_
  refine g_putfield (q := 67) C fX2_61 dX2_restart_64 rfl HO10.l.1 (Nat.le_of_ble_eq_true rfl) (Or.inl rfl) rfl rfl (by intro z h; cases h) ?_
  refine gLput (k := 6) (x := 0) HO10.l rfl fun h11 HL11 fr11 => ?_
  obtain ⟨HO11, FO11⟩ := gWo.line HO10 ⟨HL11, fr11⟩
  refine g_aload_n (q := 68) C dX2_restart_67 rfl rfl ?_
  refine g_iconst (v := 0) (q := 69) C dX2_restart_68 (by decide) rfl ?_
  refine g_putfield (q := 72) C fX2_71 dX2_restart_69 rfl HO11.l.1 (Nat.le_of_ble_eq_true rfl) (Or.inl rfl) rfl rfl (by intro z h; cases h) ?_
  refine gLput (k := 9) (x := 0) HO11.l rfl fun h12 HL12 fr12 => ?_
  obtain ⟨HO12, FO12⟩ := gWo.line HO11 ⟨HL12, fr12⟩
  refine g_aload_n (q := 73) C dX2_restart_72 rfl rfl ?_
  refine g_iconst (v := 0) (q := 74) C dX2_restart_73 (by decide) rfl ?_
  refine g_putfield (q := 77) C fX2_74 dX2_restart_74 rfl HO12.l.1 (Nat.le_of_ble_eq_true rfl) (Or.inl rfl) rfl rfl (by intro z h; cases h) ?_
  refine gLput (k := 10) (x := 0) HO12.l rfl fun h13 HL13 fr13 => ?_
  obtain ⟨HO13, FO13⟩ := gWo.line HO12 ⟨HL13, fr13⟩
  refine g_aload_n (q := 78) C dX2_restart_77 rfl rfl ?_
  refine g_iconst (v := 0) (q := 79) C dX2_restart_78 (by decide) rfl ?_
  refine g_putfield (q := 82) C fX2_77 dX2_restart_79 rfl HO13.l.1 (Nat.le_of_ble_eq_true rfl) (Or.inl rfl) rfl rfl (by intro z h; cases h) ?_
  refine gLput (k := 11) (x := 0) HO13.l rfl fun h14 HL14 fr14 => ?_
  obtain ⟨HO14, FO14⟩ := gWo.line HO13 ⟨HL14, fr14⟩
  have eL : (((((((((((((L.side 0 (L.rd.rst 32)).side 1 ((L.side 0 (L.rd.rst 32)).cd.rst x)).set 0 0).set 1 0).set 2 0).set 3 0).set 4 0).row 1 []).set 5 3).set 6 0).set 9 0).set 10 0).set 11 0) = gRst L x := rfl
  rw [eL] at HO14
  exact E.2.1 _ _ _ _ _ dX2_restart_82 rfl (Nat.le_of_ble_eq_true rfl) (Nat.le_of_ble_eq_true rfl) ⟨rfl, HO14, (gFO.trans (gFO.trans (gFO.trans (gFO.trans (gFO.trans (gFO.trans (gFO.trans (gFO.trans (gFO.trans (gFO.trans (gFO.trans (gFO.trans (gFO.trans FO1 FO2) FO3) FO4) FO5) FO6) FO7) FO8) FO9) FO10) FO11) FO12) FO13) FO14)⟩
def gBx (b : Int64) (s : Int32) : Int32 := ((b.toUInt64 >>> (s.toInt64.toUInt64 &&& Int64.toUInt64 63)).toInt64).toInt32 &&& 255
def gBy (b : Int64) : List Int32 := [gBx b 56, gBx b 48, gBx b 40, gBx b 32, gBx b 24, gBx b 16, gBx b 8, gBx b 0]
theorem gapp8 {T : List Int32} {a b c d e f g h : Int32} : (((((((T ++ [a]) ++ [b]) ++ [c]) ++ [d]) ++ [e]) ++ [f]) ++ [g]) ++ [h] = T ++ [a, b, c, d, e, f, g, h] := by simp
theorem glen1 {T : List Int32} {a : Int32} : (T ++ [a]).length = T.length + 1 := by simp
theorem dX7_feedEight_0 : decode cX7_feedEight 0 = .ok (.bipush 56, 2) := by decide +kernel
theorem dX7_feedEight_2 : decode cX7_feedEight 2 = .ok (.istore_n 3, 1) := by decide +kernel
theorem dX7_feedEight_3 : decode cX7_feedEight 3 = .ok (.iload_n 3, 1) := by decide +kernel
theorem dX7_feedEight_4 : decode cX7_feedEight 4 = .ok (.ifCond .lt 24, 3) := by decide +kernel
theorem dX7_feedEight_7 : decode cX7_feedEight 7 = .ok (.aload_n 0, 1) := by decide +kernel
theorem dX7_feedEight_8 : decode cX7_feedEight 8 = .ok (.getfield 14, 3) := by decide +kernel
theorem dX7_feedEight_11 : decode cX7_feedEight 11 = .ok (.lload_n 1, 1) := by decide +kernel
theorem dX7_feedEight_12 : decode cX7_feedEight 12 = .ok (.iload_n 3, 1) := by decide +kernel
theorem dX7_feedEight_13 : decode cX7_feedEight 13 = .ok (.lushr, 1) := by decide +kernel
theorem dX7_feedEight_14 : decode cX7_feedEight 14 = .ok (.l2i, 1) := by decide +kernel
theorem dX7_feedEight_15 : decode cX7_feedEight 15 = .ok (.sipush 255, 3) := by decide +kernel
theorem dX7_feedEight_18 : decode cX7_feedEight 18 = .ok (.iand, 1) := by decide +kernel
theorem dX7_feedEight_19 : decode cX7_feedEight 19 = .ok (.invokevirtual 63, 3) := by decide +kernel
theorem dX7_feedEight_22 : decode cX7_feedEight 22 = .ok (.iinc 3 (-8), 3) := by decide +kernel
theorem dX7_feedEight_25 : decode cX7_feedEight 25 = .ok (.goto (-22), 3) := by decide +kernel
theorem dX7_feedEight_28 : decode cX7_feedEight 28 = .ok (.return_, 1) := by decide +kernel
set_option maxRecDepth 100000 in
set_option maxHeartbeats 4000000 in
theorem c_X7_feedEight_o {hp : List gA} {fi : Nat} {sp : Nat} {ci : Int32} {T : List Int32} {L : gLn} {R Lt A m : Nat} {J : gJr} {q1 q2 : gRs} {Bc Bs : Nat} {b : Int64} (HO : gWo hp fi sp ci T L R Lt A m J q1 q2 Bc Bs) (ht : T.length + 8 ≤ 96) : gM yX7_feedEight cX7_feedEight 4 (none) 3 103 [.ref 0, .long b] (hp) (0) (0) (fun v h => v = none ∧ (gWo h fi sp ci (T ++ gBy b) L R Lt A m J q1 q2 Bc Bs ∧ gFO hp h J J)) := by
  refine gM_of (ls0 := [some (.ref 0), some (.long b), none, none]) (by decide +kernel) (Nat.le_of_ble_eq_true rfl) rfl fun X C E => ?_
  refine g_bipush (v := 56) (q := 2) C dX7_feedEight_0 (by decide) rfl ?_
  refine g_istore_n (q := 3) C dX7_feedEight_2 (Nat.le_of_ble_eq_true rfl) (by simp only [gset]; rfl) rfl ?_
  refine g_iload_n (q := 4) C dX7_feedEight_3 rfl rfl ?_
  refine g_if_lt_f (t := 28) (q := 7) C dX7_feedEight_4 (by decide) rfl (by decide) ?_
  refine g_aload_n (q := 8) C dX7_feedEight_7 rfl rfl ?_
  refine g_getfield (v := .ref 1) (q := 11) C fX7_14 dX7_feedEight_8 rfl HO.c rfl ?_
  refine g_lload_n (q := 12) C dX7_feedEight_11 rfl rfl ?_
  refine g_iload_n (q := 13) C dX7_feedEight_12 rfl rfl ?_
  refine g_lushr (q := 14) C dX7_feedEight_13 rfl ?_
  refine g_l2i (q := 15) C dX7_feedEight_14 rfl ?_
  refine g_sipush (v := 255) (q := 18) C dX7_feedEight_15 (by decide) rfl ?_
  refine g_iand (q := 19) C dX7_feedEight_18 rfl ?_
  refine g_callVvp (q := 22) (As := [.int (((((b).toUInt64 >>> ((56 : Int32).toInt64.toUInt64 &&& Int64.toUInt64 63)).toInt64).toInt32 &&& 255))]) C gyX4_add gvX4_add t_867 (c_X4_add_w HO.t (by (repeat rw [glen1]); omega)) dX7_feedEight_19 rfl (gRw.obj HO.t) rfl rfl rfl (Nat.le_of_ble_eq_true rfl) (Nat.le_of_ble_eq_true rfl) (Nat.le_of_ble_eq_true rfl) (Nat.le_of_ble_eq_true rfl) (Nat.le_of_ble_eq_true rfl) rfl (fun h1 z1 => ?_)
  obtain ⟨HO1, FO1⟩ := gWo.tape HO z1
  refine g_iinc (v := 48) (q := 25) C dX7_feedEight_22 rfl (by decide) (by simp only [gset]; rfl) rfl ?_
  refine g_goto (q := 3) C dX7_feedEight_25 (by decide) ?_
  refine g_iload_n (q := 4) C dX7_feedEight_3 rfl rfl ?_
  refine g_if_lt_f (t := 28) (q := 7) C dX7_feedEight_4 (by decide) rfl (by decide) ?_
  refine g_aload_n (q := 8) C dX7_feedEight_7 rfl rfl ?_
  refine g_getfield (v := .ref 1) (q := 11) C fX7_14 dX7_feedEight_8 rfl HO1.c rfl ?_
  refine g_lload_n (q := 12) C dX7_feedEight_11 rfl rfl ?_
  refine g_iload_n (q := 13) C dX7_feedEight_12 rfl rfl ?_
  refine g_lushr (q := 14) C dX7_feedEight_13 rfl ?_
  refine g_l2i (q := 15) C dX7_feedEight_14 rfl ?_
  refine g_sipush (v := 255) (q := 18) C dX7_feedEight_15 (by decide) rfl ?_
  refine g_iand (q := 19) C dX7_feedEight_18 rfl ?_
  refine g_callVvp (q := 22) (As := [.int (((((b).toUInt64 >>> ((48 : Int32).toInt64.toUInt64 &&& Int64.toUInt64 63)).toInt64).toInt32 &&& 255))]) C gyX4_add gvX4_add t_867 (c_X4_add_w HO1.t (by (repeat rw [glen1]); omega)) dX7_feedEight_19 rfl (gRw.obj HO1.t) rfl rfl rfl (Nat.le_of_ble_eq_true rfl) (Nat.le_of_ble_eq_true rfl) (Nat.le_of_ble_eq_true rfl) (Nat.le_of_ble_eq_true rfl) (Nat.le_of_ble_eq_true rfl) rfl (fun h2 z2 => ?_)
  obtain ⟨HO2, FO2⟩ := gWo.tape HO1 z2
  refine g_iinc (v := 40) (q := 25) C dX7_feedEight_22 rfl (by decide) (by simp only [gset]; rfl) rfl ?_
  refine g_goto (q := 3) C dX7_feedEight_25 (by decide) ?_
  refine g_iload_n (q := 4) C dX7_feedEight_3 rfl rfl ?_
  refine g_if_lt_f (t := 28) (q := 7) C dX7_feedEight_4 (by decide) rfl (by decide) ?_
  refine g_aload_n (q := 8) C dX7_feedEight_7 rfl rfl ?_
  refine g_getfield (v := .ref 1) (q := 11) C fX7_14 dX7_feedEight_8 rfl HO2.c rfl ?_
  refine g_lload_n (q := 12) C dX7_feedEight_11 rfl rfl ?_
  refine g_iload_n (q := 13) C dX7_feedEight_12 rfl rfl ?_
  refine g_lushr (q := 14) C dX7_feedEight_13 rfl ?_
  refine g_l2i (q := 15) C dX7_feedEight_14 rfl ?_
  refine g_sipush (v := 255) (q := 18) C dX7_feedEight_15 (by decide) rfl ?_
  refine g_iand (q := 19) C dX7_feedEight_18 rfl ?_
  refine g_callVvp (q := 22) (As := [.int (((((b).toUInt64 >>> ((40 : Int32).toInt64.toUInt64 &&& Int64.toUInt64 63)).toInt64).toInt32 &&& 255))]) C gyX4_add gvX4_add t_867 (c_X4_add_w HO2.t (by (repeat rw [glen1]); omega)) dX7_feedEight_19 rfl (gRw.obj HO2.t) rfl rfl rfl (Nat.le_of_ble_eq_true rfl) (Nat.le_of_ble_eq_true rfl) (Nat.le_of_ble_eq_true rfl) (Nat.le_of_ble_eq_true rfl) (Nat.le_of_ble_eq_true rfl) rfl (fun h3 z3 => ?_)
  obtain ⟨HO3, FO3⟩ := gWo.tape HO2 z3
  refine g_iinc (v := 32) (q := 25) C dX7_feedEight_22 rfl (by decide) (by simp only [gset]; rfl) rfl ?_
  refine g_goto (q := 3) C dX7_feedEight_25 (by decide) ?_
  refine g_iload_n (q := 4) C dX7_feedEight_3 rfl rfl ?_
  refine g_if_lt_f (t := 28) (q := 7) C dX7_feedEight_4 (by decide) rfl (by decide) ?_
  refine g_aload_n (q := 8) C dX7_feedEight_7 rfl rfl ?_
  refine g_getfield (v := .ref 1) (q := 11) C fX7_14 dX7_feedEight_8 rfl HO3.c rfl ?_
  refine g_lload_n (q := 12) C dX7_feedEight_11 rfl rfl ?_
  refine g_iload_n (q := 13) C dX7_feedEight_12 rfl rfl ?_
  refine g_lushr (q := 14) C dX7_feedEight_13 rfl ?_
  refine g_l2i (q := 15) C dX7_feedEight_14 rfl ?_
  refine g_sipush (v := 255) (q := 18) C dX7_feedEight_15 (by decide) rfl ?_
  refine g_iand (q := 19) C dX7_feedEight_18 rfl ?_
  refine g_callVvp (q := 22) (As := [.int (((((b).toUInt64 >>> ((32 : Int32).toInt64.toUInt64 &&& Int64.toUInt64 63)).toInt64).toInt32 &&& 255))]) C gyX4_add gvX4_add t_867 (c_X4_add_w HO3.t (by (repeat rw [glen1]); omega)) dX7_feedEight_19 rfl (gRw.obj HO3.t) rfl rfl rfl (Nat.le_of_ble_eq_true rfl) (Nat.le_of_ble_eq_true rfl) (Nat.le_of_ble_eq_true rfl) (Nat.le_of_ble_eq_true rfl) (Nat.le_of_ble_eq_true rfl) rfl (fun h4 z4 => ?_)
  obtain ⟨HO4, FO4⟩ := gWo.tape HO3 z4
  refine g_iinc (v := 24) (q := 25) C dX7_feedEight_22 rfl (by decide) (by simp only [gset]; rfl) rfl ?_
  refine g_goto (q := 3) C dX7_feedEight_25 (by decide) ?_
  refine g_iload_n (q := 4) C dX7_feedEight_3 rfl rfl ?_
  refine g_if_lt_f (t := 28) (q := 7) C dX7_feedEight_4 (by decide) rfl (by decide) ?_
  refine g_aload_n (q := 8) C dX7_feedEight_7 rfl rfl ?_
  refine g_getfield (v := .ref 1) (q := 11) C fX7_14 dX7_feedEight_8 rfl HO4.c rfl ?_
  refine g_lload_n (q := 12) C dX7_feedEight_11 rfl rfl ?_
  refine g_iload_n (q := 13) C dX7_feedEight_12 rfl rfl ?_
  refine g_lushr (q := 14) C dX7_feedEight_13 rfl ?_
  refine g_l2i (q := 15) C dX7_feedEight_14 rfl ?_
  refine g_sipush (v := 255) (q := 18) C dX7_feedEight_15 (by decide) rfl ?_
  refine g_iand (q := 19) C dX7_feedEight_18 rfl ?_
  refine g_callVvp (q := 22) (As := [.int (((((b).toUInt64 >>> ((24 : Int32).toInt64.toUInt64 &&& Int64.toUInt64 63)).toInt64).toInt32 &&& 255))]) C gyX4_add gvX4_add t_867 (c_X4_add_w HO4.t (by (repeat rw [glen1]); omega)) dX7_feedEight_19 rfl (gRw.obj HO4.t) rfl rfl rfl (Nat.le_of_ble_eq_true rfl) (Nat.le_of_ble_eq_true rfl) (Nat.le_of_ble_eq_true rfl) (Nat.le_of_ble_eq_true rfl) (Nat.le_of_ble_eq_true rfl) rfl (fun h5 z5 => ?_)
  obtain ⟨HO5, FO5⟩ := gWo.tape HO4 z5
  refine g_iinc (v := 16) (q := 25) C dX7_feedEight_22 rfl (by decide) (by simp only [gset]; rfl) rfl ?_
  refine g_goto (q := 3) C dX7_feedEight_25 (by decide) ?_
  refine g_iload_n (q := 4) C dX7_feedEight_3 rfl rfl ?_
  refine g_if_lt_f (t := 28) (q := 7) C dX7_feedEight_4 (by decide) rfl (by decide) ?_
  refine g_aload_n (q := 8) C dX7_feedEight_7 rfl rfl ?_
  refine g_getfield (v := .ref 1) (q := 11) C fX7_14 dX7_feedEight_8 rfl HO5.c rfl ?_
  refine g_lload_n (q := 12) C dX7_feedEight_11 rfl rfl ?_
  refine g_iload_n (q := 13) C dX7_feedEight_12 rfl rfl ?_
  refine g_lushr (q := 14) C dX7_feedEight_13 rfl ?_
  refine g_l2i (q := 15) C dX7_feedEight_14 rfl ?_
  refine g_sipush (v := 255) (q := 18) C dX7_feedEight_15 (by decide) rfl ?_
  refine g_iand (q := 19) C dX7_feedEight_18 rfl ?_
  refine g_callVvp (q := 22) (As := [.int (((((b).toUInt64 >>> ((16 : Int32).toInt64.toUInt64 &&& Int64.toUInt64 63)).toInt64).toInt32 &&& 255))]) C gyX4_add gvX4_add t_867 (c_X4_add_w HO5.t (by (repeat rw [glen1]); omega)) dX7_feedEight_19 rfl (gRw.obj HO5.t) rfl rfl rfl (Nat.le_of_ble_eq_true rfl) (Nat.le_of_ble_eq_true rfl) (Nat.le_of_ble_eq_true rfl) (Nat.le_of_ble_eq_true rfl) (Nat.le_of_ble_eq_true rfl) rfl (fun h6 z6 => ?_)
  obtain ⟨HO6, FO6⟩ := gWo.tape HO5 z6
  refine g_iinc (v := 8) (q := 25) C dX7_feedEight_22 rfl (by decide) (by simp only [gset]; rfl) rfl ?_
  refine g_goto (q := 3) C dX7_feedEight_25 (by decide) ?_
  refine g_iload_n (q := 4) C dX7_feedEight_3 rfl rfl ?_
  refine g_if_lt_f (t := 28) (q := 7) C dX7_feedEight_4 (by decide) rfl (by decide) ?_
  refine g_aload_n (q := 8) C dX7_feedEight_7 rfl rfl ?_
  refine g_getfield (v := .ref 1) (q := 11) C fX7_14 dX7_feedEight_8 rfl HO6.c rfl ?_
  refine g_lload_n (q := 12) C dX7_feedEight_11 rfl rfl ?_
  refine g_iload_n (q := 13) C dX7_feedEight_12 rfl rfl ?_
  refine g_lushr (q := 14) C dX7_feedEight_13 rfl ?_
  refine g_l2i (q := 15) C dX7_feedEight_14 rfl ?_
  refine g_sipush (v := 255) (q := 18) C dX7_feedEight_15 (by decide) rfl ?_
  refine g_iand (q := 19) C dX7_feedEight_18 rfl ?_
  refine g_callVvp (q := 22) (As := [.int (((((b).toUInt64 >>> ((8 : Int32).toInt64.toUInt64 &&& Int64.toUInt64 63)).toInt64).toInt32 &&& 255))]) C gyX4_add gvX4_add t_867 (c_X4_add_w HO6.t (by (repeat rw [glen1]); omega)) dX7_feedEight_19 rfl (gRw.obj HO6.t) rfl rfl rfl (Nat.le_of_ble_eq_true rfl) (Nat.le_of_ble_eq_true rfl) (Nat.le_of_ble_eq_true rfl) (Nat.le_of_ble_eq_true rfl) (Nat.le_of_ble_eq_true rfl) rfl (fun h7 z7 => ?_)
  obtain ⟨HO7, FO7⟩ := gWo.tape HO6 z7
  refine g_iinc (v := 0) (q := 25) C dX7_feedEight_22 rfl (by decide) (by simp only [gset]; rfl) rfl ?_
  refine g_goto (q := 3) C dX7_feedEight_25 (by decide) ?_
  refine g_iload_n (q := 4) C dX7_feedEight_3 rfl rfl ?_
  refine g_if_lt_f (t := 28) (q := 7) C dX7_feedEight_4 (by decide) rfl (by decide) ?_
  refine g_aload_n (q := 8) C dX7_feedEight_7 rfl rfl ?_
  refine g_getfield (v := .ref 1) (q := 11) C fX7_14 dX7_feedEight_8 rfl HO7.c rfl ?_
  refine g_lload_n (q := 12) C dX7_feedEight_11 rfl rfl ?_
  refine g_iload_n (q := 13) C dX7_feedEight_12 rfl rfl ?_
  refine g_lushr (q := 14) C dX7_feedEight_13 rfl ?_
  refine g_l2i (q := 15) C dX7_feedEight_14 rfl ?_
  refine g_sipush (v := 255) (q := 18) C dX7_feedEight_15 (by decide) rfl ?_
  refine g_iand (q := 19) C dX7_feedEight_18 rfl ?_
  refine g_callVvp (q := 22) (As := [.int (((((b).toUInt64 >>> ((0 : Int32).toInt64.toUInt64 &&& Int64.toUInt64 63)).toInt64).toInt32 &&& 255))]) C gyX4_add gvX4_add t_867 (c_X4_add_w HO7.t (by (repeat rw [glen1]); omega)) dX7_feedEight_19 rfl (gRw.obj HO7.t) rfl rfl rfl (Nat.le_of_ble_eq_true rfl) (Nat.le_of_ble_eq_true rfl) (Nat.le_of_ble_eq_true rfl) (Nat.le_of_ble_eq_true rfl) (Nat.le_of_ble_eq_true rfl) rfl (fun h8 z8 => ?_)
  obtain ⟨HO8, FO8⟩ := gWo.tape HO7 z8
  refine g_iinc (v := (-8)) (q := 25) C dX7_feedEight_22 rfl (by decide) (by simp only [gset]; rfl) rfl ?_
  refine g_goto (q := 3) C dX7_feedEight_25 (by decide) ?_
  refine g_iload_n (q := 4) C dX7_feedEight_3 rfl rfl ?_
  refine g_if_lt_t (t := 28) C dX7_feedEight_4 (by decide) (by decide) ?_
  have eT : ((((((((T ++ [((((b).toUInt64 >>> ((56 : Int32).toInt64.toUInt64 &&& Int64.toUInt64 63)).toInt64).toInt32 &&& 255)]) ++ [((((b).toUInt64 >>> ((48 : Int32).toInt64.toUInt64 &&& Int64.toUInt64 63)).toInt64).toInt32 &&& 255)]) ++ [((((b).toUInt64 >>> ((40 : Int32).toInt64.toUInt64 &&& Int64.toUInt64 63)).toInt64).toInt32 &&& 255)]) ++ [((((b).toUInt64 >>> ((32 : Int32).toInt64.toUInt64 &&& Int64.toUInt64 63)).toInt64).toInt32 &&& 255)]) ++ [((((b).toUInt64 >>> ((24 : Int32).toInt64.toUInt64 &&& Int64.toUInt64 63)).toInt64).toInt32 &&& 255)]) ++ [((((b).toUInt64 >>> ((16 : Int32).toInt64.toUInt64 &&& Int64.toUInt64 63)).toInt64).toInt32 &&& 255)]) ++ [((((b).toUInt64 >>> ((8 : Int32).toInt64.toUInt64 &&& Int64.toUInt64 63)).toInt64).toInt32 &&& 255)]) ++ [((((b).toUInt64 >>> ((0 : Int32).toInt64.toUInt64 &&& Int64.toUInt64 63)).toInt64).toInt32 &&& 255)]) = T ++ gBy b := gapp8
  rw [eT] at HO8
  exact E.2.1 _ _ _ _ _ dX7_feedEight_28 rfl (Nat.le_of_ble_eq_true rfl) (Nat.le_of_ble_eq_true rfl) ⟨rfl, HO8, (gFO.trans (gFO.trans (gFO.trans (gFO.trans (gFO.trans (gFO.trans (gFO.trans FO1 FO2) FO3) FO4) FO5) FO6) FO7) FO8)⟩
theorem gBy_len (b : Int64) : (gBy b).length = 8 := rfl
theorem dX7_feed_0 : decode cX7_feed 0 = .ok (.aload_n 0, 1) := by decide +kernel
theorem dX7_feed_1 : decode cX7_feed 1 = .ok (.getfield 14, 3) := by decide +kernel
theorem dX7_feed_4 : decode cX7_feed 4 = .ok (.invokevirtual 55, 3) := by decide +kernel
theorem dX7_feed_7 : decode cX7_feed 7 = .ok (.bipush 16, 2) := by decide +kernel
theorem dX7_feed_9 : decode cX7_feed 9 = .ok (.iadd, 1) := by decide +kernel
theorem dX7_feed_10 : decode cX7_feed 10 = .ok (.bipush 96, 2) := by decide +kernel
theorem dX7_feed_12 : decode cX7_feed 12 = .ok (.if_icmp .le 5, 3) := by decide +kernel
theorem dX7_feed_17 : decode cX7_feed 17 = .ok (.aload_n 0, 1) := by decide +kernel
theorem dX7_feed_18 : decode cX7_feed 18 = .ok (.lload_n 1, 1) := by decide +kernel
theorem dX7_feed_19 : decode cX7_feed 19 = .ok (.invokevirtual 59, 3) := by decide +kernel
theorem dX7_feed_22 : decode cX7_feed 22 = .ok (.aload_n 0, 1) := by decide +kernel
theorem dX7_feed_23 : decode cX7_feed 23 = .ok (.lload_n 3, 1) := by decide +kernel
theorem dX7_feed_24 : decode cX7_feed 24 = .ok (.invokevirtual 59, 3) := by decide +kernel
theorem dX7_feed_27 : decode cX7_feed 27 = .ok (.aload_n 0, 1) := by decide +kernel
theorem dX7_feed_28 : decode cX7_feed 28 = .ok (.getfield 14, 3) := by decide +kernel
theorem dX7_feed_31 : decode cX7_feed 31 = .ok (.invokevirtual 55, 3) := by decide +kernel
theorem dX7_feed_34 : decode cX7_feed 34 = .ok (.ireturn, 1) := by decide +kernel
set_option maxRecDepth 100000 in
set_option maxHeartbeats 4000000 in
theorem c_X7_feed_o {hp : List gA} {fi : Nat} {sp : Nat} {ci : Int32} {T : List Int32} {L : gLn} {R Lt A m : Nat} {J : gJr} {q1 q2 : gRs} {Bc Bs : Nat} {a b : Int64} (HO : gWo hp fi sp ci T L R Lt A m J q1 q2 Bc Bs) (ht : T.length + 16 ≤ 96) : gM yX7_feed cX7_feed 5 ((some .int)) 4 126 [.ref 0, .long a, .long b] (hp) (0) (0) (fun v h => v = some (.int ((nI (T.length + 8 + 8)))) ∧ (gWo h fi sp ci ((T ++ gBy a) ++ gBy b) L R Lt A m J q1 q2 Bc Bs ∧ gFO hp h J J)) := by
  refine gM_of (ls0 := [some (.ref 0), some (.long a), none, some (.long b), none]) (by decide +kernel) (Nat.le_of_ble_eq_true rfl) rfl fun X C E => ?_
  refine g_aload_n (q := 1) C dX7_feed_0 rfl rfl ?_
  refine g_getfield (v := .ref 1) (q := 4) C fX7_14 dX7_feed_1 rfl HO.c rfl ?_
  refine g_callVi (x := (nI (T).length)) (q := 7) (As := []) C gyX4_size gvX4_size t_543 (c_X4_size (gRw.obj HO.t)) dX7_feed_4 rfl (gRw.obj HO.t) rfl rfl rfl (Nat.le_of_ble_eq_true rfl) (Nat.le_of_ble_eq_true rfl) (Nat.le_of_ble_eq_true rfl) (Nat.le_of_ble_eq_true rfl) (Nat.le_of_ble_eq_true rfl) rfl ?_
  refine g_bipush (v := 16) (q := 9) C dX7_feed_7 (by decide) rfl ?_
  refine g_iadd (q := 10) C dX7_feed_9 rfl ?_
  refine g_bipush (v := 96) (q := 12) C dX7_feed_10 (by decide) rfl ?_
  refine g_icmp_le_t (t := 17) C dX7_feed_12 (by decide) (by rw [show (16 : Int32) = nI 16 from rfl, nI_add]; exact nI_le (show T.length + 16 ≤ 96 by omega) (by decide)) ?_
  refine g_aload_n (q := 18) C dX7_feed_17 rfl rfl ?_
  refine g_lload_n (q := 19) C dX7_feed_18 rfl rfl ?_
  refine g_callVvp (q := 22) (As := [.long a]) C gyX7_feedEight gvX7_feedEight t_863 (c_X7_feedEight_o (b := a) HO (by omega)) dX7_feed_19 rfl HO.c rfl rfl rfl (Nat.le_of_ble_eq_true rfl) (Nat.le_of_ble_eq_true rfl) (Nat.le_of_ble_eq_true rfl) (Nat.le_of_ble_eq_true rfl) (Nat.le_of_ble_eq_true rfl) rfl (fun h1 z1 => ?_)
  obtain ⟨HO1, FO1⟩ := z1
  refine g_aload_n (q := 23) C dX7_feed_22 rfl rfl ?_
  refine g_lload_n (q := 24) C dX7_feed_23 rfl rfl ?_
  refine g_callVvp (q := 27) (As := [.long b]) C gyX7_feedEight gvX7_feedEight t_863 (c_X7_feedEight_o (b := b) HO1 (by rw [List.length_append, gBy_len]; omega)) dX7_feed_24 rfl HO1.c rfl rfl rfl (Nat.le_of_ble_eq_true rfl) (Nat.le_of_ble_eq_true rfl) (Nat.le_of_ble_eq_true rfl) (Nat.le_of_ble_eq_true rfl) (Nat.le_of_ble_eq_true rfl) rfl (fun h2 z2 => ?_)
  obtain ⟨HO2, FO2⟩ := z2
  refine g_aload_n (q := 28) C dX7_feed_27 rfl rfl ?_
  refine g_getfield (v := .ref 1) (q := 31) C fX7_14 dX7_feed_28 rfl HO2.c rfl ?_
  refine g_callVi (x := (nI (((T ++ gBy a) ++ gBy b)).length)) (q := 34) (As := []) C gyX4_size gvX4_size t_543 (c_X4_size (gRw.obj HO2.t)) dX7_feed_31 rfl (gRw.obj HO2.t) rfl rfl rfl (Nat.le_of_ble_eq_true rfl) (Nat.le_of_ble_eq_true rfl) (Nat.le_of_ble_eq_true rfl) (Nat.le_of_ble_eq_true rfl) (Nat.le_of_ble_eq_true rfl) rfl ?_
  exact E.1 _ _ _ _ _ _ _ dX7_feed_34 rfl rfl (Nat.le_of_ble_eq_true rfl) (Nat.le_of_ble_eq_true rfl) ⟨by rw [List.length_append, List.length_append, gBy_len, gBy_len], HO2, (gFO.trans FO1 FO2)⟩
theorem dX7_end_0 : decode cX7_end 0 = .ok (.iload_n 1, 1) := by decide +kernel
theorem dX7_end_1 : decode cX7_end 1 = .ok (.ifCond .lt 14, 3) := by decide +kernel
theorem dX7_end_4 : decode cX7_end 4 = .ok (.iload_n 1, 1) := by decide +kernel
theorem dX7_end_5 : decode cX7_end 5 = .ok (.aload_n 0, 1) := by decide +kernel
theorem dX7_end_6 : decode cX7_end 6 = .ok (.getfield 14, 3) := by decide +kernel
theorem dX7_end_9 : decode cX7_end 9 = .ok (.invokevirtual 55, 3) := by decide +kernel
theorem dX7_end_12 : decode cX7_end 12 = .ok (.if_icmp .le 5, 3) := by decide +kernel
theorem dX7_end_17 : decode cX7_end 17 = .ok (.aload_n 0, 1) := by decide +kernel
theorem dX7_end_18 : decode cX7_end 18 = .ok (.getfield 14, 3) := by decide +kernel
theorem dX7_end_21 : decode cX7_end 21 = .ok (.iload_n 1, 1) := by decide +kernel
theorem dX7_end_22 : decode cX7_end 22 = .ok (.invokevirtual 67, 3) := by decide +kernel
theorem dX7_end_25 : decode cX7_end 25 = .ok (.iload_n 1, 1) := by decide +kernel
theorem dX7_end_26 : decode cX7_end 26 = .ok (.ireturn, 1) := by decide +kernel
set_option maxRecDepth 100000 in
set_option maxHeartbeats 4000000 in
theorem c_X7_end_o {hp : List gA} {fi : Nat} {sp : Nat} {ci : Int32} {T : List Int32} {L : gLn} {R Lt A m : Nat} {J : gJr} {q1 q2 : gRs} {Bc Bs : Nat} {k0 : Nat} (HO : gWo hp fi sp ci T L R Lt A m J q1 q2 Bc Bs) (hk : k0 ≤ T.length) : gM yX7_end cX7_end 2 ((some .int)) 2 42 [.ref 0, .int ((nI k0))] (hp) (0) (0) (fun v h => v = some (.int ((nI k0))) ∧ (gWo h fi sp ci (T.take k0) L R Lt A m J q1 q2 Bc Bs ∧ gFO hp h J J)) := by
  refine gM_of (ls0 := [some (.ref 0), some (.int ((nI k0)))]) (by decide +kernel) (Nat.le_of_ble_eq_true rfl) rfl fun X C E => ?_
  have htl : T.length ≤ 96 := HO.t.le.1
  refine g_iload_n (q := 1) C dX7_end_0 rfl rfl ?_
  refine g_if_lt_f (t := 15) (q := 4) C dX7_end_1 (by decide) rfl (nI_pos (by omega)) ?_
  refine g_iload_n (q := 5) C dX7_end_4 rfl rfl ?_
  refine g_aload_n (q := 6) C dX7_end_5 rfl rfl ?_
  refine g_getfield (v := .ref 1) (q := 9) C fX7_14 dX7_end_6 rfl HO.c rfl ?_
  refine g_callVi (x := (nI (T).length)) (q := 12) (As := []) C gyX4_size gvX4_size t_543 (c_X4_size (gRw.obj HO.t)) dX7_end_9 rfl (gRw.obj HO.t) rfl rfl rfl (Nat.le_of_ble_eq_true rfl) (Nat.le_of_ble_eq_true rfl) (Nat.le_of_ble_eq_true rfl) (Nat.le_of_ble_eq_true rfl) (Nat.le_of_ble_eq_true rfl) rfl ?_
  refine g_icmp_le_t (t := 17) C dX7_end_12 (by decide) (nI_le hk (by omega)) ?_
  refine g_aload_n (q := 18) C dX7_end_17 rfl rfl ?_
  refine g_getfield (v := .ref 1) (q := 21) C fX7_14 dX7_end_18 rfl HO.c rfl ?_
  refine g_iload_n (q := 22) C dX7_end_21 rfl rfl ?_
  refine g_callVvp (q := 25) (As := [.int ((nI k0))]) C gyX4_keep gvX4_keep t_480 (c_X4_keep_w (k := k0) HO.t (by omega)) dX7_end_22 rfl (gRw.obj HO.t) rfl rfl rfl (Nat.le_of_ble_eq_true rfl) (Nat.le_of_ble_eq_true rfl) (Nat.le_of_ble_eq_true rfl) (Nat.le_of_ble_eq_true rfl) (Nat.le_of_ble_eq_true rfl) rfl (fun h1 z1 => ?_)
  obtain ⟨HO1, FO1⟩ := gWo.tape HO z1
  refine g_iload_n (q := 26) C dX7_end_25 rfl rfl ?_
  exact E.1 _ _ _ _ _ _ _ dX7_end_26 rfl rfl (Nat.le_of_ble_eq_true rfl) (Nat.le_of_ble_eq_true rfl) ⟨rfl, HO1, FO1⟩
