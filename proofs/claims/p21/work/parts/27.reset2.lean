/-! reset by the law's own reset answer (by program: wip/p1/m_reset2.py) -/
theorem gCput {X : gX} {q : Nat} {ls : List (Option Value)} {st : List Value} {cl sl : Nat} {hp : List gA} {fi sp : Nat} {ci : Int32} {T : List Int32} {L : gLn} {R Lt A m : Nat} {J : gJr} {q1 q2 : gRs} {Bc Bs : Nat} {fi' sp' : Nat} {ci' : Int32} {e : gA} (H : gWo hp fi sp ci T L R Lt A m J q1 q2 Bc Bs) (he : e = gCo fi' sp' ci') (kk : ∀ h, gWo h fi' sp' ci' T L R Lt A m J q1 q2 Bc Bs → gFO hp h J J → gG X q ls st h cl sl) : gG X q ls st (hp.set 0 e) cl sl := by
  subst he
  exact kk _ H.cell.1 H.cell.2
theorem dX7_reset_0 : decode cX7_reset 0 = .ok (.aload_n 0, 1) := by decide +kernel
theorem dX7_reset_1 : decode cX7_reset 1 = .ok (.getfield 48, 3) := by decide +kernel
theorem dX7_reset_4 : decode cX7_reset 4 = .ok (.aload_n 0, 1) := by decide +kernel
theorem dX7_reset_5 : decode cX7_reset 5 = .ok (.getfield 14, 3) := by decide +kernel
theorem dX7_reset_8 : decode cX7_reset 8 = .ok (.invokevirtual 70, 3) := by decide +kernel
theorem dX7_reset_11 : decode cX7_reset 11 = .ok (.istore_n 1, 1) := by decide +kernel
theorem dX7_reset_12 : decode cX7_reset 12 = .ok (.aload_n 0, 1) := by decide +kernel
theorem dX7_reset_13 : decode cX7_reset 13 = .ok (.getfield 14, 3) := by decide +kernel
theorem dX7_reset_16 : decode cX7_reset 16 = .ok (.iconst 0, 1) := by decide +kernel
theorem dX7_reset_17 : decode cX7_reset 17 = .ok (.invokevirtual 67, 3) := by decide +kernel
theorem dX7_reset_20 : decode cX7_reset 20 = .ok (.iload_n 1, 1) := by decide +kernel
theorem dX7_reset_21 : decode cX7_reset 21 = .ok (.ifCond .eq 8, 3) := by decide +kernel
theorem dX7_reset_29 : decode cX7_reset 29 = .ok (.aload_n 0, 1) := by decide +kernel
theorem dX7_reset_30 : decode cX7_reset 30 = .ok (.getfield 44, 3) := by decide +kernel
theorem dX7_reset_33 : decode cX7_reset 33 = .ok (.astore_n 2, 1) := by decide +kernel
theorem dX7_reset_34 : decode cX7_reset 34 = .ok (.aload_n 0, 1) := by decide +kernel
theorem dX7_reset_35 : decode cX7_reset 35 = .ok (.aload_n 0, 1) := by decide +kernel
theorem dX7_reset_36 : decode cX7_reset 36 = .ok (.getfield 48, 3) := by decide +kernel
theorem dX7_reset_39 : decode cX7_reset 39 = .ok (.putfield 44, 3) := by decide +kernel
theorem dX7_reset_42 : decode cX7_reset 42 = .ok (.aload_n 0, 1) := by decide +kernel
theorem dX7_reset_43 : decode cX7_reset 43 = .ok (.aload_n 2, 1) := by decide +kernel
theorem dX7_reset_44 : decode cX7_reset 44 = .ok (.putfield 48, 3) := by decide +kernel
theorem dX7_reset_47 : decode cX7_reset 47 = .ok (.aload_n 0, 1) := by decide +kernel
theorem dX7_reset_48 : decode cX7_reset 48 = .ok (.iconst 1, 1) := by decide +kernel
theorem dX7_reset_49 : decode cX7_reset 49 = .ok (.putfield 51, 3) := by decide +kernel
theorem dX7_reset_52 : decode cX7_reset 52 = .ok (.aload_n 0, 1) := by decide +kernel
theorem dX7_reset_53 : decode cX7_reset 53 = .ok (.getfield 21, 3) := by decide +kernel
theorem dX7_reset_56 : decode cX7_reset 56 = .ok (.invokevirtual 74, 3) := by decide +kernel
theorem dX7_reset_59 : decode cX7_reset 59 = .ok (.aload_n 0, 1) := by decide +kernel
theorem dX7_reset_60 : decode cX7_reset 60 = .ok (.getfield 30, 3) := by decide +kernel
theorem dX7_reset_63 : decode cX7_reset 63 = .ok (.aload_n 0, 1) := by decide +kernel
theorem dX7_reset_64 : decode cX7_reset 64 = .ok (.getfield 44, 3) := by decide +kernel
theorem dX7_reset_67 : decode cX7_reset 67 = .ok (.invokevirtual 77, 3) := by decide +kernel
theorem dX7_reset_70 : decode cX7_reset 70 = .ok (.invokevirtual 80, 3) := by decide +kernel
theorem dX7_reset_73 : decode cX7_reset 73 = .ok (.aload_n 0, 1) := by decide +kernel
theorem dX7_reset_74 : decode cX7_reset 74 = .ok (.getfield 37, 3) := by decide +kernel
theorem dX7_reset_77 : decode cX7_reset 77 = .ok (.invokevirtual 83, 3) := by decide +kernel
theorem dX7_reset_80 : decode cX7_reset 80 = .ok (.aload_n 0, 1) := by decide +kernel
theorem dX7_reset_81 : decode cX7_reset 81 = .ok (.getfield 44, 3) := by decide +kernel
theorem dX7_reset_84 : decode cX7_reset 84 = .ok (.invokevirtual 86, 3) := by decide +kernel
theorem dX7_reset_87 : decode cX7_reset 87 = .ok (.ireturn, 1) := by decide +kernel
set_option maxRecDepth 100000 in
set_option maxHeartbeats 4000000 in
theorem c_X7_reset_o {hp : List gA}  {L : gLn} {R Lt A m : Nat} {J : gJr} {q1 q2 : gRs} {Bc Bs : Nat} {p c : Int32} (HO : gWo hp 116 119 0 [59, 130, 129, 17, p, 65, 66, c] L R Lt A m J q1 q2 Bc Bs) (g1 : ¬ p < 1) (g2 : p ≤ 254) (hx : ((((((((0 : Int32) ^^^ 130) ^^^ 129) ^^^ 17) ^^^ p) ^^^ 65) ^^^ 66) ^^^ c) = 0) : gM yX7_reset cX7_reset 3 ((some .int)) 5 149 [.ref 0] (hp) (0) (0) (fun v h => v = some (.int (2)) ∧ (gWo h 119 116 1 [] (gRst L p) R 0 0 0 (jX1_forgetAll J) q1 (qX3_read q2 p c) Bc Bs ∧ gFO hp h J (jX1_forgetAll J))) := by
  refine gM_of (ls0 := [some (.ref 0), none, none]) (by decide +kernel) (Nat.le_of_ble_eq_true rfl) rfl fun X C E => ?_
  refine g_aload_n (q := 1) C dX7_reset_0 rfl rfl ?_
  refine g_getfield (v := .ref 119) (q := 4) C fX7_48 dX7_reset_1 rfl HO.c rfl ?_
  refine g_aload_n (q := 5) C dX7_reset_4 rfl rfl ?_
  refine g_getfield (v := .ref 1) (q := 8) C fX7_14 dX7_reset_5 rfl HO.c rfl ?_
  refine g_callVix (x := 0) (q := 11) (As := [.ref 1]) C gyX3_read gvX3_read t_398 (c_X3_read_q (p := p) (c := c) (q := q2) HO.qb HO.t g1 g2 hx) dX7_reset_8 rfl HO.qb.1 rfl rfl rfl (Nat.le_of_ble_eq_true rfl) (Nat.le_of_ble_eq_true rfl) (Nat.le_of_ble_eq_true rfl) (Nat.le_of_ble_eq_true rfl) (Nat.le_of_ble_eq_true rfl) rfl (fun h1 z1 => ?_)
  obtain ⟨HO1, FO1⟩ := gWo.spare HO z1
  refine g_istore_n (q := 12) C dX7_reset_11 (Nat.le_of_ble_eq_true rfl) (by simp only [gset]; rfl) rfl ?_
  refine g_aload_n (q := 13) C dX7_reset_12 rfl rfl ?_
  refine g_getfield (v := .ref 1) (q := 16) C fX7_14 dX7_reset_13 rfl HO1.c rfl ?_
  refine g_iconst (v := 0) (q := 17) C dX7_reset_16 (by decide) rfl ?_
  refine g_callVvp (q := 20) (As := [.int 0]) C gyX4_keep gvX4_keep t_480 (c_X4_keep0 HO1.t) dX7_reset_17 rfl (gRw.obj HO1.t) rfl rfl rfl (Nat.le_of_ble_eq_true rfl) (Nat.le_of_ble_eq_true rfl) (Nat.le_of_ble_eq_true rfl) (Nat.le_of_ble_eq_true rfl) (Nat.le_of_ble_eq_true rfl) rfl (fun h2 z2 => ?_)
  obtain ⟨HO2, FO2⟩ := gWo.tape HO1 z2
  refine g_iload_n (q := 21) C dX7_reset_20 rfl rfl ?_
  refine g_if_eq_t (t := 29) C dX7_reset_21 (by decide) (by decide) ?_
  refine g_aload_n (q := 30) C dX7_reset_29 rfl rfl ?_
  refine g_getfield (v := .ref 116) (q := 33) C fX7_44 dX7_reset_30 rfl HO2.c rfl ?_
  refine g_astore_n (q := 34) C dX7_reset_33 (Nat.le_of_ble_eq_true rfl) (by simp only [gset]; rfl) rfl ?_
  refine g_aload_n (q := 35) C dX7_reset_34 rfl rfl ?_
  refine g_aload_n (q := 36) C dX7_reset_35 rfl rfl ?_
  refine g_getfield (v := .ref 119) (q := 39) C fX7_48 dX7_reset_36 rfl HO2.c rfl ?_
  refine g_putfield (q := 42) C fX7_44 dX7_reset_39 rfl HO2.c (Nat.le_of_ble_eq_true rfl) (Or.inl rfl) rfl rfl (by intro z h; cases h) ?_
  refine gCput (fi' := 119) (sp' := 119) (ci' := 0) HO2 rfl fun h3 HO3 FO3 => ?_
  refine g_aload_n (q := 43) C dX7_reset_42 rfl rfl ?_
  refine g_aload_n (q := 44) C dX7_reset_43 rfl rfl ?_
  refine g_putfield (q := 47) C fX7_48 dX7_reset_44 rfl HO3.c (Nat.le_of_ble_eq_true rfl) (Or.inl rfl) rfl rfl (by intro z h; cases h) ?_
  refine gCput (fi' := 119) (sp' := 116) (ci' := 0) HO3 rfl fun h4 HO4 FO4 => ?_
  refine g_aload_n (q := 48) C dX7_reset_47 rfl rfl ?_
  refine g_iconst (v := 1) (q := 49) C dX7_reset_48 (by decide) rfl ?_
  refine g_putfield (q := 52) C fX7_51 dX7_reset_49 rfl HO4.c (Nat.le_of_ble_eq_true rfl) (Or.inl rfl) rfl rfl (by intro z h; cases h) ?_
  refine gCput (fi' := 119) (sp' := 116) (ci' := 1) HO4 rfl fun h5 HO5 FO5 => ?_
  refine g_aload_n (q := 53) C dX7_reset_52 rfl rfl ?_
  refine g_getfield (v := .ref 3) (q := 56) C fX7_21 dX7_reset_53 rfl HO5.c rfl ?_
  refine g_callVvp (q := 59) (As := []) C gyX1_forgetAll gvX1_forgetAll t_481 (c_X1_forgetAll_j HO5.j) dX7_reset_56 rfl HO5.j.1 rfl rfl rfl (Nat.le_of_ble_eq_true rfl) (Nat.le_of_ble_eq_true rfl) (Nat.le_of_ble_eq_true rfl) (Nat.le_of_ble_eq_true rfl) (Nat.le_of_ble_eq_true rfl) rfl (fun h6 z6 => ?_)
  obtain ⟨HO6, FO6⟩ := gWo.jrn HO5 z6 rfl
  refine g_aload_n (q := 60) C dX7_reset_59 rfl rfl ?_
  refine g_getfield (v := .ref 20) (q := 63) C fX7_30 dX7_reset_60 rfl HO6.c rfl ?_
  refine g_aload_n (q := 64) C dX7_reset_63 rfl rfl ?_
  refine g_getfield (v := .ref 119) (q := 67) C fX7_44 dX7_reset_64 rfl HO6.c rfl ?_
  refine g_callVi (x := p) (q := 70) (As := []) C gyX3_cardRoom gvX3_cardRoom t_486 (c_X3_cardRoom_c HO6.qb) dX7_reset_67 rfl HO6.qb.1 rfl rfl rfl (Nat.le_of_ble_eq_true rfl) (Nat.le_of_ble_eq_true rfl) (Nat.le_of_ble_eq_true rfl) (Nat.le_of_ble_eq_true rfl) (Nat.le_of_ble_eq_true rfl) rfl ?_
  refine g_callVvp (q := 73) (As := [.int p]) C gyX2_restart gvX2_restart t_490 (c_X2_restart_o (x := p) HO6) dX7_reset_70 rfl HO6.l.1 rfl rfl rfl (Nat.le_of_ble_eq_true rfl) (Nat.le_of_ble_eq_true rfl) (Nat.le_of_ble_eq_true rfl) (Nat.le_of_ble_eq_true rfl) (Nat.le_of_ble_eq_true rfl) rfl (fun h7 z7 => ?_)
  obtain ⟨HO7, FO7⟩ := z7
  refine g_aload_n (q := 74) C dX7_reset_73 rfl rfl ?_
  refine g_getfield (v := .ref 43) (q := 77) C fX7_37 dX7_reset_74 rfl HO7.c rfl ?_
  refine g_callVvp (q := 80) (As := []) C gyX0_forget gvX0_forget t_508 (c_X0_forget_w HO7.f) dX7_reset_77 rfl HO7.f.1 rfl rfl rfl (Nat.le_of_ble_eq_true rfl) (Nat.le_of_ble_eq_true rfl) (Nat.le_of_ble_eq_true rfl) (Nat.le_of_ble_eq_true rfl) (Nat.le_of_ble_eq_true rfl) rfl (fun h8 z8 => ?_)
  obtain ⟨HO8, FO8⟩ := gWo.fore HO7 z8
  refine g_aload_n (q := 81) C dX7_reset_80 rfl rfl ?_
  refine g_getfield (v := .ref 119) (q := 84) C fX7_44 dX7_reset_81 rfl HO8.c rfl ?_
  refine g_callVi (x := 2) (q := 87) (As := []) C gyX3_historicalBytes gvX3_historicalBytes t_515 (c_X3_historicalBytes_c HO8.qb) dX7_reset_84 rfl HO8.qb.1 rfl rfl rfl (Nat.le_of_ble_eq_true rfl) (Nat.le_of_ble_eq_true rfl) (Nat.le_of_ble_eq_true rfl) (Nat.le_of_ble_eq_true rfl) (Nat.le_of_ble_eq_true rfl) rfl ?_
  exact E.1 _ _ _ _ _ _ _ dX7_reset_87 rfl rfl (Nat.le_of_ble_eq_true rfl) (Nat.le_of_ble_eq_true rfl) ⟨rfl, HO8, (gFO.trans (gFO.trans (gFO.trans (gFO.trans (gFO.trans (gFO.trans (gFO.trans FO1 FO2) FO3) FO4) FO5) FO6) FO7) FO8)⟩
