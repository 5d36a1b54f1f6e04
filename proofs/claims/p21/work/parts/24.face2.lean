/-! CardLink's acts but reset (by program: wip/p1/m_face2.py) -/
theorem dJ7_fill_53178_0 : decode cJ7_fill_53178 0 = .ok (.iconst 0, 1) := by decide +kernel
theorem dJ7_fill_53178_1 : decode cJ7_fill_53178 1 = .ok (.istore_n 2, 1) := by decide +kernel
theorem dJ7_fill_53178_2 : decode cJ7_fill_53178 2 = .ok (.aload_n 0, 1) := by decide +kernel
theorem dJ7_fill_53178_3 : decode cJ7_fill_53178 3 = .ok (.arraylength, 1) := by decide +kernel
theorem dJ7_fill_53178_4 : decode cJ7_fill_53178 4 = .ok (.istore_n 3, 1) := by decide +kernel
theorem dJ7_fill_53178_5 : decode cJ7_fill_53178 5 = .ok (.iload_n 2, 1) := by decide +kernel
theorem dJ7_fill_53178_6 : decode cJ7_fill_53178 6 = .ok (.iload_n 3, 1) := by decide +kernel
theorem dJ7_fill_53178_7 : decode cJ7_fill_53178 7 = .ok (.if_icmp .ge 13, 3) := by decide +kernel
theorem dJ7_fill_53178_10 : decode cJ7_fill_53178 10 = .ok (.aload_n 0, 1) := by decide +kernel
theorem dJ7_fill_53178_11 : decode cJ7_fill_53178 11 = .ok (.iload_n 2, 1) := by decide +kernel
theorem dJ7_fill_53178_12 : decode cJ7_fill_53178 12 = .ok (.iload_n 1, 1) := by decide +kernel
theorem dJ7_fill_53178_13 : decode cJ7_fill_53178 13 = .ok (.iastore, 1) := by decide +kernel
theorem dJ7_fill_53178_14 : decode cJ7_fill_53178 14 = .ok (.iinc 2 1, 3) := by decide +kernel
theorem dJ7_fill_53178_17 : decode cJ7_fill_53178 17 = .ok (.goto (-12), 3) := by decide +kernel
theorem dJ7_fill_53178_20 : decode cJ7_fill_53178 20 = .ok (.return_, 1) := by decide +kernel
set_option maxRecDepth 100000 in
set_option maxHeartbeats 4000000 in
theorem c_J7_fill_53178_w {hp : List gA} {a n : Nat} {f : Nat → Int32} {x : Int32} (ha : hp[a]? = some (.inl (n, f))) (hn : n < 2 ^ 31) : gM yJ7_fill_53178 cJ7_fill_53178 4 (none) 0 0 [.ref a, .int x] (hp) (0) (0) (fun v h => v = none ∧ ((∃ g, h[a]? = some (.inl (n, g))) ∧ ∀ k, k ≠ a → h[k]? = hp[k]?)) := by
  refine gM_of (ls0 := [some (.ref a), some (.int x), none, none]) (by decide +kernel) (Nat.le_of_ble_eq_true rfl) rfl fun X C E => ?_
  have LL : ∀ d j : Nat, j + d = n → ∀ (h1 : List gA) (f1 : Nat → Int32), h1[a]? = some (.inl (n, f1)) → (∀ k, k ≠ a → h1[k]? = hp[k]?) → gG X 5 [some (.ref a), some (.int x), some (.int (nI j)), some (.int (Int32.ofNat n))] [] h1 0 0 := by
    intro d
    induction d with
    | zero =>
      intro j hj h1 f1 ha1 fr
      obtain rfl : j = n := by omega
      refine g_iload_n (q := 6) C dJ7_fill_53178_5 rfl rfl ?_
      refine g_iload_n (q := 7) C dJ7_fill_53178_6 rfl rfl ?_
      refine g_icmp_ge_t (t := 20) C dJ7_fill_53178_7 (by decide) (nI_le (Nat.le_refl _) hn) ?_
      exact E.2.1 _ _ _ _ _ dJ7_fill_53178_20 rfl (Nat.le_of_ble_eq_true rfl) (Nat.le_of_ble_eq_true rfl) ⟨rfl, ⟨f1, ha1⟩, fr⟩
    | succ d ih =>
      intro j hj h1 f1 ha1 fr
      refine g_iload_n (q := 6) C dJ7_fill_53178_5 rfl rfl ?_
      refine g_iload_n (q := 7) C dJ7_fill_53178_6 rfl rfl ?_
      refine g_icmp_ge_f (t := 20) (q := 10) C dJ7_fill_53178_7 (by decide) rfl (fun h => nI_ge (show j < n by omega) hn h) ?_
      refine g_aload_n (q := 11) C dJ7_fill_53178_10 rfl rfl ?_
      refine g_iload_n (q := 12) C dJ7_fill_53178_11 rfl rfl ?_
      refine g_iload_n (q := 13) C dJ7_fill_53178_12 rfl rfl ?_
      refine g_iastoreN (j := j) (q := 14) C dJ7_fill_53178_13 rfl ha1 (pk_in j n (by omega)) (pk_cl j) ?_
      refine g_iinc (v := (nI (j + 1))) (q := 17) C dJ7_fill_53178_14 rfl (nI_1 j) (by simp only [gset]; rfl) rfl ?_
      refine g_goto (q := 5) C dJ7_fill_53178_17 (by decide) ?_
      exact ih (j + 1) (by omega) _ _ (gset_self ha1) (fun k hk => (List.getElem?_set_ne (Ne.symm hk)).trans (fr k hk))
  refine g_iconst (v := 0) (q := 1) C dJ7_fill_53178_0 (by decide) rfl ?_
  refine g_istore_n (q := 2) C dJ7_fill_53178_1 (Nat.le_of_ble_eq_true rfl) (by simp only [gset]; rfl) rfl ?_
  refine g_aload_n (q := 3) C dJ7_fill_53178_2 rfl rfl ?_
  refine g_arraylength (q := 4) C dJ7_fill_53178_3 rfl ha rfl ?_
  refine g_istore_n (q := 5) C dJ7_fill_53178_4 (Nat.le_of_ble_eq_true rfl) (by simp only [gset]; rfl) rfl ?_
  exact LL n 0 (by omega) hp f ha (fun _ _ => rfl)
  
theorem dX0_forget_0 : decode cX0_forget 0 = .ok (.aload_n 0, 1) := by decide +kernel
theorem dX0_forget_1 : decode cX0_forget 1 = .ok (.iconst 0, 1) := by decide +kernel
theorem dX0_forget_2 : decode cX0_forget 2 = .ok (.putfield 26, 3) := by decide +kernel
theorem dX0_forget_5 : decode cX0_forget 5 = .ok (.aload_n 0, 1) := by decide +kernel
theorem dX0_forget_6 : decode cX0_forget 6 = .ok (.getfield 30, 3) := by decide +kernel
theorem dX0_forget_9 : decode cX0_forget 9 = .ok (.iconst 0, 1) := by decide +kernel
theorem dX0_forget_10 : decode cX0_forget 10 = .ok (.invokestatic 40, 3) := by decide +kernel
theorem dX0_forget_13 : decode cX0_forget 13 = .ok (.return_, 1) := by decide +kernel
set_option maxRecDepth 100000 in
set_option maxHeartbeats 4000000 in
theorem c_X0_forget_w {hp : List gA}  (HF : gFo hp) : gM yX0_forget cX0_forget 1 (none) 1 23 [.ref 43] (hp) (0) (0) (fun v h => v = none ∧ (gFo h ∧ ∀ k, k ≠ 43 → k ≠ 113 → h[k]? = hp[k]?)) := by
  obtain ⟨f, hf⟩ := HF.2
  refine gM_of (ls0 := [some (.ref 43)]) (by decide +kernel) (Nat.le_of_ble_eq_true rfl) rfl fun X C E => ?_
  refine g_aload_n (q := 1) C dX0_forget_0 rfl rfl ?_
  refine g_iconst (v := 0) (q := 2) C dX0_forget_1 (by decide) rfl ?_
  refine g_putfield (q := 5) C fX0_26 dX0_forget_2 rfl HF.1 (Nat.le_of_ble_eq_true rfl) (Or.inl rfl) rfl rfl (by intro z h; cases h) ?_
  refine g_aload_n (q := 6) C dX0_forget_5 rfl rfl ?_
  refine g_getfield (q := 9) C fX0_30 dX0_forget_6 rfl (gset_self HF.1) rfl ?_
  refine g_iconst (v := 0) (q := 10) C dX0_forget_9 (by decide) rfl ?_
  refine g_callSvp (q := 13) (As := [.ref 113, .int 0]) C gyJ7_fill_53178 t_513 t_512 (c_J7_fill_53178_w (gset_other hf (by decide)) (by decide)) dX0_forget_10 rfl rfl rfl (Nat.le_of_ble_eq_true rfl) (Nat.le_of_ble_eq_true rfl) (Nat.le_of_ble_eq_true rfl) (Nat.le_of_ble_eq_true rfl) (Nat.le_of_ble_eq_true rfl) rfl (fun h1 z1 => ?_)
  exact E.2.1 _ _ _ _ _ dX0_forget_13 rfl (Nat.le_of_ble_eq_true rfl) (Nat.le_of_ble_eq_true rfl) ⟨rfl, ⟨((z1.2 43 (by decide)).trans (gset_self HF.1)), z1.1⟩, fun k h1 h2 => (z1.2 k h2).trans (List.getElem?_set_ne (Ne.symm h1))⟩
theorem dX7_message_0 : decode cX7_message 0 = .ok (.iconst (-1), 1) := by decide +kernel
theorem dX7_message_1 : decode cX7_message 1 = .ok (.istore_n 1, 1) := by decide +kernel
theorem dX7_message_2 : decode cX7_message 2 = .ok (.aload_n 0, 1) := by decide +kernel
theorem dX7_message_3 : decode cX7_message 3 = .ok (.invokevirtual 96, 3) := by decide +kernel
theorem dX7_message_6 : decode cX7_message 6 = .ok (.ifCond .eq 41, 3) := by decide +kernel
theorem dX7_message_47 : decode cX7_message 47 = .ok (.aload_n 0, 1) := by decide +kernel
theorem dX7_message_48 : decode cX7_message 48 = .ok (.getfield 14, 3) := by decide +kernel
theorem dX7_message_51 : decode cX7_message 51 = .ok (.iconst 0, 1) := by decide +kernel
theorem dX7_message_52 : decode cX7_message 52 = .ok (.invokevirtual 67, 3) := by decide +kernel
theorem dX7_message_55 : decode cX7_message 55 = .ok (.iload_n 1, 1) := by decide +kernel
theorem dX7_message_56 : decode cX7_message 56 = .ok (.ireturn, 1) := by decide +kernel
set_option maxRecDepth 100000 in
set_option maxHeartbeats 4000000 in
theorem c_X7_message_no_o {hp : List gA} {fi : Nat} {sp : Nat} {ci : Int32} {T : List Int32} {L : gLn} {R Lt A m : Nat} {J : gJr} {q1 q2 : gRs} {Bc Bs : Nat}  (HO : gWo hp fi sp ci T L R Lt A m J q1 q2 Bc Bs) (hm : rX7_mayStart ci L = 0) : gM yX7_message cX7_message 2 ((some .int)) 3 103 [.ref 0] (hp) (0) (0) (fun v h => v = some (.int ((-1))) ∧ (gWo h fi sp ci [] L R Lt A m J q1 q2 Bc Bs ∧ gFO hp h J J)) := by
  refine gM_of (ls0 := [some (.ref 0), none]) (by decide +kernel) (Nat.le_of_ble_eq_true rfl) rfl fun X C E => ?_
  refine g_iconst (v := (-1)) (q := 1) C dX7_message_0 (by decide) rfl ?_
  refine g_istore_n (q := 2) C dX7_message_1 (Nat.le_of_ble_eq_true rfl) (by simp only [gset]; rfl) rfl ?_
  refine g_aload_n (q := 3) C dX7_message_2 rfl rfl ?_
  refine g_callVi (x := (rX7_mayStart ci L)) (q := 6) (As := []) C gyX7_mayStart gvX7_mayStart t_539 (c_X7_mayStart_c HO.c HO.l) dX7_message_3 rfl HO.c rfl rfl rfl (Nat.le_of_ble_eq_true rfl) (Nat.le_of_ble_eq_true rfl) (Nat.le_of_ble_eq_true rfl) (Nat.le_of_ble_eq_true rfl) (Nat.le_of_ble_eq_true rfl) rfl ?_
  refine g_if_eq_t (t := 47) C dX7_message_6 (by decide) hm ?_
  refine g_aload_n (q := 48) C dX7_message_47 rfl rfl ?_
  refine g_getfield (v := .ref 1) (q := 51) C fX7_14 dX7_message_48 rfl HO.c rfl ?_
  refine g_iconst (v := 0) (q := 52) C dX7_message_51 (by decide) rfl ?_
  refine g_callVvp (q := 55) (As := [.int 0]) C gyX4_keep gvX4_keep t_480 (c_X4_keep0 HO.t) dX7_message_52 rfl (gRw.obj HO.t) rfl rfl rfl (Nat.le_of_ble_eq_true rfl) (Nat.le_of_ble_eq_true rfl) (Nat.le_of_ble_eq_true rfl) (Nat.le_of_ble_eq_true rfl) (Nat.le_of_ble_eq_true rfl) rfl (fun h1 z1 => ?_)
  obtain ⟨HO1, FO1⟩ := gWo.tape HO z1
  refine g_iload_n (q := 56) C dX7_message_55 rfl rfl ?_
  exact E.1 _ _ _ _ _ _ _ dX7_message_56 rfl rfl (Nat.le_of_ble_eq_true rfl) (Nat.le_of_ble_eq_true rfl) ⟨rfl, HO1, FO1⟩
theorem dX7_message_9 : decode cX7_message 9 = .ok (.aload_n 0, 1) := by decide +kernel
theorem dX7_message_10 : decode cX7_message 10 = .ok (.getfield 14, 3) := by decide +kernel
theorem dX7_message_13 : decode cX7_message 13 = .ok (.invokevirtual 55, 3) := by decide +kernel
theorem dX7_message_16 : decode cX7_message 16 = .ok (.bipush 60, 2) := by decide +kernel
theorem dX7_message_18 : decode cX7_message 18 = .ok (.if_icmp .gt 29, 3) := by decide +kernel
theorem dX7_message_21 : decode cX7_message 21 = .ok (.aload_n 0, 1) := by decide +kernel
theorem dX7_message_22 : decode cX7_message 22 = .ok (.getfield 30, 3) := by decide +kernel
theorem dX7_message_25 : decode cX7_message 25 = .ok (.aload_n 0, 1) := by decide +kernel
theorem dX7_message_26 : decode cX7_message 26 = .ok (.getfield 14, 3) := by decide +kernel
theorem dX7_message_29 : decode cX7_message 29 = .ok (.invokevirtual 100, 3) := by decide +kernel
theorem dX7_message_32 : decode cX7_message 32 = .ok (.aload_n 0, 1) := by decide +kernel
theorem dX7_message_33 : decode cX7_message 33 = .ok (.getfield 37, 3) := by decide +kernel
theorem dX7_message_36 : decode cX7_message 36 = .ok (.invokevirtual 83, 3) := by decide +kernel
theorem dX7_message_39 : decode cX7_message 39 = .ok (.aload_n 0, 1) := by decide +kernel
theorem dX7_message_40 : decode cX7_message 40 = .ok (.getfield 30, 3) := by decide +kernel
theorem dX7_message_43 : decode cX7_message 43 = .ok (.invokevirtual 104, 3) := by decide +kernel
theorem dX7_message_46 : decode cX7_message 46 = .ok (.istore_n 1, 1) := by decide +kernel
set_option maxRecDepth 100000 in
set_option maxHeartbeats 4000000 in
theorem c_X7_message_ok_o {hp : List gA} {fi : Nat} {sp : Nat} {ci : Int32} {T : List Int32} {L : gLn} {R Lt A m : Nat} {J : gJr} {q1 q2 : gRs} {Bc Bs : Nat} {q : Nat} (HO : gWo hp fi sp ci T L R Lt A m J q1 q2 Bc Bs) (hm : ¬ rX7_mayStart ci L = 0) (ht : T.length ≤ 60) (hq : L.cd.ro = nI q) (h1q : 1 ≤ q) (h2q : q ≤ 254) : gM yX7_message cX7_message 2 ((some .int)) 3 103 [.ref 0] (hp) (0) (0) (fun v h => v = some (.int ((nI (gBl T.length q)))) ∧ (gWo h fi sp ci [] (rX2_startMessage L T) R Lt A m J q1 q2 Bc Bs ∧ gFO hp h J J)) := by
  refine gM_of (ls0 := [some (.ref 0), none]) (by decide +kernel) (Nat.le_of_ble_eq_true rfl) rfl fun X C E => ?_
  refine g_iconst (v := (-1)) (q := 1) C dX7_message_0 (by decide) rfl ?_
  refine g_istore_n (q := 2) C dX7_message_1 (Nat.le_of_ble_eq_true rfl) (by simp only [gset]; rfl) rfl ?_
  refine g_aload_n (q := 3) C dX7_message_2 rfl rfl ?_
  refine g_callVi (x := (rX7_mayStart ci L)) (q := 6) (As := []) C gyX7_mayStart gvX7_mayStart t_539 (c_X7_mayStart_c HO.c HO.l) dX7_message_3 rfl HO.c rfl rfl rfl (Nat.le_of_ble_eq_true rfl) (Nat.le_of_ble_eq_true rfl) (Nat.le_of_ble_eq_true rfl) (Nat.le_of_ble_eq_true rfl) (Nat.le_of_ble_eq_true rfl) rfl ?_
  refine g_if_eq_f (t := 47) (q := 9) C dX7_message_6 (by decide) rfl hm ?_
  refine g_aload_n (q := 10) C dX7_message_9 rfl rfl ?_
  refine g_getfield (v := .ref 1) (q := 13) C fX7_14 dX7_message_10 rfl HO.c rfl ?_
  refine g_callVi (x := (nI (T).length)) (q := 16) (As := []) C gyX4_size gvX4_size t_543 (c_X4_size (gRw.obj HO.t)) dX7_message_13 rfl (gRw.obj HO.t) rfl rfl rfl (Nat.le_of_ble_eq_true rfl) (Nat.le_of_ble_eq_true rfl) (Nat.le_of_ble_eq_true rfl) (Nat.le_of_ble_eq_true rfl) (Nat.le_of_ble_eq_true rfl) rfl ?_
  refine g_bipush (v := 60) (q := 18) C dX7_message_16 (by decide) rfl ?_
  refine g_icmp_gt_f (t := 47) (q := 21) C dX7_message_18 (by decide) rfl (fun h => by rw [Int32.lt_iff_toInt_lt, nI_toInt (by omega), show (60 : Int32).toInt = 60 from by decide] at h; omega) ?_
  refine g_aload_n (q := 22) C dX7_message_21 rfl rfl ?_
  refine g_getfield (v := .ref 20) (q := 25) C fX7_30 dX7_message_22 rfl HO.c rfl ?_
  refine g_aload_n (q := 26) C dX7_message_25 rfl rfl ?_
  refine g_getfield (v := .ref 1) (q := 29) C fX7_14 dX7_message_26 rfl HO.c rfl ?_
  refine g_callVvp (q := 32) (As := [.ref 1]) C gyX2_startMessage gvX2_startMessage t_544 (c_X2_startMessage_l HO.l HO.t ht) dX7_message_29 rfl HO.l.1 rfl rfl rfl (Nat.le_of_ble_eq_true rfl) (Nat.le_of_ble_eq_true rfl) (Nat.le_of_ble_eq_true rfl) (Nat.le_of_ble_eq_true rfl) (Nat.le_of_ble_eq_true rfl) rfl (fun h1 z1 => ?_)
  obtain ⟨HO1, FO1⟩ := gWo.line HO z1
  refine g_aload_n (q := 33) C dX7_message_32 rfl rfl ?_
  refine g_getfield (v := .ref 43) (q := 36) C fX7_37 dX7_message_33 rfl HO1.c rfl ?_
  refine g_callVvp (q := 39) (As := []) C gyX0_forget gvX0_forget t_508 (c_X0_forget_w HO1.f) dX7_message_36 rfl HO1.f.1 rfl rfl rfl (Nat.le_of_ble_eq_true rfl) (Nat.le_of_ble_eq_true rfl) (Nat.le_of_ble_eq_true rfl) (Nat.le_of_ble_eq_true rfl) (Nat.le_of_ble_eq_true rfl) rfl (fun h2 z2 => ?_)
  obtain ⟨HO2, FO2⟩ := gWo.fore HO1 z2
  refine g_aload_n (q := 40) C dX7_message_39 rfl rfl ?_
  refine g_getfield (v := .ref 20) (q := 43) C fX7_30 dX7_message_40 rfl HO2.c rfl ?_
  refine g_callVi (x := (nI (gBl T.length q))) (q := 46) (As := []) C gyX2_blocksAhead gvX2_blocksAhead t_557 (c_X2_blocksAhead_l HO2.l (q := q) hq h1q h2q) dX7_message_43 rfl HO2.l.1 rfl rfl rfl (Nat.le_of_ble_eq_true rfl) (Nat.le_of_ble_eq_true rfl) (Nat.le_of_ble_eq_true rfl) (Nat.le_of_ble_eq_true rfl) (Nat.le_of_ble_eq_true rfl) rfl ?_
  refine g_istore_n (q := 47) C dX7_message_46 (Nat.le_of_ble_eq_true rfl) (by simp only [gset]; rfl) rfl ?_
  refine g_aload_n (q := 48) C dX7_message_47 rfl rfl ?_
  refine g_getfield (v := .ref 1) (q := 51) C fX7_14 dX7_message_48 rfl HO2.c rfl ?_
  refine g_iconst (v := 0) (q := 52) C dX7_message_51 (by decide) rfl ?_
  refine g_callVvp (q := 55) (As := [.int 0]) C gyX4_keep gvX4_keep t_480 (c_X4_keep0 HO2.t) dX7_message_52 rfl (gRw.obj HO2.t) rfl rfl rfl (Nat.le_of_ble_eq_true rfl) (Nat.le_of_ble_eq_true rfl) (Nat.le_of_ble_eq_true rfl) (Nat.le_of_ble_eq_true rfl) (Nat.le_of_ble_eq_true rfl) rfl (fun h3 z3 => ?_)
  obtain ⟨HO3, FO3⟩ := gWo.tape HO2 z3
  refine g_iload_n (q := 56) C dX7_message_55 rfl rfl ?_
  exact E.1 _ _ _ _ _ _ _ dX7_message_56 rfl rfl (Nat.le_of_ble_eq_true rfl) (Nat.le_of_ble_eq_true rfl) ⟨rfl, HO3, (gFO.trans (gFO.trans FO1 FO2) FO3)⟩
theorem dX7_room_0 : decode cX7_room 0 = .ok (.aload_n 0, 1) := by decide +kernel
theorem dX7_room_1 : decode cX7_room 1 = .ok (.invokevirtual 96, 3) := by decide +kernel
theorem dX7_room_4 : decode cX7_room 4 = .ok (.ifCond .eq 15, 3) := by decide +kernel
theorem dX7_room_19 : decode cX7_room 19 = .ok (.iconst (-1), 1) := by decide +kernel
theorem dX7_room_20 : decode cX7_room 20 = .ok (.ireturn, 1) := by decide +kernel
set_option maxRecDepth 100000 in
set_option maxHeartbeats 4000000 in
theorem c_X7_room_no_o {hp : List gA} {fi : Nat} {sp : Nat} {ci : Int32} {T : List Int32} {L : gLn} {R Lt A m : Nat} {J : gJr} {q1 q2 : gRs} {Bc Bs : Nat} {x : Int32} (HO : gWo hp fi sp ci T L R Lt A m J q1 q2 Bc Bs) (hm : rX7_mayStart ci L = 0) : gM yX7_room cX7_room 2 ((some .int)) 2 43 [.ref 0, .int x] (hp) (0) (0) (fun v h => v = some (.int ((-1))) ∧ (gWo h fi sp ci T L R Lt A m J q1 q2 Bc Bs ∧ gFO hp h J J)) := by
  refine gM_of (ls0 := [some (.ref 0), some (.int x)]) (by decide +kernel) (Nat.le_of_ble_eq_true rfl) rfl fun X C E => ?_
  refine g_aload_n (q := 1) C dX7_room_0 rfl rfl ?_
  refine g_callVi (x := (rX7_mayStart ci L)) (q := 4) (As := []) C gyX7_mayStart gvX7_mayStart t_539 (c_X7_mayStart_c HO.c HO.l) dX7_room_1 rfl HO.c rfl rfl rfl (Nat.le_of_ble_eq_true rfl) (Nat.le_of_ble_eq_true rfl) (Nat.le_of_ble_eq_true rfl) (Nat.le_of_ble_eq_true rfl) (Nat.le_of_ble_eq_true rfl) rfl ?_
  refine g_if_eq_t (t := 19) C dX7_room_4 (by decide) hm ?_
  refine g_iconst (v := (-1)) (q := 20) C dX7_room_19 (by decide) rfl ?_
  exact E.1 _ _ _ _ _ _ _ dX7_room_20 rfl rfl (Nat.le_of_ble_eq_true rfl) (Nat.le_of_ble_eq_true rfl) ⟨rfl, HO, gFO.rf⟩
theorem dX7_room_7 : decode cX7_room 7 = .ok (.iload_n 1, 1) := by decide +kernel
theorem dX7_room_8 : decode cX7_room 8 = .ok (.iconst 1, 1) := by decide +kernel
theorem dX7_room_9 : decode cX7_room 9 = .ok (.if_icmp .lt 10, 3) := by decide +kernel
theorem dX7_room_12 : decode cX7_room 12 = .ok (.iload_n 1, 1) := by decide +kernel
theorem dX7_room_13 : decode cX7_room 13 = .ok (.sipush 254, 3) := by decide +kernel
theorem dX7_room_16 : decode cX7_room 16 = .ok (.if_icmp .le 5, 3) := by decide +kernel
theorem dX7_room_21 : decode cX7_room 21 = .ok (.aload_n 0, 1) := by decide +kernel
theorem dX7_room_22 : decode cX7_room 22 = .ok (.getfield 30, 3) := by decide +kernel
theorem dX7_room_25 : decode cX7_room 25 = .ok (.iload_n 1, 1) := by decide +kernel
theorem dX7_room_26 : decode cX7_room 26 = .ok (.invokevirtual 107, 3) := by decide +kernel
theorem dX7_room_29 : decode cX7_room 29 = .ok (.aload_n 0, 1) := by decide +kernel
theorem dX7_room_30 : decode cX7_room 30 = .ok (.getfield 37, 3) := by decide +kernel
theorem dX7_room_33 : decode cX7_room 33 = .ok (.invokevirtual 83, 3) := by decide +kernel
theorem dX7_room_36 : decode cX7_room 36 = .ok (.iconst 1, 1) := by decide +kernel
theorem dX7_room_37 : decode cX7_room 37 = .ok (.ireturn, 1) := by decide +kernel
set_option maxRecDepth 100000 in
set_option maxHeartbeats 4000000 in
theorem c_X7_room_ok_o {hp : List gA} {fi : Nat} {sp : Nat} {ci : Int32} {T : List Int32} {L : gLn} {R Lt A m : Nat} {J : gJr} {q1 q2 : gRs} {Bc Bs : Nat} {x : Int32} (HO : gWo hp fi sp ci T L R Lt A m J q1 q2 Bc Bs) (hm : ¬ rX7_mayStart ci L = 0) (h1 : ¬ x < 1) (h2 : x ≤ 254) : gM yX7_room cX7_room 2 ((some .int)) 2 43 [.ref 0, .int x] (hp) (0) (0) (fun v h => v = some (.int (1)) ∧ (gWo h fi sp ci T (rX2_startRoom L x) R Lt A m J q1 q2 Bc Bs ∧ gFO hp h J J)) := by
  refine gM_of (ls0 := [some (.ref 0), some (.int x)]) (by decide +kernel) (Nat.le_of_ble_eq_true rfl) rfl fun X C E => ?_
  refine g_aload_n (q := 1) C dX7_room_0 rfl rfl ?_
  refine g_callVi (x := (rX7_mayStart ci L)) (q := 4) (As := []) C gyX7_mayStart gvX7_mayStart t_539 (c_X7_mayStart_c HO.c HO.l) dX7_room_1 rfl HO.c rfl rfl rfl (Nat.le_of_ble_eq_true rfl) (Nat.le_of_ble_eq_true rfl) (Nat.le_of_ble_eq_true rfl) (Nat.le_of_ble_eq_true rfl) (Nat.le_of_ble_eq_true rfl) rfl ?_
  refine g_if_eq_f (t := 19) (q := 7) C dX7_room_4 (by decide) rfl hm ?_
  refine g_iload_n (q := 8) C dX7_room_7 rfl rfl ?_
  refine g_iconst (v := 1) (q := 9) C dX7_room_8 (by decide) rfl ?_
  refine g_icmp_lt_f (t := 19) (q := 12) C dX7_room_9 (by decide) rfl h1 ?_
  refine g_iload_n (q := 13) C dX7_room_12 rfl rfl ?_
  refine g_sipush (v := 254) (q := 16) C dX7_room_13 (by decide) rfl ?_
  refine g_icmp_le_t (t := 21) C dX7_room_16 (by decide) h2 ?_
  refine g_aload_n (q := 22) C dX7_room_21 rfl rfl ?_
  refine g_getfield (v := .ref 20) (q := 25) C fX7_30 dX7_room_22 rfl HO.c rfl ?_
  refine g_iload_n (q := 26) C dX7_room_25 rfl rfl ?_
  refine g_callVvp (q := 29) (As := [.int x]) C gyX2_startRoom gvX2_startRoom t_566 (c_X2_startRoom_l HO.l) dX7_room_26 rfl HO.l.1 rfl rfl rfl (Nat.le_of_ble_eq_true rfl) (Nat.le_of_ble_eq_true rfl) (Nat.le_of_ble_eq_true rfl) (Nat.le_of_ble_eq_true rfl) (Nat.le_of_ble_eq_true rfl) rfl (fun h1 z1 => ?_)
  obtain ⟨HO1, FO1⟩ := gWo.line HO z1
  refine g_aload_n (q := 30) C dX7_room_29 rfl rfl ?_
  refine g_getfield (v := .ref 43) (q := 33) C fX7_37 dX7_room_30 rfl HO1.c rfl ?_
  refine g_callVvp (q := 36) (As := []) C gyX0_forget gvX0_forget t_508 (c_X0_forget_w HO1.f) dX7_room_33 rfl HO1.f.1 rfl rfl rfl (Nat.le_of_ble_eq_true rfl) (Nat.le_of_ble_eq_true rfl) (Nat.le_of_ble_eq_true rfl) (Nat.le_of_ble_eq_true rfl) (Nat.le_of_ble_eq_true rfl) rfl (fun h2 z2 => ?_)
  obtain ⟨HO2, FO2⟩ := gWo.fore HO1 z2
  refine g_iconst (v := 1) (q := 37) C dX7_room_36 (by decide) rfl ?_
  exact E.1 _ _ _ _ _ _ _ dX7_room_37 rfl rfl (Nat.le_of_ble_eq_true rfl) (Nat.le_of_ble_eq_true rfl) ⟨rfl, HO2, (gFO.trans FO1 FO2)⟩
theorem dX7_fault_0 : decode cX7_fault 0 = .ok (.iload_n 2, 1) := by decide +kernel
theorem dX7_fault_1 : decode cX7_fault 1 = .ok (.iconst 2, 1) := by decide +kernel
theorem dX7_fault_2 : decode cX7_fault 2 = .ok (.if_icmp .ne 23, 3) := by decide +kernel
theorem dX7_fault_25 : decode cX7_fault 25 = .ok (.iload_n 3, 1) := by decide +kernel
theorem dX7_fault_26 : decode cX7_fault 26 = .ok (.ifCond .ne 7, 3) := by decide +kernel
theorem dX7_fault_29 : decode cX7_fault 29 = .ok (.iconst 1, 1) := by decide +kernel
theorem dX7_fault_30 : decode cX7_fault 30 = .ok (.goto 4, 3) := by decide +kernel
theorem dX7_fault_34 : decode cX7_fault 34 = .ok (.istore 4, 2) := by decide +kernel
theorem dX7_fault_36 : decode cX7_fault 36 = .ok (.aload_n 0, 1) := by decide +kernel
theorem dX7_fault_37 : decode cX7_fault 37 = .ok (.getfield 51, 3) := by decide +kernel
theorem dX7_fault_40 : decode cX7_fault 40 = .ok (.ifCond .eq 29, 3) := by decide +kernel
theorem dX7_fault_43 : decode cX7_fault 43 = .ok (.iload_n 1, 1) := by decide +kernel
theorem dX7_fault_44 : decode cX7_fault 44 = .ok (.ifCond .lt 25, 3) := by decide +kernel
theorem dX7_fault_47 : decode cX7_fault 47 = .ok (.iload_n 1, 1) := by decide +kernel
theorem dX7_fault_48 : decode cX7_fault 48 = .ok (.sipush 999, 3) := by decide +kernel
theorem dX7_fault_51 : decode cX7_fault 51 = .ok (.if_icmp .gt 18, 3) := by decide +kernel
theorem dX7_fault_54 : decode cX7_fault 54 = .ok (.iload_n 2, 1) := by decide +kernel
theorem dX7_fault_55 : decode cX7_fault 55 = .ok (.iconst 1, 1) := by decide +kernel
theorem dX7_fault_56 : decode cX7_fault 56 = .ok (.if_icmp .lt 13, 3) := by decide +kernel
theorem dX7_fault_59 : decode cX7_fault 59 = .ok (.iload_n 2, 1) := by decide +kernel
theorem dX7_fault_60 : decode cX7_fault 60 = .ok (.iconst 3, 1) := by decide +kernel
theorem dX7_fault_61 : decode cX7_fault 61 = .ok (.if_icmp .gt 8, 3) := by decide +kernel
theorem dX7_fault_64 : decode cX7_fault 64 = .ok (.iload 4, 2) := by decide +kernel
theorem dX7_fault_66 : decode cX7_fault 66 = .ok (.ifCond .ne 5, 3) := by decide +kernel
theorem dX7_fault_69 : decode cX7_fault 69 = .ok (.iconst (-1), 1) := by decide +kernel
theorem dX7_fault_70 : decode cX7_fault 70 = .ok (.ireturn, 1) := by decide +kernel
theorem dX7_fault_71 : decode cX7_fault 71 = .ok (.aload_n 0, 1) := by decide +kernel
theorem dX7_fault_72 : decode cX7_fault 72 = .ok (.getfield 30, 3) := by decide +kernel
theorem dX7_fault_75 : decode cX7_fault 75 = .ok (.getfield 114, 3) := by decide +kernel
theorem dX7_fault_78 : decode cX7_fault 78 = .ok (.invokevirtual 118, 3) := by decide +kernel
theorem dX7_fault_81 : decode cX7_fault 81 = .ok (.ifCond .eq 5, 3) := by decide +kernel
theorem dX7_fault_84 : decode cX7_fault 84 = .ok (.iconst (-1), 1) := by decide +kernel
theorem dX7_fault_85 : decode cX7_fault 85 = .ok (.ireturn, 1) := by decide +kernel
theorem dX7_fault_86 : decode cX7_fault 86 = .ok (.aload_n 0, 1) := by decide +kernel
theorem dX7_fault_87 : decode cX7_fault 87 = .ok (.getfield 30, 3) := by decide +kernel
theorem dX7_fault_90 : decode cX7_fault 90 = .ok (.getfield 114, 3) := by decide +kernel
theorem dX7_fault_93 : decode cX7_fault 93 = .ok (.iload_n 1, 1) := by decide +kernel
theorem dX7_fault_94 : decode cX7_fault 94 = .ok (.iload_n 2, 1) := by decide +kernel
theorem dX7_fault_95 : decode cX7_fault 95 = .ok (.iload_n 3, 1) := by decide +kernel
theorem dX7_fault_96 : decode cX7_fault 96 = .ok (.invokevirtual 123, 3) := by decide +kernel
theorem dX7_fault_99 : decode cX7_fault 99 = .ok (.aload_n 0, 1) := by decide +kernel
theorem dX7_fault_100 : decode cX7_fault 100 = .ok (.getfield 37, 3) := by decide +kernel
theorem dX7_fault_103 : decode cX7_fault 103 = .ok (.invokevirtual 83, 3) := by decide +kernel
theorem dX7_fault_106 : decode cX7_fault 106 = .ok (.aload_n 0, 1) := by decide +kernel
theorem dX7_fault_107 : decode cX7_fault 107 = .ok (.getfield 30, 3) := by decide +kernel
theorem dX7_fault_110 : decode cX7_fault 110 = .ok (.getfield 114, 3) := by decide +kernel
theorem dX7_fault_113 : decode cX7_fault 113 = .ok (.invokevirtual 127, 3) := by decide +kernel
theorem dX7_fault_116 : decode cX7_fault 116 = .ok (.ireturn, 1) := by decide +kernel
set_option maxRecDepth 100000 in
set_option maxHeartbeats 4000000 in
theorem c_X7_fault_o_o {hp : List gA} {fi : Nat} {sp : Nat} {ci : Int32} {T : List Int32} {L : gLn} {R Lt A m : Nat} {J : gJr} {q1 q2 : gRs} {Bc Bs : Nat} {x y : Int32} (HO : gWo hp fi sp ci T L R Lt A m J q1 q2 Bc Bs) (hk : y = 1 ∨ y = 3) (hk2 : ¬ y = 2) : gM yX7_fault cX7_fault 5 ((some .int)) 3 68 [.ref 0, .int x, .int y, .int 0] (hp) (0) (0) (fun v h => ∃ z, v = some (.int z) ∧ (∃ m1, m1 ≤ m + 1 ∧ gWo h fi sp ci T L R Lt A m1 J q1 q2 Bc Bs ∧ gFO hp h J J)) := by
  refine gM_of (ls0 := [some (.ref 0), some (.int x), some (.int y), some (.int 0), none]) (by decide +kernel) (Nat.le_of_ble_eq_true rfl) rfl fun X C E => ?_
  refine g_iload_n (q := 1) C dX7_fault_0 rfl rfl ?_
  refine g_iconst (v := 2) (q := 2) C dX7_fault_1 (by decide) rfl ?_
  refine g_icmp_ne_t (t := 25) C dX7_fault_2 (by decide) hk2 ?_
  refine g_iload_n (q := 26) C dX7_fault_25 rfl rfl ?_
  refine g_if_ne_f (t := 33) (q := 29) C dX7_fault_26 (by decide) rfl (by decide) ?_
  refine g_iconst (v := 1) (q := 30) C dX7_fault_29 (by decide) rfl ?_
  refine g_goto (q := 34) C dX7_fault_30 (by decide) ?_
  refine g_istore (q := 36) C dX7_fault_34 (Nat.le_of_ble_eq_true rfl) (by simp only [gset]; rfl) rfl ?_
  refine g_aload_n (q := 37) C dX7_fault_36 rfl rfl ?_
  refine g_getfield (v := .int ci) (q := 40) C fX7_51 dX7_fault_37 rfl HO.c rfl ?_
  refine g_if_eq (t := 69) (q := 43) C dX7_fault_40 (by decide) rfl (fun c_40 => ?_) (fun c_40 => ?_)
  ·
    refine g_iconst (v := (-1)) (q := 70) C dX7_fault_69 (by decide) rfl ?_
    exact E.1 _ _ _ _ _ _ _ dX7_fault_70 rfl rfl (Nat.le_of_ble_eq_true rfl) (Nat.le_of_ble_eq_true rfl) ⟨_, rfl, m, Nat.le_succ _, HO, gFO.rf⟩
  ·
    refine g_iload_n (q := 44) C dX7_fault_43 rfl rfl ?_
    refine g_if_lt (t := 69) (q := 47) C dX7_fault_44 (by decide) rfl (fun c_44 => ?_) (fun c_44 => ?_)
    ·
      refine g_iconst (v := (-1)) (q := 70) C dX7_fault_69 (by decide) rfl ?_
      exact E.1 _ _ _ _ _ _ _ dX7_fault_70 rfl rfl (Nat.le_of_ble_eq_true rfl) (Nat.le_of_ble_eq_true rfl) ⟨_, rfl, m, Nat.le_succ _, HO, gFO.rf⟩
    ·
      refine g_iload_n (q := 48) C dX7_fault_47 rfl rfl ?_
      refine g_sipush (v := 999) (q := 51) C dX7_fault_48 (by decide) rfl ?_
      refine g_icmp_gt (t := 69) (q := 54) C dX7_fault_51 (by decide) rfl (fun c_51 => ?_) (fun c_51 => ?_)
      ·
        refine g_iconst (v := (-1)) (q := 70) C dX7_fault_69 (by decide) rfl ?_
        exact E.1 _ _ _ _ _ _ _ dX7_fault_70 rfl rfl (Nat.le_of_ble_eq_true rfl) (Nat.le_of_ble_eq_true rfl) ⟨_, rfl, m, Nat.le_succ _, HO, gFO.rf⟩
      ·
        refine g_iload_n (q := 55) C dX7_fault_54 rfl rfl ?_
        refine g_iconst (v := 1) (q := 56) C dX7_fault_55 (by decide) rfl ?_
        refine g_icmp_lt (t := 69) (q := 59) C dX7_fault_56 (by decide) rfl (fun c_56 => ?_) (fun c_56 => ?_)
        ·
          refine g_iconst (v := (-1)) (q := 70) C dX7_fault_69 (by decide) rfl ?_
          exact E.1 _ _ _ _ _ _ _ dX7_fault_70 rfl rfl (Nat.le_of_ble_eq_true rfl) (Nat.le_of_ble_eq_true rfl) ⟨_, rfl, m, Nat.le_succ _, HO, gFO.rf⟩
        ·
          refine g_iload_n (q := 60) C dX7_fault_59 rfl rfl ?_
          refine g_iconst (v := 3) (q := 61) C dX7_fault_60 (by decide) rfl ?_
          refine g_icmp_gt (t := 69) (q := 64) C dX7_fault_61 (by decide) rfl (fun c_61 => ?_) (fun c_61 => ?_)
          ·
            refine g_iconst (v := (-1)) (q := 70) C dX7_fault_69 (by decide) rfl ?_
            exact E.1 _ _ _ _ _ _ _ dX7_fault_70 rfl rfl (Nat.le_of_ble_eq_true rfl) (Nat.le_of_ble_eq_true rfl) ⟨_, rfl, m, Nat.le_succ _, HO, gFO.rf⟩
          ·
            refine g_iload (q := 66) C dX7_fault_64 rfl rfl ?_
            refine g_if_ne_t (t := 71) C dX7_fault_66 (by decide) (by decide) ?_
            refine g_aload_n (q := 72) C dX7_fault_71 rfl rfl ?_
            refine g_getfield (v := .ref 20) (q := 75) C fX7_30 dX7_fault_72 rfl HO.c rfl ?_
            refine g_getfieldW (v := .ref 35) (q := 78) C fX7_114 dX7_fault_75 rfl HO.l.1 rfl ?_
            obtain ⟨fl, fk, fb, pk, bn, hw, -⟩ := id HO.w
            refine g_callVi (x := (if m = 24 then 1 else 0)) (q := 81) (As := []) C gyX6_isFull gvX6_isFull t_574 (c_X6_isFull_w HO.w) dX7_fault_78 rfl hw rfl rfl rfl (Nat.le_of_ble_eq_true rfl) (Nat.le_of_ble_eq_true rfl) (Nat.le_of_ble_eq_true rfl) (Nat.le_of_ble_eq_true rfl) (Nat.le_of_ble_eq_true rfl) rfl ?_
            refine g_if_eq (t := 86) (q := 84) C dX7_fault_81 (by decide) rfl (fun c_81 => ?_) (fun c_81 => ?_)
            ·
              refine g_aload_n (q := 87) C dX7_fault_86 rfl rfl ?_
              refine g_getfield (v := .ref 20) (q := 90) C fX7_30 dX7_fault_87 rfl HO.c rfl ?_
              refine g_getfieldW (v := .ref 35) (q := 93) C fX7_114 dX7_fault_90 rfl HO.l.1 rfl ?_
              refine g_iload_n (q := 94) C dX7_fault_93 rfl rfl ?_
              refine g_iload_n (q := 95) C dX7_fault_94 rfl rfl ?_
              refine g_iload_n (q := 96) C dX7_fault_95 rfl rfl ?_
              obtain ⟨fl, fk, fb, pk, bn, hw, -⟩ := id HO.w
              refine g_callVvp (q := 99) (As := [.int x, .int y, .int 0]) C gyX6_addFault gvX6_addFault t_578 (c_X6_addFault_w (H := HO.w) (hm1 := by have := HO.w; obtain ⟨_, _, _, _, _, _, _, _, _, h9, -⟩ := this; rcases Nat.lt_or_ge m 24 with h8 | h8; exact h8; exact absurd (if_pos (show m = 24 by omega)) (by intro h7; rw [h7] at c_81; exact absurd c_81 (by decide))) (hy := hk)) dX7_fault_96 rfl hw rfl rfl rfl (Nat.le_of_ble_eq_true rfl) (Nat.le_of_ble_eq_true rfl) (Nat.le_of_ble_eq_true rfl) (Nat.le_of_ble_eq_true rfl) (Nat.le_of_ble_eq_true rfl) rfl (fun h1 z1 => ?_)
              obtain ⟨m1, hm1, zw1, zw2⟩ := z1
              obtain ⟨HO1, FO1⟩ := gWo.wire HO ⟨zw1, zw2⟩
              refine g_aload_n (q := 100) C dX7_fault_99 rfl rfl ?_
              refine g_getfield (v := .ref 43) (q := 103) C fX7_37 dX7_fault_100 rfl HO1.c rfl ?_
              refine g_callVvp (q := 106) (As := []) C gyX0_forget gvX0_forget t_508 (c_X0_forget_w HO1.f) dX7_fault_103 rfl HO1.f.1 rfl rfl rfl (Nat.le_of_ble_eq_true rfl) (Nat.le_of_ble_eq_true rfl) (Nat.le_of_ble_eq_true rfl) (Nat.le_of_ble_eq_true rfl) (Nat.le_of_ble_eq_true rfl) rfl (fun h2 z2 => ?_)
              obtain ⟨HO2, FO2⟩ := gWo.fore HO1 z2
              refine g_aload_n (q := 107) C dX7_fault_106 rfl rfl ?_
              refine g_getfield (v := .ref 20) (q := 110) C fX7_30 dX7_fault_107 rfl HO2.c rfl ?_
              refine g_getfieldW (v := .ref 35) (q := 113) C fX7_114 dX7_fault_110 rfl HO2.l.1 rfl ?_
              obtain ⟨fl9, fk9, fb9, pk9, bn9, hw9, -⟩ := id HO2.w
              refine g_callVi (x := (nI m1)) (q := 116) (As := []) C gyX6_faults gvX6_faults t_587 (c_X6_faults_w HO2.w) dX7_fault_113 rfl hw9 rfl rfl rfl (Nat.le_of_ble_eq_true rfl) (Nat.le_of_ble_eq_true rfl) (Nat.le_of_ble_eq_true rfl) (Nat.le_of_ble_eq_true rfl) (Nat.le_of_ble_eq_true rfl) rfl ?_
              exact E.1 _ _ _ _ _ _ _ dX7_fault_116 rfl rfl (Nat.le_of_ble_eq_true rfl) (Nat.le_of_ble_eq_true rfl) ⟨_, rfl, m1, hm1, HO2, (gFO.trans FO1 FO2)⟩
            ·
              refine g_iconst (v := (-1)) (q := 85) C dX7_fault_84 (by decide) rfl ?_
              exact E.1 _ _ _ _ _ _ _ dX7_fault_85 rfl rfl (Nat.le_of_ble_eq_true rfl) (Nat.le_of_ble_eq_true rfl) ⟨_, rfl, m, Nat.le_succ _, HO, gFO.rf⟩
theorem dX7_step_0 : decode cX7_step 0 = .ok (.iload_n 1, 1) := by decide +kernel
theorem dX7_step_1 : decode cX7_step 1 = .ok (.iconst 1, 1) := by decide +kernel
theorem dX7_step_2 : decode cX7_step 2 = .ok (.if_icmp .lt 16, 3) := by decide +kernel
theorem dX7_step_5 : decode cX7_step 5 = .ok (.iload_n 1, 1) := by decide +kernel
theorem dX7_step_6 : decode cX7_step 6 = .ok (.bipush 60, 2) := by decide +kernel
theorem dX7_step_8 : decode cX7_step 8 = .ok (.if_icmp .gt 10, 3) := by decide +kernel
theorem dX7_step_11 : decode cX7_step 11 = .ok (.aload_n 0, 1) := by decide +kernel
theorem dX7_step_12 : decode cX7_step 12 = .ok (.invokevirtual 133, 3) := by decide +kernel
theorem dX7_step_15 : decode cX7_step 15 = .ok (.ifCond .ne 5, 3) := by decide +kernel
theorem dX7_step_20 : decode cX7_step 20 = .ok (.aload_n 0, 1) := by decide +kernel
theorem dX7_step_21 : decode cX7_step 21 = .ok (.getfield 37, 3) := by decide +kernel
theorem dX7_step_24 : decode cX7_step 24 = .ok (.invokevirtual 83, 3) := by decide +kernel
theorem dX7_step_27 : decode cX7_step 27 = .ok (.aload_n 0, 1) := by decide +kernel
theorem dX7_step_28 : decode cX7_step 28 = .ok (.getfield 30, 3) := by decide +kernel
theorem dX7_step_31 : decode cX7_step 31 = .ok (.iload_n 1, 1) := by decide +kernel
theorem dX7_step_32 : decode cX7_step 32 = .ok (.invokevirtual 136, 3) := by decide +kernel
theorem dX7_step_35 : decode cX7_step 35 = .ok (.ireturn, 1) := by decide +kernel
set_option maxRecDepth 100000 in
set_option maxHeartbeats 4000000 in
theorem c_X7_step_run_o {hp : List gA} {fi : Nat} {sp : Nat} {ci : Int32} {T : List Int32} {L : gLn} {R Lt A m : Nat} {J : gJr} {q1 q2 : gRs} {Bc Bs : Nat} {n k0 : Nat} {I : Nat → gLn → Nat → Nat → Nat → gJr → Prop} (HO : gWo hp fi sp ci T L R Lt A m J q1 q2 Bc Bs) (hc : Bc ≤ 200000) (hs : Bs ≤ 1000000) (hci : ¬ ci = 0) (hst : L.st = 1) (h1n : 1 ≤ n) (hn : n ≤ 60) (hR : R ≤ 3) (hI0 : I k0 L Lt A m J) (hpre : ∀ k L Lt A m J, I k L Lt A m J → Lt ≤ 999990000 ∧ ∃ N, N + 1 ≤ 15000 ∧ gJpre N J ∧ (L.oc = 0 → 4 ≤ L.ca.length)) (hstep : ∀ k L Lt A m J L2 Lt2 A2 m2 J2, I k L Lt A m J → L.st = 1 → gTurn L Lt A m J L2 Lt2 A2 m2 J2 → I (k + 1) L2 Lt2 A2 m2 J2) : gM yX7_step cX7_step 2 ((some .int)) 8 223 [.ref 0, .int ((nI n))] (hp) (300000 - hp.length) (7000000 - gsz hp) (fun v h => ∃ z, v = some (.int z) ∧ (∃ (k' : Nat) (L' : gLn) (Lt' A' m' : Nat) (J' : gJr), gWo h fi sp ci T L' R Lt' A' m' J' q1 q2 Bc Bs ∧ gFO hp h J J' ∧ I k' L' Lt' A' m' J' ∧ (k' = k0 + n ∨ ¬ L'.st = 1) ∧ z = rX2_blocksSent L' - rX2_blocksSent L)) := by
  refine gM_ofT (ls0 := [some (.ref 0), some (.int ((nI n)))]) (by decide +kernel) (Nat.le_of_ble_eq_true rfl) rfl fun X C E h0 => ?_
  have bl0 := gBud.lim HO.b HO.j.2.2 hc hs
  have B0 := HO.b
  refine g_iload_n (q := 1) C dX7_step_0 rfl rfl ?_
  refine g_iconst (v := 1) (q := 2) C dX7_step_1 (by decide) rfl ?_
  refine g_icmp_lt_f (t := 18) (q := 5) C dX7_step_2 (by decide) rfl (fun h => by rw [Int32.lt_iff_toInt_lt, nI_toInt (by omega), show (1 : Int32).toInt = 1 from by decide] at h; omega) ?_
  refine g_iload_n (q := 6) C dX7_step_5 rfl rfl ?_
  refine g_bipush (v := 60) (q := 8) C dX7_step_6 (by decide) rfl ?_
  refine g_icmp_gt_f (t := 18) (q := 11) C dX7_step_8 (by decide) rfl (fun h => by rw [Int32.lt_iff_toInt_lt, nI_toInt (by omega), show (60 : Int32).toInt = 60 from by decide] at h; omega) ?_
  refine g_aload_n (q := 12) C dX7_step_11 rfl rfl ?_
  refine g_callVi (x := (rX7_onWay ci L)) (q := 15) (As := []) C gyX7_onWay gvX7_onWay t_599 (c_X7_onWay_c HO.c HO.l) dX7_step_12 rfl HO.c rfl rfl rfl (Nat.le_of_ble_eq_true rfl) (Nat.le_of_ble_eq_true rfl) (Nat.le_of_ble_eq_true rfl) (by show _ + _ ≤ 300000 - List.length hp; omega) (by show _ + _ ≤ 7000000 - gsz hp; omega) rfl ?_
  refine g_if_ne_t (t := 20) C dX7_step_15 (by decide) (by unfold rX7_onWay; rw [if_neg hci, if_pos hst]; decide) ?_
  refine g_aload_n (q := 21) C dX7_step_20 rfl rfl ?_
  refine g_getfield (v := .ref 43) (q := 24) C fX7_37 dX7_step_21 rfl HO.c rfl ?_
  refine g_callVvp (q := 27) (As := []) C gyX0_forget gvX0_forget t_508 (c_X0_forget_w HO.f) dX7_step_24 rfl HO.f.1 rfl rfl rfl (Nat.le_of_ble_eq_true rfl) (Nat.le_of_ble_eq_true rfl) (Nat.le_of_ble_eq_true rfl) (by show _ + _ ≤ 300000 - List.length hp; omega) (by show _ + _ ≤ 7000000 - gsz hp; omega) rfl (fun h1 z1 => ?_)
  obtain ⟨HO1, FO1⟩ := gWo.fore HO z1
  refine g_aload_n (q := 28) C dX7_step_27 rfl rfl ?_
  refine g_getfield (v := .ref 20) (q := 31) C fX7_30 dX7_step_28 rfl HO1.c rfl ?_
  refine g_iload_n (q := 32) C dX7_step_31 rfl rfl ?_
  have bl1 := gBud.lim HO1.b HO1.j.2.2 hc hs
  refine g_tight h0 B0.1 HO1.b.1 (fun t2a t2b => ?_)
  refine g_callVip (q := 35) (As := [.int ((nI n))]) C gyX2_run gvX2_run t_603 (c_X2_run_l (n := n) HO1.l HO1.w HO1.j HO1.b hc hs hR (by omega) hI0 hpre hstep) dX7_step_32 rfl HO1.l.1 rfl rfl rfl (Nat.le_of_ble_eq_true rfl) (Nat.le_of_ble_eq_true rfl) (Nat.le_of_ble_eq_true rfl) (by show _ + _ ≤ 300000 - List.length hp; omega) (by show _ + _ ≤ 7000000 - gsz hp; omega) rfl (fun x3 h3 z3 => ?_)
  obtain ⟨k', L', Lt', A', m', J', zl, zw, zj, zb, zf, za, zI, zk, zx⟩ := z3
  obtain ⟨HO3, FO3⟩ := gWo.grow HO1 zl zw zj zb zf za
  exact E.1 _ _ _ _ _ _ _ dX7_step_35 rfl rfl (by omega) (by omega) ⟨_, rfl, k', L', Lt', A', m', J', HO3, (gFO.trans FO1 FO3), zI, zk, zx⟩
theorem dX7_step_18 : decode cX7_step 18 = .ok (.iconst (-1), 1) := by decide +kernel
theorem dX7_step_19 : decode cX7_step 19 = .ok (.ireturn, 1) := by decide +kernel
set_option maxRecDepth 100000 in
set_option maxHeartbeats 4000000 in
theorem c_X7_step_no_o {hp : List gA} {fi : Nat} {sp : Nat} {ci : Int32} {T : List Int32} {L : gLn} {R Lt A m : Nat} {J : gJr} {q1 q2 : gRs} {Bc Bs : Nat} {x : Int32} (HO : gWo hp fi sp ci T L R Lt A m J q1 q2 Bc Bs) (hw : rX7_onWay ci L = 0) : gM yX7_step cX7_step 2 ((some .int)) 8 223 [.ref 0, .int x] (hp) (0) (0) (fun v h => v = some (.int ((-1))) ∧ (gWo h fi sp ci T L R Lt A m J q1 q2 Bc Bs ∧ gFO hp h J J)) := by
  refine gM_of (ls0 := [some (.ref 0), some (.int x)]) (by decide +kernel) (Nat.le_of_ble_eq_true rfl) rfl fun X C E => ?_
  refine g_iload_n (q := 1) C dX7_step_0 rfl rfl ?_
  refine g_iconst (v := 1) (q := 2) C dX7_step_1 (by decide) rfl ?_
  refine g_icmp_lt (t := 18) (q := 5) C dX7_step_2 (by decide) rfl (fun c_2 => ?_) (fun c_2 => ?_)
  ·
    refine g_iconst (v := (-1)) (q := 19) C dX7_step_18 (by decide) rfl ?_
    exact E.1 _ _ _ _ _ _ _ dX7_step_19 rfl rfl (Nat.le_of_ble_eq_true rfl) (Nat.le_of_ble_eq_true rfl) ⟨rfl, HO, gFO.rf⟩
  ·
    refine g_iload_n (q := 6) C dX7_step_5 rfl rfl ?_
    refine g_bipush (v := 60) (q := 8) C dX7_step_6 (by decide) rfl ?_
    refine g_icmp_gt (t := 18) (q := 11) C dX7_step_8 (by decide) rfl (fun c_8 => ?_) (fun c_8 => ?_)
    ·
      refine g_iconst (v := (-1)) (q := 19) C dX7_step_18 (by decide) rfl ?_
      exact E.1 _ _ _ _ _ _ _ dX7_step_19 rfl rfl (Nat.le_of_ble_eq_true rfl) (Nat.le_of_ble_eq_true rfl) ⟨rfl, HO, gFO.rf⟩
    ·
      refine g_aload_n (q := 12) C dX7_step_11 rfl rfl ?_
      refine g_callVi (x := (rX7_onWay ci L)) (q := 15) (As := []) C gyX7_onWay gvX7_onWay t_599 (c_X7_onWay_c HO.c HO.l) dX7_step_12 rfl HO.c rfl rfl rfl (Nat.le_of_ble_eq_true rfl) (Nat.le_of_ble_eq_true rfl) (Nat.le_of_ble_eq_true rfl) (Nat.le_of_ble_eq_true rfl) (Nat.le_of_ble_eq_true rfl) rfl ?_
      refine g_if_ne_f (t := 20) (q := 18) C dX7_step_15 (by decide) rfl hw ?_
      refine g_iconst (v := (-1)) (q := 19) C dX7_step_18 (by decide) rfl ?_
      exact E.1 _ _ _ _ _ _ _ dX7_step_19 rfl rfl (Nat.le_of_ble_eq_true rfl) (Nat.le_of_ble_eq_true rfl) ⟨rfl, HO, gFO.rf⟩
