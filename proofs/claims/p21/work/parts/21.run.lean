/-! Line.run, startMessage, blocksAhead, restart (by program: wip/p1/m_run.py) -/
theorem dX2_run_0 : decode cX2_run 0 = .ok (.aload_n 0, 1) := by decide +kernel
theorem dX2_run_1 : decode cX2_run 1 = .ok (.invokevirtual 121, 3) := by decide +kernel
theorem dX2_run_4 : decode cX2_run 4 = .ok (.istore_n 2, 1) := by decide +kernel
theorem dX2_run_5 : decode cX2_run 5 = .ok (.iconst 0, 1) := by decide +kernel
theorem dX2_run_6 : decode cX2_run 6 = .ok (.istore_n 3, 1) := by decide +kernel
theorem dX2_run_7 : decode cX2_run 7 = .ok (.iload_n 3, 1) := by decide +kernel
theorem dX2_run_8 : decode cX2_run 8 = .ok (.iload_n 1, 1) := by decide +kernel
theorem dX2_run_9 : decode cX2_run 9 = .ok (.if_icmp .ge 21, 3) := by decide +kernel
theorem dX2_run_12 : decode cX2_run 12 = .ok (.aload_n 0, 1) := by decide +kernel
theorem dX2_run_13 : decode cX2_run 13 = .ok (.getfield 30, 3) := by decide +kernel
theorem dX2_run_16 : decode cX2_run 16 = .ok (.iconst 1, 1) := by decide +kernel
theorem dX2_run_17 : decode cX2_run 17 = .ok (.if_icmp .ne 13, 3) := by decide +kernel
theorem dX2_run_20 : decode cX2_run 20 = .ok (.aload_n 0, 1) := by decide +kernel
theorem dX2_run_21 : decode cX2_run 21 = .ok (.invokevirtual 122, 3) := by decide +kernel
theorem dX2_run_24 : decode cX2_run 24 = .ok (.iinc 3 1, 3) := by decide +kernel
theorem dX2_run_27 : decode cX2_run 27 = .ok (.goto (-20), 3) := by decide +kernel
theorem dX2_run_30 : decode cX2_run 30 = .ok (.aload_n 0, 1) := by decide +kernel
theorem dX2_run_31 : decode cX2_run 31 = .ok (.invokevirtual 121, 3) := by decide +kernel
theorem dX2_run_34 : decode cX2_run 34 = .ok (.iload_n 2, 1) := by decide +kernel
theorem dX2_run_35 : decode cX2_run 35 = .ok (.isub, 1) := by decide +kernel
theorem dX2_run_36 : decode cX2_run 36 = .ok (.ireturn, 1) := by decide +kernel
set_option maxRecDepth 100000 in
set_option maxHeartbeats 4000000 in
theorem c_X2_run_l {hp : List gA} {L : gLn}  {J : gJr} {R Lt A m n k0 Bc Bs : Nat} {I : Nat → gLn → Nat → Nat → Nat → gJr → Prop} (HL : gLine hp L) (HW : gWire hp 35 (nI R) (nI Lt) (nI A) m) (HJ : gJn hp J) (B0 : gBud hp J Bc Bs) (hc : Bc ≤ 200000) (hs : Bs ≤ 1000000) (hR : R ≤ 3) (hn : n < 2 ^ 31) (hI0 : I k0 L Lt A m J) (hpre : ∀ k L Lt A m J, I k L Lt A m J → Lt ≤ 999990000 ∧ ∃ N, N + 1 ≤ 15000 ∧ gJpre N J ∧ (L.oc = 0 → 4 ≤ L.ca.length)) (hstep : ∀ k L Lt A m J L2 Lt2 A2 m2 J2, I k L Lt A m J → L.st = 1 → gTurn L Lt A m J L2 Lt2 A2 m2 J2 → I (k + 1) L2 Lt2 A2 m2 J2) : gM yX2_run cX2_run 4 ((some .int)) 7 200 [.ref 20, .int ((nI n))] (hp) (300000 - hp.length) (7000000 - gsz hp) (fun v h => ∃ x, v = some (.int x) ∧ (∃ (k' : Nat) (L' : gLn) (Lt' A' m' : Nat) (J' : gJr), gLine h L' ∧ gWire h 35 (nI R) (nI Lt') (nI A') m' ∧ gJn h J' ∧ gBud h J' Bc Bs ∧ gFX hp h J ∧ gAd hp J J' ∧ I k' L' Lt' A' m' J' ∧ (k' = k0 + n ∨ ¬ L'.st = 1) ∧ x = rX2_blocksSent L' - rX2_blocksSent L)) := by
  refine gM_ofT (ls0 := [some (.ref 20), some (.int ((nI n))), none, none]) (by decide +kernel) (Nat.le_of_ble_eq_true rfl) rfl fun X C E h0 => ?_
  have bl0 := gBud.lim B0 HJ.2.2 hc hs
  refine g_aload_n (q := 1) C dX2_run_0 rfl rfl ?_
  refine g_callVi (x := (rX2_blocksSent L)) (q := 4) (As := []) C gyX2_blocksSent gvX2_blocksSent t_607 (c_X2_blocksSent_l HL) dX2_run_1 rfl HL.1 rfl rfl rfl (Nat.le_of_ble_eq_true rfl) (Nat.le_of_ble_eq_true rfl) (Nat.le_of_ble_eq_true rfl) (by show _ + _ ≤ 300000 - List.length hp; omega) (by show _ + _ ≤ 7000000 - gsz hp; omega) rfl ?_
  refine g_istore_n (q := 5) C dX2_run_4 (Nat.le_of_ble_eq_true rfl) (by simp only [gset]; rfl) rfl ?_
  refine g_iconst (v := 0) (q := 6) C dX2_run_5 (by decide) rfl ?_
  refine g_istore_n (q := 7) C dX2_run_6 (Nat.le_of_ble_eq_true rfl) (by simp only [gset]; rfl) rfl ?_
  have K : ∀ j k : Nat, ∀ (hq : List gA) (L1 : gLn) (Lt1 A1 m1 : Nat) (J1 : gJr) (cq sq : Nat), gLine hq L1 → gWire hq 35 (nI R) (nI Lt1) (nI A1) m1 → gJn hq J1 → gBud hq J1 Bc Bs → gFX hp hq J → gAd hp J J1 → I k L1 Lt1 A1 m1 J1 → (k = k0 + n ∨ ¬ L1.st = 1) → gG X 30 [some (.ref 20), some (.int (nI n)), some (.int (rX2_blocksSent L)), some (.int (nI j))] [] hq cq sq := by
    intro j k hq L1 Lt1 A1 m1 J1 cq sq HL1 HW1 HJ1 B1 F1 AD1 hI hk
    have bl1 := gBud.lim B1 HJ1.2.2 hc hs
    refine g_tight h0 B0.1 B1.1 (fun ta tb => ?_)
    refine g_aload_n (q := 31) C dX2_run_30 rfl rfl ?_
    refine g_callVi (x := (rX2_blocksSent L1)) (q := 34) (As := []) C gyX2_blocksSent gvX2_blocksSent t_607 (c_X2_blocksSent_l HL1) dX2_run_31 rfl HL1.1 rfl rfl rfl (Nat.le_of_ble_eq_true rfl) (Nat.le_of_ble_eq_true rfl) (Nat.le_of_ble_eq_true rfl) (by show _ + _ ≤ 300000 - List.length hp; omega) (by show _ + _ ≤ 7000000 - gsz hp; omega) rfl ?_
    refine g_iload_n (q := 35) C dX2_run_34 rfl rfl ?_
    refine g_isub (q := 36) C dX2_run_35 rfl ?_
    exact E.1 _ _ _ _ _ _ _ dX2_run_36 rfl rfl (by omega) (by omega) ⟨_, rfl, k, L1, Lt1, A1, m1, J1, HL1, HW1, HJ1, B1, F1, AD1, hI, hk, rfl⟩
  have LL : ∀ d j : Nat, j + d = n → ∀ (hq : List gA) (L1 : gLn) (Lt1 A1 m1 : Nat) (J1 : gJr) (cq sq : Nat), gLine hq L1 → gWire hq 35 (nI R) (nI Lt1) (nI A1) m1 → gJn hq J1 → gBud hq J1 Bc Bs → gFX hp hq J → gAd hp J J1 → I (k0 + j) L1 Lt1 A1 m1 J1 → gG X 7 [some (.ref 20), some (.int (nI n)), some (.int (rX2_blocksSent L)), some (.int (nI j))] [] hq cq sq := by
    intro d
    induction d with
    | zero =>
      intro j hj hq L1 Lt1 A1 m1 J1 cq sq HL1 HW1 HJ1 B1 F1 AD1 hI
      obtain rfl : j = n := by omega
      have bl1 := gBud.lim B1 HJ1.2.2 hc hs
      refine g_tight h0 B0.1 B1.1 (fun ta tb => ?_)
      refine g_iload_n (q := 8) C dX2_run_7 rfl rfl ?_
      refine g_iload_n (q := 9) C dX2_run_8 rfl rfl ?_
      refine g_icmp_ge_t (t := 30) C dX2_run_9 (by decide) (nI_le (Nat.le_refl _) (by omega)) ?_
      exact K j _ _ _ _ _ _ _ _ _ HL1 HW1 HJ1 B1 F1 AD1 hI (Or.inl rfl)
    | succ d ih =>
      intro j hj hq L1 Lt1 A1 m1 J1 cq sq HL1 HW1 HJ1 B1 F1 AD1 hI
      have bl1 := gBud.lim B1 HJ1.2.2 hc hs
      refine g_tight h0 B0.1 B1.1 (fun ta tb => ?_)
      obtain ⟨hLt, N, hN, HP, hca⟩ := hpre _ _ _ _ _ _ hI
      refine g_iload_n (q := 8) C dX2_run_7 rfl rfl ?_
      refine g_iload_n (q := 9) C dX2_run_8 rfl rfl ?_
      refine g_icmp_ge_f (t := 30) (q := 12) C dX2_run_9 (by decide) rfl (fun h => nI_ge (show j < n by omega) (by omega) h) ?_
      refine g_aload_n (q := 13) C dX2_run_12 rfl rfl ?_
      refine g_getfield (v := .int L1.st) (q := 16) C fX2_30 dX2_run_13 rfl HL1.1 rfl ?_
      refine g_iconst (v := 1) (q := 17) C dX2_run_16 (by decide) rfl ?_
      refine g_icmp_ne (t := 30) (q := 20) C dX2_run_17 (by decide) rfl (fun c_17 => ?_) (fun c_17 => ?_)
      ·
        exact K j _ _ _ _ _ _ _ _ _ HL1 HW1 HJ1 B1 F1 AD1 hI (Or.inr c_17)
      ·
        refine g_aload_n (q := 21) C dX2_run_20 rfl rfl ?_
        refine g_tight h0 B0.1 B1.1 (fun t1a t1b => ?_)
        refine g_callVvp (q := 24) (As := []) C gyX2_turn gvX2_turn t_615 (c_X2_turn_l (N := N) HL1 HW1 HJ1 B1 hc hs hLt hR HP hN hca) dX2_run_21 rfl HL1.1 rfl rfl rfl (Nat.le_of_ble_eq_true rfl) (Nat.le_of_ble_eq_true rfl) (Nat.le_of_ble_eq_true rfl) (by show _ + _ ≤ 300000 - List.length hp; omega) (by show _ + _ ≤ 7000000 - gsz hp; omega) rfl (fun h2 z2 => ?_)
        obtain ⟨L2, Lt2, A2, m2, J2, HL2, HW2, HJ2, B2, fx2, ad2, tn⟩ := z2
        refine g_iinc (v := (nI (j + 1))) (q := 27) C dX2_run_24 rfl (nI_1 j) (by simp only [gset]; rfl) rfl ?_
        refine g_goto (q := 7) C dX2_run_27 (by decide) ?_
        exact ih (j + 1) (by omega) _ _ _ _ _ _ _ _ HL2 HW2 HJ2 B2 (F1.trans AD1 fx2) (gAd.trans AD1 ad2 F1.1) (hstep _ _ _ _ _ _ _ _ _ _ _ hI c_17 tn)
  exact LL n 0 (by omega) hp L Lt A m J _ _ HL HW HJ B0 gFX.rf gAd.rf hI0
def rX2_startMessage (L : gLn) (t : List Int32) : gLn := (rX2_begin (((L.side 0 (L.rd.row 0 t)).side 0 ((L.side 0 (L.rd.row 0 t)).rd.set 3 0)).set 9 0) (-1))
theorem dX2_startMessage_0 : decode cX2_startMessage 0 = .ok (.aload_n 0, 1) := by decide +kernel
theorem dX2_startMessage_1 : decode cX2_startMessage 1 = .ok (.getfield 14, 3) := by decide +kernel
theorem dX2_startMessage_4 : decode cX2_startMessage 4 = .ok (.getfield 102, 3) := by decide +kernel
theorem dX2_startMessage_7 : decode cX2_startMessage 7 = .ok (.aload_n 1, 1) := by decide +kernel
theorem dX2_startMessage_8 : decode cX2_startMessage 8 = .ok (.invokevirtual 99, 3) := by decide +kernel
theorem dX2_startMessage_11 : decode cX2_startMessage 11 = .ok (.aload_n 0, 1) := by decide +kernel
theorem dX2_startMessage_12 : decode cX2_startMessage 12 = .ok (.getfield 14, 3) := by decide +kernel
theorem dX2_startMessage_15 : decode cX2_startMessage 15 = .ok (.iconst 0, 1) := by decide +kernel
theorem dX2_startMessage_16 : decode cX2_startMessage 16 = .ok (.putfield 105, 3) := by decide +kernel
theorem dX2_startMessage_19 : decode cX2_startMessage 19 = .ok (.aload_n 0, 1) := by decide +kernel
theorem dX2_startMessage_20 : decode cX2_startMessage 20 = .ok (.iconst 0, 1) := by decide +kernel
theorem dX2_startMessage_21 : decode cX2_startMessage 21 = .ok (.putfield 71, 3) := by decide +kernel
theorem dX2_startMessage_24 : decode cX2_startMessage 24 = .ok (.aload_n 0, 1) := by decide +kernel
theorem dX2_startMessage_25 : decode cX2_startMessage 25 = .ok (.iconst (-1), 1) := by decide +kernel
theorem dX2_startMessage_26 : decode cX2_startMessage 26 = .ok (.invokevirtual 108, 3) := by decide +kernel
theorem dX2_startMessage_29 : decode cX2_startMessage 29 = .ok (.return_, 1) := by decide +kernel
set_option maxRecDepth 100000 in
set_option maxHeartbeats 4000000 in
theorem c_X2_startMessage_l {hp : List gA} {L : gLn} {t : List Int32} (HL : gLine hp L) (HT : gRw hp 1 2 96 t) (ht : t.length ≤ 60) : gM yX2_startMessage cX2_startMessage 2 (none) 2 82 [.ref 20, .ref 1] (hp) (0) (0) (fun v h => v = none ∧ (gLine h (rX2_startMessage L t) ∧ gFL hp h)) := by
  refine gM_of (ls0 := [some (.ref 20), some (.ref 1)]) (by decide +kernel) (Nat.le_of_ble_eq_true rfl) rfl fun X C E => ?_
  refine g_aload_n (q := 1) C dX2_startMessage_0 rfl rfl ?_
  refine g_getfield (v := .ref 21) (q := 4) C fX2_14 dX2_startMessage_1 rfl HL.1 rfl ?_
  refine g_getfieldW (v := .ref 22) (q := 7) C fX2_102 dX2_startMessage_4 rfl HL.2.1.1 rfl ?_
  refine g_aload_n (q := 8) C dX2_startMessage_7 rfl rfl ?_
  refine g_callVvp (q := 11) (As := [.ref 1]) C gyX4_copy gvX4_copy t_548 (c_X4_copy_w HL.2.1.2.1 HT ht) dX2_startMessage_8 rfl (gRw.obj HL.2.1.2.1) rfl rfl rfl (Nat.le_of_ble_eq_true rfl) (Nat.le_of_ble_eq_true rfl) (Nat.le_of_ble_eq_true rfl) (Nat.le_of_ble_eq_true rfl) (Nat.le_of_ble_eq_true rfl) rfl (fun h1 z1 => ?_)
  obtain ⟨HL1, fr1⟩ := gLine.rd_out HL z1
  refine g_aload_n (q := 12) C dX2_startMessage_11 rfl rfl ?_
  refine g_getfield (v := .ref 21) (q := 15) C fX2_14 dX2_startMessage_12 rfl HL1.1 rfl ?_
  refine g_iconst (v := 0) (q := 16) C dX2_startMessage_15 (by decide) rfl ?_
  refine g_putfield (q := 19) C fX2_105 dX2_startMessage_16 rfl HL1.2.1.1 (Nat.le_of_ble_eq_true rfl) (Or.inl rfl) rfl rfl (by intro z h; cases h) ?_
  refine gLput_rd (k := 3) (x := 0) HL1 rfl fun h2 HL2 fr2 => ?_
  refine g_aload_n (q := 20) C dX2_startMessage_19 rfl rfl ?_
  refine g_iconst (v := 0) (q := 21) C dX2_startMessage_20 (by decide) rfl ?_
  refine g_putfield (q := 24) C fX2_71 dX2_startMessage_21 rfl HL2.1 (Nat.le_of_ble_eq_true rfl) (Or.inl rfl) rfl rfl (by intro z h; cases h) ?_
  refine gLput (k := 9) (x := 0) HL2 rfl fun h3 HL3 fr3 => ?_
  refine g_aload_n (q := 25) C dX2_startMessage_24 rfl rfl ?_
  refine g_iconst (v := (-1)) (q := 26) C dX2_startMessage_25 (by decide) rfl ?_
  refine g_callVvp (q := 29) (As := [.int ((-1))]) C gyX2_begin gvX2_begin t_553 (c_X2_begin_l HL3) dX2_startMessage_26 rfl HL3.1 rfl rfl rfl (Nat.le_of_ble_eq_true rfl) (Nat.le_of_ble_eq_true rfl) (Nat.le_of_ble_eq_true rfl) (Nat.le_of_ble_eq_true rfl) (Nat.le_of_ble_eq_true rfl) rfl (fun h4 z4 => ?_)
  obtain ⟨HL4, fr4⟩ := z4
  have e : rX2_startMessage L t = (rX2_begin (((L.side 0 (L.rd.row 0 t)).side 0 ((L.side 0 (L.rd.row 0 t)).rd.set 3 0)).set 9 0) (-1)) := rfl
  exact E.2.1 _ _ _ _ _ dX2_startMessage_29 rfl (Nat.le_of_ble_eq_true rfl) (Nat.le_of_ble_eq_true rfl) ⟨rfl, by rw [e]; exact ⟨HL4, (gFL.trans (gFL.trans (gFL.trans fr1 fr2) fr3) fr4)⟩⟩
/-- into how many blocks of q n bytes go: one at least -/
def gBl (n q : Nat) : Nat := max 1 ((n + q - 1) / q)
theorem gBl_1 (n q : Nat) : 1 ≤ gBl n q := Nat.le_max_left _ _
theorem gBl_ge (n q : Nat) (h : 1 ≤ q) : n ≤ gBl n q * q := by
  have h1 : (n + q - 1) / q * q + (n + q - 1) % q = n + q - 1 := Nat.div_add_mod' _ _
  have h2 := Nat.mod_lt (n + q - 1) (show 0 < q by omega)
  have h3 : (n + q - 1) / q * q ≤ gBl n q * q := Nat.mul_le_mul_right _ (Nat.le_max_right _ _)
  omega
theorem gBl_lt (n q j : Nat) (h : 1 ≤ q) (h1 : 1 ≤ j) (hj : j < gBl n q) : j * q < n := by
  have e : j < (n + q - 1) / q := by unfold gBl at hj; omega
  have h2 : (j + 1) * q ≤ (n + q - 1) / q * q := Nat.mul_le_mul_right _ e
  have h3 : (n + q - 1) / q * q ≤ n + q - 1 := Nat.div_mul_le_self _ _
  rw [Nat.add_mul, Nat.one_mul] at h2
  omega
theorem gBl_le (n q : Nat) (h : 1 ≤ q) : gBl n q ≤ n + 1 := by
  unfold gBl
  have : (n + q - 1) / q ≤ n := by
    rw [Nat.div_le_iff_le_mul_add_pred (by omega)]
    have : n ≤ q * n := Nat.le_mul_of_pos_left _ (by omega)
    omega
  omega
theorem dX2_blocksAhead_0 : decode cX2_blocksAhead 0 = .ok (.aload_n 0, 1) := by decide +kernel
theorem dX2_blocksAhead_1 : decode cX2_blocksAhead 1 = .ok (.getfield 14, 3) := by decide +kernel
theorem dX2_blocksAhead_4 : decode cX2_blocksAhead 4 = .ok (.getfield 102, 3) := by decide +kernel
theorem dX2_blocksAhead_7 : decode cX2_blocksAhead 7 = .ok (.invokevirtual 111, 3) := by decide +kernel
theorem dX2_blocksAhead_10 : decode cX2_blocksAhead 10 = .ok (.istore_n 1, 1) := by decide +kernel
theorem dX2_blocksAhead_11 : decode cX2_blocksAhead 11 = .ok (.iconst 1, 1) := by decide +kernel
theorem dX2_blocksAhead_12 : decode cX2_blocksAhead 12 = .ok (.istore_n 2, 1) := by decide +kernel
theorem dX2_blocksAhead_13 : decode cX2_blocksAhead 13 = .ok (.aload_n 0, 1) := by decide +kernel
theorem dX2_blocksAhead_14 : decode cX2_blocksAhead 14 = .ok (.getfield 20, 3) := by decide +kernel
theorem dX2_blocksAhead_17 : decode cX2_blocksAhead 17 = .ok (.getfield 115, 3) := by decide +kernel
theorem dX2_blocksAhead_20 : decode cX2_blocksAhead 20 = .ok (.istore_n 3, 1) := by decide +kernel
theorem dX2_blocksAhead_21 : decode cX2_blocksAhead 21 = .ok (.iload_n 3, 1) := by decide +kernel
theorem dX2_blocksAhead_22 : decode cX2_blocksAhead 22 = .ok (.iload_n 1, 1) := by decide +kernel
theorem dX2_blocksAhead_23 : decode cX2_blocksAhead 23 = .ok (.if_icmp .ge 25, 3) := by decide +kernel
theorem dX2_blocksAhead_26 : decode cX2_blocksAhead 26 = .ok (.iload_n 2, 1) := by decide +kernel
theorem dX2_blocksAhead_27 : decode cX2_blocksAhead 27 = .ok (.bipush 60, 2) := by decide +kernel
theorem dX2_blocksAhead_29 : decode cX2_blocksAhead 29 = .ok (.if_icmp .ge 19, 3) := by decide +kernel
theorem dX2_blocksAhead_32 : decode cX2_blocksAhead 32 = .ok (.iinc 2 1, 3) := by decide +kernel
theorem dX2_blocksAhead_35 : decode cX2_blocksAhead 35 = .ok (.iload_n 3, 1) := by decide +kernel
theorem dX2_blocksAhead_36 : decode cX2_blocksAhead 36 = .ok (.aload_n 0, 1) := by decide +kernel
theorem dX2_blocksAhead_37 : decode cX2_blocksAhead 37 = .ok (.getfield 20, 3) := by decide +kernel
theorem dX2_blocksAhead_40 : decode cX2_blocksAhead 40 = .ok (.getfield 115, 3) := by decide +kernel
theorem dX2_blocksAhead_43 : decode cX2_blocksAhead 43 = .ok (.iadd, 1) := by decide +kernel
theorem dX2_blocksAhead_44 : decode cX2_blocksAhead 44 = .ok (.istore_n 3, 1) := by decide +kernel
theorem dX2_blocksAhead_45 : decode cX2_blocksAhead 45 = .ok (.goto (-24), 3) := by decide +kernel
theorem dX2_blocksAhead_48 : decode cX2_blocksAhead 48 = .ok (.iload_n 2, 1) := by decide +kernel
theorem dX2_blocksAhead_49 : decode cX2_blocksAhead 49 = .ok (.ireturn, 1) := by decide +kernel
set_option maxRecDepth 100000 in
set_option maxHeartbeats 4000000 in
theorem c_X2_blocksAhead_l {hp : List gA} {L : gLn} {q : Nat} (HL : gLine hp L) (hq : L.cd.ro = nI q) (h1q : 1 ≤ q) (h2q : q ≤ 254) : gM yX2_blocksAhead cX2_blocksAhead 4 ((some .int)) 1 20 [.ref 20] (hp) (0) (0) (fun v h => v = some (.int (nI (gBl L.rd.out.length q))) ∧ h = hp) := by
  refine gM_of (ls0 := [some (.ref 20), none, none, none]) (by decide +kernel) (Nat.le_of_ble_eq_true rfl) rfl fun X C E => ?_
  refine g_aload_n (q := 1) C dX2_blocksAhead_0 rfl rfl ?_
  refine g_getfield (v := .ref 21) (q := 4) C fX2_14 dX2_blocksAhead_1 rfl HL.1 rfl ?_
  refine g_getfieldW (v := .ref 22) (q := 7) C fX2_102 dX2_blocksAhead_4 rfl HL.2.1.1 rfl ?_
  refine g_callVi (x := (nI L.rd.out.length)) (q := 10) (As := []) C gyX4_size gvX4_size t_561 (c_X4_size (gRw.obj HL.2.1.2.1)) dX2_blocksAhead_7 rfl (gRw.obj HL.2.1.2.1) rfl rfl rfl (Nat.le_of_ble_eq_true rfl) (Nat.le_of_ble_eq_true rfl) (Nat.le_of_ble_eq_true rfl) (Nat.le_of_ble_eq_true rfl) (Nat.le_of_ble_eq_true rfl) rfl ?_
  refine g_istore_n (q := 11) C dX2_blocksAhead_10 (Nat.le_of_ble_eq_true rfl) (by simp only [gset]; rfl) rfl ?_
  refine g_iconst (v := 1) (q := 12) C dX2_blocksAhead_11 (by decide) rfl ?_
  refine g_istore_n (q := 13) C dX2_blocksAhead_12 (Nat.le_of_ble_eq_true rfl) (by simp only [gset]; rfl) rfl ?_
  refine g_aload_n (q := 14) C dX2_blocksAhead_13 rfl rfl ?_
  refine g_getfield (v := .ref 28) (q := 17) C fX2_20 dX2_blocksAhead_14 rfl HL.1 rfl ?_
  refine g_getfield (v := .int L.cd.ro) (q := 20) C fX2_115 dX2_blocksAhead_17 rfl HL.2.2.1.1 rfl ?_
  refine g_istore_n (q := 21) C dX2_blocksAhead_20 (Nat.le_of_ble_eq_true rfl) (by simp only [gset]; rfl) rfl ?_
  have hn : L.rd.out.length ≤ 60 := HL.2.1.2.1.le.1
  rw [hq]
  rw [show nI q = nI (1 * q) by rw [Nat.one_mul]]
  have LL : ∀ d j : Nat, j + d = gBl L.rd.out.length q → 1 ≤ j → gG X 21 [some (.ref 20), some (.int (nI L.rd.out.length)), some (.int (nI j)), some (.int (nI (j * q)))] [] hp 0 0 := by
    intro d
    induction d with
    | zero =>
      intro j hj h1
      obtain rfl : j = gBl L.rd.out.length q := by omega
      have hB := gBl_ge L.rd.out.length q h1q
      have hB2 := gBl_le L.rd.out.length q h1q
      have hB3 : gBl L.rd.out.length q * q ≤ 60 * 254 + 254 := Nat.le_trans (Nat.mul_le_mul (show _ ≤ 61 by omega) h2q) (by omega)
      refine g_iload_n (q := 22) C dX2_blocksAhead_21 rfl rfl ?_
      refine g_iload_n (q := 23) C dX2_blocksAhead_22 rfl rfl ?_
      refine g_icmp_ge_t (t := 48) C dX2_blocksAhead_23 (by decide) (nI_le hB (by omega)) ?_
      refine g_iload_n (q := 49) C dX2_blocksAhead_48 rfl rfl ?_
      exact E.1 _ _ _ _ _ _ _ dX2_blocksAhead_49 rfl rfl (Nat.le_of_ble_eq_true rfl) (Nat.le_of_ble_eq_true rfl) ⟨rfl, rfl⟩
    | succ d ih =>
      intro j hj h1
      have hl := gBl_lt L.rd.out.length q j h1q h1 (by omega)
      have hjq : j ≤ j * q := Nat.le_mul_of_pos_right _ (by omega)
      have hB2 := gBl_le L.rd.out.length q h1q
      refine g_iload_n (q := 22) C dX2_blocksAhead_21 rfl rfl ?_
      refine g_iload_n (q := 23) C dX2_blocksAhead_22 rfl rfl ?_
      refine g_icmp_ge_f (t := 48) (q := 26) C dX2_blocksAhead_23 (by decide) rfl (fun h => nI_ge hl (by omega) h) ?_
      refine g_iload_n (q := 27) C dX2_blocksAhead_26 rfl rfl ?_
      refine g_bipush (v := 60) (q := 29) C dX2_blocksAhead_27 (by decide) rfl ?_
      refine g_icmp_ge_f (t := 48) (q := 32) C dX2_blocksAhead_29 (by decide) rfl (fun h => nI_ge (show j < 60 by omega) (by decide) h) ?_
      refine g_iinc (v := (nI (j + 1))) (q := 35) C dX2_blocksAhead_32 rfl (nI_1 j) (by simp only [gset]; rfl) rfl ?_
      refine g_iload_n (q := 36) C dX2_blocksAhead_35 rfl rfl ?_
      refine g_aload_n (q := 37) C dX2_blocksAhead_36 rfl rfl ?_
      refine g_getfield (v := .ref 28) (q := 40) C fX2_20 dX2_blocksAhead_37 rfl HL.1 rfl ?_
      refine g_getfield (v := .int L.cd.ro) (q := 43) C fX2_115 dX2_blocksAhead_40 rfl HL.2.2.1.1 rfl ?_
      rw [hq]
      refine g_iadd (q := 44) C dX2_blocksAhead_43 rfl ?_
      rw [nI_add, show j * q + q = (j + 1) * q by rw [Nat.add_mul, Nat.one_mul]]
      refine g_istore_n (q := 45) C dX2_blocksAhead_44 (Nat.le_of_ble_eq_true rfl) (by simp only [gset]; rfl) rfl ?_
      refine g_goto (q := 21) C dX2_blocksAhead_45 (by decide) ?_
      exact ih (j + 1) (by omega) (by omega)
  exact LL (gBl L.rd.out.length q - 1) 1 (by have := gBl_1 L.rd.out.length q; omega) (Nat.le_refl _)
