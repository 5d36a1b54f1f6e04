/-! the reference: the reset's groups (by program: wip/p2/m_nd.py) -/
theorem gx5 {x : Int32} : ¬ (8 * x + 5 : Int32) = 0 := by
  intro h
  have h1 := congrArg (fun z : Int32 => z.toBitVec.toNat) h
  have h2 : (8 * x + 5 : Int32).toBitVec = 8#32 * x.toBitVec + 5#32 := rfl
  simp only [h2, BitVec.toNat_add, BitVec.toNat_mul, BitVec.toNat_ofNat] at h1
  have h3 : (0 : Int32).toBitVec.toNat = 0 := rfl
  omega
def gWd (M : gMd) : Prop := ∃ w, 1 ≤ w ∧ w < 256 ∧ M.a 2 7 = nI w
/-- where a reset answer is read -/
def gRi (M : gMd) : Prop := (∃ z, z ≤ 96 ∧ M.f 20 = nI z ∧ ∃ a, a ≤ z ∧ M.f 21 = nI a) ∧ ∀ q, gIr (M.a 0 q) 255
/-- read on: n bytes at least, or a fault -/
def gRz (n : Nat) (M M' : gMd) : Prop := (∀ k, ¬ k = 21 → ¬ k = 22 → ¬ k = 23 → ¬ k = 24 → M'.f k = M.f k) ∧ (∀ i q, ¬ i = 2 → M'.a i q = M.a i q) ∧ (M'.f 22 = 0 → M.f 22 = 0 ∧ (gWd M → gWd M')) ∧
  ∀ z a, z ≤ 96 → M.f 20 = nI z → a ≤ z → M.f 21 = nI a → ∃ a', a ≤ a' ∧ a' ≤ z ∧ M'.f 21 = nI a' ∧ (M'.f 22 = 0 → a + n ≤ a')
theorem gRz.rf {M : gMd} : gRz 0 M M := ⟨fun _ _ _ _ _ => rfl, fun _ _ _ => rfl, fun h => ⟨h, id⟩, fun _ a _ _ h e => ⟨a, Nat.le_refl _, h, e, fun _ => Nat.le_refl _⟩⟩
theorem gRz.trans {n m : Nat} {M M1 M2 : gMd} (A : gRz n M M1) (B : gRz m M1 M2) : gRz (n + m) M M2 := by
  obtain ⟨a1, a2, a3, a4⟩ := A
  obtain ⟨b1, b2, b3, b4⟩ := B
  refine ⟨fun k h1 h2 h3 h4 => (b1 k h1 h2 h3 h4).trans (a1 k h1 h2 h3 h4), fun i q h => (b2 i q h).trans (a2 i q h), fun h => ⟨(a3 (b3 h).1).1, fun w => (b3 h).2 ((a3 (b3 h).1).2 w)⟩, fun z a hz ez ha ea => ?_⟩
  obtain ⟨a', p1, p2, p3, p4⟩ := a4 z a hz ez ha ea
  obtain ⟨a'', q1, q2, q3, q4⟩ := b4 z a' hz ((a1 20 (by decide) (by decide) (by decide) (by decide)).trans ez) p2 p3
  exact ⟨a'', by omega, q2, q3, fun h => by have := p4 (b3 h).1; have := q4 h; omega⟩
theorem gRz.le {n m : Nat} {M M1 : gMd} (A : gRz n M M1) (h : m ≤ n) : gRz m M M1 := by
  obtain ⟨a1, a2, a3, a4⟩ := A
  refine ⟨a1, a2, a3, fun z a hz ez ha ea => ?_⟩
  obtain ⟨a', p1, p2, p3, p4⟩ := a4 z a hz ez ha ea
  exact ⟨a', p1, p2, p3, fun h => by have := p4 h; omega⟩
theorem gRi.of {n : Nat} {M M1 : gMd} (H : gRi M) (A : gRz n M M1) : gRi M1 := by
  obtain ⟨⟨z, hz, ez, a, ha, ea⟩, hb⟩ := H
  obtain ⟨a', p1, p2, p3, p4⟩ := A.2.2.2 z a hz ez ha ea
  exact ⟨⟨z, hz, (A.1 20 (by decide) (by decide) (by decide) (by decide)).trans ez, a', p2, p3⟩, fun q => by rw [A.2.1 0 q (by decide)]; exact hb q⟩
theorem gRz.wr {M : gMd} {y z : Int32} : gRz 0 M (rX8_wrong M y z) := by
  unfold rX8_wrong
  by_cases c : M.f 22 = 0
  · rw [if_pos c]
    exact ⟨fun k _ h _ _ => gset_n h, fun _ _ _ => rfl, fun _ => ⟨c, id⟩, fun _ a _ _ h e => ⟨a, Nat.le_refl _, h, (gset_n (by decide)).trans e, fun _ => Nat.le_refl _⟩⟩
  · rw [if_neg c]; exact gRz.rf
theorem gRz.put {M : gMd} {j : Nat} {x : Int32} (h : ¬ 7 = j) : gRz 0 M (M.put 2 j x) :=
  ⟨fun _ _ _ _ _ => rfl, fun _ _ h => gput_o h, fun e => ⟨e, fun ⟨w, a, b, c⟩ => ⟨w, a, b, (gput_n h).trans c⟩⟩, fun _ a _ _ h e => ⟨a, Nat.le_refl _, h, e, fun _ => Nat.le_refl _⟩⟩
theorem gRz.set {M : gMd} {j : Nat} {x : Int32} (h : j = 23 ∨ j = 24) : gRz 0 M (M.set j x) :=
  ⟨fun k _ _ h3 h4 => gset_n (by omega), fun _ _ _ => rfl, fun e => ⟨(gset_n (by omega)).symm.trans e, id⟩, fun _ a _ _ h' e => ⟨a, Nat.le_refl _, h', (gset_n (by omega)).trans e, fun _ => Nat.le_refl _⟩⟩
theorem gRz.p7 {n : Nat} {M M1 : gMd} {b : Int32} (A : gRz n M M1) (h : M1.f 22 = 0 → ∃ w, 1 ≤ w ∧ w < 256 ∧ b = nI w) : gRz n M (M1.put 2 7 b) :=
  ⟨A.1, fun i q hi => (gput_o hi).trans (A.2.1 i q hi), fun e => ⟨(A.2.2.1 e).1, fun _ => by obtain ⟨w, a, c, d⟩ := h e; exact ⟨w, a, c, gput_s.trans d⟩⟩, A.2.2.2⟩
theorem gRz.bn {M M' : gMd} {x : Int32} (H : gRi M) (h : gBn M M' x) : gRz 1 M M' ∧ gIr x 255 := by
  obtain ⟨⟨z, hz, ez, a, ha, ea⟩, hb⟩ := H
  rcases h with ⟨c, rfl, rfl⟩ | ⟨c, e, rfl, rfl⟩ | ⟨c, a1, z1, e1, e2, h1, hz1, rfl, rfl⟩
  · refine ⟨⟨gRz.rf.1, gRz.rf.2.1, gRz.rf.2.2.1, fun z a _ _ h e => ⟨a, Nat.le_refl _, h, e, fun h0 => absurd h0 c⟩⟩, ⟨0, Nat.zero_le _, rfl⟩⟩
  · have W : gRz 0 M (rX8_wrong M 1 (M.f 20)) := gRz.wr
    refine ⟨⟨W.1, W.2.1, W.2.2.1, fun z' a' hz' ez' ha' ea' => ?_⟩, ⟨0, Nat.zero_le _, rfl⟩⟩
    obtain ⟨a'', p1, p2, p3, p4⟩ := W.2.2.2 z' a' hz' ez' ha' ea'
    refine ⟨a'', p1, p2, p3, fun h0 => ?_⟩
    exfalso
    unfold rX8_wrong at h0
    rw [if_pos c, gset_s, ez, show (8 : Int32) = nI 8 from rfl, nI_mulS (by omega) (by decide) (by omega), show (1 : Int32) = nI 1 from rfl, nI_add] at h0
    have := nI_inj (b := 0) (by omega) (by decide) h0
    omega
  · refine ⟨⟨fun k h _ _ _ => gset_n h, fun _ _ _ => rfl, fun _ => ⟨c, id⟩, fun z' a' hz' ez' ha' ea' => ?_⟩, hb a1⟩
    have q1 : a' = a1 := nI_inj (by omega) (by omega) (ea'.symm.trans e1)
    have q2 : z' = z1 := nI_inj (by omega) (by omega) (ez'.symm.trans e2)
    subst q1; subst q2
    exact ⟨a' + 1, by omega, by omega, gset_s, fun _ => Nat.le_refl _⟩
theorem dX8_factor_0 : decode cX8_factor 0 = .ok (.aload_n 0, 1) := by decide +kernel
theorem dX8_factor_1 : decode cX8_factor 1 = .ok (.invokevirtual 99, 3) := by decide +kernel
theorem dX8_factor_4 : decode cX8_factor 4 = .ok (.istore_n 1, 1) := by decide +kernel
theorem dX8_factor_5 : decode cX8_factor 5 = .ok (.aload_n 0, 1) := by decide +kernel
theorem dX8_factor_6 : decode cX8_factor 6 = .ok (.getfield 86, 3) := by decide +kernel
theorem dX8_factor_9 : decode cX8_factor 9 = .ok (.ifCond .eq 4, 3) := by decide +kernel
theorem dX8_factor_12 : decode cX8_factor 12 = .ok (.return_, 1) := by decide +kernel
theorem dX8_factor_13 : decode cX8_factor 13 = .ok (.aload_n 0, 1) := by decide +kernel
theorem dX8_factor_14 : decode cX8_factor 14 = .ok (.getfield 16, 3) := by decide +kernel
theorem dX8_factor_17 : decode cX8_factor 17 = .ok (.iconst 1, 1) := by decide +kernel
theorem dX8_factor_18 : decode cX8_factor 18 = .ok (.iload_n 1, 1) := by decide +kernel
theorem dX8_factor_19 : decode cX8_factor 19 = .ok (.iconst 4, 1) := by decide +kernel
theorem dX8_factor_20 : decode cX8_factor 20 = .ok (.ishr, 1) := by decide +kernel
theorem dX8_factor_21 : decode cX8_factor 21 = .ok (.invokestatic 103, 3) := by decide +kernel
theorem dX8_factor_24 : decode cX8_factor 24 = .ok (.iastore, 1) := by decide +kernel
theorem dX8_factor_25 : decode cX8_factor 25 = .ok (.aload_n 0, 1) := by decide +kernel
theorem dX8_factor_26 : decode cX8_factor 26 = .ok (.getfield 16, 3) := by decide +kernel
theorem dX8_factor_29 : decode cX8_factor 29 = .ok (.iconst 2, 1) := by decide +kernel
theorem dX8_factor_30 : decode cX8_factor 30 = .ok (.iload_n 1, 1) := by decide +kernel
theorem dX8_factor_31 : decode cX8_factor 31 = .ok (.bipush 15, 2) := by decide +kernel
theorem dX8_factor_33 : decode cX8_factor 33 = .ok (.iand, 1) := by decide +kernel
theorem dX8_factor_34 : decode cX8_factor 34 = .ok (.invokestatic 107, 3) := by decide +kernel
theorem dX8_factor_37 : decode cX8_factor 37 = .ok (.iastore, 1) := by decide +kernel
theorem dX8_factor_38 : decode cX8_factor 38 = .ok (.aload_n 0, 1) := by decide +kernel
theorem dX8_factor_39 : decode cX8_factor 39 = .ok (.getfield 16, 3) := by decide +kernel
theorem dX8_factor_42 : decode cX8_factor 42 = .ok (.iconst 1, 1) := by decide +kernel
theorem dX8_factor_43 : decode cX8_factor 43 = .ok (.iaload, 1) := by decide +kernel
theorem dX8_factor_44 : decode cX8_factor 44 = .ok (.ifCond .eq 12, 3) := by decide +kernel
theorem dX8_factor_47 : decode cX8_factor 47 = .ok (.aload_n 0, 1) := by decide +kernel
theorem dX8_factor_48 : decode cX8_factor 48 = .ok (.getfield 16, 3) := by decide +kernel
theorem dX8_factor_51 : decode cX8_factor 51 = .ok (.iconst 2, 1) := by decide +kernel
theorem dX8_factor_52 : decode cX8_factor 52 = .ok (.iaload, 1) := by decide +kernel
theorem dX8_factor_53 : decode cX8_factor 53 = .ok (.ifCond .ne 14, 3) := by decide +kernel
theorem dX8_factor_56 : decode cX8_factor 56 = .ok (.aload_n 0, 1) := by decide +kernel
theorem dX8_factor_57 : decode cX8_factor 57 = .ok (.iconst 4, 1) := by decide +kernel
theorem dX8_factor_58 : decode cX8_factor 58 = .ok (.aload_n 0, 1) := by decide +kernel
theorem dX8_factor_59 : decode cX8_factor 59 = .ok (.getfield 89, 3) := by decide +kernel
theorem dX8_factor_62 : decode cX8_factor 62 = .ok (.iconst 1, 1) := by decide +kernel
theorem dX8_factor_63 : decode cX8_factor 63 = .ok (.isub, 1) := by decide +kernel
theorem dX8_factor_64 : decode cX8_factor 64 = .ok (.invokevirtual 95, 3) := by decide +kernel
theorem dX8_factor_67 : decode cX8_factor 67 = .ok (.return_, 1) := by decide +kernel
set_option maxRecDepth 100000 in
set_option maxHeartbeats 4000000 in
theorem c_X8_factor_r {hp : List gA} {M : gMd}  (HM : gMod hp M) (hr : gRi M) : gM yX8_factor cX8_factor 2 (none) 2 42 [.ref 122] (hp) (0) (0) (fun v h => v = none ∧ ∃ M', gMod h M' ∧ gFM hp h ∧ gRz 1 M M') := by
  refine gM_of (ls0 := [some (.ref 122), none]) (by decide +kernel) (Nat.le_of_ble_eq_true rfl) rfl fun X C E => ?_
  refine g_aload_n (q := 1) C dX8_factor_0 rfl rfl ?_
  refine g_callVip (q := 4) (As := []) C gyX8_byteNext gvX8_byteNext t_1218 (c_X8_byteNext_r HM (hr.of gRz.rf).1) dX8_factor_1 rfl HM.1 rfl rfl rfl (Nat.le_of_ble_eq_true rfl) (Nat.le_of_ble_eq_true rfl) (Nat.le_of_ble_eq_true rfl) (Nat.le_of_ble_eq_true rfl) (Nat.le_of_ble_eq_true rfl) rfl (fun x1 h1 z1 => ?_)
  obtain ⟨N1, HN1, fn1, bn1⟩ := z1
  obtain ⟨rn1, X1⟩ := gRz.bn (hr.of gRz.rf) bn1
  have R1 := gRz.trans gRz.rf rn1
  refine g_istore_n (q := 5) C dX8_factor_4 (Nat.le_of_ble_eq_true rfl) (by simp only [gset]; rfl) rfl ?_
  refine g_aload_n (q := 6) C dX8_factor_5 rfl rfl ?_
  refine g_getfield (v := .int ((N1.f 22))) (q := 9) C fX8_86 dX8_factor_6 rfl HN1.1 rfl ?_
  refine g_if_eq (t := 13) (q := 12) C dX8_factor_9 (by decide) rfl (fun c_9 => ?_) (fun c_9 => ?_)
  ·
    refine g_aload_n (q := 14) C dX8_factor_13 rfl rfl ?_
    refine g_getfield (v := .ref 125) (q := 17) C fX8_16 dX8_factor_14 rfl HN1.1 rfl ?_
    refine g_iconst (v := 1) (q := 18) C dX8_factor_17 (by decide) rfl ?_
    refine g_iload_n (q := 19) C dX8_factor_18 rfl rfl ?_
    refine g_iconst (v := 4) (q := 20) C dX8_factor_19 (by decide) rfl ?_
    refine g_ishr (q := 21) C dX8_factor_20 rfl ?_
    refine g_callSip (q := 24) (As := [.int ((x1 >>> (4 &&& 31)))]) C gyX8_clocks t_1239 t_1238 (c_X8_clocks_r (y := (x1 >>> (4 &&& 31)))) dX8_factor_21 rfl rfl rfl (Nat.le_of_ble_eq_true rfl) (Nat.le_of_ble_eq_true rfl) (Nat.le_of_ble_eq_true rfl) (Nat.le_of_ble_eq_true rfl) (Nat.le_of_ble_eq_true rfl) rfl (fun x2 h2 z2 => ?_)
    subst z2
    refine g_iastoreN (j := 1) (q := 25) C dX8_factor_24 rfl (HN1.ar (i := 2) (n := 9) (by decide) rfl) (pk_in 1 9 (by decide)) (pk_cl 1) ?_
    refine gMsto (i := 2) (j := 1) (x := x2) HN1 (by decide) rfl rfl fun h3 HL3 fr3 => ?_
    refine g_aload_n (q := 26) C dX8_factor_25 rfl rfl ?_
    refine g_getfield (v := .ref 125) (q := 29) C fX8_16 dX8_factor_26 rfl HL3.1 rfl ?_
    refine g_iconst (v := 2) (q := 30) C dX8_factor_29 (by decide) rfl ?_
    refine g_iload_n (q := 31) C dX8_factor_30 rfl rfl ?_
    refine g_bipush (v := 15) (q := 33) C dX8_factor_31 (by decide) rfl ?_
    refine g_iand (q := 34) C dX8_factor_33 rfl ?_
    refine g_callSip (q := 37) (As := [.int ((x1 &&& 15))]) C gyX8_bits t_1242 t_1241 (c_X8_bits_r (y := (x1 &&& 15))) dX8_factor_34 rfl rfl rfl (Nat.le_of_ble_eq_true rfl) (Nat.le_of_ble_eq_true rfl) (Nat.le_of_ble_eq_true rfl) (Nat.le_of_ble_eq_true rfl) (Nat.le_of_ble_eq_true rfl) rfl (fun x4 h4 z4 => ?_)
    subst z4
    refine g_iastoreN (j := 2) (q := 38) C dX8_factor_37 rfl (HL3.ar (i := 2) (n := 9) (by decide) rfl) (pk_in 2 9 (by decide)) (pk_cl 2) ?_
    refine gMsto (i := 2) (j := 2) (x := x4) HL3 (by decide) rfl rfl fun h5 HL5 fr5 => ?_
    refine g_aload_n (q := 39) C dX8_factor_38 rfl rfl ?_
    refine g_getfield (v := .ref 125) (q := 42) C fX8_16 dX8_factor_39 rfl HL5.1 rfl ?_
    refine g_iconst (v := 1) (q := 43) C dX8_factor_42 (by decide) rfl ?_
    refine g_ialoadN (x := x2) (j := 1) (q := 44) C dX8_factor_43 rfl (HL5.ar (i := 2) (n := 9) (by decide) rfl) (pk_in 1 9 (by decide)) (pk_cl 1) ((gput_n (by decide)).trans gput_s) ?_
    refine g_if_eq (t := 56) (q := 47) C dX8_factor_44 (by decide) rfl (fun c_44 => ?_) (fun c_44 => ?_)
    ·
      refine g_aload_n (q := 57) C dX8_factor_56 rfl rfl ?_
      refine g_iconst (v := 4) (q := 58) C dX8_factor_57 (by decide) rfl ?_
      refine g_aload_n (q := 59) C dX8_factor_58 rfl rfl ?_
      refine g_getfield (v := .int ((N1.f 21))) (q := 62) C fX8_89 dX8_factor_59 rfl HL5.1 rfl ?_
      refine g_iconst (v := 1) (q := 63) C dX8_factor_62 (by decide) rfl ?_
      refine g_isub (q := 64) C dX8_factor_63 rfl ?_
      refine g_callVvp (q := 67) (As := [.int 4, .int (((N1.f 21) - 1))]) C gyX8_wrong gvX8_wrong t_1222 (c_X8_wrong_m (y := 4) (z := ((N1.f 21) - 1)) HL5) dX8_factor_64 rfl HL5.1 rfl rfl rfl (Nat.le_of_ble_eq_true rfl) (Nat.le_of_ble_eq_true rfl) (Nat.le_of_ble_eq_true rfl) (Nat.le_of_ble_eq_true rfl) (Nat.le_of_ble_eq_true rfl) rfl (fun h6 z6 => ?_)
      obtain ⟨HN6, fn6⟩ := z6
      have R6 := gRz.trans (gRz.trans (gRz.trans R1 (gRz.put (M := N1) (j := 1) (x := x2) (by decide))) (gRz.put (M := (N1.put 2 1 x2)) (j := 2) (x := x4) (by decide))) (gRz.wr (y := 4) (z := ((N1.f 21) - 1)))
      exact E.2.1 _ _ _ _ _ dX8_factor_67 rfl (Nat.le_of_ble_eq_true rfl) (Nat.le_of_ble_eq_true rfl) ⟨rfl, _, HN6, (gFM.trans (gFM.trans (gFM.trans fn1 fr3) fr5) fn6), gRz.le R6 (by decide)⟩
    ·
      refine g_aload_n (q := 48) C dX8_factor_47 rfl rfl ?_
      refine g_getfield (v := .ref 125) (q := 51) C fX8_16 dX8_factor_48 rfl HL5.1 rfl ?_
      refine g_iconst (v := 2) (q := 52) C dX8_factor_51 (by decide) rfl ?_
      refine g_ialoadN (x := x4) (j := 2) (q := 53) C dX8_factor_52 rfl (HL5.ar (i := 2) (n := 9) (by decide) rfl) (pk_in 2 9 (by decide)) (pk_cl 2) gput_s ?_
      refine g_if_ne (t := 67) (q := 56) C dX8_factor_53 (by decide) rfl (fun c_53 => ?_) (fun c_53 => ?_)
      ·
        exact E.2.1 _ _ _ _ _ dX8_factor_67 rfl (Nat.le_of_ble_eq_true rfl) (Nat.le_of_ble_eq_true rfl) ⟨rfl, _, HL5, (gFM.trans (gFM.trans fn1 fr3) fr5), gRz.le (gRz.trans (gRz.trans R1 (gRz.put (M := N1) (j := 1) (x := x2) (by decide))) (gRz.put (M := (N1.put 2 1 x2)) (j := 2) (x := x4) (by decide))) (by decide)⟩
      ·
        refine g_aload_n (q := 57) C dX8_factor_56 rfl rfl ?_
        refine g_iconst (v := 4) (q := 58) C dX8_factor_57 (by decide) rfl ?_
        refine g_aload_n (q := 59) C dX8_factor_58 rfl rfl ?_
        refine g_getfield (v := .int ((N1.f 21))) (q := 62) C fX8_89 dX8_factor_59 rfl HL5.1 rfl ?_
        refine g_iconst (v := 1) (q := 63) C dX8_factor_62 (by decide) rfl ?_
        refine g_isub (q := 64) C dX8_factor_63 rfl ?_
        refine g_callVvp (q := 67) (As := [.int 4, .int (((N1.f 21) - 1))]) C gyX8_wrong gvX8_wrong t_1222 (c_X8_wrong_m (y := 4) (z := ((N1.f 21) - 1)) HL5) dX8_factor_64 rfl HL5.1 rfl rfl rfl (Nat.le_of_ble_eq_true rfl) (Nat.le_of_ble_eq_true rfl) (Nat.le_of_ble_eq_true rfl) (Nat.le_of_ble_eq_true rfl) (Nat.le_of_ble_eq_true rfl) rfl (fun h7 z7 => ?_)
        obtain ⟨HN7, fn7⟩ := z7
        have R7 := gRz.trans (gRz.trans (gRz.trans R1 (gRz.put (M := N1) (j := 1) (x := x2) (by decide))) (gRz.put (M := (N1.put 2 1 x2)) (j := 2) (x := x4) (by decide))) (gRz.wr (y := 4) (z := ((N1.f 21) - 1)))
        exact E.2.1 _ _ _ _ _ dX8_factor_67 rfl (Nat.le_of_ble_eq_true rfl) (Nat.le_of_ble_eq_true rfl) ⟨rfl, _, HN7, (gFM.trans (gFM.trans (gFM.trans fn1 fr3) fr5) fn7), gRz.le R7 (by decide)⟩
  ·
    exact E.2.1 _ _ _ _ _ dX8_factor_12 rfl (Nat.le_of_ble_eq_true rfl) (Nat.le_of_ble_eq_true rfl) ⟨rfl, _, HN1, fn1, gRz.le R1 (by decide)⟩
theorem dX8_window_0 : decode cX8_window 0 = .ok (.aload_n 0, 1) := by decide +kernel
theorem dX8_window_1 : decode cX8_window 1 = .ok (.invokevirtual 99, 3) := by decide +kernel
theorem dX8_window_4 : decode cX8_window 4 = .ok (.istore_n 1, 1) := by decide +kernel
theorem dX8_window_5 : decode cX8_window 5 = .ok (.aload_n 0, 1) := by decide +kernel
theorem dX8_window_6 : decode cX8_window 6 = .ok (.getfield 86, 3) := by decide +kernel
theorem dX8_window_9 : decode cX8_window 9 = .ok (.ifCond .ne 25, 3) := by decide +kernel
theorem dX8_window_12 : decode cX8_window 12 = .ok (.iload_n 1, 1) := by decide +kernel
theorem dX8_window_13 : decode cX8_window 13 = .ok (.iconst 1, 1) := by decide +kernel
theorem dX8_window_14 : decode cX8_window 14 = .ok (.sipush 254, 3) := by decide +kernel
theorem dX8_window_17 : decode cX8_window 17 = .ok (.invokestatic 82, 3) := by decide +kernel
theorem dX8_window_20 : decode cX8_window 20 = .ok (.ifCond .ne 14, 3) := by decide +kernel
theorem dX8_window_23 : decode cX8_window 23 = .ok (.aload_n 0, 1) := by decide +kernel
theorem dX8_window_24 : decode cX8_window 24 = .ok (.iconst 5, 1) := by decide +kernel
theorem dX8_window_25 : decode cX8_window 25 = .ok (.aload_n 0, 1) := by decide +kernel
theorem dX8_window_26 : decode cX8_window 26 = .ok (.getfield 89, 3) := by decide +kernel
theorem dX8_window_29 : decode cX8_window 29 = .ok (.iconst 1, 1) := by decide +kernel
theorem dX8_window_30 : decode cX8_window 30 = .ok (.isub, 1) := by decide +kernel
theorem dX8_window_31 : decode cX8_window 31 = .ok (.invokevirtual 95, 3) := by decide +kernel
theorem dX8_window_34 : decode cX8_window 34 = .ok (.aload_n 0, 1) := by decide +kernel
theorem dX8_window_35 : decode cX8_window 35 = .ok (.getfield 16, 3) := by decide +kernel
theorem dX8_window_38 : decode cX8_window 38 = .ok (.bipush 7, 2) := by decide +kernel
theorem dX8_window_40 : decode cX8_window 40 = .ok (.iload_n 1, 1) := by decide +kernel
theorem dX8_window_41 : decode cX8_window 41 = .ok (.iastore, 1) := by decide +kernel
theorem dX8_window_42 : decode cX8_window 42 = .ok (.return_, 1) := by decide +kernel
set_option maxRecDepth 100000 in
set_option maxHeartbeats 4000000 in
theorem c_X8_window_r {hp : List gA} {M : gMd}  (HM : gMod hp M) (hr : gRi M) : gM yX8_window cX8_window 2 (none) 2 42 [.ref 122] (hp) (0) (0) (fun v h => v = none ∧ ∃ M', gMod h M' ∧ gFM hp h ∧ gRz 1 M M') := by
  refine gM_of (ls0 := [some (.ref 122), none]) (by decide +kernel) (Nat.le_of_ble_eq_true rfl) rfl fun X C E => ?_
  refine g_aload_n (q := 1) C dX8_window_0 rfl rfl ?_
  refine g_callVip (q := 4) (As := []) C gyX8_byteNext gvX8_byteNext t_1218 (c_X8_byteNext_r HM (hr.of gRz.rf).1) dX8_window_1 rfl HM.1 rfl rfl rfl (Nat.le_of_ble_eq_true rfl) (Nat.le_of_ble_eq_true rfl) (Nat.le_of_ble_eq_true rfl) (Nat.le_of_ble_eq_true rfl) (Nat.le_of_ble_eq_true rfl) rfl (fun x1 h1 z1 => ?_)
  obtain ⟨N1, HN1, fn1, bn1⟩ := z1
  obtain ⟨rn1, X1⟩ := gRz.bn (hr.of gRz.rf) bn1
  have R1 := gRz.trans gRz.rf rn1
  refine g_istore_n (q := 5) C dX8_window_4 (Nat.le_of_ble_eq_true rfl) (by simp only [gset]; rfl) rfl ?_
  refine g_aload_n (q := 6) C dX8_window_5 rfl rfl ?_
  refine g_getfield (v := .int ((N1.f 22))) (q := 9) C fX8_86 dX8_window_6 rfl HN1.1 rfl ?_
  refine g_if_ne (t := 34) (q := 12) C dX8_window_9 (by decide) rfl (fun c_9 => ?_) (fun c_9 => ?_)
  ·
    refine g_aload_n (q := 35) C dX8_window_34 rfl rfl ?_
    refine g_getfield (v := .ref 125) (q := 38) C fX8_16 dX8_window_35 rfl HN1.1 rfl ?_
    refine g_bipush (v := 7) (q := 40) C dX8_window_38 (by decide) rfl ?_
    refine g_iload_n (q := 41) C dX8_window_40 rfl rfl ?_
    refine g_iastoreN (j := 7) (q := 42) C dX8_window_41 rfl (HN1.ar (i := 2) (n := 9) (by decide) rfl) (pk_in 7 9 (by decide)) (pk_cl 7) ?_
    refine gMsto (i := 2) (j := 7) (x := x1) HN1 (by decide) rfl rfl fun h2 HL2 fr2 => ?_
    exact E.2.1 _ _ _ _ _ dX8_window_42 rfl (Nat.le_of_ble_eq_true rfl) (Nat.le_of_ble_eq_true rfl) ⟨rfl, _, HL2, (gFM.trans fn1 fr2), gRz.le (gRz.p7 R1 (fun h => absurd h c_9)) (by decide)⟩
  ·
    refine g_iload_n (q := 13) C dX8_window_12 rfl rfl ?_
    refine g_iconst (v := 1) (q := 14) C dX8_window_13 (by decide) rfl ?_
    refine g_sipush (v := 254) (q := 17) C dX8_window_14 (by decide) rfl ?_
    refine g_callSi (x := (rX8_within x1 1 254)) (q := 20) (As := [.int x1, .int 1, .int 254]) C gyX8_within t_1212 t_1211 (c_X8_within_m) dX8_window_17 rfl rfl rfl (Nat.le_of_ble_eq_true rfl) (Nat.le_of_ble_eq_true rfl) (Nat.le_of_ble_eq_true rfl) (Nat.le_of_ble_eq_true rfl) (Nat.le_of_ble_eq_true rfl) rfl ?_
    refine g_if_ne (t := 34) (q := 23) C dX8_window_20 (by decide) rfl (fun c_20 => ?_) (fun c_20 => ?_)
    ·
      refine g_aload_n (q := 35) C dX8_window_34 rfl rfl ?_
      refine g_getfield (v := .ref 125) (q := 38) C fX8_16 dX8_window_35 rfl HN1.1 rfl ?_
      refine g_bipush (v := 7) (q := 40) C dX8_window_38 (by decide) rfl ?_
      refine g_iload_n (q := 41) C dX8_window_40 rfl rfl ?_
      refine g_iastoreN (j := 7) (q := 42) C dX8_window_41 rfl (HN1.ar (i := 2) (n := 9) (by decide) rfl) (pk_in 7 9 (by decide)) (pk_cl 7) ?_
      refine gMsto (i := 2) (j := 7) (x := x1) HN1 (by decide) rfl rfl fun h3 HL3 fr3 => ?_
      exact E.2.1 _ _ _ _ _ dX8_window_42 rfl (Nat.le_of_ble_eq_true rfl) (Nat.le_of_ble_eq_true rfl) ⟨rfl, _, HL3, (gFM.trans fn1 fr3), gRz.le (gRz.p7 R1 (fun _ => (gWi (a := 1) (b := 254) (by decide) (by decide) c_20).imp fun _ h => ⟨h.1, by omega, h.2.2⟩)) (by decide)⟩
    ·
      refine g_aload_n (q := 24) C dX8_window_23 rfl rfl ?_
      refine g_iconst (v := 5) (q := 25) C dX8_window_24 (by decide) rfl ?_
      refine g_aload_n (q := 26) C dX8_window_25 rfl rfl ?_
      refine g_getfield (v := .int ((N1.f 21))) (q := 29) C fX8_89 dX8_window_26 rfl HN1.1 rfl ?_
      refine g_iconst (v := 1) (q := 30) C dX8_window_29 (by decide) rfl ?_
      refine g_isub (q := 31) C dX8_window_30 rfl ?_
      refine g_callVvp (q := 34) (As := [.int 5, .int (((N1.f 21) - 1))]) C gyX8_wrong gvX8_wrong t_1222 (c_X8_wrong_m (y := 5) (z := ((N1.f 21) - 1)) HN1) dX8_window_31 rfl HN1.1 rfl rfl rfl (Nat.le_of_ble_eq_true rfl) (Nat.le_of_ble_eq_true rfl) (Nat.le_of_ble_eq_true rfl) (Nat.le_of_ble_eq_true rfl) (Nat.le_of_ble_eq_true rfl) rfl (fun h4 z4 => ?_)
      obtain ⟨HN4, fn4⟩ := z4
      have R4 := gRz.trans R1 (gRz.wr (y := 5) (z := ((N1.f 21) - 1)))
      refine g_aload_n (q := 35) C dX8_window_34 rfl rfl ?_
      refine g_getfield (v := .ref 125) (q := 38) C fX8_16 dX8_window_35 rfl HN4.1 rfl ?_
      refine g_bipush (v := 7) (q := 40) C dX8_window_38 (by decide) rfl ?_
      refine g_iload_n (q := 41) C dX8_window_40 rfl rfl ?_
      refine g_iastoreN (j := 7) (q := 42) C dX8_window_41 rfl (HN4.ar (i := 2) (n := 9) (by decide) rfl) (pk_in 7 9 (by decide)) (pk_cl 7) ?_
      refine gMsto (i := 2) (j := 7) (x := x1) HN4 (by decide) rfl rfl fun h5 HL5 fr5 => ?_
      exact E.2.1 _ _ _ _ _ dX8_window_42 rfl (Nat.le_of_ble_eq_true rfl) (Nat.le_of_ble_eq_true rfl) ⟨rfl, _, HL5, (gFM.trans (gFM.trans fn1 fn4) fr5), gRz.le (gRz.p7 R4 (fun h => absurd h (by unfold rX8_wrong; rw [if_pos c_9, gset_s]; exact gx5))) (by decide)⟩
