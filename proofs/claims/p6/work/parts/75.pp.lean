/-! the reference: every call keeps what lies between calls: the contracts (by program: wip/p2/m_pp.py) -/
theorem gM.mp {y : MethodName} {bytes : ByteArray} {maxL : Nat} {ret : Option FieldType} {fr lo : Nat} {av : List Value} {hp : List gA} {mc ms : Nat} {P P' : Option Value → List gA → Prop} (h : gM y bytes maxL ret fr lo av hp mc ms P) (i : ∀ v h, P v h → P' v h) : gM y bytes maxL ret fr lo av hp mc ms P' := by
  intro l D cI cJ b0 sa p e a1 a2 a3 s m args below q1 q2 q3 q4
  obtain ⟨n, o, r1, r2, r3, ⟨⟨⟨v, hp', o1, o2, o3⟩, k⟩, f⟩⟩ := h l D cI cJ b0 sa p e a1 a2 a3 s m args below q1 q2 q3 q4
  exact ⟨n, o, r1, r2, r3, ⟨⟨⟨v, hp', o1, i _ _ o2, o3⟩, k⟩, f⟩⟩
section WC
variable {hp : List gA} {M : gMd} {n : Nat} {y z w : Int32} {a b : Int64}
theorem w_state (HM : gMod hp M) (W : kW M n) : gM yX8_state cX8_state 1 (some .int) 0 0 [.ref 122] hp 0 0 (fun v h => ∃ x, v = some (.int x) ∧ ∃ M', gMod h M' ∧ gFM hp h ∧ kW M' (n + 1) ∧ M'.f 1 = M.f 1 ∧ M'.f 9 = M.f 9 ∧ M'.f 3 = M.f 3 ∧ ∀ i q, i = 0 ∨ i = 1 ∨ i = 3 → M'.a i q = M.a i q) := by
  refine (c_X8_state_r HM).mp fun v h hv => ?_
  obtain ⟨x, rfl, h1, h2⟩ := hv
  exact ⟨x, rfl, _, h1, h2, W.q, gset_n (by decide), gset_n (by decide), gset_n (by decide), fun _ _ _ => rfl⟩
theorem w_side (HM : gMod hp M) (W : kW M n) : gM yX8_side cX8_side 3 (some .int) 1 22 [.ref 122, .int y, .int z] hp 0 0 (fun v h => ∃ x, v = some (.int x) ∧ ∃ M', gMod h M' ∧ gFM hp h ∧ kW M' (n + 1) ∧ M'.f 1 = M.f 1 ∧ M'.f 9 = M.f 9 ∧ M'.f 3 = M.f 3 ∧ ∀ i q, i = 0 ∨ i = 1 ∨ i = 3 → M'.a i q = M.a i q) := by
  refine (c_X8_side_r HM).mp fun v h hv => ?_
  obtain ⟨x, rfl, h1, h2⟩ := hv
  exact ⟨x, rfl, _, h1, h2, W.q, gset_n (by decide), gset_n (by decide), gset_n (by decide), fun _ _ _ => rfl⟩
theorem kW.got (W : kW M n) : ∀ k, k < 2 → M.a 4 (16 * k + 14) = -1 ∨ gIr (M.a 4 (16 * k + 14)) 60 := by
  obtain ⟨l, E, b, J, -⟩ := W.j
  obtain ⟨j1, j2, j3, j4, j5, j6, j7, kr, kc, cr, rr, rc, wc, tc, sp, I, -⟩ := J
  have key : ∀ x : Int32, -1 ≤ x.toInt ∧ x.toInt ≤ 60 → x = -1 ∨ gIr x 60 := fun x h => by
    by_cases c : 0 ≤ x.toInt
    · exact Or.inr (gt_ir c h.2)
    · exact Or.inl (Int32.toInt_inj.mp (by have : (-1 : Int32).toInt = -1 := by decide
                                           omega))
  intro k hk
  have : k = 0 ∨ k = 1 := by omega
  rcases this with rfl | rfl
  · exact key _ I.1.2.2.2.2.2.2.2.2.2.1
  · exact key _ I.2.1.2.2.2.2.2.2.2.2.2.1
theorem w_got (HM : gMod hp M) (W : kW M n) : gM yX8_got cX8_got 3 (some .int) 1 22 [.ref 122, .int y, .int z] hp 0 0 (fun v h => ∃ x, v = some (.int x) ∧ ∃ M', gMod h M' ∧ gFM hp h ∧ kW M' (n + 1) ∧ M'.f 1 = M.f 1 ∧ M'.f 9 = M.f 9 ∧ M'.f 3 = M.f 3 ∧ ∀ i q, i = 0 ∨ i = 1 ∨ i = 3 → M'.a i q = M.a i q) := by
  refine (c_X8_got_r HM W.got).mp fun v h hv => ?_
  obtain ⟨x, rfl, h1, h2⟩ := hv
  exact ⟨x, rfl, _, h1, h2, W.q, gset_n (by decide), gset_n (by decide), gset_n (by decide), fun _ _ _ => rfl⟩
theorem w_count (HM : gMod hp M) (W : kW M n) : gM yX8_count cX8_count 2 (some .int) 1 22 [.ref 122, .int y] hp 0 0 (fun v h => ∃ x, v = some (.int x) ∧ ∃ M', gMod h M' ∧ gFM hp h ∧ kW M' (n + 1) ∧ M'.f 1 = M.f 1 ∧ M'.f 9 = M.f 9 ∧ M'.f 3 = M.f 3 ∧ ∀ i q, i = 0 ∨ i = 1 ∨ i = 3 → M'.a i q = M.a i q) := by
  obtain ⟨l, E, b, J, -⟩ := W.j
  refine (c_X8_count_r HM (by obtain ⟨k, h1, h2⟩ := J.1; exact ⟨k, by omega, h2⟩)).mp fun v h hv => ?_
  obtain ⟨x, rfl, h1, h2⟩ := hv
  exact ⟨x, rfl, _, h1, h2, W.q, gset_n (by decide), gset_n (by decide), gset_n (by decide), fun _ _ _ => rfl⟩
theorem w_log (HM : gMod hp M) (W : kW M n) : gM yX8_log cX8_log 4 (some .int) 1 22 [.ref 122, .int y, .int z] hp 0 0 (fun v h => ∃ x, v = some (.int x) ∧ ∃ M', gMod h M' ∧ gFM hp h ∧ kW M' (n + 1) ∧ M'.f 1 = M.f 1 ∧ M'.f 9 = M.f 9 ∧ M'.f 3 = M.f 3 ∧ ∀ i q, i = 0 ∨ i = 1 ∨ i = 3 → M'.a i q = M.a i q) := by
  obtain ⟨l, E, b, J, -⟩ := W.j
  refine (c_X8_log_r HM J.2.2.2.2.1.2).mp fun v h hv => ?_
  obtain ⟨x, rfl, b, h1, h2⟩ := hv
  exact ⟨x, rfl, _, h1, h2, W.q, gset_n (by decide), gset_n (by decide), gset_n (by decide), fun _ _ _ => rfl⟩
theorem w_byteOf (HM : gMod hp M) (W : kW M n) : gM yX8_byteOf cX8_byteOf 3 (some .int) 1 22 [.ref 122, .int y, .int z] hp 0 0 (fun v h => ∃ x, v = some (.int x) ∧ ∃ M', gMod h M' ∧ gFM hp h ∧ kW M' (n + 1) ∧ M'.f 1 = M.f 1 ∧ M'.f 9 = M.f 9 ∧ M'.f 3 = M.f 3 ∧ ∀ i q, i = 0 ∨ i = 1 ∨ i = 3 → M'.a i q = M.a i q) := by
  obtain ⟨l, E, b, J, -⟩ := W.j
  refine (c_X8_byteOf_r HM J.2.2.2.2.1.2).mp fun v h hv => ?_
  obtain ⟨x, rfl, b, h1, h2⟩ := hv
  exact ⟨x, rfl, _, h1, h2, W.q, gset_n (by decide), gset_n (by decide), gset_n (by decide), fun _ _ _ => rfl⟩
theorem w_end (HM : gMod hp M) (W : kW M n) : gM yX8_end cX8_end 2 (some .int) 1 22 [.ref 122, .int y] hp 0 0 (fun v h => ∃ x, v = some (.int x) ∧ ∃ M', gMod h M' ∧ gFM hp h ∧ kW M' (n + 1) ∧ M'.f 9 = M.f 9 ∧ (M'.f 3 = M.f 3 ∧ ∀ i q, i = 0 ∨ i = 1 ∨ i = 3 → M'.a i q = M.a i q) ∧ ∀ L, L ≤ 96 → M.f 1 = nI L → ((y < 0 ∨ nI L < y) ∧ x = -1 ∧ M'.f 1 = nI L) ∨ (∃ m, m ≤ L ∧ y = nI m ∧ x = nI m ∧ M'.f 1 = nI m)) := by
  obtain ⟨⟨L, w1, w2, w3⟩, w7, w8⟩ := id W
  refine (c_X8_end_m HM (y := y)).mp fun v h hv => ?_
  obtain ⟨rfl, h1, h2⟩ := hv
  have eL : ∀ L', L' ≤ 96 → M.f 1 = nI L' → L' = L := fun L' h1 h2 => nI_inj (by omega) (by omega) (h2.symm.trans w2)
  by_cases c : rX8_within y 0 (M.f 1) = 0
  · have e : rX8_end M y = (-1, M.set 2 0) := if_pos c
    rw [e] at h1 ⊢
    refine ⟨-1, rfl, _, h1, h2, W.q, gset_n (by decide), ⟨gset_n (by decide), fun _ _ _ => rfl⟩, fun L' g1 g2 => Or.inl ?_⟩
    rw [g2] at c
    refine ⟨?_, rfl, (gset_n (by decide)).trans g2⟩
    by_cases c0 : y < 0
    · exact Or.inl c0
    · by_cases c1 : nI L' < y
      · exact Or.inr c1
      · unfold rX8_within at c
        rw [if_neg c0, if_neg c1] at c
        exact absurd c (by decide)
  · have e : rX8_end M y = (y, (M.set 2 0).set 1 y) := if_neg c
    rw [e] at h1 ⊢
    rw [w2] at c
    obtain ⟨m, -, hm, ey⟩ := gWi (a := 0) (b := L) (by decide) (by omega) c
    refine ⟨y, rfl, _, h1, h2, ?_, (gset_n (by decide)).trans (gset_n (by decide)), ⟨(gset_n (by decide)).trans (gset_n (by decide)), fun _ _ _ => rfl⟩, fun L' g1 g2 => Or.inr ⟨m, by rw [eL L' g1 g2]; exact hm, ey, ey, gset_s.trans ey⟩⟩
    refine W.cg (L' := m) (gset_s.trans ey) (fun L2 e h => Or.inl (by rw [eL L2 h e]; exact hm)) (by omega) ?_ ((gset_n (by decide)).trans (gset_n (by decide))) ((gset_n (by decide)).trans (gset_n (by decide))) ((gset_n (by decide)).trans (gset_n (by decide))) (((gset_n (by decide)).trans (gset_n (by decide))).trans w8.1) ((gset_n (by decide)).trans (gset_n (by decide))) w7 rfl fun i q _ => rfl
    obtain ⟨l, E, b, J, -⟩ := W.j
    rw [show ((M.set 2 0).set 1 y).f 9 = M.f 9 from (gset_n (by decide)).trans (gset_n (by decide))]
    exact J.2.2.1
theorem w_repeats (HM : gMod hp M) (W : kW M n) : gM yX8_repeats cX8_repeats 3 (some .int) 1 22 [.ref 122, .int y] hp 0 0 (fun v h => ∃ x, v = some (.int x) ∧ ∃ M', gMod h M' ∧ gFM hp h ∧ kW M' (n + 1) ∧ M'.f 1 = M.f 1 ∧ (M'.f 3 = M.f 3 ∧ ∀ i q, i = 0 ∨ i = 1 ∨ i = 3 → M'.a i q = M.a i q) ∧ ((¬ gIr y 3 ∧ x = -1 ∧ M'.f 9 = M.f 9) ∨ (gIr y 3 ∧ x = M.f 9 ∧ M'.f 9 = y))) := by
  obtain ⟨⟨L, w1, w2, w3⟩, w7, w8⟩ := id W
  refine (c_X8_repeats_m HM (y := y)).mp fun v h hv => ?_
  obtain ⟨rfl, h1, h2⟩ := hv
  by_cases c : rX8_within y 0 3 = 0
  · have e : rX8_repeats M y = (-1, M.set 2 0) := if_pos c
    rw [e] at h1 ⊢
    refine ⟨-1, rfl, _, h1, h2, W.q, gset_n (by decide), ⟨gset_n (by decide), fun _ _ _ => rfl⟩, Or.inl ⟨fun g => ?_, rfl, gset_n (by decide)⟩⟩
    have t := g.ti (by decide)
    unfold rX8_within at c
    rw [if_neg (by rw [Int32.lt_iff_toInt_lt, Int32.toInt_zero]; omega), if_neg (by rw [Int32.lt_iff_toInt_lt, show (3 : Int32).toInt = 3 from by decide]; omega)] at c
    exact absurd c (by decide)
  · have e : rX8_repeats M y = (M.f 9, (M.set 2 0).set 9 y) := if_neg c
    rw [e] at h1 ⊢
    obtain ⟨m, -, hm, ey⟩ := gWi (a := 0) (b := 3) (by decide) (by decide) c
    refine ⟨M.f 9, rfl, _, h1, h2, ?_, (gset_n (by decide)).trans (gset_n (by decide)), ⟨(gset_n (by decide)).trans (gset_n (by decide)), fun _ _ _ => rfl⟩, Or.inr ⟨⟨m, hm, ey⟩, rfl, gset_s⟩⟩
    refine W.cg (L' := L) (((gset_n (by decide)).trans (gset_n (by decide))).trans w2) (fun L2 e h => Or.inl (by have := nI_inj (by omega) (by omega) (w2.symm.trans e); omega)) w1 (by rw [gset_s]; exact ⟨m, hm, ey⟩) ((gset_n (by decide)).trans (gset_n (by decide))) ((gset_n (by decide)).trans (gset_n (by decide))) ((gset_n (by decide)).trans (gset_n (by decide))) (((gset_n (by decide)).trans (gset_n (by decide))).trans w8.1) ((gset_n (by decide)).trans (gset_n (by decide))) w7 rfl fun i q _ => rfl
theorem w_message (HM : gMod hp M) (W : kW M n) : gM yX8_message cX8_message 3 (some .int) 1 21 [.ref 122] hp 0 0 (fun v h => ∃ x, v = some (.int x) ∧ ∃ M', gMod h M' ∧ gFM hp h ∧ kW M' (n + 1) ∧ M'.f 1 = 0 ∧ M'.f 9 = M.f 9 ∧ M'.f 3 = M.f 3 ∧ ∀ i q, i = 0 ∨ i = 1 ∨ i = 3 → M'.a i q = M.a i q) := by
  obtain ⟨⟨L, w1, w2, w3⟩, w7, w8⟩ := id W
  obtain ⟨l, E, b, J, -⟩ := W.j
  have hw : ∃ w, 1 ≤ w ∧ w < 256 ∧ M.a 4 18 = nI w := by
    obtain ⟨j1, j2, j3, j4, j5, j6, j7, kr, kc, cr, rr, rc, wc, tc, sp, I, -⟩ := J
    have h := I.2.1.2.2.1
    have t : M.z 18 = (M.a 4 18).toInt := rfl
    have c := gt_clamp (show 0 ≤ (M.a 4 18).toInt by omega)
    exact ⟨_, by omega, by omega, gt_nI (by omega)⟩
  refine (c_X8_message_r HM ⟨L, w1, w2⟩ hw).mp fun v h hv => ?_
  obtain ⟨x, rfl, M', h1, h2, hv⟩ := hv
  rcases hv with rfl | ⟨cb, N, hN, eN, rfl⟩
  · refine ⟨x, rfl, _, h1, h2, W.cg (L' := 0) gset_s (fun _ _ _ => Or.inl (Nat.zero_le _)) (by decide) ?_ ((gset_n (by decide)).trans (gset_n (by decide))) ((gset_n (by decide)).trans (gset_n (by decide))) ((gset_n (by decide)).trans (gset_n (by decide))) (((gset_n (by decide)).trans (gset_n (by decide))).trans w8.1) ((gset_n (by decide)).trans (gset_n (by decide))) w7 rfl fun i q _ => rfl, gset_s, (gset_n (by decide)).trans (gset_n (by decide)), (gset_n (by decide)).trans (gset_n (by decide)), fun _ _ _ => rfl⟩
    rw [show ((M.set 2 0).set 1 0).f 9 = M.f 9 from (gset_n (by decide)).trans (gset_n (by decide))]
    exact J.2.2.1
  · have cb' : ¬ M.a 4 419 = 1 ∧ ¬ M.a 4 419 = 4 := by
      unfold rX8_canBegin at cb
      by_cases c0 : ((M.set 2 0).set 1 0).f 3 = 0
      · rw [if_pos c0] at cb; exact absurd rfl cb
      · rw [if_neg c0] at cb
        by_cases c1 : ((M.set 2 0).set 1 0).a 4 419 = 1
        · rw [if_pos c1] at cb; exact absurd rfl cb
        · rw [if_neg c1] at cb
          by_cases c2 : ((M.set 2 0).set 1 0).a 4 419 = 4
          · rw [if_pos c2] at cb; exact absurd rfl cb
          · exact ⟨c1, c2⟩
    have S : ∀ q, ¬ q = 5 → ¬ q = 8 → ¬ q = 419 → ¬ q = 420 → ¬ q = 421 → ¬ q = 422 → (rX8_starts_1 ((M.set 2 0).set 1 0)).a 4 q = M.a 4 q := fun q g1 g2 g3 g4 g5 g6 => (gput_n g2).trans ((gput_n g1).trans ((gput_n g6).trans ((gput_n g5).trans ((gput_n g4).trans (gput_n g3)))))
    have G : ∀ q, (q < 32 ∨ 92 ≤ q) → ((rX8_starts_1 ((M.set 2 0).set 1 0)).arr 4 (gCpy ((rX8_starts_1 ((M.set 2 0).set 1 0)).a 4) 32 ((rX8_starts_1 ((M.set 2 0).set 1 0)).a 0) 0 N)).a 4 q = (rX8_starts_1 ((M.set 2 0).set 1 0)).a 4 q := fun q hq => garr_s.trans (gCpy_out (by omega))
    have e5 : (rX8_starts_1 ((M.set 2 0).set 1 0)).a 4 5 = -1 := (gput_n (by decide)).trans gput_s
    have e8 : (rX8_starts_1 ((M.set 2 0).set 1 0)).a 4 8 = 0 := gput_s
    have e419 : (rX8_starts_1 ((M.set 2 0).set 1 0)).a 4 419 = 1 := (gput_n (by decide)).trans ((gput_n (by decide)).trans ((gput_n (by decide)).trans ((gput_n (by decide)).trans ((gput_n (by decide)).trans gput_s))))
    have e420 : (rX8_starts_1 ((M.set 2 0).set 1 0)).a 4 420 = 1 := (gput_n (by decide)).trans ((gput_n (by decide)).trans ((gput_n (by decide)).trans ((gput_n (by decide)).trans gput_s)))
    have ao : ∀ i q, ¬ i = 4 → (rX8_starts_1 ((M.set 2 0).set 1 0)).a i q = M.a i q := fun i q h => (gput_o h).trans ((gput_o h).trans ((gput_o h).trans ((gput_o h).trans ((gput_o h).trans (gput_o h)))))
    have ff : ∀ k, ¬ k = 1 → ¬ k = 2 → (rX8_starts_1 ((M.set 2 0).set 1 0)).f k = M.f k := fun k g1 g2 => (gset_n g1).trans (gset_n g2)
    have f1 : (rX8_starts_1 ((M.set 2 0).set 1 0)).f 1 = 0 := rfl
    generalize rX8_starts_1 ((M.set 2 0).set 1 0) = M0 at *
    refine ⟨x, rfl, _, h1, h2, W.msg hN eN cb'.1 cb'.2 f1 (fun k hk => ff k (by omega) (by omega)) (fun i q hi => (gput_o hi).trans ((gput_o hi).trans ((garr_o hi).trans (ao i q hi)))) (fun q g1 g2 g3 g4 g5 g6 g7 g8 g9 => (gput_n g2).trans ((gput_n g1).trans ((G q g9).trans (S q g3 g4 g5 g6 g7 g8)))) (fun q g1 g2 => ?_) ((gput_n (by decide)).trans gput_s) gput_s ((gput_n (by decide)).trans ((gput_n (by decide)).trans ((G 5 (by decide)).trans e5))) ((gput_n (by decide)).trans ((gput_n (by decide)).trans ((G 8 (by decide)).trans e8))) ((gput_n (by decide)).trans ((gput_n (by decide)).trans ((G 419 (by decide)).trans e419))) ((gput_n (by decide)).trans ((gput_n (by decide)).trans ((G 420 (by decide)).trans e420))), f1, ff 9 (by decide) (by decide), ff 3 (by decide) (by decide), fun i q hi => (gput_o (show ¬ i = 4 by omega)).trans ((gput_o (show ¬ i = 4 by omega)).trans ((garr_o (show ¬ i = 4 by omega)).trans (ao i q (by omega))))⟩
    rw [gput_n (by omega), gput_n (by omega), garr_s]
    unfold gCpy
    by_cases c : 32 ≤ q ∧ q < 32 + N
    · rw [if_pos c, ao 0 _ (by decide)]; exact w7 _
    · rw [if_neg c, S q (by omega) (by omega) (by omega) (by omega) (by omega) (by omega)]
      obtain ⟨j1, j2, j3, j4, j5, j6, j7, kr, kc, cr, rr, rc, wc, tc, sp, I, -⟩ := J
      exact I.2.2.1 q g1 g2
theorem w_room (HM : gMod hp M) (W : kW M n) : gM yX8_room cX8_room 2 (some .int) 1 22 [.ref 122, .int y] hp 0 0 (fun v h => ∃ x, v = some (.int x) ∧ ∃ M', gMod h M' ∧ gFM hp h ∧ kW M' (n + 1) ∧ M'.f 1 = M.f 1 ∧ M'.f 9 = M.f 9 ∧ M'.f 3 = M.f 3 ∧ ∀ i q, i = 0 ∨ i = 1 ∨ i = 3 → M'.a i q = M.a i q) := by
  obtain ⟨⟨L, w1, w2, w3⟩, w7, w8⟩ := id W
  refine (c_X8_room_m HM (y := y)).mp fun v h hv => ?_
  obtain ⟨rfl, h1, h2⟩ := hv
  by_cases c : rX8_within y 1 254 = 0
  · have e : rX8_room M y = (-1, M.set 2 0) := if_pos c
    rw [e] at h1 ⊢
    exact ⟨-1, rfl, _, h1, h2, W.q, gset_n (by decide), gset_n (by decide), gset_n (by decide), fun _ _ _ => rfl⟩
  · by_cases cb : rX8_canBegin (M.set 2 0) = 0
    · have e : rX8_room M y = (-1, M.set 2 0) := (if_neg c).trans (if_pos cb)
      rw [e] at h1 ⊢
      exact ⟨-1, rfl, _, h1, h2, W.q, gset_n (by decide), gset_n (by decide), gset_n (by decide), fun _ _ _ => rfl⟩
    · have e : rX8_room M y = (1, (rX8_starts_2 (M.set 2 0)).put 4 10 y) := (if_neg c).trans (if_neg cb)
      rw [e] at h1 ⊢
      obtain ⟨m, -, hm, ey⟩ := gWi (a := 1) (b := 254) (by decide) (by decide) c
      have cb' : ¬ M.a 4 419 = 1 ∧ ¬ M.a 4 419 = 4 := by
        unfold rX8_canBegin at cb
        by_cases c0 : (M.set 2 0).f 3 = 0
        · rw [if_pos c0] at cb; exact absurd rfl cb
        · rw [if_neg c0] at cb
          by_cases c1 : (M.set 2 0).a 4 419 = 1
          · rw [if_pos c1] at cb; exact absurd rfl cb
          · rw [if_neg c1] at cb
            by_cases c2 : (M.set 2 0).a 4 419 = 4
            · rw [if_pos c2] at cb; exact absurd rfl cb
            · exact ⟨c1, c2⟩
      refine ⟨1, rfl, _, h1, h2, W.room (v := m) (by omega) cb'.1 cb'.2 (fun k hk => gset_n (M := M) (x := 0) (show ¬ k = 2 by omega)) (fun i q hi => (gput_o hi).trans ((gput_o hi).trans ((gput_o hi).trans ((gput_o hi).trans ((gput_o hi).trans ((gput_o hi).trans (gput_o hi))))))) (fun q g1 g2 g3 g4 g5 g6 g7 => (gput_n g1).trans ((gput_n g3).trans ((gput_n g2).trans ((gput_n g7).trans ((gput_n g6).trans ((gput_n g5).trans (gput_n g4))))))) (gput_s.trans ey) ((gput_n (by decide)).trans ((gput_n (by decide)).trans gput_s)) ((gput_n (by decide)).trans gput_s) ((gput_n (by decide)).trans ((gput_n (by decide)).trans ((gput_n (by decide)).trans ((gput_n (by decide)).trans ((gput_n (by decide)).trans ((gput_n (by decide)).trans gput_s)))))) ((gput_n (by decide)).trans ((gput_n (by decide)).trans ((gput_n (by decide)).trans ((gput_n (by decide)).trans ((gput_n (by decide)).trans gput_s))))), rfl, rfl, rfl, fun i q hi => (gput_o (show ¬ i = 4 by omega)).trans ((gput_o (show ¬ i = 4 by omega)).trans ((gput_o (show ¬ i = 4 by omega)).trans ((gput_o (show ¬ i = 4 by omega)).trans ((gput_o (show ¬ i = 4 by omega)).trans ((gput_o (show ¬ i = 4 by omega)).trans (gput_o (show ¬ i = 4 by omega)))))))⟩
theorem w_fault (HM : gMod hp M) (W : kW M n) : gM yX8_fault cX8_fault 4 (some .int) 2 46 [.ref 122, .int y, .int z, .int w] hp 0 0 (fun v h => ∃ x, v = some (.int x) ∧ ∃ M', gMod h M' ∧ gFM hp h ∧ kW M' (n + 1) ∧ M'.f 1 = M.f 1 ∧ M'.f 9 = M.f 9 ∧ M'.f 3 = M.f 3 ∧ ∀ i q, i = 0 ∨ i = 1 ∨ i = 3 → M'.a i q = M.a i q) := by
  obtain ⟨l, E, b, J, -⟩ := W.j
  refine (c_X8_fault_r HM J.1 J.2.1).mp fun v h hv => ?_
  obtain ⟨x, rfl, M', h1, h2, hv⟩ := hv
  rcases hv with rfl | ⟨-, g, L, P, hv⟩
  · exact ⟨x, rfl, _, h1, h2, W.q, gset_n (by decide), gset_n (by decide), gset_n (by decide), fun _ _ _ => rfl⟩
  · obtain ⟨K1, K2⟩ := W.flt P
    rcases hv with rfl | ⟨k, m, y', hm, hF, hk, rfl⟩
    · exact ⟨x, rfl, _, h1, h2, K1, rfl, rfl, rfl, fun i q hi => (gput_o (show ¬ i = 4 by omega)).trans (garr_o (show ¬ i = 4 by omega))⟩
    · exact ⟨x, rfl, _, h1, h2, K2 k m y' z w hm hF hk, rfl, rfl, rfl, fun i q hi => (gput_o (show ¬ i = 4 by omega)).trans ((gput_o (show ¬ i = 4 by omega)).trans ((gput_o (show ¬ i = 4 by omega)).trans ((gput_o (show ¬ i = 4 by omega)).trans ((gput_o (show ¬ i = 4 by omega)).trans (garr_o (show ¬ i = 4 by omega))))))⟩
theorem w_step (HM : gMod hp M) (W : kW M n) (hn : n < 512) : gM yX8_step cX8_step 4 (some .int) 11 253 [.ref 122, .int y] hp 0 0 (fun v h => ∃ x, v = some (.int x) ∧ ∃ M', gMod h M' ∧ gFM hp h ∧ kW M' (n + 1) ∧ M'.f 1 = M.f 1 ∧ M'.f 9 = M.f 9 ∧ M'.f 3 = M.f 3 ∧ ∀ i q, i = 0 ∨ i = 1 ∨ i = 3 → M'.a i q = M.a i q) := by
  obtain ⟨⟨T, w1, w2, l, E, b, J, w4, w5, w6⟩, w7, w8, w9, w10⟩ := id W
  have w56 : b + 5568 * (((T + 15) / 16 : Nat) : Int) ≤ 5568 * n + 2448 := by
    by_cases c : M.a 4 420 = 1
    · exact w5 c
    · have := w6 c; omega
  refine (c_X8_step_r (J := fun k M1 l' D => kJ 24 M1 l' D (b + 52 * k) ∧ l' ≤ l + 512 * k ∧ kFr (M.set 2 0) M1 ∧ (k = 0 → M1.a 4 420 = M.a 4 420) ∧ (1 ≤ k → M1.a 4 420 = 0)) HM (fun _ _ => ⟨l, E, ?_, by omega, ⟨fun _ _ => rfl, fun _ _ _ => rfl, fun _ _ _ => rfl⟩, fun _ => rfl, fun h => absurd h (by decide)⟩) (fun k M1 l' D hk HJ h419 => ?_) (fun k M1 l' D HJ => ⟨by obtain ⟨m, g1, g2⟩ := HJ.1.1; exact ⟨m, by omega, g2⟩, HJ.1.2.1⟩)).mp fun v h hv => ?_
  · have e : b + 52 * ((0 : Nat) : Int) = b := by omega
    rw [e]
    exact J.cg (by decide) (by decide) (kU (M := M) rfl rfl rfl (fun _ _ _ => rfl) J.2.2.2.2.1) J.2.2.1 (fun h => h) fun q _ => rfl
  · obtain ⟨K, hl', fr, -, -⟩ := HJ
    have t := kTurn K (by decide) (by omega) h419 (fun _ => by omega)
    refine ⟨t.1, fun M' D' x T' => ?_⟩
    obtain ⟨l2, h1, h2, h3, h4, -⟩ := t.2 M' D' x T'
    have e : b + 52 * ((k + 1 : Nat) : Int) = b + 52 * k + 52 := by omega
    have e2 : l2 ≤ l + 512 * (k + 1) := Nat.le_trans h1 (Nat.le_trans (Nat.add_le_add_right hl' 512) (Nat.le_of_eq (by rw [Nat.mul_succ, Nat.add_assoc])))
    have e3 : ¬ k + 1 = 0 := Nat.succ_ne_zero k
    exact ⟨l2, by rw [e]; exact h2, e2, fr.tr h3, fun h => absurd h e3, fun _ => h4⟩
  · obtain ⟨x, rfl, M', h1, h2, hv⟩ := hv
    rcases hv with rfl | ⟨-, -, m, k, Mz, l', D, g, L, hm, hk, ⟨K, hl', fr, e0, e1⟩, -, rfl, P⟩
    · exact ⟨x, rfl, _, h1, h2, W.q, gset_n (by decide), gset_n (by decide), gset_n (by decide), fun _ _ _ => rfl⟩
    · obtain ⟨K2, -, -, A⟩ := kPass (by decide) K P
      have f1 : ((Mz.arr 4 g).put 4 430 (nI L)).f 1 = M.f 1 := (fr.1 1 (by omega)).trans (gset_n (by decide))
      have f9 : ((Mz.arr 4 g).put 4 430 (nI L)).f 9 = M.f 9 := (fr.1 9 (by omega)).trans (gset_n (by decide))
      have a0 : ∀ q, ((Mz.arr 4 g).put 4 430 (nI L)).a 0 q = M.a 0 q := fun q => (gput_o (by decide)).trans ((garr_o (by decide)).trans (fr.2.1 0 q (by omega)))
      have a1 : ((Mz.arr 4 g).put 4 430 (nI L)).a 1 6 = M.a 1 6 := (gput_o (by decide)).trans ((garr_o (by decide)).trans (fr.2.1 1 6 (by omega)))
      have e420 := A 420 (by omega)
      refine ⟨x, rfl, _, h1, h2, ⟨⟨T, w1, f1.trans w2, l', D, _, K2, by omega, fun h => ?_, fun h => ?_⟩, fun q => by rw [a0 q]; exact w7 q, ((fr.1 19 (by omega)).trans (gset_n (by decide))).trans w8, by rw [a1]; exact w9, by rw [show ((Mz.arr 4 g).put 4 430 (nI L)).f 38 = M.f 38 from (fr.1 38 (by omega)).trans (gset_n (by decide))]; exact w10⟩, f1, f9, (fr.1 3 (by omega)).trans (gset_n (by decide)), fun i q hi => (gput_o (show ¬ i = 4 by omega)).trans ((garr_o (show ¬ i = 4 by omega)).trans (fr.2.1 i q (by omega)))⟩
      · omega
      · omega
theorem w_would (HM : gMod hp M) (W : kW M n) (hn : n < 512) : gM yX8_would cX8_would 3 (some .int) 12 274 [.ref 122, .int y] hp 0 0 (fun v h => ∃ x, v = some (.int x) ∧ ∃ M', gMod h M' ∧ gFM hp h ∧ kW M' (n + 1) ∧ M'.f 1 = M.f 1 ∧ M'.f 9 = M.f 9 ∧ M'.f 3 = M.f 3 ∧ ∀ i q, i = 0 ∨ i = 1 ∨ i = 3 → M'.a i q = M.a i q) := by
  obtain ⟨⟨T, w1, w2, l, E, b, J, w4, w5, w6⟩, w7, w8, w9, w10⟩ := id W
  have k5 : ∀ q, q < 772 → (((rX8_keeps (M.set 2 0)).set 19 1).set 36 0).a 5 q = M.a 4 q := fun q hq => by
    show ((M.set 2 0).arr 5 (gCpy ((M.set 2 0).a 5) 0 ((M.set 2 0).a 4) 0 772)).a 5 q = _
    rw [garr_s]
    unfold gCpy
    rw [if_pos (by omega), Nat.zero_add, Nat.sub_zero]; rfl
  have k4 : ∀ i q, ¬ i = 5 → (((rX8_keeps (M.set 2 0)).set 19 1).set 36 0).a i q = M.a i q := fun i q h => garr_o h
  have kf : ∀ k, ¬ k = 2 → ¬ k = 19 → ¬ k = 36 → (((rX8_keeps (M.set 2 0)).set 19 1).set 36 0).f k = M.f k := fun k g1 g2 g3 => (gset_n g3).trans ((gset_n g2).trans (gset_n g1))
  have k19 : (((rX8_keeps (M.set 2 0)).set 19 1).set 36 0).f 19 = 1 := (gset_n (by decide)).trans gset_s
  have J0 : kJ 24 (((rX8_keeps (M.set 2 0)).set 19 1).set 36 0) l E b := J.cg (by decide) (by decide) (kU (M := M) (kf 12 (by decide) (by decide) (by decide)) (kf 13 (by decide) (by decide) (by decide)) (kf 18 (by decide) (by decide) (by decide)) (fun i q h => k4 i q (by omega)) J.2.2.2.2.1) (by rw [kf 9 (by decide) (by decide) (by decide)]; exact J.2.2.1) (fun _ => by rw [k19]; decide) fun q _ => k4 4 q (by decide)
  obtain ⟨Mq, hMq⟩ : ∃ Mq, Mq = ((rX8_keeps (M.set 2 0)).set 19 1).set 36 0 := ⟨_, rfl⟩
  rw [← hMq] at k5 k4 kf k19 J0
  refine (c_X8_would_r (J := fun k M1 l' D => (∃ b' : Int, kJ 24 M1 l' D b') ∧ D = E ∧ l' ≤ l + 512 * k ∧ kFr Mq M1) HM (fun _ _ => ⟨l, E, ⟨b, by rw [← hMq]; exact J0⟩, rfl, by omega, by rw [← hMq]; exact ⟨fun _ _ => rfl, fun _ _ _ => rfl, fun _ _ _ => rfl⟩⟩) (fun k M1 l' D hk HJ h419 => ?_)).mp fun v h hv => ?_
  · obtain ⟨⟨b', K⟩, rfl, hl', fr⟩ := HJ
    have n19 : ¬ M1.f 19 = 0 := by rw [fr.1 19 (by omega), k19]; decide
    have t := kTurn K (by decide) (by omega) h419 (fun h => absurd h n19)
    refine ⟨t.1, fun M' D' x T' s => ?_⟩
    obtain ⟨l2, h1, h2, h3, h4, h5⟩ := t.2 M' D' x T'
    have e2 : l2 ≤ l + 512 * (k + 1) := Nat.le_trans h1 (Nat.le_trans (Nat.add_le_add_right hl' 512) (Nat.le_of_eq (by rw [Nat.mul_succ, Nat.add_assoc])))
    have n19' : ¬ M'.f 19 = 0 := by rw [h3.1 19 (by omega)]; exact n19
    exact ⟨l2, ⟨_, h2.cg (M' := M'.set 36 s) (by decide) (by decide) (kU (M := M') rfl rfl rfl (fun _ _ _ => rfl) h2.2.2.2.2.1) h2.2.2.1 (fun _ => n19') fun q _ => rfl⟩, h5 n19, e2, (fr.tr h3).tr ⟨fun k hk => gset_n (by omega), fun _ _ _ => rfl, fun _ _ _ => rfl⟩⟩
  · obtain ⟨x, rfl, M', h1, h2, hv⟩ := hv
    rcases hv with rfl | ⟨-, -, k, Mz, l', D, hk, ⟨⟨b', K⟩, rfl, hl', fr⟩, rfl⟩
    · exact ⟨x, rfl, _, h1, h2, W.q, gset_n (by decide), gset_n (by decide), gset_n (by decide), fun _ _ _ => rfl⟩
    · have A : ∀ q, q < 772 → (rX8_comesBack (Mz.set 19 0)).a 4 q = M.a 4 q := fun q hq => by
        show ((Mz.set 19 0).arr 4 (gCpy ((Mz.set 19 0).a 4) 0 ((Mz.set 19 0).a 5) 0 772)).a 4 q = _
        rw [garr_s]
        unfold gCpy
        rw [if_pos (by omega), Nat.zero_add, Nat.sub_zero]
        exact (fr.2.1 5 q (by omega)).trans (k5 q hq)
      have Ao : ∀ i q, ¬ i = 4 → (rX8_comesBack (Mz.set 19 0)).a i q = Mz.a i q := fun i q h => garr_o h
      have F : ∀ k, ¬ k = 19 → (rX8_comesBack (Mz.set 19 0)).f k = Mz.f k := fun k h => gset_n h
      have F19 : (rX8_comesBack (Mz.set 19 0)).f 19 = 0 := rfl
      have f1 : (rX8_comesBack (Mz.set 19 0)).f 1 = M.f 1 := (F 1 (by decide)).trans ((fr.1 1 (by omega)).trans (kf 1 (by decide) (by decide) (by decide)))
      have f9 : (rX8_comesBack (Mz.set 19 0)).f 9 = M.f 9 := (F 9 (by decide)).trans ((fr.1 9 (by omega)).trans (kf 9 (by decide) (by decide) (by decide)))
      have f38 : (rX8_comesBack (Mz.set 19 0)).f 38 = M.f 38 := (F 38 (by decide)).trans ((fr.1 38 (by omega)).trans (kf 38 (by decide) (by decide) (by decide)))
      have J2 : kJ 24 (rX8_comesBack (Mz.set 19 0)) l D b := J.cg (by decide) (by decide) (kU (M := Mz) (F 12 (by decide)) (F 13 (by decide)) (F 18 (by decide)) (fun i q h => Ao i q (by omega)) K.2.2.2.2.1) (by rw [f9]; exact J.2.2.1) (fun h => absurd w8 h) A
      have a0 : ∀ q, (rX8_comesBack (Mz.set 19 0)).a 0 q = M.a 0 q := fun q => (Ao 0 q (by decide)).trans ((fr.2.1 0 q (by omega)).trans (k4 0 q (by decide)))
      have a1 : (rX8_comesBack (Mz.set 19 0)).a 1 6 = M.a 1 6 := (Ao 1 6 (by decide)).trans ((fr.2.1 1 6 (by omega)).trans (k4 1 6 (by decide)))
      have e420 := A 420 (by decide)
      exact ⟨x, rfl, _, h1, h2, ⟨⟨T, w1, f1.trans w2, l, D, b, J2, by omega, fun h => by rw [e420] at h; have := w5 h; omega, fun h => by rw [e420] at h; have := w6 h; omega⟩, fun q => by rw [a0 q]; exact w7 q, F19, by rw [a1]; exact w9, by rw [f38]; exact w10⟩, f1, f9, (F 3 (by decide)).trans ((fr.1 3 (by omega)).trans (kf 3 (by decide) (by decide) (by decide))), fun i q hi => (Ao i q (by omega)).trans ((fr.2.1 i q (by omega)).trans (k4 i q (by omega)))⟩
theorem w_harm (HM : gMod hp M) (W : kW M n) (hn : n < 512) : gM yX8_harm cX8_harm 9 (some .int) 12 274 [.ref 122, .int y, .int z] hp 0 0 (fun v h => ∃ x, v = some (.int x) ∧ ∃ M', gMod h M' ∧ gFM hp h ∧ kW M' (n + 1) ∧ M'.f 1 = M.f 1 ∧ M'.f 9 = M.f 9 ∧ M'.f 3 = M.f 3 ∧ ∀ i q, i = 0 ∨ i = 1 ∨ i = 3 → M'.a i q = M.a i q) := by
  obtain ⟨⟨T, w1, w2, l, E, b, J, w4, w5, w6⟩, w7, w8, w9, w10⟩ := id W
  obtain ⟨j430, jfe, jrest⟩ := id J
  -- the base: the line as it is kept
  obtain ⟨Bp, hBp⟩ : ∃ Bp : (Nat → Int32) → gMd → Prop, Bp = fun s0 M1 => kJ 24 M1 l E b ∧ M1.f 19 = 0 ∧ (∀ q, q < 772 → M1.a 4 q = s0 q) ∧ (∀ q, q < 772 → M1.a 5 q = s0 q) ∧ M1.f 1 = M.f 1 ∧ M1.f 9 = M.f 9 ∧ (∀ q, M1.a 0 q = M.a 0 q) ∧ (M1.a 1 6 = M.a 1 6 ∧ M1.f 3 = M.f 3 ∧ ∀ i q, i = 0 ∨ i = 1 ∨ i = 3 → M1.a i q = M.a i q) ∧ (M1.f 38).toNatClampNeg ≤ 60 := ⟨_, rfl⟩
  obtain ⟨Jp, hJp⟩ : ∃ Jp : (Nat → Int32) → Nat → gMd → Nat → List (Int32 × List Int32) → Prop, Jp = fun s0 k M1 l' D => (∃ b' : Int, kJ 25 M1 l' D b') ∧ D = E ∧ l' ≤ l + 512 * k ∧ M1.f 19 = 1 ∧ (∀ q, q < 772 → M1.a 5 q = s0 q) ∧ M1.f 1 = M.f 1 ∧ M1.f 9 = M.f 9 ∧ (∀ q, M1.a 0 q = M.a 0 q) ∧ (M1.a 1 6 = M.a 1 6 ∧ M1.f 3 = M.f 3 ∧ ∀ i q, i = 0 ∨ i = 1 ∨ i = 3 → M1.a i q = M.a i q) ∧ (M1.f 38).toNatClampNeg ≤ 60 := ⟨_, rfl⟩
  have hB0 : ¬ M.f 3 = 0 → M.a 4 419 = 1 → ∀ g L, gPs (M.a 4) g (M.a 4 430).toNatClampNeg L → Bp (((M.arr 4 g).put 4 430 (nI L)).a 4) (rX8_keeps (((M.set 2 0).arr 4 g).put 4 430 (nI L))) := fun _ _ g L P => by
    obtain ⟨K, -, -, -⟩ := kPass (by decide) J P
    have e4 : ∀ q, (rX8_keeps (((M.set 2 0).arr 4 g).put 4 430 (nI L))).a 4 q = ((M.arr 4 g).put 4 430 (nI L)).a 4 q := fun q => garr_o (by decide)
    rw [hBp]
    refine ⟨K.cg (by decide) (by decide) (kU (M := M) rfl rfl rfl (fun i q h => (garr_o (by omega)).trans ((gput_o (by omega)).trans (garr_o (by omega)))) J.2.2.2.2.1) J.2.2.1 (fun h => h) fun q _ => e4 q, w8, fun q _ => e4 q, fun q hq => ?_, rfl, rfl, fun q => rfl, ⟨rfl, rfl, fun i q hi => (garr_o (show ¬ i = 5 by omega)).trans ((gput_o (show ¬ i = 4 by omega)).trans (garr_o (show ¬ i = 4 by omega)))⟩, w10⟩
    show ((((M.set 2 0).arr 4 g).put 4 430 (nI L)).arr 5 (gCpy ((((M.set 2 0).arr 4 g).put 4 430 (nI L)).a 5) 0 ((((M.set 2 0).arr 4 g).put 4 430 (nI L)).a 4) 0 772)).a 5 q = _
    rw [garr_s]
    unfold gCpy
    rw [if_pos (by omega), Nat.zero_add, Nat.sub_zero]; rfl
  have hBJ : ∀ s0 M1, Bp s0 M1 → ∃ l' D, Jp s0 0 ((M1.set 19 1).set 36 0) l' D := fun s0 M1 hB => by
    rw [hBp] at hB
    obtain ⟨b1, b2, b3, b4, b5, b6, b7, b8, b9⟩ := hB
    rw [hJp]
    exact ⟨l, E, ⟨b, b1.cg (by decide) (by decide) (kU (M := M1) rfl rfl rfl (fun _ _ _ => rfl) b1.2.2.2.2.1) b1.2.2.1 (fun h => absurd b2 h) fun q _ => rfl⟩, rfl, Nat.le_refl _, rfl, b4, b5, b6, b7, b8, b9⟩
  have hJ : ∀ s0 k M1 l' D, k < 400 → Jp s0 k M1 l' D → M1.a 4 419 = 1 → oTn M1 l' D ∧ ∀ M' D' x, gTn M1 l' D M' D' x → ∀ s, ∃ l', Jp s0 (k + 1) (M'.set 36 s) l' D' := fun s0 k M1 l' D hk HJ h419 => by
    rw [hJp] at HJ
    obtain ⟨⟨b', K⟩, rfl, hl', f19, a5, f1, f9, a0, a1, f38⟩ := HJ
    have n19 : ¬ M1.f 19 = 0 := by rw [f19]; decide
    have t := kTurn K (by decide) (by omega) h419 (fun h => absurd h n19)
    refine ⟨t.1, fun M' D' x T' s => ?_⟩
    obtain ⟨l2, h1, h2, h3, h4, h5⟩ := t.2 M' D' x T'
    have e2 : l2 ≤ l + 512 * (k + 1) := Nat.le_trans h1 (Nat.le_trans (Nat.add_le_add_right hl' 512) (Nat.le_of_eq (by rw [Nat.mul_succ, Nat.add_assoc])))
    have n19' : ¬ M'.f 19 = 0 := by rw [h3.1 19 (by omega)]; exact n19
    rw [hJp]
    exact ⟨l2, ⟨_, h2.cg (M' := M'.set 36 s) (by decide) (by decide) (kU (M := M') rfl rfl rfl (fun _ _ _ => rfl) h2.2.2.2.2.1) h2.2.2.1 (fun _ => n19') fun q _ => rfl⟩, h5 n19, e2, (h3.1 19 (by omega)).trans f19, fun q hq => (h3.2.1 5 q (by omega)).trans (a5 q hq), (h3.1 1 (by omega)).trans f1, (h3.1 9 (by omega)).trans f9, fun q => (h3.2.1 0 q (by omega)).trans (a0 q), ⟨(h3.2.1 1 6 (by omega)).trans a1.1, (h3.1 3 (by omega)).trans a1.2.1, fun i q hi => (h3.2.1 i q (by omega)).trans (a1.2.2 i q hi)⟩, by rw [show (M'.set 36 s).f 38 = M1.f 38 from h3.1 38 (by omega)]; exact f38⟩
  have hJB : ∀ s0, (∃ M1, Bp s0 M1) → ∀ k Mz l' D, Jp s0 k Mz l' D → (Mz.a 4 14).toNatClampNeg ≤ 60 ∧ (Mz.f 38).toNatClampNeg ≤ 60 ∧ (Bp s0 (rX8_comesBack (Mz.set 19 0)) ∧ ∀ g, Bp s0 (rX8_comesBack (((Mz.set 19 0).set 38 (Mz.a 4 14)).arr 15 g))) := fun s0 hb k Mz l' D HJ => by
    obtain ⟨M1, hB⟩ := hb
    rw [hBp] at hB
    obtain ⟨b1, b2, b3, b4, b5, b6, b7, b8, b9⟩ := hB
    rw [hJp] at HJ
    obtain ⟨⟨b', K⟩, rfl, hl', f19, a5, f1, f9, a0, a1, f38⟩ := HJ
    have c14 : (Mz.a 4 14).toNatClampNeg ≤ 60 := by
      obtain ⟨j1, j2, j3, j4, j5, j6, j7, kr, kc, cr, rr, rc, wc, tc, sp, I, -⟩ := K
      exact gt_cle I.1.2.2.2.2.2.2.2.2.2.1.2
    have C : ∀ X : gMd, (∀ q, q < 772 → X.a 5 q = s0 q) → ∀ q, q < 772 → (rX8_comesBack X).a 4 q = s0 q := fun X hX q hq => by
      show (X.arr 4 (gCpy (X.a 4) 0 (X.a 5) 0 772)).a 4 q = _
      rw [garr_s]
      unfold gCpy
      rw [if_pos (by omega), Nat.zero_add, Nat.sub_zero]; exact hX q hq
    have Ao : ∀ X : gMd, ∀ i q, ¬ i = 4 → (rX8_comesBack X).a i q = X.a i q := fun X i q h => garr_o h
    rw [hBp]
    refine ⟨c14, f38, ⟨b1.cg (by decide) (by decide) (kU (M := Mz) rfl rfl rfl (fun i q h => Ao _ i q (by omega)) K.2.2.2.2.1) (by rw [show (rX8_comesBack (Mz.set 19 0)).f 9 = Mz.f 9 from rfl]; exact K.2.2.1) (fun h => absurd b2 h) (fun q hq => (C (Mz.set 19 0) a5 q hq).trans (b3 q hq).symm), rfl, C (Mz.set 19 0) a5, fun q hq => a5 q hq, f1, f9, fun q => a0 q, ⟨a1.1, a1.2.1, fun i q hi => (Ao _ i q (by omega)).trans (a1.2.2 i q hi)⟩, f38⟩, fun g => ⟨b1.cg (by decide) (by decide) (kU (M := Mz) rfl rfl rfl (fun i q h => (Ao _ i q (by omega)).trans (garr_o (by omega))) K.2.2.2.2.1) (by rw [show (rX8_comesBack (((Mz.set 19 0).set 38 (Mz.a 4 14)).arr 15 g)).f 9 = Mz.f 9 from rfl]; exact K.2.2.1) (fun h => absurd b2 h) (fun q hq => (C (((Mz.set 19 0).set 38 (Mz.a 4 14)).arr 15 g) (fun q hq => a5 q hq) q hq).trans (b3 q hq).symm), rfl, C (((Mz.set 19 0).set 38 (Mz.a 4 14)).arr 15 g) (fun q hq => a5 q hq), fun q hq => a5 q hq, f1, f9, fun q => a0 q, ⟨a1.1, a1.2.1, fun i q hi => (Ao _ i q (by omega)).trans ((garr_o (show ¬ i = 15 by omega)).trans (a1.2.2 i q hi))⟩, c14⟩⟩
  have hBf : ∀ s0 M1, Bp s0 M1 → gIr (M1.a 4 430) 24 ∧ ∀ y z w k n, ((k < (M1.a 4 430).toNatClampNeg ∧ n = (M1.a 4 430).toNatClampNeg ∧ M1.a 4 (431 + 3 * k) = y) ∨ (k = (M1.a 4 430).toNatClampNeg ∧ n = (M1.a 4 430).toNatClampNeg + 1 ∧ ∀ j, j < (M1.a 4 430).toNatClampNeg → ¬ M1.a 4 (431 + 3 * j) = y)) → (z = 1 ∨ z = 2 ∨ z = 3) → w = (if z = 2 then 1 else 0) → ∃ l' D, Jp s0 0 (((gPf M1 y z w k n).set 19 1).set 36 0) l' D := fun s0 M1 hB => by
    rw [hBp] at hB
    obtain ⟨b1, b2, b3, b4, b5, b6, b7, b8, b9⟩ := hB
    have cl := b1.1.le (by decide)
    refine ⟨b1.1, fun y z w k n hk hz hw => ?_⟩
    have hk' : k < 25 ∧ n ≤ 25 ∧ k < n ∧ n ≤ (M1.a 4 430).toNatClampNeg + 1 ∧ ∀ i, i < n → ¬ i = k → i < (M1.a 4 430).toNatClampNeg := by
      rcases hk with ⟨h1, h2, -⟩ | ⟨h1, h2, -⟩
      · exact ⟨by omega, by omega, by omega, by omega, fun i g1 g2 => by omega⟩
      · exact ⟨by omega, by omega, by omega, by omega, fun i g1 g2 => by omega⟩
    obtain ⟨q1, q2, q3, q4, q5⟩ := hk'
    have B4 : ∀ q, q < 430 ∨ 512 ≤ q → (gPf M1 y z w k n).a 4 q = M1.a 4 q := fun q hq => (gput_n (by omega)).trans ((gput_n (by omega)).trans ((gput_n (by omega)).trans (gput_n (by omega))))
    have e430 : (gPf M1 y z w k n).a 4 430 = nI n := (gput_n (by omega)).trans ((gput_n (by omega)).trans ((gput_n (by omega)).trans gput_s))
    have gq : ∀ q, ¬ q = 430 → ¬ q = 431 + 3 * k → ¬ q = 431 + 3 * k + 1 → ¬ q = 431 + 3 * k + 2 → (gPf M1 y z w k n).a 4 q = M1.a 4 q := fun q h1 h2 h3 h4 => (gput_n h4).trans ((gput_n h3).trans ((gput_n h2).trans (gput_n h1)))
    have ao : ∀ i q, ¬ i = 4 → (gPf M1 y z w k n).a i q = M1.a i q := fun i q h => (gput_o h).trans ((gput_o h).trans ((gput_o h).trans (gput_o h)))
    rw [hJp]
    refine ⟨l, E, ⟨_, b1.flt (F' := 25) (n' := n) (d := 25) (kU (M := M1) rfl rfl rfl (fun i q h => ao i q (by omega)) b1.2.2.2.2.1) b1.2.2.1 (fun h => Or.inr (by rw [show (((gPf M1 y z w k n).set 19 1).set 36 0).f 19 = 1 from rfl]; decide)) (fun h => absurd b2 h) (fun q hq => B4 q (by omega)) e430 q2 (by decide) (fun i hi => ?_) (by omega)⟩, rfl, Nat.le_refl _, rfl, fun q hq => (ao 5 q (by decide)).trans (b4 q hq), b5, b6, fun q => (ao 0 q (by decide)).trans (b7 q), ⟨(ao 1 6 (by decide)).trans b8.1, b8.2.1, fun i q hi => (ao i q (by omega)).trans (b8.2.2 i q hi)⟩, b9⟩
    have hi : i < ((gPf M1 y z w k n).a 4 430).toNatClampNeg := hi
    rw [e430, nI_clamp (by omega)] at hi
    show ((gPf M1 y z w k n).a 4 (431 + 3 * i + 1) = 1 ∧ (gPf M1 y z w k n).a 4 (431 + 3 * i + 2) = 0) ∨ ((gPf M1 y z w k n).a 4 (431 + 3 * i + 1) = 3 ∧ (gPf M1 y z w k n).a 4 (431 + 3 * i + 2) = 0) ∨ ((gPf M1 y z w k n).a 4 (431 + 3 * i + 1) = 2 ∧ ∃ y', 1 ≤ y' ∧ y' < 256 ∧ (gPf M1 y z w k n).a 4 (431 + 3 * i + 2) = nI y')
    by_cases c : i = k
    · subst c
      have x1 : (gPf M1 y z w i n).a 4 (431 + 3 * i + 1) = z := (gput_n (by omega)).trans gput_s
      have x2 : (gPf M1 y z w i n).a 4 (431 + 3 * i + 2) = w := gput_s
      rw [x1, x2, hw]
      rcases hz with rfl | rfl | rfl
      · exact Or.inl ⟨rfl, by decide⟩
      · exact Or.inr (Or.inr ⟨rfl, 1, by decide, by decide, by decide⟩)
      · exact Or.inr (Or.inl ⟨rfl, by decide⟩)
    · rw [gq _ (by omega) (by omega) (by omega) (by omega), gq _ (by omega) (by omega) (by omega) (by omega)]
      exact b1.2.1 i (q5 i hi c)
  have rc : ∀ s0 M', Bp s0 M' → s0 420 = M.a 4 420 → kW M' (n + 1) ∧ M'.f 1 = M.f 1 ∧ M'.f 9 = M.f 9 ∧ M'.f 3 = M.f 3 ∧ ∀ i q, i = 0 ∨ i = 1 ∨ i = 3 → M'.a i q = M.a i q := fun s0 M' hB h420 => by
    rw [hBp] at hB
    obtain ⟨b1, b2, b3, b4, b5, b6, b7, b8, b9⟩ := hB
    have e420 : M'.a 4 420 = M.a 4 420 := (b3 420 (by decide)).trans h420
    exact ⟨⟨⟨T, w1, b5.trans w2, l, E, b, b1, Nat.le_trans w4 (by omega), fun h => by rw [e420] at h; have := w5 h; omega, fun h => by rw [e420] at h; have := w6 h; omega⟩, fun q => by rw [b7]; exact w7 q, b2, by rw [b8.1]; exact w9, b9⟩, b5, b6, b8.2.1, b8.2.2⟩
  have j25 : gIr (M.a 4 430) 25 := by obtain ⟨m, g1, g2⟩ := j430; exact ⟨m, by omega, g2⟩
  refine (c_X8_harm_r (B := fun M1 => ∃ s0 : Nat → Int32, s0 420 = M.a 4 420 ∧ Bp s0 M1) (J := fun k M1 l' D => ∃ s0 : Nat → Int32, s0 420 = M.a 4 420 ∧ (∃ M2, Bp s0 M2) ∧ Jp s0 k M1 l' D) HM j25 jfe (fun c1 c2 g L P => ⟨_, (kPass (by decide) J P).2.2.2 420 (by omega), hB0 c1 c2 g L P⟩) (fun M1 ⟨s0, h1, h2⟩ => ?_) (fun k M1 l' D hk ⟨s0, h1, h2, h3⟩ h4 => ⟨(hJ s0 k M1 l' D hk h3 h4).1, fun M' D' x T' s => ?_⟩) (fun k Mz l' D ⟨s0, h1, h2, h3⟩ => ?_) (fun M1 ⟨s0, h1, h2⟩ => ⟨(hBf s0 M1 h2).1, fun y z w k n q1 q2 q3 => ?_⟩)).mp fun v h hv => ?_
  · obtain ⟨l', D, h3⟩ := hBJ s0 M1 h2
    exact ⟨l', D, s0, h1, ⟨M1, h2⟩, h3⟩
  · obtain ⟨l2, h5⟩ := (hJ s0 k M1 l' D hk h3 h4).2 M' D' x T' s
    exact ⟨l2, s0, h1, h2, h5⟩
  · obtain ⟨q1, q2, q3, q4⟩ := hJB s0 h2 k Mz l' D h3
    exact ⟨q1, q2, ⟨s0, h1, q3⟩, fun g => ⟨s0, h1, q4 g⟩⟩
  · obtain ⟨l', D, h3⟩ := (hBf s0 M1 h2).2 y z w k n q1 q2 q3
    exact ⟨l', D, s0, h1, ⟨M1, h2⟩, h3⟩
  · obtain ⟨x, rfl, M', h1, h2, hv⟩ := hv
    rcases hv with rfl | ⟨s0, e0, hB⟩
    · exact ⟨x, rfl, _, h1, h2, W.q, gset_n (by decide), gset_n (by decide), gset_n (by decide), fun _ _ _ => rfl⟩
    · obtain ⟨r1, r2, r3⟩ := rc s0 M' hB e0
      exact ⟨x, rfl, M', h1, h2, r1, r2, r3⟩
end WC
