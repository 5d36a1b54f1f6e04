/-! the reference: every call keeps what lies between calls: the records (by program: wip/p2/m_po.py) -/
theorem kW.j {M : gMd} {n : Nat} (W : kW M n) : ∃ l E b, kJ 24 M l E b ∧ l ≤ 31000 * n := by
  obtain ⟨⟨L, w1, w2, l, E, b, J, w4, w5, w6⟩, w7, w8, w9, w10⟩ := W
  exact ⟨l, E, b, J, w4⟩
/-- a message begun -/
theorem kW.msg {M M' : gMd} {n N : Nat} (W : kW M n) (hN : N ≤ 60) (eL : M.f 1 = nI N) (c1 : ¬ M.a 4 419 = 1) (c2 : ¬ M.a 4 419 = 4) (h1 : M'.f 1 = 0) (hf : ∀ k, k = 9 ∨ k = 12 ∨ k = 13 ∨ k = 18 ∨ k = 19 ∨ k = 38 → M'.f k = M.f k) (ha : ∀ i q, ¬ i = 4 → M'.a i q = M.a i q)
    (A : ∀ q, ¬ q = 3 → ¬ q = 4 → ¬ q = 5 → ¬ q = 8 → ¬ q = 419 → ¬ q = 420 → ¬ q = 421 → ¬ q = 422 → (q < 32 ∨ 92 ≤ q) → M'.a 4 q = M.a 4 q) (By : kBy M') (z3 : M'.a 4 3 = nI N) (z4 : M'.a 4 4 = 0) (z5 : M'.a 4 5 = -1) (z8 : M'.a 4 8 = 0) (z419 : M'.a 4 419 = 1) (z420 : M'.a 4 420 = 1) : kW M' (n + 1) := by
  obtain ⟨⟨L, w1, w2, l, E, b, J, w4, w5, w6⟩, w7, w8, w9, w10⟩ := W
  have eLN : L = N := nI_inj (by omega) (by omega) (w2.symm.trans eL)
  subst eLN
  obtain ⟨j1, j2, j3, j4, j5, j6, j7, kr, kc, cr, rr, rc, wc, tc, sp, I, B, hsp, hs⟩ := J
  obtain ⟨a1, a2, a3, a4, a5, a6, a7, a8, a9, a10, a11, a12, a13⟩ := I.1
  obtain ⟨x1, x2, x3, x4, x5, x6, x7, x8⟩ := I.2.2.2.1
  obtain ⟨y1, y2, y3⟩ := I.2.2.2.2.1
  obtain ⟨v1, v2, v3⟩ := I.2.2.2.2.2.1
  have cl := j1.le (by omega)
  have c1' : ¬ M.z 419 = 1 := fun h => c1 (gt_eq (k := 1) h)
  have c2' : ¬ M.z 419 = 4 := fun h => c2 (gt_eq (k := 4) h)
  have d420 := (x7 c1').1
  have d9 := (x7 c1').2 c2'
  have n420 : ¬ M.a 4 420 = 1 := fun h => by
    have : M.z 420 = 1 := by show (M.a 4 420).toInt = 1; rw [h]; decide
    omega
  have hb := w6 n420
  have Z : ∀ q, ¬ q = 3 → ¬ q = 4 → ¬ q = 5 → ¬ q = 8 → ¬ q = 419 → ¬ q = 420 → ¬ q = 421 → ¬ q = 422 → (q < 32 ∨ 92 ≤ q) → M'.z q = M.z q := fun q g1 g2 g3 g4 g5 g6 g7 g8 g9 => congrArg Int32.toInt (A q g1 g2 g3 g4 g5 g6 g7 g8 g9)
  have t3 : M'.z 3 = L := by show (M'.a 4 3).toInt = _; rw [z3, nI_toInt (by omega)]
  have t4 : M'.z 4 = 0 := by show (M'.a 4 4).toInt = 0; rw [z4]; decide
  have t5 : M'.z 5 = -1 := by show (M'.a 4 5).toInt = -1; rw [z5]; decide
  have t8 : M'.z 8 = 0 := by show (M'.a 4 8).toInt = 0; rw [z8]; decide
  have t419 : M'.z 419 = 1 := by show (M'.a 4 419).toInt = 1; rw [z419]; decide
  have t420 : M'.z 420 = 1 := by show (M'.a 4 420).toInt = 1; rw [z420]; decide
  have f19 : M'.f 19 = M.f 19 := hf 19 (by omega)
  have Q1 : ∀ e, kQe M E e → kQe M' E e := fun e he => by
    unfold kQe at he ⊢
    rw [f19]; exact he
  have RR : kR0 M' (kQe M' E) 0 := by
    unfold kR0
    rw [t3, t4, t5, t8, Z 0 (by decide) (by decide) (by decide) (by decide) (by decide) (by decide) (by decide) (by decide) (by omega), Z 1 (by decide) (by decide) (by decide) (by decide) (by decide) (by decide) (by decide) (by decide) (by omega), Z 2 (by decide) (by decide) (by decide) (by decide) (by decide) (by decide) (by decide) (by decide) (by omega), Z 9 (by decide) (by decide) (by decide) (by decide) (by decide) (by decide) (by decide) (by decide) (by omega), Z 10 (by decide) (by decide) (by decide) (by decide) (by decide) (by decide) (by decide) (by decide) (by omega), Z 14 (by decide) (by decide) (by decide) (by decide) (by decide) (by decide) (by decide) (by decide) (by omega)]
    exact ⟨a1, a2, a3, by omega, by omega, fun p => absurd p (by omega), by omega, a8, a9, a10, fun p => absurd p (by omega), fun p => absurd p (by omega), by decide, fun _ => by decide, fun p => absurd p (by omega)⟩
  have X : kX M' := by
    unfold kX
    rw [t5, t419, t420, Z 9 (by decide) (by decide) (by decide) (by decide) (by decide) (by decide) (by decide) (by decide) (by omega), Z 25 (by decide) (by decide) (by decide) (by decide) (by decide) (by decide) (by decide) (by decide) (by omega), Z 416 (by decide) (by decide) (by decide) (by decide) (by decide) (by decide) (by decide) (by decide) (by omega), Z 417 (by decide) (by decide) (by decide) (by decide) (by decide) (by decide) (by decide) (by decide) (by omega), Z 418 (by decide) (by decide) (by decide) (by decide) (by decide) (by decide) (by decide) (by decide) (by omega), A 417 (by decide) (by decide) (by decide) (by decide) (by decide) (by decide) (by decide) (by decide) (by omega), A 26 (by decide) (by decide) (by decide) (by decide) (by decide) (by decide) (by decide) (by decide) (by omega)]
    exact ⟨x1, x2, x3, by omega, by omega, ⟨fun _ => ⟨rfl, d9⟩, fun _ => rfl⟩, fun p => absurd rfl p, x8⟩
  obtain ⟨c0, hc0, hc1, hc2⟩ : ∃ c0 : Int, 400 ≤ c0 ∧ (2 ≤ L → 10718 ≤ c0) ∧ 174 * (L : Int) + c0 ≤ 5568 * (((L + 15) / 16 : Nat) : Int) + 8016 := by
    by_cases h : 2 ≤ L
    · exact ⟨10718, by decide, fun _ => by decide, by omega⟩
    · exact ⟨400, by decide, fun p => absurd p h, by omega⟩
  have C : kCr M' (cr + c0) := by
    unfold kCr
    rw [t3, t5, t420, Z 0 (by decide) (by decide) (by decide) (by decide) (by decide) (by decide) (by decide) (by decide) (by omega), Z 6 (by decide) (by decide) (by decide) (by decide) (by decide) (by decide) (by decide) (by decide) (by omega), Z 9 (by decide) (by decide) (by decide) (by decide) (by decide) (by decide) (by decide) (by decide) (by omega), Z 17 (by decide) (by decide) (by decide) (by decide) (by decide) (by decide) (by decide) (by decide) (by omega), Z 24 (by decide) (by decide) (by decide) (by decide) (by decide) (by decide) (by decide) (by decide) (by omega)]
    exact ⟨by omega, fun p => by have := y2 p; omega, fun _ => ⟨by omega, fun p => by have := hc1 (by omega); omega⟩⟩
  have RRr : kRr M' (kQe M' E) (rr + 174 * L) := by
    unfold kRr
    rw [t3, t4, t420, Z 9 (by decide) (by decide) (by decide) (by decide) (by decide) (by decide) (by decide) (by decide) (by omega)]
    exact ⟨by omega, ⟨fun p => absurd p (by decide), fun _ => by omega⟩, fun p => absurd p (by omega)⟩
  have I2 : kI M' (kQe M' E) 0 kc (cr + c0) (rr + 174 * L) rc wc := ⟨RR, (I.2.1.cg fun q hq => A q (by omega) (by omega) (by omega) (by omega) (by omega) (by omega) (by omega) (by omega) (by omega)).mono Q1, By, X, C, RRr, (I.2.2.2.2.2.2.1.cg fun q hq => A q (by omega) (by omega) (by omega) (by omega) (by omega) (by omega) (by omega) (by omega) (by omega)).mono Q1, I.2.2.2.2.2.2.2.cg fun q hq => A q (by omega) (by omega) (by omega) (by omega) (by omega) (by omega) (by omega) (by omega) (by omega)⟩
  have A4 : ∀ q, 423 ≤ q → M'.a 4 q = M.a 4 q := fun q h => A q (by omega) (by omega) (by omega) (by omega) (by omega) (by omega) (by omega) (by omega) (by omega)
  have B2 : kBd M' 0 := by
    obtain ⟨t0, b1, b2, -⟩ := B
    exact ⟨by decide, by rw [A4 428 (by omega)]; exact b1, by rw [A4 429 (by omega)]; exact b2, fun _ h => by rw [z420] at h; exact absurd h (by decide)⟩
  have tk : gTk (M'.a 4) = gTk (M.a 4) := gTk_cg (A4 423 (by omega)) (A4 430 (by omega)) (by omega) fun q h _ => A4 q (by omega)
  have J2 : kJ 24 M' l E (b + 174 * L + c0) := ⟨by rw [A4 430 (by omega)]; exact j1, gFe_cg (F := 24) (by decide) j1 (fun q h _ => A4 q (by omega)) j2, by rw [hf 9 (by omega)]; exact j3, (A4 423 (by omega)).trans j4, kU (hf 12 (by omega)) (hf 13 (by omega)) (hf 18 (by omega)) (fun i q h => ha i q (by omega)) j5, j6, j7, 0, kc, cr + c0, rr + 174 * L, rc, wc, 0, sp, I2, B2, by rw [f19]; exact hsp, by rw [tk]; have := B.1; have := a13.1; omega⟩
  exact ⟨⟨0, by decide, h1, l, E, _, J2, by omega, fun _ => by omega, fun h => absurd z420 h⟩, fun q => by rw [ha 0 q (by decide)]; exact w7 q, f19.trans w8, by rw [ha 1 6 (by decide)]; exact w9, by rw [hf 38 (by omega)]; exact w10⟩
/-- a room asked for -/
theorem kW.room {M M' : gMd} {n v : Nat} (W : kW M n) (hv : v ≤ 255) (c1 : ¬ M.a 4 419 = 1) (c2 : ¬ M.a 4 419 = 4) (hf : ∀ k, k = 1 ∨ k = 9 ∨ k = 12 ∨ k = 13 ∨ k = 18 ∨ k = 19 ∨ k = 38 → M'.f k = M.f k) (ha : ∀ i q, ¬ i = 4 → M'.a i q = M.a i q)
    (A : ∀ q, ¬ q = 10 → ¬ q = 5 → ¬ q = 8 → ¬ q = 419 → ¬ q = 420 → ¬ q = 421 → ¬ q = 422 → M'.a 4 q = M.a 4 q) (z10 : M'.a 4 10 = nI v) (z5 : M'.a 4 5 = -1) (z8 : M'.a 4 8 = 0) (z419 : M'.a 4 419 = 1) (z420 : M'.a 4 420 = 2) : kW M' (n + 1) := by
  obtain ⟨⟨L, w1, w2, l, E, b, J, w4, w5, w6⟩, w7, w8, w9, w10⟩ := W
  obtain ⟨j1, j2, j3, j4, j5, j6, j7, kr, kc, cr, rr, rc, wc, tc, sp, I, B, hsp, hs⟩ := J
  obtain ⟨a1, a2, a3, a4, a5, a6, a7, a8, a9, a10, a11, a12, a13⟩ := I.1
  obtain ⟨x1, x2, x3, x4, x5, x6, x7, x8⟩ := I.2.2.2.1
  obtain ⟨y1, y2, y3⟩ := I.2.2.2.2.1
  obtain ⟨v1, v2, v3⟩ := I.2.2.2.2.2.1
  have cl := j1.le (by omega)
  have c1' : ¬ M.z 419 = 1 := fun h => c1 (gt_eq (k := 1) h)
  have c2' : ¬ M.z 419 = 4 := fun h => c2 (gt_eq (k := 4) h)
  have d420 := (x7 c1').1
  have d9 := (x7 c1').2 c2'
  have n420 : ¬ M.a 4 420 = 1 := fun h => by
    have : M.z 420 = 1 := by show (M.a 4 420).toInt = 1; rw [h]; decide
    omega
  have hb := w6 n420
  have Z : ∀ q, ¬ q = 10 → ¬ q = 5 → ¬ q = 8 → ¬ q = 419 → ¬ q = 420 → ¬ q = 421 → ¬ q = 422 → M'.z q = M.z q := fun q g1 g2 g3 g4 g5 g6 g7 => congrArg Int32.toInt (A q g1 g2 g3 g4 g5 g6 g7)
  have t10 : M'.z 10 = v := by show (M'.a 4 10).toInt = _; rw [z10, nI_toInt (by omega)]
  have t5 : M'.z 5 = -1 := by show (M'.a 4 5).toInt = -1; rw [z5]; decide
  have t8 : M'.z 8 = 0 := by show (M'.a 4 8).toInt = 0; rw [z8]; decide
  have t419 : M'.z 419 = 1 := by show (M'.a 4 419).toInt = 1; rw [z419]; decide
  have t420 : M'.z 420 = 2 := by show (M'.a 4 420).toInt = 2; rw [z420]; decide
  have f19 : M'.f 19 = M.f 19 := hf 19 (by omega)
  have Q1 : ∀ e, kQe M E e → kQe M' E e := fun e he => by
    unfold kQe at he ⊢
    rw [f19]; exact he
  have RR : kR0 M' (kQe M' E) kr := by
    unfold kR0
    rw [t5, t8, t10, Z 0 (by decide) (by decide) (by decide) (by decide) (by decide) (by decide) (by decide), Z 1 (by decide) (by decide) (by decide) (by decide) (by decide) (by decide) (by decide), Z 2 (by decide) (by decide) (by decide) (by decide) (by decide) (by decide) (by decide), Z 3 (by decide) (by decide) (by decide) (by decide) (by decide) (by decide) (by decide), Z 4 (by decide) (by decide) (by decide) (by decide) (by decide) (by decide) (by decide), Z 9 (by decide) (by decide) (by decide) (by decide) (by decide) (by decide) (by decide), Z 14 (by decide) (by decide) (by decide) (by decide) (by decide) (by decide) (by decide)]
    exact ⟨a1, a2, a3, a4, by omega, fun p => absurd p (by omega), by omega, a8, by omega, a10, fun p => absurd p (by omega), fun p => absurd p (by omega), a13.1, fun _ => a13.1, fun p => absurd p (by omega)⟩
  have X : kX M' := by
    unfold kX
    rw [t5, t419, t420, Z 9 (by decide) (by decide) (by decide) (by decide) (by decide) (by decide) (by decide), Z 25 (by decide) (by decide) (by decide) (by decide) (by decide) (by decide) (by decide), Z 416 (by decide) (by decide) (by decide) (by decide) (by decide) (by decide) (by decide), Z 417 (by decide) (by decide) (by decide) (by decide) (by decide) (by decide) (by decide), Z 418 (by decide) (by decide) (by decide) (by decide) (by decide) (by decide) (by decide), A 417 (by decide) (by decide) (by decide) (by decide) (by decide) (by decide) (by decide), A 26 (by decide) (by decide) (by decide) (by decide) (by decide) (by decide) (by decide)]
    exact ⟨x1, x2, x3, by omega, by omega, ⟨fun _ => ⟨rfl, d9⟩, fun _ => rfl⟩, fun p => absurd rfl p, x8⟩
  have C : kCr M' cr := by
    unfold kCr
    rw [t5, t420, Z 0 (by decide) (by decide) (by decide) (by decide) (by decide) (by decide) (by decide), Z 3 (by decide) (by decide) (by decide) (by decide) (by decide) (by decide) (by decide), Z 6 (by decide) (by decide) (by decide) (by decide) (by decide) (by decide) (by decide), Z 9 (by decide) (by decide) (by decide) (by decide) (by decide) (by decide) (by decide), Z 17 (by decide) (by decide) (by decide) (by decide) (by decide) (by decide) (by decide), Z 24 (by decide) (by decide) (by decide) (by decide) (by decide) (by decide) (by decide)]
    exact ⟨y1, y2, fun p => absurd p (by omega)⟩
  have RRr : kRr M' (kQe M' E) (rr + 800) := by
    unfold kRr
    rw [t420, Z 9 (by decide) (by decide) (by decide) (by decide) (by decide) (by decide) (by decide)]
    exact ⟨by omega, ⟨fun _ => by omega, fun p => absurd p (by decide)⟩, fun p => absurd p (by omega)⟩
  have A4 : ∀ q, 423 ≤ q → M'.a 4 q = M.a 4 q := fun q h => A q (by omega) (by omega) (by omega) (by omega) (by omega) (by omega) (by omega)
  have I2 : kI M' (kQe M' E) kr kc cr (rr + 800) rc wc := ⟨RR, (I.2.1.cg fun q hq => A q (by omega) (by omega) (by omega) (by omega) (by omega) (by omega) (by omega)).mono Q1, I.2.2.1.cg fun q h1 h2 => A q (by omega) (by omega) (by omega) (by omega) (by omega) (by omega) (by omega), X, C, RRr, (I.2.2.2.2.2.2.1.cg fun q hq => A q (by omega) (by omega) (by omega) (by omega) (by omega) (by omega) (by omega)).mono Q1, I.2.2.2.2.2.2.2.cg fun q hq => A q (by omega) (by omega) (by omega) (by omega) (by omega) (by omega) (by omega)⟩
  have B2 : kBd M' 0 := by
    obtain ⟨t0, b1, b2, -⟩ := B
    exact ⟨by decide, by rw [A4 428 (by omega)]; exact b1, by rw [A4 429 (by omega)]; exact b2, fun _ h => by rw [z420] at h; exact absurd h (by decide)⟩
  have tk : gTk (M'.a 4) = gTk (M.a 4) := gTk_cg (A4 423 (by omega)) (A4 430 (by omega)) (by omega) fun q h _ => A4 q (by omega)
  have J2 : kJ 24 M' l E (b + 800) := ⟨by rw [A4 430 (by omega)]; exact j1, gFe_cg (F := 24) (by decide) j1 (fun q h _ => A4 q (by omega)) j2, by rw [hf 9 (by omega)]; exact j3, (A4 423 (by omega)).trans j4, kU (hf 12 (by omega)) (hf 13 (by omega)) (hf 18 (by omega)) (fun i q h => ha i q (by omega)) j5, j6, j7, kr, kc, cr, rr + 800, rc, wc, 0, sp, I2, B2, by rw [f19]; exact hsp, by rw [tk]; have := B.1; omega⟩
  exact ⟨⟨L, w1, (hf 1 (by omega)).trans w2, l, E, _, J2, by omega, fun h => by rw [z420] at h; exact absurd h (by decide), fun _ => by omega⟩, fun q => by rw [ha 0 q (by decide)]; exact w7 q, f19.trans w8, by rw [ha 1 6 (by decide)]; exact w9, by rw [hf 38 (by omega)]; exact w10⟩
/-- a fault told -/
theorem kW.flt {M : gMd} {n L : Nat} {g : Nat → Int32} (W : kW M n) (P : gPs (M.a 4) g (M.a 4 430).toNatClampNeg L) : kW (((M.set 2 0).arr 4 g).put 4 430 (nI L)) (n + 1) ∧ ∀ k m y z w, m ≤ 24 → gF1 z w → ((k < L ∧ m = L) ∨ (k = L ∧ m = L + 1)) → kW (gPf (((M.set 2 0).arr 4 g).put 4 430 (nI L)) y z w k m) (n + 1) := by
  obtain ⟨⟨T, w1, w2, l, E, b, J, w4, w5, w6⟩, w7, w8, w9, w10⟩ := W
  obtain ⟨K, hL, eL, A⟩ := kPass (by decide) J P
  have cl := J.1.le (by omega)
  have pp := P
  obtain ⟨p1, p2, p3, p4⟩ := pp
  have e420 : (((M.set 2 0).arr 4 g).put 4 430 (nI L)).a 4 420 = M.a 4 420 := A 420 (by omega)
  have tl : ∀ M' : gMd, ∀ d : Nat, d ≤ 1 → kJ 24 M' l E (b + 5568 * d) → M'.a 4 420 = M.a 4 420 → M'.f 1 = M.f 1 → (∀ q, M'.a 0 q = M.a 0 q) → M'.f 19 = M.f 19 → M'.a 1 6 = M.a 1 6 → M'.f 38 = M.f 38 → kW M' (n + 1) := fun M' d hd J' e1 e2 e3 e4 e5 e6 =>
    ⟨⟨T, w1, e2.trans w2, l, E, _, J', by omega, fun h => by rw [e1] at h; have := w5 h; omega, fun h => by rw [e1] at h; have := w6 h; omega⟩, fun q => by rw [e3]; exact w7 q, e4.trans w8, by rw [e5]; exact w9, by rw [e6]; exact w10⟩
  refine ⟨tl _ 0 (by decide) ?_ e420 rfl (fun q => rfl) rfl rfl rfl, fun k m y z w hm hF hk => ?_⟩
  · have J0 : kJ 24 (((M.set 2 0).arr 4 g).put 4 430 (nI L)) l E b := K.cg (by decide) (by decide) (kU (M := M) rfl rfl rfl (fun i q h => (gput_o (by omega)).trans (garr_o (by omega))) J.2.2.2.2.1) J.2.2.1 (fun h => h) fun q _ => rfl
    have e : b + 5568 * ((0 : Nat) : Int) = b := by omega
    rw [e]; exact J0
  · have kb : k < 25 := by omega
    have B4 : ∀ q, q < 430 ∨ 512 ≤ q → (gPf (((M.set 2 0).arr 4 g).put 4 430 (nI L)) y z w k m).a 4 q = M.a 4 q := fun q hq => (gput_n (by omega)).trans ((gput_n (by omega)).trans ((gput_n (by omega)).trans ((gput_n (by omega)).trans (A q hq))))
    have e430 : (gPf (((M.set 2 0).arr 4 g).put 4 430 (nI L)) y z w k m).a 4 430 = nI m := (gput_n (by omega)).trans ((gput_n (by omega)).trans ((gput_n (by omega)).trans gput_s))
    have gq : ∀ q, ¬ q = 430 → ¬ q = 431 + 3 * k → ¬ q = 431 + 3 * k + 1 → ¬ q = 431 + 3 * k + 2 → (gPf (((M.set 2 0).arr 4 g).put 4 430 (nI L)) y z w k m).a 4 q = g q := fun q h1 h2 h3 h4 => (gput_n h4).trans ((gput_n h3).trans ((gput_n h2).trans ((gput_n h1).trans ((gput_n h1).trans garr_s))))
    refine tl _ 1 (by decide) ?_ (B4 420 (by omega)) rfl (fun q => rfl) rfl rfl rfl
    refine J.flt (F' := 24) (n' := m) (d := 1) (kU (M := M) rfl rfl rfl (fun i q h => (gput_o (by omega)).trans ((gput_o (by omega)).trans ((gput_o (by omega)).trans ((gput_o (by omega)).trans ((gput_o (by omega)).trans (garr_o (by omega))))))) J.2.2.2.2.1) J.2.2.1 (fun h => Or.inl h) (fun h => h) (fun q hq => B4 q (by omega)) e430 hm (by decide) (fun i hi => ?_) (by omega)
    rw [e430, nI_clamp (by omega)] at hi
    by_cases c : i = k
    · subst c
      have x1 : (gPf (((M.set 2 0).arr 4 g).put 4 430 (nI L)) y z w i m).a 4 (431 + 3 * i + 1) = z := (gput_n (by omega)).trans gput_s
      have x2 : (gPf (((M.set 2 0).arr 4 g).put 4 430 (nI L)) y z w i m).a 4 (431 + 3 * i + 2) = w := gput_s
      rw [x1, x2]; exact hF
    · rw [gq _ (by omega) (by omega) (by omega) (by omega), gq _ (by omega) (by omega) (by omega) (by omega)]
      exact (p2 i (by omega)).2
/-- a line as at first -/
def kS0 (w : Nat) (q : Nat) : Int32 := if q = 2 then 32 else if q = 18 then nI w else if q = 5 ∨ q = 9 ∨ q = 11 ∨ q = 14 ∨ q = 21 ∨ q = 25 ∨ q = 27 ∨ q = 30 ∨ q = 418 then -1 else if q = 428 then 3 else 0
theorem kFresh {M : gMd} {w : Nat} (hw : 1 ≤ w ∧ w < 256) (hs : ∀ q, q < 772 → M.a 4 q = kS0 w q) (h9 : gIr (M.f 9) 3) (h18 : M.f 18 = 0) (h8 : M.a 8 0 = 0) (h12 : M.f 12 = 0) (h13 : ∃ a, a < 30 ∧ M.f 13 = nI a) (h6 : ∀ p, p < 30 → gIr (M.a 6 (6 * p + 5)) 8191 ∧ gIr (M.a 6 (6 * p + 2)) 254) : kJ 24 M 0 [] 0 := by
  have Z : ∀ q, q < 772 → M.z q = (kS0 w q).toInt := fun q h => congrArg Int32.toInt (hs q h)
  have z0 : ∀ q, q < 772 → ¬ q = 2 → ¬ q = 18 → ¬ (q = 5 ∨ q = 9 ∨ q = 11 ∨ q = 14 ∨ q = 21 ∨ q = 25 ∨ q = 27 ∨ q = 30 ∨ q = 418) → ¬ q = 428 → M.a 4 q = 0 := fun q h h1 h2 h3 h4 => by
    rw [hs q h]; unfold kS0; rw [if_neg h1, if_neg h2, if_neg h3, if_neg h4]
  have zz : ∀ q, q < 772 → ¬ q = 2 → ¬ q = 18 → ¬ (q = 5 ∨ q = 9 ∨ q = 11 ∨ q = 14 ∨ q = 21 ∨ q = 25 ∨ q = 27 ∨ q = 30 ∨ q = 418) → ¬ q = 428 → M.z q = 0 := fun q h h1 h2 h3 h4 => by
    show (M.a 4 q).toInt = 0
    rw [z0 q h h1 h2 h3 h4]; decide
  have m1 : ∀ q, (q = 5 ∨ q = 9 ∨ q = 11 ∨ q = 14 ∨ q = 21 ∨ q = 25 ∨ q = 27 ∨ q = 30 ∨ q = 418) → M.z q = -1 := fun q h => by
    have e : kS0 w q = -1 := by unfold kS0; rw [if_neg (by omega), if_neg (by omega), if_pos h]
    rw [Z q (by omega), e]; decide
  have y2 : M.z 2 = 32 := by rw [Z 2 (by decide)]; rfl
  have y18 : M.z 18 = w := by
    rw [Z 18 (by decide), show kS0 w 18 = nI w from rfl, nI_toInt (by omega)]
  have e428 : M.a 4 428 = 3 := by rw [hs 428 (by decide)]; rfl
  have RR : kR0 M (kQe M []) 0 := by
    unfold kR0
    rw [y2, m1 5 (by omega), m1 9 (by omega), m1 14 (by omega), zz 0 (by decide) (by decide) (by decide) (by decide) (by decide), zz 1 (by decide) (by decide) (by decide) (by decide) (by decide), zz 3 (by decide) (by decide) (by decide) (by decide) (by decide), zz 4 (by decide) (by decide) (by decide) (by decide) (by decide), zz 8 (by decide) (by decide) (by decide) (by decide) (by decide), zz 10 (by decide) (by decide) (by decide) (by decide) (by decide)]
    exact ⟨by decide, by decide, by decide, by decide, by decide, fun p => absurd p (by decide), by decide, by decide, by decide, by decide, fun p => absurd p (by decide), fun p => absurd p (by decide), by decide, fun _ => by decide, fun p => absurd p (by decide)⟩
  have R1 : kR1 M (kQe M []) 0 := by
    unfold kR1
    rw [y18, m1 21 (by omega), m1 25 (by omega), m1 30 (by omega), zz 16 (by decide) (by decide) (by decide) (by decide) (by decide), zz 17 (by decide) (by decide) (by decide) (by decide) (by decide), zz 19 (by decide) (by decide) (by decide) (by decide) (by decide), zz 20 (by decide) (by decide) (by decide) (by decide) (by decide), zz 24 (by decide) (by decide) (by decide) (by decide) (by decide), zz 26 (by decide) (by decide) (by decide) (by decide) (by decide)]
    exact ⟨by decide, by decide, by omega, by decide, by decide, fun p => absurd p (by decide), by decide, by decide, by decide, by decide, fun p => absurd p (by decide), fun p => absurd p (by decide), by decide, fun _ => by decide, fun p => absurd p (by decide)⟩
  have By : kBy M := fun q g1 g2 => by rw [z0 q (by omega) (by omega) (by omega) (by omega) (by omega)]; exact ⟨0, by decide, rfl⟩
  have X : kX M := by
    unfold kX
    rw [m1 5 (by omega), m1 9 (by omega), m1 25 (by omega), m1 418 (by omega), zz 416 (by decide) (by decide) (by decide) (by decide) (by decide), zz 417 (by decide) (by decide) (by decide) (by decide) (by decide), zz 419 (by decide) (by decide) (by decide) (by decide) (by decide), zz 420 (by decide) (by decide) (by decide) (by decide) (by decide)]
    exact ⟨by decide, by decide, by decide, by decide, by decide, by decide, by decide, fun p => absurd p (by decide)⟩
  have C : kCr M 0 := by
    unfold kCr
    rw [m1 5 (by omega), m1 9 (by omega), zz 0 (by decide) (by decide) (by decide) (by decide) (by decide), zz 3 (by decide) (by decide) (by decide) (by decide) (by decide), zz 6 (by decide) (by decide) (by decide) (by decide) (by decide), zz 17 (by decide) (by decide) (by decide) (by decide) (by decide), zz 24 (by decide) (by decide) (by decide) (by decide) (by decide), zz 420 (by decide) (by decide) (by decide) (by decide) (by decide)]
    exact ⟨by decide, by decide, fun p => by omega⟩
  have W1 : kRr M (kQe M []) 0 := by
    unfold kRr
    rw [m1 9 (by omega), zz 420 (by decide) (by decide) (by decide) (by decide) (by decide)]
    exact ⟨by decide, ⟨fun p => absurd p (by decide), fun p => absurd p (by decide)⟩, fun p => absurd p (by decide)⟩
  have W2 : kRc M (kQe M []) 0 := by
    unfold kRc
    rw [m1 25 (by omega)]
    exact ⟨by decide, fun p => absurd p (by decide)⟩
  have W3 : kWc M 0 := by
    unfold kWc
    rw [m1 25 (by omega), m1 418 (by omega)]
    exact ⟨by decide, fun p => absurd p (by decide), fun p => absurd p (by decide), fun p => absurd p (by decide)⟩
  have e430 : M.a 4 430 = 0 := z0 430 (by decide) (by decide) (by decide) (by decide) (by decide)
  have tk : gTk (M.a 4) = 0 := by
    unfold gTk
    rw [e430]; rfl
  have hsp : ∃ sp : Int, ((M.f 19 = 0 ∧ sp = kSt []) ∨ (¬ M.f 19 = 0 ∧ sp = 0)) ∧ sp = 0 := by
    by_cases c : M.f 19 = 0
    · exact ⟨0, Or.inl ⟨c, rfl⟩, rfl⟩
    · exact ⟨0, Or.inr ⟨c, rfl⟩, rfl⟩
  obtain ⟨sp, hsp, esp⟩ := hsp
  refine ⟨⟨0, by decide, e430⟩, fun k hk => ?_, h9, z0 423 (by decide) (by decide) (by decide) (by decide) (by decide), ⟨⟨h18, fun i hi => ?_, fun i hi => absurd hi (Nat.not_lt_zero _), fun i k hi => absurd hi (Nat.not_lt_zero _), Nat.zero_le _, Nat.zero_le _⟩, h13, ⟨0, by decide, h12⟩, h6⟩, ⟨List.nodup_nil, fun e he => absurd he List.not_mem_nil⟩, Nat.zero_le _, 0, 0, 0, 0, 0, 0, 0, sp, ⟨RR, R1, By, X, C, W1, W2, W3⟩, ⟨by decide, by rw [e428]; exact ⟨3, by decide, rfl⟩, by rw [z0 429 (by decide) (by decide) (by decide) (by decide) (by decide)]; exact ⟨0, by decide, rfl⟩, fun _ _ h => by rw [e428] at h; exact absurd h (by decide)⟩, hsp, by rw [tk]; omega⟩
  · rw [e430] at hk
    exact absurd hk (Nat.not_lt_zero k)
  · have : i = 0 := by
      have : i ≤ 0 := hi
      omega
    rw [this]; exact h8
theorem kBegins {M1 : gMd} {w : Nat} : ∀ q, q < 772 → ((rX8_begins M1).put 4 18 (nI w)).a 4 q = kS0 w q := by
  intro q hq
  unfold kS0
  by_cases c18 : q = 18
  · subst c18
    rw [if_neg (by decide), if_pos rfl]; exact gput_s
  rw [gput_n c18]
  show ((((((((((((((M1.arr 4 (gCpy (M1.a 4) 0 (fun _ => 0) 0 772)).put 4 2 32).put 4 5 (-1)).put 4 9 (-1)).put 4 11 (-1)).put 4 14 (-1)).put 4 18 32).put 4 21 (-1)).put 4 25 (-1)).put 4 27 (-1)).put 4 30 (-1)).put 4 418 (-1)).put 4 428 3)).a 4 q = _
  by_cases c2 : q = 2
  · subst c2
    rw [if_pos rfl]
    simp (disch := decide) only [gput_n, gput_s]
  · rw [if_neg c2, if_neg c18]
    by_cases cm : q = 5 ∨ q = 9 ∨ q = 11 ∨ q = 14 ∨ q = 21 ∨ q = 25 ∨ q = 27 ∨ q = 30 ∨ q = 418
    · rw [if_pos cm]
      rcases cm with rfl | rfl | rfl | rfl | rfl | rfl | rfl | rfl | rfl <;> simp (disch := decide) only [gput_n, gput_s]
    · rw [if_neg cm]
      by_cases c4 : q = 428
      · subst c4
        rw [if_pos rfl]; exact gput_s
      · rw [if_neg c4, gput_n c4, gput_n (by omega), gput_n (by omega), gput_n (by omega), gput_n (by omega), gput_n (by omega), gput_n c18, gput_n (by omega), gput_n (by omega), gput_n (by omega), gput_n (by omega), gput_n c2, garr_s]
        unfold gCpy
        rw [if_pos (by omega)]
theorem kBegf {M1 : gMd} {w k : Nat} (h1 : ¬ k = 12) (h2 : ¬ k = 18) : ((rX8_begins M1).put 4 18 (nI w)).f k = M1.f k := (gset_n h2).trans (gset_n h1)
theorem kBeg18 {M1 : gMd} {w : Nat} : ((rX8_begins M1).put 4 18 (nI w)).f 18 = 0 := rfl
theorem kBeg12 {M1 : gMd} {w : Nat} : ((rX8_begins M1).put 4 18 (nI w)).f 12 = 0 := rfl
theorem kBega {M1 : gMd} {w i q : Nat} (h : ¬ i = 4) : ((rX8_begins M1).put 4 18 (nI w)).a i q = M1.a i q := by
  rw [gput_o h]
  show ((((((((((((((M1.arr 4 (gCpy (M1.a 4) 0 (fun _ => 0) 0 772)).put 4 2 32).put 4 5 (-1)).put 4 9 (-1)).put 4 11 (-1)).put 4 14 (-1)).put 4 18 32).put 4 21 (-1)).put 4 25 (-1)).put 4 27 (-1)).put 4 30 (-1)).put 4 418 (-1)).put 4 428 3)).a i q = _
  rw [gput_o h, gput_o h, gput_o h, gput_o h, gput_o h, gput_o h, gput_o h, gput_o h, gput_o h, gput_o h, gput_o h, gput_o h, garr_o h]
/-- a reset answer taken -/
theorem kW.rst {M M1 : gMd} {n w c : Nat} (W : kW M n) (hw : 1 ≤ w ∧ w < 256) (hc : c ≤ 15) (h1 : ((rX8_begins M1).put 4 18 (nI w)).f 1 = 0) (hf : ∀ k, ¬ k = 1 → ¬ k = 2 → ¬ k = 3 → ¬ k = 20 → ¬ k = 21 → ¬ k = 22 → ¬ k = 23 → ¬ k = 24 → M1.f k = M.f k) (ha : ∀ i q, ¬ i = 1 → ¬ i = 2 → ¬ i = 3 → M1.a i q = M.a i q) (h6 : M1.a 1 6 = nI c) : kW ((rX8_begins M1).put 4 18 (nI w)) (n + 1) := by
  obtain ⟨⟨T, w1, w2, l, E, b, J, w4, w5, w6⟩, w7, w8, w9, w10⟩ := W
  obtain ⟨j1, j2, j3, j4, ⟨⟨u1, u2, u3, u4, u5, u6⟩, lg⟩, j6, j7, -⟩ := J
  have J0 := kFresh (M := (rX8_begins M1).put 4 18 (nI w)) (w := w) hw (kBegins (M1 := M1) (w := w)) (by rw [show ((rX8_begins M1).put 4 18 (nI w)).f 9 = M1.f 9 from kBegf (by decide) (by decide), hf 9 (by decide) (by decide) (by decide) (by decide) (by decide) (by decide) (by decide) (by decide)]; exact j3) kBeg18 (by
    rw [show ((rX8_begins M1).put 4 18 (nI w)).a 8 0 = M1.a 8 0 from kBega (by decide), ha 8 0 (by decide) (by decide) (by decide)]
    exact u2 0 (Nat.zero_le _)) kBeg12 (by
    obtain ⟨⟨a, ha1, ha2⟩, -, -⟩ := lg
    exact ⟨a, ha1, by rw [show ((rX8_begins M1).put 4 18 (nI w)).f 13 = M1.f 13 from kBegf (by decide) (by decide), hf 13 (by decide) (by decide) (by decide) (by decide) (by decide) (by decide) (by decide) (by decide)]; exact ha2⟩) (fun p hp => by
    rw [show ((rX8_begins M1).put 4 18 (nI w)).a 6 (6 * p + 5) = M1.a 6 (6 * p + 5) from kBega (by decide), show ((rX8_begins M1).put 4 18 (nI w)).a 6 (6 * p + 2) = M1.a 6 (6 * p + 2) from kBega (by decide), ha 6 _ (by decide) (by decide) (by decide), ha 6 _ (by decide) (by decide) (by decide)]
    exact lg.2.2 p hp)
  have e420 : ((rX8_begins M1).put 4 18 (nI w)).a 4 420 = 0 := kBegins 420 (by decide)
  refine ⟨⟨0, by decide, h1, 0, [], 0, J0, Nat.zero_le _, fun h => by rw [e420] at h; exact absurd h (by decide), fun _ => by omega⟩, fun q => ?_, ?_, ?_, ?_⟩
  · rw [show ((rX8_begins M1).put 4 18 (nI w)).a 0 q = M1.a 0 q from kBega (by decide), ha 0 q (by decide) (by decide) (by decide)]; exact w7 q
  · rw [show ((rX8_begins M1).put 4 18 (nI w)).f 19 = M1.f 19 from kBegf (by decide) (by decide), hf 19 (by decide) (by decide) (by decide) (by decide) (by decide) (by decide) (by decide) (by decide)]; exact w8
  · rw [show ((rX8_begins M1).put 4 18 (nI w)).a 1 6 = M1.a 1 6 from kBega (by decide), h6]; exact ⟨c, hc, rfl⟩
  · rw [show ((rX8_begins M1).put 4 18 (nI w)).f 38 = M1.f 38 from kBegf (by decide) (by decide), hf 38 (by decide) (by decide) (by decide) (by decide) (by decide) (by decide) (by decide) (by decide)]; exact w10

