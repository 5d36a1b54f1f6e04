/-! the reference: between calls: the invariant, and what calls make of it (by program: wip/p2/m_pn.py) -/
theorem gcn_n {s : Nat → Int32} {l : Int32} {n : Nat} : gcn s l n ≤ n := by
  induction n with
  | zero => exact Nat.le_refl _
  | succ n ih =>
    show gcn s l n + _ ≤ n + 1
    split <;> omega
theorem kI.bk {M M' : gMd} {Q : Int32 × List Int32 → Prop} {kr kc cr rr rc wc : Int} (h : ∀ q, q < 421 → M'.a 4 q = M.a 4 q) (H : kI M Q kr kc cr rr rc wc) : kI M' Q kr kc cr rr rc wc := H.cg fun q hq _ _ _ _ _ _ => h q hq
theorem kBd.cg {M M' : gMd} {tc : Int} (h : ∀ q, q < 430 ∨ (512 ≤ q ∧ q < 772) → M'.a 4 q = M.a 4 q) (B : kBd M tc) : kBd M' tc := by
  obtain ⟨t0, b1, b2, b3⟩ := B
  have gd : ∀ g f, kGd M g f → kGd M' g f := fun g f H => by
    unfold kGd gMd.z at H ⊢
    rw [h 17 (by omega), h 25 (by omega), h 26 (by omega)]
    exact H
  refine ⟨t0, by rw [h 428 (by omega)]; exact b1, by rw [h 429 (by omega)]; exact b2, fun h1 h2 h3 => ?_⟩
  rw [h 419 (by omega)] at h1
  rw [h 420 (by omega)] at h2
  rw [h 428 (by omega)] at h3
  obtain ⟨g, N, g1, g2, g3, g4, g5, g6, g7, g8⟩ := b3 h1 h2 h3
  exact ⟨g, N, by rw [h 513 (by omega)]; exact g1, g2, by rw [h 514 (by omega)]; exact g3, g4, by rw [h 429 (by omega)]; exact g5, fun q hq => by rw [h _ (by omega)]; exact g6 q hq, by rw [h 515 (by omega)]; exact g7, by rw [h 515 (by omega)]; exact g8.imp (gd _ _) id⟩
/-- the same line under another record; faults may be others -/
theorem kJ.flt {F F' l n' : Nat} {d : Nat} {M M' : gMd} {E : List (Int32 × List Int32)} {b : Int} (J : kJ F M l E b) (hU : gUn M' E ∧ gLg M') (f9 : gIr (M'.f 9) 3) (f19 : M.f 19 = 0 → M'.f 19 = 0 ∨ ¬ M'.f 19 = 0) (h19 : ¬ M.f 19 = 0 → ¬ M'.f 19 = 0) (h : ∀ q, q < 430 ∨ (512 ≤ q ∧ q < 772) → M'.a 4 q = M.a 4 q) (h430 : M'.a 4 430 = nI n') (hn : n' ≤ F') (hF : F' ≤ 25) (hFe : gFe (M'.a 4)) (hk : n' ≤ gTk (M.a 4) + d) : kJ F' M' l E (b + 5568 * d) := by
  obtain ⟨j1, j2, j3, j4, j5, j6, j7, kr, kc, cr, rr, rc, wc, tc, sp, I, B, hsp, hs⟩ := J
  have tk : gTk (M'.a 4) ≤ n' := by
    unfold gTk
    rw [h430, nI_clamp (by omega)]
    exact gcn_n
  have I2 : kI M' (kQe M' E) kr kc cr rr rc wc := (I.bk fun q hq => h q (by omega)).mono fun e he => by
    unfold kQe at he ⊢
    rcases he with q | q
    · exact Or.inl (h19 q)
    · exact Or.inr q
  have hst : (0 : Int) ≤ kSt E := Int.natCast_nonneg _
  have sp0 : ∃ sp' : Int, ((M'.f 19 = 0 ∧ sp' = kSt E) ∨ (¬ M'.f 19 = 0 ∧ sp' = 0)) ∧ sp' ≤ sp := by
    by_cases c : M'.f 19 = 0
    · have c' : M.f 19 = 0 := by
        by_cases e : M.f 19 = 0
        · exact e
        · exact absurd c (h19 e)
      refine ⟨kSt E, Or.inl ⟨c, rfl⟩, ?_⟩
      rcases hsp with ⟨-, q⟩ | ⟨q, -⟩
      · omega
      · exact absurd c' q
    · refine ⟨0, Or.inr ⟨c, rfl⟩, ?_⟩
      rcases hsp with ⟨-, q⟩ | ⟨-, q⟩ <;> omega
  obtain ⟨sp', hsp', hle⟩ := sp0
  exact ⟨⟨n', hn, h430⟩, hFe, f9, (h 423 (by omega)).trans j4, hU, j6, j7, kr, kc, cr, rr, rc, wc, tc, sp', I2, B.cg h, hsp', by omega⟩
theorem kJ.cg {F F' l : Nat} {M M' : gMd} {E : List (Int32 × List Int32)} {b : Int} (hF : F ≤ F') (hF' : F' ≤ 25) (J : kJ F M l E b) (hU : gUn M' E ∧ gLg M') (f9 : gIr (M'.f 9) 3) (h19 : ¬ M.f 19 = 0 → ¬ M'.f 19 = 0) (h : ∀ q, q < 772 → M'.a 4 q = M.a 4 q) : kJ F' M' l E b := by
  have J' := J
  obtain ⟨j1, j2, j3, j4, j5, j6, j7, kr, kc, cr, rr, rc, wc, tc, sp, I, B, hsp, hs⟩ := J'
  have cl := j1.le (by omega)
  have tk : gTk (M'.a 4) = gTk (M.a 4) := gTk_cg (h 423 (by omega)) (h 430 (by omega)) (by omega) fun q h1 h2 => h q (by omega)
  have hst : (0 : Int) ≤ kSt E := Int.natCast_nonneg _
  have I2 : kI M' (kQe M' E) kr kc cr rr rc wc := (I.bk fun q hq => h q (by omega)).mono fun e he => by
    unfold kQe at he ⊢
    rcases he with q | q
    · exact Or.inl (h19 q)
    · exact Or.inr q
  have sp0 : ∃ sp' : Int, ((M'.f 19 = 0 ∧ sp' = kSt E) ∨ (¬ M'.f 19 = 0 ∧ sp' = 0)) ∧ sp' ≤ sp := by
    by_cases c : M'.f 19 = 0
    · have c' : M.f 19 = 0 := by
        by_cases e : M.f 19 = 0
        · exact e
        · exact absurd c (h19 e)
      refine ⟨kSt E, Or.inl ⟨c, rfl⟩, ?_⟩
      rcases hsp with ⟨-, q⟩ | ⟨q, -⟩
      · omega
      · exact absurd c' q
    · refine ⟨0, Or.inr ⟨c, rfl⟩, ?_⟩
      rcases hsp with ⟨-, q⟩ | ⟨-, q⟩ <;> omega
  obtain ⟨sp', hsp', hle⟩ := sp0
  exact ⟨by rw [h 430 (by omega)]; obtain ⟨n, h1, h2⟩ := j1; exact ⟨n, by omega, h2⟩, gFe_cg (F := F) (by omega) j1 (fun q h1 h2 => h q (by omega)) j2, f9, (h 423 (by omega)).trans j4, hU, j6, j7, kr, kc, cr, rr, rc, wc, tc, sp', I2, B.cg fun q hq => h q (by omega), hsp', by rw [tk]; omega⟩
theorem kU {M M' : gMd} {E : List (Int32 × List Int32)} (h12 : M'.f 12 = M.f 12) (h13 : M'.f 13 = M.f 13) (h18 : M'.f 18 = M.f 18) (ha : ∀ i q, i = 6 ∨ i = 8 ∨ i = 9 ∨ i = 11 → M'.a i q = M.a i q) (U : gUn M E ∧ gLg M) : gUn M' E ∧ gLg M' := by
  obtain ⟨⟨u1, u2, u3, u4, u5, u6⟩, lg⟩ := U
  exact ⟨⟨by rw [h18]; exact u1, fun i hi => by rw [ha 8 i (by omega)]; exact u2 i hi, fun i hi => by rw [ha 9 i (by omega)]; exact u3 i hi, fun i k hi hk => by rw [ha 11 _ (by omega)]; exact u4 i k hi hk, u5, u6⟩, lg.kept h12 h13 fun q => ha 6 q (by omega)⟩
theorem kPass {F l L : Nat} {M : gMd} {E : List (Int32 × List Int32)} {b : Int} {g : Nat → Int32} (hF : F ≤ 25) (J : kJ F M l E b) (P : gPs (M.a 4) g (M.a 4 430).toNatClampNeg L) : kJ F ((M.arr 4 g).put 4 430 (nI L)) l E b ∧ L ≤ F ∧ L = gTk (M.a 4) ∧ ∀ q, q < 430 ∨ 512 ≤ q → ((M.arr 4 g).put 4 430 (nI L)).a 4 q = M.a 4 q := by
  have cl := J.1.le (by omega)
  obtain ⟨p1, p2, p3, p4⟩ := P
  have A : ∀ q, q < 430 ∨ 512 ≤ q → ((M.arr 4 g).put 4 430 (nI L)).a 4 q = M.a 4 q := fun q hq => (gput_n (by omega)).trans (garr_s.trans (p1 q (by omega)))
  have B : ∀ q, ¬ q = 430 → ((M.arr 4 g).put 4 430 (nI L)).a 4 q = g q := fun q hq => (gput_n hq).trans garr_s
  have e430 : ((M.arr 4 g).put 4 430 (nI L)).a 4 430 = nI L := gput_s
  have K := J.flt (M' := (M.arr 4 g).put 4 430 (nI L)) (F' := F) (n' := L) (d := 0) (kU (M := M) rfl rfl rfl (fun i q h => (gput_o (by omega)).trans (garr_o (by omega))) J.2.2.2.2.1) J.2.2.1 (fun h => Or.inl h) (fun h => h) (fun q hq => A q (by omega)) e430 (by omega) hF (fun k hk => by
    rw [e430, nI_clamp (by omega)] at hk
    rw [B _ (by omega), B _ (by omega)]
    exact (p2 k hk).2) (by rw [← p3]; exact Nat.le_refl _)
  refine ⟨?_, by omega, p3.symm, A⟩
  have e : b + 5568 * ((0 : Nat) : Int) = b := by omega
  rw [e] at K; exact K
/-- between two calls -/
def kW (M : gMd) (n : Nat) : Prop := (∃ L, L ≤ 96 ∧ M.f 1 = nI L ∧ ∃ l E, ∃ b : Int, kJ 24 M l E b ∧ l ≤ 31000 * n ∧ (M.a 4 420 = 1 → b + 5568 * (((L + 15) / 16 : Nat) : Int) ≤ 5568 * n + 2448) ∧ (¬ M.a 4 420 = 1 → b + 5568 * (((L + 15) / 16 : Nat) : Int) ≤ 5568 * n)) ∧ (∀ q, gIr (M.a 0 q) 255) ∧ M.f 19 = 0 ∧ gIr (M.a 1 6) 15 ∧ (M.f 38).toNatClampNeg ≤ 60
theorem kW.cg {n L' : Nat} {M M' : gMd} (W : kW M n) (h1 : M'.f 1 = nI L') (hL : ∀ L, M.f 1 = nI L → L ≤ 96 → L' ≤ L ∨ L' ≤ L + 16) (hL2 : L' ≤ 96) (h9 : gIr (M'.f 9) 3) (h12 : M'.f 12 = M.f 12) (h13 : M'.f 13 = M.f 13) (h18 : M'.f 18 = M.f 18) (h19 : M'.f 19 = 0) (h38 : M'.f 38 = M.f 38) (h0 : ∀ q, gIr (M'.a 0 q) 255) (h6 : M'.a 1 6 = M.a 1 6) (ha : ∀ i q, i = 4 ∨ i = 6 ∨ i = 8 ∨ i = 9 ∨ i = 11 → M'.a i q = M.a i q) : kW M' (n + 1) := by
  obtain ⟨⟨L, w1, w2, l, E, b, J, w4, w5, w6⟩, w7, w8, w9, w10⟩ := W
  have J2 : kJ 24 M' l E b := J.cg (by decide) (by decide) (kU h12 h13 h18 (fun i q h => ha i q (by omega)) J.2.2.2.2.1) h9 (fun h => absurd w8 h) fun q _ => ha 4 q (by omega)
  have hl := hL L w2 w1
  refine ⟨⟨L', hL2, h1, l, E, b, J2, by omega, fun h => ?_, fun h => ?_⟩, h0, h19, by rw [h6]; exact w9, by rw [h38]; exact w10⟩
  · rw [ha 4 420 (by omega)] at h
    have := w5 h
    omega
  · rw [ha 4 420 (by omega)] at h
    have := w6 h
    omega
theorem kW.q {n : Nat} {M : gMd} {x : Int32} (W : kW M n) : kW (M.set 2 x) (n + 1) := by
  obtain ⟨⟨L, w1, w2, l, E, b, J, w4, w5, w6⟩, w7, w8, w9, w10⟩ := id W
  exact W.cg (L' := L) ((gset_n (by decide)).trans w2) (fun L2 e _ => Or.inl (by have := nI_inj (by omega) (by omega) (w2.symm.trans e); omega)) w1 (by rw [gset_n (by decide)]; exact J.2.2.1) (gset_n (by decide)) (gset_n (by decide)) (gset_n (by decide)) ((gset_n (by decide)).trans w8) (gset_n (by decide)) w7 rfl fun i q _ => rfl
