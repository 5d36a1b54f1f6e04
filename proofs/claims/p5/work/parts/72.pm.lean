/-! the reference: a turn under the invariant, whole (by program: wip/p2/m_pm.py) -/
def kJ (F : Nat) (M : gMd) (l : Nat) (E : List (Int32 × List Int32)) (b : Int) : Prop :=
  gIr (M.a 4 430) F ∧ gFe (M.a 4) ∧ gIr (M.f 9) 3 ∧ M.a 4 423 = nI l ∧ (gUn M E ∧ gLg M) ∧ (E.Nodup ∧ ∀ e, e ∈ E → kCn e) ∧ kSt E ≤ 2850816 ∧ ∃ kr kc cr rr rc wc tc sp : Int, kI M (kQe M E) kr kc cr rr rc wc ∧ kBd M tc ∧ ((M.f 19 = 0 ∧ sp = kSt E) ∨ (¬ M.f 19 = 0 ∧ sp = 0)) ∧ kr + kc + cr + rr + rc + wc + tc + sp + 5568 * (gTk (M.a 4) : Int) ≤ b
/-- what a turn leaves -/
def kFr (M M' : gMd) : Prop := (∀ k, k = 1 ∨ k = 2 ∨ k = 3 ∨ k = 9 ∨ k = 19 ∨ k = 38 → M'.f k = M.f k) ∧ (∀ i q, i ≤ 3 ∨ i = 5 ∨ i = 15 → M'.a i q = M.a i q) ∧ (∀ q, 430 ≤ q → q < 512 → M'.a 4 q = M.a 4 q)
theorem kFr.tr {M M1 M2 : gMd} (a : kFr M M1) (c : kFr M1 M2) : kFr M M2 := ⟨fun k h => (c.1 k h).trans (a.1 k h), fun i q h => (c.2.1 i q h).trans (a.2.1 i q h), fun q h1 h2 => (c.2.2 q h1 h2).trans (a.2.2 q h1 h2)⟩
theorem gFe_cg {s s' : Nat → Int32} {F : Nat} (hF : F ≤ 25) (h430 : gIr (s 430) F) (h : ∀ q, 430 ≤ q → q < 512 → s' q = s q) (H : gFe s) : gFe s' := by
  have cl := h430.le (by omega)
  intro k hk
  rw [h 430 (by omega) (by omega)] at hk
  rw [h (431 + 3 * k + 1) (by omega) (by omega), h (431 + 3 * k + 2) (by omega) (by omega)]
  exact H k hk
theorem kJ.kk {F l : Nat} {M : gMd} {E : List (Int32 × List Int32)} {b : Int} (J : kJ F M l E b) (hF : F ≤ 25) (hl : l < 1000000000) : kK M l E := by
  obtain ⟨j1, j2, j3, j4, j5, j6, j7, -⟩ := J
  exact ⟨⟨by obtain ⟨n, h1, h2⟩ := j1; exact ⟨n, by omega, h2⟩, j2, j3⟩, j4, hl, fun _ => ⟨j5.1, j5.2, kRoom j6.2 j6.1 j7⟩⟩
theorem kByM {M : gMd} (By : kBy M) (h : 0 ≤ M.z 24 ∧ M.z 24 ≤ 60) : kBy (rX8_messageCame_1 M) := by
  have cl := gt_cle (b := 60) (show (M.a 4 24).toInt ≤ 60 from h.2)
  unfold rX8_messageCame_1
  generalize (M.a 4 24).toNatClampNeg = N at cl ⊢
  intro q h1 h2
  rw [gput_n (by omega), gput_n (by omega), gput_n (by omega), garr_s]
  unfold gCpy
  by_cases c : 352 ≤ q ∧ q < 352 + N
  · rw [if_pos c]; exact By _ (by omega) (by omega)
  · rw [if_neg c]; exact By _ h1 h2
/-- the state behind a block of the reader -/
def kMm (F : Nat) (M : gMd) (E : List (Int32 × List Int32)) (b : Int) : Prop :=
  gIr (M.a 4 430) F ∧ gFe (M.a 4) ∧ gIr (M.f 9) 3 ∧ (gUn M E ∧ gLg M) ∧ (E.Nodup ∧ ∀ e, e ∈ E → kCn e) ∧ kSt E ≤ 2850816 ∧ M.a 4 420 = 0 ∧ kH M ∧ ∃ b2 sp : Int, kP1 (kQe M E) b2 (pX8_cardGets (M.set 33 0)) ∧ (∀ l E, kK (M.set 33 0) l E → oX8_cardGets (M.set 33 0) l E) ∧ kF1 (M.set 33 0) (pX8_cardGets (M.set 33 0)).1 ∧ ((M.f 19 = 0 ∧ sp = kSt E) ∨ (¬ M.f 19 = 0 ∧ sp = 0)) ∧ b2 + sp + 5568 * (gTk (M.a 4) : Int) ≤ b
theorem kTurn1 {F l : Nat} {M M1 : gMd} {E E1 : List (Int32 × List Int32)} {b : Int} (J : kJ F M l E b) (hF : F ≤ 25) (hl : l + 512 ≤ 1000000000) (h419 : M.a 4 419 = 1) (hb : M.f 19 = 0 → b + 52 ≤ 2850816) (G : gDo 0 (pX8_rd M) l E M1 E1) :
    kFr M M1 ∧ (¬ M.f 19 = 0 → E1 = E) ∧ ((M1.f 33 = 0 ∧ kJ F M1 l E1 (b + 52) ∧ M1.a 4 420 = 0) ∨ (M1.f 33 = 1 ∧ ∃ l1, l1 ≤ l + 256 ∧ M1.a 4 423 = nI l1 ∧ kMm F M1 E1 (b + 52))) := by
  obtain ⟨j1, j2, j3, j4, j5, j6, j7, kr, kc, cr, rr, rc, wc, tc, sp, I, B, hsp, hs⟩ := J
  have cl := j1.le (by omega)
  obtain ⟨P0, -, fd1, fd2, fd3, fd4, fd5⟩ := kRd (b := kr + kc + cr + rr + rc + wc + tc + 52) I B (show (M.a 4 419).toInt = 1 by rw [h419]; decide) (Int.le_refl _)
  generalize pX8_rd M = P at P0 fd1 fd2 fd3 fd4 fd5 G
  obtain ⟨P1, op⟩ := P
  have tkP : gTk (P1.a 4) = gTk (M.a 4) := gTk_cg (fd4 423 (by omega)) (fd4 430 (by omega)) (by omega) fun q h1 _ => fd4 q (by omega)
  cases op with
  | none =>
    obtain ⟨rfl, rfl⟩ := G
    have e19 : M1.f 19 = M.f 19 := fd1 19 (by decide) (by decide) (by decide) (by decide) (by decide)
    refine ⟨⟨fun k h => fd1 k (by omega) (by omega) (by omega) (by omega) (by omega), fun i q h => fd3 i q (by omega) (by omega) (by omega), fun q h1 h2 => fd4 q (by omega)⟩, fun _ => rfl, Or.inl ⟨fd2, ?_, fd5⟩⟩
    obtain ⟨⟨kr', kc', cr', rr', rc', wc', I', s'⟩, n419⟩ := P0
    have u : gUn M1 E1 ∧ gLg M1 := by
      obtain ⟨⟨u1, u2, u3, u4, u5, u6⟩, lg⟩ := j5
      exact ⟨⟨by rw [fd1 18 (by decide) (by decide) (by decide) (by decide) (by decide)]; exact u1, fun i hi => by rw [fd3 8 i (by decide) (by decide) (by decide)]; exact u2 i hi, fun i hi => by rw [fd3 9 i (by decide) (by decide) (by decide)]; exact u3 i hi, fun i k hi hk => by rw [fd3 11 _ (by decide) (by decide) (by decide)]; exact u4 i k hi hk, u5, u6⟩, lg.kept (fd1 12 (by decide) (by decide) (by decide) (by decide) (by decide)) (fd1 13 (by decide) (by decide) (by decide) (by decide) (by decide)) fun q => fd3 6 q (by decide) (by decide) (by decide)⟩
    have I2 : kI M1 (kQe M1 E1) kr' kc' cr' rr' rc' wc' := I'.mono fun e he => by
      unfold kQe at he ⊢
      rw [e19]; exact he
    have B2 : kBd M1 0 := by
      obtain ⟨t0, b1, b2, b3⟩ := B
      exact ⟨by decide, by rw [fd4 428 (by omega)]; exact b1, by rw [fd4 429 (by omega)]; exact b2, fun h => absurd h n419⟩
    exact ⟨by rw [fd4 430 (by omega)]; exact j1, gFe_cg hF j1 (fun q h1 _ => fd4 q (by omega)) j2, by rw [fd1 9 (by decide) (by decide) (by decide) (by decide) (by decide)]; exact j3, by rw [fd4 423 (by omega)]; exact j4, u, j6, j7, kr', kc', cr', rr', rc', wc', 0, sp, I2, B2, by rw [e19]; exact hsp, by rw [tkP]; have := B.1; omega⟩
  | some t =>
    obtain ⟨x, n⟩ := t
    obtain ⟨k, N, c, ex, tg, ex1, ex2, hN, hK, hf, hc0, hq, hM, fin⟩ := P0
    have S : gSn P1 0 x n.toNatClampNeg l E M1 E1 (gSh 0 M1) := G
    rw [ex1, ex2, nI_clamp (by omega)] at S
    have e19 : P1.f 19 = M.f 19 := fd1 19 (by decide) (by decide) (by decide) (by decide) (by decide)
    have uP : gUn P1 E ∧ gLg P1 := by
      obtain ⟨⟨u1, u2, u3, u4, u5, u6⟩, lg⟩ := j5
      exact ⟨⟨by rw [fd1 18 (by decide) (by decide) (by decide) (by decide) (by decide)]; exact u1, fun i hi => by rw [fd3 8 i (by decide) (by decide) (by decide)]; exact u2 i hi, fun i hi => by rw [fd3 9 i (by decide) (by decide) (by decide)]; exact u3 i hi, fun i k hi hk => by rw [fd3 11 _ (by decide) (by decide) (by decide)]; exact u4 i k hi hk, u5, u6⟩, lg.kept (fd1 12 (by decide) (by decide) (by decide) (by decide) (by decide)) (fd1 13 (by decide) (by decide) (by decide) (by decide) (by decide)) fun q => fd3 6 q (by decide) (by decide) (by decide)⟩
    have eQ : ∀ e, kQe M E e ↔ kQe P1 E e := fun e => by unfold kQe; rw [e19]
    have sent := kSent (sp := sp) (c := c) S (by decide) hK hN hf hc0 (hq.imp (fun h => (eQ _).mp h) id) uP j6 (by rw [e19]; exact hsp)
    obtain ⟨m19, mU, mE, mq, ⟨sp', hsp', hle⟩, mono, mem⟩ := sent
    obtain ⟨s1, s2, s3, ⟨l1, sl1, sl2, sl3⟩, s5, s6, ⟨c7, s7a, s7b, s7c⟩, s8, s9⟩ := S
    have K1 := fin (kQe M1 E1) (fun e he => mono e ((eQ e).mp he)) mem
    have K2 : kEnd (M1.set 33 0) (kQe M1 E1) (kr + kc + cr + rr + rc + wc + tc + 52 - c - ex - tg) := K1.cg (fun q h1 h2 h3 h4 h5 h6 h7 => s3 q (by omega) (by omega) (by omega) (by omega)) (Int.le_refl _)
    obtain ⟨kr', kc', cr', rr', rc', wc', I', s'⟩ := K2
    have e420 : M1.a 4 420 = 0 := (s3 420 (by decide) (by decide) (by decide) (by decide)).trans fd5
    have a430 : ∀ q, 430 ≤ q → M1.a 4 q = M.a 4 q := fun q h => (s3 q (by omega) (by omega) (by omega) (by omega)).trans (fd4 q (by omega))
    have f9 : M1.f 9 = M.f 9 := (s1 9 (by decide) (by decide) (by decide) (by decide) (by decide) (by decide) (by decide) (by decide) (by decide)).trans (fd1 9 (by decide) (by decide) (by decide) (by decide) (by decide))
    have hM' : kMd (M1.set 33 0) k N (P1.a 14) ex tg := hM.cg (M' := M1.set 33 0) fun q h => s3 q (by omega) (by omega) (by omega) (by omega)
    have z420 : (M1.set 33 0).z 420 = 0 := by show (M1.a 4 420).toInt = 0; rw [e420]; decide
    have g29 : (M1.set 33 0).f 29 = M1.f 29 := gset_n (by decide)
    have h29 : gIr ((M1.set 33 0).f 29) 3 := by
      rw [g29]
      rcases s8 with ⟨h, -⟩ | ⟨h, -⟩
      · exact ⟨0, by decide, h⟩
      · rcases h with h | h | h
        · exact ⟨1, by decide, h⟩
        · exact ⟨2, by decide, h⟩
        · exact ⟨3, by decide, h⟩
    obtain ⟨b2, hb2, hbk, hX⟩ : ∃ b2 : Int, b2 + 5568 * (gTk (M1.a 4) : Int) ≤ (kr + kc + cr + rr + rc + wc + tc + 52 - c) + 5568 * (gTk (M.a 4) : Int) ∧ kr' + kc' + cr' + rr' + rc' + wc' + ex + tg ≤ b2 ∧ ((M1.set 33 0).f 29 = 0 → ¬ rX8_isShaped_1 (M1.set 33 0) = 0 ∧ kCm (M1.set 33 0) k N (P1.a 14) (kr' + kc' + cr' + rr' + rc' + wc' + ex + tg + 11136 ≤ b2)) := by
      rw [tkP] at s5 s8
      rcases s8 with ⟨h0, h28, h132, hsh, ho⟩ | ⟨h0, -⟩
      · have ec : c7 = N + 4 := nI_inj (by omega) (by omega) (s7b.symm.trans h28)
        have by' : ∀ q, q < N + 4 → gIr ((M1.set 33 0).a 13 q) 255 := fun q hq => s7c q (by omega)
        rcases ho with ho | ho
        · exact ⟨kr + kc + cr + rr + rc + wc + tc + 52 - c, by omega, by omega, fun _ => ⟨hsh, h132, hN, by', Or.inl ho⟩⟩
        · exact ⟨kr + kc + cr + rr + rc + wc + tc + 52 - c + 11136, by omega, by omega, fun _ => ⟨hsh, h132, hN, by', Or.inr (by omega)⟩⟩
      · refine ⟨kr + kc + cr + rr + rc + wc + tc + 52 - c, by omega, by omega, fun h => ?_⟩
        rw [g29] at h
        rw [h] at h0
        rcases h0 with h0 | h0 | h0 <;> exact absurd h0 (by decide)
    have KC := kCard I' hK hM' z420 h29 hbk hX
    have IH : kH M1 := (I'.kH).cg (M1 := M1) fun q _ => rfl
    have kF : kF1 (M1.set 33 0) (pX8_cardGets (M1.set 33 0)).1 := by
      refine fCard I'.kH I'.2.2.1 (fun h0 => ?_) kF1.rf
      obtain ⟨-, c1, c2, c3, -⟩ := hX h0
      have tk := kTake1 (cr' := cr' + 10718) (N := N) I' c1 c2 (fun q hq => c3 (3 + q) (by omega)) fun T TA T17 T21 T24 => ⟨by have := I'.2.2.2.2.1.1; omega, fun _ => by have := I'.2.2.2.2.1.1; omega, fun _ => by have := I'.2.2.2.2.1.1; omega⟩
      rcases tk with tk | ⟨-, -, TI, -⟩
      · rw [tk]; exact kByM I'.2.2.1 I'.kH.2.1
      · exact kByM TI.2.2.1 TI.kH.2.1
    have hsum : sp' ≤ sp + c := hle
    have hst : kSt E1 ≤ 2850816 := by
      rcases hsp' with ⟨q, rfl⟩ | ⟨q, -⟩
      · have q' : M.f 19 = 0 := by rw [← e19, ← m19]; exact q
        have := hb q'
        have i1 := I'.1.2.2.2.2.2.2.2.2.2.2.2.2.1
        have i2 := I'.2.1.2.2.2.2.2.2.2.2.2.2.2.2.1
        have i3 := I'.2.2.2.2.1.1
        have i4 := I'.2.2.2.2.2.1.1
        have i5 := I'.2.2.2.2.2.2.1.1
        have i6 := I'.2.2.2.2.2.2.2.1
        have i7 := hM'.1
        have i8 := hM'.2.1
        omega
      · rw [mq (by rw [← m19]; exact q)]; exact j7
    refine ⟨⟨fun k h => (s1 k (by omega) (by omega) (by omega) (by omega) (by omega) (by omega) (by omega) (by omega) (by omega)).trans (fd1 k (by omega) (by omega) (by omega) (by omega) (by omega)), fun i q h => (s2 i q (by omega) (by omega) (by omega) (by omega)).trans (fd3 i q (by omega) (by omega) (by omega)), fun q h1 h2 => a430 q h1⟩, fun h => mq (by rw [e19]; exact h), Or.inr ⟨s6, l1, sl3, sl1, ?_⟩⟩
    exact ⟨by rw [a430 430 (by omega)]; exact j1, gFe_cg hF j1 (fun q h1 _ => a430 q h1) j2, by rw [f9]; exact j3, mU, mE, hst, e420, IH, b2, sp', KC.1, KC.2, kF, hsp', by omega⟩
theorem kJ.end {F l : Nat} {M M' : gMd} {E : List (Int32 × List Int32)} {b tc sp kr kc cr rr rc wc : Int} (hF : F ≤ 25) (j1 : gIr (M.a 4 430) F) (j2 : gFe (M.a 4)) (j3 : gIr (M.f 9) 3) (j4 : M.a 4 423 = nI l) (j5 : gUn M E ∧ gLg M) (j6 : E.Nodup ∧ ∀ e, e ∈ E → kCn e) (j7 : kSt E ≤ 2850816) (I : kI M (kQe M E) kr kc cr rr rc wc) (hsp : (M.f 19 = 0 ∧ sp = kSt E) ∨ (¬ M.f 19 = 0 ∧ sp = 0))
    (ef : ∀ k, M'.f k = M.f k) (ea : ∀ i q, ¬ i = 4 → M'.a i q = M.a i q) (e4 : ∀ q, q < 428 ∨ (430 ≤ q ∧ q < 512) → M'.a 4 q = M.a 4 q) (B : kBd M' tc) (hs : kr + kc + cr + rr + rc + wc + tc + sp + 5568 * (gTk (M.a 4) : Int) ≤ b) : kJ F M' l E b := by
  have cl := j1.le (by omega)
  obtain ⟨⟨u1, u2, u3, u4, u5, u6⟩, lg⟩ := j5
  have tk : gTk (M'.a 4) = gTk (M.a 4) := gTk_cg (e4 423 (by omega)) (e4 430 (by omega)) (by omega) fun q h1 h2 => e4 q (by omega)
  refine ⟨by rw [e4 430 (by omega)]; exact j1, gFe_cg hF j1 (fun q h1 h2 => e4 q (by omega)) j2, by rw [ef]; exact j3, by rw [e4 423 (by omega)]; exact j4, ⟨⟨by rw [ef]; exact u1, fun i hi => by rw [ea 8 i (by decide)]; exact u2 i hi, fun i hi => by rw [ea 9 i (by decide)]; exact u3 i hi, fun i k hi hk => by rw [ea 11 _ (by decide)]; exact u4 i k hi hk, u5, u6⟩, lg.kept (ef 12) (ef 13) fun q => ea 6 q (by decide)⟩, j6, j7, kr, kc, cr, rr, rc, wc, tc, sp, ?_, B, by rw [ef]; exact hsp, by rw [tk]; exact hs⟩
  refine (I.mono fun e he => ?_).cg fun q h _ _ _ _ _ _ => e4 q (by omega)
  unfold kQe at he ⊢
  rw [ef]; exact he
theorem kTurn2 {F l1 : Nat} {M1 M2 M' : gMd} {E1 E2 : List (Int32 × List Int32)} {b : Int} {x : Int32} (m : kMm F M1 E1 b) (hF : F ≤ 25) (el : M1.a 4 423 = nI l1) (hl : l1 + 256 < 1000000000) (hb : M1.f 19 = 0 → b ≤ 2850816) (G : gDo 1 (pX8_cardGets (M1.set 33 0)) l1 E1 M2 E2)
    (fin : (M2.f 33 = 0 ∧ x = 1 ∧ M' = (M2.put 4 428 3).put 4 429 0) ∨ (¬ M2.f 33 = 0 ∧ x = 2 ∧ M' = (((M2.put 4 428 (M2.f 29)).put 4 429 (M2.f 28)).arr 4 (gCpy (((M2.put 4 428 (M2.f 29)).put 4 429 (M2.f 28)).a 4) 512 (((M2.put 4 428 (M2.f 29)).put 4 429 (M2.f 28)).a 13) 0 (M2.f 28).toNatClampNeg)))) :
    ∃ l', l' ≤ l1 + 256 ∧ kJ F M' l' E2 b ∧ kFr M1 M' ∧ M'.a 4 420 = 0 ∧ (¬ M1.f 19 = 0 → E2 = E1) := by
  obtain ⟨j1, j2, j3, j5, j6, j7, e420, hH, b2, sp, P0, -, fr, hsp, hs⟩ := m
  have cl := j1.le (by omega)
  generalize pX8_cardGets (M1.set 33 0) = P at P0 fr G
  obtain ⟨P1, op⟩ := P
  obtain ⟨fr1, fr2, fr3⟩ := fr
  have ff : ∀ k, ¬ k = 33 → ¬ k = 34 → ¬ k = 35 → P1.f k = M1.f k := fun k h1 h2 h3 => (fr1 k h2 h3).trans (gset_n h1)
  have f33 : P1.f 33 = 0 := (fr1 33 (by decide) (by decide)).trans gset_s
  have fa : ∀ i q, ¬ i = 4 → ¬ i = 14 → P1.a i q = M1.a i q := fr2
  have f4 : ∀ q, q = 420 ∨ q = 423 ∨ q = 424 ∨ 428 ≤ q → P1.a 4 q = M1.a 4 q := fr3
  have tkP : gTk (P1.a 4) = gTk (M1.a 4) := gTk_cg (f4 423 (by omega)) (f4 430 (by omega)) (by omega) fun q h1 _ => f4 q (by omega)
  have uP : gUn P1 E1 ∧ gLg P1 := by
    obtain ⟨⟨u1, u2, u3, u4, u5, u6⟩, lg⟩ := j5
    exact ⟨⟨by rw [ff 18 (by decide) (by decide) (by decide)]; exact u1, fun i hi => by rw [fa 8 i (by decide) (by decide)]; exact u2 i hi, fun i hi => by rw [fa 9 i (by decide) (by decide)]; exact u3 i hi, fun i k hi hk => by rw [fa 11 _ (by decide) (by decide)]; exact u4 i k hi hk, u5, u6⟩, lg.kept (ff 12 (by decide) (by decide) (by decide)) (ff 13 (by decide) (by decide) (by decide)) fun q => fa 6 q (by decide) (by decide)⟩
  have e19 : P1.f 19 = M1.f 19 := ff 19 (by decide) (by decide) (by decide)
  have eQ : ∀ e, kQe M1 E1 e ↔ kQe P1 E1 e := fun e => by unfold kQe; rw [e19]
  have p1 : gIr (P1.a 4 430) F := by rw [f4 430 (by omega)]; exact j1
  have p2 : gFe (P1.a 4) := gFe_cg hF j1 (fun q h1 _ => f4 q (by omega)) j2
  have p3 : gIr (P1.f 9) 3 := by rw [ff 9 (by decide) (by decide) (by decide)]; exact j3
  have c8 : ∀ {M0 : gMd} (q : Nat), ¬ q = 428 → ¬ q = 429 → (M0.put 4 428 3 |>.put 4 429 0).a 4 q = M0.a 4 q := fun q h1 h2 => (gput_n h2).trans (gput_n h1)
  cases op with
  | none =>
    obtain ⟨rfl, rfl⟩ := G
    obtain ⟨kr, kc, cr, rr, rc, wc, I, s'⟩ := P0
    rcases fin with ⟨-, -, rfl⟩ | ⟨h, -⟩
    · have B : kBd ((M2.put 4 428 3).put 4 429 0) 0 := ⟨by decide, by rw [gput_n (by decide), gput_s]; exact ⟨3, by decide, rfl⟩, by rw [gput_s]; exact ⟨0, by decide, rfl⟩, fun _ _ h => by
        rw [gput_n (by decide), gput_s] at h
        exact absurd h (by decide)⟩
      refine ⟨l1, by omega, kJ.end hF p1 p2 p3 ((f4 423 (by omega)).trans el) uP j6 j7 (I.mono fun e he => (eQ e).mp he) (by rw [e19]; exact hsp) (fun _ => rfl) (fun i q h => (gput_o h).trans (gput_o h)) (fun q h => c8 q (by omega) (by omega)) B (by rw [tkP]; omega), ⟨fun k h => ff k (by omega) (by omega) (by omega), fun i q h => (gput_o (by omega)).trans ((gput_o (by omega)).trans (fa i q (by omega) (by omega))), fun q h1 h2 => (c8 q (by omega) (by omega)).trans (f4 q (by omega))⟩, (c8 420 (by decide) (by decide)).trans ((f4 420 (by omega)).trans e420), fun _ => rfl⟩
    · exact absurd f33 h
  | some t =>
    obtain ⟨y, n⟩ := t
    obtain ⟨k, N, c, ex1, ex2, hN, hK, hf, hc0, hq, hG, fin1⟩ := P0
    have S : gSn P1 1 y n.toNatClampNeg l1 E1 M2 E2 (gSh 1 M2) := G
    rw [ex1, ex2, nI_clamp (by omega)] at S
    have sent := kSent (sp := sp) (c := c) S (by decide) hK hN hf hc0 (hq.imp (fun h => (eQ _).mp h) id) uP j6 (by rw [e19]; exact hsp)
    obtain ⟨m19, mU, mE, mq, ⟨sp', hsp', hle⟩, mono, mem⟩ := sent
    obtain ⟨s1, s2, s3, ⟨l2, sl1, sl2, sl3⟩, s5, s6, ⟨c7, s7a, s7b, s7c⟩, s8, s9⟩ := S
    rcases fin with ⟨h, -⟩ | ⟨-, -, rfl⟩
    · rw [s6] at h; exact absurd h (by decide)
    have K1 := fin1 (kQe M2 E2) (fun e he => mono e ((eQ e).mp he)) mem
    have K2 : kEnd M2 (kQe M2 E2) (b2 - c) := K1.cg (fun q h1 h2 h3 h4 h5 h6 h7 => s3 q (by omega) (by omega) (by omega) (by omega)) (Int.le_refl _)
    obtain ⟨kr, kc, cr, rr, rc, wc, I, s'⟩ := K2
    have a428 : ∀ q, 428 ≤ q → M2.a 4 q = M1.a 4 q := fun q h => (s3 q (by omega) (by omega) (by omega) (by omega)).trans (f4 q (by omega))
    have f9 : M2.f 9 = M1.f 9 := (s1 9 (by decide) (by decide) (by decide) (by decide) (by decide) (by decide) (by decide) (by decide) (by decide)).trans (ff 9 (by decide) (by decide) (by decide))
    rw [tkP] at s5 s8
    have c7cl : (M2.f 28).toNatClampNeg = c7 := by rw [s7b, nI_clamp (by omega)]
    rw [c7cl]
    have gg : ∀ q, ¬ q = 428 → ¬ q = 429 → q < 512 → (((M2.put 4 428 (M2.f 29)).put 4 429 (M2.f 28)).arr 4 (gCpy (((M2.put 4 428 (M2.f 29)).put 4 429 (M2.f 28)).a 4) 512 (((M2.put 4 428 (M2.f 29)).put 4 429 (M2.f 28)).a 13) 0 c7)).a 4 q = M2.a 4 q := fun q h1 h2 h3 => (garr_s.trans (gCpy_out (by omega))).trans ((gput_n h2).trans (gput_n h1))
    have g428 : (((M2.put 4 428 (M2.f 29)).put 4 429 (M2.f 28)).arr 4 (gCpy (((M2.put 4 428 (M2.f 29)).put 4 429 (M2.f 28)).a 4) 512 (((M2.put 4 428 (M2.f 29)).put 4 429 (M2.f 28)).a 13) 0 c7)).a 4 428 = M2.f 29 := (garr_s.trans (gCpy_out (by omega))).trans ((gput_n (by decide)).trans gput_s)
    have g429 : (((M2.put 4 428 (M2.f 29)).put 4 429 (M2.f 28)).arr 4 (gCpy (((M2.put 4 428 (M2.f 29)).put 4 429 (M2.f 28)).a 4) 512 (((M2.put 4 428 (M2.f 29)).put 4 429 (M2.f 28)).a 13) 0 c7)).a 4 429 = M2.f 28 := (garr_s.trans (gCpy_out (by omega))).trans gput_s
    have g512 : ∀ q, q < c7 → (((M2.put 4 428 (M2.f 29)).put 4 429 (M2.f 28)).arr 4 (gCpy (((M2.put 4 428 (M2.f 29)).put 4 429 (M2.f 28)).a 4) 512 (((M2.put 4 428 (M2.f 29)).put 4 429 (M2.f 28)).a 13) 0 c7)).a 4 (512 + q) = M2.a 13 q := fun q hq => by
      rw [garr_s, gCpy_in hq, Nat.zero_add]
      exact (gput_o (by decide)).trans (gput_o (by decide))
    have gf : ∀ k, (((M2.put 4 428 (M2.f 29)).put 4 429 (M2.f 28)).arr 4 (gCpy (((M2.put 4 428 (M2.f 29)).put 4 429 (M2.f 28)).a 4) 512 (((M2.put 4 428 (M2.f 29)).put 4 429 (M2.f 28)).a 13) 0 c7)).f k = M2.f k := fun _ => rfl
    have ga : ∀ i q, ¬ i = 4 → (((M2.put 4 428 (M2.f 29)).put 4 429 (M2.f 28)).arr 4 (gCpy (((M2.put 4 428 (M2.f 29)).put 4 429 (M2.f 28)).a 4) 512 (((M2.put 4 428 (M2.f 29)).put 4 429 (M2.f 28)).a 13) 0 c7)).a i q = M2.a i q := fun i q h => (garr_o h).trans ((gput_o h).trans (gput_o h))
    generalize (((M2.put 4 428 (M2.f 29)).put 4 429 (M2.f 28)).arr 4 (gCpy (((M2.put 4 428 (M2.f 29)).put 4 429 (M2.f 28)).a 4) 512 (((M2.put 4 428 (M2.f 29)).put 4 429 (M2.f 28)).a 13) 0 c7)) = M' at gg g428 g429 g512 gf ga ⊢
    obtain ⟨tc, hB, htc⟩ : ∃ tc : Int, kBd M' tc ∧ tc + 5568 * (gTk (M2.a 4) : Int) ≤ 5568 * (gTk (M1.a 4) : Int) := by
      have b29 : gIr (M'.a 4 428) 3 := by
        rw [g428]
        rcases s8 with ⟨h, -⟩ | ⟨h, -⟩
        · exact ⟨0, by decide, h⟩
        · rcases h with h | h | h
          · exact ⟨1, by decide, h⟩
          · exact ⟨2, by decide, h⟩
          · exact ⟨3, by decide, h⟩
      have b28 : gIr (M'.a 4 429) 64 := by rw [g429]; exact ⟨c7, by omega, s7b⟩
      rcases s8 with ⟨h0, h28, h132, hsh, ho⟩ | ⟨h0, -⟩
      · have ec : c7 = N + 4 := nI_inj (by omega) (by omega) (s7b.symm.trans h28)
        subst ec
        obtain ⟨g, hg, eg⟩ := s7c 1 (by omega)
        obtain ⟨sh, -⟩ := kShp0 (by omega) (by omega) eg h132 hsh
        have mk : ∀ tc : Int, 0 ≤ tc → (kGd M' g (fun _ => M'.a 4 515) ∨ 10718 ≤ tc) → kBd M' tc := fun tc t0 hg' => ⟨t0, b29, b28, fun _ _ _ => ⟨g, N, (g512 1 (by omega)).trans eg, by omega, (g512 2 (by omega)).trans h132, hN, g429.trans h28, fun q hq => by rw [g512 q hq]; exact s7c q hq, by rw [g512 3 (by omega)]; exact sh, hg'⟩⟩
        rcases ho with ho | ho
        · refine ⟨0, mk 0 (by decide) (Or.inl ?_), by omega⟩
          have kb : k < 256 := by
            rcases hK with ⟨-, hk⟩ | ⟨-, hk⟩ | ⟨-, hk⟩ <;> simp at hk <;> omega
          have gk : g = k := by
            have e1 := ho 1 (by omega)
            rw [eg] at e1
            have e2 : gBv (nI k) N (P1.a 14) 1 = nI k := by unfold gBv; rw [if_neg (by decide), if_pos rfl]
            exact nI_inj (by omega) (by omega) (e1.trans e2)
          subst gk
          have z17 : M'.z 17 = P1.z 17 := congrArg Int32.toInt ((gg 17 (by decide) (by decide) (by decide)).trans (s3 17 (by decide) (by decide) (by decide) (by decide)))
          have z25 : M'.z 25 = P1.z 25 := congrArg Int32.toInt ((gg 25 (by decide) (by decide) (by decide)).trans (s3 25 (by decide) (by decide) (by decide) (by decide)))
          have a26 : M'.a 4 26 = P1.a 4 26 := (gg 26 (by decide) (by decide) (by decide)).trans (s3 26 (by decide) (by decide) (by decide) (by decide))
          refine ⟨fun h1 h2 => (hG.1 h1 h2).trans z17.symm, fun h => ?_⟩
          have N1 : 1 ≤ N := by
            rcases hK with ⟨-, hk⟩ | ⟨e, -⟩ | ⟨e, -⟩
            · simp at hk; omega
            · omega
            · exact e
          have e3 : M2.a 13 3 = P1.a 14 0 := (ho 3 (by omega)).trans (gBv_in (j := 0) (by omega))
          rw [z25, a26, g512 3 (by omega), e3]
          exact hG.2 h
        · exact ⟨10718, mk 10718 (by decide) (Or.inr (by decide)), by omega⟩
      · refine ⟨0, ⟨by decide, b29, b28, fun _ _ h => ?_⟩, by omega⟩
        rw [g428] at h
        rw [h] at h0
        rcases h0 with h0 | h0 | h0 <;> exact absurd h0 (by decide)
    have hst : kSt E2 ≤ 2850816 := by
      rcases hsp' with ⟨q, rfl⟩ | ⟨q, -⟩
      · have := hb (by rw [← e19, ← m19]; exact q)
        have i1 := I.1.2.2.2.2.2.2.2.2.2.2.2.2.1
        have i2 := I.2.1.2.2.2.2.2.2.2.2.2.2.2.2.1
        have i3 := I.2.2.2.2.1.1
        have i4 := I.2.2.2.2.2.1.1
        have i5 := I.2.2.2.2.2.2.1.1
        have i6 := I.2.2.2.2.2.2.2.1
        omega
      · rw [mq (by rw [← m19]; exact q)]; exact j7
    refine ⟨l2, sl3, kJ.end hF (by rw [a428 430 (by omega)]; exact j1) (gFe_cg hF j1 (fun q h1 _ => a428 q (by omega)) j2) (by rw [f9]; exact j3) sl1 mU mE hst I hsp' gf ga (fun q h => gg q (by omega) (by omega) (by omega)) hB (by omega), ⟨fun k h => (gf k).trans ((s1 k (by omega) (by omega) (by omega) (by omega) (by omega) (by omega) (by omega) (by omega) (by omega)).trans (ff k (by omega) (by omega) (by omega))), fun i q h => (ga i q (by omega)).trans ((s2 i q (by omega) (by omega) (by omega) (by omega)).trans (fa i q (by omega) (by omega))), fun q h1 h2 => (gg q (by omega) (by omega) h2).trans (a428 q (by omega))⟩, ?_, fun h => mq (by rw [e19]; exact h)⟩
    exact (gg 420 (by decide) (by decide) (by decide)).trans ((s3 420 (by decide) (by decide) (by decide) (by decide)).trans ((f4 420 (by omega)).trans e420))
theorem kTurn {F l : Nat} {M : gMd} {E : List (Int32 × List Int32)} {b : Int} (J : kJ F M l E b) (hF : F ≤ 25) (hl : l + 512 < 1000000000) (h419 : M.a 4 419 = 1) (hb : M.f 19 = 0 → b + 52 ≤ 2850816) :
    oTn M l E ∧ ∀ M' E' x, gTn M l E M' E' x → ∃ l', l' ≤ l + 512 ∧ kJ F M' l' E' (b + 52) ∧ kFr M M' ∧ M'.a 4 420 = 0 ∧ (¬ M.f 19 = 0 → E' = E) := by
  have K := J.kk hF (by omega)
  have T1 := fun {M1 : gMd} {E1 : List (Int32 × List Int32)} (G : gDo 0 (pX8_rd M) l E M1 E1) => kTurn1 J hF (by omega) h419 hb G
  have R : ∀ l E, kK M l E → oX8_rd M l E := by
    obtain ⟨j1, j2, j3, j4, j5, j6, j7, kr, kc, cr, rr, rc, wc, tc, sp, I, B, hsp, hs⟩ := J
    exact (kRd (b := kr + kc + cr + rr + rc + wc + tc + 52) I B (show (M.a 4 419).toInt = 1 by rw [h419]; decide) (Int.le_refl _)).2.1
  refine ⟨⟨R l E K, fun M1 E1 G n33 => ?_⟩, fun M' E' x T => ?_⟩
  · obtain ⟨-, -, t⟩ := T1 G
    rcases t with ⟨h, -⟩ | ⟨-, l1, hl1, el1, m⟩
    · exact absurd h n33
    · obtain ⟨j1, j2, j3, j5, j6, j7, e420, hH, b2, sp, P0, PO, fr, hsp, hs⟩ := m
      have K1 : kK (M1.set 33 0) l1 E1 := kK.set (M := M1) (by decide) ⟨⟨by obtain ⟨n, h1, h2⟩ := j1; exact ⟨n, by omega, h2⟩, j2, j3⟩, el1, by omega, fun _ => ⟨j5.1, j5.2, kRoom j6.2 j6.1 j7⟩⟩
      refine ⟨l1, ⟨el1, by omega⟩, PO l1 E1 K1, fun M2 E2 G2 n2 => ?_⟩
      generalize pX8_cardGets (M1.set 33 0) = P at P0 fr G2
      obtain ⟨P1, op⟩ := P
      cases op with
      | none =>
        obtain ⟨rfl, rfl⟩ := G2
        exact absurd ((fr.1 33 (by decide) (by decide)).trans gset_s) n2
      | some t =>
        obtain ⟨y, n⟩ := t
        obtain ⟨k, N, c, ex1, ex2, hN, -⟩ := P0
        have S : gSn P1 1 y n.toNatClampNeg l1 E1 M2 E2 (gSh 1 M2) := G2
        rw [ex2, nI_clamp (by omega)] at S
        obtain ⟨s1, s2, s3, s4, s5, s6, ⟨c7, s7a, s7b, s7c⟩, -⟩ := S
        exact ⟨c7, by omega, s7b⟩
  · obtain ⟨M1, E1, G, h⟩ := T
    obtain ⟨f1, q1, t⟩ := T1 G
    rcases h with ⟨h33, -, rfl, rfl⟩ | ⟨n33, l1', M2, ⟨el', hl'⟩, -, G2, fin⟩
    · rcases t with ⟨-, J', e420⟩ | ⟨h, -⟩
      · exact ⟨l, by omega, J', f1, e420, q1⟩
      · rw [h] at h33; exact absurd h33 (by decide)
    · rcases t with ⟨h, -⟩ | ⟨-, l1, hl1, el1, m⟩
      · exact absurd h n33
      · have e1 : l1' = l1 := nI_inj (by omega) (by omega) (el'.symm.trans el1)
        subst e1
        have e19 : M1.f 19 = M.f 19 := f1.1 19 (by omega)
        obtain ⟨l', h1, J', f2, e420, q2⟩ := kTurn2 m hF el1 (by omega) (by rw [e19]; exact hb) G2 fin
        exact ⟨l', by omega, J', f1.tr f2, e420, fun h => (q2 (by rw [e19]; exact h)).trans (q1 h)⟩
