/-! the protocol: the reader's half turn, message (wip/p1/m_pr1.py) -/
theorem gso_r {L : gLn} {k q i : Nat} {inf : List Int32} {P : Nat → gLn → Prop} (e : gS3_r L (nI k) = gSn_r L (nI k) (gMb (nI k) inf)) (wf : gWf k inf q) (hl : inf.length ≤ 60) (hb : gByt inf) (hq : q ≤ 254) (er : L.cd.ro = nI q)
    (W : ∃ j, j < i ∧ P j (((gSn_r L (nI k) (gMb (nI k) inf)).row 1 (gMb (nI k) inf)).set 5 0)) (B : ∀ l1 o, (o = 1 ∨ o = 2 ∨ o = 3) → ∃ j, j < i + 6 ∧ P j (((gSn_r L (nI k) (gMb (nI k) inf)).row 1 l1).set 5 o)) :
    gSo (gS3_r L (nI k)) (gS3_r L (nI k)).cd.ro P i := by
  rw [e]
  exact ⟨k, q, inf, rfl, wf, hl, hb, hq, er, W, B⟩
theorem gso_c {L : gLn} {k q i : Nat} {inf : List Int32} {P : Nat → gLn → Prop} (e : gS3_c L (nI k) = gSn_c L (nI k) (gMb (nI k) inf)) (wf : gWf k inf q) (hl : inf.length ≤ 60) (hb : gByt inf) (hq : q ≤ 254) (er : L.rd.ro = nI q)
    (W : ∃ j, j < i ∧ P j (((gSn_c L (nI k) (gMb (nI k) inf)).row 1 (gMb (nI k) inf)).set 5 0)) (B : ∀ l1 o, (o = 1 ∨ o = 2 ∨ o = 3) → ∃ j, j < i + 6 ∧ P j (((gSn_c L (nI k) (gMb (nI k) inf)).row 1 l1).set 5 o)) :
    gSo (gS3_c L (nI k)) (gS3_c L (nI k)).rd.ro P i := by
  rw [e]
  exact ⟨k, q, inf, rfl, wf, hl, hb, hq, er, W, B⟩
/-- R is sent -/
theorem gsoR_r {L : gLn} {k : Int32} {w q i : Nat} {P : Nat → gLn → Prop} (hk : gKR k w) (hw : w ≤ 1) (hq : q ≤ 254) (er : L.cd.ro = nI q)
    (W : ∃ j, j < i ∧ P j (((gSn_r L k (gMb k [])).row 1 (gMb k [])).set 5 0)) (B : ∀ l1 o, (o = 1 ∨ o = 2 ∨ o = 3) → ∃ j, j < i + 6 ∧ P j (((gSn_r L k (gMb k [])).row 1 l1).set 5 o)) :
    gSo (gS3_r L k) (gS3_r L k).cd.ro P i := by
  have e := gs3R_r (L := L) hk hw
  obtain ⟨s, hs, rfl⟩ := hk
  exact gso_r e (Or.inr (Or.inl ⟨w, s, hw, hs, rfl, rfl⟩)) (Nat.zero_le _) gByt_nil hq er W B
theorem gsoR_c {L : gLn} {k : Int32} {w q i : Nat} {P : Nat → gLn → Prop} (hk : gKR k w) (hw : w ≤ 1) (hq : q ≤ 254) (er : L.rd.ro = nI q)
    (W : ∃ j, j < i ∧ P j (((gSn_c L k (gMb k [])).row 1 (gMb k [])).set 5 0)) (B : ∀ l1 o, (o = 1 ∨ o = 2 ∨ o = 3) → ∃ j, j < i + 6 ∧ P j (((gSn_c L k (gMb k [])).row 1 l1).set 5 o)) :
    gSo (gS3_c L k) (gS3_c L k).rd.ro P i := by
  have e := gs3R_c (L := L) hk hw
  obtain ⟨s, hs, rfl⟩ := hk
  exact gso_c e (Or.inr (Or.inl ⟨w, s, hw, hs, rfl, rfl⟩)) (Nat.zero_le _) gByt_nil hq er W B
theorem gKR.ne {k : Int32} {w : Nat} (h : gKR k w) (hw : w ≤ 1) : ¬ k = -1 := by
  obtain ⟨s, hs, rfl⟩ := h
  exact nI_ne1 (by omega)
theorem gkr1 {k : Int32} {w : Nat} {L : gLn} (h : gKR k w) (e : L.ca = gMb k []) : gKR (gat L.ca 1) w := by rw [e]; exact h
theorem gSd.ro_of {s : gSd} (T : gSdT s) : ∃ q, q ≤ 254 ∧ s.ro = nI q := by
  obtain ⟨n, w, r, t, ⟨⟨-, -, -, h, -⟩, -, -, -, e, -⟩, -⟩ := T
  exact ⟨r, h, e⟩
theorem gtry0 {L L1 : gLn} {k : Int32} (ft : L.ft = 0) (e : rX2_readerKind L = (k, L1)) (sk : L1.sk = 0) : gRk L = (k, L1.set 1 0) := by
  unfold gRk
  rw [if_pos ft, e]
  exact gt_0 sk
/-- what RESYNCH wants -/
def gDw (L : gLn) (i : Nat) : Prop := ∃ s n w t, gSB L.rd n w 32 t ∧ (L.rd.pe = -1 ∨ ∃ p mo, gSP L.rd t p mo) ∧ gSdT L.cd ∧ gcAsk L.cd ∧ gSiN L s ∧ 3 + 2 * s ≤ i
theorem gtryA {M : List Int32} {K : Int32 × Int32} {L L1 : gLn} {i : Nat} {k : Int32} (ft : L.ft = 0) (e : rX2_readerKind L = (k, L1)) (sk : L1.sk = 1) (ha : ¬ L1.rd.ask = 0) (B : gB0 K L1) (D : gDw L1 i) (G : ∀ t, t < 3 → gRO M K i (k, L1.set 1 (nI t))) : gRO M K i (gRk L) := by
  obtain ⟨b1, b2, b3, b4, t, ht, b5⟩ := B
  unfold gRk
  rw [if_pos ft, e]
  by_cases c : t < 2
  · show gRO M K i (rX2_countTries L1 k)
    rw [gt_1 sk b5 c]
    exact G (t + 1) (by omega)
  · obtain rfl : t = 2 := by omega
    show gRO M K i (rX2_countTries L1 k)
    rw [gt_3 sk b5 ha]
    obtain ⟨s, n, w, t, d1, d2, d3, d4, d5, d6⟩ := D
    obtain ⟨q, hq, er⟩ := gSd.ro_of d3
    have core : ∀ (b l1 : List Int32) (o : Int32), gPD (((gSn_r (((L1.set 1 (nI 3)).set 1 0).side 0 ((L1.rd.set 4 0).set 5 0)) (nI 192) b).row 1 l1).set 5 o) s := fun b l1 o => ⟨⟨n, w, t, d1, d2⟩, d3, d4, rfl, d5⟩
    have base : ∀ (b l1 : List Int32) (o : Int32), gB0 K (((gSn_r (((L1.set 1 (nI 3)).set 1 0).side 0 ((L1.rd.set 4 0).set 5 0)) (nI 192) b).row 1 l1).set 5 o) := fun b l1 o => ⟨b1, b2, b3, b4, 0, by decide, rfl⟩
    refine Or.inr ⟨show ¬ (192 : Int32) = -1 by decide, ?_⟩
    refine gso_r (k := 192) (gs3E_r (Or.inl rfl)) (Or.inr (Or.inr (Or.inl ⟨Or.inl rfl, rfl⟩))) (Nat.zero_le _) gByt_nil hq er ⟨2 + 2 * s, by omega, base _ _ _, Or.inr (Or.inr (Or.inr (Or.inr ⟨s, core _ _ _, Or.inl ⟨⟨rfl, rfl⟩, Nat.le_refl _⟩⟩)))⟩ ?_
    intro l1 oo ho
    exact ⟨4 + 2 * s, by omega, base _ _ _, Or.inr (Or.inr (Or.inr (Or.inr ⟨s, core _ _ _, Or.inr ⟨ho, Nat.le_refl _⟩⟩)))⟩
theorem gLkc.T {L : gLn} {n' w' w q t' : Nat} (B : gSB L.cd n' w' q t') (h : gLkc L n' w t') : gSdT L.cd := by
  rcases h with ⟨h, -⟩ | ⟨p, P, -⟩
  · exact gSdT.mk0 B h
  · exact gSdT.mk1 B P
theorem gRst1n {M : List Int32} {K : Int32 × Int32} {i : Nat} {L : gLn} {n w t p mo n' q t' : Nat} (B : gB0 K L) (H : gP1n M L n w t p mo n' q t') (G : (gCR L n ∧ 153 + 2 * (M.length - t) ≤ i) ∨ (gBr L ∧ 155 + 2 * (M.length - t) ≤ i)) : gRO M K i (gRk L) := by
  have H0 := H
  obtain ⟨a1, a2, a3, a4, a5, a6, a7, a8, ⟨a9, a10, a11⟩, a12, a13⟩ := H
  have ne := gSP.ne a1 a2
  have hn := a1.1.1
  have hw := a1.1.2.1
  have hq := a6.1.2.2.2.1
  have ew := a1.2.2.2.1
  have hi : 3 ≤ i := by omega
  have D : gDw L i := ⟨0, n, w, t, a1, Or.inr ⟨p, mo, a2⟩, a8.T a6, Or.inl a12, Or.inl ⟨rfl, a13⟩, hi⟩
  rcases G with ⟨⟨k, hk, h0, hc⟩, hv⟩ | ⟨hb, hv⟩
  · have e := (gr_R h0 a9 (gkr1 hk hc) hn a10).trans (gor_same (L := L.set 8 0) ne (gkr1 hk hc) hn a1.2.2.1 rfl)
    have e2 : (L.set 8 0).rd.pk = nI (64 * n + 32 * mo) := gpk a1 a2
    rw [e2] at e
    refine gtryA B.1 e rfl (by show ¬ L.rd.ask = 0; rw [a9]; decide) B D fun x hx => Or.inr ⟨nI_ne1 (by have := a2.2.2.1; omega), ?_⟩
    have hl : ((L.rd.out.drop t).take p).length ≤ 60 := by
      have := a1.1.2.2.2.2.2.1
      rw [List.length_take, List.length_drop]; omega
    refine gso_r (gs3I_r a1 a2) (Or.inl ⟨n, mo, hn, a2.2.2.1, rfl, ?_⟩) hl (gByt_take (gByt_drop a1.2.1.1)) hq a6.2.2.2.2.1 ⟨152 + 2 * (M.length - t), by omega, ⟨B.1, B.2.1, B.2.2.1, B.2.2.2.1, x, hx, rfl⟩, Or.inl (Or.inl ⟨n, w, t, p, mo, n', q, t', H0, Or.inl ⟨⟨rfl, ?_⟩, Nat.le_refl _⟩⟩)⟩ ?_
    · rw [List.length_take]; omega
    · rw [← a3]; rfl
    · intro l1 oo ho
      exact ⟨156 + 2 * (M.length - t), by omega, ⟨B.1, B.2.1, B.2.2.1, B.2.2.2.1, x, hx, rfl⟩, Or.inl (Or.inl ⟨n, w, t, p, mo, n', q, t', H0, Or.inr (Or.inr ⟨ho, Nat.le_refl _⟩)⟩)⟩
  · have h0 : ¬ L.oc = 0 := by rcases hb with h | h | h <;> (rw [h]; decide)
    obtain ⟨k, hk, e⟩ := gr_broken h0 a9 hw ew
    refine gtryA B.1 e rfl (by show ¬ L.rd.ask = 0; rw [a9]; decide) B D fun x hx => Or.inr ⟨hk.ne hw, ?_⟩
    refine gsoR_r hk hw hq a6.2.2.2.2.1 ⟨154 + 2 * (M.length - t), by omega, ⟨B.1, B.2.1, B.2.2.1, B.2.2.2.1, x, hx, rfl⟩, Or.inl (Or.inl ⟨n, w, t, p, mo, n', q, t', H0, Or.inr (Or.inl ⟨⟨k, hk, rfl, rfl⟩, Nat.le_refl _⟩)⟩)⟩ ?_
    intro l1 oo ho
    exact ⟨156 + 2 * (M.length - t), by omega, ⟨B.1, B.2.1, B.2.2.1, B.2.2.2.1, x, hx, rfl⟩, Or.inl (Or.inl ⟨n, w, t, p, mo, n', q, t', H0, Or.inr (Or.inr ⟨ho, Nat.le_refl _⟩)⟩)⟩
