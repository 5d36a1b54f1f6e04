/-! the protocol: the reader's half turn, answer, abort, resynch (wip/p1/m_pr3.py) -/
theorem gtdr {E : List Int32} {t p : Nat} : E.take t ++ (E.drop t).take p = E.take (t + p) := by rw [List.take_add]
theorem gRst3n {M : List Int32} {K : Int32 × Int32} {i : Nat} {L : gLn} {n w t w' n' q t' p mo : Nat} (hme : ¬ L.rd.me + 1 = 0) (hE : (gExp M).length ≤ 60) (B : gB0 K L) (H : gP3n M L n w t w' n' q t' p mo)
    (G : (gCm L (nI (64 * n' + 32 * mo)) (((gExp M).drop t').take p) ∧ 20 + 2 * ((gExp M).length - t') ≤ i) ∨ ((gCR L w' ∨ gBr L) ∧ 22 + 2 * ((gExp M).length - t') ≤ i)) : gRO M K i (gRk L) := by
  have H0 := H
  obtain ⟨a1, a2, a3, a4, a5, a6, a7, aw, a8, am, an, a9, a10, a12, a13⟩ := H
  have hw := a1.1.2.1
  have hw' := a2.1.2.1
  have hq := a2.1.2.2.2.1
  have ew := a1.2.2.2.1
  have hi : 3 ≤ i := by omega
  have hn' := a2.1.1
  obtain ⟨t2, c1, c2, c3, c4, c5, c6, c7⟩ := gpsS a1 a3
  have D : gDw L i := a3.D (s := 0) a1 (gSdT.mk1 a2 a4) (Or.inl a12) (Or.inl ⟨rfl, a13⟩) hi
  rcases G with ⟨⟨h0, hc⟩, hv⟩ | ⟨⟨k, hk, h0, hc⟩ | hb, hv⟩
  · have hp : L.rd.pe = -1 ∨ L.rd.pm = 0 := a3.imp (fun x => x.1) (fun ⟨p, P, _⟩ => P.2.1)
    have e := gr_I h0 a9 hn' a4.2.2.1 (by rw [hc]; rfl) (by rw [ew, aw]) hp
    have hl : L.rd.pass.inn.length + ((((gExp M).drop t').take p)).length ≤ 60 := by
      rw [c3, a8, List.length_take, List.length_take, List.length_drop]; omega
    have hby : gByt (((gExp M).drop t').take p) := gByt_take (gByt_drop (by rw [← a5]; exact a2.2.1.1))
    have Tk : gTk L = L.rd.pass.take (gMb (nI (64 * n' + 32 * mo)) (((gExp M).drop t').take p)) := by unfold gTk; rw [hc]
    have T1 := c1.take (k := nI (64 * n' + 32 * mo)) hby hl
    have T2 : (gTk L).inn = (gExp M).take (t' + p) := by
      rw [Tk, gtake hl]
      show L.rd.pass.inn ++ _ = _
      rw [c3, a8, gtdr]
    have T3 : (gTk L).pe = -1 := by rw [Tk, gtake hl]; exact c2
    have T4 : (gTk L).ask = -1 := by rw [Tk, gtake hl]; exact c4.trans a9
    have T5 : (gTk L).me = L.rd.me := by rw [Tk, gtake hl]; exact gpass_me L.rd
    rw [← Tk] at T1
    generalize gTk L = s1 at e T1 T2 T3 T4 T5
    by_cases c : mo = 0
    · rw [if_pos c] at e
      rw [gtry0 B.1 e rfl]
      refine Or.inl ⟨rfl, Or.inl ⟨rfl, ?_, B.2.2.2.1, ?_, am, T4, a12, a13, rfl, an, T3, w', 1 - w, t2, n', q, t', T1.whole, a2, Or.inr ⟨p, ?_, by rw [aw]⟩⟩⟩
      · show L.td + 1 = _
        rw [B.2.2.1]
      · refine ⟨?_, by show ¬ s1.me + 1 = 0; rw [T5]; exact hme⟩
        show s1.inn = _
        rw [T2]
        refine List.take_of_length_le ?_
        rw [a7] at c
        by_cases c9 : (gExp M).length - t' ≤ 32
        · omega
        · rw [if_neg c9] at c; exact absurd c (by decide)
      · rw [c] at a4; exact a4
    · rw [if_neg c] at e
      have m1 : mo = 1 := by have := a4.2.2.1; omega
      have ek : (128 + 16 * s1.wa + 0 : Int32) = nI (128 + 16 * (1 - w) + 0) := by
        rw [T1.2.2.2.1, show (0 : Int32) = nI 0 from rfl, grcp (by omega) (by decide)]
      rw [ek] at e
      have hk : gKR (nI (128 + 16 * (1 - w) + 0)) (1 - w) := ⟨0, by decide, rfl⟩
      rw [gtry0 B.1 e rfl]
      have lt : ¬ (gExp M).length - t' ≤ 32 := fun h9 => c (a7.trans (if_pos h9))
      refine Or.inr ⟨hk.ne (by omega), ?_⟩
      rw [m1] at a4
      have core : ∀ (b l1 : List Int32) (oo kk : Int32), gP3g M (((gSn_r (((L.set 8 0).side 0 s1).set 1 0) kk b).row 1 l1).set 5 oo) w' (1 - w) t2 w' n' q t' p :=
        fun b l1 oo kk => ⟨T1, a2, T3, rfl, a4, a5, by omega, by omega, by rw [aw], T2, am, an, T4, a10, a12, a13⟩
      refine gsoR_r hk (by omega) hq a2.2.2.2.2.1 ⟨19 + 2 * ((gExp M).length - t'), by omega, ⟨B.1, B.2.1, B.2.2.1, B.2.2.2.1, 0, by decide, rfl⟩, Or.inr (Or.inr (Or.inl (Or.inr ⟨_, _, _, _, _, _, _, _, core _ _ _ _, Or.inl ⟨⟨_, hk, rfl, rfl⟩, Nat.le_refl _⟩⟩)))⟩ ?_
      intro l1 oo ho
      exact ⟨22 + 2 * ((gExp M).length - t'), by omega, ⟨B.1, B.2.1, B.2.2.1, B.2.2.2.1, 0, by decide, rfl⟩, Or.inr (Or.inr (Or.inl (Or.inr ⟨_, _, _, _, _, _, _, _, core _ _ _ _, Or.inr ⟨ho, Nat.le_refl _⟩⟩)))⟩
  · have e0 := gr_R h0 a9 (gkr1 hk hc) hw' a10
    rcases a3 with ⟨pe, hn⟩ | ⟨p9, P, hn⟩
    · obtain ⟨k2, hk2, e1⟩ := gor_none (L := L.set 8 0) (x := gat L.ca 1) pe hw ew
      rw [gtry0 B.1 (e0.trans e1) rfl]
      refine Or.inr ⟨hk2.ne hw, ?_⟩
      refine gsoR_r hk2 hw hq a2.2.2.2.2.1 ⟨21 + 2 * ((gExp M).length - t'), by omega, ⟨B.1, B.2.1, B.2.2.1, B.2.2.2.1, 0, by decide, rfl⟩, Or.inr (Or.inr (Or.inl (Or.inl ⟨n, w, t, w', n', q, t', p, mo, H0, Or.inl ⟨⟨k2, hk2, rfl, rfl⟩, Nat.le_refl _⟩⟩)))⟩ ?_
      intro l1 oo ho
      exact ⟨23 + 2 * ((gExp M).length - t'), by omega, ⟨B.1, B.2.1, B.2.2.1, B.2.2.2.1, 0, by decide, rfl⟩, Or.inr (Or.inr (Or.inl (Or.inl ⟨n, w, t, w', n', q, t', p, mo, H0, Or.inr ⟨ho, Nat.le_refl _⟩⟩)))⟩
    · obtain ⟨k2, hk2, e1⟩ := gor_last (L := L.set 8 0) (gSP.ne a1 P) (gkr1 hk hc) hw' a1.1.1 a1.2.2.1 (by have := a1.1.1; omega) P.2.1 hw ew
      rw [gtry0 B.1 (e0.trans e1) rfl]
      refine Or.inr ⟨hk2.ne hw, ?_⟩
      change gSo (gS3_r (((L.set 8 0).side 0 L.rd.pass).set 1 0) k2) (gS3_r (((L.set 8 0).side 0 L.rd.pass).set 1 0) k2).cd.ro _ _
      generalize L.rd.pass = s1 at c1 c2 c3 c4 c5 c6 c7 ⊢
      have core : ∀ (b l1 : List Int32) (oo kk : Int32), gP3n M (((gSn_r (((L.set 8 0).side 0 s1).set 1 0) kk b).row 1 l1).set 5 oo) w' w t2 w' n' q t' p mo :=
        fun b l1 oo kk => ⟨c1, a2, Or.inl ⟨c2, rfl⟩, a4, a5, a6, a7, aw, c3.trans a8, am, an, c4.trans a9, a10, a12, a13⟩
      refine gsoR_r hk2 hw hq a2.2.2.2.2.1 ⟨21 + 2 * ((gExp M).length - t'), by omega, ⟨B.1, B.2.1, B.2.2.1, B.2.2.2.1, 0, by decide, rfl⟩, Or.inr (Or.inr (Or.inl (Or.inl ⟨_, _, _, _, _, _, _, _, _, core _ _ _ _, Or.inl ⟨⟨k2, hk2, rfl, rfl⟩, Nat.le_refl _⟩⟩)))⟩ ?_
      intro l1 oo ho
      exact ⟨23 + 2 * ((gExp M).length - t'), by omega, ⟨B.1, B.2.1, B.2.2.1, B.2.2.2.1, 0, by decide, rfl⟩, Or.inr (Or.inr (Or.inl (Or.inl ⟨_, _, _, _, _, _, _, _, _, core _ _ _ _, Or.inr ⟨ho, Nat.le_refl _⟩⟩)))⟩
  · have h0 : ¬ L.oc = 0 := by rcases hb with h | h | h <;> (rw [h]; decide)
    obtain ⟨k9, hk, e⟩ := gr_broken h0 a9 hw ew
    refine gtryA B.1 e rfl (by show ¬ L.rd.ask = 0; rw [a9]; decide) B D fun x hx => Or.inr ⟨hk.ne hw, ?_⟩
    refine gsoR_r hk hw hq a2.2.2.2.2.1 ⟨21 + 2 * ((gExp M).length - t'), by omega, ⟨B.1, B.2.1, B.2.2.1, B.2.2.2.1, x, hx, rfl⟩, Or.inr (Or.inr (Or.inl (Or.inl ⟨n, w, t, w', n', q, t', p, mo, H0, Or.inl ⟨⟨k9, hk, rfl, rfl⟩, Nat.le_refl _⟩⟩)))⟩ ?_
    intro l1 oo ho
    exact ⟨23 + 2 * ((gExp M).length - t'), by omega, ⟨B.1, B.2.1, B.2.2.1, B.2.2.2.1, x, hx, rfl⟩, Or.inr (Or.inr (Or.inl (Or.inl ⟨n, w, t, w', n', q, t', p, mo, H0, Or.inr ⟨ho, Nat.le_refl _⟩⟩)))⟩
theorem gRst3g {M : List Int32} {K : Int32 × Int32} {i : Nat} {L : gLn} {n w t w' n' q t' p : Nat} (B : gB0 K L) (H : gP3g M L n w t w' n' q t' p)
    (G : (gCR L w' ∧ 20 + 2 * ((gExp M).length - t') ≤ i) ∨ (gBr L ∧ 21 + 2 * ((gExp M).length - t') ≤ i)) : gRO M K i (gRk L) := by
  have H0 := H
  obtain ⟨a1, a2, pe, a3, a4, a5, a6, a7, aw, a8, am, an, a9, a10, a12, a13⟩ := H
  have hw := a1.1.2.1
  have hw' := a2.1.2.1
  have hq := a2.1.2.2.2.1
  have ew := a1.2.2.2.1
  have hi : 3 ≤ i := by omega
  have D : gDw L i := ⟨0, n, w, t, a1, Or.inl pe, gSdT.mk1 a2 a4, Or.inl a12, Or.inl ⟨rfl, a13⟩, hi⟩
  rcases G with ⟨⟨k, hk, h0, hc⟩, hv⟩ | ⟨hb, hv⟩
  · have e0 := gr_R h0 a9 (gkr1 hk hc) hw' a10
    obtain ⟨k2, hk2, e1⟩ := gor_none (L := L.set 8 0) (x := gat L.ca 1) pe hw ew
    rw [gtry0 B.1 (e0.trans e1) rfl]
    refine Or.inr ⟨hk2.ne hw, ?_⟩
    refine gsoR_r hk2 hw hq a2.2.2.2.2.1 ⟨19 + 2 * ((gExp M).length - t'), by omega, ⟨B.1, B.2.1, B.2.2.1, B.2.2.2.1, 0, by decide, rfl⟩, Or.inr (Or.inr (Or.inl (Or.inr ⟨n, w, t, w', n', q, t', p, H0, Or.inl ⟨⟨k2, hk2, rfl, rfl⟩, Nat.le_refl _⟩⟩)))⟩ ?_
    intro l1 oo ho
    exact ⟨22 + 2 * ((gExp M).length - t'), by omega, ⟨B.1, B.2.1, B.2.2.1, B.2.2.2.1, 0, by decide, rfl⟩, Or.inr (Or.inr (Or.inl (Or.inr ⟨n, w, t, w', n', q, t', p, H0, Or.inr ⟨ho, Nat.le_refl _⟩⟩)))⟩
  · have h0 : ¬ L.oc = 0 := by rcases hb with h | h | h <;> (rw [h]; decide)
    obtain ⟨k9, hk, e⟩ := gr_broken h0 a9 hw ew
    refine gtryA B.1 e rfl (by show ¬ L.rd.ask = 0; rw [a9]; decide) B D fun x hx => Or.inr ⟨hk.ne hw, ?_⟩
    refine gsoR_r hk hw hq a2.2.2.2.2.1 ⟨19 + 2 * ((gExp M).length - t'), by omega, ⟨B.1, B.2.1, B.2.2.1, B.2.2.2.1, x, hx, rfl⟩, Or.inr (Or.inr (Or.inl (Or.inr ⟨n, w, t, w', n', q, t', p, H0, Or.inl ⟨⟨k9, hk, rfl, rfl⟩, Nat.le_refl _⟩⟩)))⟩ ?_
    intro l1 oo ho
    exact ⟨22 + 2 * ((gExp M).length - t'), by omega, ⟨B.1, B.2.1, B.2.2.1, B.2.2.2.1, x, hx, rfl⟩, Or.inr (Or.inr (Or.inl (Or.inr ⟨n, w, t, w', n', q, t', p, H0, Or.inr ⟨ho, Nat.le_refl _⟩⟩)))⟩
theorem gRstT {M : List Int32} {K : Int32 × Int32} {i : Nat} {L : gLn} (hme : ¬ L.rd.me + 1 = 0) (B : gB0 K L) (G : gRT M i L) : gRO M K i (gRk L) := by
  obtain ⟨n, w, n', q, t', H, G⟩ := G
  have H0 := H
  obtain ⟨a1, a2, a3, a4, a5, a6, a7, a8, a9, a10, a13, ak⟩ := H
  have hn := a1.1.1
  have hw := a1.1.2.1
  have hq := a4.1.2.2.2.1
  have ew := a1.2.2.2.1
  have ca : gcAsk L.cd := by
    rcases G with ⟨h, -⟩ | ⟨h, -⟩
    · exact Or.inl h
    · exact Or.inr (Or.inr (Or.inl h))
  have D : 3 ≤ i → gDw L i := fun hi => ⟨0, n, w, 0, a1, Or.inl a2, gSdT.mk0 a4 a5, ca, Or.inl ⟨rfl, a13⟩, hi⟩
  rcases G with ⟨ha, ⟨⟨k, hk, h0, hc⟩, hv⟩ | ⟨hb, hv⟩⟩ | ⟨ha, ⟨⟨h0, hc⟩, hv⟩ | ⟨hb, hv⟩⟩
  · have e := gr_Rt h0 a9 (gkr1 hk hc) hn a10
    rw [gtry0 B.1 e rfl]
    refine Or.inl ⟨rfl, Or.inl ⟨rfl, ?_, B.2.2.2.1, ?_, a7, a9, ha, a13, a3, a8, a2, n, w, 0, n', q, t', a1.emptyCame, a4, Or.inl ⟨a5, a6⟩⟩⟩
    · show L.td + 1 = _
      rw [B.2.2.1]
    · exact ⟨by rw [gE4 ak]; rfl, hme⟩
  · have h0 : ¬ L.oc = 0 := by rcases hb with h | h | h <;> (rw [h]; decide)
    obtain ⟨k9, hk, e⟩ := gr_broken h0 a9 hw ew
    refine gtryA B.1 e rfl (by show ¬ L.rd.ask = 0; rw [a9]; decide) B (D (by omega)) fun x hx => Or.inr ⟨hk.ne hw, ?_⟩
    refine gsoR_r hk hw hq a4.2.2.2.2.1 ⟨14, by omega, ⟨B.1, B.2.1, B.2.2.1, B.2.2.2.1, x, hx, rfl⟩, Or.inr (Or.inr (Or.inr (Or.inl ⟨n, w, n', q, t', H0, Or.inl ⟨ha, Or.inl ⟨⟨k9, hk, rfl, rfl⟩, Nat.le_refl _⟩⟩⟩)))⟩ ?_
    intro l1 oo ho
    exact ⟨16, by omega, ⟨B.1, B.2.1, B.2.2.1, B.2.2.2.1, x, hx, rfl⟩, Or.inr (Or.inr (Or.inr (Or.inl ⟨n, w, n', q, t', H0, Or.inl ⟨ha, Or.inr ⟨ho, Nat.le_refl _⟩⟩⟩)))⟩
  · have e := gr_abort h0 a9 (by rw [hc]; rfl)
    rw [gtry0 B.1 e rfl]
    obtain ⟨t2, c1, c2, c3, c4, c5, c6, c7⟩ := gpsS (v := n) a1 (Or.inl ⟨a2, rfl⟩)
    refine Or.inr ⟨show ¬ (226 : Int32) = -1 by decide, ?_⟩
    have core : ∀ (b9 l1 : List Int32) (oo : Int32), gPT M (((gSn_r ((((L.set 8 0).side 0 L.rd.brk).set 9 1).set 1 0) (nI 226) b9).row 1 l1).set 5 oo) n w n' q t' := fun _ _ _ => ⟨c1.void, c2, rfl, a4, a5, a6, a7, a8, c4.trans a9, show ¬ (1 : Int32) = 0 by decide, a13, ak⟩
    refine gso_r (k := 226) (gs3E_r (Or.inr (Or.inr (Or.inr rfl)))) (Or.inr (Or.inr (Or.inl ⟨Or.inr (Or.inr (Or.inr rfl)), rfl⟩))) (Nat.zero_le _) gByt_nil hq a4.2.2.2.2.1 ⟨14, by omega, ⟨B.1, B.2.1, B.2.2.1, B.2.2.2.1, 0, by decide, rfl⟩, Or.inr (Or.inr (Or.inr (Or.inl ⟨n, w, n', q, t', core _ _ _, Or.inr ⟨ha, Or.inl ⟨⟨rfl, rfl⟩, Nat.le_refl _⟩⟩⟩)))⟩ ?_
    intro l1 oo ho
    exact ⟨18, by omega, ⟨B.1, B.2.1, B.2.2.1, B.2.2.2.1, 0, by decide, rfl⟩, Or.inr (Or.inr (Or.inr (Or.inl ⟨n, w, n', q, t', core _ _ _, Or.inr ⟨ha, Or.inr (Or.inr ⟨ho, Nat.le_refl _⟩)⟩⟩)))⟩
  · have h0 : ¬ L.oc = 0 := by rcases hb with h | h | h <;> (rw [h]; decide)
    obtain ⟨k9, hk, e⟩ := gr_broken h0 a9 hw ew
    refine gtryA B.1 e rfl (by show ¬ L.rd.ask = 0; rw [a9]; decide) B (D (by omega)) fun x hx => Or.inr ⟨hk.ne hw, ?_⟩
    refine gsoR_r hk hw hq a4.2.2.2.2.1 ⟨16, by omega, ⟨B.1, B.2.1, B.2.2.1, B.2.2.2.1, x, hx, rfl⟩, Or.inr (Or.inr (Or.inr (Or.inl ⟨n, w, n', q, t', H0, Or.inr ⟨ha, Or.inr (Or.inl ⟨⟨k9, hk, rfl, rfl⟩, Nat.le_refl _⟩)⟩⟩)))⟩ ?_
    intro l1 oo ho
    exact ⟨18, by omega, ⟨B.1, B.2.1, B.2.2.1, B.2.2.2.1, x, hx, rfl⟩, Or.inr (Or.inr (Or.inr (Or.inl ⟨n, w, n', q, t', H0, Or.inr ⟨ha, Or.inr (Or.inr ⟨ho, Nat.le_refl _⟩)⟩⟩)))⟩
theorem gRstD {M : List Int32} {K : Int32 × Int32} {i : Nat} {L : gLn} (B : gB0 K L) (G : gRD i L) : gRO M K i (gRk L) := by
  obtain ⟨s, H, G⟩ := G
  obtain ⟨⟨n, w, t, a1, a2⟩, a3, a4, a5, a6⟩ := H
  rcases G with ⟨⟨h0, hc⟩, ⟨r, z1, z2, z3, z4, z5⟩, hv⟩ | ⟨G, hv⟩
  · have e := gr_up h0 a5 (by rw [hc]; rfl) (by rw [hc]; rfl)
    rw [gtry0 B.1 e rfl]
    have E : gSB (L.rd.set 4 (-1)).empt 0 0 32 0 := (a1.set (k := 4) (by decide)).empt
    refine Or.inl ⟨rfl, Or.inr (Or.inl ⟨rfl, B.2.2.1, ?_, ⟨rfl, z4, z5, rfl, z3, rfl, 0, 0, 0, 0, r, 0, E, z1, Or.inl ⟨z2, rfl⟩⟩, rfl, rfl, z1.2.2.1, z1.2.2.2.1, rfl, z2⟩)⟩
    show L.tg + 1 = _
    rw [B.2.2.2.1]
  · have e : rX2_readerKind L = (192, (L.set 8 0).set 8 1) := by
      have e9 : (192 + L.rd.ask : Int32) = 192 := by rw [a5]; rfl
      rcases G with hb | ⟨k, inf, ⟨h0, hc⟩, hk⟩
      · have h0 : ¬ L.oc = 0 := by rcases hb with h | h | h <;> (rw [h]; decide)
        have := gr_brokenA h0 (by rw [a5]; decide)
        rw [e9] at this; exact this
      · have := gr_again h0 (by rw [a5]; decide) (by rw [hc, a5]; exact hk)
        rw [e9] at this; exact this
    obtain ⟨b1, b2, b3, b4, x, hx, b5⟩ := B
    unfold gRk
    rw [if_pos b1, e]
    by_cases c : x < 2
    · show gRO M K i (rX2_countTries ((L.set 8 0).set 8 1) 192)
      rw [gt_1 (L := (L.set 8 0).set 8 1) rfl b5 c]
      obtain ⟨q, hq, er⟩ := gSd.ro_of a3
      have core : ∀ (b l1 : List Int32) (oo : Int32), gPD (((gSn_r (((L.set 8 0).set 8 1).set 1 (nI (x + 1))) (nI 192) b).row 1 l1).set 5 oo) s := fun _ _ _ => ⟨⟨n, w, t, a1, a2⟩, a3, a4, a5, a6⟩
      refine Or.inr ⟨show ¬ (192 : Int32) = -1 by decide, ?_⟩
      refine gso_r (k := 192) (gs3E_r (Or.inl rfl)) (Or.inr (Or.inr (Or.inl ⟨Or.inl rfl, rfl⟩))) (Nat.zero_le _) gByt_nil hq er ⟨2 + 2 * s, by omega, ⟨b1, b2, b3, b4, x + 1, by omega, rfl⟩, Or.inr (Or.inr (Or.inr (Or.inr ⟨s, core _ _ _, Or.inl ⟨⟨rfl, rfl⟩, Nat.le_refl _⟩⟩)))⟩ ?_
      intro l1 oo ho
      exact ⟨4 + 2 * s, by omega, ⟨b1, b2, b3, b4, x + 1, by omega, rfl⟩, Or.inr (Or.inr (Or.inr (Or.inr ⟨s, core _ _ _, Or.inr ⟨ho, Nat.le_refl _⟩⟩)))⟩
    · obtain rfl : x = 2 := by omega
      show gRO M K i (rX2_countTries ((L.set 8 0).set 8 1) 192)
      rw [gt_d (L := (L.set 8 0).set 8 1) rfl b5 a5]
      exact Or.inl ⟨rfl, Or.inr (Or.inr ⟨rfl, ⟨n, w, 32, t, a1, a2⟩, a3⟩)⟩
theorem gRhalf {M : List Int32} {K : Int32 × Int32} {i : Nat} {L : gLn} (hme : ¬ L.rd.me + 1 = 0) (hE : (gExp M).length ≤ 60) (G : gRR M K i L) : gRO M K i (gRk L) := by
  obtain ⟨B, (⟨n, w, t, p, mo, n', q, t', H, G⟩ | ⟨n, w, t, p, n', q, t', H, G⟩) | G | (⟨n, w, t, w', n', q, t', p, mo, H, G⟩ | ⟨n, w, t, w', n', q, t', p, H, G⟩) | G | G⟩ := G
  · exact gRst1n B H G
  · exact gRst1g B H G
  · exact gRst2 B G
  · exact gRst3n hme hE B H G
  · exact gRst3g B H G
  · exact gRstT hme B G
  · exact gRstD B G
