/-! the protocol: the card's half turn, further (wip/p1/m_pc2.py) -/
theorem gAk2.q {M : List Int32} {L : gLn} {k u : Nat} {inf : List Int32} (h : gAk2 M L k u inf) : (192 + L.cd.ask : Int32) = nI k ∧ k < 200 ∧ ¬ L.cd.ask = -1 ∧ 128 + 64 ≤ k := by
  obtain ⟨-, ⟨rfl, h, -⟩ | ⟨rfl, h, -⟩ | ⟨rfl, h, -⟩⟩ := h <;> rw [h] <;> decide
theorem gKR.no {k : Int32} {w : Nat} {L : gLn} {a : Nat} (h : gKR k w) (hw : w ≤ 1) (e : (192 + L.cd.ask : Int32) = nI a) (ha : a < 200) (ha2 : 192 ≤ a) : ¬ k = 192 ∧ ¬ k = (192 + L.cd.ask) + 32 := by
  rw [e, show (32 : Int32) = nI 32 from rfl, nI_add]
  obtain ⟨s, hs, rfl⟩ := h
  exact ⟨fun h9 => by have := nI_inj (b := 192) (by omega) (by decide) h9; omega, fun h9 => by have := nI_inj (by omega) (by omega) h9; omega⟩
theorem gCst2 {M : List Int32} {K : Int32 × Int32} {i : Nat} {L : gLn} (B : gB0 K L) (G : gC2 M i L) : gCO M K i (gCk L) := by
  obtain ⟨n, w, t, w', n', q, t', H, G⟩ := G
  have H0 := H
  obtain ⟨a1, a2, a3, a4, a5, a6, a7, Q⟩ := H
  have hw := a1.1.2.1
  have hM : M.length ≤ 60 := by rw [← a4.1]; exact a2.1.2.2.2.2.2.2.1
  have bM : gByt M := by rw [← a4.1]; exact a2.2.1.2.1
  have el := gExp_len hM
  have eb := gExp_byt bM hM
  have C := a2.new el eb
  have C1 := (a2.set (k := 4) (x := -1) (by decide)).new el eb
  rcases G with ⟨k, u, inf, A, G⟩ | ⟨s, s1, s4, es, ea, ek, G, hv⟩
  · have hu := A.u
    obtain ⟨q1, q2, q3, q4⟩ := A.q
    rcases G with ⟨nk, ⟨h0, hc⟩, hv⟩ | ⟨⟨k9, hk, h0, hc⟩, hv⟩ | ⟨hb, hv⟩
    · obtain ⟨a13, ⟨rfl, b1, b2, j, b, b3, b4, b5, b6, b7, rfl, b8⟩ | ⟨rfl, b1, b2, b3, b, b4, b5, b6, rfl⟩ | ⟨rfl, -⟩⟩ := A
      · have e := gc_wait a13 h0 b1 (by rw [hc]; rfl) (by rw [hc, b7]; rfl) b5 b3 (by omega)
        by_cases c : j = 1
        · rw [if_pos c, a4.1, ← gE2 b2] at e
          rw [gck e (by decide)]
          refine Or.inr ⟨show ¬ (-2 : Int32) = -1 by decide, ?_⟩
          exact gAns (L := (gWa L 0).side 1 ((L.cd.set 4 (-1)).row 0 (gExp M))) B a1 C1 rfl a3 rfl a7 Q a4 a5 rfl a13 (by omega)
        · rw [if_neg c] at e
          rw [gck e (by decide)]
          refine Or.inr ⟨show ¬ (195 : Int32) = -1 by decide, ?_⟩
          exact gAskS (L := (gWa L (j - 1)).side 1 (((L.cd.set 4 (-1)).set 4 3).set 5 L.cd.ai)) (k := 195) (u := 142 + 2 * (j - 1)) (inf := [nI b]) B ⟨a1, a2, a3, a4, a5, a6, a7, Q⟩ ⟨a13, Or.inl ⟨rfl, rfl, b2, j - 1, b, by omega, by omega, rfl, b6, b7, rfl, rfl⟩⟩ (by omega)
      · have e := gc_room a13 h0 b1 (by rw [hc]; rfl) (by rw [hc, b6]; rfl)
        have eg : gat L.cd.got 0 = M.getD 0 0 := by rw [a4.1]; exact gat_nI (i := 0) (by decide)
        rw [eg, ← gE3 (Or.inl b2)] at e
        rw [gck e (by decide)]
        refine Or.inr ⟨show ¬ (-2 : Int32) = -1 by decide, ?_⟩
        exact gAns (L := L.side 1 ((L.cd.set 4 (-1)).row 0 (gExp M))) B a1 C1 rfl a3 rfl a7 Q a4 a5 rfl a13 (by omega)
      · exact absurd rfl nk
    · obtain ⟨n1, n2⟩ := hk.no (L := L) hw q1 q2 q4
      have e := gc_again A.1 h0 (by rw [hc]; exact n1) q3 (by rw [hc]; exact n2)
      rw [q1] at e
      rw [gck e (nI_ne4 (by omega))]
      exact Or.inr ⟨nI_ne1 (by omega), gAskS B H0 A (by omega)⟩
    · by_cases h3 : L.oc = 3
      · rw [gck (gc_none A.1 h3) (by decide)]
        exact Or.inl ⟨rfl, u + 3, by omega, B, Or.inr (Or.inl ⟨n, w, t, w', n', q, t', H0, Or.inl ⟨k, u, inf, A, Or.inr ⟨Or.inr (Or.inr rfl), Nat.le_refl _⟩⟩⟩)⟩
      · have h12 : L.oc = 1 ∨ L.oc = 2 := by rcases hb with h | h | h; exact Or.inl h; exact Or.inr h; exact absurd h h3
        have e := gc_brokenA A.1 h12 q3
        rw [q1] at e
        rw [gck e (nI_ne4 (by omega))]
        exact Or.inr ⟨nI_ne1 (by omega), gAskS (L := L.set 8 1) B H0 A (by omega)⟩
  · by_cases c : s = 1
    · subst c
      have e := gc_silent1 es
      have eg : gat L.cd.got 0 = M.getD 0 0 := by rw [a4.1]; exact gat_nI (i := 0) (by decide)
      rw [eg, ← gE3 (Or.inr ek)] at e
      rw [gck e (by decide)]
      refine Or.inr ⟨show ¬ (-2 : Int32) = -1 by decide, ?_⟩
      exact gAns (L := (L.set 11 0).side 1 (L.cd.row 0 (gExp M))) B a1 C rfl a3 rfl a7 Q a4 a5 ea (show (0 : Int32) ≤ 0 by decide) (by omega)
    · rw [gck (gc_silent es (by omega) (by omega)) (by decide)]
      exact Or.inl ⟨rfl, 143 + 2 * (s - 1), by omega, B, Or.inr (Or.inl ⟨n, w, t, w', n', q, t', H0, Or.inr ⟨s - 1, by omega, by omega, rfl, ea, ek, Or.inr (Or.inr rfl), Nat.le_refl _⟩⟩)⟩
theorem gCst3n {M : List Int32} {K : Int32 × Int32} {i : Nat} {L : gLn} {n w t w' n' q t' p mo : Nat} (B : gB0 K L) (H : gP3n M L n w t w' n' q t' p mo)
    (G : (gCR L w ∧ 21 + 2 * ((gExp M).length - t') ≤ i) ∨ (gBr L ∧ 23 + 2 * ((gExp M).length - t') ≤ i)) : gCO M K i (gCk L) := by
  have H0 := H
  obtain ⟨a1, a2, a3, a4, a5, a6, a7, aw, a8, am, an, a9, a10, a12, a13⟩ := H
  have hw := a1.1.2.1
  have hw' := a2.1.2.1
  have er := a1.2.2.2.2.1
  have ew := a2.2.2.2.1
  have hn' := a2.1.1
  have hm := a4.2.2.1
  rcases G with ⟨⟨k, hk, h0, hc⟩, hv⟩ | ⟨hb, hv⟩
  · have e := (gc_R a13 h0 a12 (gkr1 hk hc) hw).trans (goc_same (gSP.ne a2 a4) (gkr1 hk hc) hw a2.2.2.1 aw)
    rw [gpk a2 a4] at e
    rw [gck e (nI_ne4 (by omega))]
    refine Or.inr ⟨nI_ne1 (by omega), ?_⟩
    have S := gs3I_c (L := L.set 8 1) a2 a4
    have hl : ((L.cd.out.drop t').take p).length ≤ 60 := by
      have := a2.1.2.2.2.2.2.1
      rw [List.length_take, List.length_drop]; omega
    refine gso_c S (Or.inl ⟨n', mo, hn', hm, rfl, ?_⟩) hl (gByt_take (gByt_drop a2.2.1.1)) (show 32 ≤ 254 by decide) er ⟨20 + 2 * ((gExp M).length - t'), by omega, B, Or.inr (Or.inr (Or.inl (Or.inl ⟨n, w, t, w', n', q, t', p, mo, H0, Or.inl ⟨⟨rfl, ?_⟩, Nat.le_refl _⟩⟩)))⟩ ?_
    · rw [List.length_take]; omega
    · rw [← a5]; rfl
    · intro l1 oo ho
      exact ⟨22 + 2 * ((gExp M).length - t'), by omega, B, Or.inr (Or.inr (Or.inl (Or.inl ⟨n, w, t, w', n', q, t', p, mo, H0, Or.inr ⟨Or.inr ho, Nat.le_refl _⟩⟩)))⟩
  · by_cases h3 : L.oc = 3
    · rw [gck (gc_none a13 h3) (by decide)]
      exact Or.inl ⟨rfl, 22 + 2 * ((gExp M).length - t'), by omega, B, Or.inr (Or.inr (Or.inl (Or.inl ⟨n, w, t, w', n', q, t', p, mo, H0, Or.inr ⟨Or.inr (Or.inr (Or.inr rfl)), Nat.le_refl _⟩⟩)))⟩
    · have h12 : L.oc = 1 ∨ L.oc = 2 := by rcases hb with h | h | h; exact Or.inl h; exact Or.inr h; exact absurd h h3
      obtain ⟨k2, hk2, e1⟩ := gc_broken a13 h12 a12 hw' ew
      rw [gck e1 (hk2.ne4 hw')]
      refine Or.inr ⟨hk2.ne hw', ?_⟩
      refine gsoR_c hk2 hw' (show 32 ≤ 254 by decide) er ⟨22 + 2 * ((gExp M).length - t'), by omega, B, Or.inr (Or.inr (Or.inl (Or.inl ⟨n, w, t, w', n', q, t', p, mo, H0, Or.inr ⟨Or.inl ⟨k2, hk2, rfl, rfl⟩, Nat.le_refl _⟩⟩)))⟩ ?_
      intro l1 oo ho
      exact ⟨22 + 2 * ((gExp M).length - t'), by omega, B, Or.inr (Or.inr (Or.inl (Or.inl ⟨n, w, t, w', n', q, t', p, mo, H0, Or.inr ⟨Or.inr ho, Nat.le_refl _⟩⟩)))⟩
theorem gCst3g {M : List Int32} {K : Int32 × Int32} {i : Nat} {L : gLn} {n w t w' n' q t' p : Nat} (B : gB0 K L) (H : gP3g M L n w t w' n' q t' p)
    (G : (gCR L w ∧ 19 + 2 * ((gExp M).length - t') ≤ i) ∨ (gBr L ∧ 22 + 2 * ((gExp M).length - t') ≤ i)) : gCO M K i (gCk L) := by
  have H0 := H
  obtain ⟨a1, a2, pe, a3, a4, a5, a6, a7, aw, a8, am, an, a9, a10, a12, a13⟩ := H
  have hw := a1.1.2.1
  have hw' := a2.1.2.1
  have er := a1.2.2.2.2.1
  have ew := a2.2.2.2.1
  have hn' := a2.1.1
  rcases G with ⟨⟨k, hk, h0, hc⟩, hv⟩ | ⟨hb, hv⟩
  · have e := (gc_R a13 h0 a12 (gkr1 hk hc) hw).trans (goc_more (gSP.ne a2 a4) (gkr1 hk hc) hw hn' a2.2.2.1 (by omega) a4.2.1)
    have C := a2.pass a4
    have o1 : L.cd.pass.out = gExp M := by rw [gpass a2 a4]; exact a5
    have o2 : L.cd.pass.inn = [] := by rw [gpass a2 a4]; exact an
    have o3 : L.cd.pass.ask = -1 := by rw [gpass a2 a4]; exact a12
    have o4 : gGot M L.cd.pass := by rw [gpass a2 a4]; exact am
    generalize L.cd.pass = s1 at e C o1 o2 o3 o4
    rw [gck e (by decide)]
    refine Or.inr ⟨show ¬ (-3 : Int32) = -1 by decide, ?_⟩
    refine gnext_c (L := L.side 1 s1) C (show 32 ≤ 254 by decide) er o1 rfl rfl fun s2 E1 E2 e3 e4 e5 e6 e9 => ?_
    have core : ∀ (b l1 : List Int32) (oo kk : Int32), gP3n M (((gSn_c ((L.side 1 s1).side 1 s2) kk b).row 1 l1).set 5 oo) n w t w' (1 - n') q (t' + p) (min ((gExp M).length - (t' + p)) 32) (if (gExp M).length - (t' + p) ≤ 32 then 0 else 1) :=
      fun b l1 oo kk => ⟨a1, E1, Or.inl ⟨pe, a3⟩, E2, e3, rfl, rfl, aw, a8, o4.tr e6, e4.trans o2, a9, a10, e5.trans o3, a13⟩
    exact ⟨⟨20 + 2 * ((gExp M).length - (t' + p)), by omega, B, Or.inr (Or.inr (Or.inl (Or.inl ⟨_, _, _, _, _, _, _, _, _, core _ _ _ _, Or.inl ⟨⟨rfl, rfl⟩, Nat.le_refl _⟩⟩)))⟩,
      fun l1 oo ho => ⟨22 + 2 * ((gExp M).length - (t' + p)), by omega, B, Or.inr (Or.inr (Or.inl (Or.inl ⟨_, _, _, _, _, _, _, _, _, core _ _ _ _, Or.inr ⟨Or.inr ho, Nat.le_refl _⟩⟩)))⟩⟩
  · by_cases h3 : L.oc = 3
    · rw [gck (gc_none a13 h3) (by decide)]
      exact Or.inl ⟨rfl, 21 + 2 * ((gExp M).length - t'), by omega, B, Or.inr (Or.inr (Or.inl (Or.inr ⟨n, w, t, w', n', q, t', p, H0, Or.inr ⟨Or.inr (Or.inr rfl), Nat.le_refl _⟩⟩)))⟩
    · have h12 : L.oc = 1 ∨ L.oc = 2 := by rcases hb with h | h | h; exact Or.inl h; exact Or.inr h; exact absurd h h3
      obtain ⟨k2, hk2, e1⟩ := gc_broken a13 h12 a12 hw' ew
      rw [gck e1 (hk2.ne4 hw')]
      refine Or.inr ⟨hk2.ne hw', ?_⟩
      refine gsoR_c hk2 hw' (show 32 ≤ 254 by decide) er ⟨20 + 2 * ((gExp M).length - t'), by omega, B, Or.inr (Or.inr (Or.inl (Or.inr ⟨n, w, t, w', n', q, t', p, H0, Or.inl ⟨⟨k2, hk2, rfl, rfl⟩, Nat.le_refl _⟩⟩)))⟩ ?_
      intro l1 oo ho
      exact ⟨21 + 2 * ((gExp M).length - t'), by omega, B, Or.inr (Or.inr (Or.inl (Or.inr ⟨n, w, t, w', n', q, t', p, H0, Or.inr ⟨ho, Nat.le_refl _⟩⟩)))⟩
theorem gCstT {M : List Int32} {K : Int32 × Int32} {i : Nat} {L : gLn} (B : gB0 K L) (G : gCT M i L) : gCO M K i (gCk L) := by
  obtain ⟨n, w, n', q, t', H, G⟩ := G
  have H0 := H
  obtain ⟨a1, a2, a3, a4, a5, a6, a7, a8, a9, a10, a13, ak⟩ := H
  have hn := a1.1.1
  have hw := a1.1.2.1
  have er := a1.2.2.2.2.1
  have ew := a4.2.2.2.1
  have fin : ∀ (k2 : Int32) (L1 : gLn), gKR k2 n → gB0 K L1 → gPT M L1 n w n' q t' → L1.cd.ask = -1 → L1.rd.ro = nI 32 → 14 ≤ i → gCO M K i (k2, L1) := by
    intro k2 L1 hk2 B1 P1 ha er1 hi
    refine Or.inr ⟨hk2.ne hn, ?_⟩
    refine gsoR_c hk2 hn (by decide) er1 ⟨13, by omega, B1, Or.inr (Or.inr (Or.inr (Or.inl ⟨n, w, n', q, t', P1, Or.inl ⟨ha, Or.inl ⟨⟨k2, hk2, rfl, rfl⟩, Nat.le_refl _⟩⟩⟩)))⟩ ?_
    intro l1 oo ho
    exact ⟨15, by omega, B1, Or.inr (Or.inr (Or.inr (Or.inl ⟨n, w, n', q, t', P1, Or.inl ⟨ha, Or.inr ⟨ho, Nat.le_refl _⟩⟩⟩)))⟩
  have again : ∀ (L1 : gLn), gB0 K L1 → gPT M L1 n w n' q t' → L1.cd.ask = 2 → L1.rd.ro = nI 32 → 16 ≤ i → gCO M K i (194, L1) := by
    intro L1 B1 P1 ha er1 hi
    refine Or.inr ⟨show ¬ (194 : Int32) = -1 by decide, ?_⟩
    refine gso_c (k := 194) (gs3E_c (Or.inr (Or.inr (Or.inl rfl)))) (Or.inr (Or.inr (Or.inl ⟨Or.inr (Or.inr (Or.inl rfl)), rfl⟩))) (Nat.zero_le _) gByt_nil (show 32 ≤ 254 by decide) er1 ⟨15, by omega, B1, Or.inr (Or.inr (Or.inr (Or.inl ⟨n, w, n', q, t', P1, Or.inr ⟨ha, Or.inl ⟨⟨rfl, rfl⟩, Nat.le_refl _⟩⟩⟩)))⟩ ?_
    intro l1 oo ho
    exact ⟨17, by omega, B1, Or.inr (Or.inr (Or.inr (Or.inl ⟨n, w, n', q, t', P1, Or.inr ⟨ha, Or.inr ⟨ho, Nat.le_refl _⟩⟩⟩)))⟩
  rcases G with ⟨ha, ⟨⟨k, hk, h0, hc⟩, hv⟩ | ⟨hb, hv⟩⟩ | ⟨ha, ⟨⟨h0, hc⟩, hv⟩ | ⟨⟨k, hk, h0, hc⟩, hv⟩ | ⟨hb, hv⟩⟩
  · obtain ⟨k2, hk2, e1⟩ := goc_none (x := gat L.ca 1) a5 hn ew
    rw [gck ((gc_R a13 h0 ha (gkr1 hk hc) hw).trans e1) (hk2.ne4 hn)]
    exact fin k2 L hk2 B H0 ha er hv
  · by_cases h3 : L.oc = 3
    · rw [gck (gc_none a13 h3) (by decide)]
      exact Or.inl ⟨rfl, 15, by omega, B, Or.inr (Or.inr (Or.inr (Or.inl ⟨n, w, n', q, t', H0, Or.inl ⟨ha, Or.inr ⟨Or.inr (Or.inr rfl), Nat.le_refl _⟩⟩⟩)))⟩
    · have h12 : L.oc = 1 ∨ L.oc = 2 := by rcases hb with h | h | h; exact Or.inl h; exact Or.inr h; exact absurd h h3
      obtain ⟨k2, hk2, e1⟩ := gc_broken a13 h12 ha hn ew
      rw [gck e1 (hk2.ne4 hn)]
      exact fin k2 (L.set 8 1) hk2 B H0 ha er (by omega)
  · obtain ⟨k2, hk2, e1⟩ := gc_abort a13 h0 ha (by rw [hc]; rfl) (by rw [hc]; rfl) hn ew
    rw [gck e1 (hk2.ne4 hn)]
    exact fin k2 (L.side 1 (L.cd.set 4 (-1))) hk2 B H0 rfl er hv
  · have q1 : (192 + L.cd.ask : Int32) = nI 194 := by rw [ha]; rfl
    obtain ⟨n1, n2⟩ := hk.no (L := L) hw q1 (by decide) (by decide)
    have e := gc_again a13 h0 (by rw [hc]; exact n1) (by rw [ha]; decide) (by rw [hc]; exact n2)
    rw [q1] at e
    rw [gck e (by decide)]
    exact again L B H0 ha er hv
  · by_cases h3 : L.oc = 3
    · rw [gck (gc_none a13 h3) (by decide)]
      exact Or.inl ⟨rfl, 17, by omega, B, Or.inr (Or.inr (Or.inr (Or.inl ⟨n, w, n', q, t', H0, Or.inr ⟨ha, Or.inr ⟨Or.inr (Or.inr rfl), Nat.le_refl _⟩⟩⟩)))⟩
    · have h12 : L.oc = 1 ∨ L.oc = 2 := by rcases hb with h | h | h; exact Or.inl h; exact Or.inr h; exact absurd h h3
      have q1 : (192 + L.cd.ask : Int32) = nI 194 := by rw [ha]; rfl
      have e := gc_brokenA a13 h12 (by rw [ha]; decide)
      rw [q1] at e
      rw [gck e (by decide)]
      exact again (L.set 8 1) B H0 ha er (by omega)
theorem gCstD {M : List Int32} {K : Int32 × Int32} {i : Nat} {L : gLn} (B : gB0 K L) (G : gCD i L) : gCO M K i (gCk L) := by
  obtain ⟨s, H, G⟩ := G
  have H0 := H
  obtain ⟨⟨n, w, t, a1, a2⟩, a3, a4, a5, a6⟩ := H
  have er := a1.2.2.2.2.1
  have hi : 2 + 2 * s ≤ i := by rcases G with ⟨-, h⟩ | ⟨-, h⟩ <;> omega
  rcases a6 with ⟨rfl, hs⟩ | ⟨s1, s4, es⟩
  · have send : ∀ (k : Nat) (inf : List Int32) (L1 : gLn), gB0 K L1 → gPD L1 0 → gS3_c L1 (nI k) = gSn_c L1 (nI k) (gMb (nI k) inf) → gWf k inf 32 → inf.length ≤ 60 → gByt inf → k < 224 → 4 ≤ i → L1.rd.ro = nI 32 → gCO M K i (nI k, L1) := by
      intro k inf L1 B1 P1 S wf hl hb hk hi er1
      refine Or.inr ⟨nI_ne1 (by omega), ?_⟩
      refine gso_c S wf hl hb (show 32 ≤ 254 by decide) er1 ⟨3, by omega, B1, Or.inr (Or.inr (Or.inr (Or.inr ⟨0, P1, Or.inr ⟨Or.inr ⟨_, _, ⟨rfl, rfl⟩, fun h9 => ?_⟩, Nat.le_refl _⟩⟩)))⟩ ?_
      · have := nI_inj (b := 224) (by omega) (by decide) h9; omega
      · intro l1 oo ho
        exact ⟨3, by omega, B1, Or.inr (Or.inr (Or.inr (Or.inr ⟨0, P1, Or.inr ⟨Or.inl ho, Nat.le_refl _⟩⟩)))⟩
    rcases G with ⟨⟨h0, hc⟩, hv⟩ | ⟨hb, hv⟩
    · rw [gck (gc_resync hs h0 (by rw [hc]; rfl)) (by decide)]
      obtain ⟨cn, cw, cr, ct, C, -⟩ := a3
      have E := C.empt.set (k := 4) (x := -1) (by decide)
      refine Or.inr ⟨show ¬ (224 : Int32) = -1 by decide, ?_⟩
      have core : ∀ (b l1 : List Int32) (oo kk : Int32), gPD (((gSn_c (L.side 1 (L.cd.empt.set 4 (-1))) kk b).row 1 l1).set 5 oo) 0 := fun _ _ _ _ => ⟨⟨n, w, t, a1, a2⟩, ⟨0, 0, cr, 0, E, Or.inl rfl⟩, Or.inl rfl, a5, Or.inl ⟨rfl, hs⟩⟩
      refine gso_c (k := 224) (gs3E_c (Or.inr (Or.inl rfl))) (Or.inr (Or.inr (Or.inl ⟨Or.inr (Or.inl rfl), rfl⟩))) (Nat.zero_le _) gByt_nil (show 32 ≤ 254 by decide) er ⟨1, by omega, B, Or.inr (Or.inr (Or.inr (Or.inr ⟨0, core _ _ _ _, Or.inl ⟨⟨rfl, rfl⟩, ⟨cr, E, rfl, rfl, rfl, hs⟩, Nat.le_refl _⟩⟩)))⟩ ?_
      intro l1 oo ho
      exact ⟨3, by omega, B, Or.inr (Or.inr (Or.inr (Or.inr ⟨0, core _ _ _ _, Or.inr ⟨Or.inl ho, Nat.le_refl _⟩⟩)))⟩
    · by_cases h3 : L.oc = 3
      · rw [gck (gc_none hs h3) (by decide)]
        exact Or.inl ⟨rfl, 3, by omega, B, Or.inr (Or.inr (Or.inr (Or.inr ⟨0, H0, Or.inr ⟨Or.inl (Or.inr (Or.inr rfl)), Nat.le_refl _⟩⟩)))⟩
      · have h12 : L.oc = 1 ∨ L.oc = 2 := by rcases hb with h | h | h; exact Or.inl h; exact Or.inr h; exact absurd h h3
        by_cases ha : L.cd.ask = -1
        · obtain ⟨cn, cw, cr, ct, C, -⟩ := a3
          obtain ⟨k2, hk2, e1⟩ := gc_broken hs h12 ha C.1.2.1 C.2.2.2.1
          rw [gck e1 (hk2.ne4 C.1.2.1)]
          have S := gs3R_c (L := L.set 8 1) hk2 C.1.2.1
          obtain ⟨x, hx, rfl⟩ := hk2
          have := C.1.2.1
          exact send _ [] (L.set 8 1) B H0 S (Or.inr (Or.inl ⟨cw, x, C.1.2.1, hx, rfl, rfl⟩)) (Nat.zero_le _) gByt_nil (by omega) hv er
        · have e := gc_brokenA hs h12 ha
          rcases a4 with h | ⟨h, b, b1, b2, b3⟩ | h | ⟨h, b, b1, b2⟩
          · exact absurd h ha
          · rw [h] at e
            rw [gck e (by decide)]
            have S := gs3S_c (L := L.set 8 1) (k := 193) (Or.inl rfl)
            exact send 193 [L.cd.ai] (L.set 8 1) B H0 S (Or.inr (Or.inr (Or.inr (Or.inl ⟨Or.inl rfl, b, b1, b2, by rw [b3]⟩)))) (show 1 ≤ 60 by decide) (by rw [b3]; exact gByt_1 (by omega)) (by decide) hv er
          · rw [h] at e
            rw [gck e (by decide)]
            have S := gs3E_c (L := L.set 8 1) (k := 194) (Or.inr (Or.inr (Or.inl rfl)))
            exact send 194 [] (L.set 8 1) B H0 S (Or.inr (Or.inr (Or.inl ⟨Or.inr (Or.inr (Or.inl rfl)), rfl⟩))) (Nat.zero_le _) gByt_nil (by decide) hv er
          · rw [h] at e
            rw [gck e (by decide)]
            have S := gs3S_c (L := L.set 8 1) (k := 195) (Or.inr rfl)
            exact send 195 [L.cd.ai] (L.set 8 1) B H0 S (Or.inr (Or.inr (Or.inr (Or.inr ⟨Or.inl rfl, b, b1, by rw [b2]⟩)))) (show 1 ≤ 60 by decide) (by rw [b2]; exact gByt_1 b1) (by decide) hv er
  · by_cases c : s = 1
    · subst c
      rw [gck (gc_silent1 es) (by decide)]
      obtain ⟨cn, cw, cr, ct, C, -⟩ := a3
      have eg : gat L.cd.got 0 = L.cd.got.getD 0 0 := gat_nI (i := 0) (by decide)
      have bg := gByt_0 C.2.1.2.1
      rw [← eg] at bg
      have hn := C.1.1
      have D := C.new (l := [gat L.cd.got 0]) (show 1 ≤ 60 by decide) bg
      refine Or.inr ⟨show ¬ (-2 : Int32) = -1 by decide, ?_⟩
      refine gfirst_c (L := (L.set 11 0).side 1 (L.cd.row 0 [gat L.cd.got 0])) D (show 32 ≤ 254 by decide) er rfl rfl rfl fun s2 E1 E2 e3 e4 e5 e6 e9 => ?_
      have e7 : s2.ask = L.cd.ask := e5
      have core : ∀ (b l1 : List Int32) (oo kk : Int32), gcAsk s2 → gPD (((gSn_c (((L.set 11 0).side 1 (L.cd.row 0 [gat L.cd.got 0])).side 1 s2) kk b).row 1 l1).set 5 oo) 0 := fun _ _ _ _ z => ⟨⟨n, w, t, a1, a2⟩, gSdT.mk1 E1 E2, z, a5, Or.inl ⟨rfl, show (0 : Int32) ≤ 0 by decide⟩⟩
      have z : gcAsk s2 := by
        have e8 : s2.ai = L.cd.ai := e9
        unfold gcAsk
        rw [e7, e8]
        exact a4
      have hk : ∀ mo, mo ≤ 1 → ¬ nI (64 * cn + 32 * mo) = 224 := fun mo hm h9 => by have := nI_inj (b := 224) (by omega) (by decide) h9; omega
      exact ⟨⟨3, by omega, B, Or.inr (Or.inr (Or.inr (Or.inr ⟨0, core _ _ _ _ z, Or.inr ⟨Or.inr ⟨_, _, ⟨rfl, rfl⟩, hk _ E2.2.2.1⟩, Nat.le_refl _⟩⟩)))⟩,
        fun l1 oo ho => ⟨3, by omega, B, Or.inr (Or.inr (Or.inr (Or.inr ⟨0, core _ _ _ _ z, Or.inr ⟨Or.inl ho, Nat.le_refl _⟩⟩)))⟩⟩
    · rw [gck (gc_silent es (by omega) (by omega)) (by decide)]
      exact Or.inl ⟨rfl, 3 + 2 * (s - 1), by omega, B, Or.inr (Or.inr (Or.inr (Or.inr ⟨s - 1, ⟨⟨n, w, t, a1, a2⟩, a3, a4, a5, Or.inr ⟨by omega, by omega, rfl⟩⟩, Or.inr ⟨Or.inl (Or.inr (Or.inr rfl)), Nat.le_refl _⟩⟩)))⟩
theorem gChalf {M : List Int32} {K : Int32 × Int32} {i : Nat} {L : gLn} (hme : ¬ L.cd.me + 1 = 0) (G : gCC M K i L) : gCO M K i (gCk L) := by
  obtain ⟨B, (⟨n, w, t, p, mo, n', q, t', H, G⟩ | ⟨n, w, t, p, n', q, t', H, G⟩) | G | (⟨n, w, t, w', n', q, t', p, mo, H, G⟩ | ⟨n, w, t, w', n', q, t', p, H, G⟩) | G | G⟩ := G
  · exact gCst1n hme B H G
  · exact gCst1g B H G
  · exact gCst2 B G
  · exact gCst3n B H G
  · exact gCst3g B H G
  · exact gCstT B G
  · exact gCstD B G
