/-! the protocol: the card's half turn (wip/p1/m_pc1.py) -/
theorem gck {L L1 : gLn} {k : Int32} (e : rX2_cardKind L = (k, L1)) (hk : ¬ k = -4) : gCk L = (k, L1) := by
  unfold gCk
  rw [e]
  exact if_neg hk
theorem gck4 {L L1 : gLn} (e : rX2_cardKind L = (-4, L1)) : gCk L = rX2_doMessage L1 := by
  unfold gCk
  rw [e]
  exact if_pos rfl
theorem nI_ne4 {p : Nat} (h : p < 2 ^ 31) : ¬ nI p = -4 := fun e => nI_pos h (by rw [e]; decide)
theorem gKR.ne4 {k : Int32} {w : Nat} (h : gKR k w) (hw : w ≤ 1) : ¬ k = -4 := by
  obtain ⟨s, hs, rfl⟩ := h
  exact nI_ne4 (by omega)
theorem gExp_len {M : List Int32} (h : M.length ≤ 60) : (gExp M).length ≤ 60 := by
  unfold gExp
  split
  · exact h
  split
  · rw [gIota_len]; split <;> omega
  split
  · rw [List.length_drop]; omega
  split
  · exact (show 1 ≤ 60 by decide)
  split
  · exact Nat.zero_le _
  · exact (show 2 ≤ 60 by decide)
theorem gByt_0 {M : List Int32} (h : gByt M) : gByt [M.getD 0 0] := by
  obtain ⟨b, hb, e⟩ := gByt_at h 0
  rw [e]; exact gByt_1 hb
theorem gExp_byt {M : List Int32} (h : gByt M) (hl : M.length ≤ 60) : gByt (gExp M) := by
  unfold gExp
  split
  · exact h
  split
  · intro x hx
    unfold gIota at hx
    obtain ⟨i, hi, rfl⟩ := List.mem_map.mp hx
    have := List.mem_range.mp hi
    refine ⟨i, ?_, rfl⟩
    split at this <;> omega
  split
  · exact gByt_drop h
  split
  · exact gByt_0 h
  split
  · exact gByt_nil
  · exact gByt_app (a := [M.getD 0 0]) (gByt_0 h) (gByt_1 (b := M.length) (by omega))
theorem gAns {M : List Int32} {K : Int32 × Int32} {L : gLn} {n w t w' n' q t' i : Nat} (B : gB0 K L) (a1 : gSB L.rd n w 32 t) (C : gSB (L.cd.set 3 0) n' w' q t') (ht : t' = 0) (a3 : gLkr L n w' t) (eo : L.cd.out = gExp M) (aw : w = n')
    (Q : gQt L) (a4 : gGot M L.cd) (a5 : L.cd.inn = []) (a6 : L.cd.ask = -1) (a7 : L.si ≤ 0) (hi : 20 + 2 * (gExp M).length < i) : gSo (gS3_c L (-2)) (gS3_c L (-2)).rd.ro (gRR M K) i := by
  subst ht
  obtain ⟨q1, q2, q3⟩ := Q
  obtain ⟨b1, b2, b3, b4, b5⟩ := B
  refine gfirst_c C (show 32 ≤ 254 by decide) a1.2.2.2.2.1 eo rfl rfl fun s2 E1 E2 e3 e4 e5 e6 e9 => ?_
  have core : ∀ (b l1 : List Int32) (oo kk : Int32), gP3n M (((gSn_c (L.side 1 s2) kk b).row 1 l1).set 5 oo) n w t w' n' q 0 (min ((gExp M).length - 0) 32) (if (gExp M).length - 0 ≤ 32 then 0 else 1) :=
    fun b l1 oo kk => ⟨a1, E1, a3, E2, e3, rfl, rfl, aw, q3, a4.tr e6, e4.trans a5, q1, q2, e5.trans a6, a7⟩
  exact ⟨⟨20 + 2 * (gExp M).length, hi, ⟨b1, b2, b3, b4, b5⟩, Or.inr (Or.inr (Or.inl (Or.inl ⟨_, _, _, _, _, _, _, _, _, core _ _ _ _, Or.inl ⟨⟨rfl, rfl⟩, Nat.le_refl _⟩⟩)))⟩,
    fun l1 oo ho => ⟨22 + 2 * (gExp M).length, by omega, ⟨b1, b2, b3, b4, b5⟩, Or.inr (Or.inr (Or.inl (Or.inl ⟨_, _, _, _, _, _, _, _, _, core _ _ _ _, Or.inr ⟨Or.inr ho, Nat.le_refl _⟩⟩)))⟩⟩
/-- the card asks -/
theorem gAskS {M : List Int32} {K : Int32 × Int32} {L : gLn} {n w t w' n' q t' i k u : Nat} {inf : List Int32} (B : gB0 K L) (H : gP2 M L n w t w' n' q t') (A : gAk2 M L k u inf) (hi : u + 1 < i) : gSo (gS3_c L (nI k)) (gS3_c L (nI k)).rd.ro (gRR M K) i := by
  have go : ∀ inf2, gS3_c L (nI k) = gSn_c L (nI k) (gMb (nI k) inf2) → inf2 = inf → gWf k inf 32 → inf.length ≤ 60 → gByt inf → gSo (gS3_c L (nI k)) (gS3_c L (nI k)).rd.ro (gRR M K) i := by
    intro inf2 S e wf hl hb
    subst e
    exact gso_c S wf hl hb (by decide) H.1.2.2.2.2.1 ⟨u + 1, hi, B, Or.inr (Or.inl ⟨n, w, t, w', n', q, t', H, Or.inl ⟨k, u, _, A, Or.inl ⟨⟨rfl, rfl⟩, Nat.le_refl _⟩⟩⟩)⟩
      fun l1 oo ho => ⟨u + 3, by omega, B, Or.inr (Or.inl ⟨n, w, t, w', n', q, t', H, Or.inl ⟨k, u, _, A, Or.inr ⟨ho, Nat.le_refl _⟩⟩⟩)⟩
  obtain ⟨a13, ⟨rfl, b1, b2, j, b, b3, b4, b5, b6, b7, b9, b8⟩ | ⟨rfl, b1, b2, b3, b, b4, b5, b6, b9⟩ | ⟨rfl, b1, b2, b3, b9⟩⟩ := A
  · refine go _ (gs3S_c (Or.inr rfl)) (by rw [b9, b7]) ?_ (by rw [b9]; exact (show 1 ≤ 60 by decide)) (by rw [b9]; exact gByt_1 b6)
    exact Or.inr (Or.inr (Or.inr (Or.inr ⟨Or.inl rfl, b, b6, b9⟩)))
  · refine go _ (gs3S_c (Or.inl rfl)) (by rw [b9, b6]) ?_ (by rw [b9]; exact (show 1 ≤ 60 by decide)) (by rw [b9]; exact gByt_1 (by omega))
    exact Or.inr (Or.inr (Or.inr (Or.inl ⟨Or.inl rfl, b, b4, b5, b9⟩)))
  · refine go _ (gs3E_c (Or.inr (Or.inr (Or.inl rfl)))) b9.symm ?_ (by rw [b9]; exact Nat.zero_le _) (by rw [b9]; exact gByt_nil)
    exact Or.inr (Or.inr (Or.inl ⟨Or.inr (Or.inr (Or.inl rfl)), b9⟩))
/-- the card does the message -/
theorem gDo {M : List Int32} {K : Int32 × Int32} {L : gLn} {n w t w' n' q t' i : Nat} (B : gB0 K L) (H : gP2 M L n w t w' n' q t') (ha : L.cd.ask = -1) (hs : L.si ≤ 0) (hi : 152 ≤ i) : gCO M K i (rX2_doMessage L) := by
  have H0 := H
  obtain ⟨a1, a2, a3, a4, a5, a6, a7, Q⟩ := H
  have hb : gByt M := by rw [← a4.1]; exact a2.2.1.2.1
  have hl : M.length ≤ 60 := by rw [← a4.1]; exact a2.1.2.2.2.2.2.2.1
  have el := gExp_len hl
  have eb := gExp_byt hb hl
  have C := a2.new el eb
  by_cases k2 : gKd M = 2
  · rcases gd_2 a4.1 hb hl k2 with ⟨x, hx, e⟩ | ⟨j, b, j1, j2, b1, e⟩
    · rw [e]
      refine Or.inr ⟨show ¬ (-2 : Int32) = -1 by decide, ?_⟩
      exact gAns (L := (L.set 10 x).side 1 (L.cd.row 0 (gExp M))) B a1 C rfl a3 rfl a7 Q a4 a5 ha hs (by omega)
    · rw [e]
      refine Or.inr ⟨show ¬ (195 : Int32) = -1 by decide, ?_⟩
      exact gAskS (L := (L.set 10 (nI j)).side 1 ((L.cd.set 4 3).set 5 (nI b))) (k := 195) B ⟨a1, a2, a3, a4, a5, a6, a7, Q⟩ ⟨hs, Or.inl ⟨rfl, rfl, k2, j, b, j1, j2, rfl, b1, rfl, rfl, rfl⟩⟩ (by omega)
  by_cases k3 : gKd M = 3
  · obtain ⟨b, b1, b2, e⟩ := gd_3 a4.1 hb k3
    rw [e]
    refine Or.inr ⟨show ¬ (193 : Int32) = -1 by decide, ?_⟩
    exact gAskS (L := L.side 1 ((L.cd.set 4 1).set 5 (nI b))) (k := 193) B ⟨a1, a2, a3, a4, a5, a6, a7, Q⟩ ⟨hs, Or.inr (Or.inl ⟨rfl, rfl, k3, rfl, b, b1, b2, rfl, rfl⟩)⟩ (by omega)
  by_cases k4 : gKd M = 4
  · rw [gd_4 a4.1 hb k4]
    refine Or.inr ⟨show ¬ (194 : Int32) = -1 by decide, ?_⟩
    exact gAskS (L := L.side 1 ((L.cd.set 4 2).set 5 0)) (k := 194) B ⟨a1, a2, a3, a4, a5, a6, a7, Q⟩ ⟨hs, Or.inr (Or.inr ⟨rfl, rfl, k4, rfl, rfl⟩)⟩ (by omega)
  by_cases k5 : gKd M = 5
  · obtain ⟨s, s1, s4, e⟩ := gd_5 a4.1 hb k5
    rw [e]
    exact Or.inl ⟨rfl, 143 + 2 * s, by omega, B, Or.inr (Or.inl ⟨n, w, t, w', n', q, t', H0, Or.inr ⟨s, s1, s4, rfl, ha, k5, Or.inr (Or.inr rfl), Nat.le_refl _⟩⟩)⟩
  · rw [gd_0 a4.1 hb hl (by have : gKd M < 8 := by { unfold gKd; split; decide; exact Nat.mod_lt _ (by decide) }; omega)]
    refine Or.inr ⟨show ¬ (-2 : Int32) = -1 by decide, ?_⟩
    exact gAns (L := L.side 1 (L.cd.row 0 (gExp M))) B a1 C rfl a3 rfl a7 Q a4 a5 ha hs (by omega)
theorem gCst1n {M : List Int32} {K : Int32 × Int32} {i : Nat} {L : gLn} {n w t p mo n' q t' : Nat} (hme : ¬ L.cd.me + 1 = 0) (B : gB0 K L) (H : gP1n M L n w t p mo n' q t')
    (G : (gCm L (nI (64 * n + 32 * mo)) ((M.drop t).take p) ∧ 152 + 2 * (M.length - t) ≤ i) ∨ (gCR L w ∧ 154 + 2 * (M.length - t) ≤ i) ∨ (gBr L ∧ 156 + 2 * (M.length - t) ≤ i)) : gCO M K i (gCk L) := by
  have H0 := H
  obtain ⟨a1, a2, a3, a4, a5, a6, a7, a8, ⟨a9, a10, a11⟩, a12, a13⟩ := H
  have hn := a1.1.1
  have hw := a1.1.2.1
  have hn' := a6.1.1
  have hq1 := a6.1.2.2.1
  have er := a1.2.2.2.2.1
  have ew := a6.2.2.2.1
  have hM : M.length ≤ 60 := by rw [← a3]; exact a1.1.2.2.2.2.2.1
  have bM : gByt M := by rw [← a3]; exact a1.2.1.1
  obtain ⟨t2, c1, c2, c3, c4, c5, c6, c7⟩ := gpsS a6 a8
  rcases G with ⟨⟨h0, hc⟩, hv⟩ | ⟨⟨k, hk, h0, hc⟩, hv⟩ | ⟨hb, hv⟩
  · have hp : L.cd.pe = -1 ∨ L.cd.pm = 0 := a8.imp (fun x => x.1) (fun ⟨p, P, _⟩ => P.2.1)
    have e := gc_I a13 h0 a12 hn a2.2.2.1 (by rw [hc]; rfl) ew hp
    have hl : L.cd.pass.inn.length + (((M.drop t).take p)).length ≤ 60 := by
      rw [c3, a7, List.length_take, List.length_take, List.length_drop]; omega
    have Tk : gTc L = L.cd.pass.take (gMb (nI (64 * n + 32 * mo)) ((M.drop t).take p)) := by unfold gTc; rw [hc]
    have T1 := c1.take (k := nI (64 * n + 32 * mo)) (gByt_take (gByt_drop bM)) hl
    have T2 : (gTc L).inn = M.take (t + p) := by
      rw [Tk, gtake hl]
      show L.cd.pass.inn ++ _ = _
      rw [c3, a7, gtdr]
    have T3 : (gTc L).pe = -1 := by rw [Tk, gtake hl]; exact c2
    have T4 : (gTc L).ask = -1 := by rw [Tk, gtake hl]; exact c4.trans a12
    have T5 : (gTc L).me = L.cd.me := by rw [Tk, gtake hl]; exact gpass_me L.cd
    rw [← Tk] at T1
    generalize gTc L = s1 at e T1 T2 T3 T4 T5
    by_cases c : mo = 0
    · rw [if_pos c] at e
      rw [gck4 e]
      have c9 : M.length - t ≤ q := by
        rw [a5] at c
        by_cases c9 : M.length - t ≤ q
        · exact c9
        · rw [if_neg c9] at c; exact absurd c (by decide)
      have eM : s1.inn = M := by rw [T2]; exact List.take_of_length_le (by omega)
      rw [c] at a2
      exact gDo (L := L.side 1 s1.whole) B ⟨a1, T1.whole, Or.inr ⟨p, a2, rfl⟩, ⟨eM, by show ¬ s1.me + 1 = 0; rw [T5]; exact hme⟩, rfl, T3, rfl, a9, a10, a11⟩ T4 a13 (by omega)
    · rw [if_neg c] at e
      have m1 : mo = 1 := by have := a2.2.2.1; omega
      have ek : (128 + 16 * s1.wa + 0 : Int32) = nI (128 + 16 * (1 - n) + 0) := by
        rw [T1.2.2.2.1, show (0 : Int32) = nI 0 from rfl, grcp (by omega) (by decide)]
      rw [ek] at e
      have hk : gKR (nI (128 + 16 * (1 - n) + 0)) (1 - n) := ⟨0, by decide, rfl⟩
      rw [gck e (hk.ne4 (by omega))]
      have lt : ¬ M.length - t ≤ q := fun h9 => c (a5.trans (if_pos h9))
      refine Or.inr ⟨hk.ne (by omega), ?_⟩
      rw [m1] at a2
      have core : ∀ (b l1 : List Int32) (oo kk : Int32), gP1g M (((gSn_c (L.side 1 s1) kk b).row 1 l1).set 5 oo) n w t p w q t2 :=
        fun b l1 oo kk => ⟨a1, a2, a3, by omega, by omega, T1, T2, T3, rfl, ⟨a9, a10, a11⟩, T4, a13⟩
      refine gsoR_c hk (by omega) (by decide) er ⟨151 + 2 * (M.length - t), by omega, B, Or.inl (Or.inr ⟨_, _, _, _, _, _, _, core _ _ _ _, Or.inl ⟨⟨_, hk, rfl, rfl⟩, Nat.le_refl _⟩⟩)⟩ ?_
      intro l1 oo ho
      exact ⟨153 + 2 * (M.length - t), by omega, B, Or.inl (Or.inr ⟨_, _, _, _, _, _, _, core _ _ _ _, Or.inr ⟨ho, Nat.le_refl _⟩⟩)⟩
  · have e0 := gc_R a13 h0 a12 (gkr1 hk hc) hw
    rcases a8 with ⟨pe, hn9⟩ | ⟨p9, P, hn9⟩
    · obtain ⟨k2, hk2, e1⟩ := goc_none (x := gat L.ca 1) pe hn ew
      rw [gck (e0.trans e1) (hk2.ne4 hn)]
      refine Or.inr ⟨hk2.ne hn, ?_⟩
      refine gsoR_c hk2 hn (by decide) er ⟨153 + 2 * (M.length - t), by omega, B, Or.inl (Or.inl ⟨n, w, t, p, mo, n', q, t', H0, Or.inl ⟨⟨k2, hk2, rfl, rfl⟩, Nat.le_refl _⟩⟩)⟩ ?_
      intro l1 oo ho
      exact ⟨155 + 2 * (M.length - t), by omega, B, Or.inl (Or.inl ⟨n, w, t, p, mo, n', q, t', H0, Or.inr ⟨ho, Nat.le_refl _⟩⟩)⟩
    · obtain ⟨k2, hk2, e1⟩ := goc_last (gSP.ne a6 P) (gkr1 hk hc) hw hn' a6.2.2.1 (by omega) P.2.1 hn ew
      rw [gck (e0.trans e1) (hk2.ne4 hn)]
      refine Or.inr ⟨hk2.ne hn, ?_⟩
      change gSo (gS3_c (L.side 1 L.cd.pass) k2) (gS3_c (L.side 1 L.cd.pass) k2).rd.ro _ _
      generalize L.cd.pass = s1 at c1 c2 c3 c4 c5 c6 c7 ⊢
      have core : ∀ (b l1 : List Int32) (oo kk : Int32), gP1n M (((gSn_c (L.side 1 s1) kk b).row 1 l1).set 5 oo) n w t p mo w q t2 :=
        fun b l1 oo kk => ⟨a1, a2, a3, a4, a5, c1, c3.trans a7, Or.inl ⟨c2, rfl⟩, ⟨a9, a10, a11⟩, c4.trans a12, a13⟩
      refine gsoR_c hk2 hn (by decide) er ⟨153 + 2 * (M.length - t), by omega, B, Or.inl (Or.inl ⟨_, _, _, _, _, _, _, _, core _ _ _ _, Or.inl ⟨⟨k2, hk2, rfl, rfl⟩, Nat.le_refl _⟩⟩)⟩ ?_
      intro l1 oo ho
      exact ⟨155 + 2 * (M.length - t), by omega, B, Or.inl (Or.inl ⟨_, _, _, _, _, _, _, _, core _ _ _ _, Or.inr ⟨ho, Nat.le_refl _⟩⟩)⟩
  · by_cases h3 : L.oc = 3
    · rw [gck (gc_none a13 h3) (by decide)]
      exact Or.inl ⟨rfl, 155 + 2 * (M.length - t), by omega, B, Or.inl (Or.inl ⟨n, w, t, p, mo, n', q, t', H0, Or.inr ⟨Or.inr (Or.inr rfl), Nat.le_refl _⟩⟩)⟩
    · have h12 : L.oc = 1 ∨ L.oc = 2 := by rcases hb with h | h | h; exact Or.inl h; exact Or.inr h; exact absurd h h3
      obtain ⟨k2, hk2, e1⟩ := gc_broken a13 h12 a12 hn ew
      rw [gck e1 (hk2.ne4 hn)]
      refine Or.inr ⟨hk2.ne hn, ?_⟩
      refine gsoR_c hk2 hn (by decide) er ⟨153 + 2 * (M.length - t), by omega, B, Or.inl (Or.inl ⟨n, w, t, p, mo, n', q, t', H0, Or.inl ⟨⟨k2, hk2, rfl, rfl⟩, Nat.le_refl _⟩⟩)⟩ ?_
      intro l1 oo ho
      exact ⟨155 + 2 * (M.length - t), by omega, B, Or.inl (Or.inl ⟨n, w, t, p, mo, n', q, t', H0, Or.inr ⟨ho, Nat.le_refl _⟩⟩)⟩
theorem gCst1g {M : List Int32} {K : Int32 × Int32} {i : Nat} {L : gLn} {n w t p n' q t' : Nat} (B : gB0 K L) (H : gP1g M L n w t p n' q t')
    (G : (gCR L w ∧ 152 + 2 * (M.length - t) ≤ i) ∨ (gBr L ∧ 154 + 2 * (M.length - t) ≤ i)) : gCO M K i (gCk L) := by
  have H0 := H
  obtain ⟨a1, a2, a3, a4, a5, a6, a7, a8, aw, Q, a12, a13⟩ := H
  have hn := a1.1.1
  have hw := a1.1.2.1
  have hn1 : 1 - n ≤ 1 := by omega
  have er := a1.2.2.2.2.1
  have ew := a6.2.2.2.1
  have fin : ∀ (k2 : Int32) (L1 : gLn), gKR k2 (1 - n) → gB0 K L1 → gP1g M L1 n w t p n' q t' → L1.rd.ro = nI 32 → 152 + 2 * (M.length - t) ≤ i → gCO M K i (k2, L1) := by
    intro k2 L1 hk2 B1 P1 er1 hi
    refine Or.inr ⟨hk2.ne hn1, ?_⟩
    refine gsoR_c hk2 hn1 (by decide) er1 ⟨151 + 2 * (M.length - t), by omega, B1, Or.inl (Or.inr ⟨n, w, t, p, n', q, t', P1, Or.inl ⟨⟨k2, hk2, rfl, rfl⟩, Nat.le_refl _⟩⟩)⟩ ?_
    intro l1 oo ho
    exact ⟨153 + 2 * (M.length - t), by omega, B1, Or.inl (Or.inr ⟨n, w, t, p, n', q, t', P1, Or.inr ⟨ho, Nat.le_refl _⟩⟩)⟩
  rcases G with ⟨⟨k, hk, h0, hc⟩, hv⟩ | ⟨hb, hv⟩
  · obtain ⟨k2, hk2, e1⟩ := goc_none (x := gat L.ca 1) a8 hn1 ew
    rw [gck ((gc_R a13 h0 a12 (gkr1 hk hc) hw).trans e1) (hk2.ne4 hn1)]
    exact fin k2 L hk2 B H0 er hv
  · by_cases h3 : L.oc = 3
    · rw [gck (gc_none a13 h3) (by decide)]
      exact Or.inl ⟨rfl, 153 + 2 * (M.length - t), by omega, B, Or.inl (Or.inr ⟨n, w, t, p, n', q, t', H0, Or.inr ⟨Or.inr (Or.inr rfl), Nat.le_refl _⟩⟩)⟩
    · have h12 : L.oc = 1 ∨ L.oc = 2 := by rcases hb with h | h | h; exact Or.inl h; exact Or.inr h; exact absurd h h3
      obtain ⟨k2, hk2, e1⟩ := gc_broken a13 h12 a12 hn1 ew
      rw [gck e1 (hk2.ne4 hn1)]
      exact fin k2 (L.set 8 1) hk2 B H0 er (by omega)
