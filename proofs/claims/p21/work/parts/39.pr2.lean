/-! the protocol: the reader's half turn, further (wip/p1/m_pr2.py) -/
theorem gnext_r {L : gLn} {M : List Int32} {n w r t q p mo i : Nat} {P : Nat → gLn → Prop} (C : gSB L.rd n w r t) (hq : q ≤ 254) (er : L.cd.ro = nI q) (eo : L.rd.out = M) (ep : p = min (M.length - t) q) (em : mo = if M.length - t ≤ q then 0 else 1)
    (G : ∀ s2, gSB s2 n w r t → gSP s2 t p mo → s2.out = M → s2.inn = L.rd.inn → s2.ask = L.rd.ask → (s2.got = L.rd.got ∧ s2.me = L.rd.me) → s2.ai = L.rd.ai → (∃ j, j < i ∧ P j (((gSn_r (L.side 0 s2) (nI (64 * n + 32 * mo)) (gMb (nI (64 * n + 32 * mo)) ((M.drop t).take p))).row 1 (gMb (nI (64 * n + 32 * mo)) ((M.drop t).take p))).set 5 0)) ∧
      ∀ l1 o, (o = 1 ∨ o = 2 ∨ o = 3) → ∃ j, j < i + 6 ∧ P j (((gSn_r (L.side 0 s2) (nI (64 * n + 32 * mo)) (gMb (nI (64 * n + 32 * mo)) ((M.drop t).take p))).row 1 l1).set 5 o)) : gSo (gS3_r L (-3)) (gS3_r L (-3)).cd.ro P i := by
  have em2 : (if L.rd.out.length - t ≤ q then 0 else 1) = mo := by rw [em, eo]
  rw [gs3n_r C hq er, em2]
  have E := C.cut hq
  have o2 : (L.rd.cut (nI q)).out = M := eo
  have o1 : L.rd.out = M := eo
  have o3 : (L.rd.cut (nI q)).inn = L.rd.inn := rfl
  have o4 : (L.rd.cut (nI q)).ask = L.rd.ask := rfl
  have o5 : (L.rd.cut (nI q)).got = L.rd.got ∧ (L.rd.cut (nI q)).me = L.rd.me := ⟨rfl, rfl⟩
  have o6 : (L.rd.cut (nI q)).ai = L.rd.ai := rfl
  rw [o1, ← ep, ← em] at E
  generalize L.rd.cut (nI q) = s2 at E o2 o3 o4 o5 o6 ⊢
  obtain ⟨E1, E2⟩ := E
  have S := gs3I_r (L := L.side 0 s2) E1 E2
  change gS3_r (L.side 0 s2) _ = gSn_r (L.side 0 s2) _ (gMb _ ((s2.out.drop t).take p)) at S
  rw [o2] at S
  obtain ⟨G1, G2⟩ := G s2 E1 E2 o2 o3 o4 o5 o6
  have hl : ((M.drop t).take p).length ≤ 60 := by
    have := E1.1.2.2.2.2.2.1
    rw [o2] at this
    rw [List.length_take, List.length_drop]; omega
  refine gso_r S (Or.inl ⟨n, mo, E1.1.1, E2.2.2.1, rfl, ?_⟩) hl (gByt_take (gByt_drop (by rw [← o2]; exact E1.2.1.1))) hq er G1 G2
  rw [List.length_take]; omega
theorem gfirst_r {L : gLn} {M : List Int32} {n w r q p mo i : Nat} {P : Nat → gLn → Prop} (C : gSB (L.rd.set 3 0) n w r 0) (hq : q ≤ 254) (er : L.cd.ro = nI q) (eo : L.rd.out = M) (ep : p = min (M.length - 0) q) (em : mo = if M.length - 0 ≤ q then 0 else 1)
    (G : ∀ s2, gSB s2 n w r 0 → gSP s2 0 p mo → s2.out = M → s2.inn = L.rd.inn → s2.ask = L.rd.ask → (s2.got = L.rd.got ∧ s2.me = L.rd.me) → s2.ai = L.rd.ai → (∃ j, j < i ∧ P j (((gSn_r (L.side 0 s2) (nI (64 * n + 32 * mo)) (gMb (nI (64 * n + 32 * mo)) ((M.drop 0).take p))).row 1 (gMb (nI (64 * n + 32 * mo)) ((M.drop 0).take p))).set 5 0)) ∧
      ∀ l1 o, (o = 1 ∨ o = 2 ∨ o = 3) → ∃ j, j < i + 6 ∧ P j (((gSn_r (L.side 0 s2) (nI (64 * n + 32 * mo)) (gMb (nI (64 * n + 32 * mo)) ((M.drop 0).take p))).row 1 l1).set 5 o)) : gSo (gS3_r L (-2)) (gS3_r L (-2)).cd.ro P i := by
  have em2 : (if L.rd.out.length ≤ q then 0 else 1) = mo := by rw [em, eo]; rfl
  rw [gs3f_r C hq er, em2]
  have E := C.cut hq
  have o2 : ((L.rd.set 3 0).cut (nI q)).out = M := eo
  have o1 : (L.rd.set 3 0).out = M := eo
  have o3 : ((L.rd.set 3 0).cut (nI q)).inn = L.rd.inn := rfl
  have o4 : ((L.rd.set 3 0).cut (nI q)).ask = L.rd.ask := rfl
  have o5 : ((L.rd.set 3 0).cut (nI q)).got = L.rd.got ∧ ((L.rd.set 3 0).cut (nI q)).me = L.rd.me := ⟨rfl, rfl⟩
  have o6 : ((L.rd.set 3 0).cut (nI q)).ai = L.rd.ai := rfl
  rw [o1, ← ep, ← em] at E
  generalize (L.rd.set 3 0).cut (nI q) = s2 at E o2 o3 o4 o5 o6 ⊢
  obtain ⟨E1, E2⟩ := E
  have S := gs3I_r (L := L.side 0 s2) E1 E2
  change gS3_r (L.side 0 s2) _ = gSn_r (L.side 0 s2) _ (gMb _ ((s2.out.drop 0).take p)) at S
  rw [o2] at S
  obtain ⟨G1, G2⟩ := G s2 E1 E2 o2 o3 o4 o5 o6
  have hl : ((M.drop 0).take p).length ≤ 60 := by
    have := E1.1.2.2.2.2.2.1
    rw [o2] at this
    rw [List.length_take, List.length_drop]; omega
  refine gso_r S (Or.inl ⟨n, mo, E1.1.1, E2.2.2.1, rfl, ?_⟩) hl (gByt_take (gByt_drop (by rw [← o2]; exact E1.2.1.1))) hq er G1 G2
  rw [List.length_take]; omega
theorem gnext_c {L : gLn} {M : List Int32} {n w r t q p mo i : Nat} {P : Nat → gLn → Prop} (C : gSB L.cd n w r t) (hq : q ≤ 254) (er : L.rd.ro = nI q) (eo : L.cd.out = M) (ep : p = min (M.length - t) q) (em : mo = if M.length - t ≤ q then 0 else 1)
    (G : ∀ s2, gSB s2 n w r t → gSP s2 t p mo → s2.out = M → s2.inn = L.cd.inn → s2.ask = L.cd.ask → (s2.got = L.cd.got ∧ s2.me = L.cd.me) → s2.ai = L.cd.ai → (∃ j, j < i ∧ P j (((gSn_c (L.side 1 s2) (nI (64 * n + 32 * mo)) (gMb (nI (64 * n + 32 * mo)) ((M.drop t).take p))).row 1 (gMb (nI (64 * n + 32 * mo)) ((M.drop t).take p))).set 5 0)) ∧
      ∀ l1 o, (o = 1 ∨ o = 2 ∨ o = 3) → ∃ j, j < i + 6 ∧ P j (((gSn_c (L.side 1 s2) (nI (64 * n + 32 * mo)) (gMb (nI (64 * n + 32 * mo)) ((M.drop t).take p))).row 1 l1).set 5 o)) : gSo (gS3_c L (-3)) (gS3_c L (-3)).rd.ro P i := by
  have em2 : (if L.cd.out.length - t ≤ q then 0 else 1) = mo := by rw [em, eo]
  rw [gs3n_c C hq er, em2]
  have E := C.cut hq
  have o2 : (L.cd.cut (nI q)).out = M := eo
  have o1 : L.cd.out = M := eo
  have o3 : (L.cd.cut (nI q)).inn = L.cd.inn := rfl
  have o4 : (L.cd.cut (nI q)).ask = L.cd.ask := rfl
  have o5 : (L.cd.cut (nI q)).got = L.cd.got ∧ (L.cd.cut (nI q)).me = L.cd.me := ⟨rfl, rfl⟩
  have o6 : (L.cd.cut (nI q)).ai = L.cd.ai := rfl
  rw [o1, ← ep, ← em] at E
  generalize L.cd.cut (nI q) = s2 at E o2 o3 o4 o5 o6 ⊢
  obtain ⟨E1, E2⟩ := E
  have S := gs3I_c (L := L.side 1 s2) E1 E2
  change gS3_c (L.side 1 s2) _ = gSn_c (L.side 1 s2) _ (gMb _ ((s2.out.drop t).take p)) at S
  rw [o2] at S
  obtain ⟨G1, G2⟩ := G s2 E1 E2 o2 o3 o4 o5 o6
  have hl : ((M.drop t).take p).length ≤ 60 := by
    have := E1.1.2.2.2.2.2.1
    rw [o2] at this
    rw [List.length_take, List.length_drop]; omega
  refine gso_c S (Or.inl ⟨n, mo, E1.1.1, E2.2.2.1, rfl, ?_⟩) hl (gByt_take (gByt_drop (by rw [← o2]; exact E1.2.1.1))) hq er G1 G2
  rw [List.length_take]; omega
theorem gfirst_c {L : gLn} {M : List Int32} {n w r q p mo i : Nat} {P : Nat → gLn → Prop} (C : gSB (L.cd.set 3 0) n w r 0) (hq : q ≤ 254) (er : L.rd.ro = nI q) (eo : L.cd.out = M) (ep : p = min (M.length - 0) q) (em : mo = if M.length - 0 ≤ q then 0 else 1)
    (G : ∀ s2, gSB s2 n w r 0 → gSP s2 0 p mo → s2.out = M → s2.inn = L.cd.inn → s2.ask = L.cd.ask → (s2.got = L.cd.got ∧ s2.me = L.cd.me) → s2.ai = L.cd.ai → (∃ j, j < i ∧ P j (((gSn_c (L.side 1 s2) (nI (64 * n + 32 * mo)) (gMb (nI (64 * n + 32 * mo)) ((M.drop 0).take p))).row 1 (gMb (nI (64 * n + 32 * mo)) ((M.drop 0).take p))).set 5 0)) ∧
      ∀ l1 o, (o = 1 ∨ o = 2 ∨ o = 3) → ∃ j, j < i + 6 ∧ P j (((gSn_c (L.side 1 s2) (nI (64 * n + 32 * mo)) (gMb (nI (64 * n + 32 * mo)) ((M.drop 0).take p))).row 1 l1).set 5 o)) : gSo (gS3_c L (-2)) (gS3_c L (-2)).rd.ro P i := by
  have em2 : (if L.cd.out.length ≤ q then 0 else 1) = mo := by rw [em, eo]; rfl
  rw [gs3f_c C hq er, em2]
  have E := C.cut hq
  have o2 : ((L.cd.set 3 0).cut (nI q)).out = M := eo
  have o1 : (L.cd.set 3 0).out = M := eo
  have o3 : ((L.cd.set 3 0).cut (nI q)).inn = L.cd.inn := rfl
  have o4 : ((L.cd.set 3 0).cut (nI q)).ask = L.cd.ask := rfl
  have o5 : ((L.cd.set 3 0).cut (nI q)).got = L.cd.got ∧ ((L.cd.set 3 0).cut (nI q)).me = L.cd.me := ⟨rfl, rfl⟩
  have o6 : ((L.cd.set 3 0).cut (nI q)).ai = L.cd.ai := rfl
  rw [o1, ← ep, ← em] at E
  generalize (L.cd.set 3 0).cut (nI q) = s2 at E o2 o3 o4 o5 o6 ⊢
  obtain ⟨E1, E2⟩ := E
  have S := gs3I_c (L := L.side 1 s2) E1 E2
  change gS3_c (L.side 1 s2) _ = gSn_c (L.side 1 s2) _ (gMb _ ((s2.out.drop 0).take p)) at S
  rw [o2] at S
  obtain ⟨G1, G2⟩ := G s2 E1 E2 o2 o3 o4 o5 o6
  have hl : ((M.drop 0).take p).length ≤ 60 := by
    have := E1.1.2.2.2.2.2.1
    rw [o2] at this
    rw [List.length_take, List.length_drop]; omega
  refine gso_c S (Or.inl ⟨n, mo, E1.1.1, E2.2.2.1, rfl, ?_⟩) hl (gByt_take (gByt_drop (by rw [← o2]; exact E1.2.1.1))) hq er G1 G2
  rw [List.length_take]; omega
theorem gRst1g {M : List Int32} {K : Int32 × Int32} {i : Nat} {L : gLn} {n w t p n' q t' : Nat} (B : gB0 K L) (H : gP1g M L n w t p n' q t') (G : (gCR L (1 - n) ∧ 151 + 2 * (M.length - t) ≤ i) ∨ (gBr L ∧ 153 + 2 * (M.length - t) ≤ i)) : gRO M K i (gRk L) := by
  have H0 := H
  obtain ⟨a1, a2, a3, a4, a5, a6, a7, a8, aw, ⟨a9, a10, a11⟩, a12, a13⟩ := H
  have ne := gSP.ne a1 a2
  have hn := a1.1.1
  have hw := a1.1.2.1
  have hq := a6.1.2.2.2.1
  have ew := a1.2.2.2.1
  have hi : 3 ≤ i := by omega
  have D : gDw L i := ⟨0, n, w, t, a1, Or.inr ⟨p, 1, a2⟩, gSdT.mk0 a6 a8, Or.inl a12, Or.inl ⟨rfl, a13⟩, hi⟩
  rcases G with ⟨⟨k, hk, h0, hc⟩, hv⟩ | ⟨hb, hv⟩
  · have e := (gr_R h0 a9 (gkr1 hk hc) (by omega) a10).trans (gor_more (L := L.set 8 0) ne (gkr1 hk hc) (by omega) hn a1.2.2.1 (by omega) a2.2.1)
    have C := a1.pass a2
    have pe := gpass_pe L.rd
    have o1 : L.rd.pass.out = M := by rw [gpass a1 a2]; exact a3
    have o2 : L.rd.pass.inn = L.rd.inn := by rw [gpass a1 a2]; rfl
    have o3 : L.rd.pass.ask = L.rd.ask := by rw [gpass a1 a2]; rfl
    change rX2_readerKind L = (-3, (L.set 8 0).side 0 L.rd.pass) at e
    generalize L.rd.pass = s1 at e C pe o1 o2 o3
    rw [gtry0 B.1 e rfl]
    refine Or.inr ⟨show ¬ (-3 : Int32) = -1 by decide, ?_⟩
    refine gnext_r (L := ((L.set 8 0).side 0 s1).set 1 0) C hq a6.2.2.2.2.1 o1 rfl rfl fun s2 E1 E2 e3 e4 e5 e6 e9 => ?_
    have core : ∀ (b l1 : List Int32) (oo kk : Int32), gP1n M (((gSn_r ((((L.set 8 0).side 0 s1).set 1 0).side 0 s2) kk b).row 1 l1).set 5 oo) (1 - n) w (t + p) (min (M.length - (t + p)) q) (if M.length - (t + p) ≤ q then 0 else 1) n' q t' :=
      fun b l1 oo kk => ⟨E1, E2, e3, rfl, rfl, a6, a7, Or.inl ⟨a8, aw⟩, ⟨e5.trans (o3.trans a9), a10, e4.trans (o2.trans a11)⟩, a12, a13⟩
    refine ⟨⟨152 + 2 * (M.length - (t + p)), by omega, ⟨B.1, B.2.1, B.2.2.1, B.2.2.2.1, 0, by decide, rfl⟩, Or.inl (Or.inl ⟨_, _, _, _, _, _, _, _, core _ _ _ _, Or.inl ⟨⟨rfl, rfl⟩, Nat.le_refl _⟩⟩)⟩, fun l1 oo ho => ⟨156 + 2 * (M.length - (t + p)), by omega, ⟨B.1, B.2.1, B.2.2.1, B.2.2.2.1, 0, by decide, rfl⟩, Or.inl (Or.inl ⟨_, _, _, _, _, _, _, _, core _ _ _ _, Or.inr (Or.inr ⟨ho, Nat.le_refl _⟩)⟩)⟩⟩
  · have h0 : ¬ L.oc = 0 := by rcases hb with h | h | h <;> (rw [h]; decide)
    obtain ⟨k, hk, e⟩ := gr_broken h0 a9 hw ew
    refine gtryA B.1 e rfl (by show ¬ L.rd.ask = 0; rw [a9]; decide) B D fun x hx => Or.inr ⟨hk.ne hw, ?_⟩
    refine gsoR_r hk hw hq a6.2.2.2.2.1 ⟨152 + 2 * (M.length - t), by omega, ⟨B.1, B.2.1, B.2.2.1, B.2.2.2.1, x, hx, rfl⟩, Or.inl (Or.inr ⟨n, w, t, p, n', q, t', H0, Or.inl ⟨⟨k, hk, rfl, rfl⟩, Nat.le_refl _⟩⟩)⟩ ?_
    intro l1 oo ho
    exact ⟨154 + 2 * (M.length - t), by omega, ⟨B.1, B.2.1, B.2.2.1, B.2.2.2.1, x, hx, rfl⟩, Or.inl (Or.inr ⟨n, w, t, p, n', q, t', H0, Or.inr ⟨ho, Nat.le_refl _⟩⟩)⟩
theorem gpsS {s : gSd} {n w r t v : Nat} (B : gSB s n w r t) (h : (s.pe = -1 ∧ v = n) ∨ (∃ p, gSP s t p 0 ∧ v = 1 - n)) : ∃ t2, gSB s.pass v w r t2 ∧ s.pass.pe = -1 ∧ s.pass.inn = s.inn ∧ s.pass.ask = s.ask ∧ s.pass.got = s.got ∧ s.pass.out = s.out ∧ s.pass.ai = s.ai := by
  rcases h with ⟨h, rfl⟩ | ⟨p, P, rfl⟩
  · rw [gpass0 h]; exact ⟨t, B, h, rfl, rfl, rfl, rfl, rfl⟩
  · have C := B.pass P
    rw [gpass B P] at C ⊢
    exact ⟨_, C, rfl, rfl, rfl, rfl, rfl, rfl⟩
theorem gLkr.D {L : gLn} {n w t v s i : Nat} (B : gSB L.rd n w 32 t) (h : gLkr L n v t) (T : gSdT L.cd) (A : gcAsk L.cd) (S : gSiN L s) (hi : 3 + 2 * s ≤ i) : gDw L i :=
  ⟨s, n, w, t, B, h.imp (fun x => x.1) (fun ⟨p, P, _⟩ => ⟨p, 0, P⟩), T, A, S, hi⟩
theorem gAk2.ask {M : List Int32} {L : gLn} {k u : Nat} {inf : List Int32} (h : gAk2 M L k u inf) : gcAsk L.cd := by
  obtain ⟨-, ⟨-, h, -, j, b, -, -, -, h2, h3, -⟩ | ⟨-, h, -, -, b, h2, h3, h4, -⟩ | ⟨-, h, -⟩⟩ := h
  · exact Or.inr (Or.inr (Or.inr ⟨h, b, h2, h3⟩))
  · exact Or.inr (Or.inl ⟨h, b, h2, h3, h4⟩)
  · exact Or.inr (Or.inr (Or.inl h))
theorem gAk2.u {M : List Int32} {L : gLn} {k u : Nat} {inf : List Int32} (h : gAk2 M L k u inf) : 144 ≤ u := by
  obtain ⟨-, ⟨-, -, -, j, b, h1, -, -, -, -, -, h⟩ | ⟨-, -, -, h, -⟩ | ⟨-, -, -, h, -⟩⟩ := h <;> omega
theorem gRst2 {M : List Int32} {K : Int32 × Int32} {i : Nat} {L : gLn} (B : gB0 K L) (G : gR2 M i L) : gRO M K i (gRk L) := by
  obtain ⟨n, w, t, w', n', q, t', H, G⟩ := G
  have H0 := H
  obtain ⟨a1, a2, a3, a4, a5, a6, a7, ⟨a9, a10, a11⟩⟩ := H
  have hw := a1.1.2.1
  have hq := a2.1.2.2.2.1
  have ew := a1.2.2.2.1
  have T := gSdT.mk0 a2 a6
  rcases G with ⟨k, u, inf, A, G⟩ | ⟨s, s1, s4, es, ea, ek, hb, hv⟩
  · have hu := A.u
    rcases G with ⟨⟨h0, hc⟩, hv⟩ | ⟨hb, hv⟩
    · have A0 := A
      obtain ⟨a13, ⟨rfl, b1, b2, j, b, b3, b4, b5, b6, b7, rfl, b8⟩ | ⟨rfl, b1, b2, b3, b, b4, b5, b6, rfl⟩ | ⟨rfl, b1, b2, b3, rfl⟩⟩ := A
      · have e := gr_wait h0 a9 (by rw [hc]; rfl)
        rw [gtry0 B.1 e rfl]
        refine Or.inr ⟨show ¬ (227 : Int32) = -1 by decide, ?_⟩
        have S := gs3A_r (L := (L.set 8 0).set 1 0) (k := 227) (Or.inr rfl)
        have e3 : gat ((L.set 8 0).set 1 0).ca 3 = nI b := by show gat L.ca 3 = _; rw [hc]; rfl
        rw [e3] at S
        refine gso_r (k := 227) S (Or.inr (Or.inr (Or.inr (Or.inr ⟨Or.inr rfl, b, b6, rfl⟩)))) (show 1 ≤ 60 by decide) (gByt_1 b6) hq a2.2.2.2.2.1 ⟨u, by omega, ⟨B.1, B.2.1, B.2.2.1, B.2.2.2.1, 0, by decide, rfl⟩, Or.inr (Or.inl ⟨n, w, t, w', n', q, t', H0, Or.inl ⟨195, u, _, A0, Or.inl ⟨by decide, ⟨rfl, rfl⟩, Nat.le_refl _⟩⟩⟩)⟩ ?_
        intro l1 oo ho
        exact ⟨u + 4, by omega, ⟨B.1, B.2.1, B.2.2.1, B.2.2.2.1, 0, by decide, rfl⟩, Or.inr (Or.inl ⟨n, w, t, w', n', q, t', H0, Or.inl ⟨195, u, _, A0, Or.inr (Or.inr ⟨ho, Nat.le_refl _⟩)⟩⟩)⟩
      · have e := gr_room h0 a9 (by rw [hc]; rfl)
        have e3 : gat L.ca 3 = nI b := by rw [hc]; rfl
        rw [e3] at e
        rw [gtry0 B.1 e rfl]
        refine Or.inr ⟨show ¬ (225 : Int32) = -1 by decide, ?_⟩
        have S := gs3A_r (L := ((L.set 8 0).side 1 (L.cd.set 2 (nI b))).set 1 0) (k := 225) (Or.inl rfl)
        change gS3_r _ _ = gSn_r _ _ (gMb _ [gat L.ca 3]) at S
        rw [e3] at S
        have core : ∀ (b9 l1 : List Int32) (oo : Int32), gP2 M (((gSn_r (((L.set 8 0).side 1 (L.cd.set 2 (nI b))).set 1 0) (nI 225) b9).row 1 l1).set 5 oo) n w t w' n' b t' := fun _ _ _ => ⟨a1, a2.room b4 b5, a3, a4, a5, a6, a7, ⟨a9, a10, a11⟩⟩
        refine gso_r (k := 225) S (Or.inr (Or.inr (Or.inr (Or.inl ⟨Or.inr rfl, b, b4, b5, rfl⟩)))) (show 1 ≤ 60 by decide) (gByt_1 (by omega)) b5 rfl ⟨u, by omega, ⟨B.1, B.2.1, B.2.2.1, B.2.2.2.1, 0, by decide, rfl⟩, Or.inr (Or.inl ⟨n, w, t, w', n', b, t', core _ _ _, Or.inl ⟨193, u, _, A0, Or.inl ⟨by decide, ⟨rfl, rfl⟩, Nat.le_refl _⟩⟩⟩)⟩ ?_
        intro l1 oo ho
        exact ⟨u + 4, by omega, ⟨B.1, B.2.1, B.2.2.1, B.2.2.2.1, 0, by decide, rfl⟩, Or.inr (Or.inl ⟨n, w, t, w', n', b, t', core _ _ _, Or.inl ⟨193, u, _, A0, Or.inr (Or.inr ⟨ho, Nat.le_refl _⟩)⟩⟩)⟩
      · have e := gr_abort h0 a9 (by rw [hc]; rfl)
        rw [gtry0 B.1 e rfl]
        obtain ⟨t2, c1, c2, c3, c4, c5, c6, c7⟩ := gpsS a1 a3
        refine Or.inr ⟨show ¬ (226 : Int32) = -1 by decide, ?_⟩
        have core : ∀ (b9 l1 : List Int32) (oo : Int32), gPT M (((gSn_r ((((L.set 8 0).side 0 L.rd.brk).set 9 1).set 1 0) (nI 226) b9).row 1 l1).set 5 oo) w' w n' q t' := fun _ _ _ => ⟨c1.void, c2, rfl, a2, a6, a7, a4, a5, c4.trans a9, show ¬ (1 : Int32) = 0 by decide, a13, b2⟩
        refine gso_r (k := 226) (gs3E_r (Or.inr (Or.inr (Or.inr rfl)))) (Or.inr (Or.inr (Or.inl ⟨Or.inr (Or.inr (Or.inr rfl)), rfl⟩))) (Nat.zero_le _) gByt_nil hq a2.2.2.2.2.1 ⟨14, by omega, ⟨B.1, B.2.1, B.2.2.1, B.2.2.2.1, 0, by decide, rfl⟩, Or.inr (Or.inr (Or.inr (Or.inl ⟨w', w, n', q, t', core _ _ _, Or.inr ⟨b1, Or.inl ⟨⟨rfl, rfl⟩, Nat.le_refl _⟩⟩⟩)))⟩ ?_
        intro l1 oo ho
        exact ⟨18, by omega, ⟨B.1, B.2.1, B.2.2.1, B.2.2.2.1, 0, by decide, rfl⟩, Or.inr (Or.inr (Or.inr (Or.inl ⟨w', w, n', q, t', core _ _ _, Or.inr ⟨b1, Or.inr (Or.inr ⟨ho, Nat.le_refl _⟩)⟩⟩)))⟩
    · have h0 : ¬ L.oc = 0 := by rcases hb with h | h | h <;> (rw [h]; decide)
      obtain ⟨k9, hk, e⟩ := gr_broken h0 a9 hw ew
      refine gtryA B.1 e rfl (by show ¬ L.rd.ask = 0; rw [a9]; decide) B (a3.D (s := 0) a1 T A.ask (Or.inl ⟨rfl, A.1⟩) (by omega)) fun x hx => Or.inr ⟨hk.ne hw, ?_⟩
      refine gsoR_r hk hw hq a2.2.2.2.2.1 ⟨u + 2, by omega, ⟨B.1, B.2.1, B.2.2.1, B.2.2.2.1, x, hx, rfl⟩, Or.inr (Or.inl ⟨n, w, t, w', n', q, t', H0, Or.inl ⟨k, u, inf, A, Or.inr (Or.inl ⟨⟨k9, hk, rfl, rfl⟩, Nat.le_refl _⟩)⟩⟩)⟩ ?_
      intro l1 oo ho
      exact ⟨u + 4, by omega, ⟨B.1, B.2.1, B.2.2.1, B.2.2.2.1, x, hx, rfl⟩, Or.inr (Or.inl ⟨n, w, t, w', n', q, t', H0, Or.inl ⟨k, u, inf, A, Or.inr (Or.inr ⟨ho, Nat.le_refl _⟩)⟩⟩)⟩
  · have h0 : ¬ L.oc = 0 := by rcases hb with h | h | h <;> (rw [h]; decide)
    obtain ⟨k9, hk, e⟩ := gr_broken h0 a9 hw ew
    refine gtryA B.1 e rfl (by show ¬ L.rd.ask = 0; rw [a9]; decide) B (a3.D (s := s) a1 T (Or.inl ea) (Or.inr ⟨s1, s4, es⟩) (by omega)) fun x hx => Or.inr ⟨hk.ne hw, ?_⟩
    refine gsoR_r hk hw hq a2.2.2.2.2.1 ⟨142 + 2 * s, by omega, ⟨B.1, B.2.1, B.2.2.1, B.2.2.2.1, x, hx, rfl⟩, Or.inr (Or.inl ⟨n, w, t, w', n', q, t', H0, Or.inr ⟨s, s1, s4, es, ea, ek, Or.inl ⟨k9, hk, rfl, rfl⟩, Nat.le_refl _⟩⟩)⟩ ?_
    intro l1 oo ho
    exact ⟨142 + 2 * s, by omega, ⟨B.1, B.2.1, B.2.2.1, B.2.2.2.1, x, hx, rfl⟩, Or.inr (Or.inl ⟨n, w, t, w', n', q, t', H0, Or.inr ⟨s, s1, s4, es, ea, ek, Or.inr ho, Nat.le_refl _⟩⟩)⟩
