/-! the protocol for room(): ROOM asked by the reader (wip/p1/m_room.py) -/
def gPQ (x a : Nat) (L : gLn) : Prop := gSdT L.rd ∧ gSdT L.cd ∧ L.cd.ask = -1 ∧ L.si ≤ 0 ∧ ((a = 1 ∧ L.rd.ask = 1 ∧ L.rd.ai = nI x) ∨ (a = 0 ∧ L.rd.ask = 0))
def gRQ (x : Nat) (K : Int32 × Int32) (i : Nat) (L : gLn) : Prop := gB0 K L ∧ ∃ a, gPQ x a L ∧ ((gCm L 225 [nI x] ∧ a = 1 ∧ L.rd.ro = nI x ∧ 21 ≤ i) ∨ (gCm L 224 [] ∧ a = 0 ∧ 1 ≤ i) ∨ ((gBr L ∨ ∃ k inf, gCm L k inf ∧ ¬ k = 224 ∧ ¬ k = 225) ∧ 3 + 20 * a ≤ i))
def gCQ (x : Nat) (K : Int32 × Int32) (i : Nat) (L : gLn) : Prop := gB0 K L ∧ ∃ a, gPQ x a L ∧ ((gCm L 193 [nI x] ∧ a = 1 ∧ 22 ≤ i) ∨ (gCm L 192 [] ∧ a = 0 ∧ 2 ≤ i) ∨ (gBr L ∧ 4 + 20 * a ≤ i))
def gFinQ (x : Nat) (K : Int32 × Int32) (L : gLn) : Prop := gSdT L.rd ∧ gSdT L.cd ∧ ((L.st = 2 ∧ L.td = K.1 + 1 ∧ L.tg = K.2 ∧ L.rd.ro = nI x ∧ L.rd.ask = -1) ∨ (L.st = 3 ∧ L.td = K.1 ∧ L.tg = K.2 + 1) ∨ L.st = 4)
def gROQ (x : Nat) (K : Int32 × Int32) (i : Nat) (y : Int32 × gLn) : Prop :=
  (y.1 = -1 ∧ gFinQ x K y.2) ∨ (¬ y.1 = -1 ∧ gSo (gS3_r y.2 y.1) (gS3_r y.2 y.1).cd.ro (gCQ x K) i)
def gCOQ (x : Nat) (K : Int32 × Int32) (i : Nat) (y : Int32 × gLn) : Prop :=
  (y.1 = -1 ∧ ∃ j, j < i ∧ gRQ x K j (y.2.set 5 3)) ∨ (¬ y.1 = -1 ∧ gSo (gS3_c y.2 y.1) (gS3_c y.2 y.1).rd.ro (gRQ x K) i)
theorem gSdT.empt {s : gSd} (T : gSdT s) : gSdT s.empt := by
  obtain ⟨n, w, r, t, B, -⟩ := T
  exact gSdT.mk0 B.empt rfl
theorem gSdT.room {s : gSd} {q : Nat} (T : gSdT s) (h1 : 1 ≤ q) (h2 : q ≤ 254) : gSdT (s.set 2 (nI q)) := by
  obtain ⟨n, w, r, t, B, h | ⟨p, mo, P⟩⟩ := T
  · exact gSdT.mk0 (B.room h1 h2) h
  · exact gSdT.mk1 (B.room h1 h2) (P.set (by decide) (by decide))
theorem gr_roomA {L : gLn} (h : L.oc = 0) (ha : L.rd.ask = 1) (hk : gat L.ca 1 = 225) (h3 : gat L.ca 3 = L.rd.ai) : rX2_readerKind L = (-1, (((L.set 8 0).side 0 (L.rd.set 4 (-1))).set 0 2).set 3 (L.td + 1)) := by
  have e : rX2_readerKind L = rX2_readerOnAnswer (L.set 8 0) := (if_pos h).trans (if_neg (c := L.rd.ask = -1) (by rw [ha]; decide))
  have ha2 : rX2_isAnswerTo_r (L.set 8 0) = 1 := by
    refine (if_pos (c := gat L.ca 1 = (192 + L.rd.ask) + 32) (by rw [hk, ha]; decide)).trans ?_
    by_cases c : gat L.ca 2 = 0
    · exact if_pos c
    · exact (if_neg c).trans (if_pos h3)
  have e2 : rX2_readerOnAnswer (L.set 8 0) = rX2_finish ((L.set 8 0).side 0 (L.rd.set 4 (-1))) 2 := (if_neg (by rw [ha2]; decide)).trans (if_neg (c := L.rd.ask = 0) (by rw [ha]; decide))
  rw [e, e2, gfin2]; rfl
/-- the reader asks, or asks RESYNCH -/
theorem gAskQ {x i : Nat} {K : Int32 × Int32} {L : gLn} (hx1 : 1 ≤ x) (hx2 : x ≤ 254) (B : gB0 K L) (H : gPQ x 1 L) (hi : 22 < i) : gSo (gS3_r L (nI 193)) (gS3_r L (nI 193)).cd.ro (gCQ x K) i := by
  obtain ⟨q, hq, er⟩ := gSd.ro_of H.2.1
  have ha : L.rd.ai = nI x := by
    obtain ⟨-, -, -, -, ⟨-, -, h⟩ | ⟨h, -⟩⟩ := H
    · exact h
    · exact absurd h (by decide)
  have S := gs3S_r (L := L) (k := 193) (Or.inl rfl)
  rw [ha] at S
  exact gso_r (k := 193) S (Or.inr (Or.inr (Or.inr (Or.inl ⟨Or.inl rfl, x, hx1, hx2, rfl⟩)))) (show 1 ≤ 60 by decide) (gByt_1 (by omega)) hq er ⟨22, hi, B, 1, H, Or.inl ⟨⟨rfl, rfl⟩, rfl, Nat.le_refl _⟩⟩
    fun l1 oo ho => ⟨24, by omega, B, 1, H, Or.inr (Or.inr ⟨ho, Nat.le_refl _⟩)⟩
theorem gAskD {x i : Nat} {K : Int32 × Int32} {L : gLn} (B : gB0 K L) (H : gPQ x 0 L) (hi : 2 < i) : gSo (gS3_r L (nI 192)) (gS3_r L (nI 192)).cd.ro (gCQ x K) i := by
  obtain ⟨q, hq, er⟩ := gSd.ro_of H.2.1
  exact gso_r (k := 192) (gs3E_r (Or.inl rfl)) (Or.inr (Or.inr (Or.inl ⟨Or.inl rfl, rfl⟩))) (Nat.zero_le _) gByt_nil hq er ⟨2, hi, B, 0, H, Or.inr (Or.inl ⟨⟨rfl, rfl⟩, rfl, Nat.le_refl _⟩)⟩
    fun l1 oo ho => ⟨4, by omega, B, 0, H, Or.inr (Or.inr ⟨ho, Nat.le_refl _⟩)⟩
theorem gRQhalf {x i : Nat} {K : Int32 × Int32} {L : gLn} (hx1 : 1 ≤ x) (hx2 : x ≤ 254) (G : gRQ x K i L) : gROQ x K i (gRk L) := by
  obtain ⟨B, a, H, G⟩ := G
  have H0 := H
  obtain ⟨p1, p2, p3, p4, p5⟩ := H
  rcases G with ⟨⟨h0, hc⟩, rfl, er, hi⟩ | ⟨⟨h0, hc⟩, rfl, hi⟩ | ⟨G, hi⟩
  · rcases p5 with ⟨-, ha, hai⟩ | ⟨h, -⟩
    · have e := gr_roomA h0 ha (by rw [hc]; rfl) (by rw [hc, hai]; rfl)
      rw [gtry0 B.1 e rfl]
      refine Or.inl ⟨rfl, p1.set (by decide) (by decide) (by decide), p2, Or.inl ⟨rfl, ?_, B.2.2.2.1, er, rfl⟩⟩
      show L.td + 1 = _
      rw [B.2.2.1]
    · exact absurd h (by decide)
  · rcases p5 with ⟨h, -⟩ | ⟨-, ha⟩
    · exact absurd h (by decide)
    · have e := gr_up h0 ha (by rw [hc]; rfl) (by rw [hc]; rfl)
      rw [gtry0 B.1 e rfl]
      refine Or.inl ⟨rfl, (p1.set (k := 4) (by decide) (by decide) (by decide)).empt, p2, Or.inr (Or.inl ⟨rfl, B.2.2.1, ?_⟩)⟩
      show L.tg + 1 = _
      rw [B.2.2.2.1]
  · have hn1 : ¬ L.rd.ask = -1 := by rcases p5 with ⟨-, h, -⟩ | ⟨-, h⟩ <;> rw [h] <;> decide
    have e : rX2_readerKind L = (192 + L.rd.ask, (L.set 8 0).set 8 1) := by
      rcases G with hb | ⟨k, inf, ⟨h0, hc⟩, hk1, hk2⟩
      · have h0 : ¬ L.oc = 0 := by rcases hb with h | h | h <;> (rw [h]; decide)
        exact gr_brokenA h0 hn1
      · refine gr_again h0 hn1 ?_
        rcases p5 with ⟨-, h, -⟩ | ⟨-, h⟩
        · rw [hc, h]; exact hk2
        · rw [hc, h]; exact hk1
    obtain ⟨b1, b2, b3, b4, t, ht, b5⟩ := B
    unfold gRk
    rw [if_pos b1, e]
    show gROQ x K i (rX2_countTries ((L.set 8 0).set 8 1) (192 + L.rd.ask))
    by_cases c : t < 2
    · rw [gt_1 (L := (L.set 8 0).set 8 1) rfl b5 c]
      have Bn : gB0 K (((L.set 8 0).set 8 1).set 1 (nI (t + 1))) := ⟨b1, b2, b3, b4, t + 1, by omega, rfl⟩
      rcases p5 with ⟨rfl, ha, hai⟩ | ⟨rfl, ha⟩
      · rw [ha]
        exact Or.inr ⟨show ¬ (193 : Int32) = -1 by decide, gAskQ hx1 hx2 Bn ⟨p1, p2, p3, p4, Or.inl ⟨rfl, ha, hai⟩⟩ (by omega)⟩
      · rw [ha]
        exact Or.inr ⟨show ¬ (192 : Int32) = -1 by decide, gAskD Bn ⟨p1, p2, p3, p4, Or.inr ⟨rfl, ha⟩⟩ (by omega)⟩
    · obtain rfl : t = 2 := by omega
      rcases p5 with ⟨rfl, ha, hai⟩ | ⟨rfl, ha⟩
      · rw [gt_3 (L := (L.set 8 0).set 8 1) rfl b5 (by show ¬ L.rd.ask = 0; rw [ha]; decide)]
        exact Or.inr ⟨show ¬ (192 : Int32) = -1 by decide, gAskD ⟨b1, b2, b3, b4, 0, by decide, rfl⟩ ⟨(p1.set (k := 4) (by decide) (by decide) (by decide)).set (k := 5) (by decide) (by decide) (by decide), p2, p3, p4, Or.inr ⟨rfl, rfl⟩⟩ (by omega)⟩
      · rw [gt_d (L := (L.set 8 0).set 8 1) rfl b5 ha]
        exact Or.inl ⟨rfl, p1, p2, Or.inr (Or.inr rfl)⟩
theorem gCQhalf {x i : Nat} {K : Int32 × Int32} {L : gLn} (hx1 : 1 ≤ x) (hx2 : x ≤ 254) (G : gCQ x K i L) : gCOQ x K i (gCk L) := by
  obtain ⟨B, a, H, G⟩ := G
  have H0 := H
  obtain ⟨p1, p2, p3, p4, p5⟩ := H
  rcases G with ⟨⟨h0, hc⟩, rfl, hi⟩ | ⟨⟨h0, hc⟩, rfl, hi⟩ | ⟨hb, hi⟩
  · have e := gc_rq p4 h0 p3 (by rw [hc]; rfl)
    have e3 : gat L.ca 3 = nI x := by rw [hc]; rfl
    rw [e3] at e
    rw [gck e (by decide)]
    have S := gs3A_c (L := L.side 0 (L.rd.set 2 (nI x))) (k := 225) (Or.inl rfl)
    change gS3_c _ _ = gSn_c _ _ (gMb _ [gat L.ca 3]) at S
    rw [e3] at S
    have core : ∀ (b9 l1 : List Int32) (oo : Int32), gPQ x 1 (((gSn_c (L.side 0 (L.rd.set 2 (nI x))) (nI 225) b9).row 1 l1).set 5 oo) := fun _ _ _ => ⟨p1.room hx1 hx2, (p2.set (k := 9) (by decide) (by decide) (by decide)).set (k := 10) (by decide) (by decide) (by decide), p3, p4, p5⟩
    refine Or.inr ⟨show ¬ (225 : Int32) = -1 by decide, ?_⟩
    exact gso_c (k := 225) S (Or.inr (Or.inr (Or.inr (Or.inl ⟨Or.inr rfl, x, hx1, hx2, rfl⟩)))) (show 1 ≤ 60 by decide) (gByt_1 (by omega)) hx2 rfl ⟨21, by omega, B, 1, core _ _ _, Or.inl ⟨⟨rfl, rfl⟩, rfl, rfl, Nat.le_refl _⟩⟩
      fun l1 oo ho => ⟨23, by omega, B, 1, core _ _ _, Or.inr (Or.inr ⟨Or.inl ho, Nat.le_refl _⟩)⟩
  · rw [gck (gc_resync p4 h0 (by rw [hc]; rfl)) (by decide)]
    obtain ⟨q, hq, er⟩ := gSd.ro_of p1
    have core : ∀ (b9 l1 : List Int32) (oo : Int32), gPQ x 0 (((gSn_c (L.side 1 (L.cd.empt.set 4 (-1))) (nI 224) b9).row 1 l1).set 5 oo) := fun _ _ _ => ⟨p1, ((p2.empt.set (k := 4) (by decide) (by decide) (by decide)).set (k := 9) (by decide) (by decide) (by decide)).set (k := 10) (by decide) (by decide) (by decide), rfl, p4, p5⟩
    refine Or.inr ⟨show ¬ (224 : Int32) = -1 by decide, ?_⟩
    exact gso_c (k := 224) (gs3E_c (Or.inr (Or.inl rfl))) (Or.inr (Or.inr (Or.inl ⟨Or.inr (Or.inl rfl), rfl⟩))) (Nat.zero_le _) gByt_nil hq er ⟨1, by omega, B, 0, core _ _ _, Or.inr (Or.inl ⟨⟨rfl, rfl⟩, rfl, Nat.le_refl _⟩)⟩
      fun l1 oo ho => ⟨3, by omega, B, 0, core _ _ _, Or.inr (Or.inr ⟨Or.inl ho, Nat.le_refl _⟩)⟩
  · by_cases h3 : L.oc = 3
    · rw [gck (gc_none p4 h3) (by decide)]
      exact Or.inl ⟨rfl, 3 + 20 * a, by omega, B, a, H0, Or.inr (Or.inr ⟨Or.inl (Or.inr (Or.inr rfl)), Nat.le_refl _⟩)⟩
    · have h12 : L.oc = 1 ∨ L.oc = 2 := by rcases hb with h | h | h; exact Or.inl h; exact Or.inr h; exact absurd h h3
      obtain ⟨q, hq, er⟩ := gSd.ro_of p1
      obtain ⟨cn, cw, cr, ct, C, -⟩ := id p2
      obtain ⟨k2, hk2, e1⟩ := gc_broken p4 h12 p3 C.1.2.1 C.2.2.2.1
      rw [gck e1 (hk2.ne4 C.1.2.1)]
      have core : ∀ (b9 l1 : List Int32) (oo kk : Int32), gPQ x a (((gSn_c (L.set 8 1) kk b9).row 1 l1).set 5 oo) := fun _ _ _ _ => ⟨p1, (p2.set (k := 9) (by decide) (by decide) (by decide)).set (k := 10) (by decide) (by decide) (by decide), p3, p4, p5⟩
      have nk : ¬ k2 = 224 ∧ ¬ k2 = 225 := by
        obtain ⟨s, hs, rfl⟩ := hk2
        have := C.1.2.1
        exact ⟨fun h9 => by have := nI_inj (b := 224) (by omega) (by decide) h9; omega, fun h9 => by have := nI_inj (b := 225) (by omega) (by decide) h9; omega⟩
      refine Or.inr ⟨hk2.ne C.1.2.1, ?_⟩
      exact gsoR_c hk2 C.1.2.1 hq er ⟨3 + 20 * a, by omega, B, a, core _ _ _ _, Or.inr (Or.inr ⟨Or.inr ⟨k2, [], ⟨rfl, rfl⟩, nk.1, nk.2⟩, Nat.le_refl _⟩)⟩
        fun l1 oo ho => ⟨3 + 20 * a, by omega, B, a, core _ _ _ _, Or.inr (Or.inr ⟨Or.inl ho, Nat.le_refl _⟩)⟩
