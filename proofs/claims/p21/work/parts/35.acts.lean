/-! what reader and card do, by what came (wip/p1/m_acts.py) -/
/-- R with the number w -/
def gKR (k : Int32) (w : Nat) : Prop := ∃ s, s ≤ 2 ∧ k = nI (128 + 16 * w + s)
theorem gKR.at {k : Int32} {w : Nat} (h : gKR k w) (hw : w ≤ 1) : 128 ≤ k ∧ k < 192 ∧ ¬ k = 192 ∧ ((k >>> (4 &&& 31)) &&& 1) = nI w := by
  obtain ⟨s, hs, rfl⟩ := h
  have : (w = 0 ∨ w = 1) ∧ (s = 0 ∨ s = 1 ∨ s = 2) := by omega
  rcases this with ⟨rfl | rfl, rfl | rfl | rfl⟩ <;> decide
theorem gKI {w mo : Nat} (hw : w ≤ 1) (hm : mo ≤ 1) : nI (64 * w + 32 * mo) < 128 ∧ ¬ 128 ≤ nI (64 * w + 32 * mo) ∧ nI (64 * w + 32 * mo) < 192 ∧ ¬ nI (64 * w + 32 * mo) = 192 ∧ ((nI (64 * w + 32 * mo)) >>> (6 &&& 31)) = nI w ∧ (((nI (64 * w + 32 * mo)) &&& 32) = 0 ↔ mo = 0) := by
  have : (w = 0 ∨ w = 1) ∧ (mo = 0 ∨ mo = 1) := by omega
  rcases this with ⟨rfl | rfl, rfl | rfl⟩ <;> decide
theorem grcp {w s : Nat} (hw : w ≤ 1) (hs : s ≤ 2) : (128 + 16 * nI w + nI s : Int32) = nI (128 + 16 * w + s) := by
  have : (w = 0 ∨ w = 1) ∧ (s = 0 ∨ s = 1 ∨ s = 2) := by omega
  rcases this with ⟨rfl | rfl, rfl | rfl | rfl⟩ <;> decide
theorem gfin2 (L : gLn) : rX2_finish L 2 = (-1, (L.set 0 2).set 3 (L.td + 1)) := if_pos rfl
theorem gfin3 (L : gLn) : rX2_finish L 3 = (-1, (L.set 0 3).set 4 (L.tg + 1)) := if_neg (by decide)
/-- THE READER -/
theorem gr_broken {L : gLn} (h : ¬ L.oc = 0) (ha : L.rd.ask = -1) {w : Nat} (hw : w ≤ 1) (ew : L.rd.wa = nI w) : ∃ k, gKR k w ∧ rX2_readerKind L = (k, (L.set 8 0).set 8 1) := by
  have e : rX2_readerKind L = rX2_onBroken_r (L.set 8 0) := if_neg h
  have e2 : rX2_onBroken_r (L.set 8 0) = _ := if_pos ha
  rw [e, e2]
  by_cases h1 : L.oc = 1
  · exact ⟨_, ⟨1, by decide, rfl⟩, (if_pos h1).trans (by show ((128 + 16 * L.rd.wa + 1, _) : Int32 × gLn) = _; rw [ew, show (1 : Int32) = nI 1 from rfl, grcp hw (by decide)])⟩
  · exact ⟨_, ⟨2, by decide, rfl⟩, (if_neg h1).trans (by show ((128 + 16 * L.rd.wa + 2, _) : Int32 × gLn) = _; rw [ew, show (2 : Int32) = nI 2 from rfl, grcp hw (by decide)])⟩
theorem gr_brokenA {L : gLn} (h : ¬ L.oc = 0) (ha : ¬ L.rd.ask = -1) : rX2_readerKind L = (192 + L.rd.ask, (L.set 8 0).set 8 1) :=
  (if_neg h).trans (if_neg (c := L.rd.ask = -1) ha)
/-- came whole: R -/
theorem gr_R {L : gLn} {w : Nat} (h : L.oc = 0) (ha : L.rd.ask = -1) (hk : gKR (gat L.ca 1) w) (hw : w ≤ 1) (ht : L.ta = 0) : rX2_readerKind L = rX2_onReceipt_r (L.set 8 0) (gat L.ca 1) := by
  obtain ⟨k1, k2, -, -⟩ := hk.at hw
  exact (if_pos h).trans ((if_pos (c := L.rd.ask = -1) ha).trans ((if_pos (c := gat L.ca 1 < 192) k2).trans ((if_pos (c := 128 ≤ gat L.ca 1) k1).trans (if_pos (c := L.ta = 0) ht))))
theorem gr_Rt {L : gLn} {w : Nat} (h : L.oc = 0) (ha : L.rd.ask = -1) (hk : gKR (gat L.ca 1) w) (hw : w ≤ 1) (ht : ¬ L.ta = 0) : rX2_readerKind L = (-1, (((L.set 8 0).side 0 L.rd.emptyCame).set 0 2).set 3 (L.td + 1)) := by
  obtain ⟨k1, k2, -, -⟩ := hk.at hw
  have e : rX2_readerKind L = rX2_finish ((L.set 8 0).side 0 L.rd.emptyCame) 2 := (if_pos h).trans ((if_pos (c := L.rd.ask = -1) ha).trans ((if_pos (c := gat L.ca 1 < 192) k2).trans ((if_pos (c := 128 ≤ gat L.ca 1) k1).trans (if_neg (c := L.ta = 0) ht))))
  rw [e, gfin2]; rfl
theorem gor_none {L : gLn} {x : Int32} (hp : L.rd.pe = -1) {w : Nat} (hw : w ≤ 1) (ew : L.rd.wa = nI w) : ∃ k, gKR k w ∧ rX2_onReceipt_r L x = (k, L) :=
  ⟨_, ⟨0, by decide, rfl⟩, (if_pos (c := L.rd.has = 0) (if_pos hp)).trans (by show ((128 + 16 * L.rd.wa + 0, L) : Int32 × gLn) = _; rw [ew, show (0 : Int32) = nI 0 from rfl, grcp hw (by decide)])⟩
theorem ghas {s : gSd} (h : ¬ s.pe = -1) : ¬ s.has = 0 := by unfold gSd.has; rw [if_neg h]; decide
theorem gor_same {L : gLn} {x : Int32} (hp : ¬ L.rd.pe = -1) {w n : Nat} (hk : gKR x w) (hw : w ≤ 1) (en : L.rd.nx = nI n) (e : w = n) : rX2_onReceipt_r L x = (L.rd.pk, L.set 8 1) :=
  (if_neg (ghas hp)).trans (if_pos (by rw [(hk.at hw).2.2.2, en, e]))
theorem gor_more {L : gLn} {x : Int32} (hp : ¬ L.rd.pe = -1) {w n : Nat} (hk : gKR x w) (hw : w ≤ 1) (hn : n ≤ 1) (en : L.rd.nx = nI n) (e : w ≠ n) (hm : L.rd.pm = 1) : rX2_onReceipt_r L x = (-3, L.side 0 L.rd.pass) :=
  (if_neg (ghas hp)).trans ((if_neg (by rw [(hk.at hw).2.2.2, en]; exact fun h => e (nI_inj (by omega) (by omega) h))).trans (if_neg (by unfold gSd.hasMore; rw [if_neg hp, if_neg (by rw [hm]; decide)]; decide)))
theorem gor_last {L : gLn} {x : Int32} (hp : ¬ L.rd.pe = -1) {w n v : Nat} (hk : gKR x w) (hw : w ≤ 1) (hn : n ≤ 1) (en : L.rd.nx = nI n) (e : w ≠ n) (hm : L.rd.pm = 0) (hv : v ≤ 1) (ev : L.rd.wa = nI v) : ∃ k, gKR k v ∧ rX2_onReceipt_r L x = (k, L.side 0 L.rd.pass) := by
  refine ⟨_, ⟨0, by decide, rfl⟩, (if_neg (ghas hp)).trans ((if_neg (by rw [(hk.at hw).2.2.2, en]; exact fun h => e (nI_inj (by omega) (by omega) h))).trans ((if_pos (by unfold gSd.hasMore; rw [if_neg hp, if_pos hm])).trans ?_))⟩
  have : (L.side 0 L.rd.pass).rd.wa = L.rd.wa := by
    show L.rd.pass.wa = _
    unfold gSd.pass; rw [if_neg hp]; rfl
  rw [this, ev, show (0 : Int32) = nI 0 from rfl, grcp hv (by decide)]
/-- came whole: a request of the card -/
theorem gr_S {L : gLn} {k : Int32} (h : L.oc = 0) (ha : L.rd.ask = -1) (hk : gat L.ca 1 = k) (h2 : ¬ k < 192) : rX2_readerKind L = rX2_onRequest_r (L.set 8 0) k := by
  rw [← hk] at h2 ⊢
  exact (if_pos h).trans ((if_pos (c := L.rd.ask = -1) ha).trans (if_neg (c := gat L.ca 1 < 192) h2))
theorem gr_wait {L : gLn} (h : L.oc = 0) (ha : L.rd.ask = -1) (hk : gat L.ca 1 = 195) : rX2_readerKind L = (227, L.set 8 0) := by
  rw [gr_S h ha hk (by decide)]
  exact (if_neg (by decide)).trans ((if_neg (by decide)).trans (if_pos (by decide)))
theorem gr_room {L : gLn} (h : L.oc = 0) (ha : L.rd.ask = -1) (hk : gat L.ca 1 = 193) : rX2_readerKind L = (225, (L.set 8 0).side 1 (L.cd.set 2 (gat L.ca 3))) := by
  rw [gr_S h ha hk (by decide)]
  exact if_pos (by decide)
theorem gr_abort {L : gLn} (h : L.oc = 0) (ha : L.rd.ask = -1) (hk : gat L.ca 1 = 194) : rX2_readerKind L = (226, ((L.set 8 0).side 0 L.rd.brk).set 9 1) := by
  rw [gr_S h ha hk (by decide)]
  exact (if_neg (by decide)).trans (if_pos (by decide))
/-- came whole: I -/
def gTk (L : gLn) : gSd := L.rd.pass.take L.ca
theorem gr_I {L : gLn} {w mo : Nat} (h : L.oc = 0) (ha : L.rd.ask = -1) (hw : w ≤ 1) (hm : mo ≤ 1) (hk : gat L.ca 1 = nI (64 * w + 32 * mo)) (ew : L.rd.wa = nI w) (hp : L.rd.pe = -1 ∨ L.rd.pm = 0) :
    rX2_readerKind L = (if mo = 0 then (-1, (((L.set 8 0).side 0 (gTk L).whole).set 0 2).set 3 (L.td + 1)) else (128 + 16 * (gTk L).wa + 0, (L.set 8 0).side 0 (gTk L))) := by
  obtain ⟨k1, k2, k3, -, k4, k5⟩ := gKI hw hm
  rw [← hk] at k1 k2 k3 k4 k5
  have e : rX2_readerKind L = rX2_onI_r (L.set 8 0) (gat L.ca 1) := (if_pos h).trans ((if_pos (c := L.rd.ask = -1) ha).trans ((if_pos (c := gat L.ca 1 < 192) k3).trans (if_neg (c := 128 ≤ gat L.ca 1) k2)))
  have hh : L.rd.hasMore = 0 := by
    unfold gSd.hasMore
    by_cases c : L.rd.pe = -1
    · rw [if_pos c]
    · rw [if_neg c, if_pos (hp.resolve_left c)]
  have e2 : rX2_onI_r (L.set 8 0) (gat L.ca 1) = _ := (if_pos (c := (gat L.ca 1 >>> (6 &&& 31)) = L.rd.wa) (k4.trans ew.symm)).trans (if_pos (c := L.rd.hasMore = 0) hh)
  rw [e, e2]
  by_cases c : mo = 0
  · rw [if_pos c]
    refine (if_pos (k5.mpr c)).trans ?_
    show rX2_finish ((((L.set 8 0).side 0 L.rd.pass).side 0 (gTk L)).side 0 (gTk L).whole) 2 = _
    rw [gfin2, gLn.side_side, gLn.side_side]; rfl
  · rw [if_neg c]
    refine (if_neg (fun h9 => c (k5.mp h9))).trans ?_
    show ((128 + 16 * (gTk L).wa + 0, ((L.set 8 0).side 0 L.rd.pass).side 0 (gTk L)) : Int32 × gLn) = _
    rw [gLn.side_side]
/-- asked RESYNCH -/
theorem gr_up {L : gLn} (h : L.oc = 0) (ha : L.rd.ask = 0) (hk : gat L.ca 1 = 224) (h2 : gat L.ca 2 = 0) : rX2_readerKind L = (-1, (((L.set 8 0).side 0 (L.rd.set 4 (-1)).empt).set 0 3).set 4 (L.tg + 1)) := by
  have e : rX2_readerKind L = rX2_readerOnAnswer (L.set 8 0) := (if_pos h).trans (if_neg (c := L.rd.ask = -1) (by rw [ha]; decide))
  have ha2 : rX2_isAnswerTo_r (L.set 8 0) = 1 := (if_pos (c := gat L.ca 1 = (192 + L.rd.ask) + 32) (by rw [hk, ha]; decide)).trans (if_pos (c := gat L.ca 2 = 0) h2)
  have e2 : rX2_readerOnAnswer (L.set 8 0) = rX2_finish (((L.set 8 0).side 0 (L.rd.set 4 (-1))).side 0 (L.rd.set 4 (-1)).empt) 3 := (if_neg (by rw [ha2]; decide)).trans (if_pos (c := L.rd.ask = 0) ha)
  rw [e, e2, gfin3, gLn.side_side]; rfl
theorem gr_again {L : gLn} (h : L.oc = 0) (ha : ¬ L.rd.ask = -1) (hk : ¬ gat L.ca 1 = (192 + L.rd.ask) + 32) : rX2_readerKind L = (192 + L.rd.ask, (L.set 8 0).set 8 1) := by
  have e : rX2_readerKind L = rX2_readerOnAnswer (L.set 8 0) := (if_pos h).trans (if_neg (c := L.rd.ask = -1) ha)
  have ha2 : rX2_isAnswerTo_r (L.set 8 0) = 0 := if_neg (c := gat L.ca 1 = (192 + L.rd.ask) + 32) hk
  rw [e]; exact if_pos ha2
/-- tries -/
theorem gt_0 {L : gLn} {k : Int32} (h : L.sk = 0) : rX2_countTries L k = (k, L.set 1 0) := (if_pos h).trans (if_neg (show ¬ (3 : Int32) ≤ 0 by decide))
theorem gt_1 {L : gLn} {k : Int32} (h : L.sk = 1) {t : Nat} (ht : L.tr = nI t) (h2 : t < 2) : rX2_countTries L k = (k, L.set 1 (nI (t + 1))) := by
  have e : rX2_countTries L k = _ := (if_neg (by rw [h]; decide)).trans (if_neg (c := 3 ≤ L.tr + 1) (by rw [ht, nI_1]; exact nI_ge (b := 3) (by omega) (by decide)))
  rw [e, ht, nI_1]
theorem gt_3 {L : gLn} {k : Int32} (h : L.sk = 1) (ht : L.tr = nI 2) (ha : ¬ L.rd.ask = 0) : rX2_countTries L k = (192, ((L.set 1 (nI 3)).set 1 0).side 0 ((L.rd.set 4 0).set 5 0)) := by
  have e : rX2_countTries L k = _ := (if_neg (by rw [h]; decide)).trans ((if_pos (c := 3 ≤ L.tr + 1) (by rw [ht]; decide)).trans (if_neg (c := L.rd.ask = 0) ha))
  rw [e, ht]; rfl
theorem gt_d {L : gLn} {k : Int32} (h : L.sk = 1) (ht : L.tr = nI 2) (ha : L.rd.ask = 0) : rX2_countTries L k = (-1, ((L.set 1 (nI 3)).set 1 0).set 0 4) := by
  have e : rX2_countTries L k = _ := (if_neg (by rw [h]; decide)).trans ((if_pos (c := 3 ≤ L.tr + 1) (by rw [ht]; decide)).trans (if_pos (c := L.rd.ask = 0) ha))
  rw [e, ht]; rfl
/-- THE CARD -/
theorem gc_silent {L : gLn} {s : Nat} (h : L.si = nI s) (h2 : 2 ≤ s) (hs : s < 100) : rX2_cardKind L = (-1, L.set 11 (nI (s - 1))) := by
  have c : ¬ L.si ≤ 0 := by rw [h]; exact fun h9 => by have := gle0 (by omega) h9; omega
  have e1 : L.si - 1 = nI (s - 1) := by rw [h]; exact pk_sub (b := 1) (by omega)
  have e : rX2_cardKind L = _ := (if_neg c).trans (if_neg (c := L.si - 1 ≤ 0) (by rw [e1]; exact fun h9 => by have := gle0 (by omega) h9; omega))
  rw [e, e1]
theorem gpfb (L : gLn) : rX2_putFirstByte L = (-2, L.side 1 (L.cd.row 0 [gat L.cd.got 0])) := by
  unfold rX2_putFirstByte
  show ((-2, (L.side 1 (L.cd.row 0 [])).side 1 ((L.cd.row 0 []).row 0 [gat L.cd.got 0])) : Int32 × gLn) = _
  rw [gLn.side_side, gSd.row_row]
theorem gc_silent1 {L : gLn} (h : L.si = 1) : rX2_cardKind L = (-2, (L.set 11 0).side 1 (L.cd.row 0 [gat L.cd.got 0])) := by
  have e : rX2_cardKind L = rX2_putFirstByte (L.set 11 (L.si - 1)) := (if_neg (by rw [h]; decide)).trans (if_pos (c := L.si - 1 ≤ 0) (by rw [h]; decide))
  rw [e, gpfb, h]; rfl
theorem gc_none {L : gLn} (h : L.si ≤ 0) (h2 : L.oc = 3) : rX2_cardKind L = (-1, L) := (if_pos h).trans (if_pos h2)
theorem gc_broken {L : gLn} (hs : L.si ≤ 0) (h : L.oc = 1 ∨ L.oc = 2) (ha : L.cd.ask = -1) {w : Nat} (hw : w ≤ 1) (ew : L.cd.wa = nI w) : ∃ k, gKR k w ∧ rX2_cardKind L = (k, L.set 8 1) := by
  have e : rX2_cardKind L = rX2_onBroken_c L := (if_pos hs).trans ((if_neg (by rcases h with h | h <;> (rw [h]; decide))).trans (if_neg (by rcases h with h | h <;> (rw [h]; decide))))
  have e2 : rX2_onBroken_c L = _ := if_pos ha
  rw [e, e2]
  by_cases h1 : L.oc = 1
  · exact ⟨_, ⟨1, by decide, rfl⟩, (if_pos h1).trans (by show ((128 + 16 * L.cd.wa + 1, _) : Int32 × gLn) = _; rw [ew, show (1 : Int32) = nI 1 from rfl, grcp hw (by decide)])⟩
  · exact ⟨_, ⟨2, by decide, rfl⟩, (if_neg h1).trans (by show ((128 + 16 * L.cd.wa + 2, _) : Int32 × gLn) = _; rw [ew, show (2 : Int32) = nI 2 from rfl, grcp hw (by decide)])⟩
theorem gc_brokenA {L : gLn} (hs : L.si ≤ 0) (h : L.oc = 1 ∨ L.oc = 2) (ha : ¬ L.cd.ask = -1) : rX2_cardKind L = (192 + L.cd.ask, L.set 8 1) :=
  (if_pos hs).trans ((if_neg (by rcases h with h | h <;> (rw [h]; decide))).trans ((if_neg (by rcases h with h | h <;> (rw [h]; decide))).trans (if_neg (c := L.cd.ask = -1) ha)))
theorem gc_resync {L : gLn} (hs : L.si ≤ 0) (h : L.oc = 0) (hk : gat L.ca 1 = 192) : rX2_cardKind L = (224, L.side 1 (L.cd.empt.set 4 (-1))) := by
  have e : rX2_cardKind L = (224, (L.side 1 L.cd.empt).side 1 (L.cd.empt.set 4 (-1))) := (if_pos hs).trans ((if_neg (by rw [h]; decide)).trans ((if_pos h).trans (if_pos hk)))
  rw [e, gLn.side_side]
/-- asked: the answer -/
theorem gcw {L : gLn} (hs : L.si ≤ 0) (h : L.oc = 0) (hk : ¬ gat L.ca 1 = 192) (ha : ¬ L.cd.ask = -1) : rX2_cardKind L = rX2_cardOnAnswer L :=
  (if_pos hs).trans ((if_neg (by rw [h]; decide)).trans ((if_pos h).trans ((if_neg hk).trans (if_neg ha))))
theorem gc_again {L : gLn} (hs : L.si ≤ 0) (h : L.oc = 0) (hk : ¬ gat L.ca 1 = 192) (ha : ¬ L.cd.ask = -1) (h2 : ¬ gat L.ca 1 = (192 + L.cd.ask) + 32) : rX2_cardKind L = (192 + L.cd.ask, L) := by
  rw [gcw hs h hk ha]
  exact if_pos (if_neg h2)
theorem gcans {L : gLn} (h1 : gat L.ca 1 = (192 + L.cd.ask) + 32) (h2 : gat L.ca 2 = 0 ∨ gat L.ca 3 = L.cd.ai) : rX2_isAnswerTo_c L = 1 := by
  unfold rX2_isAnswerTo_c
  rw [if_pos h1]
  by_cases c : gat L.ca 2 = 0
  · exact if_pos c
  · exact (if_neg c).trans (if_pos (h2.resolve_left c))
theorem gc_abort {L : gLn} (hs : L.si ≤ 0) (h : L.oc = 0) (ha : L.cd.ask = 2) (hk : gat L.ca 1 = 226) (h2 : gat L.ca 2 = 0) {w : Nat} (hw : w ≤ 1) (ew : L.cd.wa = nI w) : ∃ k, gKR k w ∧ rX2_cardKind L = (k, L.side 1 (L.cd.set 4 (-1))) := by
  have e : rX2_cardKind L = rX2_cardOnAnswer L := gcw hs h (by rw [hk]; decide) (by rw [ha]; decide)
  have e2 : rX2_cardOnAnswer L = _ := (if_neg (by rw [gcans (by rw [hk, ha]; decide) (Or.inl h2)]; decide)).trans (if_pos ha)
  refine ⟨_, ⟨0, by decide, rfl⟩, ?_⟩
  rw [e, e2]
  show ((128 + 16 * L.cd.wa + 0, _) : Int32 × gLn) = _
  rw [ew, show (0 : Int32) = nI 0 from rfl, grcp hw (by decide)]
theorem gc_room {L : gLn} (hs : L.si ≤ 0) (h : L.oc = 0) (ha : L.cd.ask = 1) (hk : gat L.ca 1 = 225) (h2 : gat L.ca 3 = L.cd.ai) : rX2_cardKind L = (-2, L.side 1 ((L.cd.set 4 (-1)).row 0 [gat L.cd.got 0])) := by
  have e : rX2_cardKind L = rX2_cardOnAnswer L := gcw hs h (by rw [hk]; decide) (by rw [ha]; decide)
  have e2 : rX2_cardOnAnswer L = rX2_putFirstByte (L.side 1 (L.cd.set 4 (-1))) := (if_neg (by rw [gcans (by rw [hk, ha]; decide) (Or.inr h2)]; decide)).trans ((if_neg (by rw [ha]; decide)).trans (if_pos ha))
  rw [e, e2, gpfb, gLn.side_side]; rfl
theorem gpb3 (L : gLn) : rX2_putBehindThird L = (-2, L.side 1 (L.cd.row 0 (L.cd.got.drop 3))) := rfl
/-- the record behind a WAIT that was answered -/
def gWa (L : gLn) (w : Nat) : gLn := ((L.side 1 (L.cd.set 4 (-1))).set 2 (L.we + 1)).set 10 (nI w)
theorem gc_wait {L : gLn} (hs : L.si ≤ 0) (h : L.oc = 0) (ha : L.cd.ask = 3) (hk : gat L.ca 1 = 227) (h2 : gat L.ca 3 = L.cd.ai) {w : Nat} (hw : L.wl = nI w) (w1 : 1 ≤ w) (w9 : w < 100) :
    rX2_cardKind L = (if w = 1 then (-2, (gWa L 0).side 1 ((L.cd.set 4 (-1)).row 0 (L.cd.got.drop 3))) else (195, (gWa L (w - 1)).side 1 (((L.cd.set 4 (-1)).set 4 3).set 5 L.cd.ai))) := by
  have e : rX2_cardKind L = rX2_cardOnAnswer L := gcw hs h (by rw [hk]; decide) (by rw [ha]; decide)
  have ew : L.wl - 1 = nI (w - 1) := by rw [hw]; exact pk_sub (b := 1) w1
  have e1 : rX2_cardOnAnswer L = _ := (if_neg (by rw [gcans (by rw [hk, ha]; decide) (Or.inr h2)]; decide)).trans ((if_neg (by rw [ha]; decide)).trans (if_neg (by rw [ha]; decide)))
  rw [e, e1]
  by_cases c : w = 1
  · rw [if_pos c]
    refine (if_pos (c := L.wl - 1 ≤ 0) (by rw [ew, c]; decide)).trans ?_
    show rX2_putBehindThird (((L.side 1 (L.cd.set 4 (-1))).set 2 (L.we + 1)).set 10 (L.wl - 1)) = _
    rw [ew, c, gpb3]; rfl
  · rw [if_neg c]
    refine (if_neg (c := L.wl - 1 ≤ 0) (by rw [ew]; exact fun h9 => by have := gle0 (by omega) h9; omega)).trans ?_
    show ((192 + 3, (((L.side 1 (L.cd.set 4 (-1))).set 2 (L.we + 1)).set 10 (L.wl - 1)).side 1 (((L.cd.set 4 (-1)).set 4 3).set 5 L.cd.ai)) : Int32 × gLn) = _
    rw [ew]; rfl
/-- not asked: R, I, the ROOM request -/
theorem gc_R {L : gLn} {w : Nat} (hs : L.si ≤ 0) (h : L.oc = 0) (ha : L.cd.ask = -1) (hk : gKR (gat L.ca 1) w) (hw : w ≤ 1) : rX2_cardKind L = rX2_onReceipt_c L (gat L.ca 1) := by
  obtain ⟨k1, k2, k3, -⟩ := hk.at hw
  exact (if_pos hs).trans ((if_neg (by rw [h]; decide)).trans ((if_pos h).trans ((if_neg k3).trans ((if_pos ha).trans ((if_pos k2).trans (if_pos k1))))))
theorem goc_none {L : gLn} {x : Int32} (hp : L.cd.pe = -1) {w : Nat} (hw : w ≤ 1) (ew : L.cd.wa = nI w) : ∃ k, gKR k w ∧ rX2_onReceipt_c L x = (k, L) :=
  ⟨_, ⟨0, by decide, rfl⟩, (if_pos (c := L.cd.has = 0) (if_pos hp)).trans (by show ((128 + 16 * L.cd.wa + 0, L) : Int32 × gLn) = _; rw [ew, show (0 : Int32) = nI 0 from rfl, grcp hw (by decide)])⟩
theorem goc_same {L : gLn} {x : Int32} (hp : ¬ L.cd.pe = -1) {w n : Nat} (hk : gKR x w) (hw : w ≤ 1) (en : L.cd.nx = nI n) (e : w = n) : rX2_onReceipt_c L x = (L.cd.pk, L.set 8 1) :=
  (if_neg (ghas hp)).trans (if_pos (by rw [(hk.at hw).2.2.2, en, e]))
theorem goc_more {L : gLn} {x : Int32} (hp : ¬ L.cd.pe = -1) {w n : Nat} (hk : gKR x w) (hw : w ≤ 1) (hn : n ≤ 1) (en : L.cd.nx = nI n) (e : w ≠ n) (hm : L.cd.pm = 1) : rX2_onReceipt_c L x = (-3, L.side 1 L.cd.pass) :=
  (if_neg (ghas hp)).trans ((if_neg (by rw [(hk.at hw).2.2.2, en]; exact fun h => e (nI_inj (by omega) (by omega) h))).trans (if_neg (by unfold gSd.hasMore; rw [if_neg hp, if_neg (by rw [hm]; decide)]; decide)))
theorem goc_last {L : gLn} {x : Int32} (hp : ¬ L.cd.pe = -1) {w n v : Nat} (hk : gKR x w) (hw : w ≤ 1) (hn : n ≤ 1) (en : L.cd.nx = nI n) (e : w ≠ n) (hm : L.cd.pm = 0) (hv : v ≤ 1) (ev : L.cd.wa = nI v) : ∃ k, gKR k v ∧ rX2_onReceipt_c L x = (k, L.side 1 L.cd.pass) := by
  refine ⟨_, ⟨0, by decide, rfl⟩, (if_neg (ghas hp)).trans ((if_neg (by rw [(hk.at hw).2.2.2, en]; exact fun h => e (nI_inj (by omega) (by omega) h))).trans ((if_pos (by unfold gSd.hasMore; rw [if_neg hp, if_pos hm])).trans ?_))⟩
  have : (L.side 1 L.cd.pass).cd.wa = L.cd.wa := by
    show L.cd.pass.wa = _
    unfold gSd.pass; rw [if_neg hp]; rfl
  rw [this, ev, show (0 : Int32) = nI 0 from rfl, grcp hv (by decide)]
def gTc (L : gLn) : gSd := L.cd.pass.take L.ca
theorem gc_I {L : gLn} {w mo : Nat} (hs : L.si ≤ 0) (h : L.oc = 0) (ha : L.cd.ask = -1) (hw : w ≤ 1) (hm : mo ≤ 1) (hk : gat L.ca 1 = nI (64 * w + 32 * mo)) (ew : L.cd.wa = nI w) (hp : L.cd.pe = -1 ∨ L.cd.pm = 0) :
    rX2_cardKind L = (if mo = 0 then (-4, L.side 1 (gTc L).whole) else (128 + 16 * (gTc L).wa + 0, L.side 1 (gTc L))) := by
  obtain ⟨k1, k2, k3, k0, k4, k5⟩ := gKI hw hm
  rw [← hk] at k1 k2 k3 k4 k5 k0
  have e : rX2_cardKind L = rX2_onI_c L (gat L.ca 1) := (if_pos hs).trans ((if_neg (by rw [h]; decide)).trans ((if_pos h).trans ((if_neg k0).trans ((if_pos ha).trans ((if_pos k3).trans (if_neg k2))))))
  have hh : L.cd.hasMore = 0 := by
    unfold gSd.hasMore
    by_cases c : L.cd.pe = -1
    · rw [if_pos c]
    · rw [if_neg c, if_pos (hp.resolve_left c)]
  have e2 : rX2_onI_c L (gat L.ca 1) = _ := (if_pos (c := (gat L.ca 1 >>> (6 &&& 31)) = L.cd.wa) (k4.trans ew.symm)).trans (if_pos (c := L.cd.hasMore = 0) hh)
  rw [e, e2]
  by_cases c : mo = 0
  · rw [if_pos c]
    refine (if_pos (k5.mpr c)).trans ?_
    show ((-4, ((L.side 1 L.cd.pass).side 1 (gTc L)).side 1 (gTc L).whole) : Int32 × gLn) = _
    rw [gLn.side_side, gLn.side_side]
  · rw [if_neg c]
    refine (if_neg (fun h9 => c (k5.mp h9))).trans ?_
    show ((128 + 16 * (gTc L).wa + 0, (L.side 1 L.cd.pass).side 1 (gTc L)) : Int32 × gLn) = _
    rw [gLn.side_side]
theorem gc_rq {L : gLn} (hs : L.si ≤ 0) (h : L.oc = 0) (ha : L.cd.ask = -1) (hk : gat L.ca 1 = 193) : rX2_cardKind L = (225, L.side 0 (L.rd.set 2 (gat L.ca 3))) := by
  have e : rX2_cardKind L = rX2_onRequest_c L (gat L.ca 1) := (if_pos hs).trans ((if_neg (by rw [h]; decide)).trans ((if_pos h).trans ((if_neg (by rw [hk]; decide)).trans ((if_pos ha).trans (if_neg (by rw [hk]; decide))))))
  rw [e, hk]
  exact if_pos (by decide)
/-- the card does the message that it got -/
theorem gand7 {b : Nat} (h : b < 256) : (nI b &&& 7) = nI (b % 8) := by
  have : ∀ b, b < 256 → (nI b &&& 7) = nI (b % 8) := by decide +kernel
  exact this b h
theorem gand3 {b : Nat} (h : b < 256) : (nI b &&& 3) = nI (b % 4) := by
  have : ∀ b, b < 256 → (nI b &&& 3) = nI (b % 4) := by decide +kernel
  exact this b h
theorem grem61 {b : Nat} (h : b < 256) : (nI b - nI b / 61 * 61 : Int32) = nI (b % 61) := nI_rem (b := 61) (by omega) (by decide)
theorem gd7 {L : gLn} {M : List Int32} (hM : L.cd.got = M) (hb : gByt M) : (gat L.cd.got 0 &&& 7) = nI (gKd M) := by
  rw [hM, show gat M 0 = M.getD 0 0 from gat_nI (i := 0) (by decide)]
  unfold gKd
  by_cases c : M.length = 0
  · rw [if_pos c, List.length_eq_zero_iff.mp c]; decide
  · rw [if_neg c]
    obtain ⟨b, hb1, e⟩ := gByt_at hb 0
    rw [e, gand7 hb1, nI_clamp (by omega)]
theorem gd_0 {L : gLn} {M : List Int32} (hM : L.cd.got = M) (hb : gByt M) (hl : M.length ≤ 60) (k : gKd M = 0 ∨ gKd M = 1 ∨ 6 ≤ gKd M) : rX2_doMessage L = (-2, L.side 1 (L.cd.row 0 (gExp M))) := by
  have h7 := gd7 hM hb
  have k8 : gKd M < 8 := by unfold gKd; split; decide; exact Nat.mod_lt _ (by decide)
  unfold rX2_doMessage
  rcases k with k | k | k
  · rw [k] at h7
    rw [gE0 k]
    exact (if_pos h7).trans (by rw [hM])
  · rw [k] at h7
    refine (if_neg (by rw [h7]; decide)).trans ((if_pos h7).trans ?_)
    show rX2_putCounting L (gat L.cd.got 1 - gat L.cd.got 1 / 61 * 61) = _
    unfold rX2_putCounting
    obtain ⟨b, hb1, e⟩ := gByt_at hb 1
    have e1 : gat L.cd.got 1 = nI b := by rw [hM]; exact (gat_nI (i := 1) (by decide)).trans e
    have hm := Nat.mod_lt b (show 0 < 61 by decide)
    rw [gE1 k, e1, grem61 hb1, nI_clamp (by omega)]
    have : (if 1 < M.length then (M.getD 1 0).toNatClampNeg % 61 else 0) = b % 61 := by
      by_cases c : 1 < M.length
      · rw [if_pos c, e, nI_clamp (by omega)]
      · rw [if_neg c]
        have : M.getD 1 0 = 0 := by rw [List.getD_eq_getElem?_getD, List.getElem?_eq_none (by omega)]; rfl
        have b0 : b = 0 := nI_inj (by omega) (by decide) (e.symm.trans this)
        rw [b0]
    rw [this, List.take_of_length_le (by rw [gIota_len]; omega)]
  · have e0 : ¬ gKd M = 0 := by omega
    have ne : ∀ j, j < 6 → ¬ nI (gKd M) = nI j := fun j hj h => by have := nI_inj (by omega) (by omega) h; omega
    rw [gE6 k]
    have fin : rX2_doMessage L = _ := (if_neg (by rw [h7]; exact ne 0 (by decide))).trans ((if_neg (by rw [h7]; exact ne 1 (by decide))).trans ((if_neg (by rw [h7]; exact ne 2 (by decide))).trans ((if_neg (by rw [h7]; exact ne 3 (by decide))).trans ((if_neg (by rw [h7]; exact ne 4 (by decide))).trans (if_neg (by rw [h7]; exact ne 5 (by decide)))))))
    refine fin.trans ?_
    show ((-2, (((L.side 1 (L.cd.row 0 [])).side 1 ((L.cd.row 0 []).row 0 [gat L.cd.got 0])).side 1 (((L.cd.row 0 []).row 0 [gat L.cd.got 0]).row 0 [gat L.cd.got 0, nI L.cd.got.length]))) : Int32 × gLn) = _
    rw [gLn.side_side, gLn.side_side, gSd.row_row, gSd.row_row, hM, show gat M 0 = M.getD 0 0 from gat_nI (i := 0) (by decide)]
theorem gd_3 {L : gLn} {M : List Int32} (hM : L.cd.got = M) (hb : gByt M) (k : gKd M = 3) : ∃ r, 1 ≤ r ∧ r ≤ 254 ∧ rX2_doMessage L = (193, L.side 1 ((L.cd.set 4 1).set 5 (nI r))) := by
  have h7 := gd7 hM hb
  rw [k] at h7
  obtain ⟨b, hb1, e⟩ := gByt_at hb 1
  have e1 : gat L.cd.got 1 = nI b := by rw [hM]; exact (gat_nI (i := 1) (by decide)).trans e
  have fin : rX2_doMessage L = _ := (if_neg (by rw [h7]; decide)).trans ((if_neg (by rw [h7]; decide)).trans ((if_neg (by rw [h7]; decide)).trans (if_pos h7)))
  by_cases c1 : gat L.cd.got 1 < 1
  · exact ⟨32, by decide, by decide, fin.trans (if_pos c1)⟩
  · by_cases c2 : 254 < gat L.cd.got 1
    · exact ⟨32, by decide, by decide, fin.trans ((if_neg c1).trans (if_pos c2))⟩
    · refine ⟨b, ?_, ?_, fin.trans ((if_neg c1).trans ((if_neg c2).trans (by rw [e1]; rfl)))⟩
      · rw [e1] at c1; exact Nat.not_lt.mp (fun h => c1 (nI_lt (b := 1) h (by decide)))
      · rw [e1] at c2; exact Nat.not_lt.mp (fun h => c2 (nI_lt (a := 254) h (by omega)))
theorem gd_4 {L : gLn} {M : List Int32} (hM : L.cd.got = M) (hb : gByt M) (k : gKd M = 4) : rX2_doMessage L = (194, L.side 1 ((L.cd.set 4 2).set 5 0)) := by
  have h7 := gd7 hM hb
  rw [k] at h7
  exact (if_neg (by rw [h7]; decide)).trans ((if_neg (by rw [h7]; decide)).trans ((if_neg (by rw [h7]; decide)).trans ((if_neg (by rw [h7]; decide)).trans (if_pos h7))))
theorem gd_5 {L : gLn} {M : List Int32} (hM : L.cd.got = M) (hb : gByt M) (k : gKd M = 5) : ∃ s, 1 ≤ s ∧ s ≤ 4 ∧ rX2_doMessage L = (-1, L.set 11 (nI s)) := by
  have h7 := gd7 hM hb
  rw [k] at h7
  obtain ⟨b, hb1, e⟩ := gByt_at hb 1
  have e1 : gat L.cd.got 1 = nI b := by rw [hM]; exact (gat_nI (i := 1) (by decide)).trans e
  have hm := Nat.mod_lt b (show 0 < 4 by decide)
  have fin : rX2_doMessage L = (-1, L.set 11 ((gat L.cd.got 1 &&& 3) + 1)) := (if_neg (by rw [h7]; decide)).trans ((if_neg (by rw [h7]; decide)).trans ((if_neg (by rw [h7]; decide)).trans ((if_neg (by rw [h7]; decide)).trans ((if_neg (by rw [h7]; decide)).trans (if_pos h7)))))
  exact ⟨b % 4 + 1, by omega, by omega, by rw [fin, e1, gand3 hb1, nI_1]⟩
theorem gd_2 {L : gLn} {M : List Int32} (hM : L.cd.got = M) (hb : gByt M) (hl : M.length ≤ 60) (k : gKd M = 2) : (∃ w, (w = nI 1 ∨ w = nI 0) ∧ rX2_doMessage L = (-2, (L.set 10 w).side 1 (L.cd.row 0 (gExp M)))) ∨ (∃ w b, 1 ≤ w ∧ w ≤ 3 ∧ b < 256 ∧ rX2_doMessage L = (195, (L.set 10 (nI w)).side 1 ((L.cd.set 4 3).set 5 (nI b)))) := by
  have h7 := gd7 hM hb
  rw [k] at h7
  obtain ⟨b1, hb1, e1⟩ := gByt_at hb 1
  obtain ⟨b2, hb2, e2⟩ := gByt_at hb 2
  have g1 : gat L.cd.got 1 = nI b1 := by rw [hM]; exact (gat_nI (i := 1) (by decide)).trans e1
  have g2 : gat L.cd.got 2 = nI b2 := by rw [hM]; exact (gat_nI (i := 2) (by decide)).trans e2
  have hm := Nat.mod_lt b2 (show 0 < 4 by decide)
  have fin : rX2_doMessage L = _ := (if_neg (by rw [h7]; decide)).trans ((if_neg (by rw [h7]; decide)).trans (if_pos h7))
  have ask : ∀ w : Nat, 1 ≤ w → w ≤ 3 → ∀ q : Int32 × gLn, q = (if nI L.cd.got.length ≤ 1 then (192 + 3, (L.set 10 (nI w)).side 1 ((L.cd.set 4 3).set 5 1)) else (192 + 3, (L.set 10 (nI w)).side 1 ((L.cd.set 4 3).set 5 (gat L.cd.got 1)))) → ∃ b, b < 256 ∧ q = (195, (L.set 10 (nI w)).side 1 ((L.cd.set 4 3).set 5 (nI b))) := by
    intro w _ _ q hq
    by_cases c : nI L.cd.got.length ≤ 1
    · rw [if_pos c] at hq; exact ⟨1, by decide, hq⟩
    · rw [if_neg c, g1] at hq; exact ⟨b1, hb1, hq⟩
  by_cases c : nI L.cd.got.length ≤ 2
  · have f2 : rX2_doMessage L = _ := fin.trans ((if_pos c).trans (if_neg (c := (1 : Int32) ≤ 0) (by decide)))
    obtain ⟨b, hb9, e⟩ := ask 1 (by decide) (by decide) _ f2
    exact Or.inr ⟨1, b, by decide, by decide, hb9, e⟩
  · have f2 : rX2_doMessage L = _ := fin.trans (if_neg c)
    have e3 : gat L.cd.got 2 &&& 3 = nI (b2 % 4) := by rw [g2, gand3 hb2]
    by_cases c0 : b2 % 4 = 0
    · have f3 := f2.trans (if_pos (c := gat L.cd.got 2 &&& 3 ≤ 0) (by rw [e3, c0]; decide))
      refine Or.inl ⟨nI 0, Or.inr rfl, f3.trans ?_⟩
      show rX2_putBehindThird (L.set 10 (gat L.cd.got 2 &&& 3)) = _
      rw [e3, c0, gpb3, gE2 k, ← hM]; rfl
    · have f3 := f2.trans (if_neg (c := gat L.cd.got 2 &&& 3 ≤ 0) (by rw [e3]; exact fun h9 => c0 (gle0 (by omega) h9)))
      obtain ⟨b, hb9, e⟩ := ask (b2 % 4) (by omega) (by omega) (rX2_doMessage L) (by rw [← e3]; exact f3)
      exact Or.inr ⟨b2 % 4, b, by omega, by omega, hb9, e⟩
