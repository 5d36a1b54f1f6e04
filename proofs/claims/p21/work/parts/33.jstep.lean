/-! a block sent keeps the journal's invariant (wip/p1/m_jstep.py) -/
set_option maxRecDepth 100000 in
theorem gnote_eq (J : gJr) (x y z : Int32) : (jX1_note J x y z).ne = (if 30 ≤ J.ne + 1 then 0 else J.ne + 1) ∧ (jX1_note J x y z).l 5 = (if 30 ≤ nI (J.l 5).length then gput (J.l 5) (if 30 ≤ J.ne + 1 then 0 else J.ne + 1) x else J.l 5 ++ [x]) ∧ (jX1_note J x y z).l 7 = (if 30 ≤ nI (J.l 5).length then gput (J.l 7) (if 30 ≤ J.ne + 1 then 0 else J.ne + 1) z else J.l 7 ++ [z]) := by
  by_cases h1 : 30 ≤ J.ne + 1
  · by_cases h2 : 30 ≤ nI (J.l 5).length
    · have e : jX1_note J x y z = _ := (if_pos h1).trans (if_pos h2)
      rw [e, if_pos h1, if_pos h2, if_pos h2]; exact ⟨rfl, rfl, rfl⟩
    · have e : jX1_note J x y z = _ := (if_pos h1).trans (if_neg h2)
      rw [e, if_pos h1, if_neg h2, if_neg h2]; exact ⟨rfl, rfl, rfl⟩
  · by_cases h2 : 30 ≤ nI (J.l 5).length
    · have e : jX1_note J x y z = _ := (if_neg h1).trans (if_pos h2)
      rw [e, if_neg h1, if_pos h2, if_pos h2]; exact ⟨rfl, rfl, rfl⟩
    · have e : jX1_note J x y z = _ := (if_neg h1).trans (if_neg h2)
      rw [e, if_neg h1, if_neg h2, if_neg h2]; exact ⟨rfl, rfl, rfl⟩
/-- behind idOf -/
def gJm (J J1 : gJr) (N : Nat) (E1 : List (List Int32)) (id : Nat) (b : List Int32) (x : Int32) (n0 : Nat) : Prop :=
  gJpre (N + 1) J1 ∧ J1.l 0 = E1.flatten ∧ (J1.l 1).length = E1.length ∧ (∀ i, i < E1.length → gat (J1.l 1) (nI i) = nI ((E1.take i).flatten.length)) ∧ (∀ e ∈ E1, gEnt e) ∧
  (∀ i, i < E1.length → ∃ t, t ≤ N ∧ gat (J1.l 2) (nI i) = nI t) ∧ id < E1.length ∧ x = nI id ∧ (E1.getD id []).length = b.length + 1 ∧ (∀ i, 5 ≤ i → J1.l i = J.l i) ∧ J1.ne = J.ne ∧
  (∀ i, i < n0 → i < E1.length ∧ gat (J1.l 2) (nI i) = gat (J.l 2) (nI i))
theorem gJw.mid {J J1 : gJr} {N Lt : Nat} {E : List (List Int32)} {T : List Nat} {y x : Int32} {b : List Int32} (H : gJw J N Lt E T) (hN : N ≤ 15000) (hb : gBlk b) (h : gJid J J1 y b x) : ∃ E1 id, gJm J J1 N E1 id b x E.length ∧ ∀ i, i < E.length → E1.getD i [] = E.getD i [] := by
  obtain ⟨P, e0, e1, e2, e3, e4, e5, e7, ene, e6, es⟩ := H
  have P1 := h.pre P hN hb.2.1
  have h5 := h.len
  have b4 := hb.1; have b64 := hb.2.1
  have l0b : E.flatten.length ≤ 65 * 15000 := by have := P.2.2.2.1; have := P.1; rw [← e0]; omega
  have l1b : (J.l 1).length ≤ 15000 := by have := P.1; omega
  have l2e : (J.l 2).length = E.length := by rw [P.2.1, e1]
  rcases h with ⟨rfl, hok, hne, hy, hm⟩ | ⟨ex, k, hk, ad⟩
  · rcases hok with hx | ⟨id, hid, rfl⟩
    · exact absurd hx hne
    · rw [e1] at hid
      obtain ⟨y', b', eE, hb'⟩ := e3 _ (gE_mem hid)
      have hS := gflat_le hid
      have eEl : (E.getD id []).length = b'.length + 1 := by rw [eE]; rfl
      have b4' := hb'.1; have b64' := hb'.2.1
      have hm2 := hm 2 (by omega)
      rw [e2 id hid, show (1 : Int32) = nI 1 from rfl, nI_add, nI_add, e0, gat_nI (by omega), Nat.add_assoc, gflat_at hid (by omega), eE, gat_nI (by omega)] at hm2
      have hm3 : b'.getD 2 0 = b.getD 2 0 := hm2
      rw [hb'.2.2.2.2.1, hb.2.2.2.2.1] at hm3
      have hl : b'.length = b.length := by have := nI_inj (by omega) (by omega) hm3; omega
      exact ⟨E, id, ⟨P1, e0, e1, e2, e3, e4, hid, rfl, by omega, h5, rfl, fun i hi => ⟨hi, rfl⟩⟩, fun i hi => rfl⟩
  · obtain ⟨an, f0, f1, f2, f3, f4, -⟩ := ad
    have g1 : (gFill J 256).l 1 = J.l 1 := rfl
    have g0 : (gFill J 256).l 0 = J.l 0 := rfl
    have g2 : (gFill J 256).l 2 = J.l 2 := rfl
    rw [g1] at f1; rw [g0] at f0 f1; rw [g2] at f2
    have tk : ∀ i, i ≤ E.length → (E ++ [y :: b]).take i = E.take i := fun i hi => List.take_append_of_le_length hi
    refine ⟨E ++ [y :: b], E.length, ⟨P1, ?_, ?_, fun i hi => ?_, fun e he => ?_, fun i hi => ?_, ?_, ?_, ?_, h5, an, fun i hi => ⟨?_, ?_⟩⟩, fun i hi => ?_⟩
    · rw [f0, e0, List.flatten_append]; simp
    · rw [f1, List.length_append, e1, List.length_append]; rfl
    · rw [List.length_append] at hi
      have hi' : i < E.length + 1 := hi
      rw [tk i (by omega), f1]
      by_cases h : i < E.length
      · rw [gat_app (by omega) (by omega)]; exact e2 i h
      · have : i = (J.l 1).length := by omega
        subst this
        rw [gat_last (by omega), e1, List.take_length, e0]
    · rcases List.mem_append.mp he with h | h
      · exact e3 e h
      · rw [List.mem_singleton] at h; exact ⟨y, b, h, hb⟩
    · rw [List.length_append] at hi
      have hi' : i < E.length + 1 := hi
      rw [f2]
      by_cases h : i < E.length
      · rw [gat_app (by omega) (by omega)]; exact e4 i h
      · have : i = (J.l 2).length := by omega
        subst this
        rw [gat_last (by omega)]; exact ⟨0, Nat.zero_le _, rfl⟩
    · rw [List.length_append]; simp
    · rw [ex, e1]
    · rw [List.getD_eq_getElem?_getD, List.getElem?_append_right (Nat.le_refl _), Nat.sub_self]; rfl
    · rw [List.length_append]; omega
    · rw [f2, gat_app (by omega) (by omega)]
    · rw [List.getD_eq_getElem?_getD, List.getElem?_append_left hi, ← List.getD_eq_getElem?_getD]
theorem gset_get {T : List Nat} {k p t : Nat} (h : k < T.length) : (T.set k t).getD p 0 = if p = k then t else T.getD p 0 := by
  by_cases e : p = k
  · subst e; rw [if_pos rfl, List.getD_eq_getElem?_getD, List.getElem?_set_self h]; rfl
  · rw [if_neg e, List.getD_eq_getElem?_getD, List.getElem?_set_ne (Ne.symm e), ← List.getD_eq_getElem?_getD]
theorem gJv.step {J J' : gJr} {N Lt Lt' A A' m m' : Nat} {L3 L' : gLn} {num ro : Int32} (H : gJv J N Lt) (hN : N + 1 ≤ 15000) (hb : gBlk L3.bl) (S : gSent L3 num ro L' Lt Lt' A A' m m' J J') : gJv J' (N + 1) Lt' := by
  obtain ⟨E, T, H⟩ := H
  obtain ⟨y0, l1, eA, eL, -, -, -, J1, x, hid, rfl⟩ := S
  obtain ⟨E1, id, M, hE⟩ := H.mid (by omega) hb hid
  obtain ⟨t, ht⟩ : ∃ t, t = Lt' - Lt := ⟨_, rfl⟩
  have b4 := hb.1; have b64 := hb.2.1
  have ht1 : L3.bl.length ≤ t := by omega
  have ht2 : t ≤ 256 := by omega
  rw [← ht]
  obtain ⟨P, e0, e1, e2, e3, e4, e5, e7, ene, e6, es⟩ := H
  obtain ⟨P1, f0, f1, f2, f3, f4, hidl, rfl, fl, f5, fne, fold⟩ := M
  obtain ⟨n0, n1, n2, n3, n4⟩ := gnote_l J1 (nI id) L'.oc (nI t)
  obtain ⟨nn, n5, n7⟩ := gnote_eq J1 (nI id) L'.oc (nI t)
  have l1b : (J1.l 1).length ≤ 15001 := by have := P1.1; omega
  have l2e : (J1.l 2).length = E1.length := by rw [P1.2.1, f1]
  have l5 : (J1.l 5).length = min N 30 := by rw [f5 5 (by decide)]; exact e5
  have l7 : J1.l 7 = T.map nI := by rw [f5 7 (by decide)]; exact e7
  have tl : T.length = min N 30 := by have h := P1.2.2.2.2.2.2.2.2; rw [l7, List.length_map, l5] at h; exact h
  rw [fne, ene] at nn n5 n7
  -- the new newest
  have hν : (if (30 : Int32) ≤ (if N = 0 then -1 else nI ((N - 1) % 30)) + 1 then (0 : Int32) else (if N = 0 then -1 else nI ((N - 1) % 30)) + 1) = nI (N % 30) := by
    by_cases h0 : N = 0
    · subst h0; rfl
    · rw [if_neg h0, nI_1]
      have hm := Nat.mod_lt (N - 1) (show 0 < 30 by decide)
      by_cases h9 : (N - 1) % 30 = 29
      · rw [if_pos (by rw [h9]; decide), show N % 30 = 0 by omega]; rfl
      · rw [if_neg (show ¬ (30 : Int32) ≤ nI ((N - 1) % 30 + 1) from fun h => nI_ge (a := (N - 1) % 30 + 1) (b := 30) (by omega) (by decide) h)]; congr 1; omega
  rw [hν] at nn n5 n7
  -- times
  have tm : ∀ i, i < E1.length → ∀ u, gat (J1.l 2) (nI i) = nI u → gat ((jX1_note J1 (nI id) L'.oc (nI t)).l 2) (nI i) = nI (if i = id then u + 1 else u) := by
    intro i hi u hu
    rw [n2, gat_put (by omega) (by omega) (by omega)]
    by_cases e : i = id
    · subst e; rw [if_pos rfl, if_pos rfl, hu, nI_1]
    · rw [if_neg e, if_neg e, hu]
  have tmid : ∃ u, 1 ≤ u ∧ u ≤ N + 1 ∧ gat ((jX1_note J1 (nI id) L'.oc (nI t)).l 2) (nI id) = nI u := by
    obtain ⟨u, hu, eu⟩ := f4 id hidl
    have := tm id hidl u eu
    rw [if_pos rfl] at this
    exact ⟨u + 1, by omega, by omega, this⟩
  have told : ∀ i, i < E.length → (∃ u, 1 ≤ u ∧ u ≤ N ∧ gat (J.l 2) (nI i) = nI u) → ∃ u, 1 ≤ u ∧ u ≤ N + 1 ∧ gat ((jX1_note J1 (nI id) L'.oc (nI t)).l 2) (nI i) = nI u := by
    intro i hi ⟨u, h1, h2, eu⟩
    have := tm i (fold i hi).1 u (by rw [(fold i hi).2]; exact eu)
    exact ⟨_, by split <;> omega, by split <;> omega, this⟩
  have hPn := P1.note (nI id) L'.oc (nI t)
  have base : gJpre (N + 1) (jX1_note J1 (nI id) L'.oc (nI t)) ∧ (jX1_note J1 (nI id) L'.oc (nI t)).l 0 = E1.flatten ∧ ((jX1_note J1 (nI id) L'.oc (nI t)).l 1).length = E1.length ∧ (∀ i, i < E1.length → gat ((jX1_note J1 (nI id) L'.oc (nI t)).l 1) (nI i) = nI ((E1.take i).flatten.length)) ∧ (∀ i, i < E1.length → ∃ u, u ≤ N + 1 ∧ gat ((jX1_note J1 (nI id) L'.oc (nI t)).l 2) (nI i) = nI u) :=
    ⟨hPn, n0.trans f0, by rw [n1]; exact f1, fun i hi => by rw [n1]; exact f2 i hi, fun i hi => by
      obtain ⟨u, hu, eu⟩ := f4 i hi
      exact ⟨_, by split <;> omega, tm i hi u eu⟩⟩
  obtain ⟨B1, B2, B3, B4, B5⟩ := base
  have nne : (jX1_note J1 (nI id) L'.oc (nI t)).ne = if N + 1 = 0 then -1 else nI ((N + 1 - 1) % 30) := by rw [nn, if_neg (by omega), Nat.add_sub_cancel]
  by_cases hN30 : N < 30
  · -- behind the others
    have c : ¬ (30 : Int32) ≤ nI (J1.l 5).length := by rw [l5]; exact fun h => nI_ge (a := min N 30) (b := 30) (by omega) (by decide) h
    rw [if_neg c] at n5 n7
    refine ⟨E1, T ++ [t], B1, B2, B3, B4, f3, B5, ?_, ?_, nne, fun p hp => ?_, fun h => ?_⟩
    · rw [n5, List.length_append, l5]; simp; omega
    · rw [n7, l7, List.map_append]; rfl
    · by_cases hpN : p < N
      · obtain ⟨i, hi, g5, gt, gl, gb⟩ := e6 p (by omega)
        have e : (T ++ [t]).getD p 0 = T.getD p 0 := by rw [List.getD_eq_getElem?_getD, List.getElem?_append_left (by omega), ← List.getD_eq_getElem?_getD]
        exact ⟨i, (fold i hi).1, by rw [n5, gat_app (by omega) (by omega), f5 5 (by decide)]; exact g5, told i hi gt, by rw [e, hE i hi]; exact gl, by rw [e]; exact gb⟩
      · have hpe : p = T.length := by omega
        have e : (T ++ [t]).getD p 0 = t := by rw [hpe, List.getD_eq_getElem?_getD, List.getElem?_append_right (Nat.le_refl _), Nat.sub_self]; rfl
        exact ⟨id, hidl, by rw [n5, hpe, tl, ← l5, gat_last (by omega)], tmid, by rw [e, fl]; omega, by rw [e]; omega⟩
    · rw [List.sum_append, es hN30]; simp; omega
  · have c : (30 : Int32) ≤ nI (J1.l 5).length := by rw [l5, show min N 30 = 30 by omega]; decide
    rw [if_pos c] at n5 n7
    have hk := Nat.mod_lt N (show 0 < 30 by decide)
    refine ⟨E1, T.set (N % 30) t, B1, B2, B3, B4, f3, B5, ?_, ?_, nne, fun p hp => ?_, fun h => by omega⟩
    · rw [n5, gput_len, l5]; omega
    · rw [n7, l7]
      unfold gput
      rw [if_neg (nI_pos (by omega)), nI_clamp (by omega), List.map_set]
    · rw [gset_get (by omega)]
      have hp' : p < min N 30 := by omega
      rw [n5, gat_put (by omega) (by omega) (by omega)]
      by_cases e : p = N % 30
      · rw [if_pos e, if_pos e]
        exact ⟨id, hidl, rfl, tmid, by rw [fl]; omega, by omega⟩
      · rw [if_neg e, if_neg e]
        obtain ⟨i, hi, g5, gt, gl, gb⟩ := e6 p hp'
        exact ⟨i, (fold i hi).1, by rw [f5 5 (by decide)]; exact g5, told i hi gt, by rw [hE i hi]; exact gl, gb⟩
