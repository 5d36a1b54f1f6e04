/-! the reference: what the card does with a message, under the invariant (by program: wip/p2/m_pg.py) -/
section KP6
variable {M M' : gMd} {Q : Int32 × List Int32 → Prop} {kr kc cr rr rc wc b : Int}
theorem kRow {m : Nat} (H : kI M Q kr kc cr rr rc wc) (h21 : M.z 21 = -1) (h20 : M.z 20 = 0) (hm : m ≤ 60) (A : ∀ q, ¬ q = 19 → (q < 96 ∨ 156 ≤ q) → M'.a 4 q = M.a 4 q) (z19 : M'.z 19 = m) (By : kBy M') : kI M' Q kr (174 * m) cr rr rc wc ∧ M'.z 21 = -1 := by
  obtain ⟨a1, a2, a3, a4, a5, a6, a7, a8, a9, a10, a11, a12, a13⟩ := H.2.1
  have Z : ∀ q, ¬ q = 19 → (q < 96 ∨ 156 ≤ q) → M'.z q = M.z q := fun q h1 h2 => congrArg Int32.toInt (A q h1 h2)
  have RR : kR1 M' Q (174 * m) := by
    unfold kR1
    rw [z19, Z 16 (by decide) (by omega), Z 17 (by decide) (by omega), Z 18 (by decide) (by omega), Z 20 (by decide) (by omega), Z 21 (by decide) (by omega), Z 22 (by decide) (by omega), Z 23 (by decide) (by omega), Z 24 (by decide) (by omega), Z 25 (by decide) (by omega), Z 26 (by decide) (by omega), Z 30 (by decide) (by omega), A 26 (by decide) (by omega)]
    exact ⟨a1, a2, a3, by omega, a5, fun p => absurd p (by omega), a7, a8, a9, a10, fun p => absurd p (by omega), a12, by omega, fun _ => by omega, fun p => absurd p (by omega)⟩
  exact ⟨⟨H.1.cg fun q hq => A q (by omega) (by omega), RR, By, H.2.2.2.1.cg fun q hq => A q (by omega) (by omega), H.2.2.2.2.1.cg fun q hq => A q (by omega) (by omega), H.2.2.2.2.2.1.cg fun q hq => A q (by omega) (by omega), H.2.2.2.2.2.2.1.cg fun q hq => A q (by omega) (by omega), H.2.2.2.2.2.2.2.cg fun q hq => A q (by omega) (by omega)⟩, (Z 21 (by decide) (by omega)).trans h21⟩
theorem kI.p417 {x : Int32} (H : kI M Q kr kc cr rr rc wc) (h25 : M.z 25 < 0) (hx : 0 ≤ x.toInt ∧ x.toInt ≤ 255) : kI (M.put 4 417 x) Q kr kc cr rr rc wc := by
  have A : ∀ q, ¬ q = 417 → (M.put 4 417 x).a 4 q = M.a 4 q := fun q h => gput_n h
  have z417 : (M.put 4 417 x).z 417 = x.toInt := gz_s
  obtain ⟨x1, x2, x3, x4, x5, x6, x7, x8⟩ := H.2.2.2.1
  generalize M.put 4 417 x = M' at A z417 ⊢
  have Z : ∀ q, ¬ q = 417 → M'.z q = M.z q := fun q h => congrArg Int32.toInt (A q h)
  have X : kX M' := by
    unfold kX
    rw [z417, Z 5 (by decide), Z 9 (by decide), Z 25 (by decide), Z 416 (by decide), Z 418 (by decide), Z 419 (by decide), Z 420 (by decide)]
    exact ⟨x1, hx, x3, x4, x5, x6, x7, fun p => absurd p (by omega)⟩
  exact ⟨H.1.cg fun q hq => A q (by omega), H.2.1.cg fun q hq => A q (by omega), H.2.2.1.cg fun q h1 h2 => A q (by omega), X, H.2.2.2.2.1.cg fun q hq => A q (by omega), H.2.2.2.2.2.1.cg fun q hq => A q (by omega), H.2.2.2.2.2.2.1.cg fun q hq => A q (by omega), H.2.2.2.2.2.2.2.cg fun q hq => A q (by omega)⟩
theorem kI.p418 {x : Int32} {wc' : Int} (H : kI M Q kr kc cr rr rc wc) (hx : -1 ≤ x.toInt ∧ x.toInt ≤ 3) (hx2 : 0 ≤ x.toInt → M.z 25 = -1) (hw : wc ≤ wc') (hw2 : 0 ≤ x.toInt → 226 ≤ wc') : kI (M.put 4 418 x) Q kr kc cr rr rc wc' := by
  have A : ∀ q, ¬ q = 418 → (M.put 4 418 x).a 4 q = M.a 4 q := fun q h => gput_n h
  have z418 : (M.put 4 418 x).z 418 = x.toInt := gz_s
  obtain ⟨x1, x2, x3, x4, x5, x6, x7, x8⟩ := H.2.2.2.1
  obtain ⟨w1, w2, w3, w4⟩ := H.2.2.2.2.2.2.2
  generalize M.put 4 418 x = M' at A z418 ⊢
  have Z : ∀ q, ¬ q = 418 → M'.z q = M.z q := fun q h => congrArg Int32.toInt (A q h)
  have X : kX M' := by
    unfold kX
    rw [z418, Z 5 (by decide), Z 9 (by decide), Z 25 (by decide), Z 416 (by decide), Z 417 (by decide), Z 419 (by decide), Z 420 (by decide), A 417 (by decide), A 26 (by decide)]
    exact ⟨x1, x2, ⟨hx.1, hx.2, hx2⟩, x4, x5, x6, x7, x8⟩
  have W : kWc M' wc' := by
    unfold kWc
    rw [z418, Z 25 (by decide), Z 30 (by decide)]
    exact ⟨by omega, fun p => Int.le_trans (w2 p) hw, fun p => Int.le_trans (w3 p) hw, hw2⟩
  exact ⟨H.1.cg fun q hq => A q (by omega), H.2.1.cg fun q hq => A q (by omega), H.2.2.1.cg fun q h1 h2 => A q (by omega), X, H.2.2.2.2.1.cg fun q hq => A q (by omega), H.2.2.2.2.2.1.cg fun q hq => A q (by omega), H.2.2.2.2.2.2.1.cg fun q hq => A q (by omega), W⟩
theorem kGb {k : Nat} {d x : Int32} (By : kBy M) (hk : 32 ≤ k ∧ k < 416) (hd : gIr d 255) {j : Int32} (e : x = if M.a 4 30 ≤ j then d else M.a 4 k) : gIr x 255 ∧ (M.z 30 ≤ j.toInt → x = d) := by
  rw [e]
  by_cases c : M.a 4 30 ≤ j
  · rw [if_pos c]; exact ⟨hd, fun _ => rfl⟩
  · rw [if_neg c]; exact ⟨By k hk.1 hk.2, fun h => absurd (Int32.le_iff_toInt_le.mpr h) c⟩
theorem kMod {x : Int32} {d e : Nat} (hx : gIr x 255) (hd : 0 < d) (hd2 : d < 256) (he : d ≤ e + 1) : gIr (x - x / nI d * nI d) e ∧ (x = 0 → x - x / nI d * nI d = 0) := by
  obtain ⟨n, hn, rfl⟩ := hx
  rw [nI_rem (by omega) (by omega)]
  refine ⟨⟨n % d, by have := Nat.mod_lt n hd; omega, rfl⟩, fun h => ?_⟩
  have : n = 0 := nI_inj (by omega) (by decide) h
  rw [this, Nat.zero_mod]; rfl
theorem kP1.does (H : kI M Q kr kc cr rr rc wc) (h25 : M.z 25 < 0) (hs : M.z 418 < 0) (h30 : 0 ≤ M.z 30) (hb : kr + kc + cr + rr + 400 ≤ b) (hb2 : 2 ≤ M.z 30 → kr + kc + cr + rr + 10718 ≤ b) : kP1 Q b (pX8_cardDoes M) ∧ ∀ l E, kK M l E → oX8_cardDoes M l E := by
  have I := H.w0 h25 hs
  have By := H.2.2.1
  have q30 := H.2.1.2.2.2.2.2.2.2.2.2.1.2
  have q0 := H.2.1.2.2.2.2.2.2.2.2.2.2.2.2.1
  obtain ⟨g10, g10'⟩ := kGb (k := 353) (d := 0) (j := 1) (x := rX8_gotByte_1_0 M) By (by omega) ⟨0, by decide, rfl⟩ rfl
  obtain ⟨g21, -⟩ := kGb (k := 354) (d := 1) (j := 2) (x := rX8_gotByte_2_1 M) By (by omega) ⟨1, by decide, rfl⟩ rfl
  obtain ⟨g132, g132'⟩ := kGb (k := 353) (d := 32) (j := 1) (x := rX8_gotByte_1_32 M) By (by omega) ⟨32, by decide, rfl⟩ rfl
  have t1 : (1 : Int32).toInt = 1 := by decide
  unfold pX8_cardDoes oX8_cardDoes
  generalize (rX8_gotByte_0_0 M) - (rX8_gotByte_0_0 M) / 8 * 8 = g8
  by_cases d0 : g8 = 0
  · rw [if_pos d0]
    have P := kP1.sends0 (b := b) I h25 hs (gt_nI (show 0 ≤ (M.a 4 30).toInt from h30)) (by have := gt_clamp (show 0 ≤ (M.a 4 30).toInt from h30); have t : M.z 30 = (M.a 4 30).toInt := rfl; omega) (by have := gt_clamp (show 0 ≤ (M.a 4 30).toInt from h30); have t : M.z 30 = (M.a 4 30).toInt := rfl; omega)
    exact ⟨P.1, fun l E K => by rw [if_pos d0]; exact P.2 l E K⟩
  rw [if_neg d0]
  by_cases d1 : g8 = 1
  · rw [if_pos d1]
    obtain ⟨⟨m, hm, em⟩, g61⟩ := kMod (d := 61) (e := 60) g10 (by decide) (by decide) (by decide)
    have em' : rX8_gotByte_1_0 M - rX8_gotByte_1_0 M / 61 * 61 = nI m := em
    have m0 : M.z 30 ≤ 1 → m = 0 := fun h => by
      have := g61 (g10' (by rw [t1]; exact h))
      rw [em] at this
      exact nI_inj (by omega) (by decide) this
    obtain ⟨I0, z21, z19, z20, A0, F0⟩ := kOut0 I (show (0 : Int32) = nI 0 from rfl) (by omega)
    rw [em', nI_clamp (by omega)]
    have gg : ∀ q, (q < 96 ∨ 156 ≤ q) → ((rX8_cardOut_0 M 0).arr 4 (gCpy ((rX8_cardOut_0 M 0).a 4) 96 (fun k => nI k) 0 m)).a 4 q = (rX8_cardOut_0 M 0).a 4 q := fun q hq => garr_s.trans (gCpy_out (by omega))
    obtain ⟨I1, y21⟩ := kRow (M' := ((rX8_cardOut_0 M 0).arr 4 (gCpy ((rX8_cardOut_0 M 0).a 4) 96 (fun k => nI k) 0 m)).put 4 19 (nI m)) I0 z21 z20 hm (fun q h1 h2 => (gput_n h1).trans (gg q h2)) (gz_s.trans (nI_toInt (by omega))) fun q h1 h2 => by
      rw [gput_n (by omega), garr_s]
      unfold gCpy
      by_cases c : 96 ≤ q ∧ q < 96 + m
      · rw [if_pos c]; exact ⟨_, by omega, rfl⟩
      · rw [if_neg c]; exact I0.2.2.1 _ h1 h2
    have P := kP1.out (b := b) I1 y21 (by omega)
    refine ⟨P.1, fun l E K => ?_⟩
    rw [if_neg d0, if_pos d1]
    exact ⟨⟨0, by decide, rfl⟩, ⟨m, hm, rfl⟩, P.2 l E (((F0 l E K).cpy (by omega)).put (by decide) (by decide))⟩
  rw [if_neg d1]
  by_cases d2 : g8 = 2
  · rw [if_pos d2]
    have h4 := (kMod (d := 4) (e := 3) g21 (by decide) (by decide) (by decide)).1
    have h4' : gIr (rX8_gotByte_2_1 M - rX8_gotByte_2_1 M / 4 * 4) 3 := h4
    generalize (rX8_gotByte_2_1 M - rX8_gotByte_2_1 M / 4 * 4) = x4 at h4' ⊢
    have I1 := I.p416 (x := x4) (h4'.ti (by decide))
    obtain ⟨g11, g11'⟩ := kGb (M := M.put 4 416 x4) (k := 353) (d := 1) (j := 1) (x := rX8_gotByte_1_1 (M.put 4 416 x4)) I1.2.2.1 (by omega) ⟨1, by decide, rfl⟩ rfl
    have z30 : (M.put 4 416 x4).z 30 = M.z 30 := gz_n (by decide)
    have z25 : (M.put 4 416 x4).z 25 = M.z 25 := gz_n (by decide)
    have z418 : (M.put 4 416 x4).z 418 = M.z 418 := gz_n (by decide)
    have K1 : ∀ l E, kK M l E → kK (M.put 4 416 x4) l E := fun l E K => K.put (by decide) (by decide)
    generalize rX8_gotByte_1_1 (M.put 4 416 x4) = y at g11 g11' ⊢
    generalize M.put 4 416 x4 = M1 at I1 z30 z25 z418 g11' K1 ⊢
    have I2 := I1.p417 (x := y) (by omega) (g11.ti (by decide))
    have y417 : (M1.put 4 417 y).z 417 = y.toInt := gz_s
    have y30 : (M1.put 4 417 y).z 30 = M1.z 30 := gz_n (by decide)
    have y25 : (M1.put 4 417 y).z 25 = M1.z 25 := gz_n (by decide)
    have y418 : (M1.put 4 417 y).z 418 = M1.z 418 := gz_n (by decide)
    have P : kP1 Q b (pX8_cardWaits (M1.put 4 417 y)) ∧ ∀ l E, kK (M1.put 4 417 y) l E → oX8_cardWaits (M1.put 4 417 y) l E := by
      by_cases c : 2 ≤ M.z 30
      · refine kP1.waits (b := b) (c := 400) (rc' := 400) (wc' := if 3 ≤ M.z 30 then 174 * (M.z 30 - 3) else 0) I2 (by omega) (by omega) (by omega) (by decide) (by decide) (by split <;> omega) (Or.inr ?_) (Or.inr ?_) (by rw [y30, z30]; split <;> omega) (by have := hb2 c; split <;> omega) (by have := hb2 c; split <;> omega)
        · exact Int.ofNat_le.mpr (kSp_S (by decide))
        · exact Int.ofNat_le.mpr (kSp_S (by decide))
      · have y1 : y.toInt = 1 := by rw [g11' (by rw [t1, z30]; omega)]; exact t1
        refine kP1.waits (b := b) (c := 0) (rc' := 0) (wc' := 0) I2 (by omega) (by omega) (by omega) (by decide) (by decide) (by decide) (Or.inr ?_) (Or.inr ?_) (by omega) (by omega) (by omega)
        · rw [y417, y1]; decide
        · rw [y417, y1]; decide
    refine ⟨P.1, fun l E K => ?_⟩
    rw [if_neg d0, if_neg d1, if_pos d2]
    exact P.2 l E ((K1 l E K).put (by decide) (by decide))
  rw [if_neg d2]
  by_cases d3 : g8 = 3
  · rw [if_pos d3]
    obtain ⟨w, ew, hw, hw'⟩ : ∃ w : Int32, (if (rX8_within (rX8_gotByte_1_32 M) 1 254) = 0 then 32 else (rX8_gotByte_1_32 M) : Int32) = w ∧ gIr w 255 ∧ (M.z 30 ≤ 1 → w = 32) := by
      by_cases c : (rX8_within (rX8_gotByte_1_32 M) 1 254) = 0
      · exact ⟨_, if_pos c, ⟨32, by decide, rfl⟩, fun _ => rfl⟩
      · exact ⟨_, if_neg c, g132, fun h => g132' (by rw [t1]; exact h)⟩
    rw [ew]
    have P : kP1 Q b (pX8_asks_1 M 1 w) ∧ ∀ l E, kK M l E → oX8_asks_1 M 1 w l E := by
      by_cases c : 2 ≤ M.z 30
      · refine kP1.asks (b := b) (v := 1) (c := 400) (rc' := 400) (wc' := 226) I rfl (by omega) (hw.ti (by decide)) (fun p => absurd p (by decide)) (by decide) (by decide) (by decide) (fun _ => Or.inr ?_) (fun _ => Or.inr ?_) (fun p => absurd p (by decide)) (fun _ => by decide) hs (by have := hb2 c; omega)
        · exact Int.ofNat_le.mpr (kSp_S (by decide))
        · exact Int.ofNat_le.mpr (kSp_S (by decide))
      · have w32 := hw' (by omega)
        refine kP1.asks (b := b) (v := 1) (c := 0) (rc' := 0) (wc' := 226) I rfl (by omega) (hw.ti (by decide)) (fun p => absurd p (by decide)) (by decide) (by decide) (by decide) (fun _ => Or.inr ?_) (fun _ => Or.inr ?_) (fun p => absurd p (by decide)) (fun _ => by decide) hs (by omega)
        · rw [w32]; decide
        · rw [w32]; decide
    refine ⟨P.1, fun l E K => ?_⟩
    rw [if_neg d0, if_neg d1, if_neg d2, if_pos d3]
    exact P.2 l E K
  rw [if_neg d3]
  by_cases d4 : g8 = 4
  · rw [if_pos d4]
    have P := kP1.asks (b := b) (v := 2) (c := 0) (rc' := 0) (wc' := 0) (w := 0) (y := 2) I rfl (by omega) (by decide) (fun p => absurd p (by decide)) (by decide) (by decide) (by decide) (fun p => absurd p (by decide)) (fun p => absurd p (by decide)) (fun p => absurd p (by decide)) (fun p => absurd p (by decide)) hs (by omega)
    refine ⟨P.1, fun l E K => ?_⟩
    rw [if_neg d0, if_neg d1, if_neg d2, if_neg d3, if_pos d4]
    exact P.2 l E K
  rw [if_neg d4]
  by_cases d5 : g8 = 5
  · rw [if_pos d5]
    have h4 : gIr (rX8_gotByte_1_0 M - rX8_gotByte_1_0 M / 4 * 4) 3 := (kMod (d := 4) (e := 3) g10 (by decide) (by decide) (by decide)).1
    refine ⟨?_, fun l E K => ?_⟩
    · have ht := h4.ti (by decide)
      exact ⟨kr, kc, cr, rr, 0, 226, I.p418 (by omega) (fun _ => by have := H.2.1.2.2.2.2.2.2.2.1; omega) (by decide) (fun _ => by decide), by omega⟩
    · rw [if_neg d0, if_neg d1, if_neg d2, if_neg d3, if_neg d4, if_pos d5]; trivial
  rw [if_neg d5]
  obtain ⟨I0, z21, z19, z20, A0, F0⟩ := kOut0 I (show (1 : Int32) = nI 1 from rfl) (by omega)
  obtain ⟨I1, y21⟩ := kRow (M' := ((rX8_cardOut_0 M 1).put 4 97 (M.a 4 30)).put 4 19 2) (m := 2) I0 z21 z20 (by decide) (fun q h1 h2 => (gput_n h1).trans (gput_n (by omega))) (gz_s.trans (by decide)) fun q h1 h2 => by
    rw [gput_n (by omega)]
    by_cases c : q = 97
    · rw [c, gput_s]; exact gt_ir h30 (show M.z 30 ≤ _ by omega)
    · rw [gput_n c]; exact I0.2.2.1 _ h1 h2
  have P := kP1.out (b := b) I1 y21 (by omega)
  refine ⟨P.1, fun l E K => ?_⟩
  rw [if_neg d0, if_neg d1, if_neg d2, if_neg d3, if_neg d4, if_neg d5]
  exact ⟨⟨1, by decide, rfl⟩, P.2 l E (((F0 l E K).put (by decide) (by decide)).put (by decide) (by decide))⟩
end KP6
