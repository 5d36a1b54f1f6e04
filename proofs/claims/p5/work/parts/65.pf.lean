/-! the reference: the card's answers, under the invariant -/
section KP5
variable {M : gMd} {Q : Int32 × List Int32 → Prop} {kr kc cr rr rc wc b : Int}
theorem kP1.asks {y w : Int32} {v : Nat} {c rc' wc' : Int} (H : kI M Q kr kc cr rr rc wc) (ey : y = nI v) (hv : 1 ≤ v ∧ v ≤ 3) (hz : 0 ≤ w.toInt ∧ w.toInt ≤ 255) (h417 : v = 3 → M.a 4 417 = w) (hc0 : 0 ≤ c) (h0 : 0 ≤ rc') (h1 : 0 ≤ wc')
    (hc : v = 1 ∨ v = 3 → (∀ k : Nat, ∀ f : Nat → Int32, (k : Int) = 192 + v → f 0 = w → Q (kB 1 (nI k) 1 f)) ∨ (kSp (192 + v) 1 w.toInt : Int) ≤ c)
    (hrc : v = 1 ∨ v = 3 → (∀ k : Nat, ∀ f : Nat → Int32, (k : Int) = 224 + v → f 0 = w → Q (kB 0 (nI k) 1 f)) ∨ (kSp (224 + v) 1 w.toInt : Int) ≤ rc')
    (hw : v = 3 → 174 * (M.z 30 - 3) ≤ wc') (hw1 : v = 1 → 226 ≤ wc') (hs : M.z 418 < 0) (hb : kr + kc + cr + rr + rc' + wc' + c ≤ b) : kP1 Q b (pX8_asks_1 M y w) ∧ ∀ l E, kK M l E → oX8_asks_1 M y w l E := by
  have A : ∀ q, ¬ q = 25 → ¬ q = 26 → ((M.put 4 25 y).put 4 26 w).a 4 q = M.a 4 q := fun q h1 h2 => (gput_n h2).trans (gput_n h1)
  have z25 : ((M.put 4 25 y).put 4 26 w).z 25 = v := (gz_n (by decide)).trans (gz_s.trans (by rw [ey, nI_toInt (by omega)]))
  have a26 : ((M.put 4 25 y).put 4 26 w).a 4 26 = w := gput_s
  have z26 : ((M.put 4 25 y).put 4 26 w).z 26 = w.toInt := gz_s
  have KK : ∀ l E, kK M l E → kK ((M.put 4 25 y).put 4 26 w) l E := fun l E K => (K.put (by decide) (by decide)).put (by decide) (by decide)
  unfold pX8_asks_1 oX8_asks_1
  generalize ((M.put 4 25 y).put 4 26 w) = M1 at A z25 a26 z26 KK ⊢
  have Z : ∀ q, ¬ q = 25 → ¬ q = 26 → M1.z q = M.z q := fun q h1 h2 => congrArg Int32.toInt (A q h1 h2)
  have P := kP1.ask (M := M1) (Q := Q) (b := b) (c := c) (by omega) (by omega) hc0 (fun p => by
    rw [z25, z26, a26]
    exact hc (by omega)) fun Q' h hq => ?_
  · exact ⟨P.1, fun l E K => P.2 l E (KK l E K)⟩
  refine ⟨kr, kc, cr, rr, rc', wc', ?_, by omega⟩
  have H' := H.mono h
  obtain ⟨a1, a2, a3, a4, a5, a6, a7, a8, a9, a10, a11, a12, a13⟩ := H'.2.1
  have RR : kR1 M1 Q' kc := by
    unfold kR1
    rw [z25, z26, a26, Z 16 (by decide) (by decide), Z 17 (by decide) (by decide), Z 18 (by decide) (by decide), Z 19 (by decide) (by decide), Z 20 (by decide) (by decide), Z 21 (by decide) (by decide), Z 22 (by decide) (by decide), Z 23 (by decide) (by decide), Z 24 (by decide) (by decide), Z 30 (by decide) (by decide)]
    rw [z25, a26] at hq
    refine ⟨a1, a2, a3, a4, a5, a6, a7, by omega, by omega, a10, fun p k N a f e1 e2 e3 e4 => a11 p k N a f e1 e2 e3 fun j hj => ?_, hq, a13⟩
    rw [e4 j hj, A _ (by omega) (by omega)]
  obtain ⟨x1, x2, x3, x4, x5, x6, x7, x8⟩ := H'.2.2.2.1
  have X : kX M1 := by
    unfold kX
    rw [z25, a26, A 417 (by decide) (by decide), Z 5 (by decide) (by decide), Z 9 (by decide) (by decide), Z 416 (by decide) (by decide), Z 417 (by decide) (by decide), Z 418 (by decide) (by decide), Z 419 (by decide) (by decide), Z 420 (by decide) (by decide)]
    exact ⟨x1, x2, ⟨x3.1, x3.2.1, fun p => absurd p (by omega)⟩, x4, x5, x6, x7, fun p => h417 (by omega)⟩
  have W1 : kRc M1 Q' rc' := by
    unfold kRc
    rw [z25, z26, a26]
    exact ⟨h0, fun p => (hrc (by omega)).imp (fun g k f e1 e2 => h _ (g k f e1 e2)) id⟩
  have W2 : kWc M1 wc' := by
    unfold kWc
    rw [z25, Z 30 (by decide) (by decide), Z 418 (by decide) (by decide)]
    exact ⟨h1, fun p => hw (by omega), fun p => hw1 (by omega), fun p => absurd p (by omega)⟩
  exact ⟨H'.1.cg fun q hq => A q (by omega) (by omega), RR, H'.2.2.1.cg fun q g1 g2 => A q (by omega) (by omega), X, H'.2.2.2.2.1.cg fun q hq => A q (by omega) (by omega), H'.2.2.2.2.2.1.cg fun q hq => A q (by omega) (by omega), W1, W2⟩
theorem kI.w0 (H : kI M Q kr kc cr rr rc wc) (h25 : M.z 25 < 0) (hs : M.z 418 < 0) : kI M Q kr kc cr rr 0 0 :=
  ⟨H.1, H.2.1, H.2.2.1, H.2.2.2.1, H.2.2.2.2.1, H.2.2.2.2.2.1, ⟨Int.le_refl _, fun p => absurd p (by omega)⟩, ⟨Int.le_refl _, fun p => absurd p (by omega), fun p => absurd p (by omega), fun p => absurd p (by omega)⟩⟩
theorem kOut0 {n : Int32} {m : Nat} (H : kI M Q kr kc cr rr rc wc) (en : n = nI m) (hm : m ≤ 60) : kI (rX8_cardOut_0 M n) Q kr (174 * m) cr rr rc wc ∧ (rX8_cardOut_0 M n).z 21 = -1 ∧ (rX8_cardOut_0 M n).z 19 = m ∧ (rX8_cardOut_0 M n).z 20 = 0 ∧ (∀ q, ¬ q = 19 → ¬ q = 20 → ¬ q = 21 → (q < 96 ∨ 156 ≤ q) → (rX8_cardOut_0 M n).a 4 q = M.a 4 q) ∧ ∀ l E, kK M l E → kK (rX8_cardOut_0 M n) l E := by
  obtain ⟨a1, a2, a3, a4, a5, a6, a7, a8, a9, a10, a11, a12, a13⟩ := H.2.1
  have cl : n.toNatClampNeg = m := by rw [en, nI_clamp (by omega)]
  have tn : n.toInt = m := by rw [en, nI_toInt (by omega)]
  have A : ∀ q, ¬ q = 19 → ¬ q = 20 → ¬ q = 21 → (q < 96 ∨ 156 ≤ q) → (rX8_cardOut_0 M n).a 4 q = M.a 4 q := fun q h1 h2 h3 h4 => (gput_n h3).trans ((gput_n h2).trans ((gput_n h1).trans (garr_s.trans (gCpy_out (by omega)))))
  have z21 : (rX8_cardOut_0 M n).z 21 = -1 := gz_s
  have z20 : (rX8_cardOut_0 M n).z 20 = 0 := (gz_n (by decide)).trans gz_s
  have z19 : (rX8_cardOut_0 M n).z 19 = m := (gz_n (by decide)).trans ((gz_n (by decide)).trans (gz_s.trans tn))
  have By : kBy (rX8_cardOut_0 M n) := fun q h1 h2 => by
    unfold rX8_cardOut_0
    rw [gput_n (by omega), gput_n (by omega), gput_n (by omega), garr_s, cl]
    unfold gCpy
    by_cases c : 96 ≤ q ∧ q < 96 + m
    · rw [if_pos c]; exact H.2.2.1 _ (by omega) (by omega)
    · rw [if_neg c]; exact H.2.2.1 _ h1 h2
  have F3 : ∀ l E, kK M l E → kK (rX8_cardOut_0 M n) l E := fun l E K => (((K.cpy (by omega)).put (by decide) (by decide)).put (by decide) (by decide)).put (by decide) (by decide)
  refine ⟨?_, z21, z19, z20, A, F3⟩
  generalize rX8_cardOut_0 M n = M' at A z19 z20 z21 By ⊢
  have Z : ∀ q, ¬ q = 19 → ¬ q = 20 → ¬ q = 21 → (q < 96 ∨ 156 ≤ q) → M'.z q = M.z q := fun q h1 h2 h3 h4 => congrArg Int32.toInt (A q h1 h2 h3 h4)
  have RR : kR1 M' Q (174 * m) := by
    unfold kR1
    rw [z19, z20, z21, Z 16 (by decide) (by decide) (by decide) (by omega), Z 17 (by decide) (by decide) (by decide) (by omega), Z 18 (by decide) (by decide) (by decide) (by omega), Z 22 (by decide) (by decide) (by decide) (by omega), Z 23 (by decide) (by decide) (by decide) (by omega), Z 24 (by decide) (by decide) (by decide) (by omega), Z 25 (by decide) (by decide) (by decide) (by omega), Z 26 (by decide) (by decide) (by decide) (by omega), Z 30 (by decide) (by decide) (by decide) (by omega), A 26 (by decide) (by decide) (by decide) (by omega)]
    exact ⟨a1, a2, a3, by omega, by omega, fun p => absurd p (by omega), a7, a8, a9, a10, fun p => absurd p (by omega), a12, by omega, fun _ => by omega, fun p => absurd p (by omega)⟩
  exact ⟨H.1.cg fun q hq => A q (by omega) (by omega) (by omega) (by omega), RR, By, H.2.2.2.1.cg fun q hq => A q (by omega) (by omega) (by omega) (by omega), H.2.2.2.2.1.cg fun q hq => A q (by omega) (by omega) (by omega) (by omega), H.2.2.2.2.2.1.cg fun q hq => A q (by omega) (by omega) (by omega) (by omega), H.2.2.2.2.2.2.1.cg fun q hq => A q (by omega) (by omega) (by omega) (by omega), H.2.2.2.2.2.2.2.cg fun q hq => A q (by omega) (by omega) (by omega) (by omega)⟩
theorem kP1.sends0 {n : Int32} {m : Nat} (H : kI M Q kr kc cr rr rc wc) (h25 : M.z 25 < 0) (hs : M.z 418 < 0) (en : n = nI m) (hm : m ≤ 60) (hb : kr + 174 * m + cr + rr + 52 ≤ b) : kP1 Q b (pX8_cardSends_0 M n) ∧ ∀ l E, kK M l E → oX8_cardSends_0 M n l E := by
  obtain ⟨I, z21, -, -, -, F3⟩ := kOut0 (H.w0 h25 hs) en hm
  have P := kP1.out (b := b) I z21 (by omega)
  exact ⟨P.1, fun l E K => ⟨⟨m, hm, en⟩, P.2 l E (F3 l E K)⟩⟩
theorem kOut3 {n : Int32} {m : Nat} (H : kI M Q kr kc cr rr rc wc) (en : n = nI m) (hm : m ≤ 60) : kI (rX8_cardOut_3 M n) Q kr (174 * m) cr rr rc wc ∧ (rX8_cardOut_3 M n).z 21 = -1 ∧ (rX8_cardOut_3 M n).z 19 = m ∧ (rX8_cardOut_3 M n).z 20 = 0 ∧ (∀ q, ¬ q = 19 → ¬ q = 20 → ¬ q = 21 → (q < 96 ∨ 156 ≤ q) → (rX8_cardOut_3 M n).a 4 q = M.a 4 q) ∧ ∀ l E, kK M l E → kK (rX8_cardOut_3 M n) l E := by
  obtain ⟨a1, a2, a3, a4, a5, a6, a7, a8, a9, a10, a11, a12, a13⟩ := H.2.1
  have cl : n.toNatClampNeg = m := by rw [en, nI_clamp (by omega)]
  have tn : n.toInt = m := by rw [en, nI_toInt (by omega)]
  have A : ∀ q, ¬ q = 19 → ¬ q = 20 → ¬ q = 21 → (q < 96 ∨ 156 ≤ q) → (rX8_cardOut_3 M n).a 4 q = M.a 4 q := fun q h1 h2 h3 h4 => (gput_n h3).trans ((gput_n h2).trans ((gput_n h1).trans (garr_s.trans (gCpy_out (by omega)))))
  have z21 : (rX8_cardOut_3 M n).z 21 = -1 := gz_s
  have z20 : (rX8_cardOut_3 M n).z 20 = 0 := (gz_n (by decide)).trans gz_s
  have z19 : (rX8_cardOut_3 M n).z 19 = m := (gz_n (by decide)).trans ((gz_n (by decide)).trans (gz_s.trans tn))
  have By : kBy (rX8_cardOut_3 M n) := fun q h1 h2 => by
    unfold rX8_cardOut_3
    rw [gput_n (by omega), gput_n (by omega), gput_n (by omega), garr_s, cl]
    unfold gCpy
    by_cases c : 96 ≤ q ∧ q < 96 + m
    · rw [if_pos c]; exact H.2.2.1 _ (by omega) (by omega)
    · rw [if_neg c]; exact H.2.2.1 _ h1 h2
  have F3 : ∀ l E, kK M l E → kK (rX8_cardOut_3 M n) l E := fun l E K => (((K.cpy (by omega)).put (by decide) (by decide)).put (by decide) (by decide)).put (by decide) (by decide)
  refine ⟨?_, z21, z19, z20, A, F3⟩
  generalize rX8_cardOut_3 M n = M' at A z19 z20 z21 By ⊢
  have Z : ∀ q, ¬ q = 19 → ¬ q = 20 → ¬ q = 21 → (q < 96 ∨ 156 ≤ q) → M'.z q = M.z q := fun q h1 h2 h3 h4 => congrArg Int32.toInt (A q h1 h2 h3 h4)
  have RR : kR1 M' Q (174 * m) := by
    unfold kR1
    rw [z19, z20, z21, Z 16 (by decide) (by decide) (by decide) (by omega), Z 17 (by decide) (by decide) (by decide) (by omega), Z 18 (by decide) (by decide) (by decide) (by omega), Z 22 (by decide) (by decide) (by decide) (by omega), Z 23 (by decide) (by decide) (by decide) (by omega), Z 24 (by decide) (by decide) (by decide) (by omega), Z 25 (by decide) (by decide) (by decide) (by omega), Z 26 (by decide) (by decide) (by decide) (by omega), Z 30 (by decide) (by decide) (by decide) (by omega), A 26 (by decide) (by decide) (by decide) (by omega)]
    exact ⟨a1, a2, a3, by omega, by omega, fun p => absurd p (by omega), a7, a8, a9, a10, fun p => absurd p (by omega), a12, by omega, fun _ => by omega, fun p => absurd p (by omega)⟩
  exact ⟨H.1.cg fun q hq => A q (by omega) (by omega) (by omega) (by omega), RR, By, H.2.2.2.1.cg fun q hq => A q (by omega) (by omega) (by omega) (by omega), H.2.2.2.2.1.cg fun q hq => A q (by omega) (by omega) (by omega) (by omega), H.2.2.2.2.2.1.cg fun q hq => A q (by omega) (by omega) (by omega) (by omega), H.2.2.2.2.2.2.1.cg fun q hq => A q (by omega) (by omega) (by omega) (by omega), H.2.2.2.2.2.2.2.cg fun q hq => A q (by omega) (by omega) (by omega) (by omega)⟩
theorem kP1.sends3 {n : Int32} {m : Nat} (H : kI M Q kr kc cr rr rc wc) (h25 : M.z 25 < 0) (hs : M.z 418 < 0) (en : n = nI m) (hm : m ≤ 60) (hb : kr + 174 * m + cr + rr + 52 ≤ b) : kP1 Q b (pX8_cardSends_3 M n) ∧ ∀ l E, kK M l E → oX8_cardSends_3 M n l E := by
  obtain ⟨I, z21, -, -, -, F3⟩ := kOut3 (H.w0 h25 hs) en hm
  have P := kP1.out (b := b) I z21 (by omega)
  exact ⟨P.1, fun l E K => ⟨⟨m, hm, en⟩, P.2 l E (F3 l E K)⟩⟩
theorem kI.p416 {x : Int32} (H : kI M Q kr kc cr rr rc wc) (hx : 0 ≤ x.toInt ∧ x.toInt ≤ 3) : kI (M.put 4 416 x) Q kr kc cr rr rc wc := by
  have A : ∀ q, ¬ q = 416 → (M.put 4 416 x).a 4 q = M.a 4 q := fun q h => gput_n h
  obtain ⟨x1, x2, x3, x4, x5, x6, x7, x8⟩ := H.2.2.2.1
  have X : kX (M.put 4 416 x) := by
    unfold kX
    rw [gz_s, gz_n (by decide), gz_n (by decide), gz_n (by decide), gz_n (by decide), gz_n (by decide), gz_n (by decide), gz_n (by decide), A 417 (by decide), A 26 (by decide)]
    exact ⟨hx, x2, x3, x4, x5, x6, x7, x8⟩
  exact ⟨H.1.cg fun q hq => A q (by omega), H.2.1.cg fun q hq => A q (by omega), H.2.2.1.cg fun q h1 h2 => A q (by omega), X, H.2.2.2.2.1.cg fun q hq => A q (by omega), H.2.2.2.2.2.1.cg fun q hq => A q (by omega), H.2.2.2.2.2.2.1.cg fun q hq => A q (by omega), H.2.2.2.2.2.2.2.cg fun q hq => A q (by omega)⟩
theorem kP1.waits {c rc' wc' : Int} (H : kI M Q kr kc cr rr rc wc) (h25 : M.z 25 < 0) (hs : M.z 418 < 0) (h30 : M.z 30 ≤ 60) (hc0 : 0 ≤ c) (h0 : 0 ≤ rc') (h1 : 0 ≤ wc')
    (hc : (∀ k : Nat, ∀ f : Nat → Int32, (k : Int) = 195 → f 0 = M.a 4 417 → Q (kB 1 (nI k) 1 f)) ∨ (kSp 195 1 (M.z 417) : Int) ≤ c)
    (hrc : (∀ k : Nat, ∀ f : Nat → Int32, (k : Int) = 227 → f 0 = M.a 4 417 → Q (kB 0 (nI k) 1 f)) ∨ (kSp 227 1 (M.z 417) : Int) ≤ rc')
    (hw : 174 * (M.z 30 - 3) ≤ wc') (hb : kr + kc + cr + rr + rc' + wc' + c ≤ b) (hb2 : kr + cr + rr + wc' + 52 ≤ b) : kP1 Q b (pX8_cardWaits M) ∧ ∀ l E, kK M l E → oX8_cardWaits M l E := by
  obtain ⟨x1, x2, x3, x4, x5, x6, x7, x8⟩ := H.2.2.2.1
  unfold pX8_cardWaits oX8_cardWaits
  by_cases d1 : M.a 4 416 ≤ 0
  · rw [if_pos d1]
    by_cases d2 : M.a 4 30 ≤ 3
    · rw [if_pos d2]
      have P := kP1.sends3 (b := b) H h25 hs (show (0 : Int32) = nI 0 from rfl) (by omega) (by omega)
      exact ⟨P.1, fun l E K => by rw [if_pos d1, if_pos d2]; exact P.2 l E K⟩
    · rw [if_neg d2]
      have d2' : ¬ M.z 30 ≤ 3 := fun h => d2 (Int32.le_iff_toInt_le.mpr h)
      have et : (M.a 4 30 - 3).toInt = M.z 30 - 3 := gt_sub (show _ ≤ M.z 30 - 3 by omega) (show M.z 30 - 3 < _ by omega)
      have ge := gt_nI (show 0 ≤ (M.a 4 30 - 3).toInt by omega)
      have gc := gt_clamp (show 0 ≤ (M.a 4 30 - 3).toInt by omega)
      have P := kP1.sends3 (b := b) H h25 hs ge (by omega) (by omega)
      exact ⟨P.1, fun l E K => by rw [if_pos d1, if_neg d2]; exact P.2 l E K⟩
  · rw [if_neg d1]
    have d1' : ¬ M.z 416 ≤ 0 := fun h => d1 (Int32.le_iff_toInt_le.mpr h)
    have et : (M.a 4 416 - 1).toInt = M.z 416 - 1 := gt_sub (show _ ≤ M.z 416 - 1 by omega) (show M.z 416 - 1 < _ by omega)
    have I := H.p416 (x := M.a 4 416 - 1) (by omega)
    have P := kP1.asks (b := b) (c := c) (rc' := rc') (wc' := wc') (w := M.a 4 417) I (show (3 : Int32) = nI 3 from rfl) (by omega) x2 (fun _ => gput_n (by decide)) hc0 h0 h1 (fun _ => hc) (fun _ => hrc) (fun _ => by rw [gz_n (by decide)]; exact hw) (fun p => absurd p (by decide)) (by rw [gz_n (by decide)]; exact hs) hb
    exact ⟨P.1, fun l E K => by rw [if_neg d1]; exact P.2 l E (K.put (by decide) (by decide))⟩
theorem kI.p25 {x : Int32} (H : kI M Q kr kc cr rr rc wc) : kI (M.put 4 25 (-1)) Q kr kc cr rr rc wc := by
  have A : ∀ q, ¬ q = 25 → (M.put 4 25 (-1)).a 4 q = M.a 4 q := fun q h => gput_n h
  have z25 : (M.put 4 25 (-1)).z 25 = -1 := gz_s
  obtain ⟨x1, x2, x3, x4, x5, x6, x7, x8⟩ := H.2.2.2.1
  generalize M.put 4 25 (-1) = M' at A z25 ⊢
  have Z : ∀ q, ¬ q = 25 → M'.z q = M.z q := fun q h => congrArg Int32.toInt (A q h)
  have X : kX M' := by
    unfold kX
    rw [z25, Z 5 (by decide), Z 9 (by decide), Z 416 (by decide), Z 417 (by decide), Z 418 (by decide), Z 419 (by decide), Z 420 (by decide)]
    exact ⟨x1, x2, ⟨x3.1, x3.2.1, fun _ => rfl⟩, x4, x5, x6, x7, fun p => absurd p (by decide)⟩
  obtain ⟨a1, a2, a3, a4, a5, a6, a7, a8, a9, a10, a11, a12, a13⟩ := H.2.1
  have RR : kR1 M' Q kc := by
    unfold kR1
    rw [z25, Z 16 (by decide), Z 17 (by decide), Z 18 (by decide), Z 19 (by decide), Z 20 (by decide), Z 21 (by decide), Z 22 (by decide), Z 23 (by decide), Z 24 (by decide), Z 26 (by decide), Z 30 (by decide)]
    exact ⟨a1, a2, a3, a4, a5, a6, a7, by omega, a9, a10, fun p k N a f e1 e2 e3 e4 => a11 p k N a f e1 e2 e3 fun j hj => by rw [e4 j hj, A _ (by omega)], fun p => absurd p (by decide), a13⟩
  have W1 : kRc M' Q rc := by
    unfold kRc
    rw [z25]
    exact ⟨H.2.2.2.2.2.2.1.1, fun p => absurd p (by decide)⟩
  have W2 : kWc M' wc := by
    obtain ⟨w1, w2, w3, w4⟩ := H.2.2.2.2.2.2.2
    unfold kWc
    rw [z25, Z 418 (by decide)]
    exact ⟨w1, fun p => absurd p (by decide), fun p => absurd p (by decide), w4⟩
  exact ⟨H.1.cg fun q hq => A q (by omega), RR, H.2.2.1.cg fun q h1 h2 => A q (by omega), X, H.2.2.2.2.1.cg fun q hq => A q (by omega), H.2.2.2.2.2.1.cg fun q hq => A q (by omega), W1, W2⟩
theorem kP1.answered (H : kI M Q kr kc cr rr rc wc) (h25 : 0 ≤ M.z 25) (hs : M.z 418 < 0) (hb : kr + kc + cr + rr + rc + wc + 52 ≤ b) : kP1 Q b (pX8_cardAnswered M) ∧ ∀ l E, kK M l E → oX8_cardAnswered M l E := by
  obtain ⟨x1, x2, x3, x4, x5, x6, x7, x8⟩ := H.2.2.2.1
  obtain ⟨a1, a2, a3, a4, a5, a6, a7, a8, a9, a10, a11, a12, a13⟩ := H.2.1
  obtain ⟨w1, w2, w3, w4⟩ := H.2.2.2.2.2.2.2
  obtain ⟨v1, v2⟩ := H.2.2.2.2.2.2.1
  have y0 := H.2.2.2.2.1.1
  have y1 := H.2.2.2.2.2.1.1
  have y2 := H.1.2.2.2.2.2.2.2.2.2.2.2.2.1
  have I := H.p25 (x := 0)
  have t25 : (M.put 4 25 (-1)).z 25 < 0 := by rw [gz_s]; decide
  have ts : (M.put 4 25 (-1)).z 418 < 0 := by rw [gz_n (by decide)]; exact hs
  unfold pX8_cardAnswered oX8_cardAnswered
  by_cases d3 : M.a 4 25 = 3
  · rw [if_pos d3]
    have d3' : M.z 25 = 3 := by show (M.a 4 25).toInt = 3; rw [d3]; decide
    have I2 : kI ((M.put 4 25 (-1)).put 4 425 ((M.a 4 425) + 1)) Q kr kc cr rr rc wc := I.cg fun q hq _ _ _ _ _ _ => gput_n (by omega)
    have e417 : ((M.put 4 25 (-1)).put 4 425 ((M.a 4 425) + 1)).a 4 417 = M.a 4 417 := (gput_n (by decide)).trans (gput_n (by decide))
    have f417 : ((M.put 4 25 (-1)).put 4 425 ((M.a 4 425) + 1)).z 417 = M.z 26 := (congrArg Int32.toInt e417).trans (congrArg Int32.toInt (x8 d3'))
    have P := kP1.waits (b := b) (c := 0) (rc' := rc) (wc' := wc) I2 (by rw [gz_n (by decide)]; exact t25) (by rw [gz_n (by decide)]; exact ts) (by rw [gz_n (by decide), gz_n (by decide)]; exact a10.2) (by omega) v1 w1
      (Or.inl fun k f e1 e2 => a12 (Or.inr d3') k f (by omega) (by rw [e2, e417, x8 d3']))
      ((v2 (Or.inr d3')).imp (fun g k f e1 e2 => g k f (by omega) (by rw [e2, e417, x8 d3'])) fun g => by rw [f417]; rw [d3'] at g; exact g)
      (by rw [gz_n (by decide), gz_n (by decide)]; exact w2 d3') (by omega) (by omega)
    exact ⟨P.1, fun l E K => by rw [if_pos d3]; exact P.2 l E ((K.put (by decide) (by decide)).put (by decide) (by decide))⟩
  · rw [if_neg d3]
    by_cases d1 : M.a 4 25 = 1
    · rw [if_pos d1]
      have d1' : M.z 25 = 1 := by show (M.a 4 25).toInt = 1; rw [d1]; decide
      have := w3 d1'
      have P := kP1.sends0 (b := b) I t25 ts (show (1 : Int32) = nI 1 from rfl) (by omega) (by omega)
      exact ⟨P.1, fun l E K => by rw [if_neg d3, if_pos d1]; exact P.2 l E (K.put (by decide) (by decide))⟩
    · rw [if_neg d1]
      have P := kP1.R (b := b) I (show (0 : Int32) = nI 0 from rfl) (by omega) (by omega)
      exact ⟨P.1, fun l E K => by rw [if_neg d3, if_neg d1]; exact P.2 l E (K.put (by decide) (by decide))⟩
end KP5
