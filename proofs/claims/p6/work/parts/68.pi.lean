/-! the reference: the reader's half of a turn, under the invariant (by program: wip/p2/m_pi.py) -/
section KP8
variable {M : gMd} {Q : Int32 × List Int32 → Prop} {kr kc cr rr rc wc b : Int}
theorem kMd.cg {M M' : gMd} {k N : Nat} {f : Nat → Int32} {ex tg : Int} (h : ∀ q, q < 11 ∨ q = 17 ∨ q = 24 → M'.a 4 q = M.a 4 q) (H : kMd M k N f ex tg) : kMd M' k N f ex tg := by
  unfold kMd gMd.z
  unfold kMd gMd.z at H
  rw [h 5 (by omega), h 9 (by omega), h 6 (by omega), h 7 (by omega), h 10 (by omega), h 17 (by omega), h 0 (by omega), h 24 (by omega)]
  exact H
theorem kP0.p422 {P : gMd × Option (Int32 × Int32)} {v : Int32} (H : kP0 Q b P) : kP0 Q b (P.1.put 4 422 v, P.2) := by
  obtain ⟨M1, o⟩ := P
  cases o with
  | none => exact ⟨kEnd.cg (M := M1) (fun q hq _ _ _ _ _ _ => gput_n (by omega)) (Int.le_refl _) H.1, fun h => H.2 ((gput_n (by decide)).symm.trans h)⟩
  | some t =>
    obtain ⟨x, n⟩ := t
    obtain ⟨k, N, c, ex, tg, h1, h2, h3, h4, h5, h6, h7, h8, h9⟩ := H
    exact ⟨k, N, c, ex, tg, h1, h2, h3, h4, h5, h6, h7, kMd.cg (M := M1) (fun q hq => gput_n (by omega)) h8, fun Q' a1 a2 => kEnd.cg (M := M1) (fun q hq _ _ _ _ _ _ => gput_n (by omega)) (Int.le_refl _) (h9 Q' a1 a2)⟩
theorem kP0.fin {P : gMd × Option (Int32 × Int32)} (H : kP0 Q b P) (h34 : P.1.f 34 = 0) : kP0 Q b (if P.1.f 34 ≤ 0 then (P.1.put 4 422 0, P.2) else pX8_triesOn P.1) := by
  rw [if_pos (by rw [h34]; decide)]
  exact H.p422
theorem kI.p419 {x : Int32} (H : kI M Q kr kc cr rr rc wc) (hx : 0 ≤ x.toInt ∧ x.toInt ≤ 4) (h420 : M.z 420 = 0) (h9 : ¬ x.toInt = 1 → ¬ x.toInt = 4 → M.z 9 = -1) : kI (M.put 4 419 x) Q kr kc cr rr rc wc := by
  have A : ∀ q, ¬ q = 419 → (M.put 4 419 x).a 4 q = M.a 4 q := fun q h => gput_n h
  have z : (M.put 4 419 x).z 419 = x.toInt := gz_s
  obtain ⟨x1, x2, x3, x4, x5, x6, x7, x8⟩ := H.2.2.2.1
  generalize M.put 4 419 x = M' at A z ⊢
  have Z : ∀ q, ¬ q = 419 → M'.z q = M.z q := fun q h => congrArg Int32.toInt (A q h)
  have X : kX M' := by
    unfold kX
    rw [z, Z 5 (by decide), Z 9 (by decide), Z 25 (by decide), Z 416 (by decide), Z 417 (by decide), Z 418 (by decide), Z 420 (by decide), A 417 (by decide), A 26 (by decide)]
    exact ⟨x1, x2, x3, hx, x5, x6, fun p => ⟨h420, h9 p⟩, x8⟩
  exact ⟨H.1.cg fun q hq => A q (by omega), H.2.1.cg fun q hq => A q (by omega), H.2.2.1.cg fun q h1 h2 => A q (by omega), X, H.2.2.2.2.1.cg fun q hq => A q (by omega), H.2.2.2.2.2.1.cg fun q hq => A q (by omega), H.2.2.2.2.2.2.1.cg fun q hq => A q (by omega), H.2.2.2.2.2.2.2.cg fun q hq => A q (by omega)⟩
theorem kDone419 {M : gMd} : ¬ (rX8_done M).a 4 419 = 1 := by
  unfold rX8_done
  rw [gput_n (by decide), gput_s]; decide
theorem kI.done (H : kI M Q kr kc cr rr rc wc) (h420 : M.z 420 = 0) (h9 : M.z 9 = -1) : kI (rX8_done M) Q kr kc cr rr rc wc :=
  (H.p419 (x := 2) (by decide) h420 fun _ _ => h9).cg fun q hq _ _ _ _ _ _ => gput_n (by omega)
theorem kP0.asks {y w : Int32} {v : Nat} {c rr' : Int} (H : kI M Q kr kc cr rr rc wc) (ey : y = nI v) (hv : v ≤ 1) (hz : 0 ≤ w.toInt ∧ w.toInt ≤ 255) (h420 : M.z 420 = 0) (h419 : M.z 419 = 1) (h5 : v = 1 → M.z 5 = -1) (hc0 : 0 ≤ c) (h0 : 0 ≤ rr')
    (hc : v = 1 → (kSp (192 + v) 1 w.toInt : Int) ≤ c) (hr : v = 1 → 400 ≤ rr') (hb : kr + kc + cr + rr' + rc + wc + c + 52 ≤ b) : kP0 Q b (pX8_asks_0 M y w) ∧ ∀ l E, kK M l E → oX8_asks_0 M y w l E := by
  have A : ∀ q, ¬ q = 9 → ¬ q = 10 → ((M.put 4 9 y).put 4 10 w).a 4 q = M.a 4 q := fun q h1 h2 => (gput_n h2).trans (gput_n h1)
  have z9 : ((M.put 4 9 y).put 4 10 w).z 9 = v := (gz_n (by decide)).trans (gz_s.trans (by rw [ey, nI_toInt (by omega)]))
  have a10 : ((M.put 4 9 y).put 4 10 w).a 4 10 = w := gput_s
  have z10 : ((M.put 4 9 y).put 4 10 w).z 10 = w.toInt := gz_s
  have KK : ∀ l E, kK M l E → kK ((M.put 4 9 y).put 4 10 w) l E := fun l E K => (K.put (by decide) (by decide)).put (by decide) (by decide)
  unfold pX8_asks_0 oX8_asks_0
  generalize ((M.put 4 9 y).put 4 10 w) = M1 at A z9 a10 z10 KK ⊢
  have Z : ∀ q, ¬ q = 9 → ¬ q = 10 → M1.z q = M.z q := fun q h1 h2 => congrArg Int32.toInt (A q h1 h2)
  have P := kP0.ask (M := M1) (Q := Q) (b := b) (c := c) (by omega) (by omega) hc0 (fun p => by
    rw [z9, z10, a10]
    exact Or.inr (hc (by omega))) fun Q' h hq => ?_
  · exact ⟨P.1, fun l E K => P.2 l E (KK l E K)⟩
  refine ⟨kr, kc, cr, rr', rc, wc, ?_, by omega⟩
  have H' := H.mono h
  obtain ⟨a1, a2, a3, a4, a5, a6, a7, a8, a9, a10', a11, a12, a13⟩ := H'.1
  have RR : kR0 M1 Q' kr := by
    unfold kR0
    rw [z9, z10, a10, Z 0 (by decide) (by decide), Z 1 (by decide) (by decide), Z 2 (by decide) (by decide), Z 3 (by decide) (by decide), Z 4 (by decide) (by decide), Z 5 (by decide) (by decide), Z 6 (by decide) (by decide), Z 7 (by decide) (by decide), Z 8 (by decide) (by decide), Z 14 (by decide) (by decide)]
    rw [z9, a10] at hq
    refine ⟨a1, a2, a3, a4, a5, a6, a7, by omega, by omega, a10', fun p k N a f e1 e2 e3 e4 => a11 p k N a f e1 e2 e3 fun j hj => ?_, hq, a13⟩
    rw [e4 j hj, A _ (by omega) (by omega)]
  obtain ⟨x1, x2, x3, x4, x5, x6, x7, x8⟩ := H'.2.2.2.1
  have X : kX M1 := by
    unfold kX
    rw [z9, A 417 (by decide) (by decide), A 26 (by decide) (by decide), Z 5 (by decide) (by decide), Z 25 (by decide) (by decide), Z 416 (by decide) (by decide), Z 417 (by decide) (by decide), Z 418 (by decide) (by decide), Z 419 (by decide) (by decide), Z 420 (by decide) (by decide)]
    exact ⟨x1, x2, x3, x4, x5, ⟨fun p => absurd h420 p, fun p => h5 (by omega)⟩, fun p => absurd h419 p, x8⟩
  have C : kCr M1 cr := by
    obtain ⟨y1, y2, y3⟩ := H'.2.2.2.2.1
    unfold kCr
    rw [z9, Z 0 (by decide) (by decide), Z 3 (by decide) (by decide), Z 5 (by decide) (by decide), Z 6 (by decide) (by decide), Z 17 (by decide) (by decide), Z 24 (by decide) (by decide), Z 420 (by decide) (by decide)]
    exact ⟨y1, y2, fun p => absurd p (by omega)⟩
  have W : kRr M1 Q' rr' := by
    unfold kRr
    rw [z9, Z 420 (by decide) (by decide)]
    exact ⟨h0, ⟨fun p => absurd p (by omega), fun p => absurd p (by omega)⟩, fun p => Or.inr (hr (by omega))⟩
  exact ⟨RR, H'.2.1.cg fun q hq => A q (by omega) (by omega), H'.2.2.1.cg fun q g1 g2 => A q (by omega) (by omega), X, C, W, H'.2.2.2.2.2.2.1.cg fun q hq => A q (by omega) (by omega), H'.2.2.2.2.2.2.2.cg fun q hq => A q (by omega) (by omega)⟩
theorem kEmp0 (H : kI M Q kr kc cr rr rc wc) : kI (rX8_empties_0 M) Q kr kc cr rr rc wc := by
  obtain ⟨a1, a2, a3, a4, a5, a6, a7, a8, a9, a10, a11, a12, a13⟩ := H.1
  have A : ∀ q, ¬ q = 3 → ¬ q = 4 → ¬ q = 5 → ¬ q = 8 → (rX8_empties_0 M).a 4 q = M.a 4 q := fun q h0 h1 h2 h3 => (gput_n h3).trans ((gput_n h2).trans ((gput_n h1).trans (gput_n h0)))
  have z8 : (rX8_empties_0 M).z 8 = 0 := gz_s
  have z5 : (rX8_empties_0 M).z 5 = -1 := (gz_n (by decide)).trans gz_s
  have z4 : (rX8_empties_0 M).z 4 = 0 := (gz_n (by decide)).trans ((gz_n (by decide)).trans gz_s)
  have z3 : (rX8_empties_0 M).z 3 = 0 := (gz_n (by decide)).trans ((gz_n (by decide)).trans ((gz_n (by decide)).trans gz_s))
  have h5 := H.2.2.2.1.2.2.2.2.2.1
  generalize rX8_empties_0 M = M' at A z3 z4 z5 z8 ⊢
  have Z : ∀ q, ¬ q = 3 → ¬ q = 4 → ¬ q = 5 → ¬ q = 8 → M'.z q = M.z q := fun q h0 h1 h2 h3 => congrArg Int32.toInt (A q h0 h1 h2 h3)
  have RR : kR0 M' Q kr := by
    unfold kR0
    rw [z3, z4, z5, z8, Z 0 (by decide) (by decide) (by decide) (by decide), Z 1 (by decide) (by decide) (by decide) (by decide), Z 2 (by decide) (by decide) (by decide) (by decide), Z 9 (by decide) (by decide) (by decide) (by decide), Z 10 (by decide) (by decide) (by decide) (by decide), Z 14 (by decide) (by decide) (by decide) (by decide), A 10 (by decide) (by decide) (by decide) (by decide)]
    exact ⟨a1, a2, a3, by omega, by omega, fun p => absurd p (by omega), by omega, a8, a9, a10, fun p => absurd p (by omega), a12, by omega, fun _ => by omega, fun p => absurd p (by omega)⟩
  obtain ⟨x1, x2, x3, x4, x5, x6, x7, x8⟩ := H.2.2.2.1
  have X : kX M' := by
    unfold kX
    rw [z5, Z 9 (by decide) (by decide) (by decide) (by decide), Z 25 (by decide) (by decide) (by decide) (by decide), Z 416 (by decide) (by decide) (by decide) (by decide), Z 417 (by decide) (by decide) (by decide) (by decide), Z 418 (by decide) (by decide) (by decide) (by decide), Z 419 (by decide) (by decide) (by decide) (by decide), Z 420 (by decide) (by decide) (by decide) (by decide), A 417 (by decide) (by decide) (by decide) (by decide), A 26 (by decide) (by decide) (by decide) (by decide)]
    exact ⟨x1, x2, x3, x4, x5, ⟨fun p => ⟨rfl, (x6.1 p).2⟩, fun _ => rfl⟩, x7, x8⟩
  have C : kCr M' (cr) := by
    obtain ⟨y1, y2, y3⟩ := H.2.2.2.2.1
    unfold kCr
    rw [z3, z5, Z 0 (by decide) (by decide) (by decide) (by decide), Z 6 (by decide) (by decide) (by decide) (by decide), Z 9 (by decide) (by decide) (by decide) (by decide), Z 17 (by decide) (by decide) (by decide) (by decide), Z 24 (by decide) (by decide) (by decide) (by decide), Z 420 (by decide) (by decide) (by decide) (by decide)]
    exact ⟨y1, y2, fun p => ⟨(y3 (Or.inl (p.resolve_right fun q => absurd q.1 (by omega)))).1, fun q => absurd q (by omega)⟩⟩
  have W1 : kRr M' Q rr := by
    obtain ⟨v1, v2, v3⟩ := H.2.2.2.2.2.1
    unfold kRr
    rw [z3, z4, Z 420 (by decide) (by decide) (by decide) (by decide), Z 9 (by decide) (by decide) (by decide) (by decide), A 10 (by decide) (by decide) (by decide) (by decide)]
    exact ⟨v1, ⟨v2.1, fun _ => by omega⟩, v3⟩
  exact ⟨RR, H.2.1.cg fun q hq => A q (by omega) (by omega) (by omega) (by omega), H.2.2.1.cg fun q g1 g2 => A q (by omega) (by omega) (by omega) (by omega), X, C, W1, H.2.2.2.2.2.2.1.cg fun q hq => A q (by omega) (by omega) (by omega) (by omega), H.2.2.2.2.2.2.2.cg fun q hq => A q (by omega) (by omega) (by omega) (by omega)⟩
/-- what is tried once more -/
theorem kP0.on {v : Nat} {tc : Int} (H : kI M Q kr kc cr rr rc wc) (h420 : M.z 420 = 0) (h419 : M.z 419 = 1) (e34 : M.f 34 = nI v) (hv : v = 1 ∨ v = 2 ∨ v = 3) (h1 : v = 1 → 0 ≤ M.z 9) (h2 : v = 2 → M.f 35 = nI 1 ∨ M.f 35 = nI 2) (h3 : v = 3 → 0 ≤ M.z 5 ∧ M.z 9 = -1 ∧ (2 ≤ M.z 7 → ¬ M.z 6 = 1 → ¬ M.z 17 = M.z 0 → M.z 24 = 0 → 10718 ≤ tc)) (ht : 0 ≤ tc) (hb : kr + kc + cr + rr + rc + wc + tc + 52 ≤ b) : kP0 Q b (pX8_triesOn M) ∧ ∀ l E, kK M l E → oX8_triesOn M l E := by
  have v1 := H.2.2.2.2.2.1.1
  have I1 : ∀ x, kI (M.put 4 422 x) Q kr kc cr rr rc wc := fun x => H.cg fun q hq _ _ _ _ _ _ => gput_n (by omega)
  have Zx : ∀ x k, ¬ k = 422 → (M.put 4 422 x).z k = M.z k := fun x k h => gz_n h
  have K1 : ∀ x l E, kK M l E → kK (M.put 4 422 x) l E := fun x l E K => K.put (by decide) (by decide)
  unfold pX8_triesOn oX8_triesOn
  by_cases c1 : M.a 4 422 + 1 = 3
  · rw [if_pos c1]
    have I2 : kI ((M.put 4 422 (M.a 4 422 + 1)).put 4 422 0) Q kr kc cr rr rc wc := H.cg fun q hq _ _ _ _ _ _ => (gput_n (by omega)).trans (gput_n (by omega))
    by_cases c2 : M.a 4 9 = 0
    · rw [if_pos c2]
      have I3 : kI (((M.put 4 422 (M.a 4 422 + 1)).put 4 419 4).put 4 422 0) Q kr kc cr rr rc wc := ((I1 _).p419 (x := 4) (by decide) ((Zx _ 420 (by decide)).trans h420) fun _ p => absurd (by decide) p).cg fun q hq _ _ _ _ _ _ => gput_n (by omega)
      exact ⟨⟨⟨kr, kc, cr, rr, rc, wc, I3, by omega⟩, by rw [gput_n (by decide), gput_s]; decide⟩, fun l E K => by rw [if_pos c1, if_pos c2]; trivial⟩
    · rw [if_neg c2]
      have P := kP0.asks (b := b) (v := 0) (c := 0) (rr' := 0) (y := 0) (w := 0) I2 rfl (by decide) (by decide) ((gz_n (by decide)).trans ((Zx _ 420 (by decide)).trans h420)) ((gz_n (by decide)).trans ((Zx _ 419 (by decide)).trans h419)) (fun p => absurd p (by decide)) (by decide) (by decide) (fun p => absurd p (by decide)) (fun p => absurd p (by decide)) (by omega)
      exact ⟨P.1, fun l E K => by rw [if_pos c1, if_neg c2]; exact P.2 l E ((K1 _ l E K).put (by decide) (by decide))⟩
  · rw [if_neg c1]
    by_cases c2 : M.f 34 = 1
    · rw [if_pos c2]
      have v1 : v = 1 := by
        rw [e34] at c2
        exact nI_inj (by omega) (by decide) c2
      have P := kP0.askAgain (b := b) (I1 (M.a 4 422 + 1)) (by rw [Zx _ 9 (by decide)]; exact h1 v1) (by omega)
      exact ⟨P.1, fun l E K => by rw [if_neg c1, if_pos c2]; exact P.2 l E (K1 _ l E K)⟩
    · rw [if_neg c2]
      by_cases c3 : M.f 34 = 2
      · rw [if_pos c3]
        have v2 : v = 2 := by
          rw [e34] at c3
          exact nI_inj (by omega) (by decide) c3
        have P : kP0 Q b (pX8_sendsR_0 (M.put 4 422 (M.a 4 422 + 1)) (M.f 35)) ∧ ∀ l E, kK (M.put 4 422 (M.a 4 422 + 1)) l E → oX8_sendsR_0 (M.put 4 422 (M.a 4 422 + 1)) (M.f 35) l E := by
          rcases h2 v2 with h | h
          · exact kP0.R (b := b) (I1 _) h (by omega) (by omega)
          · exact kP0.R (b := b) (I1 _) h (by omega) (by omega)
        exact ⟨P.1, fun l E K => by rw [if_neg c1, if_neg c2, if_pos c3]; exact P.2 l E (K1 _ l E K)⟩
      · rw [if_neg c3]
        have v3 : v = 3 := by
          have : ¬ v = 1 := fun e => c2 (by rw [e34, e]; rfl)
          have : ¬ v = 2 := fun e => c3 (by rw [e34, e]; rfl)
          omega
        obtain ⟨p1, p2, p3⟩ := h3 v3
        have P := kP0.again (b := b) (ex := tc) (I1 (M.a 4 422 + 1)) (by rw [Zx _ 5 (by decide)]; exact p1) ht (by rw [Zx _ 9 (by decide)]; exact p2) (by rw [Zx _ 7 (by decide), Zx _ 6 (by decide), Zx _ 17 (by decide), Zx _ 0 (by decide), Zx _ 24 (by decide)]; exact p3) (by omega)
        exact ⟨P.1, fun l E K => by rw [if_neg c1, if_neg c2, if_neg c3]; exact P.2 l E (K1 _ l E K)⟩
theorem kP0.try {v : Nat} {tc : Int} (H : kI M Q kr kc cr rr rc wc) (h420 : M.z 420 = 0) (h419 : M.z 419 = 1) (e34 : M.f 34 = nI v) (hv : v = 1 ∨ v = 2 ∨ v = 3) (h1 : v = 1 → 0 ≤ M.z 9) (h2 : v = 2 → M.f 35 = nI 1 ∨ M.f 35 = nI 2) (h3 : v = 3 → 0 ≤ M.z 5 ∧ M.z 9 = -1 ∧ (2 ≤ M.z 7 → ¬ M.z 6 = 1 → ¬ M.z 17 = M.z 0 → M.z 24 = 0 → 10718 ≤ tc)) (ht : 0 ≤ tc) (hb : kr + kc + cr + rr + rc + wc + tc + 52 ≤ b) (o : Option (Int32 × Int32)) : kP0 Q b (if M.f 34 ≤ 0 then (M.put 4 422 0, o) else pX8_triesOn M) ∧ ¬ M.f 34 ≤ 0 ∧ ∀ l E, kK M l E → oX8_triesOn M l E := by
  have n : ¬ M.f 34 ≤ 0 := by
    rw [e34]
    rcases hv with rfl | rfl | rfl <;> decide
  have P := kP0.on H h420 h419 e34 hv h1 h2 h3 ht hb
  rw [if_neg n]
  exact ⟨P.1, n, P.2⟩
theorem kAns (H : kI M Q kr kc cr rr rc wc) (h420 : M.z 420 = 0) (h9 : 0 ≤ M.z 9) : kI (rX8_readerAnswered M) Q kr kc cr rr rc wc ∧ (rX8_readerAnswered M).f 34 = M.f 34 ∧ ¬ (rX8_readerAnswered M).a 4 419 = 1 := by
  have A : ∀ q, ¬ q = 9 → (M.put 4 9 (-1)).a 4 q = M.a 4 q := fun q h => gput_n h
  have z9 : (M.put 4 9 (-1)).z 9 = -1 := gz_s
  unfold rX8_readerAnswered
  obtain ⟨a1, a2, a3, a4, a5, a6, a7, a8, a9, a10, a11, a12, a13⟩ := H.1
  obtain ⟨x1, x2, x3, x4, x5, x6, x7, x8⟩ := H.2.2.2.1
  obtain ⟨y1, y2, y3⟩ := H.2.2.2.2.1
  have I : ∀ cr', kCr (M.put 4 9 (-1)) cr' → kI (M.put 4 9 (-1)) Q kr kc cr' rr rc wc := fun cr' hC => by
    generalize M.put 4 9 (-1) = M' at A z9 hC ⊢
    have Z : ∀ q, ¬ q = 9 → M'.z q = M.z q := fun q h => congrArg Int32.toInt (A q h)
    have RR : kR0 M' Q kr := by
      unfold kR0
      rw [z9, Z 0 (by decide), Z 1 (by decide), Z 2 (by decide), Z 3 (by decide), Z 4 (by decide), Z 5 (by decide), Z 6 (by decide), Z 7 (by decide), Z 8 (by decide), Z 10 (by decide), Z 14 (by decide), A 10 (by decide)]
      exact ⟨a1, a2, a3, a4, a5, a6, a7, by omega, a9, a10, fun p k N a f e1 e2 e3 e4 => a11 p k N a f e1 e2 e3 fun j hj => by rw [e4 j hj, A _ (by omega)], fun p => absurd p (by omega), a13⟩
    have X : kX M' := by
      unfold kX
      rw [z9, Z 5 (by decide), Z 25 (by decide), Z 416 (by decide), Z 417 (by decide), Z 418 (by decide), Z 419 (by decide), Z 420 (by decide), A 417 (by decide), A 26 (by decide)]
      exact ⟨x1, x2, x3, x4, x5, ⟨fun p => absurd h420 p, fun p => absurd p (by omega)⟩, fun p => ⟨h420, fun _ => rfl⟩, x8⟩
    have W : kRr M' Q rr := by
      obtain ⟨v1, v2, v3⟩ := H.2.2.2.2.2.1
      unfold kRr
      rw [z9, Z 420 (by decide), Z 3 (by decide), Z 4 (by decide)]
      exact ⟨v1, v2, fun p => absurd p (by omega)⟩
    exact ⟨RR, H.2.1.cg fun q hq => A q (by omega), H.2.2.1.cg fun q h1 h2 => A q (by omega), X, hC, W, H.2.2.2.2.2.2.1.cg fun q hq => A q (by omega), H.2.2.2.2.2.2.2.cg fun q hq => A q (by omega)⟩
  by_cases c : M.a 4 9 = 1
  · rw [if_pos c]
    have c' : M.z 9 = 1 := by show (M.a 4 9).toInt = 1; rw [c]; decide
    have z5 := x6.2 c'
    refine ⟨(I cr ⟨y1, fun p => y2 (by rw [gz_n (by decide)] at p; exact p), fun p => ?_⟩).done ((gz_n (by decide)).trans h420) z9, rfl, kDone419⟩
    rw [gz_n (by decide), gz_n (by decide)] at p
    omega
  · rw [if_neg c]
    have I1 := I (cr + 10718) ⟨by omega, fun _ => by omega, fun _ => by omega⟩
    have hC : kCr (rX8_resynchs_0 (M.put 4 9 (-1))) cr := by
      have e5 : (rX8_resynchs_0 (M.put 4 9 (-1))).z 5 = -1 := (gz_n (by decide)).trans ((gz_n (by decide)).trans ((gz_n (by decide)).trans ((gz_n (by decide)).trans gz_s)))
      have e24 : (rX8_resynchs_0 (M.put 4 9 (-1))).z 24 = M.z 24 := (gz_n (by decide)).trans ((gz_n (by decide)).trans ((gz_n (by decide)).trans ((gz_n (by decide)).trans ((gz_n (by decide)).trans ((gz_n (by decide)).trans ((gz_n (by decide)).trans (gz_n (by decide))))))))
      have e420 : (rX8_resynchs_0 (M.put 4 9 (-1))).z 420 = M.z 420 := (gz_n (by decide)).trans ((gz_n (by decide)).trans ((gz_n (by decide)).trans ((gz_n (by decide)).trans ((gz_n (by decide)).trans ((gz_n (by decide)).trans ((gz_n (by decide)).trans (gz_n (by decide))))))))
      refine ⟨y1, fun p => y2 (by rw [e24] at p; exact p), fun p => ?_⟩
      rw [e5, e420] at p
      omega
    obtain ⟨I2, rA, -, -, -, -, r9, rf, -, -⟩ := kRes0 I1 hC
    have r420 : (rX8_resynchs_0 (M.put 4 9 (-1))).z 420 = 0 := (congrArg Int32.toInt ((rA 420 (by decide) (by decide) (by decide) (by decide) (by decide) (by decide) (by decide)).trans (A 420 (by decide)))).trans h420
    exact ⟨(I2.p419 (x := 3) (by decide) r420 fun _ _ => r9).cg fun q hq _ _ _ _ _ _ => gput_n (by omega), rfl, by rw [gput_n (by decide), gput_s]; decide⟩
end KP8
