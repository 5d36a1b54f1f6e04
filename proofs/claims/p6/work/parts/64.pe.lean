/-! the reference: cuts and what goes on, under the invariant (by program: wip/p2/m_pe.py) -/
theorem kP0.out {M : gMd} {Q : Int32 × List Int32 → Prop} {kr kc cr rr rc wc b : Int} (H : kI M Q kr kc cr rr rc wc) (h5 : M.z 5 = -1) (hkr : 174 * (M.z 3 - M.z 4) ≤ kr) (h9 : M.z 9 = -1) (h420 : M.z 420 = 0) (hcr : 400 ≤ cr ∧ (2 ≤ M.z 3 → 10718 ≤ cr)) (hb : kr + kc + cr + rr + rc + wc + 52 ≤ b) : kP0 Q b (pX8_sendsOut_0 M) ∧ ∀ l E, kK M l E → oX8_sendsOut_0 M l E := by
  obtain ⟨a1, a2, a3, a4, a5, a6, a7, a8, a9, a10, a11, a12, a13⟩ := H.1
  have w3 := H.2.1.2.2.1
  have eL : (((M.a 4 3) - (M.a 4 4))).toInt = M.z 3 - M.z 4 := gt_sub (show _ ≤ M.z 3 - M.z 4 by omega) (show M.z 3 - M.z 4 < _ by omega)
  have hL : (M.a 4 18) ≤ ((M.a 4 3) - (M.a 4 4)) ↔ M.z 18 ≤ M.z 3 - M.z 4 := by rw [Int32.le_iff_toInt_le, eL]; exact Iff.rfl
  have hL' : ((M.a 4 3) - (M.a 4 4)) ≤ (M.a 4 18) ↔ M.z 3 - M.z 4 ≤ M.z 18 := by rw [Int32.le_iff_toInt_le, eL]; exact Iff.rfl
  obtain ⟨x, ex, hx⟩ : ∃ x : Int32, (if (M.a 4 18) ≤ ((M.a 4 3) - (M.a 4 4)) then (M.a 4 18) else ((M.a 4 3) - (M.a 4 4)) : Int32) = x ∧ ((x.toInt = M.z 18 ∧ M.z 18 ≤ M.z 3 - M.z 4) ∨ (x.toInt = M.z 3 - M.z 4 ∧ M.z 3 - M.z 4 < M.z 18)) := by
    by_cases c : (M.a 4 18) ≤ ((M.a 4 3) - (M.a 4 4))
    · exact ⟨_, if_pos c, Or.inl ⟨rfl, hL.mp c⟩⟩
    · exact ⟨_, if_neg c, Or.inr ⟨eL, Int.not_le.mp fun h => c (hL.mpr h)⟩⟩
  obtain ⟨y, ey, hy⟩ : ∃ y : Int32, (if ((M.a 4 3) - (M.a 4 4)) ≤ (M.a 4 18) then 0 else 1 : Int32) = y ∧ ((y.toInt = 0 ∧ M.z 3 - M.z 4 ≤ M.z 18) ∨ (y.toInt = 1 ∧ M.z 18 < M.z 3 - M.z 4)) := by
    by_cases c : ((M.a 4 3) - (M.a 4 4)) ≤ (M.a 4 18)
    · exact ⟨_, if_pos c, Or.inl ⟨by decide, hL'.mp c⟩⟩
    · exact ⟨_, if_neg c, Or.inr ⟨by decide, Int.not_le.mp fun h => c (hL'.mpr h)⟩⟩
  unfold pX8_sendsOut_0 oX8_sendsOut_0
  rw [ex, ey]
  clear ex ey hL hL'
  have A : ∀ q, ¬ q = 5 → ¬ q = 6 → ¬ q = 7 → (((M.put 4 7 x).put 4 6 y).put 4 5 (M.a 4 0)).a 4 q = M.a 4 q := fun q h1 h2 h3 => (gput_n h1).trans ((gput_n h2).trans (gput_n h3))
  have z5 : (((M.put 4 7 x).put 4 6 y).put 4 5 (M.a 4 0)).z 5 = M.z 0 := gz_s
  have z6 : (((M.put 4 7 x).put 4 6 y).put 4 5 (M.a 4 0)).z 6 = y.toInt := (gz_n (by decide)).trans gz_s
  have z7 : (((M.put 4 7 x).put 4 6 y).put 4 5 (M.a 4 0)).z 7 = x.toInt := (gz_n (by decide)).trans ((gz_n (by decide)).trans gz_s)
  have By : kBy (((M.put 4 7 x).put 4 6 y).put 4 5 (M.a 4 0)) := H.2.2.1.cg fun q h1 h2 => A q (by omega) (by omega) (by omega)
  have KK : ∀ l E, kK M l E → kK (((M.put 4 7 x).put 4 6 y).put 4 5 (M.a 4 0)) l E := fun l E K => ((K.put (by decide) (by decide)).put (by decide) (by decide)).put (by decide) (by decide)
  generalize (((M.put 4 7 x).put 4 6 y).put 4 5 (M.a 4 0)) = M1 at A z5 z6 z7 By KK ⊢
  have Z : ∀ q, ¬ q = 5 → ¬ q = 6 → ¬ q = 7 → M1.z q = M.z q := fun q h1 h2 h3 => congrArg Int32.toInt (A q h1 h2 h3)
  have y4 := Z 4 (by decide) (by decide) (by decide)
  have y9 := Z 9 (by decide) (by decide) (by decide)
  have y17 := Z 17 (by decide) (by decide) (by decide)
  have y0 := Z 0 (by decide) (by decide) (by decide)
  have y24 := Z 24 (by decide) (by decide) (by decide)
  obtain ⟨ex, cr', hxs, hx0, hx1, hC⟩ : ∃ ex cr' : Int, ex + cr' = cr ∧ 0 ≤ ex ∧ (2 ≤ M1.z 7 → ¬ M1.z 6 = 1 → ¬ M1.z 17 = M1.z 0 → M1.z 24 = 0 → 10718 ≤ ex) ∧ kCr M1 cr' := by
    obtain ⟨c0, c1, c2⟩ := H.2.2.2.2.1
    by_cases c : ¬ y.toInt = 1 ∧ ¬ M.z 17 = M.z 0 ∧ M.z 24 = 0
    · refine ⟨cr, 0, by omega, by omega, fun _ _ _ _ => by omega, by omega, fun p => absurd p (by omega), fun p => ?_⟩
      rw [Z 420 (by decide) (by decide) (by decide), z6, y17, y0] at p
      omega
    · refine ⟨0, cr, by omega, by omega, fun _ _ _ _ => by omega, by omega, fun p => c1 (by omega), fun p => ?_⟩
      rw [Z 3 (by decide) (by decide) (by decide)]
      exact hcr
  have P := kP0.pend (M := M1) (c := 174 * M1.z 7 + 52) (by omega) (by omega) (by omega) (by omega) By (by omega) hx0 (by omega) hx1 (b := b) (Q := Q) (fun k N a f e1 e2 e3 e4 => Or.inr (by
    have := (kSp_I (x := (k : Int)) (w := (f 0).toInt) (n := N) (by omega)).1
    omega)) fun Q' h hq => ?_
  · exact ⟨P.1, fun l E K => P.2 l E (KK l E K)⟩
  · refine ⟨kr - 174 * M1.z 7, kc, cr', rr, rc, wc, ?_, by omega⟩
    have H' := H.mono h
    have RR : kR0 M1 Q' (kr - 174 * M1.z 7) := by
      unfold kR0
      rw [z5, z6, z7, Z 0 (by decide) (by decide) (by decide), Z 1 (by decide) (by decide) (by decide), Z 2 (by decide) (by decide) (by decide), Z 3 (by decide) (by decide) (by decide), Z 4 (by decide) (by decide) (by decide), Z 8 (by decide) (by decide) (by decide), Z 9 (by decide) (by decide) (by decide), Z 10 (by decide) (by decide) (by decide), Z 14 (by decide) (by decide) (by decide), A 10 (by decide) (by decide) (by decide)]
      rw [z5, z6, z7, y4] at hq
      exact ⟨a1, a2, a3, a4, by omega, fun _ => ⟨rfl, by omega, by omega, hy.elim (fun q => Or.inl ⟨q.1, trivial⟩) fun q => Or.inr ⟨q.1, by omega, by omega⟩⟩, a7, a8, a9, a10, fun p => hq, fun p k f e1 e2 => h _ (a12 p k f e1 e2), by omega, fun p => absurd p (by omega), fun _ => by omega⟩
    have X : kX M1 := by
      obtain ⟨x1, x2, x3, x4, x5, x6, x7, x8⟩ := H.2.2.2.1
      unfold kX
      rw [Z 9 (by decide) (by decide) (by decide), Z 25 (by decide) (by decide) (by decide), Z 416 (by decide) (by decide) (by decide), Z 417 (by decide) (by decide) (by decide), Z 418 (by decide) (by decide) (by decide), Z 419 (by decide) (by decide) (by decide), Z 420 (by decide) (by decide) (by decide), A 417 (by decide) (by decide) (by decide), A 26 (by decide) (by decide) (by decide)]
      exact ⟨x1, x2, x3, x4, x5, ⟨fun p => absurd h420 p, fun p => absurd p (by omega)⟩, x7, x8⟩
    exact ⟨RR, H'.2.1.cg fun q hq => A q (by omega) (by omega) (by omega), By, X, hC, H'.2.2.2.2.2.1.cg fun q hq => A q (by omega) (by omega) (by omega), H'.2.2.2.2.2.2.1.cg fun q hq => A q (by omega) (by omega) (by omega), H'.2.2.2.2.2.2.2.cg fun q hq => A q (by omega) (by omega) (by omega)⟩
theorem kP0.goes {M : gMd} {Q : Int32 × List Int32 → Prop} {kr kc cr rr rc wc b : Int} (H : kI M Q kr kc cr rr rc wc) (h5 : 0 ≤ M.z 5) (h9 : M.z 9 = -1) (hb : kr + kc + cr + rr + rc + wc + 52 ≤ b) : kP0 Q b (pX8_goesOn_0 M) ∧ ∀ l E, kK M l E → oX8_goesOn_0 M l E := by
  obtain ⟨I, t5, tA, tv, tf, ta, tkr, tK⟩ := kThr0 H
  unfold pX8_goesOn_0 oX8_goesOn_0
  by_cases c : M.a 4 6 = 1
  · rw [if_pos c, if_neg (by decide)]
    have c' : M.z 6 = 1 := by show (M.a 4 6).toInt = 1; rw [c]; decide
    have h420 : M.z 420 = 0 := by
      have := H.2.2.2.1.2.2.2.2.2.1.1
      have h := fun q => (this q).1
      omega
    have t9 : (rX8_isThrough_0 M).z 9 = -1 := (congrArg Int32.toInt (tA 9 (by decide) (by decide) (by decide))).trans h9
    have t420 : (rX8_isThrough_0 M).z 420 = 0 := (congrArg Int32.toInt (tA 420 (by decide) (by decide) (by decide))).trans h420
    have t3 : (rX8_isThrough_0 M).z 3 = M.z 3 := congrArg Int32.toInt (tA 3 (by decide) (by decide) (by decide))
    have P := kP0.out (b := b) I t5 (tkr h5) t9 t420 (by rw [t3]; exact H.2.2.2.2.1.2.2 (Or.inr ⟨h5, by omega, Or.inl c'⟩)) (by omega)
    exact ⟨P.1, fun l E K => by rw [if_neg (by decide)]; exact P.2 l E (tK l E K)⟩
  · rw [if_neg c, if_pos rfl]
    have P := kP0.R (b := b) I (show (0 : Int32) = nI 0 from rfl) (by omega) (by omega)
    exact ⟨P.1, fun l E K => by rw [if_pos rfl]; exact P.2 l E (tK l E K)⟩
theorem kRes0 {M : gMd} {Q : Int32 × List Int32 → Prop} {kr kc cr rr rc wc : Int} {cr' : Int} (H : kI M Q kr kc cr rr rc wc) (hC : kCr (rX8_resynchs_0 M) cr') : kI (rX8_resynchs_0 M) Q kr kc cr' rr rc wc ∧ (∀ q, ¬ q = 3 → ¬ q = 4 → ¬ q = 5 → ¬ q = 8 → ¬ q = 0 → ¬ q = 1 → ¬ q = 9 → (rX8_resynchs_0 M).a 4 q = M.a 4 q) ∧ (rX8_resynchs_0 M).z 0 = 0 ∧ (rX8_resynchs_0 M).z 1 = 0 ∧ (rX8_resynchs_0 M).z 5 = -1 ∧ (rX8_resynchs_0 M).z 8 = 0 ∧ (rX8_resynchs_0 M).z 9 = -1 ∧ (∀ k, (rX8_resynchs_0 M).f k = M.f k) ∧ (∀ i q, ¬ i = 4 → (rX8_resynchs_0 M).a i q = M.a i q) ∧ ∀ l E, kK M l E → kK (rX8_resynchs_0 M) l E := by
  obtain ⟨a1, a2, a3, a4, a5, a6, a7, a8, a9, a10, a11, a12, a13⟩ := H.1
  have A : ∀ q, ¬ q = 3 → ¬ q = 4 → ¬ q = 5 → ¬ q = 8 → ¬ q = 0 → ¬ q = 1 → ¬ q = 9 → (rX8_resynchs_0 M).a 4 q = M.a 4 q := fun q h0 h1 h2 h3 h4 h5 h6 => (gput_n h6).trans ((gput_n h5).trans ((gput_n h4).trans ((gput_n h3).trans ((gput_n h2).trans ((gput_n h1).trans (gput_n h0))))))
  have z9 : (rX8_resynchs_0 M).z 9 = -1 := gz_s
  have z1 : (rX8_resynchs_0 M).z 1 = 0 := (gz_n (by decide)).trans gz_s
  have z0 : (rX8_resynchs_0 M).z 0 = 0 := (gz_n (by decide)).trans ((gz_n (by decide)).trans gz_s)
  have z8 : (rX8_resynchs_0 M).z 8 = 0 := (gz_n (by decide)).trans ((gz_n (by decide)).trans ((gz_n (by decide)).trans gz_s))
  have z5 : (rX8_resynchs_0 M).z 5 = -1 := (gz_n (by decide)).trans ((gz_n (by decide)).trans ((gz_n (by decide)).trans ((gz_n (by decide)).trans gz_s)))
  have z4 : (rX8_resynchs_0 M).z 4 = 0 := (gz_n (by decide)).trans ((gz_n (by decide)).trans ((gz_n (by decide)).trans ((gz_n (by decide)).trans ((gz_n (by decide)).trans gz_s))))
  have z3 : (rX8_resynchs_0 M).z 3 = 0 := (gz_n (by decide)).trans ((gz_n (by decide)).trans ((gz_n (by decide)).trans ((gz_n (by decide)).trans ((gz_n (by decide)).trans ((gz_n (by decide)).trans gz_s)))))
  have F3 : ∀ l E, kK M l E → kK (rX8_resynchs_0 M) l E := fun l E K => ((((((K.put (by decide) (by decide)).put (by decide) (by decide)).put (by decide) (by decide)).put (by decide) (by decide)).put (by decide) (by decide)).put (by decide) (by decide)).put (by decide) (by decide)
  have F2 : ∀ i q, ¬ i = 4 → (rX8_resynchs_0 M).a i q = M.a i q := fun i q h => (gput_o h).trans ((gput_o h).trans ((gput_o h).trans ((gput_o h).trans ((gput_o h).trans ((gput_o h).trans (gput_o h))))))
  refine ⟨?_, A, z0, z1, z5, z8, z9, fun _ => rfl, F2, F3⟩
  generalize rX8_resynchs_0 M = M' at A z0 z1 z3 z4 z5 z8 z9 hC ⊢
  have AA : ∀ q, (q < 0 ∨ 9 < q) → M'.a 4 q = M.a 4 q := fun q h => A q (by omega) (by omega) (by omega) (by omega) (by omega) (by omega) (by omega)
  have ZZ : ∀ q, (q < 0 ∨ 9 < q) → M'.z q = M.z q := fun q h => congrArg Int32.toInt (AA q h)
  have Z2 : M'.z 2 = M.z 2 := congrArg Int32.toInt (A 2 (by decide) (by decide) (by decide) (by decide) (by decide) (by decide) (by decide))
  have RR : kR0 M' Q kr := by
    unfold kR0
    rw [z0, z1, z3, z4, z5, z8, z9, Z2, ZZ 10 (by omega), ZZ 14 (by omega)]
    exact ⟨by omega, by omega, a3, by omega, by omega, fun p => absurd p (by omega), by omega, by omega, a9, a10, fun p => absurd p (by omega), fun p => absurd p (by omega), by omega, fun _ => by omega, fun p => absurd p (by omega)⟩
  obtain ⟨x1, x2, x3, x4, x5, x6, x7, x8⟩ := H.2.2.2.1
  have X : kX M' := by
    unfold kX
    rw [z5, z9, ZZ 25 (by omega), ZZ 416 (by omega), ZZ 417 (by omega), ZZ 418 (by omega), ZZ 419 (by omega), ZZ 420 (by omega), AA 417 (by omega), AA 26 (by omega)]
    exact ⟨x1, x2, x3, x4, x5, ⟨fun _ => ⟨rfl, rfl⟩, fun _ => rfl⟩, fun p => ⟨(x7 p).1, fun _ => rfl⟩, x8⟩
  have W : kRr M' Q rr := by
    obtain ⟨y1, y2, y3⟩ := H.2.2.2.2.2.1
    unfold kRr
    rw [z9, z3, z4, ZZ 420 (by omega)]
    exact ⟨y1, ⟨y2.1, fun _ => by omega⟩, fun p => absurd p (by omega)⟩
  exact ⟨RR, H.2.1.cg fun q hq => AA q (by omega), H.2.2.1.cg fun q h1 h2 => AA q (by omega), X, hC, W, H.2.2.2.2.2.2.1.cg fun q hq => AA q (by omega), H.2.2.2.2.2.2.2.cg fun q hq => AA q (by omega)⟩
theorem kP1.out {M : gMd} {Q : Int32 × List Int32 → Prop} {kr kc cr rr rc wc b : Int} (H : kI M Q kr kc cr rr rc wc) (h5 : M.z 21 = -1) (hb : kr + kc + cr + rr + rc + wc + 52 ≤ b) : kP1 Q b (pX8_sendsOut_1 M) ∧ ∀ l E, kK M l E → oX8_sendsOut_1 M l E := by
  obtain ⟨a1, a2, a3, a4, a5, a6, a7, a8, a9, a10, a11, a12, a13⟩ := H.2.1
  have w3 := H.1.2.2.1
  have eL : (((M.a 4 19) - (M.a 4 20))).toInt = M.z 19 - M.z 20 := gt_sub (show _ ≤ M.z 19 - M.z 20 by omega) (show M.z 19 - M.z 20 < _ by omega)
  have hL : (M.a 4 2) ≤ ((M.a 4 19) - (M.a 4 20)) ↔ M.z 2 ≤ M.z 19 - M.z 20 := by rw [Int32.le_iff_toInt_le, eL]; exact Iff.rfl
  have hL' : ((M.a 4 19) - (M.a 4 20)) ≤ (M.a 4 2) ↔ M.z 19 - M.z 20 ≤ M.z 2 := by rw [Int32.le_iff_toInt_le, eL]; exact Iff.rfl
  obtain ⟨x, ex, hx⟩ : ∃ x : Int32, (if (M.a 4 2) ≤ ((M.a 4 19) - (M.a 4 20)) then (M.a 4 2) else ((M.a 4 19) - (M.a 4 20)) : Int32) = x ∧ ((x.toInt = M.z 2 ∧ M.z 2 ≤ M.z 19 - M.z 20) ∨ (x.toInt = M.z 19 - M.z 20 ∧ M.z 19 - M.z 20 < M.z 2)) := by
    by_cases c : (M.a 4 2) ≤ ((M.a 4 19) - (M.a 4 20))
    · exact ⟨_, if_pos c, Or.inl ⟨rfl, hL.mp c⟩⟩
    · exact ⟨_, if_neg c, Or.inr ⟨eL, Int.not_le.mp fun h => c (hL.mpr h)⟩⟩
  obtain ⟨y, ey, hy⟩ : ∃ y : Int32, (if ((M.a 4 19) - (M.a 4 20)) ≤ (M.a 4 2) then 0 else 1 : Int32) = y ∧ ((y.toInt = 0 ∧ M.z 19 - M.z 20 ≤ M.z 2) ∨ (y.toInt = 1 ∧ M.z 2 < M.z 19 - M.z 20)) := by
    by_cases c : ((M.a 4 19) - (M.a 4 20)) ≤ (M.a 4 2)
    · exact ⟨_, if_pos c, Or.inl ⟨by decide, hL'.mp c⟩⟩
    · exact ⟨_, if_neg c, Or.inr ⟨by decide, Int.not_le.mp fun h => c (hL'.mpr h)⟩⟩
  unfold pX8_sendsOut_1 oX8_sendsOut_1
  rw [ex, ey]
  clear ex ey hL hL'
  have A : ∀ q, ¬ q = 21 → ¬ q = 22 → ¬ q = 23 → (((M.put 4 23 x).put 4 22 y).put 4 21 (M.a 4 16)).a 4 q = M.a 4 q := fun q h1 h2 h3 => (gput_n h1).trans ((gput_n h2).trans (gput_n h3))
  have z5 : (((M.put 4 23 x).put 4 22 y).put 4 21 (M.a 4 16)).z 21 = M.z 16 := gz_s
  have z6 : (((M.put 4 23 x).put 4 22 y).put 4 21 (M.a 4 16)).z 22 = y.toInt := (gz_n (by decide)).trans gz_s
  have z7 : (((M.put 4 23 x).put 4 22 y).put 4 21 (M.a 4 16)).z 23 = x.toInt := (gz_n (by decide)).trans ((gz_n (by decide)).trans gz_s)
  have By : kBy (((M.put 4 23 x).put 4 22 y).put 4 21 (M.a 4 16)) := H.2.2.1.cg fun q h1 h2 => A q (by omega) (by omega) (by omega)
  have KK : ∀ l E, kK M l E → kK (((M.put 4 23 x).put 4 22 y).put 4 21 (M.a 4 16)) l E := fun l E K => ((K.put (by decide) (by decide)).put (by decide) (by decide)).put (by decide) (by decide)
  generalize (((M.put 4 23 x).put 4 22 y).put 4 21 (M.a 4 16)) = M1 at A z5 z6 z7 By KK ⊢
  have Z : ∀ q, ¬ q = 21 → ¬ q = 22 → ¬ q = 23 → M1.z q = M.z q := fun q h1 h2 h3 => congrArg Int32.toInt (A q h1 h2 h3)
  have y4 := Z 20 (by decide) (by decide) (by decide)
  have P := kP1.pend (M := M1) (c := 174 * M1.z 23 + 52) (by omega) (by omega) (by omega) (by omega) By (by omega) (b := b) (Q := Q) (fun k N a f e1 e2 e3 e4 => Or.inr (by
    have := (kSp_I (x := (k : Int)) (w := (f 0).toInt) (n := N) (by omega)).1
    omega)) fun Q' h hq => ?_
  · exact ⟨P.1, fun l E K => P.2 l E (KK l E K)⟩
  · refine ⟨kr, kc - 174 * M1.z 23, cr, rr, rc, wc, ?_, by omega⟩
    have H' := H.mono h
    have RR : kR1 M1 Q' (kc - 174 * M1.z 23) := by
      unfold kR1
      rw [z5, z6, z7, Z 16 (by decide) (by decide) (by decide), Z 17 (by decide) (by decide) (by decide), Z 18 (by decide) (by decide) (by decide), Z 19 (by decide) (by decide) (by decide), Z 20 (by decide) (by decide) (by decide), Z 24 (by decide) (by decide) (by decide), Z 25 (by decide) (by decide) (by decide), Z 26 (by decide) (by decide) (by decide), Z 30 (by decide) (by decide) (by decide), A 26 (by decide) (by decide) (by decide)]
      rw [z5, z6, z7, y4] at hq
      exact ⟨a1, a2, a3, a4, by omega, fun _ => ⟨rfl, by omega, by omega, hy.elim (fun q => Or.inl ⟨q.1, trivial⟩) fun q => Or.inr ⟨q.1, by omega, by omega⟩⟩, a7, a8, a9, a10, fun p => hq, fun p k f e1 e2 => h _ (a12 p k f e1 e2), by omega, fun p => absurd p (by omega), fun _ => by omega⟩
    exact ⟨H'.1.cg fun q hq => A q (by omega) (by omega) (by omega), RR, By, H'.2.2.2.1.cg fun q hq => A q (by omega) (by omega) (by omega), H'.2.2.2.2.1.cg fun q hq => A q (by omega) (by omega) (by omega), H'.2.2.2.2.2.1.cg fun q hq => A q (by omega) (by omega) (by omega), H'.2.2.2.2.2.2.1.cg fun q hq => A q (by omega) (by omega) (by omega), H'.2.2.2.2.2.2.2.cg fun q hq => A q (by omega) (by omega) (by omega)⟩
theorem kP1.goes {M : gMd} {Q : Int32 × List Int32 → Prop} {kr kc cr rr rc wc b : Int} (H : kI M Q kr kc cr rr rc wc) (h5 : 0 ≤ M.z 21) (hb : kr + kc + cr + rr + rc + wc + 52 ≤ b) : kP1 Q b (pX8_goesOn_1 M) ∧ ∀ l E, kK M l E → oX8_goesOn_1 M l E := by
  obtain ⟨I, t5, tA, tv, tf, ta, tK⟩ := kThr1 H
  unfold pX8_goesOn_1 oX8_goesOn_1
  by_cases c : M.a 4 22 = 1
  · rw [if_pos c, if_neg (by decide)]
    have c' : M.z 22 = 1 := by show (M.a 4 22).toInt = 1; rw [c]; decide
    have P := kP1.out (b := b) I t5 (by omega)
    exact ⟨P.1, fun l E K => by rw [if_neg (by decide)]; exact P.2 l E (tK l E K)⟩
  · rw [if_neg c, if_pos rfl]
    have P := kP1.R (b := b) I (show (0 : Int32) = nI 0 from rfl) (by omega) (by omega)
    exact ⟨P.1, fun l E K => by rw [if_pos rfl]; exact P.2 l E (tK l E K)⟩
theorem kRes1 {M : gMd} {Q : Int32 × List Int32 → Prop} {kr kc cr rr rc wc : Int} {cr' : Int} (H : kI M Q kr kc cr rr rc wc) (hC : kCr (rX8_resynchs_1 M) cr') : kI (rX8_resynchs_1 M) Q kr kc cr' rr rc wc ∧ (∀ q, ¬ q = 19 → ¬ q = 20 → ¬ q = 21 → ¬ q = 24 → ¬ q = 16 → ¬ q = 17 → ¬ q = 25 → (rX8_resynchs_1 M).a 4 q = M.a 4 q) ∧ (rX8_resynchs_1 M).z 16 = 0 ∧ (rX8_resynchs_1 M).z 17 = 0 ∧ (rX8_resynchs_1 M).z 21 = -1 ∧ (rX8_resynchs_1 M).z 24 = 0 ∧ (rX8_resynchs_1 M).z 25 = -1 ∧ (∀ k, (rX8_resynchs_1 M).f k = M.f k) ∧ (∀ i q, ¬ i = 4 → (rX8_resynchs_1 M).a i q = M.a i q) ∧ ∀ l E, kK M l E → kK (rX8_resynchs_1 M) l E := by
  obtain ⟨a1, a2, a3, a4, a5, a6, a7, a8, a9, a10, a11, a12, a13⟩ := H.2.1
  have A : ∀ q, ¬ q = 19 → ¬ q = 20 → ¬ q = 21 → ¬ q = 24 → ¬ q = 16 → ¬ q = 17 → ¬ q = 25 → (rX8_resynchs_1 M).a 4 q = M.a 4 q := fun q h0 h1 h2 h3 h4 h5 h6 => (gput_n h6).trans ((gput_n h5).trans ((gput_n h4).trans ((gput_n h3).trans ((gput_n h2).trans ((gput_n h1).trans (gput_n h0))))))
  have z9 : (rX8_resynchs_1 M).z 25 = -1 := gz_s
  have z1 : (rX8_resynchs_1 M).z 17 = 0 := (gz_n (by decide)).trans gz_s
  have z0 : (rX8_resynchs_1 M).z 16 = 0 := (gz_n (by decide)).trans ((gz_n (by decide)).trans gz_s)
  have z8 : (rX8_resynchs_1 M).z 24 = 0 := (gz_n (by decide)).trans ((gz_n (by decide)).trans ((gz_n (by decide)).trans gz_s))
  have z5 : (rX8_resynchs_1 M).z 21 = -1 := (gz_n (by decide)).trans ((gz_n (by decide)).trans ((gz_n (by decide)).trans ((gz_n (by decide)).trans gz_s)))
  have z4 : (rX8_resynchs_1 M).z 20 = 0 := (gz_n (by decide)).trans ((gz_n (by decide)).trans ((gz_n (by decide)).trans ((gz_n (by decide)).trans ((gz_n (by decide)).trans gz_s))))
  have z3 : (rX8_resynchs_1 M).z 19 = 0 := (gz_n (by decide)).trans ((gz_n (by decide)).trans ((gz_n (by decide)).trans ((gz_n (by decide)).trans ((gz_n (by decide)).trans ((gz_n (by decide)).trans gz_s)))))
  have F3 : ∀ l E, kK M l E → kK (rX8_resynchs_1 M) l E := fun l E K => ((((((K.put (by decide) (by decide)).put (by decide) (by decide)).put (by decide) (by decide)).put (by decide) (by decide)).put (by decide) (by decide)).put (by decide) (by decide)).put (by decide) (by decide)
  have F2 : ∀ i q, ¬ i = 4 → (rX8_resynchs_1 M).a i q = M.a i q := fun i q h => (gput_o h).trans ((gput_o h).trans ((gput_o h).trans ((gput_o h).trans ((gput_o h).trans ((gput_o h).trans (gput_o h))))))
  refine ⟨?_, A, z0, z1, z5, z8, z9, fun _ => rfl, F2, F3⟩
  generalize rX8_resynchs_1 M = M' at A z0 z1 z3 z4 z5 z8 z9 hC ⊢
  have AA : ∀ q, (q < 16 ∨ 25 < q) → M'.a 4 q = M.a 4 q := fun q h => A q (by omega) (by omega) (by omega) (by omega) (by omega) (by omega) (by omega)
  have ZZ : ∀ q, (q < 16 ∨ 25 < q) → M'.z q = M.z q := fun q h => congrArg Int32.toInt (AA q h)
  have Z2 : M'.z 18 = M.z 18 := congrArg Int32.toInt (A 18 (by decide) (by decide) (by decide) (by decide) (by decide) (by decide) (by decide))
  have RR : kR1 M' Q kc := by
    unfold kR1
    rw [z0, z1, z3, z4, z5, z8, z9, Z2, ZZ 26 (by omega), ZZ 30 (by omega)]
    exact ⟨by omega, by omega, a3, by omega, by omega, fun p => absurd p (by omega), by omega, by omega, a9, a10, fun p => absurd p (by omega), fun p => absurd p (by omega), by omega, fun _ => by omega, fun p => absurd p (by omega)⟩
  obtain ⟨x1, x2, x3, x4, x5, x6, x7, x8⟩ := H.2.2.2.1
  have X : kX M' := by
    unfold kX
    rw [z9, ZZ 5 (by omega), ZZ 9 (by omega), ZZ 416 (by omega), ZZ 417 (by omega), ZZ 418 (by omega), ZZ 419 (by omega), ZZ 420 (by omega)]
    exact ⟨x1, x2, ⟨x3.1, x3.2.1, fun _ => rfl⟩, x4, x5, x6, x7, fun p => absurd p (by omega)⟩
  have W1 : kRc M' Q rc := by
    unfold kRc
    rw [z9]
    exact ⟨H.2.2.2.2.2.2.1.1, fun p => absurd p (by omega)⟩
  have W2 : kWc M' wc := by
    obtain ⟨w1, w2, w3, w4⟩ := H.2.2.2.2.2.2.2
    unfold kWc
    rw [z9, ZZ 418 (by omega)]
    exact ⟨w1, fun p => absurd p (by omega), fun p => absurd p (by omega), w4⟩
  exact ⟨H.1.cg fun q hq => AA q (by omega), RR, H.2.2.1.cg fun q h1 h2 => AA q (by omega), X, hC, H.2.2.2.2.2.1.cg fun q hq => AA q (by omega), W1, W2⟩
