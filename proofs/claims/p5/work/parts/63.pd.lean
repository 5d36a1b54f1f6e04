/-! the reference: what changes the line, under the invariant (by program: wip/p2/m_pd.py) -/
theorem kThr0 {M : gMd} {Q : Int32 × List Int32 → Prop} {kr kc cr rr rc wc : Int} (H : kI M Q kr kc cr rr rc wc) : kI (rX8_isThrough_0 M) Q kr kc cr rr rc wc ∧ (rX8_isThrough_0 M).z 5 = -1 ∧ (∀ q, ¬ q = 0 → ¬ q = 4 → ¬ q = 5 → (rX8_isThrough_0 M).a 4 q = M.a 4 q) ∧ ((M.z 5 < 0 ∧ rX8_isThrough_0 M = M) ∨ (0 ≤ M.z 5 ∧ (rX8_isThrough_0 M).z 4 = M.z 4 + M.z 7 ∧ (rX8_isThrough_0 M).z 0 = 1 - M.z 0)) ∧ (∀ k, (rX8_isThrough_0 M).f k = M.f k) ∧ (∀ i q, ¬ i = 4 → (rX8_isThrough_0 M).a i q = M.a i q) ∧ (0 ≤ M.z 5 → 174 * ((rX8_isThrough_0 M).z 3 - (rX8_isThrough_0 M).z 4) ≤ kr) ∧ ∀ l E, kK M l E → kK (rX8_isThrough_0 M) l E := by
  have R := H.1
  obtain ⟨a1, a2, a3, a4, a5, a6, a7, a8, a9, a10, a11, a12, a13⟩ := R
  unfold rX8_isThrough_0
  by_cases c : 0 ≤ M.a 4 5
  · rw [if_pos c]
    have c' : 0 ≤ M.z 5 := Int32.le_iff_toInt_le.mp c
    obtain ⟨p1, p2, p3, p4⟩ := a6 c'
    have e4 : (M.a 4 4 + M.a 4 7).toInt = M.z 4 + M.z 7 := gt_add (show _ ≤ M.z 4 + M.z 7 by omega) (show M.z 4 + M.z 7 < _ by omega)
    have e0 : (1 - M.a 4 0 : Int32).toInt = 1 - M.z 0 := gt_sub (show _ ≤ 1 - M.z 0 by omega) (show 1 - M.z 0 < _ by omega)
    have A : ∀ q, ¬ q = 0 → ¬ q = 4 → ¬ q = 5 → (((M.put 4 4 (M.a 4 4 + M.a 4 7)).put 4 0 (1 - M.a 4 0)).put 4 5 (-1)).a 4 q = M.a 4 q := fun q h1 h2 h3 => (gput_n h3).trans ((gput_n h1).trans (gput_n h2))
    have z5 : (((M.put 4 4 (M.a 4 4 + M.a 4 7)).put 4 0 (1 - M.a 4 0)).put 4 5 (-1)).z 5 = -1 := gz_s
    have z0 : (((M.put 4 4 (M.a 4 4 + M.a 4 7)).put 4 0 (1 - M.a 4 0)).put 4 5 (-1)).z 0 = 1 - M.z 0 := (gz_n (by decide)).trans (gz_s.trans e0)
    have z4 : (((M.put 4 4 (M.a 4 4 + M.a 4 7)).put 4 0 (1 - M.a 4 0)).put 4 5 (-1)).z 4 = M.z 4 + M.z 7 := (gz_n (by decide)).trans ((gz_n (by decide)).trans (gz_s.trans e4))
    refine ⟨?_, z5, A, Or.inr ⟨c', z4, z0⟩, fun _ => rfl, fun i q h => (gput_o h).trans ((gput_o h).trans (gput_o h)), fun _ => by rw [show gMd.z _ 3 = M.z 3 from congrArg Int32.toInt (A 3 (by decide) (by decide) (by decide)), z4]; have := a13.2.2 c'; omega, fun l E K => ((K.put (by decide) (by decide)).put (by decide) (by decide)).put (by decide) (by decide)⟩
    generalize (((M.put 4 4 (M.a 4 4 + M.a 4 7)).put 4 0 (1 - M.a 4 0)).put 4 5 (-1)) = M' at A z5 z0 z4 ⊢
    have Z : ∀ q, ¬ q = 0 → ¬ q = 4 → ¬ q = 5 → M'.z q = M.z q := fun q h1 h2 h3 => congrArg Int32.toInt (A q h1 h2 h3)
    have RR : kR0 M' Q kr := by
      unfold kR0
      rw [z0, z4, z5, Z 1 (by decide) (by decide) (by decide), Z 2 (by decide) (by decide) (by decide), Z 3 (by decide) (by decide) (by decide), Z 6 (by decide) (by decide) (by decide), Z 7 (by decide) (by decide) (by decide), Z 8 (by decide) (by decide) (by decide), Z 9 (by decide) (by decide) (by decide), Z 10 (by decide) (by decide) (by decide), Z 14 (by decide) (by decide) (by decide), A 10 (by decide) (by decide) (by decide)]
      exact ⟨by omega, a2, a3, by omega, by omega, fun p => absurd p (by omega), a7, a8, a9, a10, fun p => absurd p (by omega), a12, by omega, fun _ => by omega, fun p => absurd p (by omega)⟩
    have X := H.2.2.2.1
    have X1 : kX M' := by
      obtain ⟨x1, x2, x3, x4, x5, x6, x7, x8⟩ := X
      unfold kX
      rw [z5, Z 9 (by decide) (by decide) (by decide), Z 25 (by decide) (by decide) (by decide), Z 416 (by decide) (by decide) (by decide), Z 417 (by decide) (by decide) (by decide), Z 418 (by decide) (by decide) (by decide), Z 419 (by decide) (by decide) (by decide), Z 420 (by decide) (by decide) (by decide), A 26 (by decide) (by decide) (by decide), A 417 (by decide) (by decide) (by decide)]
      exact ⟨x1, x2, x3, x4, x5, ⟨fun p => absurd (x6.1 p).1 (by omega), fun _ => rfl⟩, x7, x8⟩
    have C1 : kCr M' cr := by
      obtain ⟨y1, y2, y3⟩ := H.2.2.2.2.1
      unfold kCr
      rw [z5, z0, Z 3 (by decide) (by decide) (by decide), Z 6 (by decide) (by decide) (by decide), Z 9 (by decide) (by decide) (by decide), Z 17 (by decide) (by decide) (by decide), Z 24 (by decide) (by decide) (by decide), Z 420 (by decide) (by decide) (by decide)]
      refine ⟨y1, y2, fun p => y3 ?_⟩
      rcases p with p | p
      · exact Or.inl p
      · exact absurd p.1 (by omega)
    have W1 : kRr M' Q rr := by
      obtain ⟨v1, v2, v3⟩ := H.2.2.2.2.2.1
      have h420 : M.z 420 = 0 := by
        have h := fun q => (X.2.2.2.2.2.1.1 q).1
        omega
      unfold kRr
      rw [Z 420 (by decide) (by decide) (by decide), Z 9 (by decide) (by decide) (by decide), A 10 (by decide) (by decide) (by decide)]
      exact ⟨v1, ⟨fun p => absurd p (by omega), fun p => absurd p (by omega)⟩, v3⟩
    exact ⟨RR, H.2.1.cg fun q hq => A q (by omega) (by omega) (by omega), H.2.2.1.cg fun q h1 h2 => A q (by omega) (by omega) (by omega), X1, C1, W1, H.2.2.2.2.2.2.1.cg fun q hq => A q (by omega) (by omega) (by omega), H.2.2.2.2.2.2.2.cg fun q hq => A q (by omega) (by omega) (by omega)⟩
  · rw [if_neg c]
    have c' : M.z 5 < 0 := by
      have : ¬ 0 ≤ M.z 5 := fun h => c (Int32.le_iff_toInt_le.mpr h)
      omega
    exact ⟨H, by omega, fun q _ _ _ => rfl, Or.inl ⟨c', rfl⟩, fun _ => rfl, fun _ _ _ => rfl, fun h => absurd h (by omega), fun _ _ K => K⟩
theorem kMsg0 {M : gMd} {Q : Int32 × List Int32 → Prop} {kr kc cr rr rc wc : Int} {cr' : Int} (H : kI M Q kr kc cr rr rc wc) (hC : kCr (rX8_messageCame_0 M) cr') : kI (rX8_messageCame_0 M) Q kr kc cr' rr rc wc ∧ (∀ q, ¬ q = 8 → ¬ q = 13 → ¬ q = 14 → (q < 288 ∨ 348 ≤ q) → (rX8_messageCame_0 M).a 4 q = M.a 4 q) ∧ (rX8_messageCame_0 M).z 8 = 0 ∧ (rX8_messageCame_0 M).z 14 = M.z 8 ∧ (∀ k, (rX8_messageCame_0 M).f k = M.f k) ∧ (∀ i q, ¬ i = 4 → (rX8_messageCame_0 M).a i q = M.a i q) ∧ ∀ l E, kK M l E → kK (rX8_messageCame_0 M) l E := by
  have R := H.1
  obtain ⟨a1, a2, a3, a4, a5, a6, a7, a8, a9, a10, a11, a12, a13⟩ := R
  have cl := gt_clamp (show 0 ≤ (M.a 4 8).toInt from a7.1)
  have t8 : M.z 8 = (M.a 4 8).toInt := rfl
  unfold rX8_messageCame_0 at hC ⊢
  generalize (M.a 4 8).toNatClampNeg = N at cl hC ⊢
  have g0 : ∀ q, (q < 288 ∨ 348 ≤ q) → (M.arr 4 (gCpy (M.a 4) 288 (M.a 4) 160 N)).a 4 q = M.a 4 q := fun q h => garr_s.trans (gCpy_out (by omega))
  have A : ∀ q, ¬ q = 8 → ¬ q = 13 → ¬ q = 14 → (q < 288 ∨ 348 ≤ q) → ((((M.arr 4 (gCpy (M.a 4) 288 (M.a 4) 160 N)).put 4 14 ((M.arr 4 (gCpy (M.a 4) 288 (M.a 4) 160 N)).a 4 8)).put 4 13 (((M.arr 4 (gCpy (M.a 4) 288 (M.a 4) 160 N)).a 4 13) + 1)).put 4 8 0).a 4 q = M.a 4 q := fun q h1 h2 h3 h4 => (gput_n h1).trans ((gput_n h2).trans ((gput_n h3).trans (g0 q h4)))
  have z8 : ((((M.arr 4 (gCpy (M.a 4) 288 (M.a 4) 160 N)).put 4 14 ((M.arr 4 (gCpy (M.a 4) 288 (M.a 4) 160 N)).a 4 8)).put 4 13 (((M.arr 4 (gCpy (M.a 4) 288 (M.a 4) 160 N)).a 4 13) + 1)).put 4 8 0).z 8 = 0 := gz_s
  have z14 : ((((M.arr 4 (gCpy (M.a 4) 288 (M.a 4) 160 N)).put 4 14 ((M.arr 4 (gCpy (M.a 4) 288 (M.a 4) 160 N)).a 4 8)).put 4 13 (((M.arr 4 (gCpy (M.a 4) 288 (M.a 4) 160 N)).a 4 13) + 1)).put 4 8 0).z 14 = M.z 8 := (gz_n (by decide)).trans ((gz_n (by decide)).trans (gz_s.trans (congrArg Int32.toInt (g0 8 (by omega)))))
  have By : kBy ((((M.arr 4 (gCpy (M.a 4) 288 (M.a 4) 160 N)).put 4 14 ((M.arr 4 (gCpy (M.a 4) 288 (M.a 4) 160 N)).a 4 8)).put 4 13 (((M.arr 4 (gCpy (M.a 4) 288 (M.a 4) 160 N)).a 4 13) + 1)).put 4 8 0) := fun q h1 h2 => by
    rw [gput_n (by omega), gput_n (by omega), gput_n (by omega), garr_s]
    unfold gCpy
    by_cases c : 288 ≤ q ∧ q < 288 + N
    · rw [if_pos c]; exact H.2.2.1 _ (by omega) (by omega)
    · rw [if_neg c]; exact H.2.2.1 _ h1 h2
  refine ⟨?_, A, z8, z14, fun _ => rfl, fun i q h => (gput_o h).trans ((gput_o h).trans ((gput_o h).trans (garr_o h))), fun l E K => (((K.cpy (by omega)).put (by decide) (by decide)).put (by decide) (by decide)).put (by decide) (by decide)⟩
  generalize ((((M.arr 4 (gCpy (M.a 4) 288 (M.a 4) 160 N)).put 4 14 ((M.arr 4 (gCpy (M.a 4) 288 (M.a 4) 160 N)).a 4 8)).put 4 13 (((M.arr 4 (gCpy (M.a 4) 288 (M.a 4) 160 N)).a 4 13) + 1)).put 4 8 0) = M' at A z8 z14 By hC ⊢
  have Z : ∀ q, ¬ q = 8 → ¬ q = 13 → ¬ q = 14 → (q < 288 ∨ 348 ≤ q) → M'.z q = M.z q := fun q h1 h2 h3 h4 => congrArg Int32.toInt (A q h1 h2 h3 h4)
  have RR : kR0 M' Q kr := by
    unfold kR0
    rw [z8, z14, Z 0 (by decide) (by decide) (by decide) (by omega), Z 1 (by decide) (by decide) (by decide) (by omega), Z 2 (by decide) (by decide) (by decide) (by omega), Z 3 (by decide) (by decide) (by decide) (by omega), Z 4 (by decide) (by decide) (by decide) (by omega), Z 5 (by decide) (by decide) (by decide) (by omega), Z 6 (by decide) (by decide) (by decide) (by omega), Z 7 (by decide) (by decide) (by decide) (by omega), Z 9 (by decide) (by decide) (by decide) (by omega), Z 10 (by decide) (by decide) (by decide) (by omega), A 10 (by decide) (by decide) (by decide) (by omega)]
    refine ⟨a1, a2, a3, a4, a5, a6, by omega, a8, a9, by omega, fun p k N a f e1 e2 e3 e4 => a11 p k N a f e1 e2 e3 fun j hj => ?_, a12, a13⟩
    have := a6 p
    rw [e4 j hj, A _ (by omega) (by omega) (by omega) (by omega)]
  exact ⟨RR, H.2.1.cg fun q hq => A q (by omega) (by omega) (by omega) (by omega), By, H.2.2.2.1.cg fun q hq => A q (by omega) (by omega) (by omega) (by omega), hC, H.2.2.2.2.2.1.cg fun q hq => A q (by omega) (by omega) (by omega) (by omega), H.2.2.2.2.2.2.1.cg fun q hq => A q (by omega) (by omega) (by omega) (by omega), H.2.2.2.2.2.2.2.cg fun q hq => A q (by omega) (by omega) (by omega) (by omega)⟩
theorem kTake0 {M : gMd} {Q : Int32 × List Int32 → Prop} {kr kc cr rr rc wc : Int} {cr' : Int} {N : Nat} (H : kI M Q kr kc cr rr rc wc) (hN : M.a 13 2 = nI N) (hN2 : N ≤ 60) (hby : ∀ q, q < N → gIr (M.a 13 (3 + q)) 255) (hC : ∀ T : gMd, (∀ q, ¬ q = 0 → ¬ q = 1 → ¬ q = 4 → ¬ q = 5 → ¬ q = 8 → (q < 160 ∨ 220 ≤ q) → T.a 4 q = M.a 4 q) → T.z 1 = 1 - M.z 1 → T.z 5 = -1 → M.z 8 ≤ T.z 8 ∧ T.z 8 ≤ M.z 8 + N ∧ (M.z 8 = 0 → T.z 8 = N) → kCr T cr') : (rX8_takes_0 M = (0, M)) ∨ ((rX8_takes_0 M).1 = 1 ∧ (M.a 13 1) &&& 64 = 64 * M.a 4 1 ∧ kI (rX8_takes_0 M).2 Q kr kc cr' rr rc wc ∧ (∀ q, ¬ q = 0 → ¬ q = 1 → ¬ q = 4 → ¬ q = 5 → ¬ q = 8 → (q < 160 ∨ 220 ≤ q) → (rX8_takes_0 M).2.a 4 q = M.a 4 q) ∧ (rX8_takes_0 M).2.z 1 = 1 - M.z 1 ∧ (rX8_takes_0 M).2.z 5 = -1 ∧ (M.z 8 ≤ (rX8_takes_0 M).2.z 8 ∧ (rX8_takes_0 M).2.z 8 ≤ M.z 8 + N ∧ (M.z 8 = 0 → (rX8_takes_0 M).2.z 8 = N)) ∧ (∀ k, (rX8_takes_0 M).2.f k = M.f k) ∧ (∀ i q, ¬ i = 4 → (rX8_takes_0 M).2.a i q = M.a i q) ∧ ∀ l E, kK M l E → kK (rX8_takes_0 M).2 l E) := by
  obtain ⟨I, t5, tA, tv, tf, ta, -, tK⟩ := kThr0 H
  have key : ∀ T, T = ((((rX8_isThrough_0 M).arr 4 (gCpy ((rX8_isThrough_0 M).a 4) (160 + ((rX8_isThrough_0 M).a 4 8).toNatClampNeg) ((rX8_isThrough_0 M).a 13) 3 (min (((rX8_isThrough_0 M).a 13 2).toNatClampNeg) (60 - ((rX8_isThrough_0 M).a 4 8).toNatClampNeg)))).put 4 8 (nI (((rX8_isThrough_0 M).a 4 8).toNatClampNeg + (min (((rX8_isThrough_0 M).a 13 2).toNatClampNeg) (60 - ((rX8_isThrough_0 M).a 4 8).toNatClampNeg))))).put 4 1 (1 - (((rX8_isThrough_0 M).arr 4 (gCpy ((rX8_isThrough_0 M).a 4) (160 + ((rX8_isThrough_0 M).a 4 8).toNatClampNeg) ((rX8_isThrough_0 M).a 13) 3 (min (((rX8_isThrough_0 M).a 13 2).toNatClampNeg) (60 - ((rX8_isThrough_0 M).a 4 8).toNatClampNeg)))).a 4 1))) → (M.a 13 1) &&& 64 = 64 * M.a 4 1 → rX8_takes_0 M = (1, T) → ((rX8_takes_0 M).1 = 1 ∧ (M.a 13 1) &&& 64 = 64 * M.a 4 1 ∧ kI (rX8_takes_0 M).2 Q kr kc cr' rr rc wc ∧ (∀ q, ¬ q = 0 → ¬ q = 1 → ¬ q = 4 → ¬ q = 5 → ¬ q = 8 → (q < 160 ∨ 220 ≤ q) → (rX8_takes_0 M).2.a 4 q = M.a 4 q) ∧ (rX8_takes_0 M).2.z 1 = 1 - M.z 1 ∧ (rX8_takes_0 M).2.z 5 = -1 ∧ (M.z 8 ≤ (rX8_takes_0 M).2.z 8 ∧ (rX8_takes_0 M).2.z 8 ≤ M.z 8 + N ∧ (M.z 8 = 0 → (rX8_takes_0 M).2.z 8 = N)) ∧ (∀ k, (rX8_takes_0 M).2.f k = M.f k) ∧ (∀ i q, ¬ i = 4 → (rX8_takes_0 M).2.a i q = M.a i q) ∧ ∀ l E, kK M l E → kK (rX8_takes_0 M).2 l E) := by
    intro T eT e64 eq
    rw [eq]
    have h132 : (rX8_isThrough_0 M).a 13 2 = nI N := (ta 13 2 (by decide)).trans hN
    have hcl : ((rX8_isThrough_0 M).a 13 2).toNatClampNeg = N := by rw [h132, nI_clamp (by omega)]
    have h8 : (rX8_isThrough_0 M).z 8 = M.z 8 := congrArg Int32.toInt (tA 8 (by decide) (by decide) (by decide))
    have h1 : (rX8_isThrough_0 M).z 1 = M.z 1 := congrArg Int32.toInt (tA 1 (by decide) (by decide) (by decide))
    have R := I.1
    obtain ⟨a1, a2, a3, a4, a5, a6, a7, a8, a9, a10, a11, a12, a13⟩ := R
    have c8 := gt_clamp (show 0 ≤ ((rX8_isThrough_0 M).a 4 8).toInt from a7.1)
    have c8' : ((rX8_isThrough_0 M).a 4 8).toInt = (rX8_isThrough_0 M).z 8 := rfl
    have hb : ∀ q, q < N → gIr ((rX8_isThrough_0 M).a 13 (3 + q)) 255 := fun q hq => by rw [ta 13 _ (by decide)]; exact hby q hq
    rw [hcl] at eT
    generalize ((rX8_isThrough_0 M).a 4 8).toNatClampNeg = a at c8 eT
    generalize (rX8_isThrough_0 M) = Mt at *
    have g0 : ∀ q, (q < 160 ∨ 220 ≤ q) → (Mt.arr 4 (gCpy (Mt.a 4) (160 + a) (Mt.a 13) 3 (min N (60 - a)))).a 4 q = Mt.a 4 q := fun q h => garr_s.trans (gCpy_out (by omega))
    have A : ∀ q, ¬ q = 1 → ¬ q = 8 → (q < 160 ∨ 220 ≤ q) → (((Mt.arr 4 (gCpy (Mt.a 4) (160 + a) (Mt.a 13) 3 (min N (60 - a)))).put 4 8 (nI (a + min N (60 - a)))).put 4 1 (1 - (Mt.arr 4 (gCpy (Mt.a 4) (160 + a) (Mt.a 13) 3 (min N (60 - a)))).a 4 1)).a 4 q = Mt.a 4 q := fun q h1 h2 h3 => (gput_n h1).trans ((gput_n h2).trans (g0 q h3))
    have e1 : (1 - (Mt.arr 4 (gCpy (Mt.a 4) (160 + a) (Mt.a 13) 3 (min N (60 - a)))).a 4 1 : Int32).toInt = 1 - M.z 1 := by
      have w : ((Mt.arr 4 (gCpy (Mt.a 4) (160 + a) (Mt.a 13) 3 (min N (60 - a)))).a 4 1).toInt = M.z 1 := (congrArg Int32.toInt (g0 1 (by omega))).trans h1
      have o1 : (1 : Int32).toInt = 1 := by decide
      rw [gt_sub (by rw [w, o1]; omega) (by rw [w, o1]; omega), w, o1]
    have z1 : (((Mt.arr 4 (gCpy (Mt.a 4) (160 + a) (Mt.a 13) 3 (min N (60 - a)))).put 4 8 (nI (a + min N (60 - a)))).put 4 1 (1 - (Mt.arr 4 (gCpy (Mt.a 4) (160 + a) (Mt.a 13) 3 (min N (60 - a)))).a 4 1)).z 1 = 1 - M.z 1 := gz_s.trans e1
    have z8 : (((Mt.arr 4 (gCpy (Mt.a 4) (160 + a) (Mt.a 13) 3 (min N (60 - a)))).put 4 8 (nI (a + min N (60 - a)))).put 4 1 (1 - (Mt.arr 4 (gCpy (Mt.a 4) (160 + a) (Mt.a 13) 3 (min N (60 - a)))).a 4 1)).z 8 = ((a + min N (60 - a) : Nat) : Int) := (gz_n (by decide)).trans (gz_s.trans (nI_toInt (by omega)))
    have By : kBy (((Mt.arr 4 (gCpy (Mt.a 4) (160 + a) (Mt.a 13) 3 (min N (60 - a)))).put 4 8 (nI (a + min N (60 - a)))).put 4 1 (1 - (Mt.arr 4 (gCpy (Mt.a 4) (160 + a) (Mt.a 13) 3 (min N (60 - a)))).a 4 1)) := fun q h1 h2 => by
      rw [gput_n (by omega), gput_n (by omega), garr_s]
      unfold gCpy
      by_cases c : 160 + a ≤ q ∧ q < 160 + a + min N (60 - a)
      · rw [if_pos c]; exact hb _ (by omega)
      · rw [if_neg c]; exact I.2.2.1 _ h1 h2
    have F1 : ∀ k, (((Mt.arr 4 (gCpy (Mt.a 4) (160 + a) (Mt.a 13) 3 (min N (60 - a)))).put 4 8 (nI (a + min N (60 - a)))).put 4 1 (1 - (Mt.arr 4 (gCpy (Mt.a 4) (160 + a) (Mt.a 13) 3 (min N (60 - a)))).a 4 1)).f k = Mt.f k := fun _ => rfl
    have F2 : ∀ i q, ¬ i = 4 → (((Mt.arr 4 (gCpy (Mt.a 4) (160 + a) (Mt.a 13) 3 (min N (60 - a)))).put 4 8 (nI (a + min N (60 - a)))).put 4 1 (1 - (Mt.arr 4 (gCpy (Mt.a 4) (160 + a) (Mt.a 13) 3 (min N (60 - a)))).a 4 1)).a i q = Mt.a i q := fun i q h => (gput_o h).trans ((gput_o h).trans (garr_o h))
    have F3 : ∀ l E, kK Mt l E → kK (((Mt.arr 4 (gCpy (Mt.a 4) (160 + a) (Mt.a 13) 3 (min N (60 - a)))).put 4 8 (nI (a + min N (60 - a)))).put 4 1 (1 - (Mt.arr 4 (gCpy (Mt.a 4) (160 + a) (Mt.a 13) 3 (min N (60 - a)))).a 4 1)) l E := fun l E K => ((K.cpy (by omega)).put (by decide) (by decide)).put (by decide) (by decide)
    rw [← eT] at A z1 z8 By F1 F2 F3
    clear eT
    have Z : ∀ q, ¬ q = 1 → ¬ q = 8 → (q < 160 ∨ 220 ≤ q) → T.z q = Mt.z q := fun q h1 h2 h3 => congrArg Int32.toInt (A q h1 h2 h3)
    have AM : ∀ q, ¬ q = 0 → ¬ q = 1 → ¬ q = 4 → ¬ q = 5 → ¬ q = 8 → (q < 160 ∨ 220 ≤ q) → T.a 4 q = M.a 4 q := fun q g1 g2 g3 g4 g5 g6 => (A q g2 g5 g6).trans (tA q g1 g3 g4)
    have z5 : T.z 5 = -1 := (Z 5 (by decide) (by decide) (by omega)).trans t5
    have z8b : M.z 8 ≤ T.z 8 ∧ T.z 8 ≤ M.z 8 + N ∧ (M.z 8 = 0 → T.z 8 = N) := by
      rw [z8]; omega
    have RR : kR0 T Q kr := by
      unfold kR0
      rw [z1, z8, Z 0 (by decide) (by decide) (by omega), Z 2 (by decide) (by decide) (by omega), Z 3 (by decide) (by decide) (by omega), Z 4 (by decide) (by decide) (by omega), Z 5 (by decide) (by decide) (by omega), Z 6 (by decide) (by decide) (by omega), Z 7 (by decide) (by decide) (by omega), Z 9 (by decide) (by decide) (by omega), Z 10 (by decide) (by decide) (by omega), Z 14 (by decide) (by decide) (by omega), A 10 (by decide) (by decide) (by omega)]
      refine ⟨a1, by omega, a3, a4, a5, a6, by omega, a8, a9, a10, fun p k N a f e1 e2 e3 e4 => a11 p k N a f e1 e2 e3 fun j hj => ?_, a12, a13⟩
      have := a6 p
      rw [e4 j hj, A _ (by omega) (by omega) (by omega)]
    have C1 := hC T AM z1 z5 z8b
    have I' : kI T Q kr kc cr' rr rc wc := ⟨RR, I.2.1.cg fun q hq => A q (by omega) (by omega) (by omega), By, I.2.2.2.1.cg fun q hq => A q (by omega) (by omega) (by omega), C1, I.2.2.2.2.2.1.cg fun q hq => A q (by omega) (by omega) (by omega), I.2.2.2.2.2.2.1.cg fun q hq => A q (by omega) (by omega) (by omega), I.2.2.2.2.2.2.2.cg fun q hq => A q (by omega) (by omega) (by omega)⟩
    exact ⟨rfl, e64, I', AM, z1, z5, z8b, fun k => (F1 k).trans (tf k), fun i q h => (F2 i q h).trans (ta i q h), fun l E K => F3 l E (tK l E K)⟩
  by_cases c1 : (M.a 13 1) &&& 64 = 64 * M.a 4 1
  · by_cases c2 : M.a 4 5 < 0
    · exact Or.inr (key _ rfl c1 (by unfold rX8_takes_0; rw [if_pos c1, if_pos c2]))
    · by_cases c3 : M.a 4 6 = 1
      · exact Or.inl (by unfold rX8_takes_0; rw [if_pos c1, if_neg c2, if_pos c3])
      · exact Or.inr (key _ rfl c1 (by unfold rX8_takes_0; rw [if_pos c1, if_neg c2, if_neg c3]))
  · exact Or.inl (by unfold rX8_takes_0; rw [if_neg c1])
theorem kThr1 {M : gMd} {Q : Int32 × List Int32 → Prop} {kr kc cr rr rc wc : Int} (H : kI M Q kr kc cr rr rc wc) : kI (rX8_isThrough_1 M) Q kr kc cr rr rc wc ∧ (rX8_isThrough_1 M).z 21 = -1 ∧ (∀ q, ¬ q = 16 → ¬ q = 20 → ¬ q = 21 → (rX8_isThrough_1 M).a 4 q = M.a 4 q) ∧ ((M.z 21 < 0 ∧ rX8_isThrough_1 M = M) ∨ (0 ≤ M.z 21 ∧ (rX8_isThrough_1 M).z 20 = M.z 20 + M.z 23 ∧ (rX8_isThrough_1 M).z 16 = 1 - M.z 16)) ∧ (∀ k, (rX8_isThrough_1 M).f k = M.f k) ∧ (∀ i q, ¬ i = 4 → (rX8_isThrough_1 M).a i q = M.a i q)  ∧ ∀ l E, kK M l E → kK (rX8_isThrough_1 M) l E := by
  have R := H.2.1
  obtain ⟨a1, a2, a3, a4, a5, a6, a7, a8, a9, a10, a11, a12, a13⟩ := R
  unfold rX8_isThrough_1
  by_cases c : 0 ≤ M.a 4 21
  · rw [if_pos c]
    have c' : 0 ≤ M.z 21 := Int32.le_iff_toInt_le.mp c
    obtain ⟨p1, p2, p3, p4⟩ := a6 c'
    have e4 : (M.a 4 20 + M.a 4 23).toInt = M.z 20 + M.z 23 := gt_add (show _ ≤ M.z 20 + M.z 23 by omega) (show M.z 20 + M.z 23 < _ by omega)
    have e0 : (1 - M.a 4 16 : Int32).toInt = 1 - M.z 16 := gt_sub (show _ ≤ 1 - M.z 16 by omega) (show 1 - M.z 16 < _ by omega)
    have A : ∀ q, ¬ q = 16 → ¬ q = 20 → ¬ q = 21 → (((M.put 4 20 (M.a 4 20 + M.a 4 23)).put 4 16 (1 - M.a 4 16)).put 4 21 (-1)).a 4 q = M.a 4 q := fun q h1 h2 h3 => (gput_n h3).trans ((gput_n h1).trans (gput_n h2))
    have z5 : (((M.put 4 20 (M.a 4 20 + M.a 4 23)).put 4 16 (1 - M.a 4 16)).put 4 21 (-1)).z 21 = -1 := gz_s
    have z0 : (((M.put 4 20 (M.a 4 20 + M.a 4 23)).put 4 16 (1 - M.a 4 16)).put 4 21 (-1)).z 16 = 1 - M.z 16 := (gz_n (by decide)).trans (gz_s.trans e0)
    have z4 : (((M.put 4 20 (M.a 4 20 + M.a 4 23)).put 4 16 (1 - M.a 4 16)).put 4 21 (-1)).z 20 = M.z 20 + M.z 23 := (gz_n (by decide)).trans ((gz_n (by decide)).trans (gz_s.trans e4))
    refine ⟨?_, z5, A, Or.inr ⟨c', z4, z0⟩, fun _ => rfl, fun i q h => (gput_o h).trans ((gput_o h).trans (gput_o h)), fun l E K => ((K.put (by decide) (by decide)).put (by decide) (by decide)).put (by decide) (by decide)⟩
    generalize (((M.put 4 20 (M.a 4 20 + M.a 4 23)).put 4 16 (1 - M.a 4 16)).put 4 21 (-1)) = M' at A z5 z0 z4 ⊢
    have Z : ∀ q, ¬ q = 16 → ¬ q = 20 → ¬ q = 21 → M'.z q = M.z q := fun q h1 h2 h3 => congrArg Int32.toInt (A q h1 h2 h3)
    have RR : kR1 M' Q kc := by
      unfold kR1
      rw [z0, z4, z5, Z 17 (by decide) (by decide) (by decide), Z 18 (by decide) (by decide) (by decide), Z 19 (by decide) (by decide) (by decide), Z 22 (by decide) (by decide) (by decide), Z 23 (by decide) (by decide) (by decide), Z 24 (by decide) (by decide) (by decide), Z 25 (by decide) (by decide) (by decide), Z 26 (by decide) (by decide) (by decide), Z 30 (by decide) (by decide) (by decide), A 26 (by decide) (by decide) (by decide)]
      exact ⟨by omega, a2, a3, by omega, by omega, fun p => absurd p (by omega), a7, a8, a9, a10, fun p => absurd p (by omega), a12, by omega, fun _ => by omega, fun p => absurd p (by omega)⟩
    exact ⟨H.1.cg fun q hq => A q (by omega) (by omega) (by omega), RR, H.2.2.1.cg fun q h1 h2 => A q (by omega) (by omega) (by omega), H.2.2.2.1.cg fun q hq => A q (by omega) (by omega) (by omega), H.2.2.2.2.1.cg fun q hq => A q (by omega) (by omega) (by omega), H.2.2.2.2.2.1.cg fun q hq => A q (by omega) (by omega) (by omega), H.2.2.2.2.2.2.1.cg fun q hq => A q (by omega) (by omega) (by omega), H.2.2.2.2.2.2.2.cg fun q hq => A q (by omega) (by omega) (by omega)⟩
  · rw [if_neg c]
    have c' : M.z 21 < 0 := by
      have : ¬ 0 ≤ M.z 21 := fun h => c (Int32.le_iff_toInt_le.mpr h)
      omega
    exact ⟨H, by omega, fun q _ _ _ => rfl, Or.inl ⟨c', rfl⟩, fun _ => rfl, fun _ _ _ => rfl, fun _ _ K => K⟩
theorem kMsg1 {M : gMd} {Q : Int32 × List Int32 → Prop} {kr kc cr rr rc wc : Int} {cr' : Int} (H : kI M Q kr kc cr rr rc wc) (hC : kCr (rX8_messageCame_1 M) cr') (h25 : M.z 25 = -1) : kI (rX8_messageCame_1 M) Q kr kc cr' rr rc wc ∧ (∀ q, ¬ q = 24 → ¬ q = 29 → ¬ q = 30 → (q < 352 ∨ 412 ≤ q) → (rX8_messageCame_1 M).a 4 q = M.a 4 q) ∧ (rX8_messageCame_1 M).z 24 = 0 ∧ (rX8_messageCame_1 M).z 30 = M.z 24 ∧ (∀ k, (rX8_messageCame_1 M).f k = M.f k) ∧ (∀ i q, ¬ i = 4 → (rX8_messageCame_1 M).a i q = M.a i q) ∧ ∀ l E, kK M l E → kK (rX8_messageCame_1 M) l E := by
  have R := H.2.1
  obtain ⟨a1, a2, a3, a4, a5, a6, a7, a8, a9, a10, a11, a12, a13⟩ := R
  have cl := gt_clamp (show 0 ≤ (M.a 4 24).toInt from a7.1)
  have t8 : M.z 24 = (M.a 4 24).toInt := rfl
  unfold rX8_messageCame_1 at hC ⊢
  generalize (M.a 4 24).toNatClampNeg = N at cl hC ⊢
  have g0 : ∀ q, (q < 352 ∨ 412 ≤ q) → (M.arr 4 (gCpy (M.a 4) 352 (M.a 4) 224 N)).a 4 q = M.a 4 q := fun q h => garr_s.trans (gCpy_out (by omega))
  have A : ∀ q, ¬ q = 24 → ¬ q = 29 → ¬ q = 30 → (q < 352 ∨ 412 ≤ q) → ((((M.arr 4 (gCpy (M.a 4) 352 (M.a 4) 224 N)).put 4 30 ((M.arr 4 (gCpy (M.a 4) 352 (M.a 4) 224 N)).a 4 24)).put 4 29 (((M.arr 4 (gCpy (M.a 4) 352 (M.a 4) 224 N)).a 4 29) + 1)).put 4 24 0).a 4 q = M.a 4 q := fun q h1 h2 h3 h4 => (gput_n h1).trans ((gput_n h2).trans ((gput_n h3).trans (g0 q h4)))
  have z8 : ((((M.arr 4 (gCpy (M.a 4) 352 (M.a 4) 224 N)).put 4 30 ((M.arr 4 (gCpy (M.a 4) 352 (M.a 4) 224 N)).a 4 24)).put 4 29 (((M.arr 4 (gCpy (M.a 4) 352 (M.a 4) 224 N)).a 4 29) + 1)).put 4 24 0).z 24 = 0 := gz_s
  have z14 : ((((M.arr 4 (gCpy (M.a 4) 352 (M.a 4) 224 N)).put 4 30 ((M.arr 4 (gCpy (M.a 4) 352 (M.a 4) 224 N)).a 4 24)).put 4 29 (((M.arr 4 (gCpy (M.a 4) 352 (M.a 4) 224 N)).a 4 29) + 1)).put 4 24 0).z 30 = M.z 24 := (gz_n (by decide)).trans ((gz_n (by decide)).trans (gz_s.trans (congrArg Int32.toInt (g0 24 (by omega)))))
  have By : kBy ((((M.arr 4 (gCpy (M.a 4) 352 (M.a 4) 224 N)).put 4 30 ((M.arr 4 (gCpy (M.a 4) 352 (M.a 4) 224 N)).a 4 24)).put 4 29 (((M.arr 4 (gCpy (M.a 4) 352 (M.a 4) 224 N)).a 4 29) + 1)).put 4 24 0) := fun q h1 h2 => by
    rw [gput_n (by omega), gput_n (by omega), gput_n (by omega), garr_s]
    unfold gCpy
    by_cases c : 352 ≤ q ∧ q < 352 + N
    · rw [if_pos c]; exact H.2.2.1 _ (by omega) (by omega)
    · rw [if_neg c]; exact H.2.2.1 _ h1 h2
  refine ⟨?_, A, z8, z14, fun _ => rfl, fun i q h => (gput_o h).trans ((gput_o h).trans ((gput_o h).trans (garr_o h))), fun l E K => (((K.cpy (by omega)).put (by decide) (by decide)).put (by decide) (by decide)).put (by decide) (by decide)⟩
  generalize ((((M.arr 4 (gCpy (M.a 4) 352 (M.a 4) 224 N)).put 4 30 ((M.arr 4 (gCpy (M.a 4) 352 (M.a 4) 224 N)).a 4 24)).put 4 29 (((M.arr 4 (gCpy (M.a 4) 352 (M.a 4) 224 N)).a 4 29) + 1)).put 4 24 0) = M' at A z8 z14 By hC ⊢
  have Z : ∀ q, ¬ q = 24 → ¬ q = 29 → ¬ q = 30 → (q < 352 ∨ 412 ≤ q) → M'.z q = M.z q := fun q h1 h2 h3 h4 => congrArg Int32.toInt (A q h1 h2 h3 h4)
  have RR : kR1 M' Q kc := by
    unfold kR1
    rw [z8, z14, Z 16 (by decide) (by decide) (by decide) (by omega), Z 17 (by decide) (by decide) (by decide) (by omega), Z 18 (by decide) (by decide) (by decide) (by omega), Z 19 (by decide) (by decide) (by decide) (by omega), Z 20 (by decide) (by decide) (by decide) (by omega), Z 21 (by decide) (by decide) (by decide) (by omega), Z 22 (by decide) (by decide) (by decide) (by omega), Z 23 (by decide) (by decide) (by decide) (by omega), Z 25 (by decide) (by decide) (by decide) (by omega), Z 26 (by decide) (by decide) (by decide) (by omega), A 26 (by decide) (by decide) (by decide) (by omega)]
    refine ⟨a1, a2, a3, a4, a5, a6, by omega, a8, a9, by omega, fun p k N a f e1 e2 e3 e4 => a11 p k N a f e1 e2 e3 fun j hj => ?_, a12, a13⟩
    have := a6 p
    rw [e4 j hj, A _ (by omega) (by omega) (by omega) (by omega)]
  have W : kWc M' wc := by
    obtain ⟨w1, w2, w3, w4⟩ := H.2.2.2.2.2.2.2
    refine ⟨w1, fun p => ?_, fun p => ?_, fun p => ?_⟩
    · rw [Z 25 (by decide) (by decide) (by decide) (by omega)] at p; exact absurd p (by omega)
    · rw [Z 25 (by decide) (by decide) (by decide) (by omega)] at p; exact absurd p (by omega)
    · rw [Z 418 (by decide) (by decide) (by decide) (by omega)] at p; exact w4 p
  exact ⟨H.1.cg fun q hq => A q (by omega) (by omega) (by omega) (by omega), RR, By, H.2.2.2.1.cg fun q hq => A q (by omega) (by omega) (by omega) (by omega), hC, H.2.2.2.2.2.1.cg fun q hq => A q (by omega) (by omega) (by omega) (by omega), H.2.2.2.2.2.2.1.cg fun q hq => A q (by omega) (by omega) (by omega) (by omega), W⟩
theorem kTake1 {M : gMd} {Q : Int32 × List Int32 → Prop} {kr kc cr rr rc wc : Int} {cr' : Int} {N : Nat} (H : kI M Q kr kc cr rr rc wc) (hN : M.a 13 2 = nI N) (hN2 : N ≤ 60) (hby : ∀ q, q < N → gIr (M.a 13 (3 + q)) 255) (hC : ∀ T : gMd, (∀ q, ¬ q = 16 → ¬ q = 17 → ¬ q = 20 → ¬ q = 21 → ¬ q = 24 → (q < 224 ∨ 284 ≤ q) → T.a 4 q = M.a 4 q) → T.z 17 = 1 - M.z 17 → T.z 21 = -1 → M.z 24 ≤ T.z 24 ∧ T.z 24 ≤ M.z 24 + N ∧ (M.z 24 = 0 → T.z 24 = N) → kCr T cr') : (rX8_takes_1 M = (0, M)) ∨ ((rX8_takes_1 M).1 = 1 ∧ (M.a 13 1) &&& 64 = 64 * M.a 4 17 ∧ kI (rX8_takes_1 M).2 Q kr kc cr' rr rc wc ∧ (∀ q, ¬ q = 16 → ¬ q = 17 → ¬ q = 20 → ¬ q = 21 → ¬ q = 24 → (q < 224 ∨ 284 ≤ q) → (rX8_takes_1 M).2.a 4 q = M.a 4 q) ∧ (rX8_takes_1 M).2.z 17 = 1 - M.z 17 ∧ (rX8_takes_1 M).2.z 21 = -1 ∧ (M.z 24 ≤ (rX8_takes_1 M).2.z 24 ∧ (rX8_takes_1 M).2.z 24 ≤ M.z 24 + N ∧ (M.z 24 = 0 → (rX8_takes_1 M).2.z 24 = N)) ∧ (∀ k, (rX8_takes_1 M).2.f k = M.f k) ∧ (∀ i q, ¬ i = 4 → (rX8_takes_1 M).2.a i q = M.a i q) ∧ ∀ l E, kK M l E → kK (rX8_takes_1 M).2 l E) := by
  obtain ⟨I, t5, tA, tv, tf, ta, tK⟩ := kThr1 H
  have key : ∀ T, T = ((((rX8_isThrough_1 M).arr 4 (gCpy ((rX8_isThrough_1 M).a 4) (224 + ((rX8_isThrough_1 M).a 4 24).toNatClampNeg) ((rX8_isThrough_1 M).a 13) 3 (min (((rX8_isThrough_1 M).a 13 2).toNatClampNeg) (60 - ((rX8_isThrough_1 M).a 4 24).toNatClampNeg)))).put 4 24 (nI (((rX8_isThrough_1 M).a 4 24).toNatClampNeg + (min (((rX8_isThrough_1 M).a 13 2).toNatClampNeg) (60 - ((rX8_isThrough_1 M).a 4 24).toNatClampNeg))))).put 4 17 (1 - (((rX8_isThrough_1 M).arr 4 (gCpy ((rX8_isThrough_1 M).a 4) (224 + ((rX8_isThrough_1 M).a 4 24).toNatClampNeg) ((rX8_isThrough_1 M).a 13) 3 (min (((rX8_isThrough_1 M).a 13 2).toNatClampNeg) (60 - ((rX8_isThrough_1 M).a 4 24).toNatClampNeg)))).a 4 17))) → (M.a 13 1) &&& 64 = 64 * M.a 4 17 → rX8_takes_1 M = (1, T) → ((rX8_takes_1 M).1 = 1 ∧ (M.a 13 1) &&& 64 = 64 * M.a 4 17 ∧ kI (rX8_takes_1 M).2 Q kr kc cr' rr rc wc ∧ (∀ q, ¬ q = 16 → ¬ q = 17 → ¬ q = 20 → ¬ q = 21 → ¬ q = 24 → (q < 224 ∨ 284 ≤ q) → (rX8_takes_1 M).2.a 4 q = M.a 4 q) ∧ (rX8_takes_1 M).2.z 17 = 1 - M.z 17 ∧ (rX8_takes_1 M).2.z 21 = -1 ∧ (M.z 24 ≤ (rX8_takes_1 M).2.z 24 ∧ (rX8_takes_1 M).2.z 24 ≤ M.z 24 + N ∧ (M.z 24 = 0 → (rX8_takes_1 M).2.z 24 = N)) ∧ (∀ k, (rX8_takes_1 M).2.f k = M.f k) ∧ (∀ i q, ¬ i = 4 → (rX8_takes_1 M).2.a i q = M.a i q) ∧ ∀ l E, kK M l E → kK (rX8_takes_1 M).2 l E) := by
    intro T eT e64 eq
    rw [eq]
    have h132 : (rX8_isThrough_1 M).a 13 2 = nI N := (ta 13 2 (by decide)).trans hN
    have hcl : ((rX8_isThrough_1 M).a 13 2).toNatClampNeg = N := by rw [h132, nI_clamp (by omega)]
    have h8 : (rX8_isThrough_1 M).z 24 = M.z 24 := congrArg Int32.toInt (tA 24 (by decide) (by decide) (by decide))
    have h1 : (rX8_isThrough_1 M).z 17 = M.z 17 := congrArg Int32.toInt (tA 17 (by decide) (by decide) (by decide))
    have R := I.2.1
    obtain ⟨a1, a2, a3, a4, a5, a6, a7, a8, a9, a10, a11, a12, a13⟩ := R
    have c8 := gt_clamp (show 0 ≤ ((rX8_isThrough_1 M).a 4 24).toInt from a7.1)
    have c8' : ((rX8_isThrough_1 M).a 4 24).toInt = (rX8_isThrough_1 M).z 24 := rfl
    have hb : ∀ q, q < N → gIr ((rX8_isThrough_1 M).a 13 (3 + q)) 255 := fun q hq => by rw [ta 13 _ (by decide)]; exact hby q hq
    rw [hcl] at eT
    generalize ((rX8_isThrough_1 M).a 4 24).toNatClampNeg = a at c8 eT
    generalize (rX8_isThrough_1 M) = Mt at *
    have g0 : ∀ q, (q < 224 ∨ 284 ≤ q) → (Mt.arr 4 (gCpy (Mt.a 4) (224 + a) (Mt.a 13) 3 (min N (60 - a)))).a 4 q = Mt.a 4 q := fun q h => garr_s.trans (gCpy_out (by omega))
    have A : ∀ q, ¬ q = 17 → ¬ q = 24 → (q < 224 ∨ 284 ≤ q) → (((Mt.arr 4 (gCpy (Mt.a 4) (224 + a) (Mt.a 13) 3 (min N (60 - a)))).put 4 24 (nI (a + min N (60 - a)))).put 4 17 (1 - (Mt.arr 4 (gCpy (Mt.a 4) (224 + a) (Mt.a 13) 3 (min N (60 - a)))).a 4 17)).a 4 q = Mt.a 4 q := fun q h1 h2 h3 => (gput_n h1).trans ((gput_n h2).trans (g0 q h3))
    have e1 : (1 - (Mt.arr 4 (gCpy (Mt.a 4) (224 + a) (Mt.a 13) 3 (min N (60 - a)))).a 4 17 : Int32).toInt = 1 - M.z 17 := by
      have w : ((Mt.arr 4 (gCpy (Mt.a 4) (224 + a) (Mt.a 13) 3 (min N (60 - a)))).a 4 17).toInt = M.z 17 := (congrArg Int32.toInt (g0 17 (by omega))).trans h1
      have o1 : (1 : Int32).toInt = 1 := by decide
      rw [gt_sub (by rw [w, o1]; omega) (by rw [w, o1]; omega), w, o1]
    have z1 : (((Mt.arr 4 (gCpy (Mt.a 4) (224 + a) (Mt.a 13) 3 (min N (60 - a)))).put 4 24 (nI (a + min N (60 - a)))).put 4 17 (1 - (Mt.arr 4 (gCpy (Mt.a 4) (224 + a) (Mt.a 13) 3 (min N (60 - a)))).a 4 17)).z 17 = 1 - M.z 17 := gz_s.trans e1
    have z8 : (((Mt.arr 4 (gCpy (Mt.a 4) (224 + a) (Mt.a 13) 3 (min N (60 - a)))).put 4 24 (nI (a + min N (60 - a)))).put 4 17 (1 - (Mt.arr 4 (gCpy (Mt.a 4) (224 + a) (Mt.a 13) 3 (min N (60 - a)))).a 4 17)).z 24 = ((a + min N (60 - a) : Nat) : Int) := (gz_n (by decide)).trans (gz_s.trans (nI_toInt (by omega)))
    have By : kBy (((Mt.arr 4 (gCpy (Mt.a 4) (224 + a) (Mt.a 13) 3 (min N (60 - a)))).put 4 24 (nI (a + min N (60 - a)))).put 4 17 (1 - (Mt.arr 4 (gCpy (Mt.a 4) (224 + a) (Mt.a 13) 3 (min N (60 - a)))).a 4 17)) := fun q h1 h2 => by
      rw [gput_n (by omega), gput_n (by omega), garr_s]
      unfold gCpy
      by_cases c : 224 + a ≤ q ∧ q < 224 + a + min N (60 - a)
      · rw [if_pos c]; exact hb _ (by omega)
      · rw [if_neg c]; exact I.2.2.1 _ h1 h2
    have F1 : ∀ k, (((Mt.arr 4 (gCpy (Mt.a 4) (224 + a) (Mt.a 13) 3 (min N (60 - a)))).put 4 24 (nI (a + min N (60 - a)))).put 4 17 (1 - (Mt.arr 4 (gCpy (Mt.a 4) (224 + a) (Mt.a 13) 3 (min N (60 - a)))).a 4 17)).f k = Mt.f k := fun _ => rfl
    have F2 : ∀ i q, ¬ i = 4 → (((Mt.arr 4 (gCpy (Mt.a 4) (224 + a) (Mt.a 13) 3 (min N (60 - a)))).put 4 24 (nI (a + min N (60 - a)))).put 4 17 (1 - (Mt.arr 4 (gCpy (Mt.a 4) (224 + a) (Mt.a 13) 3 (min N (60 - a)))).a 4 17)).a i q = Mt.a i q := fun i q h => (gput_o h).trans ((gput_o h).trans (garr_o h))
    have F3 : ∀ l E, kK Mt l E → kK (((Mt.arr 4 (gCpy (Mt.a 4) (224 + a) (Mt.a 13) 3 (min N (60 - a)))).put 4 24 (nI (a + min N (60 - a)))).put 4 17 (1 - (Mt.arr 4 (gCpy (Mt.a 4) (224 + a) (Mt.a 13) 3 (min N (60 - a)))).a 4 17)) l E := fun l E K => ((K.cpy (by omega)).put (by decide) (by decide)).put (by decide) (by decide)
    rw [← eT] at A z1 z8 By F1 F2 F3
    clear eT
    have Z : ∀ q, ¬ q = 17 → ¬ q = 24 → (q < 224 ∨ 284 ≤ q) → T.z q = Mt.z q := fun q h1 h2 h3 => congrArg Int32.toInt (A q h1 h2 h3)
    have AM : ∀ q, ¬ q = 16 → ¬ q = 17 → ¬ q = 20 → ¬ q = 21 → ¬ q = 24 → (q < 224 ∨ 284 ≤ q) → T.a 4 q = M.a 4 q := fun q g1 g2 g3 g4 g5 g6 => (A q g2 g5 g6).trans (tA q g1 g3 g4)
    have z5 : T.z 21 = -1 := (Z 21 (by decide) (by decide) (by omega)).trans t5
    have z8b : M.z 24 ≤ T.z 24 ∧ T.z 24 ≤ M.z 24 + N ∧ (M.z 24 = 0 → T.z 24 = N) := by
      rw [z8]; omega
    have RR : kR1 T Q kc := by
      unfold kR1
      rw [z1, z8, Z 16 (by decide) (by decide) (by omega), Z 18 (by decide) (by decide) (by omega), Z 19 (by decide) (by decide) (by omega), Z 20 (by decide) (by decide) (by omega), Z 21 (by decide) (by decide) (by omega), Z 22 (by decide) (by decide) (by omega), Z 23 (by decide) (by decide) (by omega), Z 25 (by decide) (by decide) (by omega), Z 26 (by decide) (by decide) (by omega), Z 30 (by decide) (by decide) (by omega), A 26 (by decide) (by decide) (by omega)]
      refine ⟨a1, by omega, a3, a4, a5, a6, by omega, a8, a9, a10, fun p k N a f e1 e2 e3 e4 => a11 p k N a f e1 e2 e3 fun j hj => ?_, a12, a13⟩
      have := a6 p
      rw [e4 j hj, A _ (by omega) (by omega) (by omega)]
    have C1 := hC T AM z1 z5 z8b
    have I' : kI T Q kr kc cr' rr rc wc := ⟨I.1.cg fun q hq => A q (by omega) (by omega) (by omega), RR, By, I.2.2.2.1.cg fun q hq => A q (by omega) (by omega) (by omega), C1, I.2.2.2.2.2.1.cg fun q hq => A q (by omega) (by omega) (by omega), I.2.2.2.2.2.2.1.cg fun q hq => A q (by omega) (by omega) (by omega), I.2.2.2.2.2.2.2.cg fun q hq => A q (by omega) (by omega) (by omega)⟩
    exact ⟨rfl, e64, I', AM, z1, z5, z8b, fun k => (F1 k).trans (tf k), fun i q h => (F2 i q h).trans (ta i q h), fun l E K => F3 l E (tK l E K)⟩
  by_cases c1 : (M.a 13 1) &&& 64 = 64 * M.a 4 17
  · by_cases c2 : M.a 4 21 < 0
    · exact Or.inr (key _ rfl c1 (by unfold rX8_takes_1; rw [if_pos c1, if_pos c2]))
    · by_cases c3 : M.a 4 22 = 1
      · exact Or.inl (by unfold rX8_takes_1; rw [if_pos c1, if_neg c2, if_pos c3])
      · exact Or.inr (key _ rfl c1 (by unfold rX8_takes_1; rw [if_pos c1, if_neg c2, if_neg c3]))
  · exact Or.inl (by unfold rX8_takes_1; rw [if_neg c1])
