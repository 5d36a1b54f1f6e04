/-! the reference: the reader's half of a turn, whole (by program: wip/p2/m_pj.py) -/
theorem kTabW : ∀ k : Fin 256, 128 ≤ k.1 → k.1 < 192 → (((nI k.1) >>> (4 &&& 31)) &&& 1) = nI (k.1 / 16 % 2) := by decide +kernel
section KP9
variable {M : gMd} {Q : Int32 × List Int32 → Prop} {kr kc cr rr rc wc b : Int}
theorem kI.p18 (H : kI M Q kr kc cr rr rc wc) {x : Int32} (hx : 1 ≤ x.toInt ∧ x.toInt ≤ 255) : kI (M.put 4 18 x) Q kr kc cr rr rc wc := by
  have A : ∀ q, ¬ q = 18 → (M.put 4 18 x).a 4 q = M.a 4 q := fun q h => gput_n h
  have z : (M.put 4 18 x).z 18 = x.toInt := gz_s
  obtain ⟨a1, a2, a3, a4, a5, a6, a7, a8, a9, a10, a11, a12, a13⟩ := H.2.1
  generalize M.put 4 18 x = M' at A z ⊢
  have Z : ∀ q, ¬ q = 18 → M'.z q = M.z q := fun q h => congrArg Int32.toInt (A q h)
  have RR : kR1 M' Q kc := by
    unfold kR1
    rw [z, Z 16 (by decide), Z 17 (by decide), Z 19 (by decide), Z 20 (by decide), Z 21 (by decide), Z 22 (by decide), Z 23 (by decide), Z 24 (by decide), Z 25 (by decide), Z 26 (by decide), Z 30 (by decide), A 26 (by decide)]
    exact ⟨a1, a2, hx, a4, a5, a6, a7, a8, a9, a10, fun p k N a f e1 e2 e3 e4 => a11 p k N a f e1 e2 e3 fun j hj => by rw [e4 j hj, A _ (by omega)], a12, a13⟩
  exact ⟨H.1.cg fun q hq => A q (by omega), RR, H.2.2.1.cg fun q h1 h2 => A q (by omega), H.2.2.2.1.cg fun q hq => A q (by omega), H.2.2.2.2.1.cg fun q hq => A q (by omega), H.2.2.2.2.2.1.cg fun q hq => A q (by omega), H.2.2.2.2.2.2.1.cg fun q hq => A q (by omega), H.2.2.2.2.2.2.2.cg fun q hq => A q (by omega)⟩
theorem kI.p8 (H : kI M Q kr kc cr rr rc wc) : kI (M.put 4 8 0) Q kr kc cr rr rc wc := by
  have A : ∀ q, ¬ q = 8 → (M.put 4 8 0).a 4 q = M.a 4 q := fun q h => gput_n h
  have z : (M.put 4 8 0).z 8 = 0 := gz_s
  obtain ⟨a1, a2, a3, a4, a5, a6, a7, a8, a9, a10, a11, a12, a13⟩ := H.1
  generalize M.put 4 8 0 = M' at A z ⊢
  have Z : ∀ q, ¬ q = 8 → M'.z q = M.z q := fun q h => congrArg Int32.toInt (A q h)
  have RR : kR0 M' Q kr := by
    unfold kR0
    rw [z, Z 0 (by decide), Z 1 (by decide), Z 2 (by decide), Z 3 (by decide), Z 4 (by decide), Z 5 (by decide), Z 6 (by decide), Z 7 (by decide), Z 9 (by decide), Z 10 (by decide), Z 14 (by decide), A 10 (by decide)]
    exact ⟨a1, a2, a3, a4, a5, a6, by omega, a8, a9, a10, fun p k N a f e1 e2 e3 e4 => a11 p k N a f e1 e2 e3 fun j hj => by rw [e4 j hj, A _ (by omega)], a12, a13⟩
  exact ⟨RR, H.2.1.cg fun q hq => A q (by omega), H.2.2.1.cg fun q h1 h2 => A q (by omega), H.2.2.2.1.cg fun q hq => A q (by omega), H.2.2.2.2.1.cg fun q hq => A q (by omega), H.2.2.2.2.2.1.cg fun q hq => A q (by omega), H.2.2.2.2.2.2.1.cg fun q hq => A q (by omega), H.2.2.2.2.2.2.2.cg fun q hq => A q (by omega)⟩
/-- what the reader responds: the card's room told, or a wait -/
theorem kP0.resp1 {M1 : gMd} {g : Nat} {tc : Int} (H : kI M1 Q kr kc cr rr rc wc) (h1 : M1.a 13 1 = nI g) (h2 : M1.a 13 2 = nI 1) (hg : g = 193 ∨ g = 195) (h3 : gIr (M1.a 13 3) 255) (ht : 0 ≤ tc) (hG : (M1.z 25 = (g : Int) - 192 ∧ M1.a 13 3 = M1.a 4 26) ∨ 10718 ≤ tc) (hb : kr + kc + cr + rr + rc + wc + tc + 52 ≤ b) : kP0 Q b (pX8_responds_0 M1) ∧ ∀ l E, kK M1 l E → oX8_responds_0 M1 l E := by
  obtain ⟨u1, u2⟩ := H.2.2.2.2.2.2.1
  rcases hG with ⟨z25, e3⟩ | h
  · refine kP0.resp (k := g) (N := 1) (c := rc) h1 h2 (Or.inr ⟨hg, rfl⟩) h3 u1 (fun _ => ?_) fun Q' hq hn => ?_
    · rcases u2 (by omega) with q | q
      · exact Or.inl fun f hf => q (g + 32) f (by omega) (by rw [hf, e3])
      · rw [show ((g + 32 : Nat) : Int) = 224 + M1.z 25 by omega, e3]
        exact Or.inr q
    · have H' := H.mono hq
      refine ⟨kr, kc, cr, rr, 0, wc, ⟨H'.1, H'.2.1, H'.2.2.1, H'.2.2.2.1, H'.2.2.2.2.1, H'.2.2.2.2.2.1, ⟨by decide, fun _ => Or.inl fun k f ek ef => ?_⟩, H'.2.2.2.2.2.2.2⟩, by omega⟩
      rw [show k = g + 32 by omega]
      exact hn rfl f (by rw [ef, e3])
  · refine kP0.resp (k := g) (N := 1) (c := 400) h1 h2 (Or.inr ⟨hg, rfl⟩) h3 (by decide) (fun _ => Or.inr (Int.ofNat_le.mpr (kSp_S (by omega)))) fun Q' hq hn => ⟨kr, kc, cr, rr, rc, wc, H.mono hq, by omega⟩
theorem kConv {A : Prop} {B : Nat → List (Int32 × List Int32) → Prop} {M M0 : gMd} (K0 : ∀ l E, kK M l E → kK M0 l E) (h : A ∧ ∀ l E, kK M0 l E → B l E) : A ∧ ∀ l E, kK M l E → B l E := ⟨h.1, fun l E K => h.2 l E (K0 l E K)⟩
theorem kWant {A : Prop} {B C : Nat → List (Int32 × List Int32) → Prop} {M : gMd} (e : ∀ l E, kK M l E → B l E = C l E) (h : A ∧ ∀ l E, kK M l E → C l E) : A ∧ ∀ l E, kK M l E → B l E := ⟨h.1, fun l E K => by rw [e l E K]; exact h.2 l E K⟩
theorem kFin {M0 : gMd} {P : gMd × Option (Int32 × Int32)} {O : Nat → List (Int32 × List Int32) → Prop} (h : kP0 Q b P ∧ ∀ l E, kK M0 l E → O l E) (h34 : P.1.f 34 = 0) : kP0 Q b (if P.1.f 34 ≤ 0 then (P.1.put 4 422 0, P.2) else pX8_triesOn P.1) ∧ ∀ l E, kK M0 l E → (O l E ∧ (if P.1.f 34 ≤ 0 then True else (P.2 = none ∧ oX8_triesOn P.1 l E))) :=
  ⟨h.1.fin h34, fun l E K => ⟨h.2 l E K, by rw [if_pos (by rw [h34]; decide)]; trivial⟩⟩
theorem kTry {M0 : gMd} {v : Nat} {y r : Int32} {tc : Int} (H : kI M0 Q kr kc cr rr rc wc) (h420 : M0.z 420 = 0) (h419 : M0.z 419 = 1) (ey : y = nI v) (hv : v = 1 ∨ v = 2 ∨ v = 3) (h1 : v = 1 → 0 ≤ M0.z 9) (h2 : v = 2 → r = nI 1 ∨ r = nI 2) (h3 : v = 3 → 0 ≤ M0.z 5 ∧ M0.z 9 = -1 ∧ (2 ≤ M0.z 7 → ¬ M0.z 6 = 1 → ¬ M0.z 17 = M0.z 0 → M0.z 24 = 0 → 10718 ≤ tc)) (ht : 0 ≤ tc) (hb : kr + kc + cr + rr + rc + wc + tc + 52 ≤ b) : kP0 Q b (if (rX8_tries M0 y r).f 34 ≤ 0 then ((rX8_tries M0 y r).put 4 422 0, none) else pX8_triesOn (rX8_tries M0 y r)) ∧ ¬ (rX8_tries M0 y r).f 34 ≤ 0 ∧ ∀ l E, kK M0 l E → oX8_triesOn (rX8_tries M0 y r) l E := by
  have i34 : (rX8_tries M0 y r).f 34 = nI v := ((gset_n (by decide)).trans gset_s).trans ey
  have i35 : (rX8_tries M0 y r).f 35 = r := gset_s
  have P := kP0.try (M := rX8_tries M0 y r) (v := v) (tc := tc) (b := b) (H.cg fun q _ _ _ _ _ _ _ => rfl) h420 h419 i34 hv h1 (by rw [i35]; exact h2) h3 ht hb none
  exact ⟨P.1, P.2.1, fun l E K => P.2.2 l E ((K.set (by decide)).set (by decide))⟩
theorem kGo34 {M0 : gMd} : (pX8_goesOn_0 M0).1.f 34 = M0.f 34 := by
  have t : (rX8_isThrough_0 M0).f 34 = M0.f 34 := by
    unfold rX8_isThrough_0
    split <;> rfl
  unfold pX8_goesOn_0
  by_cases c : M0.a 4 6 = 1
  · rw [if_pos c, if_neg (by decide)]; exact t
  · rw [if_neg c, if_pos rfl]; exact t
theorem kRead {tc : Int} (H : kI M Q kr kc cr rr rc wc) (h420 : M.z 420 = 0) (h419 : M.z 419 = 1) (h29 : gIr (M.f 29) 3) (ht : 0 ≤ tc) (hX : M.f 29 = 0 → ∃ g N : Nat, M.a 13 1 = nI g ∧ g < 256 ∧ M.a 13 2 = nI N ∧ N ≤ 60 ∧ (∀ q, q < N + 4 → gIr (M.a 13 q) 255) ∧ kSh M g N ∧ (kGd M g (fun _ => M.a 13 3) ∨ 10718 ≤ tc)) (hb : kr + kc + cr + rr + rc + wc + tc + 52 ≤ b) : kP0 Q b (pX8_readerGets M) ∧ ∀ l E, kK M l E → oX8_readerGets M l E := by
  have i34 : (rX8_tries M 0 0).f 34 = 0 := (gset_n (by decide)).trans gset_s
  have i29 : (rX8_tries M 0 0).f 29 = M.f 29 := (gset_n (by decide)).trans (gset_n (by decide))
  have H0 : kI (rX8_tries M 0 0) Q kr kc cr rr rc wc := H.cg fun q _ _ _ _ _ _ _ => rfl
  have K0 : ∀ l E, kK M l E → kK (rX8_tries M 0 0) l E := fun l E K => (K.set (by decide)).set (by decide)
  have h420' : (rX8_tries M 0 0).z 420 = 0 := h420
  have h419' : (rX8_tries M 0 0).z 419 = 1 := h419
  rw [← i29] at h29
  have hX' : (rX8_tries M 0 0).f 29 = 0 → ∃ g N : Nat, (rX8_tries M 0 0).a 13 1 = nI g ∧ g < 256 ∧ (rX8_tries M 0 0).a 13 2 = nI N ∧ N ≤ 60 ∧ (∀ q, q < N + 4 → gIr ((rX8_tries M 0 0).a 13 q) 255) ∧ kSh (rX8_tries M 0 0) g N ∧ (kGd (rX8_tries M 0 0) g (fun _ => (rX8_tries M 0 0).a 13 3) ∨ 10718 ≤ tc) := fun h => hX (i29.symm.trans h)
  unfold pX8_readerGets oX8_readerGets
  refine kConv K0 ?_
  clear hX i29 K0 H h420 h419
  generalize rX8_tries M 0 0 = M0 at *
  skip
  have H := H0
  have h420 := h420'
  have h419 := h419'
  have hX := hX'
  clear H0 h420' h419' hX'
  obtain ⟨x1, x2, x3, x4, x5, x6, x7, x8⟩ := H.2.2.2.1
  obtain ⟨a1, a2, a3, a4, a5, a6, a7, a8, a9, a10, a11, a12, a13⟩ := H.1
  obtain ⟨y1, y2, y3⟩ := H.2.2.2.2.1
  by_cases c0 : M0.f 29 = 0
  · rw [if_pos c0]
    obtain ⟨g, N, eg, hg, eN, hN, hby, hsh, hG⟩ := hX c0
    by_cases c1 : M0.a 4 9 < 0
    · rw [if_pos c1]
      have c1' : M0.z 9 < 0 := Int32.lt_iff_toInt_lt.mp c1
      by_cases c2 : 128 ≤ M0.a 13 1
      · rw [if_pos c2]
        have c2' : 128 ≤ g := (kLe eg (by omega) (by decide)).mp c2
        by_cases c3 : 192 ≤ M0.a 13 1
        · rw [if_pos c3]
          have c3' : 192 ≤ g := (kLe eg (by omega) (by decide)).mp c3
          refine kWant (fun l E K => by rw [if_pos c0, if_pos c1, if_pos c2, if_pos c3]) ?_
          by_cases d1 : M0.a 13 1 = 193
          · have eP : pX8_readerAsked M0 = pX8_responds_0 (M0.put 4 18 (M0.a 13 3)) := by unfold pX8_readerAsked; rw [if_pos d1]
            have eO : ∀ l E, oX8_readerAsked M0 l E = oX8_responds_0 (M0.put 4 18 (M0.a 13 3)) l E := fun l E => by unfold oX8_readerAsked; rw [if_pos d1]
            have g1 : g = 193 := by rw [eg] at d1; exact nI_inj (by omega) (by decide) d1
            obtain ⟨N1, hin⟩ : N = 1 ∧ 1 ≤ (M0.a 13 3).toInt ∧ (M0.a 13 3).toInt ≤ 254 := by
              rcases hsh with s | ⟨s, -⟩ | ⟨s, -⟩ | ⟨s, -⟩ | ⟨-, s⟩
              · simp at s; omega
              · simp at s; omega
              · omega
              · omega
              · exact s
            have P := kP0.resp1 (b := b) (g := g) (tc := tc) (H.p18 ⟨hin.1, by omega⟩) ((gput_o (by decide)).trans eg) ((gput_o (by decide)).trans (by rw [eN, N1])) (Or.inl g1) (by rw [gput_o (by decide)]; exact hby 3 (by omega)) ht (hG.imp (fun q => by
              have := q.2 (Or.inl g1)
              refine ⟨(gz_n (by decide)).trans this.1, (gput_o (by decide)).trans (this.2.trans (gput_n (by decide)).symm)⟩) id) hb
            exact kFin (M0 := M0) ⟨by rw [eP]; exact P.1, fun l E K => by rw [eO]; exact P.2 l E (K.put (by decide) (by decide))⟩ (by rw [eP]; exact i34)
          · by_cases d2 : M0.a 13 1 = 194
            · have eP : pX8_readerAsked M0 = pX8_responds_0 ((rX8_empties_0 (rX8_isThrough_0 M0)).put 4 421 1) := by unfold pX8_readerAsked; rw [if_neg d1, if_pos d2]
              have eO : ∀ l E, oX8_readerAsked M0 l E = oX8_responds_0 ((rX8_empties_0 (rX8_isThrough_0 M0)).put 4 421 1) l E := fun l E => by unfold oX8_readerAsked; rw [if_neg d1, if_pos d2]
              have g1 : g = 194 := by rw [eg] at d2; exact nI_inj (by omega) (by decide) d2
              have N0 : N = 0 := by
                rcases hsh with s | ⟨s, -⟩ | ⟨-, s⟩ | ⟨s, -⟩ | ⟨s, -⟩
                · simp at s; omega
                · simp at s; omega
                · exact s
                · omega
                · omega
              obtain ⟨I, -, -, -, tf, ta, -, tK⟩ := kThr0 H
              have I2 : kI ((rX8_empties_0 (rX8_isThrough_0 M0)).put 4 421 1) Q kr kc cr rr rc wc := (kEmp0 I).cg fun q hq _ _ _ _ _ _ => gput_n (by omega)
              have e13 : ∀ q, ((rX8_empties_0 (rX8_isThrough_0 M0)).put 4 421 1).a 13 q = M0.a 13 q := fun q => (gput_o (by decide)).trans ((gput_o (by decide)).trans ((gput_o (by decide)).trans ((gput_o (by decide)).trans ((gput_o (by decide)).trans (ta 13 q (by decide))))))
              have P := kP0.resp (M := (rX8_empties_0 (rX8_isThrough_0 M0)).put 4 421 1) (Q := Q) (b := b) (c := 0) (k := 194) (N := 0) ((e13 1).trans d2) ((e13 2).trans (by rw [eN, N0])) (Or.inl ⟨Or.inr rfl, rfl⟩) (by rw [e13]; exact hby 3 (by omega)) (by decide) (fun p => absurd p (by decide)) fun Q' h _ => ⟨kr, kc, cr, rr, rc, wc, I2.mono h, by omega⟩
              exact kFin (M0 := M0) ⟨by rw [eP]; exact P.1, fun l E K => by rw [eO]; exact P.2 l E (((((((tK l E K).put (by decide) (by decide)).put (by decide) (by decide)).put (by decide) (by decide)).put (by decide) (by decide)).put (by decide) (by decide)))⟩ (by rw [eP]; exact (tf 34).trans i34)
            · by_cases d3 : M0.a 13 1 = 195
              · have eP : pX8_readerAsked M0 = pX8_responds_0 M0 := by unfold pX8_readerAsked; rw [if_neg d1, if_neg d2, if_pos d3]
                have eO : ∀ l E, oX8_readerAsked M0 l E = oX8_responds_0 M0 l E := fun l E => by unfold oX8_readerAsked; rw [if_neg d1, if_neg d2, if_pos d3]
                have g1 : g = 195 := by rw [eg] at d3; exact nI_inj (by omega) (by decide) d3
                have N1 : N = 1 := by
                  rcases hsh with s | ⟨s, -⟩ | ⟨s, -⟩ | ⟨-, s⟩ | ⟨s, -⟩
                  · simp at s; omega
                  · simp at s; omega
                  · omega
                  · exact s
                  · omega
                have P := kP0.resp1 (b := b) (g := g) (tc := tc) H eg (by rw [eN, N1]) (Or.inr g1) (hby 3 (by omega)) ht (hG.imp (fun q => q.2 (Or.inr g1)) id) hb
                exact kFin (M0 := M0) ⟨by rw [eP]; exact P.1, fun l E K => by rw [eO]; exact P.2 l E K⟩ (by rw [eP]; exact i34)
              · have eP : pX8_readerAsked M0 = (rX8_tries M0 2 2, none) := by unfold pX8_readerAsked; rw [if_neg d1, if_neg d2, if_neg d3]
                have eO : ∀ l E, oX8_readerAsked M0 l E = True := fun l E => by unfold oX8_readerAsked; rw [if_neg d1, if_neg d2, if_neg d3]
                have T := kTry (v := 2) (y := 2) (r := 2) (tc := 0) H h420 h419 rfl (by omega) (fun p => absurd p (by decide)) (fun _ => Or.inr rfl) (fun p => absurd p (by decide)) (by decide) (b := b) (by omega)
                rw [eP]
                exact ⟨T.1, fun l E K => ⟨by rw [eO]; trivial, (if_neg T.2.1).mpr ⟨rfl, T.2.2 l E K⟩⟩⟩
        · rw [if_neg c3]
          have c3' : g < 192 := Nat.not_le.mp fun h => c3 ((kLe eg (by omega) (by decide) : (192 : Int32) ≤ M0.a 13 1 ↔ 192 ≤ g).mpr h)
          refine kWant (fun l E K => by rw [if_pos c0, if_pos c1, if_pos c2, if_neg c3]) ?_
          by_cases d1 : M0.a 4 421 = 1
          · have eP : pX8_readerTold M0 = (rX8_done (rX8_messageCame_0 (M0.put 4 8 0)), none) := by unfold pX8_readerTold; rw [if_pos d1]
            have I8 := H.p8
            obtain ⟨I, A, z8, z14, mf, ma, mK⟩ := kMsg0 (cr' := cr) I8 (kCr.cg (M := M0) (fun q hq => by
              have : ∀ q, ¬ q = 8 → ¬ q = 13 → ¬ q = 14 → (q < 288 ∨ 348 ≤ q) → (rX8_messageCame_0 (M0.put 4 8 0)).a 4 q = M0.a 4 q := fun q g1 g2 g3 g4 => (gput_n g1).trans ((gput_n g2).trans ((gput_n g3).trans (garr_s.trans ((gCpy_out (by rw [show (M0.put 4 8 0).a 4 8 = 0 from gput_s]; have : (0 : Int32).toNatClampNeg = 0 := (by decide); omega)).trans (gput_n g1)))))
              exact this q (by omega) (by omega) (by omega) (by omega)) H.2.2.2.2.1)
            have I2 := I.done ((congrArg Int32.toInt (A 420 (by decide) (by decide) (by decide) (by omega))).trans ((gz_n (by decide)).trans h420)) ((congrArg Int32.toInt (A 9 (by decide) (by decide) (by decide) (by omega))).trans ((gz_n (by decide)).trans (by omega)))
            refine kFin (M0 := M0) ⟨by rw [eP]; exact ⟨⟨kr, kc, cr, rr, rc, wc, I2, by omega⟩, kDone419⟩, fun l E K => ?_⟩ (by rw [eP]; exact (mf 34).trans i34)
            unfold oX8_readerTold
            rw [if_pos d1]
            exact ⟨⟨0, by decide, gput_s⟩, trivial⟩
          · by_cases d2 : 0 ≤ M0.a 4 5
            · have d2' : 0 ≤ M0.z 5 := Int32.le_iff_toInt_le.mp d2
              by_cases d3 : rX8_wantsAgain_0 M0 = 0
              · have eP : pX8_readerTold M0 = pX8_goesOn_0 M0 := by unfold pX8_readerTold; rw [if_neg d1, if_pos d2, if_pos d3]
                have eO : ∀ l E, oX8_readerTold M0 l E = oX8_goesOn_0 M0 l E := fun l E => by unfold oX8_readerTold; rw [if_neg d1, if_pos d2, if_pos d3]
                have P := kP0.goes (b := b) H d2' (by omega) (by omega)
                exact kFin (M0 := M0) ⟨by rw [eP]; exact P.1, fun l E K => by rw [eO]; exact P.2 l E K⟩ (by rw [eP]; exact kGo34.trans i34)
              · have eP : pX8_readerTold M0 = (rX8_tries M0 3 0, none) := by unfold pX8_readerTold; rw [if_neg d1, if_pos d2, if_neg d3]
                have eO : ∀ l E, oX8_readerTold M0 l E = True := fun l E => by unfold oX8_readerTold; rw [if_neg d1, if_pos d2, if_neg d3]
                have e0 : (((M0.a 13 1) >>> (4 &&& 31)) &&& 1) = M0.a 4 0 := by
                  by_cases c : (((M0.a 13 1) >>> (4 &&& 31)) &&& 1) = M0.a 4 0
                  · exact c
                  · exact absurd (by unfold rX8_wantsAgain_0; rw [if_neg c]) d3
                rw [eg, kTabW ⟨g, hg⟩ c2' c3'] at e0
                have z0 : M0.z 0 = ((g / 16 % 2 : Nat) : Int) := by
                  show (M0.a 4 0).toInt = _
                  rw [← e0, nI_toInt (by omega)]
                have T := kTry (v := 3) (y := 3) (r := 0) (tc := tc) H h420 h419 rfl (by omega) (fun p => absurd p (by decide)) (fun p => absurd p (by decide)) (fun _ => ⟨d2', by omega, fun _ _ q _ => hG.elim (fun G => absurd ((G.1 c2' c3').symm.trans z0.symm) q) id⟩) ht (b := b) hb
                rw [eP]
                exact ⟨T.1, fun l E K => ⟨by rw [eO]; trivial, (if_neg T.2.1).mpr ⟨rfl, T.2.2 l E K⟩⟩⟩
            · have eP : pX8_readerTold M0 = pX8_sendsR_0 M0 0 := by unfold pX8_readerTold; rw [if_neg d1, if_neg d2]
              have eO : ∀ l E, oX8_readerTold M0 l E = oX8_sendsR_0 M0 0 l E := fun l E => by unfold oX8_readerTold; rw [if_neg d1, if_neg d2]
              have P := kP0.R (b := b) H (show (0 : Int32) = nI 0 from rfl) (by omega) (by omega)
              exact kFin (M0 := M0) ⟨by rw [eP]; exact P.1, fun l E K => by rw [eO]; exact P.2 l E K⟩ (by rw [eP]; exact i34)
      · rw [if_neg c2]
        have c2' : g < 128 := Nat.not_le.mp fun h => c2 ((kLe eg (by omega) (by decide) : (128 : Int32) ≤ M0.a 13 1 ↔ 128 ≤ g).mpr h)
        refine kWant (fun l E K => by rw [if_pos c0, if_pos c1, if_neg c2]) ?_
        obtain ⟨Ith, t5, tA, tv, tf, ta, -, tK⟩ := kThr0 H
        have o8 : gIr ((rX8_isThrough_0 M0).a 4 8) 60 := by
          rw [tA 8 (by decide) (by decide) (by decide)]; exact gt_ir a7.1 a7.2
        have o13 : gIr ((rX8_isThrough_0 M0).a 13 2) 60 := by
          rw [ta 13 2 (by decide)]; exact ⟨N, hN, eN⟩
        have tk := kTake0 (cr' := cr) (N := N) H eN hN (fun q hq => hby (3 + q) (by omega)) fun T TA T1 T5 T8 => by
          refine ⟨y1, fun p => y2 ?_, fun p => ?_⟩
          · rw [show T.z 24 = M0.z 24 from congrArg Int32.toInt (TA 24 (by decide) (by decide) (by decide) (by decide) (by decide) (by omega))] at p; exact p
          · rw [T5, show T.z 420 = M0.z 420 from congrArg Int32.toInt (TA 420 (by decide) (by decide) (by decide) (by decide) (by decide) (by omega))] at p
            omega
        rcases tk with tk | ⟨tk1, tk64, TI, TA, T1, T5, T8, Tf, Ta, TK⟩
        · have T := kTry (v := 2) (y := 2) (r := 2) (tc := 0) H h420 h419 rfl (by omega) (fun p => absurd p (by decide)) (fun _ => Or.inr rfl) (fun p => absurd p (by decide)) (by decide) (b := b) (by omega)
          rw [if_pos (show (rX8_takes_0 M0).1 = 0 by rw [tk]), tk]
          refine ⟨T.1, fun l E K => ⟨o8, o13, ?_⟩⟩
          rw [if_pos rfl, if_neg T.2.1]
          exact T.2.2 l E K
        · have n0 : ¬ (rX8_takes_0 M0).1 = 0 := by rw [tk1]; decide
          rw [if_neg n0]
          generalize (rX8_takes_0 M0).2 = T at *
          have T420 : T.z 420 = 0 := (congrArg Int32.toInt (TA 420 (by decide) (by decide) (by decide) (by decide) (by decide) (by omega))).trans h420
          have T9 : T.z 9 = -1 := (congrArg Int32.toInt (TA 9 (by decide) (by decide) (by decide) (by decide) (by decide) (by omega))).trans (by show M0.z 9 = -1; omega)
          by_cases d1 : rX8_hasMoreCome T = 0
          · rw [if_pos d1]
            obtain ⟨I, A, z8, z14, mf, ma, mK⟩ := kMsg0 (cr' := cr) TI (kCr.cg (M := T) (fun q hq => by
              have t8 := TI.1.2.2.2.2.2.2.1
              have cl := gt_clamp (show 0 ≤ (T.a 4 8).toInt from t8.1)
              have e8 : T.z 8 = (T.a 4 8).toInt := rfl
              have : ∀ q, ¬ q = 8 → ¬ q = 13 → ¬ q = 14 → (q < 288 ∨ 348 ≤ q) → (rX8_messageCame_0 T).a 4 q = T.a 4 q := fun q g1 g2 g3 g4 => (gput_n g1).trans ((gput_n g2).trans ((gput_n g3).trans (garr_s.trans (gCpy_out (by omega)))))
              exact this q (by omega) (by omega) (by omega) (by omega)) TI.2.2.2.2.1)
            have I2 := I.done ((congrArg Int32.toInt (A 420 (by decide) (by decide) (by decide) (by omega))).trans T420) ((congrArg Int32.toInt (A 9 (by decide) (by decide) (by decide) (by omega))).trans T9)
            have f34 : (rX8_done (rX8_messageCame_0 T)).f 34 = 0 := (mf 34).trans ((Tf 34).trans i34)
            have t8 := TI.1.2.2.2.2.2.2.1
            rw [if_pos (show (rX8_done (rX8_messageCame_0 T)).f 34 ≤ 0 by rw [f34]; decide)]
            refine ⟨⟨⟨kr, kc, cr, rr, rc, wc, I2.cg fun q hq _ _ _ _ _ _ => gput_n (by omega), by omega⟩, fun h => kDone419 ((gput_n (by decide)).symm.trans h)⟩, fun l E K => ⟨o8, o13, ?_⟩⟩
            rw [if_neg n0, if_pos d1, if_pos (show (rX8_done (rX8_messageCame_0 T)).f 34 ≤ 0 by rw [f34]; decide)]
            exact ⟨gt_ir t8.1 t8.2, trivial⟩
          · rw [if_neg d1]
            have P := kP0.R (b := b) TI (show (0 : Int32) = nI 0 from rfl) (by omega) (by omega)
            have F := kFin (M0 := T) P ((Tf 34).trans i34)
            refine ⟨F.1, fun l E K => ⟨o8, o13, ?_⟩⟩
            rw [if_neg n0, if_neg d1]
            exact F.2 l E (TK l E K)
    · rw [if_neg c1]
      have c1' : 0 ≤ M0.z 9 := Int.not_lt.mp fun h => c1 (Int32.lt_iff_toInt_lt.mpr (show M0.z 9 < 0 from h))
      refine kWant (fun l E K => by rw [if_pos c0, if_neg c1]) ?_
      by_cases d1 : rX8_isResponse_0 M0 = 0
      · have T := kTry (v := 1) (y := 1) (r := 0) (tc := 0) H h420 h419 rfl (by omega) (fun _ => c1') (fun p => absurd p (by decide)) (fun p => absurd p (by decide)) (by decide) (b := b) (by omega)
        rw [if_pos d1]
        refine ⟨T.1, fun l E K => ?_⟩
        rw [if_pos d1, if_neg T.2.1]
        exact T.2.2 l E K
      · obtain ⟨I, f34, n419⟩ := kAns H h420 c1'
        have f34' : (rX8_readerAnswered M0).f 34 ≤ 0 := by rw [f34, i34]; decide
        rw [if_neg d1, if_pos f34']
        refine ⟨⟨⟨kr, kc, cr, rr, rc, wc, I.cg fun q hq _ _ _ _ _ _ => gput_n (by omega), by omega⟩, fun h => n419 ((gput_n (by decide)).symm.trans h)⟩, fun l E K => ?_⟩
        rw [if_neg d1, if_pos f34']
        trivial
  · rw [if_neg c0]
    by_cases c1 : M0.a 4 9 < 0
    · rw [if_pos c1]
      refine kWant (fun l E K => by rw [if_neg c0, if_pos c1]) ?_
      obtain ⟨r, er, hr⟩ : ∃ r : Int32, (if M0.f 29 = 1 then 1 else 2 : Int32) = r ∧ (r = nI 1 ∨ r = nI 2) := by
        by_cases c : M0.f 29 = 1
        · exact ⟨_, if_pos c, Or.inl rfl⟩
        · exact ⟨_, if_neg c, Or.inr rfl⟩
      rw [er]
      have T := kTry (v := 2) (y := 2) (r := r) (tc := 0) H h420 h419 rfl (by omega) (fun p => absurd p (by decide)) (fun _ => hr) (fun p => absurd p (by decide)) (by decide) (b := b) (by omega)
      refine ⟨T.1, fun l E K => ?_⟩
      rw [if_neg T.2.1]
      exact T.2.2 l E K
    · rw [if_neg c1]
      have c1' : 0 ≤ M0.z 9 := Int.not_lt.mp fun h => c1 (Int32.lt_iff_toInt_lt.mpr (show M0.z 9 < 0 from h))
      refine kWant (fun l E K => by rw [if_neg c0, if_neg c1]) ?_
      have T := kTry (v := 1) (y := 1) (r := 0) (tc := 0) H h420 h419 rfl (by omega) (fun _ => c1') (fun p => absurd p (by decide)) (fun p => absurd p (by decide)) (by decide) (b := b) (by omega)
      refine ⟨T.1, fun l E K => ?_⟩
      rw [if_neg T.2.1]
      exact T.2.2 l E K
end KP9
