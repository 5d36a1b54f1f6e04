/-! the reference: the card's half of a turn, under the invariant (by program: wip/p2/m_ph.py) -/
theorem kTab1 : ∀ k : Fin 256, (nI k.1 &&& 128) = 0 → (nI k.1 &&& 31) = 0 → k.1 ∈ [0, 32, 64, 96] := by decide +kernel
theorem kTab2 : ∀ k : Fin 256, ¬ (nI k.1 &&& 128) = 0 → (nI k.1 &&& 64) = 0 → ¬ 2 < (nI k.1 &&& 47) → k.1 ∈ [128, 129, 130, 144, 145, 146] := by decide +kernel
theorem kTab3 : ∀ k : Fin 256, ¬ (nI k.1 &&& 128) = 0 → (nI k.1 &&& 192) = 192 → (nI k.1 &&& 31) = 0 → k.1 = 192 ∨ k.1 = 224 := by decide +kernel
theorem kTab4 : ∀ k : Fin 256, ¬ (nI k.1 &&& 128) = 0 → (nI k.1 &&& 192) = 192 → (nI k.1 &&& 31) = 2 → k.1 = 194 ∨ k.1 = 226 := by decide +kernel
theorem kTab5 : ∀ k : Fin 256, ¬ (nI k.1 &&& 128) = 0 → (nI k.1 &&& 192) = 192 → (nI k.1 &&& 31) = 3 → k.1 = 195 ∨ k.1 = 227 := by decide +kernel
theorem kTab6 : ∀ k : Fin 256, ¬ (nI k.1 &&& 128) = 0 → (nI k.1 &&& 192) = 192 → (nI k.1 &&& 31) ≤ 3 → ¬ (nI k.1 &&& 31) = 0 → ¬ (nI k.1 &&& 31) = 2 → ¬ (nI k.1 &&& 31) = 3 → k.1 = 193 ∨ k.1 = 225 := by decide +kernel
/-- the shapes of what came whole -/
def kShx (x : Int32) (k N : Nat) : Prop := (k ∈ [0, 32, 64, 96]) ∨ (k ∈ [128, 129, 130, 144, 145, 146] ∧ N = 0) ∨ ((k = 192 ∨ k = 224 ∨ k = 194 ∨ k = 226) ∧ N = 0) ∨ ((k = 195 ∨ k = 227) ∧ N = 1) ∨ ((k = 193 ∨ k = 225) ∧ N = 1 ∧ 1 ≤ x.toInt ∧ x.toInt ≤ 254)
def kSh (M : gMd) (k N : Nat) : Prop := kShx (M.a 13 3) k N
theorem kN0 {N : Nat} (h : N < 256) (e : nI N = 0) : N = 0 := nI_inj (by omega) (by decide) e
theorem kN1 {N : Nat} (h : N < 256) (e : nI N = 1) : N = 1 := nI_inj (by omega) (by decide) e
theorem kIn {x : Int32} (h : ¬ rX8_within x 1 254 = 0) : 1 ≤ x.toInt ∧ x.toInt ≤ 254 := by
  obtain ⟨n, h1, h2, rfl⟩ := gWi (a := 1) (b := 254) (by decide) (by decide) h
  rw [nI_toInt (by omega)]; omega
theorem kShp0 {M : gMd} {k N : Nat} (hk : k < 256) (hN : N < 256) (h1 : M.a 13 1 = nI k) (h2 : M.a 13 2 = nI N) (h : ¬ rX8_isShaped_0 M = 0) : kSh M k N ∧ M.a 13 0 = 0 := by
  have T1 := kTab1 ⟨k, hk⟩
  have T2 := kTab2 ⟨k, hk⟩
  unfold rX8_isShaped_0 at h
  by_cases c0 : M.a 13 0 = 0
  · refine ⟨?_, c0⟩
    rw [if_pos c0, h1, h2] at h
    by_cases c1 : nI N ≤ 254
    · rw [if_pos c1] at h
      by_cases c2 : (nI k &&& 128) = 0
      · rw [if_pos c2] at h
        by_cases c3 : (nI k &&& 31) = 0
        · exact Or.inl (T1 c2 c3)
        · rw [if_neg c3] at h; exact absurd rfl h
      · rw [if_neg c2] at h
        by_cases c3 : (nI k &&& 64) = 0
        · rw [if_pos c3] at h
          by_cases c4 : 2 < (nI k &&& 47)
          · rw [if_pos c4] at h; exact absurd rfl h
          · rw [if_neg c4] at h
            by_cases c5 : nI N = 0
            · exact Or.inr (Or.inl ⟨T2 c2 c3 c4, kN0 hN c5⟩)
            · rw [if_neg c5] at h; exact absurd rfl h
        · rw [if_neg c3] at h
          by_cases c4 : (nI k &&& 192) = 192
          · rw [if_pos c4] at h
            by_cases c5 : (nI k &&& 31) ≤ 3
            · rw [if_pos c5] at h
              have U0 := kTab3 ⟨k, hk⟩ c2 c4
              have U1 := kTab4 ⟨k, hk⟩ c2 c4
              have U2 := kTab5 ⟨k, hk⟩ c2 c4
              have U3 := kTab6 ⟨k, hk⟩ c2 c4 c5
              by_cases c6 : (nI k &&& 31) = 0
              · rw [if_pos c6] at h
                by_cases c7 : nI N = 0
                · exact Or.inr (Or.inr (Or.inl ⟨(U0 c6).elim Or.inl fun e => Or.inr (Or.inl e), kN0 hN c7⟩))
                · rw [if_neg c7] at h; exact absurd rfl h
              · rw [if_neg c6] at h
                by_cases c8 : (nI k &&& 31) = 2
                · rw [if_pos c8] at h
                  by_cases c7 : nI N = 0
                  · exact Or.inr (Or.inr (Or.inl ⟨(U1 c8).elim (fun e => Or.inr (Or.inr (Or.inl e))) fun e => Or.inr (Or.inr (Or.inr e)), kN0 hN c7⟩))
                  · rw [if_neg c7] at h; exact absurd rfl h
                · rw [if_neg c8] at h
                  by_cases c7 : nI N = 1
                  · rw [if_pos c7] at h
                    by_cases c9 : (nI k &&& 31) = 3
                    · exact Or.inr (Or.inr (Or.inr (Or.inl ⟨U2 c9, kN1 hN c7⟩)))
                    · rw [if_neg c9] at h
                      by_cases c10 : rX8_within (M.a 13 3) 1 254 = 0
                      · rw [if_pos c10] at h; exact absurd rfl h
                      · exact Or.inr (Or.inr (Or.inr (Or.inr ⟨U3 c6 c8 c9, kN1 hN c7, kIn c10⟩)))
                  · rw [if_neg c7] at h; exact absurd rfl h
            · rw [if_neg c5] at h; exact absurd rfl h
          · rw [if_neg c4] at h; exact absurd rfl h
    · rw [if_neg c1] at h; exact absurd rfl h
  · rw [if_neg c0] at h; exact absurd rfl h
theorem kShp1 {M : gMd} {k N : Nat} (hk : k < 256) (hN : N < 256) (h1 : M.a 13 1 = nI k) (h2 : M.a 13 2 = nI N) (h : ¬ rX8_isShaped_1 M = 0) : kSh M k N ∧ M.a 13 0 = 0 := by
  have T1 := kTab1 ⟨k, hk⟩
  have T2 := kTab2 ⟨k, hk⟩
  unfold rX8_isShaped_1 at h
  by_cases c0 : M.a 13 0 = 0
  · refine ⟨?_, c0⟩
    rw [if_pos c0, h1, h2] at h
    by_cases c1 : nI N ≤ 254
    · rw [if_pos c1] at h
      by_cases c2 : (nI k &&& 128) = 0
      · rw [if_pos c2] at h
        by_cases c3 : (nI k &&& 31) = 0
        · exact Or.inl (T1 c2 c3)
        · rw [if_neg c3] at h; exact absurd rfl h
      · rw [if_neg c2] at h
        by_cases c3 : (nI k &&& 64) = 0
        · rw [if_pos c3] at h
          by_cases c4 : 2 < (nI k &&& 47)
          · rw [if_pos c4] at h; exact absurd rfl h
          · rw [if_neg c4] at h
            by_cases c5 : nI N = 0
            · exact Or.inr (Or.inl ⟨T2 c2 c3 c4, kN0 hN c5⟩)
            · rw [if_neg c5] at h; exact absurd rfl h
        · rw [if_neg c3] at h
          by_cases c4 : (nI k &&& 192) = 192
          · rw [if_pos c4] at h
            by_cases c5 : (nI k &&& 31) ≤ 3
            · rw [if_pos c5] at h
              have U0 := kTab3 ⟨k, hk⟩ c2 c4
              have U1 := kTab4 ⟨k, hk⟩ c2 c4
              have U2 := kTab5 ⟨k, hk⟩ c2 c4
              have U3 := kTab6 ⟨k, hk⟩ c2 c4 c5
              by_cases c6 : (nI k &&& 31) = 0
              · rw [if_pos c6] at h
                by_cases c7 : nI N = 0
                · exact Or.inr (Or.inr (Or.inl ⟨(U0 c6).elim Or.inl fun e => Or.inr (Or.inl e), kN0 hN c7⟩))
                · rw [if_neg c7] at h; exact absurd rfl h
              · rw [if_neg c6] at h
                by_cases c8 : (nI k &&& 31) = 2
                · rw [if_pos c8] at h
                  by_cases c7 : nI N = 0
                  · exact Or.inr (Or.inr (Or.inl ⟨(U1 c8).elim (fun e => Or.inr (Or.inr (Or.inl e))) fun e => Or.inr (Or.inr (Or.inr e)), kN0 hN c7⟩))
                  · rw [if_neg c7] at h; exact absurd rfl h
                · rw [if_neg c8] at h
                  by_cases c7 : nI N = 1
                  · rw [if_pos c7] at h
                    by_cases c9 : (nI k &&& 31) = 3
                    · exact Or.inr (Or.inr (Or.inr (Or.inl ⟨U2 c9, kN1 hN c7⟩)))
                    · rw [if_neg c9] at h
                      by_cases c10 : rX8_within (M.a 13 3) 1 254 = 0
                      · rw [if_pos c10] at h; exact absurd rfl h
                      · exact Or.inr (Or.inr (Or.inr (Or.inr ⟨U3 c6 c8 c9, kN1 hN c7, kIn c10⟩)))
                  · rw [if_neg c7] at h; exact absurd rfl h
            · rw [if_neg c5] at h; exact absurd rfl h
          · rw [if_neg c4] at h; exact absurd rfl h
    · rw [if_neg c1] at h; exact absurd rfl h
  · rw [if_neg c0] at h; exact absurd rfl h
theorem kT64 {k : Nat} (h : k ∈ [0, 32, 64, 96]) : ∃ w m : Nat, w < 2 ∧ m < 2 ∧ k = 64 * w + 32 * m ∧ (nI k &&& 64) = 64 * nI w ∧ ((nI k &&& 32) = 0 ↔ m = 0) := by
  have h' : k = 0 ∨ k = 32 ∨ k = 64 ∨ k = 96 := by simpa using h
  rcases h' with rfl | rfl | rfl | rfl
  · exact ⟨0, 0, by decide, by decide, by decide, by decide, by decide⟩
  · exact ⟨0, 1, by decide, by decide, by decide, by decide, by decide⟩
  · exact ⟨1, 0, by decide, by decide, by decide, by decide, by decide⟩
  · exact ⟨1, 1, by decide, by decide, by decide, by decide, by decide⟩
theorem k64i {w : Nat} {x : Int32} (hw : w < 2) (hx : 0 ≤ x.toInt ∧ x.toInt ≤ 1) (e : 64 * nI w = 64 * x) : x.toInt = w := by
  have ex := gt_nI hx.1
  have cx := gt_clamp hx.1
  generalize x.toNatClampNeg = v at ex cx
  rw [ex, show (64 : Int32) = nI 64 from rfl, nI_mulS (by omega) (by decide) (by omega), nI_mulS (by omega) (by decide) (by omega)] at e
  have := nI_inj (by omega) (by omega) e
  omega
theorem kLe {x c : Int32} {k v : Nat} (h : x = nI k) (hk : k < 256) (hc : c.toInt = v) : c ≤ x ↔ v ≤ k := by
  rw [Int32.le_iff_toInt_le, h, nI_toInt (by omega), hc]; omega
/-- what came, whole: good as it was sent, or paid for -/
def kCm (M : gMd) (k N : Nat) (f : Nat → Int32) (good : Prop) : Prop := M.a 13 2 = nI N ∧ N ≤ 60 ∧ (∀ q, q < N + 4 → gIr (M.a 13 q) 255) ∧ ((∀ q, q < N + 4 → M.a 13 q = gBv (nI k) N f q) ∨ good)
section KP7
variable {M : gMd} {Q : Int32 × List Int32 → Prop} {kr kc cr rr rc wc b : Int}
theorem kCard {k N : Nat} {f : Nat → Int32} {ex tg : Int} (H : kI M Q kr kc cr rr rc wc) (hK : kKk k N) (hM : kMd M k N f ex tg) (h420 : M.z 420 = 0) (h29 : gIr (M.f 29) 3) (hb : kr + kc + cr + rr + rc + wc + ex + tg ≤ b)
    (hX : M.f 29 = 0 → ¬ rX8_isShaped_1 M = 0 ∧ kCm M k N f (kr + kc + cr + rr + rc + wc + ex + tg + 11136 ≤ b)) : kP1 Q b (pX8_cardGets M) ∧ ∀ l E, kK M l E → oX8_cardGets M l E := by
  obtain ⟨x1, x2, x3, x4, x5, x6, x7, x8⟩ := H.2.2.2.1
  obtain ⟨a1, a2, a3, a4, a5, a6, a7, a8, a9, a10, a11, a12, a13⟩ := H.2.1
  obtain ⟨d1, d2, d3, d4, d5, d6, d7, d8, d9, d10, d11, d12, d13⟩ := H.1
  obtain ⟨w1, w2, w3, w4⟩ := H.2.2.2.2.2.2.2
  obtain ⟨y1, y2, y3⟩ := H.2.2.2.2.1
  obtain ⟨v1, v2, v3⟩ := H.2.2.2.2.2.1
  have u1 := H.2.2.2.2.2.2.1.1
  obtain ⟨m1, m2, m3, m4, m5, m6, m7⟩ := hM
  unfold pX8_cardGets oX8_cardGets
  by_cases c1 : M.a 4 418 < 0
  · rw [if_pos c1]
    have c1' : M.z 418 < 0 := Int32.lt_iff_toInt_lt.mp c1
    by_cases c2 : M.f 29 = 3
    · rw [if_pos c2]
      exact ⟨⟨kr, kc, cr, rr, rc, wc, H, by omega⟩, fun l E K => by rw [if_pos c1, if_pos c2]; trivial⟩
    rw [if_neg c2]
    by_cases c3 : M.f 29 = 0
    · rw [if_pos c3]
      obtain ⟨hsh, hN, hN60, hby, hgood⟩ := hX c3
      obtain ⟨g, hg, eg⟩ := hby 1 (by omega)
      obtain ⟨sh, -⟩ := kShp1 (by omega) (by omega) eg hN hsh
      have k13 : (M.a 13 1).toInt = g := by rw [eg, nI_toInt (by omega)]
      -- what a good one tells
      have gk : (∀ q, q < N + 4 → M.a 13 q = gBv (nI k) N f q) → g = k := fun h => by
        have e1 := h 1 (by omega)
        rw [eg] at e1
        have e2 : gBv (nI k) N f 1 = nI k := by unfold gBv; rw [if_neg (by decide), if_pos rfl]
        have kb : k < 256 := by
          rcases hK with ⟨-, hk⟩ | ⟨-, hk⟩ | ⟨-, hk⟩
          · simp at hk; omega
          · simp at hk; omega
          · simp at hk; omega
        exact nI_inj (by omega) (by omega) (e1.trans e2)
      have g3 : (∀ q, q < N + 4 → M.a 13 q = gBv (nI k) N f q) → 1 ≤ N → M.a 13 3 = f 0 := fun h h1 => (h 3 (by omega)).trans (gBv_in (j := 0) (by omega))
      by_cases c4 : M.a 13 1 = 192
      · rw [if_pos c4]
        have g192 : g = 192 := by
          rw [eg] at c4
          exact nI_inj (by omega) (by decide) c4
        have N0 : N = 0 := by
          rcases sh with s | ⟨s, -⟩ | ⟨-, s⟩ | ⟨s, -⟩ | ⟨s, -, -⟩
          · simp at s; omega
          · simp at s; omega
          · exact s
          · omega
          · omega
        obtain ⟨cr', hcr, hcr'⟩ : ∃ cr' : Int, kr + kc + cr' + rr + rc + wc ≤ b ∧ kCr (rX8_resynchs_1 M) cr' := by
          have e0 : (rX8_resynchs_1 M).z 0 = M.z 0 := (gz_n (by decide)).trans ((gz_n (by decide)).trans ((gz_n (by decide)).trans ((gz_n (by decide)).trans ((gz_n (by decide)).trans ((gz_n (by decide)).trans (gz_n (by decide)))))))
          have e3 : (rX8_resynchs_1 M).z 3 = M.z 3 := (gz_n (by decide)).trans ((gz_n (by decide)).trans ((gz_n (by decide)).trans ((gz_n (by decide)).trans ((gz_n (by decide)).trans ((gz_n (by decide)).trans (gz_n (by decide)))))))
          have e9 : (rX8_resynchs_1 M).z 9 = M.z 9 := (gz_n (by decide)).trans ((gz_n (by decide)).trans ((gz_n (by decide)).trans ((gz_n (by decide)).trans ((gz_n (by decide)).trans ((gz_n (by decide)).trans (gz_n (by decide)))))))
          have e420 : (rX8_resynchs_1 M).z 420 = M.z 420 := (gz_n (by decide)).trans ((gz_n (by decide)).trans ((gz_n (by decide)).trans ((gz_n (by decide)).trans ((gz_n (by decide)).trans ((gz_n (by decide)).trans (gz_n (by decide)))))))
          have e24 : (rX8_resynchs_1 M).z 24 = 0 := (gz_n (by decide)).trans ((gz_n (by decide)).trans ((gz_n (by decide)).trans (gz_s.trans (by decide))))
          rcases hgood with h | h
          · refine ⟨cr, by omega, y1, fun p => absurd e24 p, fun p => ?_⟩
            rw [e9, e420] at p
            have := m4 ((gk h).symm.trans g192)
            omega
          · exact ⟨cr + 10718, by omega, by omega, fun p => absurd e24 p, fun p => by omega⟩
        obtain ⟨I, -, -, -, -, -, -, rf, ra, rK⟩ := kRes1 H hcr'
        have I2 := I.p416 (x := 0) (by decide)
        have P := kP1.resp (M := (rX8_resynchs_1 M).put 4 416 0) (Q := Q) (b := b) (c := 0) (k := 192) (N := 0) ((gput_o (by decide)).trans ((ra 13 1 (by decide)).trans c4)) ((gput_o (by decide)).trans ((ra 13 2 (by decide)).trans (by rw [hN, N0]))) (Or.inl ⟨Or.inl rfl, rfl⟩) (by rw [gput_o (by decide), ra 13 3 (by decide)]; exact hby 3 (by omega)) (by omega) (fun p => absurd p (by decide)) fun Q' h _ => ⟨kr, kc, cr', rr, rc, wc, I2.mono h, by omega⟩
        exact ⟨P.1, fun l E K => by rw [if_pos c1, if_neg c2, if_pos c3, if_pos c4]; exact P.2 l E ((rK l E K).put (by decide) (by decide))⟩
      rw [if_neg c4]
      have g192 : ¬ g = 192 := fun e => c4 (by rw [eg, e]; rfl)
      by_cases c5 : M.a 4 25 < 0
      · rw [if_pos c5]
        have c5' : M.z 25 < 0 := Int32.lt_iff_toInt_lt.mp c5
        by_cases c6 : 128 ≤ M.a 13 1
        · rw [if_pos c6]
          have c6' : 128 ≤ g := (kLe eg (by omega) (by decide)).mp c6
          by_cases c7 : 192 ≤ M.a 13 1
          · rw [if_pos c7]
            have c7' : 192 ≤ g := (kLe eg (by omega) (by decide)).mp c7
            by_cases c8 : M.a 13 1 = 193
            · rw [if_pos c8]
              have g193 : g = 193 := by
                rw [eg] at c8
                exact nI_inj (by omega) (by decide) c8
              obtain ⟨N1, hin⟩ : N = 1 ∧ 1 ≤ (M.a 13 3).toInt ∧ (M.a 13 3).toInt ≤ 254 := by
                rcases sh with s | ⟨s, -⟩ | ⟨s, -⟩ | ⟨s, -⟩ | ⟨-, s⟩
                · simp at s; omega
                · simp at s; omega
                · omega
                · omega
                · exact s
              -- the reader's room
              have A2 : ∀ q, ¬ q = 2 → (M.put 4 2 (M.a 13 3)).a 4 q = M.a 4 q := fun q h => gput_n h
              have t2 : (M.put 4 2 (M.a 13 3)).z 2 = (M.a 13 3).toInt := gz_s
              have a13 : ∀ q, (M.put 4 2 (M.a 13 3)).a 13 q = M.a 13 q := fun q => gput_o (by decide)
              have K2 : ∀ l E, kK M l E → kK (M.put 4 2 (M.a 13 3)) l E := fun l E K => K.put (by decide) (by decide)
              have key : kP1 Q b (pX8_responds_1 (M.put 4 2 (M.a 13 3))) ∧ ∀ l E, kK (M.put 4 2 (M.a 13 3)) l E → oX8_responds_1 (M.put 4 2 (M.a 13 3)) l E := by
                generalize hMM : M.put 4 2 (M.a 13 3) = M' at A2 t2 a13 ⊢
                have Z2 : ∀ q, ¬ q = 2 → M'.z q = M.z q := fun q h => congrArg Int32.toInt (A2 q h)
                have RR : ∀ Q' : Int32 × List Int32 → Prop, (∀ e, Q e → Q' e) → kR0 M' Q' kr := fun Q' h => by
                  unfold kR0
                  rw [t2, Z2 0 (by decide), Z2 1 (by decide), Z2 3 (by decide), Z2 4 (by decide), Z2 5 (by decide), Z2 6 (by decide), Z2 7 (by decide), Z2 8 (by decide), Z2 9 (by decide), Z2 10 (by decide), Z2 14 (by decide), A2 10 (by decide)]
                  exact ⟨d1, d2, ⟨hin.1, by omega⟩, d4, d5, d6, d7, d8, d9, d10, fun p k N a f e1 e2 e3 e4 => h _ (d11 p k N a f e1 e2 e3 fun j hj => by rw [e4 j hj, A2 _ (by omega)]), fun p k f e1 e2 => h _ (d12 p k f e1 e2), d13⟩
                have II : ∀ (Q' : Int32 × List Int32 → Prop) (rr' : Int), (∀ e, Q e → Q' e) → kRr M' Q' rr' → kI M' Q' kr kc cr rr' rc wc := fun Q' rr' h hr =>
                  ⟨RR Q' h, (H.2.1.cg fun q hq => A2 q (by omega)).mono h, H.2.2.1.cg fun q h1 h2 => A2 q (by omega), H.2.2.2.1.cg fun q hq => A2 q (by omega), H.2.2.2.2.1.cg fun q hq => A2 q (by omega), hr, (H.2.2.2.2.2.2.1.cg fun q hq => A2 q (by omega)).mono h, H.2.2.2.2.2.2.2.cg fun q hq => A2 q (by omega)⟩
                rcases hgood with h | h
                · have k193 := (gk h).symm.trans g193
                  obtain ⟨z9, f0⟩ := m5 k193
                  have e3 : M.a 13 3 = M.a 4 10 := (g3 h (by omega)).trans f0
                  refine kP1.resp (k := 193) (N := 1) (c := rr) ((a13 1).trans c8) ((a13 2).trans (by rw [hN, N1])) (Or.inr ⟨Or.inl rfl, rfl⟩) (by rw [a13 3]; exact hby 3 (by omega)) v1 (fun _ => ?_) fun Q' hq hn => ?_
                  · rcases v3 z9 with q | q
                    · exact Or.inl fun f' hf => q f' (by rw [hf, a13 3, e3])
                    · have s400 := kSp_S (x := ((193 + 32 : Nat) : Int)) (w := (M'.a 13 3).toInt) (by decide)
                      exact Or.inr (by omega)
                  · refine ⟨kr, kc, cr, 0, rc, wc, II Q' 0 hq ⟨by decide, ⟨fun p => ?_, fun p => ?_⟩, fun _ => Or.inl fun f' hf => hn rfl f' ?_⟩, by omega⟩
                    · rw [Z2 420 (by decide)] at p; omega
                    · rw [Z2 420 (by decide)] at p; omega
                    · rw [hf, A2 10 (by decide), a13 3, e3]
                · refine kP1.resp (k := 193) (N := 1) (c := 400) ((a13 1).trans c8) ((a13 2).trans (by rw [hN, N1])) (Or.inr ⟨Or.inl rfl, rfl⟩) (by rw [a13 3]; exact hby 3 (by omega)) (by decide) (fun _ => ?_) fun Q' hq hn => ?_
                  · exact Or.inr (Int.ofNat_le.mpr (kSp_S (by decide)))
                  · exact ⟨kr, kc, cr, rr, rc, wc, II Q' rr hq ((H.2.2.2.2.2.1.cg fun q hq => A2 q (by omega)).mono hq), by omega⟩
              exact ⟨key.1, fun l E K => by rw [if_pos c1, if_neg c2, if_pos c3, if_neg c4, if_pos c5, if_pos c6, if_pos c7, if_pos c8]; exact key.2 l E (K2 l E K)⟩
            · rw [if_neg c8]
              have P := kP1.R (b := b) H (show (2 : Int32) = nI 2 from rfl) (by omega) (by omega)
              exact ⟨P.1, fun l E K => by rw [if_pos c1, if_neg c2, if_pos c3, if_neg c4, if_pos c5, if_pos c6, if_pos c7, if_neg c8]; exact P.2 l E K⟩
          · rw [if_neg c7]
            by_cases c8 : 0 ≤ M.a 4 21
            · rw [if_pos c8]
              have c8' : 0 ≤ M.z 21 := Int32.le_iff_toInt_le.mp c8
              by_cases c9 : rX8_wantsAgain_1 M = 0
              · rw [if_pos c9]
                have : kr + kc + cr + rr + rc + wc + 52 ≤ b := by
                  rcases hgood with h | h
                  · have := m7 (by rw [← gk h]; exact c6')
                    omega
                  · omega
                have P := kP1.goes (b := b) H c8' this
                exact ⟨P.1, fun l E K => by rw [if_pos c1, if_neg c2, if_pos c3, if_neg c4, if_pos c5, if_pos c6, if_neg c7, if_pos c8, if_pos c9]; exact P.2 l E K⟩
              · rw [if_neg c9]
                have P := kP1.again (b := b) (d := ()) H c8' (by omega)
                exact ⟨P.1, fun l E K => by rw [if_pos c1, if_neg c2, if_pos c3, if_neg c4, if_pos c5, if_pos c6, if_neg c7, if_pos c8, if_neg c9]; exact P.2 l E K⟩
            · rw [if_neg c8]
              have P := kP1.R (b := b) H (show (0 : Int32) = nI 0 from rfl) (by omega) (by omega)
              exact ⟨P.1, fun l E K => by rw [if_pos c1, if_neg c2, if_pos c3, if_neg c4, if_pos c5, if_pos c6, if_neg c7, if_neg c8]; exact P.2 l E K⟩
        · -- I
          rw [if_neg c6]
          have c6' : g < 128 := Nat.not_le.mp fun h => c6 ((kLe eg (by omega) (by decide) : (128 : Int32) ≤ M.a 13 1 ↔ 128 ≤ g).mpr h)
          have gI : g ∈ [0, 32, 64, 96] := by
            rcases sh with s | ⟨s, -⟩ | ⟨s, -⟩ | ⟨s, -⟩ | ⟨s, -, -⟩
            · exact s
            · simp at s; omega
            · omega
            · omega
            · omega
          obtain ⟨w, mo, hw, hmo, egw, e64, e32⟩ := kT64 gI
          -- what a take is worth: the marks behind it
          obtain ⟨Ith, t5, tA, tv, tf, ta, tK⟩ := kThr1 H
          have o24 : gIr ((rX8_isThrough_1 M).a 4 24) 60 := by
            rw [tA 24 (by decide) (by decide) (by decide)]; exact gt_ir a7.1 a7.2
          have o13 : gIr ((rX8_isThrough_1 M).a 13 2) 60 := by
            rw [ta 13 2 (by decide)]; exact ⟨N, hN60, hN⟩
          have tk := kTake1 (cr' := cr + 10718) (N := N) H hN hN60 (fun q hq => hby (3 + q) (by omega)) fun T TA T17 T21 T24 => ⟨by omega, fun _ => by omega, fun _ => by omega⟩
          rcases tk with tk | ⟨tk1, tk64, TI, TA, T17, T21, T24, Tf, Ta, TK⟩
          · rw [if_pos (show (rX8_takes_1 M).1 = 0 by rw [tk]), tk]
            have P := kP1.R (b := b) H (show (2 : Int32) = nI 2 from rfl) (by omega) (by omega)
            exact ⟨P.1, fun l E K => by
              rw [if_pos c1, if_neg c2, if_pos c3, if_neg c4, if_pos c5, if_neg c6, if_pos rfl]
              exact ⟨o24, o13, P.2 l E K⟩⟩
          · have n0 : ¬ (rX8_takes_1 M).1 = 0 := by rw [tk1]; decide
            rw [if_neg n0]
            rw [eg, e64] at tk64
            have w17 : M.z 17 = w := k64i hw a2 tk64
            have hm : (rX8_hasMoreCome (rX8_takes_1 M).2 = 0) ↔ mo = 0 := by
              rw [← e32]
              unfold rX8_hasMoreCome
              rw [Ta 13 1 (by decide), eg]
              by_cases c : (nI g &&& 32) = 0
              · rw [if_pos c]; exact ⟨fun _ => c, fun _ => rfl⟩
              · rw [if_neg c]; exact ⟨fun h => absurd h (by decide), fun h => absurd h c⟩
            have TZ : ∀ q, ¬ q = 16 → ¬ q = 17 → ¬ q = 20 → ¬ q = 21 → ¬ q = 24 → (q < 224 ∨ 284 ≤ q) → (rX8_takes_1 M).2.z q = M.z q := fun q h1 h2 h3 h4 h5 h6 => congrArg Int32.toInt (TA q h1 h2 h3 h4 h5 h6)
            by_cases c9 : rX8_hasMoreCome (rX8_takes_1 M).2 = 0
            · rw [if_pos c9]
              have mo0 := hm.mp c9
              have msg0 := kMsg1 (cr' := 10718) TI ⟨by decide, fun _ => by decide, fun _ => ⟨by decide, fun _ => by decide⟩⟩ (by
                rw [TZ 25 (by decide) (by decide) (by decide) (by decide) (by decide) (by omega)]
                have := a8.1; omega)
              obtain ⟨-, MA, M24, M30, Mf, Ma, MK⟩ := msg0
              have MZ : ∀ q, ¬ q = 24 → ¬ q = 29 → ¬ q = 30 → (q < 352 ∨ 412 ≤ q) → (rX8_messageCame_1 (rX8_takes_1 M).2).z q = (rX8_takes_1 M).2.z q := fun q h1 h2 h3 h4 => congrArg Int32.toInt (MA q h1 h2 h3 h4)
              have e0 := (MZ 0 (by decide) (by decide) (by decide) (by omega)).trans (TZ 0 (by decide) (by decide) (by decide) (by decide) (by decide) (by omega))
              have e3 := (MZ 3 (by decide) (by decide) (by decide) (by omega)).trans (TZ 3 (by decide) (by decide) (by decide) (by decide) (by decide) (by omega))
              have e5 := (MZ 5 (by decide) (by decide) (by decide) (by omega)).trans (TZ 5 (by decide) (by decide) (by decide) (by decide) (by decide) (by omega))
              have e6 := (MZ 6 (by decide) (by decide) (by decide) (by omega)).trans (TZ 6 (by decide) (by decide) (by decide) (by decide) (by decide) (by omega))
              have e9 := (MZ 9 (by decide) (by decide) (by decide) (by omega)).trans (TZ 9 (by decide) (by decide) (by decide) (by decide) (by decide) (by omega))
              have e17 := (MZ 17 (by decide) (by decide) (by decide) (by omega)).trans T17
              have e25 := (MZ 25 (by decide) (by decide) (by decide) (by omega)).trans (TZ 25 (by decide) (by decide) (by decide) (by decide) (by decide) (by omega))
              have e418 := (MZ 418 (by decide) (by decide) (by decide) (by omega)).trans (TZ 418 (by decide) (by decide) (by decide) (by decide) (by decide) (by omega))
              have e420 := (MZ 420 (by decide) (by decide) (by decide) (by omega)).trans (TZ 420 (by decide) (by decide) (by decide) (by decide) (by decide) (by omega))
              obtain ⟨cr', hC, hb1, hb2⟩ : ∃ cr' : Int, kCr (rX8_messageCame_1 (rX8_takes_1 M).2) cr' ∧ kr + kc + cr' + rr + 400 ≤ b ∧ (2 ≤ (rX8_takes_1 M).2.z 24 → kr + kc + cr' + rr + 10718 ≤ b) := by
                unfold kCr
                rw [M24, e0, e3, e5, e6, e9, e17, e420]
                rcases hgood with h | h
                · have kg := gk h
                  obtain ⟨n1, n2, n3, n4⟩ := m3 (by omega)
                  have n5 := d6 n1
                  have on := y3 (Or.inr ⟨n1, by omega, Or.inr (by omega)⟩)
                  refine ⟨0, ⟨by decide, fun p => absurd rfl p, fun p => ?_⟩, by omega, fun p => ?_⟩
                  · omega
                  · by_cases z24 : M.z 24 = 0
                    · have := T24.2.2 z24
                      have := on.2 (by omega)
                      omega
                    · have := y2 z24
                      omega
                · by_cases on : 0 ≤ M.z 5 ∧ M.z 9 < 0 ∧ (M.z 6 = 1 ∨ 1 - M.z 17 = M.z 0)
                  · by_cases on0 : (M.z 6 = 1 ∨ ¬ M.z 24 = 0)
                    · have k1 : (2 ≤ M.z 3 → 10718 ≤ cr) ∧ 400 ≤ cr := by
                        rcases on0 with p | p
                        · have := y3 (Or.inr ⟨on.1, on.2.1, Or.inl p⟩)
                          exact ⟨this.2, this.1⟩
                        · have := y2 p
                          exact ⟨fun _ => this, by omega⟩
                      exact ⟨cr, ⟨y1, fun p => absurd rfl p, fun _ => ⟨k1.2, k1.1⟩⟩, by omega, fun _ => by omega⟩
                    · have z24 : M.z 24 = 0 := by
                        have : ¬ ¬ M.z 24 = 0 := fun h => on0 (Or.inr h)
                        omega
                      have T24N := T24.2.2 z24
                      refine ⟨10718, ⟨by decide, fun _ => by decide, fun _ => ⟨by decide, fun _ => by decide⟩⟩, by omega, fun p => ?_⟩
                      have kl : k < 128 := by
                        rcases hK with ⟨q, -⟩ | ⟨q, -⟩ | ⟨-, hk⟩
                        · omega
                        · omega
                        · simp at hk; omega
                      have := m6 kl (by omega) (fun q => on0 (Or.inl q)) (by omega) z24
                      omega
                  · exact ⟨0, ⟨by decide, fun p => absurd rfl p, fun p => absurd (p.resolve_left (by omega)) on⟩, by omega, fun _ => by omega⟩
              obtain ⟨MI, -⟩ := kMsg1 (cr' := cr') TI hC (by
                rw [TZ 25 (by decide) (by decide) (by decide) (by decide) (by decide) (by omega)]
                have := a8.1; omega)
              have P := kP1.does (b := b) MI (by omega) (by omega) (by omega) hb1 (by rw [M30]; exact hb2)
              refine ⟨P.1, fun l E K => ?_⟩
              rw [if_pos c1, if_neg c2, if_pos c3, if_neg c4, if_pos c5, if_neg c6, if_neg n0, if_pos c9]
              exact ⟨o24, o13, gt_ir (by have : (rX8_takes_1 M).2.z 24 = ((rX8_takes_1 M).2.a 4 24).toInt := rfl; have := TI.2.1.2.2.2.2.2.2.1; omega) (by have : (rX8_takes_1 M).2.z 24 = ((rX8_takes_1 M).2.a 4 24).toInt := rfl; have := TI.2.1.2.2.2.2.2.2.1; omega), P.2 l E (MK l E (TK l E K))⟩
            · rw [if_neg c9]
              have mo1 : mo = 1 := by
                have : ¬ mo = 0 := fun h => c9 (hm.mpr h)
                omega
              obtain ⟨cr', hC, hb1⟩ : ∃ cr' : Int, (∀ T : gMd, (∀ q, ¬ q = 16 → ¬ q = 17 → ¬ q = 20 → ¬ q = 21 → ¬ q = 24 → (q < 224 ∨ 284 ≤ q) → T.a 4 q = M.a 4 q) → T.z 17 = 1 - M.z 17 → T.z 21 = -1 → M.z 24 ≤ T.z 24 ∧ T.z 24 ≤ M.z 24 + N ∧ (M.z 24 = 0 → T.z 24 = N) → kCr T cr') ∧ kr + kc + cr' + rr + rc + wc ≤ b := by
                rcases hgood with h | h
                · have kg := gk h
                  obtain ⟨n1, n2, n3, n4⟩ := m3 (by omega)
                  have n5 := d6 n1
                  have on := y3 (Or.inr ⟨n1, by omega, Or.inr (by omega)⟩)
                  exact ⟨cr, fun T _ _ _ _ => ⟨y1, fun _ => on.2 (by omega), fun _ => ⟨on.1, fun _ => on.2 (by omega)⟩⟩, by omega⟩
                · exact ⟨cr + 10718, fun T _ _ _ _ => ⟨by omega, fun _ => by omega, fun _ => by omega⟩, by omega⟩
              have tk' := kTake1 (cr' := cr') (N := N) H hN hN60 (fun q hq => hby (3 + q) (by omega)) hC
              rcases tk' with tk' | ⟨-, -, TI', -⟩
              · exact absurd (by rw [tk'] : (rX8_takes_1 M).1 = 0) n0
              · have P := kP1.R (b := b) TI' (show (0 : Int32) = nI 0 from rfl) (by omega) (by omega)
                refine ⟨P.1, fun l E K => ?_⟩
                rw [if_pos c1, if_neg c2, if_pos c3, if_neg c4, if_pos c5, if_neg c6, if_neg n0, if_neg c9]
                exact ⟨o24, o13, P.2 l E (TK l E K)⟩
      · rw [if_neg c5]
        have c5' : 0 ≤ M.z 25 := Int.not_lt.mp fun h => c5 (Int32.lt_iff_toInt_lt.mpr (show M.z 25 < 0 from h))
        by_cases c6 : rX8_isResponse_1 M = 0
        · rw [if_pos c6]
          have P := kP1.askAgain (b := b) H c5' (by omega)
          exact ⟨P.1, fun l E K => by rw [if_pos c1, if_neg c2, if_pos c3, if_neg c4, if_neg c5, if_pos c6]; exact P.2 l E K⟩
        · rw [if_neg c6]
          have g224 : 128 ≤ g := by
            have e : M.a 13 1 = 224 + M.a 4 25 := by
              by_cases c : M.a 13 1 = 224 + M.a 4 25
              · exact c
              · exact absurd (by unfold rX8_isResponse_1; rw [if_neg c]) c6
            have t : (224 + M.a 4 25 : Int32).toInt = 224 + M.z 25 := gt_add (show _ ≤ 224 + M.z 25 by omega) (show 224 + M.z 25 < _ by omega)
            rw [← e] at t
            omega
          have : kr + kc + cr + rr + rc + wc + 52 ≤ b := by
            rcases hgood with h | h
            · have := m7 (by rw [← gk h]; exact g224)
              omega
            · omega
          have P := kP1.answered (b := b) H c5' c1' this
          exact ⟨P.1, fun l E K => by rw [if_pos c1, if_neg c2, if_pos c3, if_neg c4, if_neg c5, if_neg c6]; exact P.2 l E K⟩
    · rw [if_neg c3]
      by_cases c4 : M.a 4 25 < 0
      · rw [if_pos c4]
        obtain ⟨v, hv, ev⟩ := h29
        have hv2 : v = 1 ∨ v = 2 := by
          have : ¬ v = 0 := fun e => c3 (by rw [ev, e]; rfl)
          have : ¬ v = 3 := fun e => c2 (by rw [ev, e]; rfl)
          omega
        have P := kP1.R (b := b) H ev (by omega) (by omega)
        exact ⟨P.1, fun l E K => by rw [if_pos c1, if_neg c2, if_neg c3, if_pos c4]; exact P.2 l E K⟩
      · rw [if_neg c4]
        have c4' : 0 ≤ M.z 25 := Int.not_lt.mp fun h => c4 (Int32.lt_iff_toInt_lt.mpr (show M.z 25 < 0 from h))
        have P := kP1.askAgain (b := b) H c4' (by omega)
        exact ⟨P.1, fun l E K => by rw [if_pos c1, if_neg c2, if_neg c3, if_neg c4]; exact P.2 l E K⟩
  · rw [if_neg c1]
    have c1' : 0 ≤ M.z 418 := Int.not_lt.mp fun h => c1 (Int32.lt_iff_toInt_lt.mpr (show M.z 418 < 0 from h))
    have et : (M.a 4 418 - 1).toInt = M.z 418 - 1 := gt_sub (show _ ≤ M.z 418 - 1 by omega) (show M.z 418 - 1 < _ by omega)
    have h25 := x3.2.2 c1'
    have hw := w4 c1'
    by_cases c2 : 0 ≤ M.a 4 418 - 1
    · rw [if_pos c2]
      exact ⟨⟨kr, kc, cr, rr, rc, wc, H.p418 (by omega) (fun _ => h25) (by omega) (fun _ => hw), by omega⟩, fun l E K => by rw [if_neg c1, if_pos c2]; trivial⟩
    · rw [if_neg c2]
      have c2' : (M.a 4 418 - 1).toInt < 0 := by
        have : ¬ (0 : Int32).toInt ≤ (M.a 4 418 - 1).toInt := fun h => c2 (Int32.le_iff_toInt_le.mpr h)
        rw [Int32.toInt_zero] at this
        omega
      have I := H.p418 (wc' := wc) (x := M.a 4 418 - 1) (by omega) (fun _ => h25) (by omega) (fun _ => hw)
      have P := kP1.sends0 (b := b) I (by rw [gz_n (by decide)]; omega) (by rw [gz_s]; exact c2') (show (1 : Int32) = nI 1 from rfl) (by omega) (by omega)
      exact ⟨P.1, fun l E K => by rw [if_neg c1, if_neg c2]; exact P.2 l E (K.put (by decide) (by decide))⟩
end KP7
