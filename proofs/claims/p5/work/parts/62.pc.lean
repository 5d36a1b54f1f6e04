/-! the reference: plans under the invariant: what every one sends at its end (by program: wip/p2/m_pc.py) -/
/-- what a block of the card tells, come whole -/
def kGd (M : gMd) (k : Nat) (f : Nat → Int32) : Prop := (128 ≤ k → k < 192 → ((k / 16 % 2 : Nat) : Int) = M.z 17) ∧ (k = 193 ∨ k = 195 → M.z 25 = (k : Int) - 192 ∧ f 0 = M.a 4 26)
/-- and one of the reader, with what is set aside for it -/
def kMd (M : gMd) (k N : Nat) (f : Nat → Int32) (ex tg : Int) : Prop := 0 ≤ ex ∧ 0 ≤ tg ∧ (k < 128 → 0 ≤ M.z 5 ∧ M.z 9 = -1 ∧ (k : Int) = 64 * M.z 5 + 32 * M.z 6 ∧ (N : Int) = M.z 7) ∧ (k = 192 → M.z 9 = 0) ∧ (k = 193 → M.z 9 = 1 ∧ f 0 = M.a 4 10) ∧ (k < 128 → 2 ≤ N → ¬ M.z 6 = 1 → ¬ M.z 17 = M.z 0 → M.z 24 = 0 → 10718 ≤ ex) ∧ (128 ≤ k → 52 ≤ tg)
def kEnd (M : gMd) (Q : Int32 × List Int32 → Prop) (b : Int) : Prop := ∃ kr kc cr rr rc wc : Int, kI M Q kr kc cr rr rc wc ∧ kr + kc + cr + rr + rc + wc ≤ b
def kP1 (Q : Int32 × List Int32 → Prop) (b : Int) (P : gMd × Option (Int32 × Int32)) : Prop :=
  match P.2 with
  | none => kEnd P.1 Q b
  | some (x, n) => ∃ k N : Nat, ∃ c : Int, x = nI k ∧ n = nI N ∧ N ≤ 60 ∧ kKk k N ∧ (∀ q, q < N → gIr (P.1.a 14 q) 255) ∧ 0 ≤ c ∧ (Q (kB 1 (nI k) N (P.1.a 14)) ∨ (kSp k N (P.1.a 14 0).toInt : Int) ≤ c) ∧ kGd P.1 k (P.1.a 14) ∧ ∀ Q' : Int32 × List Int32 → Prop, (∀ e, Q e → Q' e) → Q' (kB 1 (nI k) N (P.1.a 14)) → kEnd P.1 Q' (b - c)
def kP0 (Q : Int32 × List Int32 → Prop) (b : Int) (P : gMd × Option (Int32 × Int32)) : Prop :=
  match P.2 with
  | none => kEnd P.1 Q b ∧ ¬ P.1.a 4 419 = 1
  | some (x, n) => ∃ k N : Nat, ∃ c ex tg : Int, x = nI k ∧ n = nI N ∧ N ≤ 60 ∧ kKk k N ∧ (∀ q, q < N → gIr (P.1.a 14 q) 255) ∧ 0 ≤ c ∧ (Q (kB 0 (nI k) N (P.1.a 14)) ∨ (kSp k N (P.1.a 14 0).toInt : Int) ≤ c) ∧ kMd P.1 k N (P.1.a 14) ex tg ∧ ∀ Q' : Int32 × List Int32 → Prop, (∀ e, Q e → Q' e) → Q' (kB 0 (nI k) N (P.1.a 14)) → kEnd P.1 Q' (b - c - ex - tg)
theorem kEnd.cg {M M' : gMd} {Q : Int32 × List Int32 → Prop} {b b' : Int} (h : ∀ q, q < 421 → ¬ q = 11 → ¬ q = 12 → ¬ q = 13 → ¬ q = 27 → ¬ q = 28 → ¬ q = 29 → M'.a 4 q = M.a 4 q) (hb : b ≤ b') (H : kEnd M Q b) : kEnd M' Q b' := by
  obtain ⟨kr, kc, cr, rr, rc, wc, I, s⟩ := H
  exact ⟨kr, kc, cr, rr, rc, wc, I.cg h, by omega⟩
theorem kEnd.mono {M : gMd} {Q Q' : Int32 × List Int32 → Prop} {b : Int} (h : ∀ e, Q e → Q' e) (H : kEnd M Q b) : kEnd M Q' b := by
  obtain ⟨kr, kc, cr, rr, rc, wc, I, s⟩ := H
  exact ⟨kr, kc, cr, rr, rc, wc, I.mono h, s⟩
theorem kSp_0 {x w : Int} : kSp x 0 w = 0 := if_pos rfl
theorem kSp_S {x w : Int} (h : 192 ≤ x) : kSp x 1 w ≤ 400 := by
  unfold kSp
  rw [if_neg (by omega), if_pos h]
  split <;> omega
theorem kSp_I {x w : Int} {n : Nat} (h : x < 192) : kSp x n w ≤ 174 * n + 52 ∧ (n = 1 → kSp x n w = 200) := by
  unfold kSp
  by_cases c : n = 0
  · rw [if_pos c]; omega
  · rw [if_neg c, if_neg (by omega)]
    by_cases d : n = 1
    · rw [if_pos d]; omega
    · rw [if_neg d]; omega
section KP0
variable {M : gMd} {Q : Int32 × List Int32 → Prop} {kr kc cr rr rc wc b : Int}
theorem kP0.R {y : Int32} {v : Nat} (H : kI M Q kr kc cr rr rc wc) (ey : y = nI v) (hv : v < 3) (hb : kr + kc + cr + rr + rc + wc + 52 ≤ b) : kP0 Q b (pX8_sendsR_0 M y) ∧ ∀ l E, kK M l E → oX8_sendsR_0 M y l E := by
  have a2 := H.1.2.1
  have ew := gt_nI a2.1
  have cw := gt_clamp a2.1
  have hw : (M.a 4 1).toNatClampNeg < 2 := by
    have := a2.2
    unfold gMd.z at this
    omega
  generalize ew2 : (M.a 4 1).toNatClampNeg = w at ew cw hw
  have ex : (128 + (16 * (M.a 4 1))) + y = nI (128 + 16 * w + v) := by
    rw [ew, ey, show (16 : Int32) = nI 16 from rfl, nI_mulS (by omega) (by decide) (by omega), show (128 : Int32) = nI 128 from rfl, nI_add, nI_add]
  refine ⟨?_, fun l E K => K.sk (N := 0) ex rfl (by omega) (by omega) fun q hq => absurd hq (Nat.not_lt_zero _)⟩
  refine ⟨128 + 16 * w + v, 0, 0, 0, 52, ?_, rfl, by omega, ?_, fun q hq => absurd hq (Nat.not_lt_zero _), by omega, Or.inr (by rw [kSp_0]; exact Int.le_refl _), ?_, fun Q' h _ => ?_⟩
  · exact ex
  · left
    refine ⟨rfl, ?_⟩
    have h1 : w = 0 ∨ w = 1 := by omega
    have h2 : v = 0 ∨ v = 1 ∨ v = 2 := by omega
    rcases h1 with rfl | rfl <;> rcases h2 with rfl | rfl | rfl <;> simp
  · exact ⟨by omega, by omega, fun p => absurd p (by omega), fun p => absurd p (by omega), fun p => absurd p (by omega), fun p => absurd p (by omega), fun _ => by omega⟩
    
  · exact ⟨kr, kc, cr, rr, rc, wc, H.mono h, by omega⟩
theorem kP0.ask {c : Int} (h9 : 0 ≤ M.z 9 ∧ M.z 9 ≤ 3) (h10 : 0 ≤ M.z 10 ∧ M.z 10 ≤ 255) (hc0 : 0 ≤ c) (hc : M.z 9 = 1 ∨ M.z 9 = 3 → (∀ k : Nat, ∀ f : Nat → Int32, (k : Int) = 192 + M.z 9 → f 0 = M.a 4 10 → Q (kB 0 (nI k) 1 f)) ∨ (kSp (192 + M.z 9) 1 (M.z 10) : Int) ≤ c)
    (hI : ∀ Q' : Int32 × List Int32 → Prop, (∀ e, Q e → Q' e) → (M.z 9 = 1 ∨ M.z 9 = 3 → ∀ k : Nat, ∀ f : Nat → Int32, (k : Int) = 192 + M.z 9 → f 0 = M.a 4 10 → Q' (kB 0 (nI k) 1 f)) → kEnd M Q' (b - c - 52)) : kP0 Q b (pX8_sendsAsked_0 M) ∧ ∀ l E, kK M l E → oX8_sendsAsked_0 M l E := by
  have e9 := gt_nI (show 0 ≤ (M.a 4 9).toInt from h9.1)
  have c9 := gt_clamp (show 0 ≤ (M.a 4 9).toInt from h9.1)
  have h9b := h9.2
  have t9 : M.z 9 = (M.a 4 9).toInt := rfl
  have t10 : M.z 10 = (M.a 4 10).toInt := rfl
  generalize ew2 : (M.a 4 9).toNatClampNeg = w at e9 c9
  have hw : w < 4 := by omega
  have ex : 192 + (M.a 4 9) = nI (192 + w) := by
    rw [e9, show (192 : Int32) = nI 192 from rfl, nI_add]
  have g10 : gIr (M.a 4 10) 255 := gt_ir h10.1 h10.2
  have gput : (M.put 14 0 (M.a 4 10)).a 14 0 = M.a 4 10 := gput_s
  by_cases o1 : w = 1 ∨ w = 3
  · -- one byte
    have o2 : M.z 9 = 1 ∨ M.z 9 = 3 := by omega
    have K1 : kP0 Q b ((M.put 14 0 (M.a 4 10)), some ((192 + (M.a 4 9)), 1)) := by
      refine ⟨192 + w, 1, c, 0, 52, ex, rfl, by omega, Or.inr (Or.inl ⟨rfl, ?_⟩), fun q hq => ?_, hc0, ?_, ?_, fun Q' h hq => ?_⟩
      · rcases o1 with rfl | rfl <;> simp
      · rw [show q = 0 by omega, gput]; exact g10
      · refine (hc o2).imp (fun H => H _ _ (by omega) gput) fun H => ?_
        rw [gput, show ((192 + w : Nat) : Int) = 192 + M.z 9 by omega]
        exact H
      · refine ⟨by omega, by omega, fun p => absurd p (by omega), fun p => absurd p (by omega), fun p => ⟨?_, gput⟩, fun p => absurd p (by omega), fun _ => by omega⟩
        show M.z 9 = _
        omega
      · rw [Int.sub_zero]
        refine (hI Q' h fun _ k f ek ef => ?_).cg (fun q _ _ _ _ _ _ _ => rfl) (Int.le_refl _)
        rw [show k = 192 + w by omega, kB_cg (g := (M.put 14 0 (M.a 4 10)).a 14) fun j hj => by rw [show j = 0 by omega, gput, ef]]
        exact hq
    have O1 : ∀ l E, kK M l E → gSk (M.put 14 0 (M.a 4 10)) (192 + (M.a 4 9)) 1 l E := fun l E K => (K.puto (i := 14) (j := 0) (x := M.a 4 10) (by omega)).sk (N := 1) ex rfl (by omega) (by omega) fun q hq => by rw [show q = 0 by omega, gput]; exact g10
    unfold pX8_sendsAsked_0 oX8_sendsAsked_0
    by_cases d1 : M.a 4 9 = 1
    · rw [if_pos d1]
      exact ⟨K1, fun l E K => by rw [if_pos d1]; exact O1 l E K⟩
    · have d3 : M.a 4 9 = 3 := by
        rw [e9]
        have : w = 3 := by
          rcases o1 with rfl | rfl
          · exact absurd e9 d1
          · rfl
        rw [this]; rfl
      rw [if_neg d1, if_pos d3]
      exact ⟨K1, fun l E K => by rw [if_neg d1]; exact O1 l E K⟩
  · have hw2 : w = 0 ∨ w = 2 := by omega
    have d1 : ¬ M.a 4 9 = 1 := by rw [e9]; rcases hw2 with rfl | rfl <;> decide
    have d3 : ¬ M.a 4 9 = 3 := by rw [e9]; rcases hw2 with rfl | rfl <;> decide
    unfold pX8_sendsAsked_0 oX8_sendsAsked_0
    rw [if_neg d1, if_neg d3]
    refine ⟨?_, fun l E K => ?_⟩
    · refine ⟨192 + w, 0, c, 0, 52, ex, rfl, by omega, Or.inl ⟨rfl, ?_⟩, fun q hq => absurd hq (Nat.not_lt_zero _), hc0, Or.inr (by rw [kSp_0]; exact hc0), ?_, fun Q' h hq => ?_⟩
      · rcases hw2 with rfl | rfl <;> simp
      · refine ⟨by omega, by omega, fun p => absurd p (by omega), fun p => ?_, fun p => absurd p (by omega), fun p => absurd p (by omega), fun _ => by omega⟩
        show M.z 9 = 0
        omega
      · rw [Int.sub_zero]
        exact (hI Q' h fun p => absurd p (by omega)).cg (fun q _ _ _ _ _ _ _ => rfl) (Int.le_refl _)
    · rw [if_neg d1]
      exact (K.puto (i := 14) (j := 0) (x := M.a 4 10) (by omega)).sk (N := 0) ex rfl (by omega) (by omega) fun q hq => absurd hq (Nat.not_lt_zero _)
theorem kP0.resp {k N : Nat} {c : Int} (h1 : M.a 13 1 = nI k) (h2 : M.a 13 2 = nI N) (hk : ((k = 192 ∨ k = 194) ∧ N = 0) ∨ ((k = 193 ∨ k = 195) ∧ N = 1)) (h3 : gIr (M.a 13 3) 255) (hc0 : 0 ≤ c) (hc : N = 1 → (∀ f : Nat → Int32, f 0 = M.a 13 3 → Q (kB 0 (nI (k + 32)) 1 f)) ∨ (kSp ((k + 32 : Nat) : Int) 1 (M.a 13 3).toInt : Int) ≤ c)
    (hI : ∀ Q' : Int32 × List Int32 → Prop, (∀ e, Q e → Q' e) → (N = 1 → ∀ f : Nat → Int32, f 0 = M.a 13 3 → Q' (kB 0 (nI (k + 32)) 1 f)) → kEnd M Q' (b - c - 52)) : kP0 Q b (pX8_responds_0 M) ∧ ∀ l E, kK M l E → oX8_responds_0 M l E := by
  have ex : (M.a 13 1) + 32 = nI (k + 32) := by rw [h1, show (32 : Int32) = nI 32 from rfl, nI_add]
  have gput : (M.put 14 0 (M.a 13 3)).a 14 0 = M.a 13 3 := gput_s
  have hby : ∀ q, q < N → gIr ((M.put 14 0 (M.a 13 3)).a 14 q) 255 := fun q hq => by rw [show q = 0 by omega, gput]; exact h3
  have hK : kKk (k + 32) N := by
    rcases hk with ⟨rfl | rfl, rfl⟩ | ⟨rfl | rfl, rfl⟩
    · exact Or.inl ⟨rfl, by simp⟩
    · exact Or.inl ⟨rfl, by simp⟩
    · exact Or.inr (Or.inl ⟨rfl, by simp⟩)
    · exact Or.inr (Or.inl ⟨rfl, by simp⟩)
  refine ⟨?_, fun l E K => (K.puto (i := 14) (j := 0) (x := M.a 13 3) (by omega)).sk ex h2 (by omega) (by omega) hby⟩
  refine ⟨k + 32, N, c, 0, 52, ex, h2, by omega, hK, hby, hc0, ?_, ?_, fun Q' h hq => ?_⟩
  · by_cases e : N = 1
    · subst e
      refine (hc rfl).imp (fun H => H _ gput) fun H => ?_
      show (kSp _ 1 ((M.put 14 0 (M.a 13 3)).a 14 0).toInt : Int) ≤ c
      rw [gput]; exact H
    · rw [show N = 0 by omega, kSp_0]; exact Or.inr hc0
  · exact ⟨by omega, by omega, fun p => absurd p (by omega), fun p => absurd p (by omega), fun p => absurd p (by omega), fun p => absurd p (by omega), fun _ => by omega⟩
  · rw [Int.sub_zero]
    refine (hI Q' h fun e f ef => ?_).cg (fun q _ _ _ _ _ _ _ => rfl) (Int.le_refl _)
    subst e
    rw [kB_cg (g := (M.put 14 0 (M.a 13 3)).a 14) fun j hj => by rw [show j = 0 by omega, gput, ef]]
    exact hq
theorem kP0.pend {c ex : Int} (h5 : 0 ≤ M.z 5 ∧ M.z 5 ≤ 1) (h6 : M.z 6 = 0 ∨ (M.z 6 = 1 ∧ 1 ≤ M.z 7)) (h4 : 0 ≤ M.z 4) (h7 : 0 ≤ M.z 7 ∧ M.z 4 + M.z 7 ≤ 60) (By : kBy M) (hc0 : 0 ≤ c) (hx : 0 ≤ ex) (h9 : M.z 9 = -1) (hx2 : 2 ≤ M.z 7 → ¬ M.z 6 = 1 → ¬ M.z 17 = M.z 0 → M.z 24 = 0 → 10718 ≤ ex) (hc : ∀ k N a : Nat, ∀ f : Nat → Int32, (k : Int) = 64 * M.z 5 + 32 * M.z 6 → (N : Int) = M.z 7 → (a : Int) = M.z 4 → (∀ j, j < N → f j = M.a 4 (32 + a + j)) → Q (kB 0 (nI k) N f) ∨ (kSp k N (f 0).toInt : Int) ≤ c)
    (hI : ∀ Q' : Int32 × List Int32 → Prop, (∀ e, Q e → Q' e) → (∀ k N a : Nat, ∀ f : Nat → Int32, (k : Int) = 64 * M.z 5 + 32 * M.z 6 → (N : Int) = M.z 7 → (a : Int) = M.z 4 → (∀ j, j < N → f j = M.a 4 (32 + a + j)) → Q' (kB 0 (nI k) N f)) → kEnd M Q' (b - c - ex)) : kP0 Q b (pX8_sendsPending_0 M) ∧ ∀ l E, kK M l E → oX8_sendsPending_0 M l E := by
  have e5 := gt_nI (show 0 ≤ (M.a 4 5).toInt from h5.1)
  have c5 := gt_clamp (show 0 ≤ (M.a 4 5).toInt from h5.1)
  have c4 := gt_clamp (show 0 ≤ (M.a 4 4).toInt from h4)
  have c7 := gt_clamp (show 0 ≤ (M.a 4 7).toInt from h7.1)
  have e7 := gt_nI (show 0 ≤ (M.a 4 7).toInt from h7.1)
  have t4 : M.z 4 = (M.a 4 4).toInt := rfl
  have t5 : M.z 5 = (M.a 4 5).toInt := rfl
  have t6 : M.z 6 = (M.a 4 6).toInt := rfl
  have t7 : M.z 7 = (M.a 4 7).toInt := rfl
  unfold pX8_sendsPending_0 oX8_sendsPending_0
  generalize (M.a 4 4).toNatClampNeg = a at c4
  generalize (M.a 4 7).toNatClampNeg = N at c7 e7
  generalize (M.a 4 5).toNatClampNeg = w at c5 e5
  obtain ⟨m, hm, em⟩ : ∃ m, m ≤ 1 ∧ (if (M.a 4 6) = 1 then 32 else 0 : Int32) = nI (32 * m) ∧ (m : Int) = M.z 6 := by
    rcases h6 with h | ⟨h, -⟩
    · refine ⟨0, by omega, ?_, by omega⟩
      rw [if_neg]; rfl
      intro q
      rw [t6, q] at h
      exact absurd h (by decide)
    · refine ⟨1, by omega, ?_, by omega⟩
      rw [if_pos (show M.a 4 6 = 1 from gt_eq (k := 1) (t6.symm.trans h))]; rfl
  have ea : ∀ q, q < N → (M.arr 14 (gCpy (M.a 14) 0 (M.a 4) (32 + a) N)).a 14 q = M.a 4 (32 + a + q) := fun q hq => by
    rw [garr_s]
    have := gCpy_in (f := M.a 14) (i := 0) (g := M.a 4) (j := 32 + a) (n := N) (k := q) hq
    rw [Nat.zero_add] at this
    exact this
  have hby : ∀ q, q < N → gIr ((M.arr 14 (gCpy (M.a 14) 0 (M.a 4) (32 + a) N)).a 14 q) 255 := fun q hq => by
    rw [ea q hq]
    exact By _ (by omega) (by omega)
  have ex' : (64 * ((M.arr 14 (gCpy (M.a 14) 0 (M.a 4) (32 + a) N)).a 4 5)) + (if ((M.arr 14 (gCpy (M.a 14) 0 (M.a 4) (32 + a) N)).a 4 6) = 1 then 32 else 0 : Int32) = nI (64 * w + 32 * m) := by
    rw [garr_o (by decide), garr_o (by decide), em.1, e5, show (64 : Int32) = nI 64 from rfl, nI_mulS (by omega) (by decide) (by omega), nI_add]
  have en : (M.arr 14 (gCpy (M.a 14) 0 (M.a 4) (32 + a) N)).a 4 7 = nI N := (garr_o (by decide)).trans e7
  have w1 : w = 0 ∨ w = 1 := by omega
  have m1 : m = 0 ∨ m = 1 := by omega
  refine ⟨?_, fun l E K => ⟨gt_ir h7.1 (by omega), gt_ir h4 (by omega), (K.arro (by omega)).sk ex' en (by omega) (by omega) hby⟩⟩
  refine ⟨64 * w + 32 * m, N, c, ex, 0, ex', en, by omega, ?_, hby, hc0, ?_, ?_, fun Q' h hq => ?_⟩
  · by_cases e : N = 0
    · have : m = 0 := by omega
      refine Or.inl ⟨e, ?_⟩
      rcases w1 with rfl | rfl <;> rw [this] <;> simp
    · refine Or.inr (Or.inr ⟨by omega, ?_⟩)
      rcases w1 with rfl | rfl <;> rcases m1 with rfl | rfl <;> simp
  · exact hc _ N a _ (by omega) (by omega) (by omega) ea
  · refine ⟨hx, by omega, fun _ => ⟨h5.1, h9, ?_, ?_⟩, fun p => absurd p (by omega), fun p => absurd p (by omega), fun _ p q r t => hx2 ?_ q r t, fun p => absurd p (by omega)⟩
    · show _ = 64 * M.z 5 + 32 * M.z 6
      omega
    · show _ = M.z 7
      omega
    · show 2 ≤ M.z 7
      omega
  · rw [Int.sub_zero]
    refine (hI Q' h fun k N' a' f h1 h2 h3 h4 => ?_).cg (fun q _ _ _ _ _ _ _ => rfl) (Int.le_refl _)
    rw [show k = 64 * w + 32 * m by omega]
    have eN : N' = N := by omega
    have eA : a' = a := by omega
    subst eN eA
    rw [kB_cg (g := (M.arr 14 (gCpy (M.a 14) 0 (M.a 4) (32 + a') N')).a 14) fun j hj => by rw [ea j hj, h4 j hj]]
    exact hq
theorem kP0.again {ex : Int} (H : kI M Q kr kc cr rr rc wc) (h5 : 0 ≤ M.z 5) (hx : 0 ≤ ex) (h9 : M.z 9 = -1) (hx2 : 2 ≤ M.z 7 → ¬ M.z 6 = 1 → ¬ M.z 17 = M.z 0 → M.z 24 = 0 → 10718 ≤ ex) (hb : kr + kc + cr + rr + rc + wc + ex ≤ b) : kP0 Q b (pX8_sendsPending_0 M) ∧ ∀ l E, kK M l E → oX8_sendsPending_0 M l E := by
  obtain ⟨a1, a2, a3, a4, a5, a6, a7, a8, a9, a10, a11, a12, a13⟩ := H.1
  have p := a6 h5
  exact kP0.pend (c := 0) ⟨h5, a5.2⟩ (p.2.2.2.imp And.left fun q => ⟨q.1, q.2.1⟩) a4.1 ⟨p.2.1, by omega⟩ H.2.2.1 (by omega) hx h9 hx2 (fun k N a f e1 e2 e3 e4 => Or.inl (a11 h5 k N a f e1 e2 e3 e4)) fun Q' h _ => ⟨kr, kc, cr, rr, rc, wc, H.mono h, by omega⟩
theorem kP0.askAgain (H : kI M Q kr kc cr rr rc wc) (h9 : 0 ≤ M.z 9) (hb : kr + kc + cr + rr + rc + wc + 52 ≤ b) : kP0 Q b (pX8_sendsAsked_0 M) ∧ ∀ l E, kK M l E → oX8_sendsAsked_0 M l E := by
  obtain ⟨a1, a2, a3, a4, a5, a6, a7, a8, a9, a10, a11, a12, a13⟩ := H.1
  exact kP0.ask (c := 0) ⟨h9, a8.2⟩ a9 (by omega) (fun p => Or.inl (a12 p)) fun Q' h _ => ⟨kr, kc, cr, rr, rc, wc, H.mono h, by omega⟩
end KP0
section KP1
variable {M : gMd} {Q : Int32 × List Int32 → Prop} {kr kc cr rr rc wc b : Int}
theorem kP1.R {y : Int32} {v : Nat} (H : kI M Q kr kc cr rr rc wc) (ey : y = nI v) (hv : v < 3) (hb : kr + kc + cr + rr + rc + wc ≤ b) : kP1 Q b (pX8_sendsR_1 M y) ∧ ∀ l E, kK M l E → oX8_sendsR_1 M y l E := by
  have a2 := H.2.1.2.1
  have ew := gt_nI a2.1
  have cw := gt_clamp a2.1
  have hw : (M.a 4 17).toNatClampNeg < 2 := by
    have := a2.2
    unfold gMd.z at this
    omega
  generalize ew2 : (M.a 4 17).toNatClampNeg = w at ew cw hw
  have ex : (128 + (16 * (M.a 4 17))) + y = nI (128 + 16 * w + v) := by
    rw [ew, ey, show (16 : Int32) = nI 16 from rfl, nI_mulS (by omega) (by decide) (by omega), show (128 : Int32) = nI 128 from rfl, nI_add, nI_add]
  refine ⟨?_, fun l E K => K.sk (N := 0) ex rfl (by omega) (by omega) fun q hq => absurd hq (Nat.not_lt_zero _)⟩
  refine ⟨128 + 16 * w + v, 0, 0, ?_, rfl, by omega, ?_, fun q hq => absurd hq (Nat.not_lt_zero _), by omega, Or.inr (by rw [kSp_0]; exact Int.le_refl _), ?_, fun Q' h _ => ?_⟩
  · exact ex
  · left
    refine ⟨rfl, ?_⟩
    have h1 : w = 0 ∨ w = 1 := by omega
    have h2 : v = 0 ∨ v = 1 ∨ v = 2 := by omega
    rcases h1 with rfl | rfl <;> rcases h2 with rfl | rfl | rfl <;> simp
  · refine ⟨fun _ _ => ?_, fun p => absurd p (by omega)⟩
    rw [show (128 + 16 * w + v) / 16 % 2 = w by omega]; exact cw
  · exact ⟨kr, kc, cr, rr, rc, wc, H.mono h, by omega⟩
theorem kP1.ask {c : Int} (h9 : 0 ≤ M.z 25 ∧ M.z 25 ≤ 3) (h10 : 0 ≤ M.z 26 ∧ M.z 26 ≤ 255) (hc0 : 0 ≤ c) (hc : M.z 25 = 1 ∨ M.z 25 = 3 → (∀ k : Nat, ∀ f : Nat → Int32, (k : Int) = 192 + M.z 25 → f 0 = M.a 4 26 → Q (kB 1 (nI k) 1 f)) ∨ (kSp (192 + M.z 25) 1 (M.z 26) : Int) ≤ c)
    (hI : ∀ Q' : Int32 × List Int32 → Prop, (∀ e, Q e → Q' e) → (M.z 25 = 1 ∨ M.z 25 = 3 → ∀ k : Nat, ∀ f : Nat → Int32, (k : Int) = 192 + M.z 25 → f 0 = M.a 4 26 → Q' (kB 1 (nI k) 1 f)) → kEnd M Q' (b - c)) : kP1 Q b (pX8_sendsAsked_1 M) ∧ ∀ l E, kK M l E → oX8_sendsAsked_1 M l E := by
  have e9 := gt_nI (show 0 ≤ (M.a 4 25).toInt from h9.1)
  have c9 := gt_clamp (show 0 ≤ (M.a 4 25).toInt from h9.1)
  have h9b := h9.2
  have t9 : M.z 25 = (M.a 4 25).toInt := rfl
  have t10 : M.z 26 = (M.a 4 26).toInt := rfl
  generalize ew2 : (M.a 4 25).toNatClampNeg = w at e9 c9
  have hw : w < 4 := by omega
  have ex : 192 + (M.a 4 25) = nI (192 + w) := by
    rw [e9, show (192 : Int32) = nI 192 from rfl, nI_add]
  have g10 : gIr (M.a 4 26) 255 := gt_ir h10.1 h10.2
  have gput : (M.put 14 0 (M.a 4 26)).a 14 0 = M.a 4 26 := gput_s
  by_cases o1 : w = 1 ∨ w = 3
  · -- one byte
    have o2 : M.z 25 = 1 ∨ M.z 25 = 3 := by omega
    have K1 : kP1 Q b ((M.put 14 0 (M.a 4 26)), some ((192 + (M.a 4 25)), 1)) := by
      refine ⟨192 + w, 1, c, ex, rfl, by omega, Or.inr (Or.inl ⟨rfl, ?_⟩), fun q hq => ?_, hc0, ?_, ?_, fun Q' h hq => ?_⟩
      · rcases o1 with rfl | rfl <;> simp
      · rw [show q = 0 by omega, gput]; exact g10
      · refine (hc o2).imp (fun H => H _ _ (by omega) gput) fun H => ?_
        rw [gput, show ((192 + w : Nat) : Int) = 192 + M.z 25 by omega]
        exact H
      · refine ⟨fun p q => absurd q (by omega), fun p => ⟨?_, gput⟩⟩
        show M.z 25 = _
        omega
      · skip
        refine (hI Q' h fun _ k f ek ef => ?_).cg (fun q _ _ _ _ _ _ _ => rfl) (Int.le_refl _)
        rw [show k = 192 + w by omega, kB_cg (g := (M.put 14 0 (M.a 4 26)).a 14) fun j hj => by rw [show j = 0 by omega, gput, ef]]
        exact hq
    have O1 : ∀ l E, kK M l E → gSk (M.put 14 0 (M.a 4 26)) (192 + (M.a 4 25)) 1 l E := fun l E K => (K.puto (i := 14) (j := 0) (x := M.a 4 26) (by omega)).sk (N := 1) ex rfl (by omega) (by omega) fun q hq => by rw [show q = 0 by omega, gput]; exact g10
    unfold pX8_sendsAsked_1 oX8_sendsAsked_1
    by_cases d1 : M.a 4 25 = 1
    · rw [if_pos d1]
      exact ⟨K1, fun l E K => by rw [if_pos d1]; exact O1 l E K⟩
    · have d3 : M.a 4 25 = 3 := by
        rw [e9]
        have : w = 3 := by
          rcases o1 with rfl | rfl
          · exact absurd e9 d1
          · rfl
        rw [this]; rfl
      rw [if_neg d1, if_pos d3]
      exact ⟨K1, fun l E K => by rw [if_neg d1]; exact O1 l E K⟩
  · have hw2 : w = 0 ∨ w = 2 := by omega
    have d1 : ¬ M.a 4 25 = 1 := by rw [e9]; rcases hw2 with rfl | rfl <;> decide
    have d3 : ¬ M.a 4 25 = 3 := by rw [e9]; rcases hw2 with rfl | rfl <;> decide
    unfold pX8_sendsAsked_1 oX8_sendsAsked_1
    rw [if_neg d1, if_neg d3]
    refine ⟨?_, fun l E K => ?_⟩
    · refine ⟨192 + w, 0, c, ex, rfl, by omega, Or.inl ⟨rfl, ?_⟩, fun q hq => absurd hq (Nat.not_lt_zero _), hc0, Or.inr (by rw [kSp_0]; exact hc0), ?_, fun Q' h hq => ?_⟩
      · rcases hw2 with rfl | rfl <;> simp
      · exact ⟨fun p q => absurd q (by omega), fun p => absurd p (by omega)⟩
        
        
      · skip
        exact (hI Q' h fun p => absurd p (by omega)).cg (fun q _ _ _ _ _ _ _ => rfl) (Int.le_refl _)
    · rw [if_neg d1]
      exact (K.puto (i := 14) (j := 0) (x := M.a 4 26) (by omega)).sk (N := 0) ex rfl (by omega) (by omega) fun q hq => absurd hq (Nat.not_lt_zero _)
theorem kP1.resp {k N : Nat} {c : Int} (h1 : M.a 13 1 = nI k) (h2 : M.a 13 2 = nI N) (hk : ((k = 192 ∨ k = 194) ∧ N = 0) ∨ ((k = 193 ∨ k = 195) ∧ N = 1)) (h3 : gIr (M.a 13 3) 255) (hc0 : 0 ≤ c) (hc : N = 1 → (∀ f : Nat → Int32, f 0 = M.a 13 3 → Q (kB 1 (nI (k + 32)) 1 f)) ∨ (kSp ((k + 32 : Nat) : Int) 1 (M.a 13 3).toInt : Int) ≤ c)
    (hI : ∀ Q' : Int32 × List Int32 → Prop, (∀ e, Q e → Q' e) → (N = 1 → ∀ f : Nat → Int32, f 0 = M.a 13 3 → Q' (kB 1 (nI (k + 32)) 1 f)) → kEnd M Q' (b - c)) : kP1 Q b (pX8_responds_1 M) ∧ ∀ l E, kK M l E → oX8_responds_1 M l E := by
  have ex : (M.a 13 1) + 32 = nI (k + 32) := by rw [h1, show (32 : Int32) = nI 32 from rfl, nI_add]
  have gput : (M.put 14 0 (M.a 13 3)).a 14 0 = M.a 13 3 := gput_s
  have hby : ∀ q, q < N → gIr ((M.put 14 0 (M.a 13 3)).a 14 q) 255 := fun q hq => by rw [show q = 0 by omega, gput]; exact h3
  have hK : kKk (k + 32) N := by
    rcases hk with ⟨rfl | rfl, rfl⟩ | ⟨rfl | rfl, rfl⟩
    · exact Or.inl ⟨rfl, by simp⟩
    · exact Or.inl ⟨rfl, by simp⟩
    · exact Or.inr (Or.inl ⟨rfl, by simp⟩)
    · exact Or.inr (Or.inl ⟨rfl, by simp⟩)
  refine ⟨?_, fun l E K => (K.puto (i := 14) (j := 0) (x := M.a 13 3) (by omega)).sk ex h2 (by omega) (by omega) hby⟩
  refine ⟨k + 32, N, c, ex, h2, by omega, hK, hby, hc0, ?_, ?_, fun Q' h hq => ?_⟩
  · by_cases e : N = 1
    · subst e
      refine (hc rfl).imp (fun H => H _ gput) fun H => ?_
      show (kSp _ 1 ((M.put 14 0 (M.a 13 3)).a 14 0).toInt : Int) ≤ c
      rw [gput]; exact H
    · rw [show N = 0 by omega, kSp_0]; exact Or.inr hc0
  · exact ⟨fun p q => absurd q (by omega), fun p => absurd p (by omega)⟩
  · skip
    refine (hI Q' h fun e f ef => ?_).cg (fun q _ _ _ _ _ _ _ => rfl) (Int.le_refl _)
    subst e
    rw [kB_cg (g := (M.put 14 0 (M.a 13 3)).a 14) fun j hj => by rw [show j = 0 by omega, gput, ef]]
    exact hq
theorem kP1.pend {c : Int} (h5 : 0 ≤ M.z 21 ∧ M.z 21 ≤ 1) (h6 : M.z 22 = 0 ∨ (M.z 22 = 1 ∧ 1 ≤ M.z 23)) (h4 : 0 ≤ M.z 20) (h7 : 0 ≤ M.z 23 ∧ M.z 20 + M.z 23 ≤ 60) (By : kBy M) (hc0 : 0 ≤ c) (hc : ∀ k N a : Nat, ∀ f : Nat → Int32, (k : Int) = 64 * M.z 21 + 32 * M.z 22 → (N : Int) = M.z 23 → (a : Int) = M.z 20 → (∀ j, j < N → f j = M.a 4 (96 + a + j)) → Q (kB 1 (nI k) N f) ∨ (kSp k N (f 0).toInt : Int) ≤ c)
    (hI : ∀ Q' : Int32 × List Int32 → Prop, (∀ e, Q e → Q' e) → (∀ k N a : Nat, ∀ f : Nat → Int32, (k : Int) = 64 * M.z 21 + 32 * M.z 22 → (N : Int) = M.z 23 → (a : Int) = M.z 20 → (∀ j, j < N → f j = M.a 4 (96 + a + j)) → Q' (kB 1 (nI k) N f)) → kEnd M Q' (b - c)) : kP1 Q b (pX8_sendsPending_1 M) ∧ ∀ l E, kK M l E → oX8_sendsPending_1 M l E := by
  have e5 := gt_nI (show 0 ≤ (M.a 4 21).toInt from h5.1)
  have c5 := gt_clamp (show 0 ≤ (M.a 4 21).toInt from h5.1)
  have c4 := gt_clamp (show 0 ≤ (M.a 4 20).toInt from h4)
  have c7 := gt_clamp (show 0 ≤ (M.a 4 23).toInt from h7.1)
  have e7 := gt_nI (show 0 ≤ (M.a 4 23).toInt from h7.1)
  have t4 : M.z 20 = (M.a 4 20).toInt := rfl
  have t5 : M.z 21 = (M.a 4 21).toInt := rfl
  have t6 : M.z 22 = (M.a 4 22).toInt := rfl
  have t7 : M.z 23 = (M.a 4 23).toInt := rfl
  unfold pX8_sendsPending_1 oX8_sendsPending_1
  generalize (M.a 4 20).toNatClampNeg = a at c4
  generalize (M.a 4 23).toNatClampNeg = N at c7 e7
  generalize (M.a 4 21).toNatClampNeg = w at c5 e5
  obtain ⟨m, hm, em⟩ : ∃ m, m ≤ 1 ∧ (if (M.a 4 22) = 1 then 32 else 0 : Int32) = nI (32 * m) ∧ (m : Int) = M.z 22 := by
    rcases h6 with h | ⟨h, -⟩
    · refine ⟨0, by omega, ?_, by omega⟩
      rw [if_neg]; rfl
      intro q
      rw [t6, q] at h
      exact absurd h (by decide)
    · refine ⟨1, by omega, ?_, by omega⟩
      rw [if_pos (show M.a 4 22 = 1 from gt_eq (k := 1) (t6.symm.trans h))]; rfl
  have ea : ∀ q, q < N → (M.arr 14 (gCpy (M.a 14) 0 (M.a 4) (96 + a) N)).a 14 q = M.a 4 (96 + a + q) := fun q hq => by
    rw [garr_s]
    have := gCpy_in (f := M.a 14) (i := 0) (g := M.a 4) (j := 96 + a) (n := N) (k := q) hq
    rw [Nat.zero_add] at this
    exact this
  have hby : ∀ q, q < N → gIr ((M.arr 14 (gCpy (M.a 14) 0 (M.a 4) (96 + a) N)).a 14 q) 255 := fun q hq => by
    rw [ea q hq]
    exact By _ (by omega) (by omega)
  have ex' : (64 * ((M.arr 14 (gCpy (M.a 14) 0 (M.a 4) (96 + a) N)).a 4 21)) + (if ((M.arr 14 (gCpy (M.a 14) 0 (M.a 4) (96 + a) N)).a 4 22) = 1 then 32 else 0 : Int32) = nI (64 * w + 32 * m) := by
    rw [garr_o (by decide), garr_o (by decide), em.1, e5, show (64 : Int32) = nI 64 from rfl, nI_mulS (by omega) (by decide) (by omega), nI_add]
  have en : (M.arr 14 (gCpy (M.a 14) 0 (M.a 4) (96 + a) N)).a 4 23 = nI N := (garr_o (by decide)).trans e7
  have w1 : w = 0 ∨ w = 1 := by omega
  have m1 : m = 0 ∨ m = 1 := by omega
  refine ⟨?_, fun l E K => ⟨gt_ir h7.1 (by omega), gt_ir h4 (by omega), (K.arro (by omega)).sk ex' en (by omega) (by omega) hby⟩⟩
  refine ⟨64 * w + 32 * m, N, c, ex', en, by omega, ?_, hby, hc0, ?_, ?_, fun Q' h hq => ?_⟩
  · by_cases e : N = 0
    · have : m = 0 := by omega
      refine Or.inl ⟨e, ?_⟩
      rcases w1 with rfl | rfl <;> rw [this] <;> simp
    · refine Or.inr (Or.inr ⟨by omega, ?_⟩)
      rcases w1 with rfl | rfl <;> rcases m1 with rfl | rfl <;> simp
  · exact hc _ N a _ (by omega) (by omega) (by omega) ea
  · exact ⟨fun p => absurd p (by omega), fun p => absurd p (by omega)⟩
  · skip
    refine (hI Q' h fun k N' a' f h1 h2 h3 h4 => ?_).cg (fun q _ _ _ _ _ _ _ => rfl) (Int.le_refl _)
    rw [show k = 64 * w + 32 * m by omega]
    have eN : N' = N := by omega
    have eA : a' = a := by omega
    subst eN eA
    rw [kB_cg (g := (M.arr 14 (gCpy (M.a 14) 0 (M.a 4) (96 + a') N')).a 14) fun j hj => by rw [ea j hj, h4 j hj]]
    exact hq
theorem kP1.again {d : Unit} (H : kI M Q kr kc cr rr rc wc) (h5 : 0 ≤ M.z 21) (hb : kr + kc + cr + rr + rc + wc ≤ b) : kP1 Q b (pX8_sendsPending_1 M) ∧ ∀ l E, kK M l E → oX8_sendsPending_1 M l E := by
  obtain ⟨a1, a2, a3, a4, a5, a6, a7, a8, a9, a10, a11, a12, a13⟩ := H.2.1
  have p := a6 h5
  exact kP1.pend (c := 0) ⟨h5, a5.2⟩ (p.2.2.2.imp And.left fun q => ⟨q.1, q.2.1⟩) a4.1 ⟨p.2.1, by omega⟩ H.2.2.1 (by omega) (fun k N a f e1 e2 e3 e4 => Or.inl (a11 h5 k N a f e1 e2 e3 e4)) fun Q' h _ => ⟨kr, kc, cr, rr, rc, wc, H.mono h, by omega⟩
theorem kP1.askAgain (H : kI M Q kr kc cr rr rc wc) (h9 : 0 ≤ M.z 25) (hb : kr + kc + cr + rr + rc + wc ≤ b) : kP1 Q b (pX8_sendsAsked_1 M) ∧ ∀ l E, kK M l E → oX8_sendsAsked_1 M l E := by
  obtain ⟨a1, a2, a3, a4, a5, a6, a7, a8, a9, a10, a11, a12, a13⟩ := H.2.1
  exact kP1.ask (c := 0) ⟨h9, a8.2⟩ a9 (by omega) (fun p => Or.inl (a12 p)) fun Q' h _ => ⟨kr, kc, cr, rr, rc, wc, H.mono h, by omega⟩
end KP1
