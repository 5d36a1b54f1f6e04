/-! the reference: a block is sent (by program: wip/p2/m_mi.py) -/
theorem gxc {a c : Int32} : (a ^^^ c) ^^^ c = a := by
  apply Int32.toBitVec_inj.mp
  show (a.toBitVec ^^^ c.toBitVec) ^^^ c.toBitVec = a.toBitVec
  rw [BitVec.xor_assoc, BitVec.xor_self, BitVec.xor_zero]
theorem gxcan {a b c : Int32} (h : a ^^^ c = b ^^^ c) : a = b := by
  have := congrArg (· ^^^ c) h
  simpa only [gxc] using this
theorem gxcomm (a b : Int32) : a ^^^ b = b ^^^ a := by
  apply Int32.toBitVec_inj.mp
  show a.toBitVec ^^^ b.toBitVec = b.toBitVec ^^^ a.toBitVec
  exact BitVec.xor_comm _ _
/-- at how many of the first n places f and g differ -/
def gDf (f g : Nat → Int32) : Nat → Nat
  | 0 => 0
  | n + 1 => gDf f g n + (if f n = g n then 0 else 1)
theorem gDf_0 {f g : Nat → Int32} {n : Nat} (h : gDf f g n = 0) : ∀ k, k < n → f k = g k := by
  induction n with
  | zero => exact fun k hk => absurd hk (Nat.not_lt_zero _)
  | succ n ih =>
    have h' : gDf f g n + (if f n = g n then 0 else 1) = 0 := h
    intro k hk
    by_cases c : f n = g n
    · rcases Nat.lt_or_eq_of_le (Nat.le_of_lt_succ hk) with h1 | h1
      · exact ih (by omega) k h1
      · subst h1; exact c
    · rw [if_neg c] at h'; omega
theorem gXr_congr {f g : Nat → Int32} {n : Nat} (h : ∀ k, k < n → f k = g k) : gXr f n = gXr g n := by
  induction n with
  | zero => rfl
  | succ n ih =>
    show gXr f n ^^^ f n = gXr g n ^^^ g n
    rw [ih (fun k hk => h k (by omega)), h n (by omega)]
theorem gDf_1 {f g : Nat → Int32} {n : Nat} (h : gDf f g n = 1) : ¬ gXr f n = gXr g n := by
  induction n with
  | zero => cases h
  | succ n ih =>
    have h' : gDf f g n + (if f n = g n then 0 else 1) = 1 := h
    intro e
    have e' : gXr f n ^^^ f n = gXr g n ^^^ g n := e
    by_cases c : f n = g n
    · rw [if_pos c] at h'
      rw [c] at e'
      exact ih (by omega) (gxcan e')
    · rw [if_neg c] at h'
      rw [gXr_congr (gDf_0 (show gDf f g n = 0 by omega)), gxcomm, gxcomm (gXr g n)] at e'
      exact c (gxcan e')
theorem gDf_congr {f f' g : Nat → Int32} {n : Nat} (h : ∀ k, k < n → f' k = f k) : gDf f' g n = gDf f g n := by
  induction n with
  | zero => rfl
  | succ n ih =>
    show gDf f' g n + _ = gDf f g n + _
    rw [ih (fun k hk => h k (by omega)), h n (by omega)]
/-- the sum that a block carries -/
def gXs (z : Int32) (f : Nat → Int32) : Nat → Int32
  | 0 => z
  | n + 1 => gXs z f n ^^^ f n
/-- a block, byte by byte -/
def gBv (x : Int32) (n : Nat) (f : Nat → Int32) (i : Nat) : Int32 := if i = 0 then 0 else if i = 1 then x else if i = 2 then nI n else if i < 3 + n then f (i - 3) else gXs (x ^^^ nI n) f n
theorem gBv_in {x : Int32} {n j : Nat} {f : Nat → Int32} (h : j < n) : gBv x n f (3 + j) = f j := by
  unfold gBv
  rw [if_neg (by omega), if_neg (by omega), if_neg (by omega), if_pos (by omega), Nat.add_sub_cancel_left]
theorem gBv_n {x : Int32} {n : Nat} {f : Nat → Int32} : gBv x n f (3 + n) = gXs (x ^^^ nI n) f n := by
  unfold gBv
  rw [if_neg (by omega), if_neg (by omega), if_neg (by omega), if_neg (by omega)]
theorem gxz (a : Int32) : (0 : Int32) ^^^ a = a := by rw [gxcomm]; exact gxor0 a
theorem gBv_x {x : Int32} {n : Nat} {f : Nat → Int32} : gXr (gBv x n f) (n + 4) = 0 := by
  have s : ∀ j, j ≤ n → gXr (gBv x n f) (3 + j) = gXs (x ^^^ nI n) f j := by
    intro j
    induction j with
    | zero =>
      intro _
      show (((0 : Int32) ^^^ 0) ^^^ x) ^^^ nI n = x ^^^ nI n
      rw [gxz, gxz]
    | succ j ih =>
      intro h
      show gXr (gBv x n f) (3 + j) ^^^ gBv x n f (3 + j) = gXs (x ^^^ nI n) f j ^^^ f j
      rw [ih (by omega), gBv_in (by omega)]
  rw [show n + 4 = (3 + n) + 1 by omega]
  show gXr (gBv x n f) (3 + n) ^^^ gBv x n f (3 + n) = 0
  rw [s n (Nat.le_refl _), gBv_n]
  have := gxc (a := 0) (c := gXs (x ^^^ nI n) f n)
  rwa [gxz] at this
theorem gByr {x y : Int32} (hx : gIr x 255) (hy : gIr y 255) : gIr (x ^^^ y) 255 := by
  obtain ⟨a, ha, rfl⟩ := hx
  obtain ⟨b, hb, rfl⟩ := hy
  refine ⟨(nI a ^^^ nI b).toBitVec.toNat, ?_, ?_⟩
  · show (BitVec.ofNat 32 a ^^^ BitVec.ofNat 32 b).toNat ≤ 255
    rw [BitVec.toNat_xor, BitVec.toNat_ofNat, BitVec.toNat_ofNat, Nat.mod_eq_of_lt (by omega), Nat.mod_eq_of_lt (by omega)]
    have := Nat.xor_lt_two_pow (n := 8) (show a < 2 ^ 8 by omega) (show b < 2 ^ 8 by omega)
    omega
  · apply Int32.toBitVec_inj.mp
    show _ = BitVec.ofNat 32 _
    apply BitVec.eq_of_toNat_eq
    simp
theorem gXs_by {z : Int32} {f : Nat → Int32} {n : Nat} (hz : gIr z 255) (hf : ∀ k, k < n → gIr (f k) 255) : gIr (gXs z f n) 255 := by
  induction n with
  | zero => exact hz
  | succ n ih => exact gByr (ih fun k hk => hf k (by omega)) (hf n (by omega))
theorem gBv_by {x : Int32} {n i : Nat} {f : Nat → Int32} (hx : gIr x 255) (hn : n ≤ 60) (hf : ∀ k, k < n → gIr (f k) 255) : gIr (gBv x n f i) 255 := by
  unfold gBv
  split
  · exact ⟨0, by omega, rfl⟩
  split
  · exact hx
  split
  · exact ⟨n, by omega, rfl⟩
  split
  · exact hf _ (by omega)
  · exact gXs_by (gByr hx ⟨n, by omega, rfl⟩) hf
/-- letters of a block went: what holds behind j of them -/
def gLt (M : gMd) (bl : Nat → Int32) (l j : Nat) (M' : gMd) : Prop :=
  (∀ k, ¬ k = 28 → ¬ k = 30 → ¬ k = 31 → M'.f k = M.f k) ∧ (∀ i q, ¬ i = 4 → ¬ i = 13 → M'.a i q = M.a i q) ∧ (∀ q, ¬ q = 423 → ¬ q = 424 → M'.a 4 q = M.a 4 q) ∧ (∃ l', M'.a 4 423 = nI l' ∧ l ≤ l' ∧ l' ≤ l + 4 * j) ∧ gTk (M'.a 4) ≤ gTk (M.a 4) ∧
  (M'.f 31 = 0 ∨ (M'.f 31 = 1 ∧ gTk (M'.a 4) < gTk (M.a 4))) ∧ ∃ c, c ≤ j ∧ M'.f 28 = nI c ∧ (∀ q, q < c → gIr (M'.a 13 q) 255) ∧ ((M'.f 30 = 0 ∧ c = j ∧ gDf (M'.a 13) bl j + gTk (M'.a 4) ≤ gTk (M.a 4)) ∨ (M'.f 30 = 1 ∧ gTk (M'.a 4) < gTk (M.a 4)))
theorem gLt.step {M M1 M2 : gMd} {bl : Nat → Int32} {l j l1 l2 c : Nat} (H : gLt M bl l j M1) (hb : gIr (bl j) 255) (hl1 : M1.a 4 423 = nI l1) (hc : M1.f 28 = nI c) (hc2 : c ≤ 64) (hl1b : l1 ≤ 2000000000) (hlj : l + 4 * j ≤ 2000000000) (K : gCar M1 (bl j) M2 l1 l2 c) : gLt M bl l (j + 1) M2 := by
  obtain ⟨a1, a2, a3, ⟨l', b1, b2, b3⟩, a4, a5, c', d1, d2, d3, d4⟩ := H
  obtain ⟨k1, k2, k3, k4, k5, k6, k7, k8, k9⟩ := K
  have el : l1 = l' := nI_inj (by omega) (by omega) (hl1.symm.trans b1)
  have ec : c = c' := nI_inj (by omega) (by omega) (hc.symm.trans d2)
  subst el; subst ec
  refine ⟨fun k h1 h2 h3 => (k1 k h1 h2 h3).trans (a1 k h1 h2 h3), fun i q h1 h2 => (k2 i q h1 h2).trans (a2 i q h1 h2), fun q h1 h2 => (k3 q h1 h2).trans (a3 q h1 h2), ⟨l2, k4, by omega, by omega⟩, by omega, ?_, ?_⟩
  · rcases k9 with ⟨-, -, e, -⟩ | ⟨-, -, e, -, t⟩ | ⟨-, -, e, t⟩ | ⟨y, -, -, -, -, e, -, t⟩
    · rw [e]; exact a5.imp id (fun h => ⟨h.1, by omega⟩)
    · exact Or.inr ⟨e, by omega⟩
    · rw [e]; exact a5.imp id (fun h => ⟨h.1, by omega⟩)
    · rw [e]; exact a5.imp id (fun h => ⟨h.1, by omega⟩)
  · have old : ∀ q, q < c → gIr (M2.a 13 q) 255 := fun q hq => by rw [k8 q (by omega)]; exact d3 q hq
    have app : ∀ v, M2.a 13 c = v → gIr v 255 → ∀ q, q < c + 1 → gIr (M2.a 13 q) 255 := by
      intro v ev hv q hq
      rcases Nat.lt_or_eq_of_le (Nat.le_of_lt_succ hq) with h | h
      · exact old q h
      · subst h; rw [ev]; exact hv
    have df : c = j → gDf (M2.a 13) bl j = gDf (M1.a 13) bl j := fun e => gDf_congr fun q hq => k8 q (by omega)
    rcases k9 with ⟨e28, e30, -, ec⟩ | ⟨e28, e30, -, ec, t⟩ | ⟨e28, e30, -, t⟩ | ⟨y, y1, y2, e28, e30, -, ec, t⟩
    · refine ⟨c + 1, by omega, e28, app _ ec hb, ?_⟩
      rw [e30]
      rcases d4 with ⟨z, ej, dd⟩ | ⟨z, t⟩
      · subst ej
        refine Or.inl ⟨z, rfl, ?_⟩
        show gDf (M2.a 13) bl c + (if M2.a 13 c = bl c then 0 else 1) + _ ≤ _
        rw [df rfl, if_pos ec]; omega
      · exact Or.inr ⟨z, by omega⟩
    · refine ⟨c + 1, by omega, e28, app _ ec hb, ?_⟩
      rw [e30]
      rcases d4 with ⟨z, ej, dd⟩ | ⟨z, t⟩
      · subst ej
        refine Or.inl ⟨z, rfl, ?_⟩
        show gDf (M2.a 13) bl c + (if M2.a 13 c = bl c then 0 else 1) + _ ≤ _
        rw [df rfl, if_pos ec]; omega
      · exact Or.inr ⟨z, by omega⟩
    · exact ⟨c, by omega, e28, old, Or.inr ⟨e30, by omega⟩⟩
    · refine ⟨c + 1, by omega, e28, app _ ec (gByr hb ⟨y, by omega, rfl⟩), ?_⟩
      rw [e30]
      rcases d4 with ⟨z, ej, dd⟩ | ⟨z, t⟩
      · subst ej
        refine Or.inl ⟨z, rfl, ?_⟩
        show gDf (M2.a 13) bl c + (if M2.a 13 c = bl c then 0 else 1) + _ ≤ _
        rw [df rfl]
        have : (if M2.a 13 c = bl c then 0 else 1) ≤ 1 := by split <;> omega
        omega
      · exact Or.inr ⟨z, by omega⟩
