/-! the reference: the invariant of the line, and what it pays for (by program: wip/p2/m_pb.py) -/
def gMd.z (M : gMd) (k : Nat) : Int := (M.a 4 k).toInt
theorem gz_set {M : gMd} {j k : Nat} {x : Int32} : (M.set j x).z k = M.z k := rfl
theorem gz_s {M : gMd} {j : Nat} {x : Int32} : (M.put 4 j x).z j = x.toInt := by unfold gMd.z; rw [gput_s]
theorem gz_n {M : gMd} {j k : Nat} {x : Int32} (h : ¬ k = j) : (M.put 4 j x).z k = M.z k := by unfold gMd.z; rw [gput_n h]
theorem gz_o {M : gMd} {i j k : Nat} {x : Int32} (h : ¬ 4 = i) : (M.put i j x).z k = M.z k := by unfold gMd.z; rw [gput_o h]
theorem gz_arr {M : gMd} {g : Nat → Int32} {k : Nat} : (M.arr 4 g).z k = (g k).toInt := by unfold gMd.z; rw [garr_s]
theorem gz_arro {M : gMd} {i k : Nat} {g : Nat → Int32} (h : ¬ 4 = i) : (M.arr i g).z k = M.z k := by unfold gMd.z; rw [garr_o h]
theorem gt_add {a b : Int32} (h1 : -2147483648 ≤ a.toInt + b.toInt) (h2 : a.toInt + b.toInt < 2147483648) : (a + b).toInt = a.toInt + b.toInt := by
  rw [Int32.toInt_add, Int.bmod_eq_of_le (by omega) (by omega)]
theorem gt_sub {a b : Int32} (h1 : -2147483648 ≤ a.toInt - b.toInt) (h2 : a.toInt - b.toInt < 2147483648) : (a - b).toInt = a.toInt - b.toInt := by
  rw [Int32.toInt_sub, Int.bmod_eq_of_le (by omega) (by omega)]
theorem gt_clamp {x : Int32} (h : 0 ≤ x.toInt) : (x.toNatClampNeg : Int) = x.toInt := by
  show ((x.toInt.toNat : Nat) : Int) = _
  omega
theorem gt_nI {x : Int32} (h : 0 ≤ x.toInt) : x = nI x.toNatClampNeg := by
  have e := gt_clamp h
  have l : x.toInt < 2147483648 := Int32.toInt_lt x
  exact Int32.toInt_inj.mp (by rw [nI_toInt (by omega)]; omega)
theorem gt_ir {x : Int32} {b : Nat} (h : 0 ≤ x.toInt) (h2 : x.toInt ≤ b) : gIr x b := ⟨x.toNatClampNeg, by have := gt_clamp h; omega, gt_nI h⟩
theorem gIr.ti {x : Int32} {b : Nat} (h : gIr x b) (hb : b < 2 ^ 31) : 0 ≤ x.toInt ∧ x.toInt ≤ b := by
  obtain ⟨n, h1, rfl⟩ := h
  rw [nI_toInt (by omega)]; omega
theorem gt_eq {x : Int32} {k : Nat} (h : x.toInt = k) : x = nI k := by
  have l : x.toInt < 2147483648 := Int32.toInt_lt x
  exact Int32.toInt_inj.mp (by rw [nI_toInt (by omega)]; omega)
/-- side 0: its numbers, its row, what of it is known, what is still to be cut -/
def kR0 (M : gMd) (Q : Int32 × List Int32 → Prop) (kr : Int) : Prop :=
  (0 ≤ M.z 0 ∧ M.z 0 ≤ 1) ∧ (0 ≤ M.z 1 ∧ M.z 1 ≤ 1) ∧ (1 ≤ M.z 2 ∧ M.z 2 ≤ 255) ∧ (0 ≤ M.z 4 ∧ M.z 4 ≤ M.z 3 ∧ M.z 3 ≤ 60) ∧ (-1 ≤ M.z 5 ∧ M.z 5 ≤ 1) ∧
  (0 ≤ M.z 5 → M.z 5 = M.z 0 ∧ 0 ≤ M.z 7 ∧ M.z 4 + M.z 7 ≤ M.z 3 ∧ ((M.z 6 = 0 ∧ True) ∨ (M.z 6 = 1 ∧ 1 ≤ M.z 7 ∧ M.z 4 + M.z 7 < M.z 3))) ∧
  (0 ≤ M.z 8 ∧ M.z 8 ≤ 60) ∧ (-1 ≤ M.z 9 ∧ M.z 9 ≤ 3) ∧ (0 ≤ M.z 10 ∧ M.z 10 ≤ 255) ∧ (-1 ≤ M.z 14 ∧ M.z 14 ≤ 60) ∧
  (0 ≤ M.z 5 → ∀ k N a : Nat, ∀ f : Nat → Int32, (k : Int) = 64 * M.z 5 + 32 * M.z 6 → (N : Int) = M.z 7 → (a : Int) = M.z 4 → (∀ j, j < N → f j = M.a 4 (32 + a + j)) → Q (kB 0 (nI k) N f)) ∧
  (M.z 9 = 1 ∨ M.z 9 = 3 → ∀ k : Nat, ∀ f : Nat → Int32, (k : Int) = 192 + M.z 9 → f 0 = M.a 4 10 → Q (kB 0 (nI k) 1 f)) ∧
  0 ≤ kr ∧ (M.z 5 < 0 → 0 ≤ kr) ∧ (0 ≤ M.z 5 → 174 * (M.z 3 - M.z 4 - M.z 7) ≤ kr)
theorem kR0.cg {M M' : gMd} {Q : Int32 × List Int32 → Prop} {kr : Int} (h : ∀ q, (0 ≤ q ∧ q ≤ 10) ∨ q = 14 ∨ (32 ≤ q ∧ q < 92) → M'.a 4 q = M.a 4 q) (H : kR0 M Q kr) : kR0 M' Q kr := by
  obtain ⟨a1, a2, a3, a4, a5, a6, a7, a8, a9, a10, a11, a12, a13⟩ := H
  unfold kR0 gMd.z
  unfold gMd.z at a1 a2 a3 a4 a5 a6 a7 a8 a9 a10 a11 a12 a13
  rw [h 0 (by omega), h 1 (by omega), h 2 (by omega), h 3 (by omega), h 4 (by omega), h 5 (by omega), h 6 (by omega), h 7 (by omega), h 8 (by omega), h 9 (by omega), h 10 (by omega), h 14 (by omega)]
  refine ⟨a1, a2, a3, a4, a5, a6, a7, a8, a9, a10, fun p k N a f e1 e2 e3 e4 => a11 p k N a f e1 e2 e3 fun j hj => ?_, a12, a13⟩
  have := a6 p
  rw [e4 j hj, h (32 + a + j) (by omega)]
theorem kR0.mono {M : gMd} {Q Q' : Int32 × List Int32 → Prop} {kr : Int} (h : ∀ e, Q e → Q' e) (H : kR0 M Q kr) : kR0 M Q' kr := by
  obtain ⟨a1, a2, a3, a4, a5, a6, a7, a8, a9, a10, a11, a12, a13⟩ := H
  exact ⟨a1, a2, a3, a4, a5, a6, a7, a8, a9, a10, fun p k N a f e1 e2 e3 e4 => h _ (a11 p k N a f e1 e2 e3 e4), fun p k f e1 e2 => h _ (a12 p k f e1 e2), a13⟩
/-- side 1: its numbers, its row, what of it is known, what is still to be cut -/
def kR1 (M : gMd) (Q : Int32 × List Int32 → Prop) (kr : Int) : Prop :=
  (0 ≤ M.z 16 ∧ M.z 16 ≤ 1) ∧ (0 ≤ M.z 17 ∧ M.z 17 ≤ 1) ∧ (1 ≤ M.z 18 ∧ M.z 18 ≤ 255) ∧ (0 ≤ M.z 20 ∧ M.z 20 ≤ M.z 19 ∧ M.z 19 ≤ 60) ∧ (-1 ≤ M.z 21 ∧ M.z 21 ≤ 1) ∧
  (0 ≤ M.z 21 → M.z 21 = M.z 16 ∧ 0 ≤ M.z 23 ∧ M.z 20 + M.z 23 ≤ M.z 19 ∧ ((M.z 22 = 0 ∧ True) ∨ (M.z 22 = 1 ∧ 1 ≤ M.z 23 ∧ M.z 20 + M.z 23 < M.z 19))) ∧
  (0 ≤ M.z 24 ∧ M.z 24 ≤ 60) ∧ (-1 ≤ M.z 25 ∧ M.z 25 ≤ 3) ∧ (0 ≤ M.z 26 ∧ M.z 26 ≤ 255) ∧ (-1 ≤ M.z 30 ∧ M.z 30 ≤ 60) ∧
  (0 ≤ M.z 21 → ∀ k N a : Nat, ∀ f : Nat → Int32, (k : Int) = 64 * M.z 21 + 32 * M.z 22 → (N : Int) = M.z 23 → (a : Int) = M.z 20 → (∀ j, j < N → f j = M.a 4 (96 + a + j)) → Q (kB 1 (nI k) N f)) ∧
  (M.z 25 = 1 ∨ M.z 25 = 3 → ∀ k : Nat, ∀ f : Nat → Int32, (k : Int) = 192 + M.z 25 → f 0 = M.a 4 26 → Q (kB 1 (nI k) 1 f)) ∧
  0 ≤ kr ∧ (M.z 21 < 0 → 174 * (M.z 19 - M.z 20) ≤ kr) ∧ (0 ≤ M.z 21 → 174 * (M.z 19 - M.z 20 - M.z 23) ≤ kr)
theorem kR1.cg {M M' : gMd} {Q : Int32 × List Int32 → Prop} {kr : Int} (h : ∀ q, (16 ≤ q ∧ q ≤ 26) ∨ q = 30 ∨ (96 ≤ q ∧ q < 156) → M'.a 4 q = M.a 4 q) (H : kR1 M Q kr) : kR1 M' Q kr := by
  obtain ⟨a1, a2, a3, a4, a5, a6, a7, a8, a9, a10, a11, a12, a13⟩ := H
  unfold kR1 gMd.z
  unfold gMd.z at a1 a2 a3 a4 a5 a6 a7 a8 a9 a10 a11 a12 a13
  rw [h 16 (by omega), h 17 (by omega), h 18 (by omega), h 19 (by omega), h 20 (by omega), h 21 (by omega), h 22 (by omega), h 23 (by omega), h 24 (by omega), h 25 (by omega), h 26 (by omega), h 30 (by omega)]
  refine ⟨a1, a2, a3, a4, a5, a6, a7, a8, a9, a10, fun p k N a f e1 e2 e3 e4 => a11 p k N a f e1 e2 e3 fun j hj => ?_, a12, a13⟩
  have := a6 p
  rw [e4 j hj, h (96 + a + j) (by omega)]
theorem kR1.mono {M : gMd} {Q Q' : Int32 × List Int32 → Prop} {kr : Int} (h : ∀ e, Q e → Q' e) (H : kR1 M Q kr) : kR1 M Q' kr := by
  obtain ⟨a1, a2, a3, a4, a5, a6, a7, a8, a9, a10, a11, a12, a13⟩ := H
  exact ⟨a1, a2, a3, a4, a5, a6, a7, a8, a9, a10, fun p k N a f e1 e2 e3 e4 => h _ (a11 p k N a f e1 e2 e3 e4), fun p k f e1 e2 => h _ (a12 p k f e1 e2), a13⟩
def kBy (M : gMd) : Prop := ∀ q, 32 ≤ q → q < 416 → gIr (M.a 4 q) 255
def kX (M : gMd) : Prop := (0 ≤ M.z 416 ∧ M.z 416 ≤ 3) ∧ (0 ≤ M.z 417 ∧ M.z 417 ≤ 255) ∧ (-1 ≤ M.z 418 ∧ M.z 418 ≤ 3 ∧ (0 ≤ M.z 418 → M.z 25 = -1)) ∧ (0 ≤ M.z 419 ∧ M.z 419 ≤ 4) ∧ (0 ≤ M.z 420 ∧ M.z 420 ≤ 2) ∧ ((¬ M.z 420 = 0 → M.z 5 = -1 ∧ M.z 9 = -1) ∧ (M.z 9 = 1 → M.z 5 = -1)) ∧ (¬ M.z 419 = 1 → M.z 420 = 0 ∧ (¬ M.z 419 = 4 → M.z 9 = -1)) ∧ (M.z 25 = 3 → M.a 4 417 = M.a 4 26)
/-- what the card's next messages are worth -/
def kCr (M : gMd) (cr : Int) : Prop := 0 ≤ cr ∧ (¬ M.z 24 = 0 → 10718 ≤ cr) ∧ (M.z 420 = 1 ∨ (0 ≤ M.z 5 ∧ M.z 9 < 0 ∧ (M.z 6 = 1 ∨ M.z 17 = M.z 0)) → 400 ≤ cr ∧ (2 ≤ M.z 3 → 10718 ≤ cr))
/-- the card's response to the reader's request -/
def kRr (M : gMd) (Q : Int32 × List Int32 → Prop) (rr : Int) : Prop := 0 ≤ rr ∧ ((M.z 420 = 2 → 800 ≤ rr) ∧ (M.z 420 = 1 → 174 * (M.z 3 - M.z 4) ≤ rr)) ∧ (M.z 9 = 1 → (∀ f : Nat → Int32, f 0 = M.a 4 10 → Q (kB 1 (nI 225) 1 f)) ∨ 400 ≤ rr)
/-- the reader's response to the card's -/
def kRc (M : gMd) (Q : Int32 × List Int32 → Prop) (rc : Int) : Prop := 0 ≤ rc ∧ (M.z 25 = 1 ∨ M.z 25 = 3 → (∀ k : Nat, ∀ f : Nat → Int32, (k : Int) = 224 + M.z 25 → f 0 = M.a 4 26 → Q (kB 0 (nI k) 1 f)) ∨ (kSp (224 + M.z 25) 1 (M.z 26) : Int) ≤ rc)
/-- what the card sends behind its request, or when it is silent no more -/
def kWc (M : gMd) (wc : Int) : Prop := 0 ≤ wc ∧ (M.z 25 = 3 → 174 * (M.z 30 - 3) ≤ wc) ∧ (M.z 25 = 1 → 226 ≤ wc) ∧ (0 ≤ M.z 418 → 226 ≤ wc)
theorem kX.cg {M M' : gMd}  (h : ∀ q, q = 5 ∨ q = 9 ∨ q = 25 ∨ q = 26 ∨ q = 416 ∨ q = 417 ∨ q = 418 ∨ q = 419 ∨ q = 420 → M'.a 4 q = M.a 4 q) (H : kX M ) : kX M'  := by
  unfold kX gMd.z
  unfold kX gMd.z at H
  rw [h 5 (by omega), h 9 (by omega), h 25 (by omega), h 26 (by omega), h 416 (by omega), h 417 (by omega), h 418 (by omega), h 419 (by omega), h 420 (by omega)]
  exact H
theorem kCr.cg {M M' : gMd} {cr : Int} (h : ∀ q, q = 0 ∨ q = 3 ∨ q = 5 ∨ q = 6 ∨ q = 9 ∨ q = 17 ∨ q = 24 ∨ q = 420 → M'.a 4 q = M.a 4 q) (H : kCr M cr) : kCr M' cr := by
  unfold kCr gMd.z
  unfold kCr gMd.z at H
  rw [h 0 (by omega), h 3 (by omega), h 5 (by omega), h 6 (by omega), h 9 (by omega), h 17 (by omega), h 24 (by omega), h 420 (by omega)]
  exact H
theorem kRr.cg {M M' : gMd} {Q : Int32 × List Int32 → Prop} {rr : Int} (h : ∀ q, q = 3 ∨ q = 4 ∨ q = 9 ∨ q = 10 ∨ q = 420 → M'.a 4 q = M.a 4 q) (H : kRr M Q rr) : kRr M' Q rr := by
  unfold kRr gMd.z
  unfold kRr gMd.z at H
  rw [h 3 (by omega), h 4 (by omega), h 9 (by omega), h 10 (by omega), h 420 (by omega)]
  exact H
theorem kRc.cg {M M' : gMd} {Q : Int32 × List Int32 → Prop} {rc : Int} (h : ∀ q, q = 25 ∨ q = 26 → M'.a 4 q = M.a 4 q) (H : kRc M Q rc) : kRc M' Q rc := by
  unfold kRc gMd.z
  unfold kRc gMd.z at H
  rw [h 25 (by omega), h 26 (by omega)]
  exact H
theorem kWc.cg {M M' : gMd} {wc : Int} (h : ∀ q, q = 25 ∨ q = 30 ∨ q = 418 → M'.a 4 q = M.a 4 q) (H : kWc M wc) : kWc M' wc := by
  unfold kWc gMd.z
  unfold kWc gMd.z at H
  rw [h 25 (by omega), h 30 (by omega), h 418 (by omega)]
  exact H
theorem kRr.mono {M : gMd} {Q Q' : Int32 × List Int32 → Prop} {rr : Int} (h : ∀ e, Q e → Q' e) (H : kRr M Q rr) : kRr M Q' rr :=
  ⟨H.1, H.2.1, fun p => (H.2.2 p).imp (fun a f e => h _ (a f e)) id⟩
theorem kRc.mono {M : gMd} {Q Q' : Int32 × List Int32 → Prop} {rc : Int} (h : ∀ e, Q e → Q' e) (H : kRc M Q rc) : kRc M Q' rc :=
  ⟨H.1, fun p => (H.2 p).imp (fun a k f e1 e2 => h _ (a k f e1 e2)) id⟩
theorem kR0.up {M : gMd} {Q : Int32 × List Int32 → Prop} {kr kr' : Int} (h : kr ≤ kr') (H : kR0 M Q kr) : kR0 M Q kr' := by
  obtain ⟨a1, a2, a3, a4, a5, a6, a7, a8, a9, a10, a11, a12, a13⟩ := H
  exact ⟨a1, a2, a3, a4, a5, a6, a7, a8, a9, a10, a11, a12, by omega, fun _ => by omega, fun p => Int.le_trans (a13.2.2 p) h⟩
theorem kBy.cg {M M' : gMd} (h : ∀ q, 32 ≤ q → q < 416 → M'.a 4 q = M.a 4 q) (H : kBy M) : kBy M' := fun q h1 h2 => by rw [h q h1 h2]; exact H q h1 h2
/-- the invariant, with what is set aside -/
def kI (M : gMd) (Q : Int32 × List Int32 → Prop) (kr kc cr rr rc wc : Int) : Prop := kR0 M Q kr ∧ kR1 M Q kc ∧ kBy M ∧ kX M ∧ kCr M cr ∧ kRr M Q rr ∧ kRc M Q rc ∧ kWc M wc
theorem kI.cg {M M' : gMd} {Q : Int32 × List Int32 → Prop} {kr kc cr rr rc wc : Int} (h : ∀ q, q < 421 → ¬ q = 11 → ¬ q = 12 → ¬ q = 13 → ¬ q = 27 → ¬ q = 28 → ¬ q = 29 → M'.a 4 q = M.a 4 q) (H : kI M Q kr kc cr rr rc wc) : kI M' Q kr kc cr rr rc wc :=
  ⟨H.1.cg fun q hq => h q (by omega) (by omega) (by omega) (by omega) (by omega) (by omega) (by omega), H.2.1.cg fun q hq => h q (by omega) (by omega) (by omega) (by omega) (by omega) (by omega) (by omega), H.2.2.1.cg fun q h1 h2 => h q (by omega) (by omega) (by omega) (by omega) (by omega) (by omega) (by omega), H.2.2.2.1.cg fun q hq => h q (by omega) (by omega) (by omega) (by omega) (by omega) (by omega) (by omega), H.2.2.2.2.1.cg fun q hq => h q (by omega) (by omega) (by omega) (by omega) (by omega) (by omega) (by omega), H.2.2.2.2.2.1.cg fun q hq => h q (by omega) (by omega) (by omega) (by omega) (by omega) (by omega) (by omega), H.2.2.2.2.2.2.1.cg fun q hq => h q (by omega) (by omega) (by omega) (by omega) (by omega) (by omega) (by omega), H.2.2.2.2.2.2.2.cg fun q hq => h q (by omega) (by omega) (by omega) (by omega) (by omega) (by omega) (by omega)⟩
theorem kI.mono {M : gMd} {Q Q' : Int32 × List Int32 → Prop} {kr kc cr rr rc wc : Int} (h : ∀ e, Q e → Q' e) (H : kI M Q kr kc cr rr rc wc) : kI M Q' kr kc cr rr rc wc :=
  ⟨H.1.mono h, H.2.1.mono h, H.2.2.1, H.2.2.2.1, H.2.2.2.2.1, H.2.2.2.2.2.1.mono h, H.2.2.2.2.2.2.1.mono h, H.2.2.2.2.2.2.2⟩
/-- what a send wants of the rest -/
def kK (M : gMd) (l : Nat) (E : List (Int32 × List Int32)) : Prop := gSr M ∧ M.a 4 423 = nI l ∧ l < 1000000000 ∧ (M.f 19 = 0 → gUn M E ∧ gLg M ∧ E.length < 8192 ∧ gOf E E.length + 64 ≤ 131072)
theorem kK.sk {M : gMd} {l k N : Nat} {E : List (Int32 × List Int32)} {x n : Int32} (H : kK M l E) (ex : x = nI k) (en : n = nI N) (hk : k ≤ 255) (hN : N ≤ 60) (hb : ∀ q, q < N → gIr (M.a 14 q) 255) : gSk M x n l E := by
  subst ex en
  exact ⟨H.1, ⟨k, hk, rfl⟩, ⟨N, hN, rfl⟩, fun q hq => hb q (by rw [nI_clamp (by omega)] at hq; exact hq), H.2.1, H.2.2.1, H.2.2.2⟩
theorem kK.cg {M M' : gMd} {l : Nat} {E : List (Int32 × List Int32)} (h1 : M'.f 9 = M.f 9) (h2 : M'.f 12 = M.f 12) (h3 : M'.f 13 = M.f 13) (h4 : M'.f 18 = M.f 18) (h5 : M'.f 19 = M.f 19) (ha : ∀ i q, i = 6 ∨ i = 8 ∨ i = 9 ∨ i = 11 → M'.a i q = M.a i q) (h : ∀ q, q = 423 ∨ 430 ≤ q → M'.a 4 q = M.a 4 q) (H : kK M l E) : kK M' l E := by
  obtain ⟨⟨b1, b2, b3⟩, b4, b5, b6⟩ := H
  refine ⟨⟨?_, ?_, ?_⟩, ?_, b5, fun p => ?_⟩
  · rw [h 430 (by omega)]; exact b1
  · intro k hk
    rw [h 430 (by omega)] at hk
    rw [h (431 + 3 * k + 1) (by omega), h (431 + 3 * k + 2) (by omega)]
    exact b2 k hk
  · rw [h1]; exact b3
  · rw [h 423 (by omega)]; exact b4
  · rw [h5] at p
    obtain ⟨⟨u1, u2, u3, u4, u5, u6⟩, lg, c1, c2⟩ := b6 p
    refine ⟨⟨by rw [h4]; exact u1, fun i hi => by rw [ha 8 i (by omega)]; exact u2 i hi, fun i hi => by rw [ha 9 i (by omega)]; exact u3 i hi, fun i k hi hk => by rw [ha 11 _ (by omega)]; exact u4 i k hi hk, u5, u6⟩, lg.kept h2 h3 fun q => ha 6 q (by omega), c1, c2⟩
theorem kK.put {M : gMd} {l j : Nat} {E : List (Int32 × List Int32)} {x : Int32} (hj : ¬ j = 423) (hj2 : j < 430) (H : kK M l E) : kK (M.put 4 j x) l E :=
  kK.cg (M := M) (M' := M.put 4 j x) rfl rfl rfl rfl rfl (fun i q hi => gput_o (by omega)) (fun q hq => gput_n (by omega)) H
theorem kK.arr {M : gMd} {l : Nat} {E : List (Int32 × List Int32)} {g : Nat → Int32} (hg : ∀ q, q = 423 ∨ 430 ≤ q → g q = M.a 4 q) (H : kK M l E) : kK (M.arr 4 g) l E :=
  kK.cg (M := M) (M' := M.arr 4 g) rfl rfl rfl rfl rfl (fun i q hi => garr_o (by omega)) (fun q hq => garr_s.trans (hg q hq)) H
theorem kK.cpy {M : gMd} {l i j n : Nat} {E : List (Int32 × List Int32)} {g : Nat → Int32} (hn : i + n ≤ 423) (H : kK M l E) : kK (M.arr 4 (gCpy (M.a 4) i g j n)) l E :=
  H.arr fun q hq => gCpy_out (by omega)
theorem kK.arro {M : gMd} {l i : Nat} {E : List (Int32 × List Int32)} {g : Nat → Int32} (hi : 12 ≤ i) (H : kK M l E) : kK (M.arr i g) l E :=
  kK.cg (M := M) (M' := M.arr i g) rfl rfl rfl rfl rfl (fun i' q hi' => garr_o (by omega)) (fun q hq => garr_o (by omega)) H
theorem kK.puto {M : gMd} {l i j : Nat} {E : List (Int32 × List Int32)} {x : Int32} (hi : 12 ≤ i) (H : kK M l E) : kK (M.put i j x) l E :=
  kK.cg (M := M) (M' := M.put i j x) rfl rfl rfl rfl rfl (fun i' q hi' => gput_o (by omega)) (fun q hq => gput_o (by omega)) H
theorem kK.set {M : gMd} {l j : Nat} {E : List (Int32 × List Int32)} {x : Int32} (hj : 20 ≤ j) (H : kK M l E) : kK (M.set j x) l E :=
  kK.cg (M := M) (M' := M.set j x) (gset_n (by omega)) (gset_n (by omega)) (gset_n (by omega)) (gset_n (by omega)) (gset_n (by omega)) (fun i q hi => rfl) (fun q hq => rfl) H
