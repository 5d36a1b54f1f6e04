/-! the reference: its record (by program: wip/p2/m_mworld.py) -/
/-- the reference: its ints by field, its arrays by number -/
def gMd : Type := (Nat → Int32) × (Nat → Nat → Int32)
def gMd.f (M : gMd) (k : Nat) : Int32 := M.1 k
def gMd.a (M : gMd) (i j : Nat) : Int32 := M.2 i j
def gMd.set (M : gMd) (k : Nat) (x : Int32) : gMd := (fun j => if j = k then x else M.1 j, M.2)
def gMd.put (M : gMd) (i j : Nat) (x : Int32) : gMd := (M.1, fun i' => if i' = i then upd (M.2 i) j x else M.2 i')
def gMd.arr (M : gMd) (i : Nat) (g : Nat → Int32) : gMd := (M.1, fun i' => if i' = i then g else M.2 i')
def gMsz (i : Nat) : Nat := [96, 9, 9, 15, 772, 772, 180, 7740, 8193, 8192, 8192, 131072, 260, 260, 256, 64].getD i 0
def gMC (M : gMd) : gA := .inr (.inr (8, [.ref 123, .int (M.f 1), .int (M.f 2), .int (M.f 3), .ref 124, .ref 125, .ref 126, .ref 127, .ref 128, .int (M.f 9), .ref 129, .ref 130, .int (M.f 12), .int (M.f 13), .ref 131, .ref 132, .ref 133, .ref 134, .int (M.f 18), .int (M.f 19), .int (M.f 20), .int (M.f 21), .int (M.f 22), .int (M.f 23), .int (M.f 24), .ref 135, .int (M.f 26), .ref 136, .int (M.f 28), .int (M.f 29), .int (M.f 30), .int (M.f 31), .ref 137, .int (M.f 33), .int (M.f 34), .int (M.f 35), .int (M.f 36), .ref 138, .int (M.f 38)]))
def gMod (hp : List gA) (M : gMd) : Prop := hp[122]? = some (gMC M) ∧ ∀ i, i < 16 → hp[123 + i]? = some (.inl (gMsz i, M.a i))
def gFM (hp h : List gA) : Prop := h.length = hp.length ∧ ∀ k, (k < 122 ∨ 139 ≤ k) → h[k]? = hp[k]?
theorem gFM.rf {hp : List gA} : gFM hp hp := ⟨rfl, fun _ _ => rfl⟩
theorem gFM.trans {hp h h' : List gA} (a : gFM hp h) (b : gFM h h') : gFM hp h' := ⟨b.1.trans a.1, fun k hk => (b.2 k hk).trans (a.2 k hk)⟩
theorem gMod.ar {hp : List gA} {M : gMd} {i n : Nat} (H : gMod hp M) (hi : i < 16) (hn : gMsz i = n) : hp[123 + i]? = some (.inl (n, M.a i)) := by
  subst hn; exact H.2 i hi
section GMD
variable {X : gX} {q : Nat} {ls : List (Option Value)} {st : List Value} {hp : List gA} {cl sl : Nat} {M : gMd}
theorem gMput {j : Nat} {x : Int32} {e : gA} (H : gMod hp M) (he : e = gMC (M.set j x)) (kk : ∀ h, gMod h (M.set j x) → gFM hp h → gG X q ls st h cl sl) : gG X q ls st (hp.set 122 e) cl sl := by
  subst he
  exact kk _ ⟨gset_self H.1, fun i hi => (List.getElem?_set_ne (by omega)).trans (H.2 i hi)⟩ ⟨List.length_set, fun k hk => List.getElem?_set_ne (by omega)⟩
theorem gMod.arr {i : Nat} {g : Nat → Int32} (H : gMod hp M) (hi : i < 16) : gMod (hp.set (123 + i) (.inl (gMsz i, g))) (M.arr i g) ∧ gFM hp (hp.set (123 + i) (.inl (gMsz i, g))) := by
  refine ⟨⟨(List.getElem?_set_ne (by omega)).trans H.1, fun k hk => ?_⟩, List.length_set, fun k hk => List.getElem?_set_ne (by omega)⟩
  by_cases e : k = i
  · subst e
    rw [gset_self (H.2 k hk)]
    show _ = some (Sum.inl (gMsz k, if k = k then g else M.2 k))
    rw [if_pos rfl]
  · rw [List.getElem?_set_ne (by omega), H.2 k hk]
    show _ = some (Sum.inl (gMsz k, if k = i then g else M.2 k))
    rw [if_neg e]; rfl
theorem gMsto {i j k n : Nat} {x : Int32} (H : gMod hp M) (hi : i < 16) (hk : k = 123 + i) (hn : gMsz i = n) (kk : ∀ h, gMod h (M.put i j x) → gFM hp h → gG X q ls st h cl sl) : gG X q ls st (hp.set k (.inl (n, upd (M.a i) j x))) cl sl := by
  subst hk; subst hn
  have z := H.arr (g := upd (M.a i) j x) hi
  exact kk _ z.1 z.2
end GMD
theorem gset_a {M : gMd} {i j k : Nat} {x : Int32} : (M.set j x).a i k = M.a i k := rfl
theorem gput_f {M : gMd} {i j k : Nat} {x : Int32} : (M.put i j x).f k = M.f k := rfl
theorem gset_s {M : gMd} {j : Nat} {x : Int32} : (M.set j x).f j = x := if_pos rfl
theorem gset_n {M : gMd} {j k : Nat} {x : Int32} (h : ¬ k = j) : (M.set j x).f k = M.f k := if_neg h
theorem gput_s {M : gMd} {i j : Nat} {x : Int32} : (M.put i j x).a i j = x := by
  show (if i = i then upd (M.2 i) j x else M.2 i) j = x
  rw [if_pos rfl]; exact pk_us
theorem gput_n {M : gMd} {i j k : Nat} {x : Int32} (h : ¬ k = j) : (M.put i j x).a i k = M.a i k := by
  show (if i = i then upd (M.2 i) j x else M.2 i) k = M.2 i k
  rw [if_pos rfl]; exact pk_un h
theorem gput_o {M : gMd} {i i' j k : Nat} {x : Int32} (h : ¬ i' = i) : (M.put i j x).a i' k = M.a i' k := by
  show (if i' = i then upd (M.2 i) j x else M.2 i') k = M.2 i' k
  rw [if_neg h]
