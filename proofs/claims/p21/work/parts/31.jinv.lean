/-! the journal's own invariant (wip/p1/m_jinv.py) -/
def gByt (l : List Int32) : Prop := ∀ x ∈ l, ∃ b, b < 256 ∧ x = nI b
/-- a block as it should be -/
def gBlk (b : List Int32) : Prop := 4 ≤ b.length ∧ b.length ≤ 64 ∧ gByt b ∧ b.getD 0 0 = 0 ∧ b.getD 2 0 = nI (b.length - 4) ∧ gxs b b.length = 0
def gEnt (e : List Int32) : Prop := ∃ y b, e = y :: b ∧ gBlk b
/-- N blocks noted, of Lt letters in all; E the unlike ones, T the letters of the latest -/
def gJw (J : gJr) (N Lt : Nat) (E : List (List Int32)) (T : List Nat) : Prop :=
  gJpre N J ∧ J.l 0 = E.flatten ∧ (J.l 1).length = E.length ∧ (∀ i, i < E.length → gat (J.l 1) (nI i) = nI ((E.take i).flatten.length)) ∧ (∀ e ∈ E, gEnt e) ∧
  (∀ i, i < E.length → ∃ t, t ≤ N ∧ gat (J.l 2) (nI i) = nI t) ∧ (J.l 5).length = min N 30 ∧ J.l 7 = T.map nI ∧ J.ne = (if N = 0 then -1 else nI ((N - 1) % 30)) ∧
  (∀ p, p < min N 30 → ∃ id, id < E.length ∧ gat (J.l 5) (nI p) = nI id ∧ (∃ t, 1 ≤ t ∧ t ≤ N ∧ gat (J.l 2) (nI id) = nI t) ∧ (E.getD id []).length ≤ T.getD p 0 + 1 ∧ T.getD p 0 ≤ 1000) ∧ (N < 30 → T.sum = Lt)
def gJv (J : gJr) (N Lt : Nat) : Prop := ∃ E T, gJw J N Lt E T
theorem gxs_all (l : List Int32) : gxs l l.length = l.foldl (· ^^^ ·) 0 := by unfold gxs; rw [List.take_length]
theorem gflat_at {E : List (List Int32)} {id k : Nat} (hid : id < E.length) (hk : k < (E.getD id []).length) : E.flatten.getD ((E.take id).flatten.length + k) 0 = (E.getD id []).getD k 0 := by
  induction E generalizing id with
  | nil => exact absurd hid (Nat.not_lt_zero _)
  | cons e E ih =>
    cases id with
    | zero =>
      have hk' : k < e.length := hk
      show (e ++ E.flatten).getD (0 + k) 0 = e.getD k 0
      rw [Nat.zero_add, List.getD_eq_getElem?_getD, List.getElem?_append_left hk', ← List.getD_eq_getElem?_getD]
    | succ id =>
      have hid' : id < E.length := by simpa using hid
      show (e ++ E.flatten).getD ((e :: E.take id).flatten.length + k) 0 = (E.getD id []).getD k 0
      rw [List.flatten_cons, List.length_append, List.getD_eq_getElem?_getD, List.getElem?_append_right (by omega), show e.length + (E.take id).flatten.length + k - e.length = (E.take id).flatten.length + k by omega, ← List.getD_eq_getElem?_getD]
      exact ih hid' hk
theorem gflat_le {E : List (List Int32)} {id : Nat} (hid : id < E.length) : (E.take id).flatten.length + (E.getD id []).length ≤ E.flatten.length := by
  induction E generalizing id with
  | nil => exact absurd hid (Nat.not_lt_zero _)
  | cons e E ih =>
    cases id with
    | zero => show 0 + e.length ≤ (e ++ E.flatten).length; rw [List.length_append]; omega
    | succ id =>
      have hid' : id < E.length := by simpa using hid
      have := ih hid'
      show (e :: E.take id).flatten.length + (E.getD id []).length ≤ (e ++ E.flatten).length
      rw [List.flatten_cons, List.length_append, List.length_append]; omega
theorem gE_mem {E : List (List Int32)} {id : Nat} (hid : id < E.length) : E.getD id [] ∈ E := by
  rw [List.getD_eq_getElem?_getD, List.getElem?_eq_getElem hid]; exact List.getElem_mem hid
/-- the place of the i-th entry -/
theorem gplace {J : gJr} {N Lt : Nat} {E : List (List Int32)} {T : List Nat} (H : gJw J N Lt E T) {i : Nat} (hi : i < min N 30) : ∃ p, p < min N 30 ∧ jX1_placeOf J (nI i) = nI p ∧ (N < 30 → p = N - 1 - i) := by
  have hne := H.2.2.2.2.2.2.2.2.1
  rw [if_neg (by omega)] at hne
  unfold jX1_placeOf
  rw [hne]
  have hm := Nat.mod_lt (N - 1) (show 0 < 30 by decide)
  by_cases h : i ≤ (N - 1) % 30
  · rw [pk_sub h, if_pos (nI_pos' (by omega))]
    exact ⟨(N - 1) % 30 - i, by omega, rfl, fun h9 => by omega⟩
  · have e : nI ((N - 1) % 30) - nI i + 30 = nI ((N - 1) % 30 + 30 - i) := by
      have e1 : nI ((N - 1) % 30) - nI i + 30 = (nI ((N - 1) % 30) + 30) - nI i := by
        rw [Int32.sub_eq_add_neg, Int32.sub_eq_add_neg, Int32.add_assoc, Int32.add_comm (-nI i), ← Int32.add_assoc]
      rw [e1, show (30 : Int32) = nI 30 from rfl, nI_add, pk_sub (by omega)]
    have neg : ¬ 0 ≤ nI ((N - 1) % 30) - nI i := by
      rw [Int32.le_iff_toInt_le, pk_sub_toInt (by omega) (by omega), show (0 : Int32).toInt = 0 from by decide]
      omega
    rw [if_neg neg, e]
    exact ⟨(N - 1) % 30 + 30 - i, by omega, rfl, fun h9 => by omega⟩
/-- what the i-th entry of the log tells -/
theorem gtells {J : gJr} {N Lt : Nat} {E : List (List Int32)} {T : List Nat} (H : gJw J N Lt E T) (hN : N ≤ 15000) {i : Nat} (hi : i < min N 30) :
    ∃ (p : Nat) (y : Int32) (b : List Int32) (t : Nat), p < min N 30 ∧ (N < 30 → p = N - 1 - i) ∧ gBlk b ∧ jX1_tell J (nI i) 1 = b.getD 1 0 ∧ jX1_tell J (nI i) 2 = nI (b.length - 4) ∧ jX1_tell J (nI i) 4 = nI (T.getD p 0) ∧ b.length ≤ T.getD p 0 ∧ T.getD p 0 ≤ 1000 ∧ 1 ≤ t ∧ t ≤ N ∧ jX1_tell J (nI i) 5 = nI t ∧ (∀ k, k < b.length → jX1_byteAt J (nI i) (nI k) = b.getD k 0) ∧ jX1_byteAt J (nI i) (nI b.length) = -1 := by
  obtain ⟨p, hp, ep, hpN⟩ := gplace H hi
  obtain ⟨P, e0, e1, e2, e3, e4, e5, e7, ene, e6, es⟩ := H
  obtain ⟨id, hid, f5, ⟨t, ht1, ht2, ft⟩, fl, fb⟩ := e6 p hp
  obtain ⟨y, b, eE, hb⟩ := e3 _ (gE_mem hid)
  have hS := gflat_le hid
  have l0 : (J.l 0).length = E.flatten.length := by rw [e0]
  have l0b : E.flatten.length ≤ 65 * 15000 := by have := P.2.2.2.1; have := P.1; omega
  have eEl : (E.getD id []).length = b.length + 1 := by rw [eE]; rfl
  have b4 := hb.1
  have at_ : ∀ k, k < b.length + 1 → gat (J.l 0) (nI ((E.take id).flatten.length + k)) = (y :: b).getD k 0 := by
    intro k hk
    rw [e0, gat_nI (by omega), gflat_at hid (by omega), eE]
  have st : gat (J.l 1) (gat (J.l 5) (jX1_placeOf J (nI i))) = nI ((E.take id).flatten.length) := by rw [ep, f5, e2 id hid]
  have len : gat (J.l 0) (nI ((E.take id).flatten.length) + 3) = nI (b.length - 4) := by
    rw [show (3 : Int32) = nI 3 from rfl, nI_add, at_ 3 (by omega)]; exact hb.2.2.2.2.1
  have l7 : (J.l 7).length = min N 30 := by rw [P.2.2.2.2.2.2.2.2]; exact e5
  have tl : T.length = min N 30 := by rw [e7, List.length_map] at l7; exact l7
  refine ⟨p, y, b, t, hp, hpN, hb, ?_, ?_, ?_, by omega, fb, ht1, ht2, ?_, ?_, ?_⟩
  · unfold jX1_tell
    rw [if_neg (by decide), if_pos rfl, st, show (2 : Int32) = nI 2 from rfl, nI_add, at_ 2 (by omega)]; rfl
  · unfold jX1_tell
    rw [if_neg (by decide), if_neg (by decide), if_pos rfl, st, len]
  · unfold jX1_tell
    rw [if_neg (by decide), if_neg (by decide), if_neg (by decide), if_neg (by decide), if_pos rfl, ep, e7, gat_nI (by omega), List.getD_eq_getElem?_getD, List.getElem?_map, List.getElem?_eq_getElem (by omega), List.getD_eq_getElem?_getD, List.getElem?_eq_getElem (by omega)]; rfl
  · unfold jX1_tell
    rw [if_neg (by decide), if_neg (by decide), if_neg (by decide), if_neg (by decide), if_neg (by decide), ep, f5, ft]
  · intro k hk
    unfold jX1_byteAt
    rw [if_neg (nI_pos (by have := hb.2.1; omega)), st, len, if_pos (by rw [show (4 : Int32) = nI 4 from rfl, nI_add]; exact nI_lt (by omega) (by have := hb.2.1; omega))]
    rw [show (1 : Int32) = nI 1 from rfl, nI_add, nI_add, show (E.take id).flatten.length + 1 + k = (E.take id).flatten.length + (k + 1) by omega, at_ (k + 1) (by omega)]; rfl
  · unfold jX1_byteAt
    rw [if_neg (nI_pos (by have := hb.2.1; omega)), st, len, if_neg (by rw [show (4 : Int32) = nI 4 from rfl, nI_add]; exact nI_nlt (by omega) (by have := hb.2.1; omega))]
