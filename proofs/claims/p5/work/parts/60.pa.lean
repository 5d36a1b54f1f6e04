/-! the reference: the count of unlike blocks, by what each costs -/
theorem kXs_cg {z : Int32} {f g : Nat → Int32} {n : Nat} (h : ∀ j, j < n → f j = g j) : gXs z f n = gXs z g n := by
  induction n with
  | zero => rfl
  | succ n ih =>
    show gXs z f n ^^^ f n = gXs z g n ^^^ g n
    rw [ih (fun j hj => h j (by omega)), h n (by omega)]
theorem kBv_cg {x : Int32} {f g : Nat → Int32} {n i : Nat} (h : ∀ j, j < n → f j = g j) : gBv x n f i = gBv x n g i := by
  unfold gBv
  by_cases c0 : i = 0
  · rw [if_pos c0, if_pos c0]
  · rw [if_neg c0, if_neg c0]
    by_cases c1 : i = 1
    · rw [if_pos c1, if_pos c1]
    · rw [if_neg c1, if_neg c1]
      by_cases c2 : i = 2
      · rw [if_pos c2, if_pos c2]
      · rw [if_neg c2, if_neg c2]
        by_cases c3 : i < 3 + n
        · rw [if_pos c3, if_pos c3]; exact h (i - 3) (by omega)
        · rw [if_neg c3, if_neg c3]; exact kXs_cg h
/-- an entry of the unlike blocks -/
def kB (sd : Nat) (x : Int32) (n : Nat) (f : Nat → Int32) : Int32 × List Int32 := (nI sd, (List.range (n + 4)).map (gBv x n f))
theorem kB_cg {sd : Nat} {x : Int32} {f g : Nat → Int32} {n : Nat} (h : ∀ j, j < n → f j = g j) : kB sd x n f = kB sd x n g := by
  unfold kB
  rw [show gBv x n f = gBv x n g from funext fun i => kBv_cg h]
/-- what a block costs -/
def kSp (x : Int) (n : Nat) (w : Int) : Nat := if n = 0 then 0 else if 192 ≤ x then (if ((x = 195 ∨ x = 227) ∧ w = 1) ∨ ((x = 193 ∨ x = 225) ∧ w = 32) then 0 else 400) else if n = 1 then 200 else 174 * n + 52
def kSe (e : Int32 × List Int32) : Nat := kSp (e.2.getD 1 0).toInt (e.2.length - 4) (e.2.getD 3 0).toInt
def kSt : List (Int32 × List Int32) → Nat
  | [] => 0
  | e :: E => kSe e + kSt E
theorem kSt_app {E : List (Int32 × List Int32)} {e : Int32 × List Int32} : kSt (E ++ [e]) = kSt E + kSe e := by
  induction E with
  | nil => show kSe e + 0 = 0 + kSe e; omega
  | cons a E ih => show kSe a + kSt (E ++ [e]) = kSe a + kSt E + kSe e; rw [ih]; omega
theorem kMp {g : Nat → Int32} {m i : Nat} (h : i < m) : ((List.range m).map g).getD i 0 = g i := by
  rw [List.getD_eq_getElem?_getD, List.getElem?_map, List.getElem?_range h]; rfl
theorem kSe_B {sd n : Nat} {x : Int32} {f : Nat → Int32} : kSe (kB sd x n f) = kSp x.toInt n (f 0).toInt := by
  unfold kSe kB
  have e1 : (((nI sd, (List.range (n + 4)).map (gBv x n f)) : Int32 × List Int32).2.getD 1 0) = x := kMp (by omega)
  have e2 : ((nI sd, (List.range (n + 4)).map (gBv x n f)) : Int32 × List Int32).2.length - 4 = n := by
    show ((List.range (n + 4)).map (gBv x n f)).length - 4 = n
    rw [List.length_map, List.length_range]; omega
  rw [e1, e2]
  by_cases c : n = 0
  · unfold kSp; rw [if_pos c, if_pos c]
  · have e3 : (((nI sd, (List.range (n + 4)).map (gBv x n f)) : Int32 × List Int32).2.getD 3 0) = f 0 := (kMp (by omega)).trans (gBv_in (j := 0) (by omega))
    rw [e3]
/-- the kinds of blocks, by how many bytes they bring -/
def kKk (k n : Nat) : Prop := (n = 0 ∧ k ∈ [0, 64, 128, 129, 130, 144, 145, 146, 192, 194, 224, 226]) ∨ (n = 1 ∧ k ∈ [193, 195, 225, 227]) ∨ (1 ≤ n ∧ k ∈ [0, 32, 64, 96])
def kCn (e : Int32 × List Int32) : Prop := ∃ sd k n f, sd < 2 ∧ n ≤ 60 ∧ kKk k n ∧ (1 ≤ n → gIr (f 0) 255) ∧ e = kB sd (nI k) n f
def kFl : List (Int32 × List Int32) := [0, 1].flatMap fun sd => ([0, 64, 128, 129, 130, 144, 145, 146, 192, 194, 224, 226].map fun k => kB sd (nI k) 0 fun _ => 0) ++ ([(195, 1), (227, 1), (193, 32), (225, 32)].map fun p => kB sd (nI p.1) 1 fun _ => nI p.2)
def kOl : List (Int32 × List Int32) := [0, 1].flatMap fun sd => [0, 32, 64, 96].flatMap fun k => (List.range 256).map fun w => kB sd (nI k) 1 fun _ => nI w
theorem kFl_len : kFl.length = 32 := rfl
theorem kOl_len : kOl.length = 2048 := by
  unfold kOl
  simp only [List.flatMap_cons, List.flatMap_nil, List.append_nil, List.length_append, List.length_map, List.length_range]
theorem kCn.spl {e : Int32 × List Int32} (H : kCn e) : e ∈ kFl ∨ (e ∈ kOl ∧ 200 ≤ kSe e) ∨ 400 ≤ kSe e := by
  obtain ⟨sd, k, n, f, hs, hn, hk, hb, rfl⟩ := H
  have hsd : sd ∈ [0, 1] := by
    have : sd = 0 ∨ sd = 1 := by omega
    rcases this with rfl | rfl <;> simp
  rcases hk with ⟨rfl, hk⟩ | ⟨rfl, hk⟩ | ⟨h1, hk⟩
  · left
    refine List.mem_flatMap.mpr ⟨sd, hsd, List.mem_append_left _ (List.mem_map.mpr ⟨k, hk, ?_⟩)⟩
    exact kB_cg fun j hj => absurd hj (by omega)
  · obtain ⟨w, hw, ew⟩ := hb (by omega)
    have kk : k = 193 ∨ k = 195 ∨ k = 225 ∨ k = 227 := by simpa using hk
    have kt : (nI k).toInt = (k : Int) := nI_toInt (by omega)
    have wt : (nI w).toInt = (w : Int) := nI_toInt (by omega)
    by_cases c : ((k = 195 ∨ k = 227) ∧ w = 1) ∨ ((k = 193 ∨ k = 225) ∧ w = 32)
    · left
      refine List.mem_flatMap.mpr ⟨sd, hsd, List.mem_append_right _ (List.mem_map.mpr ⟨(k, w), ?_, ?_⟩)⟩
      · rcases c with ⟨rfl | rfl, rfl⟩ | ⟨rfl | rfl, rfl⟩ <;> simp
      · exact kB_cg fun j hj => by rw [show j = 0 by omega, ew]
    · right; right
      rw [kSe_B, ew, kt, wt]
      unfold kSp
      rw [if_neg (by omega), if_pos (by omega), if_neg (by omega)]
      exact Nat.le_refl _
  · right
    have kk : k = 0 ∨ k = 32 ∨ k = 64 ∨ k = 96 := by simpa using hk
    have kt : (nI k).toInt = (k : Int) := nI_toInt (by omega)
    by_cases c : n = 1
    · subst c
      obtain ⟨w, hw, ew⟩ := hb (by omega)
      left
      refine ⟨List.mem_flatMap.mpr ⟨sd, hsd, List.mem_flatMap.mpr ⟨k, hk, List.mem_map.mpr ⟨w, List.mem_range.mpr (by omega), ?_⟩⟩⟩, ?_⟩
      · exact kB_cg fun j hj => by rw [show j = 0 by omega, ew]
      · rw [kSe_B, kt]
        unfold kSp
        rw [if_neg (by omega), if_neg (by omega), if_pos rfl]
        exact Nat.le_refl _
    · right
      rw [kSe_B, kt]
      unfold kSp
      rw [if_neg (by omega), if_neg (by omega), if_neg c]
      omega
theorem kCn.len {e : Int32 × List Int32} (H : kCn e) : 174 * e.2.length ≤ 870 + kSe e := by
  obtain ⟨sd, k, n, f, hs, hn, hk, hb, rfl⟩ := H
  have el : (kB sd (nI k) n f).2.length = n + 4 := by
    show ((List.range (n + 4)).map _).length = n + 4
    rw [List.length_map, List.length_range]
  rw [el, kSe_B]
  unfold kSp
  by_cases c0 : n = 0
  · rw [if_pos c0]; omega
  · rw [if_neg c0]
    by_cases c1 : n = 1
    · omega
    · have kk : k = 0 ∨ k = 32 ∨ k = 64 ∨ k = 96 := by
        rcases hk with ⟨h, -⟩ | ⟨h, -⟩ | ⟨-, hk⟩
        · exact absurd h c0
        · exact absurd h c1
        · simpa using hk
      have kt : (nI k).toInt = (k : Int) := nI_toInt (by omega)
      rw [kt, if_neg (by omega), if_neg c1]
      omega
theorem kCount_0 {E : List (Int32 × List Int32)} (H : ∀ e, e ∈ E → kCn e) : 400 * E.length ≤ kSt E + 400 * (E.filter fun e => decide (e ∈ kFl)).length + 200 * (E.filter fun e => decide (e ∈ kOl)).length := by
  induction E with
  | nil => exact Nat.zero_le _
  | cons e E ih =>
    have i := ih fun a ha => H a (List.mem_cons_of_mem _ ha)
    have s := (H e List.mem_cons_self).spl
    have eS : kSt (e :: E) = kSe e + kSt E := rfl
    have eL : (e :: E).length = E.length + 1 := rfl
    have eF : ((e :: E).filter fun e => decide (e ∈ kFl)).length = (if e ∈ kFl then 1 else 0) + (E.filter fun e => decide (e ∈ kFl)).length := by
      rw [List.filter_cons]
      by_cases c : e ∈ kFl
      · rw [if_pos (by simpa using c), if_pos c, List.length_cons]; omega
      · rw [if_neg (by simpa using c), if_neg c]; omega
    have eO : ((e :: E).filter fun e => decide (e ∈ kOl)).length = (if e ∈ kOl then 1 else 0) + (E.filter fun e => decide (e ∈ kOl)).length := by
      rw [List.filter_cons]
      by_cases c : e ∈ kOl
      · rw [if_pos (by simpa using c), if_pos c, List.length_cons]; omega
      · rw [if_neg (by simpa using c), if_neg c]; omega
    rw [eS, eL, eF, eO]
    rcases s with s | ⟨s, s2⟩ | s
    · rw [if_pos s]; omega
    · rw [if_pos s]; omega
    · omega
theorem kCount {E : List (Int32 × List Int32)} (H : ∀ e, e ∈ E → kCn e) (nd : E.Nodup) : 400 * E.length ≤ kSt E + 422400 := by
  have h := kCount_0 H
  have a : (E.filter fun e => decide (e ∈ kFl)).length ≤ 32 := by
    rw [← kFl_len]
    exact List.Nodup.length_le_of_subset (nd.sublist List.filter_sublist) fun e he => by simpa using (List.mem_filter.mp he).2
  have b : (E.filter fun e => decide (e ∈ kOl)).length ≤ 2048 := by
    rw [← kOl_len]
    exact List.Nodup.length_le_of_subset (nd.sublist List.filter_sublist) fun e he => by simpa using (List.mem_filter.mp he).2
  omega
theorem kOf_sum {E : List (Int32 × List Int32)} (H : ∀ e, e ∈ E → kCn e) : ∀ i, i ≤ E.length → ∀ n, n = E.length - i → 174 * gOf E i ≤ 870 * i + kSt (E.take i) := by
  intro i
  induction i with
  | zero => intro _ _ _; exact Nat.zero_le _
  | succ i ih =>
    intro hi n _
    have h := ih (by omega) _ rfl
    have e1 : gOf E (i + 1) = gOf E i + (gEn E i).2.length := rfl
    have hg : gEn E i = E[i]'(by omega) := by
      unfold gEn
      rw [List.getD_eq_getElem?_getD, List.getElem?_eq_getElem (by omega)]; rfl
    have e2 : kSt (E.take (i + 1)) = kSt (E.take i) + kSe (gEn E i) := by
      rw [hg, List.take_succ_eq_append_getElem (by omega), kSt_app]
    have h2 := (H (gEn E i) (by rw [hg]; exact List.getElem_mem _)).len
    rw [e1, e2]; omega
theorem kOf_len {E : List (Int32 × List Int32)} (H : ∀ e, e ∈ E → kCn e) : 174 * gOf E E.length ≤ 870 * E.length + kSt E := by
  have h := kOf_sum H E.length (Nat.le_refl _) _ rfl
  rw [List.take_length] at h; exact h
/-- what 512 calls pay for -/
theorem kRoom {E : List (Int32 × List Int32)} (H : ∀ e, e ∈ E → kCn e) (nd : E.Nodup) (h : kSt E ≤ 2850816) : E.length < 8192 ∧ gOf E E.length + 64 ≤ 131072 := by
  have a := kCount H nd
  have b := kOf_len H
  omega
