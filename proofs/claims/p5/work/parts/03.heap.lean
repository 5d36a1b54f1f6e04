/-! the heap: reads, writes, new cells; calls; a method's start and end -/
section GHP
variable {D : va_G} {cI cJ : ClassId} {b0 : Nat} {sa : Nat → Nat} {hp : List gA} {H H1 : Heap}
theorem gH_at {k : Nat} {e : gA} (h : gH D cI cJ b0 sa hp H) (ho : hp[k]? = some e) (hne : e ≠ gJunk) : va_at D vwCl (b0 + k, gce cI cJ b0 sa e) H := (h.2.1 k e ho hne).1
theorem gZ.kept {q : Nat} {e : gA} {H H1 : Heap} (h : gZ q e H) (o : H1[q]? = H[q]?) : gZ q e H1 := fun c hc => h c (o ▸ hc)
theorem gZ.i {q n : Nat} {f : Nat → Int32} {cI : ClassId} {H : Heap} (h : H[q]? = some (vp_cell cI (n, .inl f))) : gZ q (.inl (n, f)) H := fun c hc => by
  rw [h] at hc; cases hc; exact arrV_size _ _ _
theorem gZ.l {q n : Nat} {f : Nat → Int64} {cI : ClassId} {H : Heap} (h : H[q]? = some (vp_cell cI (n, .inr (.inl f)))) : gZ q (.inr (.inl (n, f))) H := fun c hc => by
  rw [h] at hc; cases hc; exact arrV_size _ _ _
theorem gJ1 {ci : Nat} {fs : List Value} {z : vw_C} (hc : vwCl[ci]? = some z) : (Sum.inr (Sum.inr (ci, fs)) : gA) ≠ gJunk := by
  intro h
  have h1 : ci = 1000 := by simp only [gJunk, Sum.inr.injEq, Prod.mk.injEq] at h; exact h.1
  subst h1
  simp [vwCl] at hc
theorem gJ2 {z : Nat × (Nat → Int32)} : (Sum.inl z : gA) ≠ gJunk := by intro h; unfold gJunk at h; cases h
theorem gJ3 {z : Nat × (Nat → Int64)} : (Sum.inr (Sum.inl z) : gA) ≠ gJunk := by intro h; unfold gJunk at h; cases h
theorem gH_set {k : Nat} {e : gA} (h : gH D cI cJ b0 sa hp H) (z : H1.size = H.size) (oq : ∀ q : Nat, q ≠ b0 + k → H1[q]? = H[q]?) (he : va_at D vwCl (b0 + k, gce cI cJ b0 sa e) H1) (hz : gZ (b0 + k) e H1) : gH D cI cJ b0 sa (hp.set k e) H1 := by
  refine ⟨by rw [z, h.1, List.length_set], fun j u hu hne => ?_, fun j hu cell hc => ?_⟩
  case refine_2 =>
    by_cases hj : j = k
    · subst hj
      have hlt : j < hp.length := by
        have := (List.getElem?_eq_some_iff.mp hu).1
        rwa [List.length_set] at this
      rw [List.getElem?_set_self hlt] at hu
      cases hu
      exact Nat.le_of_eq (hz cell hc)
    · rw [List.getElem?_set_ne (Ne.symm hj)] at hu
      exact h.2.2 j hu cell ((oq (b0 + j) (by omega)).symm.trans hc)
  by_cases hj : j = k
  · subst hj
    have hlt : j < hp.length := by
      have := (List.getElem?_eq_some_iff.mp hu).1
      rwa [List.length_set] at this
    rw [List.getElem?_set_self hlt] at hu
    cases hu
    exact ⟨he, hz⟩
  · rw [List.getElem?_set_ne (Ne.symm hj)] at hu
    exact ⟨(h.2.1 j u hu hne).1.kept (oq (b0 + j) (by omega)), (h.2.1 j u hu hne).2.kept (oq (b0 + j) (by omega))⟩
theorem gH_push {e : gA} (h : gH D cI cJ b0 sa hp H) (z : H1.size = H.size + 1) (oq : ∀ q : Nat, q < H.size → H1[q]? = H[q]?) (he : va_at D vwCl (b0 + hp.length, gce cI cJ b0 sa e) H1) (hzz : gZ (b0 + hp.length) e H1) : gH D cI cJ b0 sa (hp ++ [e]) H1 := by
  refine ⟨by rw [z, h.1, List.length_append]; simp; omega, fun j u hu hne => ?_, fun j hu cell hc => ?_⟩
  case refine_2 =>
    by_cases hj : j < hp.length
    · rw [List.getElem?_append_left hj] at hu
      exact h.2.2 j hu cell ((oq (b0 + j) (by rw [h.1]; omega)).symm.trans hc)
    · rw [List.getElem?_append_right (by omega)] at hu
      have hz : j - hp.length < 1 := (List.getElem?_eq_some_iff.mp hu).1
      have hj2 : j = hp.length := by omega
      subst hj2
      rw [Nat.sub_self] at hu
      cases hu
      exact Nat.le_of_eq (hzz cell hc)
  by_cases hj : j < hp.length
  · rw [List.getElem?_append_left hj] at hu
    exact ⟨(h.2.1 j u hu hne).1.kept (oq (b0 + j) (by rw [h.1]; omega)), (h.2.1 j u hu hne).2.kept (oq (b0 + j) (by rw [h.1]; omega))⟩
  · rw [List.getElem?_append_right (by omega)] at hu
    have hz : j - hp.length < 1 := (List.getElem?_eq_some_iff.mp hu).1
    have hj2 : j = hp.length := by omega
    subst hj2
    rw [Nat.sub_self] at hu
    cases hu
    exact ⟨he, hzz⟩
/-- cells of which nothing is told come -/
theorem gH_junk {j : Nat} (h : gH D cI cJ b0 sa hp H) (z : H1.size = H.size + j) (oq : ∀ q : Nat, q < H.size → H1[q]? = H[q]?) (hz : ∀ q : Nat, H.size ≤ q → ∀ cell, H1[q]? = some cell → cell.slots.size ≤ 6) : gH D cI cJ b0 sa (hp ++ List.replicate j gJunk) H1 := by
  refine ⟨by rw [z, h.1, List.length_append, List.length_replicate]; omega, fun i u hu hne => ?_, fun i hu cell hc => ?_⟩
  case refine_2 =>
    by_cases hi : i < hp.length
    · rw [List.getElem?_append_left hi] at hu
      exact h.2.2 i hu cell ((oq (b0 + i) (by rw [h.1]; omega)).symm.trans hc)
    · exact hz (b0 + i) (by rw [h.1]; omega) cell hc
  by_cases hi : i < hp.length
  · rw [List.getElem?_append_left hi] at hu
    exact ⟨(h.2.1 i u hu hne).1.kept (oq (b0 + i) (by rw [h.1]; omega)), (h.2.1 i u hu hne).2.kept (oq (b0 + i) (by rw [h.1]; omega))⟩
  · rw [List.getElem?_append_right (by omega)] at hu
    exact absurd (List.eq_of_mem_replicate (List.mem_of_getElem? hu)) hne
theorem gS_push {A : Nat → Prop} {H0 : Heap} {locs : List Loc} (h : va_S A H0 H locs) (z : H1.size = H.size + 1) (oq : ∀ q : Nat, q < H.size → H1[q]? = H[q]?) : va_S A H0 H1 locs :=
  ⟨Nat.le_trans h.1 (by omega), fun q h1 h2 => (oq q (Nat.lt_of_lt_of_le h1 h.1)).trans (h.2.1 q h1 h2), h.2.2⟩
end GHP
/-- a class of the world: its number, table, slots, types -/
def gK (ci : Nat) (RC : String) (T : u_T) (N : Nat) (tf : Nat → FieldType) : Prop :=
  vwCl[ci]? = some (RC, T, N) ∧ (∀ w ∈ u_ws RC T N, w ∈ gW) ∧ (∀ k, k < N → parseFieldDescriptor (T k).2.2.1 = some (tf k)) ∧ (∀ a, a < N → ∀ b, b < N → a ≠ b → (T a).2.1 ≠ (T b).2.1)
/-- a field's site: own class and pool number; class, place, type, final -/
def gF (own : String) (ix ci j : Nat) (ty : FieldType) (fin : Bool) : Prop :=
  ∃ (RC : String) (T : u_T) (N : Nat) (tf : Nat → FieldType), gK ci RC T N tf ∧ j < N ∧ Cond.fieldLink own ix (T j).1 (T j).2.1 (T j).2.2.1 ∈ gW ∧ tf j = ty ∧ (T j).2.2.2 = fin ∧ (fin = true → (T j).1 = own)
/-- a new object's site -/
def gNw (own : String) (ix ci n : Nat) (fs : List Value) : Prop :=
  ∃ (RC : String) (T : u_T) (tf : Nat → FieldType), gK ci RC T n tf ∧ Cond.classLink own ix RC ∈ gW ∧ Cond.instantiable RC n ∈ gW ∧ Cond.initialized RC ∈ gW ∧ (∀ j, j < n → defaultValue (tf j) = vp_V fs j) ∧ ∀ b0 sa, fs.map (gv b0 sa) = fs
section GR3
variable {X : gX} {own nm : String} {cc : ByteArray} {nL : Nat} {rm : Room} {pc q : Nat} {ls : List (Option Value)} {st : List Value} {hp : List gA} {cl sl : Nat}
theorem gC_hts (C : gC X own nm cc nL rm) {w : Cond} (h : w ∈ gW) : w.before (xa X) (xs X) = true := C.2.2.2.2.1 w h
theorem gC_K (C : gC X own nm cc nL rm) : va_K (xD X) vwCl [(xI X, .int), (xJ X, .long)] (xs X) := C.2.2.2.2.2.1
theorem gv_V (b0 : Nat) (sa : Nat → Nat) {fs : List Value} {j : Nat} {v : Value} (h : fs[j]? = some v) : (fs.map (gv b0 sa))[j]? = some (gv b0 sa v) := by rw [List.getElem?_map, h]; rfl
theorem g_getfield (C : gC X own nm cc nL rm) {ix ci j k : Nat} {ty : FieldType} {fin : Bool} {fs : List Value} {v : Value} (F : gF own ix ci j ty fin) (hd : decode cc pc = .ok (.getfield ix, 3)) (hq : pc + 3 = q) (ho : hp[k]? = some (.inr (.inr (ci, fs)))) (hv : fs[j]? = some v) (kk : gG X q ls (v :: st) hp cl sl) : gG X pc ls (.ref k :: st) hp cl sl := by
  subst hq
  obtain ⟨RC, T, N, tf, K, hj, hlink, -, -, -⟩ := F
  intro arr H locs hl hh hS
  have hP : va_P (xD X) vwCl [(xB X + k, .inr (ci, fs.map (gv (xB X) (xA X))))] H := by
    intro i z hz
    have hi : i < 1 := (List.getElem?_eq_some_iff.mp hz).1
    have : i = 0 := by omega
    subst this
    cases hz
    exact (hh.2.1 k _ ho (gJ1 K.1)).1
  exact va_get C.1 C.2.1 (fun w hw => gC_hts C hw) K.2.1 C.2.2.2.1 (gC_K C) hP 0 rfl K.1 j hj (gC_hts C hlink) (fun _ h9 => h9) (gv_V _ _ hv) hd (kk arr H locs hl hh hS)
theorem gv_nar {b0 : Nat} {sa : Nat → Nat} {ty : FieldType} {v : Value} (h1 : narrow ty v = v) (h2 : fits ty v = true) (h3 : ∀ z, v ≠ .float z) : narrow ty (gv b0 sa v) = gv b0 sa v ∧ fits ty (gv b0 sa v) = true := by
  cases v with
  | float z => exact absurd rfl (h3 z)
  | ref a => cases ty <;> simp [narrow, gv, fits] at h2 ⊢
  | _ => exact ⟨h1, h2⟩
theorem g_putfield (C : gC X own nm cc nL rm) {ix ci j k : Nat} {ty : FieldType} {fin : Bool} {fs : List Value} {v : Value} (F : gF own ix ci j ty fin) (hd : decode cc pc = .ok (.putfield ix, 3)) (hq : pc + 3 = q) (ho : hp[k]? = some (.inr (.inr (ci, fs)))) (hj2 : j < fs.length) (hfin : fin = false ∨ nm = "<init>") (h1 : narrow ty v = v) (h2 : fits ty v = true) (h3 : ∀ z, v ≠ .float z) (kk : gG X q ls st (hp.set k (.inr (.inr (ci, fs.set j v)))) cl sl) : gG X pc ls (v :: .ref k :: st) hp cl sl := by
  subst hq
  obtain ⟨RC, T, N, tf, K, hj, hlink, hty, hf, hdecl⟩ := F
  obtain ⟨n1, n2⟩ := gv_nar (b0 := xB X) (sa := xA X) h1 h2 h3
  intro arr H locs hl hh hS
  have hts := fun w hw => gC_hts C (w := w) hw
  have hin := K.2.1
  have hap := va_apart (own := own) hts hin tf K.2.2.1 K.2.2.2 (gC_K C) K.1
  obtain ⟨⟨r, e1, cell, q1, q2, q3, q4⟩, hzc⟩ := hh.2.1 k _ ho (gJ1 K.1)
  have hr : r = (RC, T, N) := Option.some.inj (e1.symm.trans K.1)
  subst hr
  obtain ⟨hSl, hfc, kC, hkC, hkind⟩ := (gC_K C).1 ci _ K.1
  obtain ⟨cf, kf, fi, f, hi, hsl⟩ := hSl j hj
  have hlay := hts _ (hin _ (u_in_lay hj))
  have hst := (u_facts hfc hkC (u_lays hts hin hj) hi).1
  have hpd : parseFieldDescriptor (T j).2.2.1 = some ty := by rw [← hty]; exact K.2.2.1 j hj
  have hl2 : j < (fs.map (gv (xB X) (xA X))).length := by rw [List.length_map]; exact hj2
  have fin_case : ∀ (H' : Heap), H'[xB X + k]? = some (cell.setSlot f.slot (gv (xB X) (xA X) v)) → H'.size = H.size → (∀ q, q ≠ xB X + k → H'[q]? = H[q]?) →
      W (xp X) (xl X) (xe X) (xR X) (xs X) (xm X) (xa X) (xb X) (xt X) (xc X) H' (locs ++ [⟨xB X + k, f.slot⟩]) cl sl (xQ X) (F0 (xm X) (pc + 3) arr (st.map (gv (xB X) (xA X)))) := by
    intro H' z1 z2 z3
    rw [hsl] at z1 ⊢
    refine kk arr H' _ hl (gH_set hh z2 z3 ?_ (fun c hc => by
      have e : c = cell.setSlot (xD X |>.2 ci j) (gv (xB X) (xA X) v) := Option.some.inj (hc.symm.trans z1)
      have h9 := hzc cell q1
      rw [e]
      show (cell.slots.setIfInBounds _ _).size = _
      rw [Array.size_setIfInBounds]; exact h9)) (hS.put z2 z3 (Nat.le_add_right _ _))
    refine ⟨_, K.1, ?_⟩
    show t_OB _ _ _ _ _ (vp_V ((fs.set j v).map (gv (xB X) (xA X))))
    rw [List.map_set]
    exact t_OB.to (V := updV (vp_V (fs.map (gv (xB X) (xA X)))) j (gv (xB X) (xA X) v)) ⟨_, z1, q2, q3, t_set q4 hap hj _⟩ (fun i _ => vp_updV_set hl2 _ i)
  cases hfb : (T j).2.2.2 with
  | false =>
    unfold u_lay at hlay
    rw [if_neg (by rw [hfb]; decide)] at hlay
    have h6 := u_store hfc hkC hkind hlay hi hpd n1 n2
    exact W.putK C.1 C.2.1 (f := f) ⟨C.2.2.2.1, hts _ hlink, ⟨_, _, _, hi⟩, hst⟩ (by rw [q2]; exact h6) q1 q3 (by rw [hsl]; exact k2_hasslot (q4 j hj)) rfl rfl hd fin_case
  | true =>
    unfold u_lay at hlay
    rw [if_pos hfb] at hlay
    have hft : fin = true := by rw [← hf]; exact hfb
    have hnm : (xt X).name = "<init>" := by
      rcases hfin with z | z
      · rw [hft] at z; cases z
      · rw [C.2.2.2.2.2.2.2.2.2.1]; exact z
    have hcf : (xm X).cls = cf := by
      obtain ⟨_, _, c', _, _, _, -, -, hf', -, -, -, hown2, -⟩ := Cond.laysFinal_spec hlay
      have e1 : c' = cf := by have := hi.symm.trans hf'; simp at this; exact this.1.symm
      rw [hdecl hft] at hown2
      rw [← e1]; exact Option.some.inj (C.2.2.2.1.symm.trans hown2)
    have h6 := u_fits hfc hkC hkind (Or.inr hlay) hi hpd n1 n2
    exact W.putFinK C.1 C.2.1 C.2.2.2.1 (hts _ hlink) hi hst hcf hnm (by rw [q2]; exact h6) q1 q3 (by rw [hsl]; exact k2_hasslot (q4 j hj)) rfl rfl hd fin_case
theorem g_new (C : gC X own nm cc nL rm) {ix ci n k : Nat} {fs : List Value} (F : gNw own ix ci n fs) (hd : decode cc pc = .ok (.new ix, 3)) (hq : pc + 3 = q) (hk : hp.length = k) (h1 : cl + 1 ≤ rm.cells) (h2 : sl + n ≤ rm.slots) (kk : gG X q ls (.ref k :: st) (hp ++ [.inr (.inr (ci, fs))]) (cl + 1) (sl + n)) : gG X pc ls st hp cl sl := by
  subst hq; subst hk
  obtain ⟨RC, T, tf, K, hl1, hl2, hl3, hdv, hgv⟩ := F
  have hR := C.2.2.2.2.2.2.2.2.1
  intro arr H locs hl hh hS
  have hKn := (gC_K C).1 ci _ K.1
  refine W.newcK C.1 C.2.1 C.2.2.2.1 (gC_hts C hl1) (gC_hts C hl2) (gC_hts C hl3) rfl hd (by rw [hR]; exact h1) (by rw [hR]; exact h2) hKn.2.1 hh.1 fun H' kC hkC e1 z1 o1 => ?_
  refine kk arr H' locs hl (gH_push hh (by rw [z1, hh.1]) (by rw [hh.1]; exact o1) ?_ (fun c hc => by
    have e : c = _ := Option.some.inj (hc.symm.trans e1)
    obtain ⟨c2, k2, i1, i2, -, -, -, i6⟩ := Cond.instantiable_spec (gC_hts C hl2)
    have j1 : c2 = _ := Option.some.inj (i1.symm.trans hKn.2.1)
    subst j1
    have j2 : k2 = kC := Option.some.inj (i2.symm.trans hkC)
    subst j2
    rw [e]
    show (k2.instanceTypes.map defaultValue).size = ((vwCl[ci]?).map (fun r => r.2.2)).getD 6
    rw [Array.size_map, i6, K.1]; rfl)) (gS_push hS (by rw [z1, hh.1]) (by rw [hh.1]; exact o1))
  refine ⟨_, K.1, ?_⟩
  show t_OB _ _ _ _ _ (vp_V (fs.map (gv (xB X) (xA X))))
  rw [hgv]
  exact (u_born tf (fun w hw => gC_hts C hw) K.2.1 hKn hkC e1 K.2.2.1).to hdv
theorem g_newarray (C : gC X own nm cc nL rm) {n : Int32} {N k : Nat} (hw : Cond.arrayClass .int ∈ gW) (hd : decode cc pc = .ok (.newarray .int, 2)) (hq : pc + 2 = q) (hk : hp.length = k) (hn : ¬ n < 0) (hN : n.toNatClampNeg = N) (hb : N ≤ 100000000) (h1 : cl + 1 ≤ rm.cells) (h2 : sl + N ≤ rm.slots) (kk : gG X q ls (.ref k :: st) (hp ++ [.inl (N, fun _ => 0)]) (cl + 1) (sl + N)) : gG X pc ls (.int n :: st) hp cl sl := by
  subst hq; subst hk
  have hR := C.2.2.2.2.2.2.2.2.1
  intro arr H locs hl hh hS
  refine va_newaK (atype := .int) C.1 C.2.1 (gC_hts C hw) rfl hd rfl hn hN (by show N * 4 ≤ _; omega) (by rw [hR]; exact h1) (by rw [hR]; exact h2) hh.1 fun H' cA e1 z1 o1 hAr hNm => ?_
  have hA1 : H'[xB X + hp.length]? = some (vp_cell (xI X) (N, .inl (fun _ => 0))) := ?_
  · exact kk arr H' locs hl (gH_push hh (by rw [z1, hh.1]) (by rw [hh.1]; exact o1) hA1 (gZ.i hA1)) (gS_push hS (by rw [z1, hh.1]) (by rw [hh.1]; exact o1))
  have hc : xI X = cA := Option.some.inj (((gC_K C).2 0 _ rfl).2.symm.trans hNm)
  show H'[_]? = some (vp_cell (xI X) _)
  rw [hc]
  exact e1
theorem g_newarrayL (C : gC X own nm cc nL rm) {n : Int32} {N k : Nat} (hw : Cond.arrayClass .long ∈ gW) (hd : decode cc pc = .ok (.newarray .long, 2)) (hq : pc + 2 = q) (hk : hp.length = k) (hn : ¬ n < 0) (hN : n.toNatClampNeg = N) (hb : N ≤ 50000000) (h1 : cl + 1 ≤ rm.cells) (h2 : sl + N ≤ rm.slots) (kk : gG X q ls (.ref k :: st) (hp ++ [.inr (.inl (N, fun _ => 0))]) (cl + 1) (sl + N)) : gG X pc ls (.int n :: st) hp cl sl := by
  subst hq; subst hk
  have hR := C.2.2.2.2.2.2.2.2.1
  intro arr H locs hl hh hS
  refine va_newaK (atype := .long) C.1 C.2.1 (gC_hts C hw) rfl hd rfl hn hN (by show N * 8 ≤ _; omega) (by rw [hR]; exact h1) (by rw [hR]; exact h2) hh.1 fun H' cA e1 z1 o1 hAr hNm => ?_
  have hA1 : H'[xB X + hp.length]? = some (vp_cell (xJ X) (N, .inr (.inl (fun _ => 0)))) := ?_
  · exact kk arr H' locs hl (gH_push hh (by rw [z1, hh.1]) (by rw [hh.1]; exact o1) hA1 (gZ.l hA1)) (gS_push hS (by rw [z1, hh.1]) (by rw [hh.1]; exact o1))
  have hc : xJ X = cA := Option.some.inj (((gC_K C).2 1 _ rfl).2.symm.trans hNm)
  show H'[_]? = some (vp_cell (xJ X) _)
  rw [hc]
  exact e1
theorem gP1 {e : va_E} {k : Nat} {H : Heap} (h : va_at (xD X) vwCl (k, e) H) : va_P (xD X) vwCl [(k, e)] H := by
  intro i z hz
  have hi : i < 1 := (List.getElem?_eq_some_iff.mp hz).1
  have : i = 0 := by omega
  subst this
  cases hz
  exact h
theorem g_iaload (C : gC X own nm cc nL rm) {k n : Nat} {f : Nat → Int32} {i : Int32} (hd : decode cc pc = .ok (.iaload, 1)) (hq : pc + 1 = q) (ho : hp[k]? = some (.inl (n, f))) (hi : vp_in i n) (kk : gG X q ls (.int (f i.toNatClampNeg) :: st) hp cl sl) : gG X pc ls (.int i :: .ref k :: st) hp cl sl := by
  subst hq
  intro arr H locs hl hh hS
  exact va_iald C.1 C.2.1 (gC_K C) (gP1 (hh.2.1 k _ ho gJ2).1) 0 0 rfl rfl hi hd (kk arr H locs hl hh hS)
theorem g_laload (C : gC X own nm cc nL rm) {k n : Nat} {f : Nat → Int64} {i : Int32} (hd : decode cc pc = .ok (.laload, 1)) (hq : pc + 1 = q) (ho : hp[k]? = some (.inr (.inl (n, f)))) (hi : vp_in i n) (kk : gG X q ls (.long (f i.toNatClampNeg) :: st) hp cl sl) : gG X pc ls (.int i :: .ref k :: st) hp cl sl := by
  subst hq
  intro arr H locs hl hh hS
  exact va_lald C.1 C.2.1 (gC_K C) (gP1 (hh.2.1 k _ ho gJ3).1) 0 1 rfl rfl hi hd (kk arr H locs hl hh hS)
theorem g_arraylength (C : gC X own nm cc nL rm) {k n : Nat} {f : Nat → Int32} {v : Int32} (hd : decode cc pc = .ok (.arraylength, 1)) (hq : pc + 1 = q) (ho : hp[k]? = some (.inl (n, f))) (hv : Int32.ofNat n = v) (kk : gG X q ls (.int v :: st) hp cl sl) : gG X pc ls (.ref k :: st) hp cl sl := by
  subst hq
  intro arr H locs hl hh hS
  exact va_alen C.1 C.2.1 (gC_K C) (gP1 (hh.2.1 k _ ho gJ2).1) 0 0 rfl rfl hv hd (kk arr H locs hl hh hS)
theorem g_iastore (C : gC X own nm cc nL rm) {k n : Nat} {f : Nat → Int32} {i x : Int32} (hd : decode cc pc = .ok (.iastore, 1)) (hq : pc + 1 = q) (ho : hp[k]? = some (.inl (n, f))) (hi : vp_in i n) (kk : gG X q ls st (hp.set k (.inl (n, upd f i.toNatClampNeg x))) cl sl) : gG X pc ls (.int x :: .int i :: .ref k :: st) hp cl sl := by
  subst hq
  intro arr H locs hl hh hS
  refine W.iast C.1 C.2.1 (hh.2.1 k _ ho gJ2).1 (((gC_K C).2 0 _ rfl).1 n (fun j => .int (f j))) (fun z => by cases z) (by show ¬ (i < 0 ∨ (arrV _ _ _).slots.size ≤ _); rw [arrV_size]; exact hi) rfl rfl hd fun H1 e z oq => ?_
  have hA1 : H1[xB X + k]? = some (vp_cell (xI X) (n, .inl (upd f i.toNatClampNeg x))) := ?_
  · exact kk arr H1 _ hl (gH_set hh z oq hA1 (gZ.i hA1)) (hS.put z oq (Nat.le_add_right _ _))
  show H1[_]? = some (vp_cell _ _)
  rw [e]
  show some ((arrV (xI X) n (fun j => Value.int (f j))).setSlot _ _) = some (arrV (xI X) n (fun j => Value.int (upd f i.toNatClampNeg x j)))
  rw [arrV_store]
  congr 2
  funext z2
  by_cases hz : z2 = i.toNatClampNeg
  · subst hz; simp [updV, upd]
  · simp [updV, upd, hz]
theorem g_lastore (C : gC X own nm cc nL rm) {k n : Nat} {f : Nat → Int64} {i : Int32} {x : Int64} (hd : decode cc pc = .ok (.lastore, 1)) (hq : pc + 1 = q) (ho : hp[k]? = some (.inr (.inl (n, f)))) (hi : vp_in i n) (kk : gG X q ls st (hp.set k (.inr (.inl (n, vp_updL f i.toNatClampNeg x)))) cl sl) : gG X pc ls (.long x :: .int i :: .ref k :: st) hp cl sl := by
  subst hq
  intro arr H locs hl hh hS
  refine W.last C.1 C.2.1 (hh.2.1 k _ ho gJ3).1 (((gC_K C).2 1 _ rfl).1 n (fun j => .long (f j))) (fun z => by cases z) (by show ¬ (i < 0 ∨ (arrV _ _ _).slots.size ≤ _); rw [arrV_size]; exact hi) rfl rfl hd fun H1 e z oq => ?_
  have hA1 : H1[xB X + k]? = some (vp_cell (xJ X) (n, .inr (.inl (vp_updL f i.toNatClampNeg x)))) := ?_
  · exact kk arr H1 _ hl (gH_set hh z oq hA1 (gZ.l hA1)) (hS.put z oq (Nat.le_add_right _ _))
  show H1[_]? = some (vp_cell _ _)
  rw [e]
  show some ((arrV (xJ X) n (fun j => Value.long (f j))).setSlot _ _) = some (arrV (xJ X) n (fun j => Value.long (vp_updL f i.toNatClampNeg x j)))
  rw [arrV_store]
  congr 2
  funext z2
  by_cases hz : z2 = i.toNatClampNeg
  · subst hz; simp [updV, vp_updL]
  · simp [updV, vp_updL, hz]
theorem g_objInit (C : gC X own nm cc nL rm) {ix k : Nat} (hm : Cond.methodLink own ix objectInit ∈ gW) (hi : Cond.instanceMethod objectInit ∈ gW) (hcd : Cond.code objectInit ⟨#[0xb1]⟩ 1 none ∈ gW) (hd : decode cc pc = .ok (.invokespecial ix, 3)) (hq : pc + 3 = q) (hls : ls.length = nL) (hf : 1 ≤ rm.frames) (hl0 : (st.map fun v => v.category).sum + 12 ≤ rm.locals) (kk : gG X q ls st hp cl sl) : gG X pc ls (.ref k :: st) hp cl sl := by
  subst hq
  have hR := C.2.2.2.2.2.2.2.2.1
  intro arr H locs hl hh hS
  have hsz : (F0 (xm X) pc arr ((Value.ref k :: st).map (gv (xB X) (xA X)))).locals.size = (xc X).maxLocals := by rw [C.2.2.1, ← hls]; exact hl.1
  refine W.objInit C.1 C.2.1 C.2.2.2.1 (gC_hts C hm) (gC_hts C hi) (gC_hts C hcd) rfl hsz rfl hd (by rw [hR]; exact hf) ?_ (W.eq (g2 := F0 (xm X) (pc + 3) arr (st.map (gv (xB X) (xA X)))) rfl (kk arr H locs hl hh hS))
  rw [hR, List.map_map]
  have e : ((fun v => v.category) ∘ gv (xB X) (xA X)) = fun v : Value => v.category := by funext v; exact gv_cat _ _ v
  rw [e]
  have hm0 : (F0 (xm X) pc arr ((Value.ref k :: st).map (gv (xB X) (xA X)))).monitorRoom = 0 := by simp [JFrame.monitorRoom]
  rw [hm0]
  omega
end GR3
