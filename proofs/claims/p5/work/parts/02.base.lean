/-! THE ABSTRACT MACHINE: addresses relative to the first new cell, the whole world one list of cells; a rule an instruction -/
abbrev gA : Type := (Nat × (Nat → Int32)) ⊕ ((Nat × (Nat → Int64)) ⊕ (Nat × List Value))
def gv (b0 : Nat) (sa : Nat → Nat) : Value → Value
  | .ref k => .ref (b0 + k)
  | .float j => .ref (sa j.toNat)
  | .int x => .int x
  | .long x => .long x
  | .null => .null
  | v => v
def gce (cI cJ : ClassId) (b0 : Nat) (sa : Nat → Nat) : gA → va_E
  | .inl nf => .inl (cI, nf.1, .inl nf.2)
  | .inr (.inl nf) => .inl (cJ, nf.1, .inr (.inl nf.2))
  | .inr (.inr cf) => .inr (cf.1, cf.2.map (gv b0 sa))
/-- a cell of which nothing is told (an exception that was thrown) -/
def gJunk : gA := .inr (.inr (1000, []))
/-- how many slots a cell has -/
def gcs : gA → Nat
  | .inl nf => nf.1
  | .inr (.inl nf) => nf.1
  | .inr (.inr cf) => ((vwCl[cf.1]?).map (fun r => r.2.2)).getD 6
def gsz (hp : List gA) : Nat := (hp.map gcs).sum
def gZ (q : Nat) (e : gA) (H : Heap) : Prop := ∀ cell, H[q]? = some cell → cell.slots.size = gcs e
def gH (D : va_G) (cI cJ : ClassId) (b0 : Nat) (sa : Nat → Nat) (hp : List gA) (H : Heap) : Prop :=
  H.size = b0 + hp.length ∧ (∀ (k : Nat) (e : gA), hp[k]? = some e → e ≠ gJunk → va_at D vwCl (b0 + k, gce cI cJ b0 sa e) H ∧ gZ (b0 + k) e H) ∧ ∀ (k : Nat), hp[k]? = some gJunk → ∀ cell, H[b0 + k]? = some cell → cell.slots.size ≤ 6
def gL (b0 : Nat) (sa : Nat → Nat) (arr : Array Slot) (ls : List (Option Value)) : Prop :=
  arr.size = ls.length ∧ lv_wf arr ∧ ∀ (i : Nat) (v : Value), ls[i]? = some (some v) → arr[i]? = some (.val (gv b0 sa v))
def gW : List Cond := lw_tbl.filter goodWord
theorem gW_of {w : Cond} (h : w ∈ lw_tbl) (hg : goodWord w = true) : w ∈ gW := List.mem_filter.mpr ⟨h, hg⟩
theorem gW_good {w : Cond} (h : w ∈ gW) : (w.onTables && w.keeps) = true ∨ ∃ ty, w = .arrayClass ty := good_of_word (List.mem_filter.mp h).2
abbrev gX : Type := (Program × Launch × Env × Room) × (State × MethodId × Array Value × List Frame) × (Method × Code) × (va_G × ClassId × ClassId) × (Nat × (Nat → Nat)) × (State → Prop)
abbrev xp (X : gX) : Program := X.1.1
abbrev xl (X : gX) : Launch := X.1.2.1
abbrev xe (X : gX) : Env := X.1.2.2.1
abbrev xR (X : gX) : Room := X.1.2.2.2
abbrev xs (X : gX) : State := X.2.1.1
abbrev xm (X : gX) : MethodId := X.2.1.2.1
abbrev xa (X : gX) : Array Value := X.2.1.2.2.1
abbrev xb (X : gX) : List Frame := X.2.1.2.2.2
abbrev xt (X : gX) : Method := X.2.2.1.1
abbrev xc (X : gX) : Code := X.2.2.1.2
abbrev xD (X : gX) : va_G := X.2.2.2.1.1
abbrev xI (X : gX) : ClassId := X.2.2.2.1.2.1
abbrev xJ (X : gX) : ClassId := X.2.2.2.1.2.2
abbrev xB (X : gX) : Nat := X.2.2.2.2.1.1
abbrev xA (X : gX) : Nat → Nat := X.2.2.2.2.1.2
abbrev xQ (X : gX) : State → Prop := X.2.2.2.2.2
def gG (X : gX) (pc : Nat) (ls : List (Option Value)) (st : List Value) (hp : List gA) (cl sl : Nat) : Prop :=
  ∀ (arr : Array Slot) (H : Heap) (locs : List Loc), gL (xB X) (xA X) arr ls → gH (xD X) (xI X) (xJ X) (xB X) (xA X) hp H → va_S (fun q => xB X ≤ q) (xs X).heap H locs →
    W (xp X) (xl X) (xe X) (xR X) (xs X) (xm X) (xa X) (xb X) (xt X) (xc X) H locs cl sl (xQ X) (F0 (xm X) pc arr (st.map (gv (xB X) (xA X))))
/-- the nest mates' constructors that are called: by the Statement's words -/
def gNest : List (String × Nat × MethodName × String) := [(RX7, 20, yX1_init, RX7), (RX2, 25, yX6_init, RX7), (RX7, 36, yX0_init, RX7), (RX7, 43, yX3_init, RX7)]
def gNSE : String := "java/util/NoSuchElementException"
/-- the static tables: class, name, content -/
def gTabs : List (String × String × List Int32) := [("CardLinkModel", "TOLD", [0, 1, 2, 3, 4, 8, 11, 9, 5, 12, 13]), ("CardLink$ResetAnswer", "CLOCKS", [372, 372, 558, 744, 1116, 1488, 1860, 0, 0, 512, 768, 1024, 1536, 2048, 0, 0]), ("CardLink$ResetAnswer", "DIVISORS", [0, 1, 2, 4, 8, 16, 32, 64, 12, 20, 0, 0, 0, 0, 0, 0])]
def gTb (b0 : Nat) (U : State) : Prop := ∀ z ∈ gTabs, ∃ t : Nat, va_Z z.1 z.2.1 "[I" (.ref t) (fun q => b0 ≤ q) U U.heap ∧ t < U.heap.size ∧ ¬ b0 ≤ t ∧ va_X t z.2.2.length (fun k => z.2.2.getD k 0) U U.heap
theorem gTb.move {b0 : Nat} {u U : State} {H : Heap} (hvm : u.vm.Alike U.vm) (hq : ∀ a : Nat, a < u.heap.size → ¬ b0 ≤ a → H[a]? = u.heap[a]?) (hU : U.heap = H) (h : gTb b0 u) : gTb b0 U := fun z hz => by
  obtain ⟨t, h1, h2, h3, h4⟩ := h z hz
  have e : H[t]? = u.heap[t]? := hq t h2 h3
  refine ⟨t, by rw [hU]; exact va_Z.moved hvm (h1.kept hq), ?_, h3, by rw [hU]; exact va_X.moved hvm (h4.kept e)⟩
  obtain ⟨scr, q1, _⟩ := h4
  rw [hU]; exact (Array.getElem?_eq_some_iff.mp (e.trans q1)).1
/-- what else is carried along: the nest mates, the exception's class, Throwable's two statics, the tables -/
def gN (b0 : Nat) (U : State) : Prop := (∀ z ∈ gNest, va_Nw (.methodLinkNest z.1 z.2.1 z.2.2.1 z.2.2.2) U) ∧ va_Nw (.castable gNSE gNSE) U ∧
  vx_Zq Bundle.tN "UNASSIGNED_STACK" Bundle.steD (fun q => b0 ≤ q) U U.heap ∧ vx_Zq Bundle.tN "SUPPRESSED_SENTINEL" Bundle.listD (fun q => b0 ≤ q) U U.heap ∧ gTb b0 U
theorem gN.same {b0 : Nat} {u U : State} (h : u.vm = U.vm) (hh : U.heap = u.heap) (hN : gN b0 u) : gN b0 U :=
  ⟨fun z hz => va_Nw.same rfl h (hN.1 z hz), va_Nw.same rfl h hN.2.1, by rw [hh]; exact vx_Zq.moved (by rw [h]; exact Vm.Alike.refl _) hN.2.2.1, by rw [hh]; exact vx_Zq.moved (by rw [h]; exact Vm.Alike.refl _) hN.2.2.2.1, gTb.move (by rw [h]; exact Vm.Alike.refl _) (fun _ _ _ => rfl) hh hN.2.2.2.2⟩
theorem gN.warm {b0 : Nat} {s U : State} {H : Heap} {locs : List Loc} (hW : s.WarmedH U.vm) (hS : va_S (fun q => b0 ≤ q) s.heap H locs) (hU : U.heap = H) (hN : gN b0 s) : gN b0 U :=
  ⟨fun z hz => va_Nw.warmM hW (hN.1 z hz), va_Nw.warmC hW hN.2.1, by rw [hU]; exact vx_Zq.moved hW.alike (hN.2.2.1.kept hS.2.1), by rw [hU]; exact vx_Zq.moved hW.alike (hN.2.2.2.1.kept hS.2.1), gTb.move hW.alike hS.2.1 hU hN.2.2.2.2⟩
/-- what is known of the method that runs: the machine, its code, its class, the tables' words, the classes, its room -/
def gC (X : gX) (own nm : String) (cc : ByteArray) (nL : Nat) (rm : Room) : Prop :=
  (xp X).tables.exec = Jvm.exec ∧ (xc X).code = cc ∧ (xc X).maxLocals = nL ∧ (xs X).vm.findClass own = some (xm X).cls ∧ (∀ w ∈ gW, w.before (xa X) (xs X) = true) ∧
  va_K (xD X) vwCl [(xI X, .int), (xJ X, .long)] (xs X) ∧ xB X ≤ (xs X).heap.size ∧ (xt X).locks = false ∧ xR X = rm ∧ (xt X).name = nm ∧ gN (xB X) (xs X)
section GR
variable {X : gX} {own nm : String} {cc : ByteArray} {nL : Nat} {rm : Room} {pc q : Nat} {ls : List (Option Value)} {st : List Value} {hp : List gA} {cl sl : Nat}

theorem g_iconst (C : gC X own nm cc nL rm) {n : Int} {v : Int32} (hd : decode cc pc = .ok (.iconst n, 1)) (hv : Int32.ofInt n = v) (hq : pc + 1 = q) (k : gG X q ls (.int v :: st) hp cl sl) : gG X pc ls (st) hp cl sl := by
  subst hq; exact fun arr H locs hl hh hS => lv_iconst C.1 C.2.1 hd hv (k arr H locs hl hh hS)
theorem g_bipush (C : gC X own nm cc nL rm) {n : Int} {v : Int32} (hd : decode cc pc = .ok (.bipush n, 2)) (hv : (Int8.ofInt n).toInt32 = v) (hq : pc + 2 = q) (k : gG X q ls (.int v :: st) hp cl sl) : gG X pc ls (st) hp cl sl := by
  subst hq; exact fun arr H locs hl hh hS => lv_bipush C.1 C.2.1 hd hv (k arr H locs hl hh hS)
theorem g_sipush (C : gC X own nm cc nL rm) {n : Int} {v : Int32} (hd : decode cc pc = .ok (.sipush n, 3)) (hv : (Int16.ofInt n).toInt32 = v) (hq : pc + 3 = q) (k : gG X q ls (.int v :: st) hp cl sl) : gG X pc ls (st) hp cl sl := by
  subst hq; exact fun arr H locs hl hh hS => lv_sipush C.1 C.2.1 hd hv (k arr H locs hl hh hS)
theorem g_ldc (C : gC X own nm cc nL rm) {ix : Nat} {v : Int32} (hk : Jvm.Cond.constant own ix v ∈ gW) (hd : decode cc pc = .ok (.ldc ix, 2)) (hq : pc + 2 = q) (k : gG X q ls (.int v :: st) hp cl sl) : gG X pc ls (st) hp cl sl := by
  subst hq; exact fun arr H locs hl hh hS => lv_ldc C.1 C.2.1 C.2.2.2.1 (C.2.2.2.2.1 _ hk) hd (k arr H locs hl hh hS)
theorem g_ldc2 (C : gC X own nm cc nL rm) {ix : Nat} {v : Int64} (hk : Jvm.Cond.constantLong own ix v ∈ gW) (hd : decode cc pc = .ok (.ldc2_w ix, 3)) (hq : pc + 3 = q) (k : gG X q ls (.long v :: st) hp cl sl) : gG X pc ls (st) hp cl sl := by
  subst hq; exact fun arr H locs hl hh hS => lv_ldc2 C.1 C.2.1 C.2.2.2.1 (C.2.2.2.2.1 _ hk) hd (k arr H locs hl hh hS)
theorem g_null (C : gC X own nm cc nL rm) (hd : decode cc pc = .ok (.aconst_null, 1)) (hq : pc + 1 = q) (k : gG X q ls (.null :: st) hp cl sl) : gG X pc ls (st) hp cl sl := by
  subst hq; exact fun arr H locs hl hh hS => lv_null C.1 C.2.1 hd (k arr H locs hl hh hS)
theorem g_iadd (C : gC X own nm cc nL rm) {x z : Int32} (hd : decode cc pc = .ok (.iadd, 1)) (hq : pc + 1 = q) (k : gG X q ls (.int (x + z) :: st) hp cl sl) : gG X pc ls (.int z :: .int x :: st) hp cl sl := by
  subst hq; exact fun arr H locs hl hh hS => lv_iadd C.1 C.2.1 hd (k arr H locs hl hh hS)
theorem g_isub (C : gC X own nm cc nL rm) {x z : Int32} (hd : decode cc pc = .ok (.isub, 1)) (hq : pc + 1 = q) (k : gG X q ls (.int (x - z) :: st) hp cl sl) : gG X pc ls (.int z :: .int x :: st) hp cl sl := by
  subst hq; exact fun arr H locs hl hh hS => lv_isub C.1 C.2.1 hd (k arr H locs hl hh hS)
theorem g_imul (C : gC X own nm cc nL rm) {x z : Int32} (hd : decode cc pc = .ok (.imul, 1)) (hq : pc + 1 = q) (k : gG X q ls (.int (x * z) :: st) hp cl sl) : gG X pc ls (.int z :: .int x :: st) hp cl sl := by
  subst hq; exact fun arr H locs hl hh hS => lv_imul C.1 C.2.1 hd (k arr H locs hl hh hS)
theorem g_iand (C : gC X own nm cc nL rm) {x z : Int32} (hd : decode cc pc = .ok (.iand, 1)) (hq : pc + 1 = q) (k : gG X q ls (.int (x &&& z) :: st) hp cl sl) : gG X pc ls (.int z :: .int x :: st) hp cl sl := by
  subst hq; exact fun arr H locs hl hh hS => lv_iand C.1 C.2.1 hd (k arr H locs hl hh hS)
theorem g_ior (C : gC X own nm cc nL rm) {x z : Int32} (hd : decode cc pc = .ok (.ior, 1)) (hq : pc + 1 = q) (k : gG X q ls (.int (x ||| z) :: st) hp cl sl) : gG X pc ls (.int z :: .int x :: st) hp cl sl := by
  subst hq; exact fun arr H locs hl hh hS => lv_ior C.1 C.2.1 hd (k arr H locs hl hh hS)
theorem g_ixor (C : gC X own nm cc nL rm) {x z : Int32} (hd : decode cc pc = .ok (.ixor, 1)) (hq : pc + 1 = q) (k : gG X q ls (.int (x ^^^ z) :: st) hp cl sl) : gG X pc ls (.int z :: .int x :: st) hp cl sl := by
  subst hq; exact fun arr H locs hl hh hS => lv_ixor C.1 C.2.1 hd (k arr H locs hl hh hS)
theorem g_ishl (C : gC X own nm cc nL rm) {x z : Int32} (hd : decode cc pc = .ok (.ishl, 1)) (hq : pc + 1 = q) (k : gG X q ls (.int (x <<< (z &&& 31)) :: st) hp cl sl) : gG X pc ls (.int z :: .int x :: st) hp cl sl := by
  subst hq; exact fun arr H locs hl hh hS => lv_ishl C.1 C.2.1 hd (k arr H locs hl hh hS)
theorem g_ishr (C : gC X own nm cc nL rm) {x z : Int32} (hd : decode cc pc = .ok (.ishr, 1)) (hq : pc + 1 = q) (k : gG X q ls (.int (x >>> (z &&& 31)) :: st) hp cl sl) : gG X pc ls (.int z :: .int x :: st) hp cl sl := by
  subst hq; exact fun arr H locs hl hh hS => lv_ishr C.1 C.2.1 hd (k arr H locs hl hh hS)
theorem g_iushr (C : gC X own nm cc nL rm) {x z : Int32} (hd : decode cc pc = .ok (.iushr, 1)) (hq : pc + 1 = q) (k : gG X q ls (.int ((x.toUInt32 >>> (z.toUInt32 &&& Int32.toUInt32 31)).toInt32) :: st) hp cl sl) : gG X pc ls (.int z :: .int x :: st) hp cl sl := by
  subst hq; exact fun arr H locs hl hh hS => lv_iushr C.1 C.2.1 hd rfl (k arr H locs hl hh hS)
theorem g_ineg (C : gC X own nm cc nL rm) {x : Int32} (hd : decode cc pc = .ok (.ineg, 1)) (hq : pc + 1 = q) (k : gG X q ls (.int (-x) :: st) hp cl sl) : gG X pc ls (.int x :: st) hp cl sl := by
  subst hq; exact fun arr H locs hl hh hS => lv_ineg C.1 C.2.1 hd (k arr H locs hl hh hS)
theorem g_idiv (C : gC X own nm cc nL rm) {x z : Int32} (hd : decode cc pc = .ok (.idiv, 1)) (hne : ¬ z = 0) (hq : pc + 1 = q) (k : gG X q ls (.int (x / z) :: st) hp cl sl) : gG X pc ls (.int z :: .int x :: st) hp cl sl := by
  subst hq; exact fun arr H locs hl hh hS => lv_idiv C.1 C.2.1 hd hne (k arr H locs hl hh hS)
theorem g_irem (C : gC X own nm cc nL rm) {x z : Int32} (hd : decode cc pc = .ok (.irem, 1)) (hne : ¬ z = 0) (hq : pc + 1 = q) (k : gG X q ls (.int (x - x / z * z) :: st) hp cl sl) : gG X pc ls (.int z :: .int x :: st) hp cl sl := by
  subst hq; exact fun arr H locs hl hh hS => lv_irem C.1 C.2.1 hd hne (k arr H locs hl hh hS)
theorem g_i2l (C : gC X own nm cc nL rm) {x : Int32} (hd : decode cc pc = .ok (.i2l, 1)) (hq : pc + 1 = q) (k : gG X q ls (.long x.toInt64 :: st) hp cl sl) : gG X pc ls (.int x :: st) hp cl sl := by
  subst hq; exact fun arr H locs hl hh hS => lv_i2l C.1 C.2.1 hd rfl (k arr H locs hl hh hS)
theorem g_l2i (C : gC X own nm cc nL rm) {x : Int64} (hd : decode cc pc = .ok (.l2i, 1)) (hq : pc + 1 = q) (k : gG X q ls (.int x.toInt32 :: st) hp cl sl) : gG X pc ls (.long x :: st) hp cl sl := by
  subst hq; exact fun arr H locs hl hh hS => lv_l2i C.1 C.2.1 hd rfl (k arr H locs hl hh hS)
theorem g_lushr (C : gC X own nm cc nL rm) {x : Int64} {z : Int32} (hd : decode cc pc = .ok (.lushr, 1)) (hq : pc + 1 = q) (k : gG X q ls (.long ((x.toUInt64 >>> (z.toInt64.toUInt64 &&& Int64.toUInt64 63)).toInt64) :: st) hp cl sl) : gG X pc ls (.int z :: .long x :: st) hp cl sl := by
  subst hq; exact fun arr H locs hl hh hS => lv_lushr C.1 C.2.1 hd rfl (k arr H locs hl hh hS)
theorem g_lshl (C : gC X own nm cc nL rm) {x : Int64} {z : Int32} (hd : decode cc pc = .ok (.lshl, 1)) (hq : pc + 1 = q) (k : gG X q ls (.long (x <<< (z.toInt64 &&& 63)) :: st) hp cl sl) : gG X pc ls (.int z :: .long x :: st) hp cl sl := by
  subst hq; exact fun arr H locs hl hh hS => lv_lshl C.1 C.2.1 hd rfl (k arr H locs hl hh hS)
theorem g_lshr (C : gC X own nm cc nL rm) {x : Int64} {z : Int32} (hd : decode cc pc = .ok (.lshr, 1)) (hq : pc + 1 = q) (k : gG X q ls (.long (x >>> (z.toInt64 &&& 63)) :: st) hp cl sl) : gG X pc ls (.int z :: .long x :: st) hp cl sl := by
  subst hq; exact fun arr H locs hl hh hS => lv_lshr C.1 C.2.1 hd rfl (k arr H locs hl hh hS)
theorem g_land (C : gC X own nm cc nL rm) {x z : Int64} (hd : decode cc pc = .ok (.land, 1)) (hq : pc + 1 = q) (k : gG X q ls (.long (x &&& z) :: st) hp cl sl) : gG X pc ls (.long z :: .long x :: st) hp cl sl := by
  subst hq; exact fun arr H locs hl hh hS => lv_land C.1 C.2.1 hd (k arr H locs hl hh hS)
theorem g_lor (C : gC X own nm cc nL rm) {x z : Int64} (hd : decode cc pc = .ok (.lor, 1)) (hq : pc + 1 = q) (k : gG X q ls (.long (x ||| z) :: st) hp cl sl) : gG X pc ls (.long z :: .long x :: st) hp cl sl := by
  subst hq; exact fun arr H locs hl hh hS => lv_lor C.1 C.2.1 hd (k arr H locs hl hh hS)
theorem g_lcmp (C : gC X own nm cc nL rm) {x z : Int64} (hd : decode cc pc = .ok (.lcmp, 1)) (hq : pc + 1 = q) (k : gG X q ls (.int (lg_cmp x z) :: st) hp cl sl) : gG X pc ls (.long z :: .long x :: st) hp cl sl := by
  subst hq; exact fun arr H locs hl hh hS => W.lcmp C.1 C.2.1 hd (k arr H locs hl hh hS)
theorem gv_cat (b0 : Nat) (sa : Nat → Nat) (v : Value) : (gv b0 sa v).category = v.category := by cases v <;> rfl
theorem g_dup (C : gC X own nm cc nL rm) {v : Value} (hd : decode cc pc = .ok (.dup, 1)) (hv : v.category = 1) (hq : pc + 1 = q) (k : gG X q ls (v :: v :: st) hp cl sl) : gG X pc ls (v :: st) hp cl sl := by
  subst hq; exact fun arr H locs hl hh hS => lv_dup C.1 C.2.1 hd (by rw [gv_cat]; exact hv) (k arr H locs hl hh hS)
theorem g_pop (C : gC X own nm cc nL rm) {v : Value} (hd : decode cc pc = .ok (.pop, 1)) (hv : v.category = 1) (hq : pc + 1 = q) (k : gG X q ls (st) hp cl sl) : gG X pc ls (v :: st) hp cl sl := by
  subst hq; exact fun arr H locs hl hh hS => lv_pop C.1 C.2.1 hd (by rw [gv_cat]; exact hv) (k arr H locs hl hh hS)
theorem g_dup_x1 (C : gC X own nm cc nL rm) {v v2 : Value} (hd : decode cc pc = .ok (.dup_x1, 1)) (hv : v.category = 1) (hv2 : v2.category = 1) (hq : pc + 1 = q) (k : gG X q ls (v :: v2 :: v :: st) hp cl sl) : gG X pc ls (v :: v2 :: st) hp cl sl := by
  subst hq; exact fun arr H locs hl hh hS => lv_dup_x1 C.1 C.2.1 hd (by rw [gv_cat]; exact hv) (by rw [gv_cat]; exact hv2) (k arr H locs hl hh hS)
theorem g_dup2 (C : gC X own nm cc nL rm) {v v2 : Value} (hd : decode cc pc = .ok (.dup2, 1)) (hv : v.category = 1) (hv2 : v2.category = 1) (hq : pc + 1 = q) (k : gG X q ls (v :: v2 :: v :: v2 :: st) hp cl sl) : gG X pc ls (v :: v2 :: st) hp cl sl := by
  subst hq; exact fun arr H locs hl hh hS => lv_dup2_11 C.1 C.2.1 hd (by rw [gv_cat]; exact hv) (by rw [gv_cat]; exact hv2) (k arr H locs hl hh hS)
theorem g_goto (C : gC X own nm cc nL rm) {off : Int} (hd : decode cc pc = .ok (.goto off, 3)) (ht : (pc : Int) + off = (q : Int)) (k : gG X q ls st hp cl sl) : gG X pc ls st hp cl sl :=
  fun arr H locs hl hh hS => lv_goto C.1 C.2.1 hd ht (k arr H locs hl hh hS)
theorem g_if_eq (C : gC X own nm cc nL rm) {x : Int32} {off : Int} {t : Nat} (hd : decode cc pc = .ok (.ifCond .eq off, 3)) (ht : (pc : Int) + off = (t : Int)) (hq : pc + 3 = q) (kt : x = 0 → gG X t ls st hp cl sl) (kf : ¬ x = 0 → gG X q ls st hp cl sl) : gG X pc ls (.int x :: st) hp cl sl := by
  subst hq; exact fun arr H locs hl hh hS => lv_if_eq C.1 C.2.1 hd ht (fun h => kt h arr H locs hl hh hS) (fun h => kf h arr H locs hl hh hS)
theorem g_if_eq_t (C : gC X own nm cc nL rm) {x : Int32} {off : Int} {t : Nat} (hd : decode cc pc = .ok (.ifCond .eq off, 3)) (ht : (pc : Int) + off = (t : Int)) (h : x = 0) (kt : gG X t ls st hp cl sl) : gG X pc ls (.int x :: st) hp cl sl := g_if_eq C hd ht rfl (fun _ => kt) (fun h9 => absurd (h) (h9))
theorem g_if_eq_f (C : gC X own nm cc nL rm) {x : Int32} {off : Int} {t : Nat} (hd : decode cc pc = .ok (.ifCond .eq off, 3)) (ht : (pc : Int) + off = (t : Int)) (hq : pc + 3 = q) (h : ¬ x = 0) (kf : gG X q ls st hp cl sl) : gG X pc ls (.int x :: st) hp cl sl := g_if_eq C hd ht hq (fun h9 => absurd (h9) (h)) (fun _ => kf)
theorem g_icmp_eq (C : gC X own nm cc nL rm) {x z : Int32} {off : Int} {t : Nat} (hd : decode cc pc = .ok (.if_icmp .eq off, 3)) (ht : (pc : Int) + off = (t : Int)) (hq : pc + 3 = q) (kt : x = z → gG X t ls st hp cl sl) (kf : ¬ x = z → gG X q ls st hp cl sl) : gG X pc ls (.int z :: .int x :: st) hp cl sl := by
  subst hq; exact fun arr H locs hl hh hS => lv_icmp_eq C.1 C.2.1 hd ht (fun h => kt h arr H locs hl hh hS) (fun h => kf h arr H locs hl hh hS)
theorem g_icmp_eq_t (C : gC X own nm cc nL rm) {x z : Int32} {off : Int} {t : Nat} (hd : decode cc pc = .ok (.if_icmp .eq off, 3)) (ht : (pc : Int) + off = (t : Int)) (h : x = z) (kt : gG X t ls st hp cl sl) : gG X pc ls (.int z :: .int x :: st) hp cl sl := g_icmp_eq C hd ht rfl (fun _ => kt) (fun h9 => absurd (h) (h9))
theorem g_icmp_eq_f (C : gC X own nm cc nL rm) {x z : Int32} {off : Int} {t : Nat} (hd : decode cc pc = .ok (.if_icmp .eq off, 3)) (ht : (pc : Int) + off = (t : Int)) (hq : pc + 3 = q) (h : ¬ x = z) (kf : gG X q ls st hp cl sl) : gG X pc ls (.int z :: .int x :: st) hp cl sl := g_icmp_eq C hd ht hq (fun h9 => absurd (h9) (h)) (fun _ => kf)
theorem g_if_ne (C : gC X own nm cc nL rm) {x : Int32} {off : Int} {t : Nat} (hd : decode cc pc = .ok (.ifCond .ne off, 3)) (ht : (pc : Int) + off = (t : Int)) (hq : pc + 3 = q) (kt : ¬ x = 0 → gG X t ls st hp cl sl) (kf : x = 0 → gG X q ls st hp cl sl) : gG X pc ls (.int x :: st) hp cl sl := by
  subst hq; exact fun arr H locs hl hh hS => lv_if_ne C.1 C.2.1 hd ht (fun h => kt h arr H locs hl hh hS) (fun h => kf h arr H locs hl hh hS)
theorem g_if_ne_t (C : gC X own nm cc nL rm) {x : Int32} {off : Int} {t : Nat} (hd : decode cc pc = .ok (.ifCond .ne off, 3)) (ht : (pc : Int) + off = (t : Int)) (h : ¬ x = 0) (kt : gG X t ls st hp cl sl) : gG X pc ls (.int x :: st) hp cl sl := g_if_ne C hd ht rfl (fun _ => kt) (fun h9 => absurd (h9) (h))
theorem g_if_ne_f (C : gC X own nm cc nL rm) {x : Int32} {off : Int} {t : Nat} (hd : decode cc pc = .ok (.ifCond .ne off, 3)) (ht : (pc : Int) + off = (t : Int)) (hq : pc + 3 = q) (h : x = 0) (kf : gG X q ls st hp cl sl) : gG X pc ls (.int x :: st) hp cl sl := g_if_ne C hd ht hq (fun h9 => absurd (h) (h9)) (fun _ => kf)
theorem g_icmp_ne (C : gC X own nm cc nL rm) {x z : Int32} {off : Int} {t : Nat} (hd : decode cc pc = .ok (.if_icmp .ne off, 3)) (ht : (pc : Int) + off = (t : Int)) (hq : pc + 3 = q) (kt : ¬ x = z → gG X t ls st hp cl sl) (kf : x = z → gG X q ls st hp cl sl) : gG X pc ls (.int z :: .int x :: st) hp cl sl := by
  subst hq; exact fun arr H locs hl hh hS => lv_icmp_ne C.1 C.2.1 hd ht (fun h => kt h arr H locs hl hh hS) (fun h => kf h arr H locs hl hh hS)
theorem g_icmp_ne_t (C : gC X own nm cc nL rm) {x z : Int32} {off : Int} {t : Nat} (hd : decode cc pc = .ok (.if_icmp .ne off, 3)) (ht : (pc : Int) + off = (t : Int)) (h : ¬ x = z) (kt : gG X t ls st hp cl sl) : gG X pc ls (.int z :: .int x :: st) hp cl sl := g_icmp_ne C hd ht rfl (fun _ => kt) (fun h9 => absurd (h9) (h))
theorem g_icmp_ne_f (C : gC X own nm cc nL rm) {x z : Int32} {off : Int} {t : Nat} (hd : decode cc pc = .ok (.if_icmp .ne off, 3)) (ht : (pc : Int) + off = (t : Int)) (hq : pc + 3 = q) (h : x = z) (kf : gG X q ls st hp cl sl) : gG X pc ls (.int z :: .int x :: st) hp cl sl := g_icmp_ne C hd ht hq (fun h9 => absurd (h) (h9)) (fun _ => kf)
theorem g_if_lt (C : gC X own nm cc nL rm) {x : Int32} {off : Int} {t : Nat} (hd : decode cc pc = .ok (.ifCond .lt off, 3)) (ht : (pc : Int) + off = (t : Int)) (hq : pc + 3 = q) (kt : x < 0 → gG X t ls st hp cl sl) (kf : ¬ x < 0 → gG X q ls st hp cl sl) : gG X pc ls (.int x :: st) hp cl sl := by
  subst hq; exact fun arr H locs hl hh hS => lv_if_lt C.1 C.2.1 hd ht (fun h => kt h arr H locs hl hh hS) (fun h => kf h arr H locs hl hh hS)
theorem g_if_lt_t (C : gC X own nm cc nL rm) {x : Int32} {off : Int} {t : Nat} (hd : decode cc pc = .ok (.ifCond .lt off, 3)) (ht : (pc : Int) + off = (t : Int)) (h : x < 0) (kt : gG X t ls st hp cl sl) : gG X pc ls (.int x :: st) hp cl sl := g_if_lt C hd ht rfl (fun _ => kt) (fun h9 => absurd (h) (h9))
theorem g_if_lt_f (C : gC X own nm cc nL rm) {x : Int32} {off : Int} {t : Nat} (hd : decode cc pc = .ok (.ifCond .lt off, 3)) (ht : (pc : Int) + off = (t : Int)) (hq : pc + 3 = q) (h : ¬ x < 0) (kf : gG X q ls st hp cl sl) : gG X pc ls (.int x :: st) hp cl sl := g_if_lt C hd ht hq (fun h9 => absurd (h9) (h)) (fun _ => kf)
theorem g_icmp_lt (C : gC X own nm cc nL rm) {x z : Int32} {off : Int} {t : Nat} (hd : decode cc pc = .ok (.if_icmp .lt off, 3)) (ht : (pc : Int) + off = (t : Int)) (hq : pc + 3 = q) (kt : x < z → gG X t ls st hp cl sl) (kf : ¬ x < z → gG X q ls st hp cl sl) : gG X pc ls (.int z :: .int x :: st) hp cl sl := by
  subst hq; exact fun arr H locs hl hh hS => lv_icmp_lt C.1 C.2.1 hd ht (fun h => kt h arr H locs hl hh hS) (fun h => kf h arr H locs hl hh hS)
theorem g_icmp_lt_t (C : gC X own nm cc nL rm) {x z : Int32} {off : Int} {t : Nat} (hd : decode cc pc = .ok (.if_icmp .lt off, 3)) (ht : (pc : Int) + off = (t : Int)) (h : x < z) (kt : gG X t ls st hp cl sl) : gG X pc ls (.int z :: .int x :: st) hp cl sl := g_icmp_lt C hd ht rfl (fun _ => kt) (fun h9 => absurd (h) (h9))
theorem g_icmp_lt_f (C : gC X own nm cc nL rm) {x z : Int32} {off : Int} {t : Nat} (hd : decode cc pc = .ok (.if_icmp .lt off, 3)) (ht : (pc : Int) + off = (t : Int)) (hq : pc + 3 = q) (h : ¬ x < z) (kf : gG X q ls st hp cl sl) : gG X pc ls (.int z :: .int x :: st) hp cl sl := g_icmp_lt C hd ht hq (fun h9 => absurd (h9) (h)) (fun _ => kf)
theorem g_if_ge (C : gC X own nm cc nL rm) {x : Int32} {off : Int} {t : Nat} (hd : decode cc pc = .ok (.ifCond .ge off, 3)) (ht : (pc : Int) + off = (t : Int)) (hq : pc + 3 = q) (kt : 0 ≤ x → gG X t ls st hp cl sl) (kf : ¬ 0 ≤ x → gG X q ls st hp cl sl) : gG X pc ls (.int x :: st) hp cl sl := by
  subst hq; exact fun arr H locs hl hh hS => lv_if_ge C.1 C.2.1 hd ht (fun h => kt h arr H locs hl hh hS) (fun h => kf h arr H locs hl hh hS)
theorem g_if_ge_t (C : gC X own nm cc nL rm) {x : Int32} {off : Int} {t : Nat} (hd : decode cc pc = .ok (.ifCond .ge off, 3)) (ht : (pc : Int) + off = (t : Int)) (h : 0 ≤ x) (kt : gG X t ls st hp cl sl) : gG X pc ls (.int x :: st) hp cl sl := g_if_ge C hd ht rfl (fun _ => kt) (fun h9 => absurd (h) (h9))
theorem g_if_ge_f (C : gC X own nm cc nL rm) {x : Int32} {off : Int} {t : Nat} (hd : decode cc pc = .ok (.ifCond .ge off, 3)) (ht : (pc : Int) + off = (t : Int)) (hq : pc + 3 = q) (h : ¬ 0 ≤ x) (kf : gG X q ls st hp cl sl) : gG X pc ls (.int x :: st) hp cl sl := g_if_ge C hd ht hq (fun h9 => absurd (h9) (h)) (fun _ => kf)
theorem g_icmp_ge (C : gC X own nm cc nL rm) {x z : Int32} {off : Int} {t : Nat} (hd : decode cc pc = .ok (.if_icmp .ge off, 3)) (ht : (pc : Int) + off = (t : Int)) (hq : pc + 3 = q) (kt : z ≤ x → gG X t ls st hp cl sl) (kf : ¬ z ≤ x → gG X q ls st hp cl sl) : gG X pc ls (.int z :: .int x :: st) hp cl sl := by
  subst hq; exact fun arr H locs hl hh hS => lv_icmp_ge C.1 C.2.1 hd ht (fun h => kt h arr H locs hl hh hS) (fun h => kf h arr H locs hl hh hS)
theorem g_icmp_ge_t (C : gC X own nm cc nL rm) {x z : Int32} {off : Int} {t : Nat} (hd : decode cc pc = .ok (.if_icmp .ge off, 3)) (ht : (pc : Int) + off = (t : Int)) (h : z ≤ x) (kt : gG X t ls st hp cl sl) : gG X pc ls (.int z :: .int x :: st) hp cl sl := g_icmp_ge C hd ht rfl (fun _ => kt) (fun h9 => absurd (h) (h9))
theorem g_icmp_ge_f (C : gC X own nm cc nL rm) {x z : Int32} {off : Int} {t : Nat} (hd : decode cc pc = .ok (.if_icmp .ge off, 3)) (ht : (pc : Int) + off = (t : Int)) (hq : pc + 3 = q) (h : ¬ z ≤ x) (kf : gG X q ls st hp cl sl) : gG X pc ls (.int z :: .int x :: st) hp cl sl := g_icmp_ge C hd ht hq (fun h9 => absurd (h9) (h)) (fun _ => kf)
theorem g_if_gt (C : gC X own nm cc nL rm) {x : Int32} {off : Int} {t : Nat} (hd : decode cc pc = .ok (.ifCond .gt off, 3)) (ht : (pc : Int) + off = (t : Int)) (hq : pc + 3 = q) (kt : 0 < x → gG X t ls st hp cl sl) (kf : ¬ 0 < x → gG X q ls st hp cl sl) : gG X pc ls (.int x :: st) hp cl sl := by
  subst hq; exact fun arr H locs hl hh hS => lv_if_gt C.1 C.2.1 hd ht (fun h => kt h arr H locs hl hh hS) (fun h => kf h arr H locs hl hh hS)
theorem g_if_gt_t (C : gC X own nm cc nL rm) {x : Int32} {off : Int} {t : Nat} (hd : decode cc pc = .ok (.ifCond .gt off, 3)) (ht : (pc : Int) + off = (t : Int)) (h : 0 < x) (kt : gG X t ls st hp cl sl) : gG X pc ls (.int x :: st) hp cl sl := g_if_gt C hd ht rfl (fun _ => kt) (fun h9 => absurd (h) (h9))
theorem g_if_gt_f (C : gC X own nm cc nL rm) {x : Int32} {off : Int} {t : Nat} (hd : decode cc pc = .ok (.ifCond .gt off, 3)) (ht : (pc : Int) + off = (t : Int)) (hq : pc + 3 = q) (h : ¬ 0 < x) (kf : gG X q ls st hp cl sl) : gG X pc ls (.int x :: st) hp cl sl := g_if_gt C hd ht hq (fun h9 => absurd (h9) (h)) (fun _ => kf)
theorem g_icmp_gt (C : gC X own nm cc nL rm) {x z : Int32} {off : Int} {t : Nat} (hd : decode cc pc = .ok (.if_icmp .gt off, 3)) (ht : (pc : Int) + off = (t : Int)) (hq : pc + 3 = q) (kt : z < x → gG X t ls st hp cl sl) (kf : ¬ z < x → gG X q ls st hp cl sl) : gG X pc ls (.int z :: .int x :: st) hp cl sl := by
  subst hq; exact fun arr H locs hl hh hS => lv_icmp_gt C.1 C.2.1 hd ht (fun h => kt h arr H locs hl hh hS) (fun h => kf h arr H locs hl hh hS)
theorem g_icmp_gt_t (C : gC X own nm cc nL rm) {x z : Int32} {off : Int} {t : Nat} (hd : decode cc pc = .ok (.if_icmp .gt off, 3)) (ht : (pc : Int) + off = (t : Int)) (h : z < x) (kt : gG X t ls st hp cl sl) : gG X pc ls (.int z :: .int x :: st) hp cl sl := g_icmp_gt C hd ht rfl (fun _ => kt) (fun h9 => absurd (h) (h9))
theorem g_icmp_gt_f (C : gC X own nm cc nL rm) {x z : Int32} {off : Int} {t : Nat} (hd : decode cc pc = .ok (.if_icmp .gt off, 3)) (ht : (pc : Int) + off = (t : Int)) (hq : pc + 3 = q) (h : ¬ z < x) (kf : gG X q ls st hp cl sl) : gG X pc ls (.int z :: .int x :: st) hp cl sl := g_icmp_gt C hd ht hq (fun h9 => absurd (h9) (h)) (fun _ => kf)
theorem g_if_le (C : gC X own nm cc nL rm) {x : Int32} {off : Int} {t : Nat} (hd : decode cc pc = .ok (.ifCond .le off, 3)) (ht : (pc : Int) + off = (t : Int)) (hq : pc + 3 = q) (kt : x ≤ 0 → gG X t ls st hp cl sl) (kf : ¬ x ≤ 0 → gG X q ls st hp cl sl) : gG X pc ls (.int x :: st) hp cl sl := by
  subst hq; exact fun arr H locs hl hh hS => lv_if_le C.1 C.2.1 hd ht (fun h => kt h arr H locs hl hh hS) (fun h => kf h arr H locs hl hh hS)
theorem g_if_le_t (C : gC X own nm cc nL rm) {x : Int32} {off : Int} {t : Nat} (hd : decode cc pc = .ok (.ifCond .le off, 3)) (ht : (pc : Int) + off = (t : Int)) (h : x ≤ 0) (kt : gG X t ls st hp cl sl) : gG X pc ls (.int x :: st) hp cl sl := g_if_le C hd ht rfl (fun _ => kt) (fun h9 => absurd (h) (h9))
theorem g_if_le_f (C : gC X own nm cc nL rm) {x : Int32} {off : Int} {t : Nat} (hd : decode cc pc = .ok (.ifCond .le off, 3)) (ht : (pc : Int) + off = (t : Int)) (hq : pc + 3 = q) (h : ¬ x ≤ 0) (kf : gG X q ls st hp cl sl) : gG X pc ls (.int x :: st) hp cl sl := g_if_le C hd ht hq (fun h9 => absurd (h9) (h)) (fun _ => kf)
theorem g_icmp_le (C : gC X own nm cc nL rm) {x z : Int32} {off : Int} {t : Nat} (hd : decode cc pc = .ok (.if_icmp .le off, 3)) (ht : (pc : Int) + off = (t : Int)) (hq : pc + 3 = q) (kt : x ≤ z → gG X t ls st hp cl sl) (kf : ¬ x ≤ z → gG X q ls st hp cl sl) : gG X pc ls (.int z :: .int x :: st) hp cl sl := by
  subst hq; exact fun arr H locs hl hh hS => lv_icmp_le C.1 C.2.1 hd ht (fun h => kt h arr H locs hl hh hS) (fun h => kf h arr H locs hl hh hS)
theorem g_icmp_le_t (C : gC X own nm cc nL rm) {x z : Int32} {off : Int} {t : Nat} (hd : decode cc pc = .ok (.if_icmp .le off, 3)) (ht : (pc : Int) + off = (t : Int)) (h : x ≤ z) (kt : gG X t ls st hp cl sl) : gG X pc ls (.int z :: .int x :: st) hp cl sl := g_icmp_le C hd ht rfl (fun _ => kt) (fun h9 => absurd (h) (h9))
theorem g_icmp_le_f (C : gC X own nm cc nL rm) {x z : Int32} {off : Int} {t : Nat} (hd : decode cc pc = .ok (.if_icmp .le off, 3)) (ht : (pc : Int) + off = (t : Int)) (hq : pc + 3 = q) (h : ¬ x ≤ z) (kf : gG X q ls st hp cl sl) : gG X pc ls (.int z :: .int x :: st) hp cl sl := g_icmp_le C hd ht hq (fun h9 => absurd (h9) (h)) (fun _ => kf)
theorem g_sld (C : gC X own nm cc nL rm) {j : UInt32} {L : Nat} {f : Nat → Int32} {i : Int32} (hX : va_X (xA X j.toNat) L f (xs X) (xs X).heap) (hbl : xA X j.toNat < (xs X).heap.size) (hb0 : ¬ xB X ≤ xA X j.toNat) (hd : decode cc pc = .ok (.iaload, 1)) (hq : pc + 1 = q) (hi : vp_in i L) (k : gG X q ls (.int (f i.toNatClampNeg) :: st) hp cl sl) : gG X pc ls (.int i :: .float j :: st) hp cl sl := by
  subst hq; exact fun arr H locs hl hh hS => va_sld C.1 C.2.1 hX hbl hb0 hS hi hd (k arr H locs hl hh hS)
theorem g_slen (C : gC X own nm cc nL rm) {j : UInt32} {L : Nat} {f : Nat → Int32} (hX : va_X (xA X j.toNat) L f (xs X) (xs X).heap) (hbl : xA X j.toNat < (xs X).heap.size) (hb0 : ¬ xB X ≤ xA X j.toNat) (hd : decode cc pc = .ok (.arraylength, 1)) (hq : pc + 1 = q) (k : gG X q ls (.int (nI L) :: st) hp cl sl) : gG X pc ls (.float j :: st) hp cl sl := by
  subst hq; exact fun arr H locs hl hh hS => va_slen C.1 C.2.1 hX hbl hb0 hS hd (k arr H locs hl hh hS)
theorem g_tableOut (C : gC X own nm cc nL rm) {dflt lo hi : Int} {offs : Array Int} {len : Nat} {x : Int32} {t : Nat} (hd : decode cc pc = .ok (.tableswitch dflt lo hi offs, len)) (h : x.toInt < lo ∨ hi < x.toInt) (ht : (pc : Int) + dflt = (t : Int)) (k : gG X t ls st hp cl sl) : gG X pc ls (.int x :: st) hp cl sl :=
  fun arr H locs hl hh hS => lv_tableOut C.1 C.2.1 hd h ht (k arr H locs hl hh hS)
theorem g_tableIn (C : gC X own nm cc nL rm) {dflt lo hi : Int} {offs : Array Int} {len : Nat} {x : Int32} {off : Int} {t : Nat} (hd : decode cc pc = .ok (.tableswitch dflt lo hi offs, len)) (h1 : ¬ x.toInt < lo) (h2 : ¬ hi < x.toInt) (ho : offs[(x.toInt - lo).toNat]? = some off) (ht : (pc : Int) + off = (t : Int)) (k : gG X t ls st hp cl sl) : gG X pc ls (.int x :: st) hp cl sl :=
  fun arr H locs hl hh hS => lv_tableIn C.1 C.2.1 hd h1 h2 ho ht (k arr H locs hl hh hS)
theorem g_ifnull (C : gC X own nm cc nL rm) {k0 : Nat} {off : Int} (hd : decode cc pc = .ok (.ifnull off, 3)) (hq : pc + 3 = q) (k : gG X q ls st hp cl sl) : gG X pc ls (.ref k0 :: st) hp cl sl := by
  subst hq; exact fun arr H locs hl hh hS => lv_ifnull C.1 C.2.1 hd (k arr H locs hl hh hS)
theorem g_ifnullN (C : gC X own nm cc nL rm) {off : Int} {t : Nat} (hd : decode cc pc = .ok (.ifnull off, 3)) (ht : (pc : Int) + off = (t : Int)) (k : gG X t ls st hp cl sl) : gG X pc ls (.null :: st) hp cl sl :=
  fun arr H locs hl hh hS => lv_ifnullN C.1 C.2.1 hd ht (k arr H locs hl hh hS)
theorem g_acmp_ne (C : gC X own nm cc nL rm) {a1 a2 : Nat} {off : Int} {t : Nat} (hd : decode cc pc = .ok (.if_acmp .ne off, 3)) (ht : (pc : Int) + off = (t : Int)) (hq : pc + 3 = q) (kt : ¬ a1 = a2 → gG X t ls st hp cl sl) (kf : a1 = a2 → gG X q ls st hp cl sl) : gG X pc ls (.ref a2 :: .ref a1 :: st) hp cl sl := by
  subst hq
  intro arr H locs hl hh hS
  exact lv_acmp_ne (rx := some (xB X + a1)) (ry := some (xB X + a2)) C.1 C.2.1 hd ht (fun h => kt (fun h2 => h (by rw [h2])) arr H locs hl hh hS) (fun h => kf (Nat.add_left_cancel (Option.some.inj h)) arr H locs hl hh hS)
theorem g_weaken {cl' sl' : Nat} (h1 : cl ≤ cl') (h2 : sl ≤ sl') (k : gG X pc ls st hp cl' sl') : gG X pc ls st hp cl sl :=
  fun arr H locs hl hh hS => W.widen h1 h2 (k arr H locs hl hh hS)
/-- locals forgotten -/
theorem g_forget {ls' : List (Option Value)} (hn : ls'.length = ls.length) (h : ∀ (i : Nat) (v : Value), ls'[i]? = some (some v) → ls[i]? = some (some v)) (k : gG X pc ls' st hp cl sl) : gG X pc ls st hp cl sl :=
  fun arr H locs hl hh hS => k arr H locs ⟨hl.1.trans hn.symm, hl.2.1, fun i v hv => hl.2.2 i v (h i v hv)⟩ hh hS
/-! locals -/
theorem gL_at {b0 : Nat} {sa : Nat → Nat} {arr : Array Slot} {v : Value} {i : Nat} (h : gL b0 sa arr ls) (hi : ls[i]? = some (some v)) : arr[i]? = some (.val (gv b0 sa v)) := h.2.2 i v hi
/-- the pairs of a row of locals -/
def gP (b0 : Nat) (sa : Nat → Nat) (ls : List (Option Value)) : List (Nat × Value) := (List.range ls.length).filterMap fun i => (ls[i]?.join).map fun v => (i, gv b0 sa v)
theorem gP_mem {b0 : Nat} {sa : Nat → Nat} {ls : List (Option Value)} {z : Nat × Value} : z ∈ gP b0 sa ls ↔ ∃ v, ls[z.1]? = some (some v) ∧ z.2 = gv b0 sa v := by
  unfold gP
  rw [List.mem_filterMap]
  constructor
  · rintro ⟨i, hi, h⟩
    cases h1 : ls[i]? with
    | none => rw [h1] at h; simp at h
    | some o =>
      cases o with
      | none => rw [h1] at h; simp at h
      | some v =>
        rw [h1] at h
        simp at h
        subst h
        exact ⟨v, h1, rfl⟩
  · rintro ⟨v, h1, h2⟩
    obtain ⟨i, u⟩ := z
    dsimp only at h1 h2
    subst h2
    have hlt : i < ls.length := (List.getElem?_eq_some_iff.mp h1).1
    exact ⟨i, List.mem_range.mpr hlt, by rw [h1]; rfl⟩
theorem gL_has {b0 : Nat} {sa : Nat → Nat} {arr : Array Slot} (h : gL b0 sa arr ls) : lv_has arr ls.length (gP b0 sa ls) := by
  refine ⟨h.1, h.2.1, fun z hz => ?_⟩
  obtain ⟨v, h1, h2⟩ := gP_mem.mp hz
  rw [h2]
  exact h.2.2 _ _ h1
/-- what a store leaves: ls' agrees with ls but at i, and a long that ended at i is gone -/
def gSt (ls ls' : List (Option Value)) (i : Nat) (v : Value) : Prop :=
  i < ls.length ∧ ls'.length = ls.length ∧ ∀ (j : Nat) (u : Value), ls'[j]? = some (some u) → (j = i ∧ u = v) ∨ (j ≠ i ∧ ls[j]? = some (some u) ∧ ¬ (j + 1 = i ∧ u.category = 2))
theorem gL_store {b0 : Nat} {sa : Nat → Nat} {arr' : Array Slot} {ls' : List (Option Value)} {i : Nat} {v : Value} (hs : gSt ls ls' i v) (h : lv_has arr' ls.length ((i, gv b0 sa v) :: (gP b0 sa ls).filter (fun q => !(q.1 == i) && !(q.1 + 1 == i && q.2.category == 2)))) : gL b0 sa arr' ls' := by
  obtain ⟨h1, h2, h3⟩ := h
  refine ⟨h1.trans hs.2.1.symm, h2, fun j u hu => ?_⟩
  rcases hs.2.2 j u hu with ⟨rfl, rfl⟩ | ⟨hne, hl, hk⟩
  · exact h3 _ List.mem_cons_self
  · refine h3 (j, gv b0 sa u) (List.mem_cons_of_mem _ (List.mem_filter.mpr ⟨gP_mem.mpr ⟨u, hl, rfl⟩, ?_⟩))
    simp only [gv_cat]
    simp only [Bool.and_eq_true, Bool.not_eq_true', beq_eq_false_iff_ne, ne_eq, Bool.and_eq_false_iff]
    refine ⟨hne, ?_⟩
    by_cases hj : j + 1 = i
    · exact Or.inr (fun hc => hk ⟨hj, hc⟩)
    · exact Or.inl hj
/-- likewise, of a long -/
def gSt2 (ls ls' : List (Option Value)) (i : Nat) (v : Value) : Prop :=
  i + 1 < ls.length ∧ ls'.length = ls.length ∧ ∀ (j : Nat) (u : Value), ls'[j]? = some (some u) → (j = i ∧ u = v) ∨ (j ≠ i ∧ j ≠ i + 1 ∧ ls[j]? = some (some u) ∧ ¬ (j + 1 = i ∧ u.category = 2))
theorem gL_store2 {b0 : Nat} {sa : Nat → Nat} {arr' : Array Slot} {ls' : List (Option Value)} {i : Nat} {v : Value} (hs : gSt2 ls ls' i v) (h : lv_has arr' ls.length ((i, gv b0 sa v) :: (gP b0 sa ls).filter (fun q => !(q.1 == i) && (!(q.1 == i + 1) && !(q.1 + 1 == i && q.2.category == 2))))) : gL b0 sa arr' ls' := by
  obtain ⟨h1, h2, h3⟩ := h
  refine ⟨h1.trans hs.2.1.symm, h2, fun j u hu => ?_⟩
  rcases hs.2.2 j u hu with ⟨rfl, rfl⟩ | ⟨hne, hne2, hl, hk⟩
  · exact h3 _ List.mem_cons_self
  · refine h3 (j, gv b0 sa u) (List.mem_cons_of_mem _ (List.mem_filter.mpr ⟨gP_mem.mpr ⟨u, hl, rfl⟩, ?_⟩))
    simp only [gv_cat]
    simp only [Bool.and_eq_true, Bool.not_eq_true', beq_eq_false_iff_ne, ne_eq, Bool.and_eq_false_iff]
    refine ⟨hne, hne2, ?_⟩
    by_cases hj : j + 1 = i
    · exact Or.inr (fun hc => hk ⟨hj, hc⟩)
    · exact Or.inl hj
/-- the store, by computing -/
def gset : List (Option Value) → Nat → Value → List (Option Value)
  | [], _, _ => []
  | _ :: t, 0, v => some v :: t
  | o :: t, 1, v => (match o with | some (.long _) => none | some (.double _) => none | z => z) :: gset t 0 v
  | o :: t, i + 2, v => o :: gset t (i + 1) v
theorem gset_len : ∀ (ls : List (Option Value)) (i : Nat) (v : Value), (gset ls i v).length = ls.length
  | [], _, _ => rfl
  | _ :: t, 0, v => rfl
  | o :: t, 1, v => by simp [gset, gset_len t 0 v]
  | o :: t, i + 2, v => by simp [gset, gset_len t (i + 1) v]
theorem gset_at : ∀ (ls : List (Option Value)) (i : Nat) (v : Value) (j : Nat) (u : Value), (gset ls i v)[j]? = some (some u) → (j = i ∧ u = v) ∨ (j ≠ i ∧ ls[j]? = some (some u) ∧ ¬ (j + 1 = i ∧ u.category = 2))
  | [], _, _, j, u, h => by simp [gset] at h
  | o :: t, 0, v, 0, u, h => by
    simp [gset] at h
    exact Or.inl ⟨rfl, h.symm⟩
  | o :: t, 0, v, j + 1, u, h => by
    simp [gset] at h
    exact Or.inr ⟨by omega, by simpa using h, by omega⟩
  | o :: t, 1, v, 0, u, h => by
    refine Or.inr ⟨by omega, ?_⟩
    cases o with
    | none => simp [gset] at h
    | some z => cases z <;> simp [gset] at h <;> (subst h; simp [Value.category])
  | o :: t, 1, v, j + 1, u, h => by
    have h2 : (gset t 0 v)[j]? = some (some u) := by simpa [gset] using h
    rcases gset_at t 0 v j u h2 with ⟨a, b⟩ | ⟨a, b, c9⟩
    · exact Or.inl ⟨by omega, b⟩
    · exact Or.inr ⟨by omega, by simpa using b, by omega⟩
  | o :: t, i + 2, v, 0, u, h => by
    simp [gset] at h
    exact Or.inr ⟨by omega, by simpa using h, by omega⟩
  | o :: t, i + 2, v, j + 1, u, h => by
    have h2 : (gset t (i + 1) v)[j]? = some (some u) := by simpa [gset] using h
    rcases gset_at t (i + 1) v j u h2 with ⟨a, b⟩ | ⟨a, b, c9⟩
    · exact Or.inl ⟨by omega, b⟩
    · exact Or.inr ⟨by omega, by simpa using b, fun hh => c9 ⟨by omega, hh.2⟩⟩
theorem gset_st {ls : List (Option Value)} {i : Nat} {v : Value} (h : i < ls.length) : gSt ls (gset ls i v) i v := ⟨h, gset_len ls i v, gset_at ls i v⟩
theorem gset2_st {ls : List (Option Value)} {i : Nat} {v : Value} (h : i + 1 < ls.length) : gSt2 ls ((gset ls i v).set (i + 1) none) i v := by
  refine ⟨h, by rw [List.length_set, gset_len], fun j u hu => ?_⟩
  by_cases hj : j = i + 1
  · subst hj
    rw [List.getElem?_set_self (by rw [gset_len]; exact h)] at hu
    cases hu
  · rw [List.getElem?_set_ne (Ne.symm hj)] at hu
    rcases gset_at ls i v j u hu with a | ⟨a, b, c9⟩
    · exact Or.inl a
    · exact Or.inr ⟨a, hj, b, c9⟩

theorem g_iload (C : gC X own nm cc nL rm) {i : Nat} {x : Int32} (hd : decode cc pc = .ok (.iload i, 2)) (hl0 : ls[i]? = some (some (.int x))) (hq : pc + 2 = q) (k : gG X q ls (.int x :: st) hp cl sl) : gG X pc ls st hp cl sl := by
  subst hq; exact fun arr H locs hl hh hS => lv_iload C.1 C.2.1 hd (gL_at hl hl0) (k arr H locs hl hh hS)
theorem g_iload_n (C : gC X own nm cc nL rm) {i : Fin 4} {x : Int32} (hd : decode cc pc = .ok (.iload_n i, 1)) (hl0 : ls[i.val]? = some (some (.int x))) (hq : pc + 1 = q) (k : gG X q ls (.int x :: st) hp cl sl) : gG X pc ls st hp cl sl := by
  subst hq; exact fun arr H locs hl hh hS => lv_iload_n C.1 C.2.1 hd rfl (gL_at hl hl0) (k arr H locs hl hh hS)
/-- a place of a static table: getstatic, the index, iaload -/
theorem g_tabld (C : gC X own nm cc nL rm) {index n : Nat} {z : String × String × List Int32} {i : Fin 4} {x v : Int32} (hz : z ∈ gTabs) (hlink : Cond.fieldLink own index z.1 z.2.1 "[I" ∈ gW) (hd1 : decode cc pc = .ok (.getstatic index, 3)) (hd2 : decode cc (pc + 3) = .ok (.iload_n i, 1)) (hd3 : decode cc (pc + 3 + 1) = .ok (.iaload, 1)) (hq : pc + 3 + 1 + 1 = q)
    (hl0 : ls[i.val]? = some (some (.int x))) (hn : x.toNatClampNeg = n) (h0 : ¬ x < 0) (hL : n < z.2.2.length) (hv : z.2.2.getD n 0 = v) (k : gG X q ls (.int v :: st) hp cl sl) : gG X pc ls st hp cl sl := by
  subst hq; subst hv; subst hn
  obtain ⟨t, h1, h2, h3, h4⟩ := C.2.2.2.2.2.2.2.2.2.2.2.2.2.2 z hz
  exact fun arr H locs hl hh hS => va_gets C.1 C.2.1 h1 hS C.2.2.2.1 (C.2.2.2.2.1 _ hlink) (fun _ h9 => h9) hd1 (lv_iload_n C.1 C.2.1 hd2 rfl (gL_at hl hl0) (va_sld C.1 C.2.1 h4 h2 h3 hS (fun w => w.elim h0 (fun w => absurd hL (Nat.not_lt.mpr w))) hd3 (k arr H locs hl hh hS)))
/-- a static table's length -/
theorem g_tablen (C : gC X own nm cc nL rm) {index : Nat} {z : String × String × List Int32} (hz : z ∈ gTabs) (hlink : Cond.fieldLink own index z.1 z.2.1 "[I" ∈ gW) (hd1 : decode cc pc = .ok (.getstatic index, 3)) (hd2 : decode cc (pc + 3) = .ok (.arraylength, 1)) (hq : pc + 3 + 1 = q) (k : gG X q ls (.int (nI z.2.2.length) :: st) hp cl sl) : gG X pc ls st hp cl sl := by
  subst hq
  obtain ⟨t, h1, h2, h3, h4⟩ := C.2.2.2.2.2.2.2.2.2.2.2.2.2.2 z hz
  exact fun arr H locs hl hh hS => va_gets C.1 C.2.1 h1 hS C.2.2.2.1 (C.2.2.2.2.1 _ hlink) (fun _ h9 => h9) hd1 (va_slen C.1 C.2.1 h4 h2 h3 hS hd2 (k arr H locs hl hh hS))
theorem g_lload (C : gC X own nm cc nL rm) {i : Nat} {x : Int64} (hd : decode cc pc = .ok (.lload i, 2)) (hl0 : ls[i]? = some (some (.long x))) (hq : pc + 2 = q) (k : gG X q ls (.long x :: st) hp cl sl) : gG X pc ls st hp cl sl := by
  subst hq; exact fun arr H locs hl hh hS => lv_lload C.1 C.2.1 hd (gL_at hl hl0) (k arr H locs hl hh hS)
theorem g_lload_n (C : gC X own nm cc nL rm) {i : Fin 4} {x : Int64} (hd : decode cc pc = .ok (.lload_n i, 1)) (hl0 : ls[i.val]? = some (some (.long x))) (hq : pc + 1 = q) (k : gG X q ls (.long x :: st) hp cl sl) : gG X pc ls st hp cl sl := by
  subst hq; exact fun arr H locs hl hh hS => lv_lload_n C.1 C.2.1 hd rfl (gL_at hl hl0) (k arr H locs hl hh hS)
theorem g_aload (C : gC X own nm cc nL rm) {i : Nat} {x : Nat} (hd : decode cc pc = .ok (.aload i, 2)) (hl0 : ls[i]? = some (some (.ref x))) (hq : pc + 2 = q) (k : gG X q ls (.ref x :: st) hp cl sl) : gG X pc ls st hp cl sl := by
  subst hq; exact fun arr H locs hl hh hS => lv_aload C.1 C.2.1 hd (gL_at hl hl0) (k arr H locs hl hh hS)
theorem g_aload_n (C : gC X own nm cc nL rm) {i : Fin 4} {x : Nat} (hd : decode cc pc = .ok (.aload_n i, 1)) (hl0 : ls[i.val]? = some (some (.ref x))) (hq : pc + 1 = q) (k : gG X q ls (.ref x :: st) hp cl sl) : gG X pc ls st hp cl sl := by
  subst hq; exact fun arr H locs hl hh hS => lv_aload_n C.1 C.2.1 hd rfl (gL_at hl hl0) (k arr H locs hl hh hS)
theorem g_aloadS (C : gC X own nm cc nL rm) {i : Nat} {j : UInt32} (hd : decode cc pc = .ok (.aload i, 2)) (hl0 : ls[i]? = some (some (.float j))) (hq : pc + 2 = q) (k : gG X q ls (.float j :: st) hp cl sl) : gG X pc ls st hp cl sl := by
  subst hq; exact fun arr H locs hl hh hS => lv_aload C.1 C.2.1 hd (gL_at hl hl0) (k arr H locs hl hh hS)
theorem g_aloadS_n (C : gC X own nm cc nL rm) {i : Fin 4} {j : UInt32} (hd : decode cc pc = .ok (.aload_n i, 1)) (hl0 : ls[i.val]? = some (some (.float j))) (hq : pc + 1 = q) (k : gG X q ls (.float j :: st) hp cl sl) : gG X pc ls st hp cl sl := by
  subst hq; exact fun arr H locs hl hh hS => lv_aload_n C.1 C.2.1 hd rfl (gL_at hl hl0) (k arr H locs hl hh hS)
theorem g_aloadN (C : gC X own nm cc nL rm) {i : Nat}  (hd : decode cc pc = .ok (.aload i, 2)) (hl0 : ls[i]? = some (some (.null))) (hq : pc + 2 = q) (k : gG X q ls (.null :: st) hp cl sl) : gG X pc ls st hp cl sl := by
  subst hq; exact fun arr H locs hl hh hS => lv_aloadN C.1 C.2.1 hd (gL_at hl hl0) (k arr H locs hl hh hS)
theorem g_aloadN_n (C : gC X own nm cc nL rm) {i : Fin 4}  (hd : decode cc pc = .ok (.aload_n i, 1)) (hl0 : ls[i.val]? = some (some (.null))) (hq : pc + 1 = q) (k : gG X q ls (.null :: st) hp cl sl) : gG X pc ls st hp cl sl := by
  subst hq; exact fun arr H locs hl hh hS => lv_aload_nN C.1 C.2.1 hd rfl (gL_at hl hl0) (k arr H locs hl hh hS)
theorem g_istore (C : gC X own nm cc nL rm) {i : Nat} {x : Int32} {ls' : List (Option Value)} (hd : decode cc pc = .ok (.istore i, 2)) (hi : i < ls.length) (he : gset ls i (.int x) = ls') (hq : pc + 2 = q) (k : gG X q ls' st hp cl sl) : gG X pc ls (.int x :: st) hp cl sl := by
  subst hq; subst he; exact fun arr H locs hl hh hS => lv_istore C.1 C.2.1 hd (gL_has hl) hi rfl (fun arr' h' => k arr' H locs (gL_store (gset_st hi) h') hh hS)
theorem g_istore_n (C : gC X own nm cc nL rm) {i : Fin 4} {x : Int32} {ls' : List (Option Value)} (hd : decode cc pc = .ok (.istore_n i, 1)) (hi : i.val < ls.length) (he : gset ls i.val (.int x) = ls') (hq : pc + 1 = q) (k : gG X q ls' st hp cl sl) : gG X pc ls (.int x :: st) hp cl sl := by
  subst hq; subst he; exact fun arr H locs hl hh hS => lv_istore_n C.1 C.2.1 hd rfl (gL_has hl) hi rfl (fun arr' h' => k arr' H locs (gL_store (gset_st hi) h') hh hS)
theorem g_astore (C : gC X own nm cc nL rm) {i : Nat} {x : Nat} {ls' : List (Option Value)} (hd : decode cc pc = .ok (.astore i, 2)) (hi : i < ls.length) (he : gset ls i (.ref x) = ls') (hq : pc + 2 = q) (k : gG X q ls' st hp cl sl) : gG X pc ls (.ref x :: st) hp cl sl := by
  subst hq; subst he; exact fun arr H locs hl hh hS => lv_astore C.1 C.2.1 hd (gL_has hl) hi rfl (fun arr' h' => k arr' H locs (gL_store (gset_st hi) h') hh hS)
theorem g_astore_n (C : gC X own nm cc nL rm) {i : Fin 4} {x : Nat} {ls' : List (Option Value)} (hd : decode cc pc = .ok (.astore_n i, 1)) (hi : i.val < ls.length) (he : gset ls i.val (.ref x) = ls') (hq : pc + 1 = q) (k : gG X q ls' st hp cl sl) : gG X pc ls (.ref x :: st) hp cl sl := by
  subst hq; subst he; exact fun arr H locs hl hh hS => lv_astore_n C.1 C.2.1 hd rfl (gL_has hl) hi rfl (fun arr' h' => k arr' H locs (gL_store (gset_st hi) h') hh hS)
theorem g_astoreS (C : gC X own nm cc nL rm) {i : Nat} {j : UInt32} {ls' : List (Option Value)} (hd : decode cc pc = .ok (.astore i, 2)) (hi : i < ls.length) (he : gset ls i (.float j) = ls') (hq : pc + 2 = q) (k : gG X q ls' st hp cl sl) : gG X pc ls (.float j :: st) hp cl sl := by
  subst hq; subst he; exact fun arr H locs hl hh hS => lv_astore (x := xA X j.toNat) C.1 C.2.1 hd (gL_has hl) hi rfl (fun arr' h' => k arr' H locs (gL_store (v := .float j) (gset_st hi) h') hh hS)
theorem g_lstore (C : gC X own nm cc nL rm) {i : Nat} {x : Int64} {ls' : List (Option Value)} (hd : decode cc pc = .ok (.lstore i, 2)) (hi : i + 1 < ls.length) (he : (gset ls i (.long x)).set (i + 1) none = ls') (hq : pc + 2 = q) (k : gG X q ls' st hp cl sl) : gG X pc ls (.long x :: st) hp cl sl := by
  subst hq; subst he; exact fun arr H locs hl hh hS => lv_lstore C.1 C.2.1 hd (gL_has hl) hi rfl (fun arr' h' => k arr' H locs (gL_store2 (v := .long x) (gset2_st hi) h') hh hS)
theorem g_lstore_n (C : gC X own nm cc nL rm) {i : Fin 4} {x : Int64} {ls' : List (Option Value)} (hd : decode cc pc = .ok (.lstore_n i, 1)) (hi : i.val + 1 < ls.length) (he : (gset ls i.val (.long x)).set (i.val + 1) none = ls') (hq : pc + 1 = q) (k : gG X q ls' st hp cl sl) : gG X pc ls (.long x :: st) hp cl sl := by
  subst hq; subst he; exact fun arr H locs hl hh hS => lv_lstore_n C.1 C.2.1 hd rfl (gL_has hl) hi rfl (fun arr' h' => k arr' H locs (gL_store2 (v := .long x) (gset2_st hi) h') hh hS)
theorem g_iinc (C : gC X own nm cc nL rm) {i : Nat} {n : Int} {x v : Int32} {ls' : List (Option Value)} (hd : decode cc pc = .ok (.iinc i n, 3)) (hl0 : ls[i]? = some (some (.int x))) (hv : x + Int32.ofInt n = v) (he : gset ls i (.int v) = ls') (hq : pc + 3 = q) (k : gG X q ls' st hp cl sl) : gG X pc ls st hp cl sl := by
  subst hq; subst he
  have hi : i < ls.length := (List.getElem?_eq_some_iff.mp hl0).1
  intro arr H locs hl hh hS
  obtain ⟨k0, hk0⟩ := List.getElem?_of_mem (gP_mem (b0 := xB X) (sa := xA X) (z := (i, .int x)).mpr ⟨_, hl0, rfl⟩)
  exact lv_iinc C.1 C.2.1 hd (gL_has hl) hk0 hv hi rfl (fun arr' h' => k arr' H locs (gL_store (v := .int v) (gset_st hi) h') hh hS)
end GR
