/-! methods: a contract over the abstract world, its start, its end, its calls -/
def gPc (D : va_G) (cI cJ : ClassId) (b0 : Nat) (sa : Nat → Nat) (av : List Value) (hp : List gA) : Array Value → State → Prop := fun a U =>
  a = (av.map (gv b0 sa)).toArray ∧ gH D cI cJ b0 sa hp U.heap ∧ va_K D vwCl [(cI, .int), (cJ, .long)] U ∧ gN b0 U
def gQc (D : va_G) (cI cJ : ClassId) (b0 : Nat) (sa : Nat → Nat) (P : Option Value → List gA → Prop) : Array Value → State → Outcome → State → Prop := fun _ st o t =>
  (∃ (v : Option Value) (hp' : List gA), o = .returned (v.map (gv b0 sa)) ∧ P v hp' ∧ gH D cI cJ b0 sa hp' t.heap) ∧ va_F (fun q => b0 ≤ q) st t
/-- the method y, called with av in the world hp, makes at most mc cells of ms slots, and comes back with P -/
def gM (y : MethodName) (bytes : ByteArray) (maxL : Nat) (ret : Option FieldType) (fr lo : Nat) (av : List Value) (hp : List gA) (mc ms : Nat) (P : Option Value → List gA → Prop) : Prop :=
  ∀ (l : Launch) (D : va_G) (cI cJ : ClassId) (b0 : Nat) (sa : Nat → Nat), Met l y (Cond.code y bytes maxL ret :: gW) ({ frames := fr, cells := mc, slots := ms, locals := lo }) (gPc D cI cJ b0 sa av hp) (gQc D cI cJ b0 sa P) mc ms (fun q => b0 ≤ q)
/-- how the method that runs may end -/
def gEnd (X : gX) (cc : ByteArray) (ret : Option FieldType) (P : Option Value → List gA → Prop) (mc ms : Nat) : Prop :=
  (∀ (pc : Nat) (ls : List (Option Value)) (v : Int32) (hp : List gA) (cl sl : Nat) (ty : FieldType), decode cc pc = .ok (.ireturn, 1) → ret = some ty → narrow ty (.int v) = .int v → cl ≤ mc → sl ≤ ms → P (some (.int v)) hp → gG X pc ls [.int v] hp cl sl) ∧
  (∀ (pc : Nat) (ls : List (Option Value)) (hp : List gA) (cl sl : Nat), decode cc pc = .ok (.return_, 1) → ret = none → cl ≤ mc → sl ≤ ms → P none hp → gG X pc ls [] hp cl sl) ∧
  (∀ (pc : Nat) (ls : List (Option Value)) (k : Nat) (hp : List gA) (cl sl : Nat) (ty : FieldType), decode cc pc = .ok (.areturn, 1) → ret = some ty → ((∃ n, ty = .object n) ∨ ∃ t, ty = .array t) → cl ≤ mc → sl ≤ ms → P (some (.ref k)) hp → gG X pc ls [.ref k] hp cl sl)
def gent : List Value → List (Option Value)
  | [] => []
  | .long x :: t => some (.long x) :: none :: gent t
  | .double x :: t => some (.double x) :: none :: gent t
  | v :: t => some v :: gent t
theorem gent_len (b0 : Nat) (sa : Nat → Nat) : ∀ av : List Value, (lg_sl (av.map (gv b0 sa))).length = (gent av).length
  | [] => rfl
  | v :: t => by
    have h := gent_len b0 sa t
    cases v <;> simp [gent, lg_sl, gv, Value.category] at h ⊢ <;> omega
theorem gent_at (b0 : Nat) (sa : Nat → Nat) : ∀ (av : List Value) (i : Nat) (v : Value), (gent av)[i]? = some (some v) → (lg_sl (av.map (gv b0 sa)))[i]? = some (.val (gv b0 sa v))
  | [], i, v, h => by simp [gent] at h
  | .long x :: t, 0, v, h => by simp [gent] at h; subst h; simp [lg_sl, gv, Value.category]
  | .long x :: t, 1, v, h => by simp [gent] at h
  | .long x :: t, i + 2, v, h => by
    have h2 : (gent t)[i]? = some (some v) := by simpa [gent] using h
    have h3 := gent_at b0 sa t i v h2
    simpa [lg_sl, gv, Value.category] using h3
  | .double x :: t, 0, v, h => by simp [gent] at h; subst h; simp [lg_sl, gv, Value.category]
  | .double x :: t, 1, v, h => by simp [gent] at h
  | .double x :: t, i + 2, v, h => by
    have h2 : (gent t)[i]? = some (some v) := by simpa [gent] using h
    have h3 := gent_at b0 sa t i v h2
    simpa [lg_sl, gv, Value.category] using h3
  | .int x :: t, 0, v, h => by simp [gent] at h; subst h; simp [lg_sl, gv, Value.category]
  | .int x :: t, i + 1, v, h => by
    have h3 := gent_at b0 sa t i v (by simpa [gent] using h)
    simpa [lg_sl, gv, Value.category] using h3
  | .float x :: t, 0, v, h => by simp [gent] at h; subst h; simp [lg_sl, gv, Value.category]
  | .float x :: t, i + 1, v, h => by
    have h3 := gent_at b0 sa t i v (by simpa [gent] using h)
    simpa [lg_sl, gv, Value.category] using h3
  | .null :: t, 0, v, h => by simp [gent] at h; subst h; simp [lg_sl, gv, Value.category]
  | .null :: t, i + 1, v, h => by
    have h3 := gent_at b0 sa t i v (by simpa [gent] using h)
    simpa [lg_sl, gv, Value.category] using h3
  | .ref x :: t, 0, v, h => by simp [gent] at h; subst h; simp [lg_sl, gv, Value.category]
  | .ref x :: t, i + 1, v, h => by
    have h3 := gent_at b0 sa t i v (by simpa [gent] using h)
    simpa [lg_sl, gv, Value.category] using h3
  | .retAddr x :: t, 0, v, h => by simp [gent] at h; subst h; simp [lg_sl, gv, Value.category]
  | .retAddr x :: t, i + 1, v, h => by
    have h3 := gent_at b0 sa t i v (by simpa [gent] using h)
    simpa [lg_sl, gv, Value.category] using h3
theorem gL_entry (b0 : Nat) (sa : Nat → Nat) (av : List Value) {n : Nat} (h : (gent av).length ≤ n) : gL b0 sa ((lg_sl (av.map (gv b0 sa)) ++ List.replicate (n - (lg_sl (av.map (gv b0 sa))).length) Slot.unset).toArray) (gent av ++ List.replicate (n - (gent av).length) none) := by
  have hlen := gent_len b0 sa av
  obtain ⟨h1, h2, -⟩ := lv_entry (av.map (gv b0 sa)) (n := n) (by rw [hlen]; exact h)
  refine ⟨?_, h2, fun i v hv => ?_⟩
  · rw [h1, List.length_append, List.length_replicate]; omega
  · by_cases hi : i < (gent av).length
    · rw [List.getElem?_append_left hi] at hv
      rw [List.getElem?_toArray, List.getElem?_append_left (by rw [hlen]; exact hi)]
      exact gent_at b0 sa av i v hv
    · rw [List.getElem?_append_right (by omega)] at hv
      have := List.eq_of_mem_replicate (List.mem_of_getElem? hv)
      cases this
/-- a contract out of a walk of the body, for a method that is no native row (the JDK's own methods too) -/
theorem gofW {l : Launch} {y : MethodName} {ws ws' : List Cond} {rm : Room} {Pc : Array Value → State → Prop} {Qc : Array Value → State → Outcome → State → Prop} {mc ms : Nat} {free : Addr → Prop} {cc : ByteArray} {maxL : Nat} {ret : Option FieldType}
    (hy : plainFor y = true) (hw : ws = Cond.code y cc maxL ret :: ws')
    (body : ∀ p e s m args below meth c s₁, BodyLoose p l y (headSpec ws rm) cc maxL ret e s m args below meth c s₁ → c.maxLocals = maxL → Pc args s →
      W p l e (headSpec ws rm).room s m args below meth c s.heap [] 0 0 (MQ below Qc args s mc ms free) (entryFrame m args maxL)) : Met l y ws rm Pc Qc mc ms free := by
  refine MetFree.of_bodySF (code := cc) (maxLocals := maxL) (ret := ret) hy (fun args s m h hn => ?_) (fun p e s m args below meth c s₁ B hml hP _ => ?_)
  · obtain ⟨meth, c, h1, h2, h3, h4, h5, h6, -, -⟩ := Cond.code_spec hn (atoms_spec (ws := ws) h _ (by rw [hw]; exact List.mem_cons_self))
    exact ⟨meth, c, h1, h2, h3, h4, h5, h6⟩
  · have hh0 : s₁.heap = s.heap := by rw [B.state]; rfl
    obtain ⟨t, a1, o, b1, b2, b3⟩ := body p e s m args below meth c s₁ B hml hP s₁ hh0 (Stand.of_body B)
    exact ⟨t, o, a1, b1, b2, ⟨b3.1, b3.2⟩⟩
theorem gM_of {y : MethodName} {bytes : ByteArray} {maxL : Nat} {ret : Option FieldType} {fr lo : Nat} {av : List Value} {hp : List gA} {mc ms : Nat} {P : Option Value → List gA → Prop} {ls0 : List (Option Value)} (hy : plainFor y = true) (hn : (gent av).length ≤ maxL) (hl : gent av ++ List.replicate (maxL - (gent av).length) none = ls0)
    (body : ∀ X : gX, gC X y.cls y.name bytes maxL ({ frames := fr, cells := mc, slots := ms, locals := lo }) → gEnd X bytes ret P mc ms → gG X 0 ls0 [] hp 0 0) : gM y bytes maxL ret fr lo av hp mc ms P := by
  intro l D cI cJ b0 sa
  refine gofW (cc := bytes) (maxL := maxL) (ret := ret) hy rfl ?_
  intro p e s m args below meth c s₁ B hml hv
  obtain ⟨rfl, hH, hK, hN⟩ := hv
  have hts := atoms_spec (ws := Cond.code y bytes maxL ret :: gW) B.pre
  have C : gC ((p, l, e, (headSpec (Cond.code y bytes maxL ret :: gW) { frames := fr, cells := mc, slots := ms, locals := lo }).room), (s, m, (av.map (gv b0 sa)).toArray, below), (meth, c), (D, cI, cJ), (b0, sa), MQ below (gQc D cI cJ b0 sa P) (av.map (gv b0 sa)).toArray s mc ms (fun q => b0 ≤ q)) y.cls y.name bytes maxL ({ frames := fr, cells := mc, slots := ms, locals := lo }) :=
    ⟨B.exec, B.bytes, hml, findClass_of_methodNamed B.named, fun w hw => hts w (List.mem_cons_of_mem _ hw), hK, by show b0 ≤ s.heap.size; rw [hH.1]; omega, B.notSynchronized, rfl, (name_of_methodNamed B.named B.method).1, hN⟩
  have hr := B.returns
  have hlk := B.notSynchronized
  have G := body _ C ⟨?_, ?_, ?_⟩
  · have hE := gL_entry b0 sa av hn
    rw [hl] at hE
    rw [lg_entry_eq]
    exact G _ s.heap [] hE hH va_S.rf
  · intro pc ls v hp1 cl sl ty hd hty hnr h1 h2 hP arr H locs hl1 hh hS
    exact W.widen h1 h2 (W.zret B.exec B.bytes (hr.trans hty) hnr (fun t ht hW => ⟨⟨some (.int v), hp1, rfl, hP, by rw [ht]; exact hh⟩, hS.F ht⟩) hS.2.2 hd hlk)
  · intro pc ls hp1 cl sl hd hty h1 h2 hP arr H locs hl1 hh hS
    exact W.widen h1 h2 (W.vret B.exec B.bytes (hr.trans hty) (fun t ht hW => ⟨⟨none, hp1, rfl, hP, by rw [ht]; exact hh⟩, hS.F ht⟩) hS.2.2 hd hlk)
  · intro pc ls k hp1 cl sl ty hd hty hrt h1 h2 hP arr H locs hl1 hh hS
    exact W.widen h1 h2 (W.aret B.exec B.bytes (hr.trans hty) hrt (Or.inr ⟨_, rfl⟩) (fun t ht hW => ⟨⟨some (.ref k), hp1, rfl, hP, by rw [ht]; exact hh⟩, hS.F ht⟩) hS.2.2 hd hlk)
/-- call sites: by the tables' words -/
def gY (y : MethodName) (bytes : ByteArray) (maxL : Nat) (ret : Option FieldType) (n : Nat) : Prop :=
  Cond.initialized y.cls ∈ gW ∧ Cond.code y bytes maxL ret ∈ gW ∧ (y.cls ≠ "java/lang/invoke/MethodHandle" ∧ y.cls ≠ "java/lang/invoke/VarHandle" ∧ (parseMethodDescriptor y.desc).map (fun d => d.parameters.length) = some n)
def gVi (y : MethodName) : Prop := Cond.instanceMethod y ∈ gW
def gVv (y : MethodName) : Prop := Cond.instanceMethod y ∈ gW ∧ Cond.selects y.cls y y ∈ gW
theorem gGood {w : Cond} (h : w ∈ gW) : GoodIn gW (w :: gW) := fun u hu => by
  rcases List.mem_cons.mp hu with rfl | hu
  · exact ⟨h, gW_good h⟩
  · exact ⟨hu, gW_good hu⟩
theorem gPc_blind (D : va_G) (cI cJ : ClassId) (b0 : Nat) (sa : Nat → Nat) (av : List Value) (hp : List gA) : FrameBlind (gPc D cI cJ b0 sa av hp) := fun a U g mk h =>
  ⟨h.1, h.2.1, va_K.moved (u := U) (U := U.calling g mk a) (Vm.Alike.refl U.vm) h.2.2.1, gN.same (u := U) (U := U.calling g mk a) rfl rfl h.2.2.2⟩
section GCA
variable {X : gX} {own nm : String} {cc : ByteArray} {nL : Nat} {rm : Room} {pc q : Nat} {ls : List (Option Value)} {st stk : List Value} {hp : List gA} {cl sl : Nat}
variable {y : MethodName} {bytes : ByteArray} {maxL n ix b fr lo mc ms : Nat} {ret : Option FieldType} {As : List Value} {P : Option Value → List gA → Prop}
theorem g_back {arr : Array Slot} {H : Heap} {locs : List Loc} {st0 : List Value} {a : Array Value} (hr : va_Run (xp X) (xl X) (xe X) (xR X) (xs X) (xm X) (xa X) (xb X) (xt X) (xc X) H locs cl sl mc ms (F0 (xm X) pc arr st0) (st.map (gv (xB X) (xA X))) (gQc (xD X) (xI X) (xJ X) (xB X) (xA X) P a) (fun q => xB X ≤ q)) (hl : gL (xB X) (xA X) arr ls) (hS : va_S (fun q => xB X ≤ q) (xs X).heap H locs)
    (kk : ∀ (v : Option Value) (hp' : List gA), P v hp' → gG X (pc + 3) ls (v.toList ++ st) hp' (cl + mc) (sl + ms)) : W (xp X) (xl X) (xe X) (xR X) (xs X) (xm X) (xa X) (xb X) (xt X) (xc X) H locs cl sl (xQ X) (F0 (xm X) pc arr st0) := by
  intro T hT Y
  obtain ⟨v, st₀, t, T', L, h0, Y', hL, e1, e2, ⟨⟨v', hp', hv, hp, hb⟩, hz, hk⟩, hst⟩ := hr T hT Y
  have hv' : v = v'.map (gv (xB X) (xA X)) := Outcome.returned.inj hv
  rw [h0] at hz hk
  have hS' : va_S (fun q => xB X ≤ q) (xs X).heap T'.heap (locs ++ L) :=
    ⟨Nat.le_trans hS.1 (by rw [e1]; exact hz), fun q h1 h2 => by rw [e1, hk q (Nat.lt_of_lt_of_le h1 hS.1) h2]; exact hS.2.1 q h1 h2, fun q hq => by
      rcases List.mem_append.mp hq with h | h
      · exact hS.2.2 q h
      · exact hL q h⟩
  obtain ⟨t2, a1, b1⟩ := kk v' hp' hp arr T'.heap (locs ++ L) hl (by rw [e1]; exact hb) hS' T' rfl Y'
  refine ⟨t2, hst t2 ?_, b1⟩
  have e : v.toList ++ st.map (gv (xB X) (xA X)) = (v'.toList ++ st).map (gv (xB X) (xA X)) := by
    rw [hv']; cases v' <;> simp
  rw [show ({ (F0 (xm X) pc arr st0) with pc := (F0 (xm X) pc arr st0).pc + 3, stack := v.toList ++ st.map (gv (xB X) (xA X)) } : JFrame) = F0 (xm X) (pc + 3) arr ((v'.toList ++ st).map (gv (xB X) (xA X))) by rw [e]]
  exact a1
theorem g_cat (b0 : Nat) (sa : Nat → Nat) (h : (st.map fun v => v.category).sum ≤ 8) {m : MethodId} {arr : Array Slot} {s0 : List Value} : 2 * (F0 m pc arr s0).monitorRoom + ((st.map (gv b0 sa)).map fun v => v.category).sum ≤ 8 := by
  refine lv_room ?_
  rw [List.map_map]
  have e : ((fun v => v.category) ∘ gv b0 sa) = fun v : Value => v.category := by funext v; exact gv_cat _ _ v
  rw [e]; exact h
theorem g_callV (C : gC X own nm cc nL rm) (Y : gY y bytes maxL ret n) (V : gVv y) (hl0 : Cond.methodLink own ix y ∈ gW) (hM : gM y bytes maxL ret fr lo (.ref b :: As) hp mc ms P) (hd : decode cc pc = .ok (.invokevirtual ix, 3)) (hq : pc + 3 = q) {ci N : Nat} {T : u_T} {fs : List Value} (ho : hp[b]? = some (.inr (.inr (ci, fs)))) (hci : vwCl[ci]? = some (y.cls, T, N)) (hn : As.length = n) (hls : ls.length = nL) (hfr : fr + 1 ≤ rm.frames) (hlo : 8 + (maxL + 11) + lo ≤ rm.locals) (hw : (st.map fun v => v.category).sum ≤ 8) (hc : cl + mc ≤ rm.cells) (hs2 : sl + ms ≤ rm.slots) (hst : stk = As.reverse ++ .ref b :: st)
    (kk : ∀ (v : Option Value) (hp' : List gA), P v hp' → gG X q ls (v.toList ++ st) hp' (cl + mc) (sl + ms)) : gG X pc ls stk hp cl sl := by
  subst hq; subst hst
  have hR := C.2.2.2.2.2.2.2.2.1
  have hts := fun w (hw : w ∈ gW) => gC_hts C (w := w) hw
  intro arr H locs hl hh hS
  obtain ⟨h1, h2, h3⟩ := Y
  have cb : CallB (xR X) (xs X) (xa X) own ix y bytes maxL ret (Cond.code y bytes maxL ret :: gW) ({ frames := fr, cells := mc, slots := ms, locals := lo }) mc ms n := callB_of n hts (gGood h2) rfl rfl rfl (hts _ h1) (hts _ hl0) h3 (by rw [hR]; exact ⟨hfr, hlo⟩)
  have hp0 : PreV (xs X) H y.cls (xB X + b) (gPc (xD X) (xI X) (xJ X) (xB X) (xA X) (.ref b :: As) hp) (As.map (gv (xB X) (xA X))) :=
    ⟨gPc_blind _ _ _ _ _ _ _, va_recv (gC_K C) (gP1 (hh.2.1 b _ ho (gJ1 hci)).1) hci (q0 := 0) rfl, fun U hU hW => ⟨rfl, by rw [hU]; exact hh, va_K.moved hW.alike (gC_K C), gN.warm hW hS hU C.2.2.2.2.2.2.2.2.2.2⟩⟩
  have hsz : arr.size = nL := hl.1.trans hls
  refine g_back (va_runV (b := xB X + b) (As := As.map (gv (xB X) (xA X))) (rest := st.map (gv (xB X) (xA X))) ⟨C.1, C.2.1, C.2.2.1, C.2.2.2.1, hts⟩ (hM _ _ _ _ _ _) ⟨cb, hts _ V.1, hts _ V.2⟩ hp0 rfl (by rw [List.length_map]; exact hn) hsz ?_ (g_cat _ _ hw) hd (by rw [hR]; exact ⟨hc, hs2⟩)) hl hS kk
  show (As.reverse ++ .ref b :: st).map _ = _
  rw [List.map_append, List.map_reverse]; rfl
theorem g_callS (C : gC X own nm cc nL rm) (Y : gY y bytes maxL ret n) (V : Cond.static y ∈ gW) (hl0 : Cond.methodLink own ix y ∈ gW) (hM : gM y bytes maxL ret fr lo As hp mc ms P) (hd : decode cc pc = .ok (.invokestatic ix, 3)) (hq : pc + 3 = q) (hn : As.length = n) (hls : ls.length = nL) (hfr : fr + 1 ≤ rm.frames) (hlo : 8 + (maxL + 11) + lo ≤ rm.locals) (hw : (st.map fun v => v.category).sum ≤ 8) (hc : cl + mc ≤ rm.cells) (hs2 : sl + ms ≤ rm.slots) (hst : stk = As.reverse ++ st)
    (kk : ∀ (v : Option Value) (hp' : List gA), P v hp' → gG X q ls (v.toList ++ st) hp' (cl + mc) (sl + ms)) : gG X pc ls stk hp cl sl := by
  subst hq; subst hst
  have hR := C.2.2.2.2.2.2.2.2.1
  have hts := fun w (hw : w ∈ gW) => gC_hts C (w := w) hw
  intro arr H locs hl hh hS
  obtain ⟨h1, h2, h3⟩ := Y
  have cb : CallB (xR X) (xs X) (xa X) own ix y bytes maxL ret (Cond.code y bytes maxL ret :: gW) ({ frames := fr, cells := mc, slots := ms, locals := lo }) mc ms n := callB_of n hts (gGood h2) rfl rfl rfl (hts _ h1) (hts _ hl0) h3 (by rw [hR]; exact ⟨hfr, hlo⟩)
  have hp0 : PreS (xs X) H (gPc (xD X) (xI X) (xJ X) (xB X) (xA X) As hp) (As.map (gv (xB X) (xA X))) :=
    ⟨gPc_blind _ _ _ _ _ _ _, fun U hU hW => ⟨rfl, by rw [hU]; exact hh, va_K.moved hW.alike (gC_K C), gN.warm hW hS hU C.2.2.2.2.2.2.2.2.2.2⟩⟩
  have hsz : arr.size = nL := hl.1.trans hls
  refine g_back (va_runS (As := As.map (gv (xB X) (xA X))) (rest := st.map (gv (xB X) (xA X))) ⟨C.1, C.2.1, C.2.2.1, C.2.2.2.1, hts⟩ (hM _ _ _ _ _ _) ⟨cb, hts _ V⟩ hp0 rfl (by rw [List.length_map]; exact hn) hsz ?_ (g_cat _ _ hw) hd (by rw [hR]; exact ⟨hc, hs2⟩)) hl hS kk
  show (As.reverse ++ st).map _ = _
  rw [List.map_append, List.map_reverse]
theorem g_callI (C : gC X own nm cc nL rm) (Y : gY y bytes maxL none n) (V : gVi y) (hyi : y.name = "<init>") (hl0 : Cond.methodLink own ix y ∈ gW) (hM : gM y bytes maxL none fr lo (.ref b :: As) hp mc ms P) (hd : decode cc pc = .ok (.invokespecial ix, 3)) (hq : pc + 3 = q) (hn : As.length = n) (hls : ls.length = nL) (hfr : fr + 1 ≤ rm.frames) (hlo : 8 + (maxL + 11) + lo ≤ rm.locals) (hw : (st.map fun v => v.category).sum ≤ 8) (hc : cl + mc ≤ rm.cells) (hs2 : sl + ms ≤ rm.slots) (hst : stk = As.reverse ++ .ref b :: st)
    (kk : ∀ (v : Option Value) (hp' : List gA), P v hp' → gG X q ls (v.toList ++ st) hp' (cl + mc) (sl + ms)) : gG X pc ls stk hp cl sl := by
  subst hq; subst hst
  have hR := C.2.2.2.2.2.2.2.2.1
  have hts := fun w (hw : w ∈ gW) => gC_hts C (w := w) hw
  intro arr H locs hl hh hS
  obtain ⟨h1, h2, h3⟩ := Y
  have cb : CallB (xR X) (xs X) (xa X) own ix y bytes maxL none (Cond.code y bytes maxL none :: gW) ({ frames := fr, cells := mc, slots := ms, locals := lo }) mc ms n := callB_of n hts (gGood h2) rfl rfl rfl (hts _ h1) (hts _ hl0) h3 (by rw [hR]; exact ⟨hfr, hlo⟩)
  have hp0 : PreS (xs X) H (gPc (xD X) (xI X) (xJ X) (xB X) (xA X) (.ref b :: As) hp) (.ref (xB X + b) :: As.map (gv (xB X) (xA X))) :=
    ⟨gPc_blind _ _ _ _ _ _ _, fun U hU hW => ⟨rfl, by rw [hU]; exact hh, va_K.moved hW.alike (gC_K C), gN.warm hW hS hU C.2.2.2.2.2.2.2.2.2.2⟩⟩
  have hsz : arr.size = nL := hl.1.trans hls
  refine g_back (va_runI (b := xB X + b) (As := As.map (gv (xB X) (xA X))) (rest := st.map (gv (xB X) (xA X))) ⟨C.1, C.2.1, C.2.2.1, C.2.2.2.1, hts⟩ (hM _ _ _ _ _ _) ⟨cb, hyi, hts _ V⟩ hp0 rfl (by rw [List.length_map]; exact hn) hsz ?_ (g_cat _ _ hw) hd (by rw [hR]; exact ⟨hc, hs2⟩)) hl hS kk
  show (As.reverse ++ .ref b :: st).map _ = _
  rw [List.map_append, List.map_reverse]; rfl
theorem g_callIN (C : gC X own nm cc nL rm) (Y : gY y bytes maxL none n) (V : gVi y) (hyi : y.name = "<init>") {host : String} (hl0 : (own, ix, y, host) ∈ gNest) (hM : gM y bytes maxL none fr lo (.ref b :: As) hp mc ms P) (hd : decode cc pc = .ok (.invokespecial ix, 3)) (hq : pc + 3 = q) (hn : As.length = n) (hls : ls.length = nL) (hfr : fr + 1 ≤ rm.frames) (hlo : 8 + (maxL + 11) + lo ≤ rm.locals) (hw : (st.map fun v => v.category).sum ≤ 8) (hc : cl + mc ≤ rm.cells) (hs2 : sl + ms ≤ rm.slots) (hst : stk = As.reverse ++ .ref b :: st)
    (kk : ∀ (v : Option Value) (hp' : List gA), P v hp' → gG X q ls (v.toList ++ st) hp' (cl + mc) (sl + ms)) : gG X pc ls stk hp cl sl := by
  subst hq; subst hst
  have hR := C.2.2.2.2.2.2.2.2.1
  have hts := fun w (hw : w ∈ gW) => gC_hts C (w := w) hw
  intro arr H locs hl hh hS
  obtain ⟨h1, h2, h3⟩ := Y
  have cb : va_CN (xR X) (xs X) (xa X) own ix y host bytes maxL none (Cond.code y bytes maxL none :: gW) ({ frames := fr, cells := mc, slots := ms, locals := lo }) mc ms n := va_cnB n hts (gGood h2) rfl rfl rfl (C.2.2.2.2.2.2.2.2.2.2.1 _ hl0) (hts _ h1) h3 (by rw [hR]; exact ⟨hfr, hlo⟩)
  have hp0 : PreS (xs X) H (gPc (xD X) (xI X) (xJ X) (xB X) (xA X) (.ref b :: As) hp) (.ref (xB X + b) :: As.map (gv (xB X) (xA X))) :=
    ⟨gPc_blind _ _ _ _ _ _ _, fun U hU hW => ⟨rfl, by rw [hU]; exact hh, va_K.moved hW.alike (gC_K C), gN.warm hW hS hU C.2.2.2.2.2.2.2.2.2.2⟩⟩
  have hsz : arr.size = nL := hl.1.trans hls
  refine g_back (va_runIN (b := xB X + b) (As := As.map (gv (xB X) (xA X))) (rest := st.map (gv (xB X) (xA X))) ⟨C.1, C.2.1, C.2.2.1, C.2.2.2.1, hts⟩ (hM _ _ _ _ _ _) ⟨cb, hyi, hts _ V⟩ hp0 rfl (by rw [List.length_map]; exact hn) hsz ?_ (g_cat _ _ hw) hd (by rw [hR]; exact ⟨hc, hs2⟩)) hl hS kk
  show (As.reverse ++ .ref b :: st).map _ = _
  rw [List.map_append, List.map_reverse]; rfl
end GCA
