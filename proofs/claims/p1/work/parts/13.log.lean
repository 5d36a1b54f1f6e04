/-! log: an exception that leaves CardLink.log, and its catching in the law's own log (by program: wip/p1/m_log.py) -/
def gNames : List String := ["java/lang/RuntimeException", "java/lang/Exception"]
theorem lgw1 : ∀ w ∈ (vx_at0 RX7 167 gNSE gNames).filter goodWord, w ∈ gW := fun w hw => gW_of ((by decide +kernel : ∀ w ∈ (vx_at0 RX7 167 gNSE gNames).filter goodWord, w ∈ lw_tbl) w hw) (List.mem_filter.mp hw).2
def gDecl : List Cond := [.declares ⟨"java/lang/RuntimeException", "<init>", "()V"⟩, .declares ⟨"java/lang/Exception", "<init>", "()V"⟩, .declares ⟨"java/lang/Throwable", "<init>", "()V"⟩]
def gDk (U : State) : Prop := ∀ w ∈ gDecl, va_Nw w U
theorem gDk.same {u U : State} (h : u.vm = U.vm) (hD : gDk u) : gDk U := fun w hw => va_Nw.same ((by decide +kernel : ∀ w ∈ gDecl, w.onTables = true) w hw) h (hD w hw)
theorem gDk.warm {s U : State} (hW : s.WarmedH U.vm) (hD : gDk s) : gDk U := fun w hw => va_tabs ((by decide +kernel : ∀ w ∈ gDecl, w.onTables = true) w hw) (rfl : (s.setVm U.vm).vm = U.vm) (Cond.faceAtom_setVm hW.alike w ((by decide +kernel : ∀ w ∈ gDecl, w.faceAtom = true) w hw) (hD w hw))
def gPd (D : va_G) (cI cJ : ClassId) (b0 : Nat) (sa : Nat → Nat) (av : List Value) (hp : List gA) : Array Value → State → Prop := fun a U => gPc D cI cJ b0 sa av hp a U ∧ gDk U
theorem gPd_blind (D : va_G) (cI cJ : ClassId) (b0 : Nat) (sa : Nat → Nat) (av : List Value) (hp : List gA) : FrameBlind (gPd D cI cJ b0 sa av hp) := fun a U g mk h => ⟨gPc_blind _ _ _ _ _ _ _ a U g mk h.1, gDk.same (u := U) (U := U.calling g mk a) rfl h.2⟩
theorem lgw2 : ∀ w ∈ (vx_at0 RX7 167 gNSE gNames).filter (fun w => !goodWord w), w ∈ Cond.castable gNSE gNSE :: gDecl := by decide +kernel
theorem lgw3 : ∀ w ∈ Cond.classLink RX7 165 gNSE :: Cond.initialized gNSE :: vx_at0 RX7 167 gNSE gNames, vx_ot w = true := by decide +kernel
theorem lgw4 : Cond.codeWith yL_log cL_log 5 (some .int) [(0, 10, 13, 13)] ∈ gW := gW_of (List.mem_of_getElem? (i := 999) (by decide +kernel)) rfl
/-- a method that throws an exception of the class NoSuchElementException and never returns, nothing written -/
def gThrows (D : va_G) (cI cJ : ClassId) (b0 : Nat) (sa : Nat → Nat) (hp : List gA) : String → State → State → Prop := fun E st t => E = gNSE ∧ (∃ j : Nat, gH D cI cJ b0 sa (hp ++ List.replicate j gJunk) t.heap) ∧ va_F (fun q => b0 ≤ q) st t
def gMx (y : MethodName) (bytes : ByteArray) (maxL : Nat) (ret : Option FieldType) (fr lo : Nat) (av : List Value) (hp : List gA) : Prop :=
  ∀ (l : Launch) (D : va_G) (cI cJ : ClassId) (b0 : Nat) (sa : Nat → Nat), l.stackTraces = false → vx_Met l y (Cond.code y bytes maxL ret :: gW) ({ frames := fr, cells := 1, slots := 6, locals := lo }) (gPd D cI cJ b0 sa av hp) (fun _ _ _ _ => False) (gThrows D cI cJ b0 sa hp) 1 6 (fun q => b0 ≤ q)
theorem gMx_of {y : MethodName} {bytes : ByteArray} {maxL : Nat} {ret : Option FieldType} {fr lo : Nat} {av : List Value} {hp : List gA} {ls0 : List (Option Value)} (hy : plainName y.cls = true) (hn : (gent av).length ≤ maxL) (hl : gent av ++ List.replicate (maxL - (gent av).length) none = ls0)
    (body : ∀ X : gX, gC X y.cls y.name bytes maxL ({ frames := fr, cells := 1, slots := 6, locals := lo }) → xQ X = vx_MQ (xb X) (fun _ _ _ _ => False) (gThrows (xD X) (xI X) (xJ X) (xB X) (xA X) hp) (xa X) (xs X) 1 6 (fun q => xB X ≤ q) → (∀ z ∈ (xc X).exceptionTable.toList, False) → (xl X).stackTraces = false → gDk (xs X) → gG X 0 ls0 [] hp 0 0) : gMx y bytes maxL ret fr lo av hp := by
  intro l D cI cJ b0 sa htr
  refine vx_ofW (cc := bytes) (maxL := maxL) (ret := ret) hy rfl ?_
  intro p e s m args below meth c s₁ B hml htab hv
  obtain ⟨⟨rfl, hH, hK, hN⟩, hDk⟩ := hv
  have hts := atoms_spec (ws := Cond.code y bytes maxL ret :: gW) B.pre
  have C : gC ((p, l, e, (headSpec (Cond.code y bytes maxL ret :: gW) { frames := fr, cells := 1, slots := 6, locals := lo }).room), (s, m, (av.map (gv b0 sa)).toArray, below), (meth, c), (D, cI, cJ), (b0, sa), vx_MQ below (fun _ _ _ _ => False) (gThrows D cI cJ b0 sa hp) (av.map (gv b0 sa)).toArray s 1 6 (fun q => b0 ≤ q)) y.cls y.name bytes maxL ({ frames := fr, cells := 1, slots := 6, locals := lo }) :=
    ⟨B.exec, B.bytes, hml, findClass_of_methodNamed B.named, fun w hw => hts w (List.mem_cons_of_mem _ hw), hK, by show b0 ≤ s.heap.size; rw [hH.1]; omega, B.notSynchronized, rfl, (name_of_methodNamed B.named B.method).1, hN⟩
  have G := body _ C rfl htab htr hDk
  have hE := gL_entry b0 sa av hn
  rw [hl] at hE
  rw [lg_entry_eq]
  exact G _ s.heap [] hE hH va_S.rf
theorem dX7_log_0 : decode cX7_log 0 = .ok (.iload_n 1, 1) := by decide +kernel
theorem dX7_log_1 : decode cX7_log 1 = .ok (.ifCond .lt 23, 3) := by decide +kernel
theorem dX7_log_4 : decode cX7_log 4 = .ok (.iload_n 1, 1) := by decide +kernel
theorem dX7_log_5 : decode cX7_log 5 = .ok (.aload_n 0, 1) := by decide +kernel
theorem dX7_log_6 : decode cX7_log 6 = .ok (.getfield 21, 3) := by decide +kernel
theorem dX7_log_9 : decode cX7_log 9 = .ok (.invokevirtual 162, 3) := by decide +kernel
theorem dX7_log_12 : decode cX7_log 12 = .ok (.if_icmp .ge 12, 3) := by decide +kernel
theorem dX7_log_24 : decode cX7_log 24 = .ok (.new 165, 3) := by decide +kernel
theorem dX7_log_27 : decode cX7_log 27 = .ok (.dup, 1) := by decide +kernel
theorem dX7_log_28 : decode cX7_log 28 = .ok (.invokespecial 167, 3) := by decide +kernel
theorem dX7_log_31 : decode cX7_log 31 = .ok (.athrow, 1) := by decide +kernel
set_option maxRecDepth 100000 in
set_option maxHeartbeats 4000000 in
theorem c_X7_log_0 {hp : List gA} {p0 p1 : Int32} (H0 : hp[0]? = some (.inr (.inr (7, [.ref 1, .ref 3, .ref 20, .ref 43, .ref 116, .ref 119, .int 0])))) (H3 : hp[3]? = some (.inr (.inr (1, [.ref 4, .ref 6, .ref 8, .ref 10, .ref 12, .ref 14, .ref 16, .ref 18, .int ((-1))])))) (H14 : hp[14]? = some (.inr (.inr (4, [.ref 15, .int 0, .int 30])))) : gMx yX7_log cX7_log 3 (some .int) 6 120 [.ref 0, .int p0, .int p1] hp := by
  refine gMx_of (ls0 := [some (.ref 0), some (.int p0), some (.int p1)]) (by decide +kernel) (Nat.le_of_ble_eq_true rfl) rfl fun X C hQ htab htr hDk => ?_
  have hT : ∀ ls : List (Option Value), ls.length = 3 → gG X 24 ls [] hp 0 0 := by
    intro ls hls arr H locs hl hh hS
    have hR := C.2.2.2.2.2.2.2.2.1
    rw [hQ]
    refine vx_throw0 (own := RX7) (cls := gNSE) (names := gNames) (ik := 165) (ic := 167) (A := fun q => xB X ≤ q) C.1 C.2.1 htr C.2.2.2.1 (by decide +kernel) (by decide +kernel) (gC_hts C t_1005) (gC_hts C t_116)
      (vx_hat (fun w hw => gC_hts C (lgw1 w hw)) lgw2 (vx_c (va_Nw.use rfl C.2.2.2.2.2.2.2.2.2.2.2.1) (fun w hw => va_Nw.use ((by decide +kernel : ∀ w ∈ gDecl, w.onTables = true) w hw) (hDk w hw)))) lgw3 C.2.2.2.2.2.2.2.2.2.2.2.2.1 C.2.2.2.2.2.2.2.2.2.2.2.2.2 hS (by rw [C.2.2.1]; exact hl.1.trans hls) dX7_log_24 dX7_log_27 dX7_log_28 dX7_log_31
      (fun z hz => (htab z hz).elim) (by rw [hR]; exact (Nat.le_of_ble_eq_true rfl)) (by rw [hR]; exact (Nat.le_of_ble_eq_true rfl)) (by rw [hR]; exact (Nat.le_of_ble_eq_true rfl)) (by rw [hR]; exact (Nat.le_of_ble_eq_true rfl)) C.2.2.2.2.2.2.2.1 (fun t hvm hz hq => ⟨rfl, ⟨t.heap.size - H.size, gH_junk hh (by omega) hq⟩, Nat.le_trans hS.1 hz, fun q h1 h2 => (hq q (Nat.lt_of_lt_of_le h1 hS.1)).trans (hS.2.1 q h1 h2)⟩) hS.2.2 (Nat.le_refl _) (Nat.le_refl _)
  refine g_iload_n (q := 1) C dX7_log_0 rfl rfl ?_
  refine g_if_lt (t := 24) (q := 4) C dX7_log_1 (by decide) rfl (fun c_1 => ?_) (fun c_1 => ?_)
  · -- to 24
    exact hT _ rfl
  · -- to 4
    refine g_iload_n (q := 5) C dX7_log_4 rfl rfl ?_
    refine g_aload_n (q := 6) C dX7_log_5 rfl rfl ?_
    refine g_getfield (q := 9) C fX7_21 dX7_log_6 rfl H0 rfl ?_
    refine g_callVi (q := 12) (As := []) C gyX1_kept gvX1_kept t_927 (c_X1_kept H3 H14) dX7_log_9 rfl H3 rfl rfl rfl (Nat.le_of_ble_eq_true rfl) (Nat.le_of_ble_eq_true rfl) (Nat.le_of_ble_eq_true rfl) (Nat.le_of_ble_eq_true rfl) (Nat.le_of_ble_eq_true rfl) rfl ?_
    refine g_icmp_ge_t (t := 24) C dX7_log_12 (by decide) (by rw [Int32.le_iff_toInt_le]; rw [Int32.lt_iff_toInt_lt] at c_1; omega) ?_
    exact hT _ rfl
theorem dL_log_0 : decode cL_log 0 = .ok (.aload_n 3, 1) := by decide +kernel
theorem dL_log_1 : decode cL_log 1 = .ok (.iconst 0, 1) := by decide +kernel
theorem dL_log_2 : decode cL_log 2 = .ok (.aload_n 0, 1) := by decide +kernel
theorem dL_log_3 : decode cL_log 3 = .ok (.iload_n 1, 1) := by decide +kernel
theorem dL_log_4 : decode cL_log 4 = .ok (.iload_n 2, 1) := by decide +kernel
theorem dL_log_5 : decode cL_log 5 = .ok (.invokevirtual 7, 3) := by decide +kernel
theorem dL_log_8 : decode cL_log 8 = .ok (.i2l, 1) := by decide +kernel
theorem dL_log_9 : decode cL_log 9 = .ok (.lastore, 1) := by decide +kernel
theorem dL_log_10 : decode cL_log 10 = .ok (.goto 7, 3) := by decide +kernel
theorem dL_log_13 : decode cL_log 13 = .ok (.astore 4, 2) := by decide +kernel
theorem dL_log_15 : decode cL_log 15 = .ok (.iconst 1, 1) := by decide +kernel
theorem dL_log_16 : decode cL_log 16 = .ok (.ireturn, 1) := by decide +kernel
theorem dL_log_17 : decode cL_log 17 = .ok (.iconst 0, 1) := by decide +kernel
theorem dL_log_18 : decode cL_log 18 = .ok (.ireturn, 1) := by decide +kernel
theorem lgw5 : Cond.classLink RL 13 gNSE ∈ gW := gW_of (List.mem_of_getElem? (i := 1000) (by decide +kernel)) rfl
theorem lgw6 : Cond.methodLink RL 7 yX7_log ∈ gW := t_1001
set_option maxRecDepth 100000 in
set_option maxHeartbeats 4000000 in
/-- the law's log(x, p0, p1, out) on a new object: 1, and an exception more lies there -/
theorem c_L_log_0 {hp : List gA} {p0 p1 : Int32} {oa : Nat} (H0 : hp[0]? = some (.inr (.inr (7, [.ref 1, .ref 3, .ref 20, .ref 43, .ref 116, .ref 119, .int 0])))) (H3 : hp[3]? = some (.inr (.inr (1, [.ref 4, .ref 6, .ref 8, .ref 10, .ref 12, .ref 14, .ref 16, .ref 18, .int ((-1))])))) (H14 : hp[14]? = some (.inr (.inr (4, [.ref 15, .int 0, .int 30])))) : ∀ (l : Launch) (D : va_G) (cI cJ : ClassId) (b0 : Nat) (sa : Nat → Nat), l.stackTraces = false →
    Met l yL_log (Cond.codeWith yL_log cL_log 5 (some .int) [(0, 10, 13, 13)] :: gW) ({ frames := 8, cells := 1, slots := 6, locals := 160 }) (gPd D cI cJ b0 sa [.ref 0, .int p0, .int p1, .ref oa] hp) (gQc D cI cJ b0 sa (fun v h => ∃ z, v = some (.int z) ∧ (z = 1 ∧ ∃ j : Nat, h = hp ++ List.replicate j gJunk))) 1 6 (fun q => b0 ≤ q) := by
  intro l D cI cJ b0 sa htr
  refine va_MetW (cc := cL_log) (maxL := 5) (ret := some .int) (by decide +kernel) rfl ?_
  intro p e s m args below meth c s₁ B hml hv
  obtain ⟨⟨rfl, hH, hK, hN⟩, hDk⟩ := hv
  have hts := atoms_spec (ws := Cond.codeWith yL_log cL_log 5 (some .int) [(0, 10, 13, 13)] :: gW) B.pre
  have htab : c.exceptionTable.toList = tableOf [(0, 10, 13, 13)] := vx_table (x := yL_log) (y := yL_log) (bytes := cL_log) (maxL' := 5) (ret' := some .int) B (hts _ List.mem_cons_self)
  have hr := B.returns
  have hlk := B.notSynchronized
  obtain ⟨X, hX⟩ : ∃ X : gX, X = ((p, l, e, (headSpec (Cond.codeWith yL_log cL_log 5 (some .int) [(0, 10, 13, 13)] :: gW) { frames := 8, cells := 1, slots := 6, locals := 160 }).room), (s, m, ([Value.ref 0, .int p0, .int p1, .ref oa].map (gv b0 sa)).toArray, below), (meth, c), (D, cI, cJ), (b0, sa), MQ below (gQc D cI cJ b0 sa (fun v h => ∃ z, v = some (.int z) ∧ (z = 1 ∧ ∃ j : Nat, h = hp ++ List.replicate j gJunk))) ([Value.ref 0, .int p0, .int p1, .ref oa].map (gv b0 sa)).toArray s 1 6 (fun q => b0 ≤ q)) := ⟨_, rfl⟩
  have C : gC X RL "log" cL_log 5 ({ frames := 8, cells := 1, slots := 6, locals := 160 }) := by
    rw [hX]
    exact ⟨B.exec, B.bytes, hml, findClass_of_methodNamed B.named, fun w hw => hts w (List.mem_cons_of_mem _ hw), hK, by show b0 ≤ s.heap.size; rw [hH.1]; omega, B.notSynchronized, rfl, (name_of_methodNamed B.named B.method).1, hN⟩
  have hcat : ∀ (arr : Array Slot) (H : Heap) (locs : List Loc) (j : Nat), gL b0 sa arr [some (.ref 0), some (.int p0), some (.int p1), some (.ref oa), none] → gH D cI cJ b0 sa (hp ++ List.replicate j gJunk) H → va_S (fun q => b0 ≤ q) s.heap H locs → ∀ q : Nat,
      W p l e (headSpec (Cond.codeWith yL_log cL_log 5 (some .int) [(0, 10, 13, 13)] :: gW) { frames := 8, cells := 1, slots := 6, locals := 160 }).room s m ([Value.ref 0, .int p0, .int p1, .ref oa].map (gv b0 sa)).toArray below meth c H locs 1 6 (MQ below (gQc D cI cJ b0 sa (fun v h => ∃ z, v = some (.int z) ∧ (z = 1 ∧ ∃ j : Nat, h = hp ++ List.replicate j gJunk))) ([Value.ref 0, .int p0, .int p1, .ref oa].map (gv b0 sa)).toArray s 1 6 (fun q => b0 ≤ q)) (F0 m 13 arr [.ref q]) := by
    intro arr H locs j hl hh hS q
    refine lv_astore B.exec B.bytes dL_log_13 (gL_has hl) (Nat.le_of_ble_eq_true rfl) rfl (fun arr' h' => ?_)
    refine lv_iconst (v := 1) B.exec B.bytes dL_log_15 (by decide) ?_
    exact W.iret B.exec B.bytes hr (fun t ht hW => ⟨⟨some (.int 1), _, rfl, ⟨1, rfl, rfl, j, rfl⟩, by rw [ht]; exact hh⟩, hS.F ht⟩) hS.2.2 dL_log_16 hlk
  have G5 : gG X 5 [some (.ref 0), some (.int p0), some (.int p1), some (.ref oa), none] [.int p1, .int p0, .ref 0, .int 0, .ref oa] hp 0 0 := by
    have hts2 := fun w (hw : w ∈ gW) => gC_hts C (w := w) hw
    rw [hX] at C hts2 ⊢
    intro arr H locs hl hh hS
    obtain ⟨h1, h2, h3⟩ := gyX7_log
    have cb : CallB (headSpec (Cond.codeWith yL_log cL_log 5 (some .int) [(0, 10, 13, 13)] :: gW) { frames := 8, cells := 1, slots := 6, locals := 160 }).room s ([Value.ref 0, .int p0, .int p1, .ref oa].map (gv b0 sa)).toArray RL 7 yX7_log cX7_log 3 (some .int) (Cond.code yX7_log cX7_log 3 (some .int) :: gW) ({ frames := 6, cells := 1, slots := 6, locals := 120 }) 1 6 2 := callB_of 2 hts2 (gGood h2) rfl rfl rfl (hts2 _ h1) (hts2 _ lgw6) h3 ⟨Nat.le_of_ble_eq_true rfl, Nat.le_of_ble_eq_true rfl⟩
    have hp0 : PreV s H RX7 (b0 + 0) (gPd D cI cJ b0 sa [.ref 0, .int p0, .int p1] hp) ([Value.int p0, .int p1].map (gv b0 sa)) :=
      ⟨gPd_blind _ _ _ _ _ _ _, va_recv (gC_K C) (gP1 (X := ((p, l, e, (headSpec (Cond.codeWith yL_log cL_log 5 (some .int) [(0, 10, 13, 13)] :: gW) { frames := 8, cells := 1, slots := 6, locals := 160 }).room), (s, m, ([Value.ref 0, .int p0, .int p1, .ref oa].map (gv b0 sa)).toArray, below), (meth, c), (D, cI, cJ), (b0, sa), fun _ => True)) (hh.2 0 _ H0 (gJ1 (z := (RX7, TX7, 7)) rfl))) (ci := 7) (q := (RX7, TX7, 7)) rfl (q0 := 0) rfl, fun U hU hW => ⟨⟨rfl, by rw [hU]; exact hh, va_K.moved hW.alike hK, gN.warm hW hS hU hN⟩, gDk.warm hW hDk⟩⟩
    intro T hT Y
    rcases vx_runV (b := b0 + 0) (As := [Value.int p0, .int p1].map (gv b0 sa)) (rest := [Value.int 0, .ref oa].map (gv b0 sa)) (g := F0 m 5 arr ([Value.int p1, .int p0, .ref 0, .int 0, .ref oa].map (gv b0 sa))) ⟨B.exec, B.bytes, hml, findClass_of_methodNamed B.named, hts2⟩ (c_X7_log_0 H0 H3 H14 l D cI cJ b0 sa htr) ⟨cb, hts2 _ gvX7_log.1, hts2 _ gvX7_log.2⟩ hp0 rfl rfl hl.1 rfl (g_cat b0 sa (Nat.le_of_ble_eq_true rfl)) dL_log_5 ⟨Nat.le_of_ble_eq_true rfl, Nat.le_of_ble_eq_true rfl⟩ T hT Y with ⟨v, st₀, t, T', L, z0, Y', hL, e1, e2, hF, -⟩ | ⟨q, st₀, t, T', L, E, ce, z0, Y', hL, e1, e2, ⟨hE, ⟨j, hj⟩, hz, hk⟩, hce, hcv, hcl, st⟩
    · exact hF.elim
    · rw [z0] at hz hk
      subst hE
      have hS' : va_S (fun q => b0 ≤ q) s.heap T'.heap (locs ++ L) :=
        ⟨Nat.le_trans hS.1 (by rw [e1]; exact hz), fun q h1 h2 => by rw [e1, hk q (Nat.lt_of_lt_of_le h1 hS.1) h2]; exact hS.2.1 q h1 h2, fun q hq => by
          rcases List.mem_append.mp hq with h | h
          · exact hS.2.2 q h
          · exact hL q h⟩
      obtain ⟨t2, a1, b1⟩ := vx_catch (own := RL) (name := gNSE) (E := gNSE) (ls := arr) (rest := [Value.int 0, .ref oa].map (gv b0 sa)) (pc := 5) (findClass_of_methodNamed B.named) [] ⟨0, 10, 13, 13⟩ [] htab (fun z hz => nomatch hz) (by decide) (by decide) (hts2 _ lgw5) (va_Nw.use rfl hN.2.1) (by rw [e1]; exact hce) hcv hcl (hcat arr T'.heap (locs ++ L) j hl (by rw [e1]; exact hj) hS' q) T' rfl Y'
      exact ⟨t2, st.trans a1, b1⟩
  have G : gG X 0 [some (.ref 0), some (.int p0), some (.int p1), some (.ref oa), none] [] hp 0 0 := by
    refine g_aload_n (q := 1) C dL_log_0 rfl rfl ?_
    refine g_iconst (v := 0) (q := 2) C dL_log_1 (by decide) rfl ?_
    refine g_aload_n (q := 3) C dL_log_2 rfl rfl ?_
    refine g_iload_n (q := 4) C dL_log_3 rfl rfl ?_
    refine g_iload_n (q := 5) C dL_log_4 rfl rfl ?_
    exact G5
  rw [hX] at G
  have hE := gL_entry b0 sa [.ref 0, .int p0, .int p1, .ref oa] (n := 5) (Nat.le_of_ble_eq_true rfl)
  rw [lg_entry_eq]
  exact G _ s.heap [] hE hH va_S.rf
