/-! LOG AT THE LAW'S LEVEL: an exception that leaves CardLink.log is caught; or the answer is written (by program: wip/p2u/m_llog.py) -/
def gNames : List String := ["java/lang/RuntimeException", "java/lang/Exception"]
theorem lgw1 : ∀ w ∈ (vx_at0 RX7 167 gNSE gNames).filter goodWord, w ∈ gW := fun w hw => gW_of ((by decide +kernel : ∀ w ∈ (vx_at0 RX7 167 gNSE gNames).filter goodWord, w ∈ lw_tbl) w hw) (List.mem_filter.mp hw).2
def gDecl : List Cond := [.declares ⟨"java/lang/RuntimeException", "<init>", "()V"⟩, .declares ⟨"java/lang/Exception", "<init>", "()V"⟩, .declares ⟨"java/lang/Throwable", "<init>", "()V"⟩]
def gDk (U : State) : Prop := ∀ w ∈ gDecl, va_Nw w U
theorem gDk.same {u U : State} (h : u.vm = U.vm) (hD : gDk u) : gDk U := fun w hw => va_Nw.same ((by decide +kernel : ∀ w ∈ gDecl, w.onTables = true) w hw) h (hD w hw)
theorem gDk.warm {s U : State} (hW : s.WarmedH U.vm) (hD : gDk s) : gDk U := fun w hw => va_tabs ((by decide +kernel : ∀ w ∈ gDecl, w.onTables = true) w hw) (rfl : (s.setVm U.vm).vm = U.vm) (Cond.faceAtom_setVm hW.alike w ((by decide +kernel : ∀ w ∈ gDecl, w.faceAtom = true) w hw) (hD w hw))
def gPd (D : va_G) (cI cJ : ClassId) (b0 : Nat) (sa : Nat → Nat) (av : List Value) (hp : List gA) : Array Value → State → Prop := fun a U => gPc D cI cJ b0 sa av hp a U ∧ gDk U
theorem gPd_blind (D : va_G) (cI cJ : ClassId) (b0 : Nat) (sa : Nat → Nat) (av : List Value) (hp : List gA) : FrameBlind (gPd D cI cJ b0 sa av hp) := fun a U g mk h => ⟨gPc_blind _ _ _ _ _ _ _ a U g mk h.1, gDk.same (u := U) (U := U.calling g mk a) rfl h.2⟩
theorem lgw2 : ∀ w ∈ (vx_at0 RX7 167 gNSE gNames).filter (fun w => !goodWord w), w ∈ Cond.castable gNSE gNSE :: gDecl := by decide +kernel
theorem lgw3 : ∀ w ∈ Cond.classLink RX7 165 gNSE :: Cond.initialized gNSE :: vx_at0 RX7 167 gNSE gNames, vx_ot w = true := by decide +kernel
theorem lgw4 : Cond.codeWith yL_log cL_log 5 (some .int) [(0, 10, 13, 13)] ∈ gW := gW_of (List.mem_of_getElem? (i := 999) (by decide +kernel)) rfl
theorem lgw5 : Cond.classLink RL 13 gNSE ∈ gW := gW_of (List.mem_of_getElem? (i := 1000) (by decide +kernel)) rfl
theorem lgw6 : Cond.methodLink RL 7 yX7_log ∈ gW := t_1001
/-- a method that throws an exception of the class NoSuchElementException and never returns, nothing written; the new cells' sizes are the caller's to tell -/
def gThrows (D : va_G) (cI cJ : ClassId) (b0 : Nat) (sa : Nat → Nat) (hp : List gA) : String → State → State → Prop := fun E st t => E = gNSE ∧ (∃ j : Nat, t.heap.size = b0 + hp.length + j ∧ ((∀ q : Nat, b0 + hp.length ≤ q → ∀ cell, t.heap[q]? = some cell → cell.slots.size ≤ 6) → gH D cI cJ b0 sa (hp ++ List.replicate j gJunk) t.heap)) ∧ va_F (fun q => b0 ≤ q) st t
def gMx (y : MethodName) (bytes : ByteArray) (maxL : Nat) (ret : Option FieldType) (fr lo : Nat) (av : List Value) (hp : List gA) : Prop :=
  ∀ (l : Launch) (D : va_G) (cI cJ : ClassId) (b0 : Nat) (sa : Nat → Nat), l.stackTraces = false → vx_Met l y (Cond.code y bytes maxL ret :: gW) ({ frames := fr, cells := 1, slots := 6, locals := lo }) (gPd D cI cJ b0 sa av hp) (fun _ _ _ _ => False) (gThrows D cI cJ b0 sa hp) 1 6 (fun q => b0 ≤ q)
theorem gMx_of {y : MethodName} {bytes : ByteArray} {maxL : Nat} {ret : Option FieldType} {fr lo : Nat} {av : List Value} {hp : List gA} {ls0 : List (Option Value)} (hy : plainName y.cls = true) (hn : (gent av).length ≤ maxL) (hl : gent av ++ List.replicate (maxL - (gent av).length) none = ls0)
    (body : ∀ X : gX, gC X y.cls y.name bytes maxL ({ frames := fr, cells := 1, slots := 6, locals := lo }) → xQ X = vx_MQ (xb X) (fun _ _ _ _ => False) (gThrows (xD X) (xI X) (xJ X) (xB X) (xA X) hp) (xa X) (xs X) 1 6 (fun q => xB X ≤ q) → (∀ z ∈ (xc X).exceptionTable.toList, False) → (xl X).stackTraces = false → gDk (xs X) → gG X 0 ls0 [] hp 0 0) : gMx y bytes maxL ret fr lo av hp := by
  intro l D cI cJ b0 sa htr
  refine vx_ofW (cc := bytes) (maxL := maxL) (ret := ret) hy rfl ?_
  intro p e s m args below meth c s₁ B hml htab hv
  obtain ⟨⟨rfl, hH, hK, hN⟩, hDk⟩ := hv
  have hts := atoms_spec (ws := Cond.code y bytes maxL ret :: gW) B.pre
  have C : gC ((p, l, e, (headSpec (Cond.code y bytes maxL ret :: gW) { frames := fr, cells := 1, slots := 6, locals := lo }).room), (s, m, (av.map (gv b0 sa)).toArray, below), (meth, c), (D, cI, cJ), (b0, sa), vx_MQ below (fun _ _ _ _ => False) (gThrows D cI cJ b0 sa hp) (av.map (gv b0 sa)).toArray s 1 6 (fun q => b0 ≤ q)) y.cls y.name bytes maxL ({ frames := fr, cells := 1, slots := 6, locals := lo }) :=
    ⟨B.exec, B.bytes, hml, findClass_of_methodNamed B.named, fun w hw => hts w (List.mem_cons_of_mem _ hw), hK, by show b0 ≤ s.heap.size; rw [hH.1]; omega, B.notSynchronized, rfl, (name_of_methodNamed B.named B.method).1, hN⟩
  have G := body _ C rfl htab htr hDk
  have hE := gL_entry b0 sa av hn
  rw [hl] at hE
  rw [lg_entry_eq]
  exact G _ s.heap [] hE hH va_S.rf
theorem gsum_mem {β : Type} {f : β → Nat} : ∀ {l : List β} {x : β}, x ∈ l → f x ≤ (l.map f).sum
  | [], _, h => by cases h
  | a :: l, x, h => by
    rw [List.map_cons, List.sum_cons]
    rcases List.mem_cons.mp h with rfl | h
    · omega
    · have := gsum_mem (f := f) h
      omega
section LOGX
variable {T : tyT} {R : Nat} {J : Nat → Prop} {Bc Bs : Nat} {M : gMd} {z : Nat → Nat} {hp : List gA}
set_option maxRecDepth 100000 in
set_option maxHeartbeats 4000000 in
theorem tX7_log_x {l : List Int32} {a0 a1 : Int32} (H : tyS T R J Bc Bs M z hp) (g2 : gRw hp 14 (14 + 1) 30 l) (hb : ¬ (¬ a0 < 0 ∧ ¬ nI l.length ≤ a0 ∧ ¬ a1 < 0 ∧ a1 ≤ 5)) : gMx yX7_log cX7_log 3 (some .int) 6 120 [.ref 0, .int a0, .int a1] hp := by
  refine gMx_of (ls0 := [some (.ref 0), some (.int a0), some (.int a1)]) (by decide +kernel) (Nat.le_of_ble_eq_true rfl) rfl fun X C hQ htab htr hDk => ?_
  have hT : ∀ ls : List (Option Value), ls.length = 3 → gG X 24 ls [] hp 0 0 := by
    intro ls hls arr H locs hl hh hS
    have hR := C.2.2.2.2.2.2.2.2.1
    rw [hQ]
    refine vx_throw0 (own := RX7) (cls := gNSE) (names := gNames) (ik := 165) (ic := 167) (A := fun q => xB X ≤ q) C.1 C.2.1 htr C.2.2.2.1 (by decide +kernel) (by decide +kernel) (gC_hts C t_1005) (gC_hts C t_116)
      (vx_hat (fun w hw => gC_hts C (lgw1 w hw)) lgw2 (vx_c (va_Nw.use rfl C.2.2.2.2.2.2.2.2.2.2.2.1) (fun w hw => va_Nw.use ((by decide +kernel : ∀ w ∈ gDecl, w.onTables = true) w hw) (hDk w hw)))) lgw3 C.2.2.2.2.2.2.2.2.2.2.2.2.1 C.2.2.2.2.2.2.2.2.2.2.2.2.2.1 hS (by rw [C.2.2.1]; exact hl.1.trans hls) dX7_log_24 dX7_log_27 dX7_log_28 dX7_log_31
      (fun z hz => (htab z hz).elim) (by rw [hR]; exact (Nat.le_of_ble_eq_true rfl)) (by rw [hR]; exact (Nat.le_of_ble_eq_true rfl)) (by rw [hR]; exact (Nat.le_of_ble_eq_true rfl)) (by rw [hR]; exact (Nat.le_of_ble_eq_true rfl)) C.2.2.2.2.2.2.2.1 (fun t hvm hz hq => ⟨rfl, ⟨t.heap.size - H.size, by have e := hh.1; omega, fun h6 => gH_junk hh (by omega) hq (fun q h1 cell hc => h6 q (by have e := hh.1; omega) cell hc)⟩, Nat.le_trans hS.1 hz, fun q h1 h2 => (hq q (Nat.lt_of_lt_of_le h1 hS.1)).trans (hS.2.1 q h1 h2)⟩) hS.2.2 (Nat.le_refl _) (Nat.le_refl _)
  obtain ⟨x6_1, q4_1, q5_1, o1, -, -, -⟩ := tyG7 H (rfl : tyK 0 = (0, 0))
  obtain ⟨x8_1, o3⟩ := tyG1 H (rfl : tyK 3 = (3, 0))
  refine g_iload_n (q := 1) C dX7_log_0 rfl rfl ?_
  refine g_if_lt (t := 24) (q := 4) C dX7_log_1 (by decide) rfl (fun c1 => hT _ rfl) (fun c1 => ?_)
  refine g_iload_n (q := 5) C dX7_log_4 rfl rfl ?_
  refine g_aload_n (q := 6) C dX7_log_5 rfl rfl ?_
  refine g_getfield (v := .ref 3) (q := 9) C fX7_21 dX7_log_6 rfl o1 rfl ?_
  refine g_callVi (q := 12) (As := []) C gyX1_kept gvX1_kept t_927 (tX1_kept_x H g2) dX7_log_9 rfl o3 rfl rfl rfl (Nat.le_of_ble_eq_true rfl) (Nat.le_of_ble_eq_true rfl) (Nat.le_of_ble_eq_true rfl) (Nat.le_of_ble_eq_true rfl) (Nat.le_of_ble_eq_true rfl) rfl ?_
  refine g_icmp_ge (t := 24) (q := 15) C dX7_log_12 (by decide) rfl (fun c2 => hT _ rfl) (fun c2 => ?_)
  refine g_iload_n (q := 16) C dX7_log_15 rfl rfl ?_
  refine g_if_lt (t := 24) (q := 19) C dX7_log_16 (by decide) rfl (fun c3 => hT _ rfl) (fun c3 => ?_)
  refine g_iload_n (q := 20) C dX7_log_19 rfl rfl ?_
  refine g_iconst (v := 5) (q := 21) C dX7_log_20 (by decide) rfl ?_
  refine g_icmp_le (t := 32) (q := 24) C dX7_log_21 (by decide) rfl (fun c4 => absurd ⟨c1, c2, c3, c4⟩ hb) (fun c4 => hT _ rfl)
/-- what a call of the law's log leaves -/
def tyLog (T : tyT) (R Bc Bs : Nat) (M : gMd) (z : Nat → Nat) : Option Value → List gA → Prop := fun v h => ∃ z1, v = some (.int z1) ∧ ∃ J', tyS T R J' (Bc + 1) (Bs + 6) M z h
theorem tyS.more {Bc' Bs' : Nat} (H : tyS T R J Bc Bs M z hp) (h1 : Bc ≤ Bc') (h2 : Bs ≤ Bs') (h3 : Bc' ≤ 200000) (h4 : Bs' ≤ 1000000) : tyS T R J Bc' Bs' M z hp := by
  obtain ⟨a1, a2, a3, a4, b1, b2, b3, b4, b5⟩ := H
  exact ⟨a1, a2, a3, a4, b1, by omega, by omega, h3, h4⟩

theorem dL_log_0 : decode cL_log 0 = .ok (.aload_n 3, 1) := by decide +kernel
theorem dL_log_1 : decode cL_log 1 = .ok (.iconst 0, 1) := by decide +kernel
theorem dL_log_2 : decode cL_log 2 = .ok (.aload_n 0, 1) := by decide +kernel
theorem dL_log_3 : decode cL_log 3 = .ok (.iload_n 1, 1) := by decide +kernel
theorem dL_log_4 : decode cL_log 4 = .ok (.iload_n 2, 1) := by decide +kernel
theorem dL_log_5 : decode cL_log 5 = .ok (.invokevirtual 7, 3) := by decide +kernel
theorem dL_log_8 : decode cL_log 8 = .ok (.i2l, 1) := by decide +kernel
theorem dL_log_9 : decode cL_log 9 = .ok (.lastore, 1) := by decide +kernel
theorem dL_log_10 : decode cL_log 10 = .ok (.goto 7, 3) := by decide +kernel
theorem dL_log_13 : decode cL_log 13 = .ok (.astore 4, 2) := by decide +kernel
theorem dL_log_15 : decode cL_log 15 = .ok (.iconst 1, 1) := by decide +kernel
theorem dL_log_16 : decode cL_log 16 = .ok (.ireturn, 1) := by decide +kernel
theorem dL_log_17 : decode cL_log 17 = .ok (.iconst 0, 1) := by decide +kernel
theorem dL_log_18 : decode cL_log 18 = .ok (.ireturn, 1) := by decide +kernel
set_option maxRecDepth 100000 in
set_option maxHeartbeats 4000000 in
/-- the law's log(x, p0, p1, out): it returns; an exception more may lie there -/
theorem c_L_log {p0 p1 : Int32} (H : tyS T R J Bc Bs M z hp) (hBc : Bc + 1 ≤ 200000) (hBs : Bs + 6 ≤ 1000000) : ∀ (l : Launch) (D : va_G) (cI cJ : ClassId) (b0 : Nat) (sa : Nat → Nat), l.stackTraces = false →
    Met l yL_log (Cond.codeWith yL_log cL_log 5 (some .int) [(0, 10, 13, 13)] :: gW) ({ frames := 8, cells := 1, slots := 6, locals := 160 }) (gPd D cI cJ b0 sa [.ref 0, .int p0, .int p1, .ref 139] hp) (gQc D cI cJ b0 sa (tyLog T R Bc Bs M z)) 1 6 (fun q => b0 ≤ q) := by
  intro l D cI cJ b0 sa htr
  refine va_MetW (cc := cL_log) (maxL := 5) (ret := some .int) (by decide +kernel) rfl ?_
  intro p e s m args below meth c s₁ B hml hv
  obtain ⟨⟨rfl, hH, hK, hN⟩, hDk⟩ := hv
  have hts := atoms_spec (ws := Cond.codeWith yL_log cL_log 5 (some .int) [(0, 10, 13, 13)] :: gW) B.pre
  have htab : c.exceptionTable.toList = tableOf [(0, 10, 13, 13)] := vx_table (x := yL_log) (y := yL_log) (bytes := cL_log) (maxL' := 5) (ret' := some .int) B (hts _ List.mem_cons_self)
  have hr := B.returns
  have hlk := B.notSynchronized
  obtain ⟨X, hX⟩ : ∃ X : gX, X = ((p, l, e, (headSpec (Cond.codeWith yL_log cL_log 5 (some .int) [(0, 10, 13, 13)] :: gW) { frames := 8, cells := 1, slots := 6, locals := 160 }).room), (s, m, ([Value.ref 0, .int p0, .int p1, .ref 139].map (gv b0 sa)).toArray, below), (meth, c), (D, cI, cJ), (b0, sa), MQ below (gQc D cI cJ b0 sa (tyLog T R Bc Bs M z)) ([Value.ref 0, .int p0, .int p1, .ref 139].map (gv b0 sa)).toArray s 1 6 (fun q => b0 ≤ q)) := ⟨_, rfl⟩
  have C : gC X RL "log" cL_log 5 ({ frames := 8, cells := 1, slots := 6, locals := 160 }) := by
    rw [hX]
    exact ⟨B.exec, B.bytes, hml, findClass_of_methodNamed B.named, fun w hw => hts w (List.mem_cons_of_mem _ hw), hK, by show b0 ≤ s.heap.size; rw [hH.1]; omega, B.notSynchronized, rfl, (name_of_methodNamed B.named B.method).1, hN⟩
  have hret : ∀ (pc : Nat) (v : Int32) (ls : List (Option Value)) (hp1 : List gA) (cl sl : Nat), decode cL_log pc = .ok (.ireturn, 1) → cl ≤ 1 → sl ≤ 6 → (∃ J', tyS T R J' (Bc + 1) (Bs + 6) M z hp1) → gG X pc ls [.int v] hp1 cl sl := by
    intro pc v ls hp1 cl sl hd h1 h2 hP
    rw [hX]
    intro arr H locs hl1 hh hS
    exact W.widen h1 h2 (W.iret B.exec B.bytes hr (fun t ht hW => ⟨⟨some (.int v), hp1, rfl, ⟨v, rfl, hP⟩, by rw [ht]; exact hh⟩, hS.F ht⟩) hS.2.2 hd hlk)
  obtain ⟨x6_1, q4_1, q5_1, o1, -, -, -⟩ := tyG7 H (rfl : tyK 0 = (0, 0))
  obtain ⟨l14, g14, -⟩ := tyRow H (rfl : tyK 14 = (1, 30))
  have G5 : gG X 5 [some (.ref 0), some (.int p0), some (.int p1), some (.ref 139), none] [.int p1, .int p0, .ref 0, .int 0, .ref 139] hp 0 0 := by
    by_cases hg : ¬ p0 < 0 ∧ ¬ nI l14.length ≤ p0 ∧ ¬ p1 < 0 ∧ p1 ≤ 5
    · refine g_callVip (q := 8) (As := [.int p0, .int p1]) C gyX7_log gvX7_log lgw6 (tX7_log_r H g14 hg.1 hg.2.1 hg.2.2.1 hg.2.2.2) dL_log_5 rfl o1 rfl rfl rfl (Nat.le_of_ble_eq_true rfl) (Nat.le_of_ble_eq_true rfl) (Nat.le_of_ble_eq_true rfl) (Nat.le_of_ble_eq_true rfl) (Nat.le_of_ble_eq_true rfl) rfl (fun x5 h5 H5 => ?_)
      obtain ⟨f9, e9⟩ := H5.2.2.1
      refine g_i2l (q := 9) C dL_log_8 rfl ?_
      refine g_lastore (q := 10) C dL_log_9 rfl e9 (by unfold vp_in; decide) ?_
      refine g_goto (q := 17) C dL_log_10 (by decide) ?_
      refine g_iconst (v := 0) (q := 18) C dL_log_17 (by decide) rfl ?_
      exact hret _ _ _ _ _ _ dL_log_18 (Nat.le_of_ble_eq_true rfl) (Nat.le_of_ble_eq_true rfl) ⟨J, H5.out.more (by omega) (by omega) hBc hBs⟩
    have hts2 := fun w (hw : w ∈ gW) => gC_hts C (w := w) hw
    have hXd := hX
    rw [hX] at C hts2 ⊢
    intro arr Hh locs hl hh hS
    obtain ⟨h1, h2, h3⟩ := gyX7_log
    have cb : CallB (headSpec (Cond.codeWith yL_log cL_log 5 (some .int) [(0, 10, 13, 13)] :: gW) { frames := 8, cells := 1, slots := 6, locals := 160 }).room s ([Value.ref 0, .int p0, .int p1, .ref 139].map (gv b0 sa)).toArray RL 7 yX7_log cX7_log 3 (some .int) (Cond.code yX7_log cX7_log 3 (some .int) :: gW) ({ frames := 6, cells := 1, slots := 6, locals := 120 }) 1 6 2 := callB_of 2 hts2 (gGood h2) rfl rfl rfl (hts2 _ h1) (hts2 _ lgw6) h3 ⟨Nat.le_of_ble_eq_true rfl, Nat.le_of_ble_eq_true rfl⟩
    have hp0 : PreV s Hh RX7 (b0 + 0) (gPd D cI cJ b0 sa [.ref 0, .int p0, .int p1] hp) ([Value.int p0, .int p1].map (gv b0 sa)) :=
      ⟨gPd_blind _ _ _ _ _ _ _, va_recv (gC_K C) (gP1 (X := ((p, l, e, (headSpec (Cond.codeWith yL_log cL_log 5 (some .int) [(0, 10, 13, 13)] :: gW) { frames := 8, cells := 1, slots := 6, locals := 160 }).room), (s, m, ([Value.ref 0, .int p0, .int p1, .ref 139].map (gv b0 sa)).toArray, below), (meth, c), (D, cI, cJ), (b0, sa), fun _ => True)) ((hh.2.1 0 _ o1 (gJ1 (z := (RX7, TX7, 7)) rfl)).1)) (ci := 7) (q := (RX7, TX7, 7)) rfl (q0 := 0) rfl, fun U hU hW => ⟨⟨rfl, by rw [hU]; exact hh, va_K.moved hW.alike hK, gN.warm hW hS hU hN⟩, gDk.warm hW hDk⟩⟩
    intro T' hT Y
    rcases vx_runV (b := b0 + 0) (As := [Value.int p0, .int p1].map (gv b0 sa)) (rest := [Value.int 0, .ref 139].map (gv b0 sa)) (g := F0 m 5 arr ([Value.int p1, .int p0, .ref 0, .int 0, .ref 139].map (gv b0 sa))) ⟨B.exec, B.bytes, hml, findClass_of_methodNamed B.named, hts2⟩ (tX7_log_x H g14 hg l D cI cJ b0 sa htr) ⟨cb, hts2 _ gvX7_log.1, hts2 _ gvX7_log.2⟩ hp0 rfl rfl hl.1 rfl (g_cat b0 sa (Nat.le_of_ble_eq_true rfl)) dL_log_5 ⟨Nat.le_of_ble_eq_true rfl, Nat.le_of_ble_eq_true rfl⟩ T' hT Y with ⟨v, st₀, t, T2, L, z0, Y', hL, e1, e2, hF, -⟩ | ⟨q, st₀, t, T2, L, E, ce, z0, Y', hL, e1, e2, ⟨hE, ⟨j, hj0, hj⟩, hz, hk⟩, hce, hcv, hcl, st⟩
    · exact hF.elim
    · rw [z0] at hz hk
      subst hE
      obtain ⟨-, y2, y3, -, y5, -⟩ := Y'.same
      have hsz : s.heap.size = b0 + hp.length := hH.1
      have hT2 : (T2.setVm s.vm).heap = t.heap := e1
      rw [hT2] at y2 y3 y5
      have hj1 : j ≤ 1 := by omega
      have hj' : gH D cI cJ b0 sa (hp ++ List.replicate j gJunk) t.heap := hj fun q hq cell hc => by
        have hm : cell ∈ t.heap.toList.drop s.heap.size := by
          have e : (t.heap.toList.drop s.heap.size)[q - s.heap.size]? = some cell := by
            rw [List.getElem?_drop, Array.getElem?_toList]
            have : s.heap.size + (q - s.heap.size) = q := by omega
            rw [this]; exact hc
          exact List.mem_of_getElem? e
        have := gsum_mem (f := fun c : Cell => c.slots.size) hm
        exact Nat.le_trans this y5
      obtain ⟨J', HJ⟩ := H.junk j (by omega) (by omega)
      have HJ' := HJ.more (Bc' := Bc + 1) (Bs' := Bs + 6) (by omega) (by omega) hBc hBs
      have hS' : va_S (fun q => b0 ≤ q) s.heap T2.heap (locs ++ L) :=
        ⟨Nat.le_trans hS.1 (by rw [e1]; exact hz), fun q h1 h2 => by rw [e1, hk q (Nat.lt_of_lt_of_le h1 hS.1) h2]; exact hS.2.1 q h1 h2, fun q hq => by
          rcases List.mem_append.mp hq with h | h
          · exact hS.2.2 q h
          · exact hL q h⟩
      have hcat : W p l e (headSpec (Cond.codeWith yL_log cL_log 5 (some .int) [(0, 10, 13, 13)] :: gW) { frames := 8, cells := 1, slots := 6, locals := 160 }).room s m ([Value.ref 0, .int p0, .int p1, .ref 139].map (gv b0 sa)).toArray below meth c T2.heap (locs ++ L) (0 + 1) (0 + 6) (MQ below (gQc D cI cJ b0 sa (tyLog T R Bc Bs M z)) ([Value.ref 0, .int p0, .int p1, .ref 139].map (gv b0 sa)).toArray s 1 6 (fun q => b0 ≤ q)) (F0 m 13 arr [.ref q]) := by
        refine lv_astore B.exec B.bytes dL_log_13 (gL_has hl) (Nat.le_of_ble_eq_true rfl) rfl (fun arr' h' => ?_)
        refine lv_iconst (v := 1) B.exec B.bytes dL_log_15 (by decide) ?_
        exact W.iret B.exec B.bytes hr (fun t' ht hW => ⟨⟨some (.int 1), _, rfl, ⟨1, rfl, J', HJ'⟩, by rw [ht, e1]; exact hj'⟩, hS'.F ht⟩) hS'.2.2 dL_log_16 hlk
      obtain ⟨t2, a1, b1⟩ := vx_catch (own := RL) (name := gNSE) (E := gNSE) (ls := arr) (rest := [Value.int 0, .ref 139].map (gv b0 sa)) (pc := 5) (findClass_of_methodNamed B.named) [] ⟨0, 10, 13, 13⟩ [] htab (fun z hz => nomatch hz) (by decide) (by decide) (hts2 _ lgw5) (va_Nw.use rfl hN.2.1) (by rw [e1]; exact hce) hcv hcl hcat T2 rfl Y'
      exact ⟨t2, st.trans a1, b1⟩
  have G : gG X 0 [some (.ref 0), some (.int p0), some (.int p1), some (.ref 139), none] [] hp 0 0 := by
    refine g_aload_n (q := 1) C dL_log_0 rfl rfl ?_
    refine g_iconst (v := 0) (q := 2) C dL_log_1 (by decide) rfl ?_
    refine g_aload_n (q := 3) C dL_log_2 rfl rfl ?_
    refine g_iload_n (q := 4) C dL_log_3 rfl rfl ?_
    refine g_iload_n (q := 5) C dL_log_4 rfl rfl ?_
    exact G5
  rw [hX] at G
  have hE := gL_entry b0 sa [.ref 0, .int p0, .int p1, .ref 139] (n := 5) (Nat.le_of_ble_eq_true rfl)
  rw [lg_entry_eq]
  exact G _ s.heap [] hE hH va_S.rf
end LOGX
