/-! methods that read the script: cell, size, message (by program: wip/p1/m_script.py) -/
def gPs (D : va_G) (cI cJ : ClassId) (b0 : Nat) (sa : Nat → Nat) (SL : Nat) (SF : Nat → Int32) (av : List Value) (hp : List gA) : Array Value → State → Prop := fun a U =>
  gPc D cI cJ b0 sa av hp a U ∧ va_X (sa 0) SL SF U U.heap ∧ sa 0 < b0
def gMs (y : MethodName) (bytes : ByteArray) (maxL : Nat) (ret : Option FieldType) (fr lo : Nat) (av : List Value) (hp : List gA) (mc ms : Nat) (SL : Nat) (SF : Nat → Int32) (P : Option Value → List gA → Prop) : Prop :=
  ∀ (l : Launch) (D : va_G) (cI cJ : ClassId) (b0 : Nat) (sa : Nat → Nat), Met l y (Cond.code y bytes maxL ret :: gW) ({ frames := fr, cells := mc, slots := ms, locals := lo }) (gPs D cI cJ b0 sa SL SF av hp) (gQc D cI cJ b0 sa P) mc ms (fun q => b0 ≤ q)
theorem gPs_blind (D : va_G) (cI cJ : ClassId) (b0 : Nat) (sa : Nat → Nat) (SL : Nat) (SF : Nat → Int32) (av : List Value) (hp : List gA) : FrameBlind (gPs D cI cJ b0 sa SL SF av hp) := fun a U g mk h =>
  ⟨gPc_blind D cI cJ b0 sa av hp a U g mk h.1, va_X.moved (u := U) (U := U.calling g mk a) (Vm.Alike.refl U.vm) h.2.1, h.2.2⟩
theorem gMs_of {y : MethodName} {bytes : ByteArray} {maxL : Nat} {ret : Option FieldType} {fr lo : Nat} {av : List Value} {hp : List gA} {mc ms SL : Nat} {SF : Nat → Int32} {P : Option Value → List gA → Prop} {ls0 : List (Option Value)} (hy : plainFor y = true) (hn : (gent av).length ≤ maxL) (hl : gent av ++ List.replicate (maxL - (gent av).length) none = ls0)
    (body : ∀ X : gX, gC X y.cls y.name bytes maxL ({ frames := fr, cells := mc, slots := ms, locals := lo }) → gEnd X bytes ret P mc ms → va_X (xA X 0) SL SF (xs X) (xs X).heap → xA X 0 < (xs X).heap.size → ¬ xB X ≤ xA X 0 → gG X 0 ls0 [] hp 0 0) : gMs y bytes maxL ret fr lo av hp mc ms SL SF P := by
  intro l D cI cJ b0 sa
  refine gofW (cc := bytes) (maxL := maxL) (ret := ret) hy rfl ?_
  intro p e s m args below meth c s₁ B hml hv
  obtain ⟨⟨rfl, hH, hK, hN⟩, hX, hlt⟩ := hv
  have hts := atoms_spec (ws := Cond.code y bytes maxL ret :: gW) B.pre
  have C : gC ((p, l, e, (headSpec (Cond.code y bytes maxL ret :: gW) { frames := fr, cells := mc, slots := ms, locals := lo }).room), (s, m, (av.map (gv b0 sa)).toArray, below), (meth, c), (D, cI, cJ), (b0, sa), MQ below (gQc D cI cJ b0 sa P) (av.map (gv b0 sa)).toArray s mc ms (fun q => b0 ≤ q)) y.cls y.name bytes maxL ({ frames := fr, cells := mc, slots := ms, locals := lo }) :=
    ⟨B.exec, B.bytes, hml, findClass_of_methodNamed B.named, fun w hw => hts w (List.mem_cons_of_mem _ hw), hK, by show b0 ≤ s.heap.size; rw [hH.1]; omega, B.notSynchronized, rfl, (name_of_methodNamed B.named B.method).1, hN⟩
  have hr := B.returns
  have hlk := B.notSynchronized
  have hsz : b0 ≤ s.heap.size := by rw [hH.1]; omega
  have G := body _ C ⟨?_, ?_, ?_⟩ hX (Nat.lt_of_lt_of_le hlt hsz) (Nat.not_le.mpr hlt)
  · have hE := gL_entry b0 sa av hn
    rw [hl] at hE
    rw [lg_entry_eq]
    exact G _ s.heap [] hE hH va_S.rf
  · intro pc ls v hp1 cl sl ty hd hty hnr h1 h2 hP arr H locs hl1 hh hS
    exact W.widen h1 h2 (W.zret B.exec B.bytes (hr.trans hty) hnr (fun t ht hW => ⟨⟨some (.int v), hp1, rfl, hP, by rw [ht]; exact hh⟩, hS.F ht⟩) hS.2.2 hd hlk)
  · intro pc ls hp1 cl sl hd hty h1 h2 hP arr H locs hl1 hh hS
    exact W.widen h1 h2 (W.vret B.exec B.bytes (hr.trans hty) (fun t ht hW => ⟨⟨none, hp1, rfl, hP, by rw [ht]; exact hh⟩, hS.F ht⟩) hS.2.2 hd hlk)
  · intro pc ls k hp1 cl sl ty hd hty hrt h1 h2 hP arr H locs hl1 hh hS
    exact W.widen h1 h2 (W.aret B.exec B.bytes (hr.trans hty) hrt (Or.inr ⟨_, rfl⟩) (fun t ht hW => ⟨⟨some (.ref k), hp1, rfl, hP, by rw [ht]; exact hh⟩, hS.F ht⟩) hS.2.2 hd hlk)
section GSC
variable {X : gX} {own nm : String} {cc : ByteArray} {nL : Nat} {rm : Room} {pc q : Nat} {ls : List (Option Value)} {st stk : List Value} {hp : List gA} {cl sl : Nat}
variable {y : MethodName} {bytes : ByteArray} {maxL n ix fr lo mc ms SL : Nat} {SF : Nat → Int32} {ret : Option FieldType} {As : List Value} {P : Option Value → List gA → Prop}
theorem g_callZ (C : gC X own nm cc nL rm) (hX : va_X (xA X 0) SL SF (xs X) (xs X).heap) (hbl : xA X 0 < (xs X).heap.size) (hb0 : ¬ xB X ≤ xA X 0) (Y : gY y bytes maxL ret n) (V : Cond.static y ∈ gW) (hl0 : Cond.methodLink own ix y ∈ gW) (hM : gMs y bytes maxL ret fr lo As hp mc ms SL SF P) (hd : decode cc pc = .ok (.invokestatic ix, 3)) (hq : pc + 3 = q) (hn : As.length = n) (hls : ls.length = nL) (hfr : fr + 1 ≤ rm.frames) (hlo : 8 + (maxL + 11) + lo ≤ rm.locals) (hw : (st.map fun v => v.category).sum ≤ 8) (hc : cl + mc ≤ rm.cells) (hs2 : sl + ms ≤ rm.slots) (hst : stk = As.reverse ++ st)
    (kk : ∀ (v : Option Value) (hp' : List gA), P v hp' → gG X q ls (v.toList ++ st) hp' (cl + mc) (sl + ms)) : gG X pc ls stk hp cl sl := by
  subst hq; subst hst
  have hR := C.2.2.2.2.2.2.2.2.1
  have hts := fun w (hw : w ∈ gW) => gC_hts C (w := w) hw
  intro arr H locs hl hh hS
  obtain ⟨h1, h2, h3⟩ := Y
  have cb : CallB (xR X) (xs X) (xa X) own ix y bytes maxL ret (Cond.code y bytes maxL ret :: gW) ({ frames := fr, cells := mc, slots := ms, locals := lo }) mc ms n := callB_of n hts (gGood h2) rfl rfl rfl (hts _ h1) (hts _ hl0) h3 (by rw [hR]; exact ⟨hfr, hlo⟩)
  have hp0 : PreS (xs X) H (gPs (xD X) (xI X) (xJ X) (xB X) (xA X) SL SF As hp) (As.map (gv (xB X) (xA X))) :=
    ⟨gPs_blind _ _ _ _ _ _ _ _ _, fun U hU hW => ⟨⟨rfl, by rw [hU]; exact hh, va_K.moved hW.alike (gC_K C), gN.warm hW hS hU C.2.2.2.2.2.2.2.2.2.2⟩, by rw [hU]; exact (hX.kept (hS.2.1 _ hbl hb0)).moved hW.alike, Nat.not_le.mp hb0⟩⟩
  have hsz : arr.size = nL := hl.1.trans hls
  refine g_back (va_runS (As := As.map (gv (xB X) (xA X))) (rest := st.map (gv (xB X) (xA X))) ⟨C.1, C.2.1, C.2.2.1, C.2.2.2.1, hts⟩ (hM _ _ _ _ _ _) ⟨cb, hts _ V⟩ hp0 rfl (by rw [List.length_map]; exact hn) hsz ?_ (g_cat _ _ hw) hd (by rw [hR]; exact ⟨hc, hs2⟩)) hl hS kk
  show (As.reverse ++ st).map _ = _
  rw [List.map_append, List.map_reverse]
theorem g_callZip {PP : Int32 → List gA → Prop} (C : gC X own nm cc nL rm) (hX : va_X (xA X 0) SL SF (xs X) (xs X).heap) (hbl : xA X 0 < (xs X).heap.size) (hb0 : ¬ xB X ≤ xA X 0) (Y : gY y bytes maxL ret n) (V : Cond.static y ∈ gW) (hl0 : Cond.methodLink own ix y ∈ gW) (hM : gMs y bytes maxL ret fr lo As hp mc ms SL SF (fun v h => ∃ x, v = some (.int x) ∧ PP x h)) (hd : decode cc pc = .ok (.invokestatic ix, 3)) (hq : pc + 3 = q) (hn : As.length = n) (hls : ls.length = nL) (hfr : fr + 1 ≤ rm.frames) (hlo : 8 + (maxL + 11) + lo ≤ rm.locals) (hw : (st.map fun v => v.category).sum ≤ 8) (hc : cl + mc ≤ rm.cells) (hs2 : sl + ms ≤ rm.slots) (hst : stk = As.reverse ++ st)
    (kk : ∀ (x : Int32) (hp2 : List gA), PP x hp2 → gG X q ls (.int x :: st) hp2 (cl + mc) (sl + ms)) : gG X pc ls stk hp cl sl :=
  g_callZ C hX hbl hb0 Y V hl0 hM hd hq hn hls hfr hlo hw hc hs2 hst fun v h z => by obtain ⟨x, rfl, z⟩ := z; exact kk x h z
end GSC
theorem nI_div {a b : Nat} (ha : a < 2 ^ 31) (hb : b < 2 ^ 31) : nI a / nI b = nI (a / b) := by
  apply Int32.toInt_inj.mp
  have h : a / b ≤ a := Nat.div_le_self a b
  rw [Int32.toInt_div, nI_toInt ha, nI_toInt hb, nI_toInt (by omega)]
  rw [show (a : Int).tdiv (b : Int) = ((a / b : Nat) : Int) from (Int.ofNat_tdiv a b).symm]
  generalize a / b = c at h ⊢
  rw [Int.bmod_eq_of_le] <;> omega
theorem nI_mulS {a b : Nat} (h : a * b < 2 ^ 31) (ha : a < 2 ^ 31) (hb : b < 2 ^ 31) : nI a * nI b = nI (a * b) := by
  apply Int32.toInt_inj.mp
  rw [Int32.toInt_mul, nI_toInt ha, nI_toInt hb, nI_toInt h, ← Int.natCast_mul, Int.bmod_eq_of_le] <;> omega
theorem nI_rem {a b : Nat} (ha : a < 2 ^ 31) (hb : b < 2 ^ 31) : nI a - nI a / nI b * nI b = nI (a % b) := by
  have h1 : a / b * b ≤ a := Nat.div_mul_le_self a b
  have h2 : a / b ≤ a := Nat.div_le_self a b
  rw [nI_div ha hb, nI_mulS (by omega) (by omega) hb, pk_sub h1]
  congr 1
  have := Nat.div_add_mod a b
  rw [Nat.mul_comm] at this
  omega
theorem gmask (y : Int32) {m : Nat} (hm : m < 2 ^ 31) : ∃ k, k ≤ m ∧ y &&& nI m = nI k := by
  refine ⟨(y &&& nI m).toBitVec.toNat, ?_, ?_⟩
  · rw [show (y &&& nI m).toBitVec = y.toBitVec &&& (nI m).toBitVec from rfl, BitVec.toNat_and]
    refine Nat.le_trans Nat.and_le_right ?_
    show (BitVec.ofNat 32 m).toNat ≤ m
    rw [BitVec.toNat_ofNat]; exact Nat.mod_le _ _
  · apply Int32.toBitVec_inj.mp
    show _ = BitVec.ofNat 32 _
    apply BitVec.eq_of_toNat_eq
    simp
theorem dL_cell_0 : decode cL_cell 0 = .ok (.aload_n 0, 1) := by decide +kernel
theorem dL_cell_1 : decode cL_cell 1 = .ok (.arraylength, 1) := by decide +kernel
theorem dL_cell_2 : decode cL_cell 2 = .ok (.ifCond .ne 7, 3) := by decide +kernel
theorem dL_cell_5 : decode cL_cell 5 = .ok (.iconst 0, 1) := by decide +kernel
theorem dL_cell_6 : decode cL_cell 6 = .ok (.goto 17, 3) := by decide +kernel
theorem dL_cell_9 : decode cL_cell 9 = .ok (.aload_n 0, 1) := by decide +kernel
theorem dL_cell_10 : decode cL_cell 10 = .ok (.iload_n 1, 1) := by decide +kernel
theorem dL_cell_11 : decode cL_cell 11 = .ok (.aload_n 0, 1) := by decide +kernel
theorem dL_cell_12 : decode cL_cell 12 = .ok (.arraylength, 1) := by decide +kernel
theorem dL_cell_13 : decode cL_cell 13 = .ok (.irem, 1) := by decide +kernel
theorem dL_cell_14 : decode cL_cell 14 = .ok (.iaload, 1) := by decide +kernel
theorem dL_cell_15 : decode cL_cell 15 = .ok (.ldc 7, 2) := by decide +kernel
theorem dL_cell_17 : decode cL_cell 17 = .ok (.iload_n 1, 1) := by decide +kernel
theorem dL_cell_18 : decode cL_cell 18 = .ok (.aload_n 0, 1) := by decide +kernel
theorem dL_cell_19 : decode cL_cell 19 = .ok (.arraylength, 1) := by decide +kernel
theorem dL_cell_20 : decode cL_cell 20 = .ok (.idiv, 1) := by decide +kernel
theorem dL_cell_21 : decode cL_cell 21 = .ok (.imul, 1) := by decide +kernel
theorem dL_cell_22 : decode cL_cell 22 = .ok (.ixor, 1) := by decide +kernel
theorem dL_cell_23 : decode cL_cell 23 = .ok (.ireturn, 1) := by decide +kernel
set_option maxRecDepth 100000 in
set_option maxHeartbeats 4000000 in
theorem c_L_cell_z {hp : List gA} {SL : Nat} {SF : Nat → Int32} {k0 : Nat} (hk : k0 < 2 ^ 31) (hSL : SL < 2 ^ 31) : gMs yL_cell cL_cell 2 ((some .int)) 0 0 [.float 0, .int ((nI k0))] (hp) (0) (0) SL SF (fun v h => ∃ x, v = some (.int x) ∧ h = hp) := by
  refine gMs_of (ls0 := [some (.float 0), some (.int ((nI k0)))]) (by decide +kernel) (Nat.le_of_ble_eq_true rfl) rfl fun X C E hX hbl hb0 => ?_
  refine g_aloadS_n (q := 1) C dL_cell_0 rfl rfl ?_
  refine g_slen (q := 2) C hX hbl hb0 dL_cell_1 rfl ?_
  refine g_if_ne (t := 9) (q := 5) C dL_cell_2 (by decide) rfl (fun c_2 => ?_) (fun c_2 => ?_)
  ·
    refine g_aloadS_n (q := 10) C dL_cell_9 rfl rfl ?_
    refine g_iload_n (q := 11) C dL_cell_10 rfl rfl ?_
    refine g_aloadS_n (q := 12) C dL_cell_11 rfl rfl ?_
    refine g_slen (q := 13) C hX hbl hb0 dL_cell_12 rfl ?_
    refine g_irem (q := 14) C dL_cell_13 c_2 rfl ?_
    have hpos : 0 < SL := Nat.pos_of_ne_zero (fun h => c_2 (by rw [h]; rfl))
    have hm := Nat.mod_lt k0 hpos
    rw [nI_rem hk hSL]
    refine g_sld (j := 0) C hX hbl hb0 dL_cell_14 rfl (pk_in (k0 % SL) SL hm rfl hSL) ?_
    rw [nI_clamp (show k0 % SL < 2 ^ 31 by omega)]
    refine g_ldc (q := 17) C t_855 dL_cell_15 rfl ?_
    refine g_iload_n (q := 18) C dL_cell_17 rfl rfl ?_
    refine g_aloadS_n (q := 19) C dL_cell_18 rfl rfl ?_
    refine g_slen (q := 20) C hX hbl hb0 dL_cell_19 rfl ?_
    refine g_idiv (q := 21) C dL_cell_20 c_2 rfl ?_
    refine g_imul (q := 22) C dL_cell_21 rfl ?_
    refine g_ixor (q := 23) C dL_cell_22 rfl ?_
    exact E.1 _ _ _ _ _ _ _ dL_cell_23 rfl rfl (Nat.le_of_ble_eq_true rfl) (Nat.le_of_ble_eq_true rfl) ⟨_, rfl, rfl⟩
  ·
    refine g_iconst (v := 0) (q := 6) C dL_cell_5 (by decide) rfl ?_
    refine g_goto (q := 23) C dL_cell_6 (by decide) ?_
    exact E.1 _ _ _ _ _ _ _ dL_cell_23 rfl rfl (Nat.le_of_ble_eq_true rfl) (Nat.le_of_ble_eq_true rfl) ⟨_, rfl, rfl⟩
theorem dL_size_0 : decode cL_size 0 = .ok (.aload_n 0, 1) := by decide +kernel
theorem dL_size_1 : decode cL_size 1 = .ok (.iload_n 1, 1) := by decide +kernel
theorem dL_size_2 : decode cL_size 2 = .ok (.invokestatic 18, 3) := by decide +kernel
theorem dL_size_5 : decode cL_size 5 = .ok (.bipush 31, 2) := by decide +kernel
theorem dL_size_7 : decode cL_size 7 = .ok (.iand, 1) := by decide +kernel
theorem dL_size_8 : decode cL_size 8 = .ok (.bipush 28, 2) := by decide +kernel
theorem dL_size_10 : decode cL_size 10 = .ok (.if_icmp .ge 14, 3) := by decide +kernel
theorem dL_size_13 : decode cL_size 13 = .ok (.aload_n 0, 1) := by decide +kernel
theorem dL_size_14 : decode cL_size 14 = .ok (.iload_n 1, 1) := by decide +kernel
theorem dL_size_15 : decode cL_size 15 = .ok (.invokestatic 18, 3) := by decide +kernel
theorem dL_size_18 : decode cL_size 18 = .ok (.bipush 31, 2) := by decide +kernel
theorem dL_size_20 : decode cL_size 20 = .ok (.iand, 1) := by decide +kernel
theorem dL_size_21 : decode cL_size 21 = .ok (.goto 19, 3) := by decide +kernel
theorem dL_size_24 : decode cL_size 24 = .ok (.bipush 32, 2) := by decide +kernel
theorem dL_size_26 : decode cL_size 26 = .ok (.aload_n 0, 1) := by decide +kernel
theorem dL_size_27 : decode cL_size 27 = .ok (.iload_n 1, 1) := by decide +kernel
theorem dL_size_28 : decode cL_size 28 = .ok (.invokestatic 18, 3) := by decide +kernel
theorem dL_size_31 : decode cL_size 31 = .ok (.iconst 5, 1) := by decide +kernel
theorem dL_size_32 : decode cL_size 32 = .ok (.iushr, 1) := by decide +kernel
theorem dL_size_33 : decode cL_size 33 = .ok (.bipush 31, 2) := by decide +kernel
theorem dL_size_35 : decode cL_size 35 = .ok (.iand, 1) := by decide +kernel
theorem dL_size_36 : decode cL_size 36 = .ok (.bipush 29, 2) := by decide +kernel
theorem dL_size_38 : decode cL_size 38 = .ok (.irem, 1) := by decide +kernel
theorem dL_size_39 : decode cL_size 39 = .ok (.iadd, 1) := by decide +kernel
theorem dL_size_40 : decode cL_size 40 = .ok (.ireturn, 1) := by decide +kernel
set_option maxRecDepth 100000 in
set_option maxHeartbeats 4000000 in
theorem c_L_size_z {hp : List gA} {SL : Nat} {SF : Nat → Int32} {k0 : Nat} (hk : k0 < 2 ^ 31) (hSL : SL < 2 ^ 31) : gMs yL_size cL_size 2 ((some .int)) 1 21 [.float 0, .int ((nI k0))] (hp) (0) (0) SL SF (fun v h => ∃ x, v = some (.int x) ∧ ((∃ k, k ≤ 60 ∧ x = nI k) ∧ h = hp)) := by
  refine gMs_of (ls0 := [some (.float 0), some (.int ((nI k0)))]) (by decide +kernel) (Nat.le_of_ble_eq_true rfl) rfl fun X C E hX hbl hb0 => ?_
  refine g_aloadS_n (q := 1) C dL_size_0 rfl rfl ?_
  refine g_iload_n (q := 2) C dL_size_1 rfl rfl ?_
  refine g_callZip (q := 5) (As := [.float 0, .int (nI k0)]) C hX hbl hb0 gyL_cell t_853 t_852 (c_L_cell_z hk hSL) dL_size_2 rfl rfl rfl (Nat.le_of_ble_eq_true rfl) (Nat.le_of_ble_eq_true rfl) (Nat.le_of_ble_eq_true rfl) (Nat.le_of_ble_eq_true rfl) (Nat.le_of_ble_eq_true rfl) rfl (fun x1 h1 z1 => ?_)
  rw [z1]
  refine g_bipush (v := 31) (q := 7) C dL_size_5 (by decide) rfl ?_
  refine g_iand (q := 8) C dL_size_7 rfl ?_
  refine g_bipush (v := 28) (q := 10) C dL_size_8 (by decide) rfl ?_
  refine g_icmp_ge (t := 24) (q := 13) C dL_size_10 (by decide) rfl (fun c_10 => ?_) (fun c_10 => ?_)
  ·
    refine g_bipush (v := 32) (q := 26) C dL_size_24 (by decide) rfl ?_
    refine g_aloadS_n (q := 27) C dL_size_26 rfl rfl ?_
    refine g_iload_n (q := 28) C dL_size_27 rfl rfl ?_
    refine g_callZip (q := 31) (As := [.float 0, .int (nI k0)]) C hX hbl hb0 gyL_cell t_853 t_852 (c_L_cell_z hk hSL) dL_size_28 rfl rfl rfl (Nat.le_of_ble_eq_true rfl) (Nat.le_of_ble_eq_true rfl) (Nat.le_of_ble_eq_true rfl) (Nat.le_of_ble_eq_true rfl) (Nat.le_of_ble_eq_true rfl) rfl (fun x2 h2 z2 => ?_)
    rw [z2]
    refine g_iconst (v := 5) (q := 32) C dL_size_31 (by decide) rfl ?_
    refine g_iushr (q := 33) C dL_size_32 rfl ?_
    refine g_bipush (v := 31) (q := 35) C dL_size_33 (by decide) rfl ?_
    refine g_iand (q := 36) C dL_size_35 rfl ?_
    refine g_bipush (v := 29) (q := 38) C dL_size_36 (by decide) rfl ?_
    obtain ⟨k31, hk31, ek31⟩ := gmask ((((x2).toUInt32 >>> ((5 : Int32).toUInt32 &&& Int32.toUInt32 31)).toInt32)) (m := 31) (by decide)
    replace ek31 : ((((x2).toUInt32 >>> ((5 : Int32).toUInt32 &&& Int32.toUInt32 31)).toInt32) &&& 31) = nI k31 := ek31
    refine g_irem (q := 39) C dL_size_38 (by decide) rfl ?_
    refine g_iadd (q := 40) C dL_size_39 rfl ?_
    exact E.1 _ _ _ _ _ _ _ dL_size_40 rfl rfl (Nat.le_of_ble_eq_true rfl) (Nat.le_of_ble_eq_true rfl) ⟨_, rfl, ⟨32 + k31 % 29, by have := Nat.mod_lt k31 (show 0 < 29 by decide); omega, by rw [ek31, show (29 : Int32) = nI 29 from rfl, nI_rem (by omega) (by decide)]; exact nI_add 32 _⟩, rfl⟩
  ·
    refine g_aloadS_n (q := 14) C dL_size_13 rfl rfl ?_
    refine g_iload_n (q := 15) C dL_size_14 rfl rfl ?_
    refine g_callZip (q := 18) (As := [.float 0, .int (nI k0)]) C hX hbl hb0 gyL_cell t_853 t_852 (c_L_cell_z hk hSL) dL_size_15 rfl rfl rfl (Nat.le_of_ble_eq_true rfl) (Nat.le_of_ble_eq_true rfl) (Nat.le_of_ble_eq_true rfl) (Nat.le_of_ble_eq_true rfl) (Nat.le_of_ble_eq_true rfl) rfl (fun x3 h3 z3 => ?_)
    rw [z3]
    refine g_bipush (v := 31) (q := 20) C dL_size_18 (by decide) rfl ?_
    refine g_iand (q := 21) C dL_size_20 rfl ?_
    refine g_goto (q := 40) C dL_size_21 (by decide) ?_
    exact E.1 _ _ _ _ _ _ _ dL_size_40 rfl rfl (Nat.le_of_ble_eq_true rfl) (Nat.le_of_ble_eq_true rfl) ⟨_, rfl, (gmask x3 (m := 31) (by decide)).elim (fun k hk => ⟨k, by omega, hk.2⟩), rfl⟩
theorem gset_last {hp : List gA} {n : Nat} {a b : gA} (h : hp.length = n) : (hp ++ [a]).set n b = hp ++ [b] := by subst h; simp
theorem dL_message_0 : decode cL_message 0 = .ok (.bipush 60, 2) := by decide +kernel
theorem dL_message_2 : decode cL_message 2 = .ok (.newarray .int, 2) := by decide +kernel
theorem dL_message_4 : decode cL_message 4 = .ok (.astore_n 3, 1) := by decide +kernel
theorem dL_message_5 : decode cL_message 5 = .ok (.iconst 0, 1) := by decide +kernel
theorem dL_message_6 : decode cL_message 6 = .ok (.istore 4, 2) := by decide +kernel
theorem dL_message_8 : decode cL_message 8 = .ok (.iload 4, 2) := by decide +kernel
theorem dL_message_10 : decode cL_message 10 = .ok (.iload_n 2, 1) := by decide +kernel
theorem dL_message_11 : decode cL_message 11 = .ok (.if_icmp .ge 30, 3) := by decide +kernel
theorem dL_message_14 : decode cL_message 14 = .ok (.aload_n 3, 1) := by decide +kernel
theorem dL_message_15 : decode cL_message 15 = .ok (.iload 4, 2) := by decide +kernel
theorem dL_message_17 : decode cL_message 17 = .ok (.aload_n 0, 1) := by decide +kernel
theorem dL_message_18 : decode cL_message 18 = .ok (.iload_n 1, 1) := by decide +kernel
theorem dL_message_19 : decode cL_message 19 = .ok (.iload 4, 2) := by decide +kernel
theorem dL_message_21 : decode cL_message 21 = .ok (.iadd, 1) := by decide +kernel
theorem dL_message_22 : decode cL_message 22 = .ok (.invokestatic 18, 3) := by decide +kernel
theorem dL_message_25 : decode cL_message 25 = .ok (.iload 4, 2) := by decide +kernel
theorem dL_message_27 : decode cL_message 27 = .ok (.iconst 3, 1) := by decide +kernel
theorem dL_message_28 : decode cL_message 28 = .ok (.irem, 1) := by decide +kernel
theorem dL_message_29 : decode cL_message 29 = .ok (.iushr, 1) := by decide +kernel
theorem dL_message_30 : decode cL_message 30 = .ok (.sipush 255, 3) := by decide +kernel
theorem dL_message_33 : decode cL_message 33 = .ok (.iand, 1) := by decide +kernel
theorem dL_message_34 : decode cL_message 34 = .ok (.iastore, 1) := by decide +kernel
theorem dL_message_35 : decode cL_message 35 = .ok (.iinc 4 1, 3) := by decide +kernel
theorem dL_message_38 : decode cL_message 38 = .ok (.goto (-30), 3) := by decide +kernel
theorem dL_message_41 : decode cL_message 41 = .ok (.aload_n 3, 1) := by decide +kernel
theorem dL_message_42 : decode cL_message 42 = .ok (.areturn, 1) := by decide +kernel
set_option maxRecDepth 100000 in
set_option maxHeartbeats 4000000 in
theorem c_L_message_z {hp : List gA} {SL : Nat} {SF : Nat → Int32} {a0 n1 n0 : Nat} (hn0 : hp.length = n0) (ha : a0 < 2 ^ 30) (hn1 : n1 ≤ 60) (hSL : SL < 2 ^ 31) : gMs yL_message cL_message 5 ((some (.array .int))) 1 21 [.float 0, .int ((nI a0)), .int ((nI n1))] (hp) (1) (60) SL SF (fun v h => v = some (.ref n0) ∧ ∃ f, h = hp ++ [.inl (60, f)] ∧ ∀ k, ∃ b, b < 256 ∧ f k = nI b) := by
  refine gMs_of (ls0 := [some (.float 0), some (.int ((nI a0))), some (.int ((nI n1))), none, none]) (by decide +kernel) (Nat.le_of_ble_eq_true rfl) rfl fun X C E hX hbl hb0 => ?_
  refine g_bipush (v := 60) (q := 2) C dL_message_0 (by decide) rfl ?_
  refine g_newarray (q := 4) (k := n0) (N := 60) C t_84 dL_message_2 rfl hn0 (by decide) (by decide) (by decide) (by show 0 + 1 ≤ 1; omega) (by show 0 + 60 ≤ 60; omega) ?_
  refine g_astore_n (q := 5) C dL_message_4 (Nat.le_of_ble_eq_true rfl) (by simp only [gset]; rfl) rfl ?_
  refine g_iconst (v := 0) (q := 6) C dL_message_5 (by decide) rfl ?_
  refine g_istore (q := 8) C dL_message_6 (Nat.le_of_ble_eq_true rfl) (by simp only [gset]; rfl) rfl ?_
  have LL : ∀ d j : Nat, j + d = n1 → ∀ f1 : Nat → Int32, (∀ k, ∃ b, b < 256 ∧ f1 k = nI b) → gG X 8 [some (.float 0), some (.int (nI a0)), some (.int (nI n1)), some (.ref n0), some (.int (nI j))] [] (hp ++ [.inl (60, f1)]) 1 60 := by
    intro d
    induction d with
    | zero =>
      intro j hj f1 hf1
      obtain rfl : j = n1 := by omega
      refine g_iload (q := 10) C dL_message_8 rfl rfl ?_
      refine g_iload_n (q := 11) C dL_message_10 rfl rfl ?_
      refine g_icmp_ge_t (t := 41) C dL_message_11 (by decide) (nI_le (Nat.le_refl _) (by omega)) ?_
      refine g_aload_n (q := 42) C dL_message_41 rfl rfl ?_
      exact E.2.2 _ _ _ _ _ _ _ dL_message_42 rfl (Or.inr ⟨_, rfl⟩) (by omega) (by omega) ⟨rfl, f1, rfl, hf1⟩
    | succ d ih =>
      intro j hj f1 hf1
      refine g_iload (q := 10) C dL_message_8 rfl rfl ?_
      refine g_iload_n (q := 11) C dL_message_10 rfl rfl ?_
      refine g_icmp_ge_f (t := 41) (q := 14) C dL_message_11 (by decide) rfl (fun h => nI_ge (show j < n1 by omega) (by omega) h) ?_
      refine g_aload_n (q := 15) C dL_message_14 rfl rfl ?_
      refine g_iload (q := 17) C dL_message_15 rfl rfl ?_
      refine g_aloadS_n (q := 18) C dL_message_17 rfl rfl ?_
      refine g_iload_n (q := 19) C dL_message_18 rfl rfl ?_
      refine g_iload (q := 21) C dL_message_19 rfl rfl ?_
      refine g_iadd (q := 22) C dL_message_21 rfl ?_
      rw [nI_add]
      refine g_callZip (q := 25) (As := [.float 0, .int (nI (a0 + j))]) C hX hbl hb0 gyL_cell t_853 t_852 (c_L_cell_z (k0 := a0 + j) (by omega) hSL) dL_message_22 rfl rfl rfl (Nat.le_of_ble_eq_true rfl) (Nat.le_of_ble_eq_true rfl) (Nat.le_of_ble_eq_true rfl) (by show _ + _ ≤ 1; omega) (by show _ + _ ≤ 60; omega) rfl (fun x1 h1 z1 => ?_)
      rw [z1]
      refine g_iload (q := 27) C dL_message_25 rfl rfl ?_
      refine g_iconst (v := 3) (q := 28) C dL_message_27 (by decide) rfl ?_
      refine g_irem (q := 29) C dL_message_28 (by decide) rfl ?_
      refine g_iushr (q := 30) C dL_message_29 rfl ?_
      refine g_sipush (v := 255) (q := 33) C dL_message_30 (by decide) rfl ?_
      refine g_iand (q := 34) C dL_message_33 rfl ?_
      refine g_iastoreN (j := j) (q := 35) C dL_message_34 rfl (gapp_n hn0) (pk_in j 60 (by omega)) (pk_cl j) ?_
      obtain ⟨bb, hbb, ebb⟩ := gmask ((((x1).toUInt32 >>> ((((nI j) - (nI j) / 3 * 3) : Int32).toUInt32 &&& Int32.toUInt32 31)).toInt32)) (m := 255) (by decide)
      refine g_heap (hp2 := hp ++ [.inl (60, upd f1 j ((((x1).toUInt32 >>> ((((nI j) - (nI j) / 3 * 3) : Int32).toUInt32 &&& Int32.toUInt32 31)).toInt32) &&& 255))]) (gset_last hn0) ?_
      refine g_iinc (v := (nI (j + 1))) (q := 38) C dL_message_35 rfl (nI_1 j) (by simp only [gset]; rfl) rfl ?_
      refine g_goto (q := 8) C dL_message_38 (by decide) ?_
      exact ih (j + 1) (by omega) _ (fun k => (Nat.decEq k j).byCases (fun e => by subst e; rw [pk_us]; exact ⟨bb, by omega, ebb⟩) (fun e => by rw [pk_un e]; exact hf1 k))
  exact LL n1 0 (by omega) _ (fun _ => ⟨0, by decide, rfl⟩)
