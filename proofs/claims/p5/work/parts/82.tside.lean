/-! THE SIDES BY SHAPE (by program: wip/p2t/m_tside.py, gen6.py) -/
theorem gfN : ∀ (i : Nat) (v : Value), ([] : List (Option Value))[i]? = some (some v) → ([] : List (Option Value))[i]? = some (some v) := fun _ _ h => h
theorem gfK {l' l : List (Option Value)} {a : Option Value} (h : ∀ (i : Nat) (v : Value), l'[i]? = some (some v) → l[i]? = some (some v)) : ∀ (i : Nat) (v : Value), (a :: l')[i]? = some (some v) → (a :: l)[i]? = some (some v) := fun i v e => by
  cases i with
  | zero => exact e
  | succ i => exact h i v e
theorem gfD {l' l : List (Option Value)} {a : Option Value} (h : ∀ (i : Nat) (v : Value), l'[i]? = some (some v) → l[i]? = some (some v)) : ∀ (i : Nat) (v : Value), (none :: l')[i]? = some (some v) → (a :: l)[i]? = some (some v) := fun i v e => by
  cases i with
  | zero => cases (Option.some.inj e)
  | succ i => exact h i v e
theorem tyUp' {i b : Int32} {d : Nat} (hd : (2147483647 - i.toInt).toNat = d) (h : ¬ b ≤ i) : (2147483647 - (i + 1).toInt).toNat < d := tyUp hd (b := b) (by rw [Int32.lt_iff_toInt_lt]; rw [Int32.le_iff_toInt_le] at h; omega)
theorem tyS1 {x : Int32} : x.toInt < 2147483647 → (x + 1).toInt = x.toInt + 1 := fun h => by
  have l0 : -2147483648 ≤ x.toInt := Int32.le_toInt x
  have o1 : (1 : Int32).toInt = 1 := by decide
  rw [gt_add (by rw [o1]; omega) (by rw [o1]; omega), o1]
theorem tyUpG {i b : Int32} {d : Nat} (hd : (2147483647 - i.toInt).toNat = d) (h : ¬ b < i) (hb : b.toInt < 2147483647) : (2147483647 - (i + 1).toInt).toNat < d := by
  rw [Int32.lt_iff_toInt_lt] at h
  have e := tyS1 (x := i) (by omega)
  rw [e]; omega
theorem tyLtM {x y : Int32} (h : x < y) : x.toInt < 2147483647 := by
  have := Int32.lt_iff_toInt_lt.mp h
  have := Int32.toInt_lt y
  omega
theorem gand15 {a : Int32} : ¬ (a &&& 15) < 0 ∧ (a &&& 15).toNatClampNeg < 16 := by
  have e1 : (a &&& 15).toBitVec.toNat ≤ 15 := by
    rw [Int32.toBitVec_and, BitVec.toNat_and]
    exact Nat.and_le_right
  have e2 : (a &&& 15).toInt = ((a &&& 15).toBitVec.toNat : Int) := BitVec.toInt_eq_toNat_of_lt (by omega)
  have e3 : ¬ (a &&& 15) < 0 := by
    rw [Int32.lt_iff_toInt_lt, Int32.toInt_zero]; omega
  refine ⟨e3, ?_⟩
  have := gcl e3
  omega
theorem tyTl {x : Int32} (h0 : ¬ x < 0) (h : ¬ (16 : Int32) ≤ x) : x.toNatClampNeg < 16 := by
  have e := gcl h0
  rw [Int32.le_iff_toInt_le] at h
  have : (16 : Int32).toInt = 16 := by decide
  omega
theorem tyDn' {i : Int32} {d : Nat} (hd : i.toInt.toNat = d) (h : ¬ i ≤ 0) : (i + (-1)).toInt.toNat < d := tyDn hd (by rw [Int32.lt_iff_toInt_lt]; rw [Int32.le_iff_toInt_le] at h; omega)
theorem tyS2 {x : Int32} : -2147483648 < x.toInt → (x + (-1)).toInt = x.toInt - 1 := fun h => by
  have l : x.toInt < 2147483648 := Int32.toInt_lt x
  have o1 : (-1 : Int32).toInt = -1 := by decide
  rw [gt_add (by rw [o1]; omega) (by rw [o1]; omega), o1]
  omega
theorem tyS3 {x : Int32} : -2147483648 < x.toInt → (x - 1).toInt = x.toInt - 1 := fun h => by
  rw [show x - 1 = x + (-1) from by rw [Int32.sub_eq_add_neg]]
  exact tyS2 h
theorem tyMin {x y : Int32} : (gmin x y).toInt ≤ y.toInt := by
  unfold gmin
  split
  · exact Int.le_refl _
  · rename_i h
    rw [Int32.lt_iff_toInt_lt] at h
    omega
theorem tyPa {X : gX} {pc cl sl k m : Nat} {ls : List (Option Value)} {st : List Value} {f g : Nat → Int32} {T : tyT} {R : Nat} {J : Nat → Prop} {Bc Bs : Nat} {M : gMd} {z : Nat → Nat} {hp : List gA} (H : tyS T R J Bc Bs M z hp) (hk : tyK k = (2, m)) (hno : ∀ q, q < 122 → (tyK q).1 = 1 ∨ (tyK q).1 = 4 → ¬ q + 1 = k) (he0 : hp[k]? = some (.inl (m, f))) (kk : ∀ h, tyS T R J Bc Bs M z h → gG X pc ls st h cl sl) : gG X pc ls st (hp.set k (.inl (m, g))) cl sl := kk _ (H.arr hk hno he0)
section CRP
variable {X : gX} {own nm : String} {cc : ByteArray} {nL : Nat} {rm : Room} {pc q : Nat} {ls : List (Option Value)} {st stk : List Value} {hp : List gA} {cl sl : Nat} {y : MethodName} {bytes : ByteArray} {maxL n ix b fr lo mc ms : Nat} {ret : Option FieldType} {As : List Value}
theorem g_callVrp {P : Nat → List gA → Prop} (C : gC X own nm cc nL rm) (Y : gY y bytes maxL ret n) (V : gVv y) (hl0 : Cond.methodLink own ix y ∈ gW) (hM : gM y bytes maxL ret fr lo (.ref b :: As) hp mc ms (fun v h => ∃ x, v = some (.ref x) ∧ P x h)) (hd : decode cc pc = .ok (.invokevirtual ix, 3)) (hq : pc + 3 = q) {ci N : Nat} {T : u_T} {fs : List Value} (ho : hp[b]? = some (.inr (.inr (ci, fs)))) (hci : vwCl[ci]? = some (y.cls, T, N)) (hn : As.length = n) (hls : ls.length = nL) (hfr : fr + 1 ≤ rm.frames) (hlo : 8 + (maxL + 11) + lo ≤ rm.locals) (hw : (st.map fun v => v.category).sum ≤ 8) (hc : cl + mc ≤ rm.cells) (hs2 : sl + ms ≤ rm.slots) (hst : stk = As.reverse ++ .ref b :: st) (kk : ∀ (x : Nat) (hp2 : List gA), P x hp2 → gG X q ls (.ref x :: st) hp2 (cl + mc) (sl + ms)) : gG X pc ls stk hp cl sl :=
  g_callV C Y V hl0 hM hd hq ho hci hn hls hfr hlo hw hc hs2 hst fun v h z => by obtain ⟨x, rfl, z⟩ := z; exact kk x h z
end CRP
theorem dX5_requestKind_0 : decode cX5_requestKind 0 = .ok (.sipush 192, 3) := by decide +kernel
theorem dX5_requestKind_3 : decode cX5_requestKind 3 = .ok (.aload_n 0, 1) := by decide +kernel
theorem dX5_requestKind_4 : decode cX5_requestKind 4 = .ok (.getfield 24, 3) := by decide +kernel
theorem dX5_requestKind_7 : decode cX5_requestKind 7 = .ok (.iadd, 1) := by decide +kernel
theorem dX5_requestKind_8 : decode cX5_requestKind 8 = .ok (.ireturn, 1) := by decide +kernel
set_option maxRecDepth 100000 in
set_option maxHeartbeats 4000000 in
theorem tX5_requestKind {T : tyT} {R : Nat} {J : Nat → Prop} {Bc Bs : Nat} {M : gMd} {z : Nat → Nat} {hp : List gA} {o : Nat}  (H : tyS T R J Bc Bs M z hp) (hk : tyK o = (5, 0))  : gM yX5_requestKind cX5_requestKind 1 ((some .int)) 0 0 [.ref o] (hp) (0) (0) (fun v h => ∃ x, v = some (.int x) ∧ tyS T R J Bc Bs M z h) := by
  refine gM_of (ls0 := [some (.ref o)]) (by decide +kernel) (Nat.le_of_ble_eq_true rfl) rfl fun X C E => ?_
  refine g_sipush (v := 192) (q := 3) C dX5_requestKind_0 (by decide) rfl ?_
  refine g_aload_n (q := 4) C dX5_requestKind_3 rfl rfl ?_
  obtain ⟨x0_1, x1_1, x2_1, x3_1, x4_1, x5_1, x6_1, x7_1, x11_1, x12_1, x13_1, x14_1, o1, e1_0⟩ := tyG5 H hk
  refine g_getfield (v := .int x5_1) (q := 7) C fX5_24 dX5_requestKind_4 rfl o1 rfl ?_
  refine g_iadd (q := 8) C dX5_requestKind_7 rfl ?_
  exact E.1 _ _ _ _ _ _ _ dX5_requestKind_8 rfl rfl (Nat.le_of_ble_eq_true rfl) (Nat.le_of_ble_eq_true rfl) ⟨_, rfl, H⟩
theorem dX5_ask_0 : decode cX5_ask 0 = .ok (.aload_n 0, 1) := by decide +kernel
theorem dX5_ask_1 : decode cX5_ask 1 = .ok (.iload_n 1, 1) := by decide +kernel
theorem dX5_ask_2 : decode cX5_ask 2 = .ok (.putfield 24, 3) := by decide +kernel
theorem dX5_ask_5 : decode cX5_ask 5 = .ok (.aload_n 0, 1) := by decide +kernel
theorem dX5_ask_6 : decode cX5_ask 6 = .ok (.iload_n 2, 1) := by decide +kernel
theorem dX5_ask_7 : decode cX5_ask 7 = .ok (.putfield 27, 3) := by decide +kernel
theorem dX5_ask_10 : decode cX5_ask 10 = .ok (.aload_n 0, 1) := by decide +kernel
theorem dX5_ask_11 : decode cX5_ask 11 = .ok (.invokevirtual 101, 3) := by decide +kernel
theorem dX5_ask_14 : decode cX5_ask 14 = .ok (.ireturn, 1) := by decide +kernel
set_option maxRecDepth 100000 in
set_option maxHeartbeats 4000000 in
theorem tX5_ask {T : tyT} {R : Nat} {J : Nat → Prop} {Bc Bs : Nat} {M : gMd} {z : Nat → Nat} {hp : List gA} {o : Nat} {a0 : Int32} {a1 : Int32}  (H : tyS T R J Bc Bs M z hp) (hk : tyK o = (5, 0))  : gM yX5_ask cX5_ask 3 ((some .int)) 1 20 [.ref o, .int a0, .int a1] (hp) (0) (0) (fun v h => ∃ x, v = some (.int x) ∧ tyS T R J Bc Bs M z h) := by
  refine gM_of (ls0 := [some (.ref o), some (.int a0), some (.int a1)]) (by decide +kernel) (Nat.le_of_ble_eq_true rfl) rfl fun X C E => ?_
  refine g_aload_n (q := 1) C dX5_ask_0 rfl rfl ?_
  refine g_iload_n (q := 2) C dX5_ask_1 rfl rfl ?_
  obtain ⟨x0_1, x1_1, x2_1, x3_1, x4_1, x5_1, x6_1, x7_1, x11_1, x12_1, x13_1, x14_1, o1, e1_0⟩ := tyG5 H hk
  refine g_putfield (q := 5) C fX5_24 dX5_ask_2 rfl o1 (Nat.le_of_ble_eq_true rfl) (Or.inl rfl) rfl rfl (by intro z h; cases h) ?_
  refine tyP5 H hk rfl e1_0 (fun h2 _ _ H2 => ?_)
  refine g_aload_n (q := 6) C dX5_ask_5 rfl rfl ?_
  refine g_iload_n (q := 7) C dX5_ask_6 rfl rfl ?_
  obtain ⟨x0_3, x1_3, x2_3, x3_3, x4_3, x5_3, x6_3, x7_3, x11_3, x12_3, x13_3, x14_3, o3, e3_0⟩ := tyG5 H2 hk
  refine g_putfield (q := 10) C fX5_27 dX5_ask_7 rfl o3 (Nat.le_of_ble_eq_true rfl) (Or.inl rfl) rfl rfl (by intro z h; cases h) ?_
  refine tyP5 H2 hk rfl e3_0 (fun h4 _ _ H4 => ?_)
  refine g_aload_n (q := 11) C dX5_ask_10 rfl rfl ?_
  obtain ⟨x0_5, x1_5, x2_5, x3_5, x4_5, x5_5, x6_5, x7_5, x11_5, x12_5, x13_5, x14_5, o5, e5_0⟩ := tyG5 H4 hk
  refine g_callVip (q := 14) (As := []) C gyX5_requestKind gvX5_requestKind t_705 (tX5_requestKind H4 hk) dX5_ask_11 rfl o5 rfl rfl rfl (Nat.le_of_ble_eq_true rfl) (Nat.le_of_ble_eq_true rfl) (Nat.le_of_ble_eq_true rfl) (Nat.le_of_ble_eq_true rfl) (Nat.le_of_ble_eq_true rfl) rfl (fun x6 h6 q6 => ?_)
  have H6 := q6
  exact E.1 _ _ _ _ _ _ _ dX5_ask_14 rfl rfl (Nat.le_of_ble_eq_true rfl) (Nat.le_of_ble_eq_true rfl) ⟨_, rfl, H6⟩
theorem dX5_blocksSent_0 : decode cX5_blocksSent 0 = .ok (.aload_n 0, 1) := by decide +kernel
theorem dX5_blocksSent_1 : decode cX5_blocksSent 1 = .ok (.getfield 58, 3) := by decide +kernel
theorem dX5_blocksSent_4 : decode cX5_blocksSent 4 = .ok (.ireturn, 1) := by decide +kernel
set_option maxRecDepth 100000 in
set_option maxHeartbeats 4000000 in
theorem tX5_blocksSent {T : tyT} {R : Nat} {J : Nat → Prop} {Bc Bs : Nat} {M : gMd} {z : Nat → Nat} {hp : List gA} {o : Nat}  (H : tyS T R J Bc Bs M z hp) (hk : tyK o = (5, 0))  : gM yX5_blocksSent cX5_blocksSent 1 ((some .int)) 0 0 [.ref o] (hp) (0) (0) (fun v h => ∃ x, v = some (.int x) ∧ tyS T R J Bc Bs M z h) := by
  refine gM_of (ls0 := [some (.ref o)]) (by decide +kernel) (Nat.le_of_ble_eq_true rfl) rfl fun X C E => ?_
  refine g_aload_n (q := 1) C dX5_blocksSent_0 rfl rfl ?_
  obtain ⟨x0_1, x1_1, x2_1, x3_1, x4_1, x5_1, x6_1, x7_1, x11_1, x12_1, x13_1, x14_1, o1, e1_0⟩ := tyG5 H hk
  refine g_getfield (v := .int x14_1) (q := 4) C fX5_58 dX5_blocksSent_1 rfl o1 rfl ?_
  exact E.1 _ _ _ _ _ _ _ dX5_blocksSent_4 rfl rfl (Nat.le_of_ble_eq_true rfl) (Nat.le_of_ble_eq_true rfl) ⟨_, rfl, H⟩
theorem dX5_passPending_0 : decode cX5_passPending 0 = .ok (.aload_n 0, 1) := by decide +kernel
theorem dX5_passPending_1 : decode cX5_passPending 1 = .ok (.getfield 48, 3) := by decide +kernel
theorem dX5_passPending_4 : decode cX5_passPending 4 = .ok (.iconst (-1), 1) := by decide +kernel
theorem dX5_passPending_5 : decode cX5_passPending 5 = .ok (.if_icmp .eq 31, 3) := by decide +kernel
theorem dX5_passPending_8 : decode cX5_passPending 8 = .ok (.aload_n 0, 1) := by decide +kernel
theorem dX5_passPending_9 : decode cX5_passPending 9 = .ok (.dup, 1) := by decide +kernel
theorem dX5_passPending_10 : decode cX5_passPending 10 = .ok (.getfield 21, 3) := by decide +kernel
theorem dX5_passPending_13 : decode cX5_passPending 13 = .ok (.aload_n 0, 1) := by decide +kernel
theorem dX5_passPending_14 : decode cX5_passPending 14 = .ok (.getfield 48, 3) := by decide +kernel
theorem dX5_passPending_17 : decode cX5_passPending 17 = .ok (.iadd, 1) := by decide +kernel
theorem dX5_passPending_18 : decode cX5_passPending 18 = .ok (.putfield 21, 3) := by decide +kernel
theorem dX5_passPending_21 : decode cX5_passPending 21 = .ok (.aload_n 0, 1) := by decide +kernel
theorem dX5_passPending_22 : decode cX5_passPending 22 = .ok (.iconst (-1), 1) := by decide +kernel
theorem dX5_passPending_23 : decode cX5_passPending 23 = .ok (.putfield 48, 3) := by decide +kernel
theorem dX5_passPending_26 : decode cX5_passPending 26 = .ok (.aload_n 0, 1) := by decide +kernel
theorem dX5_passPending_27 : decode cX5_passPending 27 = .ok (.iconst 1, 1) := by decide +kernel
theorem dX5_passPending_28 : decode cX5_passPending 28 = .ok (.aload_n 0, 1) := by decide +kernel
theorem dX5_passPending_29 : decode cX5_passPending 29 = .ok (.getfield 9, 3) := by decide +kernel
theorem dX5_passPending_32 : decode cX5_passPending 32 = .ok (.isub, 1) := by decide +kernel
theorem dX5_passPending_33 : decode cX5_passPending 33 = .ok (.putfield 9, 3) := by decide +kernel
theorem dX5_passPending_36 : decode cX5_passPending 36 = .ok (.return_, 1) := by decide +kernel
set_option maxRecDepth 100000 in
set_option maxHeartbeats 4000000 in
theorem tX5_passPending {T : tyT} {R : Nat} {J : Nat → Prop} {Bc Bs : Nat} {M : gMd} {z : Nat → Nat} {hp : List gA} {o : Nat}  (H : tyS T R J Bc Bs M z hp) (hk : tyK o = (5, 0))  : gM yX5_passPending cX5_passPending 1 (none) 0 0 [.ref o] (hp) (0) (0) (fun v h => v = none ∧ tyS T R J Bc Bs M z h) := by
  refine gM_of (ls0 := [some (.ref o)]) (by decide +kernel) (Nat.le_of_ble_eq_true rfl) rfl fun X C E => ?_
  refine g_aload_n (q := 1) C dX5_passPending_0 rfl rfl ?_
  obtain ⟨x0_1, x1_1, x2_1, x3_1, x4_1, x5_1, x6_1, x7_1, x11_1, x12_1, x13_1, x14_1, o1, e1_0⟩ := tyG5 H hk
  refine g_getfield (v := .int x11_1) (q := 4) C fX5_48 dX5_passPending_1 rfl o1 rfl ?_
  refine g_iconst (v := (-1)) (q := 5) C dX5_passPending_4 (by decide) rfl ?_
  refine g_icmp_eq (t := 36) (q := 8) C dX5_passPending_5 (by decide) rfl (fun c_5 => ?_) (fun c_5 => ?_)
  ·
    exact E.2.1 _ _ _ _ _ dX5_passPending_36 rfl (Nat.le_of_ble_eq_true rfl) (Nat.le_of_ble_eq_true rfl) ⟨rfl, H⟩
  ·
    refine g_aload_n (q := 9) C dX5_passPending_8 rfl rfl ?_
    refine g_dup (q := 10) C dX5_passPending_9 rfl rfl ?_
    refine g_getfield (v := .int x4_1) (q := 13) C fX5_21 dX5_passPending_10 rfl o1 rfl ?_
    refine g_aload_n (q := 14) C dX5_passPending_13 rfl rfl ?_
    refine g_getfield (v := .int x11_1) (q := 17) C fX5_48 dX5_passPending_14 rfl o1 rfl ?_
    refine g_iadd (q := 18) C dX5_passPending_17 rfl ?_
    refine g_putfield (q := 21) C fX5_21 dX5_passPending_18 rfl o1 (Nat.le_of_ble_eq_true rfl) (Or.inl rfl) rfl rfl (by intro z h; cases h) ?_
    refine tyP5 H hk rfl e1_0 (fun h2 _ _ H2 => ?_)
    refine g_aload_n (q := 22) C dX5_passPending_21 rfl rfl ?_
    refine g_iconst (v := (-1)) (q := 23) C dX5_passPending_22 (by decide) rfl ?_
    obtain ⟨x0_3, x1_3, x2_3, x3_3, x4_3, x5_3, x6_3, x7_3, x11_3, x12_3, x13_3, x14_3, o3, e3_0⟩ := tyG5 H2 hk
    refine g_putfield (q := 26) C fX5_48 dX5_passPending_23 rfl o3 (Nat.le_of_ble_eq_true rfl) (Or.inl rfl) rfl rfl (by intro z h; cases h) ?_
    refine tyP5 H2 hk rfl e3_0 (fun h4 _ _ H4 => ?_)
    refine g_aload_n (q := 27) C dX5_passPending_26 rfl rfl ?_
    refine g_iconst (v := 1) (q := 28) C dX5_passPending_27 (by decide) rfl ?_
    refine g_aload_n (q := 29) C dX5_passPending_28 rfl rfl ?_
    obtain ⟨x0_5, x1_5, x2_5, x3_5, x4_5, x5_5, x6_5, x7_5, x11_5, x12_5, x13_5, x14_5, o5, e5_0⟩ := tyG5 H4 hk
    refine g_getfield (v := .int x1_5) (q := 32) C fX5_9 dX5_passPending_29 rfl o5 rfl ?_
    refine g_isub (q := 33) C dX5_passPending_32 rfl ?_
    refine g_putfield (q := 36) C fX5_9 dX5_passPending_33 rfl o5 (Nat.le_of_ble_eq_true rfl) (Or.inl rfl) rfl rfl (by intro z h; cases h) ?_
    refine tyP5 H4 hk rfl e5_0 (fun h6 _ _ H6 => ?_)
    exact E.2.1 _ _ _ _ _ dX5_passPending_36 rfl (Nat.le_of_ble_eq_true rfl) (Nat.le_of_ble_eq_true rfl) ⟨rfl, H6⟩
theorem dX5_emptyAll_0 : decode cX5_emptyAll 0 = .ok (.aload_n 0, 1) := by decide +kernel
theorem dX5_emptyAll_1 : decode cX5_emptyAll 1 = .ok (.iconst 0, 1) := by decide +kernel
theorem dX5_emptyAll_2 : decode cX5_emptyAll 2 = .ok (.putfield 9, 3) := by decide +kernel
theorem dX5_emptyAll_5 : decode cX5_emptyAll 5 = .ok (.aload_n 0, 1) := by decide +kernel
theorem dX5_emptyAll_6 : decode cX5_emptyAll 6 = .ok (.iconst 0, 1) := by decide +kernel
theorem dX5_emptyAll_7 : decode cX5_emptyAll 7 = .ok (.putfield 15, 3) := by decide +kernel
theorem dX5_emptyAll_10 : decode cX5_emptyAll 10 = .ok (.aload_n 0, 1) := by decide +kernel
theorem dX5_emptyAll_11 : decode cX5_emptyAll 11 = .ok (.iconst (-1), 1) := by decide +kernel
theorem dX5_emptyAll_12 : decode cX5_emptyAll 12 = .ok (.putfield 48, 3) := by decide +kernel
theorem dX5_emptyAll_15 : decode cX5_emptyAll 15 = .ok (.aload_n 0, 1) := by decide +kernel
theorem dX5_emptyAll_16 : decode cX5_emptyAll 16 = .ok (.getfield 38, 3) := by decide +kernel
theorem dX5_emptyAll_19 : decode cX5_emptyAll 19 = .ok (.iconst 0, 1) := by decide +kernel
theorem dX5_emptyAll_20 : decode cX5_emptyAll 20 = .ok (.invokevirtual 67, 3) := by decide +kernel
theorem dX5_emptyAll_23 : decode cX5_emptyAll 23 = .ok (.aload_n 0, 1) := by decide +kernel
theorem dX5_emptyAll_24 : decode cX5_emptyAll 24 = .ok (.iconst 0, 1) := by decide +kernel
theorem dX5_emptyAll_25 : decode cX5_emptyAll 25 = .ok (.putfield 21, 3) := by decide +kernel
theorem dX5_emptyAll_28 : decode cX5_emptyAll 28 = .ok (.aload_n 0, 1) := by decide +kernel
theorem dX5_emptyAll_29 : decode cX5_emptyAll 29 = .ok (.getfield 45, 3) := by decide +kernel
theorem dX5_emptyAll_32 : decode cX5_emptyAll 32 = .ok (.iconst 0, 1) := by decide +kernel
theorem dX5_emptyAll_33 : decode cX5_emptyAll 33 = .ok (.invokevirtual 67, 3) := by decide +kernel
theorem dX5_emptyAll_36 : decode cX5_emptyAll 36 = .ok (.return_, 1) := by decide +kernel
set_option maxRecDepth 100000 in
set_option maxHeartbeats 4000000 in
theorem tX5_emptyAll {T : tyT} {R : Nat} {J : Nat → Prop} {Bc Bs : Nat} {M : gMd} {z : Nat → Nat} {hp : List gA} {o : Nat}  (H : tyS T R J Bc Bs M z hp) (hk : tyK o = (5, 0))  : gM yX5_emptyAll cX5_emptyAll 1 (none) 2 42 [.ref o] (hp) (0) (0) (fun v h => v = none ∧ tyS T R J Bc Bs M z h) := by
  refine gM_of (ls0 := [some (.ref o)]) (by decide +kernel) (Nat.le_of_ble_eq_true rfl) rfl fun X C E => ?_
  refine g_aload_n (q := 1) C dX5_emptyAll_0 rfl rfl ?_
  refine g_iconst (v := 0) (q := 2) C dX5_emptyAll_1 (by decide) rfl ?_
  obtain ⟨x0_1, x1_1, x2_1, x3_1, x4_1, x5_1, x6_1, x7_1, x11_1, x12_1, x13_1, x14_1, o1, e1_0⟩ := tyG5 H hk
  refine g_putfield (q := 5) C fX5_9 dX5_emptyAll_2 rfl o1 (Nat.le_of_ble_eq_true rfl) (Or.inl rfl) rfl rfl (by intro z h; cases h) ?_
  refine tyP5 H hk rfl e1_0 (fun h2 _ _ H2 => ?_)
  refine g_aload_n (q := 6) C dX5_emptyAll_5 rfl rfl ?_
  refine g_iconst (v := 0) (q := 7) C dX5_emptyAll_6 (by decide) rfl ?_
  obtain ⟨x0_3, x1_3, x2_3, x3_3, x4_3, x5_3, x6_3, x7_3, x11_3, x12_3, x13_3, x14_3, o3, e3_0⟩ := tyG5 H2 hk
  refine g_putfield (q := 10) C fX5_15 dX5_emptyAll_7 rfl o3 (Nat.le_of_ble_eq_true rfl) (Or.inl rfl) rfl rfl (by intro z h; cases h) ?_
  refine tyP5 H2 hk rfl e3_0 (fun h4 _ _ H4 => ?_)
  refine g_aload_n (q := 11) C dX5_emptyAll_10 rfl rfl ?_
  refine g_iconst (v := (-1)) (q := 12) C dX5_emptyAll_11 (by decide) rfl ?_
  obtain ⟨x0_5, x1_5, x2_5, x3_5, x4_5, x5_5, x6_5, x7_5, x11_5, x12_5, x13_5, x14_5, o5, e5_0⟩ := tyG5 H4 hk
  refine g_putfield (q := 15) C fX5_48 dX5_emptyAll_12 rfl o5 (Nat.le_of_ble_eq_true rfl) (Or.inl rfl) rfl rfl (by intro z h; cases h) ?_
  refine tyP5 H4 hk rfl e5_0 (fun h6 _ _ H6 => ?_)
  refine g_aload_n (q := 16) C dX5_emptyAll_15 rfl rfl ?_
  obtain ⟨x0_7, x1_7, x2_7, x3_7, x4_7, x5_7, x6_7, x7_7, x11_7, x12_7, x13_7, x14_7, o7, e7_0⟩ := tyG5 H6 hk
  refine g_getfield (v := .ref ((o + 1))) (q := 19) C fX5_38 dX5_emptyAll_16 rfl o7 rfl ?_
  refine g_iconst (v := 0) (q := 20) C dX5_emptyAll_19 (by decide) rfl ?_
  obtain ⟨l8, g8, -⟩ := tyRow H6 (tyF5_8 hk)
  refine g_callVvp (q := 23) (As := [.int 0]) C gyX4_keep gvX4_keep t_581 (tX4_keep H6 (tyF5_8 hk) (by decide)) dX5_emptyAll_20 rfl g8.obj rfl rfl rfl (Nat.le_of_ble_eq_true rfl) (Nat.le_of_ble_eq_true rfl) (Nat.le_of_ble_eq_true rfl) (Nat.le_of_ble_eq_true rfl) (Nat.le_of_ble_eq_true rfl) rfl (fun h9 q9 => ?_)
  have H9 := q9
  refine g_aload_n (q := 24) C dX5_emptyAll_23 rfl rfl ?_
  refine g_iconst (v := 0) (q := 25) C dX5_emptyAll_24 (by decide) rfl ?_
  obtain ⟨x0_10, x1_10, x2_10, x3_10, x4_10, x5_10, x6_10, x7_10, x11_10, x12_10, x13_10, x14_10, o10, e10_0⟩ := tyG5 H9 hk
  refine g_putfield (q := 28) C fX5_21 dX5_emptyAll_25 rfl o10 (Nat.le_of_ble_eq_true rfl) (Or.inl rfl) rfl rfl (by intro z h; cases h) ?_
  refine tyP5 H9 hk rfl e10_0 (fun h11 _ _ H11 => ?_)
  refine g_aload_n (q := 29) C dX5_emptyAll_28 rfl rfl ?_
  obtain ⟨x0_12, x1_12, x2_12, x3_12, x4_12, x5_12, x6_12, x7_12, x11_12, x12_12, x13_12, x14_12, o12, e12_0⟩ := tyG5 H11 hk
  refine g_getfield (v := .ref ((o + 5))) (q := 32) C fX5_45 dX5_emptyAll_29 rfl o12 rfl ?_
  refine g_iconst (v := 0) (q := 33) C dX5_emptyAll_32 (by decide) rfl ?_
  obtain ⟨l13, g13, -⟩ := tyRow H11 (tyF5_10 hk)
  refine g_callVvp (q := 36) (As := [.int 0]) C gyX4_keep gvX4_keep t_581 (tX4_keep H11 (tyF5_10 hk) (by decide)) dX5_emptyAll_33 rfl g13.obj rfl rfl rfl (Nat.le_of_ble_eq_true rfl) (Nat.le_of_ble_eq_true rfl) (Nat.le_of_ble_eq_true rfl) (Nat.le_of_ble_eq_true rfl) (Nat.le_of_ble_eq_true rfl) rfl (fun h14 q14 => ?_)
  have H14 := q14
  exact E.2.1 _ _ _ _ _ dX5_emptyAll_36 rfl (Nat.le_of_ble_eq_true rfl) (Nat.le_of_ble_eq_true rfl) ⟨rfl, H14⟩
theorem dX5_breakOff_0 : decode cX5_breakOff 0 = .ok (.aload_n 0, 1) := by decide +kernel
theorem dX5_breakOff_1 : decode cX5_breakOff 1 = .ok (.invokevirtual 75, 3) := by decide +kernel
theorem dX5_breakOff_4 : decode cX5_breakOff 4 = .ok (.aload_n 0, 1) := by decide +kernel
theorem dX5_breakOff_5 : decode cX5_breakOff 5 = .ok (.getfield 38, 3) := by decide +kernel
theorem dX5_breakOff_8 : decode cX5_breakOff 8 = .ok (.iconst 0, 1) := by decide +kernel
theorem dX5_breakOff_9 : decode cX5_breakOff 9 = .ok (.invokevirtual 67, 3) := by decide +kernel
theorem dX5_breakOff_12 : decode cX5_breakOff 12 = .ok (.aload_n 0, 1) := by decide +kernel
theorem dX5_breakOff_13 : decode cX5_breakOff 13 = .ok (.iconst 0, 1) := by decide +kernel
theorem dX5_breakOff_14 : decode cX5_breakOff 14 = .ok (.putfield 21, 3) := by decide +kernel
theorem dX5_breakOff_17 : decode cX5_breakOff 17 = .ok (.aload_n 0, 1) := by decide +kernel
theorem dX5_breakOff_18 : decode cX5_breakOff 18 = .ok (.getfield 45, 3) := by decide +kernel
theorem dX5_breakOff_21 : decode cX5_breakOff 21 = .ok (.iconst 0, 1) := by decide +kernel
theorem dX5_breakOff_22 : decode cX5_breakOff 22 = .ok (.invokevirtual 67, 3) := by decide +kernel
theorem dX5_breakOff_25 : decode cX5_breakOff 25 = .ok (.return_, 1) := by decide +kernel
set_option maxRecDepth 100000 in
set_option maxHeartbeats 4000000 in
theorem tX5_breakOff {T : tyT} {R : Nat} {J : Nat → Prop} {Bc Bs : Nat} {M : gMd} {z : Nat → Nat} {hp : List gA} {o : Nat}  (H : tyS T R J Bc Bs M z hp) (hk : tyK o = (5, 0))  : gM yX5_breakOff cX5_breakOff 1 (none) 2 42 [.ref o] (hp) (0) (0) (fun v h => v = none ∧ tyS T R J Bc Bs M z h) := by
  refine gM_of (ls0 := [some (.ref o)]) (by decide +kernel) (Nat.le_of_ble_eq_true rfl) rfl fun X C E => ?_
  refine g_aload_n (q := 1) C dX5_breakOff_0 rfl rfl ?_
  obtain ⟨x0_1, x1_1, x2_1, x3_1, x4_1, x5_1, x6_1, x7_1, x11_1, x12_1, x13_1, x14_1, o1, e1_0⟩ := tyG5 H hk
  refine g_callVvp (q := 4) (As := []) C gyX5_passPending gvX5_passPending t_744 (tX5_passPending H hk) dX5_breakOff_1 rfl o1 rfl rfl rfl (Nat.le_of_ble_eq_true rfl) (Nat.le_of_ble_eq_true rfl) (Nat.le_of_ble_eq_true rfl) (Nat.le_of_ble_eq_true rfl) (Nat.le_of_ble_eq_true rfl) rfl (fun h2 q2 => ?_)
  have H2 := q2
  refine g_aload_n (q := 5) C dX5_breakOff_4 rfl rfl ?_
  obtain ⟨x0_3, x1_3, x2_3, x3_3, x4_3, x5_3, x6_3, x7_3, x11_3, x12_3, x13_3, x14_3, o3, e3_0⟩ := tyG5 H2 hk
  refine g_getfield (v := .ref ((o + 1))) (q := 8) C fX5_38 dX5_breakOff_5 rfl o3 rfl ?_
  refine g_iconst (v := 0) (q := 9) C dX5_breakOff_8 (by decide) rfl ?_
  obtain ⟨l4, g4, -⟩ := tyRow H2 (tyF5_8 hk)
  refine g_callVvp (q := 12) (As := [.int 0]) C gyX4_keep gvX4_keep t_581 (tX4_keep H2 (tyF5_8 hk) (by decide)) dX5_breakOff_9 rfl g4.obj rfl rfl rfl (Nat.le_of_ble_eq_true rfl) (Nat.le_of_ble_eq_true rfl) (Nat.le_of_ble_eq_true rfl) (Nat.le_of_ble_eq_true rfl) (Nat.le_of_ble_eq_true rfl) rfl (fun h5 q5 => ?_)
  have H5 := q5
  refine g_aload_n (q := 13) C dX5_breakOff_12 rfl rfl ?_
  refine g_iconst (v := 0) (q := 14) C dX5_breakOff_13 (by decide) rfl ?_
  obtain ⟨x0_6, x1_6, x2_6, x3_6, x4_6, x5_6, x6_6, x7_6, x11_6, x12_6, x13_6, x14_6, o6, e6_0⟩ := tyG5 H5 hk
  refine g_putfield (q := 17) C fX5_21 dX5_breakOff_14 rfl o6 (Nat.le_of_ble_eq_true rfl) (Or.inl rfl) rfl rfl (by intro z h; cases h) ?_
  refine tyP5 H5 hk rfl e6_0 (fun h7 _ _ H7 => ?_)
  refine g_aload_n (q := 18) C dX5_breakOff_17 rfl rfl ?_
  obtain ⟨x0_8, x1_8, x2_8, x3_8, x4_8, x5_8, x6_8, x7_8, x11_8, x12_8, x13_8, x14_8, o8, e8_0⟩ := tyG5 H7 hk
  refine g_getfield (v := .ref ((o + 5))) (q := 21) C fX5_45 dX5_breakOff_18 rfl o8 rfl ?_
  refine g_iconst (v := 0) (q := 22) C dX5_breakOff_21 (by decide) rfl ?_
  obtain ⟨l9, g9, -⟩ := tyRow H7 (tyF5_10 hk)
  refine g_callVvp (q := 25) (As := [.int 0]) C gyX4_keep gvX4_keep t_581 (tX4_keep H7 (tyF5_10 hk) (by decide)) dX5_breakOff_22 rfl g9.obj rfl rfl rfl (Nat.le_of_ble_eq_true rfl) (Nat.le_of_ble_eq_true rfl) (Nat.le_of_ble_eq_true rfl) (Nat.le_of_ble_eq_true rfl) (Nat.le_of_ble_eq_true rfl) rfl (fun h10 q10 => ?_)
  have H10 := q10
  exact E.2.1 _ _ _ _ _ dX5_breakOff_25 rfl (Nat.le_of_ble_eq_true rfl) (Nat.le_of_ble_eq_true rfl) ⟨rfl, H10⟩
theorem dX5_pendingKind_0 : decode cX5_pendingKind 0 = .ok (.bipush 64, 2) := by decide +kernel
theorem dX5_pendingKind_2 : decode cX5_pendingKind 2 = .ok (.aload_n 0, 1) := by decide +kernel
theorem dX5_pendingKind_3 : decode cX5_pendingKind 3 = .ok (.getfield 9, 3) := by decide +kernel
theorem dX5_pendingKind_6 : decode cX5_pendingKind 6 = .ok (.imul, 1) := by decide +kernel
theorem dX5_pendingKind_7 : decode cX5_pendingKind 7 = .ok (.aload_n 0, 1) := by decide +kernel
theorem dX5_pendingKind_8 : decode cX5_pendingKind 8 = .ok (.getfield 51, 3) := by decide +kernel
theorem dX5_pendingKind_11 : decode cX5_pendingKind 11 = .ok (.ifCond .eq 8, 3) := by decide +kernel
theorem dX5_pendingKind_14 : decode cX5_pendingKind 14 = .ok (.bipush 32, 2) := by decide +kernel
theorem dX5_pendingKind_16 : decode cX5_pendingKind 16 = .ok (.goto 4, 3) := by decide +kernel
theorem dX5_pendingKind_19 : decode cX5_pendingKind 19 = .ok (.iconst 0, 1) := by decide +kernel
theorem dX5_pendingKind_20 : decode cX5_pendingKind 20 = .ok (.iadd, 1) := by decide +kernel
theorem dX5_pendingKind_21 : decode cX5_pendingKind 21 = .ok (.ireturn, 1) := by decide +kernel
set_option maxRecDepth 100000 in
set_option maxHeartbeats 4000000 in
theorem tX5_pendingKind {T : tyT} {R : Nat} {J : Nat → Prop} {Bc Bs : Nat} {M : gMd} {z : Nat → Nat} {hp : List gA} {o : Nat}  (H : tyS T R J Bc Bs M z hp) (hk : tyK o = (5, 0))  : gM yX5_pendingKind cX5_pendingKind 1 ((some .int)) 0 0 [.ref o] (hp) (0) (0) (fun v h => ∃ x, v = some (.int x) ∧ tyS T R J Bc Bs M z h) := by
  refine gM_of (ls0 := [some (.ref o)]) (by decide +kernel) (Nat.le_of_ble_eq_true rfl) rfl fun X C E => ?_
  have J_20 : ∀ (s20_0 s20_1 : Int32) (hJ20 : List gA), tyS T R J Bc Bs M z hJ20 → gG X 20 [some (.ref o)] [.int s20_0, .int s20_1] hJ20 0 0 := by
    intro s20_0 s20_1 hJ20 HJ20
    refine g_iadd (q := 21) C dX5_pendingKind_20 rfl ?_
    exact E.1 _ _ _ _ _ _ _ dX5_pendingKind_21 rfl rfl (Nat.le_of_ble_eq_true rfl) (Nat.le_of_ble_eq_true rfl) ⟨_, rfl, HJ20⟩
  refine g_bipush (v := 64) (q := 2) C dX5_pendingKind_0 (by decide) rfl ?_
  refine g_aload_n (q := 3) C dX5_pendingKind_2 rfl rfl ?_
  obtain ⟨x0_1, x1_1, x2_1, x3_1, x4_1, x5_1, x6_1, x7_1, x11_1, x12_1, x13_1, x14_1, o1, e1_0⟩ := tyG5 H hk
  refine g_getfield (v := .int x1_1) (q := 6) C fX5_9 dX5_pendingKind_3 rfl o1 rfl ?_
  refine g_imul (q := 7) C dX5_pendingKind_6 rfl ?_
  refine g_aload_n (q := 8) C dX5_pendingKind_7 rfl rfl ?_
  refine g_getfield (v := .int x12_1) (q := 11) C fX5_51 dX5_pendingKind_8 rfl o1 rfl ?_
  refine g_if_eq (t := 19) (q := 14) C dX5_pendingKind_11 (by decide) rfl (fun c_11 => ?_) (fun c_11 => ?_)
  ·
    refine g_iconst (v := 0) (q := 20) C dX5_pendingKind_19 (by decide) rfl ?_
    exact J_20 _ _ _  H
  ·
    refine g_bipush (v := 32) (q := 16) C dX5_pendingKind_14 (by decide) rfl ?_
    refine g_goto (q := 20) C dX5_pendingKind_16 (by decide) ?_
    exact J_20 _ _ _  H
theorem dX5_pendingSize_0 : decode cX5_pendingSize 0 = .ok (.iconst 0, 1) := by decide +kernel
theorem dX5_pendingSize_1 : decode cX5_pendingSize 1 = .ok (.aload_n 0, 1) := by decide +kernel
theorem dX5_pendingSize_2 : decode cX5_pendingSize 2 = .ok (.getfield 48, 3) := by decide +kernel
theorem dX5_pendingSize_5 : decode cX5_pendingSize 5 = .ok (.invokestatic 82, 3) := by decide +kernel
theorem dX5_pendingSize_8 : decode cX5_pendingSize 8 = .ok (.ireturn, 1) := by decide +kernel
set_option maxRecDepth 100000 in
set_option maxHeartbeats 4000000 in
theorem tX5_pendingSize {T : tyT} {R : Nat} {J : Nat → Prop} {Bc Bs : Nat} {M : gMd} {z : Nat → Nat} {hp : List gA} {o : Nat}  (H : tyS T R J Bc Bs M z hp) (hk : tyK o = (5, 0))  : gM yX5_pendingSize cX5_pendingSize 1 ((some .int)) 1 21 [.ref o] (hp) (0) (0) (fun v h => ∃ x, v = some (.int x) ∧ tyS T R J Bc Bs M z h) := by
  refine gM_of (ls0 := [some (.ref o)]) (by decide +kernel) (Nat.le_of_ble_eq_true rfl) rfl fun X C E => ?_
  refine g_iconst (v := 0) (q := 1) C dX5_pendingSize_0 (by decide) rfl ?_
  refine g_aload_n (q := 2) C dX5_pendingSize_1 rfl rfl ?_
  obtain ⟨x0_1, x1_1, x2_1, x3_1, x4_1, x5_1, x6_1, x7_1, x11_1, x12_1, x13_1, x14_1, o1, e1_0⟩ := tyG5 H hk
  refine g_getfield (v := .int x11_1) (q := 5) C fX5_48 dX5_pendingSize_2 rfl o1 rfl ?_
  refine g_callSi (q := 8) (As := [.int 0, .int x11_1]) C gyJ9_max_7cf53 t_132 t_804 (c_J9_max_7cf53) dX5_pendingSize_5 rfl rfl rfl (Nat.le_of_ble_eq_true rfl) (Nat.le_of_ble_eq_true rfl) (Nat.le_of_ble_eq_true rfl) (Nat.le_of_ble_eq_true rfl) (Nat.le_of_ble_eq_true rfl) rfl ?_
  exact E.1 _ _ _ _ _ _ _ dX5_pendingSize_8 rfl rfl (Nat.le_of_ble_eq_true rfl) (Nat.le_of_ble_eq_true rfl) ⟨_, rfl, H⟩
theorem dX5_cutNext_0 : decode cX5_cutNext 0 = .ok (.iconst 0, 1) := by decide +kernel
theorem dX5_cutNext_1 : decode cX5_cutNext 1 = .ok (.aload_n 0, 1) := by decide +kernel
theorem dX5_cutNext_2 : decode cX5_cutNext 2 = .ok (.getfield 38, 3) := by decide +kernel
theorem dX5_cutNext_5 : decode cX5_cutNext 5 = .ok (.invokevirtual 78, 3) := by decide +kernel
theorem dX5_cutNext_8 : decode cX5_cutNext 8 = .ok (.aload_n 0, 1) := by decide +kernel
theorem dX5_cutNext_9 : decode cX5_cutNext 9 = .ok (.getfield 21, 3) := by decide +kernel
theorem dX5_cutNext_12 : decode cX5_cutNext 12 = .ok (.isub, 1) := by decide +kernel
theorem dX5_cutNext_13 : decode cX5_cutNext 13 = .ok (.invokestatic 82, 3) := by decide +kernel
theorem dX5_cutNext_16 : decode cX5_cutNext 16 = .ok (.istore_n 2, 1) := by decide +kernel
theorem dX5_cutNext_17 : decode cX5_cutNext 17 = .ok (.aload_n 0, 1) := by decide +kernel
theorem dX5_cutNext_18 : decode cX5_cutNext 18 = .ok (.iload_n 2, 1) := by decide +kernel
theorem dX5_cutNext_19 : decode cX5_cutNext 19 = .ok (.iload_n 1, 1) := by decide +kernel
theorem dX5_cutNext_20 : decode cX5_cutNext 20 = .ok (.invokestatic 88, 3) := by decide +kernel
theorem dX5_cutNext_23 : decode cX5_cutNext 23 = .ok (.putfield 48, 3) := by decide +kernel
theorem dX5_cutNext_26 : decode cX5_cutNext 26 = .ok (.aload_n 0, 1) := by decide +kernel
theorem dX5_cutNext_27 : decode cX5_cutNext 27 = .ok (.iload_n 2, 1) := by decide +kernel
theorem dX5_cutNext_28 : decode cX5_cutNext 28 = .ok (.aload_n 0, 1) := by decide +kernel
theorem dX5_cutNext_29 : decode cX5_cutNext 29 = .ok (.getfield 48, 3) := by decide +kernel
theorem dX5_cutNext_32 : decode cX5_cutNext 32 = .ok (.if_icmp .le 7, 3) := by decide +kernel
theorem dX5_cutNext_35 : decode cX5_cutNext 35 = .ok (.iconst 1, 1) := by decide +kernel
theorem dX5_cutNext_36 : decode cX5_cutNext 36 = .ok (.goto 4, 3) := by decide +kernel
theorem dX5_cutNext_39 : decode cX5_cutNext 39 = .ok (.iconst 0, 1) := by decide +kernel
theorem dX5_cutNext_40 : decode cX5_cutNext 40 = .ok (.putfield 51, 3) := by decide +kernel
theorem dX5_cutNext_43 : decode cX5_cutNext 43 = .ok (.aload_n 0, 1) := by decide +kernel
theorem dX5_cutNext_44 : decode cX5_cutNext 44 = .ok (.invokevirtual 91, 3) := by decide +kernel
theorem dX5_cutNext_47 : decode cX5_cutNext 47 = .ok (.ireturn, 1) := by decide +kernel
set_option maxRecDepth 100000 in
set_option maxHeartbeats 4000000 in
theorem tX5_cutNext {T : tyT} {R : Nat} {J : Nat → Prop} {Bc Bs : Nat} {M : gMd} {z : Nat → Nat} {hp : List gA} {o : Nat} {a0 : Int32}  (H : tyS T R J Bc Bs M z hp) (hk : tyK o = (5, 0))  : gM yX5_cutNext cX5_cutNext 3 ((some .int)) 1 21 [.ref o, .int a0] (hp) (0) (0) (fun v h => ∃ x, v = some (.int x) ∧ tyS T R J Bc Bs M z h) := by
  refine gM_of (ls0 := [some (.ref o), some (.int a0), none]) (by decide +kernel) (Nat.le_of_ble_eq_true rfl) rfl fun X C E => ?_
  have J_40 : ∀ (y40_1 y40_2 s40_0 : Int32) (bs40_0 : s40_0 = 0 ∨ s40_0 = 1) (hJ40 : List gA), tyS T R J Bc Bs M z hJ40 → gG X 40 [some (.ref o), some (.int y40_1), some (.int y40_2)] [.int s40_0, .ref o] hJ40 0 0 := by
    intro y40_1 y40_2 s40_0 bs40_0 hJ40 HJ40
    obtain ⟨x0_1, x1_1, x2_1, x3_1, x4_1, x5_1, x6_1, x7_1, x11_1, x12_1, x13_1, x14_1, o1, e1_0⟩ := tyG5 HJ40 hk
    refine g_putfield (q := 43) C fX5_51 dX5_cutNext_40 rfl o1 (Nat.le_of_ble_eq_true rfl) (Or.inl rfl) (tyNar bs40_0) (tyFit bs40_0) (by intro z h; cases h) ?_
    refine tyP5 HJ40 hk rfl bs40_0 (fun h2 _ _ H2 => ?_)
    refine g_aload_n (q := 44) C dX5_cutNext_43 rfl rfl ?_
    obtain ⟨x0_3, x1_3, x2_3, x3_3, x4_3, x5_3, x6_3, x7_3, x11_3, x12_3, x13_3, x14_3, o3, e3_0⟩ := tyG5 H2 hk
    refine g_callVip (q := 47) (As := []) C gyX5_pendingKind gvX5_pendingKind t_806 (tX5_pendingKind H2 hk) dX5_cutNext_44 rfl o3 rfl rfl rfl (Nat.le_of_ble_eq_true rfl) (Nat.le_of_ble_eq_true rfl) (Nat.le_of_ble_eq_true rfl) (Nat.le_of_ble_eq_true rfl) (Nat.le_of_ble_eq_true rfl) rfl (fun x4 h4 q4 => ?_)
    have H4 := q4
    exact E.1 _ _ _ _ _ _ _ dX5_cutNext_47 rfl rfl (Nat.le_of_ble_eq_true rfl) (Nat.le_of_ble_eq_true rfl) ⟨_, rfl, H4⟩
  refine g_iconst (v := 0) (q := 1) C dX5_cutNext_0 (by decide) rfl ?_
  refine g_aload_n (q := 2) C dX5_cutNext_1 rfl rfl ?_
  obtain ⟨x0_5, x1_5, x2_5, x3_5, x4_5, x5_5, x6_5, x7_5, x11_5, x12_5, x13_5, x14_5, o5, e5_0⟩ := tyG5 H hk
  refine g_getfield (v := .ref ((o + 1))) (q := 5) C fX5_38 dX5_cutNext_2 rfl o5 rfl ?_
  obtain ⟨l6, g6, -⟩ := tyRow H (tyF5_8 hk)
  refine g_callVip (q := 8) (As := []) C gyX4_size gvX4_size t_765 (tX4_size H (tyF5_8 hk)) dX5_cutNext_5 rfl g6.obj rfl rfl rfl (Nat.le_of_ble_eq_true rfl) (Nat.le_of_ble_eq_true rfl) (Nat.le_of_ble_eq_true rfl) (Nat.le_of_ble_eq_true rfl) (Nat.le_of_ble_eq_true rfl) rfl (fun x7 h7 q7 => ?_)
  subst q7
  refine g_aload_n (q := 9) C dX5_cutNext_8 rfl rfl ?_
  refine g_getfield (v := .int x4_5) (q := 12) C fX5_21 dX5_cutNext_9 rfl o5 rfl ?_
  refine g_isub (q := 13) C dX5_cutNext_12 rfl ?_
  refine g_callSi (q := 16) (As := [.int 0, .int (x7 - x4_5)]) C gyJ9_max_7cf53 t_132 t_804 (c_J9_max_7cf53) dX5_cutNext_13 rfl rfl rfl (Nat.le_of_ble_eq_true rfl) (Nat.le_of_ble_eq_true rfl) (Nat.le_of_ble_eq_true rfl) (Nat.le_of_ble_eq_true rfl) (Nat.le_of_ble_eq_true rfl) rfl ?_
  refine g_istore_n (q := 17) C dX5_cutNext_16 (Nat.le_of_ble_eq_true rfl) (by simp only [gset]; rfl) rfl ?_
  refine g_aload_n (q := 18) C dX5_cutNext_17 rfl rfl ?_
  refine g_iload_n (q := 19) C dX5_cutNext_18 rfl rfl ?_
  refine g_iload_n (q := 20) C dX5_cutNext_19 rfl rfl ?_
  refine g_callSi (q := 23) (As := [.int (gmax 0 (x7 - x4_5)), .int a0]) C gyJ9_min_7cf53 t_476 t_805 (c_J9_min_7cf53) dX5_cutNext_20 rfl rfl rfl (Nat.le_of_ble_eq_true rfl) (Nat.le_of_ble_eq_true rfl) (Nat.le_of_ble_eq_true rfl) (Nat.le_of_ble_eq_true rfl) (Nat.le_of_ble_eq_true rfl) rfl ?_
  refine g_putfield (q := 26) C fX5_48 dX5_cutNext_23 rfl o5 (Nat.le_of_ble_eq_true rfl) (Or.inl rfl) rfl rfl (by intro z h; cases h) ?_
  refine tyP5 H hk rfl e5_0 (fun h8 _ _ H8 => ?_)
  refine g_aload_n (q := 27) C dX5_cutNext_26 rfl rfl ?_
  refine g_iload_n (q := 28) C dX5_cutNext_27 rfl rfl ?_
  refine g_aload_n (q := 29) C dX5_cutNext_28 rfl rfl ?_
  obtain ⟨x0_9, x1_9, x2_9, x3_9, x4_9, x5_9, x6_9, x7_9, x11_9, x12_9, x13_9, x14_9, o9, e9_0⟩ := tyG5 H8 hk
  refine g_getfield (v := .int x11_9) (q := 32) C fX5_48 dX5_cutNext_29 rfl o9 rfl ?_
  refine g_icmp_le (t := 39) (q := 35) C dX5_cutNext_32 (by decide) rfl (fun c_32 => ?_) (fun c_32 => ?_)
  ·
    refine g_iconst (v := 0) (q := 40) C dX5_cutNext_39 (by decide) rfl ?_
    exact J_40 _ _ _ (Or.inl rfl) _  H8
  ·
    refine g_iconst (v := 1) (q := 36) C dX5_cutNext_35 (by decide) rfl ?_
    refine g_goto (q := 40) C dX5_cutNext_36 (by decide) ?_
    exact J_40 _ _ _ (Or.inr rfl) _  H8
theorem dX5_hasPending_0 : decode cX5_hasPending 0 = .ok (.aload_n 0, 1) := by decide +kernel
theorem dX5_hasPending_1 : decode cX5_hasPending 1 = .ok (.getfield 48, 3) := by decide +kernel
theorem dX5_hasPending_4 : decode cX5_hasPending 4 = .ok (.iconst (-1), 1) := by decide +kernel
theorem dX5_hasPending_5 : decode cX5_hasPending 5 = .ok (.if_icmp .eq 7, 3) := by decide +kernel
theorem dX5_hasPending_8 : decode cX5_hasPending 8 = .ok (.iconst 1, 1) := by decide +kernel
theorem dX5_hasPending_9 : decode cX5_hasPending 9 = .ok (.goto 4, 3) := by decide +kernel
theorem dX5_hasPending_12 : decode cX5_hasPending 12 = .ok (.iconst 0, 1) := by decide +kernel
theorem dX5_hasPending_13 : decode cX5_hasPending 13 = .ok (.ireturn, 1) := by decide +kernel
set_option maxRecDepth 100000 in
set_option maxHeartbeats 4000000 in
theorem tX5_hasPending {T : tyT} {R : Nat} {J : Nat → Prop} {Bc Bs : Nat} {M : gMd} {z : Nat → Nat} {hp : List gA} {o : Nat}  (H : tyS T R J Bc Bs M z hp) (hk : tyK o = (5, 0))  : gM yX5_hasPending cX5_hasPending 1 ((some .boolean)) 0 0 [.ref o] (hp) (0) (0) (fun v h => ∃ x, v = some (.int x) ∧ ((x = 0 ∨ x = 1) ∧ tyS T R J Bc Bs M z h)) := by
  refine gM_of (ls0 := [some (.ref o)]) (by decide +kernel) (Nat.le_of_ble_eq_true rfl) rfl fun X C E => ?_
  refine g_aload_n (q := 1) C dX5_hasPending_0 rfl rfl ?_
  obtain ⟨x0_1, x1_1, x2_1, x3_1, x4_1, x5_1, x6_1, x7_1, x11_1, x12_1, x13_1, x14_1, o1, e1_0⟩ := tyG5 H hk
  refine g_getfield (v := .int x11_1) (q := 4) C fX5_48 dX5_hasPending_1 rfl o1 rfl ?_
  refine g_iconst (v := (-1)) (q := 5) C dX5_hasPending_4 (by decide) rfl ?_
  refine g_icmp_eq (t := 12) (q := 8) C dX5_hasPending_5 (by decide) rfl (fun c_5 => ?_) (fun c_5 => ?_)
  ·
    refine g_iconst (v := 0) (q := 13) C dX5_hasPending_12 (by decide) rfl ?_
    exact E.1 _ _ _ _ _ _ _ dX5_hasPending_13 rfl (tyNar (Or.inl rfl)) (Nat.le_of_ble_eq_true rfl) (Nat.le_of_ble_eq_true rfl) ⟨_, rfl, (Or.inl rfl), H⟩
  ·
    refine g_iconst (v := 1) (q := 9) C dX5_hasPending_8 (by decide) rfl ?_
    refine g_goto (q := 13) C dX5_hasPending_9 (by decide) ?_
    exact E.1 _ _ _ _ _ _ _ dX5_hasPending_13 rfl (tyNar (Or.inr rfl)) (Nat.le_of_ble_eq_true rfl) (Nat.le_of_ble_eq_true rfl) ⟨_, rfl, (Or.inr rfl), H⟩
theorem dX5_noteSent_0 : decode cX5_noteSent 0 = .ok (.aload_n 0, 1) := by decide +kernel
theorem dX5_noteSent_1 : decode cX5_noteSent 1 = .ok (.iload_n 1, 1) := by decide +kernel
theorem dX5_noteSent_2 : decode cX5_noteSent 2 = .ok (.putfield 55, 3) := by decide +kernel
theorem dX5_noteSent_5 : decode cX5_noteSent 5 = .ok (.aload_n 0, 1) := by decide +kernel
theorem dX5_noteSent_6 : decode cX5_noteSent 6 = .ok (.dup, 1) := by decide +kernel
theorem dX5_noteSent_7 : decode cX5_noteSent 7 = .ok (.getfield 58, 3) := by decide +kernel
theorem dX5_noteSent_10 : decode cX5_noteSent 10 = .ok (.iconst 1, 1) := by decide +kernel
theorem dX5_noteSent_11 : decode cX5_noteSent 11 = .ok (.iadd, 1) := by decide +kernel
theorem dX5_noteSent_12 : decode cX5_noteSent 12 = .ok (.putfield 58, 3) := by decide +kernel
theorem dX5_noteSent_15 : decode cX5_noteSent 15 = .ok (.return_, 1) := by decide +kernel
set_option maxRecDepth 100000 in
set_option maxHeartbeats 4000000 in
theorem tX5_noteSent {T : tyT} {R : Nat} {J : Nat → Prop} {Bc Bs : Nat} {M : gMd} {z : Nat → Nat} {hp : List gA} {o : Nat} {a0 : Int32}  (H : tyS T R J Bc Bs M z hp) (hk : tyK o = (5, 0))  : gM yX5_noteSent cX5_noteSent 2 (none) 0 0 [.ref o, .int a0] (hp) (0) (0) (fun v h => v = none ∧ tyS T R J Bc Bs M z h) := by
  refine gM_of (ls0 := [some (.ref o), some (.int a0)]) (by decide +kernel) (Nat.le_of_ble_eq_true rfl) rfl fun X C E => ?_
  refine g_aload_n (q := 1) C dX5_noteSent_0 rfl rfl ?_
  refine g_iload_n (q := 2) C dX5_noteSent_1 rfl rfl ?_
  obtain ⟨x0_1, x1_1, x2_1, x3_1, x4_1, x5_1, x6_1, x7_1, x11_1, x12_1, x13_1, x14_1, o1, e1_0⟩ := tyG5 H hk
  refine g_putfield (q := 5) C fX5_55 dX5_noteSent_2 rfl o1 (Nat.le_of_ble_eq_true rfl) (Or.inl rfl) rfl rfl (by intro z h; cases h) ?_
  refine tyP5 H hk rfl e1_0 (fun h2 _ _ H2 => ?_)
  refine g_aload_n (q := 6) C dX5_noteSent_5 rfl rfl ?_
  refine g_dup (q := 7) C dX5_noteSent_6 rfl rfl ?_
  obtain ⟨x0_3, x1_3, x2_3, x3_3, x4_3, x5_3, x6_3, x7_3, x11_3, x12_3, x13_3, x14_3, o3, e3_0⟩ := tyG5 H2 hk
  refine g_getfield (v := .int x14_3) (q := 10) C fX5_58 dX5_noteSent_7 rfl o3 rfl ?_
  refine g_iconst (v := 1) (q := 11) C dX5_noteSent_10 (by decide) rfl ?_
  refine g_iadd (q := 12) C dX5_noteSent_11 rfl ?_
  refine g_putfield (q := 15) C fX5_58 dX5_noteSent_12 rfl o3 (Nat.le_of_ble_eq_true rfl) (Or.inl rfl) rfl rfl (by intro z h; cases h) ?_
  refine tyP5 H2 hk rfl e3_0 (fun h4 _ _ H4 => ?_)
  exact E.2.1 _ _ _ _ _ dX5_noteSent_15 rfl (Nat.le_of_ble_eq_true rfl) (Nat.le_of_ble_eq_true rfl) ⟨rfl, H4⟩
theorem dX5_pendingHasMore_0 : decode cX5_pendingHasMore 0 = .ok (.aload_n 0, 1) := by decide +kernel
theorem dX5_pendingHasMore_1 : decode cX5_pendingHasMore 1 = .ok (.getfield 48, 3) := by decide +kernel
theorem dX5_pendingHasMore_4 : decode cX5_pendingHasMore 4 = .ok (.iconst (-1), 1) := by decide +kernel
theorem dX5_pendingHasMore_5 : decode cX5_pendingHasMore 5 = .ok (.if_icmp .eq 14, 3) := by decide +kernel
theorem dX5_pendingHasMore_8 : decode cX5_pendingHasMore 8 = .ok (.aload_n 0, 1) := by decide +kernel
theorem dX5_pendingHasMore_9 : decode cX5_pendingHasMore 9 = .ok (.getfield 51, 3) := by decide +kernel
theorem dX5_pendingHasMore_12 : decode cX5_pendingHasMore 12 = .ok (.ifCond .eq 7, 3) := by decide +kernel
theorem dX5_pendingHasMore_15 : decode cX5_pendingHasMore 15 = .ok (.iconst 1, 1) := by decide +kernel
theorem dX5_pendingHasMore_16 : decode cX5_pendingHasMore 16 = .ok (.goto 4, 3) := by decide +kernel
theorem dX5_pendingHasMore_19 : decode cX5_pendingHasMore 19 = .ok (.iconst 0, 1) := by decide +kernel
theorem dX5_pendingHasMore_20 : decode cX5_pendingHasMore 20 = .ok (.ireturn, 1) := by decide +kernel
set_option maxRecDepth 100000 in
set_option maxHeartbeats 4000000 in
theorem tX5_pendingHasMore {T : tyT} {R : Nat} {J : Nat → Prop} {Bc Bs : Nat} {M : gMd} {z : Nat → Nat} {hp : List gA} {o : Nat}  (H : tyS T R J Bc Bs M z hp) (hk : tyK o = (5, 0))  : gM yX5_pendingHasMore cX5_pendingHasMore 1 ((some .boolean)) 0 0 [.ref o] (hp) (0) (0) (fun v h => ∃ x, v = some (.int x) ∧ ((x = 0 ∨ x = 1) ∧ tyS T R J Bc Bs M z h)) := by
  refine gM_of (ls0 := [some (.ref o)]) (by decide +kernel) (Nat.le_of_ble_eq_true rfl) rfl fun X C E => ?_
  have J_19 : ∀ (hJ19 : List gA), tyS T R J Bc Bs M z hJ19 → gG X 19 [some (.ref o)] [] hJ19 0 0 := by
    intro hJ19 HJ19
    refine g_iconst (v := 0) (q := 20) C dX5_pendingHasMore_19 (by decide) rfl ?_
    exact E.1 _ _ _ _ _ _ _ dX5_pendingHasMore_20 rfl (tyNar (Or.inl rfl)) (Nat.le_of_ble_eq_true rfl) (Nat.le_of_ble_eq_true rfl) ⟨_, rfl, (Or.inl rfl), HJ19⟩
  refine g_aload_n (q := 1) C dX5_pendingHasMore_0 rfl rfl ?_
  obtain ⟨x0_1, x1_1, x2_1, x3_1, x4_1, x5_1, x6_1, x7_1, x11_1, x12_1, x13_1, x14_1, o1, e1_0⟩ := tyG5 H hk
  refine g_getfield (v := .int x11_1) (q := 4) C fX5_48 dX5_pendingHasMore_1 rfl o1 rfl ?_
  refine g_iconst (v := (-1)) (q := 5) C dX5_pendingHasMore_4 (by decide) rfl ?_
  refine g_icmp_eq (t := 19) (q := 8) C dX5_pendingHasMore_5 (by decide) rfl (fun c_5 => ?_) (fun c_5 => ?_)
  ·
    exact J_19 _  H
  ·
    refine g_aload_n (q := 9) C dX5_pendingHasMore_8 rfl rfl ?_
    refine g_getfield (v := .int x12_1) (q := 12) C fX5_51 dX5_pendingHasMore_9 rfl o1 rfl ?_
    refine g_if_eq (t := 19) (q := 15) C dX5_pendingHasMore_12 (by decide) rfl (fun c_12 => ?_) (fun c_12 => ?_)
    ·
      exact J_19 _  H
    ·
      refine g_iconst (v := 1) (q := 16) C dX5_pendingHasMore_15 (by decide) rfl ?_
      refine g_goto (q := 20) C dX5_pendingHasMore_16 (by decide) ?_
      exact E.1 _ _ _ _ _ _ _ dX5_pendingHasMore_20 rfl (tyNar (Or.inr rfl)) (Nat.le_of_ble_eq_true rfl) (Nat.le_of_ble_eq_true rfl) ⟨_, rfl, (Or.inr rfl), H⟩
theorem dX5_receipt_0 : decode cX5_receipt 0 = .ok (.sipush 128, 3) := by decide +kernel
theorem dX5_receipt_3 : decode cX5_receipt 3 = .ok (.bipush 16, 2) := by decide +kernel
theorem dX5_receipt_5 : decode cX5_receipt 5 = .ok (.aload_n 0, 1) := by decide +kernel
theorem dX5_receipt_6 : decode cX5_receipt 6 = .ok (.getfield 15, 3) := by decide +kernel
theorem dX5_receipt_9 : decode cX5_receipt 9 = .ok (.imul, 1) := by decide +kernel
theorem dX5_receipt_10 : decode cX5_receipt 10 = .ok (.iadd, 1) := by decide +kernel
theorem dX5_receipt_11 : decode cX5_receipt 11 = .ok (.iload_n 1, 1) := by decide +kernel
theorem dX5_receipt_12 : decode cX5_receipt 12 = .ok (.iadd, 1) := by decide +kernel
theorem dX5_receipt_13 : decode cX5_receipt 13 = .ok (.ireturn, 1) := by decide +kernel
set_option maxRecDepth 100000 in
set_option maxHeartbeats 4000000 in
theorem tX5_receipt {T : tyT} {R : Nat} {J : Nat → Prop} {Bc Bs : Nat} {M : gMd} {z : Nat → Nat} {hp : List gA} {o : Nat} {a0 : Int32}  (H : tyS T R J Bc Bs M z hp) (hk : tyK o = (5, 0))  : gM yX5_receipt cX5_receipt 2 ((some .int)) 0 0 [.ref o, .int a0] (hp) (0) (0) (fun v h => ∃ x, v = some (.int x) ∧ tyS T R J Bc Bs M z h) := by
  refine gM_of (ls0 := [some (.ref o), some (.int a0)]) (by decide +kernel) (Nat.le_of_ble_eq_true rfl) rfl fun X C E => ?_
  refine g_sipush (v := 128) (q := 3) C dX5_receipt_0 (by decide) rfl ?_
  refine g_bipush (v := 16) (q := 5) C dX5_receipt_3 (by decide) rfl ?_
  refine g_aload_n (q := 6) C dX5_receipt_5 rfl rfl ?_
  obtain ⟨x0_1, x1_1, x2_1, x3_1, x4_1, x5_1, x6_1, x7_1, x11_1, x12_1, x13_1, x14_1, o1, e1_0⟩ := tyG5 H hk
  refine g_getfield (v := .int x2_1) (q := 9) C fX5_15 dX5_receipt_6 rfl o1 rfl ?_
  refine g_imul (q := 10) C dX5_receipt_9 rfl ?_
  refine g_iadd (q := 11) C dX5_receipt_10 rfl ?_
  refine g_iload_n (q := 12) C dX5_receipt_11 rfl rfl ?_
  refine g_iadd (q := 13) C dX5_receipt_12 rfl ?_
  exact E.1 _ _ _ _ _ _ _ dX5_receipt_13 rfl rfl (Nat.le_of_ble_eq_true rfl) (Nat.le_of_ble_eq_true rfl) ⟨_, rfl, H⟩
theorem dX5_restart_0 : decode cX5_restart 0 = .ok (.aload_n 0, 1) := by decide +kernel
theorem dX5_restart_1 : decode cX5_restart 1 = .ok (.invokevirtual 64, 3) := by decide +kernel
theorem dX5_restart_4 : decode cX5_restart 4 = .ok (.aload_n 0, 1) := by decide +kernel
theorem dX5_restart_5 : decode cX5_restart 5 = .ok (.iconst (-1), 1) := by decide +kernel
theorem dX5_restart_6 : decode cX5_restart 6 = .ok (.putfield 24, 3) := by decide +kernel
theorem dX5_restart_9 : decode cX5_restart 9 = .ok (.aload_n 0, 1) := by decide +kernel
theorem dX5_restart_10 : decode cX5_restart 10 = .ok (.iload_n 1, 1) := by decide +kernel
theorem dX5_restart_11 : decode cX5_restart 11 = .ok (.putfield 18, 3) := by decide +kernel
theorem dX5_restart_14 : decode cX5_restart 14 = .ok (.aload_n 0, 1) := by decide +kernel
theorem dX5_restart_15 : decode cX5_restart 15 = .ok (.iconst 0, 1) := by decide +kernel
theorem dX5_restart_16 : decode cX5_restart 16 = .ok (.putfield 30, 3) := by decide +kernel
theorem dX5_restart_19 : decode cX5_restart 19 = .ok (.aload_n 0, 1) := by decide +kernel
theorem dX5_restart_20 : decode cX5_restart 20 = .ok (.getfield 42, 3) := by decide +kernel
theorem dX5_restart_23 : decode cX5_restart 23 = .ok (.iconst 0, 1) := by decide +kernel
theorem dX5_restart_24 : decode cX5_restart 24 = .ok (.invokevirtual 67, 3) := by decide +kernel
theorem dX5_restart_27 : decode cX5_restart 27 = .ok (.aload_n 0, 1) := by decide +kernel
theorem dX5_restart_28 : decode cX5_restart 28 = .ok (.iconst (-1), 1) := by decide +kernel
theorem dX5_restart_29 : decode cX5_restart 29 = .ok (.putfield 55, 3) := by decide +kernel
theorem dX5_restart_32 : decode cX5_restart 32 = .ok (.aload_n 0, 1) := by decide +kernel
theorem dX5_restart_33 : decode cX5_restart 33 = .ok (.iconst 0, 1) := by decide +kernel
theorem dX5_restart_34 : decode cX5_restart 34 = .ok (.putfield 58, 3) := by decide +kernel
theorem dX5_restart_37 : decode cX5_restart 37 = .ok (.return_, 1) := by decide +kernel
set_option maxRecDepth 100000 in
set_option maxHeartbeats 4000000 in
theorem tX5_restart {T : tyT} {R : Nat} {J : Nat → Prop} {Bc Bs : Nat} {M : gMd} {z : Nat → Nat} {hp : List gA} {o : Nat} {a0 : Int32}  (H : tyS T R J Bc Bs M z hp) (hk : tyK o = (5, 0))  : gM yX5_restart cX5_restart 2 (none) 3 62 [.ref o, .int a0] (hp) (0) (0) (fun v h => v = none ∧ tyS T R J Bc Bs M z h) := by
  refine gM_of (ls0 := [some (.ref o), some (.int a0)]) (by decide +kernel) (Nat.le_of_ble_eq_true rfl) rfl fun X C E => ?_
  refine g_aload_n (q := 1) C dX5_restart_0 rfl rfl ?_
  obtain ⟨x0_1, x1_1, x2_1, x3_1, x4_1, x5_1, x6_1, x7_1, x11_1, x12_1, x13_1, x14_1, o1, e1_0⟩ := tyG5 H hk
  refine g_callVvp (q := 4) (As := []) C gyX5_emptyAll gvX5_emptyAll t_577 (tX5_emptyAll H hk) dX5_restart_1 rfl o1 rfl rfl rfl (Nat.le_of_ble_eq_true rfl) (Nat.le_of_ble_eq_true rfl) (Nat.le_of_ble_eq_true rfl) (Nat.le_of_ble_eq_true rfl) (Nat.le_of_ble_eq_true rfl) rfl (fun h2 q2 => ?_)
  have H2 := q2
  refine g_aload_n (q := 5) C dX5_restart_4 rfl rfl ?_
  refine g_iconst (v := (-1)) (q := 6) C dX5_restart_5 (by decide) rfl ?_
  obtain ⟨x0_3, x1_3, x2_3, x3_3, x4_3, x5_3, x6_3, x7_3, x11_3, x12_3, x13_3, x14_3, o3, e3_0⟩ := tyG5 H2 hk
  refine g_putfield (q := 9) C fX5_24 dX5_restart_6 rfl o3 (Nat.le_of_ble_eq_true rfl) (Or.inl rfl) rfl rfl (by intro z h; cases h) ?_
  refine tyP5 H2 hk rfl e3_0 (fun h4 _ _ H4 => ?_)
  refine g_aload_n (q := 10) C dX5_restart_9 rfl rfl ?_
  refine g_iload_n (q := 11) C dX5_restart_10 rfl rfl ?_
  obtain ⟨x0_5, x1_5, x2_5, x3_5, x4_5, x5_5, x6_5, x7_5, x11_5, x12_5, x13_5, x14_5, o5, e5_0⟩ := tyG5 H4 hk
  refine g_putfield (q := 14) C fX5_18 dX5_restart_11 rfl o5 (Nat.le_of_ble_eq_true rfl) (Or.inl rfl) rfl rfl (by intro z h; cases h) ?_
  refine tyP5 H4 hk rfl e5_0 (fun h6 _ _ H6 => ?_)
  refine g_aload_n (q := 15) C dX5_restart_14 rfl rfl ?_
  refine g_iconst (v := 0) (q := 16) C dX5_restart_15 (by decide) rfl ?_
  obtain ⟨x0_7, x1_7, x2_7, x3_7, x4_7, x5_7, x6_7, x7_7, x11_7, x12_7, x13_7, x14_7, o7, e7_0⟩ := tyG5 H6 hk
  refine g_putfield (q := 19) C fX5_30 dX5_restart_16 rfl o7 (Nat.le_of_ble_eq_true rfl) (Or.inl rfl) rfl rfl (by intro z h; cases h) ?_
  refine tyP5 H6 hk rfl e7_0 (fun h8 _ _ H8 => ?_)
  refine g_aload_n (q := 20) C dX5_restart_19 rfl rfl ?_
  obtain ⟨x0_9, x1_9, x2_9, x3_9, x4_9, x5_9, x6_9, x7_9, x11_9, x12_9, x13_9, x14_9, o9, e9_0⟩ := tyG5 H8 hk
  refine g_getfield (v := .ref ((o + 3))) (q := 23) C fX5_42 dX5_restart_20 rfl o9 rfl ?_
  refine g_iconst (v := 0) (q := 24) C dX5_restart_23 (by decide) rfl ?_
  obtain ⟨l10, g10, -⟩ := tyRow H8 (tyF5_9 hk)
  refine g_callVvp (q := 27) (As := [.int 0]) C gyX4_keep gvX4_keep t_581 (tX4_keep H8 (tyF5_9 hk) (by decide)) dX5_restart_24 rfl g10.obj rfl rfl rfl (Nat.le_of_ble_eq_true rfl) (Nat.le_of_ble_eq_true rfl) (Nat.le_of_ble_eq_true rfl) (Nat.le_of_ble_eq_true rfl) (Nat.le_of_ble_eq_true rfl) rfl (fun h11 q11 => ?_)
  have H11 := q11
  refine g_aload_n (q := 28) C dX5_restart_27 rfl rfl ?_
  refine g_iconst (v := (-1)) (q := 29) C dX5_restart_28 (by decide) rfl ?_
  obtain ⟨x0_12, x1_12, x2_12, x3_12, x4_12, x5_12, x6_12, x7_12, x11_12, x12_12, x13_12, x14_12, o12, e12_0⟩ := tyG5 H11 hk
  refine g_putfield (q := 32) C fX5_55 dX5_restart_29 rfl o12 (Nat.le_of_ble_eq_true rfl) (Or.inl rfl) rfl rfl (by intro z h; cases h) ?_
  refine tyP5 H11 hk rfl e12_0 (fun h13 _ _ H13 => ?_)
  refine g_aload_n (q := 33) C dX5_restart_32 rfl rfl ?_
  refine g_iconst (v := 0) (q := 34) C dX5_restart_33 (by decide) rfl ?_
  obtain ⟨x0_14, x1_14, x2_14, x3_14, x4_14, x5_14, x6_14, x7_14, x11_14, x12_14, x13_14, x14_14, o14, e14_0⟩ := tyG5 H13 hk
  refine g_putfield (q := 37) C fX5_58 dX5_restart_34 rfl o14 (Nat.le_of_ble_eq_true rfl) (Or.inl rfl) rfl rfl (by intro z h; cases h) ?_
  refine tyP5 H13 hk rfl e14_0 (fun h15 _ _ H15 => ?_)
  exact E.2.1 _ _ _ _ _ dX5_restart_37 rfl (Nat.le_of_ble_eq_true rfl) (Nat.le_of_ble_eq_true rfl) ⟨rfl, H15⟩
theorem dX5_takeEmpty_0 : decode cX5_takeEmpty 0 = .ok (.aload_n 0, 1) := by decide +kernel
theorem dX5_takeEmpty_1 : decode cX5_takeEmpty 1 = .ok (.getfield 42, 3) := by decide +kernel
theorem dX5_takeEmpty_4 : decode cX5_takeEmpty 4 = .ok (.iconst 0, 1) := by decide +kernel
theorem dX5_takeEmpty_5 : decode cX5_takeEmpty 5 = .ok (.invokevirtual 67, 3) := by decide +kernel
theorem dX5_takeEmpty_8 : decode cX5_takeEmpty 8 = .ok (.aload_n 0, 1) := by decide +kernel
theorem dX5_takeEmpty_9 : decode cX5_takeEmpty 9 = .ok (.dup, 1) := by decide +kernel
theorem dX5_takeEmpty_10 : decode cX5_takeEmpty 10 = .ok (.getfield 30, 3) := by decide +kernel
theorem dX5_takeEmpty_13 : decode cX5_takeEmpty 13 = .ok (.iconst 1, 1) := by decide +kernel
theorem dX5_takeEmpty_14 : decode cX5_takeEmpty 14 = .ok (.iadd, 1) := by decide +kernel
theorem dX5_takeEmpty_15 : decode cX5_takeEmpty 15 = .ok (.putfield 30, 3) := by decide +kernel
theorem dX5_takeEmpty_18 : decode cX5_takeEmpty 18 = .ok (.return_, 1) := by decide +kernel
set_option maxRecDepth 100000 in
set_option maxHeartbeats 4000000 in
theorem tX5_takeEmpty {T : tyT} {R : Nat} {J : Nat → Prop} {Bc Bs : Nat} {M : gMd} {z : Nat → Nat} {hp : List gA} {o : Nat}  (H : tyS T R J Bc Bs M z hp) (hk : tyK o = (5, 0))  : gM yX5_takeEmpty cX5_takeEmpty 1 (none) 2 42 [.ref o] (hp) (0) (0) (fun v h => v = none ∧ tyS T R J Bc Bs M z h) := by
  refine gM_of (ls0 := [some (.ref o)]) (by decide +kernel) (Nat.le_of_ble_eq_true rfl) rfl fun X C E => ?_
  refine g_aload_n (q := 1) C dX5_takeEmpty_0 rfl rfl ?_
  obtain ⟨x0_1, x1_1, x2_1, x3_1, x4_1, x5_1, x6_1, x7_1, x11_1, x12_1, x13_1, x14_1, o1, e1_0⟩ := tyG5 H hk
  refine g_getfield (v := .ref ((o + 3))) (q := 4) C fX5_42 dX5_takeEmpty_1 rfl o1 rfl ?_
  refine g_iconst (v := 0) (q := 5) C dX5_takeEmpty_4 (by decide) rfl ?_
  obtain ⟨l2, g2, -⟩ := tyRow H (tyF5_9 hk)
  refine g_callVvp (q := 8) (As := [.int 0]) C gyX4_keep gvX4_keep t_581 (tX4_keep H (tyF5_9 hk) (by decide)) dX5_takeEmpty_5 rfl g2.obj rfl rfl rfl (Nat.le_of_ble_eq_true rfl) (Nat.le_of_ble_eq_true rfl) (Nat.le_of_ble_eq_true rfl) (Nat.le_of_ble_eq_true rfl) (Nat.le_of_ble_eq_true rfl) rfl (fun h3 q3 => ?_)
  have H3 := q3
  refine g_aload_n (q := 9) C dX5_takeEmpty_8 rfl rfl ?_
  refine g_dup (q := 10) C dX5_takeEmpty_9 rfl rfl ?_
  obtain ⟨x0_4, x1_4, x2_4, x3_4, x4_4, x5_4, x6_4, x7_4, x11_4, x12_4, x13_4, x14_4, o4, e4_0⟩ := tyG5 H3 hk
  refine g_getfield (v := .int x7_4) (q := 13) C fX5_30 dX5_takeEmpty_10 rfl o4 rfl ?_
  refine g_iconst (v := 1) (q := 14) C dX5_takeEmpty_13 (by decide) rfl ?_
  refine g_iadd (q := 15) C dX5_takeEmpty_14 rfl ?_
  refine g_putfield (q := 18) C fX5_30 dX5_takeEmpty_15 rfl o4 (Nat.le_of_ble_eq_true rfl) (Or.inl rfl) rfl rfl (by intro z h; cases h) ?_
  refine tyP5 H3 hk rfl e4_0 (fun h5 _ _ H5 => ?_)
  exact E.2.1 _ _ _ _ _ dX5_takeEmpty_18 rfl (Nat.le_of_ble_eq_true rfl) (Nat.le_of_ble_eq_true rfl) ⟨rfl, H5⟩
theorem dX5_takeInf_0 : decode cX5_takeInf 0 = .ok (.iconst 3, 1) := by decide +kernel
theorem dX5_takeInf_1 : decode cX5_takeInf 1 = .ok (.istore_n 2, 1) := by decide +kernel
theorem dX5_takeInf_2 : decode cX5_takeInf 2 = .ok (.iload_n 2, 1) := by decide +kernel
theorem dX5_takeInf_3 : decode cX5_takeInf 3 = .ok (.aload_n 1, 1) := by decide +kernel
theorem dX5_takeInf_4 : decode cX5_takeInf 4 = .ok (.invokevirtual 78, 3) := by decide +kernel
theorem dX5_takeInf_7 : decode cX5_takeInf 7 = .ok (.iconst 1, 1) := by decide +kernel
theorem dX5_takeInf_8 : decode cX5_takeInf 8 = .ok (.isub, 1) := by decide +kernel
theorem dX5_takeInf_9 : decode cX5_takeInf 9 = .ok (.if_icmp .ge 21, 3) := by decide +kernel
theorem dX5_takeInf_12 : decode cX5_takeInf 12 = .ok (.aload_n 0, 1) := by decide +kernel
theorem dX5_takeInf_13 : decode cX5_takeInf 13 = .ok (.getfield 45, 3) := by decide +kernel
theorem dX5_takeInf_16 : decode cX5_takeInf 16 = .ok (.aload_n 1, 1) := by decide +kernel
theorem dX5_takeInf_17 : decode cX5_takeInf 17 = .ok (.iload_n 2, 1) := by decide +kernel
theorem dX5_takeInf_18 : decode cX5_takeInf 18 = .ok (.invokevirtual 94, 3) := by decide +kernel
theorem dX5_takeInf_21 : decode cX5_takeInf 21 = .ok (.invokevirtual 98, 3) := by decide +kernel
theorem dX5_takeInf_24 : decode cX5_takeInf 24 = .ok (.iinc 2 1, 3) := by decide +kernel
theorem dX5_takeInf_27 : decode cX5_takeInf 27 = .ok (.goto (-25), 3) := by decide +kernel
theorem dX5_takeInf_30 : decode cX5_takeInf 30 = .ok (.aload_n 0, 1) := by decide +kernel
theorem dX5_takeInf_31 : decode cX5_takeInf 31 = .ok (.iconst 1, 1) := by decide +kernel
theorem dX5_takeInf_32 : decode cX5_takeInf 32 = .ok (.aload_n 0, 1) := by decide +kernel
theorem dX5_takeInf_33 : decode cX5_takeInf 33 = .ok (.getfield 15, 3) := by decide +kernel
theorem dX5_takeInf_36 : decode cX5_takeInf 36 = .ok (.isub, 1) := by decide +kernel
theorem dX5_takeInf_37 : decode cX5_takeInf 37 = .ok (.putfield 15, 3) := by decide +kernel
theorem dX5_takeInf_40 : decode cX5_takeInf 40 = .ok (.return_, 1) := by decide +kernel
set_option maxRecDepth 100000 in
set_option maxHeartbeats 4000000 in
theorem tX5_takeInf {T : tyT} {R : Nat} {J : Nat → Prop} {Bc Bs : Nat} {M : gMd} {z : Nat → Nat} {hp : List gA} {o : Nat} {a0 m0 : Nat}  (H : tyS T R J Bc Bs M z hp) (hk : tyK o = (5, 0)) (hk0 : tyK a0 = (1, m0)) (hm_m0 : ¬ (m0 = 96 ∨ m0 = 15))  : gM yX5_takeInf cX5_takeInf 3 (none) 3 103 [.ref o, .ref a0] (hp) (0) (0) (fun v h => v = none ∧ tyS T R J Bc Bs M z h) := by
  refine gM_of (ls0 := [some (.ref o), some (.ref a0), none]) (by decide +kernel) (Nat.le_of_ble_eq_true rfl) rfl fun X C E => ?_
  have J_2 : ∀ (d2 : Nat) (y2_2 : Int32) (hJ2 : List gA), (2147483647 - y2_2.toInt).toNat = d2 → ∀ (_ : True), tyS T R J Bc Bs M z hJ2 → gG X 2 [some (.ref o), some (.ref a0), some (.int y2_2)] [] hJ2 0 0 := by
    intro d2
    induction d2 using Nat.strongRecOn with
    | _ d2 ih2 =>
    intro y2_2 hJ2 hd2 _ HJ2
    refine g_iload_n (q := 3) C dX5_takeInf_2 rfl rfl ?_
    refine g_aload_n (q := 4) C dX5_takeInf_3 rfl rfl ?_
    obtain ⟨l1, g1, -⟩ := tyRow HJ2 hk0
    refine g_callVip (q := 7) (As := []) C gyX4_size gvX4_size t_765 (tX4_size HJ2 hk0) dX5_takeInf_4 rfl g1.obj rfl rfl rfl (Nat.le_of_ble_eq_true rfl) (Nat.le_of_ble_eq_true rfl) (Nat.le_of_ble_eq_true rfl) (Nat.le_of_ble_eq_true rfl) (Nat.le_of_ble_eq_true rfl) rfl (fun x2 h2 q2 => ?_)
    subst q2
    refine g_iconst (v := 1) (q := 8) C dX5_takeInf_7 (by decide) rfl ?_
    refine g_isub (q := 9) C dX5_takeInf_8 rfl ?_
    refine g_icmp_ge (t := 30) (q := 12) C dX5_takeInf_9 (by decide) rfl (fun c_9 => ?_) (fun c_9 => ?_)
    ·
      refine g_aload_n (q := 31) C dX5_takeInf_30 rfl rfl ?_
      refine g_iconst (v := 1) (q := 32) C dX5_takeInf_31 (by decide) rfl ?_
      refine g_aload_n (q := 33) C dX5_takeInf_32 rfl rfl ?_
      obtain ⟨x0_3, x1_3, x2_3, x3_3, x4_3, x5_3, x6_3, x7_3, x11_3, x12_3, x13_3, x14_3, o3, e3_0⟩ := tyG5 HJ2 hk
      refine g_getfield (v := .int x2_3) (q := 36) C fX5_15 dX5_takeInf_33 rfl o3 rfl ?_
      refine g_isub (q := 37) C dX5_takeInf_36 rfl ?_
      refine g_putfield (q := 40) C fX5_15 dX5_takeInf_37 rfl o3 (Nat.le_of_ble_eq_true rfl) (Or.inl rfl) rfl rfl (by intro z h; cases h) ?_
      refine tyP5 HJ2 hk rfl e3_0 (fun h4 _ _ H4 => ?_)
      exact E.2.1 _ _ _ _ _ dX5_takeInf_40 rfl (Nat.le_of_ble_eq_true rfl) (Nat.le_of_ble_eq_true rfl) ⟨rfl, H4⟩
    ·
      refine g_aload_n (q := 13) C dX5_takeInf_12 rfl rfl ?_
      obtain ⟨x0_5, x1_5, x2_5, x3_5, x4_5, x5_5, x6_5, x7_5, x11_5, x12_5, x13_5, x14_5, o5, e5_0⟩ := tyG5 HJ2 hk
      refine g_getfield (v := .ref ((o + 5))) (q := 16) C fX5_45 dX5_takeInf_13 rfl o5 rfl ?_
      refine g_aload_n (q := 17) C dX5_takeInf_16 rfl rfl ?_
      refine g_iload_n (q := 18) C dX5_takeInf_17 rfl rfl ?_
      refine g_callVip (q := 21) (As := [.int y2_2]) C gyX4_at gvX4_at t_766 (tX4_at HJ2 hk0) dX5_takeInf_18 rfl g1.obj rfl rfl rfl (Nat.le_of_ble_eq_true rfl) (Nat.le_of_ble_eq_true rfl) (Nat.le_of_ble_eq_true rfl) (Nat.le_of_ble_eq_true rfl) (Nat.le_of_ble_eq_true rfl) rfl (fun x6 h6 q6 => ?_)
      subst q6
      obtain ⟨l7, g7, -⟩ := tyRow HJ2 (tyF5_10 hk)
      refine g_callVvp (q := 24) (As := [.int x6]) C gyX4_add gvX4_add t_767 (tX4_add HJ2 (tyF5_10 hk) (by decide)) dX5_takeInf_21 rfl g7.obj rfl rfl rfl (Nat.le_of_ble_eq_true rfl) (Nat.le_of_ble_eq_true rfl) (Nat.le_of_ble_eq_true rfl) (Nat.le_of_ble_eq_true rfl) (Nat.le_of_ble_eq_true rfl) rfl (fun h8 q8 => ?_)
      have H8 := q8
      refine g_iinc (v := y2_2 + 1) (q := 27) C dX5_takeInf_24 rfl rfl (by simp only [gset]; rfl) rfl ?_
      refine g_goto (q := 2) C dX5_takeInf_27 (by decide) ?_
      exact ih2 _ (tyUp' hd2 c_9) _ _ rfl trivial H8
  refine g_iconst (v := 3) (q := 1) C dX5_takeInf_0 (by decide) rfl ?_
  refine g_istore_n (q := 2) C dX5_takeInf_1 (Nat.le_of_ble_eq_true rfl) (by simp only [gset]; rfl) rfl ?_
  exact J_2 _ _ _ rfl trivial H
