/-! the reference: letters and faults (by program: wip/p2/m_mc.py) -/
theorem nI_inj {a b : Nat} (ha : a < 2 ^ 31) (hb : b < 2 ^ 31) (h : nI a = nI b) : a = b := (nI_eq ha hb).mp h
theorem nI_div {a b : Nat} (ha : a < 2 ^ 31) (hb : b < 2 ^ 31) : nI a / nI b = nI (a / b) := by
  apply Int32.toInt_inj.mp
  have h : a / b ≤ a := Nat.div_le_self a b
  rw [Int32.toInt_div, nI_toInt ha, nI_toInt hb, nI_toInt (by omega)]
  rw [show (a : Int).tdiv (b : Int) = ((a / b : Nat) : Int) from (Int.ofNat_tdiv a b).symm]
  generalize a / b = c at h ⊢
  rw [Int.bmod_eq_of_le] <;> omega
theorem nI_mulS {a b : Nat} (h : a * b < 2 ^ 31) (ha : a < 2 ^ 31) (hb : b < 2 ^ 31) : nI a * nI b = nI (a * b) := by
  apply Int32.toInt_inj.mp
  rw [Int32.toInt_mul, nI_toInt ha, nI_toInt hb, nI_toInt h, ← Int.natCast_mul, Int.bmod_eq_of_le] <;> omega
theorem nI_rem {a b : Nat} (ha : a < 2 ^ 31) (hb : b < 2 ^ 31) : nI a - nI a / nI b * nI b = nI (a % b) := by
  have h1 : a / b * b ≤ a := Nat.div_mul_le_self a b
  have h2 : a / b ≤ a := Nat.div_le_self a b
  rw [nI_div ha hb, nI_mulS (by omega) (by omega) hb, pk_sub h1]
  congr 1
  have := Nat.div_add_mod a b
  rw [Nat.mul_comm] at this
  omega
theorem gmask (y : Int32) {m : Nat} (hm : m < 2 ^ 31) : ∃ k, k ≤ m ∧ y &&& nI m = nI k := by
  refine ⟨(y &&& nI m).toBitVec.toNat, ?_, ?_⟩
  · rw [show (y &&& nI m).toBitVec = y.toBitVec &&& (nI m).toBitVec from rfl, BitVec.toNat_and]
    refine Nat.le_trans Nat.and_le_right ?_
    show (BitVec.ofNat 32 m).toNat ≤ m
    rw [BitVec.toNat_ofNat]; exact Nat.mod_le _ _
  · apply Int32.toBitVec_inj.mp
    show _ = BitVec.ofNat 32 _
    apply BitVec.eq_of_toNat_eq
    simp
theorem gIr.t {x : Int32} {b : Nat} (h : gIr x b) (hb : b < 2 ^ 31) : x ≤ nI x.toNatClampNeg := by
  rw [← h.c hb]; exact Int32.le_refl x
theorem gIr.f {x : Int32} {b j : Nat} (h : gIr x b) (hb : b < 2 ^ 31) (hj : j < x.toNatClampNeg) : ¬ x ≤ nI j := by
  have l := h.le hb
  rw [h.c hb]
  exact nI_ge hj (by omega)
theorem g3j {j : Nat} (hj : j < 1000) : (431 : Int32) + 3 * nI j = nI (431 + 3 * j) := by
  rw [show (3 : Int32) = nI 3 from rfl, nI_mulS (by omega) (by decide) (by omega), show (431 : Int32) = nI 431 from rfl, nI_add]
theorem g3c {j c : Nat} (hj : j < 1000) (hc : c < 1000) : (431 : Int32) + 3 * nI j + nI c = nI (431 + 3 * j + c) := by
  rw [g3j hj, nI_add]
/-- the fault of a letter -/
def gFa (M : gMd) (y x : Int32) : Prop := (x = -1 ∧ ∀ k, k < (M.a 4 430).toNatClampNeg → ¬ M.a 4 (431 + 3 * k) = y) ∨ ∃ k, k < (M.a 4 430).toNatClampNeg ∧ x = nI k ∧ M.a 4 (431 + 3 * k) = y
theorem dX8_faultAt_0 : decode cX8_faultAt 0 = .ok (.iconst 0, 1) := by decide +kernel
theorem dX8_faultAt_1 : decode cX8_faultAt 1 = .ok (.istore_n 2, 1) := by decide +kernel
theorem dX8_faultAt_2 : decode cX8_faultAt 2 = .ok (.iload_n 2, 1) := by decide +kernel
theorem dX8_faultAt_3 : decode cX8_faultAt 3 = .ok (.aload_n 0, 1) := by decide +kernel
theorem dX8_faultAt_4 : decode cX8_faultAt 4 = .ok (.getfield 22, 3) := by decide +kernel
theorem dX8_faultAt_7 : decode cX8_faultAt 7 = .ok (.sipush 430, 3) := by decide +kernel
theorem dX8_faultAt_10 : decode cX8_faultAt 10 = .ok (.iaload, 1) := by decide +kernel
theorem dX8_faultAt_11 : decode cX8_faultAt 11 = .ok (.if_icmp .ge 27, 3) := by decide +kernel
theorem dX8_faultAt_14 : decode cX8_faultAt 14 = .ok (.aload_n 0, 1) := by decide +kernel
theorem dX8_faultAt_15 : decode cX8_faultAt 15 = .ok (.getfield 22, 3) := by decide +kernel
theorem dX8_faultAt_18 : decode cX8_faultAt 18 = .ok (.sipush 431, 3) := by decide +kernel
theorem dX8_faultAt_21 : decode cX8_faultAt 21 = .ok (.iconst 3, 1) := by decide +kernel
theorem dX8_faultAt_22 : decode cX8_faultAt 22 = .ok (.iload_n 2, 1) := by decide +kernel
theorem dX8_faultAt_23 : decode cX8_faultAt 23 = .ok (.imul, 1) := by decide +kernel
theorem dX8_faultAt_24 : decode cX8_faultAt 24 = .ok (.iadd, 1) := by decide +kernel
theorem dX8_faultAt_25 : decode cX8_faultAt 25 = .ok (.iaload, 1) := by decide +kernel
theorem dX8_faultAt_26 : decode cX8_faultAt 26 = .ok (.iload_n 1, 1) := by decide +kernel
theorem dX8_faultAt_27 : decode cX8_faultAt 27 = .ok (.if_icmp .ne 5, 3) := by decide +kernel
theorem dX8_faultAt_30 : decode cX8_faultAt 30 = .ok (.iload_n 2, 1) := by decide +kernel
theorem dX8_faultAt_31 : decode cX8_faultAt 31 = .ok (.ireturn, 1) := by decide +kernel
theorem dX8_faultAt_32 : decode cX8_faultAt 32 = .ok (.iinc 2 1, 3) := by decide +kernel
theorem dX8_faultAt_35 : decode cX8_faultAt 35 = .ok (.goto (-33), 3) := by decide +kernel
theorem dX8_faultAt_38 : decode cX8_faultAt 38 = .ok (.iconst (-1), 1) := by decide +kernel
theorem dX8_faultAt_39 : decode cX8_faultAt 39 = .ok (.ireturn, 1) := by decide +kernel
set_option maxRecDepth 100000 in
set_option maxHeartbeats 4000000 in
theorem c_X8_faultAt_r {hp : List gA} {M : gMd} {y : Int32} (HM : gMod hp M) (hf : gIr (M.a 4 430) 25) : gM yX8_faultAt cX8_faultAt 3 ((some .int)) 0 0 [.ref 122, .int y] (hp) (0) (0) (fun v h => ∃ x, v = some (.int x) ∧ h = hp ∧ gFa M y x) := by
  refine gM_of (ls0 := [some (.ref 122), some (.int y), none]) (by decide +kernel) (Nat.le_of_ble_eq_true rfl) rfl fun X C E => ?_
  have h25 := hf.le (by decide)
  have LL : ∀ d j : Nat, j + d = (M.a 4 430).toNatClampNeg → (∀ k, k < j → ¬ M.a 4 (431 + 3 * k) = y) → gG X 2 [some (.ref 122), some (.int y), some (.int ((nI j)))] [] hp 0 0 := by
    intro d
    induction d with
    | zero =>
      intro j hj hn
      obtain rfl : j = (M.a 4 430).toNatClampNeg := by omega
      refine g_iload_n (q := 3) C dX8_faultAt_2 rfl rfl ?_
      refine g_aload_n (q := 4) C dX8_faultAt_3 rfl rfl ?_
      refine g_getfield (v := .ref 127) (q := 7) C fX8_22 dX8_faultAt_4 rfl HM.1 rfl ?_
      refine g_sipush (v := 430) (q := 10) C dX8_faultAt_7 (by decide) rfl ?_
      refine g_ialoadN (x := (M.a 4 430)) (j := 430) (q := 11) C dX8_faultAt_10 rfl (HM.ar (i := 4) (n := 772) (by decide) rfl) (pk_in 430 772 (by decide)) (pk_cl 430) rfl ?_
      refine g_icmp_ge_t (t := 38) C dX8_faultAt_11 (by decide) (hf.t (by decide)) ?_
      refine g_iconst (v := (-1)) (q := 39) C dX8_faultAt_38 (by decide) rfl ?_
      exact E.1 _ _ _ _ _ _ _ dX8_faultAt_39 rfl rfl (Nat.le_of_ble_eq_true rfl) (Nat.le_of_ble_eq_true rfl) ⟨_, rfl, rfl, Or.inl ⟨rfl, hn⟩⟩
    | succ d ih =>
      intro j hj hn
      refine g_iload_n (q := 3) C dX8_faultAt_2 rfl rfl ?_
      refine g_aload_n (q := 4) C dX8_faultAt_3 rfl rfl ?_
      refine g_getfield (v := .ref 127) (q := 7) C fX8_22 dX8_faultAt_4 rfl HM.1 rfl ?_
      refine g_sipush (v := 430) (q := 10) C dX8_faultAt_7 (by decide) rfl ?_
      refine g_ialoadN (x := (M.a 4 430)) (j := 430) (q := 11) C dX8_faultAt_10 rfl (HM.ar (i := 4) (n := 772) (by decide) rfl) (pk_in 430 772 (by decide)) (pk_cl 430) rfl ?_
      refine g_icmp_ge_f (t := 38) (q := 14) C dX8_faultAt_11 (by decide) rfl (hf.f (by decide) (by omega)) ?_
      refine g_aload_n (q := 15) C dX8_faultAt_14 rfl rfl ?_
      refine g_getfield (v := .ref 127) (q := 18) C fX8_22 dX8_faultAt_15 rfl HM.1 rfl ?_
      refine g_sipush (v := 431) (q := 21) C dX8_faultAt_18 (by decide) rfl ?_
      refine g_iconst (v := 3) (q := 22) C dX8_faultAt_21 (by decide) rfl ?_
      refine g_iload_n (q := 23) C dX8_faultAt_22 rfl rfl ?_
      refine g_imul (q := 24) C dX8_faultAt_23 rfl ?_
      refine g_iadd (q := 25) C dX8_faultAt_24 rfl ?_
      
      refine g_ialoadN (x := (M.a 4 (431 + 3 * j))) (j := (431 + 3 * j)) (q := 26) C dX8_faultAt_25 rfl (HM.ar (i := 4) (n := 772) (by decide) rfl) (pk_in (431 + 3 * j) 772 (by omega) (g3j (by omega))) (pk_cl (431 + 3 * j) (g3j (by omega)) (by omega)) rfl ?_
      refine g_iload_n (q := 27) C dX8_faultAt_26 rfl rfl ?_
      refine g_icmp_ne (t := 32) (q := 30) C dX8_faultAt_27 (by decide) rfl (fun c_27 => ?_) (fun c_27 => ?_)
      ·
        refine g_iinc (v := (nI (j + 1))) (q := 35) C dX8_faultAt_32 rfl (nI_1 j) (by simp only [gset]; rfl) rfl ?_
        refine g_goto (q := 2) C dX8_faultAt_35 (by decide) ?_
        exact ih (j + 1) (by omega) (fun k hk => by rcases Nat.lt_or_eq_of_le (Nat.le_of_lt_succ hk) with h | h; exact hn k h; subst h; exact c_27)
      ·
        refine g_iload_n (q := 31) C dX8_faultAt_30 rfl rfl ?_
        exact E.1 _ _ _ _ _ _ _ dX8_faultAt_31 rfl rfl (Nat.le_of_ble_eq_true rfl) (Nat.le_of_ble_eq_true rfl) ⟨_, rfl, rfl, Or.inr ⟨j, by omega, rfl, c_27⟩⟩
  refine g_iconst (v := 0) (q := 1) C dX8_faultAt_0 (by decide) rfl ?_
  refine g_istore_n (q := 2) C dX8_faultAt_1 (Nat.le_of_ble_eq_true rfl) (by simp only [gset]; rfl) rfl ?_
  exact LL (M.a 4 430).toNatClampNeg 0 (by omega) (fun k hk => absurd hk (Nat.not_lt_zero _))
