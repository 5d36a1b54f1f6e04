/-! the reference: the unlike blocks (by program: wip/p2/m_mf.py) -/
def gEn (E : List (Int32 × List Int32)) (i : Nat) : Int32 × List Int32 := E.getD i (0, [])
/-- where the bytes of the i-th begin -/
def gOf (E : List (Int32 × List Int32)) : Nat → Nat
  | 0 => 0
  | i + 1 => gOf E i + (gEn E i).2.length
/-- the unlike blocks, by side and bytes -/
def gUn (M : gMd) (E : List (Int32 × List Int32)) : Prop := M.f 18 = nI E.length ∧ (∀ i, i ≤ E.length → M.a 8 i = nI (gOf E i)) ∧ (∀ i, i < E.length → M.a 9 i = (gEn E i).1) ∧ (∀ i k, i < E.length → k < (gEn E i).2.length → M.a 11 (gOf E i + k) = (gEn E i).2.getD k 0) ∧ E.length ≤ 8192 ∧ gOf E E.length ≤ 131072
def gBk (M : gMd) (n : Nat) : List Int32 := (List.range n).map (M.a 12)
theorem gBk_len {M : gMd} {n : Nat} : (gBk M n).length = n := by unfold gBk; rw [List.length_map, List.length_range]
theorem gBk_at {M : gMd} {n k : Nat} (h : k < n) : (gBk M n).getD k 0 = M.a 12 k := by
  unfold gBk
  rw [List.getD_eq_getElem?_getD, List.getElem?_map, List.getElem?_range h]; rfl
theorem gOf_mono {E : List (Int32 × List Int32)} {i j : Nat} (h : i ≤ j) : gOf E i ≤ gOf E j := by
  induction j with
  | zero => rw [Nat.le_zero.mp h]; exact Nat.le_refl _
  | succ j ih =>
    by_cases c : i = j + 1
    · subst c; exact Nat.le_refl _
    · exact Nat.le_trans (ih (by omega)) (Nat.le_add_right _ _)
theorem gEn_app {E F : List (Int32 × List Int32)} {i : Nat} (h : i < E.length) : gEn (E ++ F) i = gEn E i := by
  unfold gEn
  rw [List.getD_eq_getElem?_getD, List.getElem?_append_left h, ← List.getD_eq_getElem?_getD]
theorem gEn_last {E : List (Int32 × List Int32)} {e : Int32 × List Int32} : gEn (E ++ [e]) E.length = e := by
  unfold gEn
  rw [List.getD_eq_getElem?_getD, List.getElem?_append_right (Nat.le_refl _), Nat.sub_self]; rfl
theorem gOf_app {E F : List (Int32 × List Int32)} {i : Nat} (h : i ≤ E.length) : gOf (E ++ F) i = gOf E i := by
  induction i with
  | zero => rfl
  | succ i ih =>
    show gOf (E ++ F) i + _ = gOf E i + _
    rw [ih (by omega), gEn_app (by omega)]
theorem gList_eq {a b : List Int32} (hl : a.length = b.length) (h : ∀ k, k < a.length → a.getD k 0 = b.getD k 0) : a = b := by
  refine List.ext_getElem? fun k => ?_
  by_cases c : k < a.length
  · have := h k c
    rw [List.getD_eq_getElem?_getD, List.getD_eq_getElem?_getD, List.getElem?_eq_getElem c, List.getElem?_eq_getElem (by omega)] at this
    rw [List.getElem?_eq_getElem c, List.getElem?_eq_getElem (by omega)]
    exact congrArg some this
  · rw [List.getElem?_eq_none (by omega), List.getElem?_eq_none (by omega)]
theorem dX8_isAlike_0 : decode cX8_isAlike 0 = .ok (.aload_n 0, 1) := by decide +kernel
theorem dX8_isAlike_1 : decode cX8_isAlike 1 = .ok (.getfield 41, 3) := by decide +kernel
theorem dX8_isAlike_4 : decode cX8_isAlike 4 = .ok (.iload_n 1, 1) := by decide +kernel
theorem dX8_isAlike_5 : decode cX8_isAlike 5 = .ok (.iaload, 1) := by decide +kernel
theorem dX8_isAlike_6 : decode cX8_isAlike 6 = .ok (.iload_n 2, 1) := by decide +kernel
theorem dX8_isAlike_7 : decode cX8_isAlike 7 = .ok (.if_icmp .ne 25, 3) := by decide +kernel
theorem dX8_isAlike_10 : decode cX8_isAlike 10 = .ok (.aload_n 0, 1) := by decide +kernel
theorem dX8_isAlike_11 : decode cX8_isAlike 11 = .ok (.getfield 38, 3) := by decide +kernel
theorem dX8_isAlike_14 : decode cX8_isAlike 14 = .ok (.iload_n 1, 1) := by decide +kernel
theorem dX8_isAlike_15 : decode cX8_isAlike 15 = .ok (.iconst 1, 1) := by decide +kernel
theorem dX8_isAlike_16 : decode cX8_isAlike 16 = .ok (.iadd, 1) := by decide +kernel
theorem dX8_isAlike_17 : decode cX8_isAlike 17 = .ok (.iaload, 1) := by decide +kernel
theorem dX8_isAlike_18 : decode cX8_isAlike 18 = .ok (.aload_n 0, 1) := by decide +kernel
theorem dX8_isAlike_19 : decode cX8_isAlike 19 = .ok (.getfield 38, 3) := by decide +kernel
theorem dX8_isAlike_22 : decode cX8_isAlike 22 = .ok (.iload_n 1, 1) := by decide +kernel
theorem dX8_isAlike_23 : decode cX8_isAlike 23 = .ok (.iaload, 1) := by decide +kernel
theorem dX8_isAlike_24 : decode cX8_isAlike 24 = .ok (.isub, 1) := by decide +kernel
theorem dX8_isAlike_25 : decode cX8_isAlike 25 = .ok (.aload_n 0, 1) := by decide +kernel
theorem dX8_isAlike_26 : decode cX8_isAlike 26 = .ok (.getfield 167, 3) := by decide +kernel
theorem dX8_isAlike_29 : decode cX8_isAlike 29 = .ok (.if_icmp .eq 5, 3) := by decide +kernel
theorem dX8_isAlike_32 : decode cX8_isAlike 32 = .ok (.iconst 0, 1) := by decide +kernel
theorem dX8_isAlike_33 : decode cX8_isAlike 33 = .ok (.ireturn, 1) := by decide +kernel
theorem dX8_isAlike_34 : decode cX8_isAlike 34 = .ok (.iconst 0, 1) := by decide +kernel
theorem dX8_isAlike_35 : decode cX8_isAlike 35 = .ok (.istore_n 3, 1) := by decide +kernel
theorem dX8_isAlike_36 : decode cX8_isAlike 36 = .ok (.iload_n 3, 1) := by decide +kernel
theorem dX8_isAlike_37 : decode cX8_isAlike 37 = .ok (.aload_n 0, 1) := by decide +kernel
theorem dX8_isAlike_38 : decode cX8_isAlike 38 = .ok (.getfield 167, 3) := by decide +kernel
theorem dX8_isAlike_41 : decode cX8_isAlike 41 = .ok (.if_icmp .ge 33, 3) := by decide +kernel
theorem dX8_isAlike_44 : decode cX8_isAlike 44 = .ok (.aload_n 0, 1) := by decide +kernel
theorem dX8_isAlike_45 : decode cX8_isAlike 45 = .ok (.getfield 48, 3) := by decide +kernel
theorem dX8_isAlike_48 : decode cX8_isAlike 48 = .ok (.aload_n 0, 1) := by decide +kernel
theorem dX8_isAlike_49 : decode cX8_isAlike 49 = .ok (.getfield 38, 3) := by decide +kernel
theorem dX8_isAlike_52 : decode cX8_isAlike 52 = .ok (.iload_n 1, 1) := by decide +kernel
theorem dX8_isAlike_53 : decode cX8_isAlike 53 = .ok (.iaload, 1) := by decide +kernel
theorem dX8_isAlike_54 : decode cX8_isAlike 54 = .ok (.iload_n 3, 1) := by decide +kernel
theorem dX8_isAlike_55 : decode cX8_isAlike 55 = .ok (.iadd, 1) := by decide +kernel
theorem dX8_isAlike_56 : decode cX8_isAlike 56 = .ok (.iaload, 1) := by decide +kernel
theorem dX8_isAlike_57 : decode cX8_isAlike 57 = .ok (.aload_n 0, 1) := by decide +kernel
theorem dX8_isAlike_58 : decode cX8_isAlike 58 = .ok (.getfield 51, 3) := by decide +kernel
theorem dX8_isAlike_61 : decode cX8_isAlike 61 = .ok (.iload_n 3, 1) := by decide +kernel
theorem dX8_isAlike_62 : decode cX8_isAlike 62 = .ok (.iaload, 1) := by decide +kernel
theorem dX8_isAlike_63 : decode cX8_isAlike 63 = .ok (.if_icmp .eq 5, 3) := by decide +kernel
theorem dX8_isAlike_66 : decode cX8_isAlike 66 = .ok (.iconst 0, 1) := by decide +kernel
theorem dX8_isAlike_67 : decode cX8_isAlike 67 = .ok (.ireturn, 1) := by decide +kernel
theorem dX8_isAlike_68 : decode cX8_isAlike 68 = .ok (.iinc 3 1, 3) := by decide +kernel
theorem dX8_isAlike_71 : decode cX8_isAlike 71 = .ok (.goto (-35), 3) := by decide +kernel
theorem dX8_isAlike_74 : decode cX8_isAlike 74 = .ok (.iconst 1, 1) := by decide +kernel
theorem dX8_isAlike_75 : decode cX8_isAlike 75 = .ok (.ireturn, 1) := by decide +kernel
set_option maxRecDepth 100000 in
set_option maxHeartbeats 4000000 in
theorem c_X8_isAlike_0_r {hp : List gA} {M : gMd} {u n : Nat} {E : List (Int32 × List Int32)} (HM : gMod hp M) (U : gUn M E) (hu : u < E.length) (hn : M.f 26 = nI n) (hn2 : n ≤ 64) : gM yX8_isAlike cX8_isAlike 4 ((some .boolean)) 0 0 [.ref 122, .int ((nI u)), .int 0] (hp) (0) (0) (fun v h => ∃ x, v = some (.int x) ∧ h = hp ∧ ((x = 1 ∧ gEn E u = (0, gBk M n)) ∨ (x = 0 ∧ ¬ gEn E u = (0, gBk M n)))) := by
  refine gM_of (ls0 := [some (.ref 122), some (.int ((nI u))), some (.int 0), none]) (by decide +kernel) (Nat.le_of_ble_eq_true rfl) rfl fun X C E8 => ?_
  obtain ⟨u1, u2, u3, u4, u5, u6⟩ := U
  have o0 := u2 u (by omega)
  have o1 := u2 (u + 1) (by omega)
  have om := gOf_mono (E := E) (i := u + 1) (j := E.length) (by omega)
  have oe : gOf E (u + 1) = gOf E u + (gEn E u).2.length := rfl
  have E9 := E8
  refine g_aload_n (q := 1) C dX8_isAlike_0 rfl rfl ?_
  refine g_getfield (v := .ref 132) (q := 4) C fX8_41 dX8_isAlike_1 rfl HM.1 rfl ?_
  refine g_iload_n (q := 5) C dX8_isAlike_4 rfl rfl ?_
  refine g_ialoadN (x := (M.a 9 u)) (j := u) (q := 6) C dX8_isAlike_5 rfl (HM.ar (i := 9) (n := 8192) (by decide) rfl) (pk_in u 8192 (by omega)) (pk_cl u rfl (by omega)) rfl ?_
  refine g_iload_n (q := 7) C dX8_isAlike_6 rfl rfl ?_
  refine g_icmp_ne (t := 32) (q := 10) C dX8_isAlike_7 (by decide) rfl (fun c_7 => ?_) (fun c_7 => ?_)
  ·
    refine g_iconst (v := 0) (q := 33) C dX8_isAlike_32 (by decide) rfl ?_
    exact E9.1 _ _ _ _ _ _ _ dX8_isAlike_33 rfl rfl (Nat.le_of_ble_eq_true rfl) (Nat.le_of_ble_eq_true rfl) ⟨_, rfl, rfl, Or.inr ⟨rfl, fun h => c_7 ((u3 u hu).trans (congrArg Prod.fst h))⟩⟩
  ·
    refine g_aload_n (q := 11) C dX8_isAlike_10 rfl rfl ?_
    refine g_getfield (v := .ref 131) (q := 14) C fX8_38 dX8_isAlike_11 rfl HM.1 rfl ?_
    refine g_iload_n (q := 15) C dX8_isAlike_14 rfl rfl ?_
    refine g_iconst (v := 1) (q := 16) C dX8_isAlike_15 (by decide) rfl ?_
    refine g_iadd (q := 17) C dX8_isAlike_16 rfl ?_
    rw [nI_1]
    refine g_ialoadN (x := (M.a 8 (u + 1))) (j := (u + 1)) (q := 18) C dX8_isAlike_17 rfl (HM.ar (i := 8) (n := 8193) (by decide) rfl) (pk_in (u + 1) 8193 (by omega)) (pk_cl (u + 1) rfl (by omega)) rfl ?_
    refine g_aload_n (q := 19) C dX8_isAlike_18 rfl rfl ?_
    refine g_getfield (v := .ref 131) (q := 22) C fX8_38 dX8_isAlike_19 rfl HM.1 rfl ?_
    refine g_iload_n (q := 23) C dX8_isAlike_22 rfl rfl ?_
    refine g_ialoadN (x := (M.a 8 u)) (j := u) (q := 24) C dX8_isAlike_23 rfl (HM.ar (i := 8) (n := 8193) (by decide) rfl) (pk_in u 8193 (by omega)) (pk_cl u rfl (by omega)) rfl ?_
    refine g_isub (q := 25) C dX8_isAlike_24 rfl ?_
    rw [show (M.a 8 (u + 1)) = nI (gOf E (u + 1)) from o1, show (M.a 8 u) = nI (gOf E u) from o0, pk_sub (by omega), show gOf E (u + 1) - gOf E u = (gEn E u).2.length by omega]
    refine g_aload_n (q := 26) C dX8_isAlike_25 rfl rfl ?_
    refine g_getfield (v := .int ((M.f 26))) (q := 29) C fX8_167 dX8_isAlike_26 rfl HM.1 rfl ?_
    refine g_icmp_eq (t := 34) (q := 32) C dX8_isAlike_29 (by decide) rfl (fun c_29 => ?_) (fun c_29 => ?_)
    ·
      have c_7b := c_7
      have c_29b : (gEn E u).2.length = n := nI_inj (by omega) (by omega) (c_29.trans hn)
      refine g_iconst (v := 0) (q := 35) C dX8_isAlike_34 (by decide) rfl ?_
      refine g_istore_n (q := 36) C dX8_isAlike_35 (Nat.le_of_ble_eq_true rfl) (by simp only [gset]; rfl) rfl ?_
      have hb : ∀ k, k < n → M.a 11 (gOf E u + k) = (gEn E u).2.getD k 0 := fun k hk => u4 u k hu (by omega)
      have LL : ∀ d j : Nat, j + d = n → (∀ k, k < j → M.a 11 (gOf E u + k) = M.a 12 k) → gG X 36 [some (.ref 122), some (.int ((nI u))), some (.int 0), some (.int ((nI j)))] [] hp 0 0 := by
        intro d
        induction d with
        | zero =>
          intro j hj hq
          obtain rfl : j = n := by omega
          refine g_iload_n (q := 37) C dX8_isAlike_36 rfl rfl ?_
          refine g_aload_n (q := 38) C dX8_isAlike_37 rfl rfl ?_
          refine g_getfield (v := .int ((M.f 26))) (q := 41) C fX8_167 dX8_isAlike_38 rfl HM.1 rfl ?_
          rw [show M.f 26 = nI j from hn]
          refine g_icmp_ge_t (t := 74) C dX8_isAlike_41 (by decide) (nI_le (Nat.le_refl _) (by omega)) ?_
          refine g_iconst (v := 1) (q := 75) C dX8_isAlike_74 (by decide) rfl ?_
          exact E9.1 _ _ _ _ _ _ _ dX8_isAlike_75 rfl rfl (Nat.le_of_ble_eq_true rfl) (Nat.le_of_ble_eq_true rfl) ⟨_, rfl, rfl, Or.inl ⟨rfl, Prod.ext ((u3 u hu).symm.trans c_7b) (gList_eq (by rw [gBk_len]; omega) (fun k hk => by rw [gBk_at (by omega), ← hb k (by omega)]; exact hq k (by omega)))⟩⟩
        | succ d ih =>
          intro j hj hq
          refine g_iload_n (q := 37) C dX8_isAlike_36 rfl rfl ?_
          refine g_aload_n (q := 38) C dX8_isAlike_37 rfl rfl ?_
          refine g_getfield (v := .int ((M.f 26))) (q := 41) C fX8_167 dX8_isAlike_38 rfl HM.1 rfl ?_
          rw [show (M.f 26) = nI n from hn]
          refine g_icmp_ge_f (t := 74) (q := 44) C dX8_isAlike_41 (by decide) rfl (fun h => nI_ge (show j < n by omega) (by omega) h) ?_
          refine g_aload_n (q := 45) C dX8_isAlike_44 rfl rfl ?_
          refine g_getfield (v := .ref 134) (q := 48) C fX8_48 dX8_isAlike_45 rfl HM.1 rfl ?_
          refine g_aload_n (q := 49) C dX8_isAlike_48 rfl rfl ?_
          refine g_getfield (v := .ref 131) (q := 52) C fX8_38 dX8_isAlike_49 rfl HM.1 rfl ?_
          refine g_iload_n (q := 53) C dX8_isAlike_52 rfl rfl ?_
          refine g_ialoadN (x := (M.a 8 u)) (j := u) (q := 54) C dX8_isAlike_53 rfl (HM.ar (i := 8) (n := 8193) (by decide) rfl) (pk_in u 8193 (by omega)) (pk_cl u rfl (by omega)) rfl ?_
          refine g_iload_n (q := 55) C dX8_isAlike_54 rfl rfl ?_
          refine g_iadd (q := 56) C dX8_isAlike_55 rfl ?_
          rw [show (M.a 8 u) = nI (gOf E u) from o0, nI_add]
          refine g_ialoadN (x := (M.a 11 (gOf E u + j))) (j := (gOf E u + j)) (q := 57) C dX8_isAlike_56 rfl (HM.ar (i := 11) (n := 131072) (by decide) rfl) (pk_in (gOf E u + j) 131072 (by omega)) (pk_cl (gOf E u + j) rfl (by omega)) rfl ?_
          refine g_aload_n (q := 58) C dX8_isAlike_57 rfl rfl ?_
          refine g_getfield (v := .ref 135) (q := 61) C fX8_51 dX8_isAlike_58 rfl HM.1 rfl ?_
          refine g_iload_n (q := 62) C dX8_isAlike_61 rfl rfl ?_
          refine g_ialoadN (x := (M.a 12 j)) (j := j) (q := 63) C dX8_isAlike_62 rfl (HM.ar (i := 12) (n := 260) (by decide) rfl) (pk_in j 260 (by omega)) (pk_cl j rfl (by omega)) rfl ?_
          refine g_icmp_eq (t := 68) (q := 66) C dX8_isAlike_63 (by decide) rfl (fun c_63 => ?_) (fun c_63 => ?_)
          ·
            refine g_iinc (v := (nI (j + 1))) (q := 71) C dX8_isAlike_68 rfl (nI_1 j) (by simp only [gset]; rfl) rfl ?_
            refine g_goto (q := 36) C dX8_isAlike_71 (by decide) ?_
            exact ih (j + 1) (by omega) (fun k hk => by rcases Nat.lt_or_eq_of_le (Nat.le_of_lt_succ hk) with h | h; exact hq k h; subst h; exact c_63)
          ·
            refine g_iconst (v := 0) (q := 67) C dX8_isAlike_66 (by decide) rfl ?_
            exact E9.1 _ _ _ _ _ _ _ dX8_isAlike_67 rfl rfl (Nat.le_of_ble_eq_true rfl) (Nat.le_of_ble_eq_true rfl) ⟨_, rfl, rfl, Or.inr ⟨rfl, fun h => c_63 (by rw [hb j (by omega), h, gBk_at (by omega)])⟩⟩
      exact LL n 0 (by omega) (fun k hk => absurd hk (Nat.not_lt_zero _))
      
      
    ·
      refine g_iconst (v := 0) (q := 33) C dX8_isAlike_32 (by decide) rfl ?_
      exact E9.1 _ _ _ _ _ _ _ dX8_isAlike_33 rfl rfl (Nat.le_of_ble_eq_true rfl) (Nat.le_of_ble_eq_true rfl) ⟨_, rfl, rfl, Or.inr ⟨rfl, fun h => c_29 (by rw [hn, h]; exact congrArg nI gBk_len)⟩⟩
set_option maxRecDepth 100000 in
set_option maxHeartbeats 4000000 in
theorem c_X8_isAlike_1_r {hp : List gA} {M : gMd} {u n : Nat} {E : List (Int32 × List Int32)} (HM : gMod hp M) (U : gUn M E) (hu : u < E.length) (hn : M.f 26 = nI n) (hn2 : n ≤ 64) : gM yX8_isAlike cX8_isAlike 4 ((some .boolean)) 0 0 [.ref 122, .int ((nI u)), .int 1] (hp) (0) (0) (fun v h => ∃ x, v = some (.int x) ∧ h = hp ∧ ((x = 1 ∧ gEn E u = (1, gBk M n)) ∨ (x = 0 ∧ ¬ gEn E u = (1, gBk M n)))) := by
  refine gM_of (ls0 := [some (.ref 122), some (.int ((nI u))), some (.int 1), none]) (by decide +kernel) (Nat.le_of_ble_eq_true rfl) rfl fun X C E8 => ?_
  obtain ⟨u1, u2, u3, u4, u5, u6⟩ := U
  have o0 := u2 u (by omega)
  have o1 := u2 (u + 1) (by omega)
  have om := gOf_mono (E := E) (i := u + 1) (j := E.length) (by omega)
  have oe : gOf E (u + 1) = gOf E u + (gEn E u).2.length := rfl
  have E9 := E8
  refine g_aload_n (q := 1) C dX8_isAlike_0 rfl rfl ?_
  refine g_getfield (v := .ref 132) (q := 4) C fX8_41 dX8_isAlike_1 rfl HM.1 rfl ?_
  refine g_iload_n (q := 5) C dX8_isAlike_4 rfl rfl ?_
  refine g_ialoadN (x := (M.a 9 u)) (j := u) (q := 6) C dX8_isAlike_5 rfl (HM.ar (i := 9) (n := 8192) (by decide) rfl) (pk_in u 8192 (by omega)) (pk_cl u rfl (by omega)) rfl ?_
  refine g_iload_n (q := 7) C dX8_isAlike_6 rfl rfl ?_
  refine g_icmp_ne (t := 32) (q := 10) C dX8_isAlike_7 (by decide) rfl (fun c_7 => ?_) (fun c_7 => ?_)
  ·
    refine g_iconst (v := 0) (q := 33) C dX8_isAlike_32 (by decide) rfl ?_
    exact E9.1 _ _ _ _ _ _ _ dX8_isAlike_33 rfl rfl (Nat.le_of_ble_eq_true rfl) (Nat.le_of_ble_eq_true rfl) ⟨_, rfl, rfl, Or.inr ⟨rfl, fun h => c_7 ((u3 u hu).trans (congrArg Prod.fst h))⟩⟩
  ·
    refine g_aload_n (q := 11) C dX8_isAlike_10 rfl rfl ?_
    refine g_getfield (v := .ref 131) (q := 14) C fX8_38 dX8_isAlike_11 rfl HM.1 rfl ?_
    refine g_iload_n (q := 15) C dX8_isAlike_14 rfl rfl ?_
    refine g_iconst (v := 1) (q := 16) C dX8_isAlike_15 (by decide) rfl ?_
    refine g_iadd (q := 17) C dX8_isAlike_16 rfl ?_
    rw [nI_1]
    refine g_ialoadN (x := (M.a 8 (u + 1))) (j := (u + 1)) (q := 18) C dX8_isAlike_17 rfl (HM.ar (i := 8) (n := 8193) (by decide) rfl) (pk_in (u + 1) 8193 (by omega)) (pk_cl (u + 1) rfl (by omega)) rfl ?_
    refine g_aload_n (q := 19) C dX8_isAlike_18 rfl rfl ?_
    refine g_getfield (v := .ref 131) (q := 22) C fX8_38 dX8_isAlike_19 rfl HM.1 rfl ?_
    refine g_iload_n (q := 23) C dX8_isAlike_22 rfl rfl ?_
    refine g_ialoadN (x := (M.a 8 u)) (j := u) (q := 24) C dX8_isAlike_23 rfl (HM.ar (i := 8) (n := 8193) (by decide) rfl) (pk_in u 8193 (by omega)) (pk_cl u rfl (by omega)) rfl ?_
    refine g_isub (q := 25) C dX8_isAlike_24 rfl ?_
    rw [show (M.a 8 (u + 1)) = nI (gOf E (u + 1)) from o1, show (M.a 8 u) = nI (gOf E u) from o0, pk_sub (by omega), show gOf E (u + 1) - gOf E u = (gEn E u).2.length by omega]
    refine g_aload_n (q := 26) C dX8_isAlike_25 rfl rfl ?_
    refine g_getfield (v := .int ((M.f 26))) (q := 29) C fX8_167 dX8_isAlike_26 rfl HM.1 rfl ?_
    refine g_icmp_eq (t := 34) (q := 32) C dX8_isAlike_29 (by decide) rfl (fun c_29 => ?_) (fun c_29 => ?_)
    ·
      have c_7b := c_7
      have c_29b : (gEn E u).2.length = n := nI_inj (by omega) (by omega) (c_29.trans hn)
      refine g_iconst (v := 0) (q := 35) C dX8_isAlike_34 (by decide) rfl ?_
      refine g_istore_n (q := 36) C dX8_isAlike_35 (Nat.le_of_ble_eq_true rfl) (by simp only [gset]; rfl) rfl ?_
      have hb : ∀ k, k < n → M.a 11 (gOf E u + k) = (gEn E u).2.getD k 0 := fun k hk => u4 u k hu (by omega)
      have LL : ∀ d j : Nat, j + d = n → (∀ k, k < j → M.a 11 (gOf E u + k) = M.a 12 k) → gG X 36 [some (.ref 122), some (.int ((nI u))), some (.int 1), some (.int ((nI j)))] [] hp 0 0 := by
        intro d
        induction d with
        | zero =>
          intro j hj hq
          obtain rfl : j = n := by omega
          refine g_iload_n (q := 37) C dX8_isAlike_36 rfl rfl ?_
          refine g_aload_n (q := 38) C dX8_isAlike_37 rfl rfl ?_
          refine g_getfield (v := .int ((M.f 26))) (q := 41) C fX8_167 dX8_isAlike_38 rfl HM.1 rfl ?_
          rw [show M.f 26 = nI j from hn]
          refine g_icmp_ge_t (t := 74) C dX8_isAlike_41 (by decide) (nI_le (Nat.le_refl _) (by omega)) ?_
          refine g_iconst (v := 1) (q := 75) C dX8_isAlike_74 (by decide) rfl ?_
          exact E9.1 _ _ _ _ _ _ _ dX8_isAlike_75 rfl rfl (Nat.le_of_ble_eq_true rfl) (Nat.le_of_ble_eq_true rfl) ⟨_, rfl, rfl, Or.inl ⟨rfl, Prod.ext ((u3 u hu).symm.trans c_7b) (gList_eq (by rw [gBk_len]; omega) (fun k hk => by rw [gBk_at (by omega), ← hb k (by omega)]; exact hq k (by omega)))⟩⟩
        | succ d ih =>
          intro j hj hq
          refine g_iload_n (q := 37) C dX8_isAlike_36 rfl rfl ?_
          refine g_aload_n (q := 38) C dX8_isAlike_37 rfl rfl ?_
          refine g_getfield (v := .int ((M.f 26))) (q := 41) C fX8_167 dX8_isAlike_38 rfl HM.1 rfl ?_
          rw [show (M.f 26) = nI n from hn]
          refine g_icmp_ge_f (t := 74) (q := 44) C dX8_isAlike_41 (by decide) rfl (fun h => nI_ge (show j < n by omega) (by omega) h) ?_
          refine g_aload_n (q := 45) C dX8_isAlike_44 rfl rfl ?_
          refine g_getfield (v := .ref 134) (q := 48) C fX8_48 dX8_isAlike_45 rfl HM.1 rfl ?_
          refine g_aload_n (q := 49) C dX8_isAlike_48 rfl rfl ?_
          refine g_getfield (v := .ref 131) (q := 52) C fX8_38 dX8_isAlike_49 rfl HM.1 rfl ?_
          refine g_iload_n (q := 53) C dX8_isAlike_52 rfl rfl ?_
          refine g_ialoadN (x := (M.a 8 u)) (j := u) (q := 54) C dX8_isAlike_53 rfl (HM.ar (i := 8) (n := 8193) (by decide) rfl) (pk_in u 8193 (by omega)) (pk_cl u rfl (by omega)) rfl ?_
          refine g_iload_n (q := 55) C dX8_isAlike_54 rfl rfl ?_
          refine g_iadd (q := 56) C dX8_isAlike_55 rfl ?_
          rw [show (M.a 8 u) = nI (gOf E u) from o0, nI_add]
          refine g_ialoadN (x := (M.a 11 (gOf E u + j))) (j := (gOf E u + j)) (q := 57) C dX8_isAlike_56 rfl (HM.ar (i := 11) (n := 131072) (by decide) rfl) (pk_in (gOf E u + j) 131072 (by omega)) (pk_cl (gOf E u + j) rfl (by omega)) rfl ?_
          refine g_aload_n (q := 58) C dX8_isAlike_57 rfl rfl ?_
          refine g_getfield (v := .ref 135) (q := 61) C fX8_51 dX8_isAlike_58 rfl HM.1 rfl ?_
          refine g_iload_n (q := 62) C dX8_isAlike_61 rfl rfl ?_
          refine g_ialoadN (x := (M.a 12 j)) (j := j) (q := 63) C dX8_isAlike_62 rfl (HM.ar (i := 12) (n := 260) (by decide) rfl) (pk_in j 260 (by omega)) (pk_cl j rfl (by omega)) rfl ?_
          refine g_icmp_eq (t := 68) (q := 66) C dX8_isAlike_63 (by decide) rfl (fun c_63 => ?_) (fun c_63 => ?_)
          ·
            refine g_iinc (v := (nI (j + 1))) (q := 71) C dX8_isAlike_68 rfl (nI_1 j) (by simp only [gset]; rfl) rfl ?_
            refine g_goto (q := 36) C dX8_isAlike_71 (by decide) ?_
            exact ih (j + 1) (by omega) (fun k hk => by rcases Nat.lt_or_eq_of_le (Nat.le_of_lt_succ hk) with h | h; exact hq k h; subst h; exact c_63)
          ·
            refine g_iconst (v := 0) (q := 67) C dX8_isAlike_66 (by decide) rfl ?_
            exact E9.1 _ _ _ _ _ _ _ dX8_isAlike_67 rfl rfl (Nat.le_of_ble_eq_true rfl) (Nat.le_of_ble_eq_true rfl) ⟨_, rfl, rfl, Or.inr ⟨rfl, fun h => c_63 (by rw [hb j (by omega), h, gBk_at (by omega)])⟩⟩
      exact LL n 0 (by omega) (fun k hk => absurd hk (Nat.not_lt_zero _))
      
      
    ·
      refine g_iconst (v := 0) (q := 33) C dX8_isAlike_32 (by decide) rfl ?_
      exact E9.1 _ _ _ _ _ _ _ dX8_isAlike_33 rfl rfl (Nat.le_of_ble_eq_true rfl) (Nat.le_of_ble_eq_true rfl) ⟨_, rfl, rfl, Or.inr ⟨rfl, fun h => c_29 (by rw [hn, h]; exact congrArg nI gBk_len)⟩⟩
