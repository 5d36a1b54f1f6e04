/-! Row, of any content: its items as a list (by program: wip/p1/m_row2.py) -/
def gat (l : List Int32) (x : Int32) : Int32 := if x < 0 then 0 else l.getD x.toNatClampNeg 0
theorem gcl {x : Int32} (h : ¬ x < 0) : (x.toNatClampNeg : Int) = x.toInt := by
  rw [Int32.lt_iff_toInt_lt] at h
  have h0 : (0 : Int32).toInt = 0 := by decide
  rw [h0] at h
  show ((x.toInt.toNat : Nat) : Int) = x.toInt
  omega
theorem gat_neg {l : List Int32} {x : Int32} (h : x < 0) : gat l x = 0 := if_pos h
theorem gat_out {l : List Int32} {x : Int32} (h : nI l.length ≤ x) (hl : l.length < 2 ^ 31) : gat l x = 0 := by
  unfold gat
  split
  · rfl
  · rename_i h0
    have h1 := gcl h0
    rw [Int32.le_iff_toInt_le, nI_toInt hl] at h
    rw [List.getD_eq_getElem?_getD, List.getElem?_eq_none (by omega)]; rfl
theorem gat_in {l : List Int32} {x : Int32} (h0 : ¬ x < 0) (h : ¬ nI l.length ≤ x) (hl : l.length < 2 ^ 31) : x.toNatClampNeg < l.length := by
  have h1 := gcl h0
  rw [Int32.le_iff_toInt_le, nI_toInt hl] at h
  omega
/-- the row at r: its items are l; its array, at a, has n places and holds no more -/
def gRw (hp : List gA) (r a n : Nat) (l : List Int32) : Prop := ∃ f, hp[r]? = some (.inr (.inr (4, [.ref a, .int (nI l.length), .int (nI n)]))) ∧ hp[a]? = some (.inl (n, f)) ∧ l.length ≤ n ∧ n ≤ 1000000 ∧ ∀ j, j < l.length → f j = l.getD j 0
theorem gRw.kept {hp h : List gA} {r a n : Nat} {l : List Int32} (H : gRw hp r a n l) (h1 : h[r]? = hp[r]?) (h2 : h[a]? = hp[a]?) : gRw h r a n l := by
  obtain ⟨f, a1, a2, a3⟩ := H
  exact ⟨f, h1.trans a1, h2.trans a2, a3⟩
theorem gRw.obj {hp : List gA} {r a n : Nat} {l : List Int32} (H : gRw hp r a n l) : hp[r]? = some (.inr (.inr (4, [.ref a, .int (nI l.length), .int (nI n)]))) := by obtain ⟨f, a1, -⟩ := H; exact a1
theorem gRw.le {hp : List gA} {r a n : Nat} {l : List Int32} (H : gRw hp r a n l) : l.length ≤ n ∧ n ≤ 1000000 := by obtain ⟨f, -, -, a3, a4, -⟩ := H; exact ⟨a3, a4⟩
theorem gRw.ne {hp : List gA} {r a n : Nat} {l : List Int32} (H : gRw hp r a n l) : r ≠ a := by
  obtain ⟨f, a1, a2, -⟩ := H
  exact gne a1 a2 (by intro h; cases h)
/-- the cells but two are as they were -/
def gFr (hp h : List gA) (r a : Nat) : Prop := ∀ k, k ≠ r → k ≠ a → h[k]? = hp[k]?
theorem dX4_at_0 : decode cX4_at 0 = .ok (.iload_n 1, 1) := by decide +kernel
theorem dX4_at_1 : decode cX4_at 1 = .ok (.ifCond .lt 29, 3) := by decide +kernel
theorem dX4_at_4 : decode cX4_at 4 = .ok (.iload_n 1, 1) := by decide +kernel
theorem dX4_at_5 : decode cX4_at 5 = .ok (.aload_n 0, 1) := by decide +kernel
theorem dX4_at_6 : decode cX4_at 6 = .ok (.getfield 7, 3) := by decide +kernel
theorem dX4_at_9 : decode cX4_at 9 = .ok (.if_icmp .ge 21, 3) := by decide +kernel
theorem dX4_at_12 : decode cX4_at 12 = .ok (.iload_n 1, 1) := by decide +kernel
theorem dX4_at_13 : decode cX4_at 13 = .ok (.aload_n 0, 1) := by decide +kernel
theorem dX4_at_14 : decode cX4_at 14 = .ok (.getfield 19, 3) := by decide +kernel
theorem dX4_at_17 : decode cX4_at 17 = .ok (.arraylength, 1) := by decide +kernel
theorem dX4_at_18 : decode cX4_at 18 = .ok (.if_icmp .ge 12, 3) := by decide +kernel
theorem dX4_at_21 : decode cX4_at 21 = .ok (.aload_n 0, 1) := by decide +kernel
theorem dX4_at_22 : decode cX4_at 22 = .ok (.getfield 19, 3) := by decide +kernel
theorem dX4_at_25 : decode cX4_at 25 = .ok (.iload_n 1, 1) := by decide +kernel
theorem dX4_at_26 : decode cX4_at 26 = .ok (.iaload, 1) := by decide +kernel
theorem dX4_at_27 : decode cX4_at 27 = .ok (.goto 4, 3) := by decide +kernel
theorem dX4_at_30 : decode cX4_at 30 = .ok (.iconst 0, 1) := by decide +kernel
theorem dX4_at_31 : decode cX4_at 31 = .ok (.ireturn, 1) := by decide +kernel
set_option maxRecDepth 100000 in
set_option maxHeartbeats 4000000 in
theorem c_X4_at_w {hp : List gA} {r a n : Nat} {l : List Int32} {x : Int32} (H : gRw hp r a n l) : gM yX4_at cX4_at 2 ((some .int)) 0 0 [.ref r, .int x] (hp) (0) (0) (fun v h => v = some (.int (gat l x)) ∧ h = hp) := by
  obtain ⟨f, hr, ha, hle, hn, hf⟩ := H
  have hlt : l.length < 2 ^ 31 := by omega
  have hnt : n < 2 ^ 31 := by omega
  refine gM_of (ls0 := [some (.ref r), some (.int x)]) (by decide +kernel) (Nat.le_of_ble_eq_true rfl) rfl fun X C E => ?_
  refine g_iload_n (q := 1) C dX4_at_0 rfl rfl ?_
  refine g_if_lt (t := 30) (q := 4) C dX4_at_1 (by decide) rfl (fun c_1 => ?_) (fun c_1 => ?_)
  · -- to 30
    refine g_iconst (v := 0) (q := 31) C dX4_at_30 (by decide) rfl ?_
    exact E.1 _ _ _ _ _ _ _ dX4_at_31 rfl rfl (Nat.le_of_ble_eq_true rfl) (Nat.le_of_ble_eq_true rfl) ⟨by rw [gat_neg c_1], rfl⟩
  · -- to 4
    refine g_iload_n (q := 5) C dX4_at_4 rfl rfl ?_
    refine g_aload_n (q := 6) C dX4_at_5 rfl rfl ?_
    refine g_getfield (q := 9) C fX4_7 dX4_at_6 rfl hr rfl ?_
    refine g_icmp_ge (t := 30) (q := 12) C dX4_at_9 (by decide) rfl (fun c_9 => ?_) (fun c_9 => ?_)
    · -- to 30
      refine g_iconst (v := 0) (q := 31) C dX4_at_30 (by decide) rfl ?_
      exact E.1 _ _ _ _ _ _ _ dX4_at_31 rfl rfl (Nat.le_of_ble_eq_true rfl) (Nat.le_of_ble_eq_true rfl) ⟨by rw [gat_out c_9 hlt], rfl⟩
    · -- to 12
      refine g_iload_n (q := 13) C dX4_at_12 rfl rfl ?_
      refine g_aload_n (q := 14) C dX4_at_13 rfl rfl ?_
      refine g_getfield (q := 17) C fX4_19 dX4_at_14 rfl hr rfl ?_
      refine g_arraylength (q := 18) C dX4_at_17 rfl ha rfl ?_
      refine g_icmp_ge_f (t := 30) (q := 21) C dX4_at_18 (by decide) rfl (by have h1 := gat_in c_1 c_9 hlt; have h2 := gcl c_1; intro h3; rw [Int32.le_iff_toInt_le] at h3; have h4 : (Int32.ofNat n).toInt = (n : Int) := nI_toInt hnt; rw [h4] at h3; omega) ?_
      refine g_aload_n (q := 22) C dX4_at_21 rfl rfl ?_
      refine g_getfield (q := 25) C fX4_19 dX4_at_22 rfl hr rfl ?_
      refine g_iload_n (q := 26) C dX4_at_25 rfl rfl ?_
      refine g_iaload (q := 27) C dX4_at_26 rfl ha (fun z => z.elim c_1 (fun z => absurd (Nat.lt_of_lt_of_le (gat_in c_1 c_9 hlt) hle) (Nat.not_lt.mpr z))) ?_
      refine g_goto (q := 31) C dX4_at_27 (by decide) ?_
      exact E.1 _ _ _ _ _ _ _ dX4_at_31 rfl rfl (Nat.le_of_ble_eq_true rfl) (Nat.le_of_ble_eq_true rfl) ⟨by rw [gat, if_neg c_1, hf _ (gat_in c_1 c_9 hlt)], rfl⟩
theorem g_app {l : List Int32} {f : Nat → Int32} {x : Int32} (hf : ∀ j, j < l.length → f j = l.getD j 0) : ∀ j, j < (l ++ [x]).length → upd f l.length x j = (l ++ [x]).getD j 0 := by
  intro j hj
  rw [List.length_append] at hj
  simp only [List.length_cons, List.length_nil] at hj
  by_cases h : j = l.length
  · subst h; rw [pk_us]; simp
  · rw [pk_un h, hf j (by omega)]; simp [List.getD, List.getElem?_append_left (show j < l.length by omega)]
set_option maxRecDepth 100000 in
set_option maxHeartbeats 4000000 in
theorem c_X4_add_w {hp : List gA} {r a n : Nat} {l : List Int32} {x : Int32} (H : gRw hp r a n l) (hx : l.length < n) : gM yX4_add cX4_add 2 (none) 2 82 [.ref r, .int x] (hp) (0) (0) (fun v h => v = none ∧ (gRw h r a n (l ++ [x]) ∧ gFr hp h r a)) := by
  obtain ⟨f, hr, ha, hle, hn, hf⟩ := H
  have hlt : l.length < 2 ^ 31 := by omega
  have hnt : n < 2 ^ 31 := by omega
  have hra : r ≠ a := gne hr ha (by intro h; cases h)
  refine gM_of (ls0 := [some (.ref r), some (.int x)]) (by decide +kernel) (Nat.le_of_ble_eq_true rfl) rfl fun X C E => ?_
  refine g_aload_n (q := 1) C dX4_add_0 rfl rfl ?_
  refine g_getfield (q := 4) C fX4_7 dX4_add_1 rfl hr rfl ?_
  refine g_aload_n (q := 5) C dX4_add_4 rfl rfl ?_
  refine g_getfield (q := 8) C fX4_23 dX4_add_5 rfl hr rfl ?_
  refine g_icmp_lt_t (t := 12) C dX4_add_8 (by decide) (nI_lt hx hnt) ?_
  refine g_aload_n (q := 13) C dX4_add_12 rfl rfl ?_
  refine g_getfield (q := 16) C fX4_7 dX4_add_13 rfl hr rfl ?_
  refine g_aload_n (q := 17) C dX4_add_16 rfl rfl ?_
  refine g_getfield (q := 20) C fX4_19 dX4_add_17 rfl hr rfl ?_
  refine g_arraylength (q := 21) C dX4_add_20 rfl ha rfl ?_
  refine g_icmp_lt_t (t := 53) C dX4_add_21 (by decide) (nI_lt hx hnt) ?_
  refine g_aload_n (q := 54) C dX4_add_53 rfl rfl ?_
  refine g_getfield (q := 57) C fX4_7 dX4_add_54 rfl hr rfl ?_
  refine g_if_lt_f (t := 92) (q := 60) C dX4_add_57 (by decide) rfl (nI_pos hlt) ?_
  refine g_aload_n (q := 61) C dX4_add_60 rfl rfl ?_
  refine g_getfield (q := 64) C fX4_7 dX4_add_61 rfl hr rfl ?_
  refine g_aload_n (q := 65) C dX4_add_64 rfl rfl ?_
  refine g_getfield (q := 68) C fX4_19 dX4_add_65 rfl hr rfl ?_
  refine g_arraylength (q := 69) C dX4_add_68 rfl ha rfl ?_
  refine g_icmp_ge_f (t := 92) (q := 72) C dX4_add_69 (by decide) rfl (fun h => nI_ge hx hnt h) ?_
  refine g_aload_n (q := 73) C dX4_add_72 rfl rfl ?_
  refine g_getfield (q := 76) C fX4_19 dX4_add_73 rfl hr rfl ?_
  refine g_aload_n (q := 77) C dX4_add_76 rfl rfl ?_
  refine g_getfield (q := 80) C fX4_7 dX4_add_77 rfl hr rfl ?_
  refine g_iload_n (q := 81) C dX4_add_80 rfl rfl ?_
  refine g_iastoreN (j := l.length) (q := 82) C dX4_add_81 rfl ha (pk_in l.length n hx) (pk_cl l.length) ?_
  refine g_aload_n (q := 83) C dX4_add_82 rfl rfl ?_
  refine g_dup (q := 84) C dX4_add_83 rfl rfl ?_
  refine g_getfield (q := 87) C fX4_7 dX4_add_84 rfl (gset_other hr (Ne.symm hra)) rfl ?_
  refine g_iconst (v := 1) (q := 88) C dX4_add_87 (by decide) rfl ?_
  refine g_iadd (q := 89) C dX4_add_88 rfl ?_
  refine g_putfield (q := 92) C fX4_7 dX4_add_89 rfl (gset_other hr (Ne.symm hra)) (Nat.le_of_ble_eq_true rfl) (Or.inl rfl) rfl rfl (by intro z h; cases h) ?_
  have hl2 := hra
  exact E.2.1 _ _ _ _ _ dX4_add_92 rfl (Nat.le_of_ble_eq_true rfl) (Nat.le_of_ble_eq_true rfl) ⟨rfl, ⟨upd f l.length x, by rw [gset_self (gset_other hr (Ne.symm hra))]; simp [nI_succ], by rw [List.getElem?_set_ne hra]; exact gset_self ha, by simp; omega, hn, g_app hf⟩, fun k h1 h2 => by rw [List.getElem?_set_ne (Ne.symm h1), List.getElem?_set_ne (Ne.symm h2)]⟩
theorem dX4_add_11 : decode cX4_add 11 = .ok (.return_, 1) := by decide +kernel
set_option maxRecDepth 100000 in
set_option maxHeartbeats 4000000 in
theorem c_X4_add_full {hp : List gA} {r a n : Nat} {l : List Int32} {x : Int32} (H : gRw hp r a n l) (hx : l.length = n) : gM yX4_add cX4_add 2 (none) 2 82 [.ref r, .int x] (hp) (0) (0) (fun v h => v = none ∧ (gRw h r a n ((l ++ [x]).take n) ∧ gFr hp h r a)) := by
  obtain ⟨f, hr, ha, hle, hn, hf⟩ := H
  have hlt : l.length < 2 ^ 31 := by omega
  have hnt : n < 2 ^ 31 := by omega
  refine gM_of (ls0 := [some (.ref r), some (.int x)]) (by decide +kernel) (Nat.le_of_ble_eq_true rfl) rfl fun X C E => ?_
  refine g_aload_n (q := 1) C dX4_add_0 rfl rfl ?_
  refine g_getfield (q := 4) C fX4_7 dX4_add_1 rfl hr rfl ?_
  refine g_aload_n (q := 5) C dX4_add_4 rfl rfl ?_
  refine g_getfield (q := 8) C fX4_23 dX4_add_5 rfl hr rfl ?_
  refine g_icmp_lt_f (t := 12) (q := 11) C dX4_add_8 (by decide) rfl (nI_nlt (Nat.le_of_eq hx.symm) (hx ▸ hnt)) ?_
  exact E.2.1 _ _ _ _ _ dX4_add_11 rfl (Nat.le_of_ble_eq_true rfl) (Nat.le_of_ble_eq_true rfl) ⟨rfl, by rw [List.take_append_of_le_length (Nat.le_of_eq hx.symm), List.take_of_length_le (Nat.le_of_eq hx)]; exact ⟨f, hr, ha, hle, hn, hf⟩, fun _ _ _ => rfl⟩
theorem c_X4_add_a {hp : List gA} {r a n : Nat} {l : List Int32} {x : Int32} (H : gRw hp r a n l) : gM yX4_add cX4_add 2 (none) 2 82 [.ref r, .int x] (hp) (0) (0) (fun v h => v = none ∧ (gRw h r a n ((l ++ [x]).take n) ∧ gFr hp h r a)) := by
  rcases Nat.lt_or_ge l.length n with hx | hx
  · rw [List.take_of_length_le (by simp; omega)]
    exact c_X4_add_w H hx
  · exact c_X4_add_full H (Nat.le_antisymm H.le.1 hx)
theorem gkp {k m : Nat} (hk : k < 2 ^ 31) (hm : m < 2 ^ 31) : gmax 0 (gmin (nI k) (nI m)) = nI (min k m) := by
  have e : gmin (nI k) (nI m) = nI (min k m) := by
    unfold gmin
    by_cases h : m < k
    · rw [if_pos (nI_lt h hk), Nat.min_eq_right (Nat.le_of_lt h)]
    · rw [if_neg (nI_nlt (Nat.not_lt.mp h) hm), Nat.min_eq_left (Nat.not_lt.mp h)]
  rw [e]
  unfold gmax
  have hb : min k m < 2 ^ 31 := by omega
  split
  · rfl
  · rename_i h
    have h1 : ¬ (0 : Int32) < nI (min k m) := h
    rw [Int32.lt_iff_toInt_lt, nI_toInt hb] at h1
    have h0 : (0 : Int32).toInt = 0 := by decide
    have h2 : min k m = 0 := by rw [h0] at h1; omega
    rw [h2]; rfl
theorem g_take {l : List Int32} {f : Nat → Int32} {k : Nat} (hf : ∀ j, j < l.length → f j = l.getD j 0) : ∀ j, j < (l.take k).length → f j = (l.take k).getD j 0 := by
  intro j hj
  rw [List.length_take] at hj
  rw [hf j (by omega)]
  simp [List.getD, List.getElem?_take, show j < k by omega]
set_option maxRecDepth 100000 in
set_option maxHeartbeats 4000000 in
theorem c_X4_keep_w {hp : List gA} {r a n : Nat} {l : List Int32} {k : Nat} (H : gRw hp r a n l) (hk : k < 2 ^ 31) : gM yX4_keep cX4_keep 2 (none) 1 21 [.ref r, .int ((nI k))] (hp) (0) (0) (fun v h => v = none ∧ (gRw h r a n (l.take k) ∧ gFr hp h r a)) := by
  obtain ⟨f, hr, ha, hle, hn, hf⟩ := H
  have hlt : l.length < 2 ^ 31 := by omega
  have hnt : n < 2 ^ 31 := by omega
  have hra : r ≠ a := gne hr ha (by intro h; cases h)
  refine gM_of (ls0 := [some (.ref r), some (.int ((nI k)))]) (by decide +kernel) (Nat.le_of_ble_eq_true rfl) rfl fun X C E => ?_
  refine g_aload_n (q := 1) C dX4_keep_0 rfl rfl ?_
  refine g_iconst (v := 0) (q := 2) C dX4_keep_1 (by decide) rfl ?_
  refine g_iload_n (q := 3) C dX4_keep_2 rfl rfl ?_
  refine g_aload_n (q := 4) C dX4_keep_3 rfl rfl ?_
  refine g_getfield (q := 7) C fX4_7 dX4_keep_4 rfl hr rfl ?_
  refine g_callSi (q := 10) (As := [.int ((nI k)), .int ((nI l.length))]) C gyJ9_min_7cf53 t_476 t_475 (c_J9_min_7cf53) dX4_keep_7 rfl rfl rfl (Nat.le_of_ble_eq_true rfl) (Nat.le_of_ble_eq_true rfl) (Nat.le_of_ble_eq_true rfl) (Nat.le_of_ble_eq_true rfl) (Nat.le_of_ble_eq_true rfl) rfl ?_
  refine g_callSi (q := 13) (As := [.int 0, .int _]) C gyJ9_max_7cf53 t_132 t_131 (c_J9_max_7cf53) dX4_keep_10 rfl rfl rfl (Nat.le_of_ble_eq_true rfl) (Nat.le_of_ble_eq_true rfl) (Nat.le_of_ble_eq_true rfl) (Nat.le_of_ble_eq_true rfl) (Nat.le_of_ble_eq_true rfl) rfl ?_
  refine g_putfield (q := 16) C fX4_7 dX4_keep_13 rfl hr (Nat.le_of_ble_eq_true rfl) (Or.inl rfl) rfl rfl (by intro z h; cases h) ?_
  exact E.2.1 _ _ _ _ _ dX4_keep_16 rfl (Nat.le_of_ble_eq_true rfl) (Nat.le_of_ble_eq_true rfl) ⟨rfl, ⟨f, by rw [gset_self hr, gkp hk hlt, List.length_take]; rfl, gset_other ha hra, by rw [List.length_take]; omega, hn, g_take hf⟩, fun k h1 h2 => List.getElem?_set_ne (Ne.symm h1)⟩
def gxs (l : List Int32) (j : Nat) : Int32 := (l.take j).foldl (· ^^^ ·) 0
theorem gxs_s {l : List Int32} {j : Nat} (h : j < l.length) (hl : l.length < 2 ^ 31) : gxs l j ^^^ gat l (nI j) = gxs l (j + 1) := by
  unfold gxs gat
  rw [if_neg (nI_pos (by omega)), nI_clamp (by omega), List.take_add_one, List.foldl_append]
  simp [List.getD, List.getElem?_eq_getElem h]
theorem dX4_xor_0 : decode cX4_xor 0 = .ok (.iconst 0, 1) := by decide +kernel
theorem dX4_xor_1 : decode cX4_xor 1 = .ok (.istore_n 2, 1) := by decide +kernel
theorem dX4_xor_2 : decode cX4_xor 2 = .ok (.iload_n 1, 1) := by decide +kernel
theorem dX4_xor_3 : decode cX4_xor 3 = .ok (.istore_n 3, 1) := by decide +kernel
theorem dX4_xor_4 : decode cX4_xor 4 = .ok (.iload_n 3, 1) := by decide +kernel
theorem dX4_xor_5 : decode cX4_xor 5 = .ok (.aload_n 0, 1) := by decide +kernel
theorem dX4_xor_6 : decode cX4_xor 6 = .ok (.getfield 7, 3) := by decide +kernel
theorem dX4_xor_9 : decode cX4_xor 9 = .ok (.if_icmp .ge 17, 3) := by decide +kernel
theorem dX4_xor_12 : decode cX4_xor 12 = .ok (.iload_n 2, 1) := by decide +kernel
theorem dX4_xor_13 : decode cX4_xor 13 = .ok (.aload_n 0, 1) := by decide +kernel
theorem dX4_xor_14 : decode cX4_xor 14 = .ok (.iload_n 3, 1) := by decide +kernel
theorem dX4_xor_15 : decode cX4_xor 15 = .ok (.invokevirtual 41, 3) := by decide +kernel
theorem dX4_xor_18 : decode cX4_xor 18 = .ok (.ixor, 1) := by decide +kernel
theorem dX4_xor_19 : decode cX4_xor 19 = .ok (.istore_n 2, 1) := by decide +kernel
theorem dX4_xor_20 : decode cX4_xor 20 = .ok (.iinc 3 1, 3) := by decide +kernel
theorem dX4_xor_23 : decode cX4_xor 23 = .ok (.goto (-19), 3) := by decide +kernel
theorem dX4_xor_26 : decode cX4_xor 26 = .ok (.iload_n 2, 1) := by decide +kernel
theorem dX4_xor_27 : decode cX4_xor 27 = .ok (.ireturn, 1) := by decide +kernel
set_option maxRecDepth 100000 in
set_option maxHeartbeats 4000000 in
theorem c_X4_xor_w {hp : List gA} {r a n : Nat} {l : List Int32} (H : gRw hp r a n l) : gM yX4_xor cX4_xor 4 ((some .int)) 1 21 [.ref r, .int 0] (hp) (0) (0) (fun v h => v = some (.int (gxs l l.length)) ∧ h = hp) := by
  obtain ⟨f, hr, ha, hle, hn, hf⟩ := id H
  have hlt : l.length < 2 ^ 31 := by omega
  have hnt : n < 2 ^ 31 := by omega
  refine gM_of (ls0 := [some (.ref r), some (.int 0), none, none]) (by decide +kernel) (Nat.le_of_ble_eq_true rfl) rfl fun X C E => ?_
  have L : ∀ m j : Nat, j + m = l.length → gG X 4 [some (.ref r), some (.int 0), some (.int (gxs l j)), some (.int (nI j))] [] hp 0 0 := by
    intro m
    induction m with
    | zero =>
      intro j hj
      obtain rfl : j = l.length := by omega
      refine g_iload_n (q := 5) C dX4_xor_4 rfl rfl ?_
      refine g_aload_n (q := 6) C dX4_xor_5 rfl rfl ?_
      refine g_getfield (q := 9) C fX4_7 dX4_xor_6 rfl hr rfl ?_
      refine g_icmp_ge_t (t := 26) C dX4_xor_9 (by decide) (nI_le (Nat.le_refl _) hlt) ?_
      refine g_iload_n (q := 27) C dX4_xor_26 rfl rfl ?_
      exact E.1 _ _ _ _ _ _ _ dX4_xor_27 rfl rfl (Nat.le_of_ble_eq_true rfl) (Nat.le_of_ble_eq_true rfl) ⟨rfl, rfl⟩
    | succ m ih =>
      intro j hj
      refine g_iload_n (q := 5) C dX4_xor_4 rfl rfl ?_
      refine g_aload_n (q := 6) C dX4_xor_5 rfl rfl ?_
      refine g_getfield (q := 9) C fX4_7 dX4_xor_6 rfl hr rfl ?_
      refine g_icmp_ge_f (t := 26) (q := 12) C dX4_xor_9 (by decide) rfl (fun h => nI_ge (show j < l.length by omega) hlt h) ?_
      refine g_iload_n (q := 13) C dX4_xor_12 rfl rfl ?_
      refine g_aload_n (q := 14) C dX4_xor_13 rfl rfl ?_
      refine g_iload_n (q := 15) C dX4_xor_14 rfl rfl ?_
      refine g_callVi (q := 18) (As := [.int ((nI j))]) C gyX4_at gvX4_at t_823 (c_X4_at_w H) dX4_xor_15 rfl hr rfl rfl rfl (Nat.le_of_ble_eq_true rfl) (Nat.le_of_ble_eq_true rfl) (Nat.le_of_ble_eq_true rfl) (Nat.le_of_ble_eq_true rfl) (Nat.le_of_ble_eq_true rfl) rfl ?_
      refine g_ixor (q := 19) C dX4_xor_18 rfl ?_
      refine g_istore_n (q := 20) C dX4_xor_19 (Nat.le_of_ble_eq_true rfl) (by simp only [gset]; rfl) rfl ?_
      refine g_iinc (v := (nI (j + 1))) (q := 23) C dX4_xor_20 rfl (nI_1 j) (by simp only [gset]; rfl) rfl ?_
      refine g_goto (q := 4) C dX4_xor_23 (by decide) ?_
      rw [gxs_s (by omega) hlt]
      exact ih (j + 1) (by omega)
  refine g_iconst (v := 0) (q := 1) C dX4_xor_0 (by decide) rfl ?_
  refine g_istore_n (q := 2) C dX4_xor_1 (Nat.le_of_ble_eq_true rfl) (by simp only [gset]; rfl) rfl ?_
  refine g_iload_n (q := 3) C dX4_xor_2 rfl rfl ?_
  refine g_istore_n (q := 4) C dX4_xor_3 (Nat.le_of_ble_eq_true rfl) (by simp only [gset]; rfl) rfl ?_
  exact L l.length 0 (by omega)
  
section GCP
variable {X : gX} {own nm : String} {cc : ByteArray} {nL : Nat} {rm : Room} {pc q : Nat} {ls : List (Option Value)} {st : List Value} {hp : List gA} {cl sl : Nat}
theorem g_copy (C : gC X own nm cc nL rm) {ix : Nat} (hlink : Cond.methodLink own ix arraycopyName ∈ gW) (hnat : Cond.native arraycopyName ∈ gW) (hst : Cond.static arraycopyName ∈ gW) (hini : Cond.initialized "java/lang/System" ∈ gW) {k0 k1 n0 n1 : Nat} {f g : Nat → Int32} {sp dp n : Int32} (hd : decode cc pc = .ok (.invokestatic ix, 3)) (hq : pc + 3 = q) (hls : ls.length = nL) (ho0 : hp[k0]? = some (.inl (n0, f))) (ho1 : hp[k1]? = some (.inl (n1, g))) (h1 : ¬ sp < 0) (h2 : ¬ dp < 0) (h3 : ¬ n < 0) (h4 : sp.toNatClampNeg + n.toNatClampNeg ≤ n0) (h5 : dp.toNatClampNeg + n.toNatClampNeg ≤ n1)
    (hfr : 1 ≤ rm.frames) (hlo : (st.map fun v => v.category).sum + (nativeFrameWords "java/lang/System" "arraycopy" 5 + 11) ≤ rm.locals) (kk : gG X q ls st (hp.set k1 (.inl (n1, va_cpy f g sp.toNatClampNeg dp.toNatClampNeg n.toNatClampNeg))) cl sl) : gG X pc ls (.int n :: .int dp :: .ref k1 :: .int sp :: .ref k0 :: st) hp cl sl := by
  subst hq
  have hR := C.2.2.2.2.2.2.2.2.1
  intro arr H locs hl hh hS T hT Y
  have hc0 : H[xB X + k0]? = some (vp_cell (xI X) (n0, .inl f)) := (hh.2.1 k0 _ ho0 gJ2).1
  have hc1 : H[xB X + k1]? = some (vp_cell (xI X) (n1, .inl g)) := (hh.2.1 k1 _ ho1 gJ2).1
  obtain ⟨-, kA, hkA, cmA, hkk⟩ := ((gC_K C).2 0 _ rfl).1 n0 (fun j => .int (f j))
  obtain ⟨-, kB, hkB, cmB, hkkB⟩ := ((gC_K C).2 0 _ rfl).1 n1 (fun j => .int (g j))
  have hsz : arr.size = nL := hl.1.trans hls
  have hcat : (st.map fun v => v.category).sum = ((st.map (gv (xB X) (xA X))).map fun v => v.category).sum := by
    rw [List.map_map]
    have e : ((fun v => v.category) ∘ gv (xB X) (xA X)) = fun v : Value => v.category := by funext v; exact gv_cat _ _ v
    rw [e]
  rw [hcat] at hlo
  obtain ⟨vm', X', step⟩ := Y.arraycopy C.1 C.2.2.2.1 (gC_hts C hlink) (gC_hts C hnat) (gC_hts C hst) (gC_hts C hini) (src := xB X + k0) (dst := xB X + k1) (cs := vp_cell (xI X) (n0, .inl f)) (cd := vp_cell (xI X) (n1, .inl g)) (srcPos := sp) (destPos := dp) (n := n) (by rw [hT]; exact hc0) (by rw [hT]; exact hc1)
    (fun _ h => by cases h) (fun _ h => by cases h) (fun h => by cases h) (fun h => by cases h) hkA hkB hkk hkkB (by simp [refKind]) h1 h2 h3
    (by rw [← gcl h1, ← gcl h3]; show ¬ _ > ((arrV (xI X) n0 (fun j => .int (f j))).slots.size : Int); rw [arrV_size]; omega)
    (by rw [← gcl h2, ← gcl h3]; show ¬ _ > ((arrV (xI X) n1 (fun j => .int (g j))).slots.size : Int); rw [arrV_size]; omega)
    (fun vm₁ _ i hi => by
      have e : (vp_cell (xI X) (n0, .inl f)).slots.getD (sp.toNatClampNeg + i) .null = .int (f (sp.toNatClampNeg + i)) := by
        show (arrV (xI X) n0 (fun j => .int (f j))).slots.getD _ _ = _
        rw [Array.getD_eq_getD_getElem?, arrV_read _ _ (by omega)]
        rfl
      refine ⟨?_, ?_⟩
      · rw [e]; rfl
      · rw [e]
        exact trivial)
    (g := F0 (xm X) pc arr ((.int n :: .int dp :: .ref k1 :: .int sp :: .ref k0 :: st).map (gv (xB X) (xA X)))) rfl (by rw [C.2.2.1]; exact hsz) (rest := st.map (gv (xB X) (xA X))) rfl (by rw [C.2.1]; exact hd) (by rw [hR]; exact hfr) (by rw [hR]; show 2 * 0 + _ + _ ≤ _; omega)
  have e1 : copied (vp_cell (xI X) (n0, .inl f)) (vp_cell (xI X) (n1, .inl g)) sp dp n = vp_cell (xI X) (n1, .inl (va_cpy f g sp.toNatClampNeg dp.toNatClampNeg n.toNatClampNeg)) := va_copied (fun z => .int z) (xI X) (xI X) f g h4
  rw [e1] at X' step
  have hlt : xB X + k1 < H.size := (Array.getElem?_eq_some_iff.mp hc1).1
  have hheap : ((T.setVm vm').setCell (xB X + k1) (vp_cell (xI X) (n1, .inl (va_cpy f g sp.toNatClampNeg dp.toNatClampNeg n.toNatClampNeg)))).heap = H.setIfInBounds (xB X + k1) (vp_cell (xI X) (n1, .inl (va_cpy f g sp.toNatClampNeg dp.toNatClampNeg n.toNatClampNeg))) := by rw [← hT]; rfl
  have oq : ∀ q : Nat, q ≠ xB X + k1 → (H.setIfInBounds (xB X + k1) (vp_cell (xI X) (n1, .inl (va_cpy f g sp.toNatClampNeg dp.toNatClampNeg n.toNatClampNeg))))[q]? = H[q]? := fun q hq => by simp [Array.getElem?_setIfInBounds, Ne.symm hq]
  have oe : (H.setIfInBounds (xB X + k1) (vp_cell (xI X) (n1, .inl (va_cpy f g sp.toNatClampNeg dp.toNatClampNeg n.toNatClampNeg))))[xB X + k1]? = some (vp_cell (xI X) (n1, .inl (va_cpy f g sp.toNatClampNeg dp.toNatClampNeg n.toNatClampNeg))) := by simp [Array.getElem?_setIfInBounds, hlt]
  obtain ⟨t, a1, b1⟩ := kk arr _ _ hl (gH_set hh (by simp) oq oe (gZ.i oe)) ⟨by simp; exact hS.1, fun q g1 g2 => by
      rw [oq q (fun e => g2 (by rw [e]; exact Nat.le_add_right _ _))]
      exact hS.2.1 q g1 g2, fun q hq => by
      rcases List.mem_append.mp hq with h | h
      · exact hS.2.2 q h
      · obtain ⟨z, -, hz⟩ := List.mem_map.mp h
        rw [← hz]
        exact Nat.le_add_right _ _⟩ _ hheap X'
  exact ⟨t, step t a1, b1⟩
end GCP
theorem gmn {a b : Nat} (ha : a < 2 ^ 31) (hb : b < 2 ^ 31) : gmin (nI a) (nI b) = nI (min a b) := by
  unfold gmin
  by_cases h : b < a
  · rw [if_pos (nI_lt h ha), Nat.min_eq_right (Nat.le_of_lt h)]
  · rw [if_neg (nI_nlt (Nat.not_lt.mp h) hb), Nat.min_eq_left (Nat.not_lt.mp h)]
theorem gm3 {a b c : Nat} (h1 : a ≤ b) (h2 : a ≤ c) (hb : b < 2 ^ 31) (hc : c < 2 ^ 31) : gmin (nI a) (gmin (Int32.ofNat b) (Int32.ofNat c)) = nI a := by
  have e := gmn hb hc
  unfold nI at e
  rw [e, show Int32.ofNat (min b c) = nI (min b c) from rfl, gmn (by omega) (by omega), Nat.min_eq_left (by omega)]
theorem gmx {a : Nat} (ha : a < 2 ^ 31) : gmax 0 (nI a) = nI a := by
  unfold gmax
  split
  · rfl
  · rename_i h
    rw [Int32.lt_iff_toInt_lt, nI_toInt ha] at h
    have h0 : (0 : Int32).toInt = 0 := by decide
    have h2 : a = 0 := by rw [h0] at h; omega
    rw [h2]; rfl
theorem gcpy {f2 f : Nat → Int32} {l2 : List Int32} (hl : l2.length < 2 ^ 31) (hf2 : ∀ j, j < l2.length → f2 j = l2.getD j 0) : ∀ j, j < l2.length → va_cpy f2 f (Int32.toNatClampNeg 0) (Int32.toNatClampNeg 0) (Int32.toNatClampNeg (nI l2.length)) j = l2.getD j 0 := by
  intro j hj
  have e0 : Int32.toNatClampNeg 0 = 0 := by decide
  rw [e0, nI_clamp hl, va_cpy, if_pos ⟨Nat.zero_le _, by omega⟩, Nat.zero_add, Nat.sub_zero]
  exact hf2 j hj
theorem gle0 {a : Nat} (ha : a < 2 ^ 31) (h : nI a ≤ 0) : a = 0 := by
  rw [Int32.le_iff_toInt_le, nI_toInt ha] at h
  have h0 : (0 : Int32).toInt = 0 := by decide
  rw [h0] at h; omega
theorem dX4_copy_0 : decode cX4_copy 0 = .ok (.aload_n 1, 1) := by decide +kernel
theorem dX4_copy_1 : decode cX4_copy 1 = .ok (.getfield 7, 3) := by decide +kernel
theorem dX4_copy_4 : decode cX4_copy 4 = .ok (.aload_n 1, 1) := by decide +kernel
theorem dX4_copy_5 : decode cX4_copy 5 = .ok (.getfield 19, 3) := by decide +kernel
theorem dX4_copy_8 : decode cX4_copy 8 = .ok (.arraylength, 1) := by decide +kernel
theorem dX4_copy_9 : decode cX4_copy 9 = .ok (.aload_n 0, 1) := by decide +kernel
theorem dX4_copy_10 : decode cX4_copy 10 = .ok (.getfield 19, 3) := by decide +kernel
theorem dX4_copy_13 : decode cX4_copy 13 = .ok (.arraylength, 1) := by decide +kernel
theorem dX4_copy_14 : decode cX4_copy 14 = .ok (.invokestatic 26, 3) := by decide +kernel
theorem dX4_copy_17 : decode cX4_copy 17 = .ok (.invokestatic 26, 3) := by decide +kernel
theorem dX4_copy_20 : decode cX4_copy 20 = .ok (.istore_n 2, 1) := by decide +kernel
theorem dX4_copy_21 : decode cX4_copy 21 = .ok (.iload_n 2, 1) := by decide +kernel
theorem dX4_copy_22 : decode cX4_copy 22 = .ok (.ifCond .le 17, 3) := by decide +kernel
theorem dX4_copy_25 : decode cX4_copy 25 = .ok (.aload_n 1, 1) := by decide +kernel
theorem dX4_copy_26 : decode cX4_copy 26 = .ok (.getfield 19, 3) := by decide +kernel
theorem dX4_copy_29 : decode cX4_copy 29 = .ok (.iconst 0, 1) := by decide +kernel
theorem dX4_copy_30 : decode cX4_copy 30 = .ok (.aload_n 0, 1) := by decide +kernel
theorem dX4_copy_31 : decode cX4_copy 31 = .ok (.getfield 19, 3) := by decide +kernel
theorem dX4_copy_34 : decode cX4_copy 34 = .ok (.iconst 0, 1) := by decide +kernel
theorem dX4_copy_35 : decode cX4_copy 35 = .ok (.iload_n 2, 1) := by decide +kernel
theorem dX4_copy_36 : decode cX4_copy 36 = .ok (.invokestatic 35, 3) := by decide +kernel
theorem dX4_copy_39 : decode cX4_copy 39 = .ok (.aload_n 0, 1) := by decide +kernel
theorem dX4_copy_40 : decode cX4_copy 40 = .ok (.iconst 0, 1) := by decide +kernel
theorem dX4_copy_41 : decode cX4_copy 41 = .ok (.iload_n 2, 1) := by decide +kernel
theorem dX4_copy_42 : decode cX4_copy 42 = .ok (.invokestatic 13, 3) := by decide +kernel
theorem dX4_copy_45 : decode cX4_copy 45 = .ok (.putfield 7, 3) := by decide +kernel
theorem dX4_copy_48 : decode cX4_copy 48 = .ok (.return_, 1) := by decide +kernel
set_option maxRecDepth 100000 in
set_option maxHeartbeats 4000000 in
theorem c_X4_copy_w {hp : List gA} {r a n : Nat} {l : List Int32} {r2 a2 n2 : Nat} {l2 : List Int32} (H : gRw hp r a n l) (H2 : gRw hp r2 a2 n2 l2) (hl2 : l2.length ≤ n) : gM yX4_copy cX4_copy 3 (none) 1 60 [.ref r, .ref r2] (hp) (0) (0) (fun v h => v = none ∧ (gRw h r a n l2 ∧ gFr hp h r a)) := by
  obtain ⟨f, hr, ha, hle, hn, hf⟩ := H
  have hlt : l.length < 2 ^ 31 := by omega
  have hnt : n < 2 ^ 31 := by omega
  obtain ⟨f2, hr2, ha2, hle2, hn2, hf2⟩ := H2
  have hlt2 : l2.length < 2 ^ 31 := by omega
  have hnt2 : n2 < 2 ^ 31 := by omega
  have hra : r ≠ a := gne hr ha (by intro h; cases h)
  refine gM_of (ls0 := [some (.ref r), some (.ref r2), none]) (by decide +kernel) (Nat.le_of_ble_eq_true rfl) rfl fun X C E => ?_
  refine g_aload_n (q := 1) C dX4_copy_0 rfl rfl ?_
  refine g_getfield (q := 4) C fX4_7 dX4_copy_1 rfl hr2 rfl ?_
  refine g_aload_n (q := 5) C dX4_copy_4 rfl rfl ?_
  refine g_getfield (q := 8) C fX4_19 dX4_copy_5 rfl hr2 rfl ?_
  refine g_arraylength (q := 9) C dX4_copy_8 rfl ha2 rfl ?_
  refine g_aload_n (q := 10) C dX4_copy_9 rfl rfl ?_
  refine g_getfield (q := 13) C fX4_19 dX4_copy_10 rfl hr rfl ?_
  refine g_arraylength (q := 14) C dX4_copy_13 rfl ha rfl ?_
  refine g_callSi (q := 17) (As := [.int _, .int _]) C gyJ9_min_7cf53 t_476 t_475 (c_J9_min_7cf53) dX4_copy_14 rfl rfl rfl (Nat.le_of_ble_eq_true rfl) (Nat.le_of_ble_eq_true rfl) (Nat.le_of_ble_eq_true rfl) (Nat.le_of_ble_eq_true rfl) (Nat.le_of_ble_eq_true rfl) rfl ?_
  refine g_callSi (q := 20) (As := [.int ((nI l2.length)), .int _]) C gyJ9_min_7cf53 t_476 t_475 (c_J9_min_7cf53) dX4_copy_17 rfl rfl rfl (Nat.le_of_ble_eq_true rfl) (Nat.le_of_ble_eq_true rfl) (Nat.le_of_ble_eq_true rfl) (Nat.le_of_ble_eq_true rfl) (Nat.le_of_ble_eq_true rfl) rfl ?_
  rw [gm3 hle2 hl2 hnt2 hnt]
  refine g_istore_n (q := 21) C dX4_copy_20 (Nat.le_of_ble_eq_true rfl) (by simp only [gset]; rfl) rfl ?_
  refine g_iload_n (q := 22) C dX4_copy_21 rfl rfl ?_
  refine g_if_le (t := 39) (q := 25) C dX4_copy_22 (by decide) rfl (fun c_22 => ?_) (fun c_22 => ?_)
  · -- to 39
    refine g_aload_n (q := 40) C dX4_copy_39 rfl rfl ?_
    refine g_iconst (v := 0) (q := 41) C dX4_copy_40 (by decide) rfl ?_
    refine g_iload_n (q := 42) C dX4_copy_41 rfl rfl ?_
    refine g_callSi (q := 45) (As := [.int 0, .int _]) C gyJ9_max_7cf53 t_132 t_131 (c_J9_max_7cf53) dX4_copy_42 rfl rfl rfl (Nat.le_of_ble_eq_true rfl) (Nat.le_of_ble_eq_true rfl) (Nat.le_of_ble_eq_true rfl) (Nat.le_of_ble_eq_true rfl) (Nat.le_of_ble_eq_true rfl) rfl ?_
    refine g_putfield (q := 48) C fX4_7 dX4_copy_45 rfl hr (Nat.le_of_ble_eq_true rfl) (Or.inl rfl) rfl rfl (by intro z h; cases h) ?_
    exact E.2.1 _ _ _ _ _ dX4_copy_48 rfl (Nat.le_of_ble_eq_true rfl) (Nat.le_of_ble_eq_true rfl) ⟨rfl, ⟨f, by rw [gset_self hr, gmx hlt2]; rfl, gset_other ha hra, hl2, hn, fun j hj => by rw [gle0 hlt2 c_22] at hj; omega⟩, fun k h1 h2 => List.getElem?_set_ne (Ne.symm h1)⟩
  · -- to 25
    refine g_aload_n (q := 26) C dX4_copy_25 rfl rfl ?_
    refine g_getfield (q := 29) C fX4_19 dX4_copy_26 rfl hr2 rfl ?_
    refine g_iconst (v := 0) (q := 30) C dX4_copy_29 (by decide) rfl ?_
    refine g_aload_n (q := 31) C dX4_copy_30 rfl rfl ?_
    refine g_getfield (q := 34) C fX4_19 dX4_copy_31 rfl hr rfl ?_
    refine g_iconst (v := 0) (q := 35) C dX4_copy_34 (by decide) rfl ?_
    refine g_iload_n (q := 36) C dX4_copy_35 rfl rfl ?_
    refine g_copy (q := 39) C t_630 (gW_of (List.mem_of_getElem? (i := 491) (by decide +kernel)) rfl) t_490 t_112 dX4_copy_36 rfl rfl ha2 ha (by decide) (by decide) (nI_pos hlt2) (by rw [nI_clamp hlt2]; show 0 + _ ≤ _; omega) (by rw [nI_clamp hlt2]; show 0 + _ ≤ _; omega) (Nat.le_of_ble_eq_true rfl) (Nat.le_of_ble_eq_true rfl) ?_
    refine g_aload_n (q := 40) C dX4_copy_39 rfl rfl ?_
    refine g_iconst (v := 0) (q := 41) C dX4_copy_40 (by decide) rfl ?_
    refine g_iload_n (q := 42) C dX4_copy_41 rfl rfl ?_
    refine g_callSi (q := 45) (As := [.int 0, .int _]) C gyJ9_max_7cf53 t_132 t_131 (c_J9_max_7cf53) dX4_copy_42 rfl rfl rfl (Nat.le_of_ble_eq_true rfl) (Nat.le_of_ble_eq_true rfl) (Nat.le_of_ble_eq_true rfl) (Nat.le_of_ble_eq_true rfl) (Nat.le_of_ble_eq_true rfl) rfl ?_
    refine g_putfield (q := 48) C fX4_7 dX4_copy_45 rfl (gset_other hr (Ne.symm hra)) (Nat.le_of_ble_eq_true rfl) (Or.inl rfl) rfl rfl (by intro z h; cases h) ?_
    exact E.2.1 _ _ _ _ _ dX4_copy_48 rfl (Nat.le_of_ble_eq_true rfl) (Nat.le_of_ble_eq_true rfl) ⟨rfl, ⟨_, by rw [gset_self (gset_other hr (Ne.symm hra)), gmx hlt2]; rfl, gset_other (gset_self ha) hra, hl2, hn, gcpy hlt2 hf2⟩, fun k h1 h2 => by rw [List.getElem?_set_ne (Ne.symm h1), List.getElem?_set_ne (Ne.symm h2)]⟩
