/-! the class's calls on a new object that write: repeats, feed, reset (by program: wip/p1/m_fresh2.py) -/
theorem dJ7_fill_53178_0 : decode cJ7_fill_53178 0 = .ok (.iconst 0, 1) := by decide +kernel
theorem dJ7_fill_53178_1 : decode cJ7_fill_53178 1 = .ok (.istore_n 2, 1) := by decide +kernel
theorem dJ7_fill_53178_2 : decode cJ7_fill_53178 2 = .ok (.aload_n 0, 1) := by decide +kernel
theorem dJ7_fill_53178_3 : decode cJ7_fill_53178 3 = .ok (.arraylength, 1) := by decide +kernel
theorem dJ7_fill_53178_4 : decode cJ7_fill_53178 4 = .ok (.istore_n 3, 1) := by decide +kernel
theorem dJ7_fill_53178_5 : decode cJ7_fill_53178 5 = .ok (.iload_n 2, 1) := by decide +kernel
theorem dJ7_fill_53178_6 : decode cJ7_fill_53178 6 = .ok (.iload_n 3, 1) := by decide +kernel
theorem dJ7_fill_53178_7 : decode cJ7_fill_53178 7 = .ok (.if_icmp .ge 13, 3) := by decide +kernel
theorem dJ7_fill_53178_10 : decode cJ7_fill_53178 10 = .ok (.aload_n 0, 1) := by decide +kernel
theorem dJ7_fill_53178_11 : decode cJ7_fill_53178 11 = .ok (.iload_n 2, 1) := by decide +kernel
theorem dJ7_fill_53178_12 : decode cJ7_fill_53178 12 = .ok (.iload_n 1, 1) := by decide +kernel
theorem dJ7_fill_53178_13 : decode cJ7_fill_53178 13 = .ok (.iastore, 1) := by decide +kernel
theorem dJ7_fill_53178_14 : decode cJ7_fill_53178 14 = .ok (.iinc 2 1, 3) := by decide +kernel
theorem dJ7_fill_53178_17 : decode cJ7_fill_53178 17 = .ok (.goto (-12), 3) := by decide +kernel
theorem dJ7_fill_53178_20 : decode cJ7_fill_53178 20 = .ok (.return_, 1) := by decide +kernel
set_option maxRecDepth 100000 in
set_option maxHeartbeats 4000000 in
theorem c_J7_fill_53178 {hp : List gA} {a n : Nat} {x : Int32} {f0 : Nat → Int32} (ha : hp[a]? = some (.inl (n, f0))) (hn31 : n < 2 ^ 31) : gM yJ7_fill_53178 cJ7_fill_53178 4 (none) 0 0 [.ref a, .int x] (hp) (0) (0) (fun v h => v = none ∧ ∃ f1, h = hp.set a (.inl (n, f1))) := by
  refine gM_of (ls0 := [some (.ref a), some (.int x), none, none]) (by decide +kernel) (Nat.le_of_ble_eq_true rfl) rfl fun X C E => ?_
  have L1 : ∀ (d k : Nat) (f : Nat → Int32), k + d = n → gG X 5 [some (.ref a), some (.int x), some (.int (nI k)), some (.int (nI n))] [] (hp.set a (.inl (n, f))) 0 0 := by
    intro d
    induction d with
    | zero =>
      intro k f hk
      refine g_iload_n (q := 6) C dJ7_fill_53178_5 rfl rfl ?_
      refine g_iload_n (q := 7) C dJ7_fill_53178_6 rfl rfl ?_
      refine g_icmp_ge_t (t := 20) C dJ7_fill_53178_7 (by decide) (nI_le (by omega) (by omega)) ?_
      exact E.2.1 _ _ _ _ _ dJ7_fill_53178_20 rfl (Nat.le_of_ble_eq_true rfl) (Nat.le_of_ble_eq_true rfl) ⟨rfl, f, rfl⟩
    | succ d ih =>
      intro k f hk
      refine g_iload_n (q := 6) C dJ7_fill_53178_5 rfl rfl ?_
      refine g_iload_n (q := 7) C dJ7_fill_53178_6 rfl rfl ?_
      refine g_icmp_ge_f (t := 20) (q := 10) C dJ7_fill_53178_7 (by decide) rfl (nI_ge (by omega) (by omega)) ?_
      refine g_aload_n (q := 11) C dJ7_fill_53178_10 rfl rfl ?_
      refine g_iload_n (q := 12) C dJ7_fill_53178_11 rfl rfl ?_
      refine g_iload_n (q := 13) C dJ7_fill_53178_12 rfl rfl ?_
      refine g_iastoreN (j := k) (q := 14) C dJ7_fill_53178_13 rfl (gset_self ha) (vp_inN (nI_clamp (by omega)) (nI_pos (by omega)) (by omega)) (nI_clamp (by omega)) ?_
      refine g_iinc (v := nI (k + 1)) (q := 17) C dJ7_fill_53178_14 rfl (nI_1 k) (by simp only [gset]; rfl) rfl ?_
      refine g_goto (q := 5) C dJ7_fill_53178_17 (by decide) ?_
      simp only [List.set_set]
      exact ih (k + 1) _ (by omega)
  refine g_iconst (v := 0) (q := 1) C dJ7_fill_53178_0 (by decide) rfl ?_
  refine g_istore_n (q := 2) C dJ7_fill_53178_1 (Nat.le_of_ble_eq_true rfl) (by simp only [gset]; rfl) rfl ?_
  refine g_aload_n (q := 3) C dJ7_fill_53178_2 rfl rfl ?_
  refine g_arraylength (q := 4) C dJ7_fill_53178_3 rfl ha rfl ?_
  refine g_istore_n (q := 5) C dJ7_fill_53178_4 (Nat.le_of_ble_eq_true rfl) (by simp only [gset]; rfl) rfl ?_
  have h0 := L1 n 0 f0 (by omega)
  rw [gset_id ha] at h0
  exact h0
  
theorem dX0_forget_0 : decode cX0_forget 0 = .ok (.aload_n 0, 1) := by decide +kernel
theorem dX0_forget_1 : decode cX0_forget 1 = .ok (.iconst 0, 1) := by decide +kernel
theorem dX0_forget_2 : decode cX0_forget 2 = .ok (.putfield 26, 3) := by decide +kernel
theorem dX0_forget_5 : decode cX0_forget 5 = .ok (.aload_n 0, 1) := by decide +kernel
theorem dX0_forget_6 : decode cX0_forget 6 = .ok (.getfield 30, 3) := by decide +kernel
theorem dX0_forget_9 : decode cX0_forget 9 = .ok (.iconst 0, 1) := by decide +kernel
theorem dX0_forget_10 : decode cX0_forget 10 = .ok (.invokestatic 40, 3) := by decide +kernel
theorem dX0_forget_13 : decode cX0_forget 13 = .ok (.return_, 1) := by decide +kernel
set_option maxRecDepth 100000 in
set_option maxHeartbeats 4000000 in
theorem c_X0_forget {hp : List gA} {fc t o0 o1 o2 o5 o6 : Nat} {o3 : Int32} {f0 : Nat → Int32} (hf : hp[fc]? = some (.inr (.inr (0, [.ref o0, .ref o1, .ref o2, .int o3, .ref t, .ref o5, .ref o6])))) (ht : hp[t]? = some (.inl (4, f0))) : gM yX0_forget cX0_forget 1 (none) 1 23 [.ref fc] (hp) (0) (0) (fun v h => v = none ∧ ∃ f1, h = (hp.set fc (.inr (.inr (0, [.ref o0, .ref o1, .ref o2, .int 0, .ref t, .ref o5, .ref o6])))).set t (.inl (4, f1))) := by
  have n_fc_t : fc ≠ t := gne hf ht (by intro h; cases h)
  refine gM_of (ls0 := [some (.ref fc)]) (by decide +kernel) (Nat.le_of_ble_eq_true rfl) rfl fun X C E => ?_
  refine g_aload_n (q := 1) C dX0_forget_0 rfl rfl ?_
  refine g_iconst (v := 0) (q := 2) C dX0_forget_1 (by decide) rfl ?_
  refine g_putfield (q := 5) C fX0_26 dX0_forget_2 rfl hf (Nat.le_of_ble_eq_true rfl) (Or.inl rfl) rfl rfl (by intro z h; cases h) ?_
  refine g_aload_n (q := 6) C dX0_forget_5 rfl rfl ?_
  refine g_getfield (q := 9) C fX0_30 dX0_forget_6 rfl (gset_self hf) rfl ?_
  refine g_iconst (v := 0) (q := 10) C dX0_forget_9 (by decide) rfl ?_
  refine g_callSvp (q := 13) (As := [.ref t, .int 0]) C gyJ7_fill_53178 t_592 t_591 (c_J7_fill_53178 (gset_other ht n_fc_t) (by decide)) dX0_forget_10 rfl rfl rfl (Nat.le_of_ble_eq_true rfl) (Nat.le_of_ble_eq_true rfl) (Nat.le_of_ble_eq_true rfl) (Nat.le_of_ble_eq_true rfl) (Nat.le_of_ble_eq_true rfl) rfl (fun h9 z9 => ?_)
  obtain ⟨f1, rfl⟩ := z9
  exact E.2.1 _ _ _ _ _ dX0_forget_13 rfl (Nat.le_of_ble_eq_true rfl) (Nat.le_of_ble_eq_true rfl) ⟨rfl, f1, rfl⟩
def gE3 (n : Int32) : Int32 := if n < 0 then -1 else if 3 < n then -1 else 1
theorem dX7_repeats_0 : decode cX7_repeats 0 = .ok (.iload_n 1, 1) := by decide +kernel
theorem dX7_repeats_1 : decode cX7_repeats 1 = .ok (.ifCond .lt 8, 3) := by decide +kernel
theorem dX7_repeats_4 : decode cX7_repeats 4 = .ok (.iload_n 1, 1) := by decide +kernel
theorem dX7_repeats_5 : decode cX7_repeats 5 = .ok (.iconst 3, 1) := by decide +kernel
theorem dX7_repeats_6 : decode cX7_repeats 6 = .ok (.if_icmp .le 5, 3) := by decide +kernel
theorem dX7_repeats_9 : decode cX7_repeats 9 = .ok (.iconst (-1), 1) := by decide +kernel
theorem dX7_repeats_10 : decode cX7_repeats 10 = .ok (.ireturn, 1) := by decide +kernel
theorem dX7_repeats_11 : decode cX7_repeats 11 = .ok (.aload_n 0, 1) := by decide +kernel
theorem dX7_repeats_12 : decode cX7_repeats 12 = .ok (.getfield 30, 3) := by decide +kernel
theorem dX7_repeats_15 : decode cX7_repeats 15 = .ok (.getfield 114, 3) := by decide +kernel
theorem dX7_repeats_18 : decode cX7_repeats 18 = .ok (.getfield 130, 3) := by decide +kernel
theorem dX7_repeats_21 : decode cX7_repeats 21 = .ok (.istore_n 2, 1) := by decide +kernel
theorem dX7_repeats_22 : decode cX7_repeats 22 = .ok (.aload_n 0, 1) := by decide +kernel
theorem dX7_repeats_23 : decode cX7_repeats 23 = .ok (.getfield 30, 3) := by decide +kernel
theorem dX7_repeats_26 : decode cX7_repeats 26 = .ok (.getfield 114, 3) := by decide +kernel
theorem dX7_repeats_29 : decode cX7_repeats 29 = .ok (.iload_n 1, 1) := by decide +kernel
theorem dX7_repeats_30 : decode cX7_repeats 30 = .ok (.putfield 130, 3) := by decide +kernel
theorem dX7_repeats_33 : decode cX7_repeats 33 = .ok (.aload_n 0, 1) := by decide +kernel
theorem dX7_repeats_34 : decode cX7_repeats 34 = .ok (.getfield 37, 3) := by decide +kernel
theorem dX7_repeats_37 : decode cX7_repeats 37 = .ok (.invokevirtual 83, 3) := by decide +kernel
theorem dX7_repeats_40 : decode cX7_repeats 40 = .ok (.iload_n 2, 1) := by decide +kernel
theorem dX7_repeats_41 : decode cX7_repeats 41 = .ok (.ireturn, 1) := by decide +kernel
set_option maxRecDepth 100000 in
set_option maxHeartbeats 4000000 in
theorem c_X7_repeats_0 {hp : List gA} {p0 : Int32} {f113 : Nat → Int32} (H0 : hp[0]? = some (.inr (.inr (7, [.ref 1, .ref 3, .ref 20, .ref 43, .ref 116, .ref 119, .int 0])))) (H20 : hp[20]? = some (.inr (.inr (2, [.ref 21, .ref 28, .ref 35, .int 0, .int 0, .int 0, .int 0, .int 0, .ref 39, .ref 41, .ref 3, .int 3, .int 0, .int ((-1)), .int 0, .int 0, .int 0, .int 0])))) (H35 : hp[35]? = some (.inr (.inr (6, [.int 1, .int 0, .int 0, .ref 36, .ref 37, .ref 38, .int 0, .int ((-1)), .int 0, .int 0])))) (H43 : hp[43]? = some (.inr (.inr (0, [.ref 44, .ref 67, .ref 90, .int 0, .ref 113, .ref 114, .ref 115])))) (H113 : hp[113]? = some (.inl (4, f113))) : gM yX7_repeats cX7_repeats 3 ((some .int)) 2 43 [.ref 0, .int p0] (hp) (0) (0) (fun v h => v = some (.int (gE3 p0)) ∧ ∀ k, 122 ≤ k → h[k]? = hp[k]?) := by
  refine gM_of (ls0 := [some (.ref 0), some (.int p0), none]) (by decide +kernel) (Nat.le_of_ble_eq_true rfl) rfl fun X C E => ?_
  refine g_iload_n (q := 1) C dX7_repeats_0 rfl rfl ?_
  refine g_if_lt (t := 9) (q := 4) C dX7_repeats_1 (by decide) rfl (fun c_1 => ?_) (fun c_1 => ?_)
  · -- to 9
    refine g_iconst (v := (-1)) (q := 10) C dX7_repeats_9 (by decide) rfl ?_
    exact E.1 _ _ _ _ _ _ _ dX7_repeats_10 rfl rfl (Nat.le_of_ble_eq_true rfl) (Nat.le_of_ble_eq_true rfl) ⟨by simp_all [gE3, gle_lt], (fun k hk => by repeat (first | rfl | rw [List.getElem?_set_ne (by omega)]))⟩
  · -- to 4
    refine g_iload_n (q := 5) C dX7_repeats_4 rfl rfl ?_
    refine g_iconst (v := 3) (q := 6) C dX7_repeats_5 (by decide) rfl ?_
    refine g_icmp_le (t := 11) (q := 9) C dX7_repeats_6 (by decide) rfl (fun c_6 => ?_) (fun c_6 => ?_)
    · -- to 11
      refine g_aload_n (q := 12) C dX7_repeats_11 rfl rfl ?_
      refine g_getfield (q := 15) C fX7_30 dX7_repeats_12 rfl H0 rfl ?_
      refine g_getfieldW (q := 18) C fX7_114 dX7_repeats_15 rfl H20 rfl ?_
      refine g_getfield (q := 21) C fX7_130 dX7_repeats_18 rfl H35 rfl ?_
      refine g_istore_n (q := 22) C dX7_repeats_21 (Nat.le_of_ble_eq_true rfl) (by simp only [gset]; rfl) rfl ?_
      refine g_aload_n (q := 23) C dX7_repeats_22 rfl rfl ?_
      refine g_getfield (q := 26) C fX7_30 dX7_repeats_23 rfl H0 rfl ?_
      refine g_getfieldW (q := 29) C fX7_114 dX7_repeats_26 rfl H20 rfl ?_
      refine g_iload_n (q := 30) C dX7_repeats_29 rfl rfl ?_
      refine g_putfield (q := 33) C fX7_130 dX7_repeats_30 rfl H35 (Nat.le_of_ble_eq_true rfl) (Or.inl rfl) rfl rfl (by intro z h; cases h) ?_
      refine g_aload_n (q := 34) C dX7_repeats_33 rfl rfl ?_
      refine g_getfield (q := 37) C fX7_37 dX7_repeats_34 rfl (gset_other H0 (by decide)) rfl ?_
      refine g_callVvp (q := 40) (As := []) C gyX0_forget gvX0_forget t_587 (c_X0_forget (gset_other H43 (by decide)) (gset_other H113 (by decide))) dX7_repeats_37 rfl (gset_other H43 (by decide)) rfl rfl rfl (Nat.le_of_ble_eq_true rfl) (Nat.le_of_ble_eq_true rfl) (Nat.le_of_ble_eq_true rfl) (Nat.le_of_ble_eq_true rfl) (Nat.le_of_ble_eq_true rfl) rfl (fun h9 z9 => ?_)
      obtain ⟨f1, rfl⟩ := z9
      refine g_iload_n (q := 41) C dX7_repeats_40 rfl rfl ?_
      exact E.1 _ _ _ _ _ _ _ dX7_repeats_41 rfl rfl (Nat.le_of_ble_eq_true rfl) (Nat.le_of_ble_eq_true rfl) ⟨by rw [gE3, if_neg c_1, if_neg (fun h => absurd c_6 (gle_lt.mpr h))], (fun k hk => by repeat (first | rfl | rw [List.getElem?_set_ne (by omega)]))⟩
    · -- to 9
      refine g_iconst (v := (-1)) (q := 10) C dX7_repeats_9 (by decide) rfl ?_
      exact E.1 _ _ _ _ _ _ _ dX7_repeats_10 rfl rfl (Nat.le_of_ble_eq_true rfl) (Nat.le_of_ble_eq_true rfl) ⟨by simp_all [gE3, gle_lt], (fun k hk => by repeat (first | rfl | rw [List.getElem?_set_ne (by omega)]))⟩
theorem g8 (d : Nat) : nI (8 * (d + 1)) - 8 = nI (8 * d) := by
  rw [show (8 : Int32) = nI 8 from rfl, pk_sub (by omega)]
  congr 1
theorem gsw {hp : List gA} {a b : Nat} {e1 e2 e3 e4 : gA} (h : a ≠ b) : (((hp.set a e1).set b e2).set a e3).set b e4 = (hp.set a e3).set b e4 := by
  rw [List.set_comm e2 e3 (Ne.symm h), List.set_set, List.set_set]
theorem dX7_feedEight_0 : decode cX7_feedEight 0 = .ok (.bipush 56, 2) := by decide +kernel
theorem dX7_feedEight_2 : decode cX7_feedEight 2 = .ok (.istore_n 3, 1) := by decide +kernel
theorem dX7_feedEight_3 : decode cX7_feedEight 3 = .ok (.iload_n 3, 1) := by decide +kernel
theorem dX7_feedEight_4 : decode cX7_feedEight 4 = .ok (.ifCond .lt 24, 3) := by decide +kernel
theorem dX7_feedEight_7 : decode cX7_feedEight 7 = .ok (.aload_n 0, 1) := by decide +kernel
theorem dX7_feedEight_8 : decode cX7_feedEight 8 = .ok (.getfield 14, 3) := by decide +kernel
theorem dX7_feedEight_11 : decode cX7_feedEight 11 = .ok (.lload_n 1, 1) := by decide +kernel
theorem dX7_feedEight_12 : decode cX7_feedEight 12 = .ok (.iload_n 3, 1) := by decide +kernel
theorem dX7_feedEight_13 : decode cX7_feedEight 13 = .ok (.lushr, 1) := by decide +kernel
theorem dX7_feedEight_14 : decode cX7_feedEight 14 = .ok (.l2i, 1) := by decide +kernel
theorem dX7_feedEight_15 : decode cX7_feedEight 15 = .ok (.sipush 255, 3) := by decide +kernel
theorem dX7_feedEight_18 : decode cX7_feedEight 18 = .ok (.iand, 1) := by decide +kernel
theorem dX7_feedEight_19 : decode cX7_feedEight 19 = .ok (.invokevirtual 63, 3) := by decide +kernel
theorem dX7_feedEight_22 : decode cX7_feedEight 22 = .ok (.iinc 3 (-8), 3) := by decide +kernel
theorem dX7_feedEight_25 : decode cX7_feedEight 25 = .ok (.goto (-22), 3) := by decide +kernel
theorem dX7_feedEight_28 : decode cX7_feedEight 28 = .ok (.return_, 1) := by decide +kernel
set_option maxRecDepth 100000 in
set_option maxHeartbeats 4000000 in
theorem c_X7_feedEight {hp : List gA} {x t ta L x1 x2 x3 x4 x5 : Nat} {x6 : Int32} {a : Int64} {f0 : Nat → Int32} (hx : hp[x]? = some (.inr (.inr (7, [.ref t, .ref x1, .ref x2, .ref x3, .ref x4, .ref x5, .int x6])))) (ht : hp[t]? = some (.inr (.inr (4, [.ref ta, .int (nI L), .int 96])))) (hta : hp[ta]? = some (.inl (96, f0))) (hL : L + 8 ≤ 96) : gM yX7_feedEight cX7_feedEight 4 (none) 3 103 [.ref x, .long a] (hp) (0) (0) (fun v h => v = none ∧ ∃ f1, h = (hp.set ta (.inl (96, f1))).set t (.inr (.inr (4, [.ref ta, .int (nI (L + 8)), .int 96])))) := by
  refine gM_of (ls0 := [some (.ref x), some (.long a), none, none]) (by decide +kernel) (Nat.le_of_ble_eq_true rfl) rfl fun X C E => ?_
  have n_t_ta : t ≠ ta := gne ht hta (by intro h; cases h)
  have n_ta_t : ta ≠ t := Ne.symm n_t_ta
  have n_ta_x : ta ≠ x := gne hta hx (by intro h; cases h)
  have n_t_x : t ≠ x := gne ht hx (by intro h; cases h)
  have L1 : ∀ (d k : Nat) (f : Nat → Int32), k + d = 8 → gG X 3 [some (.ref x), some (.long a), none, some (.int (nI (8 * d) - 8))] [] ((hp.set ta (.inl (96, f))).set t (.inr (.inr (4, [.ref ta, .int (nI (L + k)), .int 96])))) 0 0 := by
    intro d
    induction d with
    | zero =>
      intro k f hk
      have hk8 : k = 8 := by omega
      subst hk8
      refine g_iload_n (q := 4) C dX7_feedEight_3 rfl rfl ?_
      refine g_if_lt_t (t := 28) C dX7_feedEight_4 (by decide) (by decide) ?_
      exact E.2.1 _ _ _ _ _ dX7_feedEight_28 rfl (Nat.le_of_ble_eq_true rfl) (Nat.le_of_ble_eq_true rfl) ⟨rfl, f, rfl⟩
    | succ d ih =>
      intro k f hk
      refine g_iload_n (q := 4) C dX7_feedEight_3 rfl rfl ?_
      refine g_if_lt_f (t := 28) (q := 7) C dX7_feedEight_4 (by decide) rfl (by rw [g8]; exact nI_pos (by omega)) ?_
      refine g_aload_n (q := 8) C dX7_feedEight_7 rfl rfl ?_
      refine g_getfield (q := 11) C fX7_14 dX7_feedEight_8 rfl (gset_other (gset_other hx n_ta_x) n_t_x) rfl ?_
      refine g_lload_n (q := 12) C dX7_feedEight_11 rfl rfl ?_
      refine g_iload_n (q := 13) C dX7_feedEight_12 rfl rfl ?_
      refine g_lushr (q := 14) C dX7_feedEight_13 rfl ?_
      refine g_l2i (q := 15) C dX7_feedEight_14 rfl ?_
      refine g_sipush (v := 255) (q := 18) C dX7_feedEight_15 (by decide) rfl ?_
      refine g_iand (q := 19) C dX7_feedEight_18 rfl ?_
      refine g_callVv (q := 22) (As := [.int _]) C gyX4_add gvX4_add t_471 (c_X4_add_in (gset_self (gset_other ht n_ta_t)) (gset_other (gset_self hta) n_t_ta) (nI_lt (b := 96) (by omega) (by omega)) (nI_lt (b := 96) (by omega) (by omega)) (nI_pos (by omega)) (nI_ge (b := 96) (by omega) (by omega)) (vp_in_nI (by omega) (by omega))) dX7_feedEight_19 rfl (gset_self (gset_other ht n_ta_t)) rfl rfl rfl (Nat.le_of_ble_eq_true rfl) (Nat.le_of_ble_eq_true rfl) (Nat.le_of_ble_eq_true rfl) (Nat.le_of_ble_eq_true rfl) (Nat.le_of_ble_eq_true rfl) rfl ?_
      refine g_iinc (v := nI (8 * d) - 8) (q := 25) C dX7_feedEight_22 rfl (by rw [g8, Int32.sub_eq_add_neg]; rfl) (by simp only [gset]; rfl) rfl ?_
      refine g_goto (q := 3) C dX7_feedEight_25 (by decide) ?_
      refine g_heap (gsw n_ta_t) ?_
      rw [nI_1, Nat.add_assoc]
      exact ih (k + 1) _ (by omega)
  refine g_bipush (v := 56) (q := 2) C dX7_feedEight_0 (by decide) rfl ?_
  refine g_istore_n (q := 3) C dX7_feedEight_2 (Nat.le_of_ble_eq_true rfl) (by simp only [gset]; rfl) rfl ?_
  have h0 := L1 8 0 f0 (by omega)
  rw [gset_id hta, Nat.add_zero, gset_id ht] at h0
  exact h0
  
theorem dX7_feed_0 : decode cX7_feed 0 = .ok (.aload_n 0, 1) := by decide +kernel
theorem dX7_feed_1 : decode cX7_feed 1 = .ok (.getfield 14, 3) := by decide +kernel
theorem dX7_feed_4 : decode cX7_feed 4 = .ok (.invokevirtual 55, 3) := by decide +kernel
theorem dX7_feed_7 : decode cX7_feed 7 = .ok (.bipush 16, 2) := by decide +kernel
theorem dX7_feed_9 : decode cX7_feed 9 = .ok (.iadd, 1) := by decide +kernel
theorem dX7_feed_10 : decode cX7_feed 10 = .ok (.bipush 96, 2) := by decide +kernel
theorem dX7_feed_12 : decode cX7_feed 12 = .ok (.if_icmp .le 5, 3) := by decide +kernel
theorem dX7_feed_17 : decode cX7_feed 17 = .ok (.aload_n 0, 1) := by decide +kernel
theorem dX7_feed_18 : decode cX7_feed 18 = .ok (.lload_n 1, 1) := by decide +kernel
theorem dX7_feed_19 : decode cX7_feed 19 = .ok (.invokevirtual 59, 3) := by decide +kernel
theorem dX7_feed_22 : decode cX7_feed 22 = .ok (.aload_n 0, 1) := by decide +kernel
theorem dX7_feed_23 : decode cX7_feed 23 = .ok (.lload_n 3, 1) := by decide +kernel
theorem dX7_feed_24 : decode cX7_feed 24 = .ok (.invokevirtual 59, 3) := by decide +kernel
theorem dX7_feed_27 : decode cX7_feed 27 = .ok (.aload_n 0, 1) := by decide +kernel
theorem dX7_feed_28 : decode cX7_feed 28 = .ok (.getfield 14, 3) := by decide +kernel
theorem dX7_feed_31 : decode cX7_feed 31 = .ok (.invokevirtual 55, 3) := by decide +kernel
theorem dX7_feed_34 : decode cX7_feed 34 = .ok (.ireturn, 1) := by decide +kernel
set_option maxRecDepth 100000 in
set_option maxHeartbeats 4000000 in
theorem c_X7_feed_0 {hp : List gA} {p0 : Int64} {p1 : Int64} {f2 : Nat → Int32} (H0 : hp[0]? = some (.inr (.inr (7, [.ref 1, .ref 3, .ref 20, .ref 43, .ref 116, .ref 119, .int 0])))) (H1 : hp[1]? = some (.inr (.inr (4, [.ref 2, .int 0, .int 96])))) (H2 : hp[2]? = some (.inl (96, f2))) : gM yX7_feed cX7_feed 5 ((some .int)) 4 126 [.ref 0, .long p0, .long p1] (hp) (0) (0) (fun v h => v = some (.int (16)) ∧ ∀ k, 122 ≤ k → h[k]? = hp[k]?) := by
  refine gM_of (ls0 := [some (.ref 0), some (.long p0), none, some (.long p1), none]) (by decide +kernel) (Nat.le_of_ble_eq_true rfl) rfl fun X C E => ?_
  refine g_aload_n (q := 1) C dX7_feed_0 rfl rfl ?_
  refine g_getfield (q := 4) C fX7_14 dX7_feed_1 rfl H0 rfl ?_
  refine g_callVi (q := 7) (As := []) C gyX4_size gvX4_size t_463 (c_X4_size H1) dX7_feed_4 rfl H1 rfl rfl rfl (Nat.le_of_ble_eq_true rfl) (Nat.le_of_ble_eq_true rfl) (Nat.le_of_ble_eq_true rfl) (Nat.le_of_ble_eq_true rfl) (Nat.le_of_ble_eq_true rfl) rfl ?_
  refine g_bipush (v := 16) (q := 9) C dX7_feed_7 (by decide) rfl ?_
  refine g_iadd (q := 10) C dX7_feed_9 rfl ?_
  refine g_bipush (v := 96) (q := 12) C dX7_feed_10 (by decide) rfl ?_
  refine g_icmp_le_t (t := 17) C dX7_feed_12 (by decide) (by decide) ?_
  refine g_aload_n (q := 18) C dX7_feed_17 rfl rfl ?_
  refine g_lload_n (q := 19) C dX7_feed_18 rfl rfl ?_
  refine g_callVvp (q := 22) (As := [.long p0]) C gyX7_feedEight gvX7_feedEight t_467 (c_X7_feedEight (L := 0) H0 H1 H2 (by decide)) dX7_feed_19 rfl H0 rfl rfl rfl (Nat.le_of_ble_eq_true rfl) (Nat.le_of_ble_eq_true rfl) (Nat.le_of_ble_eq_true rfl) (Nat.le_of_ble_eq_true rfl) (Nat.le_of_ble_eq_true rfl) rfl (fun h9 z9 => ?_)
  obtain ⟨f11, rfl⟩ := z9
  refine g_aload_n (q := 23) C dX7_feed_22 rfl rfl ?_
  refine g_lload_n (q := 24) C dX7_feed_23 rfl rfl ?_
  refine g_callVvp (q := 27) (As := [.long p1]) C gyX7_feedEight gvX7_feedEight t_467 (c_X7_feedEight (L := 8) (gset_other (gset_other H0 (by decide)) (by decide)) (gset_self (gset_other H1 (by decide))) (gset_other (gset_self H2) (by decide)) (by decide)) dX7_feed_24 rfl (gset_other (gset_other H0 (by decide)) (by decide)) rfl rfl rfl (Nat.le_of_ble_eq_true rfl) (Nat.le_of_ble_eq_true rfl) (Nat.le_of_ble_eq_true rfl) (Nat.le_of_ble_eq_true rfl) (Nat.le_of_ble_eq_true rfl) rfl (fun h9 z9 => ?_)
  obtain ⟨f12, rfl⟩ := z9
  refine g_aload_n (q := 28) C dX7_feed_27 rfl rfl ?_
  refine g_getfield (q := 31) C fX7_14 dX7_feed_28 rfl (gset_other (gset_other (gset_other (gset_other H0 (by decide)) (by decide)) (by decide)) (by decide)) rfl ?_
  refine g_callVi (q := 34) (As := []) C gyX4_size gvX4_size t_463 (c_X4_size (gset_self (gset_other (gset_self (gset_other H1 (by decide))) (by decide)))) dX7_feed_31 rfl (gset_self (gset_other (gset_self (gset_other H1 (by decide))) (by decide))) rfl rfl rfl (Nat.le_of_ble_eq_true rfl) (Nat.le_of_ble_eq_true rfl) (Nat.le_of_ble_eq_true rfl) (Nat.le_of_ble_eq_true rfl) (Nat.le_of_ble_eq_true rfl) rfl ?_
  exact E.1 _ _ _ _ _ _ _ dX7_feed_34 rfl rfl (Nat.le_of_ble_eq_true rfl) (Nat.le_of_ble_eq_true rfl) ⟨rfl, (fun k hk => by repeat (first | rfl | rw [List.getElem?_set_ne (by omega)]))⟩
theorem dX3_clear_0 : decode cX3_clear 0 = .ok (.aload_n 0, 1) := by decide +kernel
theorem dX3_clear_1 : decode cX3_clear 1 = .ok (.bipush 17, 2) := by decide +kernel
theorem dX3_clear_3 : decode cX3_clear 3 = .ok (.putfield 38, 3) := by decide +kernel
theorem dX3_clear_6 : decode cX3_clear 6 = .ok (.aload_n 0, 1) := by decide +kernel
theorem dX3_clear_7 : decode cX3_clear 7 = .ok (.iconst 0, 1) := by decide +kernel
theorem dX3_clear_8 : decode cX3_clear 8 = .ok (.putfield 42, 3) := by decide +kernel
theorem dX3_clear_11 : decode cX3_clear 11 = .ok (.aload_n 0, 1) := by decide +kernel
theorem dX3_clear_12 : decode cX3_clear 12 = .ok (.iconst 0, 1) := by decide +kernel
theorem dX3_clear_13 : decode cX3_clear 13 = .ok (.putfield 45, 3) := by decide +kernel
theorem dX3_clear_16 : decode cX3_clear 16 = .ok (.aload_n 0, 1) := by decide +kernel
theorem dX3_clear_17 : decode cX3_clear 17 = .ok (.iconst 0, 1) := by decide +kernel
theorem dX3_clear_18 : decode cX3_clear 18 = .ok (.putfield 48, 3) := by decide +kernel
theorem dX3_clear_21 : decode cX3_clear 21 = .ok (.aload_n 0, 1) := by decide +kernel
theorem dX3_clear_22 : decode cX3_clear 22 = .ok (.bipush 32, 2) := by decide +kernel
theorem dX3_clear_24 : decode cX3_clear 24 = .ok (.putfield 51, 3) := by decide +kernel
theorem dX3_clear_27 : decode cX3_clear 27 = .ok (.aload_n 0, 1) := by decide +kernel
theorem dX3_clear_28 : decode cX3_clear 28 = .ok (.iconst 0, 1) := by decide +kernel
theorem dX3_clear_29 : decode cX3_clear 29 = .ok (.putfield 54, 3) := by decide +kernel
theorem dX3_clear_32 : decode cX3_clear 32 = .ok (.aload_n 0, 1) := by decide +kernel
theorem dX3_clear_33 : decode cX3_clear 33 = .ok (.getfield 14, 3) := by decide +kernel
theorem dX3_clear_36 : decode cX3_clear 36 = .ok (.iconst 0, 1) := by decide +kernel
theorem dX3_clear_37 : decode cX3_clear 37 = .ok (.invokevirtual 58, 3) := by decide +kernel
theorem dX3_clear_40 : decode cX3_clear 40 = .ok (.aload_n 0, 1) := by decide +kernel
theorem dX3_clear_41 : decode cX3_clear 41 = .ok (.iconst 0, 1) := by decide +kernel
theorem dX3_clear_42 : decode cX3_clear 42 = .ok (.putfield 62, 3) := by decide +kernel
theorem dX3_clear_45 : decode cX3_clear 45 = .ok (.return_, 1) := by decide +kernel
set_option maxRecDepth 100000 in
set_option maxHeartbeats 4000000 in
theorem c_X3_clear_0 {hp : List gA}  (H119 : hp[119]? = some (.inr (.inr (3, [.int 0, .int 0, .int 0, .int 0, .int 0, .int 0, .int 0, .ref 120, .int 0, .int 0, .int 0])))) (H120 : hp[120]? = some (.inr (.inr (4, [.ref 121, .int 0, .int 15])))) : gM yX3_clear cX3_clear 1 (none) 2 42 [.ref 119] (hp) (0) (0) (fun v h => v = none ∧ (∃ fs, h[119]? = some (.inr (.inr (3, fs)))) ∧ ∀ k, k ≠ 119 → k ≠ 120 → h[k]? = hp[k]?) := by
  refine gM_of (ls0 := [some (.ref 119)]) (by decide +kernel) (Nat.le_of_ble_eq_true rfl) rfl fun X C E => ?_
  refine g_aload_n (q := 1) C dX3_clear_0 rfl rfl ?_
  refine g_bipush (v := 17) (q := 3) C dX3_clear_1 (by decide) rfl ?_
  refine g_putfield (q := 6) C fX3_38 dX3_clear_3 rfl H119 (Nat.le_of_ble_eq_true rfl) (Or.inl rfl) rfl rfl (by intro z h; cases h) ?_
  refine g_aload_n (q := 7) C dX3_clear_6 rfl rfl ?_
  refine g_iconst (v := 0) (q := 8) C dX3_clear_7 (by decide) rfl ?_
  refine g_putfield (q := 11) C fX3_42 dX3_clear_8 rfl (gset_self H119) (Nat.le_of_ble_eq_true rfl) (Or.inl rfl) rfl rfl (by intro z h; cases h) ?_
  refine g_aload_n (q := 12) C dX3_clear_11 rfl rfl ?_
  refine g_iconst (v := 0) (q := 13) C dX3_clear_12 (by decide) rfl ?_
  refine g_putfield (q := 16) C fX3_45 dX3_clear_13 rfl (gset_self (gset_self H119)) (Nat.le_of_ble_eq_true rfl) (Or.inl rfl) rfl rfl (by intro z h; cases h) ?_
  refine g_aload_n (q := 17) C dX3_clear_16 rfl rfl ?_
  refine g_iconst (v := 0) (q := 18) C dX3_clear_17 (by decide) rfl ?_
  refine g_putfield (q := 21) C fX3_48 dX3_clear_18 rfl (gset_self (gset_self (gset_self H119))) (Nat.le_of_ble_eq_true rfl) (Or.inl rfl) rfl rfl (by intro z h; cases h) ?_
  refine g_aload_n (q := 22) C dX3_clear_21 rfl rfl ?_
  refine g_bipush (v := 32) (q := 24) C dX3_clear_22 (by decide) rfl ?_
  refine g_putfield (q := 27) C fX3_51 dX3_clear_24 rfl (gset_self (gset_self (gset_self (gset_self H119)))) (Nat.le_of_ble_eq_true rfl) (Or.inl rfl) rfl rfl (by intro z h; cases h) ?_
  refine g_aload_n (q := 28) C dX3_clear_27 rfl rfl ?_
  refine g_iconst (v := 0) (q := 29) C dX3_clear_28 (by decide) rfl ?_
  refine g_putfield (q := 32) C fX3_54 dX3_clear_29 rfl (gset_self (gset_self (gset_self (gset_self (gset_self H119))))) (Nat.le_of_ble_eq_true rfl) (Or.inl rfl) rfl rfl (by intro z h; cases h) ?_
  refine g_aload_n (q := 33) C dX3_clear_32 rfl rfl ?_
  refine g_getfield (q := 36) C fX3_14 dX3_clear_33 rfl (gset_self (gset_self (gset_self (gset_self (gset_self (gset_self H119)))))) rfl ?_
  refine g_iconst (v := 0) (q := 37) C dX3_clear_36 (by decide) rfl ?_
  refine g_callVv (q := 40) (As := [.int 0]) C gyX4_keep gvX4_keep t_512 (c_X4_keep (gset_other (gset_other (gset_other (gset_other (gset_other (gset_other H120 (by decide)) (by decide)) (by decide)) (by decide)) (by decide)) (by decide))) dX3_clear_37 rfl (gset_other (gset_other (gset_other (gset_other (gset_other (gset_other H120 (by decide)) (by decide)) (by decide)) (by decide)) (by decide)) (by decide)) rfl rfl rfl (Nat.le_of_ble_eq_true rfl) (Nat.le_of_ble_eq_true rfl) (Nat.le_of_ble_eq_true rfl) (Nat.le_of_ble_eq_true rfl) (Nat.le_of_ble_eq_true rfl) rfl ?_
  refine g_aload_n (q := 41) C dX3_clear_40 rfl rfl ?_
  refine g_iconst (v := 0) (q := 42) C dX3_clear_41 (by decide) rfl ?_
  refine g_putfield (q := 45) C fX3_62 dX3_clear_42 rfl (gset_other (gset_self (gset_self (gset_self (gset_self (gset_self (gset_self H119)))))) (by decide)) (Nat.le_of_ble_eq_true rfl) (Or.inl rfl) rfl rfl (by intro z h; cases h) ?_
  exact E.2.1 _ _ _ _ _ dX3_clear_45 rfl (Nat.le_of_ble_eq_true rfl) (Nat.le_of_ble_eq_true rfl) ⟨rfl, ⟨_, (gset_self (gset_other (gset_self (gset_self (gset_self (gset_self (gset_self (gset_self H119)))))) (by decide)))⟩, fun k h1 h2 => by repeat (first | rfl | rw [List.getElem?_set_ne (Ne.symm h1)] | rw [List.getElem?_set_ne (Ne.symm h2)])⟩
theorem dX3_readHead_0 : decode cX3_readHead 0 = .ok (.aload_n 1, 1) := by decide +kernel
theorem dX3_readHead_1 : decode cX3_readHead 1 = .ok (.invokevirtual 65, 3) := by decide +kernel
theorem dX3_readHead_4 : decode cX3_readHead 4 = .ok (.ifCond .ne 9, 3) := by decide +kernel
theorem dX3_readHead_7 : decode cX3_readHead 7 = .ok (.iconst 0, 1) := by decide +kernel
theorem dX3_readHead_8 : decode cX3_readHead 8 = .ok (.iconst 1, 1) := by decide +kernel
theorem dX3_readHead_9 : decode cX3_readHead 9 = .ok (.invokestatic 69, 3) := by decide +kernel
theorem dX3_readHead_12 : decode cX3_readHead 12 = .ok (.ireturn, 1) := by decide +kernel
set_option maxRecDepth 100000 in
set_option maxHeartbeats 4000000 in
theorem c_X3_readHead_0 {hp : List gA} {rs : Nat} (H1 : hp[1]? = some (.inr (.inr (4, [.ref 2, .int 0, .int 96])))) : gM yX3_readHead cX3_readHead 2 ((some .int)) 1 21 [.ref rs, .ref 1] (hp) (0) (0) (fun v h => v = some (.int 1) ∧ h = hp) := by
  refine gM_of (ls0 := [some (.ref rs), some (.ref 1)]) (by decide +kernel) (Nat.le_of_ble_eq_true rfl) rfl fun X C E => ?_
  refine g_aload_n (q := 1) C dX3_readHead_0 rfl rfl ?_
  refine g_callVi (q := 4) (As := []) C gyX4_size gvX4_size t_517 (c_X4_size H1) dX3_readHead_1 rfl H1 rfl rfl rfl (Nat.le_of_ble_eq_true rfl) (Nat.le_of_ble_eq_true rfl) (Nat.le_of_ble_eq_true rfl) (Nat.le_of_ble_eq_true rfl) (Nat.le_of_ble_eq_true rfl) rfl ?_
  refine g_if_ne_f (t := 13) (q := 7) C dX3_readHead_4 (by decide) rfl (by decide) ?_
  refine g_iconst (v := 0) (q := 8) C dX3_readHead_7 (by decide) rfl ?_
  refine g_iconst (v := 1) (q := 9) C dX3_readHead_8 (by decide) rfl ?_
  refine g_callSi (q := 12) (As := [.int 0, .int 1]) C gyX3_faultAt t_519 t_518 (c_X3_faultAt) dX3_readHead_9 rfl rfl rfl (Nat.le_of_ble_eq_true rfl) (Nat.le_of_ble_eq_true rfl) (Nat.le_of_ble_eq_true rfl) (Nat.le_of_ble_eq_true rfl) (Nat.le_of_ble_eq_true rfl) rfl ?_
  exact E.1 _ _ _ _ _ _ _ dX3_readHead_12 rfl rfl (Nat.le_of_ble_eq_true rfl) (Nat.le_of_ble_eq_true rfl) ⟨rfl, rfl⟩
theorem dX3_read_0 : decode cX3_read 0 = .ok (.aload_n 0, 1) := by decide +kernel
theorem dX3_read_1 : decode cX3_read 1 = .ok (.invokevirtual 20, 3) := by decide +kernel
theorem dX3_read_4 : decode cX3_read 4 = .ok (.aload_n 0, 1) := by decide +kernel
theorem dX3_read_5 : decode cX3_read 5 = .ok (.aload_n 1, 1) := by decide +kernel
theorem dX3_read_6 : decode cX3_read 6 = .ok (.invokevirtual 23, 3) := by decide +kernel
theorem dX3_read_9 : decode cX3_read 9 = .ok (.istore_n 2, 1) := by decide +kernel
theorem dX3_read_10 : decode cX3_read 10 = .ok (.iload_n 2, 1) := by decide +kernel
theorem dX3_read_11 : decode cX3_read 11 = .ok (.ifCond .ne 9, 3) := by decide +kernel
theorem dX3_read_20 : decode cX3_read 20 = .ok (.iload_n 2, 1) := by decide +kernel
theorem dX3_read_21 : decode cX3_read 21 = .ok (.ifCond .ne 17, 3) := by decide +kernel
theorem dX3_read_38 : decode cX3_read 38 = .ok (.iload_n 2, 1) := by decide +kernel
theorem dX3_read_39 : decode cX3_read 39 = .ok (.ireturn, 1) := by decide +kernel
set_option maxRecDepth 100000 in
set_option maxHeartbeats 4000000 in
theorem c_X3_read_0 {hp : List gA}  (H1 : hp[1]? = some (.inr (.inr (4, [.ref 2, .int 0, .int 96])))) (H119 : hp[119]? = some (.inr (.inr (3, [.int 0, .int 0, .int 0, .int 0, .int 0, .int 0, .int 0, .ref 120, .int 0, .int 0, .int 0])))) (H120 : hp[120]? = some (.inr (.inr (4, [.ref 121, .int 0, .int 15])))) : gM yX3_read cX3_read 3 ((some .int)) 4 127 [.ref 119, .ref 1] (hp) (0) (0) (fun v h => v = some (.int 1) ∧ ∀ k, k ≠ 119 → k ≠ 120 → h[k]? = hp[k]?) := by
  refine gM_of (ls0 := [some (.ref 119), some (.ref 1), none]) (by decide +kernel) (Nat.le_of_ble_eq_true rfl) rfl fun X C E => ?_
  refine g_aload_n (q := 1) C dX3_read_0 rfl rfl ?_
  refine g_callVvp (q := 4) (As := []) C gyX3_clear gvX3_clear t_508 (c_X3_clear_0 H119 H120) dX3_read_1 rfl H119 rfl rfl rfl (Nat.le_of_ble_eq_true rfl) (Nat.le_of_ble_eq_true rfl) (Nat.le_of_ble_eq_true rfl) (Nat.le_of_ble_eq_true rfl) (Nat.le_of_ble_eq_true rfl) rfl (fun h9 z9 => ?_)
  obtain ⟨⟨fs9, e119⟩, fr9⟩ := z9
  refine g_aload_n (q := 5) C dX3_read_4 rfl rfl ?_
  refine g_aload_n (q := 6) C dX3_read_5 rfl rfl ?_
  refine g_callVi (q := 9) (As := [.ref 1]) C gyX3_readHead gvX3_readHead t_513 (c_X3_readHead_0 ((fr9 1 (by decide) (by decide)).trans H1)) dX3_read_6 rfl e119 rfl rfl rfl (Nat.le_of_ble_eq_true rfl) (Nat.le_of_ble_eq_true rfl) (Nat.le_of_ble_eq_true rfl) (Nat.le_of_ble_eq_true rfl) (Nat.le_of_ble_eq_true rfl) rfl ?_
  refine g_istore_n (q := 10) C dX3_read_9 (Nat.le_of_ble_eq_true rfl) (by simp only [gset]; rfl) rfl ?_
  refine g_iload_n (q := 11) C dX3_read_10 rfl rfl ?_
  refine g_if_ne_t (t := 20) C dX3_read_11 (by decide) (by decide) ?_
  refine g_iload_n (q := 21) C dX3_read_20 rfl rfl ?_
  refine g_if_ne_t (t := 38) C dX3_read_21 (by decide) (by decide) ?_
  refine g_iload_n (q := 39) C dX3_read_38 rfl rfl ?_
  exact E.1 _ _ _ _ _ _ _ dX3_read_39 rfl rfl (Nat.le_of_ble_eq_true rfl) (Nat.le_of_ble_eq_true rfl) ⟨rfl, fr9⟩
theorem gM_ip {y : MethodName} {bytes : ByteArray} {maxL : Nat} {ret : Option FieldType} {fr lo : Nat} {av : List Value} {hp : List gA} {mc ms : Nat} {x : Int32} {P : List gA → Prop} (h : gM y bytes maxL ret fr lo av hp mc ms (fun v h => v = some (.int x) ∧ P h)) : gM y bytes maxL ret fr lo av hp mc ms (fun v h => ∃ z, v = some (.int z) ∧ (z = x ∧ P h)) := by
  have e : (fun (v : Option Value) (h : List gA) => ∃ z, v = some (.int z) ∧ (z = x ∧ P h)) = (fun v h => v = some (.int x) ∧ P h) := by
    funext v h
    apply propext
    constructor
    · rintro ⟨z, a, rfl, b⟩; exact ⟨a, b⟩
    · rintro ⟨a, b⟩; exact ⟨x, a, rfl, b⟩
  rw [e]; exact h
theorem dX7_reset_0 : decode cX7_reset 0 = .ok (.aload_n 0, 1) := by decide +kernel
theorem dX7_reset_1 : decode cX7_reset 1 = .ok (.getfield 48, 3) := by decide +kernel
theorem dX7_reset_4 : decode cX7_reset 4 = .ok (.aload_n 0, 1) := by decide +kernel
theorem dX7_reset_5 : decode cX7_reset 5 = .ok (.getfield 14, 3) := by decide +kernel
theorem dX7_reset_8 : decode cX7_reset 8 = .ok (.invokevirtual 70, 3) := by decide +kernel
theorem dX7_reset_11 : decode cX7_reset 11 = .ok (.istore_n 1, 1) := by decide +kernel
theorem dX7_reset_12 : decode cX7_reset 12 = .ok (.aload_n 0, 1) := by decide +kernel
theorem dX7_reset_13 : decode cX7_reset 13 = .ok (.getfield 14, 3) := by decide +kernel
theorem dX7_reset_16 : decode cX7_reset 16 = .ok (.iconst 0, 1) := by decide +kernel
theorem dX7_reset_17 : decode cX7_reset 17 = .ok (.invokevirtual 67, 3) := by decide +kernel
theorem dX7_reset_20 : decode cX7_reset 20 = .ok (.iload_n 1, 1) := by decide +kernel
theorem dX7_reset_21 : decode cX7_reset 21 = .ok (.ifCond .eq 8, 3) := by decide +kernel
theorem dX7_reset_24 : decode cX7_reset 24 = .ok (.bipush (-2), 2) := by decide +kernel
theorem dX7_reset_26 : decode cX7_reset 26 = .ok (.iload_n 1, 1) := by decide +kernel
theorem dX7_reset_27 : decode cX7_reset 27 = .ok (.isub, 1) := by decide +kernel
theorem dX7_reset_28 : decode cX7_reset 28 = .ok (.ireturn, 1) := by decide +kernel
set_option maxRecDepth 100000 in
set_option maxHeartbeats 4000000 in
theorem c_X7_reset_0 {hp : List gA}  (H0 : hp[0]? = some (.inr (.inr (7, [.ref 1, .ref 3, .ref 20, .ref 43, .ref 116, .ref 119, .int 0])))) (H1 : hp[1]? = some (.inr (.inr (4, [.ref 2, .int 0, .int 96])))) (H119 : hp[119]? = some (.inr (.inr (3, [.int 0, .int 0, .int 0, .int 0, .int 0, .int 0, .int 0, .ref 120, .int 0, .int 0, .int 0])))) (H120 : hp[120]? = some (.inr (.inr (4, [.ref 121, .int 0, .int 15])))) : gM yX7_reset cX7_reset 3 ((some .int)) 5 149 [.ref 0] (hp) (0) (0) (fun v h => v = some (.int (-3)) ∧ ∀ k, 122 ≤ k → h[k]? = hp[k]?) := by
  refine gM_of (ls0 := [some (.ref 0), none, none]) (by decide +kernel) (Nat.le_of_ble_eq_true rfl) rfl fun X C E => ?_
  refine g_aload_n (q := 1) C dX7_reset_0 rfl rfl ?_
  refine g_getfield (q := 4) C fX7_48 dX7_reset_1 rfl H0 rfl ?_
  refine g_aload_n (q := 5) C dX7_reset_4 rfl rfl ?_
  refine g_getfield (q := 8) C fX7_14 dX7_reset_5 rfl H0 rfl ?_
  refine g_callVip (q := 11) (As := [.ref 1]) C gyX3_read gvX3_read t_504 (gM_ip (c_X3_read_0 H1 H119 H120)) dX7_reset_8 rfl H119 rfl rfl rfl (Nat.le_of_ble_eq_true rfl) (Nat.le_of_ble_eq_true rfl) (Nat.le_of_ble_eq_true rfl) (Nat.le_of_ble_eq_true rfl) (Nat.le_of_ble_eq_true rfl) rfl (fun x9 h9 z9 => ?_)
  obtain ⟨rfl, fr9⟩ := z9
  refine g_istore_n (q := 12) C dX7_reset_11 (Nat.le_of_ble_eq_true rfl) (by simp only [gset]; rfl) rfl ?_
  refine g_aload_n (q := 13) C dX7_reset_12 rfl rfl ?_
  refine g_getfield (q := 16) C fX7_14 dX7_reset_13 rfl ((fr9 0 (by decide) (by decide)).trans H0) rfl ?_
  refine g_iconst (v := 0) (q := 17) C dX7_reset_16 (by decide) rfl ?_
  refine g_callVv (q := 20) (As := [.int 0]) C gyX4_keep gvX4_keep t_496 (c_X4_keep ((fr9 1 (by decide) (by decide)).trans H1)) dX7_reset_17 rfl ((fr9 1 (by decide) (by decide)).trans H1) rfl rfl rfl (Nat.le_of_ble_eq_true rfl) (Nat.le_of_ble_eq_true rfl) (Nat.le_of_ble_eq_true rfl) (Nat.le_of_ble_eq_true rfl) (Nat.le_of_ble_eq_true rfl) rfl ?_
  refine g_iload_n (q := 21) C dX7_reset_20 rfl rfl ?_
  refine g_if_eq_f (t := 29) (q := 24) C dX7_reset_21 (by decide) rfl (by decide) ?_
  refine g_bipush (v := (-2)) (q := 26) C dX7_reset_24 (by decide) rfl ?_
  refine g_iload_n (q := 27) C dX7_reset_26 rfl rfl ?_
  refine g_isub (q := 28) C dX7_reset_27 rfl ?_
  exact E.1 _ _ _ _ _ _ _ dX7_reset_28 rfl rfl (Nat.le_of_ble_eq_true rfl) (Nat.le_of_ble_eq_true rfl) ⟨rfl, fun k hk => (List.getElem?_set_ne (by omega)).trans (fr9 k (by omega) (by omega))⟩
