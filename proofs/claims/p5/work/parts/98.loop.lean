/-! THE LAW'S LOOP AND ITS START (by program: wip/p4/m_plaw4.py) -/
section LAWC
variable {X : gX} {nm : String} {xs0 : Nat → Int32} {L n : Nat} {hp : List gA}
set_option maxRecDepth 100000 in
set_option maxHeartbeats 4000000 in
/-- the loop: every call that is left -/
theorem law_loop (C : gC X RL nm cL_law 7 room_1) (hX : va_X (xA X (0 : UInt32).toNat) L xs0 (xs X) (xs X).heap) (hbl : xA X (0 : UInt32).toNat < (xs X).heap.size) (hb0 : ¬ xB X ≤ xA X (0 : UInt32).toNat) (htr : (xl X).stackTraces = false) (hDk : gDk (xs X)) (hL2 : L ≤ 2560) (h0 : gH (xD X) (xI X) (xJ X) (xB X) (xA X) [] (xs X).heap) (hEnd : ∀ (ls : List (Option Value)) (hp : List gA) (cl sl : Nat), cl ≤ 601024 → sl ≤ 7293034 → gG X 708 ls [.int 1] hp cl sl) : ∀ (m n : Nat) (hp : List gA), n + m = 512 → lwI n hp → gG X 23 [some (.float 0), some (.ref 0), some (.ref 122), some (.ref 139), some (.int (nI (5 * n))), none, none] [] hp hp.length (gsz hp) := by
  intro m
  induction m with
  | zero =>
    intro n hp hnm I
    have lm : hp.length + 1 ≤ 300000 ∧ gsz hp + 1048576 ≤ 7000000 := by obtain ⟨T, R, J, Bc, Bs, M, z, H, -⟩ := I; exact H.lim
    refine g_iload (q := 25) C dL_law_23 rfl rfl ?_
    refine g_aloadS_n (q := 26) C dL_law_25 rfl rfl ?_
    refine g_slen (q := 27) C hX hbl hb0 dL_law_26 rfl ?_
    refine g_iconst (v := 5) (q := 28) C dL_law_27 (by decide) rfl ?_
    refine g_isub (q := 29) C dL_law_28 rfl ?_
    refine g_icmp_gt_t (t := 707) C dL_law_29 (by decide) (lawGt (by omega) (by omega) (by omega)) ?_
    refine g_iconst (v := 1) (q := 708) C dL_law_707 (by decide) rfl ?_
    exact hEnd _ _ _ _ (by omega) (by omega)
  | succ m ih =>
    intro n hp hnm I
    have lm : hp.length + 1 ≤ 300000 ∧ gsz hp + 1048576 ≤ 7000000 := by obtain ⟨T, R, J, Bc, Bs, M, z, H, -⟩ := I; exact H.lim
    refine g_iload (q := 25) C dL_law_23 rfl rfl ?_
    refine g_aloadS_n (q := 26) C dL_law_25 rfl rfl ?_
    refine g_slen (q := 27) C hX hbl hb0 dL_law_26 rfl ?_
    refine g_iconst (v := 5) (q := 28) C dL_law_27 (by decide) rfl ?_
    refine g_isub (q := 29) C dL_law_28 rfl ?_
    by_cases hL : 5 * n + 5 ≤ L
    · refine g_icmp_gt_f (t := 707) (q := 32) C dL_law_29 (by decide) rfl (lawLe (by omega) hL) ?_
      have hN : ∀ (hp : List gA) (cl sl : Nat) (l5 l6 : Option Value), lwI (n + 1) hp → gG X 701 [some (.float 0), some (.ref 0), some (.ref 122), some (.ref 139), some (.int (nI (5 * n))), l5, l6] [] hp cl sl := by
        intro hp1 cl sl l5 l6 I1
        refine g_forget (ls' := [some (.float 0), some (.ref 0), some (.ref 122), some (.ref 139), some (.int (nI (5 * n))), none, none]) rfl lawFg ?_
        refine g_iinc (v := nI (5 * (n + 1))) (q := 704) C dL_law_701 rfl (lawInc n) (by simp only [gset]; rfl) rfl ?_
        refine g_goto (q := 23) C dL_law_704 (by decide) ?_
        exact g_tight0 h0 (ih (n + 1) hp1 (by omega) I1)
      refine g_aloadS_n (q := 33) C dL_law_32 rfl rfl ?_
      refine g_iload (q := 35) C dL_law_33 rfl rfl ?_
      refine g_sldN (j := 5 * n) (x := xs0 (5 * n)) (q := 36) C hX hbl hb0 dL_law_35 rfl (nI_clamp (by omega)) (nI_pos (by omega)) (by omega) rfl ?_
      refine g_bipush (v := 31) (q := 38) C dL_law_36 (by decide) rfl ?_
      refine g_iand (q := 39) C dL_law_38 rfl ?_
      generalize xs0 (5 * n) &&& 31 = w
      by_cases c_0 : w = 0
      · subst c_0
        refine g_tableIn (off := 85) (t := 124) C dL_law_39 (by decide) (by decide) (by decide) (by decide) ?_
        exact law_0 C hX hbl hb0 htr hDk hL2 (by omega) hL hN I
      by_cases c_1 : w = 1
      · subst c_1
        refine g_tableIn (off := 186) (t := 225) C dL_law_39 (by decide) (by decide) (by decide) (by decide) ?_
        exact law_1 C hX hbl hb0 htr hDk hL2 (by omega) hL hN I
      by_cases c_2 : w = 2
      · subst c_2
        refine g_tableIn (off := 211) (t := 250) C dL_law_39 (by decide) (by decide) (by decide) (by decide) ?_
        exact law_2 C hX hbl hb0 htr hDk hL2 (by omega) hL hN I
      by_cases c_3 : w = 3
      · subst c_3
        refine g_tableIn (off := 224) (t := 263) C dL_law_39 (by decide) (by decide) (by decide) (by decide) ?_
        exact law_3 C hX hbl hb0 htr hDk hL2 (by omega) hL hN I
      by_cases c_4 : w = 4
      · subst c_4
        refine g_tableIn (off := 249) (t := 288) C dL_law_39 (by decide) (by decide) (by decide) (by decide) ?_
        exact law_4 C hX hbl hb0 htr hDk hL2 (by omega) hL hN I
      by_cases c_5 : w = 5
      · subst c_5
        refine g_tableIn (off := 274) (t := 313) C dL_law_39 (by decide) (by decide) (by decide) (by decide) ?_
        exact law_5 C hX hbl hb0 htr hDk hL2 (by omega) hL hN I
      by_cases c_6 : w = 6
      · subst c_6
        refine g_tableIn (off := 287) (t := 326) C dL_law_39 (by decide) (by decide) (by decide) (by decide) ?_
        exact law_6 C hX hbl hb0 htr hDk hL2 (by omega) hL hN I
      by_cases c_7 : w = 7
      · subst c_7
        refine g_tableIn (off := 312) (t := 351) C dL_law_39 (by decide) (by decide) (by decide) (by decide) ?_
        exact law_7 C hX hbl hb0 htr hDk hL2 (by omega) hL hN I
      by_cases c_8 : w = 8
      · subst c_8
        refine g_tableIn (off := 361) (t := 400) C dL_law_39 (by decide) (by decide) (by decide) (by decide) ?_
        exact law_8 C hX hbl hb0 htr hDk hL2 (by omega) hL hN I
      by_cases c_9 : w = 9
      · subst c_9
        refine g_tableIn (off := 386) (t := 425) C dL_law_39 (by decide) (by decide) (by decide) (by decide) ?_
        exact law_9 C hX hbl hb0 htr hDk hL2 (by omega) hL hN I
      by_cases c_10 : w = 10
      · subst c_10
        refine g_tableIn (off := 411) (t := 450) C dL_law_39 (by decide) (by decide) (by decide) (by decide) ?_
        exact law_10 C hX hbl hb0 htr hDk hL2 (by omega) hL hN I
      by_cases c_11 : w = 11
      · subst c_11
        refine g_tableIn (off := 424) (t := 463) C dL_law_39 (by decide) (by decide) (by decide) (by decide) ?_
        exact law_11 C hX hbl hb0 htr hDk hL2 (by omega) hL hN I
      by_cases c_12 : w = 12
      · subst c_12
        refine g_tableIn (off := 461) (t := 500) C dL_law_39 (by decide) (by decide) (by decide) (by decide) ?_
        exact law_12 C hX hbl hb0 htr hDk hL2 (by omega) hL hN I
      by_cases c_13 : w = 13
      · subst c_13
        refine g_tableIn (off := 498) (t := 537) C dL_law_39 (by decide) (by decide) (by decide) (by decide) ?_
        exact law_13 C hX hbl hb0 htr hDk hL2 (by omega) hL hN I
      by_cases c_14 : w = 14
      · subst c_14
        refine g_tableIn (off := 538) (t := 577) C dL_law_39 (by decide) (by decide) (by decide) (by decide) ?_
        exact law_14 C hX hbl hb0 htr hDk hL2 (by omega) hL hN I
      by_cases c_15 : w = 15
      · subst c_15
        refine g_tableIn (off := 575) (t := 614) C dL_law_39 (by decide) (by decide) (by decide) (by decide) ?_
        exact law_15 C hX hbl hb0 htr hDk hL2 (by omega) hL hN I
      by_cases c_16 : w = 16
      · subst c_16
        refine g_tableIn (off := 600) (t := 639) C dL_law_39 (by decide) (by decide) (by decide) (by decide) ?_
        exact law_16 C hX hbl hb0 htr hDk hL2 (by omega) hL hN I
      by_cases c_17 : w = 17
      · subst c_17
        refine g_tableIn (off := 637) (t := 676) C dL_law_39 (by decide) (by decide) (by decide) (by decide) ?_
        exact law_17 C hX hbl hb0 htr hDk hL2 (by omega) hL hN I
      refine g_tableOut (t := 701) C dL_law_39 (gOut18 c_0 c_1 c_2 c_3 c_4 c_5 c_6 c_7 c_8 c_9 c_10 c_11 c_12 c_13 c_14 c_15 c_16 c_17) (by decide) ?_
      refine hN _ _ _ _ _ ?_
      obtain ⟨T, R, J, Bc, Bs, M, z, H, hBc, hBs, e1, e9, W⟩ := I
      exact ⟨T, R, J, Bc, Bs, M, z, H, by omega, by omega, e1, e9, W.up⟩
    · refine g_icmp_gt_t (t := 707) C dL_law_29 (by decide) (lawGt (by omega) (by omega) (by omega)) ?_
      refine g_iconst (v := 1) (q := 708) C dL_law_707 (by decide) rfl ?_
      exact hEnd _ _ _ _ (by omega) (by omega)
set_option maxRecDepth 100000 in
set_option maxHeartbeats 8000000 in
theorem law_start (C : gC X RL nm cL_law 7 room_1) (hX : va_X (xA X (0 : UInt32).toNat) L xs0 (xs X) (xs X).heap) (hbl : xA X (0 : UInt32).toNat < (xs X).heap.size) (hb0 : ¬ xB X ≤ xA X (0 : UInt32).toNat) (htr : (xl X).stackTraces = false) (hDk : gDk (xs X)) (hL2 : L ≤ 2560) (h0 : gH (xD X) (xI X) (xJ X) (xB X) (xA X) [] (xs X).heap) (hEnd : ∀ (ls : List (Option Value)) (hp : List gA) (cl sl : Nat), cl ≤ 601024 → sl ≤ 7293034 → gG X 708 ls [.int 1] hp cl sl) : gG X 0 [some (.float 0), none, none, none, none, none, none] [] [] 0 0 := by
  refine g_new (q := 3) (k := 0) C nL_8 dL_law_0 rfl rfl (Nat.le_of_ble_eq_true rfl) (Nat.le_of_ble_eq_true rfl) ?_
  refine g_dup (q := 4) C dL_law_3 rfl rfl ?_
  refine g_callIv (q := 7) (As := []) C gyX7_init giX7_init rfl t_119 (c_X7_init (hp := []) (n := 0) rfl) dL_law_4 rfl rfl rfl (Nat.le_of_ble_eq_true rfl) (Nat.le_of_ble_eq_true rfl) (Nat.le_of_ble_eq_true rfl) (Nat.le_of_ble_eq_true rfl) (Nat.le_of_ble_eq_true rfl) rfl ?_
  refine g_heap (hp2 := gCLS) rfl ?_
  refine g_astore_n (q := 8) C dL_law_7 (Nat.le_of_ble_eq_true rfl) (by simp only [gset]; rfl) rfl ?_
  refine g_new (q := 11) (k := 122) C nL_16 dL_law_8 rfl rfl (Nat.le_of_ble_eq_true rfl) (Nat.le_of_ble_eq_true rfl) ?_
  refine g_dup (q := 12) C dL_law_11 rfl rfl ?_
  refine g_callIvp (q := 15) (As := []) C gyX8_init giX8_init rfl t_1072 (c_X8_init (hp := gCLS) (n := 122) rfl) dL_law_12 rfl rfl rfl (Nat.le_of_ble_eq_true rfl) (Nat.le_of_ble_eq_true rfl) (Nat.le_of_ble_eq_true rfl) (Nat.le_of_ble_eq_true rfl) (Nat.le_of_ble_eq_true rfl) rfl (fun h8 z8 => ?_)
  obtain ⟨f9, hf9, rfl⟩ := z8
  refine g_heap (hp2 := gCLS ++ gMDL f9) rfl ?_
  refine g_astore_n (q := 16) C dL_law_15 (Nat.le_of_ble_eq_true rfl) (by simp only [gset]; rfl) rfl ?_
  refine g_iconst (v := 1) (q := 17) C dL_law_16 (by decide) rfl ?_
  refine g_newarrayL (q := 19) (k := 139) (N := 1) C t_1511 dL_law_17 rfl rfl (by decide) (by decide) (by decide) (Nat.le_of_ble_eq_true rfl) (Nat.le_of_ble_eq_true rfl) ?_
  refine g_heap (hp2 := gW0 f9) rfl ?_
  refine g_astore_n (q := 20) C dL_law_19 (Nat.le_of_ble_eq_true rfl) (by simp only [gset]; rfl) rfl ?_
  refine g_iconst (v := 0) (q := 21) C dL_law_20 (by decide) rfl ?_
  refine g_istore (q := 23) C dL_law_21 (Nat.le_of_ble_eq_true rfl) (by simp only [gset]; rfl) rfl ?_
  exact g_tight0 h0 (law_loop C hX hbl hb0 htr hDk hL2 h0 hEnd 512 0 (gW0 f9) rfl ⟨tyT0, 1, _, _, _, _, _, ty0, by decide, by decide, ⟨Or.inl ⟨rfl, rfl⟩, rfl, fun q hq => absurd hq (Nat.not_lt_zero q), rfl, fun h => (h rfl).elim⟩, rfl, kW0 hf9⟩)
end LAWC
