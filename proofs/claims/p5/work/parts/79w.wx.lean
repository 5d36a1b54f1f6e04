/-! THE REFERENCE: feed, reset, answer, historical exactly (by program: wip/p4/m_wx.py) -/
theorem wiT {y b : Int32} (h : rX8_within y 0 b = 0) (x z : Int32) : x = x → (if y < 0 then x else if b < y then x else z) = x := fun _ => by
  unfold rX8_within at h
  by_cases c : y < 0
  · rw [if_pos c]
  · rw [if_neg c] at h ⊢
    by_cases d : b < y
    · rw [if_pos d]
    · rw [if_neg d] at h; exact absurd h (by decide)
theorem wiF {y b : Int32} (h : ¬ rX8_within y 0 b = 0) (x z : Int32) : (if y < 0 then x else if b < y then x else z) = z := by
  unfold rX8_within at h
  by_cases c : y < 0
  · rw [if_pos c] at h; exact absurd rfl h
  · rw [if_neg c] at h ⊢
    by_cases d : b < y
    · rw [if_pos d] at h; exact absurd rfl h
    · rw [if_neg d]
set_option maxRecDepth 100000 in
set_option maxHeartbeats 4000000 in
theorem c_X8_answerx_r {hp : List gA} {M : gMd} {y : Int32} (HM : gMod hp M)  : gM yX8_answer cX8_answer 2 ((some .int)) 1 22 [.ref 122, .int y] (hp) (0) (0) (fun v h => ∃ x, v = some (.int x) ∧ x = (if M.f 3 = 0 then -1 else if y < 0 then -1 else if 8 < y then -1 else M.a 1 y.toNatClampNeg) ∧ gMod h (M.set 2 0) ∧ gFM hp h) := by
  refine gM_of (ls0 := [some (.ref 122), some (.int y)]) (by decide +kernel) (Nat.le_of_ble_eq_true rfl) rfl fun X C E => ?_
  refine g_aload_n (q := 1) C dX8_answer_0 rfl rfl ?_
  refine g_iconst (v := 0) (q := 2) C dX8_answer_1 (by decide) rfl ?_
  refine g_putfield (q := 5) C fX8_66 dX8_answer_2 rfl HM.1 (Nat.le_of_ble_eq_true rfl) (Or.inl rfl) rfl rfl (by intro z h; cases h) ?_
  refine gMput (j := 2) (x := 0) HM rfl fun h1 HL1 fr1 => ?_
  refine g_aload_n (q := 6) C dX8_answer_5 rfl rfl ?_
  refine g_getfield (v := .int ((M.f 3))) (q := 9) C fX8_134 dX8_answer_6 rfl HL1.1 rfl ?_
  refine g_if_eq (t := 31) (q := 12) C dX8_answer_9 (by decide) rfl (fun c_9 => ?_) (fun c_9 => ?_)
  ·
    refine g_iconst (v := (-1)) (q := 32) C dX8_answer_31 (by decide) rfl ?_
    exact E.1 _ _ _ _ _ _ _ dX8_answer_32 rfl rfl (Nat.le_of_ble_eq_true rfl) (Nat.le_of_ble_eq_true rfl) ⟨_, rfl, (if_pos c_9).symm, HL1, fr1⟩
  ·
    refine g_iload_n (q := 13) C dX8_answer_12 rfl rfl ?_
    refine g_iconst (v := 0) (q := 14) C dX8_answer_13 (by decide) rfl ?_
    refine g_bipush (v := 8) (q := 16) C dX8_answer_14 (by decide) rfl ?_
    refine g_callSi (x := (rX8_within y 0 8)) (q := 19) (As := [.int y, .int 0, .int 8]) C gyX8_within t_1212 t_1211 (c_X8_within_m) dX8_answer_16 rfl rfl rfl (Nat.le_of_ble_eq_true rfl) (Nat.le_of_ble_eq_true rfl) (Nat.le_of_ble_eq_true rfl) (Nat.le_of_ble_eq_true rfl) (Nat.le_of_ble_eq_true rfl) rfl ?_
    refine g_if_eq (t := 31) (q := 22) C dX8_answer_19 (by decide) rfl (fun c_19 => ?_) (fun c_19 => ?_)
    ·
      refine g_iconst (v := (-1)) (q := 32) C dX8_answer_31 (by decide) rfl ?_
      exact E.1 _ _ _ _ _ _ _ dX8_answer_32 rfl rfl (Nat.le_of_ble_eq_true rfl) (Nat.le_of_ble_eq_true rfl) ⟨_, rfl, ((if_neg c_9).trans (wiT c_19 _ _ rfl)).symm, HL1, fr1⟩
    ·
      refine g_aload_n (q := 23) C dX8_answer_22 rfl rfl ?_
      refine g_getfield (v := .ref 124) (q := 26) C fX8_13 dX8_answer_23 rfl HL1.1 rfl ?_
      refine g_iload_n (q := 27) C dX8_answer_26 rfl rfl ?_
      obtain ⟨n, -, hn, ey⟩ := gWi (a := 0) (b := 8) (by decide) (by decide) c_19
      refine g_ialoadN (x := (M.a 1 n)) (j := n) (q := 28) C dX8_answer_27 rfl (HL1.ar (i := 1) (n := 9) (by decide) rfl) (pk_in n 9 (by omega) ey) (pk_cl n ey (by omega)) gset_a ?_
      refine g_goto (q := 32) C dX8_answer_28 (by decide) ?_
      exact E.1 _ _ _ _ _ _ _ dX8_answer_32 rfl rfl (Nat.le_of_ble_eq_true rfl) (Nat.le_of_ble_eq_true rfl) ⟨_, rfl, (((if_neg c_9).trans (wiF c_19 _ _)).trans (by rw [ey, nI_clamp (by omega)])).symm, HL1, fr1⟩
set_option maxRecDepth 100000 in
set_option maxHeartbeats 4000000 in
theorem c_X8_historicalx_r {hp : List gA} {M : gMd} {y : Int32} (HM : gMod hp M) (ht : gIr (M.a 1 6) 15) : gM yX8_historical cX8_historical 2 ((some .int)) 1 22 [.ref 122, .int y] (hp) (0) (0) (fun v h => ∃ x, v = some (.int x) ∧ x = (if M.f 3 = 0 then -1 else if y < 0 then -1 else if M.a 1 6 - 1 < y then -1 else M.a 3 y.toNatClampNeg) ∧ gMod h (M.set 2 0) ∧ gFM hp h) := by
  refine gM_of (ls0 := [some (.ref 122), some (.int y)]) (by decide +kernel) (Nat.le_of_ble_eq_true rfl) rfl fun X C E => ?_
  refine g_aload_n (q := 1) C dX8_historical_0 rfl rfl ?_
  refine g_iconst (v := 0) (q := 2) C dX8_historical_1 (by decide) rfl ?_
  refine g_putfield (q := 5) C fX8_66 dX8_historical_2 rfl HM.1 (Nat.le_of_ble_eq_true rfl) (Or.inl rfl) rfl rfl (by intro z h; cases h) ?_
  refine gMput (j := 2) (x := 0) HM rfl fun h1 HL1 fr1 => ?_
  refine g_aload_n (q := 6) C dX8_historical_5 rfl rfl ?_
  refine g_getfield (v := .int ((M.f 3))) (q := 9) C fX8_134 dX8_historical_6 rfl HL1.1 rfl ?_
  refine g_if_eq (t := 38) (q := 12) C dX8_historical_9 (by decide) rfl (fun c_9 => ?_) (fun c_9 => ?_)
  ·
    refine g_iconst (v := (-1)) (q := 39) C dX8_historical_38 (by decide) rfl ?_
    exact E.1 _ _ _ _ _ _ _ dX8_historical_39 rfl rfl (Nat.le_of_ble_eq_true rfl) (Nat.le_of_ble_eq_true rfl) ⟨_, rfl, (if_pos c_9).symm, HL1, fr1⟩
  ·
    refine g_iload_n (q := 13) C dX8_historical_12 rfl rfl ?_
    refine g_iconst (v := 0) (q := 14) C dX8_historical_13 (by decide) rfl ?_
    refine g_aload_n (q := 15) C dX8_historical_14 rfl rfl ?_
    refine g_getfield (v := .ref 124) (q := 18) C fX8_13 dX8_historical_15 rfl HL1.1 rfl ?_
    refine g_bipush (v := 6) (q := 20) C dX8_historical_18 (by decide) rfl ?_
    refine g_ialoadN (x := (M.a 1 6)) (j := 6) (q := 21) C dX8_historical_20 rfl (HL1.ar (i := 1) (n := 9) (by decide) rfl) (pk_in 6 9 (by decide)) (pk_cl 6) gset_a ?_
    refine g_iconst (v := 1) (q := 22) C dX8_historical_21 (by decide) rfl ?_
    refine g_isub (q := 23) C dX8_historical_22 rfl ?_
    refine g_callSi (x := (rX8_within y 0 ((M.a 1 6) - 1))) (q := 26) (As := [.int y, .int 0, .int (((M.a 1 6) - 1))]) C gyX8_within t_1212 t_1211 (c_X8_within_m) dX8_historical_23 rfl rfl rfl (Nat.le_of_ble_eq_true rfl) (Nat.le_of_ble_eq_true rfl) (Nat.le_of_ble_eq_true rfl) (Nat.le_of_ble_eq_true rfl) (Nat.le_of_ble_eq_true rfl) rfl ?_
    refine g_if_eq (t := 38) (q := 29) C dX8_historical_26 (by decide) rfl (fun c_26 => ?_) (fun c_26 => ?_)
    ·
      refine g_iconst (v := (-1)) (q := 39) C dX8_historical_38 (by decide) rfl ?_
      exact E.1 _ _ _ _ _ _ _ dX8_historical_39 rfl rfl (Nat.le_of_ble_eq_true rfl) (Nat.le_of_ble_eq_true rfl) ⟨_, rfl, ((if_neg c_9).trans (wiT c_26 _ _ rfl)).symm, HL1, fr1⟩
    ·
      refine g_aload_n (q := 30) C dX8_historical_29 rfl rfl ?_
      refine g_getfield (v := .ref 126) (q := 33) C fX8_19 dX8_historical_30 rfl HL1.1 rfl ?_
      refine g_iload_n (q := 34) C dX8_historical_33 rfl rfl ?_
      obtain ⟨m9, hm9, em9⟩ := ht
      obtain ⟨n, hn, ey⟩ := gWj (by omega) em9 c_26
      refine g_ialoadN (x := (M.a 3 n)) (j := n) (q := 35) C dX8_historical_34 rfl (HL1.ar (i := 3) (n := 15) (by decide) rfl) (pk_in n 15 (by omega) ey) (pk_cl n ey (by omega)) gset_a ?_
      refine g_goto (q := 39) C dX8_historical_35 (by decide) ?_
      exact E.1 _ _ _ _ _ _ _ dX8_historical_39 rfl rfl (Nat.le_of_ble_eq_true rfl) (Nat.le_of_ble_eq_true rfl) ⟨_, rfl, (((if_neg c_9).trans (wiF c_26 _ _)).trans (by rw [ey, nI_clamp (by omega)])).symm, HL1, fr1⟩
theorem gfa {M : gMd} {f : Nat → Int32} {v : Int32} {q : Nat} : ((M.arr 0 f).set 1 v).a 0 q = f q := (show (M.arr 0 f).a 0 q = f q from garr_s)
/-- the byte at place k of the eight, in the reference's words -/
def mB (a : Int64) (d : Nat) : Int32 := ((a >>> (((nI (8 * (d + 1)) - 8) : Int32).toInt64 &&& 63))).toInt32 &&& 255
set_option maxRecDepth 100000 in
set_option maxHeartbeats 4000000 in
theorem c_X8_eightx_r {hp : List gA} {M : gMd} {L : Nat} {a : Int64} (HM : gMod hp M) (hl : M.f 1 = nI L) (hL : L + 8 ≤ 96) (hb : ∀ q, gIr (M.a 0 q) 255) : gM yX8_eight cX8_eight 4 (none) 0 0 [.ref 122, .long a] (hp) (0) (0) (fun v h => v = none ∧ ∃ f, ((∀ q, gIr (f q) 255) ∧ (∀ q, q < L → f q = M.a 0 q) ∧ ∀ k, k < 8 → f (L + k) = mB a (7 - k)) ∧ gMod h ((M.arr 0 f).set 1 (nI (L + 8))) ∧ gFM hp h) := by
  refine gM_of (ls0 := [some (.ref 122), some (.long a), none, none]) (by decide +kernel) (Nat.le_of_ble_eq_true rfl) rfl fun X C E => ?_
  refine g_bipush (v := 56) (q := 2) C dX8_eight_0 (by decide) rfl ?_
  refine g_istore_n (q := 3) C dX8_eight_2 (Nat.le_of_ble_eq_true rfl) (by simp only [gset]; rfl) rfl ?_
  have LL : ∀ (d k : Nat) (f : Nat → Int32) (hz : List gA), k + d = 8 → gMod hz ((M.arr 0 f).set 1 (nI (L + k))) → gFM hp hz → ((∀ q, gIr (f q) 255) ∧ (∀ q, q < L → f q = M.a 0 q) ∧ ∀ j, j < k → f (L + j) = mB a (7 - j)) → gG X 3 [some (.ref 122), some (.long a), none, some (.int ((nI (8 * d) - 8)))] [] hz 0 0 := by
    intro d
    induction d with
    | zero =>
      intro k f hz hk HZ frz hf
      obtain rfl : k = 8 := by omega
      refine g_iload_n (q := 4) C dX8_eight_3 rfl rfl ?_
      refine g_if_lt_t (t := 40) C dX8_eight_4 (by decide) (by decide) ?_
      exact E.2.1 _ _ _ _ _ dX8_eight_40 rfl (Nat.le_of_ble_eq_true rfl) (Nat.le_of_ble_eq_true rfl) ⟨rfl, f, hf, HZ, frz⟩
    | succ d ih =>
      intro k f hz hk HZ frz hf
      refine g_iload_n (q := 4) C dX8_eight_3 rfl rfl ?_
      refine g_if_lt_f (t := 40) (q := 7) C dX8_eight_4 (by decide) rfl (by rw [g8p]; exact nI_pos (by omega)) ?_
      refine g_aload_n (q := 8) C dX8_eight_7 rfl rfl ?_
      refine g_getfield (v := .ref 123) (q := 11) C fX8_7 dX8_eight_8 rfl HZ.1 rfl ?_
      refine g_aload_n (q := 12) C dX8_eight_11 rfl rfl ?_
      refine g_getfield (v := .int ((nI (L + k)))) (q := 15) C fX8_75 dX8_eight_12 rfl HZ.1 rfl ?_
      refine g_lload_n (q := 16) C dX8_eight_15 rfl rfl ?_
      refine g_iload_n (q := 17) C dX8_eight_16 rfl rfl ?_
      refine g_lshr (q := 18) C dX8_eight_17 rfl ?_
      refine g_l2i (q := 19) C dX8_eight_18 rfl ?_
      refine g_sipush (v := 255) (q := 22) C dX8_eight_19 (by decide) rfl ?_
      refine g_iand (q := 23) C dX8_eight_22 rfl ?_
      refine g_iastoreN (j := (L + k)) (q := 24) C dX8_eight_23 rfl (HZ.ar (i := 0) (n := 96) (by decide) rfl) (pk_in (L + k) 96 (by omega)) (pk_cl (L + k) rfl (by omega)) ?_
      refine gMsto (i := 0) (j := (L + k)) (x := (((a >>> (((nI (8 * (d + 1)) - 8) : Int32).toInt64 &&& 63))).toInt32 &&& 255)) HZ (by decide) rfl rfl fun h1 HL1 fr1 => ?_
      refine g_aload_n (q := 25) C dX8_eight_24 rfl rfl ?_
      refine g_dup (q := 26) C dX8_eight_25 rfl rfl ?_
      refine g_getfield (v := .int ((nI (L + k)))) (q := 29) C fX8_75 dX8_eight_26 rfl HL1.1 rfl ?_
      refine g_iconst (v := 1) (q := 30) C dX8_eight_29 (by decide) rfl ?_
      refine g_iadd (q := 31) C dX8_eight_30 rfl ?_
      refine g_putfield (q := 34) C fX8_75 dX8_eight_31 rfl HL1.1 (Nat.le_of_ble_eq_true rfl) (Or.inl rfl) rfl rfl (by intro z h; cases h) ?_
      refine gMput (j := 1) (x := ((nI (L + k)) + 1)) HL1 rfl fun h2 HL2 fr2 => ?_
      refine g_iinc (v := (nI (8 * d) - 8)) (q := 37) C dX8_eight_34 rfl (by rw [g8p, Int32.sub_eq_add_neg]; rfl) (by simp only [gset]; rfl) rfl ?_
      have HN := HL2
      rw [gE8, nI_1, Nat.add_assoc] at HN
      refine g_goto (q := 3) C dX8_eight_37 (by decide) ?_
      exact ih (k + 1) _ _ (by omega) HN (gFM.trans (gFM.trans frz fr1) fr2) ⟨fun q => by
        by_cases c : q = L + k
        · subst c; rw [pk_us]; exact (gmask _ (m := 255) (by decide)).imp fun _ h => ⟨h.1, h.2⟩
        · rw [pk_un c]; exact hf.1 q, fun q hq => by rw [pk_un (show ¬ q = L + k by omega)]; exact hf.2.1 q hq, fun j hj => by
        by_cases c : j = k
        · subst c
          rw [pk_us, show 7 - j = d by omega]; rfl
        · rw [pk_un (show ¬ L + j = L + k by omega)]; exact hf.2.2 j (by omega)⟩
  exact LL 8 0 (M.a 0) hp rfl (by rw [garr_id, Nat.add_zero, ← hl, gset_id]; exact HM) gFM.rf ⟨hb, fun _ _ => rfl, fun j hj => absurd hj (Nat.not_lt_zero j)⟩
set_option maxRecDepth 100000 in
set_option maxHeartbeats 4000000 in
theorem c_X8_feedx_r {hp : List gA} {M : gMd} {L : Nat} {a b : Int64} (HM : gMod hp M) (hl : M.f 1 = nI L) (hL : L ≤ 96) (hb : ∀ q, gIr (M.a 0 q) 255) : gM yX8_feed cX8_feed 5 ((some .int)) 1 23 [.ref 122, .long a, .long b] (hp) (0) (0) (fun v h => ∃ x, v = some (.int x) ∧ ((96 < L + 16 ∧ x = -1 ∧ gMod h (M.set 2 0) ∧ gFM hp h) ∨ (¬ 96 < L + 16 ∧ x = nI (L + 8 + 8) ∧ ∃ f, ((∀ q, gIr (f q) 255) ∧ (∀ q, q < L → f q = M.a 0 q) ∧ (∀ k, k < 8 → f (L + k) = mB a (7 - k)) ∧ ∀ k, k < 8 → f (L + 8 + k) = mB b (7 - k)) ∧ gMod h (((M.set 2 0).arr 0 f).set 1 (nI (L + 8 + 8))) ∧ gFM hp h))) := by
  refine gM_of (ls0 := [some (.ref 122), some (.long a), none, some (.long b), none]) (by decide +kernel) (Nat.le_of_ble_eq_true rfl) rfl fun X C E => ?_
  by_cases hc : 96 < L + 16
  ·
    refine g_aload_n (q := 1) C dX8_feed_0 rfl rfl ?_
    refine g_iconst (v := 0) (q := 2) C dX8_feed_1 (by decide) rfl ?_
    refine g_putfield (q := 5) C fX8_66 dX8_feed_2 rfl HM.1 (Nat.le_of_ble_eq_true rfl) (Or.inl rfl) rfl rfl (by intro z h; cases h) ?_
    refine gMput (j := 2) (x := 0) HM rfl fun h1 HL1 fr1 => ?_
    refine g_aload_n (q := 6) C dX8_feed_5 rfl rfl ?_
    refine g_getfield (v := .int ((M.f 1))) (q := 9) C fX8_75 dX8_feed_6 rfl HL1.1 rfl ?_
    refine g_bipush (v := 16) (q := 11) C dX8_feed_9 (by decide) rfl ?_
    refine g_iadd (q := 12) C dX8_feed_11 rfl ?_
    refine g_bipush (v := 96) (q := 14) C dX8_feed_12 (by decide) rfl ?_
    rw [show ((M.f 1) + 16) = nI (L + 16) from by rw [hl, show (16 : Int32) = nI 16 from rfl, nI_add]]
    refine g_icmp_le_f (t := 19) (q := 17) C dX8_feed_14 (by decide) rfl (nI_ge (a := 96) hc (by omega)) ?_
    refine g_iconst (v := (-1)) (q := 18) C dX8_feed_17 (by decide) rfl ?_
    exact E.1 _ _ _ _ _ _ _ dX8_feed_18 rfl rfl (Nat.le_of_ble_eq_true rfl) (Nat.le_of_ble_eq_true rfl) ⟨_, rfl, Or.inl ⟨hc, rfl, HL1, fr1⟩⟩
  ·
    refine g_aload_n (q := 1) C dX8_feed_0 rfl rfl ?_
    refine g_iconst (v := 0) (q := 2) C dX8_feed_1 (by decide) rfl ?_
    refine g_putfield (q := 5) C fX8_66 dX8_feed_2 rfl HM.1 (Nat.le_of_ble_eq_true rfl) (Or.inl rfl) rfl rfl (by intro z h; cases h) ?_
    refine gMput (j := 2) (x := 0) HM rfl fun h2 HL2 fr2 => ?_
    refine g_aload_n (q := 6) C dX8_feed_5 rfl rfl ?_
    refine g_getfield (v := .int ((M.f 1))) (q := 9) C fX8_75 dX8_feed_6 rfl HL2.1 rfl ?_
    refine g_bipush (v := 16) (q := 11) C dX8_feed_9 (by decide) rfl ?_
    refine g_iadd (q := 12) C dX8_feed_11 rfl ?_
    refine g_bipush (v := 96) (q := 14) C dX8_feed_12 (by decide) rfl ?_
    rw [show ((M.f 1) + 16) = nI (L + 16) from by rw [hl, show (16 : Int32) = nI 16 from rfl, nI_add]]
    refine g_icmp_le_t (t := 19) C dX8_feed_14 (by decide) (nI_le (b := 96) (by omega) (by decide)) ?_
    refine g_aload_n (q := 20) C dX8_feed_19 rfl rfl ?_
    refine g_lload_n (q := 21) C dX8_feed_20 rfl rfl ?_
    refine g_callVvp (q := 24) (As := [.long a]) C gyX8_eight gvX8_eight t_1203 (c_X8_eightx_r (L := L) HL2 hl (by omega) hb) dX8_feed_21 rfl HL2.1 rfl rfl rfl (Nat.le_of_ble_eq_true rfl) (Nat.le_of_ble_eq_true rfl) (Nat.le_of_ble_eq_true rfl) (Nat.le_of_ble_eq_true rfl) (Nat.le_of_ble_eq_true rfl) rfl (fun h3 z3 => ?_)
    obtain ⟨f1, hf1, HF1, frf1⟩ := z3
    refine g_aload_n (q := 25) C dX8_feed_24 rfl rfl ?_
    refine g_lload_n (q := 26) C dX8_feed_25 rfl rfl ?_
    refine g_callVvp (q := 29) (As := [.long b]) C gyX8_eight gvX8_eight t_1203 (c_X8_eightx_r (L := L + 8) HF1 gset_s (by omega) (fun q => by rw [gset_a, garr_s]; exact hf1.1 q)) dX8_feed_26 rfl HF1.1 rfl rfl rfl (Nat.le_of_ble_eq_true rfl) (Nat.le_of_ble_eq_true rfl) (Nat.le_of_ble_eq_true rfl) (Nat.le_of_ble_eq_true rfl) (Nat.le_of_ble_eq_true rfl) rfl (fun h4 z4 => ?_)
    obtain ⟨f2, hf2, HF2, frf2⟩ := z4
    refine g_aload_n (q := 30) C dX8_feed_29 rfl rfl ?_
    refine g_getfield (v := .int ((nI ((L + 8) + 8)))) (q := 33) C fX8_75 dX8_feed_30 rfl HF2.1 rfl ?_
    exact E.1 _ _ _ _ _ _ _ dX8_feed_33 rfl rfl (Nat.le_of_ble_eq_true rfl) (Nat.le_of_ble_eq_true rfl) ⟨_, rfl, Or.inr ⟨hc, rfl, f2, ⟨hf2.1, fun q hq => ((hf2.2.1 q (by omega)).trans gfa).trans (hf1.2.1 q hq), fun k hk => ((hf2.2.1 (L + k) (by omega)).trans gfa).trans (hf1.2.2 k hk), hf2.2.2⟩, (by have HN := HF2; rw [gFd] at HN; exact HN), (gFM.trans (gFM.trans fr2 frf1) frf2)⟩⟩
section WX
variable {hp : List gA} {M : gMd} {n : Nat} {y : Int32} {a b : Int64} {t : List Int32} {Q : rq}
theorem w_answer (HM : gMod hp M) (W : kW M n) : gM yX8_answer cX8_answer 2 (some .int) 1 22 [.ref 122, .int y] hp 0 0 (fun v h => ∃ x, v = some (.int x) ∧ ∃ M', gMod h M' ∧ gFM hp h ∧ kW M' (n + 1) ∧ x = (if M.f 3 = 0 then -1 else if y < 0 then -1 else if 8 < y then -1 else M.a 1 y.toNatClampNeg) ∧ M'.f 1 = M.f 1 ∧ M'.f 9 = M.f 9 ∧ M'.f 3 = M.f 3 ∧ ∀ i q, i = 0 ∨ i = 1 ∨ i = 3 → M'.a i q = M.a i q) := by
  refine (c_X8_answerx_r HM).mp fun v h hv => ?_
  obtain ⟨x, rfl, hx, h1, h2⟩ := hv
  exact ⟨x, rfl, _, h1, h2, W.q, hx, gset_n (by decide), gset_n (by decide), gset_n (by decide), fun _ _ _ => rfl⟩

theorem w_historical (HM : gMod hp M) (W : kW M n) : gM yX8_historical cX8_historical 2 (some .int) 1 22 [.ref 122, .int y] hp 0 0 (fun v h => ∃ x, v = some (.int x) ∧ ∃ M', gMod h M' ∧ gFM hp h ∧ kW M' (n + 1) ∧ x = (if M.f 3 = 0 then -1 else if y < 0 then -1 else if M.a 1 6 - 1 < y then -1 else M.a 3 y.toNatClampNeg) ∧ M'.f 1 = M.f 1 ∧ M'.f 9 = M.f 9 ∧ M'.f 3 = M.f 3 ∧ ∀ i q, i = 0 ∨ i = 1 ∨ i = 3 → M'.a i q = M.a i q) := by
  refine (c_X8_historicalx_r HM W.2.2.2.1).mp fun v h hv => ?_
  obtain ⟨x, rfl, hx, h1, h2⟩ := hv
  exact ⟨x, rfl, _, h1, h2, W.q, hx, gset_n (by decide), gset_n (by decide), gset_n (by decide), fun _ _ _ => rfl⟩

theorem w_feed (HM : gMod hp M) (W : kW M n) : gM yX8_feed cX8_feed 5 (some .int) 1 23 [.ref 122, .long a, .long b] hp 0 0 (fun v h => ∃ x, v = some (.int x) ∧ ∃ M', gMod h M' ∧ gFM hp h ∧ kW M' (n + 1) ∧ M'.f 9 = M.f 9 ∧ (M'.f 3 = M.f 3 ∧ ∀ i q, i = 1 ∨ i = 3 → M'.a i q = M.a i q) ∧ ∀ L, L ≤ 96 → M.f 1 = nI L → (96 < L + 16 ∧ x = -1 ∧ M'.f 1 = nI L ∧ ∀ q, M'.a 0 q = M.a 0 q) ∨ (¬ 96 < L + 16 ∧ x = nI (L + 16) ∧ M'.f 1 = nI (L + 16) ∧ (∀ q, q < L → M'.a 0 q = M.a 0 q) ∧ (∀ k, k < 8 → M'.a 0 (L + k) = mB a (7 - k)) ∧ ∀ k, k < 8 → M'.a 0 (L + 8 + k) = mB b (7 - k))) := by
  obtain ⟨⟨L, w1, w2, w3⟩, w7, w8⟩ := id W
  refine (c_X8_feedx_r HM w2 w1 w7).mp fun v h hv => ?_
  obtain ⟨x, rfl, hv⟩ := hv
  have eL : ∀ L', L' ≤ 96 → M.f 1 = nI L' → L' = L := fun L' h1 h2 => nI_inj (by omega) (by omega) (h2.symm.trans w2)
  rcases hv with ⟨h0, ex, h1, h2⟩ | ⟨h0, ex, f, hf, h1, h2⟩
  · refine ⟨x, rfl, _, h1, h2, W.q, gset_n (by decide), ⟨gset_n (by decide), fun _ _ _ => rfl⟩, fun L' g1 g2 => Or.inl ?_⟩
    rw [eL L' g1 g2]
    exact ⟨h0, ex, (gset_n (by decide)).trans w2, fun _ => rfl⟩
  · refine ⟨x, rfl, _, h1, h2, ?_, rfl, ⟨rfl, fun i q hi => garr_o (show ¬ i = 0 by omega)⟩, fun L' g1 g2 => Or.inr ?_⟩
    · refine W.cg (L' := L + 16) gset_s (fun L2 e h => Or.inr (by rw [eL L2 h e]; omega)) (by omega) ?_ rfl rfl rfl w8.1 rfl (fun q => ?_) rfl fun i q hi => ?_
      · obtain ⟨l, E, b, J, -⟩ := W.j
        rw [show (((M.set 2 0).arr 0 f).set 1 (nI (L + 8 + 8))).f 9 = M.f 9 from rfl]
        exact J.2.2.1
      · rw [show (((M.set 2 0).arr 0 f).set 1 (nI (L + 8 + 8))).a 0 q = ((M.set 2 0).arr 0 f).a 0 q from rfl, garr_s]; exact hf.1 q
      · exact garr_o (by omega)
    · rw [eL L' g1 g2]
      exact ⟨h0, ex, gset_s, fun q hq => gfa.trans (hf.2.1 q hq), fun k hk => gfa.trans (hf.2.2.1 k hk), fun k hk => gfa.trans (hf.2.2.2 k hk)⟩

theorem w_reset (HM : gMod hp M) (W : kW M n) (ht : M.f 1 = nI t.length) (hl : t.length ≤ 96) (hc : ∀ q, q < t.length → M.a 0 q = t.getD q 0) : gM yX8_reset cX8_reset 4 (some .int) 5 111 [.ref 122] hp 0 0 (fun v h => ∃ x, v = some (.int x) ∧ ∃ M', gMod h M' ∧ gFM hp h ∧ kW M' (n + 1) ∧ M'.f 1 = 0 ∧ M'.f 9 = M.f 9 ∧ rOut t Q M M' x) := by
  obtain ⟨⟨L, w1, w2, w3⟩, w7, w8⟩ := id W
  refine (c_X8_resetx_r (Q := Q) HM ht hl hc w7).mp fun v h hv => ?_
  obtain ⟨x, rfl, M', h1, h2, ⟨e1, hv⟩, hr⟩ := hv
  rcases hv with ⟨g1, g2⟩ | ⟨M1, w', c, v1, v2, v3, v4, v5, v6, v7, rfl⟩
  · have f9 := g1 9 (by decide) (by decide) (by decide) (by decide) (by decide) (by decide) (by decide)
    obtain ⟨l, E, b, J, -⟩ := W.j
    refine ⟨x, rfl, M', h1, h2, W.cg (L' := 0) e1 (fun _ _ _ => Or.inl (Nat.zero_le _)) (by decide) (by rw [f9]; exact J.2.2.1) (g1 12 (by decide) (by decide) (by decide) (by decide) (by decide) (by decide) (by decide)) (g1 13 (by decide) (by decide) (by decide) (by decide) (by decide) (by decide) (by decide)) (g1 18 (by decide) (by decide) (by decide) (by decide) (by decide) (by decide) (by decide)) ((g1 19 (by decide) (by decide) (by decide) (by decide) (by decide) (by decide) (by decide)).trans w8.1) (g1 38 (by decide) (by decide) (by decide) (by decide) (by decide) (by decide) (by decide)) (fun q => by rw [g2 0 q (by decide)]; exact w7 q) (g2 1 6 (by decide)) fun i q hi => g2 i q (by omega), e1, f9, hr⟩
  · exact ⟨x, rfl, _, h1, h2, W.rst ⟨v1, v2⟩ v3 e1 v5 v6 v7, e1, (kBegf (by decide) (by decide)).trans (v5 9 (by decide) (by decide) (by decide) (by decide) (by decide) (by decide) (by decide) (by decide)), hr⟩
end WX
