/-! the reference: fed (by program: wip/p2/m_nb.py) -/
theorem g8p {d : Nat} : nI (8 * (d + 1)) - 8 = nI (8 * d) := by
  rw [show (8 : Int32) = nI 8 from rfl, pk_sub (by omega)]; rfl
theorem gset_id {M : gMd} {j : Nat} : M.set j (M.f j) = M := by
  have : (fun k => if k = j then M.1 j else M.1 k) = M.1 := by
    funext k
    by_cases c : k = j
    · subst c; exact if_pos rfl
    · exact if_neg c
  exact Prod.ext this rfl
theorem gE8 {M : gMd} {f : Nat → Int32} {i j n : Nat} {x y v : Int32} : (((M.arr i f).set n x).put i j v).set n y = (M.arr i (upd f j v)).set n y := by
  have h1 : (fun k => if k = n then y else (if k = n then x else M.1 k)) = (fun k => if k = n then y else M.1 k) := by
    funext k
    by_cases c : k = n
    · rw [if_pos c, if_pos c]
    · rw [if_neg c, if_neg c, if_neg c]
  have e := congrArg (fun z : gMd => z.2) (garr_put (M := M) (i := i) (j := j) (f := f) (x := v))
  have h2 : ((((M.arr i f).set n x).put i j v).set n y).2 = ((M.arr i (upd f j v)).set n y).2 := e
  exact Prod.ext h1 h2
theorem dX8_eight_0 : decode cX8_eight 0 = .ok (.bipush 56, 2) := by decide +kernel
theorem dX8_eight_2 : decode cX8_eight 2 = .ok (.istore_n 3, 1) := by decide +kernel
theorem dX8_eight_3 : decode cX8_eight 3 = .ok (.iload_n 3, 1) := by decide +kernel
theorem dX8_eight_4 : decode cX8_eight 4 = .ok (.ifCond .lt 36, 3) := by decide +kernel
theorem dX8_eight_7 : decode cX8_eight 7 = .ok (.aload_n 0, 1) := by decide +kernel
theorem dX8_eight_8 : decode cX8_eight 8 = .ok (.getfield 7, 3) := by decide +kernel
theorem dX8_eight_11 : decode cX8_eight 11 = .ok (.aload_n 0, 1) := by decide +kernel
theorem dX8_eight_12 : decode cX8_eight 12 = .ok (.getfield 75, 3) := by decide +kernel
theorem dX8_eight_15 : decode cX8_eight 15 = .ok (.lload_n 1, 1) := by decide +kernel
theorem dX8_eight_16 : decode cX8_eight 16 = .ok (.iload_n 3, 1) := by decide +kernel
theorem dX8_eight_17 : decode cX8_eight 17 = .ok (.lshr, 1) := by decide +kernel
theorem dX8_eight_18 : decode cX8_eight 18 = .ok (.l2i, 1) := by decide +kernel
theorem dX8_eight_19 : decode cX8_eight 19 = .ok (.sipush 255, 3) := by decide +kernel
theorem dX8_eight_22 : decode cX8_eight 22 = .ok (.iand, 1) := by decide +kernel
theorem dX8_eight_23 : decode cX8_eight 23 = .ok (.iastore, 1) := by decide +kernel
theorem dX8_eight_24 : decode cX8_eight 24 = .ok (.aload_n 0, 1) := by decide +kernel
theorem dX8_eight_25 : decode cX8_eight 25 = .ok (.dup, 1) := by decide +kernel
theorem dX8_eight_26 : decode cX8_eight 26 = .ok (.getfield 75, 3) := by decide +kernel
theorem dX8_eight_29 : decode cX8_eight 29 = .ok (.iconst 1, 1) := by decide +kernel
theorem dX8_eight_30 : decode cX8_eight 30 = .ok (.iadd, 1) := by decide +kernel
theorem dX8_eight_31 : decode cX8_eight 31 = .ok (.putfield 75, 3) := by decide +kernel
theorem dX8_eight_34 : decode cX8_eight 34 = .ok (.iinc 3 (-8), 3) := by decide +kernel
theorem dX8_eight_37 : decode cX8_eight 37 = .ok (.goto (-34), 3) := by decide +kernel
theorem dX8_eight_40 : decode cX8_eight 40 = .ok (.return_, 1) := by decide +kernel
set_option maxRecDepth 100000 in
set_option maxHeartbeats 4000000 in
theorem c_X8_eight_r {hp : List gA} {M : gMd} {L : Nat} {a : Int64} (HM : gMod hp M) (hl : M.f 1 = nI L) (hL : L + 8 ≤ 96) (hb : ∀ q, gIr (M.a 0 q) 255) : gM yX8_eight cX8_eight 4 (none) 0 0 [.ref 122, .long a] (hp) (0) (0) (fun v h => v = none ∧ ∃ f, (∀ q, gIr (f q) 255) ∧ gMod h ((M.arr 0 f).set 1 (nI (L + 8))) ∧ gFM hp h) := by
  refine gM_of (ls0 := [some (.ref 122), some (.long a), none, none]) (by decide +kernel) (Nat.le_of_ble_eq_true rfl) rfl fun X C E => ?_
  refine g_bipush (v := 56) (q := 2) C dX8_eight_0 (by decide) rfl ?_
  refine g_istore_n (q := 3) C dX8_eight_2 (Nat.le_of_ble_eq_true rfl) (by simp only [gset]; rfl) rfl ?_
  have LL : ∀ (d k : Nat) (f : Nat → Int32) (hz : List gA), k + d = 8 → gMod hz ((M.arr 0 f).set 1 (nI (L + k))) → gFM hp hz → (∀ q, gIr (f q) 255) → gG X 3 [some (.ref 122), some (.long a), none, some (.int ((nI (8 * d) - 8)))] [] hz 0 0 := by
    intro d
    induction d with
    | zero =>
      intro k f hz hk HZ frz hf
      obtain rfl : k = 8 := by omega
      refine g_iload_n (q := 4) C dX8_eight_3 rfl rfl ?_
      refine g_if_lt_t (t := 40) C dX8_eight_4 (by decide) (by decide) ?_
      exact E.2.1 _ _ _ _ _ dX8_eight_40 rfl (Nat.le_of_ble_eq_true rfl) (Nat.le_of_ble_eq_true rfl) ⟨rfl, f, hf, HZ, frz⟩
    | succ d ih =>
      intro k f hz hk HZ frz hf
      refine g_iload_n (q := 4) C dX8_eight_3 rfl rfl ?_
      refine g_if_lt_f (t := 40) (q := 7) C dX8_eight_4 (by decide) rfl (by rw [g8p]; exact nI_pos (by omega)) ?_
      refine g_aload_n (q := 8) C dX8_eight_7 rfl rfl ?_
      refine g_getfield (v := .ref 123) (q := 11) C fX8_7 dX8_eight_8 rfl HZ.1 rfl ?_
      refine g_aload_n (q := 12) C dX8_eight_11 rfl rfl ?_
      refine g_getfield (v := .int ((nI (L + k)))) (q := 15) C fX8_75 dX8_eight_12 rfl HZ.1 rfl ?_
      refine g_lload_n (q := 16) C dX8_eight_15 rfl rfl ?_
      refine g_iload_n (q := 17) C dX8_eight_16 rfl rfl ?_
      refine g_lshr (q := 18) C dX8_eight_17 rfl ?_
      refine g_l2i (q := 19) C dX8_eight_18 rfl ?_
      refine g_sipush (v := 255) (q := 22) C dX8_eight_19 (by decide) rfl ?_
      refine g_iand (q := 23) C dX8_eight_22 rfl ?_
      refine g_iastoreN (j := (L + k)) (q := 24) C dX8_eight_23 rfl (HZ.ar (i := 0) (n := 96) (by decide) rfl) (pk_in (L + k) 96 (by omega)) (pk_cl (L + k) rfl (by omega)) ?_
      refine gMsto (i := 0) (j := (L + k)) (x := (((a >>> (((nI (8 * (d + 1)) - 8) : Int32).toInt64 &&& 63))).toInt32 &&& 255)) HZ (by decide) rfl rfl fun h1 HL1 fr1 => ?_
      refine g_aload_n (q := 25) C dX8_eight_24 rfl rfl ?_
      refine g_dup (q := 26) C dX8_eight_25 rfl rfl ?_
      refine g_getfield (v := .int ((nI (L + k)))) (q := 29) C fX8_75 dX8_eight_26 rfl HL1.1 rfl ?_
      refine g_iconst (v := 1) (q := 30) C dX8_eight_29 (by decide) rfl ?_
      refine g_iadd (q := 31) C dX8_eight_30 rfl ?_
      refine g_putfield (q := 34) C fX8_75 dX8_eight_31 rfl HL1.1 (Nat.le_of_ble_eq_true rfl) (Or.inl rfl) rfl rfl (by intro z h; cases h) ?_
      refine gMput (j := 1) (x := ((nI (L + k)) + 1)) HL1 rfl fun h2 HL2 fr2 => ?_
      refine g_iinc (v := (nI (8 * d) - 8)) (q := 37) C dX8_eight_34 rfl (by rw [g8p, Int32.sub_eq_add_neg]; rfl) (by simp only [gset]; rfl) rfl ?_
      have HN := HL2
      rw [gE8, nI_1, Nat.add_assoc] at HN
      refine g_goto (q := 3) C dX8_eight_37 (by decide) ?_
      exact ih (k + 1) _ _ (by omega) HN (gFM.trans (gFM.trans frz fr1) fr2) (fun q => by
        by_cases c : q = L + k
        · subst c; rw [pk_us]; exact (gmask _ (m := 255) (by decide)).imp fun _ h => ⟨h.1, h.2⟩
        · rw [pk_un c]; exact hf q)
  exact LL 8 0 (M.a 0) hp rfl (by rw [garr_id, Nat.add_zero, ← hl, gset_id]; exact HM) gFM.rf hb
  
theorem gFd {M : gMd} {f g : Nat → Int32} {x y : Int32} : ((((M.arr 0 f).set 1 x).arr 0 g).set 1 y) = (M.arr 0 g).set 1 y := by
  have h1 : (fun k => if k = 1 then y else (if k = 1 then x else M.1 k)) = (fun k => if k = 1 then y else M.1 k) := by
    funext k
    by_cases c : k = 1
    · rw [if_pos c, if_pos c]
    · rw [if_neg c, if_neg c, if_neg c]
  have h2 : (fun i => if i = 0 then g else (if i = 0 then f else M.2 i)) = (fun i => if i = 0 then g else M.2 i) := by
    funext k
    by_cases c : k = 0
    · rw [if_pos c, if_pos c]
    · rw [if_neg c, if_neg c, if_neg c]
  exact Prod.ext h1 h2
theorem dX8_feed_0 : decode cX8_feed 0 = .ok (.aload_n 0, 1) := by decide +kernel
theorem dX8_feed_1 : decode cX8_feed 1 = .ok (.iconst 0, 1) := by decide +kernel
theorem dX8_feed_2 : decode cX8_feed 2 = .ok (.putfield 66, 3) := by decide +kernel
theorem dX8_feed_5 : decode cX8_feed 5 = .ok (.aload_n 0, 1) := by decide +kernel
theorem dX8_feed_6 : decode cX8_feed 6 = .ok (.getfield 75, 3) := by decide +kernel
theorem dX8_feed_9 : decode cX8_feed 9 = .ok (.bipush 16, 2) := by decide +kernel
theorem dX8_feed_11 : decode cX8_feed 11 = .ok (.iadd, 1) := by decide +kernel
theorem dX8_feed_12 : decode cX8_feed 12 = .ok (.bipush 96, 2) := by decide +kernel
theorem dX8_feed_14 : decode cX8_feed 14 = .ok (.if_icmp .le 5, 3) := by decide +kernel
theorem dX8_feed_17 : decode cX8_feed 17 = .ok (.iconst (-1), 1) := by decide +kernel
theorem dX8_feed_18 : decode cX8_feed 18 = .ok (.ireturn, 1) := by decide +kernel
theorem dX8_feed_19 : decode cX8_feed 19 = .ok (.aload_n 0, 1) := by decide +kernel
theorem dX8_feed_20 : decode cX8_feed 20 = .ok (.lload_n 1, 1) := by decide +kernel
theorem dX8_feed_21 : decode cX8_feed 21 = .ok (.invokevirtual 78, 3) := by decide +kernel
theorem dX8_feed_24 : decode cX8_feed 24 = .ok (.aload_n 0, 1) := by decide +kernel
theorem dX8_feed_25 : decode cX8_feed 25 = .ok (.lload_n 3, 1) := by decide +kernel
theorem dX8_feed_26 : decode cX8_feed 26 = .ok (.invokevirtual 78, 3) := by decide +kernel
theorem dX8_feed_29 : decode cX8_feed 29 = .ok (.aload_n 0, 1) := by decide +kernel
theorem dX8_feed_30 : decode cX8_feed 30 = .ok (.getfield 75, 3) := by decide +kernel
theorem dX8_feed_33 : decode cX8_feed 33 = .ok (.ireturn, 1) := by decide +kernel
set_option maxRecDepth 100000 in
set_option maxHeartbeats 4000000 in
theorem c_X8_feed_r {hp : List gA} {M : gMd} {L : Nat} {a b : Int64} (HM : gMod hp M) (hl : M.f 1 = nI L) (hL : L ≤ 96) (hb : ∀ q, gIr (M.a 0 q) 255) : gM yX8_feed cX8_feed 5 ((some .int)) 1 23 [.ref 122, .long a, .long b] (hp) (0) (0) (fun v h => ∃ x, v = some (.int x) ∧ ((96 < L + 16 ∧ x = -1 ∧ gMod h (M.set 2 0) ∧ gFM hp h) ∨ (¬ 96 < L + 16 ∧ x = nI (L + 8 + 8) ∧ ∃ f, (∀ q, gIr (f q) 255) ∧ gMod h (((M.set 2 0).arr 0 f).set 1 (nI (L + 8 + 8))) ∧ gFM hp h))) := by
  refine gM_of (ls0 := [some (.ref 122), some (.long a), none, some (.long b), none]) (by decide +kernel) (Nat.le_of_ble_eq_true rfl) rfl fun X C E => ?_
  by_cases hc : 96 < L + 16
  ·
    refine g_aload_n (q := 1) C dX8_feed_0 rfl rfl ?_
    refine g_iconst (v := 0) (q := 2) C dX8_feed_1 (by decide) rfl ?_
    refine g_putfield (q := 5) C fX8_66 dX8_feed_2 rfl HM.1 (Nat.le_of_ble_eq_true rfl) (Or.inl rfl) rfl rfl (by intro z h; cases h) ?_
    refine gMput (j := 2) (x := 0) HM rfl fun h1 HL1 fr1 => ?_
    refine g_aload_n (q := 6) C dX8_feed_5 rfl rfl ?_
    refine g_getfield (v := .int ((M.f 1))) (q := 9) C fX8_75 dX8_feed_6 rfl HL1.1 rfl ?_
    refine g_bipush (v := 16) (q := 11) C dX8_feed_9 (by decide) rfl ?_
    refine g_iadd (q := 12) C dX8_feed_11 rfl ?_
    refine g_bipush (v := 96) (q := 14) C dX8_feed_12 (by decide) rfl ?_
    rw [show ((M.f 1) + 16) = nI (L + 16) from by rw [hl, show (16 : Int32) = nI 16 from rfl, nI_add]]
    refine g_icmp_le_f (t := 19) (q := 17) C dX8_feed_14 (by decide) rfl (nI_ge (a := 96) hc (by omega)) ?_
    refine g_iconst (v := (-1)) (q := 18) C dX8_feed_17 (by decide) rfl ?_
    exact E.1 _ _ _ _ _ _ _ dX8_feed_18 rfl rfl (Nat.le_of_ble_eq_true rfl) (Nat.le_of_ble_eq_true rfl) ⟨_, rfl, Or.inl ⟨hc, rfl, HL1, fr1⟩⟩
  ·
    refine g_aload_n (q := 1) C dX8_feed_0 rfl rfl ?_
    refine g_iconst (v := 0) (q := 2) C dX8_feed_1 (by decide) rfl ?_
    refine g_putfield (q := 5) C fX8_66 dX8_feed_2 rfl HM.1 (Nat.le_of_ble_eq_true rfl) (Or.inl rfl) rfl rfl (by intro z h; cases h) ?_
    refine gMput (j := 2) (x := 0) HM rfl fun h2 HL2 fr2 => ?_
    refine g_aload_n (q := 6) C dX8_feed_5 rfl rfl ?_
    refine g_getfield (v := .int ((M.f 1))) (q := 9) C fX8_75 dX8_feed_6 rfl HL2.1 rfl ?_
    refine g_bipush (v := 16) (q := 11) C dX8_feed_9 (by decide) rfl ?_
    refine g_iadd (q := 12) C dX8_feed_11 rfl ?_
    refine g_bipush (v := 96) (q := 14) C dX8_feed_12 (by decide) rfl ?_
    rw [show ((M.f 1) + 16) = nI (L + 16) from by rw [hl, show (16 : Int32) = nI 16 from rfl, nI_add]]
    refine g_icmp_le_t (t := 19) C dX8_feed_14 (by decide) (nI_le (b := 96) (by omega) (by decide)) ?_
    refine g_aload_n (q := 20) C dX8_feed_19 rfl rfl ?_
    refine g_lload_n (q := 21) C dX8_feed_20 rfl rfl ?_
    refine g_callVvp (q := 24) (As := [.long a]) C gyX8_eight gvX8_eight t_1203 (c_X8_eight_r (L := L) HL2 hl (by omega) hb) dX8_feed_21 rfl HL2.1 rfl rfl rfl (Nat.le_of_ble_eq_true rfl) (Nat.le_of_ble_eq_true rfl) (Nat.le_of_ble_eq_true rfl) (Nat.le_of_ble_eq_true rfl) (Nat.le_of_ble_eq_true rfl) rfl (fun h3 z3 => ?_)
    obtain ⟨f1, hf1, HF1, frf1⟩ := z3
    refine g_aload_n (q := 25) C dX8_feed_24 rfl rfl ?_
    refine g_lload_n (q := 26) C dX8_feed_25 rfl rfl ?_
    refine g_callVvp (q := 29) (As := [.long b]) C gyX8_eight gvX8_eight t_1203 (c_X8_eight_r (L := L + 8) HF1 gset_s (by omega) (fun q => by rw [gset_a, garr_s]; exact hf1 q)) dX8_feed_26 rfl HF1.1 rfl rfl rfl (Nat.le_of_ble_eq_true rfl) (Nat.le_of_ble_eq_true rfl) (Nat.le_of_ble_eq_true rfl) (Nat.le_of_ble_eq_true rfl) (Nat.le_of_ble_eq_true rfl) rfl (fun h4 z4 => ?_)
    obtain ⟨f2, hf2, HF2, frf2⟩ := z4
    refine g_aload_n (q := 30) C dX8_feed_29 rfl rfl ?_
    refine g_getfield (v := .int ((nI ((L + 8) + 8)))) (q := 33) C fX8_75 dX8_feed_30 rfl HF2.1 rfl ?_
    exact E.1 _ _ _ _ _ _ _ dX8_feed_33 rfl rfl (Nat.le_of_ble_eq_true rfl) (Nat.le_of_ble_eq_true rfl) ⟨_, rfl, Or.inr ⟨hc, rfl, f2, hf2, (by have HN := HF2; rw [gFd] at HN; exact HN), (gFM.trans (gFM.trans fr2 frf1) frf2)⟩⟩
def rX8_end (M : gMd) (y : Int32) : Int32 × gMd := (if (rX8_within y 0 (M.f 1)) = 0 then ((-1), (M.set 2 0)) else (y, ((M.set 2 0).set 1 y)))
theorem dX8_end_0 : decode cX8_end 0 = .ok (.aload_n 0, 1) := by decide +kernel
theorem dX8_end_1 : decode cX8_end 1 = .ok (.iconst 0, 1) := by decide +kernel
theorem dX8_end_2 : decode cX8_end 2 = .ok (.putfield 66, 3) := by decide +kernel
theorem dX8_end_5 : decode cX8_end 5 = .ok (.iload_n 1, 1) := by decide +kernel
theorem dX8_end_6 : decode cX8_end 6 = .ok (.iconst 0, 1) := by decide +kernel
theorem dX8_end_7 : decode cX8_end 7 = .ok (.aload_n 0, 1) := by decide +kernel
theorem dX8_end_8 : decode cX8_end 8 = .ok (.getfield 75, 3) := by decide +kernel
theorem dX8_end_11 : decode cX8_end 11 = .ok (.invokestatic 82, 3) := by decide +kernel
theorem dX8_end_14 : decode cX8_end 14 = .ok (.ifCond .ne 5, 3) := by decide +kernel
theorem dX8_end_17 : decode cX8_end 17 = .ok (.iconst (-1), 1) := by decide +kernel
theorem dX8_end_18 : decode cX8_end 18 = .ok (.ireturn, 1) := by decide +kernel
theorem dX8_end_19 : decode cX8_end 19 = .ok (.aload_n 0, 1) := by decide +kernel
theorem dX8_end_20 : decode cX8_end 20 = .ok (.iload_n 1, 1) := by decide +kernel
theorem dX8_end_21 : decode cX8_end 21 = .ok (.putfield 75, 3) := by decide +kernel
theorem dX8_end_24 : decode cX8_end 24 = .ok (.iload_n 1, 1) := by decide +kernel
theorem dX8_end_25 : decode cX8_end 25 = .ok (.ireturn, 1) := by decide +kernel
set_option maxRecDepth 100000 in
set_option maxHeartbeats 4000000 in
theorem c_X8_end_m {hp : List gA} {M : gMd} {y : Int32}  (HM : gMod hp M)  : gM yX8_end cX8_end 2 ((some .int)) 1 22 [.ref 122, .int y] (hp) (0) (0) (fun v h => v = some (.int (rX8_end M y).1) ∧ (gMod h (rX8_end M y).2 ∧ gFM hp h)) := by
  refine gM_of (ls0 := [some (.ref 122), some (.int y)]) (by decide +kernel) (Nat.le_of_ble_eq_true rfl) rfl fun X C E => ?_
  refine g_aload_n (q := 1) C dX8_end_0 rfl rfl ?_
  refine g_iconst (v := 0) (q := 2) C dX8_end_1 (by decide) rfl ?_
  refine g_putfield (q := 5) C fX8_66 dX8_end_2 rfl HM.1 (Nat.le_of_ble_eq_true rfl) (Or.inl rfl) rfl rfl (by intro z h; cases h) ?_
  refine gMput (j := 2) (x := 0) HM rfl fun h1 HL1 fr1 => ?_
  refine g_iload_n (q := 6) C dX8_end_5 rfl rfl ?_
  refine g_iconst (v := 0) (q := 7) C dX8_end_6 (by decide) rfl ?_
  refine g_aload_n (q := 8) C dX8_end_7 rfl rfl ?_
  refine g_getfield (v := .int ((M.f 1))) (q := 11) C fX8_75 dX8_end_8 rfl HL1.1 rfl ?_
  refine g_callSi (x := (rX8_within y 0 (M.f 1))) (q := 14) (As := [.int y, .int 0, .int ((M.f 1))]) C gyX8_within t_1212 t_1211 (c_X8_within_m) dX8_end_11 rfl rfl rfl (Nat.le_of_ble_eq_true rfl) (Nat.le_of_ble_eq_true rfl) (Nat.le_of_ble_eq_true rfl) (Nat.le_of_ble_eq_true rfl) (Nat.le_of_ble_eq_true rfl) rfl ?_
  refine g_if_ne (t := 19) (q := 17) C dX8_end_14 (by decide) rfl (fun c_14 => ?_) (fun c_14 => ?_)
  ·
    refine g_aload_n (q := 20) C dX8_end_19 rfl rfl ?_
    refine g_iload_n (q := 21) C dX8_end_20 rfl rfl ?_
    refine g_putfield (q := 24) C fX8_75 dX8_end_21 rfl HL1.1 (Nat.le_of_ble_eq_true rfl) (Or.inl rfl) rfl rfl (by intro z h; cases h) ?_
    refine gMput (j := 1) (x := y) HL1 rfl fun h2 HL2 fr2 => ?_
    refine g_iload_n (q := 25) C dX8_end_24 rfl rfl ?_
    have e : rX8_end M y = (y, ((M.set 2 0).set 1 y)) := (if_neg c_14)
    exact E.1 _ _ _ _ _ _ _ dX8_end_25 rfl rfl (Nat.le_of_ble_eq_true rfl) (Nat.le_of_ble_eq_true rfl) ⟨by rw [e], by rw [e]; exact ⟨HL2, (gFM.trans fr1 fr2)⟩⟩
  ·
    refine g_iconst (v := (-1)) (q := 18) C dX8_end_17 (by decide) rfl ?_
    have e : rX8_end M y = ((-1), (M.set 2 0)) := (if_pos c_14)
    exact E.1 _ _ _ _ _ _ _ dX8_end_18 rfl rfl (Nat.le_of_ble_eq_true rfl) (Nat.le_of_ble_eq_true rfl) ⟨by rw [e], by rw [e]; exact ⟨HL1, fr1⟩⟩
