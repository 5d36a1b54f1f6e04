theorem tyFd {T : Nat} (h : T ≤ 96) : nI T + 16 ≤ 96 ↔ T + 16 ≤ 96 := by
  have e : nI T + 16 = nI (T + 16) := by
    have e16 : (16 : Int32) = nI 16 := by decide
    rw [e16, ← nI_add]
  rw [e, Int32.le_iff_toInt_le, nI_toInt (by omega), show (96 : Int32).toInt = 96 from by decide]
  omega
set_option maxRecDepth 100000 in
set_option maxHeartbeats 4000000 in
theorem tX7_feed {T : tyT} {R : Nat} {J : Nat → Prop} {Bc Bs : Nat} {M : gMd} {z : Nat → Nat} {hp : List gA} {a0 : Int64} {a1 : Int64}  (H : tyS T R J Bc Bs M z hp)  : gM yX7_feed cX7_feed 5 ((some .int)) 4 126 [.ref 0, .long a0, .long a1] (hp) (0) (0) (fun v h => ∃ x, v = some (.int x) ∧ ((96 < T.tp.length + 16 ∧ x = -1 ∧ tyS T R J Bc Bs M z h) ∨ (¬ 96 < T.tp.length + 16 ∧ x = nI (T.tp.length + 16) ∧ tyS (T.stp (f8 (f8 T.tp a0) a1)) R J Bc Bs M z h))) := by
  refine gM_of (ls0 := [some (.ref 0), some (.long a0), none, some (.long a1), none]) (by decide +kernel) (Nat.le_of_ble_eq_true rfl) rfl fun X C E => ?_
  refine g_aload_n (q := 1) C dX7_feed_0 rfl rfl ?_
  obtain ⟨x6_1, q4_1, q5_1, o1, e1_0, e1_1, e1_2⟩ := tyG7 H (rfl : tyK 0 = (0, 0))
  refine g_getfield (v := .ref 1) (q := 4) C fX7_14 dX7_feed_1 rfl o1 rfl ?_
  obtain ⟨l2, g2, -⟩ := tyRow H (rfl : tyK 1 = (1, 96))
  refine g_callVip (q := 7) (As := []) C gyX4_size gvX4_size t_463 (tX4_size_T H) dX7_feed_4 rfl g2.obj rfl rfl rfl (Nat.le_of_ble_eq_true rfl) (Nat.le_of_ble_eq_true rfl) (Nat.le_of_ble_eq_true rfl) (Nat.le_of_ble_eq_true rfl) (Nat.le_of_ble_eq_true rfl) rfl (fun x3 h3 q3 => ?_)
  obtain ⟨e3, q3⟩ := q3
  subst q3
  refine g_bipush (v := 16) (q := 9) C dX7_feed_7 (by decide) rfl ?_
  refine g_iadd (q := 10) C dX7_feed_9 rfl ?_
  refine g_bipush (v := 96) (q := 12) C dX7_feed_10 (by decide) rfl ?_
  refine g_icmp_le (t := 17) (q := 15) C dX7_feed_12 (by decide) rfl (fun c_12 => ?_) (fun c_12 => ?_)
  ·
    have h96 := tyTle H
    rw [e3, tyFd h96] at c_12
    refine g_aload_n (q := 18) C dX7_feed_17 rfl rfl ?_
    refine g_lload_n (q := 19) C dX7_feed_18 rfl rfl ?_
    refine g_callVvp (q := 22) (As := [.long a0]) C gyX7_feedEight gvX7_feedEight t_467 (tX7_feedEight H (by omega)) dX7_feed_19 rfl o1 rfl rfl rfl (Nat.le_of_ble_eq_true rfl) (Nat.le_of_ble_eq_true rfl) (Nat.le_of_ble_eq_true rfl) (Nat.le_of_ble_eq_true rfl) (Nat.le_of_ble_eq_true rfl) rfl (fun h4 q4 => ?_)
    have H4 := q4
    refine g_aload_n (q := 23) C dX7_feed_22 rfl rfl ?_
    refine g_lload_n (q := 24) C dX7_feed_23 rfl rfl ?_
    obtain ⟨x6_5, q4_5, q5_5, o5, e5_0, e5_1, e5_2⟩ := tyG7 H4 (rfl : tyK 0 = (0, 0))
    refine g_callVvp (q := 27) (As := [.long a1]) C gyX7_feedEight gvX7_feedEight t_467 (tX7_feedEight H4 (by show (f8 T.tp a0).length + 8 ≤ 96; rw [f8_len]; omega)) dX7_feed_24 rfl o5 rfl rfl rfl (Nat.le_of_ble_eq_true rfl) (Nat.le_of_ble_eq_true rfl) (Nat.le_of_ble_eq_true rfl) (Nat.le_of_ble_eq_true rfl) (Nat.le_of_ble_eq_true rfl) rfl (fun h6 q6 => ?_)
    have H6 := q6
    refine g_aload_n (q := 28) C dX7_feed_27 rfl rfl ?_
    obtain ⟨x6_7, q4_7, q5_7, o7, e7_0, e7_1, e7_2⟩ := tyG7 H6 (rfl : tyK 0 = (0, 0))
    refine g_getfield (v := .ref 1) (q := 31) C fX7_14 dX7_feed_28 rfl o7 rfl ?_
    obtain ⟨l8, g8, -⟩ := tyRow H6 (rfl : tyK 1 = (1, 96))
    refine g_callVip (q := 34) (As := []) C gyX4_size gvX4_size t_463 (tX4_size_T H6) dX7_feed_31 rfl g8.obj rfl rfl rfl (Nat.le_of_ble_eq_true rfl) (Nat.le_of_ble_eq_true rfl) (Nat.le_of_ble_eq_true rfl) (Nat.le_of_ble_eq_true rfl) (Nat.le_of_ble_eq_true rfl) rfl (fun x9 h9 q9 => ?_)
    obtain ⟨e9, q9⟩ := q9
    subst q9
    exact E.1 _ _ _ _ _ _ _ dX7_feed_34 rfl rfl (Nat.le_of_ble_eq_true rfl) (Nat.le_of_ble_eq_true rfl) ⟨_, rfl, Or.inr ⟨by omega, (by rw [e9]; show nI (f8 (f8 T.tp a0) a1).length = _; rw [f8_len, f8_len]), H6⟩⟩
  ·
    have h96 := tyTle H
    rw [e3, tyFd h96] at c_12
    refine g_iconst (v := (-1)) (q := 16) C dX7_feed_15 (by decide) rfl ?_
    exact E.1 _ _ _ _ _ _ _ dX7_feed_16 rfl rfl (Nat.le_of_ble_eq_true rfl) (Nat.le_of_ble_eq_true rfl) ⟨_, rfl, Or.inl ⟨by omega, rfl, H⟩⟩

set_option maxRecDepth 100000 in
set_option maxHeartbeats 4000000 in
theorem tX7_end {T : tyT} {R : Nat} {J : Nat → Prop} {Bc Bs : Nat} {M : gMd} {z : Nat → Nat} {hp : List gA} {a0 : Int32}  (H : tyS T R J Bc Bs M z hp)  : gM yX7_end cX7_end 2 ((some .int)) 2 42 [.ref 0, .int a0] (hp) (0) (0) (fun v h => ∃ x, v = some (.int x) ∧ (((a0 < 0 ∨ nI T.tp.length < a0) ∧ x = -1 ∧ tyS T R J Bc Bs M z h) ∨ (∃ m, m ≤ T.tp.length ∧ a0 = nI m ∧ x = nI m ∧ tyS (T.stp (T.tp.take m)) R J Bc Bs M z h))) := by
  refine gM_of (ls0 := [some (.ref 0), some (.int a0)]) (by decide +kernel) (Nat.le_of_ble_eq_true rfl) rfl fun X C E => ?_
  refine g_iload_n (q := 1) C dX7_end_0 rfl rfl ?_
  refine g_if_lt (t := 15) (q := 4) C dX7_end_1 (by decide) rfl (fun c_1 => ?_) (fun c_1 => ?_)
  ·
    refine g_iconst (v := (-1)) (q := 16) C dX7_end_15 (by decide) rfl ?_
    exact E.1 _ _ _ _ _ _ _ dX7_end_16 rfl rfl (Nat.le_of_ble_eq_true rfl) (Nat.le_of_ble_eq_true rfl) ⟨_, rfl, Or.inl ⟨Or.inl c_1, rfl, H⟩⟩
  ·
    refine g_iload_n (q := 5) C dX7_end_4 rfl rfl ?_
    refine g_aload_n (q := 6) C dX7_end_5 rfl rfl ?_
    obtain ⟨x6_1, q4_1, q5_1, o1, e1_0, e1_1, e1_2⟩ := tyG7 H (rfl : tyK 0 = (0, 0))
    refine g_getfield (v := .ref 1) (q := 9) C fX7_14 dX7_end_6 rfl o1 rfl ?_
    obtain ⟨l2, g2, -⟩ := tyRow H (rfl : tyK 1 = (1, 96))
    refine g_callVip (q := 12) (As := []) C gyX4_size gvX4_size t_463 (tX4_size_T H) dX7_end_9 rfl g2.obj rfl rfl rfl (Nat.le_of_ble_eq_true rfl) (Nat.le_of_ble_eq_true rfl) (Nat.le_of_ble_eq_true rfl) (Nat.le_of_ble_eq_true rfl) (Nat.le_of_ble_eq_true rfl) rfl (fun x3 h3 q3 => ?_)
    obtain ⟨e3, q3⟩ := q3
    subst q3
    refine g_icmp_le (t := 17) (q := 15) C dX7_end_12 (by decide) rfl (fun c_12 => ?_) (fun c_12 => ?_)
    ·
      have h96 := tyTle H
      have hg := gcl c_1
      rw [e3, Int32.le_iff_toInt_le, nI_toInt (by omega)] at c_12
      have hm1 : a0.toNatClampNeg ≤ T.tp.length := by omega
      have hm2 : a0 = nI a0.toNatClampNeg := Int32.toInt_inj.mp (by rw [nI_toInt (by omega)]; exact hg.symm)
      have kq : gM yX4_keep cX4_keep 2 (none) 1 21 [.ref 1, .int a0] hp 0 0 (fun v h => v = none ∧ tyS (T.stp (T.tp.take a0.toNatClampNeg)) R J Bc Bs M z h) := by
        have q := tX4_keep_T (n := a0.toNatClampNeg) H (by omega)
        rw [← hm2] at q
        exact q
      refine g_aload_n (q := 18) C dX7_end_17 rfl rfl ?_
      refine g_getfield (v := .ref 1) (q := 21) C fX7_14 dX7_end_18 rfl o1 rfl ?_
      refine g_iload_n (q := 22) C dX7_end_21 rfl rfl ?_
      refine g_callVvp (q := 25) (As := [.int a0]) C gyX4_keep gvX4_keep t_496 (kq) dX7_end_22 rfl g2.obj rfl rfl rfl (Nat.le_of_ble_eq_true rfl) (Nat.le_of_ble_eq_true rfl) (Nat.le_of_ble_eq_true rfl) (Nat.le_of_ble_eq_true rfl) (Nat.le_of_ble_eq_true rfl) rfl (fun h4 q4 => ?_)
      have H4 := q4
      refine g_iload_n (q := 26) C dX7_end_25 rfl rfl ?_
      exact E.1 _ _ _ _ _ _ _ dX7_end_26 rfl rfl (Nat.le_of_ble_eq_true rfl) (Nat.le_of_ble_eq_true rfl) ⟨_, rfl, Or.inr ⟨a0.toNatClampNeg, hm1, hm2, hm2, H4⟩⟩
    ·
      refine g_iconst (v := (-1)) (q := 16) C dX7_end_15 (by decide) rfl ?_
      exact E.1 _ _ _ _ _ _ _ dX7_end_16 rfl rfl (Nat.le_of_ble_eq_true rfl) (Nat.le_of_ble_eq_true rfl) ⟨_, rfl, Or.inl ⟨Or.inr (by rw [← e3, Int32.lt_iff_toInt_lt]; rw [Int32.le_iff_toInt_le] at c_12; omega), rfl, H⟩⟩

set_option maxRecDepth 100000 in
set_option maxHeartbeats 4000000 in
theorem tX7_message {T : tyT} {R : Nat} {J : Nat → Prop} {Bc Bs : Nat} {M : gMd} {z : Nat → Nat} {hp : List gA}  (H : tyS T R J Bc Bs M z hp)  : gM yX7_message cX7_message 2 ((some .int)) 3 103 [.ref 0] (hp) (0) (0) (fun v h => ∃ x, v = some (.int x) ∧ tyS (T.stp []) R J Bc Bs M z h) := by
  refine gM_of (ls0 := [some (.ref 0), none]) (by decide +kernel) (Nat.le_of_ble_eq_true rfl) rfl fun X C E => ?_
  have J_47 : ∀ (y47_1 : Int32) (hJ47 : List gA), tyS T R J Bc Bs M z hJ47 → gG X 47 [some (.ref 0), some (.int y47_1)] [] hJ47 0 0 := by
    intro y47_1 hJ47 HJ47
    refine g_aload_n (q := 48) C dX7_message_47 rfl rfl ?_
    obtain ⟨x6_1, q4_1, q5_1, o1, e1_0, e1_1, e1_2⟩ := tyG7 HJ47 (rfl : tyK 0 = (0, 0))
    refine g_getfield (v := .ref 1) (q := 51) C fX7_14 dX7_message_48 rfl o1 rfl ?_
    refine g_iconst (v := 0) (q := 52) C dX7_message_51 (by decide) rfl ?_
    obtain ⟨l2, g2, -⟩ := tyRow HJ47 (rfl : tyK 1 = (1, 96))
    refine g_callVvp (q := 55) (As := [.int 0]) C gyX4_keep gvX4_keep t_496 (tX4_keep_T (n := 0) HJ47 (by omega)) dX7_message_52 rfl g2.obj rfl rfl rfl (Nat.le_of_ble_eq_true rfl) (Nat.le_of_ble_eq_true rfl) (Nat.le_of_ble_eq_true rfl) (Nat.le_of_ble_eq_true rfl) (Nat.le_of_ble_eq_true rfl) rfl (fun h3 q3 => ?_)
    have H3 := q3
    refine g_iload_n (q := 56) C dX7_message_55 rfl rfl ?_
    exact E.1 _ _ _ _ _ _ _ dX7_message_56 rfl rfl (Nat.le_of_ble_eq_true rfl) (Nat.le_of_ble_eq_true rfl) ⟨_, rfl, H3⟩
  refine g_iconst (v := (-1)) (q := 1) C dX7_message_0 (by decide) rfl ?_
  refine g_istore_n (q := 2) C dX7_message_1 (Nat.le_of_ble_eq_true rfl) (by simp only [gset]; rfl) rfl ?_
  refine g_aload_n (q := 3) C dX7_message_2 rfl rfl ?_
  obtain ⟨x6_4, q4_4, q5_4, o4, e4_0, e4_1, e4_2⟩ := tyG7 H (rfl : tyK 0 = (0, 0))
  refine g_callVip (q := 6) (As := []) C gyX7_mayStart gvX7_mayStart t_618 (tX7_mayStart H) dX7_message_3 rfl o4 rfl rfl rfl (Nat.le_of_ble_eq_true rfl) (Nat.le_of_ble_eq_true rfl) (Nat.le_of_ble_eq_true rfl) (Nat.le_of_ble_eq_true rfl) (Nat.le_of_ble_eq_true rfl) rfl (fun x5 h5 q5 => ?_)
  obtain ⟨b5, H5⟩ := q5
  refine g_if_eq (t := 47) (q := 9) C dX7_message_6 (by decide) rfl (fun c_6 => ?_) (fun c_6 => ?_)
  ·
    exact J_47 _ _  H5
  ·
    refine g_aload_n (q := 10) C dX7_message_9 rfl rfl ?_
    obtain ⟨x6_6, q4_6, q5_6, o6, e6_0, e6_1, e6_2⟩ := tyG7 H5 (rfl : tyK 0 = (0, 0))
    refine g_getfield (v := .ref 1) (q := 13) C fX7_14 dX7_message_10 rfl o6 rfl ?_
    obtain ⟨l7, g7, -⟩ := tyRow H5 (rfl : tyK 1 = (1, 96))
    refine g_callVip (q := 16) (As := []) C gyX4_size gvX4_size t_463 (tX4_size_T H5) dX7_message_13 rfl g7.obj rfl rfl rfl (Nat.le_of_ble_eq_true rfl) (Nat.le_of_ble_eq_true rfl) (Nat.le_of_ble_eq_true rfl) (Nat.le_of_ble_eq_true rfl) (Nat.le_of_ble_eq_true rfl) rfl (fun x8 h8 q8 => ?_)
    obtain ⟨e8, q8⟩ := q8
    subst q8
    refine g_bipush (v := 60) (q := 18) C dX7_message_16 (by decide) rfl ?_
    refine g_icmp_gt (t := 47) (q := 21) C dX7_message_18 (by decide) rfl (fun c_18 => ?_) (fun c_18 => ?_)
    ·
      exact J_47 _ _  H5
    ·
      refine g_aload_n (q := 22) C dX7_message_21 rfl rfl ?_
      refine g_getfield (v := .ref 20) (q := 25) C fX7_30 dX7_message_22 rfl o6 rfl ?_
      refine g_aload_n (q := 26) C dX7_message_25 rfl rfl ?_
      refine g_getfield (v := .ref 1) (q := 29) C fX7_14 dX7_message_26 rfl o6 rfl ?_
      obtain ⟨x3_9, x4_9, x5_9, x6_9, x7_9, x11_9, x12_9, x13_9, x14_9, x15_9, x16_9, x17_9, jv_9, o9, e9_0, e9_1, e9_2, e9_3⟩ := tyG2 H5 (rfl : tyK 20 = (7, 0))
      refine g_callVvp (q := 32) (As := [.ref 1]) C gyX2_startMessage gvX2_startMessage t_622 (tX2_startMessage H5 (rfl : tyK 20 = (7, 0)) (rfl : tyK 1 = (1, 96))) dX7_message_29 rfl o9 rfl rfl rfl (Nat.le_of_ble_eq_true rfl) (Nat.le_of_ble_eq_true rfl) (Nat.le_of_ble_eq_true rfl) (Nat.le_of_ble_eq_true rfl) (Nat.le_of_ble_eq_true rfl) rfl (fun h10 q10 => ?_)
      have H10 := q10
      refine g_aload_n (q := 33) C dX7_message_32 rfl rfl ?_
      obtain ⟨x6_11, q4_11, q5_11, o11, e11_0, e11_1, e11_2⟩ := tyG7 H10 (rfl : tyK 0 = (0, 0))
      refine g_getfield (v := .ref 43) (q := 36) C fX7_37 dX7_message_33 rfl o11 rfl ?_
      obtain ⟨x3_12, o12, e12_0⟩ := tyG0 H10 (rfl : tyK 43 = (8, 0))
      refine g_callVvp (q := 39) (As := []) C gyX0_forget gvX0_forget t_587 (tX0_forget H10) dX7_message_36 rfl o12 rfl rfl rfl (Nat.le_of_ble_eq_true rfl) (Nat.le_of_ble_eq_true rfl) (Nat.le_of_ble_eq_true rfl) (Nat.le_of_ble_eq_true rfl) (Nat.le_of_ble_eq_true rfl) rfl (fun h13 q13 => ?_)
      have H13 := q13
      refine g_aload_n (q := 40) C dX7_message_39 rfl rfl ?_
      obtain ⟨x6_14, q4_14, q5_14, o14, e14_0, e14_1, e14_2⟩ := tyG7 H13 (rfl : tyK 0 = (0, 0))
      refine g_getfield (v := .ref 20) (q := 43) C fX7_30 dX7_message_40 rfl o14 rfl ?_
      obtain ⟨x3_15, x4_15, x5_15, x6_15, x7_15, x11_15, x12_15, x13_15, x14_15, x15_15, x16_15, x17_15, jv_15, o15, e15_0, e15_1, e15_2, e15_3⟩ := tyG2 H13 (rfl : tyK 20 = (7, 0))
      refine g_callVip (q := 46) (As := []) C gyX2_blocksAhead gvX2_blocksAhead t_635 (tX2_blocksAhead H13 (rfl : tyK 20 = (7, 0))) dX7_message_43 rfl o15 rfl rfl rfl (Nat.le_of_ble_eq_true rfl) (Nat.le_of_ble_eq_true rfl) (Nat.le_of_ble_eq_true rfl) (Nat.le_of_ble_eq_true rfl) (Nat.le_of_ble_eq_true rfl) rfl (fun x16 h16 q16 => ?_)
      have H16 := q16
      refine g_istore_n (q := 47) C dX7_message_46 (Nat.le_of_ble_eq_true rfl) (by simp only [gset]; rfl) rfl ?_
      exact J_47 _ _  H16

set_option maxRecDepth 100000 in
set_option maxHeartbeats 4000000 in
theorem tX7_answer {T : tyT} {R : Nat} {J : Nat → Prop} {Bc Bs : Nat} {M : gMd} {z : Nat → Nat} {hp : List gA} {a0 : Int32}  (H : tyS T R J Bc Bs M z hp)  : gM yX7_answer cX7_answer 2 ((some .int)) 2 42 [.ref 0, .int a0] (hp) (0) (0) (fun v h => v = some (.int (if T.ci = 0 then -1 else rX3_tell T.q T.hi a0)) ∧ tyS T R J Bc Bs M z h) := by
  refine gM_of (ls0 := [some (.ref 0), some (.int a0)]) (by decide +kernel) (Nat.le_of_ble_eq_true rfl) rfl fun X C E => ?_
  refine g_aload_n (q := 1) C dX7_answer_0 rfl rfl ?_
  obtain ⟨x6_1, q4_1, q5_1, o1, e1_0, e1_1, e1_2, ec, ef, -⟩ := tyG7x H (rfl : tyK 0 = (0, 0))
  refine g_getfield (v := .int x6_1) (q := 4) C fX7_51 dX7_answer_1 rfl o1 rfl ?_
  refine g_if_eq (t := 18) (q := 7) C dX7_answer_4 (by decide) rfl (fun c_4 => ?_) (fun c_4 => ?_)
  ·
    refine g_iconst (v := (-1)) (q := 19) C dX7_answer_18 (by decide) rfl ?_
    exact E.1 _ _ _ _ _ _ _ dX7_answer_19 rfl rfl (Nat.le_of_ble_eq_true rfl) (Nat.le_of_ble_eq_true rfl) ⟨by rw [if_pos (ec.symm.trans c_4)], H⟩
  ·
    refine g_aload_n (q := 8) C dX7_answer_7 rfl rfl ?_
    refine g_getfield (v := .ref q4_1) (q := 11) C fX7_44 dX7_answer_8 rfl o1 rfl ?_
    refine g_iload_n (q := 12) C dX7_answer_11 rfl rfl ?_
    obtain ⟨Q, l, HQ, -, w⟩ := tyRq H (tyQ e1_1)
    obtain ⟨w1, w2⟩ := w ef
    have et : rX3_tell Q l a0 = rX3_tell T.q T.hi a0 := by
      unfold rX3_tell
      rw [w1 0 (by decide), w1 1 (by decide), w1 2 (by decide), w1 3 (by decide), w1 4 (by decide), w1 5 (by decide), w1 6 (by decide), w2]
    have kq : gM yX3_tell cX3_tell 2 ((some .int)) 1 21 [.ref q4_1, .int a0] hp 0 0 (fun v h => v = some (.int (rX3_tell Q l a0)) ∧ h = hp) := by
      rcases e1_1 with rfl | rfl
      · exact c_X3_tell_116 HQ
      · exact c_X3_tell_119 HQ
    refine g_callVi (q := 15) (As := [.int a0]) C gyX3_tell gvX3_tell t_602 kq dX7_answer_12 rfl HQ.1 rfl rfl rfl (Nat.le_of_ble_eq_true rfl) (Nat.le_of_ble_eq_true rfl) (Nat.le_of_ble_eq_true rfl) (Nat.le_of_ble_eq_true rfl) (Nat.le_of_ble_eq_true rfl) rfl ?_
    refine g_goto (q := 19) C dX7_answer_15 (by decide) ?_
    exact E.1 _ _ _ _ _ _ _ dX7_answer_19 rfl rfl (Nat.le_of_ble_eq_true rfl) (Nat.le_of_ble_eq_true rfl) ⟨by rw [if_neg (fun e => c_4 (ec.trans e)), et], H⟩

set_option maxRecDepth 100000 in
set_option maxHeartbeats 4000000 in
theorem tX7_historical {T : tyT} {R : Nat} {J : Nat → Prop} {Bc Bs : Nat} {M : gMd} {z : Nat → Nat} {hp : List gA} {a0 : Int32}  (H : tyS T R J Bc Bs M z hp)  : gM yX7_historical cX7_historical 2 ((some .int)) 2 42 [.ref 0, .int a0] (hp) (0) (0) (fun v h => v = some (.int (if T.ci = 0 then -1 else if a0 < 0 then -1 else if a0 < nI T.hi.length then gat T.hi a0 else -1)) ∧ tyS T R J Bc Bs M z h) := by
  refine gM_of (ls0 := [some (.ref 0), some (.int a0)]) (by decide +kernel) (Nat.le_of_ble_eq_true rfl) rfl fun X C E => ?_
  have J_22 : ∀ (y22_1 : Int32) (hJ22 : List gA), tyS T R J Bc Bs M z hJ22 → (if T.ci = 0 then -1 else if a0 < 0 then -1 else if a0 < nI T.hi.length then gat T.hi a0 else -1) = -1 → gG X 22 [some (.ref 0), some (.int y22_1)] [] hJ22 0 0 := by
    intro y22_1 hJ22 HJ22 eN
    refine g_iconst (v := (-1)) (q := 23) C dX7_historical_22 (by decide) rfl ?_
    exact E.1 _ _ _ _ _ _ _ dX7_historical_23 rfl rfl (Nat.le_of_ble_eq_true rfl) (Nat.le_of_ble_eq_true rfl) ⟨by rw [eN], HJ22⟩
  refine g_aload_n (q := 1) C dX7_historical_0 rfl rfl ?_
  obtain ⟨x6_1, q4_1, q5_1, o1, e1_0, e1_1, e1_2, ec, ef, -⟩ := tyG7x H (rfl : tyK 0 = (0, 0))
  refine g_getfield (v := .int x6_1) (q := 4) C fX7_51 dX7_historical_1 rfl o1 rfl ?_
  refine g_if_eq (t := 22) (q := 7) C dX7_historical_4 (by decide) rfl (fun c_4 => ?_) (fun c_4 => ?_)
  ·
    exact J_22 _ _ H (if_pos (ec.symm.trans c_4))
  ·
    refine g_iload_n (q := 8) C dX7_historical_7 rfl rfl ?_
    refine g_if_lt (t := 22) (q := 11) C dX7_historical_8 (by decide) rfl (fun c_8 => ?_) (fun c_8 => ?_)
    ·
      exact J_22 _ _ H ((if_neg (fun e => c_4 (ec.trans e))).trans (if_pos c_8))
    ·
      refine g_iload_n (q := 12) C dX7_historical_11 rfl rfl ?_
      refine g_aload_n (q := 13) C dX7_historical_12 rfl rfl ?_
      refine g_getfield (v := .ref q4_1) (q := 16) C fX7_44 dX7_historical_13 rfl o1 rfl ?_
      obtain ⟨Q, l, HQ, -, w⟩ := tyRq H (tyQ e1_1)
      obtain ⟨w1, w2⟩ := w ef
      have kb : gM yX3_historicalBytes cX3_historicalBytes 1 ((some .int)) 1 20 [.ref q4_1] hp 0 0 (fun v h => v = some (.int (nI l.length)) ∧ h = hp) := by
        rcases e1_1 with rfl | rfl
        · exact c_X3_historicalBytes_116 HQ
        · exact c_X3_historicalBytes_119 HQ
      have ky : gM yX3_historicalByte cX3_historicalByte 2 ((some .int)) 1 21 [.ref q4_1, .int a0] hp 0 0 (fun v h => v = some (.int (gat l a0)) ∧ h = hp) := by
        rcases e1_1 with rfl | rfl
        · exact c_X3_historicalByte_116 HQ
        · exact c_X3_historicalByte_119 HQ
      refine g_callVi (q := 19) (As := []) C gyX3_historicalBytes gvX3_historicalBytes t_594 kb dX7_historical_16 rfl HQ.1 rfl rfl rfl (Nat.le_of_ble_eq_true rfl) (Nat.le_of_ble_eq_true rfl) (Nat.le_of_ble_eq_true rfl) (Nat.le_of_ble_eq_true rfl) (Nat.le_of_ble_eq_true rfl) rfl ?_
      refine g_icmp_lt (t := 24) (q := 22) C dX7_historical_19 (by decide) rfl (fun c_19 => ?_) (fun c_19 => ?_)
      · refine g_aload_n (q := 25) C dX7_historical_24 rfl rfl ?_
        refine g_getfield (v := .ref q4_1) (q := 28) C fX7_44 dX7_historical_25 rfl o1 rfl ?_
        refine g_iload_n (q := 29) C dX7_historical_28 rfl rfl ?_
        refine g_callVi (q := 32) (As := [.int a0]) C gyX3_historicalByte gvX3_historicalByte t_610 ky dX7_historical_29 rfl HQ.1 rfl rfl rfl (Nat.le_of_ble_eq_true rfl) (Nat.le_of_ble_eq_true rfl) (Nat.le_of_ble_eq_true rfl) (Nat.le_of_ble_eq_true rfl) (Nat.le_of_ble_eq_true rfl) rfl ?_
        exact E.1 _ _ _ _ _ _ _ dX7_historical_32 rfl rfl (Nat.le_of_ble_eq_true rfl) (Nat.le_of_ble_eq_true rfl) ⟨by rw [if_neg (fun e => c_4 (ec.trans e)), if_neg c_8, ← w2, if_pos c_19], H⟩
      · exact J_22 _ _ H ((if_neg (fun e => c_4 (ec.trans e))).trans ((if_neg c_8).trans (if_neg (by rw [← w2]; exact c_19))))

set_option maxRecDepth 100000 in
set_option maxHeartbeats 4000000 in
theorem tX7_reset_a {T : tyT} {R : Nat} {J : Nat → Prop} {Bc Bs : Nat} {M : gMd} {z : Nat → Nat} {hp : List gA} (H : tyS T R J Bc Bs M z hp) (hfo : T.fo = 116) (hsp : T.sp = 119) : gM yX7_reset cX7_reset 3 ((some .int)) 5 149 [.ref 0] (hp) (0) (0) (fun v h => ∃ x, v = some (.int x) ∧ ∃ Q : rq, (¬ (rRd Q T.tp).1 = 0 ∧ x = -2 - (rRd Q T.tp).1 ∧ tyS (T.stp []) R J Bc Bs M z h) ∨ ((rRd Q T.tp).1 = 0 ∧ x = nI (rRd Q T.tp).2.2.length ∧ tyS (([], ((119, (116, 1)), ((rRd Q T.tp).2.1, (rRd Q T.tp).2.2))) : tyT) R J Bc Bs M z h)) := by
  refine gM_of (ls0 := [some (.ref 0), none, none]) (by decide +kernel) (Nat.le_of_ble_eq_true rfl) rfl fun X C E => ?_
  refine g_aload_n (q := 1) C dX7_reset_0 rfl rfl ?_
  obtain ⟨x6_1, q4_1, q5_1, o1, e1_0, -, -, ec, ef, es⟩ := tyG7x H (rfl : tyK 0 = (0, 0))
  obtain rfl : q4_1 = 116 := ef.trans hfo
  obtain rfl : q5_1 = 119 := es.trans hsp
  refine g_getfield (v := .ref 119) (q := 4) C fX7_48 dX7_reset_1 rfl o1 rfl ?_
  refine g_aload_n (q := 5) C dX7_reset_4 rfl rfl ?_
  refine g_getfield (v := .ref 1) (q := 8) C fX7_14 dX7_reset_5 rfl o1 rfl ?_
  obtain ⟨Q, l, HQ, -, -⟩ := tyRq H (rfl : tyK 119 = (9, 0))
  obtain ⟨lt, gt, wt⟩ := tyRow H (rfl : tyK 1 = (1, 96))
  obtain rfl : lt = T.tp := wt.1 rfl
  refine g_callVix (x := (rRd Q T.tp).1) (q := 11) (As := [.ref 1]) C gyX3_read gvX3_read t_504 (c_X3_read_119 HQ gt) dX7_reset_8 rfl HQ.1 rfl rfl rfl (Nat.le_of_ble_eq_true rfl) (Nat.le_of_ble_eq_true rfl) (Nat.le_of_ble_eq_true rfl) (Nat.le_of_ble_eq_true rfl) (Nat.le_of_ble_eq_true rfl) rfl (fun h3 q3 => ?_)
  obtain ⟨HQ3, F3⟩ := q3
  have H3 : tyS T R J Bc Bs M z h3 := H.spare (rfl : tyK 119 = (9, 0)) (by rw [hfo]; decide) HQ3 F3 rRd6
  refine g_istore_n (q := 12) C dX7_reset_11 (Nat.le_of_ble_eq_true rfl) (by simp only [gset]; rfl) rfl ?_
  refine g_aload_n (q := 13) C dX7_reset_12 rfl rfl ?_
  obtain ⟨x6_4, q4_4, q5_4, o4, -, -, -⟩ := tyG7 H3 (rfl : tyK 0 = (0, 0))
  refine g_getfield (v := .ref 1) (q := 16) C fX7_14 dX7_reset_13 rfl o4 rfl ?_
  refine g_iconst (v := 0) (q := 17) C dX7_reset_16 (by decide) rfl ?_
  obtain ⟨l5, g5, -⟩ := tyRow H3 (rfl : tyK 1 = (1, 96))
  have kk : gM yX4_keep cX4_keep 2 (none) 1 21 [.ref 1, .int 0] h3 0 0 (fun v h => v = none ∧ (tyS (T.stp []) R J Bc Bs M z h ∧ rqH h 119 (rRd Q T.tp).2.1 (rRd Q T.tp).2.2)) :=
    (c_X4_keep_w (k := 0) g5 (by decide)).mp fun v h q => by
      obtain ⟨rfl, q1, q2⟩ := q
      rw [List.take_zero] at q1
      exact ⟨rfl, H3.tape q1 q2, (q2 119 (by decide) (by decide)).trans HQ3.1, HQ3.2.kept (q2 _ (by decide) (by decide)) (q2 _ (by decide) (by decide))⟩
  refine g_callVvp (q := 20) (As := [.int 0]) C gyX4_keep gvX4_keep t_496 kk dX7_reset_17 rfl g5.obj rfl rfl rfl (Nat.le_of_ble_eq_true rfl) (Nat.le_of_ble_eq_true rfl) (Nat.le_of_ble_eq_true rfl) (Nat.le_of_ble_eq_true rfl) (Nat.le_of_ble_eq_true rfl) rfl (fun h6 q6 => ?_)
  obtain ⟨H6, HQ6⟩ := q6
  refine g_iload_n (q := 21) C dX7_reset_20 rfl rfl ?_
  refine g_if_eq (t := 29) (q := 24) C dX7_reset_21 (by decide) rfl (fun c_21 => ?_) (fun c_21 => ?_)
  · refine g_aload_n (q := 30) C dX7_reset_29 rfl rfl ?_
    obtain ⟨x6_7, q4_7, q5_7, o7, e7_0, -, -, ec7, ef7, es7⟩ := tyG7x H6 (rfl : tyK 0 = (0, 0))
    obtain rfl : q4_7 = 116 := ef7.trans hfo
    obtain rfl : q5_7 = 119 := es7.trans hsp
    refine g_getfield (v := .ref 116) (q := 33) C fX7_44 dX7_reset_30 rfl o7 rfl ?_
    refine g_astore_n (q := 34) C dX7_reset_33 (Nat.le_of_ble_eq_true rfl) (by simp only [gset]; rfl) rfl ?_
    refine g_aload_n (q := 35) C dX7_reset_34 rfl rfl ?_
    refine g_aload_n (q := 36) C dX7_reset_35 rfl rfl ?_
    refine g_getfield (v := .ref 119) (q := 39) C fX7_48 dX7_reset_36 rfl o7 rfl ?_
    refine g_putfield (q := 42) C fX7_44 dX7_reset_39 rfl o7 (Nat.le_of_ble_eq_true rfl) (Or.inl rfl) rfl rfl (by intro z h; cases h) ?_
    obtain ⟨h8, H8, o8, HQ8, k8⟩ : ∃ h8, tyS (([], ((119, (119, x6_7)), ((rRd Q T.tp).2.1, (rRd Q T.tp).2.2))) : tyT) R J Bc Bs M z h8 ∧ h8[0]? = some (.inr (.inr (7, [.ref 1, .ref 3, .ref 20, .ref 43, .ref 119, .ref 119, .int x6_7]))) ∧ rqH h8 119 (rRd Q T.tp).2.1 (rRd Q T.tp).2.2 ∧ h8 = h6.set 0 (.inr (.inr (7, [.ref 1, .ref 3, .ref 20, .ref 43, .ref 119, .ref 119, .int x6_7]))) :=
      ⟨_, H6.card (T' := (([], ((119, (119, x6_7)), ((rRd Q T.tp).2.1, (rRd Q T.tp).2.2))) : tyT)) rfl ⟨rfl, rfl, rfl⟩ e7_0 (by first | exact Or.inl rfl | exact Or.inr rfl) (by first | exact Or.inl rfl | exact Or.inr rfl) HQ6 (fun _ _ => rfl) rfl o7, gset_self o7, ⟨(List.getElem?_set_ne (by decide)).trans HQ6.1, HQ6.2.kept (List.getElem?_set_ne (by decide)) (List.getElem?_set_ne (by decide))⟩, rfl⟩
    refine g_heap (hp2 := h8) k8.symm ?_
    refine g_aload_n (q := 43) C dX7_reset_42 rfl rfl ?_
    refine g_aload_n (q := 44) C dX7_reset_43 rfl rfl ?_
    refine g_putfield (q := 47) C fX7_48 dX7_reset_44 rfl o8 (Nat.le_of_ble_eq_true rfl) (Or.inl rfl) rfl rfl (by intro z h; cases h) ?_
    obtain ⟨h10, H10, o10, HQ10, k10⟩ : ∃ h10, tyS (([], ((119, (116, x6_7)), ((rRd Q T.tp).2.1, (rRd Q T.tp).2.2))) : tyT) R J Bc Bs M z h10 ∧ h10[0]? = some (.inr (.inr (7, [.ref 1, .ref 3, .ref 20, .ref 43, .ref 119, .ref 116, .int x6_7]))) ∧ rqH h10 119 (rRd Q T.tp).2.1 (rRd Q T.tp).2.2 ∧ h10 = h8.set 0 (.inr (.inr (7, [.ref 1, .ref 3, .ref 20, .ref 43, .ref 119, .ref 116, .int x6_7]))) :=
      ⟨_, H8.card (T' := (([], ((119, (116, x6_7)), ((rRd Q T.tp).2.1, (rRd Q T.tp).2.2))) : tyT)) rfl ⟨rfl, rfl, rfl⟩ e7_0 (by first | exact Or.inl rfl | exact Or.inr rfl) (by first | exact Or.inl rfl | exact Or.inr rfl) HQ8 (fun _ _ => rfl) rfl o8, gset_self o8, ⟨(List.getElem?_set_ne (by decide)).trans HQ8.1, HQ8.2.kept (List.getElem?_set_ne (by decide)) (List.getElem?_set_ne (by decide))⟩, rfl⟩
    refine g_heap (hp2 := h10) k10.symm ?_
    refine g_aload_n (q := 48) C dX7_reset_47 rfl rfl ?_
    refine g_iconst (v := 1) (q := 49) C dX7_reset_48 (by decide) rfl ?_
    refine g_putfield (q := 52) C fX7_51 dX7_reset_49 rfl o10 (Nat.le_of_ble_eq_true rfl) (Or.inl rfl) (tyNar (Or.inr rfl)) (tyFit (Or.inr rfl)) (by intro z h; cases h) ?_
    obtain ⟨h12, H12, k12⟩ : ∃ h12, tyS (([], ((119, (116, 1)), ((rRd Q T.tp).2.1, (rRd Q T.tp).2.2))) : tyT) R J Bc Bs M z h12 ∧ h12 = h10.set 0 (.inr (.inr (7, [.ref 1, .ref 3, .ref 20, .ref 43, .ref 119, .ref 116, .int 1]))) :=
      ⟨_, H10.card (T' := (([], ((119, (116, 1)), ((rRd Q T.tp).2.1, (rRd Q T.tp).2.2))) : tyT)) rfl ⟨rfl, rfl, rfl⟩ (Or.inr rfl) (by first | exact Or.inl rfl | exact Or.inr rfl) (by first | exact Or.inl rfl | exact Or.inr rfl) HQ10 (fun _ _ => rfl) rfl o10, rfl⟩
    refine g_heap (hp2 := h12) k12.symm ?_
    refine g_aload_n (q := 53) C dX7_reset_52 rfl rfl ?_
    obtain ⟨x6_13, q4_13, q5_13, o13, -, -, -⟩ := tyG7 H12 (rfl : tyK 0 = (0, 0))
    refine g_getfield (v := .ref 3) (q := 56) C fX7_21 dX7_reset_53 rfl o13 rfl ?_
    obtain ⟨x8_14, o14⟩ := tyG1 H12 (rfl : tyK 3 = (3, 0))
    refine g_callVvp (q := 59) (As := []) C gyX1_forgetAll gvX1_forgetAll t_560 (tX1_forgetAll H12) dX7_reset_56 rfl o14 rfl rfl rfl (Nat.le_of_ble_eq_true rfl) (Nat.le_of_ble_eq_true rfl) (Nat.le_of_ble_eq_true rfl) (Nat.le_of_ble_eq_true rfl) (Nat.le_of_ble_eq_true rfl) rfl (fun h15 H15 => ?_)
    refine g_aload_n (q := 60) C dX7_reset_59 rfl rfl ?_
    obtain ⟨x6_16, q4_16, q5_16, o16, -, -, -, -, ef16, -⟩ := tyG7x H15 (rfl : tyK 0 = (0, 0))
    obtain rfl : q4_16 = 119 := ef16
    refine g_getfield (v := .ref 20) (q := 63) C fX7_30 dX7_reset_60 rfl o16 rfl ?_
    refine g_aload_n (q := 64) C dX7_reset_63 rfl rfl ?_
    refine g_getfield (v := .ref 119) (q := 67) C fX7_44 dX7_reset_64 rfl o16 rfl ?_
    obtain ⟨Q17, l17, HQ17, -, -⟩ := tyRq H15 (rfl : tyK 119 = (9, 0))
    refine g_callVi (q := 70) (As := []) C gyX3_cardRoom gvX3_cardRoom t_565 (c_X3_cardRoom_119 HQ17) dX7_reset_67 rfl HQ17.1 rfl rfl rfl (Nat.le_of_ble_eq_true rfl) (Nat.le_of_ble_eq_true rfl) (Nat.le_of_ble_eq_true rfl) (Nat.le_of_ble_eq_true rfl) (Nat.le_of_ble_eq_true rfl) rfl ?_
    obtain ⟨x3_19, x4_19, x5_19, x6_19, x7_19, x11_19, x12_19, x13_19, x14_19, x15_19, x16_19, x17_19, jv_19, o19, -, -, -, -⟩ := tyG2 H15 (rfl : tyK 20 = (7, 0))
    refine g_callVvp (q := 73) (As := [.int _]) C gyX2_restart gvX2_restart t_569 (tX2_restart H15 (rfl : tyK 20 = (7, 0))) dX7_reset_70 rfl o19 rfl rfl rfl (Nat.le_of_ble_eq_true rfl) (Nat.le_of_ble_eq_true rfl) (Nat.le_of_ble_eq_true rfl) (Nat.le_of_ble_eq_true rfl) (Nat.le_of_ble_eq_true rfl) rfl (fun h20 H20 => ?_)
    refine g_aload_n (q := 74) C dX7_reset_73 rfl rfl ?_
    obtain ⟨x6_21, q4_21, q5_21, o21, -, -, -⟩ := tyG7 H20 (rfl : tyK 0 = (0, 0))
    refine g_getfield (v := .ref 43) (q := 77) C fX7_37 dX7_reset_74 rfl o21 rfl ?_
    obtain ⟨x3_22, o22, -⟩ := tyG0 H20 (rfl : tyK 43 = (8, 0))
    refine g_callVvp (q := 80) (As := []) C gyX0_forget gvX0_forget t_587 (tX0_forget H20) dX7_reset_77 rfl o22 rfl rfl rfl (Nat.le_of_ble_eq_true rfl) (Nat.le_of_ble_eq_true rfl) (Nat.le_of_ble_eq_true rfl) (Nat.le_of_ble_eq_true rfl) (Nat.le_of_ble_eq_true rfl) rfl (fun h23 H23 => ?_)
    refine g_aload_n (q := 81) C dX7_reset_80 rfl rfl ?_
    obtain ⟨x6_24, q4_24, q5_24, o24, -, -, -, -, ef24, -⟩ := tyG7x H23 (rfl : tyK 0 = (0, 0))
    obtain rfl : q4_24 = 119 := ef24
    refine g_getfield (v := .ref 119) (q := 84) C fX7_44 dX7_reset_81 rfl o24 rfl ?_
    obtain ⟨Q25, l25, HQ25, -, w25⟩ := tyRq H23 (rfl : tyK 119 = (9, 0))
    refine g_callVi (q := 87) (As := []) C gyX3_historicalBytes gvX3_historicalBytes t_594 (c_X3_historicalBytes_119 HQ25) dX7_reset_84 rfl HQ25.1 rfl rfl rfl (Nat.le_of_ble_eq_true rfl) (Nat.le_of_ble_eq_true rfl) (Nat.le_of_ble_eq_true rfl) (Nat.le_of_ble_eq_true rfl) (Nat.le_of_ble_eq_true rfl) rfl ?_
    exact E.1 _ _ _ _ _ _ _ dX7_reset_87 rfl rfl (Nat.le_of_ble_eq_true rfl) (Nat.le_of_ble_eq_true rfl) ⟨_, rfl, Q, Or.inr ⟨c_21, by rw [(w25 rfl).2]; rfl, H23⟩⟩
  · refine g_bipush (v := (-2)) (q := 26) C dX7_reset_24 (by decide) rfl ?_
    refine g_iload_n (q := 27) C dX7_reset_26 rfl rfl ?_
    refine g_isub (q := 28) C dX7_reset_27 rfl ?_
    exact E.1 _ _ _ _ _ _ _ dX7_reset_28 rfl rfl (Nat.le_of_ble_eq_true rfl) (Nat.le_of_ble_eq_true rfl) ⟨_, rfl, Q, Or.inl ⟨c_21, rfl, H6⟩⟩
