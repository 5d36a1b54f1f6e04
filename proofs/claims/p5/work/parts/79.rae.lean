set_option maxRecDepth 100000 in
set_option maxHeartbeats 4000000 in
theorem c_X3_readLinkGroup_119 {hp : List gA} {q : rq} {l : List Int32} {y : Int32} {z : Int32} (HQ : rqH hp 119 q l) : gM yX3_readLinkGroup cX3_readLinkGroup 3 ((some .int)) 0 0 [.ref 119, .int y, .int z] (hp) (0) (0) (fun v h => v = some (.int (rX3_readLinkGroup q y z).1) ∧ (rqH h 119 (rX3_readLinkGroup q y z).2 l ∧ rqF 119 hp h)) := by
  refine gM_of (ls0 := [some (.ref 119), some (.int y), some (.int z)]) (by decide +kernel) (Nat.le_of_ble_eq_true rfl) rfl fun X C E => ?_
  refine g_iload_n (q := 1) C dX3_readLinkGroup_0 rfl rfl ?_
  refine g_if_ne (t := 27) (q := 4) C dX3_readLinkGroup_1 (by decide) rfl (fun c_1 => ?_) (fun c_1 => ?_)
  ·
    refine g_iload_n (q := 28) C dX3_readLinkGroup_27 rfl rfl ?_
    refine g_iconst (v := 1) (q := 29) C dX3_readLinkGroup_28 (by decide) rfl ?_
    refine g_icmp_ne (t := 46) (q := 32) C dX3_readLinkGroup_29 (by decide) rfl (fun c_29 => ?_) (fun c_29 => ?_)
    ·
      refine g_iload_n (q := 47) C dX3_readLinkGroup_46 rfl rfl ?_
      refine g_if_eq (t := 54) (q := 50) C dX3_readLinkGroup_47 (by decide) rfl (fun c_47 => ?_) (fun c_47 => ?_)
      ·
        refine g_iconst (v := 0) (q := 55) C dX3_readLinkGroup_54 (by decide) rfl ?_
        have e : rX3_readLinkGroup q y z = ((0 : Int32), q) := ((if_neg c_1).trans ((if_neg c_29).trans (if_pos c_47)))
        exact E.1 _ _ _ _ _ _ _ dX3_readLinkGroup_55 rfl rfl (Nat.le_of_ble_eq_true rfl) (Nat.le_of_ble_eq_true rfl) ⟨by rw [e], by rw [e]; exact ⟨HQ, rqF.rf⟩⟩
      ·
        refine g_iconst (v := 5) (q := 51) C dX3_readLinkGroup_50 (by decide) rfl ?_
        refine g_goto (q := 55) C dX3_readLinkGroup_51 (by decide) ?_
        have e : rX3_readLinkGroup q y z = ((5 : Int32), q) := ((if_neg c_1).trans ((if_neg c_29).trans (if_neg c_47)))
        exact E.1 _ _ _ _ _ _ _ dX3_readLinkGroup_55 rfl rfl (Nat.le_of_ble_eq_true rfl) (Nat.le_of_ble_eq_true rfl) ⟨by rw [e], by rw [e]; exact ⟨HQ, rqF.rf⟩⟩
    ·
      refine g_iload_n (q := 33) C dX3_readLinkGroup_32 rfl rfl ?_
      refine g_iconst (v := 4) (q := 34) C dX3_readLinkGroup_33 (by decide) rfl ?_
      refine g_ishr (q := 35) C dX3_readLinkGroup_34 rfl ?_
      refine g_bipush (v := 9) (q := 37) C dX3_readLinkGroup_35 (by decide) rfl ?_
      refine g_icmp_le (t := 44) (q := 40) C dX3_readLinkGroup_37 (by decide) rfl (fun c_37 => ?_) (fun c_37 => ?_)
      ·
        refine g_iconst (v := 0) (q := 45) C dX3_readLinkGroup_44 (by decide) rfl ?_
        have e : rX3_readLinkGroup q y z = ((0 : Int32), q) := ((if_neg c_1).trans ((if_pos c_29).trans (if_pos c_37)))
        exact E.1 _ _ _ _ _ _ _ dX3_readLinkGroup_45 rfl rfl (Nat.le_of_ble_eq_true rfl) (Nat.le_of_ble_eq_true rfl) ⟨by rw [e], by rw [e]; exact ⟨HQ, rqF.rf⟩⟩
      ·
        refine g_iconst (v := 5) (q := 41) C dX3_readLinkGroup_40 (by decide) rfl ?_
        refine g_goto (q := 45) C dX3_readLinkGroup_41 (by decide) ?_
        have e : rX3_readLinkGroup q y z = ((5 : Int32), q) := ((if_neg c_1).trans ((if_pos c_29).trans (if_neg c_37)))
        exact E.1 _ _ _ _ _ _ _ dX3_readLinkGroup_45 rfl rfl (Nat.le_of_ble_eq_true rfl) (Nat.le_of_ble_eq_true rfl) ⟨by rw [e], by rw [e]; exact ⟨HQ, rqF.rf⟩⟩
  ·
    refine g_aload_n (q := 5) C dX3_readLinkGroup_4 rfl rfl ?_
    refine g_iload_n (q := 6) C dX3_readLinkGroup_5 rfl rfl ?_
    refine g_putfield (q := 9) C fX3_51 dX3_readLinkGroup_6 rfl HQ.1 (Nat.le_of_ble_eq_true rfl) (Or.inl rfl) rfl rfl (by intro z h; cases h) ?_
    refine rqput (j := 5) (x := z) HQ rfl fun h1 HQ1 fq1 => ?_
    refine g_iload_n (q := 10) C dX3_readLinkGroup_9 rfl rfl ?_
    refine g_iconst (v := 1) (q := 11) C dX3_readLinkGroup_10 (by decide) rfl ?_
    refine g_icmp_lt (t := 21) (q := 14) C dX3_readLinkGroup_11 (by decide) rfl (fun c_11 => ?_) (fun c_11 => ?_)
    ·
      refine g_iconst (v := 5) (q := 22) C dX3_readLinkGroup_21 (by decide) rfl ?_
      refine g_goto (q := 26) C dX3_readLinkGroup_22 (by decide) ?_
      have e : rX3_readLinkGroup q y z = ((5 : Int32), (q.set 5 z)) := ((if_pos c_1).trans (if_pos c_11))
      exact E.1 _ _ _ _ _ _ _ dX3_readLinkGroup_26 rfl rfl (Nat.le_of_ble_eq_true rfl) (Nat.le_of_ble_eq_true rfl) ⟨by rw [e], by rw [e]; exact ⟨HQ1, fq1⟩⟩
    ·
      refine g_iload_n (q := 15) C dX3_readLinkGroup_14 rfl rfl ?_
      refine g_sipush (v := 254) (q := 18) C dX3_readLinkGroup_15 (by decide) rfl ?_
      refine g_icmp_le (t := 25) (q := 21) C dX3_readLinkGroup_18 (by decide) rfl (fun c_18 => ?_) (fun c_18 => ?_)
      ·
        refine g_iconst (v := 0) (q := 26) C dX3_readLinkGroup_25 (by decide) rfl ?_
        have e : rX3_readLinkGroup q y z = ((0 : Int32), (q.set 5 z)) := ((if_pos c_1).trans ((if_neg c_11).trans (if_pos c_18)))
        exact E.1 _ _ _ _ _ _ _ dX3_readLinkGroup_26 rfl rfl (Nat.le_of_ble_eq_true rfl) (Nat.le_of_ble_eq_true rfl) ⟨by rw [e], by rw [e]; exact ⟨HQ1, fq1⟩⟩
      ·
        refine g_iconst (v := 5) (q := 22) C dX3_readLinkGroup_21 (by decide) rfl ?_
        refine g_goto (q := 26) C dX3_readLinkGroup_22 (by decide) ?_
        have e : rX3_readLinkGroup q y z = ((5 : Int32), (q.set 5 z)) := ((if_pos c_1).trans ((if_neg c_11).trans (if_neg c_18)))
        exact E.1 _ _ _ _ _ _ _ dX3_readLinkGroup_26 rfl rfl (Nat.le_of_ble_eq_true rfl) (Nat.le_of_ble_eq_true rfl) ⟨by rw [e], by rw [e]; exact ⟨HQ1, fq1⟩⟩
set_option maxRecDepth 100000 in
set_option maxHeartbeats 4000000 in
theorem c_X3_readFirstGroup_119 {hp : List gA} {q : rq} {l : List Int32} {y : Int32} {z : Int32} (HQ : rqH hp 119 q l) : gM yX3_readFirstGroup cX3_readFirstGroup 3 ((some .int)) 1 21 [.ref 119, .int y, .int z] (hp) (0) (0) (fun v h => v = some (.int (rX3_readFirstGroup q y z).1) ∧ (rqH h 119 (rX3_readFirstGroup q y z).2 l ∧ rqF 119 hp h)) := by
  refine gM_of (ls0 := [some (.ref 119), some (.int y), some (.int z)]) (by decide +kernel) (Nat.le_of_ble_eq_true rfl) rfl fun X C E => ?_
  refine g_iload_n (q := 1) C dX3_readFirstGroup_0 rfl rfl ?_
  refine g_if_ne (t := 29) (q := 4) C dX3_readFirstGroup_1 (by decide) rfl (fun c_1 => ?_) (fun c_1 => ?_)
  ·
    refine g_iload_n (q := 30) C dX3_readFirstGroup_29 rfl rfl ?_
    refine g_iconst (v := 2) (q := 31) C dX3_readFirstGroup_30 (by decide) rfl ?_
    refine g_icmp_ne (t := 39) (q := 34) C dX3_readFirstGroup_31 (by decide) rfl (fun c_31 => ?_) (fun c_31 => ?_)
    ·
      refine g_iconst (v := 0) (q := 40) C dX3_readFirstGroup_39 (by decide) rfl ?_
      have e : rX3_readFirstGroup q y z = ((0 : Int32), q) := ((if_neg c_1).trans (if_neg c_31))
      exact E.1 _ _ _ _ _ _ _ dX3_readFirstGroup_40 rfl rfl (Nat.le_of_ble_eq_true rfl) (Nat.le_of_ble_eq_true rfl) ⟨by rw [e], by rw [e]; exact ⟨HQ, rqF.rf⟩⟩
    ·
      refine g_aload_n (q := 35) C dX3_readFirstGroup_34 rfl rfl ?_
      refine g_iload_n (q := 36) C dX3_readFirstGroup_35 rfl rfl ?_
      refine g_putfield (q := 39) C fX3_42 dX3_readFirstGroup_36 rfl HQ.1 (Nat.le_of_ble_eq_true rfl) (Or.inl rfl) rfl rfl (by intro z h; cases h) ?_
      refine rqput (j := 2) (x := z) HQ rfl fun h1 HQ1 fq1 => ?_
      refine g_iconst (v := 0) (q := 40) C dX3_readFirstGroup_39 (by decide) rfl ?_
      have e : rX3_readFirstGroup q y z = ((0 : Int32), (q.set 2 z)) := ((if_neg c_1).trans (if_pos c_31))
      exact E.1 _ _ _ _ _ _ _ dX3_readFirstGroup_40 rfl rfl (Nat.le_of_ble_eq_true rfl) (Nat.le_of_ble_eq_true rfl) ⟨by rw [e], by rw [e]; exact ⟨HQ1, fq1⟩⟩
  ·
    refine g_aload_n (q := 5) C dX3_readFirstGroup_4 rfl rfl ?_
    refine g_iload_n (q := 6) C dX3_readFirstGroup_5 rfl rfl ?_
    refine g_putfield (q := 9) C fX3_38 dX3_readFirstGroup_6 rfl HQ.1 (Nat.le_of_ble_eq_true rfl) (Or.inl rfl) rfl rfl (by intro z h; cases h) ?_
    refine rqput (j := 1) (x := z) HQ rfl fun h2 HQ2 fq2 => ?_
    refine g_iload_n (q := 10) C dX3_readFirstGroup_9 rfl rfl ?_
    refine g_callSi (x := (rX3_clockOf z)) (q := 13) (As := [.int z]) C gyX3_clockOf t_542 t_541 (c_X3_clockOf_x) dX3_readFirstGroup_10 rfl rfl rfl (Nat.le_of_ble_eq_true rfl) (Nat.le_of_ble_eq_true rfl) (Nat.le_of_ble_eq_true rfl) (Nat.le_of_ble_eq_true rfl) (Nat.le_of_ble_eq_true rfl) rfl ?_
    refine g_if_eq (t := 23) (q := 16) C dX3_readFirstGroup_13 (by decide) rfl (fun c_13 => ?_) (fun c_13 => ?_)
    ·
      refine g_iconst (v := 4) (q := 24) C dX3_readFirstGroup_23 (by decide) rfl ?_
      refine g_goto (q := 28) C dX3_readFirstGroup_24 (by decide) ?_
      have e : rX3_readFirstGroup q y z = ((4 : Int32), (q.set 1 z)) := ((if_pos c_1).trans (if_pos c_13))
      exact E.1 _ _ _ _ _ _ _ dX3_readFirstGroup_28 rfl rfl (Nat.le_of_ble_eq_true rfl) (Nat.le_of_ble_eq_true rfl) ⟨by rw [e], by rw [e]; exact ⟨HQ2, fq2⟩⟩
    ·
      refine g_iload_n (q := 17) C dX3_readFirstGroup_16 rfl rfl ?_
      refine g_callSi (x := (rX3_divisorOf z)) (q := 20) (As := [.int z]) C gyX3_divisorOf t_547 t_546 (c_X3_divisorOf_x) dX3_readFirstGroup_17 rfl rfl rfl (Nat.le_of_ble_eq_true rfl) (Nat.le_of_ble_eq_true rfl) (Nat.le_of_ble_eq_true rfl) (Nat.le_of_ble_eq_true rfl) (Nat.le_of_ble_eq_true rfl) rfl ?_
      refine g_if_ne (t := 27) (q := 23) C dX3_readFirstGroup_20 (by decide) rfl (fun c_20 => ?_) (fun c_20 => ?_)
      ·
        refine g_iconst (v := 0) (q := 28) C dX3_readFirstGroup_27 (by decide) rfl ?_
        have e : rX3_readFirstGroup q y z = ((0 : Int32), (q.set 1 z)) := ((if_pos c_1).trans ((if_neg c_13).trans (if_neg c_20)))
        exact E.1 _ _ _ _ _ _ _ dX3_readFirstGroup_28 rfl rfl (Nat.le_of_ble_eq_true rfl) (Nat.le_of_ble_eq_true rfl) ⟨by rw [e], by rw [e]; exact ⟨HQ2, fq2⟩⟩
      ·
        refine g_iconst (v := 4) (q := 24) C dX3_readFirstGroup_23 (by decide) rfl ?_
        refine g_goto (q := 28) C dX3_readFirstGroup_24 (by decide) ?_
        have e : rX3_readFirstGroup q y z = ((4 : Int32), (q.set 1 z)) := ((if_pos c_1).trans ((if_neg c_13).trans (if_pos c_20)))
        exact E.1 _ _ _ _ _ _ _ dX3_readFirstGroup_28 rfl rfl (Nat.le_of_ble_eq_true rfl) (Nat.le_of_ble_eq_true rfl) ⟨by rw [e], by rw [e]; exact ⟨HQ2, fq2⟩⟩
set_option maxRecDepth 100000 in
set_option maxHeartbeats 4000000 in
theorem c_X3_readGroupByte_119 {hp : List gA} {q : rq} {l : List Int32} {y : Int32} {z : Int32} {w : Int32} (HQ : rqH hp 119 q l) : gM yX3_readGroupByte cX3_readGroupByte 4 ((some .int)) 2 43 [.ref 119, .int y, .int z, .int w] (hp) (0) (0) (fun v h => v = some (.int (rX3_readGroupByte q y z w).1) ∧ (rqH h 119 (rX3_readGroupByte q y z w).2 l ∧ rqF 119 hp h)) := by
  refine gM_of (ls0 := [some (.ref 119), some (.int y), some (.int z), some (.int w)]) (by decide +kernel) (Nat.le_of_ble_eq_true rfl) rfl fun X C E => ?_
  refine g_iload_n (q := 1) C dX3_readGroupByte_0 rfl rfl ?_
  refine g_iconst (v := 3) (q := 2) C dX3_readGroupByte_1 (by decide) rfl ?_
  refine g_icmp_ne (t := 12) (q := 5) C dX3_readGroupByte_2 (by decide) rfl (fun c_2 => ?_) (fun c_2 => ?_)
  ·
    refine g_iload_n (q := 13) C dX3_readGroupByte_12 rfl rfl ?_
    refine g_iconst (v := 1) (q := 14) C dX3_readGroupByte_13 (by decide) rfl ?_
    refine g_icmp_ne (t := 24) (q := 17) C dX3_readGroupByte_14 (by decide) rfl (fun c_14 => ?_) (fun c_14 => ?_)
    ·
      refine g_iload_n (q := 25) C dX3_readGroupByte_24 rfl rfl ?_
      refine g_aload_n (q := 26) C dX3_readGroupByte_25 rfl rfl ?_
      refine g_getfield (v := .int ((q.f 10))) (q := 29) C fX3_62 dX3_readGroupByte_26 rfl HQ.1 rfl ?_
      refine g_icmp_ne (t := 41) (q := 32) C dX3_readGroupByte_29 (by decide) rfl (fun c_29 => ?_) (fun c_29 => ?_)
      ·
        refine g_iconst (v := 0) (q := 42) C dX3_readGroupByte_41 (by decide) rfl ?_
        have e : rX3_readGroupByte q y z w = ((0 : Int32), q) := ((if_neg c_2).trans ((if_neg c_14).trans (if_neg c_29)))
        exact E.1 _ _ _ _ _ _ _ dX3_readGroupByte_42 rfl rfl (Nat.le_of_ble_eq_true rfl) (Nat.le_of_ble_eq_true rfl) ⟨by rw [e], by rw [e]; exact ⟨HQ, rqF.rf⟩⟩
      ·
        refine g_aload_n (q := 33) C dX3_readGroupByte_32 rfl rfl ?_
        refine g_iload_n (q := 34) C dX3_readGroupByte_33 rfl rfl ?_
        refine g_iload_n (q := 35) C dX3_readGroupByte_34 rfl rfl ?_
        refine g_callVix (x := (rX3_readLinkGroup q z w).1) (q := 38) (As := [.int z, .int w]) C gyX3_readLinkGroup gvX3_readLinkGroup t_551 (c_X3_readLinkGroup_119 HQ) dX3_readGroupByte_35 rfl HQ.1 rfl rfl rfl (Nat.le_of_ble_eq_true rfl) (Nat.le_of_ble_eq_true rfl) (Nat.le_of_ble_eq_true rfl) (Nat.le_of_ble_eq_true rfl) (Nat.le_of_ble_eq_true rfl) rfl (fun h1 z1 => ?_)
        obtain ⟨HQ1, fq1⟩ := z1
        refine g_goto (q := 42) C dX3_readGroupByte_38 (by decide) ?_
        have e : rX3_readGroupByte q y z w = (rX3_readLinkGroup q z w) := ((if_neg c_2).trans ((if_neg c_14).trans (if_pos c_29)))
        exact E.1 _ _ _ _ _ _ _ dX3_readGroupByte_42 rfl rfl (Nat.le_of_ble_eq_true rfl) (Nat.le_of_ble_eq_true rfl) ⟨by rw [e], by rw [e]; exact ⟨HQ1, fq1⟩⟩
    ·
      refine g_aload_n (q := 18) C dX3_readGroupByte_17 rfl rfl ?_
      refine g_iload_n (q := 19) C dX3_readGroupByte_18 rfl rfl ?_
      refine g_iload_n (q := 20) C dX3_readGroupByte_19 rfl rfl ?_
      refine g_callVix (x := (rX3_readFirstGroup q z w).1) (q := 23) (As := [.int z, .int w]) C gyX3_readFirstGroup gvX3_readFirstGroup t_537 (c_X3_readFirstGroup_119 HQ) dX3_readGroupByte_20 rfl HQ.1 rfl rfl rfl (Nat.le_of_ble_eq_true rfl) (Nat.le_of_ble_eq_true rfl) (Nat.le_of_ble_eq_true rfl) (Nat.le_of_ble_eq_true rfl) (Nat.le_of_ble_eq_true rfl) rfl (fun h2 z2 => ?_)
      obtain ⟨HQ2, fq2⟩ := z2
      have e : rX3_readGroupByte q y z w = (rX3_readFirstGroup q z w) := ((if_neg c_2).trans (if_pos c_14))
      exact E.1 _ _ _ _ _ _ _ dX3_readGroupByte_23 rfl rfl (Nat.le_of_ble_eq_true rfl) (Nat.le_of_ble_eq_true rfl) ⟨by rw [e], by rw [e]; exact ⟨HQ2, fq2⟩⟩
  ·
    refine g_aload_n (q := 6) C dX3_readGroupByte_5 rfl rfl ?_
    refine g_iload_n (q := 7) C dX3_readGroupByte_6 rfl rfl ?_
    refine g_iload_n (q := 8) C dX3_readGroupByte_7 rfl rfl ?_
    refine g_callVix (x := (rX3_readTd q y w).1) (q := 11) (As := [.int y, .int w]) C gyX3_readTd gvX3_readTd t_533 (c_X3_readTd_119 HQ) dX3_readGroupByte_8 rfl HQ.1 rfl rfl rfl (Nat.le_of_ble_eq_true rfl) (Nat.le_of_ble_eq_true rfl) (Nat.le_of_ble_eq_true rfl) (Nat.le_of_ble_eq_true rfl) (Nat.le_of_ble_eq_true rfl) rfl (fun h3 z3 => ?_)
    obtain ⟨HQ3, fq3⟩ := z3
    have e : rX3_readGroupByte q y z w = (rX3_readTd q y w) := (if_pos c_2)
    exact E.1 _ _ _ _ _ _ _ dX3_readGroupByte_11 rfl rfl (Nat.le_of_ble_eq_true rfl) (Nat.le_of_ble_eq_true rfl) ⟨by rw [e], by rw [e]; exact ⟨HQ3, fq3⟩⟩
set_option maxRecDepth 100000 in
set_option maxHeartbeats 4000000 in
theorem c_X3_readGroups_119 {hp : List gA} {q : rq} {l t : List Int32} (HQ : rqH hp 119 q l) (HT : gRw hp 1 2 96 t) : gM yX3_readGroups cX3_readGroups 6 ((some .int)) 3 66 [.ref 119, .ref 1] (hp) (0) (0) (fun v h => v = some (.int (rGs t 4 1 (0, q)).1) ∧ (rqH h 119 (rGs t 4 1 (0, q)).2 l ∧ rqF 119 hp h)) := by
  refine gM_of (ls0 := [some (.ref 119), some (.ref 1), none, none, none, none]) (by decide +kernel) (Nat.le_of_ble_eq_true rfl) rfl fun X C E => ?_
  have ht := (gRw.le HT).1
  obtain ⟨F, hF⟩ : ∃ F, rGs t 4 1 (0, q) = F := ⟨_, rfl⟩
  have K : ∀ (n g : Nat) (q1 : rq) (ha : List gA) (x3 x4 x5 : Option Value), n + g = 5 → 1 ≤ g → rqH ha 119 q1 l → gRw ha 1 2 96 t → rqF 119 hp ha → rGs t n g (0, q1) = F → gG X 2 [some (.ref 119), some (.ref 1), some (.int ((nI g))), x3, x4, x5] [] ha 0 0 := by
    intro n
    induction n with
    | zero =>
      intro g q1 ha x3 x4 x5 hg hg1 HQa HTa fqa hr
      obtain rfl : g = 5 := by omega
      have hr : (0, q1) = F := hr
      refine g_iload_n (q := 3) C dX3_readGroups_2 rfl rfl ?_
      refine g_iconst (v := 4) (q := 4) C dX3_readGroups_3 (by decide) rfl ?_
      refine g_icmp_gt_t (t := 124) C dX3_readGroups_4 (by decide) (by decide) ?_
      refine g_iconst (v := 0) (q := 125) C dX3_readGroups_124 (by decide) rfl ?_
      exact E.1 _ _ _ _ _ _ _ dX3_readGroups_125 rfl rfl (Nat.le_of_ble_eq_true rfl) (Nat.le_of_ble_eq_true rfl) ⟨by rw [hF, ← hr], by rw [hF, ← hr]; exact ⟨HQa, fqa⟩⟩
    | succ n ih =>
      intro g q1 ha x3 x4 x5 hg hg1 HQa HTa fqa hr
      have J4 : ∀ (q2 : rq) (hb : List gA) (x5 : Option Value), rqH hb 119 q2 l → gRw hb 1 2 96 t → rqF 119 hp hb → rGs t n (g + 1) (0, q2) = F → gG X 32 [some (.ref 119), some (.ref 1), some (.int ((nI g))), some (.int ((q1.f 9))), some (.int 4), x5] [] hb 0 0 := by
        intro q2 hb x5 HQb HTb fqb hr2
        refine g_iload (q := 34) C dX3_readGroups_32 rfl rfl ?_
        refine g_iconst (v := 4) (q := 35) C dX3_readGroups_34 (by decide) rfl ?_
        refine g_icmp_ge_t (t := 118) C dX3_readGroups_35 (by decide) (by decide) ?_
        refine g_iinc (v := (nI (g + 1))) (q := 121) C dX3_readGroups_118 rfl (nI_1 g) (by simp only [gset]; rfl) rfl ?_
        refine g_goto (q := 2) C dX3_readGroups_121 (by decide) ?_
        exact ih (g + 1) q2 hb _ _ _ (by omega) (by omega) HQb HTb fqb hr2
      have J3 : ∀ (q2 : rq) (hb : List gA) (x5 : Option Value), rqH hb 119 q2 l → gRw hb 1 2 96 t → rqF 119 hp hb → rGs t n (g + 1) (rL t (nI g) (q1.f 9) 3 (0, q2)) = F → gG X 32 [some (.ref 119), some (.ref 1), some (.int ((nI g))), some (.int ((q1.f 9))), some (.int 3), x5] [] hb 0 0 := by
        intro q2 hb x5 HQb HTb fqb hr2
        refine g_iload (q := 34) C dX3_readGroups_32 rfl rfl ?_
        refine g_iconst (v := 4) (q := 35) C dX3_readGroups_34 (by decide) rfl ?_
        refine g_icmp_ge_f (t := 118) (q := 38) C dX3_readGroups_35 (by decide) rfl (by decide) ?_
        refine g_iload_n (q := 39) C dX3_readGroups_38 rfl rfl ?_
        refine g_iload (q := 41) C dX3_readGroups_39 rfl rfl ?_
        refine g_ishr (q := 42) C dX3_readGroups_41 rfl ?_
        refine g_iconst (v := 1) (q := 43) C dX3_readGroups_42 (by decide) rfl ?_
        refine g_iand (q := 44) C dX3_readGroups_43 rfl ?_
        refine g_if_ne (t := 50) (q := 47) C dX3_readGroups_44 (by decide) rfl (fun c_44 => ?_) (fun c_44 => ?_)
        ·
          refine g_aload_n (q := 51) C dX3_readGroups_50 rfl rfl ?_
          refine g_getfield (v := .int ((q2.f 8))) (q := 54) C fX3_79 dX3_readGroups_51 rfl HQb.1 rfl ?_
          refine g_aload_n (q := 55) C dX3_readGroups_54 rfl rfl ?_
          refine g_callVi (x := (nI t.length)) (q := 58) (As := []) C gyX4_size gvX4_size t_517 (c_X4_size (gRw.obj HTb)) dX3_readGroups_55 rfl (gRw.obj HTb) rfl rfl rfl (Nat.le_of_ble_eq_true rfl) (Nat.le_of_ble_eq_true rfl) (Nat.le_of_ble_eq_true rfl) (Nat.le_of_ble_eq_true rfl) (Nat.le_of_ble_eq_true rfl) rfl ?_
          refine g_icmp_lt (t := 70) (q := 61) C dX3_readGroups_58 (by decide) rfl (fun c_58 => ?_) (fun c_58 => ?_)
          ·
            refine g_aload_n (q := 71) C dX3_readGroups_70 rfl rfl ?_
            refine g_iload_n (q := 72) C dX3_readGroups_71 rfl rfl ?_
            refine g_iload (q := 74) C dX3_readGroups_72 rfl rfl ?_
            refine g_aload_n (q := 75) C dX3_readGroups_74 rfl rfl ?_
            refine g_aload_n (q := 76) C dX3_readGroups_75 rfl rfl ?_
            refine g_getfield (v := .int ((q2.f 8))) (q := 79) C fX3_79 dX3_readGroups_76 rfl HQb.1 rfl ?_
            refine g_callVi (x := (gat t (q2.f 8))) (q := 82) (As := [.int ((q2.f 8))]) C gyX4_at gvX4_at t_521 (c_X4_at_w HTb) dX3_readGroups_79 rfl (gRw.obj HTb) rfl rfl rfl (Nat.le_of_ble_eq_true rfl) (Nat.le_of_ble_eq_true rfl) (Nat.le_of_ble_eq_true rfl) (Nat.le_of_ble_eq_true rfl) (Nat.le_of_ble_eq_true rfl) rfl ?_
            refine g_callVix (x := (rX3_readGroupByte q2 (nI g) 3 (gat t (q2.f 8))).1) (q := 85) (As := [.int ((nI g)), .int 3, .int ((gat t (q2.f 8)))]) C gyX3_readGroupByte gvX3_readGroupByte t_529 (c_X3_readGroupByte_119 HQb) dX3_readGroups_82 rfl HQb.1 rfl rfl rfl (Nat.le_of_ble_eq_true rfl) (Nat.le_of_ble_eq_true rfl) (Nat.le_of_ble_eq_true rfl) (Nat.le_of_ble_eq_true rfl) (Nat.le_of_ble_eq_true rfl) rfl (fun h1 z1 => ?_)
            obtain ⟨HQ1, fq1⟩ := z1
            have HT1 := gRw.ra HTb (by decide) fq1
            refine g_istore (q := 87) C dX3_readGroups_85 (Nat.le_of_ble_eq_true rfl) (by simp only [gset]; rfl) rfl ?_
            refine g_iload (q := 89) C dX3_readGroups_87 rfl rfl ?_
            refine g_if_eq (t := 102) (q := 92) C dX3_readGroups_89 (by decide) rfl (fun c_89 => ?_) (fun c_89 => ?_)
            ·
              refine g_aload_n (q := 103) C dX3_readGroups_102 rfl rfl ?_
              refine g_dup (q := 104) C dX3_readGroups_103 rfl rfl ?_
              refine g_getfield (v := .int ((((rX3_readGroupByte q2 (nI g) 3 (gat t (q2.f 8))).2).f 8))) (q := 107) C fX3_79 dX3_readGroups_104 rfl HQ1.1 rfl ?_
              refine g_iconst (v := 1) (q := 108) C dX3_readGroups_107 (by decide) rfl ?_
              refine g_iadd (q := 109) C dX3_readGroups_108 rfl ?_
              refine g_putfield (q := 112) C fX3_79 dX3_readGroups_109 rfl HQ1.1 (Nat.le_of_ble_eq_true rfl) (Or.inl rfl) rfl rfl (by intro z h; cases h) ?_
              refine rqput (j := 8) (x := ((((rX3_readGroupByte q2 (nI g) 3 (gat t (q2.f 8))).2).f 8) + 1)) HQ1 rfl fun h2 HQ2 fq2 => ?_
              have HT2 := gRw.ra HT1 (by decide) fq2
              refine g_iinc (v := 4) (q := 115) C dX3_readGroups_112 rfl (by decide) (by simp only [gset]; rfl) rfl ?_
              refine g_goto (q := 32) C dX3_readGroups_115 (by decide) ?_
              exact J4 _ _ _ HQ2 HT2 (rqF.trans (rqF.trans fqb fq1) fq2) (by rw [← hr2, show rL t (nI g) (q1.f 9) 3 (0, q2) = ((0 : Int32), ((rX3_readGroupByte q2 (nI g) 3 (gat t (q2.f 8))).2.set 8 ((rX3_readGroupByte q2 (nI g) 3 (gat t (q2.f 8))).2.f 8 + 1))) from (if_pos rfl).trans ((if_neg c_44).trans ((if_neg (by rw [Int32.not_le]; exact c_58)).trans (if_pos c_89)))])
            ·
              refine g_aload_n (q := 93) C dX3_readGroups_92 rfl rfl ?_
              refine g_getfield (v := .int ((((rX3_readGroupByte q2 (nI g) 3 (gat t (q2.f 8))).2).f 8))) (q := 96) C fX3_79 dX3_readGroups_93 rfl HQ1.1 rfl ?_
              refine g_iload (q := 98) C dX3_readGroups_96 rfl rfl ?_
              refine g_callSi (x := (8 * (((rX3_readGroupByte q2 (nI g) 3 (gat t (q2.f 8))).2).f 8) + (rX3_readGroupByte q2 (nI g) 3 (gat t (q2.f 8))).1)) (q := 101) (As := [.int ((((rX3_readGroupByte q2 (nI g) 3 (gat t (q2.f 8))).2).f 8)), .int ((rX3_readGroupByte q2 (nI g) 3 (gat t (q2.f 8))).1)]) C gyX3_faultAt t_519 t_518 (c_X3_faultAt_x) dX3_readGroups_98 rfl rfl rfl (Nat.le_of_ble_eq_true rfl) (Nat.le_of_ble_eq_true rfl) (Nat.le_of_ble_eq_true rfl) (Nat.le_of_ble_eq_true rfl) (Nat.le_of_ble_eq_true rfl) rfl ?_
              have hst : ¬ (((8 * (rX3_readGroupByte q2 (nI g) 3 (gat t (q2.f 8))).2.f 8 + (rX3_readGroupByte q2 (nI g) 3 (gat t (q2.f 8))).1, (rX3_readGroupByte q2 (nI g) 3 (gat t (q2.f 8))).2) : Int32 × rq)).1 = 0 := rGbx c_89
              have e : rL t (nI g) (q1.f 9) 3 (0, q2) = (8 * (rX3_readGroupByte q2 (nI g) 3 (gat t (q2.f 8))).2.f 8 + (rX3_readGroupByte q2 (nI g) 3 (gat t (q2.f 8))).1, (rX3_readGroupByte q2 (nI g) 3 (gat t (q2.f 8))).2) := (if_pos rfl).trans ((if_neg c_44).trans ((if_neg (by rw [Int32.not_le]; exact c_58)).trans (if_neg c_89)))
              rw [e, rGs_st hst] at hr2
              exact E.1 _ _ _ _ _ _ _ dX3_readGroups_101 rfl rfl (Nat.le_of_ble_eq_true rfl) (Nat.le_of_ble_eq_true rfl) ⟨by rw [hF, ← hr2], by rw [hF, ← hr2]; exact ⟨HQ1, (rqF.trans fqb fq1)⟩⟩
          ·
            refine g_aload_n (q := 62) C dX3_readGroups_61 rfl rfl ?_
            refine g_getfield (v := .int ((q2.f 8))) (q := 65) C fX3_79 dX3_readGroups_62 rfl HQb.1 rfl ?_
            refine g_iconst (v := 1) (q := 66) C dX3_readGroups_65 (by decide) rfl ?_
            refine g_callSi (x := (8 * (q2.f 8) + 1)) (q := 69) (As := [.int ((q2.f 8)), .int 1]) C gyX3_faultAt t_519 t_518 (c_X3_faultAt_x) dX3_readGroups_66 rfl rfl rfl (Nat.le_of_ble_eq_true rfl) (Nat.le_of_ble_eq_true rfl) (Nat.le_of_ble_eq_true rfl) (Nat.le_of_ble_eq_true rfl) (Nat.le_of_ble_eq_true rfl) rfl ?_
            have hst : ¬ (((8 * q2.f 8 + 1, q2) : Int32 × rq)).1 = 0 := gx8 (c := 1) (by decide) (by decide)
            have e : rL t (nI g) (q1.f 9) 3 (0, q2) = (8 * q2.f 8 + 1, q2) := (if_pos rfl).trans ((if_neg c_44).trans (if_pos (Int32.not_lt.mp c_58)))
            rw [e, rGs_st hst] at hr2
            exact E.1 _ _ _ _ _ _ _ dX3_readGroups_69 rfl rfl (Nat.le_of_ble_eq_true rfl) (Nat.le_of_ble_eq_true rfl) ⟨by rw [hF, ← hr2], by rw [hF, ← hr2]; exact ⟨HQb, fqb⟩⟩
        ·
          refine g_goto (q := 112) C dX3_readGroups_47 (by decide) ?_
          refine g_iinc (v := 4) (q := 115) C dX3_readGroups_112 rfl (by decide) (by simp only [gset]; rfl) rfl ?_
          refine g_goto (q := 32) C dX3_readGroups_115 (by decide) ?_
          exact J4 _ _ _ HQb HTb fqb (by rw [← hr2, show rL t (nI g) (q1.f 9) 3 (0, q2) = ((0 : Int32), q2) from (if_pos rfl).trans (if_pos (c_44))])
      have J2 : ∀ (q2 : rq) (hb : List gA) (x5 : Option Value), rqH hb 119 q2 l → gRw hb 1 2 96 t → rqF 119 hp hb → rGs t n (g + 1) (rL t (nI g) (q1.f 9) 3 (rL t (nI g) (q1.f 9) 2 (0, q2))) = F → gG X 32 [some (.ref 119), some (.ref 1), some (.int ((nI g))), some (.int ((q1.f 9))), some (.int 2), x5] [] hb 0 0 := by
        intro q2 hb x5 HQb HTb fqb hr2
        refine g_iload (q := 34) C dX3_readGroups_32 rfl rfl ?_
        refine g_iconst (v := 4) (q := 35) C dX3_readGroups_34 (by decide) rfl ?_
        refine g_icmp_ge_f (t := 118) (q := 38) C dX3_readGroups_35 (by decide) rfl (by decide) ?_
        refine g_iload_n (q := 39) C dX3_readGroups_38 rfl rfl ?_
        refine g_iload (q := 41) C dX3_readGroups_39 rfl rfl ?_
        refine g_ishr (q := 42) C dX3_readGroups_41 rfl ?_
        refine g_iconst (v := 1) (q := 43) C dX3_readGroups_42 (by decide) rfl ?_
        refine g_iand (q := 44) C dX3_readGroups_43 rfl ?_
        refine g_if_ne (t := 50) (q := 47) C dX3_readGroups_44 (by decide) rfl (fun c_44 => ?_) (fun c_44 => ?_)
        ·
          refine g_aload_n (q := 51) C dX3_readGroups_50 rfl rfl ?_
          refine g_getfield (v := .int ((q2.f 8))) (q := 54) C fX3_79 dX3_readGroups_51 rfl HQb.1 rfl ?_
          refine g_aload_n (q := 55) C dX3_readGroups_54 rfl rfl ?_
          refine g_callVi (x := (nI t.length)) (q := 58) (As := []) C gyX4_size gvX4_size t_517 (c_X4_size (gRw.obj HTb)) dX3_readGroups_55 rfl (gRw.obj HTb) rfl rfl rfl (Nat.le_of_ble_eq_true rfl) (Nat.le_of_ble_eq_true rfl) (Nat.le_of_ble_eq_true rfl) (Nat.le_of_ble_eq_true rfl) (Nat.le_of_ble_eq_true rfl) rfl ?_
          refine g_icmp_lt (t := 70) (q := 61) C dX3_readGroups_58 (by decide) rfl (fun c_58 => ?_) (fun c_58 => ?_)
          ·
            refine g_aload_n (q := 71) C dX3_readGroups_70 rfl rfl ?_
            refine g_iload_n (q := 72) C dX3_readGroups_71 rfl rfl ?_
            refine g_iload (q := 74) C dX3_readGroups_72 rfl rfl ?_
            refine g_aload_n (q := 75) C dX3_readGroups_74 rfl rfl ?_
            refine g_aload_n (q := 76) C dX3_readGroups_75 rfl rfl ?_
            refine g_getfield (v := .int ((q2.f 8))) (q := 79) C fX3_79 dX3_readGroups_76 rfl HQb.1 rfl ?_
            refine g_callVi (x := (gat t (q2.f 8))) (q := 82) (As := [.int ((q2.f 8))]) C gyX4_at gvX4_at t_521 (c_X4_at_w HTb) dX3_readGroups_79 rfl (gRw.obj HTb) rfl rfl rfl (Nat.le_of_ble_eq_true rfl) (Nat.le_of_ble_eq_true rfl) (Nat.le_of_ble_eq_true rfl) (Nat.le_of_ble_eq_true rfl) (Nat.le_of_ble_eq_true rfl) rfl ?_
            refine g_callVix (x := (rX3_readGroupByte q2 (nI g) 2 (gat t (q2.f 8))).1) (q := 85) (As := [.int ((nI g)), .int 2, .int ((gat t (q2.f 8)))]) C gyX3_readGroupByte gvX3_readGroupByte t_529 (c_X3_readGroupByte_119 HQb) dX3_readGroups_82 rfl HQb.1 rfl rfl rfl (Nat.le_of_ble_eq_true rfl) (Nat.le_of_ble_eq_true rfl) (Nat.le_of_ble_eq_true rfl) (Nat.le_of_ble_eq_true rfl) (Nat.le_of_ble_eq_true rfl) rfl (fun h3 z3 => ?_)
            obtain ⟨HQ3, fq3⟩ := z3
            have HT3 := gRw.ra HTb (by decide) fq3
            refine g_istore (q := 87) C dX3_readGroups_85 (Nat.le_of_ble_eq_true rfl) (by simp only [gset]; rfl) rfl ?_
            refine g_iload (q := 89) C dX3_readGroups_87 rfl rfl ?_
            refine g_if_eq (t := 102) (q := 92) C dX3_readGroups_89 (by decide) rfl (fun c_89 => ?_) (fun c_89 => ?_)
            ·
              refine g_aload_n (q := 103) C dX3_readGroups_102 rfl rfl ?_
              refine g_dup (q := 104) C dX3_readGroups_103 rfl rfl ?_
              refine g_getfield (v := .int ((((rX3_readGroupByte q2 (nI g) 2 (gat t (q2.f 8))).2).f 8))) (q := 107) C fX3_79 dX3_readGroups_104 rfl HQ3.1 rfl ?_
              refine g_iconst (v := 1) (q := 108) C dX3_readGroups_107 (by decide) rfl ?_
              refine g_iadd (q := 109) C dX3_readGroups_108 rfl ?_
              refine g_putfield (q := 112) C fX3_79 dX3_readGroups_109 rfl HQ3.1 (Nat.le_of_ble_eq_true rfl) (Or.inl rfl) rfl rfl (by intro z h; cases h) ?_
              refine rqput (j := 8) (x := ((((rX3_readGroupByte q2 (nI g) 2 (gat t (q2.f 8))).2).f 8) + 1)) HQ3 rfl fun h4 HQ4 fq4 => ?_
              have HT4 := gRw.ra HT3 (by decide) fq4
              refine g_iinc (v := 3) (q := 115) C dX3_readGroups_112 rfl (by decide) (by simp only [gset]; rfl) rfl ?_
              refine g_goto (q := 32) C dX3_readGroups_115 (by decide) ?_
              exact J3 _ _ _ HQ4 HT4 (rqF.trans (rqF.trans fqb fq3) fq4) (by rw [← hr2, show rL t (nI g) (q1.f 9) 2 (0, q2) = ((0 : Int32), ((rX3_readGroupByte q2 (nI g) 2 (gat t (q2.f 8))).2.set 8 ((rX3_readGroupByte q2 (nI g) 2 (gat t (q2.f 8))).2.f 8 + 1))) from (if_pos rfl).trans ((if_neg c_44).trans ((if_neg (by rw [Int32.not_le]; exact c_58)).trans (if_pos c_89)))])
            ·
              refine g_aload_n (q := 93) C dX3_readGroups_92 rfl rfl ?_
              refine g_getfield (v := .int ((((rX3_readGroupByte q2 (nI g) 2 (gat t (q2.f 8))).2).f 8))) (q := 96) C fX3_79 dX3_readGroups_93 rfl HQ3.1 rfl ?_
              refine g_iload (q := 98) C dX3_readGroups_96 rfl rfl ?_
              refine g_callSi (x := (8 * (((rX3_readGroupByte q2 (nI g) 2 (gat t (q2.f 8))).2).f 8) + (rX3_readGroupByte q2 (nI g) 2 (gat t (q2.f 8))).1)) (q := 101) (As := [.int ((((rX3_readGroupByte q2 (nI g) 2 (gat t (q2.f 8))).2).f 8)), .int ((rX3_readGroupByte q2 (nI g) 2 (gat t (q2.f 8))).1)]) C gyX3_faultAt t_519 t_518 (c_X3_faultAt_x) dX3_readGroups_98 rfl rfl rfl (Nat.le_of_ble_eq_true rfl) (Nat.le_of_ble_eq_true rfl) (Nat.le_of_ble_eq_true rfl) (Nat.le_of_ble_eq_true rfl) (Nat.le_of_ble_eq_true rfl) rfl ?_
              have hst : ¬ (((8 * (rX3_readGroupByte q2 (nI g) 2 (gat t (q2.f 8))).2.f 8 + (rX3_readGroupByte q2 (nI g) 2 (gat t (q2.f 8))).1, (rX3_readGroupByte q2 (nI g) 2 (gat t (q2.f 8))).2) : Int32 × rq)).1 = 0 := rGbx c_89
              have e : rL t (nI g) (q1.f 9) 2 (0, q2) = (8 * (rX3_readGroupByte q2 (nI g) 2 (gat t (q2.f 8))).2.f 8 + (rX3_readGroupByte q2 (nI g) 2 (gat t (q2.f 8))).1, (rX3_readGroupByte q2 (nI g) 2 (gat t (q2.f 8))).2) := (if_pos rfl).trans ((if_neg c_44).trans ((if_neg (by rw [Int32.not_le]; exact c_58)).trans (if_neg c_89)))
              rw [e, rL_st (k := 3) hst, rGs_st hst] at hr2
              exact E.1 _ _ _ _ _ _ _ dX3_readGroups_101 rfl rfl (Nat.le_of_ble_eq_true rfl) (Nat.le_of_ble_eq_true rfl) ⟨by rw [hF, ← hr2], by rw [hF, ← hr2]; exact ⟨HQ3, (rqF.trans fqb fq3)⟩⟩
          ·
            refine g_aload_n (q := 62) C dX3_readGroups_61 rfl rfl ?_
            refine g_getfield (v := .int ((q2.f 8))) (q := 65) C fX3_79 dX3_readGroups_62 rfl HQb.1 rfl ?_
            refine g_iconst (v := 1) (q := 66) C dX3_readGroups_65 (by decide) rfl ?_
            refine g_callSi (x := (8 * (q2.f 8) + 1)) (q := 69) (As := [.int ((q2.f 8)), .int 1]) C gyX3_faultAt t_519 t_518 (c_X3_faultAt_x) dX3_readGroups_66 rfl rfl rfl (Nat.le_of_ble_eq_true rfl) (Nat.le_of_ble_eq_true rfl) (Nat.le_of_ble_eq_true rfl) (Nat.le_of_ble_eq_true rfl) (Nat.le_of_ble_eq_true rfl) rfl ?_
            have hst : ¬ (((8 * q2.f 8 + 1, q2) : Int32 × rq)).1 = 0 := gx8 (c := 1) (by decide) (by decide)
            have e : rL t (nI g) (q1.f 9) 2 (0, q2) = (8 * q2.f 8 + 1, q2) := (if_pos rfl).trans ((if_neg c_44).trans (if_pos (Int32.not_lt.mp c_58)))
            rw [e, rL_st (k := 3) hst, rGs_st hst] at hr2
            exact E.1 _ _ _ _ _ _ _ dX3_readGroups_69 rfl rfl (Nat.le_of_ble_eq_true rfl) (Nat.le_of_ble_eq_true rfl) ⟨by rw [hF, ← hr2], by rw [hF, ← hr2]; exact ⟨HQb, fqb⟩⟩
        ·
          refine g_goto (q := 112) C dX3_readGroups_47 (by decide) ?_
          refine g_iinc (v := 3) (q := 115) C dX3_readGroups_112 rfl (by decide) (by simp only [gset]; rfl) rfl ?_
          refine g_goto (q := 32) C dX3_readGroups_115 (by decide) ?_
          exact J3 _ _ _ HQb HTb fqb (by rw [← hr2, show rL t (nI g) (q1.f 9) 2 (0, q2) = ((0 : Int32), q2) from (if_pos rfl).trans (if_pos (c_44))])
      have J1 : ∀ (q2 : rq) (hb : List gA) (x5 : Option Value), rqH hb 119 q2 l → gRw hb 1 2 96 t → rqF 119 hp hb → rGs t n (g + 1) (rL t (nI g) (q1.f 9) 3 (rL t (nI g) (q1.f 9) 2 (rL t (nI g) (q1.f 9) 1 (0, q2)))) = F → gG X 32 [some (.ref 119), some (.ref 1), some (.int ((nI g))), some (.int ((q1.f 9))), some (.int 1), x5] [] hb 0 0 := by
        intro q2 hb x5 HQb HTb fqb hr2
        refine g_iload (q := 34) C dX3_readGroups_32 rfl rfl ?_
        refine g_iconst (v := 4) (q := 35) C dX3_readGroups_34 (by decide) rfl ?_
        refine g_icmp_ge_f (t := 118) (q := 38) C dX3_readGroups_35 (by decide) rfl (by decide) ?_
        refine g_iload_n (q := 39) C dX3_readGroups_38 rfl rfl ?_
        refine g_iload (q := 41) C dX3_readGroups_39 rfl rfl ?_
        refine g_ishr (q := 42) C dX3_readGroups_41 rfl ?_
        refine g_iconst (v := 1) (q := 43) C dX3_readGroups_42 (by decide) rfl ?_
        refine g_iand (q := 44) C dX3_readGroups_43 rfl ?_
        refine g_if_ne (t := 50) (q := 47) C dX3_readGroups_44 (by decide) rfl (fun c_44 => ?_) (fun c_44 => ?_)
        ·
          refine g_aload_n (q := 51) C dX3_readGroups_50 rfl rfl ?_
          refine g_getfield (v := .int ((q2.f 8))) (q := 54) C fX3_79 dX3_readGroups_51 rfl HQb.1 rfl ?_
          refine g_aload_n (q := 55) C dX3_readGroups_54 rfl rfl ?_
          refine g_callVi (x := (nI t.length)) (q := 58) (As := []) C gyX4_size gvX4_size t_517 (c_X4_size (gRw.obj HTb)) dX3_readGroups_55 rfl (gRw.obj HTb) rfl rfl rfl (Nat.le_of_ble_eq_true rfl) (Nat.le_of_ble_eq_true rfl) (Nat.le_of_ble_eq_true rfl) (Nat.le_of_ble_eq_true rfl) (Nat.le_of_ble_eq_true rfl) rfl ?_
          refine g_icmp_lt (t := 70) (q := 61) C dX3_readGroups_58 (by decide) rfl (fun c_58 => ?_) (fun c_58 => ?_)
          ·
            refine g_aload_n (q := 71) C dX3_readGroups_70 rfl rfl ?_
            refine g_iload_n (q := 72) C dX3_readGroups_71 rfl rfl ?_
            refine g_iload (q := 74) C dX3_readGroups_72 rfl rfl ?_
            refine g_aload_n (q := 75) C dX3_readGroups_74 rfl rfl ?_
            refine g_aload_n (q := 76) C dX3_readGroups_75 rfl rfl ?_
            refine g_getfield (v := .int ((q2.f 8))) (q := 79) C fX3_79 dX3_readGroups_76 rfl HQb.1 rfl ?_
            refine g_callVi (x := (gat t (q2.f 8))) (q := 82) (As := [.int ((q2.f 8))]) C gyX4_at gvX4_at t_521 (c_X4_at_w HTb) dX3_readGroups_79 rfl (gRw.obj HTb) rfl rfl rfl (Nat.le_of_ble_eq_true rfl) (Nat.le_of_ble_eq_true rfl) (Nat.le_of_ble_eq_true rfl) (Nat.le_of_ble_eq_true rfl) (Nat.le_of_ble_eq_true rfl) rfl ?_
            refine g_callVix (x := (rX3_readGroupByte q2 (nI g) 1 (gat t (q2.f 8))).1) (q := 85) (As := [.int ((nI g)), .int 1, .int ((gat t (q2.f 8)))]) C gyX3_readGroupByte gvX3_readGroupByte t_529 (c_X3_readGroupByte_119 HQb) dX3_readGroups_82 rfl HQb.1 rfl rfl rfl (Nat.le_of_ble_eq_true rfl) (Nat.le_of_ble_eq_true rfl) (Nat.le_of_ble_eq_true rfl) (Nat.le_of_ble_eq_true rfl) (Nat.le_of_ble_eq_true rfl) rfl (fun h5 z5 => ?_)
            obtain ⟨HQ5, fq5⟩ := z5
            have HT5 := gRw.ra HTb (by decide) fq5
            refine g_istore (q := 87) C dX3_readGroups_85 (Nat.le_of_ble_eq_true rfl) (by simp only [gset]; rfl) rfl ?_
            refine g_iload (q := 89) C dX3_readGroups_87 rfl rfl ?_
            refine g_if_eq (t := 102) (q := 92) C dX3_readGroups_89 (by decide) rfl (fun c_89 => ?_) (fun c_89 => ?_)
            ·
              refine g_aload_n (q := 103) C dX3_readGroups_102 rfl rfl ?_
              refine g_dup (q := 104) C dX3_readGroups_103 rfl rfl ?_
              refine g_getfield (v := .int ((((rX3_readGroupByte q2 (nI g) 1 (gat t (q2.f 8))).2).f 8))) (q := 107) C fX3_79 dX3_readGroups_104 rfl HQ5.1 rfl ?_
              refine g_iconst (v := 1) (q := 108) C dX3_readGroups_107 (by decide) rfl ?_
              refine g_iadd (q := 109) C dX3_readGroups_108 rfl ?_
              refine g_putfield (q := 112) C fX3_79 dX3_readGroups_109 rfl HQ5.1 (Nat.le_of_ble_eq_true rfl) (Or.inl rfl) rfl rfl (by intro z h; cases h) ?_
              refine rqput (j := 8) (x := ((((rX3_readGroupByte q2 (nI g) 1 (gat t (q2.f 8))).2).f 8) + 1)) HQ5 rfl fun h6 HQ6 fq6 => ?_
              have HT6 := gRw.ra HT5 (by decide) fq6
              refine g_iinc (v := 2) (q := 115) C dX3_readGroups_112 rfl (by decide) (by simp only [gset]; rfl) rfl ?_
              refine g_goto (q := 32) C dX3_readGroups_115 (by decide) ?_
              exact J2 _ _ _ HQ6 HT6 (rqF.trans (rqF.trans fqb fq5) fq6) (by rw [← hr2, show rL t (nI g) (q1.f 9) 1 (0, q2) = ((0 : Int32), ((rX3_readGroupByte q2 (nI g) 1 (gat t (q2.f 8))).2.set 8 ((rX3_readGroupByte q2 (nI g) 1 (gat t (q2.f 8))).2.f 8 + 1))) from (if_pos rfl).trans ((if_neg c_44).trans ((if_neg (by rw [Int32.not_le]; exact c_58)).trans (if_pos c_89)))])
            ·
              refine g_aload_n (q := 93) C dX3_readGroups_92 rfl rfl ?_
              refine g_getfield (v := .int ((((rX3_readGroupByte q2 (nI g) 1 (gat t (q2.f 8))).2).f 8))) (q := 96) C fX3_79 dX3_readGroups_93 rfl HQ5.1 rfl ?_
              refine g_iload (q := 98) C dX3_readGroups_96 rfl rfl ?_
              refine g_callSi (x := (8 * (((rX3_readGroupByte q2 (nI g) 1 (gat t (q2.f 8))).2).f 8) + (rX3_readGroupByte q2 (nI g) 1 (gat t (q2.f 8))).1)) (q := 101) (As := [.int ((((rX3_readGroupByte q2 (nI g) 1 (gat t (q2.f 8))).2).f 8)), .int ((rX3_readGroupByte q2 (nI g) 1 (gat t (q2.f 8))).1)]) C gyX3_faultAt t_519 t_518 (c_X3_faultAt_x) dX3_readGroups_98 rfl rfl rfl (Nat.le_of_ble_eq_true rfl) (Nat.le_of_ble_eq_true rfl) (Nat.le_of_ble_eq_true rfl) (Nat.le_of_ble_eq_true rfl) (Nat.le_of_ble_eq_true rfl) rfl ?_
              have hst : ¬ (((8 * (rX3_readGroupByte q2 (nI g) 1 (gat t (q2.f 8))).2.f 8 + (rX3_readGroupByte q2 (nI g) 1 (gat t (q2.f 8))).1, (rX3_readGroupByte q2 (nI g) 1 (gat t (q2.f 8))).2) : Int32 × rq)).1 = 0 := rGbx c_89
              have e : rL t (nI g) (q1.f 9) 1 (0, q2) = (8 * (rX3_readGroupByte q2 (nI g) 1 (gat t (q2.f 8))).2.f 8 + (rX3_readGroupByte q2 (nI g) 1 (gat t (q2.f 8))).1, (rX3_readGroupByte q2 (nI g) 1 (gat t (q2.f 8))).2) := (if_pos rfl).trans ((if_neg c_44).trans ((if_neg (by rw [Int32.not_le]; exact c_58)).trans (if_neg c_89)))
              rw [e, rL_st (k := 2) hst, rL_st (k := 3) hst, rGs_st hst] at hr2
              exact E.1 _ _ _ _ _ _ _ dX3_readGroups_101 rfl rfl (Nat.le_of_ble_eq_true rfl) (Nat.le_of_ble_eq_true rfl) ⟨by rw [hF, ← hr2], by rw [hF, ← hr2]; exact ⟨HQ5, (rqF.trans fqb fq5)⟩⟩
          ·
            refine g_aload_n (q := 62) C dX3_readGroups_61 rfl rfl ?_
            refine g_getfield (v := .int ((q2.f 8))) (q := 65) C fX3_79 dX3_readGroups_62 rfl HQb.1 rfl ?_
            refine g_iconst (v := 1) (q := 66) C dX3_readGroups_65 (by decide) rfl ?_
            refine g_callSi (x := (8 * (q2.f 8) + 1)) (q := 69) (As := [.int ((q2.f 8)), .int 1]) C gyX3_faultAt t_519 t_518 (c_X3_faultAt_x) dX3_readGroups_66 rfl rfl rfl (Nat.le_of_ble_eq_true rfl) (Nat.le_of_ble_eq_true rfl) (Nat.le_of_ble_eq_true rfl) (Nat.le_of_ble_eq_true rfl) (Nat.le_of_ble_eq_true rfl) rfl ?_
            have hst : ¬ (((8 * q2.f 8 + 1, q2) : Int32 × rq)).1 = 0 := gx8 (c := 1) (by decide) (by decide)
            have e : rL t (nI g) (q1.f 9) 1 (0, q2) = (8 * q2.f 8 + 1, q2) := (if_pos rfl).trans ((if_neg c_44).trans (if_pos (Int32.not_lt.mp c_58)))
            rw [e, rL_st (k := 2) hst, rL_st (k := 3) hst, rGs_st hst] at hr2
            exact E.1 _ _ _ _ _ _ _ dX3_readGroups_69 rfl rfl (Nat.le_of_ble_eq_true rfl) (Nat.le_of_ble_eq_true rfl) ⟨by rw [hF, ← hr2], by rw [hF, ← hr2]; exact ⟨HQb, fqb⟩⟩
        ·
          refine g_goto (q := 112) C dX3_readGroups_47 (by decide) ?_
          refine g_iinc (v := 2) (q := 115) C dX3_readGroups_112 rfl (by decide) (by simp only [gset]; rfl) rfl ?_
          refine g_goto (q := 32) C dX3_readGroups_115 (by decide) ?_
          exact J2 _ _ _ HQb HTb fqb (by rw [← hr2, show rL t (nI g) (q1.f 9) 1 (0, q2) = ((0 : Int32), q2) from (if_pos rfl).trans (if_pos (c_44))])
      have J0 : ∀ (q2 : rq) (hb : List gA) (x5 : Option Value), rqH hb 119 q2 l → gRw hb 1 2 96 t → rqF 119 hp hb → rGs t n (g + 1) (rL t (nI g) (q1.f 9) 3 (rL t (nI g) (q1.f 9) 2 (rL t (nI g) (q1.f 9) 1 (rL t (nI g) (q1.f 9) 0 (0, q2))))) = F → gG X 32 [some (.ref 119), some (.ref 1), some (.int ((nI g))), some (.int ((q1.f 9))), some (.int 0), x5] [] hb 0 0 := by
        intro q2 hb x5 HQb HTb fqb hr2
        refine g_iload (q := 34) C dX3_readGroups_32 rfl rfl ?_
        refine g_iconst (v := 4) (q := 35) C dX3_readGroups_34 (by decide) rfl ?_
        refine g_icmp_ge_f (t := 118) (q := 38) C dX3_readGroups_35 (by decide) rfl (by decide) ?_
        refine g_iload_n (q := 39) C dX3_readGroups_38 rfl rfl ?_
        refine g_iload (q := 41) C dX3_readGroups_39 rfl rfl ?_
        refine g_ishr (q := 42) C dX3_readGroups_41 rfl ?_
        refine g_iconst (v := 1) (q := 43) C dX3_readGroups_42 (by decide) rfl ?_
        refine g_iand (q := 44) C dX3_readGroups_43 rfl ?_
        refine g_if_ne (t := 50) (q := 47) C dX3_readGroups_44 (by decide) rfl (fun c_44 => ?_) (fun c_44 => ?_)
        ·
          refine g_aload_n (q := 51) C dX3_readGroups_50 rfl rfl ?_
          refine g_getfield (v := .int ((q2.f 8))) (q := 54) C fX3_79 dX3_readGroups_51 rfl HQb.1 rfl ?_
          refine g_aload_n (q := 55) C dX3_readGroups_54 rfl rfl ?_
          refine g_callVi (x := (nI t.length)) (q := 58) (As := []) C gyX4_size gvX4_size t_517 (c_X4_size (gRw.obj HTb)) dX3_readGroups_55 rfl (gRw.obj HTb) rfl rfl rfl (Nat.le_of_ble_eq_true rfl) (Nat.le_of_ble_eq_true rfl) (Nat.le_of_ble_eq_true rfl) (Nat.le_of_ble_eq_true rfl) (Nat.le_of_ble_eq_true rfl) rfl ?_
          refine g_icmp_lt (t := 70) (q := 61) C dX3_readGroups_58 (by decide) rfl (fun c_58 => ?_) (fun c_58 => ?_)
          ·
            refine g_aload_n (q := 71) C dX3_readGroups_70 rfl rfl ?_
            refine g_iload_n (q := 72) C dX3_readGroups_71 rfl rfl ?_
            refine g_iload (q := 74) C dX3_readGroups_72 rfl rfl ?_
            refine g_aload_n (q := 75) C dX3_readGroups_74 rfl rfl ?_
            refine g_aload_n (q := 76) C dX3_readGroups_75 rfl rfl ?_
            refine g_getfield (v := .int ((q2.f 8))) (q := 79) C fX3_79 dX3_readGroups_76 rfl HQb.1 rfl ?_
            refine g_callVi (x := (gat t (q2.f 8))) (q := 82) (As := [.int ((q2.f 8))]) C gyX4_at gvX4_at t_521 (c_X4_at_w HTb) dX3_readGroups_79 rfl (gRw.obj HTb) rfl rfl rfl (Nat.le_of_ble_eq_true rfl) (Nat.le_of_ble_eq_true rfl) (Nat.le_of_ble_eq_true rfl) (Nat.le_of_ble_eq_true rfl) (Nat.le_of_ble_eq_true rfl) rfl ?_
            refine g_callVix (x := (rX3_readGroupByte q2 (nI g) 0 (gat t (q2.f 8))).1) (q := 85) (As := [.int ((nI g)), .int 0, .int ((gat t (q2.f 8)))]) C gyX3_readGroupByte gvX3_readGroupByte t_529 (c_X3_readGroupByte_119 HQb) dX3_readGroups_82 rfl HQb.1 rfl rfl rfl (Nat.le_of_ble_eq_true rfl) (Nat.le_of_ble_eq_true rfl) (Nat.le_of_ble_eq_true rfl) (Nat.le_of_ble_eq_true rfl) (Nat.le_of_ble_eq_true rfl) rfl (fun h7 z7 => ?_)
            obtain ⟨HQ7, fq7⟩ := z7
            have HT7 := gRw.ra HTb (by decide) fq7
            refine g_istore (q := 87) C dX3_readGroups_85 (Nat.le_of_ble_eq_true rfl) (by simp only [gset]; rfl) rfl ?_
            refine g_iload (q := 89) C dX3_readGroups_87 rfl rfl ?_
            refine g_if_eq (t := 102) (q := 92) C dX3_readGroups_89 (by decide) rfl (fun c_89 => ?_) (fun c_89 => ?_)
            ·
              refine g_aload_n (q := 103) C dX3_readGroups_102 rfl rfl ?_
              refine g_dup (q := 104) C dX3_readGroups_103 rfl rfl ?_
              refine g_getfield (v := .int ((((rX3_readGroupByte q2 (nI g) 0 (gat t (q2.f 8))).2).f 8))) (q := 107) C fX3_79 dX3_readGroups_104 rfl HQ7.1 rfl ?_
              refine g_iconst (v := 1) (q := 108) C dX3_readGroups_107 (by decide) rfl ?_
              refine g_iadd (q := 109) C dX3_readGroups_108 rfl ?_
              refine g_putfield (q := 112) C fX3_79 dX3_readGroups_109 rfl HQ7.1 (Nat.le_of_ble_eq_true rfl) (Or.inl rfl) rfl rfl (by intro z h; cases h) ?_
              refine rqput (j := 8) (x := ((((rX3_readGroupByte q2 (nI g) 0 (gat t (q2.f 8))).2).f 8) + 1)) HQ7 rfl fun h8 HQ8 fq8 => ?_
              have HT8 := gRw.ra HT7 (by decide) fq8
              refine g_iinc (v := 1) (q := 115) C dX3_readGroups_112 rfl (by decide) (by simp only [gset]; rfl) rfl ?_
              refine g_goto (q := 32) C dX3_readGroups_115 (by decide) ?_
              exact J1 _ _ _ HQ8 HT8 (rqF.trans (rqF.trans fqb fq7) fq8) (by rw [← hr2, show rL t (nI g) (q1.f 9) 0 (0, q2) = ((0 : Int32), ((rX3_readGroupByte q2 (nI g) 0 (gat t (q2.f 8))).2.set 8 ((rX3_readGroupByte q2 (nI g) 0 (gat t (q2.f 8))).2.f 8 + 1))) from (if_pos rfl).trans ((if_neg c_44).trans ((if_neg (by rw [Int32.not_le]; exact c_58)).trans (if_pos c_89)))])
            ·
              refine g_aload_n (q := 93) C dX3_readGroups_92 rfl rfl ?_
              refine g_getfield (v := .int ((((rX3_readGroupByte q2 (nI g) 0 (gat t (q2.f 8))).2).f 8))) (q := 96) C fX3_79 dX3_readGroups_93 rfl HQ7.1 rfl ?_
              refine g_iload (q := 98) C dX3_readGroups_96 rfl rfl ?_
              refine g_callSi (x := (8 * (((rX3_readGroupByte q2 (nI g) 0 (gat t (q2.f 8))).2).f 8) + (rX3_readGroupByte q2 (nI g) 0 (gat t (q2.f 8))).1)) (q := 101) (As := [.int ((((rX3_readGroupByte q2 (nI g) 0 (gat t (q2.f 8))).2).f 8)), .int ((rX3_readGroupByte q2 (nI g) 0 (gat t (q2.f 8))).1)]) C gyX3_faultAt t_519 t_518 (c_X3_faultAt_x) dX3_readGroups_98 rfl rfl rfl (Nat.le_of_ble_eq_true rfl) (Nat.le_of_ble_eq_true rfl) (Nat.le_of_ble_eq_true rfl) (Nat.le_of_ble_eq_true rfl) (Nat.le_of_ble_eq_true rfl) rfl ?_
              have hst : ¬ (((8 * (rX3_readGroupByte q2 (nI g) 0 (gat t (q2.f 8))).2.f 8 + (rX3_readGroupByte q2 (nI g) 0 (gat t (q2.f 8))).1, (rX3_readGroupByte q2 (nI g) 0 (gat t (q2.f 8))).2) : Int32 × rq)).1 = 0 := rGbx c_89
              have e : rL t (nI g) (q1.f 9) 0 (0, q2) = (8 * (rX3_readGroupByte q2 (nI g) 0 (gat t (q2.f 8))).2.f 8 + (rX3_readGroupByte q2 (nI g) 0 (gat t (q2.f 8))).1, (rX3_readGroupByte q2 (nI g) 0 (gat t (q2.f 8))).2) := (if_pos rfl).trans ((if_neg c_44).trans ((if_neg (by rw [Int32.not_le]; exact c_58)).trans (if_neg c_89)))
              rw [e, rL_st (k := 1) hst, rL_st (k := 2) hst, rL_st (k := 3) hst, rGs_st hst] at hr2
              exact E.1 _ _ _ _ _ _ _ dX3_readGroups_101 rfl rfl (Nat.le_of_ble_eq_true rfl) (Nat.le_of_ble_eq_true rfl) ⟨by rw [hF, ← hr2], by rw [hF, ← hr2]; exact ⟨HQ7, (rqF.trans fqb fq7)⟩⟩
          ·
            refine g_aload_n (q := 62) C dX3_readGroups_61 rfl rfl ?_
            refine g_getfield (v := .int ((q2.f 8))) (q := 65) C fX3_79 dX3_readGroups_62 rfl HQb.1 rfl ?_
            refine g_iconst (v := 1) (q := 66) C dX3_readGroups_65 (by decide) rfl ?_
            refine g_callSi (x := (8 * (q2.f 8) + 1)) (q := 69) (As := [.int ((q2.f 8)), .int 1]) C gyX3_faultAt t_519 t_518 (c_X3_faultAt_x) dX3_readGroups_66 rfl rfl rfl (Nat.le_of_ble_eq_true rfl) (Nat.le_of_ble_eq_true rfl) (Nat.le_of_ble_eq_true rfl) (Nat.le_of_ble_eq_true rfl) (Nat.le_of_ble_eq_true rfl) rfl ?_
            have hst : ¬ (((8 * q2.f 8 + 1, q2) : Int32 × rq)).1 = 0 := gx8 (c := 1) (by decide) (by decide)
            have e : rL t (nI g) (q1.f 9) 0 (0, q2) = (8 * q2.f 8 + 1, q2) := (if_pos rfl).trans ((if_neg c_44).trans (if_pos (Int32.not_lt.mp c_58)))
            rw [e, rL_st (k := 1) hst, rL_st (k := 2) hst, rL_st (k := 3) hst, rGs_st hst] at hr2
            exact E.1 _ _ _ _ _ _ _ dX3_readGroups_69 rfl rfl (Nat.le_of_ble_eq_true rfl) (Nat.le_of_ble_eq_true rfl) ⟨by rw [hF, ← hr2], by rw [hF, ← hr2]; exact ⟨HQb, fqb⟩⟩
        ·
          refine g_goto (q := 112) C dX3_readGroups_47 (by decide) ?_
          refine g_iinc (v := 1) (q := 115) C dX3_readGroups_112 rfl (by decide) (by simp only [gset]; rfl) rfl ?_
          refine g_goto (q := 32) C dX3_readGroups_115 (by decide) ?_
          exact J1 _ _ _ HQb HTb fqb (by rw [← hr2, show rL t (nI g) (q1.f 9) 0 (0, q2) = ((0 : Int32), q2) from (if_pos rfl).trans (if_pos (c_44))])
      refine g_iload_n (q := 3) C dX3_readGroups_2 rfl rfl ?_
      refine g_iconst (v := 4) (q := 4) C dX3_readGroups_3 (by decide) rfl ?_
      refine g_icmp_gt_f (t := 124) (q := 7) C dX3_readGroups_4 (by decide) rfl (nI_le4 (by omega)) ?_
      refine g_aload_n (q := 8) C dX3_readGroups_7 rfl rfl ?_
      refine g_getfield (v := .int ((q1.f 9))) (q := 11) C fX3_76 dX3_readGroups_8 rfl HQa.1 rfl ?_
      refine g_if_eq (t := 124) (q := 14) C dX3_readGroups_11 (by decide) rfl (fun c_11 => ?_) (fun c_11 => ?_)
      ·
        refine g_iconst (v := 0) (q := 125) C dX3_readGroups_124 (by decide) rfl ?_
        have e : rGs t (n + 1) g (0, q1) = ((0 : Int32), q1) := (if_pos rfl).trans (if_pos c_11)
        exact E.1 _ _ _ _ _ _ _ dX3_readGroups_125 rfl rfl (Nat.le_of_ble_eq_true rfl) (Nat.le_of_ble_eq_true rfl) ⟨by rw [hF, ← hr, e], by rw [hF, ← hr, e]; exact ⟨HQa, fqa⟩⟩
      ·
        refine g_aload_n (q := 15) C dX3_readGroups_14 rfl rfl ?_
        refine g_iload_n (q := 16) C dX3_readGroups_15 rfl rfl ?_
        refine g_putfield (q := 19) C fX3_48 dX3_readGroups_16 rfl HQa.1 (Nat.le_of_ble_eq_true rfl) (Or.inl rfl) rfl rfl (by intro z h; cases h) ?_
        refine rqput (j := 4) (x := (nI g)) HQa rfl fun h9 HQ9 fq9 => ?_
        have HT9 := gRw.ra HTa (by decide) fq9
        refine g_aload_n (q := 20) C dX3_readGroups_19 rfl rfl ?_
        refine g_getfield (v := .int ((q1.f 9))) (q := 23) C fX3_76 dX3_readGroups_20 rfl HQ9.1 rfl ?_
        refine g_istore_n (q := 24) C dX3_readGroups_23 (Nat.le_of_ble_eq_true rfl) (by simp only [gset]; rfl) rfl ?_
        refine g_aload_n (q := 25) C dX3_readGroups_24 rfl rfl ?_
        refine g_iconst (v := 0) (q := 26) C dX3_readGroups_25 (by decide) rfl ?_
        refine g_putfield (q := 29) C fX3_76 dX3_readGroups_26 rfl HQ9.1 (Nat.le_of_ble_eq_true rfl) (Or.inl rfl) rfl rfl (by intro z h; cases h) ?_
        refine rqput (j := 9) (x := 0) HQ9 rfl fun h10 HQ10 fq10 => ?_
        have HT10 := gRw.ra HT9 (by decide) fq10
        refine g_iconst (v := 0) (q := 30) C dX3_readGroups_29 (by decide) rfl ?_
        refine g_istore (q := 32) C dX3_readGroups_30 (Nat.le_of_ble_eq_true rfl) (by simp only [gset]; rfl) rfl ?_
        exact J0 _ _ _ HQ10 HT10 (rqF.trans (rqF.trans fqa fq9) fq10) (by rw [← hr]; exact ((if_pos rfl).trans (if_neg c_11)).symm)
  refine g_iconst (v := 1) (q := 1) C dX3_readGroups_0 (by decide) rfl ?_
  refine g_istore_n (q := 2) C dX3_readGroups_1 (Nat.le_of_ble_eq_true rfl) (by simp only [gset]; rfl) rfl ?_
  exact K 4 1 q hp _ _ _ rfl (by decide) HQ HT rqF.rf hF
