/-! the reference: methods without loops (by program: wip/p2/m_ma.py) -/
def rX8_within  (x : Int32) (a : Int32) (b : Int32) : Int32 := (if x < a then 0 else (if b < x then 0 else 1 : Int32))
theorem dX8_within_0 : decode cX8_within 0 = .ok (.iload_n 0, 1) := by decide +kernel
theorem dX8_within_1 : decode cX8_within 1 = .ok (.iload_n 1, 1) := by decide +kernel
theorem dX8_within_2 : decode cX8_within 2 = .ok (.if_icmp .lt 12, 3) := by decide +kernel
theorem dX8_within_5 : decode cX8_within 5 = .ok (.iload_n 0, 1) := by decide +kernel
theorem dX8_within_6 : decode cX8_within 6 = .ok (.iload_n 2, 1) := by decide +kernel
theorem dX8_within_7 : decode cX8_within 7 = .ok (.if_icmp .gt 7, 3) := by decide +kernel
theorem dX8_within_10 : decode cX8_within 10 = .ok (.iconst 1, 1) := by decide +kernel
theorem dX8_within_11 : decode cX8_within 11 = .ok (.goto 4, 3) := by decide +kernel
theorem dX8_within_14 : decode cX8_within 14 = .ok (.iconst 0, 1) := by decide +kernel
theorem dX8_within_15 : decode cX8_within 15 = .ok (.ireturn, 1) := by decide +kernel
set_option maxRecDepth 100000 in
set_option maxHeartbeats 4000000 in
theorem c_X8_within_m {hp : List gA}  {x : Int32} {a : Int32} {b : Int32}   : gM yX8_within cX8_within 3 ((some .boolean)) 0 0 [.int x, .int a, .int b] (hp) (0) (0) (fun v h => v = some (.int (rX8_within x a b)) ∧ h = hp) := by
  refine gM_of (ls0 := [some (.int x), some (.int a), some (.int b)]) (by decide +kernel) (Nat.le_of_ble_eq_true rfl) rfl fun X C E => ?_
  refine g_iload_n (q := 1) C dX8_within_0 rfl rfl ?_
  refine g_iload_n (q := 2) C dX8_within_1 rfl rfl ?_
  refine g_icmp_lt (t := 14) (q := 5) C dX8_within_2 (by decide) rfl (fun c_2 => ?_) (fun c_2 => ?_)
  ·
    refine g_iconst (v := 0) (q := 15) C dX8_within_14 (by decide) rfl ?_
    have e : rX8_within x a b = (0) := (if_pos c_2)
    exact E.1 _ _ _ _ _ _ _ dX8_within_15 rfl rfl (Nat.le_of_ble_eq_true rfl) (Nat.le_of_ble_eq_true rfl) ⟨by rw [e], rfl⟩
  ·
    refine g_iload_n (q := 6) C dX8_within_5 rfl rfl ?_
    refine g_iload_n (q := 7) C dX8_within_6 rfl rfl ?_
    suffices K7 : gG X 15 [some (.int x), some (.int a), some (.int b)] [.int (if b < x then 0 else 1 : Int32)] hp 0 0 by
      refine g_icmp_gt (t := 14) (q := 10) C dX8_within_7 (by decide) rfl (fun c_7 => ?_) (fun c_7 => ?_)
      · refine g_iconst (v := 0) (q := 15) C dX8_within_14 (by decide) rfl ?_
        rw [if_pos c_7] at K7
        exact K7
      · refine g_iconst (v := 1) (q := 11) C dX8_within_10 (by decide) rfl ?_
        refine g_goto (q := 15) C dX8_within_11 (by decide) ?_
        rw [if_neg c_7] at K7
        exact K7
    have e : rX8_within x a b = ((if b < x then 0 else 1 : Int32)) := (if_neg c_2)
    exact E.1 _ _ _ _ _ _ _ dX8_within_15 rfl (by split <;> rfl) (Nat.le_of_ble_eq_true rfl) (Nat.le_of_ble_eq_true rfl) ⟨by rw [e], rfl⟩
def rX8_canBegin (M : gMd) : Int32 := (if (M.f 3) = 0 then 0 else (if (M.a 4 419) = 1 then 0 else (if (M.a 4 419) = 4 then 0 else 1 : Int32)))
theorem dX8_canBegin_0 : decode cX8_canBegin 0 = .ok (.aload_n 0, 1) := by decide +kernel
theorem dX8_canBegin_1 : decode cX8_canBegin 1 = .ok (.getfield 134, 3) := by decide +kernel
theorem dX8_canBegin_4 : decode cX8_canBegin 4 = .ok (.ifCond .eq 31, 3) := by decide +kernel
theorem dX8_canBegin_7 : decode cX8_canBegin 7 = .ok (.aload_n 0, 1) := by decide +kernel
theorem dX8_canBegin_8 : decode cX8_canBegin 8 = .ok (.getfield 22, 3) := by decide +kernel
theorem dX8_canBegin_11 : decode cX8_canBegin 11 = .ok (.sipush 419, 3) := by decide +kernel
theorem dX8_canBegin_14 : decode cX8_canBegin 14 = .ok (.iaload, 1) := by decide +kernel
theorem dX8_canBegin_15 : decode cX8_canBegin 15 = .ok (.iconst 1, 1) := by decide +kernel
theorem dX8_canBegin_16 : decode cX8_canBegin 16 = .ok (.if_icmp .eq 19, 3) := by decide +kernel
theorem dX8_canBegin_19 : decode cX8_canBegin 19 = .ok (.aload_n 0, 1) := by decide +kernel
theorem dX8_canBegin_20 : decode cX8_canBegin 20 = .ok (.getfield 22, 3) := by decide +kernel
theorem dX8_canBegin_23 : decode cX8_canBegin 23 = .ok (.sipush 419, 3) := by decide +kernel
theorem dX8_canBegin_26 : decode cX8_canBegin 26 = .ok (.iaload, 1) := by decide +kernel
theorem dX8_canBegin_27 : decode cX8_canBegin 27 = .ok (.iconst 4, 1) := by decide +kernel
theorem dX8_canBegin_28 : decode cX8_canBegin 28 = .ok (.if_icmp .eq 7, 3) := by decide +kernel
theorem dX8_canBegin_31 : decode cX8_canBegin 31 = .ok (.iconst 1, 1) := by decide +kernel
theorem dX8_canBegin_32 : decode cX8_canBegin 32 = .ok (.goto 4, 3) := by decide +kernel
theorem dX8_canBegin_35 : decode cX8_canBegin 35 = .ok (.iconst 0, 1) := by decide +kernel
theorem dX8_canBegin_36 : decode cX8_canBegin 36 = .ok (.ireturn, 1) := by decide +kernel
set_option maxRecDepth 100000 in
set_option maxHeartbeats 4000000 in
theorem c_X8_canBegin_m {hp : List gA} {M : gMd}  (HM : gMod hp M)  : gM yX8_canBegin cX8_canBegin 1 ((some .boolean)) 0 0 [.ref 122] (hp) (0) (0) (fun v h => v = some (.int (rX8_canBegin M)) ∧ h = hp) := by
  refine gM_of (ls0 := [some (.ref 122)]) (by decide +kernel) (Nat.le_of_ble_eq_true rfl) rfl fun X C E => ?_
  refine g_aload_n (q := 1) C dX8_canBegin_0 rfl rfl ?_
  refine g_getfield (v := .int ((M.f 3))) (q := 4) C fX8_134 dX8_canBegin_1 rfl HM.1 rfl ?_
  refine g_if_eq (t := 35) (q := 7) C dX8_canBegin_4 (by decide) rfl (fun c_4 => ?_) (fun c_4 => ?_)
  ·
    refine g_iconst (v := 0) (q := 36) C dX8_canBegin_35 (by decide) rfl ?_
    have e : rX8_canBegin M = (0) := (if_pos c_4)
    exact E.1 _ _ _ _ _ _ _ dX8_canBegin_36 rfl rfl (Nat.le_of_ble_eq_true rfl) (Nat.le_of_ble_eq_true rfl) ⟨by rw [e], rfl⟩
  ·
    refine g_aload_n (q := 8) C dX8_canBegin_7 rfl rfl ?_
    refine g_getfield (v := .ref 127) (q := 11) C fX8_22 dX8_canBegin_8 rfl HM.1 rfl ?_
    refine g_sipush (v := 419) (q := 14) C dX8_canBegin_11 (by decide) rfl ?_
    refine g_ialoadN (x := (M.a 4 419)) (j := 419) (q := 15) C dX8_canBegin_14 rfl (HM.ar (i := 4) (n := 772) (by decide) rfl) (pk_in 419 772 (by decide)) (pk_cl 419) rfl ?_
    refine g_iconst (v := 1) (q := 16) C dX8_canBegin_15 (by decide) rfl ?_
    refine g_icmp_eq (t := 35) (q := 19) C dX8_canBegin_16 (by decide) rfl (fun c_16 => ?_) (fun c_16 => ?_)
    ·
      refine g_iconst (v := 0) (q := 36) C dX8_canBegin_35 (by decide) rfl ?_
      have e : rX8_canBegin M = (0) := ((if_neg c_4).trans (if_pos c_16))
      exact E.1 _ _ _ _ _ _ _ dX8_canBegin_36 rfl rfl (Nat.le_of_ble_eq_true rfl) (Nat.le_of_ble_eq_true rfl) ⟨by rw [e], rfl⟩
    ·
      refine g_aload_n (q := 20) C dX8_canBegin_19 rfl rfl ?_
      refine g_getfield (v := .ref 127) (q := 23) C fX8_22 dX8_canBegin_20 rfl HM.1 rfl ?_
      refine g_sipush (v := 419) (q := 26) C dX8_canBegin_23 (by decide) rfl ?_
      refine g_ialoadN (x := (M.a 4 419)) (j := 419) (q := 27) C dX8_canBegin_26 rfl (HM.ar (i := 4) (n := 772) (by decide) rfl) (pk_in 419 772 (by decide)) (pk_cl 419) rfl ?_
      refine g_iconst (v := 4) (q := 28) C dX8_canBegin_27 (by decide) rfl ?_
      suffices K28 : gG X 36 [some (.ref 122)] [.int (if (M.a 4 419) = 4 then 0 else 1 : Int32)] hp 0 0 by
        refine g_icmp_eq (t := 35) (q := 31) C dX8_canBegin_28 (by decide) rfl (fun c_28 => ?_) (fun c_28 => ?_)
        · refine g_iconst (v := 0) (q := 36) C dX8_canBegin_35 (by decide) rfl ?_
          rw [if_pos c_28] at K28
          exact K28
        · refine g_iconst (v := 1) (q := 32) C dX8_canBegin_31 (by decide) rfl ?_
          refine g_goto (q := 36) C dX8_canBegin_32 (by decide) ?_
          rw [if_neg c_28] at K28
          exact K28
      have e : rX8_canBegin M = ((if (M.a 4 419) = 4 then 0 else 1 : Int32)) := ((if_neg c_4).trans (if_neg c_16))
      exact E.1 _ _ _ _ _ _ _ dX8_canBegin_36 rfl (by split <;> rfl) (Nat.le_of_ble_eq_true rfl) (Nat.le_of_ble_eq_true rfl) ⟨by rw [e], rfl⟩
def rX8_hasMoreCome (M : gMd) : Int32 := (if ((M.a 13 1) &&& 32) = 0 then 0 else 1 : Int32)
theorem dX8_hasMoreCome_0 : decode cX8_hasMoreCome 0 = .ok (.aload_n 0, 1) := by decide +kernel
theorem dX8_hasMoreCome_1 : decode cX8_hasMoreCome 1 = .ok (.getfield 54, 3) := by decide +kernel
theorem dX8_hasMoreCome_4 : decode cX8_hasMoreCome 4 = .ok (.iconst 1, 1) := by decide +kernel
theorem dX8_hasMoreCome_5 : decode cX8_hasMoreCome 5 = .ok (.iaload, 1) := by decide +kernel
theorem dX8_hasMoreCome_6 : decode cX8_hasMoreCome 6 = .ok (.bipush 32, 2) := by decide +kernel
theorem dX8_hasMoreCome_8 : decode cX8_hasMoreCome 8 = .ok (.iand, 1) := by decide +kernel
theorem dX8_hasMoreCome_9 : decode cX8_hasMoreCome 9 = .ok (.ifCond .eq 7, 3) := by decide +kernel
theorem dX8_hasMoreCome_12 : decode cX8_hasMoreCome 12 = .ok (.iconst 1, 1) := by decide +kernel
theorem dX8_hasMoreCome_13 : decode cX8_hasMoreCome 13 = .ok (.goto 4, 3) := by decide +kernel
theorem dX8_hasMoreCome_16 : decode cX8_hasMoreCome 16 = .ok (.iconst 0, 1) := by decide +kernel
theorem dX8_hasMoreCome_17 : decode cX8_hasMoreCome 17 = .ok (.ireturn, 1) := by decide +kernel
set_option maxRecDepth 100000 in
set_option maxHeartbeats 4000000 in
theorem c_X8_hasMoreCome_m {hp : List gA} {M : gMd}  (HM : gMod hp M)  : gM yX8_hasMoreCome cX8_hasMoreCome 1 ((some .boolean)) 0 0 [.ref 122] (hp) (0) (0) (fun v h => v = some (.int (rX8_hasMoreCome M)) ∧ h = hp) := by
  refine gM_of (ls0 := [some (.ref 122)]) (by decide +kernel) (Nat.le_of_ble_eq_true rfl) rfl fun X C E => ?_
  refine g_aload_n (q := 1) C dX8_hasMoreCome_0 rfl rfl ?_
  refine g_getfield (v := .ref 136) (q := 4) C fX8_54 dX8_hasMoreCome_1 rfl HM.1 rfl ?_
  refine g_iconst (v := 1) (q := 5) C dX8_hasMoreCome_4 (by decide) rfl ?_
  refine g_ialoadN (x := (M.a 13 1)) (j := 1) (q := 6) C dX8_hasMoreCome_5 rfl (HM.ar (i := 13) (n := 260) (by decide) rfl) (pk_in 1 260 (by decide)) (pk_cl 1) rfl ?_
  refine g_bipush (v := 32) (q := 8) C dX8_hasMoreCome_6 (by decide) rfl ?_
  refine g_iand (q := 9) C dX8_hasMoreCome_8 rfl ?_
  suffices K9 : gG X 17 [some (.ref 122)] [.int (if ((M.a 13 1) &&& 32) = 0 then 0 else 1 : Int32)] hp 0 0 by
    refine g_if_eq (t := 16) (q := 12) C dX8_hasMoreCome_9 (by decide) rfl (fun c_9 => ?_) (fun c_9 => ?_)
    · refine g_iconst (v := 0) (q := 17) C dX8_hasMoreCome_16 (by decide) rfl ?_
      rw [if_pos c_9] at K9
      exact K9
    · refine g_iconst (v := 1) (q := 13) C dX8_hasMoreCome_12 (by decide) rfl ?_
      refine g_goto (q := 17) C dX8_hasMoreCome_13 (by decide) ?_
      rw [if_neg c_9] at K9
      exact K9
  have e : rX8_hasMoreCome M = ((if ((M.a 13 1) &&& 32) = 0 then 0 else 1 : Int32)) := rfl
  exact E.1 _ _ _ _ _ _ _ dX8_hasMoreCome_17 rfl (by split <;> rfl) (Nat.le_of_ble_eq_true rfl) (Nat.le_of_ble_eq_true rfl) ⟨by rw [e], rfl⟩
def rX8_wantsAgain_0 (M : gMd) : Int32 := (if (((M.a 13 1) >>> (4 &&& 31)) &&& 1) = (M.a 4 0) then 1 else 0 : Int32)
theorem dX8_wantsAgain_0 : decode cX8_wantsAgain 0 = .ok (.aload_n 0, 1) := by decide +kernel
theorem dX8_wantsAgain_1 : decode cX8_wantsAgain 1 = .ok (.getfield 54, 3) := by decide +kernel
theorem dX8_wantsAgain_4 : decode cX8_wantsAgain 4 = .ok (.iconst 1, 1) := by decide +kernel
theorem dX8_wantsAgain_5 : decode cX8_wantsAgain 5 = .ok (.iaload, 1) := by decide +kernel
theorem dX8_wantsAgain_6 : decode cX8_wantsAgain 6 = .ok (.iconst 4, 1) := by decide +kernel
theorem dX8_wantsAgain_7 : decode cX8_wantsAgain 7 = .ok (.ishr, 1) := by decide +kernel
theorem dX8_wantsAgain_8 : decode cX8_wantsAgain 8 = .ok (.iconst 1, 1) := by decide +kernel
theorem dX8_wantsAgain_9 : decode cX8_wantsAgain 9 = .ok (.iand, 1) := by decide +kernel
theorem dX8_wantsAgain_10 : decode cX8_wantsAgain 10 = .ok (.aload_n 0, 1) := by decide +kernel
theorem dX8_wantsAgain_11 : decode cX8_wantsAgain 11 = .ok (.getfield 22, 3) := by decide +kernel
theorem dX8_wantsAgain_14 : decode cX8_wantsAgain 14 = .ok (.bipush 16, 2) := by decide +kernel
theorem dX8_wantsAgain_16 : decode cX8_wantsAgain 16 = .ok (.iload_n 1, 1) := by decide +kernel
theorem dX8_wantsAgain_17 : decode cX8_wantsAgain 17 = .ok (.imul, 1) := by decide +kernel
theorem dX8_wantsAgain_18 : decode cX8_wantsAgain 18 = .ok (.iconst 0, 1) := by decide +kernel
theorem dX8_wantsAgain_19 : decode cX8_wantsAgain 19 = .ok (.iadd, 1) := by decide +kernel
theorem dX8_wantsAgain_20 : decode cX8_wantsAgain 20 = .ok (.iaload, 1) := by decide +kernel
theorem dX8_wantsAgain_21 : decode cX8_wantsAgain 21 = .ok (.if_icmp .ne 7, 3) := by decide +kernel
theorem dX8_wantsAgain_24 : decode cX8_wantsAgain 24 = .ok (.iconst 1, 1) := by decide +kernel
theorem dX8_wantsAgain_25 : decode cX8_wantsAgain 25 = .ok (.goto 4, 3) := by decide +kernel
theorem dX8_wantsAgain_28 : decode cX8_wantsAgain 28 = .ok (.iconst 0, 1) := by decide +kernel
theorem dX8_wantsAgain_29 : decode cX8_wantsAgain 29 = .ok (.ireturn, 1) := by decide +kernel
set_option maxRecDepth 100000 in
set_option maxHeartbeats 4000000 in
theorem c_X8_wantsAgain_0_m {hp : List gA} {M : gMd}  (HM : gMod hp M)  : gM yX8_wantsAgain cX8_wantsAgain 2 ((some .boolean)) 0 0 [.ref 122, .int 0] (hp) (0) (0) (fun v h => v = some (.int (rX8_wantsAgain_0 M)) ∧ h = hp) := by
  refine gM_of (ls0 := [some (.ref 122), some (.int 0)]) (by decide +kernel) (Nat.le_of_ble_eq_true rfl) rfl fun X C E => ?_
  refine g_aload_n (q := 1) C dX8_wantsAgain_0 rfl rfl ?_
  refine g_getfield (v := .ref 136) (q := 4) C fX8_54 dX8_wantsAgain_1 rfl HM.1 rfl ?_
  refine g_iconst (v := 1) (q := 5) C dX8_wantsAgain_4 (by decide) rfl ?_
  refine g_ialoadN (x := (M.a 13 1)) (j := 1) (q := 6) C dX8_wantsAgain_5 rfl (HM.ar (i := 13) (n := 260) (by decide) rfl) (pk_in 1 260 (by decide)) (pk_cl 1) rfl ?_
  refine g_iconst (v := 4) (q := 7) C dX8_wantsAgain_6 (by decide) rfl ?_
  refine g_ishr (q := 8) C dX8_wantsAgain_7 rfl ?_
  refine g_iconst (v := 1) (q := 9) C dX8_wantsAgain_8 (by decide) rfl ?_
  refine g_iand (q := 10) C dX8_wantsAgain_9 rfl ?_
  refine g_aload_n (q := 11) C dX8_wantsAgain_10 rfl rfl ?_
  refine g_getfield (v := .ref 127) (q := 14) C fX8_22 dX8_wantsAgain_11 rfl HM.1 rfl ?_
  refine g_bipush (v := 16) (q := 16) C dX8_wantsAgain_14 (by decide) rfl ?_
  refine g_iload_n (q := 17) C dX8_wantsAgain_16 rfl rfl ?_
  refine g_imul (q := 18) C dX8_wantsAgain_17 rfl ?_
  refine g_iconst (v := 0) (q := 19) C dX8_wantsAgain_18 (by decide) rfl ?_
  refine g_iadd (q := 20) C dX8_wantsAgain_19 rfl ?_
  refine g_ialoadN (x := (M.a 4 0)) (j := 0) (q := 21) C dX8_wantsAgain_20 rfl (HM.ar (i := 4) (n := 772) (by decide) rfl) (pk_in 0 772 (by decide)) (pk_cl 0) rfl ?_
  suffices K21 : gG X 29 [some (.ref 122), some (.int 0)] [.int (if (((M.a 13 1) >>> (4 &&& 31)) &&& 1) = (M.a 4 0) then 1 else 0 : Int32)] hp 0 0 by
    refine g_icmp_ne (t := 28) (q := 24) C dX8_wantsAgain_21 (by decide) rfl (fun c_21 => ?_) (fun c_21 => ?_)
    · refine g_iconst (v := 0) (q := 29) C dX8_wantsAgain_28 (by decide) rfl ?_
      rw [if_neg c_21] at K21
      exact K21
    · refine g_iconst (v := 1) (q := 25) C dX8_wantsAgain_24 (by decide) rfl ?_
      refine g_goto (q := 29) C dX8_wantsAgain_25 (by decide) ?_
      rw [if_pos c_21] at K21
      exact K21
  have e : rX8_wantsAgain_0 M = ((if (((M.a 13 1) >>> (4 &&& 31)) &&& 1) = (M.a 4 0) then 1 else 0 : Int32)) := rfl
  exact E.1 _ _ _ _ _ _ _ dX8_wantsAgain_29 rfl (by split <;> rfl) (Nat.le_of_ble_eq_true rfl) (Nat.le_of_ble_eq_true rfl) ⟨by rw [e], rfl⟩
def rX8_isThrough_0 (M : gMd) : gMd := (if 0 ≤ (M.a 4 5) then (((M.put 4 4 ((M.a 4 4) + (M.a 4 7))).put 4 0 (1 - (M.a 4 0))).put 4 5 (-1)) else M)
theorem dX8_isThrough_0 : decode cX8_isThrough 0 = .ok (.bipush 16, 2) := by decide +kernel
theorem dX8_isThrough_2 : decode cX8_isThrough 2 = .ok (.iload_n 1, 1) := by decide +kernel
theorem dX8_isThrough_3 : decode cX8_isThrough 3 = .ok (.imul, 1) := by decide +kernel
theorem dX8_isThrough_4 : decode cX8_isThrough 4 = .ok (.istore_n 2, 1) := by decide +kernel
theorem dX8_isThrough_5 : decode cX8_isThrough 5 = .ok (.aload_n 0, 1) := by decide +kernel
theorem dX8_isThrough_6 : decode cX8_isThrough 6 = .ok (.getfield 22, 3) := by decide +kernel
theorem dX8_isThrough_9 : decode cX8_isThrough 9 = .ok (.iload_n 2, 1) := by decide +kernel
theorem dX8_isThrough_10 : decode cX8_isThrough 10 = .ok (.iconst 5, 1) := by decide +kernel
theorem dX8_isThrough_11 : decode cX8_isThrough 11 = .ok (.iadd, 1) := by decide +kernel
theorem dX8_isThrough_12 : decode cX8_isThrough 12 = .ok (.iaload, 1) := by decide +kernel
theorem dX8_isThrough_13 : decode cX8_isThrough 13 = .ok (.ifCond .ge 4, 3) := by decide +kernel
theorem dX8_isThrough_16 : decode cX8_isThrough 16 = .ok (.return_, 1) := by decide +kernel
theorem dX8_isThrough_17 : decode cX8_isThrough 17 = .ok (.aload_n 0, 1) := by decide +kernel
theorem dX8_isThrough_18 : decode cX8_isThrough 18 = .ok (.getfield 22, 3) := by decide +kernel
theorem dX8_isThrough_21 : decode cX8_isThrough 21 = .ok (.iload_n 2, 1) := by decide +kernel
theorem dX8_isThrough_22 : decode cX8_isThrough 22 = .ok (.iconst 4, 1) := by decide +kernel
theorem dX8_isThrough_23 : decode cX8_isThrough 23 = .ok (.iadd, 1) := by decide +kernel
theorem dX8_isThrough_24 : decode cX8_isThrough 24 = .ok (.dup2, 1) := by decide +kernel
theorem dX8_isThrough_25 : decode cX8_isThrough 25 = .ok (.iaload, 1) := by decide +kernel
theorem dX8_isThrough_26 : decode cX8_isThrough 26 = .ok (.aload_n 0, 1) := by decide +kernel
theorem dX8_isThrough_27 : decode cX8_isThrough 27 = .ok (.getfield 22, 3) := by decide +kernel
theorem dX8_isThrough_30 : decode cX8_isThrough 30 = .ok (.iload_n 2, 1) := by decide +kernel
theorem dX8_isThrough_31 : decode cX8_isThrough 31 = .ok (.bipush 7, 2) := by decide +kernel
theorem dX8_isThrough_33 : decode cX8_isThrough 33 = .ok (.iadd, 1) := by decide +kernel
theorem dX8_isThrough_34 : decode cX8_isThrough 34 = .ok (.iaload, 1) := by decide +kernel
theorem dX8_isThrough_35 : decode cX8_isThrough 35 = .ok (.iadd, 1) := by decide +kernel
theorem dX8_isThrough_36 : decode cX8_isThrough 36 = .ok (.iastore, 1) := by decide +kernel
theorem dX8_isThrough_37 : decode cX8_isThrough 37 = .ok (.aload_n 0, 1) := by decide +kernel
theorem dX8_isThrough_38 : decode cX8_isThrough 38 = .ok (.getfield 22, 3) := by decide +kernel
theorem dX8_isThrough_41 : decode cX8_isThrough 41 = .ok (.iload_n 2, 1) := by decide +kernel
theorem dX8_isThrough_42 : decode cX8_isThrough 42 = .ok (.iconst 0, 1) := by decide +kernel
theorem dX8_isThrough_43 : decode cX8_isThrough 43 = .ok (.iadd, 1) := by decide +kernel
theorem dX8_isThrough_44 : decode cX8_isThrough 44 = .ok (.iconst 1, 1) := by decide +kernel
theorem dX8_isThrough_45 : decode cX8_isThrough 45 = .ok (.aload_n 0, 1) := by decide +kernel
theorem dX8_isThrough_46 : decode cX8_isThrough 46 = .ok (.getfield 22, 3) := by decide +kernel
theorem dX8_isThrough_49 : decode cX8_isThrough 49 = .ok (.iload_n 2, 1) := by decide +kernel
theorem dX8_isThrough_50 : decode cX8_isThrough 50 = .ok (.iconst 0, 1) := by decide +kernel
theorem dX8_isThrough_51 : decode cX8_isThrough 51 = .ok (.iadd, 1) := by decide +kernel
theorem dX8_isThrough_52 : decode cX8_isThrough 52 = .ok (.iaload, 1) := by decide +kernel
theorem dX8_isThrough_53 : decode cX8_isThrough 53 = .ok (.isub, 1) := by decide +kernel
theorem dX8_isThrough_54 : decode cX8_isThrough 54 = .ok (.iastore, 1) := by decide +kernel
theorem dX8_isThrough_55 : decode cX8_isThrough 55 = .ok (.aload_n 0, 1) := by decide +kernel
theorem dX8_isThrough_56 : decode cX8_isThrough 56 = .ok (.getfield 22, 3) := by decide +kernel
theorem dX8_isThrough_59 : decode cX8_isThrough 59 = .ok (.iload_n 2, 1) := by decide +kernel
theorem dX8_isThrough_60 : decode cX8_isThrough 60 = .ok (.iconst 5, 1) := by decide +kernel
theorem dX8_isThrough_61 : decode cX8_isThrough 61 = .ok (.iadd, 1) := by decide +kernel
theorem dX8_isThrough_62 : decode cX8_isThrough 62 = .ok (.iconst (-1), 1) := by decide +kernel
theorem dX8_isThrough_63 : decode cX8_isThrough 63 = .ok (.iastore, 1) := by decide +kernel
theorem dX8_isThrough_64 : decode cX8_isThrough 64 = .ok (.return_, 1) := by decide +kernel
set_option maxRecDepth 100000 in
set_option maxHeartbeats 4000000 in
theorem c_X8_isThrough_0_m {hp : List gA} {M : gMd}  (HM : gMod hp M)  : gM yX8_isThrough cX8_isThrough 3 (none) 0 0 [.ref 122, .int 0] (hp) (0) (0) (fun v h => v = none ∧ (gMod h (rX8_isThrough_0 M) ∧ gFM hp h)) := by
  refine gM_of (ls0 := [some (.ref 122), some (.int 0), none]) (by decide +kernel) (Nat.le_of_ble_eq_true rfl) rfl fun X C E => ?_
  refine g_bipush (v := 16) (q := 2) C dX8_isThrough_0 (by decide) rfl ?_
  refine g_iload_n (q := 3) C dX8_isThrough_2 rfl rfl ?_
  refine g_imul (q := 4) C dX8_isThrough_3 rfl ?_
  refine g_istore_n (q := 5) C dX8_isThrough_4 (Nat.le_of_ble_eq_true rfl) (by simp only [gset]; rfl) rfl ?_
  refine g_aload_n (q := 6) C dX8_isThrough_5 rfl rfl ?_
  refine g_getfield (v := .ref 127) (q := 9) C fX8_22 dX8_isThrough_6 rfl HM.1 rfl ?_
  refine g_iload_n (q := 10) C dX8_isThrough_9 rfl rfl ?_
  refine g_iconst (v := 5) (q := 11) C dX8_isThrough_10 (by decide) rfl ?_
  refine g_iadd (q := 12) C dX8_isThrough_11 rfl ?_
  refine g_ialoadN (x := (M.a 4 5)) (j := 5) (q := 13) C dX8_isThrough_12 rfl (HM.ar (i := 4) (n := 772) (by decide) rfl) (pk_in 5 772 (by decide)) (pk_cl 5) rfl ?_
  refine g_if_ge (t := 17) (q := 16) C dX8_isThrough_13 (by decide) rfl (fun c_13 => ?_) (fun c_13 => ?_)
  ·
    refine g_aload_n (q := 18) C dX8_isThrough_17 rfl rfl ?_
    refine g_getfield (v := .ref 127) (q := 21) C fX8_22 dX8_isThrough_18 rfl HM.1 rfl ?_
    refine g_iload_n (q := 22) C dX8_isThrough_21 rfl rfl ?_
    refine g_iconst (v := 4) (q := 23) C dX8_isThrough_22 (by decide) rfl ?_
    refine g_iadd (q := 24) C dX8_isThrough_23 rfl ?_
    refine g_dup2 (q := 25) C dX8_isThrough_24 rfl rfl rfl ?_
    refine g_ialoadN (x := (M.a 4 4)) (j := 4) (q := 26) C dX8_isThrough_25 rfl (HM.ar (i := 4) (n := 772) (by decide) rfl) (pk_in 4 772 (by decide)) (pk_cl 4) rfl ?_
    refine g_aload_n (q := 27) C dX8_isThrough_26 rfl rfl ?_
    refine g_getfield (v := .ref 127) (q := 30) C fX8_22 dX8_isThrough_27 rfl HM.1 rfl ?_
    refine g_iload_n (q := 31) C dX8_isThrough_30 rfl rfl ?_
    refine g_bipush (v := 7) (q := 33) C dX8_isThrough_31 (by decide) rfl ?_
    refine g_iadd (q := 34) C dX8_isThrough_33 rfl ?_
    refine g_ialoadN (x := (M.a 4 7)) (j := 7) (q := 35) C dX8_isThrough_34 rfl (HM.ar (i := 4) (n := 772) (by decide) rfl) (pk_in 7 772 (by decide)) (pk_cl 7) rfl ?_
    refine g_iadd (q := 36) C dX8_isThrough_35 rfl ?_
    refine g_iastoreN (j := 4) (q := 37) C dX8_isThrough_36 rfl (HM.ar (i := 4) (n := 772) (by decide) rfl) (pk_in 4 772 (by decide)) (pk_cl 4) ?_
    refine gMsto (i := 4) (j := 4) (x := ((M.a 4 4) + (M.a 4 7))) HM (by decide) rfl rfl fun h1 HL1 fr1 => ?_
    refine g_aload_n (q := 38) C dX8_isThrough_37 rfl rfl ?_
    refine g_getfield (v := .ref 127) (q := 41) C fX8_22 dX8_isThrough_38 rfl HL1.1 rfl ?_
    refine g_iload_n (q := 42) C dX8_isThrough_41 rfl rfl ?_
    refine g_iconst (v := 0) (q := 43) C dX8_isThrough_42 (by decide) rfl ?_
    refine g_iadd (q := 44) C dX8_isThrough_43 rfl ?_
    refine g_iconst (v := 1) (q := 45) C dX8_isThrough_44 (by decide) rfl ?_
    refine g_aload_n (q := 46) C dX8_isThrough_45 rfl rfl ?_
    refine g_getfield (v := .ref 127) (q := 49) C fX8_22 dX8_isThrough_46 rfl HL1.1 rfl ?_
    refine g_iload_n (q := 50) C dX8_isThrough_49 rfl rfl ?_
    refine g_iconst (v := 0) (q := 51) C dX8_isThrough_50 (by decide) rfl ?_
    refine g_iadd (q := 52) C dX8_isThrough_51 rfl ?_
    refine g_ialoadN (x := (M.a 4 0)) (j := 0) (q := 53) C dX8_isThrough_52 rfl (HL1.ar (i := 4) (n := 772) (by decide) rfl) (pk_in 0 772 (by decide)) (pk_cl 0) (gput_n (by decide)) ?_
    refine g_isub (q := 54) C dX8_isThrough_53 rfl ?_
    refine g_iastoreN (j := 0) (q := 55) C dX8_isThrough_54 rfl (HL1.ar (i := 4) (n := 772) (by decide) rfl) (pk_in 0 772 (by decide)) (pk_cl 0) ?_
    refine gMsto (i := 4) (j := 0) (x := (1 - (M.a 4 0))) HL1 (by decide) rfl rfl fun h2 HL2 fr2 => ?_
    refine g_aload_n (q := 56) C dX8_isThrough_55 rfl rfl ?_
    refine g_getfield (v := .ref 127) (q := 59) C fX8_22 dX8_isThrough_56 rfl HL2.1 rfl ?_
    refine g_iload_n (q := 60) C dX8_isThrough_59 rfl rfl ?_
    refine g_iconst (v := 5) (q := 61) C dX8_isThrough_60 (by decide) rfl ?_
    refine g_iadd (q := 62) C dX8_isThrough_61 rfl ?_
    refine g_iconst (v := (-1)) (q := 63) C dX8_isThrough_62 (by decide) rfl ?_
    refine g_iastoreN (j := 5) (q := 64) C dX8_isThrough_63 rfl (HL2.ar (i := 4) (n := 772) (by decide) rfl) (pk_in 5 772 (by decide)) (pk_cl 5) ?_
    refine gMsto (i := 4) (j := 5) (x := (-1)) HL2 (by decide) rfl rfl fun h3 HL3 fr3 => ?_
    have e : rX8_isThrough_0 M = (((M.put 4 4 ((M.a 4 4) + (M.a 4 7))).put 4 0 (1 - (M.a 4 0))).put 4 5 (-1)) := (if_pos c_13)
    exact E.2.1 _ _ _ _ _ dX8_isThrough_64 rfl (Nat.le_of_ble_eq_true rfl) (Nat.le_of_ble_eq_true rfl) ⟨rfl, by rw [e]; exact ⟨HL3, (gFM.trans (gFM.trans fr1 fr2) fr3)⟩⟩
  ·
    have e : rX8_isThrough_0 M = M := (if_neg c_13)
    exact E.2.1 _ _ _ _ _ dX8_isThrough_16 rfl (Nat.le_of_ble_eq_true rfl) (Nat.le_of_ble_eq_true rfl) ⟨rfl, by rw [e]; exact ⟨HM, gFM.rf⟩⟩
def rX8_empties_0 (M : gMd) : gMd := ((((M.put 4 3 0).put 4 4 0).put 4 5 (-1)).put 4 8 0)
theorem dX8_empties_0 : decode cX8_empties 0 = .ok (.bipush 16, 2) := by decide +kernel
theorem dX8_empties_2 : decode cX8_empties 2 = .ok (.iload_n 1, 1) := by decide +kernel
theorem dX8_empties_3 : decode cX8_empties 3 = .ok (.imul, 1) := by decide +kernel
theorem dX8_empties_4 : decode cX8_empties 4 = .ok (.istore_n 2, 1) := by decide +kernel
theorem dX8_empties_5 : decode cX8_empties 5 = .ok (.aload_n 0, 1) := by decide +kernel
theorem dX8_empties_6 : decode cX8_empties 6 = .ok (.getfield 22, 3) := by decide +kernel
theorem dX8_empties_9 : decode cX8_empties 9 = .ok (.iload_n 2, 1) := by decide +kernel
theorem dX8_empties_10 : decode cX8_empties 10 = .ok (.iconst 3, 1) := by decide +kernel
theorem dX8_empties_11 : decode cX8_empties 11 = .ok (.iadd, 1) := by decide +kernel
theorem dX8_empties_12 : decode cX8_empties 12 = .ok (.iconst 0, 1) := by decide +kernel
theorem dX8_empties_13 : decode cX8_empties 13 = .ok (.iastore, 1) := by decide +kernel
theorem dX8_empties_14 : decode cX8_empties 14 = .ok (.aload_n 0, 1) := by decide +kernel
theorem dX8_empties_15 : decode cX8_empties 15 = .ok (.getfield 22, 3) := by decide +kernel
theorem dX8_empties_18 : decode cX8_empties 18 = .ok (.iload_n 2, 1) := by decide +kernel
theorem dX8_empties_19 : decode cX8_empties 19 = .ok (.iconst 4, 1) := by decide +kernel
theorem dX8_empties_20 : decode cX8_empties 20 = .ok (.iadd, 1) := by decide +kernel
theorem dX8_empties_21 : decode cX8_empties 21 = .ok (.iconst 0, 1) := by decide +kernel
theorem dX8_empties_22 : decode cX8_empties 22 = .ok (.iastore, 1) := by decide +kernel
theorem dX8_empties_23 : decode cX8_empties 23 = .ok (.aload_n 0, 1) := by decide +kernel
theorem dX8_empties_24 : decode cX8_empties 24 = .ok (.getfield 22, 3) := by decide +kernel
theorem dX8_empties_27 : decode cX8_empties 27 = .ok (.iload_n 2, 1) := by decide +kernel
theorem dX8_empties_28 : decode cX8_empties 28 = .ok (.iconst 5, 1) := by decide +kernel
theorem dX8_empties_29 : decode cX8_empties 29 = .ok (.iadd, 1) := by decide +kernel
theorem dX8_empties_30 : decode cX8_empties 30 = .ok (.iconst (-1), 1) := by decide +kernel
theorem dX8_empties_31 : decode cX8_empties 31 = .ok (.iastore, 1) := by decide +kernel
theorem dX8_empties_32 : decode cX8_empties 32 = .ok (.aload_n 0, 1) := by decide +kernel
theorem dX8_empties_33 : decode cX8_empties 33 = .ok (.getfield 22, 3) := by decide +kernel
theorem dX8_empties_36 : decode cX8_empties 36 = .ok (.iload_n 2, 1) := by decide +kernel
theorem dX8_empties_37 : decode cX8_empties 37 = .ok (.bipush 8, 2) := by decide +kernel
theorem dX8_empties_39 : decode cX8_empties 39 = .ok (.iadd, 1) := by decide +kernel
theorem dX8_empties_40 : decode cX8_empties 40 = .ok (.iconst 0, 1) := by decide +kernel
theorem dX8_empties_41 : decode cX8_empties 41 = .ok (.iastore, 1) := by decide +kernel
theorem dX8_empties_42 : decode cX8_empties 42 = .ok (.return_, 1) := by decide +kernel
set_option maxRecDepth 100000 in
set_option maxHeartbeats 4000000 in
theorem c_X8_empties_0_m {hp : List gA} {M : gMd}  (HM : gMod hp M)  : gM yX8_empties cX8_empties 3 (none) 0 0 [.ref 122, .int 0] (hp) (0) (0) (fun v h => v = none ∧ (gMod h (rX8_empties_0 M) ∧ gFM hp h)) := by
  refine gM_of (ls0 := [some (.ref 122), some (.int 0), none]) (by decide +kernel) (Nat.le_of_ble_eq_true rfl) rfl fun X C E => ?_
  refine g_bipush (v := 16) (q := 2) C dX8_empties_0 (by decide) rfl ?_
  refine g_iload_n (q := 3) C dX8_empties_2 rfl rfl ?_
  refine g_imul (q := 4) C dX8_empties_3 rfl ?_
  refine g_istore_n (q := 5) C dX8_empties_4 (Nat.le_of_ble_eq_true rfl) (by simp only [gset]; rfl) rfl ?_
  refine g_aload_n (q := 6) C dX8_empties_5 rfl rfl ?_
  refine g_getfield (v := .ref 127) (q := 9) C fX8_22 dX8_empties_6 rfl HM.1 rfl ?_
  refine g_iload_n (q := 10) C dX8_empties_9 rfl rfl ?_
  refine g_iconst (v := 3) (q := 11) C dX8_empties_10 (by decide) rfl ?_
  refine g_iadd (q := 12) C dX8_empties_11 rfl ?_
  refine g_iconst (v := 0) (q := 13) C dX8_empties_12 (by decide) rfl ?_
  refine g_iastoreN (j := 3) (q := 14) C dX8_empties_13 rfl (HM.ar (i := 4) (n := 772) (by decide) rfl) (pk_in 3 772 (by decide)) (pk_cl 3) ?_
  refine gMsto (i := 4) (j := 3) (x := 0) HM (by decide) rfl rfl fun h1 HL1 fr1 => ?_
  refine g_aload_n (q := 15) C dX8_empties_14 rfl rfl ?_
  refine g_getfield (v := .ref 127) (q := 18) C fX8_22 dX8_empties_15 rfl HL1.1 rfl ?_
  refine g_iload_n (q := 19) C dX8_empties_18 rfl rfl ?_
  refine g_iconst (v := 4) (q := 20) C dX8_empties_19 (by decide) rfl ?_
  refine g_iadd (q := 21) C dX8_empties_20 rfl ?_
  refine g_iconst (v := 0) (q := 22) C dX8_empties_21 (by decide) rfl ?_
  refine g_iastoreN (j := 4) (q := 23) C dX8_empties_22 rfl (HL1.ar (i := 4) (n := 772) (by decide) rfl) (pk_in 4 772 (by decide)) (pk_cl 4) ?_
  refine gMsto (i := 4) (j := 4) (x := 0) HL1 (by decide) rfl rfl fun h2 HL2 fr2 => ?_
  refine g_aload_n (q := 24) C dX8_empties_23 rfl rfl ?_
  refine g_getfield (v := .ref 127) (q := 27) C fX8_22 dX8_empties_24 rfl HL2.1 rfl ?_
  refine g_iload_n (q := 28) C dX8_empties_27 rfl rfl ?_
  refine g_iconst (v := 5) (q := 29) C dX8_empties_28 (by decide) rfl ?_
  refine g_iadd (q := 30) C dX8_empties_29 rfl ?_
  refine g_iconst (v := (-1)) (q := 31) C dX8_empties_30 (by decide) rfl ?_
  refine g_iastoreN (j := 5) (q := 32) C dX8_empties_31 rfl (HL2.ar (i := 4) (n := 772) (by decide) rfl) (pk_in 5 772 (by decide)) (pk_cl 5) ?_
  refine gMsto (i := 4) (j := 5) (x := (-1)) HL2 (by decide) rfl rfl fun h3 HL3 fr3 => ?_
  refine g_aload_n (q := 33) C dX8_empties_32 rfl rfl ?_
  refine g_getfield (v := .ref 127) (q := 36) C fX8_22 dX8_empties_33 rfl HL3.1 rfl ?_
  refine g_iload_n (q := 37) C dX8_empties_36 rfl rfl ?_
  refine g_bipush (v := 8) (q := 39) C dX8_empties_37 (by decide) rfl ?_
  refine g_iadd (q := 40) C dX8_empties_39 rfl ?_
  refine g_iconst (v := 0) (q := 41) C dX8_empties_40 (by decide) rfl ?_
  refine g_iastoreN (j := 8) (q := 42) C dX8_empties_41 rfl (HL3.ar (i := 4) (n := 772) (by decide) rfl) (pk_in 8 772 (by decide)) (pk_cl 8) ?_
  refine gMsto (i := 4) (j := 8) (x := 0) HL3 (by decide) rfl rfl fun h4 HL4 fr4 => ?_
  have e : rX8_empties_0 M = ((((M.put 4 3 0).put 4 4 0).put 4 5 (-1)).put 4 8 0) := rfl
  exact E.2.1 _ _ _ _ _ dX8_empties_42 rfl (Nat.le_of_ble_eq_true rfl) (Nat.le_of_ble_eq_true rfl) ⟨rfl, by rw [e]; exact ⟨HL4, (gFM.trans (gFM.trans (gFM.trans fr1 fr2) fr3) fr4)⟩⟩
def rX8_resynchs_0 (M : gMd) : gMd := ((((rX8_empties_0 M).put 4 0 0).put 4 1 0).put 4 9 (-1))
theorem dX8_resynchs_0 : decode cX8_resynchs 0 = .ok (.aload_n 0, 1) := by decide +kernel
theorem dX8_resynchs_1 : decode cX8_resynchs 1 = .ok (.iload_n 1, 1) := by decide +kernel
theorem dX8_resynchs_2 : decode cX8_resynchs 2 = .ok (.invokevirtual 207, 3) := by decide +kernel
theorem dX8_resynchs_5 : decode cX8_resynchs 5 = .ok (.aload_n 0, 1) := by decide +kernel
theorem dX8_resynchs_6 : decode cX8_resynchs 6 = .ok (.getfield 22, 3) := by decide +kernel
theorem dX8_resynchs_9 : decode cX8_resynchs 9 = .ok (.bipush 16, 2) := by decide +kernel
theorem dX8_resynchs_11 : decode cX8_resynchs 11 = .ok (.iload_n 1, 1) := by decide +kernel
theorem dX8_resynchs_12 : decode cX8_resynchs 12 = .ok (.imul, 1) := by decide +kernel
theorem dX8_resynchs_13 : decode cX8_resynchs 13 = .ok (.iconst 0, 1) := by decide +kernel
theorem dX8_resynchs_14 : decode cX8_resynchs 14 = .ok (.iadd, 1) := by decide +kernel
theorem dX8_resynchs_15 : decode cX8_resynchs 15 = .ok (.iconst 0, 1) := by decide +kernel
theorem dX8_resynchs_16 : decode cX8_resynchs 16 = .ok (.iastore, 1) := by decide +kernel
theorem dX8_resynchs_17 : decode cX8_resynchs 17 = .ok (.aload_n 0, 1) := by decide +kernel
theorem dX8_resynchs_18 : decode cX8_resynchs 18 = .ok (.getfield 22, 3) := by decide +kernel
theorem dX8_resynchs_21 : decode cX8_resynchs 21 = .ok (.bipush 16, 2) := by decide +kernel
theorem dX8_resynchs_23 : decode cX8_resynchs 23 = .ok (.iload_n 1, 1) := by decide +kernel
theorem dX8_resynchs_24 : decode cX8_resynchs 24 = .ok (.imul, 1) := by decide +kernel
theorem dX8_resynchs_25 : decode cX8_resynchs 25 = .ok (.iconst 1, 1) := by decide +kernel
theorem dX8_resynchs_26 : decode cX8_resynchs 26 = .ok (.iadd, 1) := by decide +kernel
theorem dX8_resynchs_27 : decode cX8_resynchs 27 = .ok (.iconst 0, 1) := by decide +kernel
theorem dX8_resynchs_28 : decode cX8_resynchs 28 = .ok (.iastore, 1) := by decide +kernel
theorem dX8_resynchs_29 : decode cX8_resynchs 29 = .ok (.aload_n 0, 1) := by decide +kernel
theorem dX8_resynchs_30 : decode cX8_resynchs 30 = .ok (.getfield 22, 3) := by decide +kernel
theorem dX8_resynchs_33 : decode cX8_resynchs 33 = .ok (.bipush 16, 2) := by decide +kernel
theorem dX8_resynchs_35 : decode cX8_resynchs 35 = .ok (.iload_n 1, 1) := by decide +kernel
theorem dX8_resynchs_36 : decode cX8_resynchs 36 = .ok (.imul, 1) := by decide +kernel
theorem dX8_resynchs_37 : decode cX8_resynchs 37 = .ok (.bipush 9, 2) := by decide +kernel
theorem dX8_resynchs_39 : decode cX8_resynchs 39 = .ok (.iadd, 1) := by decide +kernel
theorem dX8_resynchs_40 : decode cX8_resynchs 40 = .ok (.iconst (-1), 1) := by decide +kernel
theorem dX8_resynchs_41 : decode cX8_resynchs 41 = .ok (.iastore, 1) := by decide +kernel
theorem dX8_resynchs_42 : decode cX8_resynchs 42 = .ok (.return_, 1) := by decide +kernel
set_option maxRecDepth 100000 in
set_option maxHeartbeats 4000000 in
theorem c_X8_resynchs_0_m {hp : List gA} {M : gMd}  (HM : gMod hp M)  : gM yX8_resynchs cX8_resynchs 2 (none) 1 22 [.ref 122, .int 0] (hp) (0) (0) (fun v h => v = none ∧ (gMod h (rX8_resynchs_0 M) ∧ gFM hp h)) := by
  refine gM_of (ls0 := [some (.ref 122), some (.int 0)]) (by decide +kernel) (Nat.le_of_ble_eq_true rfl) rfl fun X C E => ?_
  refine g_aload_n (q := 1) C dX8_resynchs_0 rfl rfl ?_
  refine g_iload_n (q := 2) C dX8_resynchs_1 rfl rfl ?_
  refine g_callVvp (q := 5) (As := [.int 0]) C gyX8_empties gvX8_empties t_1376 (c_X8_empties_0_m HM) dX8_resynchs_2 rfl HM.1 rfl rfl rfl (Nat.le_of_ble_eq_true rfl) (Nat.le_of_ble_eq_true rfl) (Nat.le_of_ble_eq_true rfl) (Nat.le_of_ble_eq_true rfl) (Nat.le_of_ble_eq_true rfl) rfl (fun h1 z1 => ?_)
  obtain ⟨HL1, fr1⟩ := z1
  refine g_aload_n (q := 6) C dX8_resynchs_5 rfl rfl ?_
  refine g_getfield (v := .ref 127) (q := 9) C fX8_22 dX8_resynchs_6 rfl HL1.1 rfl ?_
  refine g_bipush (v := 16) (q := 11) C dX8_resynchs_9 (by decide) rfl ?_
  refine g_iload_n (q := 12) C dX8_resynchs_11 rfl rfl ?_
  refine g_imul (q := 13) C dX8_resynchs_12 rfl ?_
  refine g_iconst (v := 0) (q := 14) C dX8_resynchs_13 (by decide) rfl ?_
  refine g_iadd (q := 15) C dX8_resynchs_14 rfl ?_
  refine g_iconst (v := 0) (q := 16) C dX8_resynchs_15 (by decide) rfl ?_
  refine g_iastoreN (j := 0) (q := 17) C dX8_resynchs_16 rfl (HL1.ar (i := 4) (n := 772) (by decide) rfl) (pk_in 0 772 (by decide)) (pk_cl 0) ?_
  refine gMsto (i := 4) (j := 0) (x := 0) HL1 (by decide) rfl rfl fun h2 HL2 fr2 => ?_
  refine g_aload_n (q := 18) C dX8_resynchs_17 rfl rfl ?_
  refine g_getfield (v := .ref 127) (q := 21) C fX8_22 dX8_resynchs_18 rfl HL2.1 rfl ?_
  refine g_bipush (v := 16) (q := 23) C dX8_resynchs_21 (by decide) rfl ?_
  refine g_iload_n (q := 24) C dX8_resynchs_23 rfl rfl ?_
  refine g_imul (q := 25) C dX8_resynchs_24 rfl ?_
  refine g_iconst (v := 1) (q := 26) C dX8_resynchs_25 (by decide) rfl ?_
  refine g_iadd (q := 27) C dX8_resynchs_26 rfl ?_
  refine g_iconst (v := 0) (q := 28) C dX8_resynchs_27 (by decide) rfl ?_
  refine g_iastoreN (j := 1) (q := 29) C dX8_resynchs_28 rfl (HL2.ar (i := 4) (n := 772) (by decide) rfl) (pk_in 1 772 (by decide)) (pk_cl 1) ?_
  refine gMsto (i := 4) (j := 1) (x := 0) HL2 (by decide) rfl rfl fun h3 HL3 fr3 => ?_
  refine g_aload_n (q := 30) C dX8_resynchs_29 rfl rfl ?_
  refine g_getfield (v := .ref 127) (q := 33) C fX8_22 dX8_resynchs_30 rfl HL3.1 rfl ?_
  refine g_bipush (v := 16) (q := 35) C dX8_resynchs_33 (by decide) rfl ?_
  refine g_iload_n (q := 36) C dX8_resynchs_35 rfl rfl ?_
  refine g_imul (q := 37) C dX8_resynchs_36 rfl ?_
  refine g_bipush (v := 9) (q := 39) C dX8_resynchs_37 (by decide) rfl ?_
  refine g_iadd (q := 40) C dX8_resynchs_39 rfl ?_
  refine g_iconst (v := (-1)) (q := 41) C dX8_resynchs_40 (by decide) rfl ?_
  refine g_iastoreN (j := 9) (q := 42) C dX8_resynchs_41 rfl (HL3.ar (i := 4) (n := 772) (by decide) rfl) (pk_in 9 772 (by decide)) (pk_cl 9) ?_
  refine gMsto (i := 4) (j := 9) (x := (-1)) HL3 (by decide) rfl rfl fun h4 HL4 fr4 => ?_
  have e : rX8_resynchs_0 M = ((((rX8_empties_0 M).put 4 0 0).put 4 1 0).put 4 9 (-1)) := rfl
  exact E.2.1 _ _ _ _ _ dX8_resynchs_42 rfl (Nat.le_of_ble_eq_true rfl) (Nat.le_of_ble_eq_true rfl) ⟨rfl, by rw [e]; exact ⟨HL4, (gFM.trans (gFM.trans (gFM.trans fr1 fr2) fr3) fr4)⟩⟩
def rX8_isResponse_0 (M : gMd) : Int32 := (if (M.a 13 1) = (224 + (M.a 4 9)) then (if (M.a 4 9) = 0 then 1 else (if (M.a 4 9) = 2 then 1 else (if (M.a 13 3) = (M.a 4 10) then 1 else 0 : Int32))) else 0)
theorem dX8_isResponse_0 : decode cX8_isResponse 0 = .ok (.aload_n 0, 1) := by decide +kernel
theorem dX8_isResponse_1 : decode cX8_isResponse 1 = .ok (.getfield 22, 3) := by decide +kernel
theorem dX8_isResponse_4 : decode cX8_isResponse 4 = .ok (.bipush 16, 2) := by decide +kernel
theorem dX8_isResponse_6 : decode cX8_isResponse 6 = .ok (.iload_n 1, 1) := by decide +kernel
theorem dX8_isResponse_7 : decode cX8_isResponse 7 = .ok (.imul, 1) := by decide +kernel
theorem dX8_isResponse_8 : decode cX8_isResponse 8 = .ok (.bipush 9, 2) := by decide +kernel
theorem dX8_isResponse_10 : decode cX8_isResponse 10 = .ok (.iadd, 1) := by decide +kernel
theorem dX8_isResponse_11 : decode cX8_isResponse 11 = .ok (.iaload, 1) := by decide +kernel
theorem dX8_isResponse_12 : decode cX8_isResponse 12 = .ok (.istore_n 2, 1) := by decide +kernel
theorem dX8_isResponse_13 : decode cX8_isResponse 13 = .ok (.aload_n 0, 1) := by decide +kernel
theorem dX8_isResponse_14 : decode cX8_isResponse 14 = .ok (.getfield 54, 3) := by decide +kernel
theorem dX8_isResponse_17 : decode cX8_isResponse 17 = .ok (.iconst 1, 1) := by decide +kernel
theorem dX8_isResponse_18 : decode cX8_isResponse 18 = .ok (.iaload, 1) := by decide +kernel
theorem dX8_isResponse_19 : decode cX8_isResponse 19 = .ok (.sipush 224, 3) := by decide +kernel
theorem dX8_isResponse_22 : decode cX8_isResponse 22 = .ok (.iload_n 2, 1) := by decide +kernel
theorem dX8_isResponse_23 : decode cX8_isResponse 23 = .ok (.iadd, 1) := by decide +kernel
theorem dX8_isResponse_24 : decode cX8_isResponse 24 = .ok (.if_icmp .eq 5, 3) := by decide +kernel
theorem dX8_isResponse_27 : decode cX8_isResponse 27 = .ok (.iconst 0, 1) := by decide +kernel
theorem dX8_isResponse_28 : decode cX8_isResponse 28 = .ok (.ireturn, 1) := by decide +kernel
theorem dX8_isResponse_29 : decode cX8_isResponse 29 = .ok (.iload_n 2, 1) := by decide +kernel
theorem dX8_isResponse_30 : decode cX8_isResponse 30 = .ok (.ifCond .eq 29, 3) := by decide +kernel
theorem dX8_isResponse_33 : decode cX8_isResponse 33 = .ok (.iload_n 2, 1) := by decide +kernel
theorem dX8_isResponse_34 : decode cX8_isResponse 34 = .ok (.iconst 2, 1) := by decide +kernel
theorem dX8_isResponse_35 : decode cX8_isResponse 35 = .ok (.if_icmp .eq 24, 3) := by decide +kernel
theorem dX8_isResponse_38 : decode cX8_isResponse 38 = .ok (.aload_n 0, 1) := by decide +kernel
theorem dX8_isResponse_39 : decode cX8_isResponse 39 = .ok (.getfield 54, 3) := by decide +kernel
theorem dX8_isResponse_42 : decode cX8_isResponse 42 = .ok (.iconst 3, 1) := by decide +kernel
theorem dX8_isResponse_43 : decode cX8_isResponse 43 = .ok (.iaload, 1) := by decide +kernel
theorem dX8_isResponse_44 : decode cX8_isResponse 44 = .ok (.aload_n 0, 1) := by decide +kernel
theorem dX8_isResponse_45 : decode cX8_isResponse 45 = .ok (.getfield 22, 3) := by decide +kernel
theorem dX8_isResponse_48 : decode cX8_isResponse 48 = .ok (.bipush 16, 2) := by decide +kernel
theorem dX8_isResponse_50 : decode cX8_isResponse 50 = .ok (.iload_n 1, 1) := by decide +kernel
theorem dX8_isResponse_51 : decode cX8_isResponse 51 = .ok (.imul, 1) := by decide +kernel
theorem dX8_isResponse_52 : decode cX8_isResponse 52 = .ok (.bipush 10, 2) := by decide +kernel
theorem dX8_isResponse_54 : decode cX8_isResponse 54 = .ok (.iadd, 1) := by decide +kernel
theorem dX8_isResponse_55 : decode cX8_isResponse 55 = .ok (.iaload, 1) := by decide +kernel
theorem dX8_isResponse_56 : decode cX8_isResponse 56 = .ok (.if_icmp .ne 7, 3) := by decide +kernel
theorem dX8_isResponse_59 : decode cX8_isResponse 59 = .ok (.iconst 1, 1) := by decide +kernel
theorem dX8_isResponse_60 : decode cX8_isResponse 60 = .ok (.goto 4, 3) := by decide +kernel
theorem dX8_isResponse_63 : decode cX8_isResponse 63 = .ok (.iconst 0, 1) := by decide +kernel
theorem dX8_isResponse_64 : decode cX8_isResponse 64 = .ok (.ireturn, 1) := by decide +kernel
set_option maxRecDepth 100000 in
set_option maxHeartbeats 4000000 in
theorem c_X8_isResponse_0_m {hp : List gA} {M : gMd}  (HM : gMod hp M)  : gM yX8_isResponse cX8_isResponse 3 ((some .boolean)) 0 0 [.ref 122, .int 0] (hp) (0) (0) (fun v h => v = some (.int (rX8_isResponse_0 M)) ∧ h = hp) := by
  refine gM_of (ls0 := [some (.ref 122), some (.int 0), none]) (by decide +kernel) (Nat.le_of_ble_eq_true rfl) rfl fun X C E => ?_
  refine g_aload_n (q := 1) C dX8_isResponse_0 rfl rfl ?_
  refine g_getfield (v := .ref 127) (q := 4) C fX8_22 dX8_isResponse_1 rfl HM.1 rfl ?_
  refine g_bipush (v := 16) (q := 6) C dX8_isResponse_4 (by decide) rfl ?_
  refine g_iload_n (q := 7) C dX8_isResponse_6 rfl rfl ?_
  refine g_imul (q := 8) C dX8_isResponse_7 rfl ?_
  refine g_bipush (v := 9) (q := 10) C dX8_isResponse_8 (by decide) rfl ?_
  refine g_iadd (q := 11) C dX8_isResponse_10 rfl ?_
  refine g_ialoadN (x := (M.a 4 9)) (j := 9) (q := 12) C dX8_isResponse_11 rfl (HM.ar (i := 4) (n := 772) (by decide) rfl) (pk_in 9 772 (by decide)) (pk_cl 9) rfl ?_
  refine g_istore_n (q := 13) C dX8_isResponse_12 (Nat.le_of_ble_eq_true rfl) (by simp only [gset]; rfl) rfl ?_
  refine g_aload_n (q := 14) C dX8_isResponse_13 rfl rfl ?_
  refine g_getfield (v := .ref 136) (q := 17) C fX8_54 dX8_isResponse_14 rfl HM.1 rfl ?_
  refine g_iconst (v := 1) (q := 18) C dX8_isResponse_17 (by decide) rfl ?_
  refine g_ialoadN (x := (M.a 13 1)) (j := 1) (q := 19) C dX8_isResponse_18 rfl (HM.ar (i := 13) (n := 260) (by decide) rfl) (pk_in 1 260 (by decide)) (pk_cl 1) rfl ?_
  refine g_sipush (v := 224) (q := 22) C dX8_isResponse_19 (by decide) rfl ?_
  refine g_iload_n (q := 23) C dX8_isResponse_22 rfl rfl ?_
  refine g_iadd (q := 24) C dX8_isResponse_23 rfl ?_
  refine g_icmp_eq (t := 29) (q := 27) C dX8_isResponse_24 (by decide) rfl (fun c_24 => ?_) (fun c_24 => ?_)
  ·
    refine g_iload_n (q := 30) C dX8_isResponse_29 rfl rfl ?_
    refine g_if_eq (t := 59) (q := 33) C dX8_isResponse_30 (by decide) rfl (fun c_30 => ?_) (fun c_30 => ?_)
    ·
      refine g_iconst (v := 1) (q := 60) C dX8_isResponse_59 (by decide) rfl ?_
      refine g_goto (q := 64) C dX8_isResponse_60 (by decide) ?_
      have e : rX8_isResponse_0 M = (1) := ((if_pos c_24).trans (if_pos c_30))
      exact E.1 _ _ _ _ _ _ _ dX8_isResponse_64 rfl rfl (Nat.le_of_ble_eq_true rfl) (Nat.le_of_ble_eq_true rfl) ⟨by rw [e], rfl⟩
    ·
      refine g_iload_n (q := 34) C dX8_isResponse_33 rfl rfl ?_
      refine g_iconst (v := 2) (q := 35) C dX8_isResponse_34 (by decide) rfl ?_
      refine g_icmp_eq (t := 59) (q := 38) C dX8_isResponse_35 (by decide) rfl (fun c_35 => ?_) (fun c_35 => ?_)
      ·
        refine g_iconst (v := 1) (q := 60) C dX8_isResponse_59 (by decide) rfl ?_
        refine g_goto (q := 64) C dX8_isResponse_60 (by decide) ?_
        have e : rX8_isResponse_0 M = (1) := ((if_pos c_24).trans ((if_neg c_30).trans (if_pos c_35)))
        exact E.1 _ _ _ _ _ _ _ dX8_isResponse_64 rfl rfl (Nat.le_of_ble_eq_true rfl) (Nat.le_of_ble_eq_true rfl) ⟨by rw [e], rfl⟩
      ·
        refine g_aload_n (q := 39) C dX8_isResponse_38 rfl rfl ?_
        refine g_getfield (v := .ref 136) (q := 42) C fX8_54 dX8_isResponse_39 rfl HM.1 rfl ?_
        refine g_iconst (v := 3) (q := 43) C dX8_isResponse_42 (by decide) rfl ?_
        refine g_ialoadN (x := (M.a 13 3)) (j := 3) (q := 44) C dX8_isResponse_43 rfl (HM.ar (i := 13) (n := 260) (by decide) rfl) (pk_in 3 260 (by decide)) (pk_cl 3) rfl ?_
        refine g_aload_n (q := 45) C dX8_isResponse_44 rfl rfl ?_
        refine g_getfield (v := .ref 127) (q := 48) C fX8_22 dX8_isResponse_45 rfl HM.1 rfl ?_
        refine g_bipush (v := 16) (q := 50) C dX8_isResponse_48 (by decide) rfl ?_
        refine g_iload_n (q := 51) C dX8_isResponse_50 rfl rfl ?_
        refine g_imul (q := 52) C dX8_isResponse_51 rfl ?_
        refine g_bipush (v := 10) (q := 54) C dX8_isResponse_52 (by decide) rfl ?_
        refine g_iadd (q := 55) C dX8_isResponse_54 rfl ?_
        refine g_ialoadN (x := (M.a 4 10)) (j := 10) (q := 56) C dX8_isResponse_55 rfl (HM.ar (i := 4) (n := 772) (by decide) rfl) (pk_in 10 772 (by decide)) (pk_cl 10) rfl ?_
        suffices K56 : gG X 64 [some (.ref 122), some (.int 0), some (.int ((M.a 4 9)))] [.int (if (M.a 13 3) = (M.a 4 10) then 1 else 0 : Int32)] hp 0 0 by
          refine g_icmp_ne (t := 63) (q := 59) C dX8_isResponse_56 (by decide) rfl (fun c_56 => ?_) (fun c_56 => ?_)
          · refine g_iconst (v := 0) (q := 64) C dX8_isResponse_63 (by decide) rfl ?_
            rw [if_neg c_56] at K56
            exact K56
          · refine g_iconst (v := 1) (q := 60) C dX8_isResponse_59 (by decide) rfl ?_
            refine g_goto (q := 64) C dX8_isResponse_60 (by decide) ?_
            rw [if_pos c_56] at K56
            exact K56
        have e : rX8_isResponse_0 M = ((if (M.a 13 3) = (M.a 4 10) then 1 else 0 : Int32)) := ((if_pos c_24).trans ((if_neg c_30).trans (if_neg c_35)))
        exact E.1 _ _ _ _ _ _ _ dX8_isResponse_64 rfl (by split <;> rfl) (Nat.le_of_ble_eq_true rfl) (Nat.le_of_ble_eq_true rfl) ⟨by rw [e], rfl⟩
  ·
    refine g_iconst (v := 0) (q := 28) C dX8_isResponse_27 (by decide) rfl ?_
    have e : rX8_isResponse_0 M = (0) := (if_neg c_24)
    exact E.1 _ _ _ _ _ _ _ dX8_isResponse_28 rfl rfl (Nat.le_of_ble_eq_true rfl) (Nat.le_of_ble_eq_true rfl) ⟨by rw [e], rfl⟩
def rX8_wantsAgain_1 (M : gMd) : Int32 := (if (((M.a 13 1) >>> (4 &&& 31)) &&& 1) = (M.a 4 16) then 1 else 0 : Int32)
set_option maxRecDepth 100000 in
set_option maxHeartbeats 4000000 in
theorem c_X8_wantsAgain_1_m {hp : List gA} {M : gMd}  (HM : gMod hp M)  : gM yX8_wantsAgain cX8_wantsAgain 2 ((some .boolean)) 0 0 [.ref 122, .int 1] (hp) (0) (0) (fun v h => v = some (.int (rX8_wantsAgain_1 M)) ∧ h = hp) := by
  refine gM_of (ls0 := [some (.ref 122), some (.int 1)]) (by decide +kernel) (Nat.le_of_ble_eq_true rfl) rfl fun X C E => ?_
  refine g_aload_n (q := 1) C dX8_wantsAgain_0 rfl rfl ?_
  refine g_getfield (v := .ref 136) (q := 4) C fX8_54 dX8_wantsAgain_1 rfl HM.1 rfl ?_
  refine g_iconst (v := 1) (q := 5) C dX8_wantsAgain_4 (by decide) rfl ?_
  refine g_ialoadN (x := (M.a 13 1)) (j := 1) (q := 6) C dX8_wantsAgain_5 rfl (HM.ar (i := 13) (n := 260) (by decide) rfl) (pk_in 1 260 (by decide)) (pk_cl 1) rfl ?_
  refine g_iconst (v := 4) (q := 7) C dX8_wantsAgain_6 (by decide) rfl ?_
  refine g_ishr (q := 8) C dX8_wantsAgain_7 rfl ?_
  refine g_iconst (v := 1) (q := 9) C dX8_wantsAgain_8 (by decide) rfl ?_
  refine g_iand (q := 10) C dX8_wantsAgain_9 rfl ?_
  refine g_aload_n (q := 11) C dX8_wantsAgain_10 rfl rfl ?_
  refine g_getfield (v := .ref 127) (q := 14) C fX8_22 dX8_wantsAgain_11 rfl HM.1 rfl ?_
  refine g_bipush (v := 16) (q := 16) C dX8_wantsAgain_14 (by decide) rfl ?_
  refine g_iload_n (q := 17) C dX8_wantsAgain_16 rfl rfl ?_
  refine g_imul (q := 18) C dX8_wantsAgain_17 rfl ?_
  refine g_iconst (v := 0) (q := 19) C dX8_wantsAgain_18 (by decide) rfl ?_
  refine g_iadd (q := 20) C dX8_wantsAgain_19 rfl ?_
  refine g_ialoadN (x := (M.a 4 16)) (j := 16) (q := 21) C dX8_wantsAgain_20 rfl (HM.ar (i := 4) (n := 772) (by decide) rfl) (pk_in 16 772 (by decide)) (pk_cl 16) rfl ?_
  suffices K21 : gG X 29 [some (.ref 122), some (.int 1)] [.int (if (((M.a 13 1) >>> (4 &&& 31)) &&& 1) = (M.a 4 16) then 1 else 0 : Int32)] hp 0 0 by
    refine g_icmp_ne (t := 28) (q := 24) C dX8_wantsAgain_21 (by decide) rfl (fun c_21 => ?_) (fun c_21 => ?_)
    · refine g_iconst (v := 0) (q := 29) C dX8_wantsAgain_28 (by decide) rfl ?_
      rw [if_neg c_21] at K21
      exact K21
    · refine g_iconst (v := 1) (q := 25) C dX8_wantsAgain_24 (by decide) rfl ?_
      refine g_goto (q := 29) C dX8_wantsAgain_25 (by decide) ?_
      rw [if_pos c_21] at K21
      exact K21
  have e : rX8_wantsAgain_1 M = ((if (((M.a 13 1) >>> (4 &&& 31)) &&& 1) = (M.a 4 16) then 1 else 0 : Int32)) := rfl
  exact E.1 _ _ _ _ _ _ _ dX8_wantsAgain_29 rfl (by split <;> rfl) (Nat.le_of_ble_eq_true rfl) (Nat.le_of_ble_eq_true rfl) ⟨by rw [e], rfl⟩
def rX8_isThrough_1 (M : gMd) : gMd := (if 0 ≤ (M.a 4 21) then (((M.put 4 20 ((M.a 4 20) + (M.a 4 23))).put 4 16 (1 - (M.a 4 16))).put 4 21 (-1)) else M)
set_option maxRecDepth 100000 in
set_option maxHeartbeats 4000000 in
theorem c_X8_isThrough_1_m {hp : List gA} {M : gMd}  (HM : gMod hp M)  : gM yX8_isThrough cX8_isThrough 3 (none) 0 0 [.ref 122, .int 1] (hp) (0) (0) (fun v h => v = none ∧ (gMod h (rX8_isThrough_1 M) ∧ gFM hp h)) := by
  refine gM_of (ls0 := [some (.ref 122), some (.int 1), none]) (by decide +kernel) (Nat.le_of_ble_eq_true rfl) rfl fun X C E => ?_
  refine g_bipush (v := 16) (q := 2) C dX8_isThrough_0 (by decide) rfl ?_
  refine g_iload_n (q := 3) C dX8_isThrough_2 rfl rfl ?_
  refine g_imul (q := 4) C dX8_isThrough_3 rfl ?_
  refine g_istore_n (q := 5) C dX8_isThrough_4 (Nat.le_of_ble_eq_true rfl) (by simp only [gset]; rfl) rfl ?_
  refine g_aload_n (q := 6) C dX8_isThrough_5 rfl rfl ?_
  refine g_getfield (v := .ref 127) (q := 9) C fX8_22 dX8_isThrough_6 rfl HM.1 rfl ?_
  refine g_iload_n (q := 10) C dX8_isThrough_9 rfl rfl ?_
  refine g_iconst (v := 5) (q := 11) C dX8_isThrough_10 (by decide) rfl ?_
  refine g_iadd (q := 12) C dX8_isThrough_11 rfl ?_
  refine g_ialoadN (x := (M.a 4 21)) (j := 21) (q := 13) C dX8_isThrough_12 rfl (HM.ar (i := 4) (n := 772) (by decide) rfl) (pk_in 21 772 (by decide)) (pk_cl 21) rfl ?_
  refine g_if_ge (t := 17) (q := 16) C dX8_isThrough_13 (by decide) rfl (fun c_13 => ?_) (fun c_13 => ?_)
  ·
    refine g_aload_n (q := 18) C dX8_isThrough_17 rfl rfl ?_
    refine g_getfield (v := .ref 127) (q := 21) C fX8_22 dX8_isThrough_18 rfl HM.1 rfl ?_
    refine g_iload_n (q := 22) C dX8_isThrough_21 rfl rfl ?_
    refine g_iconst (v := 4) (q := 23) C dX8_isThrough_22 (by decide) rfl ?_
    refine g_iadd (q := 24) C dX8_isThrough_23 rfl ?_
    refine g_dup2 (q := 25) C dX8_isThrough_24 rfl rfl rfl ?_
    refine g_ialoadN (x := (M.a 4 20)) (j := 20) (q := 26) C dX8_isThrough_25 rfl (HM.ar (i := 4) (n := 772) (by decide) rfl) (pk_in 20 772 (by decide)) (pk_cl 20) rfl ?_
    refine g_aload_n (q := 27) C dX8_isThrough_26 rfl rfl ?_
    refine g_getfield (v := .ref 127) (q := 30) C fX8_22 dX8_isThrough_27 rfl HM.1 rfl ?_
    refine g_iload_n (q := 31) C dX8_isThrough_30 rfl rfl ?_
    refine g_bipush (v := 7) (q := 33) C dX8_isThrough_31 (by decide) rfl ?_
    refine g_iadd (q := 34) C dX8_isThrough_33 rfl ?_
    refine g_ialoadN (x := (M.a 4 23)) (j := 23) (q := 35) C dX8_isThrough_34 rfl (HM.ar (i := 4) (n := 772) (by decide) rfl) (pk_in 23 772 (by decide)) (pk_cl 23) rfl ?_
    refine g_iadd (q := 36) C dX8_isThrough_35 rfl ?_
    refine g_iastoreN (j := 20) (q := 37) C dX8_isThrough_36 rfl (HM.ar (i := 4) (n := 772) (by decide) rfl) (pk_in 20 772 (by decide)) (pk_cl 20) ?_
    refine gMsto (i := 4) (j := 20) (x := ((M.a 4 20) + (M.a 4 23))) HM (by decide) rfl rfl fun h1 HL1 fr1 => ?_
    refine g_aload_n (q := 38) C dX8_isThrough_37 rfl rfl ?_
    refine g_getfield (v := .ref 127) (q := 41) C fX8_22 dX8_isThrough_38 rfl HL1.1 rfl ?_
    refine g_iload_n (q := 42) C dX8_isThrough_41 rfl rfl ?_
    refine g_iconst (v := 0) (q := 43) C dX8_isThrough_42 (by decide) rfl ?_
    refine g_iadd (q := 44) C dX8_isThrough_43 rfl ?_
    refine g_iconst (v := 1) (q := 45) C dX8_isThrough_44 (by decide) rfl ?_
    refine g_aload_n (q := 46) C dX8_isThrough_45 rfl rfl ?_
    refine g_getfield (v := .ref 127) (q := 49) C fX8_22 dX8_isThrough_46 rfl HL1.1 rfl ?_
    refine g_iload_n (q := 50) C dX8_isThrough_49 rfl rfl ?_
    refine g_iconst (v := 0) (q := 51) C dX8_isThrough_50 (by decide) rfl ?_
    refine g_iadd (q := 52) C dX8_isThrough_51 rfl ?_
    refine g_ialoadN (x := (M.a 4 16)) (j := 16) (q := 53) C dX8_isThrough_52 rfl (HL1.ar (i := 4) (n := 772) (by decide) rfl) (pk_in 16 772 (by decide)) (pk_cl 16) (gput_n (by decide)) ?_
    refine g_isub (q := 54) C dX8_isThrough_53 rfl ?_
    refine g_iastoreN (j := 16) (q := 55) C dX8_isThrough_54 rfl (HL1.ar (i := 4) (n := 772) (by decide) rfl) (pk_in 16 772 (by decide)) (pk_cl 16) ?_
    refine gMsto (i := 4) (j := 16) (x := (1 - (M.a 4 16))) HL1 (by decide) rfl rfl fun h2 HL2 fr2 => ?_
    refine g_aload_n (q := 56) C dX8_isThrough_55 rfl rfl ?_
    refine g_getfield (v := .ref 127) (q := 59) C fX8_22 dX8_isThrough_56 rfl HL2.1 rfl ?_
    refine g_iload_n (q := 60) C dX8_isThrough_59 rfl rfl ?_
    refine g_iconst (v := 5) (q := 61) C dX8_isThrough_60 (by decide) rfl ?_
    refine g_iadd (q := 62) C dX8_isThrough_61 rfl ?_
    refine g_iconst (v := (-1)) (q := 63) C dX8_isThrough_62 (by decide) rfl ?_
    refine g_iastoreN (j := 21) (q := 64) C dX8_isThrough_63 rfl (HL2.ar (i := 4) (n := 772) (by decide) rfl) (pk_in 21 772 (by decide)) (pk_cl 21) ?_
    refine gMsto (i := 4) (j := 21) (x := (-1)) HL2 (by decide) rfl rfl fun h3 HL3 fr3 => ?_
    have e : rX8_isThrough_1 M = (((M.put 4 20 ((M.a 4 20) + (M.a 4 23))).put 4 16 (1 - (M.a 4 16))).put 4 21 (-1)) := (if_pos c_13)
    exact E.2.1 _ _ _ _ _ dX8_isThrough_64 rfl (Nat.le_of_ble_eq_true rfl) (Nat.le_of_ble_eq_true rfl) ⟨rfl, by rw [e]; exact ⟨HL3, (gFM.trans (gFM.trans fr1 fr2) fr3)⟩⟩
  ·
    have e : rX8_isThrough_1 M = M := (if_neg c_13)
    exact E.2.1 _ _ _ _ _ dX8_isThrough_16 rfl (Nat.le_of_ble_eq_true rfl) (Nat.le_of_ble_eq_true rfl) ⟨rfl, by rw [e]; exact ⟨HM, gFM.rf⟩⟩
def rX8_empties_1 (M : gMd) : gMd := ((((M.put 4 19 0).put 4 20 0).put 4 21 (-1)).put 4 24 0)
set_option maxRecDepth 100000 in
set_option maxHeartbeats 4000000 in
theorem c_X8_empties_1_m {hp : List gA} {M : gMd}  (HM : gMod hp M)  : gM yX8_empties cX8_empties 3 (none) 0 0 [.ref 122, .int 1] (hp) (0) (0) (fun v h => v = none ∧ (gMod h (rX8_empties_1 M) ∧ gFM hp h)) := by
  refine gM_of (ls0 := [some (.ref 122), some (.int 1), none]) (by decide +kernel) (Nat.le_of_ble_eq_true rfl) rfl fun X C E => ?_
  refine g_bipush (v := 16) (q := 2) C dX8_empties_0 (by decide) rfl ?_
  refine g_iload_n (q := 3) C dX8_empties_2 rfl rfl ?_
  refine g_imul (q := 4) C dX8_empties_3 rfl ?_
  refine g_istore_n (q := 5) C dX8_empties_4 (Nat.le_of_ble_eq_true rfl) (by simp only [gset]; rfl) rfl ?_
  refine g_aload_n (q := 6) C dX8_empties_5 rfl rfl ?_
  refine g_getfield (v := .ref 127) (q := 9) C fX8_22 dX8_empties_6 rfl HM.1 rfl ?_
  refine g_iload_n (q := 10) C dX8_empties_9 rfl rfl ?_
  refine g_iconst (v := 3) (q := 11) C dX8_empties_10 (by decide) rfl ?_
  refine g_iadd (q := 12) C dX8_empties_11 rfl ?_
  refine g_iconst (v := 0) (q := 13) C dX8_empties_12 (by decide) rfl ?_
  refine g_iastoreN (j := 19) (q := 14) C dX8_empties_13 rfl (HM.ar (i := 4) (n := 772) (by decide) rfl) (pk_in 19 772 (by decide)) (pk_cl 19) ?_
  refine gMsto (i := 4) (j := 19) (x := 0) HM (by decide) rfl rfl fun h1 HL1 fr1 => ?_
  refine g_aload_n (q := 15) C dX8_empties_14 rfl rfl ?_
  refine g_getfield (v := .ref 127) (q := 18) C fX8_22 dX8_empties_15 rfl HL1.1 rfl ?_
  refine g_iload_n (q := 19) C dX8_empties_18 rfl rfl ?_
  refine g_iconst (v := 4) (q := 20) C dX8_empties_19 (by decide) rfl ?_
  refine g_iadd (q := 21) C dX8_empties_20 rfl ?_
  refine g_iconst (v := 0) (q := 22) C dX8_empties_21 (by decide) rfl ?_
  refine g_iastoreN (j := 20) (q := 23) C dX8_empties_22 rfl (HL1.ar (i := 4) (n := 772) (by decide) rfl) (pk_in 20 772 (by decide)) (pk_cl 20) ?_
  refine gMsto (i := 4) (j := 20) (x := 0) HL1 (by decide) rfl rfl fun h2 HL2 fr2 => ?_
  refine g_aload_n (q := 24) C dX8_empties_23 rfl rfl ?_
  refine g_getfield (v := .ref 127) (q := 27) C fX8_22 dX8_empties_24 rfl HL2.1 rfl ?_
  refine g_iload_n (q := 28) C dX8_empties_27 rfl rfl ?_
  refine g_iconst (v := 5) (q := 29) C dX8_empties_28 (by decide) rfl ?_
  refine g_iadd (q := 30) C dX8_empties_29 rfl ?_
  refine g_iconst (v := (-1)) (q := 31) C dX8_empties_30 (by decide) rfl ?_
  refine g_iastoreN (j := 21) (q := 32) C dX8_empties_31 rfl (HL2.ar (i := 4) (n := 772) (by decide) rfl) (pk_in 21 772 (by decide)) (pk_cl 21) ?_
  refine gMsto (i := 4) (j := 21) (x := (-1)) HL2 (by decide) rfl rfl fun h3 HL3 fr3 => ?_
  refine g_aload_n (q := 33) C dX8_empties_32 rfl rfl ?_
  refine g_getfield (v := .ref 127) (q := 36) C fX8_22 dX8_empties_33 rfl HL3.1 rfl ?_
  refine g_iload_n (q := 37) C dX8_empties_36 rfl rfl ?_
  refine g_bipush (v := 8) (q := 39) C dX8_empties_37 (by decide) rfl ?_
  refine g_iadd (q := 40) C dX8_empties_39 rfl ?_
  refine g_iconst (v := 0) (q := 41) C dX8_empties_40 (by decide) rfl ?_
  refine g_iastoreN (j := 24) (q := 42) C dX8_empties_41 rfl (HL3.ar (i := 4) (n := 772) (by decide) rfl) (pk_in 24 772 (by decide)) (pk_cl 24) ?_
  refine gMsto (i := 4) (j := 24) (x := 0) HL3 (by decide) rfl rfl fun h4 HL4 fr4 => ?_
  have e : rX8_empties_1 M = ((((M.put 4 19 0).put 4 20 0).put 4 21 (-1)).put 4 24 0) := rfl
  exact E.2.1 _ _ _ _ _ dX8_empties_42 rfl (Nat.le_of_ble_eq_true rfl) (Nat.le_of_ble_eq_true rfl) ⟨rfl, by rw [e]; exact ⟨HL4, (gFM.trans (gFM.trans (gFM.trans fr1 fr2) fr3) fr4)⟩⟩
def rX8_resynchs_1 (M : gMd) : gMd := ((((rX8_empties_1 M).put 4 16 0).put 4 17 0).put 4 25 (-1))
set_option maxRecDepth 100000 in
set_option maxHeartbeats 4000000 in
theorem c_X8_resynchs_1_m {hp : List gA} {M : gMd}  (HM : gMod hp M)  : gM yX8_resynchs cX8_resynchs 2 (none) 1 22 [.ref 122, .int 1] (hp) (0) (0) (fun v h => v = none ∧ (gMod h (rX8_resynchs_1 M) ∧ gFM hp h)) := by
  refine gM_of (ls0 := [some (.ref 122), some (.int 1)]) (by decide +kernel) (Nat.le_of_ble_eq_true rfl) rfl fun X C E => ?_
  refine g_aload_n (q := 1) C dX8_resynchs_0 rfl rfl ?_
  refine g_iload_n (q := 2) C dX8_resynchs_1 rfl rfl ?_
  refine g_callVvp (q := 5) (As := [.int 1]) C gyX8_empties gvX8_empties t_1376 (c_X8_empties_1_m HM) dX8_resynchs_2 rfl HM.1 rfl rfl rfl (Nat.le_of_ble_eq_true rfl) (Nat.le_of_ble_eq_true rfl) (Nat.le_of_ble_eq_true rfl) (Nat.le_of_ble_eq_true rfl) (Nat.le_of_ble_eq_true rfl) rfl (fun h1 z1 => ?_)
  obtain ⟨HL1, fr1⟩ := z1
  refine g_aload_n (q := 6) C dX8_resynchs_5 rfl rfl ?_
  refine g_getfield (v := .ref 127) (q := 9) C fX8_22 dX8_resynchs_6 rfl HL1.1 rfl ?_
  refine g_bipush (v := 16) (q := 11) C dX8_resynchs_9 (by decide) rfl ?_
  refine g_iload_n (q := 12) C dX8_resynchs_11 rfl rfl ?_
  refine g_imul (q := 13) C dX8_resynchs_12 rfl ?_
  refine g_iconst (v := 0) (q := 14) C dX8_resynchs_13 (by decide) rfl ?_
  refine g_iadd (q := 15) C dX8_resynchs_14 rfl ?_
  refine g_iconst (v := 0) (q := 16) C dX8_resynchs_15 (by decide) rfl ?_
  refine g_iastoreN (j := 16) (q := 17) C dX8_resynchs_16 rfl (HL1.ar (i := 4) (n := 772) (by decide) rfl) (pk_in 16 772 (by decide)) (pk_cl 16) ?_
  refine gMsto (i := 4) (j := 16) (x := 0) HL1 (by decide) rfl rfl fun h2 HL2 fr2 => ?_
  refine g_aload_n (q := 18) C dX8_resynchs_17 rfl rfl ?_
  refine g_getfield (v := .ref 127) (q := 21) C fX8_22 dX8_resynchs_18 rfl HL2.1 rfl ?_
  refine g_bipush (v := 16) (q := 23) C dX8_resynchs_21 (by decide) rfl ?_
  refine g_iload_n (q := 24) C dX8_resynchs_23 rfl rfl ?_
  refine g_imul (q := 25) C dX8_resynchs_24 rfl ?_
  refine g_iconst (v := 1) (q := 26) C dX8_resynchs_25 (by decide) rfl ?_
  refine g_iadd (q := 27) C dX8_resynchs_26 rfl ?_
  refine g_iconst (v := 0) (q := 28) C dX8_resynchs_27 (by decide) rfl ?_
  refine g_iastoreN (j := 17) (q := 29) C dX8_resynchs_28 rfl (HL2.ar (i := 4) (n := 772) (by decide) rfl) (pk_in 17 772 (by decide)) (pk_cl 17) ?_
  refine gMsto (i := 4) (j := 17) (x := 0) HL2 (by decide) rfl rfl fun h3 HL3 fr3 => ?_
  refine g_aload_n (q := 30) C dX8_resynchs_29 rfl rfl ?_
  refine g_getfield (v := .ref 127) (q := 33) C fX8_22 dX8_resynchs_30 rfl HL3.1 rfl ?_
  refine g_bipush (v := 16) (q := 35) C dX8_resynchs_33 (by decide) rfl ?_
  refine g_iload_n (q := 36) C dX8_resynchs_35 rfl rfl ?_
  refine g_imul (q := 37) C dX8_resynchs_36 rfl ?_
  refine g_bipush (v := 9) (q := 39) C dX8_resynchs_37 (by decide) rfl ?_
  refine g_iadd (q := 40) C dX8_resynchs_39 rfl ?_
  refine g_iconst (v := (-1)) (q := 41) C dX8_resynchs_40 (by decide) rfl ?_
  refine g_iastoreN (j := 25) (q := 42) C dX8_resynchs_41 rfl (HL3.ar (i := 4) (n := 772) (by decide) rfl) (pk_in 25 772 (by decide)) (pk_cl 25) ?_
  refine gMsto (i := 4) (j := 25) (x := (-1)) HL3 (by decide) rfl rfl fun h4 HL4 fr4 => ?_
  have e : rX8_resynchs_1 M = ((((rX8_empties_1 M).put 4 16 0).put 4 17 0).put 4 25 (-1)) := rfl
  exact E.2.1 _ _ _ _ _ dX8_resynchs_42 rfl (Nat.le_of_ble_eq_true rfl) (Nat.le_of_ble_eq_true rfl) ⟨rfl, by rw [e]; exact ⟨HL4, (gFM.trans (gFM.trans (gFM.trans fr1 fr2) fr3) fr4)⟩⟩
def rX8_isResponse_1 (M : gMd) : Int32 := (if (M.a 13 1) = (224 + (M.a 4 25)) then (if (M.a 4 25) = 0 then 1 else (if (M.a 4 25) = 2 then 1 else (if (M.a 13 3) = (M.a 4 26) then 1 else 0 : Int32))) else 0)
set_option maxRecDepth 100000 in
set_option maxHeartbeats 4000000 in
theorem c_X8_isResponse_1_m {hp : List gA} {M : gMd}  (HM : gMod hp M)  : gM yX8_isResponse cX8_isResponse 3 ((some .boolean)) 0 0 [.ref 122, .int 1] (hp) (0) (0) (fun v h => v = some (.int (rX8_isResponse_1 M)) ∧ h = hp) := by
  refine gM_of (ls0 := [some (.ref 122), some (.int 1), none]) (by decide +kernel) (Nat.le_of_ble_eq_true rfl) rfl fun X C E => ?_
  refine g_aload_n (q := 1) C dX8_isResponse_0 rfl rfl ?_
  refine g_getfield (v := .ref 127) (q := 4) C fX8_22 dX8_isResponse_1 rfl HM.1 rfl ?_
  refine g_bipush (v := 16) (q := 6) C dX8_isResponse_4 (by decide) rfl ?_
  refine g_iload_n (q := 7) C dX8_isResponse_6 rfl rfl ?_
  refine g_imul (q := 8) C dX8_isResponse_7 rfl ?_
  refine g_bipush (v := 9) (q := 10) C dX8_isResponse_8 (by decide) rfl ?_
  refine g_iadd (q := 11) C dX8_isResponse_10 rfl ?_
  refine g_ialoadN (x := (M.a 4 25)) (j := 25) (q := 12) C dX8_isResponse_11 rfl (HM.ar (i := 4) (n := 772) (by decide) rfl) (pk_in 25 772 (by decide)) (pk_cl 25) rfl ?_
  refine g_istore_n (q := 13) C dX8_isResponse_12 (Nat.le_of_ble_eq_true rfl) (by simp only [gset]; rfl) rfl ?_
  refine g_aload_n (q := 14) C dX8_isResponse_13 rfl rfl ?_
  refine g_getfield (v := .ref 136) (q := 17) C fX8_54 dX8_isResponse_14 rfl HM.1 rfl ?_
  refine g_iconst (v := 1) (q := 18) C dX8_isResponse_17 (by decide) rfl ?_
  refine g_ialoadN (x := (M.a 13 1)) (j := 1) (q := 19) C dX8_isResponse_18 rfl (HM.ar (i := 13) (n := 260) (by decide) rfl) (pk_in 1 260 (by decide)) (pk_cl 1) rfl ?_
  refine g_sipush (v := 224) (q := 22) C dX8_isResponse_19 (by decide) rfl ?_
  refine g_iload_n (q := 23) C dX8_isResponse_22 rfl rfl ?_
  refine g_iadd (q := 24) C dX8_isResponse_23 rfl ?_
  refine g_icmp_eq (t := 29) (q := 27) C dX8_isResponse_24 (by decide) rfl (fun c_24 => ?_) (fun c_24 => ?_)
  ·
    refine g_iload_n (q := 30) C dX8_isResponse_29 rfl rfl ?_
    refine g_if_eq (t := 59) (q := 33) C dX8_isResponse_30 (by decide) rfl (fun c_30 => ?_) (fun c_30 => ?_)
    ·
      refine g_iconst (v := 1) (q := 60) C dX8_isResponse_59 (by decide) rfl ?_
      refine g_goto (q := 64) C dX8_isResponse_60 (by decide) ?_
      have e : rX8_isResponse_1 M = (1) := ((if_pos c_24).trans (if_pos c_30))
      exact E.1 _ _ _ _ _ _ _ dX8_isResponse_64 rfl rfl (Nat.le_of_ble_eq_true rfl) (Nat.le_of_ble_eq_true rfl) ⟨by rw [e], rfl⟩
    ·
      refine g_iload_n (q := 34) C dX8_isResponse_33 rfl rfl ?_
      refine g_iconst (v := 2) (q := 35) C dX8_isResponse_34 (by decide) rfl ?_
      refine g_icmp_eq (t := 59) (q := 38) C dX8_isResponse_35 (by decide) rfl (fun c_35 => ?_) (fun c_35 => ?_)
      ·
        refine g_iconst (v := 1) (q := 60) C dX8_isResponse_59 (by decide) rfl ?_
        refine g_goto (q := 64) C dX8_isResponse_60 (by decide) ?_
        have e : rX8_isResponse_1 M = (1) := ((if_pos c_24).trans ((if_neg c_30).trans (if_pos c_35)))
        exact E.1 _ _ _ _ _ _ _ dX8_isResponse_64 rfl rfl (Nat.le_of_ble_eq_true rfl) (Nat.le_of_ble_eq_true rfl) ⟨by rw [e], rfl⟩
      ·
        refine g_aload_n (q := 39) C dX8_isResponse_38 rfl rfl ?_
        refine g_getfield (v := .ref 136) (q := 42) C fX8_54 dX8_isResponse_39 rfl HM.1 rfl ?_
        refine g_iconst (v := 3) (q := 43) C dX8_isResponse_42 (by decide) rfl ?_
        refine g_ialoadN (x := (M.a 13 3)) (j := 3) (q := 44) C dX8_isResponse_43 rfl (HM.ar (i := 13) (n := 260) (by decide) rfl) (pk_in 3 260 (by decide)) (pk_cl 3) rfl ?_
        refine g_aload_n (q := 45) C dX8_isResponse_44 rfl rfl ?_
        refine g_getfield (v := .ref 127) (q := 48) C fX8_22 dX8_isResponse_45 rfl HM.1 rfl ?_
        refine g_bipush (v := 16) (q := 50) C dX8_isResponse_48 (by decide) rfl ?_
        refine g_iload_n (q := 51) C dX8_isResponse_50 rfl rfl ?_
        refine g_imul (q := 52) C dX8_isResponse_51 rfl ?_
        refine g_bipush (v := 10) (q := 54) C dX8_isResponse_52 (by decide) rfl ?_
        refine g_iadd (q := 55) C dX8_isResponse_54 rfl ?_
        refine g_ialoadN (x := (M.a 4 26)) (j := 26) (q := 56) C dX8_isResponse_55 rfl (HM.ar (i := 4) (n := 772) (by decide) rfl) (pk_in 26 772 (by decide)) (pk_cl 26) rfl ?_
        suffices K56 : gG X 64 [some (.ref 122), some (.int 1), some (.int ((M.a 4 25)))] [.int (if (M.a 13 3) = (M.a 4 26) then 1 else 0 : Int32)] hp 0 0 by
          refine g_icmp_ne (t := 63) (q := 59) C dX8_isResponse_56 (by decide) rfl (fun c_56 => ?_) (fun c_56 => ?_)
          · refine g_iconst (v := 0) (q := 64) C dX8_isResponse_63 (by decide) rfl ?_
            rw [if_neg c_56] at K56
            exact K56
          · refine g_iconst (v := 1) (q := 60) C dX8_isResponse_59 (by decide) rfl ?_
            refine g_goto (q := 64) C dX8_isResponse_60 (by decide) ?_
            rw [if_pos c_56] at K56
            exact K56
        have e : rX8_isResponse_1 M = ((if (M.a 13 3) = (M.a 4 26) then 1 else 0 : Int32)) := ((if_pos c_24).trans ((if_neg c_30).trans (if_neg c_35)))
        exact E.1 _ _ _ _ _ _ _ dX8_isResponse_64 rfl (by split <;> rfl) (Nat.le_of_ble_eq_true rfl) (Nat.le_of_ble_eq_true rfl) ⟨by rw [e], rfl⟩
  ·
    refine g_iconst (v := 0) (q := 28) C dX8_isResponse_27 (by decide) rfl ?_
    have e : rX8_isResponse_1 M = (0) := (if_neg c_24)
    exact E.1 _ _ _ _ _ _ _ dX8_isResponse_28 rfl rfl (Nat.le_of_ble_eq_true rfl) (Nat.le_of_ble_eq_true rfl) ⟨by rw [e], rfl⟩
def rX8_done (M : gMd) : gMd := ((M.put 4 419 2).put 4 426 ((M.a 4 426) + 1))
theorem dX8_done_0 : decode cX8_done 0 = .ok (.aload_n 0, 1) := by decide +kernel
theorem dX8_done_1 : decode cX8_done 1 = .ok (.getfield 22, 3) := by decide +kernel
theorem dX8_done_4 : decode cX8_done 4 = .ok (.sipush 419, 3) := by decide +kernel
theorem dX8_done_7 : decode cX8_done 7 = .ok (.iconst 2, 1) := by decide +kernel
theorem dX8_done_8 : decode cX8_done 8 = .ok (.iastore, 1) := by decide +kernel
theorem dX8_done_9 : decode cX8_done 9 = .ok (.aload_n 0, 1) := by decide +kernel
theorem dX8_done_10 : decode cX8_done 10 = .ok (.getfield 22, 3) := by decide +kernel
theorem dX8_done_13 : decode cX8_done 13 = .ok (.sipush 426, 3) := by decide +kernel
theorem dX8_done_16 : decode cX8_done 16 = .ok (.dup2, 1) := by decide +kernel
theorem dX8_done_17 : decode cX8_done 17 = .ok (.iaload, 1) := by decide +kernel
theorem dX8_done_18 : decode cX8_done 18 = .ok (.iconst 1, 1) := by decide +kernel
theorem dX8_done_19 : decode cX8_done 19 = .ok (.iadd, 1) := by decide +kernel
theorem dX8_done_20 : decode cX8_done 20 = .ok (.iastore, 1) := by decide +kernel
theorem dX8_done_21 : decode cX8_done 21 = .ok (.return_, 1) := by decide +kernel
set_option maxRecDepth 100000 in
set_option maxHeartbeats 4000000 in
theorem c_X8_done_m {hp : List gA} {M : gMd}  (HM : gMod hp M)  : gM yX8_done cX8_done 1 (none) 0 0 [.ref 122] (hp) (0) (0) (fun v h => v = none ∧ (gMod h (rX8_done M) ∧ gFM hp h)) := by
  refine gM_of (ls0 := [some (.ref 122)]) (by decide +kernel) (Nat.le_of_ble_eq_true rfl) rfl fun X C E => ?_
  refine g_aload_n (q := 1) C dX8_done_0 rfl rfl ?_
  refine g_getfield (v := .ref 127) (q := 4) C fX8_22 dX8_done_1 rfl HM.1 rfl ?_
  refine g_sipush (v := 419) (q := 7) C dX8_done_4 (by decide) rfl ?_
  refine g_iconst (v := 2) (q := 8) C dX8_done_7 (by decide) rfl ?_
  refine g_iastoreN (j := 419) (q := 9) C dX8_done_8 rfl (HM.ar (i := 4) (n := 772) (by decide) rfl) (pk_in 419 772 (by decide)) (pk_cl 419) ?_
  refine gMsto (i := 4) (j := 419) (x := 2) HM (by decide) rfl rfl fun h1 HL1 fr1 => ?_
  refine g_aload_n (q := 10) C dX8_done_9 rfl rfl ?_
  refine g_getfield (v := .ref 127) (q := 13) C fX8_22 dX8_done_10 rfl HL1.1 rfl ?_
  refine g_sipush (v := 426) (q := 16) C dX8_done_13 (by decide) rfl ?_
  refine g_dup2 (q := 17) C dX8_done_16 rfl rfl rfl ?_
  refine g_ialoadN (x := (M.a 4 426)) (j := 426) (q := 18) C dX8_done_17 rfl (HL1.ar (i := 4) (n := 772) (by decide) rfl) (pk_in 426 772 (by decide)) (pk_cl 426) (gput_n (by decide)) ?_
  refine g_iconst (v := 1) (q := 19) C dX8_done_18 (by decide) rfl ?_
  refine g_iadd (q := 20) C dX8_done_19 rfl ?_
  refine g_iastoreN (j := 426) (q := 21) C dX8_done_20 rfl (HL1.ar (i := 4) (n := 772) (by decide) rfl) (pk_in 426 772 (by decide)) (pk_cl 426) ?_
  refine gMsto (i := 4) (j := 426) (x := ((M.a 4 426) + 1)) HL1 (by decide) rfl rfl fun h2 HL2 fr2 => ?_
  have e : rX8_done M = ((M.put 4 419 2).put 4 426 ((M.a 4 426) + 1)) := rfl
  exact E.2.1 _ _ _ _ _ dX8_done_21 rfl (Nat.le_of_ble_eq_true rfl) (Nat.le_of_ble_eq_true rfl) ⟨rfl, by rw [e]; exact ⟨HL2, (gFM.trans fr1 fr2)⟩⟩
def rX8_tries (M : gMd) (x : Int32) (y : Int32) : gMd := ((M.set 34 x).set 35 y)
theorem dX8_tries_0 : decode cX8_tries 0 = .ok (.aload_n 0, 1) := by decide +kernel
theorem dX8_tries_1 : decode cX8_tries 1 = .ok (.iload_n 1, 1) := by decide +kernel
theorem dX8_tries_2 : decode cX8_tries 2 = .ok (.putfield 219, 3) := by decide +kernel
theorem dX8_tries_5 : decode cX8_tries 5 = .ok (.aload_n 0, 1) := by decide +kernel
theorem dX8_tries_6 : decode cX8_tries 6 = .ok (.iload_n 2, 1) := by decide +kernel
theorem dX8_tries_7 : decode cX8_tries 7 = .ok (.putfield 222, 3) := by decide +kernel
theorem dX8_tries_10 : decode cX8_tries 10 = .ok (.return_, 1) := by decide +kernel
set_option maxRecDepth 100000 in
set_option maxHeartbeats 4000000 in
theorem c_X8_tries_m {hp : List gA} {M : gMd} {x : Int32} {y : Int32}  (HM : gMod hp M)  : gM yX8_tries cX8_tries 3 (none) 0 0 [.ref 122, .int x, .int y] (hp) (0) (0) (fun v h => v = none ∧ (gMod h (rX8_tries M x y) ∧ gFM hp h)) := by
  refine gM_of (ls0 := [some (.ref 122), some (.int x), some (.int y)]) (by decide +kernel) (Nat.le_of_ble_eq_true rfl) rfl fun X C E => ?_
  refine g_aload_n (q := 1) C dX8_tries_0 rfl rfl ?_
  refine g_iload_n (q := 2) C dX8_tries_1 rfl rfl ?_
  refine g_putfield (q := 5) C fX8_219 dX8_tries_2 rfl HM.1 (Nat.le_of_ble_eq_true rfl) (Or.inl rfl) rfl rfl (by intro z h; cases h) ?_
  refine gMput (j := 34) (x := x) HM rfl fun h1 HL1 fr1 => ?_
  refine g_aload_n (q := 6) C dX8_tries_5 rfl rfl ?_
  refine g_iload_n (q := 7) C dX8_tries_6 rfl rfl ?_
  refine g_putfield (q := 10) C fX8_222 dX8_tries_7 rfl HL1.1 (Nat.le_of_ble_eq_true rfl) (Or.inl rfl) rfl rfl (by intro z h; cases h) ?_
  refine gMput (j := 35) (x := y) HL1 rfl fun h2 HL2 fr2 => ?_
  have e : rX8_tries M x y = ((M.set 34 x).set 35 y) := rfl
  exact E.2.1 _ _ _ _ _ dX8_tries_10 rfl (Nat.le_of_ble_eq_true rfl) (Nat.le_of_ble_eq_true rfl) ⟨rfl, by rw [e]; exact ⟨HL2, (gFM.trans fr1 fr2)⟩⟩
def rX8_starts_1 (M : gMd) : gMd := ((((((M.put 4 419 1).put 4 420 1).put 4 421 0).put 4 422 0).put 4 5 (-1)).put 4 8 0)
theorem dX8_starts_0 : decode cX8_starts 0 = .ok (.aload_n 0, 1) := by decide +kernel
theorem dX8_starts_1 : decode cX8_starts 1 = .ok (.getfield 22, 3) := by decide +kernel
theorem dX8_starts_4 : decode cX8_starts 4 = .ok (.sipush 419, 3) := by decide +kernel
theorem dX8_starts_7 : decode cX8_starts 7 = .ok (.iconst 1, 1) := by decide +kernel
theorem dX8_starts_8 : decode cX8_starts 8 = .ok (.iastore, 1) := by decide +kernel
theorem dX8_starts_9 : decode cX8_starts 9 = .ok (.aload_n 0, 1) := by decide +kernel
theorem dX8_starts_10 : decode cX8_starts 10 = .ok (.getfield 22, 3) := by decide +kernel
theorem dX8_starts_13 : decode cX8_starts 13 = .ok (.sipush 420, 3) := by decide +kernel
theorem dX8_starts_16 : decode cX8_starts 16 = .ok (.iload_n 1, 1) := by decide +kernel
theorem dX8_starts_17 : decode cX8_starts 17 = .ok (.iastore, 1) := by decide +kernel
theorem dX8_starts_18 : decode cX8_starts 18 = .ok (.aload_n 0, 1) := by decide +kernel
theorem dX8_starts_19 : decode cX8_starts 19 = .ok (.getfield 22, 3) := by decide +kernel
theorem dX8_starts_22 : decode cX8_starts 22 = .ok (.sipush 421, 3) := by decide +kernel
theorem dX8_starts_25 : decode cX8_starts 25 = .ok (.iconst 0, 1) := by decide +kernel
theorem dX8_starts_26 : decode cX8_starts 26 = .ok (.iastore, 1) := by decide +kernel
theorem dX8_starts_27 : decode cX8_starts 27 = .ok (.aload_n 0, 1) := by decide +kernel
theorem dX8_starts_28 : decode cX8_starts 28 = .ok (.getfield 22, 3) := by decide +kernel
theorem dX8_starts_31 : decode cX8_starts 31 = .ok (.sipush 422, 3) := by decide +kernel
theorem dX8_starts_34 : decode cX8_starts 34 = .ok (.iconst 0, 1) := by decide +kernel
theorem dX8_starts_35 : decode cX8_starts 35 = .ok (.iastore, 1) := by decide +kernel
theorem dX8_starts_36 : decode cX8_starts 36 = .ok (.aload_n 0, 1) := by decide +kernel
theorem dX8_starts_37 : decode cX8_starts 37 = .ok (.getfield 22, 3) := by decide +kernel
theorem dX8_starts_40 : decode cX8_starts 40 = .ok (.iconst 5, 1) := by decide +kernel
theorem dX8_starts_41 : decode cX8_starts 41 = .ok (.iconst (-1), 1) := by decide +kernel
theorem dX8_starts_42 : decode cX8_starts 42 = .ok (.iastore, 1) := by decide +kernel
theorem dX8_starts_43 : decode cX8_starts 43 = .ok (.aload_n 0, 1) := by decide +kernel
theorem dX8_starts_44 : decode cX8_starts 44 = .ok (.getfield 22, 3) := by decide +kernel
theorem dX8_starts_47 : decode cX8_starts 47 = .ok (.bipush 8, 2) := by decide +kernel
theorem dX8_starts_49 : decode cX8_starts 49 = .ok (.iconst 0, 1) := by decide +kernel
theorem dX8_starts_50 : decode cX8_starts 50 = .ok (.iastore, 1) := by decide +kernel
theorem dX8_starts_51 : decode cX8_starts 51 = .ok (.return_, 1) := by decide +kernel
set_option maxRecDepth 100000 in
set_option maxHeartbeats 4000000 in
theorem c_X8_starts_1_m {hp : List gA} {M : gMd}  (HM : gMod hp M)  : gM yX8_starts cX8_starts 2 (none) 0 0 [.ref 122, .int 1] (hp) (0) (0) (fun v h => v = none ∧ (gMod h (rX8_starts_1 M) ∧ gFM hp h)) := by
  refine gM_of (ls0 := [some (.ref 122), some (.int 1)]) (by decide +kernel) (Nat.le_of_ble_eq_true rfl) rfl fun X C E => ?_
  refine g_aload_n (q := 1) C dX8_starts_0 rfl rfl ?_
  refine g_getfield (v := .ref 127) (q := 4) C fX8_22 dX8_starts_1 rfl HM.1 rfl ?_
  refine g_sipush (v := 419) (q := 7) C dX8_starts_4 (by decide) rfl ?_
  refine g_iconst (v := 1) (q := 8) C dX8_starts_7 (by decide) rfl ?_
  refine g_iastoreN (j := 419) (q := 9) C dX8_starts_8 rfl (HM.ar (i := 4) (n := 772) (by decide) rfl) (pk_in 419 772 (by decide)) (pk_cl 419) ?_
  refine gMsto (i := 4) (j := 419) (x := 1) HM (by decide) rfl rfl fun h1 HL1 fr1 => ?_
  refine g_aload_n (q := 10) C dX8_starts_9 rfl rfl ?_
  refine g_getfield (v := .ref 127) (q := 13) C fX8_22 dX8_starts_10 rfl HL1.1 rfl ?_
  refine g_sipush (v := 420) (q := 16) C dX8_starts_13 (by decide) rfl ?_
  refine g_iload_n (q := 17) C dX8_starts_16 rfl rfl ?_
  refine g_iastoreN (j := 420) (q := 18) C dX8_starts_17 rfl (HL1.ar (i := 4) (n := 772) (by decide) rfl) (pk_in 420 772 (by decide)) (pk_cl 420) ?_
  refine gMsto (i := 4) (j := 420) (x := 1) HL1 (by decide) rfl rfl fun h2 HL2 fr2 => ?_
  refine g_aload_n (q := 19) C dX8_starts_18 rfl rfl ?_
  refine g_getfield (v := .ref 127) (q := 22) C fX8_22 dX8_starts_19 rfl HL2.1 rfl ?_
  refine g_sipush (v := 421) (q := 25) C dX8_starts_22 (by decide) rfl ?_
  refine g_iconst (v := 0) (q := 26) C dX8_starts_25 (by decide) rfl ?_
  refine g_iastoreN (j := 421) (q := 27) C dX8_starts_26 rfl (HL2.ar (i := 4) (n := 772) (by decide) rfl) (pk_in 421 772 (by decide)) (pk_cl 421) ?_
  refine gMsto (i := 4) (j := 421) (x := 0) HL2 (by decide) rfl rfl fun h3 HL3 fr3 => ?_
  refine g_aload_n (q := 28) C dX8_starts_27 rfl rfl ?_
  refine g_getfield (v := .ref 127) (q := 31) C fX8_22 dX8_starts_28 rfl HL3.1 rfl ?_
  refine g_sipush (v := 422) (q := 34) C dX8_starts_31 (by decide) rfl ?_
  refine g_iconst (v := 0) (q := 35) C dX8_starts_34 (by decide) rfl ?_
  refine g_iastoreN (j := 422) (q := 36) C dX8_starts_35 rfl (HL3.ar (i := 4) (n := 772) (by decide) rfl) (pk_in 422 772 (by decide)) (pk_cl 422) ?_
  refine gMsto (i := 4) (j := 422) (x := 0) HL3 (by decide) rfl rfl fun h4 HL4 fr4 => ?_
  refine g_aload_n (q := 37) C dX8_starts_36 rfl rfl ?_
  refine g_getfield (v := .ref 127) (q := 40) C fX8_22 dX8_starts_37 rfl HL4.1 rfl ?_
  refine g_iconst (v := 5) (q := 41) C dX8_starts_40 (by decide) rfl ?_
  refine g_iconst (v := (-1)) (q := 42) C dX8_starts_41 (by decide) rfl ?_
  refine g_iastoreN (j := 5) (q := 43) C dX8_starts_42 rfl (HL4.ar (i := 4) (n := 772) (by decide) rfl) (pk_in 5 772 (by decide)) (pk_cl 5) ?_
  refine gMsto (i := 4) (j := 5) (x := (-1)) HL4 (by decide) rfl rfl fun h5 HL5 fr5 => ?_
  refine g_aload_n (q := 44) C dX8_starts_43 rfl rfl ?_
  refine g_getfield (v := .ref 127) (q := 47) C fX8_22 dX8_starts_44 rfl HL5.1 rfl ?_
  refine g_bipush (v := 8) (q := 49) C dX8_starts_47 (by decide) rfl ?_
  refine g_iconst (v := 0) (q := 50) C dX8_starts_49 (by decide) rfl ?_
  refine g_iastoreN (j := 8) (q := 51) C dX8_starts_50 rfl (HL5.ar (i := 4) (n := 772) (by decide) rfl) (pk_in 8 772 (by decide)) (pk_cl 8) ?_
  refine gMsto (i := 4) (j := 8) (x := 0) HL5 (by decide) rfl rfl fun h6 HL6 fr6 => ?_
  have e : rX8_starts_1 M = ((((((M.put 4 419 1).put 4 420 1).put 4 421 0).put 4 422 0).put 4 5 (-1)).put 4 8 0) := rfl
  exact E.2.1 _ _ _ _ _ dX8_starts_51 rfl (Nat.le_of_ble_eq_true rfl) (Nat.le_of_ble_eq_true rfl) ⟨rfl, by rw [e]; exact ⟨HL6, (gFM.trans (gFM.trans (gFM.trans (gFM.trans (gFM.trans fr1 fr2) fr3) fr4) fr5) fr6)⟩⟩
def rX8_starts_2 (M : gMd) : gMd := ((((((M.put 4 419 1).put 4 420 2).put 4 421 0).put 4 422 0).put 4 5 (-1)).put 4 8 0)
set_option maxRecDepth 100000 in
set_option maxHeartbeats 4000000 in
theorem c_X8_starts_2_m {hp : List gA} {M : gMd}  (HM : gMod hp M)  : gM yX8_starts cX8_starts 2 (none) 0 0 [.ref 122, .int 2] (hp) (0) (0) (fun v h => v = none ∧ (gMod h (rX8_starts_2 M) ∧ gFM hp h)) := by
  refine gM_of (ls0 := [some (.ref 122), some (.int 2)]) (by decide +kernel) (Nat.le_of_ble_eq_true rfl) rfl fun X C E => ?_
  refine g_aload_n (q := 1) C dX8_starts_0 rfl rfl ?_
  refine g_getfield (v := .ref 127) (q := 4) C fX8_22 dX8_starts_1 rfl HM.1 rfl ?_
  refine g_sipush (v := 419) (q := 7) C dX8_starts_4 (by decide) rfl ?_
  refine g_iconst (v := 1) (q := 8) C dX8_starts_7 (by decide) rfl ?_
  refine g_iastoreN (j := 419) (q := 9) C dX8_starts_8 rfl (HM.ar (i := 4) (n := 772) (by decide) rfl) (pk_in 419 772 (by decide)) (pk_cl 419) ?_
  refine gMsto (i := 4) (j := 419) (x := 1) HM (by decide) rfl rfl fun h1 HL1 fr1 => ?_
  refine g_aload_n (q := 10) C dX8_starts_9 rfl rfl ?_
  refine g_getfield (v := .ref 127) (q := 13) C fX8_22 dX8_starts_10 rfl HL1.1 rfl ?_
  refine g_sipush (v := 420) (q := 16) C dX8_starts_13 (by decide) rfl ?_
  refine g_iload_n (q := 17) C dX8_starts_16 rfl rfl ?_
  refine g_iastoreN (j := 420) (q := 18) C dX8_starts_17 rfl (HL1.ar (i := 4) (n := 772) (by decide) rfl) (pk_in 420 772 (by decide)) (pk_cl 420) ?_
  refine gMsto (i := 4) (j := 420) (x := 2) HL1 (by decide) rfl rfl fun h2 HL2 fr2 => ?_
  refine g_aload_n (q := 19) C dX8_starts_18 rfl rfl ?_
  refine g_getfield (v := .ref 127) (q := 22) C fX8_22 dX8_starts_19 rfl HL2.1 rfl ?_
  refine g_sipush (v := 421) (q := 25) C dX8_starts_22 (by decide) rfl ?_
  refine g_iconst (v := 0) (q := 26) C dX8_starts_25 (by decide) rfl ?_
  refine g_iastoreN (j := 421) (q := 27) C dX8_starts_26 rfl (HL2.ar (i := 4) (n := 772) (by decide) rfl) (pk_in 421 772 (by decide)) (pk_cl 421) ?_
  refine gMsto (i := 4) (j := 421) (x := 0) HL2 (by decide) rfl rfl fun h3 HL3 fr3 => ?_
  refine g_aload_n (q := 28) C dX8_starts_27 rfl rfl ?_
  refine g_getfield (v := .ref 127) (q := 31) C fX8_22 dX8_starts_28 rfl HL3.1 rfl ?_
  refine g_sipush (v := 422) (q := 34) C dX8_starts_31 (by decide) rfl ?_
  refine g_iconst (v := 0) (q := 35) C dX8_starts_34 (by decide) rfl ?_
  refine g_iastoreN (j := 422) (q := 36) C dX8_starts_35 rfl (HL3.ar (i := 4) (n := 772) (by decide) rfl) (pk_in 422 772 (by decide)) (pk_cl 422) ?_
  refine gMsto (i := 4) (j := 422) (x := 0) HL3 (by decide) rfl rfl fun h4 HL4 fr4 => ?_
  refine g_aload_n (q := 37) C dX8_starts_36 rfl rfl ?_
  refine g_getfield (v := .ref 127) (q := 40) C fX8_22 dX8_starts_37 rfl HL4.1 rfl ?_
  refine g_iconst (v := 5) (q := 41) C dX8_starts_40 (by decide) rfl ?_
  refine g_iconst (v := (-1)) (q := 42) C dX8_starts_41 (by decide) rfl ?_
  refine g_iastoreN (j := 5) (q := 43) C dX8_starts_42 rfl (HL4.ar (i := 4) (n := 772) (by decide) rfl) (pk_in 5 772 (by decide)) (pk_cl 5) ?_
  refine gMsto (i := 4) (j := 5) (x := (-1)) HL4 (by decide) rfl rfl fun h5 HL5 fr5 => ?_
  refine g_aload_n (q := 44) C dX8_starts_43 rfl rfl ?_
  refine g_getfield (v := .ref 127) (q := 47) C fX8_22 dX8_starts_44 rfl HL5.1 rfl ?_
  refine g_bipush (v := 8) (q := 49) C dX8_starts_47 (by decide) rfl ?_
  refine g_iconst (v := 0) (q := 50) C dX8_starts_49 (by decide) rfl ?_
  refine g_iastoreN (j := 8) (q := 51) C dX8_starts_50 rfl (HL5.ar (i := 4) (n := 772) (by decide) rfl) (pk_in 8 772 (by decide)) (pk_cl 8) ?_
  refine gMsto (i := 4) (j := 8) (x := 0) HL5 (by decide) rfl rfl fun h6 HL6 fr6 => ?_
  have e : rX8_starts_2 M = ((((((M.put 4 419 1).put 4 420 2).put 4 421 0).put 4 422 0).put 4 5 (-1)).put 4 8 0) := rfl
  exact E.2.1 _ _ _ _ _ dX8_starts_51 rfl (Nat.le_of_ble_eq_true rfl) (Nat.le_of_ble_eq_true rfl) ⟨rfl, by rw [e]; exact ⟨HL6, (gFM.trans (gFM.trans (gFM.trans (gFM.trans (gFM.trans fr1 fr2) fr3) fr4) fr5) fr6)⟩⟩
def rX8_gotByte_0_0 (M : gMd) : Int32 := (if (M.a 4 30) ≤ 0 then 0 else (M.a 4 352))
theorem dX8_gotByte_0 : decode cX8_gotByte 0 = .ok (.iload_n 1, 1) := by decide +kernel
theorem dX8_gotByte_1 : decode cX8_gotByte 1 = .ok (.aload_n 0, 1) := by decide +kernel
theorem dX8_gotByte_2 : decode cX8_gotByte 2 = .ok (.getfield 22, 3) := by decide +kernel
theorem dX8_gotByte_5 : decode cX8_gotByte 5 = .ok (.bipush 30, 2) := by decide +kernel
theorem dX8_gotByte_7 : decode cX8_gotByte 7 = .ok (.iaload, 1) := by decide +kernel
theorem dX8_gotByte_8 : decode cX8_gotByte 8 = .ok (.if_icmp .ge 16, 3) := by decide +kernel
theorem dX8_gotByte_11 : decode cX8_gotByte 11 = .ok (.aload_n 0, 1) := by decide +kernel
theorem dX8_gotByte_12 : decode cX8_gotByte 12 = .ok (.getfield 22, 3) := by decide +kernel
theorem dX8_gotByte_15 : decode cX8_gotByte 15 = .ok (.sipush 352, 3) := by decide +kernel
theorem dX8_gotByte_18 : decode cX8_gotByte 18 = .ok (.iload_n 1, 1) := by decide +kernel
theorem dX8_gotByte_19 : decode cX8_gotByte 19 = .ok (.iadd, 1) := by decide +kernel
theorem dX8_gotByte_20 : decode cX8_gotByte 20 = .ok (.iaload, 1) := by decide +kernel
theorem dX8_gotByte_21 : decode cX8_gotByte 21 = .ok (.goto 4, 3) := by decide +kernel
theorem dX8_gotByte_24 : decode cX8_gotByte 24 = .ok (.iload_n 2, 1) := by decide +kernel
theorem dX8_gotByte_25 : decode cX8_gotByte 25 = .ok (.ireturn, 1) := by decide +kernel
set_option maxRecDepth 100000 in
set_option maxHeartbeats 4000000 in
theorem c_X8_gotByte_0_0_m {hp : List gA} {M : gMd}  (HM : gMod hp M)  : gM yX8_gotByte cX8_gotByte 3 ((some .int)) 0 0 [.ref 122, .int 0, .int 0] (hp) (0) (0) (fun v h => v = some (.int (rX8_gotByte_0_0 M)) ∧ h = hp) := by
  refine gM_of (ls0 := [some (.ref 122), some (.int 0), some (.int 0)]) (by decide +kernel) (Nat.le_of_ble_eq_true rfl) rfl fun X C E => ?_
  refine g_iload_n (q := 1) C dX8_gotByte_0 rfl rfl ?_
  refine g_aload_n (q := 2) C dX8_gotByte_1 rfl rfl ?_
  refine g_getfield (v := .ref 127) (q := 5) C fX8_22 dX8_gotByte_2 rfl HM.1 rfl ?_
  refine g_bipush (v := 30) (q := 7) C dX8_gotByte_5 (by decide) rfl ?_
  refine g_ialoadN (x := (M.a 4 30)) (j := 30) (q := 8) C dX8_gotByte_7 rfl (HM.ar (i := 4) (n := 772) (by decide) rfl) (pk_in 30 772 (by decide)) (pk_cl 30) rfl ?_
  refine g_icmp_ge (t := 24) (q := 11) C dX8_gotByte_8 (by decide) rfl (fun c_8 => ?_) (fun c_8 => ?_)
  ·
    refine g_iload_n (q := 25) C dX8_gotByte_24 rfl rfl ?_
    have e : rX8_gotByte_0_0 M = (0) := (if_pos c_8)
    exact E.1 _ _ _ _ _ _ _ dX8_gotByte_25 rfl rfl (Nat.le_of_ble_eq_true rfl) (Nat.le_of_ble_eq_true rfl) ⟨by rw [e], rfl⟩
  ·
    refine g_aload_n (q := 12) C dX8_gotByte_11 rfl rfl ?_
    refine g_getfield (v := .ref 127) (q := 15) C fX8_22 dX8_gotByte_12 rfl HM.1 rfl ?_
    refine g_sipush (v := 352) (q := 18) C dX8_gotByte_15 (by decide) rfl ?_
    refine g_iload_n (q := 19) C dX8_gotByte_18 rfl rfl ?_
    refine g_iadd (q := 20) C dX8_gotByte_19 rfl ?_
    refine g_ialoadN (x := (M.a 4 352)) (j := 352) (q := 21) C dX8_gotByte_20 rfl (HM.ar (i := 4) (n := 772) (by decide) rfl) (pk_in 352 772 (by decide)) (pk_cl 352) rfl ?_
    refine g_goto (q := 25) C dX8_gotByte_21 (by decide) ?_
    have e : rX8_gotByte_0_0 M = ((M.a 4 352)) := (if_neg c_8)
    exact E.1 _ _ _ _ _ _ _ dX8_gotByte_25 rfl rfl (Nat.le_of_ble_eq_true rfl) (Nat.le_of_ble_eq_true rfl) ⟨by rw [e], rfl⟩
def rX8_gotByte_1_0 (M : gMd) : Int32 := (if (M.a 4 30) ≤ 1 then 0 else (M.a 4 353))
set_option maxRecDepth 100000 in
set_option maxHeartbeats 4000000 in
theorem c_X8_gotByte_1_0_m {hp : List gA} {M : gMd}  (HM : gMod hp M)  : gM yX8_gotByte cX8_gotByte 3 ((some .int)) 0 0 [.ref 122, .int 1, .int 0] (hp) (0) (0) (fun v h => v = some (.int (rX8_gotByte_1_0 M)) ∧ h = hp) := by
  refine gM_of (ls0 := [some (.ref 122), some (.int 1), some (.int 0)]) (by decide +kernel) (Nat.le_of_ble_eq_true rfl) rfl fun X C E => ?_
  refine g_iload_n (q := 1) C dX8_gotByte_0 rfl rfl ?_
  refine g_aload_n (q := 2) C dX8_gotByte_1 rfl rfl ?_
  refine g_getfield (v := .ref 127) (q := 5) C fX8_22 dX8_gotByte_2 rfl HM.1 rfl ?_
  refine g_bipush (v := 30) (q := 7) C dX8_gotByte_5 (by decide) rfl ?_
  refine g_ialoadN (x := (M.a 4 30)) (j := 30) (q := 8) C dX8_gotByte_7 rfl (HM.ar (i := 4) (n := 772) (by decide) rfl) (pk_in 30 772 (by decide)) (pk_cl 30) rfl ?_
  refine g_icmp_ge (t := 24) (q := 11) C dX8_gotByte_8 (by decide) rfl (fun c_8 => ?_) (fun c_8 => ?_)
  ·
    refine g_iload_n (q := 25) C dX8_gotByte_24 rfl rfl ?_
    have e : rX8_gotByte_1_0 M = (0) := (if_pos c_8)
    exact E.1 _ _ _ _ _ _ _ dX8_gotByte_25 rfl rfl (Nat.le_of_ble_eq_true rfl) (Nat.le_of_ble_eq_true rfl) ⟨by rw [e], rfl⟩
  ·
    refine g_aload_n (q := 12) C dX8_gotByte_11 rfl rfl ?_
    refine g_getfield (v := .ref 127) (q := 15) C fX8_22 dX8_gotByte_12 rfl HM.1 rfl ?_
    refine g_sipush (v := 352) (q := 18) C dX8_gotByte_15 (by decide) rfl ?_
    refine g_iload_n (q := 19) C dX8_gotByte_18 rfl rfl ?_
    refine g_iadd (q := 20) C dX8_gotByte_19 rfl ?_
    refine g_ialoadN (x := (M.a 4 353)) (j := 353) (q := 21) C dX8_gotByte_20 rfl (HM.ar (i := 4) (n := 772) (by decide) rfl) (pk_in 353 772 (by decide)) (pk_cl 353) rfl ?_
    refine g_goto (q := 25) C dX8_gotByte_21 (by decide) ?_
    have e : rX8_gotByte_1_0 M = ((M.a 4 353)) := (if_neg c_8)
    exact E.1 _ _ _ _ _ _ _ dX8_gotByte_25 rfl rfl (Nat.le_of_ble_eq_true rfl) (Nat.le_of_ble_eq_true rfl) ⟨by rw [e], rfl⟩
def rX8_gotByte_2_1 (M : gMd) : Int32 := (if (M.a 4 30) ≤ 2 then 1 else (M.a 4 354))
set_option maxRecDepth 100000 in
set_option maxHeartbeats 4000000 in
theorem c_X8_gotByte_2_1_m {hp : List gA} {M : gMd}  (HM : gMod hp M)  : gM yX8_gotByte cX8_gotByte 3 ((some .int)) 0 0 [.ref 122, .int 2, .int 1] (hp) (0) (0) (fun v h => v = some (.int (rX8_gotByte_2_1 M)) ∧ h = hp) := by
  refine gM_of (ls0 := [some (.ref 122), some (.int 2), some (.int 1)]) (by decide +kernel) (Nat.le_of_ble_eq_true rfl) rfl fun X C E => ?_
  refine g_iload_n (q := 1) C dX8_gotByte_0 rfl rfl ?_
  refine g_aload_n (q := 2) C dX8_gotByte_1 rfl rfl ?_
  refine g_getfield (v := .ref 127) (q := 5) C fX8_22 dX8_gotByte_2 rfl HM.1 rfl ?_
  refine g_bipush (v := 30) (q := 7) C dX8_gotByte_5 (by decide) rfl ?_
  refine g_ialoadN (x := (M.a 4 30)) (j := 30) (q := 8) C dX8_gotByte_7 rfl (HM.ar (i := 4) (n := 772) (by decide) rfl) (pk_in 30 772 (by decide)) (pk_cl 30) rfl ?_
  refine g_icmp_ge (t := 24) (q := 11) C dX8_gotByte_8 (by decide) rfl (fun c_8 => ?_) (fun c_8 => ?_)
  ·
    refine g_iload_n (q := 25) C dX8_gotByte_24 rfl rfl ?_
    have e : rX8_gotByte_2_1 M = (1) := (if_pos c_8)
    exact E.1 _ _ _ _ _ _ _ dX8_gotByte_25 rfl rfl (Nat.le_of_ble_eq_true rfl) (Nat.le_of_ble_eq_true rfl) ⟨by rw [e], rfl⟩
  ·
    refine g_aload_n (q := 12) C dX8_gotByte_11 rfl rfl ?_
    refine g_getfield (v := .ref 127) (q := 15) C fX8_22 dX8_gotByte_12 rfl HM.1 rfl ?_
    refine g_sipush (v := 352) (q := 18) C dX8_gotByte_15 (by decide) rfl ?_
    refine g_iload_n (q := 19) C dX8_gotByte_18 rfl rfl ?_
    refine g_iadd (q := 20) C dX8_gotByte_19 rfl ?_
    refine g_ialoadN (x := (M.a 4 354)) (j := 354) (q := 21) C dX8_gotByte_20 rfl (HM.ar (i := 4) (n := 772) (by decide) rfl) (pk_in 354 772 (by decide)) (pk_cl 354) rfl ?_
    refine g_goto (q := 25) C dX8_gotByte_21 (by decide) ?_
    have e : rX8_gotByte_2_1 M = ((M.a 4 354)) := (if_neg c_8)
    exact E.1 _ _ _ _ _ _ _ dX8_gotByte_25 rfl rfl (Nat.le_of_ble_eq_true rfl) (Nat.le_of_ble_eq_true rfl) ⟨by rw [e], rfl⟩
def rX8_gotByte_1_1 (M : gMd) : Int32 := (if (M.a 4 30) ≤ 1 then 1 else (M.a 4 353))
set_option maxRecDepth 100000 in
set_option maxHeartbeats 4000000 in
theorem c_X8_gotByte_1_1_m {hp : List gA} {M : gMd}  (HM : gMod hp M)  : gM yX8_gotByte cX8_gotByte 3 ((some .int)) 0 0 [.ref 122, .int 1, .int 1] (hp) (0) (0) (fun v h => v = some (.int (rX8_gotByte_1_1 M)) ∧ h = hp) := by
  refine gM_of (ls0 := [some (.ref 122), some (.int 1), some (.int 1)]) (by decide +kernel) (Nat.le_of_ble_eq_true rfl) rfl fun X C E => ?_
  refine g_iload_n (q := 1) C dX8_gotByte_0 rfl rfl ?_
  refine g_aload_n (q := 2) C dX8_gotByte_1 rfl rfl ?_
  refine g_getfield (v := .ref 127) (q := 5) C fX8_22 dX8_gotByte_2 rfl HM.1 rfl ?_
  refine g_bipush (v := 30) (q := 7) C dX8_gotByte_5 (by decide) rfl ?_
  refine g_ialoadN (x := (M.a 4 30)) (j := 30) (q := 8) C dX8_gotByte_7 rfl (HM.ar (i := 4) (n := 772) (by decide) rfl) (pk_in 30 772 (by decide)) (pk_cl 30) rfl ?_
  refine g_icmp_ge (t := 24) (q := 11) C dX8_gotByte_8 (by decide) rfl (fun c_8 => ?_) (fun c_8 => ?_)
  ·
    refine g_iload_n (q := 25) C dX8_gotByte_24 rfl rfl ?_
    have e : rX8_gotByte_1_1 M = (1) := (if_pos c_8)
    exact E.1 _ _ _ _ _ _ _ dX8_gotByte_25 rfl rfl (Nat.le_of_ble_eq_true rfl) (Nat.le_of_ble_eq_true rfl) ⟨by rw [e], rfl⟩
  ·
    refine g_aload_n (q := 12) C dX8_gotByte_11 rfl rfl ?_
    refine g_getfield (v := .ref 127) (q := 15) C fX8_22 dX8_gotByte_12 rfl HM.1 rfl ?_
    refine g_sipush (v := 352) (q := 18) C dX8_gotByte_15 (by decide) rfl ?_
    refine g_iload_n (q := 19) C dX8_gotByte_18 rfl rfl ?_
    refine g_iadd (q := 20) C dX8_gotByte_19 rfl ?_
    refine g_ialoadN (x := (M.a 4 353)) (j := 353) (q := 21) C dX8_gotByte_20 rfl (HM.ar (i := 4) (n := 772) (by decide) rfl) (pk_in 353 772 (by decide)) (pk_cl 353) rfl ?_
    refine g_goto (q := 25) C dX8_gotByte_21 (by decide) ?_
    have e : rX8_gotByte_1_1 M = ((M.a 4 353)) := (if_neg c_8)
    exact E.1 _ _ _ _ _ _ _ dX8_gotByte_25 rfl rfl (Nat.le_of_ble_eq_true rfl) (Nat.le_of_ble_eq_true rfl) ⟨by rw [e], rfl⟩
def rX8_gotByte_1_32 (M : gMd) : Int32 := (if (M.a 4 30) ≤ 1 then 32 else (M.a 4 353))
set_option maxRecDepth 100000 in
set_option maxHeartbeats 4000000 in
theorem c_X8_gotByte_1_32_m {hp : List gA} {M : gMd}  (HM : gMod hp M)  : gM yX8_gotByte cX8_gotByte 3 ((some .int)) 0 0 [.ref 122, .int 1, .int 32] (hp) (0) (0) (fun v h => v = some (.int (rX8_gotByte_1_32 M)) ∧ h = hp) := by
  refine gM_of (ls0 := [some (.ref 122), some (.int 1), some (.int 32)]) (by decide +kernel) (Nat.le_of_ble_eq_true rfl) rfl fun X C E => ?_
  refine g_iload_n (q := 1) C dX8_gotByte_0 rfl rfl ?_
  refine g_aload_n (q := 2) C dX8_gotByte_1 rfl rfl ?_
  refine g_getfield (v := .ref 127) (q := 5) C fX8_22 dX8_gotByte_2 rfl HM.1 rfl ?_
  refine g_bipush (v := 30) (q := 7) C dX8_gotByte_5 (by decide) rfl ?_
  refine g_ialoadN (x := (M.a 4 30)) (j := 30) (q := 8) C dX8_gotByte_7 rfl (HM.ar (i := 4) (n := 772) (by decide) rfl) (pk_in 30 772 (by decide)) (pk_cl 30) rfl ?_
  refine g_icmp_ge (t := 24) (q := 11) C dX8_gotByte_8 (by decide) rfl (fun c_8 => ?_) (fun c_8 => ?_)
  ·
    refine g_iload_n (q := 25) C dX8_gotByte_24 rfl rfl ?_
    have e : rX8_gotByte_1_32 M = (32) := (if_pos c_8)
    exact E.1 _ _ _ _ _ _ _ dX8_gotByte_25 rfl rfl (Nat.le_of_ble_eq_true rfl) (Nat.le_of_ble_eq_true rfl) ⟨by rw [e], rfl⟩
  ·
    refine g_aload_n (q := 12) C dX8_gotByte_11 rfl rfl ?_
    refine g_getfield (v := .ref 127) (q := 15) C fX8_22 dX8_gotByte_12 rfl HM.1 rfl ?_
    refine g_sipush (v := 352) (q := 18) C dX8_gotByte_15 (by decide) rfl ?_
    refine g_iload_n (q := 19) C dX8_gotByte_18 rfl rfl ?_
    refine g_iadd (q := 20) C dX8_gotByte_19 rfl ?_
    refine g_ialoadN (x := (M.a 4 353)) (j := 353) (q := 21) C dX8_gotByte_20 rfl (HM.ar (i := 4) (n := 772) (by decide) rfl) (pk_in 353 772 (by decide)) (pk_cl 353) rfl ?_
    refine g_goto (q := 25) C dX8_gotByte_21 (by decide) ?_
    have e : rX8_gotByte_1_32 M = ((M.a 4 353)) := (if_neg c_8)
    exact E.1 _ _ _ _ _ _ _ dX8_gotByte_25 rfl rfl (Nat.le_of_ble_eq_true rfl) (Nat.le_of_ble_eq_true rfl) ⟨by rw [e], rfl⟩
def rX8_readerAnswered (M : gMd) : gMd := (if (M.a 4 9) = 1 then (rX8_done (M.put 4 9 (-1))) else (((rX8_resynchs_0 (M.put 4 9 (-1))).put 4 419 3).put 4 427 (((rX8_resynchs_0 (M.put 4 9 (-1))).a 4 427) + 1)))
theorem dX8_readerAnswered_0 : decode cX8_readerAnswered 0 = .ok (.aload_n 0, 1) := by decide +kernel
theorem dX8_readerAnswered_1 : decode cX8_readerAnswered 1 = .ok (.getfield 22, 3) := by decide +kernel
theorem dX8_readerAnswered_4 : decode cX8_readerAnswered 4 = .ok (.bipush 9, 2) := by decide +kernel
theorem dX8_readerAnswered_6 : decode cX8_readerAnswered 6 = .ok (.iaload, 1) := by decide +kernel
theorem dX8_readerAnswered_7 : decode cX8_readerAnswered 7 = .ok (.istore_n 1, 1) := by decide +kernel
theorem dX8_readerAnswered_8 : decode cX8_readerAnswered 8 = .ok (.aload_n 0, 1) := by decide +kernel
theorem dX8_readerAnswered_9 : decode cX8_readerAnswered 9 = .ok (.getfield 22, 3) := by decide +kernel
theorem dX8_readerAnswered_12 : decode cX8_readerAnswered 12 = .ok (.bipush 9, 2) := by decide +kernel
theorem dX8_readerAnswered_14 : decode cX8_readerAnswered 14 = .ok (.iconst (-1), 1) := by decide +kernel
theorem dX8_readerAnswered_15 : decode cX8_readerAnswered 15 = .ok (.iastore, 1) := by decide +kernel
theorem dX8_readerAnswered_16 : decode cX8_readerAnswered 16 = .ok (.iload_n 1, 1) := by decide +kernel
theorem dX8_readerAnswered_17 : decode cX8_readerAnswered 17 = .ok (.iconst 1, 1) := by decide +kernel
theorem dX8_readerAnswered_18 : decode cX8_readerAnswered 18 = .ok (.if_icmp .ne 8, 3) := by decide +kernel
theorem dX8_readerAnswered_21 : decode cX8_readerAnswered 21 = .ok (.aload_n 0, 1) := by decide +kernel
theorem dX8_readerAnswered_22 : decode cX8_readerAnswered 22 = .ok (.invokevirtual 243, 3) := by decide +kernel
theorem dX8_readerAnswered_25 : decode cX8_readerAnswered 25 = .ok (.return_, 1) := by decide +kernel
theorem dX8_readerAnswered_26 : decode cX8_readerAnswered 26 = .ok (.aload_n 0, 1) := by decide +kernel
theorem dX8_readerAnswered_27 : decode cX8_readerAnswered 27 = .ok (.iconst 0, 1) := by decide +kernel
theorem dX8_readerAnswered_28 : decode cX8_readerAnswered 28 = .ok (.invokevirtual 255, 3) := by decide +kernel
theorem dX8_readerAnswered_31 : decode cX8_readerAnswered 31 = .ok (.aload_n 0, 1) := by decide +kernel
theorem dX8_readerAnswered_32 : decode cX8_readerAnswered 32 = .ok (.getfield 22, 3) := by decide +kernel
theorem dX8_readerAnswered_35 : decode cX8_readerAnswered 35 = .ok (.sipush 419, 3) := by decide +kernel
theorem dX8_readerAnswered_38 : decode cX8_readerAnswered 38 = .ok (.iconst 3, 1) := by decide +kernel
theorem dX8_readerAnswered_39 : decode cX8_readerAnswered 39 = .ok (.iastore, 1) := by decide +kernel
theorem dX8_readerAnswered_40 : decode cX8_readerAnswered 40 = .ok (.aload_n 0, 1) := by decide +kernel
theorem dX8_readerAnswered_41 : decode cX8_readerAnswered 41 = .ok (.getfield 22, 3) := by decide +kernel
theorem dX8_readerAnswered_44 : decode cX8_readerAnswered 44 = .ok (.sipush 427, 3) := by decide +kernel
theorem dX8_readerAnswered_47 : decode cX8_readerAnswered 47 = .ok (.dup2, 1) := by decide +kernel
theorem dX8_readerAnswered_48 : decode cX8_readerAnswered 48 = .ok (.iaload, 1) := by decide +kernel
theorem dX8_readerAnswered_49 : decode cX8_readerAnswered 49 = .ok (.iconst 1, 1) := by decide +kernel
theorem dX8_readerAnswered_50 : decode cX8_readerAnswered 50 = .ok (.iadd, 1) := by decide +kernel
theorem dX8_readerAnswered_51 : decode cX8_readerAnswered 51 = .ok (.iastore, 1) := by decide +kernel
theorem dX8_readerAnswered_52 : decode cX8_readerAnswered 52 = .ok (.return_, 1) := by decide +kernel
set_option maxRecDepth 100000 in
set_option maxHeartbeats 4000000 in
theorem c_X8_readerAnswered_m {hp : List gA} {M : gMd}  (HM : gMod hp M)  : gM yX8_readerAnswered cX8_readerAnswered 2 (none) 2 43 [.ref 122] (hp) (0) (0) (fun v h => v = none ∧ (gMod h (rX8_readerAnswered M) ∧ gFM hp h)) := by
  refine gM_of (ls0 := [some (.ref 122), none]) (by decide +kernel) (Nat.le_of_ble_eq_true rfl) rfl fun X C E => ?_
  refine g_aload_n (q := 1) C dX8_readerAnswered_0 rfl rfl ?_
  refine g_getfield (v := .ref 127) (q := 4) C fX8_22 dX8_readerAnswered_1 rfl HM.1 rfl ?_
  refine g_bipush (v := 9) (q := 6) C dX8_readerAnswered_4 (by decide) rfl ?_
  refine g_ialoadN (x := (M.a 4 9)) (j := 9) (q := 7) C dX8_readerAnswered_6 rfl (HM.ar (i := 4) (n := 772) (by decide) rfl) (pk_in 9 772 (by decide)) (pk_cl 9) rfl ?_
  refine g_istore_n (q := 8) C dX8_readerAnswered_7 (Nat.le_of_ble_eq_true rfl) (by simp only [gset]; rfl) rfl ?_
  refine g_aload_n (q := 9) C dX8_readerAnswered_8 rfl rfl ?_
  refine g_getfield (v := .ref 127) (q := 12) C fX8_22 dX8_readerAnswered_9 rfl HM.1 rfl ?_
  refine g_bipush (v := 9) (q := 14) C dX8_readerAnswered_12 (by decide) rfl ?_
  refine g_iconst (v := (-1)) (q := 15) C dX8_readerAnswered_14 (by decide) rfl ?_
  refine g_iastoreN (j := 9) (q := 16) C dX8_readerAnswered_15 rfl (HM.ar (i := 4) (n := 772) (by decide) rfl) (pk_in 9 772 (by decide)) (pk_cl 9) ?_
  refine gMsto (i := 4) (j := 9) (x := (-1)) HM (by decide) rfl rfl fun h1 HL1 fr1 => ?_
  refine g_iload_n (q := 17) C dX8_readerAnswered_16 rfl rfl ?_
  refine g_iconst (v := 1) (q := 18) C dX8_readerAnswered_17 (by decide) rfl ?_
  refine g_icmp_ne (t := 26) (q := 21) C dX8_readerAnswered_18 (by decide) rfl (fun c_18 => ?_) (fun c_18 => ?_)
  ·
    refine g_aload_n (q := 27) C dX8_readerAnswered_26 rfl rfl ?_
    refine g_iconst (v := 0) (q := 28) C dX8_readerAnswered_27 (by decide) rfl ?_
    refine g_callVvp (q := 31) (As := [.int 0]) C gyX8_resynchs gvX8_resynchs t_1372 (c_X8_resynchs_0_m HL1) dX8_readerAnswered_28 rfl HL1.1 rfl rfl rfl (Nat.le_of_ble_eq_true rfl) (Nat.le_of_ble_eq_true rfl) (Nat.le_of_ble_eq_true rfl) (Nat.le_of_ble_eq_true rfl) (Nat.le_of_ble_eq_true rfl) rfl (fun h2 z2 => ?_)
    obtain ⟨HL2, fr2⟩ := z2
    refine g_aload_n (q := 32) C dX8_readerAnswered_31 rfl rfl ?_
    refine g_getfield (v := .ref 127) (q := 35) C fX8_22 dX8_readerAnswered_32 rfl HL2.1 rfl ?_
    refine g_sipush (v := 419) (q := 38) C dX8_readerAnswered_35 (by decide) rfl ?_
    refine g_iconst (v := 3) (q := 39) C dX8_readerAnswered_38 (by decide) rfl ?_
    refine g_iastoreN (j := 419) (q := 40) C dX8_readerAnswered_39 rfl (HL2.ar (i := 4) (n := 772) (by decide) rfl) (pk_in 419 772 (by decide)) (pk_cl 419) ?_
    refine gMsto (i := 4) (j := 419) (x := 3) HL2 (by decide) rfl rfl fun h3 HL3 fr3 => ?_
    refine g_aload_n (q := 41) C dX8_readerAnswered_40 rfl rfl ?_
    refine g_getfield (v := .ref 127) (q := 44) C fX8_22 dX8_readerAnswered_41 rfl HL3.1 rfl ?_
    refine g_sipush (v := 427) (q := 47) C dX8_readerAnswered_44 (by decide) rfl ?_
    refine g_dup2 (q := 48) C dX8_readerAnswered_47 rfl rfl rfl ?_
    refine g_ialoadN (x := ((rX8_resynchs_0 (M.put 4 9 (-1))).a 4 427)) (j := 427) (q := 49) C dX8_readerAnswered_48 rfl (HL3.ar (i := 4) (n := 772) (by decide) rfl) (pk_in 427 772 (by decide)) (pk_cl 427) (gput_n (by decide)) ?_
    refine g_iconst (v := 1) (q := 50) C dX8_readerAnswered_49 (by decide) rfl ?_
    refine g_iadd (q := 51) C dX8_readerAnswered_50 rfl ?_
    refine g_iastoreN (j := 427) (q := 52) C dX8_readerAnswered_51 rfl (HL3.ar (i := 4) (n := 772) (by decide) rfl) (pk_in 427 772 (by decide)) (pk_cl 427) ?_
    refine gMsto (i := 4) (j := 427) (x := (((rX8_resynchs_0 (M.put 4 9 (-1))).a 4 427) + 1)) HL3 (by decide) rfl rfl fun h4 HL4 fr4 => ?_
    have e : rX8_readerAnswered M = (((rX8_resynchs_0 (M.put 4 9 (-1))).put 4 419 3).put 4 427 (((rX8_resynchs_0 (M.put 4 9 (-1))).a 4 427) + 1)) := (if_neg c_18)
    exact E.2.1 _ _ _ _ _ dX8_readerAnswered_52 rfl (Nat.le_of_ble_eq_true rfl) (Nat.le_of_ble_eq_true rfl) ⟨rfl, by rw [e]; exact ⟨HL4, (gFM.trans (gFM.trans (gFM.trans fr1 fr2) fr3) fr4)⟩⟩
  ·
    refine g_aload_n (q := 22) C dX8_readerAnswered_21 rfl rfl ?_
    refine g_callVvp (q := 25) (As := []) C gyX8_done gvX8_done t_1368 (c_X8_done_m HL1) dX8_readerAnswered_22 rfl HL1.1 rfl rfl rfl (Nat.le_of_ble_eq_true rfl) (Nat.le_of_ble_eq_true rfl) (Nat.le_of_ble_eq_true rfl) (Nat.le_of_ble_eq_true rfl) (Nat.le_of_ble_eq_true rfl) rfl (fun h5 z5 => ?_)
    obtain ⟨HL5, fr5⟩ := z5
    have e : rX8_readerAnswered M = (rX8_done (M.put 4 9 (-1))) := (if_pos c_18)
    exact E.2.1 _ _ _ _ _ dX8_readerAnswered_25 rfl (Nat.le_of_ble_eq_true rfl) (Nat.le_of_ble_eq_true rfl) ⟨rfl, by rw [e]; exact ⟨HL5, (gFM.trans fr1 fr5)⟩⟩
