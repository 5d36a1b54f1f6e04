/-! the reference's calls on a new object, its cells from place 122 on (by program: wip/p1/m_model2.py) -/
def gwit (a b c : Int32) : Int32 := if a < b then 0 else if c < a then 0 else 1
theorem gwit0 {a b c : Int32} : gwit a b c = 0 ↔ (a < b ∨ c < a) := by
  unfold gwit
  by_cases h1 : a < b
  · simp [h1]
  · by_cases h2 : c < a
    · simp [h1, h2]
    · simp [h1, h2]
theorem gwm1 (a : Int32) : gwit a 0 (0 - 1) = 0 := by
  rw [gwit0]
  simp only [Int32.lt_iff_toInt_lt]
  have e1 : (0 : Int32).toInt = 0 := by decide
  have e2 : (0 - 1 : Int32).toInt = -1 := by decide
  rw [e1, e2]; omega
theorem dX8_within_0 : decode cX8_within 0 = .ok (.iload_n 0, 1) := by decide +kernel
theorem dX8_within_1 : decode cX8_within 1 = .ok (.iload_n 1, 1) := by decide +kernel
theorem dX8_within_2 : decode cX8_within 2 = .ok (.if_icmp .lt 12, 3) := by decide +kernel
theorem dX8_within_5 : decode cX8_within 5 = .ok (.iload_n 0, 1) := by decide +kernel
theorem dX8_within_6 : decode cX8_within 6 = .ok (.iload_n 2, 1) := by decide +kernel
theorem dX8_within_7 : decode cX8_within 7 = .ok (.if_icmp .gt 7, 3) := by decide +kernel
theorem dX8_within_10 : decode cX8_within 10 = .ok (.iconst 1, 1) := by decide +kernel
theorem dX8_within_11 : decode cX8_within 11 = .ok (.goto 4, 3) := by decide +kernel
theorem dX8_within_14 : decode cX8_within 14 = .ok (.iconst 0, 1) := by decide +kernel
theorem dX8_within_15 : decode cX8_within 15 = .ok (.ireturn, 1) := by decide +kernel
set_option maxRecDepth 100000 in
set_option maxHeartbeats 4000000 in
theorem c_X8_within {hp : List gA} {a b c : Int32}  : gM yX8_within cX8_within 3 ((some .boolean)) 0 0 [.int a, .int b, .int c] (hp) (0) (0) (fun v h => v = some (.int (gwit a b c)) ∧ h = hp) := by
  refine gM_of (ls0 := [some (.int a), some (.int b), some (.int c)]) (by decide +kernel) (Nat.le_of_ble_eq_true rfl) rfl fun X C E => ?_
  refine g_iload_n (q := 1) C dX8_within_0 rfl rfl ?_
  refine g_iload_n (q := 2) C dX8_within_1 rfl rfl ?_
  refine g_icmp_lt (t := 14) (q := 5) C dX8_within_2 (by decide) rfl (fun c_2 => ?_) (fun c_2 => ?_)
  · -- to 14
    refine g_iconst (v := 0) (q := 15) C dX8_within_14 (by decide) rfl ?_
    exact E.1 _ _ _ _ _ _ _ dX8_within_15 rfl rfl (Nat.le_of_ble_eq_true rfl) (Nat.le_of_ble_eq_true rfl) ⟨by simp [*, gwit], rfl⟩
  · -- to 5
    refine g_iload_n (q := 6) C dX8_within_5 rfl rfl ?_
    refine g_iload_n (q := 7) C dX8_within_6 rfl rfl ?_
    refine g_icmp_gt (t := 14) (q := 10) C dX8_within_7 (by decide) rfl (fun c_7 => ?_) (fun c_7 => ?_)
    · -- to 14
      refine g_iconst (v := 0) (q := 15) C dX8_within_14 (by decide) rfl ?_
      exact E.1 _ _ _ _ _ _ _ dX8_within_15 rfl rfl (Nat.le_of_ble_eq_true rfl) (Nat.le_of_ble_eq_true rfl) ⟨by simp [*, gwit], rfl⟩
    · -- to 10
      refine g_iconst (v := 1) (q := 11) C dX8_within_10 (by decide) rfl ?_
      refine g_goto (q := 15) C dX8_within_11 (by decide) ?_
      exact E.1 _ _ _ _ _ _ _ dX8_within_15 rfl rfl (Nat.le_of_ble_eq_true rfl) (Nat.le_of_ble_eq_true rfl) ⟨by simp [*, gwit], rfl⟩
theorem dX8_thrown_0 : decode cX8_thrown 0 = .ok (.aload_n 0, 1) := by decide +kernel
theorem dX8_thrown_1 : decode cX8_thrown 1 = .ok (.getfield 66, 3) := by decide +kernel
theorem dX8_thrown_4 : decode cX8_thrown 4 = .ok (.ireturn, 1) := by decide +kernel
set_option maxRecDepth 100000 in
set_option maxHeartbeats 4000000 in
theorem c_X8_thrown {hp : List gA} {m : Nat} {taped0 thrown0 hasCard0 repeats0 logged0 logAt0 unlike0 quiet0 size0 at0 fault0 special0 hasOther0 blockMany0 cameMany0 cameHow0 hasLost0 hasSpoilt0 hasSent0 tryOf0 reason0 wouldSend0 wantedMany0 : Int32} {tapeA toldA draftA historyA sA keptA logA logBytesA unlikeFromA unlikeSideA unlikeOftenA unlikeBytesA blockA cameA infA wantedA : Nat} (hm : hp[m]? = some (.inr (.inr (8, [.ref tapeA, .int taped0, .int thrown0, .int hasCard0, .ref toldA, .ref draftA, .ref historyA, .ref sA, .ref keptA, .int repeats0, .ref logA, .ref logBytesA, .int logged0, .int logAt0, .ref unlikeFromA, .ref unlikeSideA, .ref unlikeOftenA, .ref unlikeBytesA, .int unlike0, .int quiet0, .int size0, .int at0, .int fault0, .int special0, .int hasOther0, .ref blockA, .int blockMany0, .ref cameA, .int cameMany0, .int cameHow0, .int hasLost0, .int hasSpoilt0, .ref infA, .int hasSent0, .int tryOf0, .int reason0, .int wouldSend0, .ref wantedA, .int wantedMany0])))) : gM yX8_thrown cX8_thrown 1 ((some .int)) 0 0 [.ref m] (hp) (0) (0) (fun v h => v = some (.int thrown0) ∧ h = hp) := by
  refine gM_of (ls0 := [some (.ref m)]) (by decide +kernel) (Nat.le_of_ble_eq_true rfl) rfl fun X C E => ?_
  refine g_aload_n (q := 1) C dX8_thrown_0 rfl rfl ?_
  refine g_getfield (q := 4) C fX8_66 dX8_thrown_1 rfl hm rfl ?_
  exact E.1 _ _ _ _ _ _ _ dX8_thrown_4 rfl rfl (Nat.le_of_ble_eq_true rfl) (Nat.le_of_ble_eq_true rfl) ⟨rfl, rfl⟩
theorem dX8_canBegin_0 : decode cX8_canBegin 0 = .ok (.aload_n 0, 1) := by decide +kernel
theorem dX8_canBegin_1 : decode cX8_canBegin 1 = .ok (.getfield 134, 3) := by decide +kernel
theorem dX8_canBegin_4 : decode cX8_canBegin 4 = .ok (.ifCond .eq 31, 3) := by decide +kernel
theorem dX8_canBegin_35 : decode cX8_canBegin 35 = .ok (.iconst 0, 1) := by decide +kernel
theorem dX8_canBegin_36 : decode cX8_canBegin 36 = .ok (.ireturn, 1) := by decide +kernel
set_option maxRecDepth 100000 in
set_option maxHeartbeats 4000000 in
theorem c_X8_canBegin_0 {hp : List gA} {m : Nat} {taped0 thrown0 repeats0 logged0 logAt0 unlike0 quiet0 size0 at0 fault0 special0 hasOther0 blockMany0 cameMany0 cameHow0 hasLost0 hasSpoilt0 hasSent0 tryOf0 reason0 wouldSend0 wantedMany0 : Int32} {tapeA toldA draftA historyA sA keptA logA logBytesA unlikeFromA unlikeSideA unlikeOftenA unlikeBytesA blockA cameA infA wantedA : Nat} (hm : hp[m]? = some (.inr (.inr (8, [.ref tapeA, .int taped0, .int thrown0, .int 0, .ref toldA, .ref draftA, .ref historyA, .ref sA, .ref keptA, .int repeats0, .ref logA, .ref logBytesA, .int logged0, .int logAt0, .ref unlikeFromA, .ref unlikeSideA, .ref unlikeOftenA, .ref unlikeBytesA, .int unlike0, .int quiet0, .int size0, .int at0, .int fault0, .int special0, .int hasOther0, .ref blockA, .int blockMany0, .ref cameA, .int cameMany0, .int cameHow0, .int hasLost0, .int hasSpoilt0, .ref infA, .int hasSent0, .int tryOf0, .int reason0, .int wouldSend0, .ref wantedA, .int wantedMany0])))) : gM yX8_canBegin cX8_canBegin 1 ((some .boolean)) 0 0 [.ref m] (hp) (0) (0) (fun v h => v = some (.int 0) ∧ h = hp) := by
  refine gM_of (ls0 := [some (.ref m)]) (by decide +kernel) (Nat.le_of_ble_eq_true rfl) rfl fun X C E => ?_
  refine g_aload_n (q := 1) C dX8_canBegin_0 rfl rfl ?_
  refine g_getfield (q := 4) C fX8_134 dX8_canBegin_1 rfl hm rfl ?_
  refine g_if_eq_t (t := 35) C dX8_canBegin_4 (by decide) (by decide) ?_
  refine g_iconst (v := 0) (q := 36) C dX8_canBegin_35 (by decide) rfl ?_
  exact E.1 _ _ _ _ _ _ _ dX8_canBegin_36 rfl rfl (Nat.le_of_ble_eq_true rfl) (Nat.le_of_ble_eq_true rfl) ⟨rfl, rfl⟩
theorem dX8_answer_0 : decode cX8_answer 0 = .ok (.aload_n 0, 1) := by decide +kernel
theorem dX8_answer_1 : decode cX8_answer 1 = .ok (.iconst 0, 1) := by decide +kernel
theorem dX8_answer_2 : decode cX8_answer 2 = .ok (.putfield 66, 3) := by decide +kernel
theorem dX8_answer_5 : decode cX8_answer 5 = .ok (.aload_n 0, 1) := by decide +kernel
theorem dX8_answer_6 : decode cX8_answer 6 = .ok (.getfield 134, 3) := by decide +kernel
theorem dX8_answer_9 : decode cX8_answer 9 = .ok (.ifCond .eq 22, 3) := by decide +kernel
theorem dX8_answer_31 : decode cX8_answer 31 = .ok (.iconst (-1), 1) := by decide +kernel
theorem dX8_answer_32 : decode cX8_answer 32 = .ok (.ireturn, 1) := by decide +kernel
set_option maxRecDepth 100000 in
set_option maxHeartbeats 4000000 in
theorem c_X8_answer_0 {hp : List gA} {p0 : Int32} (H122 : hp[122]? = some (.inr (.inr (8, [.ref 123, .int 0, .int 0, .int 0, .ref 124, .ref 125, .ref 126, .ref 127, .ref 128, .int 1, .ref 129, .ref 130, .int 0, .int 0, .ref 131, .ref 132, .ref 133, .ref 134, .int 0, .int 0, .int 0, .int 0, .int 0, .int 0, .int 0, .ref 135, .int 0, .ref 136, .int 0, .int 0, .int 0, .int 0, .ref 137, .int 0, .int 0, .int 0, .int 0, .ref 138, .int 0]))))  : gM yX8_answer cX8_answer 2 ((some .int)) 1 22 [.ref 122, .int p0] (hp) (0) (0) (fun v h => v = some (.int (-1)) ∧ True) := by
  refine gM_of (ls0 := [some (.ref 122), some (.int p0)]) (by decide +kernel) (Nat.le_of_ble_eq_true rfl) rfl fun X C E => ?_
  refine g_aload_n (q := 1) C dX8_answer_0 rfl rfl ?_
  refine g_iconst (v := 0) (q := 2) C dX8_answer_1 (by decide) rfl ?_
  refine g_putfield (q := 5) C fX8_66 dX8_answer_2 rfl H122 (Nat.le_of_ble_eq_true rfl) (Or.inl rfl) rfl rfl (by intro z h; cases h) ?_
  refine g_aload_n (q := 6) C dX8_answer_5 rfl rfl ?_
  refine g_getfield (q := 9) C fX8_134 dX8_answer_6 rfl (gset_self H122) rfl ?_
  refine g_if_eq_t (t := 31) C dX8_answer_9 (by decide) (by decide) ?_
  refine g_iconst (v := (-1)) (q := 32) C dX8_answer_31 (by decide) rfl ?_
  exact E.1 _ _ _ _ _ _ _ dX8_answer_32 rfl rfl (Nat.le_of_ble_eq_true rfl) (Nat.le_of_ble_eq_true rfl) ⟨rfl, trivial⟩
theorem dX8_historical_0 : decode cX8_historical 0 = .ok (.aload_n 0, 1) := by decide +kernel
theorem dX8_historical_1 : decode cX8_historical 1 = .ok (.iconst 0, 1) := by decide +kernel
theorem dX8_historical_2 : decode cX8_historical 2 = .ok (.putfield 66, 3) := by decide +kernel
theorem dX8_historical_5 : decode cX8_historical 5 = .ok (.aload_n 0, 1) := by decide +kernel
theorem dX8_historical_6 : decode cX8_historical 6 = .ok (.getfield 134, 3) := by decide +kernel
theorem dX8_historical_9 : decode cX8_historical 9 = .ok (.ifCond .eq 29, 3) := by decide +kernel
theorem dX8_historical_38 : decode cX8_historical 38 = .ok (.iconst (-1), 1) := by decide +kernel
theorem dX8_historical_39 : decode cX8_historical 39 = .ok (.ireturn, 1) := by decide +kernel
set_option maxRecDepth 100000 in
set_option maxHeartbeats 4000000 in
theorem c_X8_historical_0 {hp : List gA} {p0 : Int32} (H122 : hp[122]? = some (.inr (.inr (8, [.ref 123, .int 0, .int 0, .int 0, .ref 124, .ref 125, .ref 126, .ref 127, .ref 128, .int 1, .ref 129, .ref 130, .int 0, .int 0, .ref 131, .ref 132, .ref 133, .ref 134, .int 0, .int 0, .int 0, .int 0, .int 0, .int 0, .int 0, .ref 135, .int 0, .ref 136, .int 0, .int 0, .int 0, .int 0, .ref 137, .int 0, .int 0, .int 0, .int 0, .ref 138, .int 0]))))  : gM yX8_historical cX8_historical 2 ((some .int)) 1 22 [.ref 122, .int p0] (hp) (0) (0) (fun v h => v = some (.int (-1)) ∧ True) := by
  refine gM_of (ls0 := [some (.ref 122), some (.int p0)]) (by decide +kernel) (Nat.le_of_ble_eq_true rfl) rfl fun X C E => ?_
  refine g_aload_n (q := 1) C dX8_historical_0 rfl rfl ?_
  refine g_iconst (v := 0) (q := 2) C dX8_historical_1 (by decide) rfl ?_
  refine g_putfield (q := 5) C fX8_66 dX8_historical_2 rfl H122 (Nat.le_of_ble_eq_true rfl) (Or.inl rfl) rfl rfl (by intro z h; cases h) ?_
  refine g_aload_n (q := 6) C dX8_historical_5 rfl rfl ?_
  refine g_getfield (q := 9) C fX8_134 dX8_historical_6 rfl (gset_self H122) rfl ?_
  refine g_if_eq_t (t := 38) C dX8_historical_9 (by decide) (by decide) ?_
  refine g_iconst (v := (-1)) (q := 39) C dX8_historical_38 (by decide) rfl ?_
  exact E.1 _ _ _ _ _ _ _ dX8_historical_39 rfl rfl (Nat.le_of_ble_eq_true rfl) (Nat.le_of_ble_eq_true rfl) ⟨rfl, trivial⟩
theorem dX8_state_0 : decode cX8_state 0 = .ok (.aload_n 0, 1) := by decide +kernel
theorem dX8_state_1 : decode cX8_state 1 = .ok (.iconst 0, 1) := by decide +kernel
theorem dX8_state_2 : decode cX8_state 2 = .ok (.putfield 66, 3) := by decide +kernel
theorem dX8_state_5 : decode cX8_state 5 = .ok (.aload_n 0, 1) := by decide +kernel
theorem dX8_state_6 : decode cX8_state 6 = .ok (.getfield 134, 3) := by decide +kernel
theorem dX8_state_9 : decode cX8_state 9 = .ok (.ifCond .eq 14, 3) := by decide +kernel
theorem dX8_state_23 : decode cX8_state 23 = .ok (.iconst (-1), 1) := by decide +kernel
theorem dX8_state_24 : decode cX8_state 24 = .ok (.ireturn, 1) := by decide +kernel
set_option maxRecDepth 100000 in
set_option maxHeartbeats 4000000 in
theorem c_X8_state_0 {hp : List gA}  (H122 : hp[122]? = some (.inr (.inr (8, [.ref 123, .int 0, .int 0, .int 0, .ref 124, .ref 125, .ref 126, .ref 127, .ref 128, .int 1, .ref 129, .ref 130, .int 0, .int 0, .ref 131, .ref 132, .ref 133, .ref 134, .int 0, .int 0, .int 0, .int 0, .int 0, .int 0, .int 0, .ref 135, .int 0, .ref 136, .int 0, .int 0, .int 0, .int 0, .ref 137, .int 0, .int 0, .int 0, .int 0, .ref 138, .int 0]))))  : gM yX8_state cX8_state 1 ((some .int)) 0 0 [.ref 122] (hp) (0) (0) (fun v h => v = some (.int (-1)) ∧ True) := by
  refine gM_of (ls0 := [some (.ref 122)]) (by decide +kernel) (Nat.le_of_ble_eq_true rfl) rfl fun X C E => ?_
  refine g_aload_n (q := 1) C dX8_state_0 rfl rfl ?_
  refine g_iconst (v := 0) (q := 2) C dX8_state_1 (by decide) rfl ?_
  refine g_putfield (q := 5) C fX8_66 dX8_state_2 rfl H122 (Nat.le_of_ble_eq_true rfl) (Or.inl rfl) rfl rfl (by intro z h; cases h) ?_
  refine g_aload_n (q := 6) C dX8_state_5 rfl rfl ?_
  refine g_getfield (q := 9) C fX8_134 dX8_state_6 rfl (gset_self H122) rfl ?_
  refine g_if_eq_t (t := 23) C dX8_state_9 (by decide) (by decide) ?_
  refine g_iconst (v := (-1)) (q := 24) C dX8_state_23 (by decide) rfl ?_
  exact E.1 _ _ _ _ _ _ _ dX8_state_24 rfl rfl (Nat.le_of_ble_eq_true rfl) (Nat.le_of_ble_eq_true rfl) ⟨rfl, trivial⟩
theorem dX8_side_0 : decode cX8_side 0 = .ok (.aload_n 0, 1) := by decide +kernel
theorem dX8_side_1 : decode cX8_side 1 = .ok (.iconst 0, 1) := by decide +kernel
theorem dX8_side_2 : decode cX8_side 2 = .ok (.putfield 66, 3) := by decide +kernel
theorem dX8_side_5 : decode cX8_side 5 = .ok (.aload_n 0, 1) := by decide +kernel
theorem dX8_side_6 : decode cX8_side 6 = .ok (.getfield 134, 3) := by decide +kernel
theorem dX8_side_9 : decode cX8_side 9 = .ok (.ifCond .eq 40, 3) := by decide +kernel
theorem dX8_side_49 : decode cX8_side 49 = .ok (.bipush (-2), 2) := by decide +kernel
theorem dX8_side_51 : decode cX8_side 51 = .ok (.ireturn, 1) := by decide +kernel
set_option maxRecDepth 100000 in
set_option maxHeartbeats 4000000 in
theorem c_X8_side_0 {hp : List gA} {p0 : Int32} {p1 : Int32} (H122 : hp[122]? = some (.inr (.inr (8, [.ref 123, .int 0, .int 0, .int 0, .ref 124, .ref 125, .ref 126, .ref 127, .ref 128, .int 1, .ref 129, .ref 130, .int 0, .int 0, .ref 131, .ref 132, .ref 133, .ref 134, .int 0, .int 0, .int 0, .int 0, .int 0, .int 0, .int 0, .ref 135, .int 0, .ref 136, .int 0, .int 0, .int 0, .int 0, .ref 137, .int 0, .int 0, .int 0, .int 0, .ref 138, .int 0]))))  : gM yX8_side cX8_side 3 ((some .int)) 1 22 [.ref 122, .int p0, .int p1] (hp) (0) (0) (fun v h => v = some (.int (-2)) ∧ True) := by
  refine gM_of (ls0 := [some (.ref 122), some (.int p0), some (.int p1)]) (by decide +kernel) (Nat.le_of_ble_eq_true rfl) rfl fun X C E => ?_
  refine g_aload_n (q := 1) C dX8_side_0 rfl rfl ?_
  refine g_iconst (v := 0) (q := 2) C dX8_side_1 (by decide) rfl ?_
  refine g_putfield (q := 5) C fX8_66 dX8_side_2 rfl H122 (Nat.le_of_ble_eq_true rfl) (Or.inl rfl) rfl rfl (by intro z h; cases h) ?_
  refine g_aload_n (q := 6) C dX8_side_5 rfl rfl ?_
  refine g_getfield (q := 9) C fX8_134 dX8_side_6 rfl (gset_self H122) rfl ?_
  refine g_if_eq_t (t := 49) C dX8_side_9 (by decide) (by decide) ?_
  refine g_bipush (v := (-2)) (q := 51) C dX8_side_49 (by decide) rfl ?_
  exact E.1 _ _ _ _ _ _ _ dX8_side_51 rfl rfl (Nat.le_of_ble_eq_true rfl) (Nat.le_of_ble_eq_true rfl) ⟨rfl, trivial⟩
theorem dX8_got_0 : decode cX8_got 0 = .ok (.aload_n 0, 1) := by decide +kernel
theorem dX8_got_1 : decode cX8_got 1 = .ok (.iconst 0, 1) := by decide +kernel
theorem dX8_got_2 : decode cX8_got 2 = .ok (.putfield 66, 3) := by decide +kernel
theorem dX8_got_5 : decode cX8_got 5 = .ok (.aload_n 0, 1) := by decide +kernel
theorem dX8_got_6 : decode cX8_got 6 = .ok (.getfield 134, 3) := by decide +kernel
theorem dX8_got_9 : decode cX8_got 9 = .ok (.ifCond .eq 27, 3) := by decide +kernel
theorem dX8_got_36 : decode cX8_got 36 = .ok (.bipush (-2), 2) := by decide +kernel
theorem dX8_got_38 : decode cX8_got 38 = .ok (.ireturn, 1) := by decide +kernel
set_option maxRecDepth 100000 in
set_option maxHeartbeats 4000000 in
theorem c_X8_got_0 {hp : List gA} {p0 : Int32} {p1 : Int32} (H122 : hp[122]? = some (.inr (.inr (8, [.ref 123, .int 0, .int 0, .int 0, .ref 124, .ref 125, .ref 126, .ref 127, .ref 128, .int 1, .ref 129, .ref 130, .int 0, .int 0, .ref 131, .ref 132, .ref 133, .ref 134, .int 0, .int 0, .int 0, .int 0, .int 0, .int 0, .int 0, .ref 135, .int 0, .ref 136, .int 0, .int 0, .int 0, .int 0, .ref 137, .int 0, .int 0, .int 0, .int 0, .ref 138, .int 0]))))  : gM yX8_got cX8_got 3 ((some .int)) 1 22 [.ref 122, .int p0, .int p1] (hp) (0) (0) (fun v h => v = some (.int (-2)) ∧ True) := by
  refine gM_of (ls0 := [some (.ref 122), some (.int p0), some (.int p1)]) (by decide +kernel) (Nat.le_of_ble_eq_true rfl) rfl fun X C E => ?_
  refine g_aload_n (q := 1) C dX8_got_0 rfl rfl ?_
  refine g_iconst (v := 0) (q := 2) C dX8_got_1 (by decide) rfl ?_
  refine g_putfield (q := 5) C fX8_66 dX8_got_2 rfl H122 (Nat.le_of_ble_eq_true rfl) (Or.inl rfl) rfl rfl (by intro z h; cases h) ?_
  refine g_aload_n (q := 6) C dX8_got_5 rfl rfl ?_
  refine g_getfield (q := 9) C fX8_134 dX8_got_6 rfl (gset_self H122) rfl ?_
  refine g_if_eq_t (t := 36) C dX8_got_9 (by decide) (by decide) ?_
  refine g_bipush (v := (-2)) (q := 38) C dX8_got_36 (by decide) rfl ?_
  exact E.1 _ _ _ _ _ _ _ dX8_got_38 rfl rfl (Nat.le_of_ble_eq_true rfl) (Nat.le_of_ble_eq_true rfl) ⟨rfl, trivial⟩
theorem dX8_step_0 : decode cX8_step 0 = .ok (.aload_n 0, 1) := by decide +kernel
theorem dX8_step_1 : decode cX8_step 1 = .ok (.iconst 0, 1) := by decide +kernel
theorem dX8_step_2 : decode cX8_step 2 = .ok (.putfield 66, 3) := by decide +kernel
theorem dX8_step_5 : decode cX8_step 5 = .ok (.aload_n 0, 1) := by decide +kernel
theorem dX8_step_6 : decode cX8_step 6 = .ok (.getfield 134, 3) := by decide +kernel
theorem dX8_step_9 : decode cX8_step 9 = .ok (.ifCond .eq 25, 3) := by decide +kernel
theorem dX8_step_34 : decode cX8_step 34 = .ok (.iconst (-1), 1) := by decide +kernel
theorem dX8_step_35 : decode cX8_step 35 = .ok (.ireturn, 1) := by decide +kernel
set_option maxRecDepth 100000 in
set_option maxHeartbeats 4000000 in
theorem c_X8_step_0 {hp : List gA} {p0 : Int32} (H122 : hp[122]? = some (.inr (.inr (8, [.ref 123, .int 0, .int 0, .int 0, .ref 124, .ref 125, .ref 126, .ref 127, .ref 128, .int 1, .ref 129, .ref 130, .int 0, .int 0, .ref 131, .ref 132, .ref 133, .ref 134, .int 0, .int 0, .int 0, .int 0, .int 0, .int 0, .int 0, .ref 135, .int 0, .ref 136, .int 0, .int 0, .int 0, .int 0, .ref 137, .int 0, .int 0, .int 0, .int 0, .ref 138, .int 0]))))  : gM yX8_step cX8_step 4 ((some .int)) 11 253 [.ref 122, .int p0] (hp) (0) (0) (fun v h => v = some (.int (-1)) ∧ True) := by
  refine gM_of (ls0 := [some (.ref 122), some (.int p0), none, none]) (by decide +kernel) (Nat.le_of_ble_eq_true rfl) rfl fun X C E => ?_
  refine g_aload_n (q := 1) C dX8_step_0 rfl rfl ?_
  refine g_iconst (v := 0) (q := 2) C dX8_step_1 (by decide) rfl ?_
  refine g_putfield (q := 5) C fX8_66 dX8_step_2 rfl H122 (Nat.le_of_ble_eq_true rfl) (Or.inl rfl) rfl rfl (by intro z h; cases h) ?_
  refine g_aload_n (q := 6) C dX8_step_5 rfl rfl ?_
  refine g_getfield (q := 9) C fX8_134 dX8_step_6 rfl (gset_self H122) rfl ?_
  refine g_if_eq_t (t := 34) C dX8_step_9 (by decide) (by decide) ?_
  refine g_iconst (v := (-1)) (q := 35) C dX8_step_34 (by decide) rfl ?_
  exact E.1 _ _ _ _ _ _ _ dX8_step_35 rfl rfl (Nat.le_of_ble_eq_true rfl) (Nat.le_of_ble_eq_true rfl) ⟨rfl, trivial⟩
theorem dX8_would_0 : decode cX8_would 0 = .ok (.aload_n 0, 1) := by decide +kernel
theorem dX8_would_1 : decode cX8_would 1 = .ok (.iconst 0, 1) := by decide +kernel
theorem dX8_would_2 : decode cX8_would 2 = .ok (.putfield 66, 3) := by decide +kernel
theorem dX8_would_5 : decode cX8_would 5 = .ok (.aload_n 0, 1) := by decide +kernel
theorem dX8_would_6 : decode cX8_would 6 = .ok (.getfield 134, 3) := by decide +kernel
theorem dX8_would_9 : decode cX8_would 9 = .ok (.ifCond .eq 24, 3) := by decide +kernel
theorem dX8_would_33 : decode cX8_would 33 = .ok (.iconst (-1), 1) := by decide +kernel
theorem dX8_would_34 : decode cX8_would 34 = .ok (.ireturn, 1) := by decide +kernel
set_option maxRecDepth 100000 in
set_option maxHeartbeats 4000000 in
theorem c_X8_would_0 {hp : List gA} {p0 : Int32} (H122 : hp[122]? = some (.inr (.inr (8, [.ref 123, .int 0, .int 0, .int 0, .ref 124, .ref 125, .ref 126, .ref 127, .ref 128, .int 1, .ref 129, .ref 130, .int 0, .int 0, .ref 131, .ref 132, .ref 133, .ref 134, .int 0, .int 0, .int 0, .int 0, .int 0, .int 0, .int 0, .ref 135, .int 0, .ref 136, .int 0, .int 0, .int 0, .int 0, .ref 137, .int 0, .int 0, .int 0, .int 0, .ref 138, .int 0]))))  : gM yX8_would cX8_would 3 ((some .int)) 12 274 [.ref 122, .int p0] (hp) (0) (0) (fun v h => v = some (.int (-1)) ∧ True) := by
  refine gM_of (ls0 := [some (.ref 122), some (.int p0), none]) (by decide +kernel) (Nat.le_of_ble_eq_true rfl) rfl fun X C E => ?_
  refine g_aload_n (q := 1) C dX8_would_0 rfl rfl ?_
  refine g_iconst (v := 0) (q := 2) C dX8_would_1 (by decide) rfl ?_
  refine g_putfield (q := 5) C fX8_66 dX8_would_2 rfl H122 (Nat.le_of_ble_eq_true rfl) (Or.inl rfl) rfl rfl (by intro z h; cases h) ?_
  refine g_aload_n (q := 6) C dX8_would_5 rfl rfl ?_
  refine g_getfield (q := 9) C fX8_134 dX8_would_6 rfl (gset_self H122) rfl ?_
  refine g_if_eq_t (t := 33) C dX8_would_9 (by decide) (by decide) ?_
  refine g_iconst (v := (-1)) (q := 34) C dX8_would_33 (by decide) rfl ?_
  exact E.1 _ _ _ _ _ _ _ dX8_would_34 rfl rfl (Nat.le_of_ble_eq_true rfl) (Nat.le_of_ble_eq_true rfl) ⟨rfl, trivial⟩
theorem dX8_harm_0 : decode cX8_harm 0 = .ok (.aload_n 0, 1) := by decide +kernel
theorem dX8_harm_1 : decode cX8_harm 1 = .ok (.iconst 0, 1) := by decide +kernel
theorem dX8_harm_2 : decode cX8_harm 2 = .ok (.putfield 66, 3) := by decide +kernel
theorem dX8_harm_5 : decode cX8_harm 5 = .ok (.aload_n 0, 1) := by decide +kernel
theorem dX8_harm_6 : decode cX8_harm 6 = .ok (.getfield 134, 3) := by decide +kernel
theorem dX8_harm_9 : decode cX8_harm 9 = .ok (.ifCond .eq 33, 3) := by decide +kernel
theorem dX8_harm_42 : decode cX8_harm 42 = .ok (.iconst (-1), 1) := by decide +kernel
theorem dX8_harm_43 : decode cX8_harm 43 = .ok (.ireturn, 1) := by decide +kernel
set_option maxRecDepth 100000 in
set_option maxHeartbeats 4000000 in
theorem c_X8_harm_0 {hp : List gA} {p0 : Int32} {p1 : Int32} (H122 : hp[122]? = some (.inr (.inr (8, [.ref 123, .int 0, .int 0, .int 0, .ref 124, .ref 125, .ref 126, .ref 127, .ref 128, .int 1, .ref 129, .ref 130, .int 0, .int 0, .ref 131, .ref 132, .ref 133, .ref 134, .int 0, .int 0, .int 0, .int 0, .int 0, .int 0, .int 0, .ref 135, .int 0, .ref 136, .int 0, .int 0, .int 0, .int 0, .ref 137, .int 0, .int 0, .int 0, .int 0, .ref 138, .int 0]))))  : gM yX8_harm cX8_harm 9 ((some .int)) 12 274 [.ref 122, .int p0, .int p1] (hp) (0) (0) (fun v h => v = some (.int (-1)) ∧ True) := by
  refine gM_of (ls0 := [some (.ref 122), some (.int p0), some (.int p1), none, none, none, none, none, none]) (by decide +kernel) (Nat.le_of_ble_eq_true rfl) rfl fun X C E => ?_
  refine g_aload_n (q := 1) C dX8_harm_0 rfl rfl ?_
  refine g_iconst (v := 0) (q := 2) C dX8_harm_1 (by decide) rfl ?_
  refine g_putfield (q := 5) C fX8_66 dX8_harm_2 rfl H122 (Nat.le_of_ble_eq_true rfl) (Or.inl rfl) rfl rfl (by intro z h; cases h) ?_
  refine g_aload_n (q := 6) C dX8_harm_5 rfl rfl ?_
  refine g_getfield (q := 9) C fX8_134 dX8_harm_6 rfl (gset_self H122) rfl ?_
  refine g_if_eq_t (t := 42) C dX8_harm_9 (by decide) (by decide) ?_
  refine g_iconst (v := (-1)) (q := 43) C dX8_harm_42 (by decide) rfl ?_
  exact E.1 _ _ _ _ _ _ _ dX8_harm_43 rfl rfl (Nat.le_of_ble_eq_true rfl) (Nat.le_of_ble_eq_true rfl) ⟨rfl, trivial⟩
theorem dX8_fault_0 : decode cX8_fault 0 = .ok (.aload_n 0, 1) := by decide +kernel
theorem dX8_fault_1 : decode cX8_fault 1 = .ok (.iconst 0, 1) := by decide +kernel
theorem dX8_fault_2 : decode cX8_fault 2 = .ok (.putfield 66, 3) := by decide +kernel
theorem dX8_fault_5 : decode cX8_fault 5 = .ok (.aload_n 0, 1) := by decide +kernel
theorem dX8_fault_6 : decode cX8_fault 6 = .ok (.getfield 134, 3) := by decide +kernel
theorem dX8_fault_9 : decode cX8_fault 9 = .ok (.ifCond .eq 46, 3) := by decide +kernel
theorem dX8_fault_55 : decode cX8_fault 55 = .ok (.iconst (-1), 1) := by decide +kernel
theorem dX8_fault_56 : decode cX8_fault 56 = .ok (.ireturn, 1) := by decide +kernel
set_option maxRecDepth 100000 in
set_option maxHeartbeats 4000000 in
theorem c_X8_fault_0 {hp : List gA} {p0 : Int32} {p1 : Int32} {p2 : Int32} (H122 : hp[122]? = some (.inr (.inr (8, [.ref 123, .int 0, .int 0, .int 0, .ref 124, .ref 125, .ref 126, .ref 127, .ref 128, .int 1, .ref 129, .ref 130, .int 0, .int 0, .ref 131, .ref 132, .ref 133, .ref 134, .int 0, .int 0, .int 0, .int 0, .int 0, .int 0, .int 0, .ref 135, .int 0, .ref 136, .int 0, .int 0, .int 0, .int 0, .ref 137, .int 0, .int 0, .int 0, .int 0, .ref 138, .int 0]))))  : gM yX8_fault cX8_fault 4 ((some .int)) 2 46 [.ref 122, .int p0, .int p1, .int p2] (hp) (0) (0) (fun v h => v = some (.int (-1)) ∧ True) := by
  refine gM_of (ls0 := [some (.ref 122), some (.int p0), some (.int p1), some (.int p2)]) (by decide +kernel) (Nat.le_of_ble_eq_true rfl) rfl fun X C E => ?_
  refine g_aload_n (q := 1) C dX8_fault_0 rfl rfl ?_
  refine g_iconst (v := 0) (q := 2) C dX8_fault_1 (by decide) rfl ?_
  refine g_putfield (q := 5) C fX8_66 dX8_fault_2 rfl H122 (Nat.le_of_ble_eq_true rfl) (Or.inl rfl) rfl rfl (by intro z h; cases h) ?_
  refine g_aload_n (q := 6) C dX8_fault_5 rfl rfl ?_
  refine g_getfield (q := 9) C fX8_134 dX8_fault_6 rfl (gset_self H122) rfl ?_
  refine g_if_eq_t (t := 55) C dX8_fault_9 (by decide) (by decide) ?_
  refine g_iconst (v := (-1)) (q := 56) C dX8_fault_55 (by decide) rfl ?_
  exact E.1 _ _ _ _ _ _ _ dX8_fault_56 rfl rfl (Nat.le_of_ble_eq_true rfl) (Nat.le_of_ble_eq_true rfl) ⟨rfl, trivial⟩
theorem dX8_room_0 : decode cX8_room 0 = .ok (.aload_n 0, 1) := by decide +kernel
theorem dX8_room_1 : decode cX8_room 1 = .ok (.iconst 0, 1) := by decide +kernel
theorem dX8_room_2 : decode cX8_room 2 = .ok (.putfield 66, 3) := by decide +kernel
theorem dX8_room_5 : decode cX8_room 5 = .ok (.iload_n 1, 1) := by decide +kernel
theorem dX8_room_6 : decode cX8_room 6 = .ok (.iconst 1, 1) := by decide +kernel
theorem dX8_room_7 : decode cX8_room 7 = .ok (.sipush 254, 3) := by decide +kernel
theorem dX8_room_10 : decode cX8_room 10 = .ok (.invokestatic 82, 3) := by decide +kernel
theorem dX8_room_13 : decode cX8_room 13 = .ok (.ifCond .eq 10, 3) := by decide +kernel
theorem dX8_room_16 : decode cX8_room 16 = .ok (.aload_n 0, 1) := by decide +kernel
theorem dX8_room_17 : decode cX8_room 17 = .ok (.invokevirtual 137, 3) := by decide +kernel
theorem dX8_room_20 : decode cX8_room 20 = .ok (.ifCond .ne 5, 3) := by decide +kernel
theorem dX8_room_23 : decode cX8_room 23 = .ok (.iconst (-1), 1) := by decide +kernel
theorem dX8_room_24 : decode cX8_room 24 = .ok (.ireturn, 1) := by decide +kernel
set_option maxRecDepth 100000 in
set_option maxHeartbeats 4000000 in
theorem c_X8_room_0 {hp : List gA} {p0 : Int32} (H122 : hp[122]? = some (.inr (.inr (8, [.ref 123, .int 0, .int 0, .int 0, .ref 124, .ref 125, .ref 126, .ref 127, .ref 128, .int 1, .ref 129, .ref 130, .int 0, .int 0, .ref 131, .ref 132, .ref 133, .ref 134, .int 0, .int 0, .int 0, .int 0, .int 0, .int 0, .int 0, .ref 135, .int 0, .ref 136, .int 0, .int 0, .int 0, .int 0, .ref 137, .int 0, .int 0, .int 0, .int 0, .ref 138, .int 0]))))  : gM yX8_room cX8_room 2 ((some .int)) 1 22 [.ref 122, .int p0] (hp) (0) (0) (fun v h => v = some (.int (-1)) ∧ True) := by
  refine gM_of (ls0 := [some (.ref 122), some (.int p0)]) (by decide +kernel) (Nat.le_of_ble_eq_true rfl) rfl fun X C E => ?_
  refine g_aload_n (q := 1) C dX8_room_0 rfl rfl ?_
  refine g_iconst (v := 0) (q := 2) C dX8_room_1 (by decide) rfl ?_
  refine g_putfield (q := 5) C fX8_66 dX8_room_2 rfl H122 (Nat.le_of_ble_eq_true rfl) (Or.inl rfl) rfl rfl (by intro z h; cases h) ?_
  refine g_iload_n (q := 6) C dX8_room_5 rfl rfl ?_
  refine g_iconst (v := 1) (q := 7) C dX8_room_6 (by decide) rfl ?_
  refine g_sipush (v := 254) (q := 10) C dX8_room_7 (by decide) rfl ?_
  refine g_callSi (q := 13) (As := [.int p0, .int 1, .int 254]) C gyX8_within t_1216 t_1215 (c_X8_within) dX8_room_10 rfl rfl rfl (Nat.le_of_ble_eq_true rfl) (Nat.le_of_ble_eq_true rfl) (Nat.le_of_ble_eq_true rfl) (Nat.le_of_ble_eq_true rfl) (Nat.le_of_ble_eq_true rfl) rfl ?_
  refine g_if_eq (t := 23) (q := 16) C dX8_room_13 (by decide) rfl (fun c_13 => ?_) (fun c_13 => ?_)
  · -- to 23
    refine g_iconst (v := (-1)) (q := 24) C dX8_room_23 (by decide) rfl ?_
    exact E.1 _ _ _ _ _ _ _ dX8_room_24 rfl rfl (Nat.le_of_ble_eq_true rfl) (Nat.le_of_ble_eq_true rfl) ⟨rfl, trivial⟩
  · -- to 16
    refine g_aload_n (q := 17) C dX8_room_16 rfl rfl ?_
    refine g_callVi (q := 20) (As := []) C gyX8_canBegin gvX8_canBegin t_1268 (c_X8_canBegin_0 (gset_self H122)) dX8_room_17 rfl (gset_self H122) rfl rfl rfl (Nat.le_of_ble_eq_true rfl) (Nat.le_of_ble_eq_true rfl) (Nat.le_of_ble_eq_true rfl) (Nat.le_of_ble_eq_true rfl) (Nat.le_of_ble_eq_true rfl) rfl ?_
    refine g_if_ne_f (t := 25) (q := 23) C dX8_room_20 (by decide) rfl (by decide) ?_
    refine g_iconst (v := (-1)) (q := 24) C dX8_room_23 (by decide) rfl ?_
    exact E.1 _ _ _ _ _ _ _ dX8_room_24 rfl rfl (Nat.le_of_ble_eq_true rfl) (Nat.le_of_ble_eq_true rfl) ⟨rfl, trivial⟩
theorem dX8_message_0 : decode cX8_message 0 = .ok (.aload_n 0, 1) := by decide +kernel
theorem dX8_message_1 : decode cX8_message 1 = .ok (.iconst 0, 1) := by decide +kernel
theorem dX8_message_2 : decode cX8_message 2 = .ok (.putfield 66, 3) := by decide +kernel
theorem dX8_message_5 : decode cX8_message 5 = .ok (.aload_n 0, 1) := by decide +kernel
theorem dX8_message_6 : decode cX8_message 6 = .ok (.getfield 75, 3) := by decide +kernel
theorem dX8_message_9 : decode cX8_message 9 = .ok (.istore_n 1, 1) := by decide +kernel
theorem dX8_message_10 : decode cX8_message 10 = .ok (.aload_n 0, 1) := by decide +kernel
theorem dX8_message_11 : decode cX8_message 11 = .ok (.iconst 0, 1) := by decide +kernel
theorem dX8_message_12 : decode cX8_message 12 = .ok (.putfield 75, 3) := by decide +kernel
theorem dX8_message_15 : decode cX8_message 15 = .ok (.iload_n 1, 1) := by decide +kernel
theorem dX8_message_16 : decode cX8_message 16 = .ok (.bipush 60, 2) := by decide +kernel
theorem dX8_message_18 : decode cX8_message 18 = .ok (.if_icmp .gt 10, 3) := by decide +kernel
theorem dX8_message_21 : decode cX8_message 21 = .ok (.aload_n 0, 1) := by decide +kernel
theorem dX8_message_22 : decode cX8_message 22 = .ok (.invokevirtual 137, 3) := by decide +kernel
theorem dX8_message_25 : decode cX8_message 25 = .ok (.ifCond .ne 5, 3) := by decide +kernel
theorem dX8_message_28 : decode cX8_message 28 = .ok (.iconst (-1), 1) := by decide +kernel
theorem dX8_message_29 : decode cX8_message 29 = .ok (.ireturn, 1) := by decide +kernel
set_option maxRecDepth 100000 in
set_option maxHeartbeats 4000000 in
theorem c_X8_message_0 {hp : List gA}  (H122 : hp[122]? = some (.inr (.inr (8, [.ref 123, .int 0, .int 0, .int 0, .ref 124, .ref 125, .ref 126, .ref 127, .ref 128, .int 1, .ref 129, .ref 130, .int 0, .int 0, .ref 131, .ref 132, .ref 133, .ref 134, .int 0, .int 0, .int 0, .int 0, .int 0, .int 0, .int 0, .ref 135, .int 0, .ref 136, .int 0, .int 0, .int 0, .int 0, .ref 137, .int 0, .int 0, .int 0, .int 0, .ref 138, .int 0]))))  : gM yX8_message cX8_message 3 ((some .int)) 1 21 [.ref 122] (hp) (0) (0) (fun v h => v = some (.int (-1)) ∧ True) := by
  refine gM_of (ls0 := [some (.ref 122), none, none]) (by decide +kernel) (Nat.le_of_ble_eq_true rfl) rfl fun X C E => ?_
  refine g_aload_n (q := 1) C dX8_message_0 rfl rfl ?_
  refine g_iconst (v := 0) (q := 2) C dX8_message_1 (by decide) rfl ?_
  refine g_putfield (q := 5) C fX8_66 dX8_message_2 rfl H122 (Nat.le_of_ble_eq_true rfl) (Or.inl rfl) rfl rfl (by intro z h; cases h) ?_
  refine g_aload_n (q := 6) C dX8_message_5 rfl rfl ?_
  refine g_getfield (q := 9) C fX8_75 dX8_message_6 rfl (gset_self H122) rfl ?_
  refine g_istore_n (q := 10) C dX8_message_9 (Nat.le_of_ble_eq_true rfl) (by simp only [gset]; rfl) rfl ?_
  refine g_aload_n (q := 11) C dX8_message_10 rfl rfl ?_
  refine g_iconst (v := 0) (q := 12) C dX8_message_11 (by decide) rfl ?_
  refine g_putfield (q := 15) C fX8_75 dX8_message_12 rfl (gset_self H122) (Nat.le_of_ble_eq_true rfl) (Or.inl rfl) rfl rfl (by intro z h; cases h) ?_
  refine g_iload_n (q := 16) C dX8_message_15 rfl rfl ?_
  refine g_bipush (v := 60) (q := 18) C dX8_message_16 (by decide) rfl ?_
  refine g_icmp_gt_f (t := 28) (q := 21) C dX8_message_18 (by decide) rfl (by decide) ?_
  refine g_aload_n (q := 22) C dX8_message_21 rfl rfl ?_
  refine g_callVi (q := 25) (As := []) C gyX8_canBegin gvX8_canBegin t_1268 (c_X8_canBegin_0 (gset_self (gset_self H122))) dX8_message_22 rfl (gset_self (gset_self H122)) rfl rfl rfl (Nat.le_of_ble_eq_true rfl) (Nat.le_of_ble_eq_true rfl) (Nat.le_of_ble_eq_true rfl) (Nat.le_of_ble_eq_true rfl) (Nat.le_of_ble_eq_true rfl) rfl ?_
  refine g_if_ne_f (t := 30) (q := 28) C dX8_message_25 (by decide) rfl (by decide) ?_
  refine g_iconst (v := (-1)) (q := 29) C dX8_message_28 (by decide) rfl ?_
  exact E.1 _ _ _ _ _ _ _ dX8_message_29 rfl rfl (Nat.le_of_ble_eq_true rfl) (Nat.le_of_ble_eq_true rfl) ⟨rfl, trivial⟩
theorem dX8_byteOf_0 : decode cX8_byteOf 0 = .ok (.aload_n 0, 1) := by decide +kernel
theorem dX8_byteOf_1 : decode cX8_byteOf 1 = .ok (.iconst 0, 1) := by decide +kernel
theorem dX8_byteOf_2 : decode cX8_byteOf 2 = .ok (.putfield 66, 3) := by decide +kernel
theorem dX8_byteOf_5 : decode cX8_byteOf 5 = .ok (.iload_n 1, 1) := by decide +kernel
theorem dX8_byteOf_6 : decode cX8_byteOf 6 = .ok (.iconst 0, 1) := by decide +kernel
theorem dX8_byteOf_7 : decode cX8_byteOf 7 = .ok (.aload_n 0, 1) := by decide +kernel
theorem dX8_byteOf_8 : decode cX8_byteOf 8 = .ok (.getfield 69, 3) := by decide +kernel
theorem dX8_byteOf_11 : decode cX8_byteOf 11 = .ok (.iconst 1, 1) := by decide +kernel
theorem dX8_byteOf_12 : decode cX8_byteOf 12 = .ok (.isub, 1) := by decide +kernel
theorem dX8_byteOf_13 : decode cX8_byteOf 13 = .ok (.invokestatic 82, 3) := by decide +kernel
theorem dX8_byteOf_16 : decode cX8_byteOf 16 = .ok (.ifCond .eq 47, 3) := by decide +kernel
theorem dX8_byteOf_63 : decode cX8_byteOf 63 = .ok (.iconst (-1), 1) := by decide +kernel
theorem dX8_byteOf_64 : decode cX8_byteOf 64 = .ok (.ireturn, 1) := by decide +kernel
set_option maxRecDepth 100000 in
set_option maxHeartbeats 4000000 in
theorem c_X8_byteOf_0 {hp : List gA} {p0 : Int32} {p1 : Int32} (H122 : hp[122]? = some (.inr (.inr (8, [.ref 123, .int 0, .int 0, .int 0, .ref 124, .ref 125, .ref 126, .ref 127, .ref 128, .int 1, .ref 129, .ref 130, .int 0, .int 0, .ref 131, .ref 132, .ref 133, .ref 134, .int 0, .int 0, .int 0, .int 0, .int 0, .int 0, .int 0, .ref 135, .int 0, .ref 136, .int 0, .int 0, .int 0, .int 0, .ref 137, .int 0, .int 0, .int 0, .int 0, .ref 138, .int 0]))))  : gM yX8_byteOf cX8_byteOf 3 ((some .int)) 1 22 [.ref 122, .int p0, .int p1] (hp) (0) (0) (fun v h => v = some (.int (-1)) ∧ True) := by
  refine gM_of (ls0 := [some (.ref 122), some (.int p0), some (.int p1)]) (by decide +kernel) (Nat.le_of_ble_eq_true rfl) rfl fun X C E => ?_
  refine g_aload_n (q := 1) C dX8_byteOf_0 rfl rfl ?_
  refine g_iconst (v := 0) (q := 2) C dX8_byteOf_1 (by decide) rfl ?_
  refine g_putfield (q := 5) C fX8_66 dX8_byteOf_2 rfl H122 (Nat.le_of_ble_eq_true rfl) (Or.inl rfl) rfl rfl (by intro z h; cases h) ?_
  refine g_iload_n (q := 6) C dX8_byteOf_5 rfl rfl ?_
  refine g_iconst (v := 0) (q := 7) C dX8_byteOf_6 (by decide) rfl ?_
  refine g_aload_n (q := 8) C dX8_byteOf_7 rfl rfl ?_
  refine g_getfield (q := 11) C fX8_69 dX8_byteOf_8 rfl (gset_self H122) rfl ?_
  refine g_iconst (v := 1) (q := 12) C dX8_byteOf_11 (by decide) rfl ?_
  refine g_isub (q := 13) C dX8_byteOf_12 rfl ?_
  refine g_callSi (q := 16) (As := [.int p0, .int 0, .int ((-1))]) C gyX8_within t_1216 t_1215 (c_X8_within) dX8_byteOf_13 rfl rfl rfl (Nat.le_of_ble_eq_true rfl) (Nat.le_of_ble_eq_true rfl) (Nat.le_of_ble_eq_true rfl) (Nat.le_of_ble_eq_true rfl) (Nat.le_of_ble_eq_true rfl) rfl ?_
  refine g_if_eq_t (t := 63) C dX8_byteOf_16 (by decide) (gwm1 _) ?_
  refine g_iconst (v := (-1)) (q := 64) C dX8_byteOf_63 (by decide) rfl ?_
  exact E.1 _ _ _ _ _ _ _ dX8_byteOf_64 rfl rfl (Nat.le_of_ble_eq_true rfl) (Nat.le_of_ble_eq_true rfl) ⟨rfl, trivial⟩
theorem dX8_end_0 : decode cX8_end 0 = .ok (.aload_n 0, 1) := by decide +kernel
theorem dX8_end_1 : decode cX8_end 1 = .ok (.iconst 0, 1) := by decide +kernel
theorem dX8_end_2 : decode cX8_end 2 = .ok (.putfield 66, 3) := by decide +kernel
theorem dX8_end_5 : decode cX8_end 5 = .ok (.iload_n 1, 1) := by decide +kernel
theorem dX8_end_6 : decode cX8_end 6 = .ok (.iconst 0, 1) := by decide +kernel
theorem dX8_end_7 : decode cX8_end 7 = .ok (.aload_n 0, 1) := by decide +kernel
theorem dX8_end_8 : decode cX8_end 8 = .ok (.getfield 75, 3) := by decide +kernel
theorem dX8_end_11 : decode cX8_end 11 = .ok (.invokestatic 82, 3) := by decide +kernel
theorem dX8_end_14 : decode cX8_end 14 = .ok (.ifCond .ne 5, 3) := by decide +kernel
theorem dX8_end_17 : decode cX8_end 17 = .ok (.iconst (-1), 1) := by decide +kernel
theorem dX8_end_18 : decode cX8_end 18 = .ok (.ireturn, 1) := by decide +kernel
theorem dX8_end_19 : decode cX8_end 19 = .ok (.aload_n 0, 1) := by decide +kernel
theorem dX8_end_20 : decode cX8_end 20 = .ok (.iload_n 1, 1) := by decide +kernel
theorem dX8_end_21 : decode cX8_end 21 = .ok (.putfield 75, 3) := by decide +kernel
theorem dX8_end_24 : decode cX8_end 24 = .ok (.iload_n 1, 1) := by decide +kernel
theorem dX8_end_25 : decode cX8_end 25 = .ok (.ireturn, 1) := by decide +kernel
set_option maxRecDepth 100000 in
set_option maxHeartbeats 4000000 in
theorem c_X8_end_0 {hp : List gA} {p0 : Int32} (H122 : hp[122]? = some (.inr (.inr (8, [.ref 123, .int 0, .int 0, .int 0, .ref 124, .ref 125, .ref 126, .ref 127, .ref 128, .int 1, .ref 129, .ref 130, .int 0, .int 0, .ref 131, .ref 132, .ref 133, .ref 134, .int 0, .int 0, .int 0, .int 0, .int 0, .int 0, .int 0, .ref 135, .int 0, .ref 136, .int 0, .int 0, .int 0, .int 0, .ref 137, .int 0, .int 0, .int 0, .int 0, .ref 138, .int 0]))))  : gM yX8_end cX8_end 2 ((some .int)) 1 22 [.ref 122, .int p0] (hp) (0) (0) (fun v h => v = some (.int (gE1 p0)) ∧ True) := by
  refine gM_of (ls0 := [some (.ref 122), some (.int p0)]) (by decide +kernel) (Nat.le_of_ble_eq_true rfl) rfl fun X C E => ?_
  refine g_aload_n (q := 1) C dX8_end_0 rfl rfl ?_
  refine g_iconst (v := 0) (q := 2) C dX8_end_1 (by decide) rfl ?_
  refine g_putfield (q := 5) C fX8_66 dX8_end_2 rfl H122 (Nat.le_of_ble_eq_true rfl) (Or.inl rfl) rfl rfl (by intro z h; cases h) ?_
  refine g_iload_n (q := 6) C dX8_end_5 rfl rfl ?_
  refine g_iconst (v := 0) (q := 7) C dX8_end_6 (by decide) rfl ?_
  refine g_aload_n (q := 8) C dX8_end_7 rfl rfl ?_
  refine g_getfield (q := 11) C fX8_75 dX8_end_8 rfl (gset_self H122) rfl ?_
  refine g_callSi (q := 14) (As := [.int p0, .int 0, .int 0]) C gyX8_within t_1216 t_1215 (c_X8_within) dX8_end_11 rfl rfl rfl (Nat.le_of_ble_eq_true rfl) (Nat.le_of_ble_eq_true rfl) (Nat.le_of_ble_eq_true rfl) (Nat.le_of_ble_eq_true rfl) (Nat.le_of_ble_eq_true rfl) rfl ?_
  refine g_if_ne (t := 19) (q := 17) C dX8_end_14 (by decide) rfl (fun c_14 => ?_) (fun c_14 => ?_)
  · -- to 19
    refine g_aload_n (q := 20) C dX8_end_19 rfl rfl ?_
    refine g_iload_n (q := 21) C dX8_end_20 rfl rfl ?_
    refine g_putfield (q := 24) C fX8_75 dX8_end_21 rfl (gset_self H122) (Nat.le_of_ble_eq_true rfl) (Or.inl rfl) rfl rfl (by intro z h; cases h) ?_
    refine g_iload_n (q := 25) C dX8_end_24 rfl rfl ?_
    exact E.1 _ _ _ _ _ _ _ dX8_end_25 rfl rfl (Nat.le_of_ble_eq_true rfl) (Nat.le_of_ble_eq_true rfl) ⟨by rw [gE1, if_neg (fun h => c_14 (gwit0.mpr (Or.inl h))), if_neg (fun h => c_14 (gwit0.mpr (Or.inr h)))], trivial⟩
  · -- to 17
    refine g_iconst (v := (-1)) (q := 18) C dX8_end_17 (by decide) rfl ?_
    exact E.1 _ _ _ _ _ _ _ dX8_end_18 rfl rfl (Nat.le_of_ble_eq_true rfl) (Nat.le_of_ble_eq_true rfl) ⟨by rcases gwit0.mp c_14 with h | h <;> simp [gE1, h], trivial⟩
theorem dX8_repeats_0 : decode cX8_repeats 0 = .ok (.aload_n 0, 1) := by decide +kernel
theorem dX8_repeats_1 : decode cX8_repeats 1 = .ok (.iconst 0, 1) := by decide +kernel
theorem dX8_repeats_2 : decode cX8_repeats 2 = .ok (.putfield 66, 3) := by decide +kernel
theorem dX8_repeats_5 : decode cX8_repeats 5 = .ok (.iload_n 1, 1) := by decide +kernel
theorem dX8_repeats_6 : decode cX8_repeats 6 = .ok (.iconst 0, 1) := by decide +kernel
theorem dX8_repeats_7 : decode cX8_repeats 7 = .ok (.iconst 3, 1) := by decide +kernel
theorem dX8_repeats_8 : decode cX8_repeats 8 = .ok (.invokestatic 82, 3) := by decide +kernel
theorem dX8_repeats_11 : decode cX8_repeats 11 = .ok (.ifCond .ne 5, 3) := by decide +kernel
theorem dX8_repeats_14 : decode cX8_repeats 14 = .ok (.iconst (-1), 1) := by decide +kernel
theorem dX8_repeats_15 : decode cX8_repeats 15 = .ok (.ireturn, 1) := by decide +kernel
theorem dX8_repeats_16 : decode cX8_repeats 16 = .ok (.aload_n 0, 1) := by decide +kernel
theorem dX8_repeats_17 : decode cX8_repeats 17 = .ok (.getfield 28, 3) := by decide +kernel
theorem dX8_repeats_20 : decode cX8_repeats 20 = .ok (.istore_n 2, 1) := by decide +kernel
theorem dX8_repeats_21 : decode cX8_repeats 21 = .ok (.aload_n 0, 1) := by decide +kernel
theorem dX8_repeats_22 : decode cX8_repeats 22 = .ok (.iload_n 1, 1) := by decide +kernel
theorem dX8_repeats_23 : decode cX8_repeats 23 = .ok (.putfield 28, 3) := by decide +kernel
theorem dX8_repeats_26 : decode cX8_repeats 26 = .ok (.iload_n 2, 1) := by decide +kernel
theorem dX8_repeats_27 : decode cX8_repeats 27 = .ok (.ireturn, 1) := by decide +kernel
set_option maxRecDepth 100000 in
set_option maxHeartbeats 4000000 in
theorem c_X8_repeats_0 {hp : List gA} {p0 : Int32} (H122 : hp[122]? = some (.inr (.inr (8, [.ref 123, .int 0, .int 0, .int 0, .ref 124, .ref 125, .ref 126, .ref 127, .ref 128, .int 1, .ref 129, .ref 130, .int 0, .int 0, .ref 131, .ref 132, .ref 133, .ref 134, .int 0, .int 0, .int 0, .int 0, .int 0, .int 0, .int 0, .ref 135, .int 0, .ref 136, .int 0, .int 0, .int 0, .int 0, .ref 137, .int 0, .int 0, .int 0, .int 0, .ref 138, .int 0]))))  : gM yX8_repeats cX8_repeats 3 ((some .int)) 1 22 [.ref 122, .int p0] (hp) (0) (0) (fun v h => v = some (.int (gE3 p0)) ∧ True) := by
  refine gM_of (ls0 := [some (.ref 122), some (.int p0), none]) (by decide +kernel) (Nat.le_of_ble_eq_true rfl) rfl fun X C E => ?_
  refine g_aload_n (q := 1) C dX8_repeats_0 rfl rfl ?_
  refine g_iconst (v := 0) (q := 2) C dX8_repeats_1 (by decide) rfl ?_
  refine g_putfield (q := 5) C fX8_66 dX8_repeats_2 rfl H122 (Nat.le_of_ble_eq_true rfl) (Or.inl rfl) rfl rfl (by intro z h; cases h) ?_
  refine g_iload_n (q := 6) C dX8_repeats_5 rfl rfl ?_
  refine g_iconst (v := 0) (q := 7) C dX8_repeats_6 (by decide) rfl ?_
  refine g_iconst (v := 3) (q := 8) C dX8_repeats_7 (by decide) rfl ?_
  refine g_callSi (q := 11) (As := [.int p0, .int 0, .int 3]) C gyX8_within t_1216 t_1215 (c_X8_within) dX8_repeats_8 rfl rfl rfl (Nat.le_of_ble_eq_true rfl) (Nat.le_of_ble_eq_true rfl) (Nat.le_of_ble_eq_true rfl) (Nat.le_of_ble_eq_true rfl) (Nat.le_of_ble_eq_true rfl) rfl ?_
  refine g_if_ne (t := 16) (q := 14) C dX8_repeats_11 (by decide) rfl (fun c_11 => ?_) (fun c_11 => ?_)
  · -- to 16
    refine g_aload_n (q := 17) C dX8_repeats_16 rfl rfl ?_
    refine g_getfield (q := 20) C fX8_28 dX8_repeats_17 rfl (gset_self H122) rfl ?_
    refine g_istore_n (q := 21) C dX8_repeats_20 (Nat.le_of_ble_eq_true rfl) (by simp only [gset]; rfl) rfl ?_
    refine g_aload_n (q := 22) C dX8_repeats_21 rfl rfl ?_
    refine g_iload_n (q := 23) C dX8_repeats_22 rfl rfl ?_
    refine g_putfield (q := 26) C fX8_28 dX8_repeats_23 rfl (gset_self H122) (Nat.le_of_ble_eq_true rfl) (Or.inl rfl) rfl rfl (by intro z h; cases h) ?_
    refine g_iload_n (q := 27) C dX8_repeats_26 rfl rfl ?_
    exact E.1 _ _ _ _ _ _ _ dX8_repeats_27 rfl rfl (Nat.le_of_ble_eq_true rfl) (Nat.le_of_ble_eq_true rfl) ⟨by rw [gE3, if_neg (fun h => c_11 (gwit0.mpr (Or.inl h))), if_neg (fun h => c_11 (gwit0.mpr (Or.inr h)))], trivial⟩
  · -- to 14
    refine g_iconst (v := (-1)) (q := 15) C dX8_repeats_14 (by decide) rfl ?_
    exact E.1 _ _ _ _ _ _ _ dX8_repeats_15 rfl rfl (Nat.le_of_ble_eq_true rfl) (Nat.le_of_ble_eq_true rfl) ⟨by rcases gwit0.mp c_11 with h | h <;> simp [gE3, h], trivial⟩
theorem dX8_log_0 : decode cX8_log 0 = .ok (.aload_n 0, 1) := by decide +kernel
theorem dX8_log_1 : decode cX8_log 1 = .ok (.iload_n 1, 1) := by decide +kernel
theorem dX8_log_2 : decode cX8_log 2 = .ok (.iconst 0, 1) := by decide +kernel
theorem dX8_log_3 : decode cX8_log 3 = .ok (.aload_n 0, 1) := by decide +kernel
theorem dX8_log_4 : decode cX8_log 4 = .ok (.getfield 69, 3) := by decide +kernel
theorem dX8_log_7 : decode cX8_log 7 = .ok (.iconst 1, 1) := by decide +kernel
theorem dX8_log_8 : decode cX8_log 8 = .ok (.isub, 1) := by decide +kernel
theorem dX8_log_9 : decode cX8_log 9 = .ok (.invokestatic 82, 3) := by decide +kernel
theorem dX8_log_12 : decode cX8_log 12 = .ok (.ifCond .eq 16, 3) := by decide +kernel
theorem dX8_log_28 : decode cX8_log 28 = .ok (.iconst 1, 1) := by decide +kernel
theorem dX8_log_29 : decode cX8_log 29 = .ok (.putfield 66, 3) := by decide +kernel
theorem dX8_log_32 : decode cX8_log 32 = .ok (.aload_n 0, 1) := by decide +kernel
theorem dX8_log_33 : decode cX8_log 33 = .ok (.getfield 66, 3) := by decide +kernel
theorem dX8_log_36 : decode cX8_log 36 = .ok (.iconst 1, 1) := by decide +kernel
theorem dX8_log_37 : decode cX8_log 37 = .ok (.if_icmp .ne 5, 3) := by decide +kernel
theorem dX8_log_40 : decode cX8_log 40 = .ok (.iconst 0, 1) := by decide +kernel
theorem dX8_log_41 : decode cX8_log 41 = .ok (.ireturn, 1) := by decide +kernel
set_option maxRecDepth 100000 in
set_option maxHeartbeats 4000000 in
theorem c_X8_log_0 {hp : List gA} {p0 : Int32} {p1 : Int32} (H122 : hp[122]? = some (.inr (.inr (8, [.ref 123, .int 0, .int 0, .int 0, .ref 124, .ref 125, .ref 126, .ref 127, .ref 128, .int 1, .ref 129, .ref 130, .int 0, .int 0, .ref 131, .ref 132, .ref 133, .ref 134, .int 0, .int 0, .int 0, .int 0, .int 0, .int 0, .int 0, .ref 135, .int 0, .ref 136, .int 0, .int 0, .int 0, .int 0, .ref 137, .int 0, .int 0, .int 0, .int 0, .ref 138, .int 0]))))  : gM yX8_log cX8_log 4 ((some .int)) 1 22 [.ref 122, .int p0, .int p1] (hp) (0) (0) (fun v h => v = some (.int 0) ∧ h[122]? = some (.inr (.inr (8, [.ref 123, .int 0, .int 1, .int 0, .ref 124, .ref 125, .ref 126, .ref 127, .ref 128, .int 1, .ref 129, .ref 130, .int 0, .int 0, .ref 131, .ref 132, .ref 133, .ref 134, .int 0, .int 0, .int 0, .int 0, .int 0, .int 0, .int 0, .ref 135, .int 0, .ref 136, .int 0, .int 0, .int 0, .int 0, .ref 137, .int 0, .int 0, .int 0, .int 0, .ref 138, .int 0])))) := by
  refine gM_of (ls0 := [some (.ref 122), some (.int p0), some (.int p1), none]) (by decide +kernel) (Nat.le_of_ble_eq_true rfl) rfl fun X C E => ?_
  refine g_aload_n (q := 1) C dX8_log_0 rfl rfl ?_
  refine g_iload_n (q := 2) C dX8_log_1 rfl rfl ?_
  refine g_iconst (v := 0) (q := 3) C dX8_log_2 (by decide) rfl ?_
  refine g_aload_n (q := 4) C dX8_log_3 rfl rfl ?_
  refine g_getfield (q := 7) C fX8_69 dX8_log_4 rfl H122 rfl ?_
  refine g_iconst (v := 1) (q := 8) C dX8_log_7 (by decide) rfl ?_
  refine g_isub (q := 9) C dX8_log_8 rfl ?_
  refine g_callSi (q := 12) (As := [.int p0, .int 0, .int ((-1))]) C gyX8_within t_1216 t_1215 (c_X8_within) dX8_log_9 rfl rfl rfl (Nat.le_of_ble_eq_true rfl) (Nat.le_of_ble_eq_true rfl) (Nat.le_of_ble_eq_true rfl) (Nat.le_of_ble_eq_true rfl) (Nat.le_of_ble_eq_true rfl) rfl ?_
  refine g_if_eq_t (t := 28) C dX8_log_12 (by decide) (gwm1 _) ?_
  refine g_iconst (v := 1) (q := 29) C dX8_log_28 (by decide) rfl ?_
  refine g_putfield (q := 32) C fX8_66 dX8_log_29 rfl H122 (Nat.le_of_ble_eq_true rfl) (Or.inl rfl) rfl rfl (by intro z h; cases h) ?_
  refine g_aload_n (q := 33) C dX8_log_32 rfl rfl ?_
  refine g_getfield (q := 36) C fX8_66 dX8_log_33 rfl (gset_self H122) rfl ?_
  refine g_iconst (v := 1) (q := 37) C dX8_log_36 (by decide) rfl ?_
  refine g_icmp_ne_f (t := 42) (q := 40) C dX8_log_37 (by decide) rfl (by decide) ?_
  refine g_iconst (v := 0) (q := 41) C dX8_log_40 (by decide) rfl ?_
  exact E.1 _ _ _ _ _ _ _ dX8_log_41 rfl rfl (Nat.le_of_ble_eq_true rfl) (Nat.le_of_ble_eq_true rfl) ⟨rfl, gset_self H122⟩
theorem dX8_faultsToCome_0 : decode cX8_faultsToCome 0 = .ok (.iconst 0, 1) := by decide +kernel
theorem dX8_faultsToCome_1 : decode cX8_faultsToCome 1 = .ok (.istore_n 1, 1) := by decide +kernel
theorem dX8_faultsToCome_2 : decode cX8_faultsToCome 2 = .ok (.iconst 0, 1) := by decide +kernel
theorem dX8_faultsToCome_3 : decode cX8_faultsToCome 3 = .ok (.istore_n 2, 1) := by decide +kernel
theorem dX8_faultsToCome_4 : decode cX8_faultsToCome 4 = .ok (.iload_n 2, 1) := by decide +kernel
theorem dX8_faultsToCome_5 : decode cX8_faultsToCome 5 = .ok (.aload_n 0, 1) := by decide +kernel
theorem dX8_faultsToCome_6 : decode cX8_faultsToCome 6 = .ok (.getfield 22, 3) := by decide +kernel
theorem dX8_faultsToCome_9 : decode cX8_faultsToCome 9 = .ok (.sipush 430, 3) := by decide +kernel
theorem dX8_faultsToCome_12 : decode cX8_faultsToCome 12 = .ok (.iaload, 1) := by decide +kernel
theorem dX8_faultsToCome_13 : decode cX8_faultsToCome 13 = .ok (.if_icmp .ge 35, 3) := by decide +kernel
theorem dX8_faultsToCome_48 : decode cX8_faultsToCome 48 = .ok (.iload_n 1, 1) := by decide +kernel
theorem dX8_faultsToCome_49 : decode cX8_faultsToCome 49 = .ok (.ireturn, 1) := by decide +kernel
set_option maxRecDepth 100000 in
set_option maxHeartbeats 4000000 in
theorem c_X8_faultsToCome_0 {hp : List gA} {m : Nat} {taped0 thrown0 hasCard0 repeats0 logged0 logAt0 unlike0 quiet0 size0 at0 fault0 special0 hasOther0 blockMany0 cameMany0 cameHow0 hasLost0 hasSpoilt0 hasSent0 tryOf0 reason0 wouldSend0 wantedMany0 : Int32} {tapeA toldA draftA historyA sA keptA logA logBytesA unlikeFromA unlikeSideA unlikeOftenA unlikeBytesA blockA cameA infA wantedA : Nat} {f : Nat → Int32} (hm : hp[m]? = some (.inr (.inr (8, [.ref tapeA, .int taped0, .int thrown0, .int hasCard0, .ref toldA, .ref draftA, .ref historyA, .ref sA, .ref keptA, .int repeats0, .ref logA, .ref logBytesA, .int logged0, .int logAt0, .ref unlikeFromA, .ref unlikeSideA, .ref unlikeOftenA, .ref unlikeBytesA, .int unlike0, .int quiet0, .int size0, .int at0, .int fault0, .int special0, .int hasOther0, .ref blockA, .int blockMany0, .ref cameA, .int cameMany0, .int cameHow0, .int hasLost0, .int hasSpoilt0, .ref infA, .int hasSent0, .int tryOf0, .int reason0, .int wouldSend0, .ref wantedA, .int wantedMany0])))) (hs : hp[sA]? = some (.inl (772, f))) (hf : ∀ j, j < 772 → f j = gS0 j) : gM yX8_faultsToCome cX8_faultsToCome 3 ((some .int)) 0 0 [.ref m] (hp) (0) (0) (fun v h => v = some (.int 0) ∧ h = hp) := by
  refine gM_of (ls0 := [some (.ref m), none, none]) (by decide +kernel) (Nat.le_of_ble_eq_true rfl) rfl fun X C E => ?_
  refine g_iconst (v := 0) (q := 1) C dX8_faultsToCome_0 (by decide) rfl ?_
  refine g_istore_n (q := 2) C dX8_faultsToCome_1 (Nat.le_of_ble_eq_true rfl) (by simp only [gset]; rfl) rfl ?_
  refine g_iconst (v := 0) (q := 3) C dX8_faultsToCome_2 (by decide) rfl ?_
  refine g_istore_n (q := 4) C dX8_faultsToCome_3 (Nat.le_of_ble_eq_true rfl) (by simp only [gset]; rfl) rfl ?_
  refine g_iload_n (q := 5) C dX8_faultsToCome_4 rfl rfl ?_
  refine g_aload_n (q := 6) C dX8_faultsToCome_5 rfl rfl ?_
  refine g_getfield (q := 9) C fX8_22 dX8_faultsToCome_6 rfl hm rfl ?_
  refine g_sipush (v := 430) (q := 12) C dX8_faultsToCome_9 (by decide) rfl ?_
  refine g_ialoadN (x := 0) (q := 13) C dX8_faultsToCome_12 rfl hs (by unfold vp_in; decide) (by decide) ((hf 430 (by decide)).trans (by decide +kernel)) ?_
  refine g_icmp_ge_t (t := 48) C dX8_faultsToCome_13 (by decide) (by decide) ?_
  refine g_iload_n (q := 49) C dX8_faultsToCome_48 rfl rfl ?_
  exact E.1 _ _ _ _ _ _ _ dX8_faultsToCome_49 rfl rfl (Nat.le_of_ble_eq_true rfl) (Nat.le_of_ble_eq_true rfl) ⟨rfl, rfl⟩
theorem dX8_count_0 : decode cX8_count 0 = .ok (.aload_n 0, 1) := by decide +kernel
theorem dX8_count_1 : decode cX8_count 1 = .ok (.iconst 0, 1) := by decide +kernel
theorem dX8_count_2 : decode cX8_count 2 = .ok (.putfield 66, 3) := by decide +kernel
theorem dX8_count_5 : decode cX8_count 5 = .ok (.iload_n 1, 1) := by decide +kernel
theorem dX8_count_6 : decode cX8_count 6 = .ok (.tableswitch 137 0 10 #[58, 67, 76, 81, 90, 95, 100, 105, 114, 123, 132], 58) := by decide +kernel
theorem dX8_count_64 : decode cX8_count 64 = .ok (.aload_n 0, 1) := by decide +kernel
theorem dX8_count_65 : decode cX8_count 65 = .ok (.getfield 22, 3) := by decide +kernel
theorem dX8_count_68 : decode cX8_count 68 = .ok (.sipush 423, 3) := by decide +kernel
theorem dX8_count_71 : decode cX8_count 71 = .ok (.iaload, 1) := by decide +kernel
theorem dX8_count_72 : decode cX8_count 72 = .ok (.ireturn, 1) := by decide +kernel
theorem dX8_count_73 : decode cX8_count 73 = .ok (.aload_n 0, 1) := by decide +kernel
theorem dX8_count_74 : decode cX8_count 74 = .ok (.getfield 22, 3) := by decide +kernel
theorem dX8_count_77 : decode cX8_count 77 = .ok (.sipush 424, 3) := by decide +kernel
theorem dX8_count_80 : decode cX8_count 80 = .ok (.iaload, 1) := by decide +kernel
theorem dX8_count_81 : decode cX8_count 81 = .ok (.ireturn, 1) := by decide +kernel
theorem dX8_count_82 : decode cX8_count 82 = .ok (.aload_n 0, 1) := by decide +kernel
theorem dX8_count_83 : decode cX8_count 83 = .ok (.invokevirtual 324, 3) := by decide +kernel
theorem dX8_count_86 : decode cX8_count 86 = .ok (.ireturn, 1) := by decide +kernel
theorem dX8_count_87 : decode cX8_count 87 = .ok (.aload_n 0, 1) := by decide +kernel
theorem dX8_count_88 : decode cX8_count 88 = .ok (.getfield 22, 3) := by decide +kernel
theorem dX8_count_91 : decode cX8_count 91 = .ok (.sipush 422, 3) := by decide +kernel
theorem dX8_count_94 : decode cX8_count 94 = .ok (.iaload, 1) := by decide +kernel
theorem dX8_count_95 : decode cX8_count 95 = .ok (.ireturn, 1) := by decide +kernel
theorem dX8_count_96 : decode cX8_count 96 = .ok (.aload_n 0, 1) := by decide +kernel
theorem dX8_count_97 : decode cX8_count 97 = .ok (.getfield 72, 3) := by decide +kernel
theorem dX8_count_100 : decode cX8_count 100 = .ok (.ireturn, 1) := by decide +kernel
theorem dX8_count_101 : decode cX8_count 101 = .ok (.aload_n 0, 1) := by decide +kernel
theorem dX8_count_102 : decode cX8_count 102 = .ok (.getfield 69, 3) := by decide +kernel
theorem dX8_count_105 : decode cX8_count 105 = .ok (.ireturn, 1) := by decide +kernel
theorem dX8_count_106 : decode cX8_count 106 = .ok (.aload_n 0, 1) := by decide +kernel
theorem dX8_count_107 : decode cX8_count 107 = .ok (.getfield 28, 3) := by decide +kernel
theorem dX8_count_110 : decode cX8_count 110 = .ok (.ireturn, 1) := by decide +kernel
theorem dX8_count_111 : decode cX8_count 111 = .ok (.aload_n 0, 1) := by decide +kernel
theorem dX8_count_112 : decode cX8_count 112 = .ok (.getfield 22, 3) := by decide +kernel
theorem dX8_count_115 : decode cX8_count 115 = .ok (.sipush 425, 3) := by decide +kernel
theorem dX8_count_118 : decode cX8_count 118 = .ok (.iaload, 1) := by decide +kernel
theorem dX8_count_119 : decode cX8_count 119 = .ok (.ireturn, 1) := by decide +kernel
theorem dX8_count_120 : decode cX8_count 120 = .ok (.aload_n 0, 1) := by decide +kernel
theorem dX8_count_121 : decode cX8_count 121 = .ok (.getfield 22, 3) := by decide +kernel
theorem dX8_count_124 : decode cX8_count 124 = .ok (.sipush 426, 3) := by decide +kernel
theorem dX8_count_127 : decode cX8_count 127 = .ok (.iaload, 1) := by decide +kernel
theorem dX8_count_128 : decode cX8_count 128 = .ok (.ireturn, 1) := by decide +kernel
theorem dX8_count_129 : decode cX8_count 129 = .ok (.aload_n 0, 1) := by decide +kernel
theorem dX8_count_130 : decode cX8_count 130 = .ok (.getfield 22, 3) := by decide +kernel
theorem dX8_count_133 : decode cX8_count 133 = .ok (.sipush 427, 3) := by decide +kernel
theorem dX8_count_136 : decode cX8_count 136 = .ok (.iaload, 1) := by decide +kernel
theorem dX8_count_137 : decode cX8_count 137 = .ok (.ireturn, 1) := by decide +kernel
theorem dX8_count_138 : decode cX8_count 138 = .ok (.aload_n 0, 1) := by decide +kernel
theorem dX8_count_139 : decode cX8_count 139 = .ok (.getfield 75, 3) := by decide +kernel
theorem dX8_count_142 : decode cX8_count 142 = .ok (.ireturn, 1) := by decide +kernel
theorem dX8_count_143 : decode cX8_count 143 = .ok (.iconst (-1), 1) := by decide +kernel
theorem dX8_count_144 : decode cX8_count 144 = .ok (.ireturn, 1) := by decide +kernel
set_option maxRecDepth 100000 in
set_option maxHeartbeats 4000000 in
theorem c_X8_count_0 {hp : List gA} {p0 : Int32} {f127 : Nat → Int32} (H122 : hp[122]? = some (.inr (.inr (8, [.ref 123, .int 0, .int 0, .int 0, .ref 124, .ref 125, .ref 126, .ref 127, .ref 128, .int 1, .ref 129, .ref 130, .int 0, .int 0, .ref 131, .ref 132, .ref 133, .ref 134, .int 0, .int 0, .int 0, .int 0, .int 0, .int 0, .int 0, .ref 135, .int 0, .ref 136, .int 0, .int 0, .int 0, .int 0, .ref 137, .int 0, .int 0, .int 0, .int 0, .ref 138, .int 0])))) (H127 : hp[127]? = some (.inl (772, f127))) (hf : ∀ j, j < 772 → f127 j = gS0 j) : gM yX8_count cX8_count 2 ((some .int)) 1 22 [.ref 122, .int p0] (hp) (0) (0) (fun v h => v = some (.int (gE2 p0)) ∧ True) := by
  refine gM_of (ls0 := [some (.ref 122), some (.int p0)]) (by decide +kernel) (Nat.le_of_ble_eq_true rfl) rfl fun X C E => ?_
  refine g_aload_n (q := 1) C dX8_count_0 rfl rfl ?_
  refine g_iconst (v := 0) (q := 2) C dX8_count_1 (by decide) rfl ?_
  refine g_putfield (q := 5) C fX8_66 dX8_count_2 rfl H122 (Nat.le_of_ble_eq_true rfl) (Or.inl rfl) rfl rfl (by intro z h; cases h) ?_
  refine g_iload_n (q := 6) C dX8_count_5 rfl rfl ?_
  by_cases c_6_0 : p0 = 0
  · subst c_6_0
    refine g_tableIn (off := 58) (t := 64) C dX8_count_6 (by decide) (by decide) (by decide) (by decide) ?_
    refine g_aload_n (q := 65) C dX8_count_64 rfl rfl ?_
    refine g_getfield (q := 68) C fX8_22 dX8_count_65 rfl (gset_self H122) rfl ?_
    refine g_sipush (v := 423) (q := 71) C dX8_count_68 (by decide) rfl ?_
    refine g_ialoadN (x := 0) (q := 72) C dX8_count_71 rfl (gset_other H127 (by decide)) (by unfold vp_in; decide) (by decide) ((hf 423 (by decide)).trans (by decide +kernel)) ?_
    exact E.1 _ _ _ _ _ _ _ dX8_count_72 rfl rfl (Nat.le_of_ble_eq_true rfl) (Nat.le_of_ble_eq_true rfl) ⟨by decide, trivial⟩
  by_cases c_6_1 : p0 = 1
  · subst c_6_1
    refine g_tableIn (off := 67) (t := 73) C dX8_count_6 (by decide) (by decide) (by decide) (by decide) ?_
    refine g_aload_n (q := 74) C dX8_count_73 rfl rfl ?_
    refine g_getfield (q := 77) C fX8_22 dX8_count_74 rfl (gset_self H122) rfl ?_
    refine g_sipush (v := 424) (q := 80) C dX8_count_77 (by decide) rfl ?_
    refine g_ialoadN (x := 0) (q := 81) C dX8_count_80 rfl (gset_other H127 (by decide)) (by unfold vp_in; decide) (by decide) ((hf 424 (by decide)).trans (by decide +kernel)) ?_
    exact E.1 _ _ _ _ _ _ _ dX8_count_81 rfl rfl (Nat.le_of_ble_eq_true rfl) (Nat.le_of_ble_eq_true rfl) ⟨by decide, trivial⟩
  by_cases c_6_2 : p0 = 2
  · subst c_6_2
    refine g_tableIn (off := 76) (t := 82) C dX8_count_6 (by decide) (by decide) (by decide) (by decide) ?_
    refine g_aload_n (q := 83) C dX8_count_82 rfl rfl ?_
    refine g_callVi (q := 86) (As := []) C gyX8_faultsToCome gvX8_faultsToCome t_1510 (c_X8_faultsToCome_0 (gset_self H122) (gset_other H127 (by decide)) hf) dX8_count_83 rfl (gset_self H122) rfl rfl rfl (Nat.le_of_ble_eq_true rfl) (Nat.le_of_ble_eq_true rfl) (Nat.le_of_ble_eq_true rfl) (Nat.le_of_ble_eq_true rfl) (Nat.le_of_ble_eq_true rfl) rfl ?_
    exact E.1 _ _ _ _ _ _ _ dX8_count_86 rfl rfl (Nat.le_of_ble_eq_true rfl) (Nat.le_of_ble_eq_true rfl) ⟨by decide, trivial⟩
  by_cases c_6_3 : p0 = 3
  · subst c_6_3
    refine g_tableIn (off := 81) (t := 87) C dX8_count_6 (by decide) (by decide) (by decide) (by decide) ?_
    refine g_aload_n (q := 88) C dX8_count_87 rfl rfl ?_
    refine g_getfield (q := 91) C fX8_22 dX8_count_88 rfl (gset_self H122) rfl ?_
    refine g_sipush (v := 422) (q := 94) C dX8_count_91 (by decide) rfl ?_
    refine g_ialoadN (x := 0) (q := 95) C dX8_count_94 rfl (gset_other H127 (by decide)) (by unfold vp_in; decide) (by decide) ((hf 422 (by decide)).trans (by decide +kernel)) ?_
    exact E.1 _ _ _ _ _ _ _ dX8_count_95 rfl rfl (Nat.le_of_ble_eq_true rfl) (Nat.le_of_ble_eq_true rfl) ⟨by decide, trivial⟩
  by_cases c_6_4 : p0 = 4
  · subst c_6_4
    refine g_tableIn (off := 90) (t := 96) C dX8_count_6 (by decide) (by decide) (by decide) (by decide) ?_
    refine g_aload_n (q := 97) C dX8_count_96 rfl rfl ?_
    refine g_getfield (q := 100) C fX8_72 dX8_count_97 rfl (gset_self H122) rfl ?_
    exact E.1 _ _ _ _ _ _ _ dX8_count_100 rfl rfl (Nat.le_of_ble_eq_true rfl) (Nat.le_of_ble_eq_true rfl) ⟨by decide, trivial⟩
  by_cases c_6_5 : p0 = 5
  · subst c_6_5
    refine g_tableIn (off := 95) (t := 101) C dX8_count_6 (by decide) (by decide) (by decide) (by decide) ?_
    refine g_aload_n (q := 102) C dX8_count_101 rfl rfl ?_
    refine g_getfield (q := 105) C fX8_69 dX8_count_102 rfl (gset_self H122) rfl ?_
    exact E.1 _ _ _ _ _ _ _ dX8_count_105 rfl rfl (Nat.le_of_ble_eq_true rfl) (Nat.le_of_ble_eq_true rfl) ⟨by decide, trivial⟩
  by_cases c_6_6 : p0 = 6
  · subst c_6_6
    refine g_tableIn (off := 100) (t := 106) C dX8_count_6 (by decide) (by decide) (by decide) (by decide) ?_
    refine g_aload_n (q := 107) C dX8_count_106 rfl rfl ?_
    refine g_getfield (q := 110) C fX8_28 dX8_count_107 rfl (gset_self H122) rfl ?_
    exact E.1 _ _ _ _ _ _ _ dX8_count_110 rfl rfl (Nat.le_of_ble_eq_true rfl) (Nat.le_of_ble_eq_true rfl) ⟨by decide, trivial⟩
  by_cases c_6_7 : p0 = 7
  · subst c_6_7
    refine g_tableIn (off := 105) (t := 111) C dX8_count_6 (by decide) (by decide) (by decide) (by decide) ?_
    refine g_aload_n (q := 112) C dX8_count_111 rfl rfl ?_
    refine g_getfield (q := 115) C fX8_22 dX8_count_112 rfl (gset_self H122) rfl ?_
    refine g_sipush (v := 425) (q := 118) C dX8_count_115 (by decide) rfl ?_
    refine g_ialoadN (x := 0) (q := 119) C dX8_count_118 rfl (gset_other H127 (by decide)) (by unfold vp_in; decide) (by decide) ((hf 425 (by decide)).trans (by decide +kernel)) ?_
    exact E.1 _ _ _ _ _ _ _ dX8_count_119 rfl rfl (Nat.le_of_ble_eq_true rfl) (Nat.le_of_ble_eq_true rfl) ⟨by decide, trivial⟩
  by_cases c_6_8 : p0 = 8
  · subst c_6_8
    refine g_tableIn (off := 114) (t := 120) C dX8_count_6 (by decide) (by decide) (by decide) (by decide) ?_
    refine g_aload_n (q := 121) C dX8_count_120 rfl rfl ?_
    refine g_getfield (q := 124) C fX8_22 dX8_count_121 rfl (gset_self H122) rfl ?_
    refine g_sipush (v := 426) (q := 127) C dX8_count_124 (by decide) rfl ?_
    refine g_ialoadN (x := 0) (q := 128) C dX8_count_127 rfl (gset_other H127 (by decide)) (by unfold vp_in; decide) (by decide) ((hf 426 (by decide)).trans (by decide +kernel)) ?_
    exact E.1 _ _ _ _ _ _ _ dX8_count_128 rfl rfl (Nat.le_of_ble_eq_true rfl) (Nat.le_of_ble_eq_true rfl) ⟨by decide, trivial⟩
  by_cases c_6_9 : p0 = 9
  · subst c_6_9
    refine g_tableIn (off := 123) (t := 129) C dX8_count_6 (by decide) (by decide) (by decide) (by decide) ?_
    refine g_aload_n (q := 130) C dX8_count_129 rfl rfl ?_
    refine g_getfield (q := 133) C fX8_22 dX8_count_130 rfl (gset_self H122) rfl ?_
    refine g_sipush (v := 427) (q := 136) C dX8_count_133 (by decide) rfl ?_
    refine g_ialoadN (x := 0) (q := 137) C dX8_count_136 rfl (gset_other H127 (by decide)) (by unfold vp_in; decide) (by decide) ((hf 427 (by decide)).trans (by decide +kernel)) ?_
    exact E.1 _ _ _ _ _ _ _ dX8_count_137 rfl rfl (Nat.le_of_ble_eq_true rfl) (Nat.le_of_ble_eq_true rfl) ⟨by decide, trivial⟩
  by_cases c_6_10 : p0 = 10
  · subst c_6_10
    refine g_tableIn (off := 132) (t := 138) C dX8_count_6 (by decide) (by decide) (by decide) (by decide) ?_
    refine g_aload_n (q := 139) C dX8_count_138 rfl rfl ?_
    refine g_getfield (q := 142) C fX8_75 dX8_count_139 rfl (gset_self H122) rfl ?_
    exact E.1 _ _ _ _ _ _ _ dX8_count_142 rfl rfl (Nat.le_of_ble_eq_true rfl) (Nat.le_of_ble_eq_true rfl) ⟨by decide, trivial⟩
  refine g_tableOut (t := 143) C dX8_count_6 (gOut11 c_6_0 c_6_1 c_6_2 c_6_3 c_6_4 c_6_5 c_6_6 c_6_7 c_6_8 c_6_9 c_6_10) (by decide) ?_
  refine g_iconst (v := (-1)) (q := 144) C dX8_count_143 (by decide) rfl ?_
  exact E.1 _ _ _ _ _ _ _ dX8_count_144 rfl rfl (Nat.le_of_ble_eq_true rfl) (Nat.le_of_ble_eq_true rfl) ⟨by rw [gE2, if_neg c_6_6, if_pos (gOut11 c_6_0 c_6_1 c_6_2 c_6_3 c_6_4 c_6_5 c_6_6 c_6_7 c_6_8 c_6_9 c_6_10)], trivial⟩
theorem dX8_eight_0 : decode cX8_eight 0 = .ok (.bipush 56, 2) := by decide +kernel
theorem dX8_eight_2 : decode cX8_eight 2 = .ok (.istore_n 3, 1) := by decide +kernel
theorem dX8_eight_3 : decode cX8_eight 3 = .ok (.iload_n 3, 1) := by decide +kernel
theorem dX8_eight_4 : decode cX8_eight 4 = .ok (.ifCond .lt 36, 3) := by decide +kernel
theorem dX8_eight_7 : decode cX8_eight 7 = .ok (.aload_n 0, 1) := by decide +kernel
theorem dX8_eight_8 : decode cX8_eight 8 = .ok (.getfield 7, 3) := by decide +kernel
theorem dX8_eight_11 : decode cX8_eight 11 = .ok (.aload_n 0, 1) := by decide +kernel
theorem dX8_eight_12 : decode cX8_eight 12 = .ok (.getfield 75, 3) := by decide +kernel
theorem dX8_eight_15 : decode cX8_eight 15 = .ok (.lload_n 1, 1) := by decide +kernel
theorem dX8_eight_16 : decode cX8_eight 16 = .ok (.iload_n 3, 1) := by decide +kernel
theorem dX8_eight_17 : decode cX8_eight 17 = .ok (.lshr, 1) := by decide +kernel
theorem dX8_eight_18 : decode cX8_eight 18 = .ok (.l2i, 1) := by decide +kernel
theorem dX8_eight_19 : decode cX8_eight 19 = .ok (.sipush 255, 3) := by decide +kernel
theorem dX8_eight_22 : decode cX8_eight 22 = .ok (.iand, 1) := by decide +kernel
theorem dX8_eight_23 : decode cX8_eight 23 = .ok (.iastore, 1) := by decide +kernel
theorem dX8_eight_24 : decode cX8_eight 24 = .ok (.aload_n 0, 1) := by decide +kernel
theorem dX8_eight_25 : decode cX8_eight 25 = .ok (.dup, 1) := by decide +kernel
theorem dX8_eight_26 : decode cX8_eight 26 = .ok (.getfield 75, 3) := by decide +kernel
theorem dX8_eight_29 : decode cX8_eight 29 = .ok (.iconst 1, 1) := by decide +kernel
theorem dX8_eight_30 : decode cX8_eight 30 = .ok (.iadd, 1) := by decide +kernel
theorem dX8_eight_31 : decode cX8_eight 31 = .ok (.putfield 75, 3) := by decide +kernel
theorem dX8_eight_34 : decode cX8_eight 34 = .ok (.iinc 3 (-8), 3) := by decide +kernel
theorem dX8_eight_37 : decode cX8_eight 37 = .ok (.goto (-34), 3) := by decide +kernel
theorem dX8_eight_40 : decode cX8_eight 40 = .ok (.return_, 1) := by decide +kernel
set_option maxRecDepth 100000 in
set_option maxHeartbeats 4000000 in
theorem c_X8_eight {hp : List gA} {m : Nat} {thrown0 hasCard0 repeats0 logged0 logAt0 unlike0 quiet0 size0 at0 fault0 special0 hasOther0 blockMany0 cameMany0 cameHow0 hasLost0 hasSpoilt0 hasSent0 tryOf0 reason0 wouldSend0 wantedMany0 : Int32} {tapeA toldA draftA historyA sA keptA logA logBytesA unlikeFromA unlikeSideA unlikeOftenA unlikeBytesA blockA cameA infA wantedA : Nat} {L : Nat} {a : Int64} {f0 : Nat → Int32} (hm : hp[m]? = some (.inr (.inr (8, [.ref tapeA, .int ((nI L)), .int thrown0, .int hasCard0, .ref toldA, .ref draftA, .ref historyA, .ref sA, .ref keptA, .int repeats0, .ref logA, .ref logBytesA, .int logged0, .int logAt0, .ref unlikeFromA, .ref unlikeSideA, .ref unlikeOftenA, .ref unlikeBytesA, .int unlike0, .int quiet0, .int size0, .int at0, .int fault0, .int special0, .int hasOther0, .ref blockA, .int blockMany0, .ref cameA, .int cameMany0, .int cameHow0, .int hasLost0, .int hasSpoilt0, .ref infA, .int hasSent0, .int tryOf0, .int reason0, .int wouldSend0, .ref wantedA, .int wantedMany0])))) (ht : hp[tapeA]? = some (.inl (96, f0))) (hL : L + 8 ≤ 96) : gM yX8_eight cX8_eight 4 (none) 0 0 [.ref m, .long a] (hp) (0) (0) (fun v h => v = none ∧ ∃ f1, h = (hp.set tapeA (.inl (96, f1))).set m (.inr (.inr (8, [.ref tapeA, .int ((nI (L + 8))), .int thrown0, .int hasCard0, .ref toldA, .ref draftA, .ref historyA, .ref sA, .ref keptA, .int repeats0, .ref logA, .ref logBytesA, .int logged0, .int logAt0, .ref unlikeFromA, .ref unlikeSideA, .ref unlikeOftenA, .ref unlikeBytesA, .int unlike0, .int quiet0, .int size0, .int at0, .int fault0, .int special0, .int hasOther0, .ref blockA, .int blockMany0, .ref cameA, .int cameMany0, .int cameHow0, .int hasLost0, .int hasSpoilt0, .ref infA, .int hasSent0, .int tryOf0, .int reason0, .int wouldSend0, .ref wantedA, .int wantedMany0])))) := by
  refine gM_of (ls0 := [some (.ref m), some (.long a), none, none]) (by decide +kernel) (Nat.le_of_ble_eq_true rfl) rfl fun X C E => ?_
  have n_m_tapeA : m ≠ tapeA := gne hm ht (by intro h; cases h)
  have n_tapeA_m : tapeA ≠ m := Ne.symm n_m_tapeA
  have L1 : ∀ (d k : Nat) (f : Nat → Int32), k + d = 8 → gG X 3 [some (.ref m), some (.long a), none, some (.int (nI (8 * d) - 8))] [] ((hp.set tapeA (.inl (96, f))).set m (.inr (.inr (8, [.ref tapeA, .int ((nI (L + k))), .int thrown0, .int hasCard0, .ref toldA, .ref draftA, .ref historyA, .ref sA, .ref keptA, .int repeats0, .ref logA, .ref logBytesA, .int logged0, .int logAt0, .ref unlikeFromA, .ref unlikeSideA, .ref unlikeOftenA, .ref unlikeBytesA, .int unlike0, .int quiet0, .int size0, .int at0, .int fault0, .int special0, .int hasOther0, .ref blockA, .int blockMany0, .ref cameA, .int cameMany0, .int cameHow0, .int hasLost0, .int hasSpoilt0, .ref infA, .int hasSent0, .int tryOf0, .int reason0, .int wouldSend0, .ref wantedA, .int wantedMany0])))) 0 0 := by
    intro d
    induction d with
    | zero =>
      intro k f hk
      have hk8 : k = 8 := by omega
      subst hk8
      refine g_iload_n (q := 4) C dX8_eight_3 rfl rfl ?_
      refine g_if_lt_t (t := 40) C dX8_eight_4 (by decide) (by decide) ?_
      exact E.2.1 _ _ _ _ _ dX8_eight_40 rfl (Nat.le_of_ble_eq_true rfl) (Nat.le_of_ble_eq_true rfl) ⟨rfl, f, rfl⟩
    | succ d ih =>
      intro k f hk
      refine g_iload_n (q := 4) C dX8_eight_3 rfl rfl ?_
      refine g_if_lt_f (t := 40) (q := 7) C dX8_eight_4 (by decide) rfl (by rw [g8]; exact nI_pos (by omega)) ?_
      refine g_aload_n (q := 8) C dX8_eight_7 rfl rfl ?_
      refine g_getfield (q := 11) C fX8_7 dX8_eight_8 rfl (gset_self (gset_other hm n_tapeA_m)) rfl ?_
      refine g_aload_n (q := 12) C dX8_eight_11 rfl rfl ?_
      refine g_getfield (q := 15) C fX8_75 dX8_eight_12 rfl (gset_self (gset_other hm n_tapeA_m)) rfl ?_
      refine g_lload_n (q := 16) C dX8_eight_15 rfl rfl ?_
      refine g_iload_n (q := 17) C dX8_eight_16 rfl rfl ?_
      refine g_lshr (q := 18) C dX8_eight_17 rfl ?_
      refine g_l2i (q := 19) C dX8_eight_18 rfl ?_
      refine g_sipush (v := 255) (q := 22) C dX8_eight_19 (by decide) rfl ?_
      refine g_iand (q := 23) C dX8_eight_22 rfl ?_
      refine g_iastoreN (j := L + k) (q := 24) C dX8_eight_23 rfl (gset_other (gset_self ht) n_m_tapeA) (vp_inN (nI_clamp (by omega)) (nI_pos (by omega)) (by omega)) (nI_clamp (by omega)) ?_
      refine g_aload_n (q := 25) C dX8_eight_24 rfl rfl ?_
      refine g_dup (q := 26) C dX8_eight_25 rfl rfl ?_
      refine g_getfield (q := 29) C fX8_75 dX8_eight_26 rfl (gset_other (gset_self (gset_other hm n_tapeA_m)) (Ne.symm n_m_tapeA)) rfl ?_
      refine g_iconst (v := 1) (q := 30) C dX8_eight_29 (by decide) rfl ?_
      refine g_iadd (q := 31) C dX8_eight_30 rfl ?_
      refine g_putfield (q := 34) C fX8_75 dX8_eight_31 rfl (gset_other (gset_self (gset_other hm n_tapeA_m)) (Ne.symm n_m_tapeA)) (Nat.le_of_ble_eq_true rfl) (Or.inl rfl) rfl rfl (by intro z h; cases h) ?_
      refine g_iinc (v := nI (8 * d) - 8) (q := 37) C dX8_eight_34 rfl (by rw [g8, Int32.sub_eq_add_neg]; rfl) (by simp only [gset]; rfl) rfl ?_
      refine g_goto (q := 3) C dX8_eight_37 (by decide) ?_
      refine g_heap (gsw n_tapeA_m) ?_
      simp only [List.set_cons_succ, List.set_cons_zero]
      rw [nI_1, Nat.add_assoc]
      exact ih (k + 1) _ (by omega)
  refine g_bipush (v := 56) (q := 2) C dX8_eight_0 (by decide) rfl ?_
  refine g_istore_n (q := 3) C dX8_eight_2 (Nat.le_of_ble_eq_true rfl) (by simp only [gset]; rfl) rfl ?_
  have h0 := L1 8 0 f0 (by omega)
  rw [gset_id ht, Nat.add_zero, gset_id hm] at h0
  exact h0
  
theorem dX8_feed_0 : decode cX8_feed 0 = .ok (.aload_n 0, 1) := by decide +kernel
theorem dX8_feed_1 : decode cX8_feed 1 = .ok (.iconst 0, 1) := by decide +kernel
theorem dX8_feed_2 : decode cX8_feed 2 = .ok (.putfield 66, 3) := by decide +kernel
theorem dX8_feed_5 : decode cX8_feed 5 = .ok (.aload_n 0, 1) := by decide +kernel
theorem dX8_feed_6 : decode cX8_feed 6 = .ok (.getfield 75, 3) := by decide +kernel
theorem dX8_feed_9 : decode cX8_feed 9 = .ok (.bipush 16, 2) := by decide +kernel
theorem dX8_feed_11 : decode cX8_feed 11 = .ok (.iadd, 1) := by decide +kernel
theorem dX8_feed_12 : decode cX8_feed 12 = .ok (.bipush 96, 2) := by decide +kernel
theorem dX8_feed_14 : decode cX8_feed 14 = .ok (.if_icmp .le 5, 3) := by decide +kernel
theorem dX8_feed_19 : decode cX8_feed 19 = .ok (.aload_n 0, 1) := by decide +kernel
theorem dX8_feed_20 : decode cX8_feed 20 = .ok (.lload_n 1, 1) := by decide +kernel
theorem dX8_feed_21 : decode cX8_feed 21 = .ok (.invokevirtual 78, 3) := by decide +kernel
theorem dX8_feed_24 : decode cX8_feed 24 = .ok (.aload_n 0, 1) := by decide +kernel
theorem dX8_feed_25 : decode cX8_feed 25 = .ok (.lload_n 3, 1) := by decide +kernel
theorem dX8_feed_26 : decode cX8_feed 26 = .ok (.invokevirtual 78, 3) := by decide +kernel
theorem dX8_feed_29 : decode cX8_feed 29 = .ok (.aload_n 0, 1) := by decide +kernel
theorem dX8_feed_30 : decode cX8_feed 30 = .ok (.getfield 75, 3) := by decide +kernel
theorem dX8_feed_33 : decode cX8_feed 33 = .ok (.ireturn, 1) := by decide +kernel
set_option maxRecDepth 100000 in
set_option maxHeartbeats 4000000 in
theorem c_X8_feed_0 {hp : List gA} {p0 : Int64} {p1 : Int64} {f123 : Nat → Int32} (H122 : hp[122]? = some (.inr (.inr (8, [.ref 123, .int 0, .int 0, .int 0, .ref 124, .ref 125, .ref 126, .ref 127, .ref 128, .int 1, .ref 129, .ref 130, .int 0, .int 0, .ref 131, .ref 132, .ref 133, .ref 134, .int 0, .int 0, .int 0, .int 0, .int 0, .int 0, .int 0, .ref 135, .int 0, .ref 136, .int 0, .int 0, .int 0, .int 0, .ref 137, .int 0, .int 0, .int 0, .int 0, .ref 138, .int 0])))) (H123 : hp[123]? = some (.inl (96, f123)))  : gM yX8_feed cX8_feed 5 ((some .int)) 1 23 [.ref 122, .long p0, .long p1] (hp) (0) (0) (fun v h => v = some (.int (16)) ∧ True) := by
  refine gM_of (ls0 := [some (.ref 122), some (.long p0), none, some (.long p1), none]) (by decide +kernel) (Nat.le_of_ble_eq_true rfl) rfl fun X C E => ?_
  refine g_aload_n (q := 1) C dX8_feed_0 rfl rfl ?_
  refine g_iconst (v := 0) (q := 2) C dX8_feed_1 (by decide) rfl ?_
  refine g_putfield (q := 5) C fX8_66 dX8_feed_2 rfl H122 (Nat.le_of_ble_eq_true rfl) (Or.inl rfl) rfl rfl (by intro z h; cases h) ?_
  refine g_aload_n (q := 6) C dX8_feed_5 rfl rfl ?_
  refine g_getfield (q := 9) C fX8_75 dX8_feed_6 rfl (gset_self H122) rfl ?_
  refine g_bipush (v := 16) (q := 11) C dX8_feed_9 (by decide) rfl ?_
  refine g_iadd (q := 12) C dX8_feed_11 rfl ?_
  refine g_bipush (v := 96) (q := 14) C dX8_feed_12 (by decide) rfl ?_
  refine g_icmp_le_t (t := 19) C dX8_feed_14 (by decide) (by decide) ?_
  refine g_aload_n (q := 20) C dX8_feed_19 rfl rfl ?_
  refine g_lload_n (q := 21) C dX8_feed_20 rfl rfl ?_
  refine g_callVvp (q := 24) (As := [.long p0]) C gyX8_eight gvX8_eight t_1207 (c_X8_eight (L := 0) (gset_self H122) (gset_other H123 (by decide)) (by decide)) dX8_feed_21 rfl (gset_self H122) rfl rfl rfl (Nat.le_of_ble_eq_true rfl) (Nat.le_of_ble_eq_true rfl) (Nat.le_of_ble_eq_true rfl) (Nat.le_of_ble_eq_true rfl) (Nat.le_of_ble_eq_true rfl) rfl (fun h9 z9 => ?_)
  obtain ⟨f11, rfl⟩ := z9
  refine g_aload_n (q := 25) C dX8_feed_24 rfl rfl ?_
  refine g_lload_n (q := 26) C dX8_feed_25 rfl rfl ?_
  refine g_callVvp (q := 29) (As := [.long p1]) C gyX8_eight gvX8_eight t_1207 (c_X8_eight (L := 8) (gset_self (gset_other (gset_self H122) (by decide))) (gset_other (gset_self (gset_other H123 (by decide))) (by decide)) (by decide)) dX8_feed_26 rfl (gset_self (gset_other (gset_self H122) (by decide))) rfl rfl rfl (Nat.le_of_ble_eq_true rfl) (Nat.le_of_ble_eq_true rfl) (Nat.le_of_ble_eq_true rfl) (Nat.le_of_ble_eq_true rfl) (Nat.le_of_ble_eq_true rfl) rfl (fun h9 z9 => ?_)
  obtain ⟨f12, rfl⟩ := z9
  refine g_aload_n (q := 30) C dX8_feed_29 rfl rfl ?_
  refine g_getfield (q := 33) C fX8_75 dX8_feed_30 rfl (gset_self (gset_other (gset_self (gset_other (gset_self H122) (by decide))) (by decide))) rfl ?_
  exact E.1 _ _ _ _ _ _ _ dX8_feed_33 rfl rfl (Nat.le_of_ble_eq_true rfl) (Nat.le_of_ble_eq_true rfl) ⟨rfl, trivial⟩
theorem dX8_wrong_0 : decode cX8_wrong 0 = .ok (.aload_n 0, 1) := by decide +kernel
theorem dX8_wrong_1 : decode cX8_wrong 1 = .ok (.getfield 86, 3) := by decide +kernel
theorem dX8_wrong_4 : decode cX8_wrong 4 = .ok (.ifCond .ne 13, 3) := by decide +kernel
theorem dX8_wrong_7 : decode cX8_wrong 7 = .ok (.aload_n 0, 1) := by decide +kernel
theorem dX8_wrong_8 : decode cX8_wrong 8 = .ok (.bipush 8, 2) := by decide +kernel
theorem dX8_wrong_10 : decode cX8_wrong 10 = .ok (.iload_n 2, 1) := by decide +kernel
theorem dX8_wrong_11 : decode cX8_wrong 11 = .ok (.imul, 1) := by decide +kernel
theorem dX8_wrong_12 : decode cX8_wrong 12 = .ok (.iload_n 1, 1) := by decide +kernel
theorem dX8_wrong_13 : decode cX8_wrong 13 = .ok (.iadd, 1) := by decide +kernel
theorem dX8_wrong_14 : decode cX8_wrong 14 = .ok (.putfield 86, 3) := by decide +kernel
theorem dX8_wrong_17 : decode cX8_wrong 17 = .ok (.return_, 1) := by decide +kernel
set_option maxRecDepth 100000 in
set_option maxHeartbeats 4000000 in
theorem c_X8_wrong_0 {hp : List gA} {m : Nat} {taped0 thrown0 hasCard0 repeats0 logged0 logAt0 unlike0 quiet0 size0 at0 special0 hasOther0 blockMany0 cameMany0 cameHow0 hasLost0 hasSpoilt0 hasSent0 tryOf0 reason0 wouldSend0 wantedMany0 : Int32} {tapeA toldA draftA historyA sA keptA logA logBytesA unlikeFromA unlikeSideA unlikeOftenA unlikeBytesA blockA cameA infA wantedA : Nat} {a b : Int32} (hm : hp[m]? = some (.inr (.inr (8, [.ref tapeA, .int taped0, .int thrown0, .int hasCard0, .ref toldA, .ref draftA, .ref historyA, .ref sA, .ref keptA, .int repeats0, .ref logA, .ref logBytesA, .int logged0, .int logAt0, .ref unlikeFromA, .ref unlikeSideA, .ref unlikeOftenA, .ref unlikeBytesA, .int unlike0, .int quiet0, .int size0, .int at0, .int 0, .int special0, .int hasOther0, .ref blockA, .int blockMany0, .ref cameA, .int cameMany0, .int cameHow0, .int hasLost0, .int hasSpoilt0, .ref infA, .int hasSent0, .int tryOf0, .int reason0, .int wouldSend0, .ref wantedA, .int wantedMany0])))) : gM yX8_wrong cX8_wrong 3 (none) 0 0 [.ref m, .int a, .int b] (hp) (0) (0) (fun v h => v = none ∧ h = hp.set m (.inr (.inr (8, [.ref tapeA, .int taped0, .int thrown0, .int hasCard0, .ref toldA, .ref draftA, .ref historyA, .ref sA, .ref keptA, .int repeats0, .ref logA, .ref logBytesA, .int logged0, .int logAt0, .ref unlikeFromA, .ref unlikeSideA, .ref unlikeOftenA, .ref unlikeBytesA, .int unlike0, .int quiet0, .int size0, .int at0, .int ((8 * b + a)), .int special0, .int hasOther0, .ref blockA, .int blockMany0, .ref cameA, .int cameMany0, .int cameHow0, .int hasLost0, .int hasSpoilt0, .ref infA, .int hasSent0, .int tryOf0, .int reason0, .int wouldSend0, .ref wantedA, .int wantedMany0])))) := by
  refine gM_of (ls0 := [some (.ref m), some (.int a), some (.int b)]) (by decide +kernel) (Nat.le_of_ble_eq_true rfl) rfl fun X C E => ?_
  refine g_aload_n (q := 1) C dX8_wrong_0 rfl rfl ?_
  refine g_getfield (q := 4) C fX8_86 dX8_wrong_1 rfl hm rfl ?_
  refine g_if_ne_f (t := 17) (q := 7) C dX8_wrong_4 (by decide) rfl (by decide) ?_
  refine g_aload_n (q := 8) C dX8_wrong_7 rfl rfl ?_
  refine g_bipush (v := 8) (q := 10) C dX8_wrong_8 (by decide) rfl ?_
  refine g_iload_n (q := 11) C dX8_wrong_10 rfl rfl ?_
  refine g_imul (q := 12) C dX8_wrong_11 rfl ?_
  refine g_iload_n (q := 13) C dX8_wrong_12 rfl rfl ?_
  refine g_iadd (q := 14) C dX8_wrong_13 rfl ?_
  refine g_putfield (q := 17) C fX8_86 dX8_wrong_14 rfl hm (Nat.le_of_ble_eq_true rfl) (Or.inl rfl) rfl rfl (by intro z h; cases h) ?_
  exact E.2.1 _ _ _ _ _ dX8_wrong_17 rfl (Nat.le_of_ble_eq_true rfl) (Nat.le_of_ble_eq_true rfl) ⟨rfl, rfl⟩
theorem dX8_byteNext_0 : decode cX8_byteNext 0 = .ok (.aload_n 0, 1) := by decide +kernel
theorem dX8_byteNext_1 : decode cX8_byteNext 1 = .ok (.getfield 86, 3) := by decide +kernel
theorem dX8_byteNext_4 : decode cX8_byteNext 4 = .ok (.ifCond .eq 5, 3) := by decide +kernel
theorem dX8_byteNext_9 : decode cX8_byteNext 9 = .ok (.aload_n 0, 1) := by decide +kernel
theorem dX8_byteNext_10 : decode cX8_byteNext 10 = .ok (.getfield 89, 3) := by decide +kernel
theorem dX8_byteNext_13 : decode cX8_byteNext 13 = .ok (.aload_n 0, 1) := by decide +kernel
theorem dX8_byteNext_14 : decode cX8_byteNext 14 = .ok (.getfield 92, 3) := by decide +kernel
theorem dX8_byteNext_17 : decode cX8_byteNext 17 = .ok (.if_icmp .ne 14, 3) := by decide +kernel
theorem dX8_byteNext_20 : decode cX8_byteNext 20 = .ok (.aload_n 0, 1) := by decide +kernel
theorem dX8_byteNext_21 : decode cX8_byteNext 21 = .ok (.iconst 1, 1) := by decide +kernel
theorem dX8_byteNext_22 : decode cX8_byteNext 22 = .ok (.aload_n 0, 1) := by decide +kernel
theorem dX8_byteNext_23 : decode cX8_byteNext 23 = .ok (.getfield 92, 3) := by decide +kernel
theorem dX8_byteNext_26 : decode cX8_byteNext 26 = .ok (.invokevirtual 95, 3) := by decide +kernel
theorem dX8_byteNext_29 : decode cX8_byteNext 29 = .ok (.iconst 0, 1) := by decide +kernel
theorem dX8_byteNext_30 : decode cX8_byteNext 30 = .ok (.ireturn, 1) := by decide +kernel
set_option maxRecDepth 100000 in
set_option maxHeartbeats 4000000 in
theorem c_X8_byteNext_a {hp : List gA} {m : Nat} {taped0 thrown0 hasCard0 repeats0 logged0 logAt0 unlike0 quiet0 special0 hasOther0 blockMany0 cameMany0 cameHow0 hasLost0 hasSpoilt0 hasSent0 tryOf0 reason0 wouldSend0 wantedMany0 : Int32} {tapeA toldA draftA historyA sA keptA logA logBytesA unlikeFromA unlikeSideA unlikeOftenA unlikeBytesA blockA cameA infA wantedA : Nat} (hm : hp[m]? = some (.inr (.inr (8, [.ref tapeA, .int taped0, .int thrown0, .int hasCard0, .ref toldA, .ref draftA, .ref historyA, .ref sA, .ref keptA, .int repeats0, .ref logA, .ref logBytesA, .int logged0, .int logAt0, .ref unlikeFromA, .ref unlikeSideA, .ref unlikeOftenA, .ref unlikeBytesA, .int unlike0, .int quiet0, .int 0, .int 0, .int 0, .int special0, .int hasOther0, .ref blockA, .int blockMany0, .ref cameA, .int cameMany0, .int cameHow0, .int hasLost0, .int hasSpoilt0, .ref infA, .int hasSent0, .int tryOf0, .int reason0, .int wouldSend0, .ref wantedA, .int wantedMany0])))) : gM yX8_byteNext cX8_byteNext 1 ((some .int)) 1 22 [.ref m] (hp) (0) (0) (fun v h => v = some (.int 0) ∧ h = hp.set m (.inr (.inr (8, [.ref tapeA, .int taped0, .int thrown0, .int hasCard0, .ref toldA, .ref draftA, .ref historyA, .ref sA, .ref keptA, .int repeats0, .ref logA, .ref logBytesA, .int logged0, .int logAt0, .ref unlikeFromA, .ref unlikeSideA, .ref unlikeOftenA, .ref unlikeBytesA, .int unlike0, .int quiet0, .int 0, .int 0, .int 1, .int special0, .int hasOther0, .ref blockA, .int blockMany0, .ref cameA, .int cameMany0, .int cameHow0, .int hasLost0, .int hasSpoilt0, .ref infA, .int hasSent0, .int tryOf0, .int reason0, .int wouldSend0, .ref wantedA, .int wantedMany0])))) := by
  refine gM_of (ls0 := [some (.ref m)]) (by decide +kernel) (Nat.le_of_ble_eq_true rfl) rfl fun X C E => ?_
  refine g_aload_n (q := 1) C dX8_byteNext_0 rfl rfl ?_
  refine g_getfield (q := 4) C fX8_86 dX8_byteNext_1 rfl hm rfl ?_
  refine g_if_eq_t (t := 9) C dX8_byteNext_4 (by decide) (by decide) ?_
  refine g_aload_n (q := 10) C dX8_byteNext_9 rfl rfl ?_
  refine g_getfield (q := 13) C fX8_89 dX8_byteNext_10 rfl hm rfl ?_
  refine g_aload_n (q := 14) C dX8_byteNext_13 rfl rfl ?_
  refine g_getfield (q := 17) C fX8_92 dX8_byteNext_14 rfl hm rfl ?_
  refine g_icmp_ne_f (t := 31) (q := 20) C dX8_byteNext_17 (by decide) rfl (by decide) ?_
  refine g_aload_n (q := 21) C dX8_byteNext_20 rfl rfl ?_
  refine g_iconst (v := 1) (q := 22) C dX8_byteNext_21 (by decide) rfl ?_
  refine g_aload_n (q := 23) C dX8_byteNext_22 rfl rfl ?_
  refine g_getfield (q := 26) C fX8_92 dX8_byteNext_23 rfl hm rfl ?_
  refine g_callVv (q := 29) (As := [.int 1, .int 0]) C gyX8_wrong gvX8_wrong t_1226 (c_X8_wrong_0 hm) dX8_byteNext_26 rfl hm rfl rfl rfl (Nat.le_of_ble_eq_true rfl) (Nat.le_of_ble_eq_true rfl) (Nat.le_of_ble_eq_true rfl) (Nat.le_of_ble_eq_true rfl) (Nat.le_of_ble_eq_true rfl) rfl ?_
  refine g_iconst (v := 0) (q := 30) C dX8_byteNext_29 (by decide) rfl ?_
  exact E.1 _ _ _ _ _ _ _ dX8_byteNext_30 rfl rfl (Nat.le_of_ble_eq_true rfl) (Nat.le_of_ble_eq_true rfl) ⟨rfl, rfl⟩
theorem dX8_byteNext_7 : decode cX8_byteNext 7 = .ok (.iconst 0, 1) := by decide +kernel
theorem dX8_byteNext_8 : decode cX8_byteNext 8 = .ok (.ireturn, 1) := by decide +kernel
set_option maxRecDepth 100000 in
set_option maxHeartbeats 4000000 in
theorem c_X8_byteNext_b {hp : List gA} {m : Nat} {taped0 thrown0 hasCard0 repeats0 logged0 logAt0 unlike0 quiet0 size0 at0 special0 hasOther0 blockMany0 cameMany0 cameHow0 hasLost0 hasSpoilt0 hasSent0 tryOf0 reason0 wouldSend0 wantedMany0 : Int32} {tapeA toldA draftA historyA sA keptA logA logBytesA unlikeFromA unlikeSideA unlikeOftenA unlikeBytesA blockA cameA infA wantedA : Nat} (hm : hp[m]? = some (.inr (.inr (8, [.ref tapeA, .int taped0, .int thrown0, .int hasCard0, .ref toldA, .ref draftA, .ref historyA, .ref sA, .ref keptA, .int repeats0, .ref logA, .ref logBytesA, .int logged0, .int logAt0, .ref unlikeFromA, .ref unlikeSideA, .ref unlikeOftenA, .ref unlikeBytesA, .int unlike0, .int quiet0, .int size0, .int at0, .int 1, .int special0, .int hasOther0, .ref blockA, .int blockMany0, .ref cameA, .int cameMany0, .int cameHow0, .int hasLost0, .int hasSpoilt0, .ref infA, .int hasSent0, .int tryOf0, .int reason0, .int wouldSend0, .ref wantedA, .int wantedMany0])))) : gM yX8_byteNext cX8_byteNext 1 ((some .int)) 1 22 [.ref m] (hp) (0) (0) (fun v h => v = some (.int 0) ∧ h = hp) := by
  refine gM_of (ls0 := [some (.ref m)]) (by decide +kernel) (Nat.le_of_ble_eq_true rfl) rfl fun X C E => ?_
  refine g_aload_n (q := 1) C dX8_byteNext_0 rfl rfl ?_
  refine g_getfield (q := 4) C fX8_86 dX8_byteNext_1 rfl hm rfl ?_
  refine g_if_eq_f (t := 9) (q := 7) C dX8_byteNext_4 (by decide) rfl (by decide) ?_
  refine g_iconst (v := 0) (q := 8) C dX8_byteNext_7 (by decide) rfl ?_
  exact E.1 _ _ _ _ _ _ _ dX8_byteNext_8 rfl rfl (Nat.le_of_ble_eq_true rfl) (Nat.le_of_ble_eq_true rfl) ⟨rfl, rfl⟩
theorem dX8_groupsTold_0 : decode cX8_groupsTold 0 = .ok (.iload_n 1, 1) := by decide +kernel
theorem dX8_groupsTold_1 : decode cX8_groupsTold 1 = .ok (.istore_n 2, 1) := by decide +kernel
theorem dX8_groupsTold_2 : decode cX8_groupsTold 2 = .ok (.iconst 1, 1) := by decide +kernel
theorem dX8_groupsTold_3 : decode cX8_groupsTold 3 = .ok (.istore_n 3, 1) := by decide +kernel
theorem dX8_groupsTold_4 : decode cX8_groupsTold 4 = .ok (.aload_n 0, 1) := by decide +kernel
theorem dX8_groupsTold_5 : decode cX8_groupsTold 5 = .ok (.getfield 86, 3) := by decide +kernel
theorem dX8_groupsTold_8 : decode cX8_groupsTold 8 = .ok (.ifCond .ne 145, 3) := by decide +kernel
theorem dX8_groupsTold_153 : decode cX8_groupsTold 153 = .ok (.return_, 1) := by decide +kernel
set_option maxRecDepth 100000 in
set_option maxHeartbeats 4000000 in
theorem c_X8_groupsTold_b {hp : List gA} {m : Nat} {taped0 thrown0 hasCard0 repeats0 logged0 logAt0 unlike0 quiet0 size0 at0 special0 hasOther0 blockMany0 cameMany0 cameHow0 hasLost0 hasSpoilt0 hasSent0 tryOf0 reason0 wouldSend0 wantedMany0 : Int32} {tapeA toldA draftA historyA sA keptA logA logBytesA unlikeFromA unlikeSideA unlikeOftenA unlikeBytesA blockA cameA infA wantedA : Nat} {x : Int32} (hm : hp[m]? = some (.inr (.inr (8, [.ref tapeA, .int taped0, .int thrown0, .int hasCard0, .ref toldA, .ref draftA, .ref historyA, .ref sA, .ref keptA, .int repeats0, .ref logA, .ref logBytesA, .int logged0, .int logAt0, .ref unlikeFromA, .ref unlikeSideA, .ref unlikeOftenA, .ref unlikeBytesA, .int unlike0, .int quiet0, .int size0, .int at0, .int 1, .int special0, .int hasOther0, .ref blockA, .int blockMany0, .ref cameA, .int cameMany0, .int cameHow0, .int hasLost0, .int hasSpoilt0, .ref infA, .int hasSent0, .int tryOf0, .int reason0, .int wouldSend0, .ref wantedA, .int wantedMany0])))) : gM yX8_groupsTold cX8_groupsTold 6 (none) 4 86 [.ref m, .int x] (hp) (0) (0) (fun v h => v = none ∧ h = hp) := by
  refine gM_of (ls0 := [some (.ref m), some (.int x), none, none, none, none]) (by decide +kernel) (Nat.le_of_ble_eq_true rfl) rfl fun X C E => ?_
  refine g_iload_n (q := 1) C dX8_groupsTold_0 rfl rfl ?_
  refine g_istore_n (q := 2) C dX8_groupsTold_1 (Nat.le_of_ble_eq_true rfl) (by simp only [gset]; rfl) rfl ?_
  refine g_iconst (v := 1) (q := 3) C dX8_groupsTold_2 (by decide) rfl ?_
  refine g_istore_n (q := 4) C dX8_groupsTold_3 (Nat.le_of_ble_eq_true rfl) (by simp only [gset]; rfl) rfl ?_
  refine g_aload_n (q := 5) C dX8_groupsTold_4 rfl rfl ?_
  refine g_getfield (q := 8) C fX8_86 dX8_groupsTold_5 rfl hm rfl ?_
  refine g_if_ne_t (t := 153) C dX8_groupsTold_8 (by decide) (by decide) ?_
  exact E.2.1 _ _ _ _ _ dX8_groupsTold_153 rfl (Nat.le_of_ble_eq_true rfl) (Nat.le_of_ble_eq_true rfl) ⟨rfl, rfl⟩
theorem dX8_reset_0 : decode cX8_reset 0 = .ok (.aload_n 0, 1) := by decide +kernel
theorem dX8_reset_1 : decode cX8_reset 1 = .ok (.iconst 0, 1) := by decide +kernel
theorem dX8_reset_2 : decode cX8_reset 2 = .ok (.putfield 66, 3) := by decide +kernel
theorem dX8_reset_5 : decode cX8_reset 5 = .ok (.aload_n 0, 1) := by decide +kernel
theorem dX8_reset_6 : decode cX8_reset 6 = .ok (.aload_n 0, 1) := by decide +kernel
theorem dX8_reset_7 : decode cX8_reset 7 = .ok (.getfield 75, 3) := by decide +kernel
theorem dX8_reset_10 : decode cX8_reset 10 = .ok (.putfield 92, 3) := by decide +kernel
theorem dX8_reset_13 : decode cX8_reset 13 = .ok (.aload_n 0, 1) := by decide +kernel
theorem dX8_reset_14 : decode cX8_reset 14 = .ok (.iconst 0, 1) := by decide +kernel
theorem dX8_reset_15 : decode cX8_reset 15 = .ok (.putfield 75, 3) := by decide +kernel
theorem dX8_reset_18 : decode cX8_reset 18 = .ok (.aload_n 0, 1) := by decide +kernel
theorem dX8_reset_19 : decode cX8_reset 19 = .ok (.iconst 0, 1) := by decide +kernel
theorem dX8_reset_20 : decode cX8_reset 20 = .ok (.putfield 89, 3) := by decide +kernel
theorem dX8_reset_23 : decode cX8_reset 23 = .ok (.aload_n 0, 1) := by decide +kernel
theorem dX8_reset_24 : decode cX8_reset 24 = .ok (.iconst 0, 1) := by decide +kernel
theorem dX8_reset_25 : decode cX8_reset 25 = .ok (.putfield 86, 3) := by decide +kernel
theorem dX8_reset_28 : decode cX8_reset 28 = .ok (.aload_n 0, 1) := by decide +kernel
theorem dX8_reset_29 : decode cX8_reset 29 = .ok (.iconst 0, 1) := by decide +kernel
theorem dX8_reset_30 : decode cX8_reset 30 = .ok (.putfield 113, 3) := by decide +kernel
theorem dX8_reset_33 : decode cX8_reset 33 = .ok (.aload_n 0, 1) := by decide +kernel
theorem dX8_reset_34 : decode cX8_reset 34 = .ok (.iconst 0, 1) := by decide +kernel
theorem dX8_reset_35 : decode cX8_reset 35 = .ok (.putfield 123, 3) := by decide +kernel
theorem dX8_reset_38 : decode cX8_reset 38 = .ok (.iconst 0, 1) := by decide +kernel
theorem dX8_reset_39 : decode cX8_reset 39 = .ok (.istore_n 1, 1) := by decide +kernel
theorem dX8_reset_40 : decode cX8_reset 40 = .ok (.iload_n 1, 1) := by decide +kernel
theorem dX8_reset_41 : decode cX8_reset 41 = .ok (.bipush 9, 2) := by decide +kernel
theorem dX8_reset_43 : decode cX8_reset 43 = .ok (.if_icmp .ge 16, 3) := by decide +kernel
theorem dX8_reset_46 : decode cX8_reset 46 = .ok (.aload_n 0, 1) := by decide +kernel
theorem dX8_reset_47 : decode cX8_reset 47 = .ok (.getfield 16, 3) := by decide +kernel
theorem dX8_reset_50 : decode cX8_reset 50 = .ok (.iload_n 1, 1) := by decide +kernel
theorem dX8_reset_51 : decode cX8_reset 51 = .ok (.iconst 0, 1) := by decide +kernel
theorem dX8_reset_52 : decode cX8_reset 52 = .ok (.iastore, 1) := by decide +kernel
theorem dX8_reset_53 : decode cX8_reset 53 = .ok (.iinc 1 1, 3) := by decide +kernel
theorem dX8_reset_56 : decode cX8_reset 56 = .ok (.goto (-16), 3) := by decide +kernel
theorem dX8_reset_59 : decode cX8_reset 59 = .ok (.aload_n 0, 1) := by decide +kernel
theorem dX8_reset_60 : decode cX8_reset 60 = .ok (.getfield 16, 3) := by decide +kernel
theorem dX8_reset_63 : decode cX8_reset 63 = .ok (.iconst 1, 1) := by decide +kernel
theorem dX8_reset_64 : decode cX8_reset 64 = .ok (.sipush 372, 3) := by decide +kernel
theorem dX8_reset_67 : decode cX8_reset 67 = .ok (.iastore, 1) := by decide +kernel
theorem dX8_reset_68 : decode cX8_reset 68 = .ok (.aload_n 0, 1) := by decide +kernel
theorem dX8_reset_69 : decode cX8_reset 69 = .ok (.getfield 16, 3) := by decide +kernel
theorem dX8_reset_72 : decode cX8_reset 72 = .ok (.iconst 2, 1) := by decide +kernel
theorem dX8_reset_73 : decode cX8_reset 73 = .ok (.iconst 1, 1) := by decide +kernel
theorem dX8_reset_74 : decode cX8_reset 74 = .ok (.iastore, 1) := by decide +kernel
theorem dX8_reset_75 : decode cX8_reset 75 = .ok (.aload_n 0, 1) := by decide +kernel
theorem dX8_reset_76 : decode cX8_reset 76 = .ok (.getfield 16, 3) := by decide +kernel
theorem dX8_reset_79 : decode cX8_reset 79 = .ok (.bipush 7, 2) := by decide +kernel
theorem dX8_reset_81 : decode cX8_reset 81 = .ok (.bipush 32, 2) := by decide +kernel
theorem dX8_reset_83 : decode cX8_reset 83 = .ok (.iastore, 1) := by decide +kernel
theorem dX8_reset_84 : decode cX8_reset 84 = .ok (.aload_n 0, 1) := by decide +kernel
theorem dX8_reset_85 : decode cX8_reset 85 = .ok (.getfield 16, 3) := by decide +kernel
theorem dX8_reset_88 : decode cX8_reset 88 = .ok (.iconst 0, 1) := by decide +kernel
theorem dX8_reset_89 : decode cX8_reset 89 = .ok (.aload_n 0, 1) := by decide +kernel
theorem dX8_reset_90 : decode cX8_reset 90 = .ok (.invokevirtual 99, 3) := by decide +kernel
theorem dX8_reset_93 : decode cX8_reset 93 = .ok (.iastore, 1) := by decide +kernel
theorem dX8_reset_94 : decode cX8_reset 94 = .ok (.aload_n 0, 1) := by decide +kernel
theorem dX8_reset_95 : decode cX8_reset 95 = .ok (.getfield 86, 3) := by decide +kernel
theorem dX8_reset_98 : decode cX8_reset 98 = .ok (.ifCond .ne 31, 3) := by decide +kernel
theorem dX8_reset_129 : decode cX8_reset 129 = .ok (.aload_n 0, 1) := by decide +kernel
theorem dX8_reset_130 : decode cX8_reset 130 = .ok (.invokevirtual 99, 3) := by decide +kernel
theorem dX8_reset_133 : decode cX8_reset 133 = .ok (.istore_n 1, 1) := by decide +kernel
theorem dX8_reset_134 : decode cX8_reset 134 = .ok (.aload_n 0, 1) := by decide +kernel
theorem dX8_reset_135 : decode cX8_reset 135 = .ok (.iload_n 1, 1) := by decide +kernel
theorem dX8_reset_136 : decode cX8_reset 136 = .ok (.iconst 4, 1) := by decide +kernel
theorem dX8_reset_137 : decode cX8_reset 137 = .ok (.ishr, 1) := by decide +kernel
theorem dX8_reset_138 : decode cX8_reset 138 = .ok (.invokevirtual 127, 3) := by decide +kernel
theorem dX8_reset_141 : decode cX8_reset 141 = .ok (.aload_n 0, 1) := by decide +kernel
theorem dX8_reset_142 : decode cX8_reset 142 = .ok (.getfield 16, 3) := by decide +kernel
theorem dX8_reset_145 : decode cX8_reset 145 = .ok (.bipush 6, 2) := by decide +kernel
theorem dX8_reset_147 : decode cX8_reset 147 = .ok (.iload_n 1, 1) := by decide +kernel
theorem dX8_reset_148 : decode cX8_reset 148 = .ok (.bipush 15, 2) := by decide +kernel
theorem dX8_reset_150 : decode cX8_reset 150 = .ok (.iand, 1) := by decide +kernel
theorem dX8_reset_151 : decode cX8_reset 151 = .ok (.iastore, 1) := by decide +kernel
theorem dX8_reset_152 : decode cX8_reset 152 = .ok (.aload_n 0, 1) := by decide +kernel
theorem dX8_reset_153 : decode cX8_reset 153 = .ok (.getfield 89, 3) := by decide +kernel
theorem dX8_reset_156 : decode cX8_reset 156 = .ok (.istore_n 2, 1) := by decide +kernel
theorem dX8_reset_157 : decode cX8_reset 157 = .ok (.iconst 0, 1) := by decide +kernel
theorem dX8_reset_158 : decode cX8_reset 158 = .ok (.istore_n 3, 1) := by decide +kernel
theorem dX8_reset_159 : decode cX8_reset 159 = .ok (.iload_n 3, 1) := by decide +kernel
theorem dX8_reset_160 : decode cX8_reset 160 = .ok (.aload_n 0, 1) := by decide +kernel
theorem dX8_reset_161 : decode cX8_reset 161 = .ok (.getfield 16, 3) := by decide +kernel
theorem dX8_reset_164 : decode cX8_reset 164 = .ok (.bipush 6, 2) := by decide +kernel
theorem dX8_reset_166 : decode cX8_reset 166 = .ok (.iaload, 1) := by decide +kernel
theorem dX8_reset_167 : decode cX8_reset 167 = .ok (.if_icmp .ge 14, 3) := by decide +kernel
theorem dX8_reset_181 : decode cX8_reset 181 = .ok (.aload_n 0, 1) := by decide +kernel
theorem dX8_reset_182 : decode cX8_reset 182 = .ok (.getfield 123, 3) := by decide +kernel
theorem dX8_reset_185 : decode cX8_reset 185 = .ok (.ifCond .eq 7, 3) := by decide +kernel
theorem dX8_reset_192 : decode cX8_reset 192 = .ok (.aload_n 0, 1) := by decide +kernel
theorem dX8_reset_193 : decode cX8_reset 193 = .ok (.getfield 86, 3) := by decide +kernel
theorem dX8_reset_196 : decode cX8_reset 196 = .ok (.ifCond .ne 24, 3) := by decide +kernel
theorem dX8_reset_220 : decode cX8_reset 220 = .ok (.aload_n 0, 1) := by decide +kernel
theorem dX8_reset_221 : decode cX8_reset 221 = .ok (.getfield 86, 3) := by decide +kernel
theorem dX8_reset_224 : decode cX8_reset 224 = .ok (.ifCond .eq 11, 3) := by decide +kernel
theorem dX8_reset_227 : decode cX8_reset 227 = .ok (.bipush (-2), 2) := by decide +kernel
theorem dX8_reset_229 : decode cX8_reset 229 = .ok (.aload_n 0, 1) := by decide +kernel
theorem dX8_reset_230 : decode cX8_reset 230 = .ok (.getfield 86, 3) := by decide +kernel
theorem dX8_reset_233 : decode cX8_reset 233 = .ok (.isub, 1) := by decide +kernel
theorem dX8_reset_234 : decode cX8_reset 234 = .ok (.ireturn, 1) := by decide +kernel
set_option maxRecDepth 100000 in
set_option maxHeartbeats 4000000 in
theorem c_X8_reset_0 {hp : List gA} {f125 : Nat → Int32} (H122 : hp[122]? = some (.inr (.inr (8, [.ref 123, .int 0, .int 0, .int 0, .ref 124, .ref 125, .ref 126, .ref 127, .ref 128, .int 1, .ref 129, .ref 130, .int 0, .int 0, .ref 131, .ref 132, .ref 133, .ref 134, .int 0, .int 0, .int 0, .int 0, .int 0, .int 0, .int 0, .ref 135, .int 0, .ref 136, .int 0, .int 0, .int 0, .int 0, .ref 137, .int 0, .int 0, .int 0, .int 0, .ref 138, .int 0])))) (H125 : hp[125]? = some (.inl (9, f125)))  : gM yX8_reset cX8_reset 4 ((some .int)) 5 111 [.ref 122] (hp) (0) (0) (fun v h => v = some (.int (-3)) ∧ True) := by
  refine gM_of (ls0 := [some (.ref 122), none, none, none]) (by decide +kernel) (Nat.le_of_ble_eq_true rfl) rfl fun X C E => ?_
  refine g_aload_n (q := 1) C dX8_reset_0 rfl rfl ?_
  refine g_iconst (v := 0) (q := 2) C dX8_reset_1 (by decide) rfl ?_
  refine g_putfield (q := 5) C fX8_66 dX8_reset_2 rfl H122 (Nat.le_of_ble_eq_true rfl) (Or.inl rfl) rfl rfl (by intro z h; cases h) ?_
  refine g_aload_n (q := 6) C dX8_reset_5 rfl rfl ?_
  refine g_aload_n (q := 7) C dX8_reset_6 rfl rfl ?_
  refine g_getfield (q := 10) C fX8_75 dX8_reset_7 rfl (gset_self H122) rfl ?_
  refine g_putfield (q := 13) C fX8_92 dX8_reset_10 rfl (gset_self H122) (Nat.le_of_ble_eq_true rfl) (Or.inl rfl) rfl rfl (by intro z h; cases h) ?_
  refine g_aload_n (q := 14) C dX8_reset_13 rfl rfl ?_
  refine g_iconst (v := 0) (q := 15) C dX8_reset_14 (by decide) rfl ?_
  refine g_putfield (q := 18) C fX8_75 dX8_reset_15 rfl (gset_self (gset_self H122)) (Nat.le_of_ble_eq_true rfl) (Or.inl rfl) rfl rfl (by intro z h; cases h) ?_
  refine g_aload_n (q := 19) C dX8_reset_18 rfl rfl ?_
  refine g_iconst (v := 0) (q := 20) C dX8_reset_19 (by decide) rfl ?_
  refine g_putfield (q := 23) C fX8_89 dX8_reset_20 rfl (gset_self (gset_self (gset_self H122))) (Nat.le_of_ble_eq_true rfl) (Or.inl rfl) rfl rfl (by intro z h; cases h) ?_
  refine g_aload_n (q := 24) C dX8_reset_23 rfl rfl ?_
  refine g_iconst (v := 0) (q := 25) C dX8_reset_24 (by decide) rfl ?_
  refine g_putfield (q := 28) C fX8_86 dX8_reset_25 rfl (gset_self (gset_self (gset_self (gset_self H122)))) (Nat.le_of_ble_eq_true rfl) (Or.inl rfl) rfl rfl (by intro z h; cases h) ?_
  refine g_aload_n (q := 29) C dX8_reset_28 rfl rfl ?_
  refine g_iconst (v := 0) (q := 30) C dX8_reset_29 (by decide) rfl ?_
  refine g_putfield (q := 33) C fX8_113 dX8_reset_30 rfl (gset_self (gset_self (gset_self (gset_self (gset_self H122))))) (Nat.le_of_ble_eq_true rfl) (Or.inl rfl) rfl rfl (by intro z h; cases h) ?_
  refine g_aload_n (q := 34) C dX8_reset_33 rfl rfl ?_
  refine g_iconst (v := 0) (q := 35) C dX8_reset_34 (by decide) rfl ?_
  refine g_putfield (q := 38) C fX8_123 dX8_reset_35 rfl (gset_self (gset_self (gset_self (gset_self (gset_self (gset_self H122)))))) (Nat.le_of_ble_eq_true rfl) (Or.inl rfl) rfl rfl (by intro z h; cases h) ?_
  refine g_iconst (v := 0) (q := 39) C dX8_reset_38 (by decide) rfl ?_
  refine g_istore_n (q := 40) C dX8_reset_39 (Nat.le_of_ble_eq_true rfl) (by simp only [gset]; rfl) rfl ?_
  refine g_iload_n (q := 41) C dX8_reset_40 rfl rfl ?_
  refine g_bipush (v := 9) (q := 43) C dX8_reset_41 (by decide) rfl ?_
  refine g_icmp_ge_f (t := 59) (q := 46) C dX8_reset_43 (by decide) rfl (by decide) ?_
  refine g_aload_n (q := 47) C dX8_reset_46 rfl rfl ?_
  refine g_getfield (q := 50) C fX8_16 dX8_reset_47 rfl (gset_self (gset_self (gset_self (gset_self (gset_self (gset_self (gset_self H122))))))) rfl ?_
  refine g_iload_n (q := 51) C dX8_reset_50 rfl rfl ?_
  refine g_iconst (v := 0) (q := 52) C dX8_reset_51 (by decide) rfl ?_
  refine g_iastoreN (j := 0) (q := 53) C dX8_reset_52 rfl (gset_other (gset_other (gset_other (gset_other (gset_other (gset_other (gset_other H125 (by decide)) (by decide)) (by decide)) (by decide)) (by decide)) (by decide)) (by decide)) (by unfold vp_in; decide) (by decide) ?_
  refine g_iinc (v := 1) (q := 56) C dX8_reset_53 rfl (by decide) (by simp only [gset]; rfl) rfl ?_
  refine g_goto (q := 40) C dX8_reset_56 (by decide) ?_
  refine g_iload_n (q := 41) C dX8_reset_40 rfl rfl ?_
  refine g_bipush (v := 9) (q := 43) C dX8_reset_41 (by decide) rfl ?_
  refine g_icmp_ge_f (t := 59) (q := 46) C dX8_reset_43 (by decide) rfl (by decide) ?_
  refine g_aload_n (q := 47) C dX8_reset_46 rfl rfl ?_
  refine g_getfield (q := 50) C fX8_16 dX8_reset_47 rfl (gset_other (gset_self (gset_self (gset_self (gset_self (gset_self (gset_self (gset_self H122))))))) (by decide)) rfl ?_
  refine g_iload_n (q := 51) C dX8_reset_50 rfl rfl ?_
  refine g_iconst (v := 0) (q := 52) C dX8_reset_51 (by decide) rfl ?_
  refine g_iastoreN (j := 1) (q := 53) C dX8_reset_52 rfl (gset_self (gset_other (gset_other (gset_other (gset_other (gset_other (gset_other (gset_other H125 (by decide)) (by decide)) (by decide)) (by decide)) (by decide)) (by decide)) (by decide))) (by unfold vp_in; decide) (by decide) ?_
  refine g_iinc (v := 2) (q := 56) C dX8_reset_53 rfl (by decide) (by simp only [gset]; rfl) rfl ?_
  refine g_goto (q := 40) C dX8_reset_56 (by decide) ?_
  refine g_iload_n (q := 41) C dX8_reset_40 rfl rfl ?_
  refine g_bipush (v := 9) (q := 43) C dX8_reset_41 (by decide) rfl ?_
  refine g_icmp_ge_f (t := 59) (q := 46) C dX8_reset_43 (by decide) rfl (by decide) ?_
  refine g_aload_n (q := 47) C dX8_reset_46 rfl rfl ?_
  refine g_getfield (q := 50) C fX8_16 dX8_reset_47 rfl (gset_other (gset_other (gset_self (gset_self (gset_self (gset_self (gset_self (gset_self (gset_self H122))))))) (by decide)) (by decide)) rfl ?_
  refine g_iload_n (q := 51) C dX8_reset_50 rfl rfl ?_
  refine g_iconst (v := 0) (q := 52) C dX8_reset_51 (by decide) rfl ?_
  refine g_iastoreN (j := 2) (q := 53) C dX8_reset_52 rfl (gset_self (gset_self (gset_other (gset_other (gset_other (gset_other (gset_other (gset_other (gset_other H125 (by decide)) (by decide)) (by decide)) (by decide)) (by decide)) (by decide)) (by decide)))) (by unfold vp_in; decide) (by decide) ?_
  refine g_iinc (v := 3) (q := 56) C dX8_reset_53 rfl (by decide) (by simp only [gset]; rfl) rfl ?_
  refine g_goto (q := 40) C dX8_reset_56 (by decide) ?_
  refine g_iload_n (q := 41) C dX8_reset_40 rfl rfl ?_
  refine g_bipush (v := 9) (q := 43) C dX8_reset_41 (by decide) rfl ?_
  refine g_icmp_ge_f (t := 59) (q := 46) C dX8_reset_43 (by decide) rfl (by decide) ?_
  refine g_aload_n (q := 47) C dX8_reset_46 rfl rfl ?_
  refine g_getfield (q := 50) C fX8_16 dX8_reset_47 rfl (gset_other (gset_other (gset_other (gset_self (gset_self (gset_self (gset_self (gset_self (gset_self (gset_self H122))))))) (by decide)) (by decide)) (by decide)) rfl ?_
  refine g_iload_n (q := 51) C dX8_reset_50 rfl rfl ?_
  refine g_iconst (v := 0) (q := 52) C dX8_reset_51 (by decide) rfl ?_
  refine g_iastoreN (j := 3) (q := 53) C dX8_reset_52 rfl (gset_self (gset_self (gset_self (gset_other (gset_other (gset_other (gset_other (gset_other (gset_other (gset_other H125 (by decide)) (by decide)) (by decide)) (by decide)) (by decide)) (by decide)) (by decide))))) (by unfold vp_in; decide) (by decide) ?_
  refine g_iinc (v := 4) (q := 56) C dX8_reset_53 rfl (by decide) (by simp only [gset]; rfl) rfl ?_
  refine g_goto (q := 40) C dX8_reset_56 (by decide) ?_
  refine g_iload_n (q := 41) C dX8_reset_40 rfl rfl ?_
  refine g_bipush (v := 9) (q := 43) C dX8_reset_41 (by decide) rfl ?_
  refine g_icmp_ge_f (t := 59) (q := 46) C dX8_reset_43 (by decide) rfl (by decide) ?_
  refine g_aload_n (q := 47) C dX8_reset_46 rfl rfl ?_
  refine g_getfield (q := 50) C fX8_16 dX8_reset_47 rfl (gset_other (gset_other (gset_other (gset_other (gset_self (gset_self (gset_self (gset_self (gset_self (gset_self (gset_self H122))))))) (by decide)) (by decide)) (by decide)) (by decide)) rfl ?_
  refine g_iload_n (q := 51) C dX8_reset_50 rfl rfl ?_
  refine g_iconst (v := 0) (q := 52) C dX8_reset_51 (by decide) rfl ?_
  refine g_iastoreN (j := 4) (q := 53) C dX8_reset_52 rfl (gset_self (gset_self (gset_self (gset_self (gset_other (gset_other (gset_other (gset_other (gset_other (gset_other (gset_other H125 (by decide)) (by decide)) (by decide)) (by decide)) (by decide)) (by decide)) (by decide)))))) (by unfold vp_in; decide) (by decide) ?_
  refine g_iinc (v := 5) (q := 56) C dX8_reset_53 rfl (by decide) (by simp only [gset]; rfl) rfl ?_
  refine g_goto (q := 40) C dX8_reset_56 (by decide) ?_
  refine g_iload_n (q := 41) C dX8_reset_40 rfl rfl ?_
  refine g_bipush (v := 9) (q := 43) C dX8_reset_41 (by decide) rfl ?_
  refine g_icmp_ge_f (t := 59) (q := 46) C dX8_reset_43 (by decide) rfl (by decide) ?_
  refine g_aload_n (q := 47) C dX8_reset_46 rfl rfl ?_
  refine g_getfield (q := 50) C fX8_16 dX8_reset_47 rfl (gset_other (gset_other (gset_other (gset_other (gset_other (gset_self (gset_self (gset_self (gset_self (gset_self (gset_self (gset_self H122))))))) (by decide)) (by decide)) (by decide)) (by decide)) (by decide)) rfl ?_
  refine g_iload_n (q := 51) C dX8_reset_50 rfl rfl ?_
  refine g_iconst (v := 0) (q := 52) C dX8_reset_51 (by decide) rfl ?_
  refine g_iastoreN (j := 5) (q := 53) C dX8_reset_52 rfl (gset_self (gset_self (gset_self (gset_self (gset_self (gset_other (gset_other (gset_other (gset_other (gset_other (gset_other (gset_other H125 (by decide)) (by decide)) (by decide)) (by decide)) (by decide)) (by decide)) (by decide))))))) (by unfold vp_in; decide) (by decide) ?_
  refine g_iinc (v := 6) (q := 56) C dX8_reset_53 rfl (by decide) (by simp only [gset]; rfl) rfl ?_
  refine g_goto (q := 40) C dX8_reset_56 (by decide) ?_
  refine g_iload_n (q := 41) C dX8_reset_40 rfl rfl ?_
  refine g_bipush (v := 9) (q := 43) C dX8_reset_41 (by decide) rfl ?_
  refine g_icmp_ge_f (t := 59) (q := 46) C dX8_reset_43 (by decide) rfl (by decide) ?_
  refine g_aload_n (q := 47) C dX8_reset_46 rfl rfl ?_
  refine g_getfield (q := 50) C fX8_16 dX8_reset_47 rfl (gset_other (gset_other (gset_other (gset_other (gset_other (gset_other (gset_self (gset_self (gset_self (gset_self (gset_self (gset_self (gset_self H122))))))) (by decide)) (by decide)) (by decide)) (by decide)) (by decide)) (by decide)) rfl ?_
  refine g_iload_n (q := 51) C dX8_reset_50 rfl rfl ?_
  refine g_iconst (v := 0) (q := 52) C dX8_reset_51 (by decide) rfl ?_
  refine g_iastoreN (j := 6) (q := 53) C dX8_reset_52 rfl (gset_self (gset_self (gset_self (gset_self (gset_self (gset_self (gset_other (gset_other (gset_other (gset_other (gset_other (gset_other (gset_other H125 (by decide)) (by decide)) (by decide)) (by decide)) (by decide)) (by decide)) (by decide)))))))) (by unfold vp_in; decide) (by decide) ?_
  refine g_iinc (v := 7) (q := 56) C dX8_reset_53 rfl (by decide) (by simp only [gset]; rfl) rfl ?_
  refine g_goto (q := 40) C dX8_reset_56 (by decide) ?_
  refine g_iload_n (q := 41) C dX8_reset_40 rfl rfl ?_
  refine g_bipush (v := 9) (q := 43) C dX8_reset_41 (by decide) rfl ?_
  refine g_icmp_ge_f (t := 59) (q := 46) C dX8_reset_43 (by decide) rfl (by decide) ?_
  refine g_aload_n (q := 47) C dX8_reset_46 rfl rfl ?_
  refine g_getfield (q := 50) C fX8_16 dX8_reset_47 rfl (gset_other (gset_other (gset_other (gset_other (gset_other (gset_other (gset_other (gset_self (gset_self (gset_self (gset_self (gset_self (gset_self (gset_self H122))))))) (by decide)) (by decide)) (by decide)) (by decide)) (by decide)) (by decide)) (by decide)) rfl ?_
  refine g_iload_n (q := 51) C dX8_reset_50 rfl rfl ?_
  refine g_iconst (v := 0) (q := 52) C dX8_reset_51 (by decide) rfl ?_
  refine g_iastoreN (j := 7) (q := 53) C dX8_reset_52 rfl (gset_self (gset_self (gset_self (gset_self (gset_self (gset_self (gset_self (gset_other (gset_other (gset_other (gset_other (gset_other (gset_other (gset_other H125 (by decide)) (by decide)) (by decide)) (by decide)) (by decide)) (by decide)) (by decide))))))))) (by unfold vp_in; decide) (by decide) ?_
  refine g_iinc (v := 8) (q := 56) C dX8_reset_53 rfl (by decide) (by simp only [gset]; rfl) rfl ?_
  refine g_goto (q := 40) C dX8_reset_56 (by decide) ?_
  refine g_iload_n (q := 41) C dX8_reset_40 rfl rfl ?_
  refine g_bipush (v := 9) (q := 43) C dX8_reset_41 (by decide) rfl ?_
  refine g_icmp_ge_f (t := 59) (q := 46) C dX8_reset_43 (by decide) rfl (by decide) ?_
  refine g_aload_n (q := 47) C dX8_reset_46 rfl rfl ?_
  refine g_getfield (q := 50) C fX8_16 dX8_reset_47 rfl (gset_other (gset_other (gset_other (gset_other (gset_other (gset_other (gset_other (gset_other (gset_self (gset_self (gset_self (gset_self (gset_self (gset_self (gset_self H122))))))) (by decide)) (by decide)) (by decide)) (by decide)) (by decide)) (by decide)) (by decide)) (by decide)) rfl ?_
  refine g_iload_n (q := 51) C dX8_reset_50 rfl rfl ?_
  refine g_iconst (v := 0) (q := 52) C dX8_reset_51 (by decide) rfl ?_
  refine g_iastoreN (j := 8) (q := 53) C dX8_reset_52 rfl (gset_self (gset_self (gset_self (gset_self (gset_self (gset_self (gset_self (gset_self (gset_other (gset_other (gset_other (gset_other (gset_other (gset_other (gset_other H125 (by decide)) (by decide)) (by decide)) (by decide)) (by decide)) (by decide)) (by decide)))))))))) (by unfold vp_in; decide) (by decide) ?_
  refine g_iinc (v := 9) (q := 56) C dX8_reset_53 rfl (by decide) (by simp only [gset]; rfl) rfl ?_
  refine g_goto (q := 40) C dX8_reset_56 (by decide) ?_
  refine g_iload_n (q := 41) C dX8_reset_40 rfl rfl ?_
  refine g_bipush (v := 9) (q := 43) C dX8_reset_41 (by decide) rfl ?_
  refine g_icmp_ge_t (t := 59) C dX8_reset_43 (by decide) (by decide) ?_
  refine g_aload_n (q := 60) C dX8_reset_59 rfl rfl ?_
  refine g_getfield (q := 63) C fX8_16 dX8_reset_60 rfl (gset_other (gset_other (gset_other (gset_other (gset_other (gset_other (gset_other (gset_other (gset_other (gset_self (gset_self (gset_self (gset_self (gset_self (gset_self (gset_self H122))))))) (by decide)) (by decide)) (by decide)) (by decide)) (by decide)) (by decide)) (by decide)) (by decide)) (by decide)) rfl ?_
  refine g_iconst (v := 1) (q := 64) C dX8_reset_63 (by decide) rfl ?_
  refine g_sipush (v := 372) (q := 67) C dX8_reset_64 (by decide) rfl ?_
  refine g_iastoreN (j := 1) (q := 68) C dX8_reset_67 rfl (gset_self (gset_self (gset_self (gset_self (gset_self (gset_self (gset_self (gset_self (gset_self (gset_other (gset_other (gset_other (gset_other (gset_other (gset_other (gset_other H125 (by decide)) (by decide)) (by decide)) (by decide)) (by decide)) (by decide)) (by decide))))))))))) (by unfold vp_in; decide) (by decide) ?_
  refine g_aload_n (q := 69) C dX8_reset_68 rfl rfl ?_
  refine g_getfield (q := 72) C fX8_16 dX8_reset_69 rfl (gset_other (gset_other (gset_other (gset_other (gset_other (gset_other (gset_other (gset_other (gset_other (gset_other (gset_self (gset_self (gset_self (gset_self (gset_self (gset_self (gset_self H122))))))) (by decide)) (by decide)) (by decide)) (by decide)) (by decide)) (by decide)) (by decide)) (by decide)) (by decide)) (by decide)) rfl ?_
  refine g_iconst (v := 2) (q := 73) C dX8_reset_72 (by decide) rfl ?_
  refine g_iconst (v := 1) (q := 74) C dX8_reset_73 (by decide) rfl ?_
  refine g_iastoreN (j := 2) (q := 75) C dX8_reset_74 rfl (gset_self (gset_self (gset_self (gset_self (gset_self (gset_self (gset_self (gset_self (gset_self (gset_self (gset_other (gset_other (gset_other (gset_other (gset_other (gset_other (gset_other H125 (by decide)) (by decide)) (by decide)) (by decide)) (by decide)) (by decide)) (by decide)))))))))))) (by unfold vp_in; decide) (by decide) ?_
  refine g_aload_n (q := 76) C dX8_reset_75 rfl rfl ?_
  refine g_getfield (q := 79) C fX8_16 dX8_reset_76 rfl (gset_other (gset_other (gset_other (gset_other (gset_other (gset_other (gset_other (gset_other (gset_other (gset_other (gset_other (gset_self (gset_self (gset_self (gset_self (gset_self (gset_self (gset_self H122))))))) (by decide)) (by decide)) (by decide)) (by decide)) (by decide)) (by decide)) (by decide)) (by decide)) (by decide)) (by decide)) (by decide)) rfl ?_
  refine g_bipush (v := 7) (q := 81) C dX8_reset_79 (by decide) rfl ?_
  refine g_bipush (v := 32) (q := 83) C dX8_reset_81 (by decide) rfl ?_
  refine g_iastoreN (j := 7) (q := 84) C dX8_reset_83 rfl (gset_self (gset_self (gset_self (gset_self (gset_self (gset_self (gset_self (gset_self (gset_self (gset_self (gset_self (gset_other (gset_other (gset_other (gset_other (gset_other (gset_other (gset_other H125 (by decide)) (by decide)) (by decide)) (by decide)) (by decide)) (by decide)) (by decide))))))))))))) (by unfold vp_in; decide) (by decide) ?_
  refine g_aload_n (q := 85) C dX8_reset_84 rfl rfl ?_
  refine g_getfield (q := 88) C fX8_16 dX8_reset_85 rfl (gset_other (gset_other (gset_other (gset_other (gset_other (gset_other (gset_other (gset_other (gset_other (gset_other (gset_other (gset_other (gset_self (gset_self (gset_self (gset_self (gset_self (gset_self (gset_self H122))))))) (by decide)) (by decide)) (by decide)) (by decide)) (by decide)) (by decide)) (by decide)) (by decide)) (by decide)) (by decide)) (by decide)) (by decide)) rfl ?_
  refine g_iconst (v := 0) (q := 89) C dX8_reset_88 (by decide) rfl ?_
  refine g_aload_n (q := 90) C dX8_reset_89 rfl rfl ?_
  refine g_callVi (q := 93) (As := []) C gyX8_byteNext gvX8_byteNext t_1222 (c_X8_byteNext_a (gset_other (gset_other (gset_other (gset_other (gset_other (gset_other (gset_other (gset_other (gset_other (gset_other (gset_other (gset_other (gset_self (gset_self (gset_self (gset_self (gset_self (gset_self (gset_self H122))))))) (by decide)) (by decide)) (by decide)) (by decide)) (by decide)) (by decide)) (by decide)) (by decide)) (by decide)) (by decide)) (by decide)) (by decide))) dX8_reset_90 rfl (gset_other (gset_other (gset_other (gset_other (gset_other (gset_other (gset_other (gset_other (gset_other (gset_other (gset_other (gset_other (gset_self (gset_self (gset_self (gset_self (gset_self (gset_self (gset_self H122))))))) (by decide)) (by decide)) (by decide)) (by decide)) (by decide)) (by decide)) (by decide)) (by decide)) (by decide)) (by decide)) (by decide)) (by decide)) rfl rfl rfl (Nat.le_of_ble_eq_true rfl) (Nat.le_of_ble_eq_true rfl) (Nat.le_of_ble_eq_true rfl) (Nat.le_of_ble_eq_true rfl) (Nat.le_of_ble_eq_true rfl) rfl ?_
  refine g_iastoreN (j := 0) (q := 94) C dX8_reset_93 rfl (gset_other (gset_self (gset_self (gset_self (gset_self (gset_self (gset_self (gset_self (gset_self (gset_self (gset_self (gset_self (gset_self (gset_other (gset_other (gset_other (gset_other (gset_other (gset_other (gset_other H125 (by decide)) (by decide)) (by decide)) (by decide)) (by decide)) (by decide)) (by decide)))))))))))))) (by decide)) (by unfold vp_in; decide) (by decide) ?_
  refine g_aload_n (q := 95) C dX8_reset_94 rfl rfl ?_
  refine g_getfield (q := 98) C fX8_86 dX8_reset_95 rfl (gset_other (gset_self (gset_other (gset_other (gset_other (gset_other (gset_other (gset_other (gset_other (gset_other (gset_other (gset_other (gset_other (gset_other (gset_self (gset_self (gset_self (gset_self (gset_self (gset_self (gset_self H122))))))) (by decide)) (by decide)) (by decide)) (by decide)) (by decide)) (by decide)) (by decide)) (by decide)) (by decide)) (by decide)) (by decide)) (by decide))) (by decide)) rfl ?_
  refine g_if_ne_t (t := 129) C dX8_reset_98 (by decide) (by decide) ?_
  refine g_aload_n (q := 130) C dX8_reset_129 rfl rfl ?_
  refine g_callVi (q := 133) (As := []) C gyX8_byteNext gvX8_byteNext t_1222 (c_X8_byteNext_b (gset_other (gset_self (gset_other (gset_other (gset_other (gset_other (gset_other (gset_other (gset_other (gset_other (gset_other (gset_other (gset_other (gset_other (gset_self (gset_self (gset_self (gset_self (gset_self (gset_self (gset_self H122))))))) (by decide)) (by decide)) (by decide)) (by decide)) (by decide)) (by decide)) (by decide)) (by decide)) (by decide)) (by decide)) (by decide)) (by decide))) (by decide))) dX8_reset_130 rfl (gset_other (gset_self (gset_other (gset_other (gset_other (gset_other (gset_other (gset_other (gset_other (gset_other (gset_other (gset_other (gset_other (gset_other (gset_self (gset_self (gset_self (gset_self (gset_self (gset_self (gset_self H122))))))) (by decide)) (by decide)) (by decide)) (by decide)) (by decide)) (by decide)) (by decide)) (by decide)) (by decide)) (by decide)) (by decide)) (by decide))) (by decide)) rfl rfl rfl (Nat.le_of_ble_eq_true rfl) (Nat.le_of_ble_eq_true rfl) (Nat.le_of_ble_eq_true rfl) (Nat.le_of_ble_eq_true rfl) (Nat.le_of_ble_eq_true rfl) rfl ?_
  refine g_istore_n (q := 134) C dX8_reset_133 (Nat.le_of_ble_eq_true rfl) (by simp only [gset]; rfl) rfl ?_
  refine g_aload_n (q := 135) C dX8_reset_134 rfl rfl ?_
  refine g_iload_n (q := 136) C dX8_reset_135 rfl rfl ?_
  refine g_iconst (v := 4) (q := 137) C dX8_reset_136 (by decide) rfl ?_
  refine g_ishr (q := 138) C dX8_reset_137 rfl ?_
  refine g_callVv (q := 141) (As := [.int _]) C gyX8_groupsTold gvX8_groupsTold t_1230 (c_X8_groupsTold_b (gset_other (gset_self (gset_other (gset_other (gset_other (gset_other (gset_other (gset_other (gset_other (gset_other (gset_other (gset_other (gset_other (gset_other (gset_self (gset_self (gset_self (gset_self (gset_self (gset_self (gset_self H122))))))) (by decide)) (by decide)) (by decide)) (by decide)) (by decide)) (by decide)) (by decide)) (by decide)) (by decide)) (by decide)) (by decide)) (by decide))) (by decide))) dX8_reset_138 rfl (gset_other (gset_self (gset_other (gset_other (gset_other (gset_other (gset_other (gset_other (gset_other (gset_other (gset_other (gset_other (gset_other (gset_other (gset_self (gset_self (gset_self (gset_self (gset_self (gset_self (gset_self H122))))))) (by decide)) (by decide)) (by decide)) (by decide)) (by decide)) (by decide)) (by decide)) (by decide)) (by decide)) (by decide)) (by decide)) (by decide))) (by decide)) rfl rfl rfl (Nat.le_of_ble_eq_true rfl) (Nat.le_of_ble_eq_true rfl) (Nat.le_of_ble_eq_true rfl) (Nat.le_of_ble_eq_true rfl) (Nat.le_of_ble_eq_true rfl) rfl ?_
  refine g_aload_n (q := 142) C dX8_reset_141 rfl rfl ?_
  refine g_getfield (q := 145) C fX8_16 dX8_reset_142 rfl (gset_other (gset_self (gset_other (gset_other (gset_other (gset_other (gset_other (gset_other (gset_other (gset_other (gset_other (gset_other (gset_other (gset_other (gset_self (gset_self (gset_self (gset_self (gset_self (gset_self (gset_self H122))))))) (by decide)) (by decide)) (by decide)) (by decide)) (by decide)) (by decide)) (by decide)) (by decide)) (by decide)) (by decide)) (by decide)) (by decide))) (by decide)) rfl ?_
  refine g_bipush (v := 6) (q := 147) C dX8_reset_145 (by decide) rfl ?_
  refine g_iload_n (q := 148) C dX8_reset_147 rfl rfl ?_
  refine g_bipush (v := 15) (q := 150) C dX8_reset_148 (by decide) rfl ?_
  refine g_iand (q := 151) C dX8_reset_150 rfl ?_
  refine g_iastoreN (j := 6) (q := 152) C dX8_reset_151 rfl (gset_self (gset_other (gset_self (gset_self (gset_self (gset_self (gset_self (gset_self (gset_self (gset_self (gset_self (gset_self (gset_self (gset_self (gset_other (gset_other (gset_other (gset_other (gset_other (gset_other (gset_other H125 (by decide)) (by decide)) (by decide)) (by decide)) (by decide)) (by decide)) (by decide)))))))))))))) (by decide))) (by unfold vp_in; decide) (by decide) ?_
  refine g_aload_n (q := 153) C dX8_reset_152 rfl rfl ?_
  refine g_getfield (q := 156) C fX8_89 dX8_reset_153 rfl (gset_other (gset_other (gset_self (gset_other (gset_other (gset_other (gset_other (gset_other (gset_other (gset_other (gset_other (gset_other (gset_other (gset_other (gset_other (gset_self (gset_self (gset_self (gset_self (gset_self (gset_self (gset_self H122))))))) (by decide)) (by decide)) (by decide)) (by decide)) (by decide)) (by decide)) (by decide)) (by decide)) (by decide)) (by decide)) (by decide)) (by decide))) (by decide)) (by decide)) rfl ?_
  refine g_istore_n (q := 157) C dX8_reset_156 (Nat.le_of_ble_eq_true rfl) (by simp only [gset]; rfl) rfl ?_
  refine g_iconst (v := 0) (q := 158) C dX8_reset_157 (by decide) rfl ?_
  refine g_istore_n (q := 159) C dX8_reset_158 (Nat.le_of_ble_eq_true rfl) (by simp only [gset]; rfl) rfl ?_
  refine g_iload_n (q := 160) C dX8_reset_159 rfl rfl ?_
  refine g_aload_n (q := 161) C dX8_reset_160 rfl rfl ?_
  refine g_getfield (q := 164) C fX8_16 dX8_reset_161 rfl (gset_other (gset_other (gset_self (gset_other (gset_other (gset_other (gset_other (gset_other (gset_other (gset_other (gset_other (gset_other (gset_other (gset_other (gset_other (gset_self (gset_self (gset_self (gset_self (gset_self (gset_self (gset_self H122))))))) (by decide)) (by decide)) (by decide)) (by decide)) (by decide)) (by decide)) (by decide)) (by decide)) (by decide)) (by decide)) (by decide)) (by decide))) (by decide)) (by decide)) rfl ?_
  refine g_bipush (v := 6) (q := 166) C dX8_reset_164 (by decide) rfl ?_
  refine g_ialoadN (x := 0) (j := 6) (q := 167) C dX8_reset_166 rfl (gset_self (gset_self (gset_other (gset_self (gset_self (gset_self (gset_self (gset_self (gset_self (gset_self (gset_self (gset_self (gset_self (gset_self (gset_self (gset_other (gset_other (gset_other (gset_other (gset_other (gset_other (gset_other H125 (by decide)) (by decide)) (by decide)) (by decide)) (by decide)) (by decide)) (by decide)))))))))))))) (by decide)))) (by unfold vp_in; decide) (by decide) (by simp [upd]) ?_
  refine g_icmp_ge_t (t := 181) C dX8_reset_167 (by decide) (by decide) ?_
  refine g_aload_n (q := 182) C dX8_reset_181 rfl rfl ?_
  refine g_getfield (q := 185) C fX8_123 dX8_reset_182 rfl (gset_other (gset_other (gset_self (gset_other (gset_other (gset_other (gset_other (gset_other (gset_other (gset_other (gset_other (gset_other (gset_other (gset_other (gset_other (gset_self (gset_self (gset_self (gset_self (gset_self (gset_self (gset_self H122))))))) (by decide)) (by decide)) (by decide)) (by decide)) (by decide)) (by decide)) (by decide)) (by decide)) (by decide)) (by decide)) (by decide)) (by decide))) (by decide)) (by decide)) rfl ?_
  refine g_if_eq_t (t := 192) C dX8_reset_185 (by decide) (by decide) ?_
  refine g_aload_n (q := 193) C dX8_reset_192 rfl rfl ?_
  refine g_getfield (q := 196) C fX8_86 dX8_reset_193 rfl (gset_other (gset_other (gset_self (gset_other (gset_other (gset_other (gset_other (gset_other (gset_other (gset_other (gset_other (gset_other (gset_other (gset_other (gset_other (gset_self (gset_self (gset_self (gset_self (gset_self (gset_self (gset_self H122))))))) (by decide)) (by decide)) (by decide)) (by decide)) (by decide)) (by decide)) (by decide)) (by decide)) (by decide)) (by decide)) (by decide)) (by decide))) (by decide)) (by decide)) rfl ?_
  refine g_if_ne_t (t := 220) C dX8_reset_196 (by decide) (by decide) ?_
  refine g_aload_n (q := 221) C dX8_reset_220 rfl rfl ?_
  refine g_getfield (q := 224) C fX8_86 dX8_reset_221 rfl (gset_other (gset_other (gset_self (gset_other (gset_other (gset_other (gset_other (gset_other (gset_other (gset_other (gset_other (gset_other (gset_other (gset_other (gset_other (gset_self (gset_self (gset_self (gset_self (gset_self (gset_self (gset_self H122))))))) (by decide)) (by decide)) (by decide)) (by decide)) (by decide)) (by decide)) (by decide)) (by decide)) (by decide)) (by decide)) (by decide)) (by decide))) (by decide)) (by decide)) rfl ?_
  refine g_if_eq_f (t := 235) (q := 227) C dX8_reset_224 (by decide) rfl (by decide) ?_
  refine g_bipush (v := (-2)) (q := 229) C dX8_reset_227 (by decide) rfl ?_
  refine g_aload_n (q := 230) C dX8_reset_229 rfl rfl ?_
  refine g_getfield (q := 233) C fX8_86 dX8_reset_230 rfl (gset_other (gset_other (gset_self (gset_other (gset_other (gset_other (gset_other (gset_other (gset_other (gset_other (gset_other (gset_other (gset_other (gset_other (gset_other (gset_self (gset_self (gset_self (gset_self (gset_self (gset_self (gset_self H122))))))) (by decide)) (by decide)) (by decide)) (by decide)) (by decide)) (by decide)) (by decide)) (by decide)) (by decide)) (by decide)) (by decide)) (by decide))) (by decide)) (by decide)) rfl ?_
  refine g_isub (q := 234) C dX8_reset_233 rfl ?_
  exact E.1 _ _ _ _ _ _ _ dX8_reset_234 rfl rfl (Nat.le_of_ble_eq_true rfl) (Nat.le_of_ble_eq_true rfl) ⟨rfl, trivial⟩
