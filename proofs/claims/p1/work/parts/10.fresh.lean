/-! the class's calls on a new object, its cells at their places 0 to 121 (by program: wip/p1/m_fresh.py) -/
theorem dX1_kept_0 : decode cX1_kept 0 = .ok (.aload_n 0, 1) := by decide +kernel
theorem dX1_kept_1 : decode cX1_kept 1 = .ok (.getfield 34, 3) := by decide +kernel
theorem dX1_kept_4 : decode cX1_kept 4 = .ok (.invokevirtual 51, 3) := by decide +kernel
theorem dX1_kept_7 : decode cX1_kept 7 = .ok (.ireturn, 1) := by decide +kernel
set_option maxRecDepth 100000 in
set_option maxHeartbeats 4000000 in
theorem c_X1_kept {hp : List gA} {j j0 j1 j2 j3 j4 j5 j6 j7 a : Nat} {j8 len most : Int32} (hj : hp[j]? = some (.inr (.inr (1, [.ref j0, .ref j1, .ref j2, .ref j3, .ref j4, .ref j5, .ref j6, .ref j7, .int j8])))) (hr : hp[j5]? = some (.inr (.inr (4, [.ref a, .int len, .int most])))) : gM yX1_kept cX1_kept 1 ((some .int)) 1 20 [.ref j] (hp) (0) (0) (fun v h => v = some (.int len) ∧ h = hp) := by
  refine gM_of (ls0 := [some (.ref j)]) (by decide +kernel) (Nat.le_of_ble_eq_true rfl) rfl fun X C E => ?_
  refine g_aload_n (q := 1) C dX1_kept_0 rfl rfl ?_
  refine g_getfield (q := 4) C fX1_34 dX1_kept_1 rfl hj rfl ?_
  refine g_callVi (q := 7) (As := []) C gyX4_size gvX4_size t_856 (c_X4_size hr) dX1_kept_4 rfl hr rfl rfl rfl (Nat.le_of_ble_eq_true rfl) (Nat.le_of_ble_eq_true rfl) (Nat.le_of_ble_eq_true rfl) (Nat.le_of_ble_eq_true rfl) (Nat.le_of_ble_eq_true rfl) rfl ?_
  exact E.1 _ _ _ _ _ _ _ dX1_kept_7 rfl rfl (Nat.le_of_ble_eq_true rfl) (Nat.le_of_ble_eq_true rfl) ⟨rfl, rfl⟩
theorem dX1_unlike_0 : decode cX1_unlike 0 = .ok (.aload_n 0, 1) := by decide +kernel
theorem dX1_unlike_1 : decode cX1_unlike 1 = .ok (.getfield 22, 3) := by decide +kernel
theorem dX1_unlike_4 : decode cX1_unlike 4 = .ok (.invokevirtual 51, 3) := by decide +kernel
theorem dX1_unlike_7 : decode cX1_unlike 7 = .ok (.ireturn, 1) := by decide +kernel
set_option maxRecDepth 100000 in
set_option maxHeartbeats 4000000 in
theorem c_X1_unlike {hp : List gA} {j j0 j1 j2 j3 j4 j5 j6 j7 a : Nat} {j8 len most : Int32} (hj : hp[j]? = some (.inr (.inr (1, [.ref j0, .ref j1, .ref j2, .ref j3, .ref j4, .ref j5, .ref j6, .ref j7, .int j8])))) (hr : hp[j1]? = some (.inr (.inr (4, [.ref a, .int len, .int most])))) : gM yX1_unlike cX1_unlike 1 ((some .int)) 1 20 [.ref j] (hp) (0) (0) (fun v h => v = some (.int len) ∧ h = hp) := by
  refine gM_of (ls0 := [some (.ref j)]) (by decide +kernel) (Nat.le_of_ble_eq_true rfl) rfl fun X C E => ?_
  refine g_aload_n (q := 1) C dX1_unlike_0 rfl rfl ?_
  refine g_getfield (q := 4) C fX1_22 dX1_unlike_1 rfl hj rfl ?_
  refine g_callVi (q := 7) (As := []) C gyX4_size gvX4_size t_856 (c_X4_size hr) dX1_unlike_4 rfl hr rfl rfl rfl (Nat.le_of_ble_eq_true rfl) (Nat.le_of_ble_eq_true rfl) (Nat.le_of_ble_eq_true rfl) (Nat.le_of_ble_eq_true rfl) (Nat.le_of_ble_eq_true rfl) rfl ?_
  exact E.1 _ _ _ _ _ _ _ dX1_unlike_7 rfl rfl (Nat.le_of_ble_eq_true rfl) (Nat.le_of_ble_eq_true rfl) ⟨rfl, rfl⟩
theorem dX6_faults_0 : decode cX6_faults 0 = .ok (.aload_n 0, 1) := by decide +kernel
theorem dX6_faults_1 : decode cX6_faults 1 = .ok (.getfield 31, 3) := by decide +kernel
theorem dX6_faults_4 : decode cX6_faults 4 = .ok (.ireturn, 1) := by decide +kernel
set_option maxRecDepth 100000 in
set_option maxHeartbeats 4000000 in
theorem c_X6_faults {hp : List gA} {w a b c : Nat} {w0 w1 w2 w6 w7 w8 w9 : Int32} (hw : hp[w]? = some (.inr (.inr (6, [.int w0, .int w1, .int w2, .ref a, .ref b, .ref c, .int w6, .int w7, .int w8, .int w9])))) : gM yX6_faults cX6_faults 1 ((some .int)) 0 0 [.ref w] (hp) (0) (0) (fun v h => v = some (.int w6) ∧ h = hp) := by
  refine gM_of (ls0 := [some (.ref w)]) (by decide +kernel) (Nat.le_of_ble_eq_true rfl) rfl fun X C E => ?_
  refine g_aload_n (q := 1) C dX6_faults_0 rfl rfl ?_
  refine g_getfield (q := 4) C fX6_31 dX6_faults_1 rfl hw rfl ?_
  exact E.1 _ _ _ _ _ _ _ dX6_faults_4 rfl rfl (Nat.le_of_ble_eq_true rfl) (Nat.le_of_ble_eq_true rfl) ⟨rfl, rfl⟩
theorem dX3_faultAt_0 : decode cX3_faultAt 0 = .ok (.bipush 8, 2) := by decide +kernel
theorem dX3_faultAt_2 : decode cX3_faultAt 2 = .ok (.iload_n 0, 1) := by decide +kernel
theorem dX3_faultAt_3 : decode cX3_faultAt 3 = .ok (.imul, 1) := by decide +kernel
theorem dX3_faultAt_4 : decode cX3_faultAt 4 = .ok (.iload_n 1, 1) := by decide +kernel
theorem dX3_faultAt_5 : decode cX3_faultAt 5 = .ok (.iadd, 1) := by decide +kernel
theorem dX3_faultAt_6 : decode cX3_faultAt 6 = .ok (.ireturn, 1) := by decide +kernel
set_option maxRecDepth 100000 in
set_option maxHeartbeats 4000000 in
theorem c_X3_faultAt {hp : List gA} {a b : Int32}  : gM yX3_faultAt cX3_faultAt 2 ((some .int)) 0 0 [.int a, .int b] (hp) (0) (0) (fun v h => v = some (.int (8 * a + b)) ∧ h = hp) := by
  refine gM_of (ls0 := [some (.int a), some (.int b)]) (by decide +kernel) (Nat.le_of_ble_eq_true rfl) rfl fun X C E => ?_
  refine g_bipush (v := 8) (q := 2) C dX3_faultAt_0 (by decide) rfl ?_
  refine g_iload_n (q := 3) C dX3_faultAt_2 rfl rfl ?_
  refine g_imul (q := 4) C dX3_faultAt_3 rfl ?_
  refine g_iload_n (q := 5) C dX3_faultAt_4 rfl rfl ?_
  refine g_iadd (q := 6) C dX3_faultAt_5 rfl ?_
  exact E.1 _ _ _ _ _ _ _ dX3_faultAt_6 rfl rfl (Nat.le_of_ble_eq_true rfl) (Nat.le_of_ble_eq_true rfl) ⟨rfl, rfl⟩
theorem dX7_mayStart_0 : decode cX7_mayStart 0 = .ok (.aload_n 0, 1) := by decide +kernel
theorem dX7_mayStart_1 : decode cX7_mayStart 1 = .ok (.getfield 51, 3) := by decide +kernel
theorem dX7_mayStart_4 : decode cX7_mayStart 4 = .ok (.ifCond .eq 29, 3) := by decide +kernel
theorem dX7_mayStart_33 : decode cX7_mayStart 33 = .ok (.iconst 0, 1) := by decide +kernel
theorem dX7_mayStart_34 : decode cX7_mayStart 34 = .ok (.ireturn, 1) := by decide +kernel
set_option maxRecDepth 100000 in
set_option maxHeartbeats 4000000 in
theorem c_X7_mayStart_0 {hp : List gA}  (H0 : hp[0]? = some (.inr (.inr (7, [.ref 1, .ref 3, .ref 20, .ref 43, .ref 116, .ref 119, .int 0])))) : gM yX7_mayStart cX7_mayStart 1 ((some .boolean)) 0 0 [.ref 0] (hp) (0) (0) (fun v h => v = some (.int 0) ∧ h = hp) := by
  refine gM_of (ls0 := [some (.ref 0)]) (by decide +kernel) (Nat.le_of_ble_eq_true rfl) rfl fun X C E => ?_
  refine g_aload_n (q := 1) C dX7_mayStart_0 rfl rfl ?_
  refine g_getfield (q := 4) C fX7_51 dX7_mayStart_1 rfl H0 rfl ?_
  refine g_if_eq_t (t := 33) C dX7_mayStart_4 (by decide) (by decide) ?_
  refine g_iconst (v := 0) (q := 34) C dX7_mayStart_33 (by decide) rfl ?_
  exact E.1 _ _ _ _ _ _ _ dX7_mayStart_34 rfl rfl (Nat.le_of_ble_eq_true rfl) (Nat.le_of_ble_eq_true rfl) ⟨rfl, rfl⟩
theorem dX7_onWay_0 : decode cX7_onWay 0 = .ok (.aload_n 0, 1) := by decide +kernel
theorem dX7_onWay_1 : decode cX7_onWay 1 = .ok (.getfield 51, 3) := by decide +kernel
theorem dX7_onWay_4 : decode cX7_onWay 4 = .ok (.ifCond .eq 18, 3) := by decide +kernel
theorem dX7_onWay_22 : decode cX7_onWay 22 = .ok (.iconst 0, 1) := by decide +kernel
theorem dX7_onWay_23 : decode cX7_onWay 23 = .ok (.ireturn, 1) := by decide +kernel
set_option maxRecDepth 100000 in
set_option maxHeartbeats 4000000 in
theorem c_X7_onWay_0 {hp : List gA}  (H0 : hp[0]? = some (.inr (.inr (7, [.ref 1, .ref 3, .ref 20, .ref 43, .ref 116, .ref 119, .int 0])))) : gM yX7_onWay cX7_onWay 1 ((some .boolean)) 0 0 [.ref 0] (hp) (0) (0) (fun v h => v = some (.int 0) ∧ h = hp) := by
  refine gM_of (ls0 := [some (.ref 0)]) (by decide +kernel) (Nat.le_of_ble_eq_true rfl) rfl fun X C E => ?_
  refine g_aload_n (q := 1) C dX7_onWay_0 rfl rfl ?_
  refine g_getfield (q := 4) C fX7_51 dX7_onWay_1 rfl H0 rfl ?_
  refine g_if_eq_t (t := 22) C dX7_onWay_4 (by decide) (by decide) ?_
  refine g_iconst (v := 0) (q := 23) C dX7_onWay_22 (by decide) rfl ?_
  exact E.1 _ _ _ _ _ _ _ dX7_onWay_23 rfl rfl (Nat.le_of_ble_eq_true rfl) (Nat.le_of_ble_eq_true rfl) ⟨rfl, rfl⟩
theorem dX7_answer_0 : decode cX7_answer 0 = .ok (.aload_n 0, 1) := by decide +kernel
theorem dX7_answer_1 : decode cX7_answer 1 = .ok (.getfield 51, 3) := by decide +kernel
theorem dX7_answer_4 : decode cX7_answer 4 = .ok (.ifCond .eq 14, 3) := by decide +kernel
theorem dX7_answer_18 : decode cX7_answer 18 = .ok (.iconst (-1), 1) := by decide +kernel
theorem dX7_answer_19 : decode cX7_answer 19 = .ok (.ireturn, 1) := by decide +kernel
set_option maxRecDepth 100000 in
set_option maxHeartbeats 4000000 in
theorem c_X7_answer_0 {hp : List gA} {p0 : Int32} (H0 : hp[0]? = some (.inr (.inr (7, [.ref 1, .ref 3, .ref 20, .ref 43, .ref 116, .ref 119, .int 0])))) : gM yX7_answer cX7_answer 2 ((some .int)) 2 42 [.ref 0, .int p0] (hp) (0) (0) (fun v h => v = some (.int (-1)) ∧ ∀ k, 122 ≤ k → h[k]? = hp[k]?) := by
  refine gM_of (ls0 := [some (.ref 0), some (.int p0)]) (by decide +kernel) (Nat.le_of_ble_eq_true rfl) rfl fun X C E => ?_
  refine g_aload_n (q := 1) C dX7_answer_0 rfl rfl ?_
  refine g_getfield (q := 4) C fX7_51 dX7_answer_1 rfl H0 rfl ?_
  refine g_if_eq_t (t := 18) C dX7_answer_4 (by decide) (by decide) ?_
  refine g_iconst (v := (-1)) (q := 19) C dX7_answer_18 (by decide) rfl ?_
  exact E.1 _ _ _ _ _ _ _ dX7_answer_19 rfl rfl (Nat.le_of_ble_eq_true rfl) (Nat.le_of_ble_eq_true rfl) ⟨rfl, (fun k hk => by repeat (first | rfl | rw [List.getElem?_set_ne (by omega)]))⟩
theorem dX7_historical_0 : decode cX7_historical 0 = .ok (.aload_n 0, 1) := by decide +kernel
theorem dX7_historical_1 : decode cX7_historical 1 = .ok (.getfield 51, 3) := by decide +kernel
theorem dX7_historical_4 : decode cX7_historical 4 = .ok (.ifCond .eq 18, 3) := by decide +kernel
theorem dX7_historical_22 : decode cX7_historical 22 = .ok (.iconst (-1), 1) := by decide +kernel
theorem dX7_historical_23 : decode cX7_historical 23 = .ok (.ireturn, 1) := by decide +kernel
set_option maxRecDepth 100000 in
set_option maxHeartbeats 4000000 in
theorem c_X7_historical_0 {hp : List gA} {p0 : Int32} (H0 : hp[0]? = some (.inr (.inr (7, [.ref 1, .ref 3, .ref 20, .ref 43, .ref 116, .ref 119, .int 0])))) : gM yX7_historical cX7_historical 2 ((some .int)) 2 42 [.ref 0, .int p0] (hp) (0) (0) (fun v h => v = some (.int (-1)) ∧ ∀ k, 122 ≤ k → h[k]? = hp[k]?) := by
  refine gM_of (ls0 := [some (.ref 0), some (.int p0)]) (by decide +kernel) (Nat.le_of_ble_eq_true rfl) rfl fun X C E => ?_
  refine g_aload_n (q := 1) C dX7_historical_0 rfl rfl ?_
  refine g_getfield (q := 4) C fX7_51 dX7_historical_1 rfl H0 rfl ?_
  refine g_if_eq_t (t := 22) C dX7_historical_4 (by decide) (by decide) ?_
  refine g_iconst (v := (-1)) (q := 23) C dX7_historical_22 (by decide) rfl ?_
  exact E.1 _ _ _ _ _ _ _ dX7_historical_23 rfl rfl (Nat.le_of_ble_eq_true rfl) (Nat.le_of_ble_eq_true rfl) ⟨rfl, (fun k hk => by repeat (first | rfl | rw [List.getElem?_set_ne (by omega)]))⟩
theorem dX7_state_0 : decode cX7_state 0 = .ok (.aload_n 0, 1) := by decide +kernel
theorem dX7_state_1 : decode cX7_state 1 = .ok (.getfield 51, 3) := by decide +kernel
theorem dX7_state_4 : decode cX7_state 4 = .ok (.ifCond .eq 13, 3) := by decide +kernel
theorem dX7_state_17 : decode cX7_state 17 = .ok (.iconst (-1), 1) := by decide +kernel
theorem dX7_state_18 : decode cX7_state 18 = .ok (.ireturn, 1) := by decide +kernel
set_option maxRecDepth 100000 in
set_option maxHeartbeats 4000000 in
theorem c_X7_state_0 {hp : List gA}  (H0 : hp[0]? = some (.inr (.inr (7, [.ref 1, .ref 3, .ref 20, .ref 43, .ref 116, .ref 119, .int 0])))) : gM yX7_state cX7_state 1 ((some .int)) 0 0 [.ref 0] (hp) (0) (0) (fun v h => v = some (.int (-1)) ∧ ∀ k, 122 ≤ k → h[k]? = hp[k]?) := by
  refine gM_of (ls0 := [some (.ref 0)]) (by decide +kernel) (Nat.le_of_ble_eq_true rfl) rfl fun X C E => ?_
  refine g_aload_n (q := 1) C dX7_state_0 rfl rfl ?_
  refine g_getfield (q := 4) C fX7_51 dX7_state_1 rfl H0 rfl ?_
  refine g_if_eq_t (t := 17) C dX7_state_4 (by decide) (by decide) ?_
  refine g_iconst (v := (-1)) (q := 18) C dX7_state_17 (by decide) rfl ?_
  exact E.1 _ _ _ _ _ _ _ dX7_state_18 rfl rfl (Nat.le_of_ble_eq_true rfl) (Nat.le_of_ble_eq_true rfl) ⟨rfl, (fun k hk => by repeat (first | rfl | rw [List.getElem?_set_ne (by omega)]))⟩
theorem dX7_side_0 : decode cX7_side 0 = .ok (.aload_n 0, 1) := by decide +kernel
theorem dX7_side_1 : decode cX7_side 1 = .ok (.getfield 51, 3) := by decide +kernel
theorem dX7_side_4 : decode cX7_side 4 = .ok (.ifCond .eq 12, 3) := by decide +kernel
theorem dX7_side_16 : decode cX7_side 16 = .ok (.bipush (-2), 2) := by decide +kernel
theorem dX7_side_18 : decode cX7_side 18 = .ok (.ireturn, 1) := by decide +kernel
set_option maxRecDepth 100000 in
set_option maxHeartbeats 4000000 in
theorem c_X7_side_0 {hp : List gA} {p0 : Int32} {p1 : Int32} (H0 : hp[0]? = some (.inr (.inr (7, [.ref 1, .ref 3, .ref 20, .ref 43, .ref 116, .ref 119, .int 0])))) : gM yX7_side cX7_side 3 ((some .int)) 2 41 [.ref 0, .int p0, .int p1] (hp) (0) (0) (fun v h => v = some (.int (-2)) ∧ ∀ k, 122 ≤ k → h[k]? = hp[k]?) := by
  refine gM_of (ls0 := [some (.ref 0), some (.int p0), some (.int p1)]) (by decide +kernel) (Nat.le_of_ble_eq_true rfl) rfl fun X C E => ?_
  refine g_aload_n (q := 1) C dX7_side_0 rfl rfl ?_
  refine g_getfield (q := 4) C fX7_51 dX7_side_1 rfl H0 rfl ?_
  refine g_if_eq_t (t := 16) C dX7_side_4 (by decide) (by decide) ?_
  refine g_bipush (v := (-2)) (q := 18) C dX7_side_16 (by decide) rfl ?_
  exact E.1 _ _ _ _ _ _ _ dX7_side_18 rfl rfl (Nat.le_of_ble_eq_true rfl) (Nat.le_of_ble_eq_true rfl) ⟨rfl, (fun k hk => by repeat (first | rfl | rw [List.getElem?_set_ne (by omega)]))⟩
theorem dX7_got_0 : decode cX7_got 0 = .ok (.aload_n 0, 1) := by decide +kernel
theorem dX7_got_1 : decode cX7_got 1 = .ok (.getfield 51, 3) := by decide +kernel
theorem dX7_got_4 : decode cX7_got 4 = .ok (.ifCond .eq 12, 3) := by decide +kernel
theorem dX7_got_16 : decode cX7_got 16 = .ok (.bipush (-2), 2) := by decide +kernel
theorem dX7_got_18 : decode cX7_got 18 = .ok (.ireturn, 1) := by decide +kernel
set_option maxRecDepth 100000 in
set_option maxHeartbeats 4000000 in
theorem c_X7_got_0 {hp : List gA} {p0 : Int32} {p1 : Int32} (H0 : hp[0]? = some (.inr (.inr (7, [.ref 1, .ref 3, .ref 20, .ref 43, .ref 116, .ref 119, .int 0])))) : gM yX7_got cX7_got 4 ((some .int)) 1 21 [.ref 0, .int p0, .int p1] (hp) (0) (0) (fun v h => v = some (.int (-2)) ∧ ∀ k, 122 ≤ k → h[k]? = hp[k]?) := by
  refine gM_of (ls0 := [some (.ref 0), some (.int p0), some (.int p1), none]) (by decide +kernel) (Nat.le_of_ble_eq_true rfl) rfl fun X C E => ?_
  refine g_aload_n (q := 1) C dX7_got_0 rfl rfl ?_
  refine g_getfield (q := 4) C fX7_51 dX7_got_1 rfl H0 rfl ?_
  refine g_if_eq_t (t := 16) C dX7_got_4 (by decide) (by decide) ?_
  refine g_bipush (v := (-2)) (q := 18) C dX7_got_16 (by decide) rfl ?_
  exact E.1 _ _ _ _ _ _ _ dX7_got_18 rfl rfl (Nat.le_of_ble_eq_true rfl) (Nat.le_of_ble_eq_true rfl) ⟨rfl, (fun k hk => by repeat (first | rfl | rw [List.getElem?_set_ne (by omega)]))⟩
theorem dX7_room_0 : decode cX7_room 0 = .ok (.aload_n 0, 1) := by decide +kernel
theorem dX7_room_1 : decode cX7_room 1 = .ok (.invokevirtual 96, 3) := by decide +kernel
theorem dX7_room_4 : decode cX7_room 4 = .ok (.ifCond .eq 15, 3) := by decide +kernel
theorem dX7_room_19 : decode cX7_room 19 = .ok (.iconst (-1), 1) := by decide +kernel
theorem dX7_room_20 : decode cX7_room 20 = .ok (.ireturn, 1) := by decide +kernel
set_option maxRecDepth 100000 in
set_option maxHeartbeats 4000000 in
theorem c_X7_room_0 {hp : List gA} {p0 : Int32} (H0 : hp[0]? = some (.inr (.inr (7, [.ref 1, .ref 3, .ref 20, .ref 43, .ref 116, .ref 119, .int 0])))) : gM yX7_room cX7_room 2 ((some .int)) 2 43 [.ref 0, .int p0] (hp) (0) (0) (fun v h => v = some (.int (-1)) ∧ ∀ k, 122 ≤ k → h[k]? = hp[k]?) := by
  refine gM_of (ls0 := [some (.ref 0), some (.int p0)]) (by decide +kernel) (Nat.le_of_ble_eq_true rfl) rfl fun X C E => ?_
  refine g_aload_n (q := 1) C dX7_room_0 rfl rfl ?_
  refine g_callVi (q := 4) (As := []) C gyX7_mayStart gvX7_mayStart t_618 (c_X7_mayStart_0 H0) dX7_room_1 rfl H0 rfl rfl rfl (Nat.le_of_ble_eq_true rfl) (Nat.le_of_ble_eq_true rfl) (Nat.le_of_ble_eq_true rfl) (Nat.le_of_ble_eq_true rfl) (Nat.le_of_ble_eq_true rfl) rfl ?_
  refine g_if_eq_t (t := 19) C dX7_room_4 (by decide) (by decide) ?_
  refine g_iconst (v := (-1)) (q := 20) C dX7_room_19 (by decide) rfl ?_
  exact E.1 _ _ _ _ _ _ _ dX7_room_20 rfl rfl (Nat.le_of_ble_eq_true rfl) (Nat.le_of_ble_eq_true rfl) ⟨rfl, (fun k hk => by repeat (first | rfl | rw [List.getElem?_set_ne (by omega)]))⟩
theorem dX7_step_0 : decode cX7_step 0 = .ok (.iload_n 1, 1) := by decide +kernel
theorem dX7_step_1 : decode cX7_step 1 = .ok (.iconst 1, 1) := by decide +kernel
theorem dX7_step_2 : decode cX7_step 2 = .ok (.if_icmp .lt 16, 3) := by decide +kernel
theorem dX7_step_5 : decode cX7_step 5 = .ok (.iload_n 1, 1) := by decide +kernel
theorem dX7_step_6 : decode cX7_step 6 = .ok (.bipush 60, 2) := by decide +kernel
theorem dX7_step_8 : decode cX7_step 8 = .ok (.if_icmp .gt 10, 3) := by decide +kernel
theorem dX7_step_11 : decode cX7_step 11 = .ok (.aload_n 0, 1) := by decide +kernel
theorem dX7_step_12 : decode cX7_step 12 = .ok (.invokevirtual 133, 3) := by decide +kernel
theorem dX7_step_15 : decode cX7_step 15 = .ok (.ifCond .ne 5, 3) := by decide +kernel
theorem dX7_step_18 : decode cX7_step 18 = .ok (.iconst (-1), 1) := by decide +kernel
theorem dX7_step_19 : decode cX7_step 19 = .ok (.ireturn, 1) := by decide +kernel
set_option maxRecDepth 100000 in
set_option maxHeartbeats 4000000 in
theorem c_X7_step_0 {hp : List gA} {p0 : Int32} (H0 : hp[0]? = some (.inr (.inr (7, [.ref 1, .ref 3, .ref 20, .ref 43, .ref 116, .ref 119, .int 0])))) : gM yX7_step cX7_step 2 ((some .int)) 8 223 [.ref 0, .int p0] (hp) (0) (0) (fun v h => v = some (.int (-1)) ∧ ∀ k, 122 ≤ k → h[k]? = hp[k]?) := by
  refine gM_of (ls0 := [some (.ref 0), some (.int p0)]) (by decide +kernel) (Nat.le_of_ble_eq_true rfl) rfl fun X C E => ?_
  refine g_iload_n (q := 1) C dX7_step_0 rfl rfl ?_
  refine g_iconst (v := 1) (q := 2) C dX7_step_1 (by decide) rfl ?_
  refine g_icmp_lt (t := 18) (q := 5) C dX7_step_2 (by decide) rfl (fun c_2 => ?_) (fun c_2 => ?_)
  · -- to 18
    refine g_iconst (v := (-1)) (q := 19) C dX7_step_18 (by decide) rfl ?_
    exact E.1 _ _ _ _ _ _ _ dX7_step_19 rfl rfl (Nat.le_of_ble_eq_true rfl) (Nat.le_of_ble_eq_true rfl) ⟨rfl, (fun k hk => by repeat (first | rfl | rw [List.getElem?_set_ne (by omega)]))⟩
  · -- to 5
    refine g_iload_n (q := 6) C dX7_step_5 rfl rfl ?_
    refine g_bipush (v := 60) (q := 8) C dX7_step_6 (by decide) rfl ?_
    refine g_icmp_gt (t := 18) (q := 11) C dX7_step_8 (by decide) rfl (fun c_8 => ?_) (fun c_8 => ?_)
    · -- to 18
      refine g_iconst (v := (-1)) (q := 19) C dX7_step_18 (by decide) rfl ?_
      exact E.1 _ _ _ _ _ _ _ dX7_step_19 rfl rfl (Nat.le_of_ble_eq_true rfl) (Nat.le_of_ble_eq_true rfl) ⟨rfl, (fun k hk => by repeat (first | rfl | rw [List.getElem?_set_ne (by omega)]))⟩
    · -- to 11
      refine g_aload_n (q := 12) C dX7_step_11 rfl rfl ?_
      refine g_callVi (q := 15) (As := []) C gyX7_onWay gvX7_onWay t_677 (c_X7_onWay_0 H0) dX7_step_12 rfl H0 rfl rfl rfl (Nat.le_of_ble_eq_true rfl) (Nat.le_of_ble_eq_true rfl) (Nat.le_of_ble_eq_true rfl) (Nat.le_of_ble_eq_true rfl) (Nat.le_of_ble_eq_true rfl) rfl ?_
      refine g_if_ne_f (t := 20) (q := 18) C dX7_step_15 (by decide) rfl (by decide) ?_
      refine g_iconst (v := (-1)) (q := 19) C dX7_step_18 (by decide) rfl ?_
      exact E.1 _ _ _ _ _ _ _ dX7_step_19 rfl rfl (Nat.le_of_ble_eq_true rfl) (Nat.le_of_ble_eq_true rfl) ⟨rfl, (fun k hk => by repeat (first | rfl | rw [List.getElem?_set_ne (by omega)]))⟩
theorem dX7_would_0 : decode cX7_would 0 = .ok (.aload_n 0, 1) := by decide +kernel
theorem dX7_would_1 : decode cX7_would 1 = .ok (.invokevirtual 133, 3) := by decide +kernel
theorem dX7_would_4 : decode cX7_would 4 = .ok (.ifCond .ne 5, 3) := by decide +kernel
theorem dX7_would_7 : decode cX7_would 7 = .ok (.iconst (-1), 1) := by decide +kernel
theorem dX7_would_8 : decode cX7_would 8 = .ok (.ireturn, 1) := by decide +kernel
set_option maxRecDepth 100000 in
set_option maxHeartbeats 4000000 in
theorem c_X7_would_0 {hp : List gA} {p0 : Int32} (H0 : hp[0]? = some (.inr (.inr (7, [.ref 1, .ref 3, .ref 20, .ref 43, .ref 116, .ref 119, .int 0])))) : gM yX7_would cX7_would 3 ((some .int)) 8 222 [.ref 0, .int p0] (hp) (0) (0) (fun v h => v = some (.int (-1)) ∧ ∀ k, 122 ≤ k → h[k]? = hp[k]?) := by
  refine gM_of (ls0 := [some (.ref 0), some (.int p0), none]) (by decide +kernel) (Nat.le_of_ble_eq_true rfl) rfl fun X C E => ?_
  refine g_aload_n (q := 1) C dX7_would_0 rfl rfl ?_
  refine g_callVi (q := 4) (As := []) C gyX7_onWay gvX7_onWay t_677 (c_X7_onWay_0 H0) dX7_would_1 rfl H0 rfl rfl rfl (Nat.le_of_ble_eq_true rfl) (Nat.le_of_ble_eq_true rfl) (Nat.le_of_ble_eq_true rfl) (Nat.le_of_ble_eq_true rfl) (Nat.le_of_ble_eq_true rfl) rfl ?_
  refine g_if_ne_f (t := 9) (q := 7) C dX7_would_4 (by decide) rfl (by decide) ?_
  refine g_iconst (v := (-1)) (q := 8) C dX7_would_7 (by decide) rfl ?_
  exact E.1 _ _ _ _ _ _ _ dX7_would_8 rfl rfl (Nat.le_of_ble_eq_true rfl) (Nat.le_of_ble_eq_true rfl) ⟨rfl, (fun k hk => by repeat (first | rfl | rw [List.getElem?_set_ne (by omega)]))⟩
theorem dX7_harm_0 : decode cX7_harm 0 = .ok (.iload_n 1, 1) := by decide +kernel
theorem dX7_harm_1 : decode cX7_harm 1 = .ok (.iconst 1, 1) := by decide +kernel
theorem dX7_harm_2 : decode cX7_harm 2 = .ok (.if_icmp .lt 24, 3) := by decide +kernel
theorem dX7_harm_5 : decode cX7_harm 5 = .ok (.iload_n 1, 1) := by decide +kernel
theorem dX7_harm_6 : decode cX7_harm 6 = .ok (.iconst 3, 1) := by decide +kernel
theorem dX7_harm_7 : decode cX7_harm 7 = .ok (.if_icmp .gt 19, 3) := by decide +kernel
theorem dX7_harm_10 : decode cX7_harm 10 = .ok (.iload_n 2, 1) := by decide +kernel
theorem dX7_harm_11 : decode cX7_harm 11 = .ok (.ifCond .lt 15, 3) := by decide +kernel
theorem dX7_harm_14 : decode cX7_harm 14 = .ok (.iload_n 2, 1) := by decide +kernel
theorem dX7_harm_15 : decode cX7_harm 15 = .ok (.iconst 1, 1) := by decide +kernel
theorem dX7_harm_16 : decode cX7_harm 16 = .ok (.if_icmp .gt 10, 3) := by decide +kernel
theorem dX7_harm_19 : decode cX7_harm 19 = .ok (.aload_n 0, 1) := by decide +kernel
theorem dX7_harm_20 : decode cX7_harm 20 = .ok (.invokevirtual 133, 3) := by decide +kernel
theorem dX7_harm_23 : decode cX7_harm 23 = .ok (.ifCond .ne 5, 3) := by decide +kernel
theorem dX7_harm_26 : decode cX7_harm 26 = .ok (.iconst (-1), 1) := by decide +kernel
theorem dX7_harm_27 : decode cX7_harm 27 = .ok (.ireturn, 1) := by decide +kernel
set_option maxRecDepth 100000 in
set_option maxHeartbeats 4000000 in
theorem c_X7_harm_0 {hp : List gA} {p0 : Int32} {p1 : Int32} (H0 : hp[0]? = some (.inr (.inr (7, [.ref 1, .ref 3, .ref 20, .ref 43, .ref 116, .ref 119, .int 0])))) : gM yX7_harm cX7_harm 3 ((some .int)) 8 227 [.ref 0, .int p0, .int p1] (hp) (0) (0) (fun v h => v = some (.int (-1)) ∧ ∀ k, 122 ≤ k → h[k]? = hp[k]?) := by
  refine gM_of (ls0 := [some (.ref 0), some (.int p0), some (.int p1)]) (by decide +kernel) (Nat.le_of_ble_eq_true rfl) rfl fun X C E => ?_
  refine g_iload_n (q := 1) C dX7_harm_0 rfl rfl ?_
  refine g_iconst (v := 1) (q := 2) C dX7_harm_1 (by decide) rfl ?_
  refine g_icmp_lt (t := 26) (q := 5) C dX7_harm_2 (by decide) rfl (fun c_2 => ?_) (fun c_2 => ?_)
  · -- to 26
    refine g_iconst (v := (-1)) (q := 27) C dX7_harm_26 (by decide) rfl ?_
    exact E.1 _ _ _ _ _ _ _ dX7_harm_27 rfl rfl (Nat.le_of_ble_eq_true rfl) (Nat.le_of_ble_eq_true rfl) ⟨rfl, (fun k hk => by repeat (first | rfl | rw [List.getElem?_set_ne (by omega)]))⟩
  · -- to 5
    refine g_iload_n (q := 6) C dX7_harm_5 rfl rfl ?_
    refine g_iconst (v := 3) (q := 7) C dX7_harm_6 (by decide) rfl ?_
    refine g_icmp_gt (t := 26) (q := 10) C dX7_harm_7 (by decide) rfl (fun c_7 => ?_) (fun c_7 => ?_)
    · -- to 26
      refine g_iconst (v := (-1)) (q := 27) C dX7_harm_26 (by decide) rfl ?_
      exact E.1 _ _ _ _ _ _ _ dX7_harm_27 rfl rfl (Nat.le_of_ble_eq_true rfl) (Nat.le_of_ble_eq_true rfl) ⟨rfl, (fun k hk => by repeat (first | rfl | rw [List.getElem?_set_ne (by omega)]))⟩
    · -- to 10
      refine g_iload_n (q := 11) C dX7_harm_10 rfl rfl ?_
      refine g_if_lt (t := 26) (q := 14) C dX7_harm_11 (by decide) rfl (fun c_11 => ?_) (fun c_11 => ?_)
      · -- to 26
        refine g_iconst (v := (-1)) (q := 27) C dX7_harm_26 (by decide) rfl ?_
        exact E.1 _ _ _ _ _ _ _ dX7_harm_27 rfl rfl (Nat.le_of_ble_eq_true rfl) (Nat.le_of_ble_eq_true rfl) ⟨rfl, (fun k hk => by repeat (first | rfl | rw [List.getElem?_set_ne (by omega)]))⟩
      · -- to 14
        refine g_iload_n (q := 15) C dX7_harm_14 rfl rfl ?_
        refine g_iconst (v := 1) (q := 16) C dX7_harm_15 (by decide) rfl ?_
        refine g_icmp_gt (t := 26) (q := 19) C dX7_harm_16 (by decide) rfl (fun c_16 => ?_) (fun c_16 => ?_)
        · -- to 26
          refine g_iconst (v := (-1)) (q := 27) C dX7_harm_26 (by decide) rfl ?_
          exact E.1 _ _ _ _ _ _ _ dX7_harm_27 rfl rfl (Nat.le_of_ble_eq_true rfl) (Nat.le_of_ble_eq_true rfl) ⟨rfl, (fun k hk => by repeat (first | rfl | rw [List.getElem?_set_ne (by omega)]))⟩
        · -- to 19
          refine g_aload_n (q := 20) C dX7_harm_19 rfl rfl ?_
          refine g_callVi (q := 23) (As := []) C gyX7_onWay gvX7_onWay t_677 (c_X7_onWay_0 H0) dX7_harm_20 rfl H0 rfl rfl rfl (Nat.le_of_ble_eq_true rfl) (Nat.le_of_ble_eq_true rfl) (Nat.le_of_ble_eq_true rfl) (Nat.le_of_ble_eq_true rfl) (Nat.le_of_ble_eq_true rfl) rfl ?_
          refine g_if_ne_f (t := 28) (q := 26) C dX7_harm_23 (by decide) rfl (by decide) ?_
          refine g_iconst (v := (-1)) (q := 27) C dX7_harm_26 (by decide) rfl ?_
          exact E.1 _ _ _ _ _ _ _ dX7_harm_27 rfl rfl (Nat.le_of_ble_eq_true rfl) (Nat.le_of_ble_eq_true rfl) ⟨rfl, (fun k hk => by repeat (first | rfl | rw [List.getElem?_set_ne (by omega)]))⟩
theorem dX7_message_0 : decode cX7_message 0 = .ok (.iconst (-1), 1) := by decide +kernel
theorem dX7_message_1 : decode cX7_message 1 = .ok (.istore_n 1, 1) := by decide +kernel
theorem dX7_message_2 : decode cX7_message 2 = .ok (.aload_n 0, 1) := by decide +kernel
theorem dX7_message_3 : decode cX7_message 3 = .ok (.invokevirtual 96, 3) := by decide +kernel
theorem dX7_message_6 : decode cX7_message 6 = .ok (.ifCond .eq 41, 3) := by decide +kernel
theorem dX7_message_47 : decode cX7_message 47 = .ok (.aload_n 0, 1) := by decide +kernel
theorem dX7_message_48 : decode cX7_message 48 = .ok (.getfield 14, 3) := by decide +kernel
theorem dX7_message_51 : decode cX7_message 51 = .ok (.iconst 0, 1) := by decide +kernel
theorem dX7_message_52 : decode cX7_message 52 = .ok (.invokevirtual 67, 3) := by decide +kernel
theorem dX7_message_55 : decode cX7_message 55 = .ok (.iload_n 1, 1) := by decide +kernel
theorem dX7_message_56 : decode cX7_message 56 = .ok (.ireturn, 1) := by decide +kernel
set_option maxRecDepth 100000 in
set_option maxHeartbeats 4000000 in
theorem c_X7_message_0 {hp : List gA}  (H0 : hp[0]? = some (.inr (.inr (7, [.ref 1, .ref 3, .ref 20, .ref 43, .ref 116, .ref 119, .int 0])))) (H1 : hp[1]? = some (.inr (.inr (4, [.ref 2, .int 0, .int 96])))) : gM yX7_message cX7_message 2 ((some .int)) 3 103 [.ref 0] (hp) (0) (0) (fun v h => v = some (.int (-1)) ∧ ∀ k, 122 ≤ k → h[k]? = hp[k]?) := by
  refine gM_of (ls0 := [some (.ref 0), none]) (by decide +kernel) (Nat.le_of_ble_eq_true rfl) rfl fun X C E => ?_
  refine g_iconst (v := (-1)) (q := 1) C dX7_message_0 (by decide) rfl ?_
  refine g_istore_n (q := 2) C dX7_message_1 (Nat.le_of_ble_eq_true rfl) (by simp only [gset]; rfl) rfl ?_
  refine g_aload_n (q := 3) C dX7_message_2 rfl rfl ?_
  refine g_callVi (q := 6) (As := []) C gyX7_mayStart gvX7_mayStart t_618 (c_X7_mayStart_0 H0) dX7_message_3 rfl H0 rfl rfl rfl (Nat.le_of_ble_eq_true rfl) (Nat.le_of_ble_eq_true rfl) (Nat.le_of_ble_eq_true rfl) (Nat.le_of_ble_eq_true rfl) (Nat.le_of_ble_eq_true rfl) rfl ?_
  refine g_if_eq_t (t := 47) C dX7_message_6 (by decide) (by decide) ?_
  refine g_aload_n (q := 48) C dX7_message_47 rfl rfl ?_
  refine g_getfield (q := 51) C fX7_14 dX7_message_48 rfl H0 rfl ?_
  refine g_iconst (v := 0) (q := 52) C dX7_message_51 (by decide) rfl ?_
  refine g_callVv (q := 55) (As := [.int 0]) C gyX4_keep gvX4_keep t_496 (c_X4_keep H1) dX7_message_52 rfl H1 rfl rfl rfl (Nat.le_of_ble_eq_true rfl) (Nat.le_of_ble_eq_true rfl) (Nat.le_of_ble_eq_true rfl) (Nat.le_of_ble_eq_true rfl) (Nat.le_of_ble_eq_true rfl) rfl ?_
  refine g_iload_n (q := 56) C dX7_message_55 rfl rfl ?_
  exact E.1 _ _ _ _ _ _ _ dX7_message_56 rfl rfl (Nat.le_of_ble_eq_true rfl) (Nat.le_of_ble_eq_true rfl) ⟨rfl, (fun k hk => by repeat (first | rfl | rw [List.getElem?_set_ne (by omega)]))⟩
theorem dX7_fault_0 : decode cX7_fault 0 = .ok (.iload_n 2, 1) := by decide +kernel
theorem dX7_fault_1 : decode cX7_fault 1 = .ok (.iconst 2, 1) := by decide +kernel
theorem dX7_fault_2 : decode cX7_fault 2 = .ok (.if_icmp .ne 23, 3) := by decide +kernel
theorem dX7_fault_5 : decode cX7_fault 5 = .ok (.iload_n 3, 1) := by decide +kernel
theorem dX7_fault_6 : decode cX7_fault 6 = .ok (.iconst 1, 1) := by decide +kernel
theorem dX7_fault_7 : decode cX7_fault 7 = .ok (.if_icmp .lt 14, 3) := by decide +kernel
theorem dX7_fault_10 : decode cX7_fault 10 = .ok (.iload_n 3, 1) := by decide +kernel
theorem dX7_fault_11 : decode cX7_fault 11 = .ok (.sipush 255, 3) := by decide +kernel
theorem dX7_fault_14 : decode cX7_fault 14 = .ok (.if_icmp .gt 7, 3) := by decide +kernel
theorem dX7_fault_17 : decode cX7_fault 17 = .ok (.iconst 1, 1) := by decide +kernel
theorem dX7_fault_18 : decode cX7_fault 18 = .ok (.goto 16, 3) := by decide +kernel
theorem dX7_fault_21 : decode cX7_fault 21 = .ok (.iconst 0, 1) := by decide +kernel
theorem dX7_fault_22 : decode cX7_fault 22 = .ok (.goto 12, 3) := by decide +kernel
theorem dX7_fault_25 : decode cX7_fault 25 = .ok (.iload_n 3, 1) := by decide +kernel
theorem dX7_fault_26 : decode cX7_fault 26 = .ok (.ifCond .ne 7, 3) := by decide +kernel
theorem dX7_fault_29 : decode cX7_fault 29 = .ok (.iconst 1, 1) := by decide +kernel
theorem dX7_fault_30 : decode cX7_fault 30 = .ok (.goto 4, 3) := by decide +kernel
theorem dX7_fault_33 : decode cX7_fault 33 = .ok (.iconst 0, 1) := by decide +kernel
theorem dX7_fault_34 : decode cX7_fault 34 = .ok (.istore 4, 2) := by decide +kernel
theorem dX7_fault_36 : decode cX7_fault 36 = .ok (.aload_n 0, 1) := by decide +kernel
theorem dX7_fault_37 : decode cX7_fault 37 = .ok (.getfield 51, 3) := by decide +kernel
theorem dX7_fault_40 : decode cX7_fault 40 = .ok (.ifCond .eq 29, 3) := by decide +kernel
theorem dX7_fault_69 : decode cX7_fault 69 = .ok (.iconst (-1), 1) := by decide +kernel
theorem dX7_fault_70 : decode cX7_fault 70 = .ok (.ireturn, 1) := by decide +kernel
set_option maxRecDepth 100000 in
set_option maxHeartbeats 4000000 in
theorem c_X7_fault_0 {hp : List gA} {p0 : Int32} {p1 : Int32} {p2 : Int32} (H0 : hp[0]? = some (.inr (.inr (7, [.ref 1, .ref 3, .ref 20, .ref 43, .ref 116, .ref 119, .int 0])))) : gM yX7_fault cX7_fault 5 ((some .int)) 3 68 [.ref 0, .int p0, .int p1, .int p2] (hp) (0) (0) (fun v h => v = some (.int (-1)) ∧ ∀ k, 122 ≤ k → h[k]? = hp[k]?) := by
  refine gM_of (ls0 := [some (.ref 0), some (.int p0), some (.int p1), some (.int p2), none]) (by decide +kernel) (Nat.le_of_ble_eq_true rfl) rfl fun X C E => ?_
  refine g_iload_n (q := 1) C dX7_fault_0 rfl rfl ?_
  refine g_iconst (v := 2) (q := 2) C dX7_fault_1 (by decide) rfl ?_
  refine g_icmp_ne (t := 25) (q := 5) C dX7_fault_2 (by decide) rfl (fun c_2 => ?_) (fun c_2 => ?_)
  · -- to 25
    refine g_iload_n (q := 26) C dX7_fault_25 rfl rfl ?_
    refine g_if_ne (t := 33) (q := 29) C dX7_fault_26 (by decide) rfl (fun c_26 => ?_) (fun c_26 => ?_)
    · -- to 33
      refine g_iconst (v := 0) (q := 34) C dX7_fault_33 (by decide) rfl ?_
      refine g_istore (q := 36) C dX7_fault_34 (Nat.le_of_ble_eq_true rfl) (by simp only [gset]; rfl) rfl ?_
      refine g_aload_n (q := 37) C dX7_fault_36 rfl rfl ?_
      refine g_getfield (q := 40) C fX7_51 dX7_fault_37 rfl H0 rfl ?_
      refine g_if_eq_t (t := 69) C dX7_fault_40 (by decide) (by decide) ?_
      refine g_iconst (v := (-1)) (q := 70) C dX7_fault_69 (by decide) rfl ?_
      exact E.1 _ _ _ _ _ _ _ dX7_fault_70 rfl rfl (Nat.le_of_ble_eq_true rfl) (Nat.le_of_ble_eq_true rfl) ⟨rfl, (fun k hk => by repeat (first | rfl | rw [List.getElem?_set_ne (by omega)]))⟩
    · -- to 29
      refine g_iconst (v := 1) (q := 30) C dX7_fault_29 (by decide) rfl ?_
      refine g_goto (q := 34) C dX7_fault_30 (by decide) ?_
      refine g_istore (q := 36) C dX7_fault_34 (Nat.le_of_ble_eq_true rfl) (by simp only [gset]; rfl) rfl ?_
      refine g_aload_n (q := 37) C dX7_fault_36 rfl rfl ?_
      refine g_getfield (q := 40) C fX7_51 dX7_fault_37 rfl H0 rfl ?_
      refine g_if_eq_t (t := 69) C dX7_fault_40 (by decide) (by decide) ?_
      refine g_iconst (v := (-1)) (q := 70) C dX7_fault_69 (by decide) rfl ?_
      exact E.1 _ _ _ _ _ _ _ dX7_fault_70 rfl rfl (Nat.le_of_ble_eq_true rfl) (Nat.le_of_ble_eq_true rfl) ⟨rfl, (fun k hk => by repeat (first | rfl | rw [List.getElem?_set_ne (by omega)]))⟩
  · -- to 5
    refine g_iload_n (q := 6) C dX7_fault_5 rfl rfl ?_
    refine g_iconst (v := 1) (q := 7) C dX7_fault_6 (by decide) rfl ?_
    refine g_icmp_lt (t := 21) (q := 10) C dX7_fault_7 (by decide) rfl (fun c_7 => ?_) (fun c_7 => ?_)
    · -- to 21
      refine g_iconst (v := 0) (q := 22) C dX7_fault_21 (by decide) rfl ?_
      refine g_goto (q := 34) C dX7_fault_22 (by decide) ?_
      refine g_istore (q := 36) C dX7_fault_34 (Nat.le_of_ble_eq_true rfl) (by simp only [gset]; rfl) rfl ?_
      refine g_aload_n (q := 37) C dX7_fault_36 rfl rfl ?_
      refine g_getfield (q := 40) C fX7_51 dX7_fault_37 rfl H0 rfl ?_
      refine g_if_eq_t (t := 69) C dX7_fault_40 (by decide) (by decide) ?_
      refine g_iconst (v := (-1)) (q := 70) C dX7_fault_69 (by decide) rfl ?_
      exact E.1 _ _ _ _ _ _ _ dX7_fault_70 rfl rfl (Nat.le_of_ble_eq_true rfl) (Nat.le_of_ble_eq_true rfl) ⟨rfl, (fun k hk => by repeat (first | rfl | rw [List.getElem?_set_ne (by omega)]))⟩
    · -- to 10
      refine g_iload_n (q := 11) C dX7_fault_10 rfl rfl ?_
      refine g_sipush (v := 255) (q := 14) C dX7_fault_11 (by decide) rfl ?_
      refine g_icmp_gt (t := 21) (q := 17) C dX7_fault_14 (by decide) rfl (fun c_14 => ?_) (fun c_14 => ?_)
      · -- to 21
        refine g_iconst (v := 0) (q := 22) C dX7_fault_21 (by decide) rfl ?_
        refine g_goto (q := 34) C dX7_fault_22 (by decide) ?_
        refine g_istore (q := 36) C dX7_fault_34 (Nat.le_of_ble_eq_true rfl) (by simp only [gset]; rfl) rfl ?_
        refine g_aload_n (q := 37) C dX7_fault_36 rfl rfl ?_
        refine g_getfield (q := 40) C fX7_51 dX7_fault_37 rfl H0 rfl ?_
        refine g_if_eq_t (t := 69) C dX7_fault_40 (by decide) (by decide) ?_
        refine g_iconst (v := (-1)) (q := 70) C dX7_fault_69 (by decide) rfl ?_
        exact E.1 _ _ _ _ _ _ _ dX7_fault_70 rfl rfl (Nat.le_of_ble_eq_true rfl) (Nat.le_of_ble_eq_true rfl) ⟨rfl, (fun k hk => by repeat (first | rfl | rw [List.getElem?_set_ne (by omega)]))⟩
      · -- to 17
        refine g_iconst (v := 1) (q := 18) C dX7_fault_17 (by decide) rfl ?_
        refine g_goto (q := 34) C dX7_fault_18 (by decide) ?_
        refine g_istore (q := 36) C dX7_fault_34 (Nat.le_of_ble_eq_true rfl) (by simp only [gset]; rfl) rfl ?_
        refine g_aload_n (q := 37) C dX7_fault_36 rfl rfl ?_
        refine g_getfield (q := 40) C fX7_51 dX7_fault_37 rfl H0 rfl ?_
        refine g_if_eq_t (t := 69) C dX7_fault_40 (by decide) (by decide) ?_
        refine g_iconst (v := (-1)) (q := 70) C dX7_fault_69 (by decide) rfl ?_
        exact E.1 _ _ _ _ _ _ _ dX7_fault_70 rfl rfl (Nat.le_of_ble_eq_true rfl) (Nat.le_of_ble_eq_true rfl) ⟨rfl, (fun k hk => by repeat (first | rfl | rw [List.getElem?_set_ne (by omega)]))⟩
theorem dX7_byteOf_0 : decode cX7_byteOf 0 = .ok (.iload_n 1, 1) := by decide +kernel
theorem dX7_byteOf_1 : decode cX7_byteOf 1 = .ok (.ifCond .lt 14, 3) := by decide +kernel
theorem dX7_byteOf_4 : decode cX7_byteOf 4 = .ok (.iload_n 1, 1) := by decide +kernel
theorem dX7_byteOf_5 : decode cX7_byteOf 5 = .ok (.aload_n 0, 1) := by decide +kernel
theorem dX7_byteOf_6 : decode cX7_byteOf 6 = .ok (.getfield 21, 3) := by decide +kernel
theorem dX7_byteOf_9 : decode cX7_byteOf 9 = .ok (.invokevirtual 162, 3) := by decide +kernel
theorem dX7_byteOf_12 : decode cX7_byteOf 12 = .ok (.if_icmp .lt 5, 3) := by decide +kernel
theorem dX7_byteOf_15 : decode cX7_byteOf 15 = .ok (.iconst (-1), 1) := by decide +kernel
theorem dX7_byteOf_16 : decode cX7_byteOf 16 = .ok (.ireturn, 1) := by decide +kernel
set_option maxRecDepth 100000 in
set_option maxHeartbeats 4000000 in
theorem c_X7_byteOf_0 {hp : List gA} {p0 : Int32} {p1 : Int32} (H0 : hp[0]? = some (.inr (.inr (7, [.ref 1, .ref 3, .ref 20, .ref 43, .ref 116, .ref 119, .int 0])))) (H3 : hp[3]? = some (.inr (.inr (1, [.ref 4, .ref 6, .ref 8, .ref 10, .ref 12, .ref 14, .ref 16, .ref 18, .int ((-1))])))) (H14 : hp[14]? = some (.inr (.inr (4, [.ref 15, .int 0, .int 30])))) : gM yX7_byteOf cX7_byteOf 3 ((some .int)) 2 45 [.ref 0, .int p0, .int p1] (hp) (0) (0) (fun v h => v = some (.int (-1)) ∧ ∀ k, 122 ≤ k → h[k]? = hp[k]?) := by
  refine gM_of (ls0 := [some (.ref 0), some (.int p0), some (.int p1)]) (by decide +kernel) (Nat.le_of_ble_eq_true rfl) rfl fun X C E => ?_
  refine g_iload_n (q := 1) C dX7_byteOf_0 rfl rfl ?_
  refine g_if_lt (t := 15) (q := 4) C dX7_byteOf_1 (by decide) rfl (fun c_1 => ?_) (fun c_1 => ?_)
  · -- to 15
    refine g_iconst (v := (-1)) (q := 16) C dX7_byteOf_15 (by decide) rfl ?_
    exact E.1 _ _ _ _ _ _ _ dX7_byteOf_16 rfl rfl (Nat.le_of_ble_eq_true rfl) (Nat.le_of_ble_eq_true rfl) ⟨rfl, (fun k hk => by repeat (first | rfl | rw [List.getElem?_set_ne (by omega)]))⟩
  · -- to 4
    refine g_iload_n (q := 5) C dX7_byteOf_4 rfl rfl ?_
    refine g_aload_n (q := 6) C dX7_byteOf_5 rfl rfl ?_
    refine g_getfield (q := 9) C fX7_21 dX7_byteOf_6 rfl H0 rfl ?_
    refine g_callVi (q := 12) (As := []) C gyX1_kept gvX1_kept t_927 (c_X1_kept H3 H14) dX7_byteOf_9 rfl H3 rfl rfl rfl (Nat.le_of_ble_eq_true rfl) (Nat.le_of_ble_eq_true rfl) (Nat.le_of_ble_eq_true rfl) (Nat.le_of_ble_eq_true rfl) (Nat.le_of_ble_eq_true rfl) rfl ?_
    refine g_icmp_lt_f (t := 17) (q := 15) C dX7_byteOf_12 (by decide) rfl c_1 ?_
    refine g_iconst (v := (-1)) (q := 16) C dX7_byteOf_15 (by decide) rfl ?_
    exact E.1 _ _ _ _ _ _ _ dX7_byteOf_16 rfl rfl (Nat.le_of_ble_eq_true rfl) (Nat.le_of_ble_eq_true rfl) ⟨rfl, (fun k hk => by repeat (first | rfl | rw [List.getElem?_set_ne (by omega)]))⟩
def gE1 (n : Int32) : Int32 := if n < 0 then -1 else if 0 < n then -1 else n
theorem gle_lt {a b : Int32} : ¬ a ≤ b ↔ b < a := by rw [Int32.le_iff_toInt_le, Int32.lt_iff_toInt_lt]; omega
theorem dX7_end_0 : decode cX7_end 0 = .ok (.iload_n 1, 1) := by decide +kernel
theorem dX7_end_1 : decode cX7_end 1 = .ok (.ifCond .lt 14, 3) := by decide +kernel
theorem dX7_end_4 : decode cX7_end 4 = .ok (.iload_n 1, 1) := by decide +kernel
theorem dX7_end_5 : decode cX7_end 5 = .ok (.aload_n 0, 1) := by decide +kernel
theorem dX7_end_6 : decode cX7_end 6 = .ok (.getfield 14, 3) := by decide +kernel
theorem dX7_end_9 : decode cX7_end 9 = .ok (.invokevirtual 55, 3) := by decide +kernel
theorem dX7_end_12 : decode cX7_end 12 = .ok (.if_icmp .le 5, 3) := by decide +kernel
theorem dX7_end_15 : decode cX7_end 15 = .ok (.iconst (-1), 1) := by decide +kernel
theorem dX7_end_16 : decode cX7_end 16 = .ok (.ireturn, 1) := by decide +kernel
theorem dX7_end_17 : decode cX7_end 17 = .ok (.aload_n 0, 1) := by decide +kernel
theorem dX7_end_18 : decode cX7_end 18 = .ok (.getfield 14, 3) := by decide +kernel
theorem dX7_end_21 : decode cX7_end 21 = .ok (.iload_n 1, 1) := by decide +kernel
theorem dX7_end_22 : decode cX7_end 22 = .ok (.invokevirtual 67, 3) := by decide +kernel
theorem dX7_end_25 : decode cX7_end 25 = .ok (.iload_n 1, 1) := by decide +kernel
theorem dX7_end_26 : decode cX7_end 26 = .ok (.ireturn, 1) := by decide +kernel
set_option maxRecDepth 100000 in
set_option maxHeartbeats 4000000 in
theorem c_X7_end_0 {hp : List gA} {p0 : Int32} (H0 : hp[0]? = some (.inr (.inr (7, [.ref 1, .ref 3, .ref 20, .ref 43, .ref 116, .ref 119, .int 0])))) (H1 : hp[1]? = some (.inr (.inr (4, [.ref 2, .int 0, .int 96])))) : gM yX7_end cX7_end 2 ((some .int)) 2 42 [.ref 0, .int p0] (hp) (0) (0) (fun v h => v = some (.int (gE1 p0)) ∧ ∀ k, 122 ≤ k → h[k]? = hp[k]?) := by
  refine gM_of (ls0 := [some (.ref 0), some (.int p0)]) (by decide +kernel) (Nat.le_of_ble_eq_true rfl) rfl fun X C E => ?_
  refine g_iload_n (q := 1) C dX7_end_0 rfl rfl ?_
  refine g_if_lt (t := 15) (q := 4) C dX7_end_1 (by decide) rfl (fun c_1 => ?_) (fun c_1 => ?_)
  · -- to 15
    refine g_iconst (v := (-1)) (q := 16) C dX7_end_15 (by decide) rfl ?_
    exact E.1 _ _ _ _ _ _ _ dX7_end_16 rfl rfl (Nat.le_of_ble_eq_true rfl) (Nat.le_of_ble_eq_true rfl) ⟨by simp_all [gE1, gle_lt], (fun k hk => by repeat (first | rfl | rw [List.getElem?_set_ne (by omega)]))⟩
  · -- to 4
    refine g_iload_n (q := 5) C dX7_end_4 rfl rfl ?_
    refine g_aload_n (q := 6) C dX7_end_5 rfl rfl ?_
    refine g_getfield (q := 9) C fX7_14 dX7_end_6 rfl H0 rfl ?_
    refine g_callVi (q := 12) (As := []) C gyX4_size gvX4_size t_463 (c_X4_size H1) dX7_end_9 rfl H1 rfl rfl rfl (Nat.le_of_ble_eq_true rfl) (Nat.le_of_ble_eq_true rfl) (Nat.le_of_ble_eq_true rfl) (Nat.le_of_ble_eq_true rfl) (Nat.le_of_ble_eq_true rfl) rfl ?_
    refine g_icmp_le (t := 17) (q := 15) C dX7_end_12 (by decide) rfl (fun c_12 => ?_) (fun c_12 => ?_)
    · -- to 17
      refine g_aload_n (q := 18) C dX7_end_17 rfl rfl ?_
      refine g_getfield (q := 21) C fX7_14 dX7_end_18 rfl H0 rfl ?_
      refine g_iload_n (q := 22) C dX7_end_21 rfl rfl ?_
      refine g_callVv (q := 25) (As := [.int p0]) C gyX4_keep gvX4_keep t_496 (c_X4_keep H1) dX7_end_22 rfl H1 rfl rfl rfl (Nat.le_of_ble_eq_true rfl) (Nat.le_of_ble_eq_true rfl) (Nat.le_of_ble_eq_true rfl) (Nat.le_of_ble_eq_true rfl) (Nat.le_of_ble_eq_true rfl) rfl ?_
      refine g_iload_n (q := 26) C dX7_end_25 rfl rfl ?_
      exact E.1 _ _ _ _ _ _ _ dX7_end_26 rfl rfl (Nat.le_of_ble_eq_true rfl) (Nat.le_of_ble_eq_true rfl) ⟨by rw [gE1, if_neg c_1, if_neg (fun h => absurd c_12 (gle_lt.mpr h))], (fun k hk => by repeat (first | rfl | rw [List.getElem?_set_ne (by omega)]))⟩
    · -- to 15
      refine g_iconst (v := (-1)) (q := 16) C dX7_end_15 (by decide) rfl ?_
      exact E.1 _ _ _ _ _ _ _ dX7_end_16 rfl rfl (Nat.le_of_ble_eq_true rfl) (Nat.le_of_ble_eq_true rfl) ⟨by simp_all [gE1, gle_lt], (fun k hk => by repeat (first | rfl | rw [List.getElem?_set_ne (by omega)]))⟩
def gE2 (w : Int32) : Int32 := if w = 6 then 1 else if w.toInt < 0 ∨ 10 < w.toInt then -1 else 0
theorem dX7_count_0 : decode cX7_count 0 = .ok (.iload_n 1, 1) := by decide +kernel
theorem dX7_count_1 : decode cX7_count 1 = .ok (.tableswitch 159 0 10 #[59, 70, 81, 92, 100, 108, 116, 127, 135, 143, 151], 59) := by decide +kernel
theorem dX7_count_60 : decode cX7_count 60 = .ok (.aload_n 0, 1) := by decide +kernel
theorem dX7_count_61 : decode cX7_count 61 = .ok (.getfield 30, 3) := by decide +kernel
theorem dX7_count_64 : decode cX7_count 64 = .ok (.getfield 114, 3) := by decide +kernel
theorem dX7_count_67 : decode cX7_count 67 = .ok (.getfield 181, 3) := by decide +kernel
theorem dX7_count_70 : decode cX7_count 70 = .ok (.ireturn, 1) := by decide +kernel
theorem dX7_count_71 : decode cX7_count 71 = .ok (.aload_n 0, 1) := by decide +kernel
theorem dX7_count_72 : decode cX7_count 72 = .ok (.getfield 30, 3) := by decide +kernel
theorem dX7_count_75 : decode cX7_count 75 = .ok (.getfield 114, 3) := by decide +kernel
theorem dX7_count_78 : decode cX7_count 78 = .ok (.getfield 194, 3) := by decide +kernel
theorem dX7_count_81 : decode cX7_count 81 = .ok (.ireturn, 1) := by decide +kernel
theorem dX7_count_82 : decode cX7_count 82 = .ok (.aload_n 0, 1) := by decide +kernel
theorem dX7_count_83 : decode cX7_count 83 = .ok (.getfield 30, 3) := by decide +kernel
theorem dX7_count_86 : decode cX7_count 86 = .ok (.getfield 114, 3) := by decide +kernel
theorem dX7_count_89 : decode cX7_count 89 = .ok (.invokevirtual 127, 3) := by decide +kernel
theorem dX7_count_92 : decode cX7_count 92 = .ok (.ireturn, 1) := by decide +kernel
theorem dX7_count_93 : decode cX7_count 93 = .ok (.aload_n 0, 1) := by decide +kernel
theorem dX7_count_94 : decode cX7_count 94 = .ok (.getfield 30, 3) := by decide +kernel
theorem dX7_count_97 : decode cX7_count 97 = .ok (.getfield 197, 3) := by decide +kernel
theorem dX7_count_100 : decode cX7_count 100 = .ok (.ireturn, 1) := by decide +kernel
theorem dX7_count_101 : decode cX7_count 101 = .ok (.aload_n 0, 1) := by decide +kernel
theorem dX7_count_102 : decode cX7_count 102 = .ok (.getfield 21, 3) := by decide +kernel
theorem dX7_count_105 : decode cX7_count 105 = .ok (.invokevirtual 200, 3) := by decide +kernel
theorem dX7_count_108 : decode cX7_count 108 = .ok (.ireturn, 1) := by decide +kernel
theorem dX7_count_109 : decode cX7_count 109 = .ok (.aload_n 0, 1) := by decide +kernel
theorem dX7_count_110 : decode cX7_count 110 = .ok (.getfield 21, 3) := by decide +kernel
theorem dX7_count_113 : decode cX7_count 113 = .ok (.invokevirtual 162, 3) := by decide +kernel
theorem dX7_count_116 : decode cX7_count 116 = .ok (.ireturn, 1) := by decide +kernel
theorem dX7_count_117 : decode cX7_count 117 = .ok (.aload_n 0, 1) := by decide +kernel
theorem dX7_count_118 : decode cX7_count 118 = .ok (.getfield 30, 3) := by decide +kernel
theorem dX7_count_121 : decode cX7_count 121 = .ok (.getfield 114, 3) := by decide +kernel
theorem dX7_count_124 : decode cX7_count 124 = .ok (.getfield 130, 3) := by decide +kernel
theorem dX7_count_127 : decode cX7_count 127 = .ok (.ireturn, 1) := by decide +kernel
theorem dX7_count_128 : decode cX7_count 128 = .ok (.aload_n 0, 1) := by decide +kernel
theorem dX7_count_129 : decode cX7_count 129 = .ok (.getfield 30, 3) := by decide +kernel
theorem dX7_count_132 : decode cX7_count 132 = .ok (.getfield 203, 3) := by decide +kernel
theorem dX7_count_135 : decode cX7_count 135 = .ok (.ireturn, 1) := by decide +kernel
theorem dX7_count_136 : decode cX7_count 136 = .ok (.aload_n 0, 1) := by decide +kernel
theorem dX7_count_137 : decode cX7_count 137 = .ok (.getfield 30, 3) := by decide +kernel
theorem dX7_count_140 : decode cX7_count 140 = .ok (.getfield 206, 3) := by decide +kernel
theorem dX7_count_143 : decode cX7_count 143 = .ok (.ireturn, 1) := by decide +kernel
theorem dX7_count_144 : decode cX7_count 144 = .ok (.aload_n 0, 1) := by decide +kernel
theorem dX7_count_145 : decode cX7_count 145 = .ok (.getfield 30, 3) := by decide +kernel
theorem dX7_count_148 : decode cX7_count 148 = .ok (.getfield 209, 3) := by decide +kernel
theorem dX7_count_151 : decode cX7_count 151 = .ok (.ireturn, 1) := by decide +kernel
theorem dX7_count_152 : decode cX7_count 152 = .ok (.aload_n 0, 1) := by decide +kernel
theorem dX7_count_153 : decode cX7_count 153 = .ok (.getfield 14, 3) := by decide +kernel
theorem dX7_count_156 : decode cX7_count 156 = .ok (.invokevirtual 55, 3) := by decide +kernel
theorem dX7_count_159 : decode cX7_count 159 = .ok (.ireturn, 1) := by decide +kernel
theorem dX7_count_160 : decode cX7_count 160 = .ok (.iconst (-1), 1) := by decide +kernel
theorem dX7_count_161 : decode cX7_count 161 = .ok (.ireturn, 1) := by decide +kernel
set_option maxRecDepth 100000 in
set_option maxHeartbeats 4000000 in
theorem c_X7_count_0 {hp : List gA} {p0 : Int32} (H0 : hp[0]? = some (.inr (.inr (7, [.ref 1, .ref 3, .ref 20, .ref 43, .ref 116, .ref 119, .int 0])))) (H1 : hp[1]? = some (.inr (.inr (4, [.ref 2, .int 0, .int 96])))) (H3 : hp[3]? = some (.inr (.inr (1, [.ref 4, .ref 6, .ref 8, .ref 10, .ref 12, .ref 14, .ref 16, .ref 18, .int ((-1))])))) (H14 : hp[14]? = some (.inr (.inr (4, [.ref 15, .int 0, .int 30])))) (H6 : hp[6]? = some (.inr (.inr (4, [.ref 7, .int 0, .int 65536])))) (H20 : hp[20]? = some (.inr (.inr (2, [.ref 21, .ref 28, .ref 35, .int 0, .int 0, .int 0, .int 0, .int 0, .ref 39, .ref 41, .ref 3, .int 3, .int 0, .int ((-1)), .int 0, .int 0, .int 0, .int 0])))) (H35 : hp[35]? = some (.inr (.inr (6, [.int 1, .int 0, .int 0, .ref 36, .ref 37, .ref 38, .int 0, .int ((-1)), .int 0, .int 0])))) : gM yX7_count cX7_count 2 ((some .int)) 2 40 [.ref 0, .int p0] (hp) (0) (0) (fun v h => v = some (.int (gE2 p0)) ∧ ∀ k, 122 ≤ k → h[k]? = hp[k]?) := by
  refine gM_of (ls0 := [some (.ref 0), some (.int p0)]) (by decide +kernel) (Nat.le_of_ble_eq_true rfl) rfl fun X C E => ?_
  refine g_iload_n (q := 1) C dX7_count_0 rfl rfl ?_
  by_cases c_1_0 : p0 = 0
  · subst c_1_0
    refine g_tableIn (off := 59) (t := 60) C dX7_count_1 (by decide) (by decide) (by decide) (by decide) ?_
    refine g_aload_n (q := 61) C dX7_count_60 rfl rfl ?_
    refine g_getfield (q := 64) C fX7_30 dX7_count_61 rfl H0 rfl ?_
    refine g_getfieldW (q := 67) C fX7_114 dX7_count_64 rfl H20 rfl ?_
    refine g_getfield (q := 70) C fX7_181 dX7_count_67 rfl H35 rfl ?_
    exact E.1 _ _ _ _ _ _ _ dX7_count_70 rfl rfl (Nat.le_of_ble_eq_true rfl) (Nat.le_of_ble_eq_true rfl) ⟨by decide, (fun k hk => by repeat (first | rfl | rw [List.getElem?_set_ne (by omega)]))⟩
  by_cases c_1_1 : p0 = 1
  · subst c_1_1
    refine g_tableIn (off := 70) (t := 71) C dX7_count_1 (by decide) (by decide) (by decide) (by decide) ?_
    refine g_aload_n (q := 72) C dX7_count_71 rfl rfl ?_
    refine g_getfield (q := 75) C fX7_30 dX7_count_72 rfl H0 rfl ?_
    refine g_getfieldW (q := 78) C fX7_114 dX7_count_75 rfl H20 rfl ?_
    refine g_getfield (q := 81) C fX7_194 dX7_count_78 rfl H35 rfl ?_
    exact E.1 _ _ _ _ _ _ _ dX7_count_81 rfl rfl (Nat.le_of_ble_eq_true rfl) (Nat.le_of_ble_eq_true rfl) ⟨by decide, (fun k hk => by repeat (first | rfl | rw [List.getElem?_set_ne (by omega)]))⟩
  by_cases c_1_2 : p0 = 2
  · subst c_1_2
    refine g_tableIn (off := 81) (t := 82) C dX7_count_1 (by decide) (by decide) (by decide) (by decide) ?_
    refine g_aload_n (q := 83) C dX7_count_82 rfl rfl ?_
    refine g_getfield (q := 86) C fX7_30 dX7_count_83 rfl H0 rfl ?_
    refine g_getfieldW (q := 89) C fX7_114 dX7_count_86 rfl H20 rfl ?_
    refine g_callVi (q := 92) (As := []) C gyX6_faults gvX6_faults t_665 (c_X6_faults H35) dX7_count_89 rfl H35 rfl rfl rfl (Nat.le_of_ble_eq_true rfl) (Nat.le_of_ble_eq_true rfl) (Nat.le_of_ble_eq_true rfl) (Nat.le_of_ble_eq_true rfl) (Nat.le_of_ble_eq_true rfl) rfl ?_
    exact E.1 _ _ _ _ _ _ _ dX7_count_92 rfl rfl (Nat.le_of_ble_eq_true rfl) (Nat.le_of_ble_eq_true rfl) ⟨by decide, (fun k hk => by repeat (first | rfl | rw [List.getElem?_set_ne (by omega)]))⟩
  by_cases c_1_3 : p0 = 3
  · subst c_1_3
    refine g_tableIn (off := 92) (t := 93) C dX7_count_1 (by decide) (by decide) (by decide) (by decide) ?_
    refine g_aload_n (q := 94) C dX7_count_93 rfl rfl ?_
    refine g_getfield (q := 97) C fX7_30 dX7_count_94 rfl H0 rfl ?_
    refine g_getfield (q := 100) C fX7_197 dX7_count_97 rfl H20 rfl ?_
    exact E.1 _ _ _ _ _ _ _ dX7_count_100 rfl rfl (Nat.le_of_ble_eq_true rfl) (Nat.le_of_ble_eq_true rfl) ⟨by decide, (fun k hk => by repeat (first | rfl | rw [List.getElem?_set_ne (by omega)]))⟩
  by_cases c_1_4 : p0 = 4
  · subst c_1_4
    refine g_tableIn (off := 100) (t := 101) C dX7_count_1 (by decide) (by decide) (by decide) (by decide) ?_
    refine g_aload_n (q := 102) C dX7_count_101 rfl rfl ?_
    refine g_getfield (q := 105) C fX7_21 dX7_count_102 rfl H0 rfl ?_
    refine g_callVi (q := 108) (As := []) C gyX1_unlike gvX1_unlike t_993 (c_X1_unlike H3 H6) dX7_count_105 rfl H3 rfl rfl rfl (Nat.le_of_ble_eq_true rfl) (Nat.le_of_ble_eq_true rfl) (Nat.le_of_ble_eq_true rfl) (Nat.le_of_ble_eq_true rfl) (Nat.le_of_ble_eq_true rfl) rfl ?_
    exact E.1 _ _ _ _ _ _ _ dX7_count_108 rfl rfl (Nat.le_of_ble_eq_true rfl) (Nat.le_of_ble_eq_true rfl) ⟨by decide, (fun k hk => by repeat (first | rfl | rw [List.getElem?_set_ne (by omega)]))⟩
  by_cases c_1_5 : p0 = 5
  · subst c_1_5
    refine g_tableIn (off := 108) (t := 109) C dX7_count_1 (by decide) (by decide) (by decide) (by decide) ?_
    refine g_aload_n (q := 110) C dX7_count_109 rfl rfl ?_
    refine g_getfield (q := 113) C fX7_21 dX7_count_110 rfl H0 rfl ?_
    refine g_callVi (q := 116) (As := []) C gyX1_kept gvX1_kept t_927 (c_X1_kept H3 H14) dX7_count_113 rfl H3 rfl rfl rfl (Nat.le_of_ble_eq_true rfl) (Nat.le_of_ble_eq_true rfl) (Nat.le_of_ble_eq_true rfl) (Nat.le_of_ble_eq_true rfl) (Nat.le_of_ble_eq_true rfl) rfl ?_
    exact E.1 _ _ _ _ _ _ _ dX7_count_116 rfl rfl (Nat.le_of_ble_eq_true rfl) (Nat.le_of_ble_eq_true rfl) ⟨by decide, (fun k hk => by repeat (first | rfl | rw [List.getElem?_set_ne (by omega)]))⟩
  by_cases c_1_6 : p0 = 6
  · subst c_1_6
    refine g_tableIn (off := 116) (t := 117) C dX7_count_1 (by decide) (by decide) (by decide) (by decide) ?_
    refine g_aload_n (q := 118) C dX7_count_117 rfl rfl ?_
    refine g_getfield (q := 121) C fX7_30 dX7_count_118 rfl H0 rfl ?_
    refine g_getfieldW (q := 124) C fX7_114 dX7_count_121 rfl H20 rfl ?_
    refine g_getfield (q := 127) C fX7_130 dX7_count_124 rfl H35 rfl ?_
    exact E.1 _ _ _ _ _ _ _ dX7_count_127 rfl rfl (Nat.le_of_ble_eq_true rfl) (Nat.le_of_ble_eq_true rfl) ⟨by decide, (fun k hk => by repeat (first | rfl | rw [List.getElem?_set_ne (by omega)]))⟩
  by_cases c_1_7 : p0 = 7
  · subst c_1_7
    refine g_tableIn (off := 127) (t := 128) C dX7_count_1 (by decide) (by decide) (by decide) (by decide) ?_
    refine g_aload_n (q := 129) C dX7_count_128 rfl rfl ?_
    refine g_getfield (q := 132) C fX7_30 dX7_count_129 rfl H0 rfl ?_
    refine g_getfield (q := 135) C fX7_203 dX7_count_132 rfl H20 rfl ?_
    exact E.1 _ _ _ _ _ _ _ dX7_count_135 rfl rfl (Nat.le_of_ble_eq_true rfl) (Nat.le_of_ble_eq_true rfl) ⟨by decide, (fun k hk => by repeat (first | rfl | rw [List.getElem?_set_ne (by omega)]))⟩
  by_cases c_1_8 : p0 = 8
  · subst c_1_8
    refine g_tableIn (off := 135) (t := 136) C dX7_count_1 (by decide) (by decide) (by decide) (by decide) ?_
    refine g_aload_n (q := 137) C dX7_count_136 rfl rfl ?_
    refine g_getfield (q := 140) C fX7_30 dX7_count_137 rfl H0 rfl ?_
    refine g_getfield (q := 143) C fX7_206 dX7_count_140 rfl H20 rfl ?_
    exact E.1 _ _ _ _ _ _ _ dX7_count_143 rfl rfl (Nat.le_of_ble_eq_true rfl) (Nat.le_of_ble_eq_true rfl) ⟨by decide, (fun k hk => by repeat (first | rfl | rw [List.getElem?_set_ne (by omega)]))⟩
  by_cases c_1_9 : p0 = 9
  · subst c_1_9
    refine g_tableIn (off := 143) (t := 144) C dX7_count_1 (by decide) (by decide) (by decide) (by decide) ?_
    refine g_aload_n (q := 145) C dX7_count_144 rfl rfl ?_
    refine g_getfield (q := 148) C fX7_30 dX7_count_145 rfl H0 rfl ?_
    refine g_getfield (q := 151) C fX7_209 dX7_count_148 rfl H20 rfl ?_
    exact E.1 _ _ _ _ _ _ _ dX7_count_151 rfl rfl (Nat.le_of_ble_eq_true rfl) (Nat.le_of_ble_eq_true rfl) ⟨by decide, (fun k hk => by repeat (first | rfl | rw [List.getElem?_set_ne (by omega)]))⟩
  by_cases c_1_10 : p0 = 10
  · subst c_1_10
    refine g_tableIn (off := 151) (t := 152) C dX7_count_1 (by decide) (by decide) (by decide) (by decide) ?_
    refine g_aload_n (q := 153) C dX7_count_152 rfl rfl ?_
    refine g_getfield (q := 156) C fX7_14 dX7_count_153 rfl H0 rfl ?_
    refine g_callVi (q := 159) (As := []) C gyX4_size gvX4_size t_463 (c_X4_size H1) dX7_count_156 rfl H1 rfl rfl rfl (Nat.le_of_ble_eq_true rfl) (Nat.le_of_ble_eq_true rfl) (Nat.le_of_ble_eq_true rfl) (Nat.le_of_ble_eq_true rfl) (Nat.le_of_ble_eq_true rfl) rfl ?_
    exact E.1 _ _ _ _ _ _ _ dX7_count_159 rfl rfl (Nat.le_of_ble_eq_true rfl) (Nat.le_of_ble_eq_true rfl) ⟨by decide, (fun k hk => by repeat (first | rfl | rw [List.getElem?_set_ne (by omega)]))⟩
  refine g_tableOut (t := 160) C dX7_count_1 (gOut11 c_1_0 c_1_1 c_1_2 c_1_3 c_1_4 c_1_5 c_1_6 c_1_7 c_1_8 c_1_9 c_1_10) (by decide) ?_
  refine g_iconst (v := (-1)) (q := 161) C dX7_count_160 (by decide) rfl ?_
  exact E.1 _ _ _ _ _ _ _ dX7_count_161 rfl rfl (Nat.le_of_ble_eq_true rfl) (Nat.le_of_ble_eq_true rfl) ⟨by rw [gE2, if_neg c_1_6, if_pos (gOut11 c_1_0 c_1_1 c_1_2 c_1_3 c_1_4 c_1_5 c_1_6 c_1_7 c_1_8 c_1_9 c_1_10)], (fun k hk => by repeat (first | rfl | rw [List.getElem?_set_ne (by omega)]))⟩
