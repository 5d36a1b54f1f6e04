/-! LOG, WHERE IT RETURNS (by program: wip/p2t/m_tlog.py) -/
theorem dX7_log_0 : decode cX7_log 0 = .ok (.iload_n 1, 1) := by decide +kernel
theorem dX7_log_1 : decode cX7_log 1 = .ok (.ifCond .lt 23, 3) := by decide +kernel
theorem dX7_log_4 : decode cX7_log 4 = .ok (.iload_n 1, 1) := by decide +kernel
theorem dX7_log_5 : decode cX7_log 5 = .ok (.aload_n 0, 1) := by decide +kernel
theorem dX7_log_6 : decode cX7_log 6 = .ok (.getfield 21, 3) := by decide +kernel
theorem dX7_log_9 : decode cX7_log 9 = .ok (.invokevirtual 162, 3) := by decide +kernel
theorem dX7_log_12 : decode cX7_log 12 = .ok (.if_icmp .ge 12, 3) := by decide +kernel
theorem dX7_log_15 : decode cX7_log 15 = .ok (.iload_n 2, 1) := by decide +kernel
theorem dX7_log_16 : decode cX7_log 16 = .ok (.ifCond .lt 8, 3) := by decide +kernel
theorem dX7_log_19 : decode cX7_log 19 = .ok (.iload_n 2, 1) := by decide +kernel
theorem dX7_log_20 : decode cX7_log 20 = .ok (.iconst 5, 1) := by decide +kernel
theorem dX7_log_21 : decode cX7_log 21 = .ok (.if_icmp .le 11, 3) := by decide +kernel
theorem dX7_log_24 : decode cX7_log 24 = .ok (.new 165, 3) := by decide +kernel
theorem dX7_log_27 : decode cX7_log 27 = .ok (.dup, 1) := by decide +kernel
theorem dX7_log_28 : decode cX7_log 28 = .ok (.invokespecial 167, 3) := by decide +kernel
theorem dX7_log_31 : decode cX7_log 31 = .ok (.athrow, 1) := by decide +kernel
theorem dX7_log_32 : decode cX7_log 32 = .ok (.aload_n 0, 1) := by decide +kernel
theorem dX7_log_33 : decode cX7_log 33 = .ok (.getfield 21, 3) := by decide +kernel
theorem dX7_log_36 : decode cX7_log 36 = .ok (.iload_n 1, 1) := by decide +kernel
theorem dX7_log_37 : decode cX7_log 37 = .ok (.iload_n 2, 1) := by decide +kernel
theorem dX7_log_38 : decode cX7_log 38 = .ok (.invokevirtual 168, 3) := by decide +kernel
theorem dX7_log_41 : decode cX7_log 41 = .ok (.ireturn, 1) := by decide +kernel
set_option maxRecDepth 100000 in
set_option maxHeartbeats 4000000 in
theorem tX1_kept_x {T : tyT} {R : Nat} {J : Nat → Prop} {Bc Bs : Nat} {M : gMd} {z : Nat → Nat} {hp : List gA} {l : List Int32} (H : tyS T R J Bc Bs M z hp) (g2 : gRw hp 14 (14 + 1) 30 l) : gM yX1_kept cX1_kept 1 ((some .int)) 1 20 [.ref 3] (hp) (0) (0) (fun v h => v = some (.int (nI l.length)) ∧ h = hp) := by
  refine gM_of (ls0 := [some (.ref 3)]) (by decide +kernel) (Nat.le_of_ble_eq_true rfl) rfl fun X C E => ?_
  refine g_aload_n (q := 1) C dX1_kept_0 rfl rfl ?_
  obtain ⟨x8_1, o1⟩ := tyG1 H (rfl : tyK 3 = (3, 0))
  refine g_getfield (v := .ref 14) (q := 4) C fX1_34 dX1_kept_1 rfl o1 rfl ?_
  refine g_callVi (q := 7) (As := []) C gyX4_size gvX4_size t_856 (c_X4_size g2.obj) dX1_kept_4 rfl g2.obj rfl rfl rfl (Nat.le_of_ble_eq_true rfl) (Nat.le_of_ble_eq_true rfl) (Nat.le_of_ble_eq_true rfl) (Nat.le_of_ble_eq_true rfl) (Nat.le_of_ble_eq_true rfl) rfl ?_
  exact E.1 _ _ _ _ _ _ _ dX1_kept_7 rfl rfl (Nat.le_of_ble_eq_true rfl) (Nat.le_of_ble_eq_true rfl) ⟨rfl, rfl⟩
set_option maxRecDepth 100000 in
set_option maxHeartbeats 4000000 in
/-- log where it returns: the place is kept, the question is 0 to 5 -/
theorem tX7_log_r {T : tyT} {R : Nat} {J : Nat → Prop} {Bc Bs : Nat} {M : gMd} {z : Nat → Nat} {hp : List gA} {l : List Int32} {a0 a1 : Int32} (H : tyS T R J Bc Bs M z hp) (g2 : gRw hp 14 (14 + 1) 30 l) (c1 : ¬ a0 < 0) (c2 : ¬ nI l.length ≤ a0) (c3 : ¬ a1 < 0) (c4 : a1 ≤ 5) : gM yX7_log cX7_log 3 ((some .int)) 6 120 [.ref 0, .int a0, .int a1] (hp) (0) (0) (fun v h => ∃ x, v = some (.int x) ∧ tyS T R J Bc Bs M z h) := by
  refine gM_of (ls0 := [some (.ref 0), some (.int a0), some (.int a1)]) (by decide +kernel) (Nat.le_of_ble_eq_true rfl) rfl fun X C E => ?_
  obtain ⟨x6_1, q4_1, q5_1, o1, -, -, -⟩ := tyG7 H (rfl : tyK 0 = (0, 0))
  obtain ⟨x8_1, o3⟩ := tyG1 H (rfl : tyK 3 = (3, 0))
  refine g_iload_n (q := 1) C dX7_log_0 rfl rfl ?_
  refine g_if_lt_f (t := 24) (q := 4) C dX7_log_1 (by decide) rfl c1 ?_
  refine g_iload_n (q := 5) C dX7_log_4 rfl rfl ?_
  refine g_aload_n (q := 6) C dX7_log_5 rfl rfl ?_
  refine g_getfield (v := .ref 3) (q := 9) C fX7_21 dX7_log_6 rfl o1 rfl ?_
  refine g_callVi (q := 12) (As := []) C gyX1_kept gvX1_kept t_927 (tX1_kept_x H g2) dX7_log_9 rfl o3 rfl rfl rfl (Nat.le_of_ble_eq_true rfl) (Nat.le_of_ble_eq_true rfl) (Nat.le_of_ble_eq_true rfl) (Nat.le_of_ble_eq_true rfl) (Nat.le_of_ble_eq_true rfl) rfl ?_
  refine g_icmp_ge_f (t := 24) (q := 15) C dX7_log_12 (by decide) rfl c2 ?_
  refine g_iload_n (q := 16) C dX7_log_15 rfl rfl ?_
  refine g_if_lt_f (t := 24) (q := 19) C dX7_log_16 (by decide) rfl c3 ?_
  refine g_iload_n (q := 20) C dX7_log_19 rfl rfl ?_
  refine g_iconst (v := 5) (q := 21) C dX7_log_20 (by decide) rfl ?_
  refine g_icmp_le_t (t := 32) C dX7_log_21 (by decide) c4 ?_
  refine g_aload_n (q := 33) C dX7_log_32 rfl rfl ?_
  refine g_getfield (v := .ref 3) (q := 36) C fX7_21 dX7_log_33 rfl o1 rfl ?_
  refine g_iload_n (q := 37) C dX7_log_36 rfl rfl ?_
  refine g_iload_n (q := 38) C dX7_log_37 rfl rfl ?_
  refine g_callVip (q := 41) (As := [.int a0, .int a1]) C gyX1_tell gvX1_tell t_1066 (tX1_tell H) dX7_log_38 rfl o3 rfl rfl rfl (Nat.le_of_ble_eq_true rfl) (Nat.le_of_ble_eq_true rfl) (Nat.le_of_ble_eq_true rfl) (Nat.le_of_ble_eq_true rfl) (Nat.le_of_ble_eq_true rfl) rfl (fun x5 h5 q5 => ?_)
  exact E.1 _ _ _ _ _ _ _ dX7_log_41 rfl rfl (Nat.le_of_ble_eq_true rfl) (Nat.le_of_ble_eq_true rfl) ⟨_, rfl, q5⟩
