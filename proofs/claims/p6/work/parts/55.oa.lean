/-! the reference: a side asked (by program: wip/p2/m_oa.py) -/
theorem lkT : Cond.fieldLink RX8 300 "CardLinkModel" "TOLD" "[I" ∈ gW := gW_of (by decide +kernel) rfl
theorem dX8_side_0 : decode cX8_side 0 = .ok (.aload_n 0, 1) := by decide +kernel
theorem dX8_side_1 : decode cX8_side 1 = .ok (.iconst 0, 1) := by decide +kernel
theorem dX8_side_2 : decode cX8_side 2 = .ok (.putfield 66, 3) := by decide +kernel
theorem dX8_side_5 : decode cX8_side 5 = .ok (.aload_n 0, 1) := by decide +kernel
theorem dX8_side_6 : decode cX8_side 6 = .ok (.getfield 134, 3) := by decide +kernel
theorem dX8_side_9 : decode cX8_side 9 = .ok (.ifCond .eq 40, 3) := by decide +kernel
theorem dX8_side_12 : decode cX8_side 12 = .ok (.iload_n 1, 1) := by decide +kernel
theorem dX8_side_13 : decode cX8_side 13 = .ok (.iconst 0, 1) := by decide +kernel
theorem dX8_side_14 : decode cX8_side 14 = .ok (.iconst 1, 1) := by decide +kernel
theorem dX8_side_15 : decode cX8_side 15 = .ok (.invokestatic 82, 3) := by decide +kernel
theorem dX8_side_18 : decode cX8_side 18 = .ok (.ifCond .eq 31, 3) := by decide +kernel
theorem dX8_side_21 : decode cX8_side 21 = .ok (.iload_n 2, 1) := by decide +kernel
theorem dX8_side_22 : decode cX8_side 22 = .ok (.iconst 0, 1) := by decide +kernel
theorem dX8_side_23 : decode cX8_side 23 = .ok (.bipush 10, 2) := by decide +kernel
theorem dX8_side_25 : decode cX8_side 25 = .ok (.invokestatic 82, 3) := by decide +kernel
theorem dX8_side_28 : decode cX8_side 28 = .ok (.ifCond .eq 21, 3) := by decide +kernel
theorem dX8_side_31 : decode cX8_side 31 = .ok (.aload_n 0, 1) := by decide +kernel
theorem dX8_side_32 : decode cX8_side 32 = .ok (.getfield 22, 3) := by decide +kernel
theorem dX8_side_35 : decode cX8_side 35 = .ok (.bipush 16, 2) := by decide +kernel
theorem dX8_side_37 : decode cX8_side 37 = .ok (.iload_n 1, 1) := by decide +kernel
theorem dX8_side_38 : decode cX8_side 38 = .ok (.imul, 1) := by decide +kernel
theorem dX8_side_39 : decode cX8_side 39 = .ok (.getstatic 300, 3) := by decide +kernel
theorem dX8_side_42 : decode cX8_side 42 = .ok (.iload_n 2, 1) := by decide +kernel
theorem dX8_side_43 : decode cX8_side 43 = .ok (.iaload, 1) := by decide +kernel
theorem dX8_side_44 : decode cX8_side 44 = .ok (.iadd, 1) := by decide +kernel
theorem dX8_side_45 : decode cX8_side 45 = .ok (.iaload, 1) := by decide +kernel
theorem dX8_side_46 : decode cX8_side 46 = .ok (.goto 5, 3) := by decide +kernel
theorem dX8_side_49 : decode cX8_side 49 = .ok (.bipush (-2), 2) := by decide +kernel
theorem dX8_side_51 : decode cX8_side 51 = .ok (.ireturn, 1) := by decide +kernel
set_option maxRecDepth 100000 in
set_option maxHeartbeats 4000000 in
theorem c_X8_side_r {hp : List gA} {M : gMd} {y z : Int32} (HM : gMod hp M)  : gM yX8_side cX8_side 3 ((some .int)) 1 22 [.ref 122, .int y, .int z] (hp) (0) (0) (fun v h => ∃ x, v = some (.int x) ∧ gMod h (M.set 2 0) ∧ gFM hp h) := by
  refine gM_of (ls0 := [some (.ref 122), some (.int y), some (.int z)]) (by decide +kernel) (Nat.le_of_ble_eq_true rfl) rfl fun X C E => ?_
  refine g_aload_n (q := 1) C dX8_side_0 rfl rfl ?_
  refine g_iconst (v := 0) (q := 2) C dX8_side_1 (by decide) rfl ?_
  refine g_putfield (q := 5) C fX8_66 dX8_side_2 rfl HM.1 (Nat.le_of_ble_eq_true rfl) (Or.inl rfl) rfl rfl (by intro z h; cases h) ?_
  refine gMput (j := 2) (x := 0) HM rfl fun h1 HL1 fr1 => ?_
  refine g_aload_n (q := 6) C dX8_side_5 rfl rfl ?_
  refine g_getfield (v := .int ((M.f 3))) (q := 9) C fX8_134 dX8_side_6 rfl HL1.1 rfl ?_
  refine g_if_eq (t := 49) (q := 12) C dX8_side_9 (by decide) rfl (fun c_9 => ?_) (fun c_9 => ?_)
  ·
    refine g_bipush (v := (-2)) (q := 51) C dX8_side_49 (by decide) rfl ?_
    exact E.1 _ _ _ _ _ _ _ dX8_side_51 rfl rfl (Nat.le_of_ble_eq_true rfl) (Nat.le_of_ble_eq_true rfl) ⟨_, rfl, HL1, fr1⟩
  ·
    refine g_iload_n (q := 13) C dX8_side_12 rfl rfl ?_
    refine g_iconst (v := 0) (q := 14) C dX8_side_13 (by decide) rfl ?_
    refine g_iconst (v := 1) (q := 15) C dX8_side_14 (by decide) rfl ?_
    refine g_callSi (x := (rX8_within y 0 1)) (q := 18) (As := [.int y, .int 0, .int 1]) C gyX8_within t_1212 t_1211 (c_X8_within_m) dX8_side_15 rfl rfl rfl (Nat.le_of_ble_eq_true rfl) (Nat.le_of_ble_eq_true rfl) (Nat.le_of_ble_eq_true rfl) (Nat.le_of_ble_eq_true rfl) (Nat.le_of_ble_eq_true rfl) rfl ?_
    refine g_if_eq (t := 49) (q := 21) C dX8_side_18 (by decide) rfl (fun c_18 => ?_) (fun c_18 => ?_)
    ·
      refine g_bipush (v := (-2)) (q := 51) C dX8_side_49 (by decide) rfl ?_
      exact E.1 _ _ _ _ _ _ _ dX8_side_51 rfl rfl (Nat.le_of_ble_eq_true rfl) (Nat.le_of_ble_eq_true rfl) ⟨_, rfl, HL1, fr1⟩
    ·
      refine g_iload_n (q := 22) C dX8_side_21 rfl rfl ?_
      refine g_iconst (v := 0) (q := 23) C dX8_side_22 (by decide) rfl ?_
      refine g_bipush (v := 10) (q := 25) C dX8_side_23 (by decide) rfl ?_
      refine g_callSi (x := (rX8_within z 0 10)) (q := 28) (As := [.int z, .int 0, .int 10]) C gyX8_within t_1212 t_1211 (c_X8_within_m) dX8_side_25 rfl rfl rfl (Nat.le_of_ble_eq_true rfl) (Nat.le_of_ble_eq_true rfl) (Nat.le_of_ble_eq_true rfl) (Nat.le_of_ble_eq_true rfl) (Nat.le_of_ble_eq_true rfl) rfl ?_
      refine g_if_eq (t := 49) (q := 31) C dX8_side_28 (by decide) rfl (fun c_28 => ?_) (fun c_28 => ?_)
      ·
        refine g_bipush (v := (-2)) (q := 51) C dX8_side_49 (by decide) rfl ?_
        exact E.1 _ _ _ _ _ _ _ dX8_side_51 rfl rfl (Nat.le_of_ble_eq_true rfl) (Nat.le_of_ble_eq_true rfl) ⟨_, rfl, HL1, fr1⟩
      ·
        refine g_aload_n (q := 32) C dX8_side_31 rfl rfl ?_
        refine g_getfield (v := .ref 127) (q := 35) C fX8_22 dX8_side_32 rfl HL1.1 rfl ?_
        refine g_bipush (v := 16) (q := 37) C dX8_side_35 (by decide) rfl ?_
        refine g_iload_n (q := 38) C dX8_side_37 rfl rfl ?_
        refine g_imul (q := 39) C dX8_side_38 rfl ?_
        obtain ⟨n, -, hn, ey⟩ := gWi (a := 0) (b := 1) (by decide) (by decide) c_18
        obtain ⟨n2, -, hn2, ez⟩ := gWi (a := 0) (b := 10) (by decide) (by decide) c_28
        obtain ⟨m, em⟩ : ∃ m : Fin 14, ([0, 1, 2, 3, 4, 8, 11, 9, 5, 12, 13] : List Int32).getD n2 0 = nI m.1 := (by decide +kernel : ∀ k : Fin 11, ∃ m : Fin 14, ([0, 1, 2, 3, 4, 8, 11, 9, 5, 12, 13] : List Int32).getD k.1 0 = nI m.1) ⟨n2, by omega⟩
        refine g_tabld (n := n2) (z := ("CardLinkModel", "TOLD", [0, 1, 2, 3, 4, 8, 11, 9, 5, 12, 13])) (i := 2) C List.mem_cons_self lkT dX8_side_39 dX8_side_42 dX8_side_43 rfl rfl (by rw [ez]; exact nI_clamp (by omega)) (by rw [ez]; exact nI_pos (by omega)) (show n2 < 11 by omega) em ?_
        refine g_iadd (q := 45) C dX8_side_44 rfl ?_
        have hm := m.2
        have e45 : (16 : Int32) * y + nI m.1 = nI (16 * n + m.1) := by rw [ey, show (16 : Int32) = nI 16 from rfl, nI_mulS (by omega) (by decide) (by omega), nI_add]
        refine g_ialoadN (x := (M.a 4 (16 * n + m.1))) (j := (16 * n + m.1)) (q := 46) C dX8_side_45 rfl (HL1.ar (i := 4) (n := 772) (by decide) rfl) (pk_in (16 * n + m.1) 772 (by omega) e45) (pk_cl (16 * n + m.1) e45 (by omega)) gset_a ?_
        refine g_goto (q := 51) C dX8_side_46 (by decide) ?_
        exact E.1 _ _ _ _ _ _ _ dX8_side_51 rfl rfl (Nat.le_of_ble_eq_true rfl) (Nat.le_of_ble_eq_true rfl) ⟨_, rfl, HL1, fr1⟩
        
