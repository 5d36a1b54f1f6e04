/-! Line, its loops and what stands on them (by program: wip/p1/m_line2.py) -/
theorem gLn.side_side {L : gLn} {k : Nat} {s t : gSd} : (L.side k s).side k t = L.side k t := Prod.ext rfl (Prod.ext (funext fun j => by show (if j = k then t else if j = k then s else _) = if j = k then t else _; split <;> rfl) rfl)
theorem gLn.row_row {L : gLn} {k : Nat} {s t : List Int32} : (L.row k s).row k t = L.row k t := Prod.ext rfl (Prod.ext rfl (funext fun j => by show (if j = k then t else if j = k then s else _) = if j = k then t else _; split <;> rfl))
theorem gSd.row_row {L : gSd} {k : Nat} {s t : List Int32} : (L.row k s).row k t = L.row k t := Prod.ext rfl (funext fun j => by show (if j = k then t else if j = k then s else _) = if j = k then t else _; split <;> rfl)
theorem gcv (x : Int32) : x.toNatClampNeg < 2 ^ 31 := by
  have h := x.toInt_lt
  show x.toInt.toNat < _
  omega
theorem gcge (x : Int32) : x ≤ nI x.toNatClampNeg := by
  rw [Int32.le_iff_toInt_le, nI_toInt (gcv x)]
  show _ ≤ ((x.toInt.toNat : Nat) : Int)
  omega
theorem gclt {x : Int32} {j : Nat} (h : j < x.toNatClampNeg) : ¬ x ≤ nI j := by
  have h1 := gcv x
  rw [Int32.le_iff_toInt_le, nI_toInt (by omega)]
  have h2 : j < x.toInt.toNat := h
  omega
def gIota (n : Nat) : List Int32 := (List.range n).map nI
theorem gIota_s {n : Nat} : (((gIota n).take 60) ++ [nI n]).take 60 = (gIota (n + 1)).take 60 := by
  rw [gtk1, gIota, gIota, List.range_succ, List.map_append]; rfl
def gCh (s : gSd) (n : Nat) : List Int32 := (List.range n).map fun i => gat s.out (s.th + nI i)
theorem gCh_s {s : gSd} {p : List Int32} {n : Nat} : (((p ++ gCh s n).take 64) ++ [gat s.out (s.th + nI n)]).take 64 = (p ++ gCh s (n + 1)).take 64 := by
  rw [gtk1, gCh, gCh, List.range_succ, List.map_append, List.append_assoc]; rfl
theorem g3s {l : List Int32} {j : Nat} (h3 : 3 ≤ j) (hj : j < l.length) (hl : l.length ≤ 60) : (((l.drop 3).take (j - 3)) ++ [gat l (nI j)]).take 60 = (l.drop 3).take (j + 1 - 3) := by
  unfold gat
  rw [List.take_of_length_le (show (((l.drop 3).take (j - 3)) ++ [_]).length ≤ 60 by rw [List.length_append, List.length_take, List.length_drop]; simp; omega)]
  rw [if_neg (nI_pos (by omega)), nI_clamp (by omega), show j + 1 - 3 = (j - 3) + 1 by omega, List.take_add_one, List.getElem?_drop, show 3 + (j - 3) = j by omega, List.getElem?_eq_getElem hj]
  simp [List.getD, List.getElem?_eq_getElem hj]
theorem gbl_row {L : gLn} {l : List Int32} : (L.row 0 l).bl = l := rfl
theorem gCh_0 {s : gSd} : gCh s 0 = [] := rfl
theorem gi224 {x : Int32} (h : ¬ x < 224) : 128 ≤ x := by
  rw [Int32.lt_iff_toInt_lt] at h
  rw [Int32.le_iff_toInt_le]
  have e1 : (224 : Int32).toInt = 224 := by decide
  have e2 : (128 : Int32).toInt = 128 := by decide
  omega
def rX2_putCounting (L : gLn) (x : Int32) : Int32 × gLn := ((-2), (L.side 1 (L.cd.row 0 ((gIota x.toNatClampNeg).take 60))))
theorem dX2_putCounting_0 : decode cX2_putCounting 0 = .ok (.aload_n 0, 1) := by decide +kernel
theorem dX2_putCounting_1 : decode cX2_putCounting 1 = .ok (.getfield 20, 3) := by decide +kernel
theorem dX2_putCounting_4 : decode cX2_putCounting 4 = .ok (.getfield 102, 3) := by decide +kernel
theorem dX2_putCounting_7 : decode cX2_putCounting 7 = .ok (.iconst 0, 1) := by decide +kernel
theorem dX2_putCounting_8 : decode cX2_putCounting 8 = .ok (.invokevirtual 89, 3) := by decide +kernel
theorem dX2_putCounting_11 : decode cX2_putCounting 11 = .ok (.iconst 0, 1) := by decide +kernel
theorem dX2_putCounting_12 : decode cX2_putCounting 12 = .ok (.istore_n 2, 1) := by decide +kernel
theorem dX2_putCounting_13 : decode cX2_putCounting 13 = .ok (.iload_n 2, 1) := by decide +kernel
theorem dX2_putCounting_14 : decode cX2_putCounting 14 = .ok (.iload_n 1, 1) := by decide +kernel
theorem dX2_putCounting_15 : decode cX2_putCounting 15 = .ok (.if_icmp .ge 20, 3) := by decide +kernel
theorem dX2_putCounting_18 : decode cX2_putCounting 18 = .ok (.aload_n 0, 1) := by decide +kernel
theorem dX2_putCounting_19 : decode cX2_putCounting 19 = .ok (.getfield 20, 3) := by decide +kernel
theorem dX2_putCounting_22 : decode cX2_putCounting 22 = .ok (.getfield 102, 3) := by decide +kernel
theorem dX2_putCounting_25 : decode cX2_putCounting 25 = .ok (.iload_n 2, 1) := by decide +kernel
theorem dX2_putCounting_26 : decode cX2_putCounting 26 = .ok (.invokevirtual 241, 3) := by decide +kernel
theorem dX2_putCounting_29 : decode cX2_putCounting 29 = .ok (.iinc 2 1, 3) := by decide +kernel
theorem dX2_putCounting_32 : decode cX2_putCounting 32 = .ok (.goto (-19), 3) := by decide +kernel
theorem dX2_putCounting_35 : decode cX2_putCounting 35 = .ok (.bipush (-2), 2) := by decide +kernel
theorem dX2_putCounting_37 : decode cX2_putCounting 37 = .ok (.ireturn, 1) := by decide +kernel
set_option maxRecDepth 100000 in
set_option maxHeartbeats 4000000 in
theorem c_X2_putCounting_l {hp : List gA} {L : gLn} {x : Int32}  (HL : gLine hp L)  : gM yX2_putCounting cX2_putCounting 3 ((some .int)) 3 103 [.ref 20, .int x] (hp) (0) (0) (fun v h => v = some (.int (rX2_putCounting L x).1) ∧ (gLine h (rX2_putCounting L x).2 ∧ gFL hp h)) := by
  refine gM_of (ls0 := [some (.ref 20), some (.int x), none]) (by decide +kernel) (Nat.le_of_ble_eq_true rfl) rfl fun X C E => ?_
  refine g_aload_n (q := 1) C dX2_putCounting_0 rfl rfl ?_
  refine g_getfield (v := .ref 28) (q := 4) C fX2_20 dX2_putCounting_1 rfl HL.1 rfl ?_
  refine g_getfieldW (v := .ref 29) (q := 7) C fX2_102 dX2_putCounting_4 rfl HL.2.2.1.1 rfl ?_
  refine g_iconst (v := 0) (q := 8) C dX2_putCounting_7 (by decide) rfl ?_
  refine g_callVvp (q := 11) (As := [.int 0]) C gyX4_keep gvX4_keep t_507 (c_X4_keep0 HL.2.2.1.2.1) dX2_putCounting_8 rfl (gRw.obj HL.2.2.1.2.1) rfl rfl rfl (Nat.le_of_ble_eq_true rfl) (Nat.le_of_ble_eq_true rfl) (Nat.le_of_ble_eq_true rfl) (Nat.le_of_ble_eq_true rfl) (Nat.le_of_ble_eq_true rfl) rfl (fun h1 z1 => ?_)
  obtain ⟨HL1, fr1⟩ := gLine.cd_out HL z1
  refine g_iconst (v := 0) (q := 12) C dX2_putCounting_11 (by decide) rfl ?_
  refine g_istore_n (q := 13) C dX2_putCounting_12 (Nat.le_of_ble_eq_true rfl) (by simp only [gset]; rfl) rfl ?_
  rw [show (L.side 1 (L.cd.row 0 [])) = (L.side 1 (L.cd.row 0 ((gIota 0).take 60))) from rfl] at HL1
  have LL2 : ∀ d j : Nat, j + d = x.toNatClampNeg → ∀ (h1 : List gA), gLine h1 (L.side 1 (L.cd.row 0 ((gIota j).take 60))) → gFL hp h1 → gG X 13 [some (.ref 20), some (.int x), some (.int ((nI j)))] [] h1 0 0 := by
    intro d
    induction d with
    | zero =>
      intro j hj h1 HL1_ fr_
      obtain rfl : j = x.toNatClampNeg := by omega
      refine g_iload_n (q := 14) C dX2_putCounting_13 rfl rfl ?_
      refine g_iload_n (q := 15) C dX2_putCounting_14 rfl rfl ?_
      refine g_icmp_ge_t (t := 35) C dX2_putCounting_15 (by decide) (gcge x) ?_
      refine g_bipush (v := (-2)) (q := 37) C dX2_putCounting_35 (by decide) rfl ?_
      have e : rX2_putCounting L x = ((-2), (L.side 1 (L.cd.row 0 ((gIota x.toNatClampNeg).take 60)))) := rfl
      exact E.1 _ _ _ _ _ _ _ dX2_putCounting_37 rfl rfl (Nat.le_of_ble_eq_true rfl) (Nat.le_of_ble_eq_true rfl) ⟨by rw [e], by rw [e]; exact ⟨HL1_, fr_⟩⟩
    | succ d ih =>
      intro j hj h1 HL1_ fr_
      refine g_iload_n (q := 14) C dX2_putCounting_13 rfl rfl ?_
      refine g_iload_n (q := 15) C dX2_putCounting_14 rfl rfl ?_
      refine g_icmp_ge_f (t := 35) (q := 18) C dX2_putCounting_15 (by decide) rfl (gclt (by omega)) ?_
      refine g_aload_n (q := 19) C dX2_putCounting_18 rfl rfl ?_
      refine g_getfield (v := .ref 28) (q := 22) C fX2_20 dX2_putCounting_19 rfl HL1_.1 rfl ?_
      refine g_getfieldW (v := .ref 29) (q := 25) C fX2_102 dX2_putCounting_22 rfl HL1_.2.2.1.1 rfl ?_
      refine g_iload_n (q := 26) C dX2_putCounting_25 rfl rfl ?_
      refine g_callVvp (q := 29) (As := [.int ((nI j))]) C gyX4_add gvX4_add t_733 (c_X4_add_a HL1_.2.2.1.2.1) dX2_putCounting_26 rfl (gRw.obj HL1_.2.2.1.2.1) rfl rfl rfl (Nat.le_of_ble_eq_true rfl) (Nat.le_of_ble_eq_true rfl) (Nat.le_of_ble_eq_true rfl) (Nat.le_of_ble_eq_true rfl) (Nat.le_of_ble_eq_true rfl) rfl (fun h3 z3 => ?_)
      obtain ⟨HL3, fr3⟩ := gLine.cd_out HL1_ z3
      refine g_iinc (v := (nI (j + 1))) (q := 32) C dX2_putCounting_29 rfl (nI_1 j) (by simp only [gset]; rfl) rfl ?_
      rw [gLn.side_side, show ((L.side 1 (L.cd.row 0 ((gIota j).take 60))).cd.row 0 (((L.side 1 (L.cd.row 0 ((gIota j).take 60))).cd.out ++ [(nI j)]).take 60)) = L.cd.row 0 ((gIota (j + 1)).take 60) from by rw [← gIota_s]; exact gSd.row_row] at HL3
      refine g_goto (q := 13) C dX2_putCounting_32 (by decide) ?_
      exact ih (j + 1) (by omega) h3 HL3 (gFL.trans fr_ fr3)
  exact LL2 (x.toNatClampNeg - 0) 0 (by omega) h1 HL1 fr1
  
def rX2_putBehindThird (L : gLn) : Int32 × gLn := ((-2), (L.side 1 (L.cd.row 0 (L.cd.got.drop 3))))
theorem dX2_putBehindThird_0 : decode cX2_putBehindThird 0 = .ok (.aload_n 0, 1) := by decide +kernel
theorem dX2_putBehindThird_1 : decode cX2_putBehindThird 1 = .ok (.getfield 20, 3) := by decide +kernel
theorem dX2_putBehindThird_4 : decode cX2_putBehindThird 4 = .ok (.getfield 102, 3) := by decide +kernel
theorem dX2_putBehindThird_7 : decode cX2_putBehindThird 7 = .ok (.iconst 0, 1) := by decide +kernel
theorem dX2_putBehindThird_8 : decode cX2_putBehindThird 8 = .ok (.invokevirtual 89, 3) := by decide +kernel
theorem dX2_putBehindThird_11 : decode cX2_putBehindThird 11 = .ok (.iconst 3, 1) := by decide +kernel
theorem dX2_putBehindThird_12 : decode cX2_putBehindThird 12 = .ok (.istore_n 1, 1) := by decide +kernel
theorem dX2_putBehindThird_13 : decode cX2_putBehindThird 13 = .ok (.iload_n 1, 1) := by decide +kernel
theorem dX2_putBehindThird_14 : decode cX2_putBehindThird 14 = .ok (.aload_n 0, 1) := by decide +kernel
theorem dX2_putBehindThird_15 : decode cX2_putBehindThird 15 = .ok (.getfield 20, 3) := by decide +kernel
theorem dX2_putBehindThird_18 : decode cX2_putBehindThird 18 = .ok (.getfield 235, 3) := by decide +kernel
theorem dX2_putBehindThird_21 : decode cX2_putBehindThird 21 = .ok (.invokevirtual 111, 3) := by decide +kernel
theorem dX2_putBehindThird_24 : decode cX2_putBehindThird 24 = .ok (.if_icmp .ge 30, 3) := by decide +kernel
theorem dX2_putBehindThird_27 : decode cX2_putBehindThird 27 = .ok (.aload_n 0, 1) := by decide +kernel
theorem dX2_putBehindThird_28 : decode cX2_putBehindThird 28 = .ok (.getfield 20, 3) := by decide +kernel
theorem dX2_putBehindThird_31 : decode cX2_putBehindThird 31 = .ok (.getfield 102, 3) := by decide +kernel
theorem dX2_putBehindThird_34 : decode cX2_putBehindThird 34 = .ok (.aload_n 0, 1) := by decide +kernel
theorem dX2_putBehindThird_35 : decode cX2_putBehindThird 35 = .ok (.getfield 20, 3) := by decide +kernel
theorem dX2_putBehindThird_38 : decode cX2_putBehindThird 38 = .ok (.getfield 235, 3) := by decide +kernel
theorem dX2_putBehindThird_41 : decode cX2_putBehindThird 41 = .ok (.iload_n 1, 1) := by decide +kernel
theorem dX2_putBehindThird_42 : decode cX2_putBehindThird 42 = .ok (.invokevirtual 156, 3) := by decide +kernel
theorem dX2_putBehindThird_45 : decode cX2_putBehindThird 45 = .ok (.invokevirtual 241, 3) := by decide +kernel
theorem dX2_putBehindThird_48 : decode cX2_putBehindThird 48 = .ok (.iinc 1 1, 3) := by decide +kernel
theorem dX2_putBehindThird_51 : decode cX2_putBehindThird 51 = .ok (.goto (-38), 3) := by decide +kernel
theorem dX2_putBehindThird_54 : decode cX2_putBehindThird 54 = .ok (.bipush (-2), 2) := by decide +kernel
theorem dX2_putBehindThird_56 : decode cX2_putBehindThird 56 = .ok (.ireturn, 1) := by decide +kernel
set_option maxRecDepth 100000 in
set_option maxHeartbeats 4000000 in
theorem c_X2_putBehindThird_l {hp : List gA} {L : gLn}  (HL : gLine hp L)  : gM yX2_putBehindThird cX2_putBehindThird 2 ((some .int)) 3 103 [.ref 20] (hp) (0) (0) (fun v h => v = some (.int (rX2_putBehindThird L).1) ∧ (gLine h (rX2_putBehindThird L).2 ∧ gFL hp h)) := by
  refine gM_of (ls0 := [some (.ref 20), none]) (by decide +kernel) (Nat.le_of_ble_eq_true rfl) rfl fun X C E => ?_
  refine g_aload_n (q := 1) C dX2_putBehindThird_0 rfl rfl ?_
  refine g_getfield (v := .ref 28) (q := 4) C fX2_20 dX2_putBehindThird_1 rfl HL.1 rfl ?_
  refine g_getfieldW (v := .ref 29) (q := 7) C fX2_102 dX2_putBehindThird_4 rfl HL.2.2.1.1 rfl ?_
  refine g_iconst (v := 0) (q := 8) C dX2_putBehindThird_7 (by decide) rfl ?_
  refine g_callVvp (q := 11) (As := [.int 0]) C gyX4_keep gvX4_keep t_507 (c_X4_keep0 HL.2.2.1.2.1) dX2_putBehindThird_8 rfl (gRw.obj HL.2.2.1.2.1) rfl rfl rfl (Nat.le_of_ble_eq_true rfl) (Nat.le_of_ble_eq_true rfl) (Nat.le_of_ble_eq_true rfl) (Nat.le_of_ble_eq_true rfl) (Nat.le_of_ble_eq_true rfl) rfl (fun h1 z1 => ?_)
  obtain ⟨HL1, fr1⟩ := gLine.cd_out HL z1
  refine g_iconst (v := 3) (q := 12) C dX2_putBehindThird_11 (by decide) rfl ?_
  refine g_istore_n (q := 13) C dX2_putBehindThird_12 (Nat.le_of_ble_eq_true rfl) (by simp only [gset]; rfl) rfl ?_
  rw [show (L.side 1 (L.cd.row 0 [])) = (L.side 1 (L.cd.row 0 ((L.cd.got.drop 3).take (3 - 3)))) from rfl] at HL1
  have hgl : L.cd.got.length ≤ 60 := HL.2.2.1.2.2.1.le.1
  have LL2 : ∀ d j : Nat, j + d = (max 3 L.cd.got.length) → 3 ≤ j → ∀ (h1 : List gA), gLine h1 (L.side 1 (L.cd.row 0 ((L.cd.got.drop 3).take (j - 3)))) → gFL hp h1 → gG X 13 [some (.ref 20), some (.int ((nI j)))] [] h1 0 0 := by
    intro d
    induction d with
    | zero =>
      intro j hj hlow h1 HL1_ fr_
      obtain rfl : j = (max 3 L.cd.got.length) := by omega
      rw [show (L.cd.got.drop 3).take ((max 3 L.cd.got.length) - 3) = L.cd.got.drop 3 from List.take_of_length_le (by rw [List.length_drop]; omega)] at HL1_
      refine g_iload_n (q := 14) C dX2_putBehindThird_13 rfl rfl ?_
      refine g_aload_n (q := 15) C dX2_putBehindThird_14 rfl rfl ?_
      refine g_getfield (v := .ref 28) (q := 18) C fX2_20 dX2_putBehindThird_15 rfl HL1_.1 rfl ?_
      refine g_getfieldW (v := .ref 31) (q := 21) C fX2_235 dX2_putBehindThird_18 rfl HL1_.2.2.1.1 rfl ?_
      refine g_callVi (x := (nI (L.side 1 (L.cd.row 0 (L.cd.got.drop 3))).cd.got.length)) (q := 24) (As := []) C gyX4_size gvX4_size t_561 (c_X4_size (gRw.obj HL1_.2.2.1.2.2.1)) dX2_putBehindThird_21 rfl (gRw.obj HL1_.2.2.1.2.2.1) rfl rfl rfl (Nat.le_of_ble_eq_true rfl) (Nat.le_of_ble_eq_true rfl) (Nat.le_of_ble_eq_true rfl) (Nat.le_of_ble_eq_true rfl) (Nat.le_of_ble_eq_true rfl) rfl ?_
      refine g_icmp_ge_t (t := 54) C dX2_putBehindThird_24 (by decide) (nI_le (Nat.le_max_right 3 L.cd.got.length) (by omega)) ?_
      refine g_bipush (v := (-2)) (q := 56) C dX2_putBehindThird_54 (by decide) rfl ?_
      have e : rX2_putBehindThird L = ((-2), (L.side 1 (L.cd.row 0 (L.cd.got.drop 3)))) := rfl
      exact E.1 _ _ _ _ _ _ _ dX2_putBehindThird_56 rfl rfl (Nat.le_of_ble_eq_true rfl) (Nat.le_of_ble_eq_true rfl) ⟨by rw [e], by rw [e]; exact ⟨HL1_, fr_⟩⟩
    | succ d ih =>
      intro j hj hlow h1 HL1_ fr_
      refine g_iload_n (q := 14) C dX2_putBehindThird_13 rfl rfl ?_
      refine g_aload_n (q := 15) C dX2_putBehindThird_14 rfl rfl ?_
      refine g_getfield (v := .ref 28) (q := 18) C fX2_20 dX2_putBehindThird_15 rfl HL1_.1 rfl ?_
      refine g_getfieldW (v := .ref 31) (q := 21) C fX2_235 dX2_putBehindThird_18 rfl HL1_.2.2.1.1 rfl ?_
      refine g_callVi (x := (nI (L.side 1 (L.cd.row 0 ((L.cd.got.drop 3).take (j - 3)))).cd.got.length)) (q := 24) (As := []) C gyX4_size gvX4_size t_561 (c_X4_size (gRw.obj HL1_.2.2.1.2.2.1)) dX2_putBehindThird_21 rfl (gRw.obj HL1_.2.2.1.2.2.1) rfl rfl rfl (Nat.le_of_ble_eq_true rfl) (Nat.le_of_ble_eq_true rfl) (Nat.le_of_ble_eq_true rfl) (Nat.le_of_ble_eq_true rfl) (Nat.le_of_ble_eq_true rfl) rfl ?_
      refine g_icmp_ge_f (t := 54) (q := 27) C dX2_putBehindThird_24 (by decide) rfl (fun h => nI_ge (show j < L.cd.got.length by omega) (by omega) h) ?_
      refine g_aload_n (q := 28) C dX2_putBehindThird_27 rfl rfl ?_
      refine g_getfield (v := .ref 28) (q := 31) C fX2_20 dX2_putBehindThird_28 rfl HL1_.1 rfl ?_
      refine g_getfieldW (v := .ref 29) (q := 34) C fX2_102 dX2_putBehindThird_31 rfl HL1_.2.2.1.1 rfl ?_
      refine g_aload_n (q := 35) C dX2_putBehindThird_34 rfl rfl ?_
      refine g_getfield (v := .ref 28) (q := 38) C fX2_20 dX2_putBehindThird_35 rfl HL1_.1 rfl ?_
      refine g_getfieldW (v := .ref 31) (q := 41) C fX2_235 dX2_putBehindThird_38 rfl HL1_.2.2.1.1 rfl ?_
      refine g_iload_n (q := 42) C dX2_putBehindThird_41 rfl rfl ?_
      refine g_callVi (x := (gat (L.side 1 (L.cd.row 0 ((L.cd.got.drop 3).take (j - 3)))).cd.got (nI j))) (q := 45) (As := [.int ((nI j))]) C gyX4_at gvX4_at t_644 (c_X4_at_w HL1_.2.2.1.2.2.1) dX2_putBehindThird_42 rfl (gRw.obj HL1_.2.2.1.2.2.1) rfl rfl rfl (Nat.le_of_ble_eq_true rfl) (Nat.le_of_ble_eq_true rfl) (Nat.le_of_ble_eq_true rfl) (Nat.le_of_ble_eq_true rfl) (Nat.le_of_ble_eq_true rfl) rfl ?_
      refine g_callVvp (q := 48) (As := [.int ((gat (L.side 1 (L.cd.row 0 ((L.cd.got.drop 3).take (j - 3)))).cd.got (nI j)))]) C gyX4_add gvX4_add t_733 (c_X4_add_a HL1_.2.2.1.2.1) dX2_putBehindThird_45 rfl (gRw.obj HL1_.2.2.1.2.1) rfl rfl rfl (Nat.le_of_ble_eq_true rfl) (Nat.le_of_ble_eq_true rfl) (Nat.le_of_ble_eq_true rfl) (Nat.le_of_ble_eq_true rfl) (Nat.le_of_ble_eq_true rfl) rfl (fun h3 z3 => ?_)
      obtain ⟨HL3, fr3⟩ := gLine.cd_out HL1_ z3
      refine g_iinc (v := (nI (j + 1))) (q := 51) C dX2_putBehindThird_48 rfl (nI_1 j) (by simp only [gset]; rfl) rfl ?_
      rw [gLn.side_side, show ((L.side 1 (L.cd.row 0 ((L.cd.got.drop 3).take (j - 3)))).cd.row 0 (((L.side 1 (L.cd.row 0 ((L.cd.got.drop 3).take (j - 3)))).cd.out ++ [(gat (L.side 1 (L.cd.row 0 ((L.cd.got.drop 3).take (j - 3)))).cd.got (nI j))]).take 60)) = L.cd.row 0 ((L.cd.got.drop 3).take (j + 1 - 3)) from by rw [← g3s hlow (show j < L.cd.got.length by omega) hgl]; exact gSd.row_row] at HL3
      refine g_goto (q := 13) C dX2_putBehindThird_51 (by decide) ?_
      exact ih (j + 1) (by omega) (by omega) h3 HL3 (gFL.trans fr_ fr3)
  exact LL2 ((max 3 L.cd.got.length) - 3) 3 (by omega) (Nat.le_refl _) h1 HL1 fr1
  
def rX2_compose_r (L : gLn) (x : Int32) : gLn := (if x < 224 then (if 128 ≤ x then (if (rX2_hasInf x) = 0 then (L.row 0 [0, x, 0, (gxs [0, x, 0] [0, x, 0].length)]) else (L.row 0 [0, x, 1, L.rd.ai, (gxs [0, x, 1, L.rd.ai] [0, x, 1, L.rd.ai].length)])) else (L.row 0 (((([0, x, gmax 0 L.rd.pe] ++ gCh L.rd (gmax 0 L.rd.pe).toNatClampNeg).take 64) ++ [(gxs (([0, x, gmax 0 L.rd.pe] ++ gCh L.rd (gmax 0 L.rd.pe).toNatClampNeg).take 64) (([0, x, gmax 0 L.rd.pe] ++ gCh L.rd (gmax 0 L.rd.pe).toNatClampNeg).take 64).length)]).take 64))) else (if (rX2_hasInf x) = 0 then (L.row 0 [0, x, 0, (gxs [0, x, 0] [0, x, 0].length)]) else (L.row 0 [0, x, 1, (gat L.ca 3), (gxs [0, x, 1, (gat L.ca 3)] [0, x, 1, (gat L.ca 3)].length)])))
theorem dX2_compose_0 : decode cX2_compose 0 = .ok (.iload_n 2, 1) := by decide +kernel
theorem dX2_compose_1 : decode cX2_compose 1 = .ok (.sipush 224, 3) := by decide +kernel
theorem dX2_compose_4 : decode cX2_compose 4 = .ok (.if_icmp .lt 14, 3) := by decide +kernel
theorem dX2_compose_7 : decode cX2_compose 7 = .ok (.aload_n 0, 1) := by decide +kernel
theorem dX2_compose_8 : decode cX2_compose 8 = .ok (.getfield 55, 3) := by decide +kernel
theorem dX2_compose_11 : decode cX2_compose 11 = .ok (.iconst 3, 1) := by decide +kernel
theorem dX2_compose_12 : decode cX2_compose 12 = .ok (.invokevirtual 156, 3) := by decide +kernel
theorem dX2_compose_15 : decode cX2_compose 15 = .ok (.goto 7, 3) := by decide +kernel
theorem dX2_compose_18 : decode cX2_compose 18 = .ok (.aload_n 1, 1) := by decide +kernel
theorem dX2_compose_19 : decode cX2_compose 19 = .ok (.getfield 194, 3) := by decide +kernel
theorem dX2_compose_22 : decode cX2_compose 22 = .ok (.istore_n 3, 1) := by decide +kernel
theorem dX2_compose_23 : decode cX2_compose 23 = .ok (.aload_n 0, 1) := by decide +kernel
theorem dX2_compose_24 : decode cX2_compose 24 = .ok (.getfield 51, 3) := by decide +kernel
theorem dX2_compose_27 : decode cX2_compose 27 = .ok (.iconst 0, 1) := by decide +kernel
theorem dX2_compose_28 : decode cX2_compose 28 = .ok (.invokevirtual 89, 3) := by decide +kernel
theorem dX2_compose_31 : decode cX2_compose 31 = .ok (.aload_n 0, 1) := by decide +kernel
theorem dX2_compose_32 : decode cX2_compose 32 = .ok (.getfield 51, 3) := by decide +kernel
theorem dX2_compose_35 : decode cX2_compose 35 = .ok (.iconst 0, 1) := by decide +kernel
theorem dX2_compose_36 : decode cX2_compose 36 = .ok (.invokevirtual 241, 3) := by decide +kernel
theorem dX2_compose_39 : decode cX2_compose 39 = .ok (.aload_n 0, 1) := by decide +kernel
theorem dX2_compose_40 : decode cX2_compose 40 = .ok (.getfield 51, 3) := by decide +kernel
theorem dX2_compose_43 : decode cX2_compose 43 = .ok (.iload_n 2, 1) := by decide +kernel
theorem dX2_compose_44 : decode cX2_compose 44 = .ok (.invokevirtual 241, 3) := by decide +kernel
theorem dX2_compose_47 : decode cX2_compose 47 = .ok (.iload_n 2, 1) := by decide +kernel
theorem dX2_compose_48 : decode cX2_compose 48 = .ok (.sipush 128, 3) := by decide +kernel
theorem dX2_compose_51 : decode cX2_compose 51 = .ok (.if_icmp .ge 56, 3) := by decide +kernel
theorem dX2_compose_54 : decode cX2_compose 54 = .ok (.aload_n 0, 1) := by decide +kernel
theorem dX2_compose_55 : decode cX2_compose 55 = .ok (.getfield 51, 3) := by decide +kernel
theorem dX2_compose_58 : decode cX2_compose 58 = .ok (.aload_n 1, 1) := by decide +kernel
theorem dX2_compose_59 : decode cX2_compose 59 = .ok (.invokevirtual 280, 3) := by decide +kernel
theorem dX2_compose_62 : decode cX2_compose 62 = .ok (.invokevirtual 241, 3) := by decide +kernel
theorem dX2_compose_65 : decode cX2_compose 65 = .ok (.iconst 0, 1) := by decide +kernel
theorem dX2_compose_66 : decode cX2_compose 66 = .ok (.istore 4, 2) := by decide +kernel
theorem dX2_compose_68 : decode cX2_compose 68 = .ok (.iload 4, 2) := by decide +kernel
theorem dX2_compose_70 : decode cX2_compose 70 = .ok (.aload_n 1, 1) := by decide +kernel
theorem dX2_compose_71 : decode cX2_compose 71 = .ok (.invokevirtual 280, 3) := by decide +kernel
theorem dX2_compose_74 : decode cX2_compose 74 = .ok (.if_icmp .ge 30, 3) := by decide +kernel
theorem dX2_compose_77 : decode cX2_compose 77 = .ok (.aload_n 0, 1) := by decide +kernel
theorem dX2_compose_78 : decode cX2_compose 78 = .ok (.getfield 51, 3) := by decide +kernel
theorem dX2_compose_81 : decode cX2_compose 81 = .ok (.aload_n 1, 1) := by decide +kernel
theorem dX2_compose_82 : decode cX2_compose 82 = .ok (.getfield 102, 3) := by decide +kernel
theorem dX2_compose_85 : decode cX2_compose 85 = .ok (.aload_n 1, 1) := by decide +kernel
theorem dX2_compose_86 : decode cX2_compose 86 = .ok (.getfield 105, 3) := by decide +kernel
theorem dX2_compose_89 : decode cX2_compose 89 = .ok (.iload 4, 2) := by decide +kernel
theorem dX2_compose_91 : decode cX2_compose 91 = .ok (.iadd, 1) := by decide +kernel
theorem dX2_compose_92 : decode cX2_compose 92 = .ok (.invokevirtual 156, 3) := by decide +kernel
theorem dX2_compose_95 : decode cX2_compose 95 = .ok (.invokevirtual 241, 3) := by decide +kernel
theorem dX2_compose_98 : decode cX2_compose 98 = .ok (.iinc 4 1, 3) := by decide +kernel
theorem dX2_compose_101 : decode cX2_compose 101 = .ok (.goto (-33), 3) := by decide +kernel
theorem dX2_compose_104 : decode cX2_compose 104 = .ok (.goto 37, 3) := by decide +kernel
theorem dX2_compose_107 : decode cX2_compose 107 = .ok (.iload_n 2, 1) := by decide +kernel
theorem dX2_compose_108 : decode cX2_compose 108 = .ok (.invokestatic 283, 3) := by decide +kernel
theorem dX2_compose_111 : decode cX2_compose 111 = .ok (.ifCond .eq 22, 3) := by decide +kernel
theorem dX2_compose_114 : decode cX2_compose 114 = .ok (.aload_n 0, 1) := by decide +kernel
theorem dX2_compose_115 : decode cX2_compose 115 = .ok (.getfield 51, 3) := by decide +kernel
theorem dX2_compose_118 : decode cX2_compose 118 = .ok (.iconst 1, 1) := by decide +kernel
theorem dX2_compose_119 : decode cX2_compose 119 = .ok (.invokevirtual 241, 3) := by decide +kernel
theorem dX2_compose_122 : decode cX2_compose 122 = .ok (.aload_n 0, 1) := by decide +kernel
theorem dX2_compose_123 : decode cX2_compose 123 = .ok (.getfield 51, 3) := by decide +kernel
theorem dX2_compose_126 : decode cX2_compose 126 = .ok (.iload_n 3, 1) := by decide +kernel
theorem dX2_compose_127 : decode cX2_compose 127 = .ok (.invokevirtual 241, 3) := by decide +kernel
theorem dX2_compose_130 : decode cX2_compose 130 = .ok (.goto 11, 3) := by decide +kernel
theorem dX2_compose_133 : decode cX2_compose 133 = .ok (.aload_n 0, 1) := by decide +kernel
theorem dX2_compose_134 : decode cX2_compose 134 = .ok (.getfield 51, 3) := by decide +kernel
theorem dX2_compose_137 : decode cX2_compose 137 = .ok (.iconst 0, 1) := by decide +kernel
theorem dX2_compose_138 : decode cX2_compose 138 = .ok (.invokevirtual 241, 3) := by decide +kernel
theorem dX2_compose_141 : decode cX2_compose 141 = .ok (.aload_n 0, 1) := by decide +kernel
theorem dX2_compose_142 : decode cX2_compose 142 = .ok (.getfield 51, 3) := by decide +kernel
theorem dX2_compose_145 : decode cX2_compose 145 = .ok (.aload_n 0, 1) := by decide +kernel
theorem dX2_compose_146 : decode cX2_compose 146 = .ok (.getfield 51, 3) := by decide +kernel
theorem dX2_compose_149 : decode cX2_compose 149 = .ok (.iconst 0, 1) := by decide +kernel
theorem dX2_compose_150 : decode cX2_compose 150 = .ok (.invokevirtual 287, 3) := by decide +kernel
theorem dX2_compose_153 : decode cX2_compose 153 = .ok (.invokevirtual 241, 3) := by decide +kernel
theorem dX2_compose_156 : decode cX2_compose 156 = .ok (.return_, 1) := by decide +kernel
set_option maxRecDepth 100000 in
set_option maxHeartbeats 4000000 in
theorem c_X2_compose_r_l {hp : List gA} {L : gLn} {x : Int32}  (HL : gLine hp L)  : gM yX2_compose cX2_compose 5 (none) 3 103 [.ref 20, .ref 21, .int x] (hp) (0) (0) (fun v h => v = none ∧ (gLine h (rX2_compose_r L x) ∧ gFL hp h)) := by
  refine gM_of (ls0 := [some (.ref 20), some (.ref 21), some (.int x), none, none]) (by decide +kernel) (Nat.le_of_ble_eq_true rfl) rfl fun X C E => ?_
  refine g_iload_n (q := 1) C dX2_compose_0 rfl rfl ?_
  refine g_sipush (v := 224) (q := 4) C dX2_compose_1 (by decide) rfl ?_
  refine g_icmp_lt (t := 18) (q := 7) C dX2_compose_4 (by decide) rfl (fun c_4 => ?_) (fun c_4 => ?_)
  ·
    refine g_aload_n (q := 19) C dX2_compose_18 rfl rfl ?_
    refine g_getfield (v := .int L.rd.ai) (q := 22) C fX2_194 dX2_compose_19 rfl HL.2.1.1 rfl ?_
    refine g_istore_n (q := 23) C dX2_compose_22 (Nat.le_of_ble_eq_true rfl) (by simp only [gset]; rfl) rfl ?_
    refine g_aload_n (q := 24) C dX2_compose_23 rfl rfl ?_
    refine g_getfield (v := .ref 39) (q := 27) C fX2_51 dX2_compose_24 rfl HL.1 rfl ?_
    refine g_iconst (v := 0) (q := 28) C dX2_compose_27 (by decide) rfl ?_
    refine g_callVvp (q := 31) (As := [.int 0]) C gyX4_keep gvX4_keep t_507 (c_X4_keep0 HL.2.2.2.1) dX2_compose_28 rfl (gRw.obj HL.2.2.2.1) rfl rfl rfl (Nat.le_of_ble_eq_true rfl) (Nat.le_of_ble_eq_true rfl) (Nat.le_of_ble_eq_true rfl) (Nat.le_of_ble_eq_true rfl) (Nat.le_of_ble_eq_true rfl) rfl (fun h1 z1 => ?_)
    obtain ⟨HL1, fr1⟩ := gLine.bl HL z1
    replace HL1 : gLine h1 (L.row 0 []) := HL1
    refine g_aload_n (q := 32) C dX2_compose_31 rfl rfl ?_
    refine g_getfield (v := .ref 39) (q := 35) C fX2_51 dX2_compose_32 rfl HL1.1 rfl ?_
    refine g_iconst (v := 0) (q := 36) C dX2_compose_35 (by decide) rfl ?_
    refine g_callVvp (q := 39) (As := [.int 0]) C gyX4_add gvX4_add t_733 (c_X4_add_a HL1.2.2.2.1) dX2_compose_36 rfl (gRw.obj HL1.2.2.2.1) rfl rfl rfl (Nat.le_of_ble_eq_true rfl) (Nat.le_of_ble_eq_true rfl) (Nat.le_of_ble_eq_true rfl) (Nat.le_of_ble_eq_true rfl) (Nat.le_of_ble_eq_true rfl) rfl (fun h2 z2 => ?_)
    obtain ⟨HL2, fr2⟩ := gLine.bl HL1 z2
    replace HL2 : gLine h2 (L.row 0 [0]) := by rw [gLn.row_row] at HL2; exact HL2
    refine g_aload_n (q := 40) C dX2_compose_39 rfl rfl ?_
    refine g_getfield (v := .ref 39) (q := 43) C fX2_51 dX2_compose_40 rfl HL2.1 rfl ?_
    refine g_iload_n (q := 44) C dX2_compose_43 rfl rfl ?_
    refine g_callVvp (q := 47) (As := [.int x]) C gyX4_add gvX4_add t_733 (c_X4_add_a HL2.2.2.2.1) dX2_compose_44 rfl (gRw.obj HL2.2.2.2.1) rfl rfl rfl (Nat.le_of_ble_eq_true rfl) (Nat.le_of_ble_eq_true rfl) (Nat.le_of_ble_eq_true rfl) (Nat.le_of_ble_eq_true rfl) (Nat.le_of_ble_eq_true rfl) rfl (fun h3 z3 => ?_)
    obtain ⟨HL3, fr3⟩ := gLine.bl HL2 z3
    replace HL3 : gLine h3 (L.row 0 [0, x]) := by rw [gLn.row_row] at HL3; exact HL3
    refine g_iload_n (q := 48) C dX2_compose_47 rfl rfl ?_
    refine g_sipush (v := 128) (q := 51) C dX2_compose_48 (by decide) rfl ?_
    refine g_icmp_ge (t := 107) (q := 54) C dX2_compose_51 (by decide) rfl (fun c_51 => ?_) (fun c_51 => ?_)
    ·
      refine g_iload_n (q := 108) C dX2_compose_107 rfl rfl ?_
      refine g_callSi (x := (rX2_hasInf x)) (q := 111) (As := [.int x]) C gyX2_hasInf t_739 t_738 (c_X2_hasInf_l) dX2_compose_108 rfl rfl rfl (Nat.le_of_ble_eq_true rfl) (Nat.le_of_ble_eq_true rfl) (Nat.le_of_ble_eq_true rfl) (Nat.le_of_ble_eq_true rfl) (Nat.le_of_ble_eq_true rfl) rfl ?_
      refine g_if_eq (t := 133) (q := 114) C dX2_compose_111 (by decide) rfl (fun c_111 => ?_) (fun c_111 => ?_)
      ·
        refine g_aload_n (q := 134) C dX2_compose_133 rfl rfl ?_
        refine g_getfield (v := .ref 39) (q := 137) C fX2_51 dX2_compose_134 rfl HL3.1 rfl ?_
        refine g_iconst (v := 0) (q := 138) C dX2_compose_137 (by decide) rfl ?_
        refine g_callVvp (q := 141) (As := [.int 0]) C gyX4_add gvX4_add t_733 (c_X4_add_a HL3.2.2.2.1) dX2_compose_138 rfl (gRw.obj HL3.2.2.2.1) rfl rfl rfl (Nat.le_of_ble_eq_true rfl) (Nat.le_of_ble_eq_true rfl) (Nat.le_of_ble_eq_true rfl) (Nat.le_of_ble_eq_true rfl) (Nat.le_of_ble_eq_true rfl) rfl (fun h4 z4 => ?_)
        obtain ⟨HL4, fr4⟩ := gLine.bl HL3 z4
        replace HL4 : gLine h4 (L.row 0 [0, x, 0]) := by rw [gLn.row_row] at HL4; exact HL4
        refine g_aload_n (q := 142) C dX2_compose_141 rfl rfl ?_
        refine g_getfield (v := .ref 39) (q := 145) C fX2_51 dX2_compose_142 rfl HL4.1 rfl ?_
        refine g_aload_n (q := 146) C dX2_compose_145 rfl rfl ?_
        refine g_getfield (v := .ref 39) (q := 149) C fX2_51 dX2_compose_146 rfl HL4.1 rfl ?_
        refine g_iconst (v := 0) (q := 150) C dX2_compose_149 (by decide) rfl ?_
        refine g_callVi (x := (gxs [0, x, 0] [0, x, 0].length)) (q := 153) (As := [.int 0]) C gyX4_xor gvX4_xor t_741 (c_X4_xor_w HL4.2.2.2.1) dX2_compose_150 rfl (gRw.obj HL4.2.2.2.1) rfl rfl rfl (Nat.le_of_ble_eq_true rfl) (Nat.le_of_ble_eq_true rfl) (Nat.le_of_ble_eq_true rfl) (Nat.le_of_ble_eq_true rfl) (Nat.le_of_ble_eq_true rfl) rfl ?_
        refine g_callVvp (q := 156) (As := [.int ((gxs [0, x, 0] [0, x, 0].length))]) C gyX4_add gvX4_add t_733 (c_X4_add_a HL4.2.2.2.1) dX2_compose_153 rfl (gRw.obj HL4.2.2.2.1) rfl rfl rfl (Nat.le_of_ble_eq_true rfl) (Nat.le_of_ble_eq_true rfl) (Nat.le_of_ble_eq_true rfl) (Nat.le_of_ble_eq_true rfl) (Nat.le_of_ble_eq_true rfl) rfl (fun h5 z5 => ?_)
        obtain ⟨HL5, fr5⟩ := gLine.bl HL4 z5
        replace HL5 : gLine h5 (L.row 0 [0, x, 0, (gxs [0, x, 0] [0, x, 0].length)]) := by rw [gLn.row_row] at HL5; exact HL5
        have e : rX2_compose_r L x = (L.row 0 [0, x, 0, (gxs [0, x, 0] [0, x, 0].length)]) := ((if_pos c_4).trans ((if_pos c_51).trans (if_pos c_111)))
        exact E.2.1 _ _ _ _ _ dX2_compose_156 rfl (Nat.le_of_ble_eq_true rfl) (Nat.le_of_ble_eq_true rfl) ⟨rfl, by rw [e]; exact ⟨HL5, (gFL.trans (gFL.trans (gFL.trans (gFL.trans fr1 fr2) fr3) fr4) fr5)⟩⟩
      ·
        refine g_aload_n (q := 115) C dX2_compose_114 rfl rfl ?_
        refine g_getfield (v := .ref 39) (q := 118) C fX2_51 dX2_compose_115 rfl HL3.1 rfl ?_
        refine g_iconst (v := 1) (q := 119) C dX2_compose_118 (by decide) rfl ?_
        refine g_callVvp (q := 122) (As := [.int 1]) C gyX4_add gvX4_add t_733 (c_X4_add_a HL3.2.2.2.1) dX2_compose_119 rfl (gRw.obj HL3.2.2.2.1) rfl rfl rfl (Nat.le_of_ble_eq_true rfl) (Nat.le_of_ble_eq_true rfl) (Nat.le_of_ble_eq_true rfl) (Nat.le_of_ble_eq_true rfl) (Nat.le_of_ble_eq_true rfl) rfl (fun h6 z6 => ?_)
        obtain ⟨HL6, fr6⟩ := gLine.bl HL3 z6
        replace HL6 : gLine h6 (L.row 0 [0, x, 1]) := by rw [gLn.row_row] at HL6; exact HL6
        refine g_aload_n (q := 123) C dX2_compose_122 rfl rfl ?_
        refine g_getfield (v := .ref 39) (q := 126) C fX2_51 dX2_compose_123 rfl HL6.1 rfl ?_
        refine g_iload_n (q := 127) C dX2_compose_126 rfl rfl ?_
        refine g_callVvp (q := 130) (As := [.int L.rd.ai]) C gyX4_add gvX4_add t_733 (c_X4_add_a HL6.2.2.2.1) dX2_compose_127 rfl (gRw.obj HL6.2.2.2.1) rfl rfl rfl (Nat.le_of_ble_eq_true rfl) (Nat.le_of_ble_eq_true rfl) (Nat.le_of_ble_eq_true rfl) (Nat.le_of_ble_eq_true rfl) (Nat.le_of_ble_eq_true rfl) rfl (fun h7 z7 => ?_)
        obtain ⟨HL7, fr7⟩ := gLine.bl HL6 z7
        replace HL7 : gLine h7 (L.row 0 [0, x, 1, L.rd.ai]) := by rw [gLn.row_row] at HL7; exact HL7
        refine g_goto (q := 141) C dX2_compose_130 (by decide) ?_
        refine g_aload_n (q := 142) C dX2_compose_141 rfl rfl ?_
        refine g_getfield (v := .ref 39) (q := 145) C fX2_51 dX2_compose_142 rfl HL7.1 rfl ?_
        refine g_aload_n (q := 146) C dX2_compose_145 rfl rfl ?_
        refine g_getfield (v := .ref 39) (q := 149) C fX2_51 dX2_compose_146 rfl HL7.1 rfl ?_
        refine g_iconst (v := 0) (q := 150) C dX2_compose_149 (by decide) rfl ?_
        refine g_callVi (x := (gxs [0, x, 1, L.rd.ai] [0, x, 1, L.rd.ai].length)) (q := 153) (As := [.int 0]) C gyX4_xor gvX4_xor t_741 (c_X4_xor_w HL7.2.2.2.1) dX2_compose_150 rfl (gRw.obj HL7.2.2.2.1) rfl rfl rfl (Nat.le_of_ble_eq_true rfl) (Nat.le_of_ble_eq_true rfl) (Nat.le_of_ble_eq_true rfl) (Nat.le_of_ble_eq_true rfl) (Nat.le_of_ble_eq_true rfl) rfl ?_
        refine g_callVvp (q := 156) (As := [.int ((gxs [0, x, 1, L.rd.ai] [0, x, 1, L.rd.ai].length))]) C gyX4_add gvX4_add t_733 (c_X4_add_a HL7.2.2.2.1) dX2_compose_153 rfl (gRw.obj HL7.2.2.2.1) rfl rfl rfl (Nat.le_of_ble_eq_true rfl) (Nat.le_of_ble_eq_true rfl) (Nat.le_of_ble_eq_true rfl) (Nat.le_of_ble_eq_true rfl) (Nat.le_of_ble_eq_true rfl) rfl (fun h8 z8 => ?_)
        obtain ⟨HL8, fr8⟩ := gLine.bl HL7 z8
        replace HL8 : gLine h8 (L.row 0 [0, x, 1, L.rd.ai, (gxs [0, x, 1, L.rd.ai] [0, x, 1, L.rd.ai].length)]) := by rw [gLn.row_row] at HL8; exact HL8
        have e : rX2_compose_r L x = (L.row 0 [0, x, 1, L.rd.ai, (gxs [0, x, 1, L.rd.ai] [0, x, 1, L.rd.ai].length)]) := ((if_pos c_4).trans ((if_pos c_51).trans (if_neg c_111)))
        exact E.2.1 _ _ _ _ _ dX2_compose_156 rfl (Nat.le_of_ble_eq_true rfl) (Nat.le_of_ble_eq_true rfl) ⟨rfl, by rw [e]; exact ⟨HL8, (gFL.trans (gFL.trans (gFL.trans (gFL.trans (gFL.trans fr1 fr2) fr3) fr6) fr7) fr8)⟩⟩
    ·
      refine g_aload_n (q := 55) C dX2_compose_54 rfl rfl ?_
      refine g_getfield (v := .ref 39) (q := 58) C fX2_51 dX2_compose_55 rfl HL3.1 rfl ?_
      refine g_aload_n (q := 59) C dX2_compose_58 rfl rfl ?_
      refine g_callVi (x := (gmax 0 (L.row 0 [0, x]).rd.pe)) (q := 62) (As := []) C gyX5_pendingSize gvX5_pendingSize t_734 (c_X5_pendingSize_s HL3.2.1) dX2_compose_59 rfl HL3.2.1.1 rfl rfl rfl (Nat.le_of_ble_eq_true rfl) (Nat.le_of_ble_eq_true rfl) (Nat.le_of_ble_eq_true rfl) (Nat.le_of_ble_eq_true rfl) (Nat.le_of_ble_eq_true rfl) rfl ?_
      refine g_callVvp (q := 65) (As := [.int ((gmax 0 (L.row 0 [0, x]).rd.pe))]) C gyX4_add gvX4_add t_733 (c_X4_add_a HL3.2.2.2.1) dX2_compose_62 rfl (gRw.obj HL3.2.2.2.1) rfl rfl rfl (Nat.le_of_ble_eq_true rfl) (Nat.le_of_ble_eq_true rfl) (Nat.le_of_ble_eq_true rfl) (Nat.le_of_ble_eq_true rfl) (Nat.le_of_ble_eq_true rfl) rfl (fun h9 z9 => ?_)
      obtain ⟨HL9, fr9⟩ := gLine.bl HL3 z9
      replace HL9 : gLine h9 (L.row 0 [0, x, (gmax 0 (L.row 0 [0, x]).rd.pe)]) := by rw [gLn.row_row] at HL9; exact HL9
      refine g_iconst (v := 0) (q := 66) C dX2_compose_65 (by decide) rfl ?_
      refine g_istore (q := 68) C dX2_compose_66 (Nat.le_of_ble_eq_true rfl) (by simp only [gset]; rfl) rfl ?_
      have e10 : (L.row 0 [0, x, (gmax 0 (L.row 0 [0, x]).rd.pe)]) = (L.row 0 (([0, x, gmax 0 L.rd.pe] ++ gCh L.rd 0).take 64)) := rfl
      rw [e10] at HL9
      have LL11 : ∀ d j : Nat, j + d = (gmax 0 L.rd.pe).toNatClampNeg → ∀ (h1 : List gA), gLine h1 (L.row 0 (([0, x, gmax 0 L.rd.pe] ++ gCh L.rd j).take 64)) → gFL hp h1 → gG X 68 [some (.ref 20), some (.ref 21), some (.int x), some (.int L.rd.ai), some (.int ((nI j)))] [] h1 0 0 := by
        intro d
        induction d with
        | zero =>
          intro j hj h1 HL1_ fr_
          obtain rfl : j = (gmax 0 L.rd.pe).toNatClampNeg := by omega
          refine g_iload (q := 70) C dX2_compose_68 rfl rfl ?_
          refine g_aload_n (q := 71) C dX2_compose_70 rfl rfl ?_
          refine g_callVi (x := (gmax 0 (L.row 0 (([0, x, gmax 0 L.rd.pe] ++ gCh L.rd (gmax 0 L.rd.pe).toNatClampNeg).take 64)).rd.pe)) (q := 74) (As := []) C gyX5_pendingSize gvX5_pendingSize t_734 (c_X5_pendingSize_s HL1_.2.1) dX2_compose_71 rfl HL1_.2.1.1 rfl rfl rfl (Nat.le_of_ble_eq_true rfl) (Nat.le_of_ble_eq_true rfl) (Nat.le_of_ble_eq_true rfl) (Nat.le_of_ble_eq_true rfl) (Nat.le_of_ble_eq_true rfl) rfl ?_
          refine g_icmp_ge_t (t := 104) C dX2_compose_74 (by decide) (gcge _) ?_
          refine g_goto (q := 141) C dX2_compose_104 (by decide) ?_
          refine g_aload_n (q := 142) C dX2_compose_141 rfl rfl ?_
          refine g_getfield (v := .ref 39) (q := 145) C fX2_51 dX2_compose_142 rfl HL1_.1 rfl ?_
          refine g_aload_n (q := 146) C dX2_compose_145 rfl rfl ?_
          refine g_getfield (v := .ref 39) (q := 149) C fX2_51 dX2_compose_146 rfl HL1_.1 rfl ?_
          refine g_iconst (v := 0) (q := 150) C dX2_compose_149 (by decide) rfl ?_
          refine g_callVi (x := (gxs (([0, x, gmax 0 L.rd.pe] ++ gCh L.rd (gmax 0 L.rd.pe).toNatClampNeg).take 64) (([0, x, gmax 0 L.rd.pe] ++ gCh L.rd (gmax 0 L.rd.pe).toNatClampNeg).take 64).length)) (q := 153) (As := [.int 0]) C gyX4_xor gvX4_xor t_741 (c_X4_xor_w HL1_.2.2.2.1) dX2_compose_150 rfl (gRw.obj HL1_.2.2.2.1) rfl rfl rfl (Nat.le_of_ble_eq_true rfl) (Nat.le_of_ble_eq_true rfl) (Nat.le_of_ble_eq_true rfl) (Nat.le_of_ble_eq_true rfl) (Nat.le_of_ble_eq_true rfl) rfl ?_
          refine g_callVvp (q := 156) (As := [.int ((gxs (([0, x, gmax 0 L.rd.pe] ++ gCh L.rd (gmax 0 L.rd.pe).toNatClampNeg).take 64) (([0, x, gmax 0 L.rd.pe] ++ gCh L.rd (gmax 0 L.rd.pe).toNatClampNeg).take 64).length))]) C gyX4_add gvX4_add t_733 (c_X4_add_a HL1_.2.2.2.1) dX2_compose_153 rfl (gRw.obj HL1_.2.2.2.1) rfl rfl rfl (Nat.le_of_ble_eq_true rfl) (Nat.le_of_ble_eq_true rfl) (Nat.le_of_ble_eq_true rfl) (Nat.le_of_ble_eq_true rfl) (Nat.le_of_ble_eq_true rfl) rfl (fun h12 z12 => ?_)
          obtain ⟨HL12, fr12⟩ := gLine.bl HL1_ z12
          replace HL12 : gLine h12 (L.row 0 (((([0, x, gmax 0 L.rd.pe] ++ gCh L.rd (gmax 0 L.rd.pe).toNatClampNeg).take 64) ++ [(gxs (([0, x, gmax 0 L.rd.pe] ++ gCh L.rd (gmax 0 L.rd.pe).toNatClampNeg).take 64) (([0, x, gmax 0 L.rd.pe] ++ gCh L.rd (gmax 0 L.rd.pe).toNatClampNeg).take 64).length)]).take 64)) := by rw [gLn.row_row] at HL12; exact HL12
          have e : rX2_compose_r L x = (L.row 0 (((([0, x, gmax 0 L.rd.pe] ++ gCh L.rd (gmax 0 L.rd.pe).toNatClampNeg).take 64) ++ [(gxs (([0, x, gmax 0 L.rd.pe] ++ gCh L.rd (gmax 0 L.rd.pe).toNatClampNeg).take 64) (([0, x, gmax 0 L.rd.pe] ++ gCh L.rd (gmax 0 L.rd.pe).toNatClampNeg).take 64).length)]).take 64)) := ((if_pos c_4).trans (if_neg c_51))
          exact E.2.1 _ _ _ _ _ dX2_compose_156 rfl (Nat.le_of_ble_eq_true rfl) (Nat.le_of_ble_eq_true rfl) ⟨rfl, by rw [e]; exact ⟨HL12, (gFL.trans fr_ fr12)⟩⟩
        | succ d ih =>
          intro j hj h1 HL1_ fr_
          refine g_iload (q := 70) C dX2_compose_68 rfl rfl ?_
          refine g_aload_n (q := 71) C dX2_compose_70 rfl rfl ?_
          refine g_callVi (x := (gmax 0 (L.row 0 (([0, x, gmax 0 L.rd.pe] ++ gCh L.rd j).take 64)).rd.pe)) (q := 74) (As := []) C gyX5_pendingSize gvX5_pendingSize t_734 (c_X5_pendingSize_s HL1_.2.1) dX2_compose_71 rfl HL1_.2.1.1 rfl rfl rfl (Nat.le_of_ble_eq_true rfl) (Nat.le_of_ble_eq_true rfl) (Nat.le_of_ble_eq_true rfl) (Nat.le_of_ble_eq_true rfl) (Nat.le_of_ble_eq_true rfl) rfl ?_
          refine g_icmp_ge_f (t := 104) (q := 77) C dX2_compose_74 (by decide) rfl (gclt (show j < (gmax 0 L.rd.pe).toNatClampNeg by omega)) ?_
          refine g_aload_n (q := 78) C dX2_compose_77 rfl rfl ?_
          refine g_getfield (v := .ref 39) (q := 81) C fX2_51 dX2_compose_78 rfl HL1_.1 rfl ?_
          refine g_aload_n (q := 82) C dX2_compose_81 rfl rfl ?_
          refine g_getfieldW (v := .ref 22) (q := 85) C fX2_102 dX2_compose_82 rfl HL1_.2.1.1 rfl ?_
          refine g_aload_n (q := 86) C dX2_compose_85 rfl rfl ?_
          refine g_getfield (v := .int ((L.row 0 (([0, x, gmax 0 L.rd.pe] ++ gCh L.rd j).take 64)).rd.th)) (q := 89) C fX2_105 dX2_compose_86 rfl HL1_.2.1.1 rfl ?_
          refine g_iload (q := 91) C dX2_compose_89 rfl rfl ?_
          refine g_iadd (q := 92) C dX2_compose_91 rfl ?_
          refine g_callVi (x := (gat (L.row 0 (([0, x, gmax 0 L.rd.pe] ++ gCh L.rd j).take 64)).rd.out ((L.row 0 (([0, x, gmax 0 L.rd.pe] ++ gCh L.rd j).take 64)).rd.th + (nI j)))) (q := 95) (As := [.int (((L.row 0 (([0, x, gmax 0 L.rd.pe] ++ gCh L.rd j).take 64)).rd.th + (nI j)))]) C gyX4_at gvX4_at t_644 (c_X4_at_w HL1_.2.1.2.1) dX2_compose_92 rfl (gRw.obj HL1_.2.1.2.1) rfl rfl rfl (Nat.le_of_ble_eq_true rfl) (Nat.le_of_ble_eq_true rfl) (Nat.le_of_ble_eq_true rfl) (Nat.le_of_ble_eq_true rfl) (Nat.le_of_ble_eq_true rfl) rfl ?_
          refine g_callVvp (q := 98) (As := [.int ((gat (L.row 0 (([0, x, gmax 0 L.rd.pe] ++ gCh L.rd j).take 64)).rd.out ((L.row 0 (([0, x, gmax 0 L.rd.pe] ++ gCh L.rd j).take 64)).rd.th + (nI j))))]) C gyX4_add gvX4_add t_733 (c_X4_add_a HL1_.2.2.2.1) dX2_compose_95 rfl (gRw.obj HL1_.2.2.2.1) rfl rfl rfl (Nat.le_of_ble_eq_true rfl) (Nat.le_of_ble_eq_true rfl) (Nat.le_of_ble_eq_true rfl) (Nat.le_of_ble_eq_true rfl) (Nat.le_of_ble_eq_true rfl) rfl (fun h13 z13 => ?_)
          obtain ⟨HL13, fr13⟩ := gLine.bl HL1_ z13
          replace HL13 : gLine h13 (L.row 0 (((([0, x, gmax 0 L.rd.pe] ++ gCh L.rd j).take 64) ++ [(gat (L.row 0 (([0, x, gmax 0 L.rd.pe] ++ gCh L.rd j).take 64)).rd.out ((L.row 0 (([0, x, gmax 0 L.rd.pe] ++ gCh L.rd j).take 64)).rd.th + (nI j)))]).take 64)) := by rw [gLn.row_row] at HL13; exact HL13
          refine g_iinc (v := (nI (j + 1))) (q := 101) C dX2_compose_98 rfl (nI_1 j) (by simp only [gset]; rfl) rfl ?_
          replace HL13 : gLine h13 (L.row 0 (([0, x, gmax 0 L.rd.pe] ++ gCh L.rd (j + 1)).take 64)) := by rw [← gCh_s]; exact HL13
          refine g_goto (q := 68) C dX2_compose_101 (by decide) ?_
          exact ih (j + 1) (by omega) h13 HL13 (gFL.trans fr_ fr13)
      exact LL11 ((gmax 0 L.rd.pe).toNatClampNeg - 0) 0 (by omega) h9 HL9 (gFL.trans (gFL.trans (gFL.trans fr1 fr2) fr3) fr9)
      
  ·
    refine g_aload_n (q := 8) C dX2_compose_7 rfl rfl ?_
    refine g_getfield (v := .ref 41) (q := 11) C fX2_55 dX2_compose_8 rfl HL.1 rfl ?_
    refine g_iconst (v := 3) (q := 12) C dX2_compose_11 (by decide) rfl ?_
    refine g_callVi (x := (gat L.ca 3)) (q := 15) (As := [.int 3]) C gyX4_at gvX4_at t_644 (c_X4_at_w HL.2.2.2.2) dX2_compose_12 rfl (gRw.obj HL.2.2.2.2) rfl rfl rfl (Nat.le_of_ble_eq_true rfl) (Nat.le_of_ble_eq_true rfl) (Nat.le_of_ble_eq_true rfl) (Nat.le_of_ble_eq_true rfl) (Nat.le_of_ble_eq_true rfl) rfl ?_
    refine g_goto (q := 22) C dX2_compose_15 (by decide) ?_
    refine g_istore_n (q := 23) C dX2_compose_22 (Nat.le_of_ble_eq_true rfl) (by simp only [gset]; rfl) rfl ?_
    refine g_aload_n (q := 24) C dX2_compose_23 rfl rfl ?_
    refine g_getfield (v := .ref 39) (q := 27) C fX2_51 dX2_compose_24 rfl HL.1 rfl ?_
    refine g_iconst (v := 0) (q := 28) C dX2_compose_27 (by decide) rfl ?_
    refine g_callVvp (q := 31) (As := [.int 0]) C gyX4_keep gvX4_keep t_507 (c_X4_keep0 HL.2.2.2.1) dX2_compose_28 rfl (gRw.obj HL.2.2.2.1) rfl rfl rfl (Nat.le_of_ble_eq_true rfl) (Nat.le_of_ble_eq_true rfl) (Nat.le_of_ble_eq_true rfl) (Nat.le_of_ble_eq_true rfl) (Nat.le_of_ble_eq_true rfl) rfl (fun h14 z14 => ?_)
    obtain ⟨HL14, fr14⟩ := gLine.bl HL z14
    replace HL14 : gLine h14 (L.row 0 []) := HL14
    refine g_aload_n (q := 32) C dX2_compose_31 rfl rfl ?_
    refine g_getfield (v := .ref 39) (q := 35) C fX2_51 dX2_compose_32 rfl HL14.1 rfl ?_
    refine g_iconst (v := 0) (q := 36) C dX2_compose_35 (by decide) rfl ?_
    refine g_callVvp (q := 39) (As := [.int 0]) C gyX4_add gvX4_add t_733 (c_X4_add_a HL14.2.2.2.1) dX2_compose_36 rfl (gRw.obj HL14.2.2.2.1) rfl rfl rfl (Nat.le_of_ble_eq_true rfl) (Nat.le_of_ble_eq_true rfl) (Nat.le_of_ble_eq_true rfl) (Nat.le_of_ble_eq_true rfl) (Nat.le_of_ble_eq_true rfl) rfl (fun h15 z15 => ?_)
    obtain ⟨HL15, fr15⟩ := gLine.bl HL14 z15
    replace HL15 : gLine h15 (L.row 0 [0]) := by rw [gLn.row_row] at HL15; exact HL15
    refine g_aload_n (q := 40) C dX2_compose_39 rfl rfl ?_
    refine g_getfield (v := .ref 39) (q := 43) C fX2_51 dX2_compose_40 rfl HL15.1 rfl ?_
    refine g_iload_n (q := 44) C dX2_compose_43 rfl rfl ?_
    refine g_callVvp (q := 47) (As := [.int x]) C gyX4_add gvX4_add t_733 (c_X4_add_a HL15.2.2.2.1) dX2_compose_44 rfl (gRw.obj HL15.2.2.2.1) rfl rfl rfl (Nat.le_of_ble_eq_true rfl) (Nat.le_of_ble_eq_true rfl) (Nat.le_of_ble_eq_true rfl) (Nat.le_of_ble_eq_true rfl) (Nat.le_of_ble_eq_true rfl) rfl (fun h16 z16 => ?_)
    obtain ⟨HL16, fr16⟩ := gLine.bl HL15 z16
    replace HL16 : gLine h16 (L.row 0 [0, x]) := by rw [gLn.row_row] at HL16; exact HL16
    refine g_iload_n (q := 48) C dX2_compose_47 rfl rfl ?_
    refine g_sipush (v := 128) (q := 51) C dX2_compose_48 (by decide) rfl ?_
    refine g_icmp_ge_t (t := 107) C dX2_compose_51 (by decide) (gi224 c_4) ?_
    refine g_iload_n (q := 108) C dX2_compose_107 rfl rfl ?_
    refine g_callSi (x := (rX2_hasInf x)) (q := 111) (As := [.int x]) C gyX2_hasInf t_739 t_738 (c_X2_hasInf_l) dX2_compose_108 rfl rfl rfl (Nat.le_of_ble_eq_true rfl) (Nat.le_of_ble_eq_true rfl) (Nat.le_of_ble_eq_true rfl) (Nat.le_of_ble_eq_true rfl) (Nat.le_of_ble_eq_true rfl) rfl ?_
    refine g_if_eq (t := 133) (q := 114) C dX2_compose_111 (by decide) rfl (fun c_111 => ?_) (fun c_111 => ?_)
    ·
      refine g_aload_n (q := 134) C dX2_compose_133 rfl rfl ?_
      refine g_getfield (v := .ref 39) (q := 137) C fX2_51 dX2_compose_134 rfl HL16.1 rfl ?_
      refine g_iconst (v := 0) (q := 138) C dX2_compose_137 (by decide) rfl ?_
      refine g_callVvp (q := 141) (As := [.int 0]) C gyX4_add gvX4_add t_733 (c_X4_add_a HL16.2.2.2.1) dX2_compose_138 rfl (gRw.obj HL16.2.2.2.1) rfl rfl rfl (Nat.le_of_ble_eq_true rfl) (Nat.le_of_ble_eq_true rfl) (Nat.le_of_ble_eq_true rfl) (Nat.le_of_ble_eq_true rfl) (Nat.le_of_ble_eq_true rfl) rfl (fun h17 z17 => ?_)
      obtain ⟨HL17, fr17⟩ := gLine.bl HL16 z17
      replace HL17 : gLine h17 (L.row 0 [0, x, 0]) := by rw [gLn.row_row] at HL17; exact HL17
      refine g_aload_n (q := 142) C dX2_compose_141 rfl rfl ?_
      refine g_getfield (v := .ref 39) (q := 145) C fX2_51 dX2_compose_142 rfl HL17.1 rfl ?_
      refine g_aload_n (q := 146) C dX2_compose_145 rfl rfl ?_
      refine g_getfield (v := .ref 39) (q := 149) C fX2_51 dX2_compose_146 rfl HL17.1 rfl ?_
      refine g_iconst (v := 0) (q := 150) C dX2_compose_149 (by decide) rfl ?_
      refine g_callVi (x := (gxs [0, x, 0] [0, x, 0].length)) (q := 153) (As := [.int 0]) C gyX4_xor gvX4_xor t_741 (c_X4_xor_w HL17.2.2.2.1) dX2_compose_150 rfl (gRw.obj HL17.2.2.2.1) rfl rfl rfl (Nat.le_of_ble_eq_true rfl) (Nat.le_of_ble_eq_true rfl) (Nat.le_of_ble_eq_true rfl) (Nat.le_of_ble_eq_true rfl) (Nat.le_of_ble_eq_true rfl) rfl ?_
      refine g_callVvp (q := 156) (As := [.int ((gxs [0, x, 0] [0, x, 0].length))]) C gyX4_add gvX4_add t_733 (c_X4_add_a HL17.2.2.2.1) dX2_compose_153 rfl (gRw.obj HL17.2.2.2.1) rfl rfl rfl (Nat.le_of_ble_eq_true rfl) (Nat.le_of_ble_eq_true rfl) (Nat.le_of_ble_eq_true rfl) (Nat.le_of_ble_eq_true rfl) (Nat.le_of_ble_eq_true rfl) rfl (fun h18 z18 => ?_)
      obtain ⟨HL18, fr18⟩ := gLine.bl HL17 z18
      replace HL18 : gLine h18 (L.row 0 [0, x, 0, (gxs [0, x, 0] [0, x, 0].length)]) := by rw [gLn.row_row] at HL18; exact HL18
      have e : rX2_compose_r L x = (L.row 0 [0, x, 0, (gxs [0, x, 0] [0, x, 0].length)]) := ((if_neg c_4).trans (if_pos c_111))
      exact E.2.1 _ _ _ _ _ dX2_compose_156 rfl (Nat.le_of_ble_eq_true rfl) (Nat.le_of_ble_eq_true rfl) ⟨rfl, by rw [e]; exact ⟨HL18, (gFL.trans (gFL.trans (gFL.trans (gFL.trans fr14 fr15) fr16) fr17) fr18)⟩⟩
    ·
      refine g_aload_n (q := 115) C dX2_compose_114 rfl rfl ?_
      refine g_getfield (v := .ref 39) (q := 118) C fX2_51 dX2_compose_115 rfl HL16.1 rfl ?_
      refine g_iconst (v := 1) (q := 119) C dX2_compose_118 (by decide) rfl ?_
      refine g_callVvp (q := 122) (As := [.int 1]) C gyX4_add gvX4_add t_733 (c_X4_add_a HL16.2.2.2.1) dX2_compose_119 rfl (gRw.obj HL16.2.2.2.1) rfl rfl rfl (Nat.le_of_ble_eq_true rfl) (Nat.le_of_ble_eq_true rfl) (Nat.le_of_ble_eq_true rfl) (Nat.le_of_ble_eq_true rfl) (Nat.le_of_ble_eq_true rfl) rfl (fun h19 z19 => ?_)
      obtain ⟨HL19, fr19⟩ := gLine.bl HL16 z19
      replace HL19 : gLine h19 (L.row 0 [0, x, 1]) := by rw [gLn.row_row] at HL19; exact HL19
      refine g_aload_n (q := 123) C dX2_compose_122 rfl rfl ?_
      refine g_getfield (v := .ref 39) (q := 126) C fX2_51 dX2_compose_123 rfl HL19.1 rfl ?_
      refine g_iload_n (q := 127) C dX2_compose_126 rfl rfl ?_
      refine g_callVvp (q := 130) (As := [.int ((gat L.ca 3))]) C gyX4_add gvX4_add t_733 (c_X4_add_a HL19.2.2.2.1) dX2_compose_127 rfl (gRw.obj HL19.2.2.2.1) rfl rfl rfl (Nat.le_of_ble_eq_true rfl) (Nat.le_of_ble_eq_true rfl) (Nat.le_of_ble_eq_true rfl) (Nat.le_of_ble_eq_true rfl) (Nat.le_of_ble_eq_true rfl) rfl (fun h20 z20 => ?_)
      obtain ⟨HL20, fr20⟩ := gLine.bl HL19 z20
      replace HL20 : gLine h20 (L.row 0 [0, x, 1, (gat L.ca 3)]) := by rw [gLn.row_row] at HL20; exact HL20
      refine g_goto (q := 141) C dX2_compose_130 (by decide) ?_
      refine g_aload_n (q := 142) C dX2_compose_141 rfl rfl ?_
      refine g_getfield (v := .ref 39) (q := 145) C fX2_51 dX2_compose_142 rfl HL20.1 rfl ?_
      refine g_aload_n (q := 146) C dX2_compose_145 rfl rfl ?_
      refine g_getfield (v := .ref 39) (q := 149) C fX2_51 dX2_compose_146 rfl HL20.1 rfl ?_
      refine g_iconst (v := 0) (q := 150) C dX2_compose_149 (by decide) rfl ?_
      refine g_callVi (x := (gxs [0, x, 1, (gat L.ca 3)] [0, x, 1, (gat L.ca 3)].length)) (q := 153) (As := [.int 0]) C gyX4_xor gvX4_xor t_741 (c_X4_xor_w HL20.2.2.2.1) dX2_compose_150 rfl (gRw.obj HL20.2.2.2.1) rfl rfl rfl (Nat.le_of_ble_eq_true rfl) (Nat.le_of_ble_eq_true rfl) (Nat.le_of_ble_eq_true rfl) (Nat.le_of_ble_eq_true rfl) (Nat.le_of_ble_eq_true rfl) rfl ?_
      refine g_callVvp (q := 156) (As := [.int ((gxs [0, x, 1, (gat L.ca 3)] [0, x, 1, (gat L.ca 3)].length))]) C gyX4_add gvX4_add t_733 (c_X4_add_a HL20.2.2.2.1) dX2_compose_153 rfl (gRw.obj HL20.2.2.2.1) rfl rfl rfl (Nat.le_of_ble_eq_true rfl) (Nat.le_of_ble_eq_true rfl) (Nat.le_of_ble_eq_true rfl) (Nat.le_of_ble_eq_true rfl) (Nat.le_of_ble_eq_true rfl) rfl (fun h21 z21 => ?_)
      obtain ⟨HL21, fr21⟩ := gLine.bl HL20 z21
      replace HL21 : gLine h21 (L.row 0 [0, x, 1, (gat L.ca 3), (gxs [0, x, 1, (gat L.ca 3)] [0, x, 1, (gat L.ca 3)].length)]) := by rw [gLn.row_row] at HL21; exact HL21
      have e : rX2_compose_r L x = (L.row 0 [0, x, 1, (gat L.ca 3), (gxs [0, x, 1, (gat L.ca 3)] [0, x, 1, (gat L.ca 3)].length)]) := ((if_neg c_4).trans (if_neg c_111))
      exact E.2.1 _ _ _ _ _ dX2_compose_156 rfl (Nat.le_of_ble_eq_true rfl) (Nat.le_of_ble_eq_true rfl) ⟨rfl, by rw [e]; exact ⟨HL21, (gFL.trans (gFL.trans (gFL.trans (gFL.trans (gFL.trans fr14 fr15) fr16) fr19) fr20) fr21)⟩⟩
def rX2_compose_c (L : gLn) (x : Int32) : gLn := (if x < 224 then (if 128 ≤ x then (if (rX2_hasInf x) = 0 then (L.row 0 [0, x, 0, (gxs [0, x, 0] [0, x, 0].length)]) else (L.row 0 [0, x, 1, L.cd.ai, (gxs [0, x, 1, L.cd.ai] [0, x, 1, L.cd.ai].length)])) else (L.row 0 (((([0, x, gmax 0 L.cd.pe] ++ gCh L.cd (gmax 0 L.cd.pe).toNatClampNeg).take 64) ++ [(gxs (([0, x, gmax 0 L.cd.pe] ++ gCh L.cd (gmax 0 L.cd.pe).toNatClampNeg).take 64) (([0, x, gmax 0 L.cd.pe] ++ gCh L.cd (gmax 0 L.cd.pe).toNatClampNeg).take 64).length)]).take 64))) else (if (rX2_hasInf x) = 0 then (L.row 0 [0, x, 0, (gxs [0, x, 0] [0, x, 0].length)]) else (L.row 0 [0, x, 1, (gat L.ca 3), (gxs [0, x, 1, (gat L.ca 3)] [0, x, 1, (gat L.ca 3)].length)])))
set_option maxRecDepth 100000 in
set_option maxHeartbeats 4000000 in
theorem c_X2_compose_c_l {hp : List gA} {L : gLn} {x : Int32}  (HL : gLine hp L)  : gM yX2_compose cX2_compose 5 (none) 3 103 [.ref 20, .ref 28, .int x] (hp) (0) (0) (fun v h => v = none ∧ (gLine h (rX2_compose_c L x) ∧ gFL hp h)) := by
  refine gM_of (ls0 := [some (.ref 20), some (.ref 28), some (.int x), none, none]) (by decide +kernel) (Nat.le_of_ble_eq_true rfl) rfl fun X C E => ?_
  refine g_iload_n (q := 1) C dX2_compose_0 rfl rfl ?_
  refine g_sipush (v := 224) (q := 4) C dX2_compose_1 (by decide) rfl ?_
  refine g_icmp_lt (t := 18) (q := 7) C dX2_compose_4 (by decide) rfl (fun c_4 => ?_) (fun c_4 => ?_)
  ·
    refine g_aload_n (q := 19) C dX2_compose_18 rfl rfl ?_
    refine g_getfield (v := .int L.cd.ai) (q := 22) C fX2_194 dX2_compose_19 rfl HL.2.2.1.1 rfl ?_
    refine g_istore_n (q := 23) C dX2_compose_22 (Nat.le_of_ble_eq_true rfl) (by simp only [gset]; rfl) rfl ?_
    refine g_aload_n (q := 24) C dX2_compose_23 rfl rfl ?_
    refine g_getfield (v := .ref 39) (q := 27) C fX2_51 dX2_compose_24 rfl HL.1 rfl ?_
    refine g_iconst (v := 0) (q := 28) C dX2_compose_27 (by decide) rfl ?_
    refine g_callVvp (q := 31) (As := [.int 0]) C gyX4_keep gvX4_keep t_507 (c_X4_keep0 HL.2.2.2.1) dX2_compose_28 rfl (gRw.obj HL.2.2.2.1) rfl rfl rfl (Nat.le_of_ble_eq_true rfl) (Nat.le_of_ble_eq_true rfl) (Nat.le_of_ble_eq_true rfl) (Nat.le_of_ble_eq_true rfl) (Nat.le_of_ble_eq_true rfl) rfl (fun h1 z1 => ?_)
    obtain ⟨HL1, fr1⟩ := gLine.bl HL z1
    replace HL1 : gLine h1 (L.row 0 []) := HL1
    refine g_aload_n (q := 32) C dX2_compose_31 rfl rfl ?_
    refine g_getfield (v := .ref 39) (q := 35) C fX2_51 dX2_compose_32 rfl HL1.1 rfl ?_
    refine g_iconst (v := 0) (q := 36) C dX2_compose_35 (by decide) rfl ?_
    refine g_callVvp (q := 39) (As := [.int 0]) C gyX4_add gvX4_add t_733 (c_X4_add_a HL1.2.2.2.1) dX2_compose_36 rfl (gRw.obj HL1.2.2.2.1) rfl rfl rfl (Nat.le_of_ble_eq_true rfl) (Nat.le_of_ble_eq_true rfl) (Nat.le_of_ble_eq_true rfl) (Nat.le_of_ble_eq_true rfl) (Nat.le_of_ble_eq_true rfl) rfl (fun h2 z2 => ?_)
    obtain ⟨HL2, fr2⟩ := gLine.bl HL1 z2
    replace HL2 : gLine h2 (L.row 0 [0]) := by rw [gLn.row_row] at HL2; exact HL2
    refine g_aload_n (q := 40) C dX2_compose_39 rfl rfl ?_
    refine g_getfield (v := .ref 39) (q := 43) C fX2_51 dX2_compose_40 rfl HL2.1 rfl ?_
    refine g_iload_n (q := 44) C dX2_compose_43 rfl rfl ?_
    refine g_callVvp (q := 47) (As := [.int x]) C gyX4_add gvX4_add t_733 (c_X4_add_a HL2.2.2.2.1) dX2_compose_44 rfl (gRw.obj HL2.2.2.2.1) rfl rfl rfl (Nat.le_of_ble_eq_true rfl) (Nat.le_of_ble_eq_true rfl) (Nat.le_of_ble_eq_true rfl) (Nat.le_of_ble_eq_true rfl) (Nat.le_of_ble_eq_true rfl) rfl (fun h3 z3 => ?_)
    obtain ⟨HL3, fr3⟩ := gLine.bl HL2 z3
    replace HL3 : gLine h3 (L.row 0 [0, x]) := by rw [gLn.row_row] at HL3; exact HL3
    refine g_iload_n (q := 48) C dX2_compose_47 rfl rfl ?_
    refine g_sipush (v := 128) (q := 51) C dX2_compose_48 (by decide) rfl ?_
    refine g_icmp_ge (t := 107) (q := 54) C dX2_compose_51 (by decide) rfl (fun c_51 => ?_) (fun c_51 => ?_)
    ·
      refine g_iload_n (q := 108) C dX2_compose_107 rfl rfl ?_
      refine g_callSi (x := (rX2_hasInf x)) (q := 111) (As := [.int x]) C gyX2_hasInf t_739 t_738 (c_X2_hasInf_l) dX2_compose_108 rfl rfl rfl (Nat.le_of_ble_eq_true rfl) (Nat.le_of_ble_eq_true rfl) (Nat.le_of_ble_eq_true rfl) (Nat.le_of_ble_eq_true rfl) (Nat.le_of_ble_eq_true rfl) rfl ?_
      refine g_if_eq (t := 133) (q := 114) C dX2_compose_111 (by decide) rfl (fun c_111 => ?_) (fun c_111 => ?_)
      ·
        refine g_aload_n (q := 134) C dX2_compose_133 rfl rfl ?_
        refine g_getfield (v := .ref 39) (q := 137) C fX2_51 dX2_compose_134 rfl HL3.1 rfl ?_
        refine g_iconst (v := 0) (q := 138) C dX2_compose_137 (by decide) rfl ?_
        refine g_callVvp (q := 141) (As := [.int 0]) C gyX4_add gvX4_add t_733 (c_X4_add_a HL3.2.2.2.1) dX2_compose_138 rfl (gRw.obj HL3.2.2.2.1) rfl rfl rfl (Nat.le_of_ble_eq_true rfl) (Nat.le_of_ble_eq_true rfl) (Nat.le_of_ble_eq_true rfl) (Nat.le_of_ble_eq_true rfl) (Nat.le_of_ble_eq_true rfl) rfl (fun h4 z4 => ?_)
        obtain ⟨HL4, fr4⟩ := gLine.bl HL3 z4
        replace HL4 : gLine h4 (L.row 0 [0, x, 0]) := by rw [gLn.row_row] at HL4; exact HL4
        refine g_aload_n (q := 142) C dX2_compose_141 rfl rfl ?_
        refine g_getfield (v := .ref 39) (q := 145) C fX2_51 dX2_compose_142 rfl HL4.1 rfl ?_
        refine g_aload_n (q := 146) C dX2_compose_145 rfl rfl ?_
        refine g_getfield (v := .ref 39) (q := 149) C fX2_51 dX2_compose_146 rfl HL4.1 rfl ?_
        refine g_iconst (v := 0) (q := 150) C dX2_compose_149 (by decide) rfl ?_
        refine g_callVi (x := (gxs [0, x, 0] [0, x, 0].length)) (q := 153) (As := [.int 0]) C gyX4_xor gvX4_xor t_741 (c_X4_xor_w HL4.2.2.2.1) dX2_compose_150 rfl (gRw.obj HL4.2.2.2.1) rfl rfl rfl (Nat.le_of_ble_eq_true rfl) (Nat.le_of_ble_eq_true rfl) (Nat.le_of_ble_eq_true rfl) (Nat.le_of_ble_eq_true rfl) (Nat.le_of_ble_eq_true rfl) rfl ?_
        refine g_callVvp (q := 156) (As := [.int ((gxs [0, x, 0] [0, x, 0].length))]) C gyX4_add gvX4_add t_733 (c_X4_add_a HL4.2.2.2.1) dX2_compose_153 rfl (gRw.obj HL4.2.2.2.1) rfl rfl rfl (Nat.le_of_ble_eq_true rfl) (Nat.le_of_ble_eq_true rfl) (Nat.le_of_ble_eq_true rfl) (Nat.le_of_ble_eq_true rfl) (Nat.le_of_ble_eq_true rfl) rfl (fun h5 z5 => ?_)
        obtain ⟨HL5, fr5⟩ := gLine.bl HL4 z5
        replace HL5 : gLine h5 (L.row 0 [0, x, 0, (gxs [0, x, 0] [0, x, 0].length)]) := by rw [gLn.row_row] at HL5; exact HL5
        have e : rX2_compose_c L x = (L.row 0 [0, x, 0, (gxs [0, x, 0] [0, x, 0].length)]) := ((if_pos c_4).trans ((if_pos c_51).trans (if_pos c_111)))
        exact E.2.1 _ _ _ _ _ dX2_compose_156 rfl (Nat.le_of_ble_eq_true rfl) (Nat.le_of_ble_eq_true rfl) ⟨rfl, by rw [e]; exact ⟨HL5, (gFL.trans (gFL.trans (gFL.trans (gFL.trans fr1 fr2) fr3) fr4) fr5)⟩⟩
      ·
        refine g_aload_n (q := 115) C dX2_compose_114 rfl rfl ?_
        refine g_getfield (v := .ref 39) (q := 118) C fX2_51 dX2_compose_115 rfl HL3.1 rfl ?_
        refine g_iconst (v := 1) (q := 119) C dX2_compose_118 (by decide) rfl ?_
        refine g_callVvp (q := 122) (As := [.int 1]) C gyX4_add gvX4_add t_733 (c_X4_add_a HL3.2.2.2.1) dX2_compose_119 rfl (gRw.obj HL3.2.2.2.1) rfl rfl rfl (Nat.le_of_ble_eq_true rfl) (Nat.le_of_ble_eq_true rfl) (Nat.le_of_ble_eq_true rfl) (Nat.le_of_ble_eq_true rfl) (Nat.le_of_ble_eq_true rfl) rfl (fun h6 z6 => ?_)
        obtain ⟨HL6, fr6⟩ := gLine.bl HL3 z6
        replace HL6 : gLine h6 (L.row 0 [0, x, 1]) := by rw [gLn.row_row] at HL6; exact HL6
        refine g_aload_n (q := 123) C dX2_compose_122 rfl rfl ?_
        refine g_getfield (v := .ref 39) (q := 126) C fX2_51 dX2_compose_123 rfl HL6.1 rfl ?_
        refine g_iload_n (q := 127) C dX2_compose_126 rfl rfl ?_
        refine g_callVvp (q := 130) (As := [.int L.cd.ai]) C gyX4_add gvX4_add t_733 (c_X4_add_a HL6.2.2.2.1) dX2_compose_127 rfl (gRw.obj HL6.2.2.2.1) rfl rfl rfl (Nat.le_of_ble_eq_true rfl) (Nat.le_of_ble_eq_true rfl) (Nat.le_of_ble_eq_true rfl) (Nat.le_of_ble_eq_true rfl) (Nat.le_of_ble_eq_true rfl) rfl (fun h7 z7 => ?_)
        obtain ⟨HL7, fr7⟩ := gLine.bl HL6 z7
        replace HL7 : gLine h7 (L.row 0 [0, x, 1, L.cd.ai]) := by rw [gLn.row_row] at HL7; exact HL7
        refine g_goto (q := 141) C dX2_compose_130 (by decide) ?_
        refine g_aload_n (q := 142) C dX2_compose_141 rfl rfl ?_
        refine g_getfield (v := .ref 39) (q := 145) C fX2_51 dX2_compose_142 rfl HL7.1 rfl ?_
        refine g_aload_n (q := 146) C dX2_compose_145 rfl rfl ?_
        refine g_getfield (v := .ref 39) (q := 149) C fX2_51 dX2_compose_146 rfl HL7.1 rfl ?_
        refine g_iconst (v := 0) (q := 150) C dX2_compose_149 (by decide) rfl ?_
        refine g_callVi (x := (gxs [0, x, 1, L.cd.ai] [0, x, 1, L.cd.ai].length)) (q := 153) (As := [.int 0]) C gyX4_xor gvX4_xor t_741 (c_X4_xor_w HL7.2.2.2.1) dX2_compose_150 rfl (gRw.obj HL7.2.2.2.1) rfl rfl rfl (Nat.le_of_ble_eq_true rfl) (Nat.le_of_ble_eq_true rfl) (Nat.le_of_ble_eq_true rfl) (Nat.le_of_ble_eq_true rfl) (Nat.le_of_ble_eq_true rfl) rfl ?_
        refine g_callVvp (q := 156) (As := [.int ((gxs [0, x, 1, L.cd.ai] [0, x, 1, L.cd.ai].length))]) C gyX4_add gvX4_add t_733 (c_X4_add_a HL7.2.2.2.1) dX2_compose_153 rfl (gRw.obj HL7.2.2.2.1) rfl rfl rfl (Nat.le_of_ble_eq_true rfl) (Nat.le_of_ble_eq_true rfl) (Nat.le_of_ble_eq_true rfl) (Nat.le_of_ble_eq_true rfl) (Nat.le_of_ble_eq_true rfl) rfl (fun h8 z8 => ?_)
        obtain ⟨HL8, fr8⟩ := gLine.bl HL7 z8
        replace HL8 : gLine h8 (L.row 0 [0, x, 1, L.cd.ai, (gxs [0, x, 1, L.cd.ai] [0, x, 1, L.cd.ai].length)]) := by rw [gLn.row_row] at HL8; exact HL8
        have e : rX2_compose_c L x = (L.row 0 [0, x, 1, L.cd.ai, (gxs [0, x, 1, L.cd.ai] [0, x, 1, L.cd.ai].length)]) := ((if_pos c_4).trans ((if_pos c_51).trans (if_neg c_111)))
        exact E.2.1 _ _ _ _ _ dX2_compose_156 rfl (Nat.le_of_ble_eq_true rfl) (Nat.le_of_ble_eq_true rfl) ⟨rfl, by rw [e]; exact ⟨HL8, (gFL.trans (gFL.trans (gFL.trans (gFL.trans (gFL.trans fr1 fr2) fr3) fr6) fr7) fr8)⟩⟩
    ·
      refine g_aload_n (q := 55) C dX2_compose_54 rfl rfl ?_
      refine g_getfield (v := .ref 39) (q := 58) C fX2_51 dX2_compose_55 rfl HL3.1 rfl ?_
      refine g_aload_n (q := 59) C dX2_compose_58 rfl rfl ?_
      refine g_callVi (x := (gmax 0 (L.row 0 [0, x]).cd.pe)) (q := 62) (As := []) C gyX5_pendingSize gvX5_pendingSize t_734 (c_X5_pendingSize_s HL3.2.2.1) dX2_compose_59 rfl HL3.2.2.1.1 rfl rfl rfl (Nat.le_of_ble_eq_true rfl) (Nat.le_of_ble_eq_true rfl) (Nat.le_of_ble_eq_true rfl) (Nat.le_of_ble_eq_true rfl) (Nat.le_of_ble_eq_true rfl) rfl ?_
      refine g_callVvp (q := 65) (As := [.int ((gmax 0 (L.row 0 [0, x]).cd.pe))]) C gyX4_add gvX4_add t_733 (c_X4_add_a HL3.2.2.2.1) dX2_compose_62 rfl (gRw.obj HL3.2.2.2.1) rfl rfl rfl (Nat.le_of_ble_eq_true rfl) (Nat.le_of_ble_eq_true rfl) (Nat.le_of_ble_eq_true rfl) (Nat.le_of_ble_eq_true rfl) (Nat.le_of_ble_eq_true rfl) rfl (fun h9 z9 => ?_)
      obtain ⟨HL9, fr9⟩ := gLine.bl HL3 z9
      replace HL9 : gLine h9 (L.row 0 [0, x, (gmax 0 (L.row 0 [0, x]).cd.pe)]) := by rw [gLn.row_row] at HL9; exact HL9
      refine g_iconst (v := 0) (q := 66) C dX2_compose_65 (by decide) rfl ?_
      refine g_istore (q := 68) C dX2_compose_66 (Nat.le_of_ble_eq_true rfl) (by simp only [gset]; rfl) rfl ?_
      have e10 : (L.row 0 [0, x, (gmax 0 (L.row 0 [0, x]).cd.pe)]) = (L.row 0 (([0, x, gmax 0 L.cd.pe] ++ gCh L.cd 0).take 64)) := rfl
      rw [e10] at HL9
      have LL11 : ∀ d j : Nat, j + d = (gmax 0 L.cd.pe).toNatClampNeg → ∀ (h1 : List gA), gLine h1 (L.row 0 (([0, x, gmax 0 L.cd.pe] ++ gCh L.cd j).take 64)) → gFL hp h1 → gG X 68 [some (.ref 20), some (.ref 28), some (.int x), some (.int L.cd.ai), some (.int ((nI j)))] [] h1 0 0 := by
        intro d
        induction d with
        | zero =>
          intro j hj h1 HL1_ fr_
          obtain rfl : j = (gmax 0 L.cd.pe).toNatClampNeg := by omega
          refine g_iload (q := 70) C dX2_compose_68 rfl rfl ?_
          refine g_aload_n (q := 71) C dX2_compose_70 rfl rfl ?_
          refine g_callVi (x := (gmax 0 (L.row 0 (([0, x, gmax 0 L.cd.pe] ++ gCh L.cd (gmax 0 L.cd.pe).toNatClampNeg).take 64)).cd.pe)) (q := 74) (As := []) C gyX5_pendingSize gvX5_pendingSize t_734 (c_X5_pendingSize_s HL1_.2.2.1) dX2_compose_71 rfl HL1_.2.2.1.1 rfl rfl rfl (Nat.le_of_ble_eq_true rfl) (Nat.le_of_ble_eq_true rfl) (Nat.le_of_ble_eq_true rfl) (Nat.le_of_ble_eq_true rfl) (Nat.le_of_ble_eq_true rfl) rfl ?_
          refine g_icmp_ge_t (t := 104) C dX2_compose_74 (by decide) (gcge _) ?_
          refine g_goto (q := 141) C dX2_compose_104 (by decide) ?_
          refine g_aload_n (q := 142) C dX2_compose_141 rfl rfl ?_
          refine g_getfield (v := .ref 39) (q := 145) C fX2_51 dX2_compose_142 rfl HL1_.1 rfl ?_
          refine g_aload_n (q := 146) C dX2_compose_145 rfl rfl ?_
          refine g_getfield (v := .ref 39) (q := 149) C fX2_51 dX2_compose_146 rfl HL1_.1 rfl ?_
          refine g_iconst (v := 0) (q := 150) C dX2_compose_149 (by decide) rfl ?_
          refine g_callVi (x := (gxs (([0, x, gmax 0 L.cd.pe] ++ gCh L.cd (gmax 0 L.cd.pe).toNatClampNeg).take 64) (([0, x, gmax 0 L.cd.pe] ++ gCh L.cd (gmax 0 L.cd.pe).toNatClampNeg).take 64).length)) (q := 153) (As := [.int 0]) C gyX4_xor gvX4_xor t_741 (c_X4_xor_w HL1_.2.2.2.1) dX2_compose_150 rfl (gRw.obj HL1_.2.2.2.1) rfl rfl rfl (Nat.le_of_ble_eq_true rfl) (Nat.le_of_ble_eq_true rfl) (Nat.le_of_ble_eq_true rfl) (Nat.le_of_ble_eq_true rfl) (Nat.le_of_ble_eq_true rfl) rfl ?_
          refine g_callVvp (q := 156) (As := [.int ((gxs (([0, x, gmax 0 L.cd.pe] ++ gCh L.cd (gmax 0 L.cd.pe).toNatClampNeg).take 64) (([0, x, gmax 0 L.cd.pe] ++ gCh L.cd (gmax 0 L.cd.pe).toNatClampNeg).take 64).length))]) C gyX4_add gvX4_add t_733 (c_X4_add_a HL1_.2.2.2.1) dX2_compose_153 rfl (gRw.obj HL1_.2.2.2.1) rfl rfl rfl (Nat.le_of_ble_eq_true rfl) (Nat.le_of_ble_eq_true rfl) (Nat.le_of_ble_eq_true rfl) (Nat.le_of_ble_eq_true rfl) (Nat.le_of_ble_eq_true rfl) rfl (fun h12 z12 => ?_)
          obtain ⟨HL12, fr12⟩ := gLine.bl HL1_ z12
          replace HL12 : gLine h12 (L.row 0 (((([0, x, gmax 0 L.cd.pe] ++ gCh L.cd (gmax 0 L.cd.pe).toNatClampNeg).take 64) ++ [(gxs (([0, x, gmax 0 L.cd.pe] ++ gCh L.cd (gmax 0 L.cd.pe).toNatClampNeg).take 64) (([0, x, gmax 0 L.cd.pe] ++ gCh L.cd (gmax 0 L.cd.pe).toNatClampNeg).take 64).length)]).take 64)) := by rw [gLn.row_row] at HL12; exact HL12
          have e : rX2_compose_c L x = (L.row 0 (((([0, x, gmax 0 L.cd.pe] ++ gCh L.cd (gmax 0 L.cd.pe).toNatClampNeg).take 64) ++ [(gxs (([0, x, gmax 0 L.cd.pe] ++ gCh L.cd (gmax 0 L.cd.pe).toNatClampNeg).take 64) (([0, x, gmax 0 L.cd.pe] ++ gCh L.cd (gmax 0 L.cd.pe).toNatClampNeg).take 64).length)]).take 64)) := ((if_pos c_4).trans (if_neg c_51))
          exact E.2.1 _ _ _ _ _ dX2_compose_156 rfl (Nat.le_of_ble_eq_true rfl) (Nat.le_of_ble_eq_true rfl) ⟨rfl, by rw [e]; exact ⟨HL12, (gFL.trans fr_ fr12)⟩⟩
        | succ d ih =>
          intro j hj h1 HL1_ fr_
          refine g_iload (q := 70) C dX2_compose_68 rfl rfl ?_
          refine g_aload_n (q := 71) C dX2_compose_70 rfl rfl ?_
          refine g_callVi (x := (gmax 0 (L.row 0 (([0, x, gmax 0 L.cd.pe] ++ gCh L.cd j).take 64)).cd.pe)) (q := 74) (As := []) C gyX5_pendingSize gvX5_pendingSize t_734 (c_X5_pendingSize_s HL1_.2.2.1) dX2_compose_71 rfl HL1_.2.2.1.1 rfl rfl rfl (Nat.le_of_ble_eq_true rfl) (Nat.le_of_ble_eq_true rfl) (Nat.le_of_ble_eq_true rfl) (Nat.le_of_ble_eq_true rfl) (Nat.le_of_ble_eq_true rfl) rfl ?_
          refine g_icmp_ge_f (t := 104) (q := 77) C dX2_compose_74 (by decide) rfl (gclt (show j < (gmax 0 L.cd.pe).toNatClampNeg by omega)) ?_
          refine g_aload_n (q := 78) C dX2_compose_77 rfl rfl ?_
          refine g_getfield (v := .ref 39) (q := 81) C fX2_51 dX2_compose_78 rfl HL1_.1 rfl ?_
          refine g_aload_n (q := 82) C dX2_compose_81 rfl rfl ?_
          refine g_getfieldW (v := .ref 29) (q := 85) C fX2_102 dX2_compose_82 rfl HL1_.2.2.1.1 rfl ?_
          refine g_aload_n (q := 86) C dX2_compose_85 rfl rfl ?_
          refine g_getfield (v := .int ((L.row 0 (([0, x, gmax 0 L.cd.pe] ++ gCh L.cd j).take 64)).cd.th)) (q := 89) C fX2_105 dX2_compose_86 rfl HL1_.2.2.1.1 rfl ?_
          refine g_iload (q := 91) C dX2_compose_89 rfl rfl ?_
          refine g_iadd (q := 92) C dX2_compose_91 rfl ?_
          refine g_callVi (x := (gat (L.row 0 (([0, x, gmax 0 L.cd.pe] ++ gCh L.cd j).take 64)).cd.out ((L.row 0 (([0, x, gmax 0 L.cd.pe] ++ gCh L.cd j).take 64)).cd.th + (nI j)))) (q := 95) (As := [.int (((L.row 0 (([0, x, gmax 0 L.cd.pe] ++ gCh L.cd j).take 64)).cd.th + (nI j)))]) C gyX4_at gvX4_at t_644 (c_X4_at_w HL1_.2.2.1.2.1) dX2_compose_92 rfl (gRw.obj HL1_.2.2.1.2.1) rfl rfl rfl (Nat.le_of_ble_eq_true rfl) (Nat.le_of_ble_eq_true rfl) (Nat.le_of_ble_eq_true rfl) (Nat.le_of_ble_eq_true rfl) (Nat.le_of_ble_eq_true rfl) rfl ?_
          refine g_callVvp (q := 98) (As := [.int ((gat (L.row 0 (([0, x, gmax 0 L.cd.pe] ++ gCh L.cd j).take 64)).cd.out ((L.row 0 (([0, x, gmax 0 L.cd.pe] ++ gCh L.cd j).take 64)).cd.th + (nI j))))]) C gyX4_add gvX4_add t_733 (c_X4_add_a HL1_.2.2.2.1) dX2_compose_95 rfl (gRw.obj HL1_.2.2.2.1) rfl rfl rfl (Nat.le_of_ble_eq_true rfl) (Nat.le_of_ble_eq_true rfl) (Nat.le_of_ble_eq_true rfl) (Nat.le_of_ble_eq_true rfl) (Nat.le_of_ble_eq_true rfl) rfl (fun h13 z13 => ?_)
          obtain ⟨HL13, fr13⟩ := gLine.bl HL1_ z13
          replace HL13 : gLine h13 (L.row 0 (((([0, x, gmax 0 L.cd.pe] ++ gCh L.cd j).take 64) ++ [(gat (L.row 0 (([0, x, gmax 0 L.cd.pe] ++ gCh L.cd j).take 64)).cd.out ((L.row 0 (([0, x, gmax 0 L.cd.pe] ++ gCh L.cd j).take 64)).cd.th + (nI j)))]).take 64)) := by rw [gLn.row_row] at HL13; exact HL13
          refine g_iinc (v := (nI (j + 1))) (q := 101) C dX2_compose_98 rfl (nI_1 j) (by simp only [gset]; rfl) rfl ?_
          replace HL13 : gLine h13 (L.row 0 (([0, x, gmax 0 L.cd.pe] ++ gCh L.cd (j + 1)).take 64)) := by rw [← gCh_s]; exact HL13
          refine g_goto (q := 68) C dX2_compose_101 (by decide) ?_
          exact ih (j + 1) (by omega) h13 HL13 (gFL.trans fr_ fr13)
      exact LL11 ((gmax 0 L.cd.pe).toNatClampNeg - 0) 0 (by omega) h9 HL9 (gFL.trans (gFL.trans (gFL.trans fr1 fr2) fr3) fr9)
      
  ·
    refine g_aload_n (q := 8) C dX2_compose_7 rfl rfl ?_
    refine g_getfield (v := .ref 41) (q := 11) C fX2_55 dX2_compose_8 rfl HL.1 rfl ?_
    refine g_iconst (v := 3) (q := 12) C dX2_compose_11 (by decide) rfl ?_
    refine g_callVi (x := (gat L.ca 3)) (q := 15) (As := [.int 3]) C gyX4_at gvX4_at t_644 (c_X4_at_w HL.2.2.2.2) dX2_compose_12 rfl (gRw.obj HL.2.2.2.2) rfl rfl rfl (Nat.le_of_ble_eq_true rfl) (Nat.le_of_ble_eq_true rfl) (Nat.le_of_ble_eq_true rfl) (Nat.le_of_ble_eq_true rfl) (Nat.le_of_ble_eq_true rfl) rfl ?_
    refine g_goto (q := 22) C dX2_compose_15 (by decide) ?_
    refine g_istore_n (q := 23) C dX2_compose_22 (Nat.le_of_ble_eq_true rfl) (by simp only [gset]; rfl) rfl ?_
    refine g_aload_n (q := 24) C dX2_compose_23 rfl rfl ?_
    refine g_getfield (v := .ref 39) (q := 27) C fX2_51 dX2_compose_24 rfl HL.1 rfl ?_
    refine g_iconst (v := 0) (q := 28) C dX2_compose_27 (by decide) rfl ?_
    refine g_callVvp (q := 31) (As := [.int 0]) C gyX4_keep gvX4_keep t_507 (c_X4_keep0 HL.2.2.2.1) dX2_compose_28 rfl (gRw.obj HL.2.2.2.1) rfl rfl rfl (Nat.le_of_ble_eq_true rfl) (Nat.le_of_ble_eq_true rfl) (Nat.le_of_ble_eq_true rfl) (Nat.le_of_ble_eq_true rfl) (Nat.le_of_ble_eq_true rfl) rfl (fun h14 z14 => ?_)
    obtain ⟨HL14, fr14⟩ := gLine.bl HL z14
    replace HL14 : gLine h14 (L.row 0 []) := HL14
    refine g_aload_n (q := 32) C dX2_compose_31 rfl rfl ?_
    refine g_getfield (v := .ref 39) (q := 35) C fX2_51 dX2_compose_32 rfl HL14.1 rfl ?_
    refine g_iconst (v := 0) (q := 36) C dX2_compose_35 (by decide) rfl ?_
    refine g_callVvp (q := 39) (As := [.int 0]) C gyX4_add gvX4_add t_733 (c_X4_add_a HL14.2.2.2.1) dX2_compose_36 rfl (gRw.obj HL14.2.2.2.1) rfl rfl rfl (Nat.le_of_ble_eq_true rfl) (Nat.le_of_ble_eq_true rfl) (Nat.le_of_ble_eq_true rfl) (Nat.le_of_ble_eq_true rfl) (Nat.le_of_ble_eq_true rfl) rfl (fun h15 z15 => ?_)
    obtain ⟨HL15, fr15⟩ := gLine.bl HL14 z15
    replace HL15 : gLine h15 (L.row 0 [0]) := by rw [gLn.row_row] at HL15; exact HL15
    refine g_aload_n (q := 40) C dX2_compose_39 rfl rfl ?_
    refine g_getfield (v := .ref 39) (q := 43) C fX2_51 dX2_compose_40 rfl HL15.1 rfl ?_
    refine g_iload_n (q := 44) C dX2_compose_43 rfl rfl ?_
    refine g_callVvp (q := 47) (As := [.int x]) C gyX4_add gvX4_add t_733 (c_X4_add_a HL15.2.2.2.1) dX2_compose_44 rfl (gRw.obj HL15.2.2.2.1) rfl rfl rfl (Nat.le_of_ble_eq_true rfl) (Nat.le_of_ble_eq_true rfl) (Nat.le_of_ble_eq_true rfl) (Nat.le_of_ble_eq_true rfl) (Nat.le_of_ble_eq_true rfl) rfl (fun h16 z16 => ?_)
    obtain ⟨HL16, fr16⟩ := gLine.bl HL15 z16
    replace HL16 : gLine h16 (L.row 0 [0, x]) := by rw [gLn.row_row] at HL16; exact HL16
    refine g_iload_n (q := 48) C dX2_compose_47 rfl rfl ?_
    refine g_sipush (v := 128) (q := 51) C dX2_compose_48 (by decide) rfl ?_
    refine g_icmp_ge_t (t := 107) C dX2_compose_51 (by decide) (gi224 c_4) ?_
    refine g_iload_n (q := 108) C dX2_compose_107 rfl rfl ?_
    refine g_callSi (x := (rX2_hasInf x)) (q := 111) (As := [.int x]) C gyX2_hasInf t_739 t_738 (c_X2_hasInf_l) dX2_compose_108 rfl rfl rfl (Nat.le_of_ble_eq_true rfl) (Nat.le_of_ble_eq_true rfl) (Nat.le_of_ble_eq_true rfl) (Nat.le_of_ble_eq_true rfl) (Nat.le_of_ble_eq_true rfl) rfl ?_
    refine g_if_eq (t := 133) (q := 114) C dX2_compose_111 (by decide) rfl (fun c_111 => ?_) (fun c_111 => ?_)
    ·
      refine g_aload_n (q := 134) C dX2_compose_133 rfl rfl ?_
      refine g_getfield (v := .ref 39) (q := 137) C fX2_51 dX2_compose_134 rfl HL16.1 rfl ?_
      refine g_iconst (v := 0) (q := 138) C dX2_compose_137 (by decide) rfl ?_
      refine g_callVvp (q := 141) (As := [.int 0]) C gyX4_add gvX4_add t_733 (c_X4_add_a HL16.2.2.2.1) dX2_compose_138 rfl (gRw.obj HL16.2.2.2.1) rfl rfl rfl (Nat.le_of_ble_eq_true rfl) (Nat.le_of_ble_eq_true rfl) (Nat.le_of_ble_eq_true rfl) (Nat.le_of_ble_eq_true rfl) (Nat.le_of_ble_eq_true rfl) rfl (fun h17 z17 => ?_)
      obtain ⟨HL17, fr17⟩ := gLine.bl HL16 z17
      replace HL17 : gLine h17 (L.row 0 [0, x, 0]) := by rw [gLn.row_row] at HL17; exact HL17
      refine g_aload_n (q := 142) C dX2_compose_141 rfl rfl ?_
      refine g_getfield (v := .ref 39) (q := 145) C fX2_51 dX2_compose_142 rfl HL17.1 rfl ?_
      refine g_aload_n (q := 146) C dX2_compose_145 rfl rfl ?_
      refine g_getfield (v := .ref 39) (q := 149) C fX2_51 dX2_compose_146 rfl HL17.1 rfl ?_
      refine g_iconst (v := 0) (q := 150) C dX2_compose_149 (by decide) rfl ?_
      refine g_callVi (x := (gxs [0, x, 0] [0, x, 0].length)) (q := 153) (As := [.int 0]) C gyX4_xor gvX4_xor t_741 (c_X4_xor_w HL17.2.2.2.1) dX2_compose_150 rfl (gRw.obj HL17.2.2.2.1) rfl rfl rfl (Nat.le_of_ble_eq_true rfl) (Nat.le_of_ble_eq_true rfl) (Nat.le_of_ble_eq_true rfl) (Nat.le_of_ble_eq_true rfl) (Nat.le_of_ble_eq_true rfl) rfl ?_
      refine g_callVvp (q := 156) (As := [.int ((gxs [0, x, 0] [0, x, 0].length))]) C gyX4_add gvX4_add t_733 (c_X4_add_a HL17.2.2.2.1) dX2_compose_153 rfl (gRw.obj HL17.2.2.2.1) rfl rfl rfl (Nat.le_of_ble_eq_true rfl) (Nat.le_of_ble_eq_true rfl) (Nat.le_of_ble_eq_true rfl) (Nat.le_of_ble_eq_true rfl) (Nat.le_of_ble_eq_true rfl) rfl (fun h18 z18 => ?_)
      obtain ⟨HL18, fr18⟩ := gLine.bl HL17 z18
      replace HL18 : gLine h18 (L.row 0 [0, x, 0, (gxs [0, x, 0] [0, x, 0].length)]) := by rw [gLn.row_row] at HL18; exact HL18
      have e : rX2_compose_c L x = (L.row 0 [0, x, 0, (gxs [0, x, 0] [0, x, 0].length)]) := ((if_neg c_4).trans (if_pos c_111))
      exact E.2.1 _ _ _ _ _ dX2_compose_156 rfl (Nat.le_of_ble_eq_true rfl) (Nat.le_of_ble_eq_true rfl) ⟨rfl, by rw [e]; exact ⟨HL18, (gFL.trans (gFL.trans (gFL.trans (gFL.trans fr14 fr15) fr16) fr17) fr18)⟩⟩
    ·
      refine g_aload_n (q := 115) C dX2_compose_114 rfl rfl ?_
      refine g_getfield (v := .ref 39) (q := 118) C fX2_51 dX2_compose_115 rfl HL16.1 rfl ?_
      refine g_iconst (v := 1) (q := 119) C dX2_compose_118 (by decide) rfl ?_
      refine g_callVvp (q := 122) (As := [.int 1]) C gyX4_add gvX4_add t_733 (c_X4_add_a HL16.2.2.2.1) dX2_compose_119 rfl (gRw.obj HL16.2.2.2.1) rfl rfl rfl (Nat.le_of_ble_eq_true rfl) (Nat.le_of_ble_eq_true rfl) (Nat.le_of_ble_eq_true rfl) (Nat.le_of_ble_eq_true rfl) (Nat.le_of_ble_eq_true rfl) rfl (fun h19 z19 => ?_)
      obtain ⟨HL19, fr19⟩ := gLine.bl HL16 z19
      replace HL19 : gLine h19 (L.row 0 [0, x, 1]) := by rw [gLn.row_row] at HL19; exact HL19
      refine g_aload_n (q := 123) C dX2_compose_122 rfl rfl ?_
      refine g_getfield (v := .ref 39) (q := 126) C fX2_51 dX2_compose_123 rfl HL19.1 rfl ?_
      refine g_iload_n (q := 127) C dX2_compose_126 rfl rfl ?_
      refine g_callVvp (q := 130) (As := [.int ((gat L.ca 3))]) C gyX4_add gvX4_add t_733 (c_X4_add_a HL19.2.2.2.1) dX2_compose_127 rfl (gRw.obj HL19.2.2.2.1) rfl rfl rfl (Nat.le_of_ble_eq_true rfl) (Nat.le_of_ble_eq_true rfl) (Nat.le_of_ble_eq_true rfl) (Nat.le_of_ble_eq_true rfl) (Nat.le_of_ble_eq_true rfl) rfl (fun h20 z20 => ?_)
      obtain ⟨HL20, fr20⟩ := gLine.bl HL19 z20
      replace HL20 : gLine h20 (L.row 0 [0, x, 1, (gat L.ca 3)]) := by rw [gLn.row_row] at HL20; exact HL20
      refine g_goto (q := 141) C dX2_compose_130 (by decide) ?_
      refine g_aload_n (q := 142) C dX2_compose_141 rfl rfl ?_
      refine g_getfield (v := .ref 39) (q := 145) C fX2_51 dX2_compose_142 rfl HL20.1 rfl ?_
      refine g_aload_n (q := 146) C dX2_compose_145 rfl rfl ?_
      refine g_getfield (v := .ref 39) (q := 149) C fX2_51 dX2_compose_146 rfl HL20.1 rfl ?_
      refine g_iconst (v := 0) (q := 150) C dX2_compose_149 (by decide) rfl ?_
      refine g_callVi (x := (gxs [0, x, 1, (gat L.ca 3)] [0, x, 1, (gat L.ca 3)].length)) (q := 153) (As := [.int 0]) C gyX4_xor gvX4_xor t_741 (c_X4_xor_w HL20.2.2.2.1) dX2_compose_150 rfl (gRw.obj HL20.2.2.2.1) rfl rfl rfl (Nat.le_of_ble_eq_true rfl) (Nat.le_of_ble_eq_true rfl) (Nat.le_of_ble_eq_true rfl) (Nat.le_of_ble_eq_true rfl) (Nat.le_of_ble_eq_true rfl) rfl ?_
      refine g_callVvp (q := 156) (As := [.int ((gxs [0, x, 1, (gat L.ca 3)] [0, x, 1, (gat L.ca 3)].length))]) C gyX4_add gvX4_add t_733 (c_X4_add_a HL20.2.2.2.1) dX2_compose_153 rfl (gRw.obj HL20.2.2.2.1) rfl rfl rfl (Nat.le_of_ble_eq_true rfl) (Nat.le_of_ble_eq_true rfl) (Nat.le_of_ble_eq_true rfl) (Nat.le_of_ble_eq_true rfl) (Nat.le_of_ble_eq_true rfl) rfl (fun h21 z21 => ?_)
      obtain ⟨HL21, fr21⟩ := gLine.bl HL20 z21
      replace HL21 : gLine h21 (L.row 0 [0, x, 1, (gat L.ca 3), (gxs [0, x, 1, (gat L.ca 3)] [0, x, 1, (gat L.ca 3)].length)]) := by rw [gLn.row_row] at HL21; exact HL21
      have e : rX2_compose_c L x = (L.row 0 [0, x, 1, (gat L.ca 3), (gxs [0, x, 1, (gat L.ca 3)] [0, x, 1, (gat L.ca 3)].length)]) := ((if_neg c_4).trans (if_neg c_111))
      exact E.2.1 _ _ _ _ _ dX2_compose_156 rfl (Nat.le_of_ble_eq_true rfl) (Nat.le_of_ble_eq_true rfl) ⟨rfl, by rw [e]; exact ⟨HL21, (gFL.trans (gFL.trans (gFL.trans (gFL.trans (gFL.trans fr14 fr15) fr16) fr19) fr20) fr21)⟩⟩
def rX2_isWellFormed (L : gLn) (x : Int32) (y : Int32) (z : Int32) : Int32 := (if (gat L.ca 0) = 0 then (if 128 ≤ x then (if 192 ≤ x then (if 3 < (x &&& 31) then 0 else (if (rX2_hasInf x) = 0 then (if y = 0 then (if (x &&& 31) = 1 then (if (gat L.ca 3) < 1 then 0 else (if 254 < (gat L.ca 3) then 0 else 1)) else 1) else 0) else (if y = 1 then (if (x &&& 31) = 1 then (if (gat L.ca 3) < 1 then 0 else (if 254 < (gat L.ca 3) then 0 else 1)) else 1) else 0))) else (if (x &&& 32) = 0 then (if 2 < (x &&& 15) then 0 else (if y = 0 then 1 else 0)) else 0)) else (if (x &&& 31) = 0 then (if z < y then 0 else 1) else 0)) else 0)
theorem dX2_isWellFormed_0 : decode cX2_isWellFormed 0 = .ok (.aload_n 0, 1) := by decide +kernel
theorem dX2_isWellFormed_1 : decode cX2_isWellFormed 1 = .ok (.getfield 55, 3) := by decide +kernel
theorem dX2_isWellFormed_4 : decode cX2_isWellFormed 4 = .ok (.iconst 0, 1) := by decide +kernel
theorem dX2_isWellFormed_5 : decode cX2_isWellFormed 5 = .ok (.invokevirtual 156, 3) := by decide +kernel
theorem dX2_isWellFormed_8 : decode cX2_isWellFormed 8 = .ok (.ifCond .eq 5, 3) := by decide +kernel
theorem dX2_isWellFormed_11 : decode cX2_isWellFormed 11 = .ok (.iconst 0, 1) := by decide +kernel
theorem dX2_isWellFormed_12 : decode cX2_isWellFormed 12 = .ok (.ireturn, 1) := by decide +kernel
theorem dX2_isWellFormed_13 : decode cX2_isWellFormed 13 = .ok (.iload_n 1, 1) := by decide +kernel
theorem dX2_isWellFormed_14 : decode cX2_isWellFormed 14 = .ok (.sipush 128, 3) := by decide +kernel
theorem dX2_isWellFormed_17 : decode cX2_isWellFormed 17 = .ok (.if_icmp .ge 21, 3) := by decide +kernel
theorem dX2_isWellFormed_20 : decode cX2_isWellFormed 20 = .ok (.iload_n 1, 1) := by decide +kernel
theorem dX2_isWellFormed_21 : decode cX2_isWellFormed 21 = .ok (.bipush 31, 2) := by decide +kernel
theorem dX2_isWellFormed_23 : decode cX2_isWellFormed 23 = .ok (.iand, 1) := by decide +kernel
theorem dX2_isWellFormed_24 : decode cX2_isWellFormed 24 = .ok (.ifCond .ne 12, 3) := by decide +kernel
theorem dX2_isWellFormed_27 : decode cX2_isWellFormed 27 = .ok (.iload_n 2, 1) := by decide +kernel
theorem dX2_isWellFormed_28 : decode cX2_isWellFormed 28 = .ok (.iload_n 3, 1) := by decide +kernel
theorem dX2_isWellFormed_29 : decode cX2_isWellFormed 29 = .ok (.if_icmp .gt 7, 3) := by decide +kernel
theorem dX2_isWellFormed_32 : decode cX2_isWellFormed 32 = .ok (.iconst 1, 1) := by decide +kernel
theorem dX2_isWellFormed_33 : decode cX2_isWellFormed 33 = .ok (.goto 4, 3) := by decide +kernel
theorem dX2_isWellFormed_36 : decode cX2_isWellFormed 36 = .ok (.iconst 0, 1) := by decide +kernel
theorem dX2_isWellFormed_37 : decode cX2_isWellFormed 37 = .ok (.ireturn, 1) := by decide +kernel
theorem dX2_isWellFormed_38 : decode cX2_isWellFormed 38 = .ok (.iload_n 1, 1) := by decide +kernel
theorem dX2_isWellFormed_39 : decode cX2_isWellFormed 39 = .ok (.sipush 192, 3) := by decide +kernel
theorem dX2_isWellFormed_42 : decode cX2_isWellFormed 42 = .ok (.if_icmp .ge 28, 3) := by decide +kernel
theorem dX2_isWellFormed_45 : decode cX2_isWellFormed 45 = .ok (.iload_n 1, 1) := by decide +kernel
theorem dX2_isWellFormed_46 : decode cX2_isWellFormed 46 = .ok (.bipush 32, 2) := by decide +kernel
theorem dX2_isWellFormed_48 : decode cX2_isWellFormed 48 = .ok (.iand, 1) := by decide +kernel
theorem dX2_isWellFormed_49 : decode cX2_isWellFormed 49 = .ok (.ifCond .ne 19, 3) := by decide +kernel
theorem dX2_isWellFormed_52 : decode cX2_isWellFormed 52 = .ok (.iload_n 1, 1) := by decide +kernel
theorem dX2_isWellFormed_53 : decode cX2_isWellFormed 53 = .ok (.bipush 15, 2) := by decide +kernel
theorem dX2_isWellFormed_55 : decode cX2_isWellFormed 55 = .ok (.iand, 1) := by decide +kernel
theorem dX2_isWellFormed_56 : decode cX2_isWellFormed 56 = .ok (.iconst 2, 1) := by decide +kernel
theorem dX2_isWellFormed_57 : decode cX2_isWellFormed 57 = .ok (.if_icmp .gt 11, 3) := by decide +kernel
theorem dX2_isWellFormed_60 : decode cX2_isWellFormed 60 = .ok (.iload_n 2, 1) := by decide +kernel
theorem dX2_isWellFormed_61 : decode cX2_isWellFormed 61 = .ok (.ifCond .ne 7, 3) := by decide +kernel
theorem dX2_isWellFormed_64 : decode cX2_isWellFormed 64 = .ok (.iconst 1, 1) := by decide +kernel
theorem dX2_isWellFormed_65 : decode cX2_isWellFormed 65 = .ok (.goto 4, 3) := by decide +kernel
theorem dX2_isWellFormed_68 : decode cX2_isWellFormed 68 = .ok (.iconst 0, 1) := by decide +kernel
theorem dX2_isWellFormed_69 : decode cX2_isWellFormed 69 = .ok (.ireturn, 1) := by decide +kernel
theorem dX2_isWellFormed_70 : decode cX2_isWellFormed 70 = .ok (.iload_n 1, 1) := by decide +kernel
theorem dX2_isWellFormed_71 : decode cX2_isWellFormed 71 = .ok (.bipush 31, 2) := by decide +kernel
theorem dX2_isWellFormed_73 : decode cX2_isWellFormed 73 = .ok (.iand, 1) := by decide +kernel
theorem dX2_isWellFormed_74 : decode cX2_isWellFormed 74 = .ok (.iconst 3, 1) := by decide +kernel
theorem dX2_isWellFormed_75 : decode cX2_isWellFormed 75 = .ok (.if_icmp .gt 19, 3) := by decide +kernel
theorem dX2_isWellFormed_78 : decode cX2_isWellFormed 78 = .ok (.iload_n 2, 1) := by decide +kernel
theorem dX2_isWellFormed_79 : decode cX2_isWellFormed 79 = .ok (.iload_n 1, 1) := by decide +kernel
theorem dX2_isWellFormed_80 : decode cX2_isWellFormed 80 = .ok (.invokestatic 283, 3) := by decide +kernel
theorem dX2_isWellFormed_83 : decode cX2_isWellFormed 83 = .ok (.ifCond .eq 7, 3) := by decide +kernel
theorem dX2_isWellFormed_86 : decode cX2_isWellFormed 86 = .ok (.iconst 1, 1) := by decide +kernel
theorem dX2_isWellFormed_87 : decode cX2_isWellFormed 87 = .ok (.goto 4, 3) := by decide +kernel
theorem dX2_isWellFormed_90 : decode cX2_isWellFormed 90 = .ok (.iconst 0, 1) := by decide +kernel
theorem dX2_isWellFormed_91 : decode cX2_isWellFormed 91 = .ok (.if_icmp .eq 5, 3) := by decide +kernel
theorem dX2_isWellFormed_94 : decode cX2_isWellFormed 94 = .ok (.iconst 0, 1) := by decide +kernel
theorem dX2_isWellFormed_95 : decode cX2_isWellFormed 95 = .ok (.ireturn, 1) := by decide +kernel
theorem dX2_isWellFormed_96 : decode cX2_isWellFormed 96 = .ok (.iload_n 1, 1) := by decide +kernel
theorem dX2_isWellFormed_97 : decode cX2_isWellFormed 97 = .ok (.bipush 31, 2) := by decide +kernel
theorem dX2_isWellFormed_99 : decode cX2_isWellFormed 99 = .ok (.iand, 1) := by decide +kernel
theorem dX2_isWellFormed_100 : decode cX2_isWellFormed 100 = .ok (.iconst 1, 1) := by decide +kernel
theorem dX2_isWellFormed_101 : decode cX2_isWellFormed 101 = .ok (.if_icmp .ne 29, 3) := by decide +kernel
theorem dX2_isWellFormed_104 : decode cX2_isWellFormed 104 = .ok (.aload_n 0, 1) := by decide +kernel
theorem dX2_isWellFormed_105 : decode cX2_isWellFormed 105 = .ok (.getfield 55, 3) := by decide +kernel
theorem dX2_isWellFormed_108 : decode cX2_isWellFormed 108 = .ok (.iconst 3, 1) := by decide +kernel
theorem dX2_isWellFormed_109 : decode cX2_isWellFormed 109 = .ok (.invokevirtual 156, 3) := by decide +kernel
theorem dX2_isWellFormed_112 : decode cX2_isWellFormed 112 = .ok (.iconst 1, 1) := by decide +kernel
theorem dX2_isWellFormed_113 : decode cX2_isWellFormed 113 = .ok (.if_icmp .lt 21, 3) := by decide +kernel
theorem dX2_isWellFormed_116 : decode cX2_isWellFormed 116 = .ok (.aload_n 0, 1) := by decide +kernel
theorem dX2_isWellFormed_117 : decode cX2_isWellFormed 117 = .ok (.getfield 55, 3) := by decide +kernel
theorem dX2_isWellFormed_120 : decode cX2_isWellFormed 120 = .ok (.iconst 3, 1) := by decide +kernel
theorem dX2_isWellFormed_121 : decode cX2_isWellFormed 121 = .ok (.invokevirtual 156, 3) := by decide +kernel
theorem dX2_isWellFormed_124 : decode cX2_isWellFormed 124 = .ok (.sipush 254, 3) := by decide +kernel
theorem dX2_isWellFormed_127 : decode cX2_isWellFormed 127 = .ok (.if_icmp .gt 7, 3) := by decide +kernel
theorem dX2_isWellFormed_130 : decode cX2_isWellFormed 130 = .ok (.iconst 1, 1) := by decide +kernel
theorem dX2_isWellFormed_131 : decode cX2_isWellFormed 131 = .ok (.goto 4, 3) := by decide +kernel
theorem dX2_isWellFormed_134 : decode cX2_isWellFormed 134 = .ok (.iconst 0, 1) := by decide +kernel
theorem dX2_isWellFormed_135 : decode cX2_isWellFormed 135 = .ok (.ireturn, 1) := by decide +kernel
set_option maxRecDepth 100000 in
set_option maxHeartbeats 4000000 in
theorem c_X2_isWellFormed_l {hp : List gA} {L : gLn} {x : Int32} {y : Int32} {z : Int32}  (HL : gLine hp L)  : gM yX2_isWellFormed cX2_isWellFormed 4 ((some .boolean)) 1 21 [.ref 20, .int x, .int y, .int z] (hp) (0) (0) (fun v h => v = some (.int (rX2_isWellFormed L x y z)) ∧ h = hp) := by
  refine gM_of (ls0 := [some (.ref 20), some (.int x), some (.int y), some (.int z)]) (by decide +kernel) (Nat.le_of_ble_eq_true rfl) rfl fun X C E => ?_
  refine g_aload_n (q := 1) C dX2_isWellFormed_0 rfl rfl ?_
  refine g_getfield (v := .ref 41) (q := 4) C fX2_55 dX2_isWellFormed_1 rfl HL.1 rfl ?_
  refine g_iconst (v := 0) (q := 5) C dX2_isWellFormed_4 (by decide) rfl ?_
  refine g_callVi (x := (gat L.ca 0)) (q := 8) (As := [.int 0]) C gyX4_at gvX4_at t_644 (c_X4_at_w HL.2.2.2.2) dX2_isWellFormed_5 rfl (gRw.obj HL.2.2.2.2) rfl rfl rfl (Nat.le_of_ble_eq_true rfl) (Nat.le_of_ble_eq_true rfl) (Nat.le_of_ble_eq_true rfl) (Nat.le_of_ble_eq_true rfl) (Nat.le_of_ble_eq_true rfl) rfl ?_
  refine g_if_eq (t := 13) (q := 11) C dX2_isWellFormed_8 (by decide) rfl (fun c_8 => ?_) (fun c_8 => ?_)
  ·
    refine g_iload_n (q := 14) C dX2_isWellFormed_13 rfl rfl ?_
    refine g_sipush (v := 128) (q := 17) C dX2_isWellFormed_14 (by decide) rfl ?_
    refine g_icmp_ge (t := 38) (q := 20) C dX2_isWellFormed_17 (by decide) rfl (fun c_17 => ?_) (fun c_17 => ?_)
    ·
      refine g_iload_n (q := 39) C dX2_isWellFormed_38 rfl rfl ?_
      refine g_sipush (v := 192) (q := 42) C dX2_isWellFormed_39 (by decide) rfl ?_
      refine g_icmp_ge (t := 70) (q := 45) C dX2_isWellFormed_42 (by decide) rfl (fun c_42 => ?_) (fun c_42 => ?_)
      ·
        refine g_iload_n (q := 71) C dX2_isWellFormed_70 rfl rfl ?_
        refine g_bipush (v := 31) (q := 73) C dX2_isWellFormed_71 (by decide) rfl ?_
        refine g_iand (q := 74) C dX2_isWellFormed_73 rfl ?_
        refine g_iconst (v := 3) (q := 75) C dX2_isWellFormed_74 (by decide) rfl ?_
        refine g_icmp_gt (t := 94) (q := 78) C dX2_isWellFormed_75 (by decide) rfl (fun c_75 => ?_) (fun c_75 => ?_)
        ·
          refine g_iconst (v := 0) (q := 95) C dX2_isWellFormed_94 (by decide) rfl ?_
          have e : rX2_isWellFormed L x y z = (0) := ((if_pos c_8).trans ((if_pos c_17).trans ((if_pos c_42).trans (if_pos c_75))))
          exact E.1 _ _ _ _ _ _ _ dX2_isWellFormed_95 rfl rfl (Nat.le_of_ble_eq_true rfl) (Nat.le_of_ble_eq_true rfl) ⟨by rw [e], rfl⟩
        ·
          refine g_iload_n (q := 79) C dX2_isWellFormed_78 rfl rfl ?_
          refine g_iload_n (q := 80) C dX2_isWellFormed_79 rfl rfl ?_
          refine g_callSi (x := (rX2_hasInf x)) (q := 83) (As := [.int x]) C gyX2_hasInf t_739 t_738 (c_X2_hasInf_l) dX2_isWellFormed_80 rfl rfl rfl (Nat.le_of_ble_eq_true rfl) (Nat.le_of_ble_eq_true rfl) (Nat.le_of_ble_eq_true rfl) (Nat.le_of_ble_eq_true rfl) (Nat.le_of_ble_eq_true rfl) rfl ?_
          refine g_if_eq (t := 90) (q := 86) C dX2_isWellFormed_83 (by decide) rfl (fun c_83 => ?_) (fun c_83 => ?_)
          ·
            refine g_iconst (v := 0) (q := 91) C dX2_isWellFormed_90 (by decide) rfl ?_
            refine g_icmp_eq (t := 96) (q := 94) C dX2_isWellFormed_91 (by decide) rfl (fun c_91 => ?_) (fun c_91 => ?_)
            ·
              refine g_iload_n (q := 97) C dX2_isWellFormed_96 rfl rfl ?_
              refine g_bipush (v := 31) (q := 99) C dX2_isWellFormed_97 (by decide) rfl ?_
              refine g_iand (q := 100) C dX2_isWellFormed_99 rfl ?_
              refine g_iconst (v := 1) (q := 101) C dX2_isWellFormed_100 (by decide) rfl ?_
              refine g_icmp_ne (t := 130) (q := 104) C dX2_isWellFormed_101 (by decide) rfl (fun c_101 => ?_) (fun c_101 => ?_)
              ·
                refine g_iconst (v := 1) (q := 131) C dX2_isWellFormed_130 (by decide) rfl ?_
                refine g_goto (q := 135) C dX2_isWellFormed_131 (by decide) ?_
                have e : rX2_isWellFormed L x y z = (1) := ((if_pos c_8).trans ((if_pos c_17).trans ((if_pos c_42).trans ((if_neg c_75).trans ((if_pos c_83).trans ((if_pos c_91).trans (if_neg c_101)))))))
                exact E.1 _ _ _ _ _ _ _ dX2_isWellFormed_135 rfl rfl (Nat.le_of_ble_eq_true rfl) (Nat.le_of_ble_eq_true rfl) ⟨by rw [e], rfl⟩
              ·
                refine g_aload_n (q := 105) C dX2_isWellFormed_104 rfl rfl ?_
                refine g_getfield (v := .ref 41) (q := 108) C fX2_55 dX2_isWellFormed_105 rfl HL.1 rfl ?_
                refine g_iconst (v := 3) (q := 109) C dX2_isWellFormed_108 (by decide) rfl ?_
                refine g_callVi (x := (gat L.ca 3)) (q := 112) (As := [.int 3]) C gyX4_at gvX4_at t_644 (c_X4_at_w HL.2.2.2.2) dX2_isWellFormed_109 rfl (gRw.obj HL.2.2.2.2) rfl rfl rfl (Nat.le_of_ble_eq_true rfl) (Nat.le_of_ble_eq_true rfl) (Nat.le_of_ble_eq_true rfl) (Nat.le_of_ble_eq_true rfl) (Nat.le_of_ble_eq_true rfl) rfl ?_
                refine g_iconst (v := 1) (q := 113) C dX2_isWellFormed_112 (by decide) rfl ?_
                refine g_icmp_lt (t := 134) (q := 116) C dX2_isWellFormed_113 (by decide) rfl (fun c_113 => ?_) (fun c_113 => ?_)
                ·
                  refine g_iconst (v := 0) (q := 135) C dX2_isWellFormed_134 (by decide) rfl ?_
                  have e : rX2_isWellFormed L x y z = (0) := ((if_pos c_8).trans ((if_pos c_17).trans ((if_pos c_42).trans ((if_neg c_75).trans ((if_pos c_83).trans ((if_pos c_91).trans ((if_pos c_101).trans (if_pos c_113))))))))
                  exact E.1 _ _ _ _ _ _ _ dX2_isWellFormed_135 rfl rfl (Nat.le_of_ble_eq_true rfl) (Nat.le_of_ble_eq_true rfl) ⟨by rw [e], rfl⟩
                ·
                  refine g_aload_n (q := 117) C dX2_isWellFormed_116 rfl rfl ?_
                  refine g_getfield (v := .ref 41) (q := 120) C fX2_55 dX2_isWellFormed_117 rfl HL.1 rfl ?_
                  refine g_iconst (v := 3) (q := 121) C dX2_isWellFormed_120 (by decide) rfl ?_
                  refine g_callVi (x := (gat L.ca 3)) (q := 124) (As := [.int 3]) C gyX4_at gvX4_at t_644 (c_X4_at_w HL.2.2.2.2) dX2_isWellFormed_121 rfl (gRw.obj HL.2.2.2.2) rfl rfl rfl (Nat.le_of_ble_eq_true rfl) (Nat.le_of_ble_eq_true rfl) (Nat.le_of_ble_eq_true rfl) (Nat.le_of_ble_eq_true rfl) (Nat.le_of_ble_eq_true rfl) rfl ?_
                  refine g_sipush (v := 254) (q := 127) C dX2_isWellFormed_124 (by decide) rfl ?_
                  refine g_icmp_gt (t := 134) (q := 130) C dX2_isWellFormed_127 (by decide) rfl (fun c_127 => ?_) (fun c_127 => ?_)
                  ·
                    refine g_iconst (v := 0) (q := 135) C dX2_isWellFormed_134 (by decide) rfl ?_
                    have e : rX2_isWellFormed L x y z = (0) := ((if_pos c_8).trans ((if_pos c_17).trans ((if_pos c_42).trans ((if_neg c_75).trans ((if_pos c_83).trans ((if_pos c_91).trans ((if_pos c_101).trans ((if_neg c_113).trans (if_pos c_127)))))))))
                    exact E.1 _ _ _ _ _ _ _ dX2_isWellFormed_135 rfl rfl (Nat.le_of_ble_eq_true rfl) (Nat.le_of_ble_eq_true rfl) ⟨by rw [e], rfl⟩
                  ·
                    refine g_iconst (v := 1) (q := 131) C dX2_isWellFormed_130 (by decide) rfl ?_
                    refine g_goto (q := 135) C dX2_isWellFormed_131 (by decide) ?_
                    have e : rX2_isWellFormed L x y z = (1) := ((if_pos c_8).trans ((if_pos c_17).trans ((if_pos c_42).trans ((if_neg c_75).trans ((if_pos c_83).trans ((if_pos c_91).trans ((if_pos c_101).trans ((if_neg c_113).trans (if_neg c_127)))))))))
                    exact E.1 _ _ _ _ _ _ _ dX2_isWellFormed_135 rfl rfl (Nat.le_of_ble_eq_true rfl) (Nat.le_of_ble_eq_true rfl) ⟨by rw [e], rfl⟩
            ·
              refine g_iconst (v := 0) (q := 95) C dX2_isWellFormed_94 (by decide) rfl ?_
              have e : rX2_isWellFormed L x y z = (0) := ((if_pos c_8).trans ((if_pos c_17).trans ((if_pos c_42).trans ((if_neg c_75).trans ((if_pos c_83).trans (if_neg c_91))))))
              exact E.1 _ _ _ _ _ _ _ dX2_isWellFormed_95 rfl rfl (Nat.le_of_ble_eq_true rfl) (Nat.le_of_ble_eq_true rfl) ⟨by rw [e], rfl⟩
          ·
            refine g_iconst (v := 1) (q := 87) C dX2_isWellFormed_86 (by decide) rfl ?_
            refine g_goto (q := 91) C dX2_isWellFormed_87 (by decide) ?_
            refine g_icmp_eq (t := 96) (q := 94) C dX2_isWellFormed_91 (by decide) rfl (fun c_91 => ?_) (fun c_91 => ?_)
            ·
              refine g_iload_n (q := 97) C dX2_isWellFormed_96 rfl rfl ?_
              refine g_bipush (v := 31) (q := 99) C dX2_isWellFormed_97 (by decide) rfl ?_
              refine g_iand (q := 100) C dX2_isWellFormed_99 rfl ?_
              refine g_iconst (v := 1) (q := 101) C dX2_isWellFormed_100 (by decide) rfl ?_
              refine g_icmp_ne (t := 130) (q := 104) C dX2_isWellFormed_101 (by decide) rfl (fun c_101 => ?_) (fun c_101 => ?_)
              ·
                refine g_iconst (v := 1) (q := 131) C dX2_isWellFormed_130 (by decide) rfl ?_
                refine g_goto (q := 135) C dX2_isWellFormed_131 (by decide) ?_
                have e : rX2_isWellFormed L x y z = (1) := ((if_pos c_8).trans ((if_pos c_17).trans ((if_pos c_42).trans ((if_neg c_75).trans ((if_neg c_83).trans ((if_pos c_91).trans (if_neg c_101)))))))
                exact E.1 _ _ _ _ _ _ _ dX2_isWellFormed_135 rfl rfl (Nat.le_of_ble_eq_true rfl) (Nat.le_of_ble_eq_true rfl) ⟨by rw [e], rfl⟩
              ·
                refine g_aload_n (q := 105) C dX2_isWellFormed_104 rfl rfl ?_
                refine g_getfield (v := .ref 41) (q := 108) C fX2_55 dX2_isWellFormed_105 rfl HL.1 rfl ?_
                refine g_iconst (v := 3) (q := 109) C dX2_isWellFormed_108 (by decide) rfl ?_
                refine g_callVi (x := (gat L.ca 3)) (q := 112) (As := [.int 3]) C gyX4_at gvX4_at t_644 (c_X4_at_w HL.2.2.2.2) dX2_isWellFormed_109 rfl (gRw.obj HL.2.2.2.2) rfl rfl rfl (Nat.le_of_ble_eq_true rfl) (Nat.le_of_ble_eq_true rfl) (Nat.le_of_ble_eq_true rfl) (Nat.le_of_ble_eq_true rfl) (Nat.le_of_ble_eq_true rfl) rfl ?_
                refine g_iconst (v := 1) (q := 113) C dX2_isWellFormed_112 (by decide) rfl ?_
                refine g_icmp_lt (t := 134) (q := 116) C dX2_isWellFormed_113 (by decide) rfl (fun c_113 => ?_) (fun c_113 => ?_)
                ·
                  refine g_iconst (v := 0) (q := 135) C dX2_isWellFormed_134 (by decide) rfl ?_
                  have e : rX2_isWellFormed L x y z = (0) := ((if_pos c_8).trans ((if_pos c_17).trans ((if_pos c_42).trans ((if_neg c_75).trans ((if_neg c_83).trans ((if_pos c_91).trans ((if_pos c_101).trans (if_pos c_113))))))))
                  exact E.1 _ _ _ _ _ _ _ dX2_isWellFormed_135 rfl rfl (Nat.le_of_ble_eq_true rfl) (Nat.le_of_ble_eq_true rfl) ⟨by rw [e], rfl⟩
                ·
                  refine g_aload_n (q := 117) C dX2_isWellFormed_116 rfl rfl ?_
                  refine g_getfield (v := .ref 41) (q := 120) C fX2_55 dX2_isWellFormed_117 rfl HL.1 rfl ?_
                  refine g_iconst (v := 3) (q := 121) C dX2_isWellFormed_120 (by decide) rfl ?_
                  refine g_callVi (x := (gat L.ca 3)) (q := 124) (As := [.int 3]) C gyX4_at gvX4_at t_644 (c_X4_at_w HL.2.2.2.2) dX2_isWellFormed_121 rfl (gRw.obj HL.2.2.2.2) rfl rfl rfl (Nat.le_of_ble_eq_true rfl) (Nat.le_of_ble_eq_true rfl) (Nat.le_of_ble_eq_true rfl) (Nat.le_of_ble_eq_true rfl) (Nat.le_of_ble_eq_true rfl) rfl ?_
                  refine g_sipush (v := 254) (q := 127) C dX2_isWellFormed_124 (by decide) rfl ?_
                  refine g_icmp_gt (t := 134) (q := 130) C dX2_isWellFormed_127 (by decide) rfl (fun c_127 => ?_) (fun c_127 => ?_)
                  ·
                    refine g_iconst (v := 0) (q := 135) C dX2_isWellFormed_134 (by decide) rfl ?_
                    have e : rX2_isWellFormed L x y z = (0) := ((if_pos c_8).trans ((if_pos c_17).trans ((if_pos c_42).trans ((if_neg c_75).trans ((if_neg c_83).trans ((if_pos c_91).trans ((if_pos c_101).trans ((if_neg c_113).trans (if_pos c_127)))))))))
                    exact E.1 _ _ _ _ _ _ _ dX2_isWellFormed_135 rfl rfl (Nat.le_of_ble_eq_true rfl) (Nat.le_of_ble_eq_true rfl) ⟨by rw [e], rfl⟩
                  ·
                    refine g_iconst (v := 1) (q := 131) C dX2_isWellFormed_130 (by decide) rfl ?_
                    refine g_goto (q := 135) C dX2_isWellFormed_131 (by decide) ?_
                    have e : rX2_isWellFormed L x y z = (1) := ((if_pos c_8).trans ((if_pos c_17).trans ((if_pos c_42).trans ((if_neg c_75).trans ((if_neg c_83).trans ((if_pos c_91).trans ((if_pos c_101).trans ((if_neg c_113).trans (if_neg c_127)))))))))
                    exact E.1 _ _ _ _ _ _ _ dX2_isWellFormed_135 rfl rfl (Nat.le_of_ble_eq_true rfl) (Nat.le_of_ble_eq_true rfl) ⟨by rw [e], rfl⟩
            ·
              refine g_iconst (v := 0) (q := 95) C dX2_isWellFormed_94 (by decide) rfl ?_
              have e : rX2_isWellFormed L x y z = (0) := ((if_pos c_8).trans ((if_pos c_17).trans ((if_pos c_42).trans ((if_neg c_75).trans ((if_neg c_83).trans (if_neg c_91))))))
              exact E.1 _ _ _ _ _ _ _ dX2_isWellFormed_95 rfl rfl (Nat.le_of_ble_eq_true rfl) (Nat.le_of_ble_eq_true rfl) ⟨by rw [e], rfl⟩
      ·
        refine g_iload_n (q := 46) C dX2_isWellFormed_45 rfl rfl ?_
        refine g_bipush (v := 32) (q := 48) C dX2_isWellFormed_46 (by decide) rfl ?_
        refine g_iand (q := 49) C dX2_isWellFormed_48 rfl ?_
        refine g_if_ne (t := 68) (q := 52) C dX2_isWellFormed_49 (by decide) rfl (fun c_49 => ?_) (fun c_49 => ?_)
        ·
          refine g_iconst (v := 0) (q := 69) C dX2_isWellFormed_68 (by decide) rfl ?_
          have e : rX2_isWellFormed L x y z = (0) := ((if_pos c_8).trans ((if_pos c_17).trans ((if_neg c_42).trans (if_neg c_49))))
          exact E.1 _ _ _ _ _ _ _ dX2_isWellFormed_69 rfl rfl (Nat.le_of_ble_eq_true rfl) (Nat.le_of_ble_eq_true rfl) ⟨by rw [e], rfl⟩
        ·
          refine g_iload_n (q := 53) C dX2_isWellFormed_52 rfl rfl ?_
          refine g_bipush (v := 15) (q := 55) C dX2_isWellFormed_53 (by decide) rfl ?_
          refine g_iand (q := 56) C dX2_isWellFormed_55 rfl ?_
          refine g_iconst (v := 2) (q := 57) C dX2_isWellFormed_56 (by decide) rfl ?_
          refine g_icmp_gt (t := 68) (q := 60) C dX2_isWellFormed_57 (by decide) rfl (fun c_57 => ?_) (fun c_57 => ?_)
          ·
            refine g_iconst (v := 0) (q := 69) C dX2_isWellFormed_68 (by decide) rfl ?_
            have e : rX2_isWellFormed L x y z = (0) := ((if_pos c_8).trans ((if_pos c_17).trans ((if_neg c_42).trans ((if_pos c_49).trans (if_pos c_57)))))
            exact E.1 _ _ _ _ _ _ _ dX2_isWellFormed_69 rfl rfl (Nat.le_of_ble_eq_true rfl) (Nat.le_of_ble_eq_true rfl) ⟨by rw [e], rfl⟩
          ·
            refine g_iload_n (q := 61) C dX2_isWellFormed_60 rfl rfl ?_
            refine g_if_ne (t := 68) (q := 64) C dX2_isWellFormed_61 (by decide) rfl (fun c_61 => ?_) (fun c_61 => ?_)
            ·
              refine g_iconst (v := 0) (q := 69) C dX2_isWellFormed_68 (by decide) rfl ?_
              have e : rX2_isWellFormed L x y z = (0) := ((if_pos c_8).trans ((if_pos c_17).trans ((if_neg c_42).trans ((if_pos c_49).trans ((if_neg c_57).trans (if_neg c_61))))))
              exact E.1 _ _ _ _ _ _ _ dX2_isWellFormed_69 rfl rfl (Nat.le_of_ble_eq_true rfl) (Nat.le_of_ble_eq_true rfl) ⟨by rw [e], rfl⟩
            ·
              refine g_iconst (v := 1) (q := 65) C dX2_isWellFormed_64 (by decide) rfl ?_
              refine g_goto (q := 69) C dX2_isWellFormed_65 (by decide) ?_
              have e : rX2_isWellFormed L x y z = (1) := ((if_pos c_8).trans ((if_pos c_17).trans ((if_neg c_42).trans ((if_pos c_49).trans ((if_neg c_57).trans (if_pos c_61))))))
              exact E.1 _ _ _ _ _ _ _ dX2_isWellFormed_69 rfl rfl (Nat.le_of_ble_eq_true rfl) (Nat.le_of_ble_eq_true rfl) ⟨by rw [e], rfl⟩
    ·
      refine g_iload_n (q := 21) C dX2_isWellFormed_20 rfl rfl ?_
      refine g_bipush (v := 31) (q := 23) C dX2_isWellFormed_21 (by decide) rfl ?_
      refine g_iand (q := 24) C dX2_isWellFormed_23 rfl ?_
      refine g_if_ne (t := 36) (q := 27) C dX2_isWellFormed_24 (by decide) rfl (fun c_24 => ?_) (fun c_24 => ?_)
      ·
        refine g_iconst (v := 0) (q := 37) C dX2_isWellFormed_36 (by decide) rfl ?_
        have e : rX2_isWellFormed L x y z = (0) := ((if_pos c_8).trans ((if_neg c_17).trans (if_neg c_24)))
        exact E.1 _ _ _ _ _ _ _ dX2_isWellFormed_37 rfl rfl (Nat.le_of_ble_eq_true rfl) (Nat.le_of_ble_eq_true rfl) ⟨by rw [e], rfl⟩
      ·
        refine g_iload_n (q := 28) C dX2_isWellFormed_27 rfl rfl ?_
        refine g_iload_n (q := 29) C dX2_isWellFormed_28 rfl rfl ?_
        refine g_icmp_gt (t := 36) (q := 32) C dX2_isWellFormed_29 (by decide) rfl (fun c_29 => ?_) (fun c_29 => ?_)
        ·
          refine g_iconst (v := 0) (q := 37) C dX2_isWellFormed_36 (by decide) rfl ?_
          have e : rX2_isWellFormed L x y z = (0) := ((if_pos c_8).trans ((if_neg c_17).trans ((if_pos c_24).trans (if_pos c_29))))
          exact E.1 _ _ _ _ _ _ _ dX2_isWellFormed_37 rfl rfl (Nat.le_of_ble_eq_true rfl) (Nat.le_of_ble_eq_true rfl) ⟨by rw [e], rfl⟩
        ·
          refine g_iconst (v := 1) (q := 33) C dX2_isWellFormed_32 (by decide) rfl ?_
          refine g_goto (q := 37) C dX2_isWellFormed_33 (by decide) ?_
          have e : rX2_isWellFormed L x y z = (1) := ((if_pos c_8).trans ((if_neg c_17).trans ((if_pos c_24).trans (if_neg c_29))))
          exact E.1 _ _ _ _ _ _ _ dX2_isWellFormed_37 rfl rfl (Nat.le_of_ble_eq_true rfl) (Nat.le_of_ble_eq_true rfl) ⟨by rw [e], rfl⟩
  ·
    refine g_iconst (v := 0) (q := 12) C dX2_isWellFormed_11 (by decide) rfl ?_
    have e : rX2_isWellFormed L x y z = (0) := (if_neg c_8)
    exact E.1 _ _ _ _ _ _ _ dX2_isWellFormed_12 rfl rfl (Nat.le_of_ble_eq_true rfl) (Nat.le_of_ble_eq_true rfl) ⟨by rw [e], rfl⟩
def rX2_judge (L : gLn) (x : Int32) (y : Int32) : Int32 := (if x = 3 then x else (if x = 2 then x else (if (nI L.ca.length) = ((gat L.ca 2) + 4) then (if x = 1 then 1 else (if (gxs L.ca L.ca.length) = 0 then (if (rX2_isWellFormed L (gat L.ca 1) (gat L.ca 2) y) = 0 then 2 else 0) else 1)) else 2)))
theorem dX2_judge_0 : decode cX2_judge 0 = .ok (.iload_n 1, 1) := by decide +kernel
theorem dX2_judge_1 : decode cX2_judge 1 = .ok (.iconst 3, 1) := by decide +kernel
theorem dX2_judge_2 : decode cX2_judge 2 = .ok (.if_icmp .eq 8, 3) := by decide +kernel
theorem dX2_judge_5 : decode cX2_judge 5 = .ok (.iload_n 1, 1) := by decide +kernel
theorem dX2_judge_6 : decode cX2_judge 6 = .ok (.iconst 2, 1) := by decide +kernel
theorem dX2_judge_7 : decode cX2_judge 7 = .ok (.if_icmp .ne 5, 3) := by decide +kernel
theorem dX2_judge_10 : decode cX2_judge 10 = .ok (.iload_n 1, 1) := by decide +kernel
theorem dX2_judge_11 : decode cX2_judge 11 = .ok (.ireturn, 1) := by decide +kernel
theorem dX2_judge_12 : decode cX2_judge 12 = .ok (.aload_n 0, 1) := by decide +kernel
theorem dX2_judge_13 : decode cX2_judge 13 = .ok (.getfield 55, 3) := by decide +kernel
theorem dX2_judge_16 : decode cX2_judge 16 = .ok (.invokevirtual 111, 3) := by decide +kernel
theorem dX2_judge_19 : decode cX2_judge 19 = .ok (.aload_n 0, 1) := by decide +kernel
theorem dX2_judge_20 : decode cX2_judge 20 = .ok (.getfield 55, 3) := by decide +kernel
theorem dX2_judge_23 : decode cX2_judge 23 = .ok (.iconst 2, 1) := by decide +kernel
theorem dX2_judge_24 : decode cX2_judge 24 = .ok (.invokevirtual 156, 3) := by decide +kernel
theorem dX2_judge_27 : decode cX2_judge 27 = .ok (.iconst 4, 1) := by decide +kernel
theorem dX2_judge_28 : decode cX2_judge 28 = .ok (.iadd, 1) := by decide +kernel
theorem dX2_judge_29 : decode cX2_judge 29 = .ok (.if_icmp .eq 5, 3) := by decide +kernel
theorem dX2_judge_32 : decode cX2_judge 32 = .ok (.iconst 2, 1) := by decide +kernel
theorem dX2_judge_33 : decode cX2_judge 33 = .ok (.ireturn, 1) := by decide +kernel
theorem dX2_judge_34 : decode cX2_judge 34 = .ok (.iload_n 1, 1) := by decide +kernel
theorem dX2_judge_35 : decode cX2_judge 35 = .ok (.iconst 1, 1) := by decide +kernel
theorem dX2_judge_36 : decode cX2_judge 36 = .ok (.if_icmp .eq 14, 3) := by decide +kernel
theorem dX2_judge_39 : decode cX2_judge 39 = .ok (.aload_n 0, 1) := by decide +kernel
theorem dX2_judge_40 : decode cX2_judge 40 = .ok (.getfield 55, 3) := by decide +kernel
theorem dX2_judge_43 : decode cX2_judge 43 = .ok (.iconst 0, 1) := by decide +kernel
theorem dX2_judge_44 : decode cX2_judge 44 = .ok (.invokevirtual 287, 3) := by decide +kernel
theorem dX2_judge_47 : decode cX2_judge 47 = .ok (.ifCond .eq 5, 3) := by decide +kernel
theorem dX2_judge_50 : decode cX2_judge 50 = .ok (.iconst 1, 1) := by decide +kernel
theorem dX2_judge_51 : decode cX2_judge 51 = .ok (.ireturn, 1) := by decide +kernel
theorem dX2_judge_52 : decode cX2_judge 52 = .ok (.aload_n 0, 1) := by decide +kernel
theorem dX2_judge_53 : decode cX2_judge 53 = .ok (.aload_n 0, 1) := by decide +kernel
theorem dX2_judge_54 : decode cX2_judge 54 = .ok (.getfield 55, 3) := by decide +kernel
theorem dX2_judge_57 : decode cX2_judge 57 = .ok (.iconst 1, 1) := by decide +kernel
theorem dX2_judge_58 : decode cX2_judge 58 = .ok (.invokevirtual 156, 3) := by decide +kernel
theorem dX2_judge_61 : decode cX2_judge 61 = .ok (.aload_n 0, 1) := by decide +kernel
theorem dX2_judge_62 : decode cX2_judge 62 = .ok (.getfield 55, 3) := by decide +kernel
theorem dX2_judge_65 : decode cX2_judge 65 = .ok (.iconst 2, 1) := by decide +kernel
theorem dX2_judge_66 : decode cX2_judge 66 = .ok (.invokevirtual 156, 3) := by decide +kernel
theorem dX2_judge_69 : decode cX2_judge 69 = .ok (.iload_n 2, 1) := by decide +kernel
theorem dX2_judge_70 : decode cX2_judge 70 = .ok (.invokevirtual 290, 3) := by decide +kernel
theorem dX2_judge_73 : decode cX2_judge 73 = .ok (.ifCond .eq 7, 3) := by decide +kernel
theorem dX2_judge_76 : decode cX2_judge 76 = .ok (.iconst 0, 1) := by decide +kernel
theorem dX2_judge_77 : decode cX2_judge 77 = .ok (.goto 4, 3) := by decide +kernel
theorem dX2_judge_80 : decode cX2_judge 80 = .ok (.iconst 2, 1) := by decide +kernel
theorem dX2_judge_81 : decode cX2_judge 81 = .ok (.ireturn, 1) := by decide +kernel
set_option maxRecDepth 100000 in
set_option maxHeartbeats 4000000 in
theorem c_X2_judge_l {hp : List gA} {L : gLn} {x : Int32} {y : Int32}  (HL : gLine hp L)  : gM yX2_judge cX2_judge 3 ((some .int)) 2 44 [.ref 20, .int x, .int y] (hp) (0) (0) (fun v h => v = some (.int (rX2_judge L x y)) ∧ h = hp) := by
  refine gM_of (ls0 := [some (.ref 20), some (.int x), some (.int y)]) (by decide +kernel) (Nat.le_of_ble_eq_true rfl) rfl fun X C E => ?_
  refine g_iload_n (q := 1) C dX2_judge_0 rfl rfl ?_
  refine g_iconst (v := 3) (q := 2) C dX2_judge_1 (by decide) rfl ?_
  refine g_icmp_eq (t := 10) (q := 5) C dX2_judge_2 (by decide) rfl (fun c_2 => ?_) (fun c_2 => ?_)
  ·
    refine g_iload_n (q := 11) C dX2_judge_10 rfl rfl ?_
    have e : rX2_judge L x y = (x) := (if_pos c_2)
    exact E.1 _ _ _ _ _ _ _ dX2_judge_11 rfl rfl (Nat.le_of_ble_eq_true rfl) (Nat.le_of_ble_eq_true rfl) ⟨by rw [e], rfl⟩
  ·
    refine g_iload_n (q := 6) C dX2_judge_5 rfl rfl ?_
    refine g_iconst (v := 2) (q := 7) C dX2_judge_6 (by decide) rfl ?_
    refine g_icmp_ne (t := 12) (q := 10) C dX2_judge_7 (by decide) rfl (fun c_7 => ?_) (fun c_7 => ?_)
    ·
      refine g_aload_n (q := 13) C dX2_judge_12 rfl rfl ?_
      refine g_getfield (v := .ref 41) (q := 16) C fX2_55 dX2_judge_13 rfl HL.1 rfl ?_
      refine g_callVi (x := (nI L.ca.length)) (q := 19) (As := []) C gyX4_size gvX4_size t_561 (c_X4_size (gRw.obj HL.2.2.2.2)) dX2_judge_16 rfl (gRw.obj HL.2.2.2.2) rfl rfl rfl (Nat.le_of_ble_eq_true rfl) (Nat.le_of_ble_eq_true rfl) (Nat.le_of_ble_eq_true rfl) (Nat.le_of_ble_eq_true rfl) (Nat.le_of_ble_eq_true rfl) rfl ?_
      refine g_aload_n (q := 20) C dX2_judge_19 rfl rfl ?_
      refine g_getfield (v := .ref 41) (q := 23) C fX2_55 dX2_judge_20 rfl HL.1 rfl ?_
      refine g_iconst (v := 2) (q := 24) C dX2_judge_23 (by decide) rfl ?_
      refine g_callVi (x := (gat L.ca 2)) (q := 27) (As := [.int 2]) C gyX4_at gvX4_at t_644 (c_X4_at_w HL.2.2.2.2) dX2_judge_24 rfl (gRw.obj HL.2.2.2.2) rfl rfl rfl (Nat.le_of_ble_eq_true rfl) (Nat.le_of_ble_eq_true rfl) (Nat.le_of_ble_eq_true rfl) (Nat.le_of_ble_eq_true rfl) (Nat.le_of_ble_eq_true rfl) rfl ?_
      refine g_iconst (v := 4) (q := 28) C dX2_judge_27 (by decide) rfl ?_
      refine g_iadd (q := 29) C dX2_judge_28 rfl ?_
      refine g_icmp_eq (t := 34) (q := 32) C dX2_judge_29 (by decide) rfl (fun c_29 => ?_) (fun c_29 => ?_)
      ·
        refine g_iload_n (q := 35) C dX2_judge_34 rfl rfl ?_
        refine g_iconst (v := 1) (q := 36) C dX2_judge_35 (by decide) rfl ?_
        refine g_icmp_eq (t := 50) (q := 39) C dX2_judge_36 (by decide) rfl (fun c_36 => ?_) (fun c_36 => ?_)
        ·
          refine g_iconst (v := 1) (q := 51) C dX2_judge_50 (by decide) rfl ?_
          have e : rX2_judge L x y = (1) := ((if_neg c_2).trans ((if_neg c_7).trans ((if_pos c_29).trans (if_pos c_36))))
          exact E.1 _ _ _ _ _ _ _ dX2_judge_51 rfl rfl (Nat.le_of_ble_eq_true rfl) (Nat.le_of_ble_eq_true rfl) ⟨by rw [e], rfl⟩
        ·
          refine g_aload_n (q := 40) C dX2_judge_39 rfl rfl ?_
          refine g_getfield (v := .ref 41) (q := 43) C fX2_55 dX2_judge_40 rfl HL.1 rfl ?_
          refine g_iconst (v := 0) (q := 44) C dX2_judge_43 (by decide) rfl ?_
          refine g_callVi (x := (gxs L.ca L.ca.length)) (q := 47) (As := [.int 0]) C gyX4_xor gvX4_xor t_741 (c_X4_xor_w HL.2.2.2.2) dX2_judge_44 rfl (gRw.obj HL.2.2.2.2) rfl rfl rfl (Nat.le_of_ble_eq_true rfl) (Nat.le_of_ble_eq_true rfl) (Nat.le_of_ble_eq_true rfl) (Nat.le_of_ble_eq_true rfl) (Nat.le_of_ble_eq_true rfl) rfl ?_
          refine g_if_eq (t := 52) (q := 50) C dX2_judge_47 (by decide) rfl (fun c_47 => ?_) (fun c_47 => ?_)
          ·
            refine g_aload_n (q := 53) C dX2_judge_52 rfl rfl ?_
            refine g_aload_n (q := 54) C dX2_judge_53 rfl rfl ?_
            refine g_getfield (v := .ref 41) (q := 57) C fX2_55 dX2_judge_54 rfl HL.1 rfl ?_
            refine g_iconst (v := 1) (q := 58) C dX2_judge_57 (by decide) rfl ?_
            refine g_callVi (x := (gat L.ca 1)) (q := 61) (As := [.int 1]) C gyX4_at gvX4_at t_644 (c_X4_at_w HL.2.2.2.2) dX2_judge_58 rfl (gRw.obj HL.2.2.2.2) rfl rfl rfl (Nat.le_of_ble_eq_true rfl) (Nat.le_of_ble_eq_true rfl) (Nat.le_of_ble_eq_true rfl) (Nat.le_of_ble_eq_true rfl) (Nat.le_of_ble_eq_true rfl) rfl ?_
            refine g_aload_n (q := 62) C dX2_judge_61 rfl rfl ?_
            refine g_getfield (v := .ref 41) (q := 65) C fX2_55 dX2_judge_62 rfl HL.1 rfl ?_
            refine g_iconst (v := 2) (q := 66) C dX2_judge_65 (by decide) rfl ?_
            refine g_callVi (x := (gat L.ca 2)) (q := 69) (As := [.int 2]) C gyX4_at gvX4_at t_644 (c_X4_at_w HL.2.2.2.2) dX2_judge_66 rfl (gRw.obj HL.2.2.2.2) rfl rfl rfl (Nat.le_of_ble_eq_true rfl) (Nat.le_of_ble_eq_true rfl) (Nat.le_of_ble_eq_true rfl) (Nat.le_of_ble_eq_true rfl) (Nat.le_of_ble_eq_true rfl) rfl ?_
            refine g_iload_n (q := 70) C dX2_judge_69 rfl rfl ?_
            refine g_callVi (x := (rX2_isWellFormed L (gat L.ca 1) (gat L.ca 2) y)) (q := 73) (As := [.int ((gat L.ca 1)), .int ((gat L.ca 2)), .int y]) C gyX2_isWellFormed gvX2_isWellFormed t_770 (c_X2_isWellFormed_l HL) dX2_judge_70 rfl HL.1 rfl rfl rfl (Nat.le_of_ble_eq_true rfl) (Nat.le_of_ble_eq_true rfl) (Nat.le_of_ble_eq_true rfl) (Nat.le_of_ble_eq_true rfl) (Nat.le_of_ble_eq_true rfl) rfl ?_
            refine g_if_eq (t := 80) (q := 76) C dX2_judge_73 (by decide) rfl (fun c_73 => ?_) (fun c_73 => ?_)
            ·
              refine g_iconst (v := 2) (q := 81) C dX2_judge_80 (by decide) rfl ?_
              have e : rX2_judge L x y = (2) := ((if_neg c_2).trans ((if_neg c_7).trans ((if_pos c_29).trans ((if_neg c_36).trans ((if_pos c_47).trans (if_pos c_73))))))
              exact E.1 _ _ _ _ _ _ _ dX2_judge_81 rfl rfl (Nat.le_of_ble_eq_true rfl) (Nat.le_of_ble_eq_true rfl) ⟨by rw [e], rfl⟩
            ·
              refine g_iconst (v := 0) (q := 77) C dX2_judge_76 (by decide) rfl ?_
              refine g_goto (q := 81) C dX2_judge_77 (by decide) ?_
              have e : rX2_judge L x y = (0) := ((if_neg c_2).trans ((if_neg c_7).trans ((if_pos c_29).trans ((if_neg c_36).trans ((if_pos c_47).trans (if_neg c_73))))))
              exact E.1 _ _ _ _ _ _ _ dX2_judge_81 rfl rfl (Nat.le_of_ble_eq_true rfl) (Nat.le_of_ble_eq_true rfl) ⟨by rw [e], rfl⟩
          ·
            refine g_iconst (v := 1) (q := 51) C dX2_judge_50 (by decide) rfl ?_
            have e : rX2_judge L x y = (1) := ((if_neg c_2).trans ((if_neg c_7).trans ((if_pos c_29).trans ((if_neg c_36).trans (if_neg c_47)))))
            exact E.1 _ _ _ _ _ _ _ dX2_judge_51 rfl rfl (Nat.le_of_ble_eq_true rfl) (Nat.le_of_ble_eq_true rfl) ⟨by rw [e], rfl⟩
      ·
        refine g_iconst (v := 2) (q := 33) C dX2_judge_32 (by decide) rfl ?_
        have e : rX2_judge L x y = (2) := ((if_neg c_2).trans ((if_neg c_7).trans (if_neg c_29)))
        exact E.1 _ _ _ _ _ _ _ dX2_judge_33 rfl rfl (Nat.le_of_ble_eq_true rfl) (Nat.le_of_ble_eq_true rfl) ⟨by rw [e], rfl⟩
    ·
      refine g_iload_n (q := 11) C dX2_judge_10 rfl rfl ?_
      have e : rX2_judge L x y = (x) := ((if_neg c_2).trans (if_pos c_7))
      exact E.1 _ _ _ _ _ _ _ dX2_judge_11 rfl rfl (Nat.le_of_ble_eq_true rfl) (Nat.le_of_ble_eq_true rfl) ⟨by rw [e], rfl⟩
def rX2_doMessage (L : gLn) : Int32 × gLn := (if ((gat L.cd.got 0) &&& 7) = 0 then ((-2), (L.side 1 (L.cd.row 0 L.cd.got))) else (if ((gat L.cd.got 0) &&& 7) = 1 then ((rX2_putCounting L ((gat L.cd.got 1) - (gat L.cd.got 1) / 61 * 61)).1, (rX2_putCounting L ((gat L.cd.got 1) - (gat L.cd.got 1) / 61 * 61)).2) else (if ((gat L.cd.got 0) &&& 7) = 2 then (if (nI L.cd.got.length) ≤ 2 then (if (L.set 10 1).wl ≤ 0 then ((rX2_putBehindThird (L.set 10 1)).1, (rX2_putBehindThird (L.set 10 1)).2) else (if (nI (L.set 10 1).cd.got.length) ≤ 1 then ((192 + 3), ((L.set 10 1).side 1 (((L.set 10 1).cd.set 4 3).set 5 1))) else ((192 + 3), ((L.set 10 1).side 1 (((L.set 10 1).cd.set 4 3).set 5 (gat L.cd.got 1)))))) else (if (L.set 10 ((gat L.cd.got 2) &&& 3)).wl ≤ 0 then ((rX2_putBehindThird (L.set 10 ((gat L.cd.got 2) &&& 3))).1, (rX2_putBehindThird (L.set 10 ((gat L.cd.got 2) &&& 3))).2) else (if (nI (L.set 10 ((gat L.cd.got 2) &&& 3)).cd.got.length) ≤ 1 then ((192 + 3), ((L.set 10 ((gat L.cd.got 2) &&& 3)).side 1 (((L.set 10 ((gat L.cd.got 2) &&& 3)).cd.set 4 3).set 5 1))) else ((192 + 3), ((L.set 10 ((gat L.cd.got 2) &&& 3)).side 1 (((L.set 10 ((gat L.cd.got 2) &&& 3)).cd.set 4 3).set 5 (gat L.cd.got 1))))))) else (if ((gat L.cd.got 0) &&& 7) = 3 then (if (gat L.cd.got 1) < 1 then ((192 + 1), (L.side 1 ((L.cd.set 4 1).set 5 32))) else (if 254 < (gat L.cd.got 1) then ((192 + 1), (L.side 1 ((L.cd.set 4 1).set 5 32))) else ((192 + 1), (L.side 1 ((L.cd.set 4 1).set 5 (gat L.cd.got 1)))))) else (if ((gat L.cd.got 0) &&& 7) = 4 then ((192 + 2), (L.side 1 ((L.cd.set 4 2).set 5 0))) else (if ((gat L.cd.got 0) &&& 7) = 5 then ((-1), (L.set 11 (((gat L.cd.got 1) &&& 3) + 1))) else ((-2), (((L.side 1 (L.cd.row 0 [])).side 1 ((L.side 1 (L.cd.row 0 [])).cd.row 0 (((L.side 1 (L.cd.row 0 [])).cd.out ++ [(gat (L.side 1 (L.cd.row 0 [])).cd.got 0)]).take 60))).side 1 (((L.side 1 (L.cd.row 0 [])).side 1 ((L.side 1 (L.cd.row 0 [])).cd.row 0 (((L.side 1 (L.cd.row 0 [])).cd.out ++ [(gat (L.side 1 (L.cd.row 0 [])).cd.got 0)]).take 60))).cd.row 0 ((((L.side 1 (L.cd.row 0 [])).side 1 ((L.side 1 (L.cd.row 0 [])).cd.row 0 (((L.side 1 (L.cd.row 0 [])).cd.out ++ [(gat (L.side 1 (L.cd.row 0 [])).cd.got 0)]).take 60))).cd.out ++ [(nI ((L.side 1 (L.cd.row 0 [])).side 1 ((L.side 1 (L.cd.row 0 [])).cd.row 0 (((L.side 1 (L.cd.row 0 [])).cd.out ++ [(gat (L.side 1 (L.cd.row 0 [])).cd.got 0)]).take 60))).cd.got.length)]).take 60))))))))))
theorem dX2_doMessage_0 : decode cX2_doMessage 0 = .ok (.aload_n 0, 1) := by decide +kernel
theorem dX2_doMessage_1 : decode cX2_doMessage 1 = .ok (.getfield 20, 3) := by decide +kernel
theorem dX2_doMessage_4 : decode cX2_doMessage 4 = .ok (.getfield 235, 3) := by decide +kernel
theorem dX2_doMessage_7 : decode cX2_doMessage 7 = .ok (.astore_n 1, 1) := by decide +kernel
theorem dX2_doMessage_8 : decode cX2_doMessage 8 = .ok (.aload_n 1, 1) := by decide +kernel
theorem dX2_doMessage_9 : decode cX2_doMessage 9 = .ok (.iconst 1, 1) := by decide +kernel
theorem dX2_doMessage_10 : decode cX2_doMessage 10 = .ok (.invokevirtual 156, 3) := by decide +kernel
theorem dX2_doMessage_13 : decode cX2_doMessage 13 = .ok (.istore_n 2, 1) := by decide +kernel
theorem dX2_doMessage_14 : decode cX2_doMessage 14 = .ok (.aload_n 1, 1) := by decide +kernel
theorem dX2_doMessage_15 : decode cX2_doMessage 15 = .ok (.iconst 0, 1) := by decide +kernel
theorem dX2_doMessage_16 : decode cX2_doMessage 16 = .ok (.invokevirtual 156, 3) := by decide +kernel
theorem dX2_doMessage_19 : decode cX2_doMessage 19 = .ok (.bipush 7, 2) := by decide +kernel
theorem dX2_doMessage_21 : decode cX2_doMessage 21 = .ok (.iand, 1) := by decide +kernel
theorem dX2_doMessage_22 : decode cX2_doMessage 22 = .ok (.tableswitch 168 0 5 #[38, 52, 61, 120, 147, 157], 38) := by decide +kernel
theorem dX2_doMessage_60 : decode cX2_doMessage 60 = .ok (.aload_n 0, 1) := by decide +kernel
theorem dX2_doMessage_61 : decode cX2_doMessage 61 = .ok (.getfield 20, 3) := by decide +kernel
theorem dX2_doMessage_64 : decode cX2_doMessage 64 = .ok (.getfield 102, 3) := by decide +kernel
theorem dX2_doMessage_67 : decode cX2_doMessage 67 = .ok (.aload_n 1, 1) := by decide +kernel
theorem dX2_doMessage_68 : decode cX2_doMessage 68 = .ok (.invokevirtual 99, 3) := by decide +kernel
theorem dX2_doMessage_71 : decode cX2_doMessage 71 = .ok (.bipush (-2), 2) := by decide +kernel
theorem dX2_doMessage_73 : decode cX2_doMessage 73 = .ok (.ireturn, 1) := by decide +kernel
theorem dX2_doMessage_74 : decode cX2_doMessage 74 = .ok (.aload_n 0, 1) := by decide +kernel
theorem dX2_doMessage_75 : decode cX2_doMessage 75 = .ok (.iload_n 2, 1) := by decide +kernel
theorem dX2_doMessage_76 : decode cX2_doMessage 76 = .ok (.bipush 61, 2) := by decide +kernel
theorem dX2_doMessage_78 : decode cX2_doMessage 78 = .ok (.irem, 1) := by decide +kernel
theorem dX2_doMessage_79 : decode cX2_doMessage 79 = .ok (.invokevirtual 238, 3) := by decide +kernel
theorem dX2_doMessage_82 : decode cX2_doMessage 82 = .ok (.ireturn, 1) := by decide +kernel
theorem dX2_doMessage_83 : decode cX2_doMessage 83 = .ok (.aload_n 0, 1) := by decide +kernel
theorem dX2_doMessage_84 : decode cX2_doMessage 84 = .ok (.aload_n 1, 1) := by decide +kernel
theorem dX2_doMessage_85 : decode cX2_doMessage 85 = .ok (.invokevirtual 111, 3) := by decide +kernel
theorem dX2_doMessage_88 : decode cX2_doMessage 88 = .ok (.iconst 2, 1) := by decide +kernel
theorem dX2_doMessage_89 : decode cX2_doMessage 89 = .ok (.if_icmp .le 13, 3) := by decide +kernel
theorem dX2_doMessage_92 : decode cX2_doMessage 92 = .ok (.aload_n 1, 1) := by decide +kernel
theorem dX2_doMessage_93 : decode cX2_doMessage 93 = .ok (.iconst 2, 1) := by decide +kernel
theorem dX2_doMessage_94 : decode cX2_doMessage 94 = .ok (.invokevirtual 156, 3) := by decide +kernel
theorem dX2_doMessage_97 : decode cX2_doMessage 97 = .ok (.iconst 3, 1) := by decide +kernel
theorem dX2_doMessage_98 : decode cX2_doMessage 98 = .ok (.iand, 1) := by decide +kernel
theorem dX2_doMessage_99 : decode cX2_doMessage 99 = .ok (.goto 4, 3) := by decide +kernel
theorem dX2_doMessage_102 : decode cX2_doMessage 102 = .ok (.iconst 1, 1) := by decide +kernel
theorem dX2_doMessage_103 : decode cX2_doMessage 103 = .ok (.putfield 74, 3) := by decide +kernel
theorem dX2_doMessage_106 : decode cX2_doMessage 106 = .ok (.aload_n 0, 1) := by decide +kernel
theorem dX2_doMessage_107 : decode cX2_doMessage 107 = .ok (.getfield 74, 3) := by decide +kernel
theorem dX2_doMessage_110 : decode cX2_doMessage 110 = .ok (.ifCond .le 27, 3) := by decide +kernel
theorem dX2_doMessage_113 : decode cX2_doMessage 113 = .ok (.aload_n 0, 1) := by decide +kernel
theorem dX2_doMessage_114 : decode cX2_doMessage 114 = .ok (.getfield 20, 3) := by decide +kernel
theorem dX2_doMessage_117 : decode cX2_doMessage 117 = .ok (.iconst 3, 1) := by decide +kernel
theorem dX2_doMessage_118 : decode cX2_doMessage 118 = .ok (.aload_n 1, 1) := by decide +kernel
theorem dX2_doMessage_119 : decode cX2_doMessage 119 = .ok (.invokevirtual 111, 3) := by decide +kernel
theorem dX2_doMessage_122 : decode cX2_doMessage 122 = .ok (.iconst 1, 1) := by decide +kernel
theorem dX2_doMessage_123 : decode cX2_doMessage 123 = .ok (.if_icmp .le 7, 3) := by decide +kernel
theorem dX2_doMessage_126 : decode cX2_doMessage 126 = .ok (.iload_n 2, 1) := by decide +kernel
theorem dX2_doMessage_127 : decode cX2_doMessage 127 = .ok (.goto 4, 3) := by decide +kernel
theorem dX2_doMessage_130 : decode cX2_doMessage 130 = .ok (.iconst 1, 1) := by decide +kernel
theorem dX2_doMessage_131 : decode cX2_doMessage 131 = .ok (.invokevirtual 145, 3) := by decide +kernel
theorem dX2_doMessage_134 : decode cX2_doMessage 134 = .ok (.goto 7, 3) := by decide +kernel
theorem dX2_doMessage_137 : decode cX2_doMessage 137 = .ok (.aload_n 0, 1) := by decide +kernel
theorem dX2_doMessage_138 : decode cX2_doMessage 138 = .ok (.invokevirtual 201, 3) := by decide +kernel
theorem dX2_doMessage_141 : decode cX2_doMessage 141 = .ok (.ireturn, 1) := by decide +kernel
theorem dX2_doMessage_142 : decode cX2_doMessage 142 = .ok (.aload_n 0, 1) := by decide +kernel
theorem dX2_doMessage_143 : decode cX2_doMessage 143 = .ok (.getfield 20, 3) := by decide +kernel
theorem dX2_doMessage_146 : decode cX2_doMessage 146 = .ok (.iconst 1, 1) := by decide +kernel
theorem dX2_doMessage_147 : decode cX2_doMessage 147 = .ok (.iload_n 2, 1) := by decide +kernel
theorem dX2_doMessage_148 : decode cX2_doMessage 148 = .ok (.iconst 1, 1) := by decide +kernel
theorem dX2_doMessage_149 : decode cX2_doMessage 149 = .ok (.if_icmp .lt 14, 3) := by decide +kernel
theorem dX2_doMessage_152 : decode cX2_doMessage 152 = .ok (.iload_n 2, 1) := by decide +kernel
theorem dX2_doMessage_153 : decode cX2_doMessage 153 = .ok (.sipush 254, 3) := by decide +kernel
theorem dX2_doMessage_156 : decode cX2_doMessage 156 = .ok (.if_icmp .gt 7, 3) := by decide +kernel
theorem dX2_doMessage_159 : decode cX2_doMessage 159 = .ok (.iload_n 2, 1) := by decide +kernel
theorem dX2_doMessage_160 : decode cX2_doMessage 160 = .ok (.goto 5, 3) := by decide +kernel
theorem dX2_doMessage_163 : decode cX2_doMessage 163 = .ok (.bipush 32, 2) := by decide +kernel
theorem dX2_doMessage_165 : decode cX2_doMessage 165 = .ok (.invokevirtual 145, 3) := by decide +kernel
theorem dX2_doMessage_168 : decode cX2_doMessage 168 = .ok (.ireturn, 1) := by decide +kernel
theorem dX2_doMessage_169 : decode cX2_doMessage 169 = .ok (.aload_n 0, 1) := by decide +kernel
theorem dX2_doMessage_170 : decode cX2_doMessage 170 = .ok (.getfield 20, 3) := by decide +kernel
theorem dX2_doMessage_173 : decode cX2_doMessage 173 = .ok (.iconst 2, 1) := by decide +kernel
theorem dX2_doMessage_174 : decode cX2_doMessage 174 = .ok (.iconst 0, 1) := by decide +kernel
theorem dX2_doMessage_175 : decode cX2_doMessage 175 = .ok (.invokevirtual 145, 3) := by decide +kernel
theorem dX2_doMessage_178 : decode cX2_doMessage 178 = .ok (.ireturn, 1) := by decide +kernel
theorem dX2_doMessage_179 : decode cX2_doMessage 179 = .ok (.aload_n 0, 1) := by decide +kernel
theorem dX2_doMessage_180 : decode cX2_doMessage 180 = .ok (.iload_n 2, 1) := by decide +kernel
theorem dX2_doMessage_181 : decode cX2_doMessage 181 = .ok (.iconst 3, 1) := by decide +kernel
theorem dX2_doMessage_182 : decode cX2_doMessage 182 = .ok (.iand, 1) := by decide +kernel
theorem dX2_doMessage_183 : decode cX2_doMessage 183 = .ok (.iconst 1, 1) := by decide +kernel
theorem dX2_doMessage_184 : decode cX2_doMessage 184 = .ok (.iadd, 1) := by decide +kernel
theorem dX2_doMessage_185 : decode cX2_doMessage 185 = .ok (.putfield 77, 3) := by decide +kernel
theorem dX2_doMessage_188 : decode cX2_doMessage 188 = .ok (.iconst (-1), 1) := by decide +kernel
theorem dX2_doMessage_189 : decode cX2_doMessage 189 = .ok (.ireturn, 1) := by decide +kernel
theorem dX2_doMessage_190 : decode cX2_doMessage 190 = .ok (.aload_n 0, 1) := by decide +kernel
theorem dX2_doMessage_191 : decode cX2_doMessage 191 = .ok (.getfield 20, 3) := by decide +kernel
theorem dX2_doMessage_194 : decode cX2_doMessage 194 = .ok (.getfield 102, 3) := by decide +kernel
theorem dX2_doMessage_197 : decode cX2_doMessage 197 = .ok (.iconst 0, 1) := by decide +kernel
theorem dX2_doMessage_198 : decode cX2_doMessage 198 = .ok (.invokevirtual 89, 3) := by decide +kernel
theorem dX2_doMessage_201 : decode cX2_doMessage 201 = .ok (.aload_n 0, 1) := by decide +kernel
theorem dX2_doMessage_202 : decode cX2_doMessage 202 = .ok (.getfield 20, 3) := by decide +kernel
theorem dX2_doMessage_205 : decode cX2_doMessage 205 = .ok (.getfield 102, 3) := by decide +kernel
theorem dX2_doMessage_208 : decode cX2_doMessage 208 = .ok (.aload_n 1, 1) := by decide +kernel
theorem dX2_doMessage_209 : decode cX2_doMessage 209 = .ok (.iconst 0, 1) := by decide +kernel
theorem dX2_doMessage_210 : decode cX2_doMessage 210 = .ok (.invokevirtual 156, 3) := by decide +kernel
theorem dX2_doMessage_213 : decode cX2_doMessage 213 = .ok (.invokevirtual 241, 3) := by decide +kernel
theorem dX2_doMessage_216 : decode cX2_doMessage 216 = .ok (.aload_n 0, 1) := by decide +kernel
theorem dX2_doMessage_217 : decode cX2_doMessage 217 = .ok (.getfield 20, 3) := by decide +kernel
theorem dX2_doMessage_220 : decode cX2_doMessage 220 = .ok (.getfield 102, 3) := by decide +kernel
theorem dX2_doMessage_223 : decode cX2_doMessage 223 = .ok (.aload_n 1, 1) := by decide +kernel
theorem dX2_doMessage_224 : decode cX2_doMessage 224 = .ok (.invokevirtual 111, 3) := by decide +kernel
theorem dX2_doMessage_227 : decode cX2_doMessage 227 = .ok (.invokevirtual 241, 3) := by decide +kernel
theorem dX2_doMessage_230 : decode cX2_doMessage 230 = .ok (.bipush (-2), 2) := by decide +kernel
theorem dX2_doMessage_232 : decode cX2_doMessage 232 = .ok (.ireturn, 1) := by decide +kernel
set_option maxRecDepth 100000 in
set_option maxHeartbeats 4000000 in
theorem c_X2_doMessage_l {hp : List gA} {L : gLn}  (HL : gLine hp L)  : gM yX2_doMessage cX2_doMessage 3 ((some .int)) 4 125 [.ref 20] (hp) (0) (0) (fun v h => v = some (.int (rX2_doMessage L).1) ∧ (gLine h (rX2_doMessage L).2 ∧ gFL hp h)) := by
  refine gM_of (ls0 := [some (.ref 20), none, none]) (by decide +kernel) (Nat.le_of_ble_eq_true rfl) rfl fun X C E => ?_
  refine g_aload_n (q := 1) C dX2_doMessage_0 rfl rfl ?_
  refine g_getfield (v := .ref 28) (q := 4) C fX2_20 dX2_doMessage_1 rfl HL.1 rfl ?_
  refine g_getfieldW (v := .ref 31) (q := 7) C fX2_235 dX2_doMessage_4 rfl HL.2.2.1.1 rfl ?_
  refine g_astore_n (q := 8) C dX2_doMessage_7 (Nat.le_of_ble_eq_true rfl) (by simp only [gset]; rfl) rfl ?_
  refine g_aload_n (q := 9) C dX2_doMessage_8 rfl rfl ?_
  refine g_iconst (v := 1) (q := 10) C dX2_doMessage_9 (by decide) rfl ?_
  refine g_callVi (x := (gat L.cd.got 1)) (q := 13) (As := [.int 1]) C gyX4_at gvX4_at t_644 (c_X4_at_w HL.2.2.1.2.2.1) dX2_doMessage_10 rfl (gRw.obj HL.2.2.1.2.2.1) rfl rfl rfl (Nat.le_of_ble_eq_true rfl) (Nat.le_of_ble_eq_true rfl) (Nat.le_of_ble_eq_true rfl) (Nat.le_of_ble_eq_true rfl) (Nat.le_of_ble_eq_true rfl) rfl ?_
  refine g_istore_n (q := 14) C dX2_doMessage_13 (Nat.le_of_ble_eq_true rfl) (by simp only [gset]; rfl) rfl ?_
  refine g_aload_n (q := 15) C dX2_doMessage_14 rfl rfl ?_
  refine g_iconst (v := 0) (q := 16) C dX2_doMessage_15 (by decide) rfl ?_
  refine g_callVi (x := (gat L.cd.got 0)) (q := 19) (As := [.int 0]) C gyX4_at gvX4_at t_644 (c_X4_at_w HL.2.2.1.2.2.1) dX2_doMessage_16 rfl (gRw.obj HL.2.2.1.2.2.1) rfl rfl rfl (Nat.le_of_ble_eq_true rfl) (Nat.le_of_ble_eq_true rfl) (Nat.le_of_ble_eq_true rfl) (Nat.le_of_ble_eq_true rfl) (Nat.le_of_ble_eq_true rfl) rfl ?_
  refine g_bipush (v := 7) (q := 21) C dX2_doMessage_19 (by decide) rfl ?_
  refine g_iand (q := 22) C dX2_doMessage_21 rfl ?_
  by_cases c_22_0 : ((gat L.cd.got 0) &&& 7) = 0
  ·
    refine g_tableE (v := 0) (off := 38) (t := 60) C dX2_doMessage_22 c_22_0 (by decide) (by decide) (by decide) (by decide) ?_
    refine g_aload_n (q := 61) C dX2_doMessage_60 rfl rfl ?_
    refine g_getfield (v := .ref 28) (q := 64) C fX2_20 dX2_doMessage_61 rfl HL.1 rfl ?_
    refine g_getfieldW (v := .ref 29) (q := 67) C fX2_102 dX2_doMessage_64 rfl HL.2.2.1.1 rfl ?_
    refine g_aload_n (q := 68) C dX2_doMessage_67 rfl rfl ?_
    refine g_callVvp (q := 71) (As := [.ref 31]) C gyX4_copy gvX4_copy t_548 (c_X4_copy_w HL.2.2.1.2.1 HL.2.2.1.2.2.1 (gRw.le HL.2.2.1.2.2.1).1) dX2_doMessage_68 rfl (gRw.obj HL.2.2.1.2.1) rfl rfl rfl (Nat.le_of_ble_eq_true rfl) (Nat.le_of_ble_eq_true rfl) (Nat.le_of_ble_eq_true rfl) (Nat.le_of_ble_eq_true rfl) (Nat.le_of_ble_eq_true rfl) rfl (fun h1 z1 => ?_)
    obtain ⟨HL1, fr1⟩ := gLine.cd_out HL z1
    refine g_bipush (v := (-2)) (q := 73) C dX2_doMessage_71 (by decide) rfl ?_
    have e : rX2_doMessage L = ((-2), (L.side 1 (L.cd.row 0 L.cd.got))) := (if_pos c_22_0)
    exact E.1 _ _ _ _ _ _ _ dX2_doMessage_73 rfl rfl (Nat.le_of_ble_eq_true rfl) (Nat.le_of_ble_eq_true rfl) ⟨by rw [e], by rw [e]; exact ⟨HL1, fr1⟩⟩
  by_cases c_22_1 : ((gat L.cd.got 0) &&& 7) = 1
  ·
    refine g_tableE (v := 1) (off := 52) (t := 74) C dX2_doMessage_22 c_22_1 (by decide) (by decide) (by decide) (by decide) ?_
    refine g_aload_n (q := 75) C dX2_doMessage_74 rfl rfl ?_
    refine g_iload_n (q := 76) C dX2_doMessage_75 rfl rfl ?_
    refine g_bipush (v := 61) (q := 78) C dX2_doMessage_76 (by decide) rfl ?_
    refine g_irem (q := 79) C dX2_doMessage_78 (by decide) rfl ?_
    refine g_callVix (x := (rX2_putCounting L ((gat L.cd.got 1) - (gat L.cd.got 1) / 61 * 61)).1) (q := 82) (As := [.int (((gat L.cd.got 1) - (gat L.cd.got 1) / 61 * 61))]) C gyX2_putCounting gvX2_putCounting t_820 (c_X2_putCounting_l HL) dX2_doMessage_79 rfl HL.1 rfl rfl rfl (Nat.le_of_ble_eq_true rfl) (Nat.le_of_ble_eq_true rfl) (Nat.le_of_ble_eq_true rfl) (Nat.le_of_ble_eq_true rfl) (Nat.le_of_ble_eq_true rfl) rfl (fun h2 z2 => ?_)
    obtain ⟨HL2, fr2⟩ := z2
    have e : rX2_doMessage L = ((rX2_putCounting L ((gat L.cd.got 1) - (gat L.cd.got 1) / 61 * 61)).1, (rX2_putCounting L ((gat L.cd.got 1) - (gat L.cd.got 1) / 61 * 61)).2) := ((if_neg c_22_0).trans (if_pos c_22_1))
    exact E.1 _ _ _ _ _ _ _ dX2_doMessage_82 rfl rfl (Nat.le_of_ble_eq_true rfl) (Nat.le_of_ble_eq_true rfl) ⟨by rw [e], by rw [e]; exact ⟨HL2, fr2⟩⟩
  by_cases c_22_2 : ((gat L.cd.got 0) &&& 7) = 2
  ·
    refine g_tableE (v := 2) (off := 61) (t := 83) C dX2_doMessage_22 c_22_2 (by decide) (by decide) (by decide) (by decide) ?_
    refine g_aload_n (q := 84) C dX2_doMessage_83 rfl rfl ?_
    refine g_aload_n (q := 85) C dX2_doMessage_84 rfl rfl ?_
    refine g_callVi (x := (nI L.cd.got.length)) (q := 88) (As := []) C gyX4_size gvX4_size t_561 (c_X4_size (gRw.obj HL.2.2.1.2.2.1)) dX2_doMessage_85 rfl (gRw.obj HL.2.2.1.2.2.1) rfl rfl rfl (Nat.le_of_ble_eq_true rfl) (Nat.le_of_ble_eq_true rfl) (Nat.le_of_ble_eq_true rfl) (Nat.le_of_ble_eq_true rfl) (Nat.le_of_ble_eq_true rfl) rfl ?_
    refine g_iconst (v := 2) (q := 89) C dX2_doMessage_88 (by decide) rfl ?_
    refine g_icmp_le (t := 102) (q := 92) C dX2_doMessage_89 (by decide) rfl (fun c_89 => ?_) (fun c_89 => ?_)
    ·
      refine g_iconst (v := 1) (q := 103) C dX2_doMessage_102 (by decide) rfl ?_
      refine g_putfield (q := 106) C fX2_74 dX2_doMessage_103 rfl HL.1 (Nat.le_of_ble_eq_true rfl) (Or.inl rfl) rfl rfl (by intro z h; cases h) ?_
      refine gLput (k := 10) (x := 1) HL rfl fun h3 HL3 fr3 => ?_
      refine g_aload_n (q := 107) C dX2_doMessage_106 rfl rfl ?_
      refine g_getfield (v := .int ((L.set 10 1).wl)) (q := 110) C fX2_74 dX2_doMessage_107 rfl HL3.1 rfl ?_
      refine g_if_le (t := 137) (q := 113) C dX2_doMessage_110 (by decide) rfl (fun c_110 => ?_) (fun c_110 => ?_)
      ·
        refine g_aload_n (q := 138) C dX2_doMessage_137 rfl rfl ?_
        refine g_callVix (x := (rX2_putBehindThird (L.set 10 1)).1) (q := 141) (As := []) C gyX2_putBehindThird gvX2_putBehindThird t_812 (c_X2_putBehindThird_l HL3) dX2_doMessage_138 rfl HL3.1 rfl rfl rfl (Nat.le_of_ble_eq_true rfl) (Nat.le_of_ble_eq_true rfl) (Nat.le_of_ble_eq_true rfl) (Nat.le_of_ble_eq_true rfl) (Nat.le_of_ble_eq_true rfl) rfl (fun h4 z4 => ?_)
        obtain ⟨HL4, fr4⟩ := z4
        have e : rX2_doMessage L = ((rX2_putBehindThird (L.set 10 1)).1, (rX2_putBehindThird (L.set 10 1)).2) := ((if_neg c_22_0).trans ((if_neg c_22_1).trans ((if_pos c_22_2).trans ((if_pos c_89).trans (if_pos c_110)))))
        exact E.1 _ _ _ _ _ _ _ dX2_doMessage_141 rfl rfl (Nat.le_of_ble_eq_true rfl) (Nat.le_of_ble_eq_true rfl) ⟨by rw [e], by rw [e]; exact ⟨HL4, (gFL.trans fr3 fr4)⟩⟩
      ·
        refine g_aload_n (q := 114) C dX2_doMessage_113 rfl rfl ?_
        refine g_getfield (v := .ref 28) (q := 117) C fX2_20 dX2_doMessage_114 rfl HL3.1 rfl ?_
        refine g_iconst (v := 3) (q := 118) C dX2_doMessage_117 (by decide) rfl ?_
        refine g_aload_n (q := 119) C dX2_doMessage_118 rfl rfl ?_
        refine g_callVi (x := (nI (L.set 10 1).cd.got.length)) (q := 122) (As := []) C gyX4_size gvX4_size t_561 (c_X4_size (gRw.obj HL3.2.2.1.2.2.1)) dX2_doMessage_119 rfl (gRw.obj HL3.2.2.1.2.2.1) rfl rfl rfl (Nat.le_of_ble_eq_true rfl) (Nat.le_of_ble_eq_true rfl) (Nat.le_of_ble_eq_true rfl) (Nat.le_of_ble_eq_true rfl) (Nat.le_of_ble_eq_true rfl) rfl ?_
        refine g_iconst (v := 1) (q := 123) C dX2_doMessage_122 (by decide) rfl ?_
        refine g_icmp_le (t := 130) (q := 126) C dX2_doMessage_123 (by decide) rfl (fun c_123 => ?_) (fun c_123 => ?_)
        ·
          refine g_iconst (v := 1) (q := 131) C dX2_doMessage_130 (by decide) rfl ?_
          refine g_callVix (x := (192 + 3)) (q := 134) (As := [.int 3, .int 1]) C gyX5_ask gvX5_ask t_623 (c_X5_ask_s HL3.2.2.1) dX2_doMessage_131 rfl HL3.2.2.1.1 rfl rfl rfl (Nat.le_of_ble_eq_true rfl) (Nat.le_of_ble_eq_true rfl) (Nat.le_of_ble_eq_true rfl) (Nat.le_of_ble_eq_true rfl) (Nat.le_of_ble_eq_true rfl) rfl (fun h5 z5 => ?_)
          obtain ⟨HL5, fr5⟩ := gLine.cd_ HL3 z5
          refine g_goto (q := 141) C dX2_doMessage_134 (by decide) ?_
          have e : rX2_doMessage L = ((192 + 3), ((L.set 10 1).side 1 (((L.set 10 1).cd.set 4 3).set 5 1))) := ((if_neg c_22_0).trans ((if_neg c_22_1).trans ((if_pos c_22_2).trans ((if_pos c_89).trans ((if_neg c_110).trans (if_pos c_123))))))
          exact E.1 _ _ _ _ _ _ _ dX2_doMessage_141 rfl rfl (Nat.le_of_ble_eq_true rfl) (Nat.le_of_ble_eq_true rfl) ⟨by rw [e], by rw [e]; exact ⟨HL5, (gFL.trans fr3 fr5)⟩⟩
        ·
          refine g_iload_n (q := 127) C dX2_doMessage_126 rfl rfl ?_
          refine g_goto (q := 131) C dX2_doMessage_127 (by decide) ?_
          refine g_callVix (x := (192 + 3)) (q := 134) (As := [.int 3, .int ((gat L.cd.got 1))]) C gyX5_ask gvX5_ask t_623 (c_X5_ask_s HL3.2.2.1) dX2_doMessage_131 rfl HL3.2.2.1.1 rfl rfl rfl (Nat.le_of_ble_eq_true rfl) (Nat.le_of_ble_eq_true rfl) (Nat.le_of_ble_eq_true rfl) (Nat.le_of_ble_eq_true rfl) (Nat.le_of_ble_eq_true rfl) rfl (fun h6 z6 => ?_)
          obtain ⟨HL6, fr6⟩ := gLine.cd_ HL3 z6
          refine g_goto (q := 141) C dX2_doMessage_134 (by decide) ?_
          have e : rX2_doMessage L = ((192 + 3), ((L.set 10 1).side 1 (((L.set 10 1).cd.set 4 3).set 5 (gat L.cd.got 1)))) := ((if_neg c_22_0).trans ((if_neg c_22_1).trans ((if_pos c_22_2).trans ((if_pos c_89).trans ((if_neg c_110).trans (if_neg c_123))))))
          exact E.1 _ _ _ _ _ _ _ dX2_doMessage_141 rfl rfl (Nat.le_of_ble_eq_true rfl) (Nat.le_of_ble_eq_true rfl) ⟨by rw [e], by rw [e]; exact ⟨HL6, (gFL.trans fr3 fr6)⟩⟩
    ·
      refine g_aload_n (q := 93) C dX2_doMessage_92 rfl rfl ?_
      refine g_iconst (v := 2) (q := 94) C dX2_doMessage_93 (by decide) rfl ?_
      refine g_callVi (x := (gat L.cd.got 2)) (q := 97) (As := [.int 2]) C gyX4_at gvX4_at t_644 (c_X4_at_w HL.2.2.1.2.2.1) dX2_doMessage_94 rfl (gRw.obj HL.2.2.1.2.2.1) rfl rfl rfl (Nat.le_of_ble_eq_true rfl) (Nat.le_of_ble_eq_true rfl) (Nat.le_of_ble_eq_true rfl) (Nat.le_of_ble_eq_true rfl) (Nat.le_of_ble_eq_true rfl) rfl ?_
      refine g_iconst (v := 3) (q := 98) C dX2_doMessage_97 (by decide) rfl ?_
      refine g_iand (q := 99) C dX2_doMessage_98 rfl ?_
      refine g_goto (q := 103) C dX2_doMessage_99 (by decide) ?_
      refine g_putfield (q := 106) C fX2_74 dX2_doMessage_103 rfl HL.1 (Nat.le_of_ble_eq_true rfl) (Or.inl rfl) rfl rfl (by intro z h; cases h) ?_
      refine gLput (k := 10) (x := ((gat L.cd.got 2) &&& 3)) HL rfl fun h7 HL7 fr7 => ?_
      refine g_aload_n (q := 107) C dX2_doMessage_106 rfl rfl ?_
      refine g_getfield (v := .int ((L.set 10 ((gat L.cd.got 2) &&& 3)).wl)) (q := 110) C fX2_74 dX2_doMessage_107 rfl HL7.1 rfl ?_
      refine g_if_le (t := 137) (q := 113) C dX2_doMessage_110 (by decide) rfl (fun c_110 => ?_) (fun c_110 => ?_)
      ·
        refine g_aload_n (q := 138) C dX2_doMessage_137 rfl rfl ?_
        refine g_callVix (x := (rX2_putBehindThird (L.set 10 ((gat L.cd.got 2) &&& 3))).1) (q := 141) (As := []) C gyX2_putBehindThird gvX2_putBehindThird t_812 (c_X2_putBehindThird_l HL7) dX2_doMessage_138 rfl HL7.1 rfl rfl rfl (Nat.le_of_ble_eq_true rfl) (Nat.le_of_ble_eq_true rfl) (Nat.le_of_ble_eq_true rfl) (Nat.le_of_ble_eq_true rfl) (Nat.le_of_ble_eq_true rfl) rfl (fun h8 z8 => ?_)
        obtain ⟨HL8, fr8⟩ := z8
        have e : rX2_doMessage L = ((rX2_putBehindThird (L.set 10 ((gat L.cd.got 2) &&& 3))).1, (rX2_putBehindThird (L.set 10 ((gat L.cd.got 2) &&& 3))).2) := ((if_neg c_22_0).trans ((if_neg c_22_1).trans ((if_pos c_22_2).trans ((if_neg c_89).trans (if_pos c_110)))))
        exact E.1 _ _ _ _ _ _ _ dX2_doMessage_141 rfl rfl (Nat.le_of_ble_eq_true rfl) (Nat.le_of_ble_eq_true rfl) ⟨by rw [e], by rw [e]; exact ⟨HL8, (gFL.trans fr7 fr8)⟩⟩
      ·
        refine g_aload_n (q := 114) C dX2_doMessage_113 rfl rfl ?_
        refine g_getfield (v := .ref 28) (q := 117) C fX2_20 dX2_doMessage_114 rfl HL7.1 rfl ?_
        refine g_iconst (v := 3) (q := 118) C dX2_doMessage_117 (by decide) rfl ?_
        refine g_aload_n (q := 119) C dX2_doMessage_118 rfl rfl ?_
        refine g_callVi (x := (nI (L.set 10 ((gat L.cd.got 2) &&& 3)).cd.got.length)) (q := 122) (As := []) C gyX4_size gvX4_size t_561 (c_X4_size (gRw.obj HL7.2.2.1.2.2.1)) dX2_doMessage_119 rfl (gRw.obj HL7.2.2.1.2.2.1) rfl rfl rfl (Nat.le_of_ble_eq_true rfl) (Nat.le_of_ble_eq_true rfl) (Nat.le_of_ble_eq_true rfl) (Nat.le_of_ble_eq_true rfl) (Nat.le_of_ble_eq_true rfl) rfl ?_
        refine g_iconst (v := 1) (q := 123) C dX2_doMessage_122 (by decide) rfl ?_
        refine g_icmp_le (t := 130) (q := 126) C dX2_doMessage_123 (by decide) rfl (fun c_123 => ?_) (fun c_123 => ?_)
        ·
          refine g_iconst (v := 1) (q := 131) C dX2_doMessage_130 (by decide) rfl ?_
          refine g_callVix (x := (192 + 3)) (q := 134) (As := [.int 3, .int 1]) C gyX5_ask gvX5_ask t_623 (c_X5_ask_s HL7.2.2.1) dX2_doMessage_131 rfl HL7.2.2.1.1 rfl rfl rfl (Nat.le_of_ble_eq_true rfl) (Nat.le_of_ble_eq_true rfl) (Nat.le_of_ble_eq_true rfl) (Nat.le_of_ble_eq_true rfl) (Nat.le_of_ble_eq_true rfl) rfl (fun h9 z9 => ?_)
          obtain ⟨HL9, fr9⟩ := gLine.cd_ HL7 z9
          refine g_goto (q := 141) C dX2_doMessage_134 (by decide) ?_
          have e : rX2_doMessage L = ((192 + 3), ((L.set 10 ((gat L.cd.got 2) &&& 3)).side 1 (((L.set 10 ((gat L.cd.got 2) &&& 3)).cd.set 4 3).set 5 1))) := ((if_neg c_22_0).trans ((if_neg c_22_1).trans ((if_pos c_22_2).trans ((if_neg c_89).trans ((if_neg c_110).trans (if_pos c_123))))))
          exact E.1 _ _ _ _ _ _ _ dX2_doMessage_141 rfl rfl (Nat.le_of_ble_eq_true rfl) (Nat.le_of_ble_eq_true rfl) ⟨by rw [e], by rw [e]; exact ⟨HL9, (gFL.trans fr7 fr9)⟩⟩
        ·
          refine g_iload_n (q := 127) C dX2_doMessage_126 rfl rfl ?_
          refine g_goto (q := 131) C dX2_doMessage_127 (by decide) ?_
          refine g_callVix (x := (192 + 3)) (q := 134) (As := [.int 3, .int ((gat L.cd.got 1))]) C gyX5_ask gvX5_ask t_623 (c_X5_ask_s HL7.2.2.1) dX2_doMessage_131 rfl HL7.2.2.1.1 rfl rfl rfl (Nat.le_of_ble_eq_true rfl) (Nat.le_of_ble_eq_true rfl) (Nat.le_of_ble_eq_true rfl) (Nat.le_of_ble_eq_true rfl) (Nat.le_of_ble_eq_true rfl) rfl (fun h10 z10 => ?_)
          obtain ⟨HL10, fr10⟩ := gLine.cd_ HL7 z10
          refine g_goto (q := 141) C dX2_doMessage_134 (by decide) ?_
          have e : rX2_doMessage L = ((192 + 3), ((L.set 10 ((gat L.cd.got 2) &&& 3)).side 1 (((L.set 10 ((gat L.cd.got 2) &&& 3)).cd.set 4 3).set 5 (gat L.cd.got 1)))) := ((if_neg c_22_0).trans ((if_neg c_22_1).trans ((if_pos c_22_2).trans ((if_neg c_89).trans ((if_neg c_110).trans (if_neg c_123))))))
          exact E.1 _ _ _ _ _ _ _ dX2_doMessage_141 rfl rfl (Nat.le_of_ble_eq_true rfl) (Nat.le_of_ble_eq_true rfl) ⟨by rw [e], by rw [e]; exact ⟨HL10, (gFL.trans fr7 fr10)⟩⟩
  by_cases c_22_3 : ((gat L.cd.got 0) &&& 7) = 3
  ·
    refine g_tableE (v := 3) (off := 120) (t := 142) C dX2_doMessage_22 c_22_3 (by decide) (by decide) (by decide) (by decide) ?_
    refine g_aload_n (q := 143) C dX2_doMessage_142 rfl rfl ?_
    refine g_getfield (v := .ref 28) (q := 146) C fX2_20 dX2_doMessage_143 rfl HL.1 rfl ?_
    refine g_iconst (v := 1) (q := 147) C dX2_doMessage_146 (by decide) rfl ?_
    refine g_iload_n (q := 148) C dX2_doMessage_147 rfl rfl ?_
    refine g_iconst (v := 1) (q := 149) C dX2_doMessage_148 (by decide) rfl ?_
    refine g_icmp_lt (t := 163) (q := 152) C dX2_doMessage_149 (by decide) rfl (fun c_149 => ?_) (fun c_149 => ?_)
    ·
      refine g_bipush (v := 32) (q := 165) C dX2_doMessage_163 (by decide) rfl ?_
      refine g_callVix (x := (192 + 1)) (q := 168) (As := [.int 1, .int 32]) C gyX5_ask gvX5_ask t_623 (c_X5_ask_s HL.2.2.1) dX2_doMessage_165 rfl HL.2.2.1.1 rfl rfl rfl (Nat.le_of_ble_eq_true rfl) (Nat.le_of_ble_eq_true rfl) (Nat.le_of_ble_eq_true rfl) (Nat.le_of_ble_eq_true rfl) (Nat.le_of_ble_eq_true rfl) rfl (fun h11 z11 => ?_)
      obtain ⟨HL11, fr11⟩ := gLine.cd_ HL z11
      have e : rX2_doMessage L = ((192 + 1), (L.side 1 ((L.cd.set 4 1).set 5 32))) := ((if_neg c_22_0).trans ((if_neg c_22_1).trans ((if_neg c_22_2).trans ((if_pos c_22_3).trans (if_pos c_149)))))
      exact E.1 _ _ _ _ _ _ _ dX2_doMessage_168 rfl rfl (Nat.le_of_ble_eq_true rfl) (Nat.le_of_ble_eq_true rfl) ⟨by rw [e], by rw [e]; exact ⟨HL11, fr11⟩⟩
    ·
      refine g_iload_n (q := 153) C dX2_doMessage_152 rfl rfl ?_
      refine g_sipush (v := 254) (q := 156) C dX2_doMessage_153 (by decide) rfl ?_
      refine g_icmp_gt (t := 163) (q := 159) C dX2_doMessage_156 (by decide) rfl (fun c_156 => ?_) (fun c_156 => ?_)
      ·
        refine g_bipush (v := 32) (q := 165) C dX2_doMessage_163 (by decide) rfl ?_
        refine g_callVix (x := (192 + 1)) (q := 168) (As := [.int 1, .int 32]) C gyX5_ask gvX5_ask t_623 (c_X5_ask_s HL.2.2.1) dX2_doMessage_165 rfl HL.2.2.1.1 rfl rfl rfl (Nat.le_of_ble_eq_true rfl) (Nat.le_of_ble_eq_true rfl) (Nat.le_of_ble_eq_true rfl) (Nat.le_of_ble_eq_true rfl) (Nat.le_of_ble_eq_true rfl) rfl (fun h12 z12 => ?_)
        obtain ⟨HL12, fr12⟩ := gLine.cd_ HL z12
        have e : rX2_doMessage L = ((192 + 1), (L.side 1 ((L.cd.set 4 1).set 5 32))) := ((if_neg c_22_0).trans ((if_neg c_22_1).trans ((if_neg c_22_2).trans ((if_pos c_22_3).trans ((if_neg c_149).trans (if_pos c_156))))))
        exact E.1 _ _ _ _ _ _ _ dX2_doMessage_168 rfl rfl (Nat.le_of_ble_eq_true rfl) (Nat.le_of_ble_eq_true rfl) ⟨by rw [e], by rw [e]; exact ⟨HL12, fr12⟩⟩
      ·
        refine g_iload_n (q := 160) C dX2_doMessage_159 rfl rfl ?_
        refine g_goto (q := 165) C dX2_doMessage_160 (by decide) ?_
        refine g_callVix (x := (192 + 1)) (q := 168) (As := [.int 1, .int ((gat L.cd.got 1))]) C gyX5_ask gvX5_ask t_623 (c_X5_ask_s HL.2.2.1) dX2_doMessage_165 rfl HL.2.2.1.1 rfl rfl rfl (Nat.le_of_ble_eq_true rfl) (Nat.le_of_ble_eq_true rfl) (Nat.le_of_ble_eq_true rfl) (Nat.le_of_ble_eq_true rfl) (Nat.le_of_ble_eq_true rfl) rfl (fun h13 z13 => ?_)
        obtain ⟨HL13, fr13⟩ := gLine.cd_ HL z13
        have e : rX2_doMessage L = ((192 + 1), (L.side 1 ((L.cd.set 4 1).set 5 (gat L.cd.got 1)))) := ((if_neg c_22_0).trans ((if_neg c_22_1).trans ((if_neg c_22_2).trans ((if_pos c_22_3).trans ((if_neg c_149).trans (if_neg c_156))))))
        exact E.1 _ _ _ _ _ _ _ dX2_doMessage_168 rfl rfl (Nat.le_of_ble_eq_true rfl) (Nat.le_of_ble_eq_true rfl) ⟨by rw [e], by rw [e]; exact ⟨HL13, fr13⟩⟩
  by_cases c_22_4 : ((gat L.cd.got 0) &&& 7) = 4
  ·
    refine g_tableE (v := 4) (off := 147) (t := 169) C dX2_doMessage_22 c_22_4 (by decide) (by decide) (by decide) (by decide) ?_
    refine g_aload_n (q := 170) C dX2_doMessage_169 rfl rfl ?_
    refine g_getfield (v := .ref 28) (q := 173) C fX2_20 dX2_doMessage_170 rfl HL.1 rfl ?_
    refine g_iconst (v := 2) (q := 174) C dX2_doMessage_173 (by decide) rfl ?_
    refine g_iconst (v := 0) (q := 175) C dX2_doMessage_174 (by decide) rfl ?_
    refine g_callVix (x := (192 + 2)) (q := 178) (As := [.int 2, .int 0]) C gyX5_ask gvX5_ask t_623 (c_X5_ask_s HL.2.2.1) dX2_doMessage_175 rfl HL.2.2.1.1 rfl rfl rfl (Nat.le_of_ble_eq_true rfl) (Nat.le_of_ble_eq_true rfl) (Nat.le_of_ble_eq_true rfl) (Nat.le_of_ble_eq_true rfl) (Nat.le_of_ble_eq_true rfl) rfl (fun h14 z14 => ?_)
    obtain ⟨HL14, fr14⟩ := gLine.cd_ HL z14
    have e : rX2_doMessage L = ((192 + 2), (L.side 1 ((L.cd.set 4 2).set 5 0))) := ((if_neg c_22_0).trans ((if_neg c_22_1).trans ((if_neg c_22_2).trans ((if_neg c_22_3).trans (if_pos c_22_4)))))
    exact E.1 _ _ _ _ _ _ _ dX2_doMessage_178 rfl rfl (Nat.le_of_ble_eq_true rfl) (Nat.le_of_ble_eq_true rfl) ⟨by rw [e], by rw [e]; exact ⟨HL14, fr14⟩⟩
  by_cases c_22_5 : ((gat L.cd.got 0) &&& 7) = 5
  ·
    refine g_tableE (v := 5) (off := 157) (t := 179) C dX2_doMessage_22 c_22_5 (by decide) (by decide) (by decide) (by decide) ?_
    refine g_aload_n (q := 180) C dX2_doMessage_179 rfl rfl ?_
    refine g_iload_n (q := 181) C dX2_doMessage_180 rfl rfl ?_
    refine g_iconst (v := 3) (q := 182) C dX2_doMessage_181 (by decide) rfl ?_
    refine g_iand (q := 183) C dX2_doMessage_182 rfl ?_
    refine g_iconst (v := 1) (q := 184) C dX2_doMessage_183 (by decide) rfl ?_
    refine g_iadd (q := 185) C dX2_doMessage_184 rfl ?_
    refine g_putfield (q := 188) C fX2_77 dX2_doMessage_185 rfl HL.1 (Nat.le_of_ble_eq_true rfl) (Or.inl rfl) rfl rfl (by intro z h; cases h) ?_
    refine gLput (k := 11) (x := (((gat L.cd.got 1) &&& 3) + 1)) HL rfl fun h15 HL15 fr15 => ?_
    refine g_iconst (v := (-1)) (q := 189) C dX2_doMessage_188 (by decide) rfl ?_
    have e : rX2_doMessage L = ((-1), (L.set 11 (((gat L.cd.got 1) &&& 3) + 1))) := ((if_neg c_22_0).trans ((if_neg c_22_1).trans ((if_neg c_22_2).trans ((if_neg c_22_3).trans ((if_neg c_22_4).trans (if_pos c_22_5))))))
    exact E.1 _ _ _ _ _ _ _ dX2_doMessage_189 rfl rfl (Nat.le_of_ble_eq_true rfl) (Nat.le_of_ble_eq_true rfl) ⟨by rw [e], by rw [e]; exact ⟨HL15, fr15⟩⟩
  refine g_tableOut (t := 190) C dX2_doMessage_22 (gOut6 c_22_0 c_22_1 c_22_2 c_22_3 c_22_4 c_22_5) (by decide) ?_
  refine g_aload_n (q := 191) C dX2_doMessage_190 rfl rfl ?_
  refine g_getfield (v := .ref 28) (q := 194) C fX2_20 dX2_doMessage_191 rfl HL.1 rfl ?_
  refine g_getfieldW (v := .ref 29) (q := 197) C fX2_102 dX2_doMessage_194 rfl HL.2.2.1.1 rfl ?_
  refine g_iconst (v := 0) (q := 198) C dX2_doMessage_197 (by decide) rfl ?_
  refine g_callVvp (q := 201) (As := [.int 0]) C gyX4_keep gvX4_keep t_507 (c_X4_keep0 HL.2.2.1.2.1) dX2_doMessage_198 rfl (gRw.obj HL.2.2.1.2.1) rfl rfl rfl (Nat.le_of_ble_eq_true rfl) (Nat.le_of_ble_eq_true rfl) (Nat.le_of_ble_eq_true rfl) (Nat.le_of_ble_eq_true rfl) (Nat.le_of_ble_eq_true rfl) rfl (fun h16 z16 => ?_)
  obtain ⟨HL16, fr16⟩ := gLine.cd_out HL z16
  refine g_aload_n (q := 202) C dX2_doMessage_201 rfl rfl ?_
  refine g_getfield (v := .ref 28) (q := 205) C fX2_20 dX2_doMessage_202 rfl HL16.1 rfl ?_
  refine g_getfieldW (v := .ref 29) (q := 208) C fX2_102 dX2_doMessage_205 rfl HL16.2.2.1.1 rfl ?_
  refine g_aload_n (q := 209) C dX2_doMessage_208 rfl rfl ?_
  refine g_iconst (v := 0) (q := 210) C dX2_doMessage_209 (by decide) rfl ?_
  refine g_callVi (x := (gat (L.side 1 (L.cd.row 0 [])).cd.got 0)) (q := 213) (As := [.int 0]) C gyX4_at gvX4_at t_644 (c_X4_at_w HL16.2.2.1.2.2.1) dX2_doMessage_210 rfl (gRw.obj HL16.2.2.1.2.2.1) rfl rfl rfl (Nat.le_of_ble_eq_true rfl) (Nat.le_of_ble_eq_true rfl) (Nat.le_of_ble_eq_true rfl) (Nat.le_of_ble_eq_true rfl) (Nat.le_of_ble_eq_true rfl) rfl ?_
  refine g_callVvp (q := 216) (As := [.int ((gat (L.side 1 (L.cd.row 0 [])).cd.got 0))]) C gyX4_add gvX4_add t_733 (c_X4_add_a HL16.2.2.1.2.1) dX2_doMessage_213 rfl (gRw.obj HL16.2.2.1.2.1) rfl rfl rfl (Nat.le_of_ble_eq_true rfl) (Nat.le_of_ble_eq_true rfl) (Nat.le_of_ble_eq_true rfl) (Nat.le_of_ble_eq_true rfl) (Nat.le_of_ble_eq_true rfl) rfl (fun h17 z17 => ?_)
  obtain ⟨HL17, fr17⟩ := gLine.cd_out HL16 z17
  refine g_aload_n (q := 217) C dX2_doMessage_216 rfl rfl ?_
  refine g_getfield (v := .ref 28) (q := 220) C fX2_20 dX2_doMessage_217 rfl HL17.1 rfl ?_
  refine g_getfieldW (v := .ref 29) (q := 223) C fX2_102 dX2_doMessage_220 rfl HL17.2.2.1.1 rfl ?_
  refine g_aload_n (q := 224) C dX2_doMessage_223 rfl rfl ?_
  refine g_callVi (x := (nI ((L.side 1 (L.cd.row 0 [])).side 1 ((L.side 1 (L.cd.row 0 [])).cd.row 0 (((L.side 1 (L.cd.row 0 [])).cd.out ++ [(gat (L.side 1 (L.cd.row 0 [])).cd.got 0)]).take 60))).cd.got.length)) (q := 227) (As := []) C gyX4_size gvX4_size t_561 (c_X4_size (gRw.obj HL17.2.2.1.2.2.1)) dX2_doMessage_224 rfl (gRw.obj HL17.2.2.1.2.2.1) rfl rfl rfl (Nat.le_of_ble_eq_true rfl) (Nat.le_of_ble_eq_true rfl) (Nat.le_of_ble_eq_true rfl) (Nat.le_of_ble_eq_true rfl) (Nat.le_of_ble_eq_true rfl) rfl ?_
  refine g_callVvp (q := 230) (As := [.int ((nI ((L.side 1 (L.cd.row 0 [])).side 1 ((L.side 1 (L.cd.row 0 [])).cd.row 0 (((L.side 1 (L.cd.row 0 [])).cd.out ++ [(gat (L.side 1 (L.cd.row 0 [])).cd.got 0)]).take 60))).cd.got.length))]) C gyX4_add gvX4_add t_733 (c_X4_add_a HL17.2.2.1.2.1) dX2_doMessage_227 rfl (gRw.obj HL17.2.2.1.2.1) rfl rfl rfl (Nat.le_of_ble_eq_true rfl) (Nat.le_of_ble_eq_true rfl) (Nat.le_of_ble_eq_true rfl) (Nat.le_of_ble_eq_true rfl) (Nat.le_of_ble_eq_true rfl) rfl (fun h18 z18 => ?_)
  obtain ⟨HL18, fr18⟩ := gLine.cd_out HL17 z18
  refine g_bipush (v := (-2)) (q := 232) C dX2_doMessage_230 (by decide) rfl ?_
  have e : rX2_doMessage L = ((-2), (((L.side 1 (L.cd.row 0 [])).side 1 ((L.side 1 (L.cd.row 0 [])).cd.row 0 (((L.side 1 (L.cd.row 0 [])).cd.out ++ [(gat (L.side 1 (L.cd.row 0 [])).cd.got 0)]).take 60))).side 1 (((L.side 1 (L.cd.row 0 [])).side 1 ((L.side 1 (L.cd.row 0 [])).cd.row 0 (((L.side 1 (L.cd.row 0 [])).cd.out ++ [(gat (L.side 1 (L.cd.row 0 [])).cd.got 0)]).take 60))).cd.row 0 ((((L.side 1 (L.cd.row 0 [])).side 1 ((L.side 1 (L.cd.row 0 [])).cd.row 0 (((L.side 1 (L.cd.row 0 [])).cd.out ++ [(gat (L.side 1 (L.cd.row 0 [])).cd.got 0)]).take 60))).cd.out ++ [(nI ((L.side 1 (L.cd.row 0 [])).side 1 ((L.side 1 (L.cd.row 0 [])).cd.row 0 (((L.side 1 (L.cd.row 0 [])).cd.out ++ [(gat (L.side 1 (L.cd.row 0 [])).cd.got 0)]).take 60))).cd.got.length)]).take 60)))) := ((if_neg c_22_0).trans ((if_neg c_22_1).trans ((if_neg c_22_2).trans ((if_neg c_22_3).trans ((if_neg c_22_4).trans (if_neg c_22_5))))))
  exact E.1 _ _ _ _ _ _ _ dX2_doMessage_232 rfl rfl (Nat.le_of_ble_eq_true rfl) (Nat.le_of_ble_eq_true rfl) ⟨by rw [e], by rw [e]; exact ⟨HL18, (gFL.trans (gFL.trans fr16 fr17) fr18)⟩⟩
def rX2_cardOnAnswer (L : gLn) : Int32 × gLn := (if (rX2_isAnswerTo_c L) = 0 then ((192 + L.cd.ask), L) else (if L.cd.ask = 2 then ((128 + 16 * (L.side 1 (L.cd.set 4 (-1))).cd.wa + 0), (L.side 1 (L.cd.set 4 (-1)))) else (if L.cd.ask = 1 then ((rX2_putFirstByte (L.side 1 (L.cd.set 4 (-1)))).1, (rX2_putFirstByte (L.side 1 (L.cd.set 4 (-1)))).2) else (if (((L.side 1 (L.cd.set 4 (-1))).set 2 ((L.side 1 (L.cd.set 4 (-1))).we + 1)).set 10 (((L.side 1 (L.cd.set 4 (-1))).set 2 ((L.side 1 (L.cd.set 4 (-1))).we + 1)).wl - 1)).wl ≤ 0 then ((rX2_putBehindThird (((L.side 1 (L.cd.set 4 (-1))).set 2 ((L.side 1 (L.cd.set 4 (-1))).we + 1)).set 10 (((L.side 1 (L.cd.set 4 (-1))).set 2 ((L.side 1 (L.cd.set 4 (-1))).we + 1)).wl - 1))).1, (rX2_putBehindThird (((L.side 1 (L.cd.set 4 (-1))).set 2 ((L.side 1 (L.cd.set 4 (-1))).we + 1)).set 10 (((L.side 1 (L.cd.set 4 (-1))).set 2 ((L.side 1 (L.cd.set 4 (-1))).we + 1)).wl - 1))).2) else ((192 + 3), ((((L.side 1 (L.cd.set 4 (-1))).set 2 ((L.side 1 (L.cd.set 4 (-1))).we + 1)).set 10 (((L.side 1 (L.cd.set 4 (-1))).set 2 ((L.side 1 (L.cd.set 4 (-1))).we + 1)).wl - 1)).side 1 (((((L.side 1 (L.cd.set 4 (-1))).set 2 ((L.side 1 (L.cd.set 4 (-1))).we + 1)).set 10 (((L.side 1 (L.cd.set 4 (-1))).set 2 ((L.side 1 (L.cd.set 4 (-1))).we + 1)).wl - 1)).cd.set 4 3).set 5 ((((L.side 1 (L.cd.set 4 (-1))).set 2 ((L.side 1 (L.cd.set 4 (-1))).we + 1)).set 10 (((L.side 1 (L.cd.set 4 (-1))).set 2 ((L.side 1 (L.cd.set 4 (-1))).we + 1)).wl - 1)).cd.ai))))))))
theorem dX2_cardOnAnswer_0 : decode cX2_cardOnAnswer 0 = .ok (.aload_n 0, 1) := by decide +kernel
theorem dX2_cardOnAnswer_1 : decode cX2_cardOnAnswer 1 = .ok (.aload_n 0, 1) := by decide +kernel
theorem dX2_cardOnAnswer_2 : decode cX2_cardOnAnswer 2 = .ok (.getfield 20, 3) := by decide +kernel
theorem dX2_cardOnAnswer_5 : decode cX2_cardOnAnswer 5 = .ok (.invokevirtual 197, 3) := by decide +kernel
theorem dX2_cardOnAnswer_8 : decode cX2_cardOnAnswer 8 = .ok (.ifCond .ne 11, 3) := by decide +kernel
theorem dX2_cardOnAnswer_11 : decode cX2_cardOnAnswer 11 = .ok (.aload_n 0, 1) := by decide +kernel
theorem dX2_cardOnAnswer_12 : decode cX2_cardOnAnswer 12 = .ok (.getfield 20, 3) := by decide +kernel
theorem dX2_cardOnAnswer_15 : decode cX2_cardOnAnswer 15 = .ok (.invokevirtual 188, 3) := by decide +kernel
theorem dX2_cardOnAnswer_18 : decode cX2_cardOnAnswer 18 = .ok (.ireturn, 1) := by decide +kernel
theorem dX2_cardOnAnswer_19 : decode cX2_cardOnAnswer 19 = .ok (.aload_n 0, 1) := by decide +kernel
theorem dX2_cardOnAnswer_20 : decode cX2_cardOnAnswer 20 = .ok (.getfield 20, 3) := by decide +kernel
theorem dX2_cardOnAnswer_23 : decode cX2_cardOnAnswer 23 = .ok (.getfield 149, 3) := by decide +kernel
theorem dX2_cardOnAnswer_26 : decode cX2_cardOnAnswer 26 = .ok (.istore_n 1, 1) := by decide +kernel
theorem dX2_cardOnAnswer_27 : decode cX2_cardOnAnswer 27 = .ok (.aload_n 0, 1) := by decide +kernel
theorem dX2_cardOnAnswer_28 : decode cX2_cardOnAnswer 28 = .ok (.getfield 20, 3) := by decide +kernel
theorem dX2_cardOnAnswer_31 : decode cX2_cardOnAnswer 31 = .ok (.iconst (-1), 1) := by decide +kernel
theorem dX2_cardOnAnswer_32 : decode cX2_cardOnAnswer 32 = .ok (.putfield 149, 3) := by decide +kernel
theorem dX2_cardOnAnswer_35 : decode cX2_cardOnAnswer 35 = .ok (.iload_n 1, 1) := by decide +kernel
theorem dX2_cardOnAnswer_36 : decode cX2_cardOnAnswer 36 = .ok (.iconst 2, 1) := by decide +kernel
theorem dX2_cardOnAnswer_37 : decode cX2_cardOnAnswer 37 = .ok (.if_icmp .ne 12, 3) := by decide +kernel
theorem dX2_cardOnAnswer_40 : decode cX2_cardOnAnswer 40 = .ok (.aload_n 0, 1) := by decide +kernel
theorem dX2_cardOnAnswer_41 : decode cX2_cardOnAnswer 41 = .ok (.getfield 20, 3) := by decide +kernel
theorem dX2_cardOnAnswer_44 : decode cX2_cardOnAnswer 44 = .ok (.iconst 0, 1) := by decide +kernel
theorem dX2_cardOnAnswer_45 : decode cX2_cardOnAnswer 45 = .ok (.invokevirtual 191, 3) := by decide +kernel
theorem dX2_cardOnAnswer_48 : decode cX2_cardOnAnswer 48 = .ok (.ireturn, 1) := by decide +kernel
theorem dX2_cardOnAnswer_49 : decode cX2_cardOnAnswer 49 = .ok (.iload_n 1, 1) := by decide +kernel
theorem dX2_cardOnAnswer_50 : decode cX2_cardOnAnswer 50 = .ok (.iconst 1, 1) := by decide +kernel
theorem dX2_cardOnAnswer_51 : decode cX2_cardOnAnswer 51 = .ok (.if_icmp .ne 8, 3) := by decide +kernel
theorem dX2_cardOnAnswer_54 : decode cX2_cardOnAnswer 54 = .ok (.aload_n 0, 1) := by decide +kernel
theorem dX2_cardOnAnswer_55 : decode cX2_cardOnAnswer 55 = .ok (.invokevirtual 179, 3) := by decide +kernel
theorem dX2_cardOnAnswer_58 : decode cX2_cardOnAnswer 58 = .ok (.ireturn, 1) := by decide +kernel
theorem dX2_cardOnAnswer_59 : decode cX2_cardOnAnswer 59 = .ok (.aload_n 0, 1) := by decide +kernel
theorem dX2_cardOnAnswer_60 : decode cX2_cardOnAnswer 60 = .ok (.dup, 1) := by decide +kernel
theorem dX2_cardOnAnswer_61 : decode cX2_cardOnAnswer 61 = .ok (.getfield 37, 3) := by decide +kernel
theorem dX2_cardOnAnswer_64 : decode cX2_cardOnAnswer 64 = .ok (.iconst 1, 1) := by decide +kernel
theorem dX2_cardOnAnswer_65 : decode cX2_cardOnAnswer 65 = .ok (.iadd, 1) := by decide +kernel
theorem dX2_cardOnAnswer_66 : decode cX2_cardOnAnswer 66 = .ok (.putfield 37, 3) := by decide +kernel
theorem dX2_cardOnAnswer_69 : decode cX2_cardOnAnswer 69 = .ok (.aload_n 0, 1) := by decide +kernel
theorem dX2_cardOnAnswer_70 : decode cX2_cardOnAnswer 70 = .ok (.dup, 1) := by decide +kernel
theorem dX2_cardOnAnswer_71 : decode cX2_cardOnAnswer 71 = .ok (.getfield 74, 3) := by decide +kernel
theorem dX2_cardOnAnswer_74 : decode cX2_cardOnAnswer 74 = .ok (.iconst 1, 1) := by decide +kernel
theorem dX2_cardOnAnswer_75 : decode cX2_cardOnAnswer 75 = .ok (.isub, 1) := by decide +kernel
theorem dX2_cardOnAnswer_76 : decode cX2_cardOnAnswer 76 = .ok (.putfield 74, 3) := by decide +kernel
theorem dX2_cardOnAnswer_79 : decode cX2_cardOnAnswer 79 = .ok (.aload_n 0, 1) := by decide +kernel
theorem dX2_cardOnAnswer_80 : decode cX2_cardOnAnswer 80 = .ok (.getfield 74, 3) := by decide +kernel
theorem dX2_cardOnAnswer_83 : decode cX2_cardOnAnswer 83 = .ok (.ifCond .le 21, 3) := by decide +kernel
theorem dX2_cardOnAnswer_86 : decode cX2_cardOnAnswer 86 = .ok (.aload_n 0, 1) := by decide +kernel
theorem dX2_cardOnAnswer_87 : decode cX2_cardOnAnswer 87 = .ok (.getfield 20, 3) := by decide +kernel
theorem dX2_cardOnAnswer_90 : decode cX2_cardOnAnswer 90 = .ok (.iconst 3, 1) := by decide +kernel
theorem dX2_cardOnAnswer_91 : decode cX2_cardOnAnswer 91 = .ok (.aload_n 0, 1) := by decide +kernel
theorem dX2_cardOnAnswer_92 : decode cX2_cardOnAnswer 92 = .ok (.getfield 20, 3) := by decide +kernel
theorem dX2_cardOnAnswer_95 : decode cX2_cardOnAnswer 95 = .ok (.getfield 194, 3) := by decide +kernel
theorem dX2_cardOnAnswer_98 : decode cX2_cardOnAnswer 98 = .ok (.invokevirtual 145, 3) := by decide +kernel
theorem dX2_cardOnAnswer_101 : decode cX2_cardOnAnswer 101 = .ok (.goto 7, 3) := by decide +kernel
theorem dX2_cardOnAnswer_104 : decode cX2_cardOnAnswer 104 = .ok (.aload_n 0, 1) := by decide +kernel
theorem dX2_cardOnAnswer_105 : decode cX2_cardOnAnswer 105 = .ok (.invokevirtual 201, 3) := by decide +kernel
theorem dX2_cardOnAnswer_108 : decode cX2_cardOnAnswer 108 = .ok (.ireturn, 1) := by decide +kernel
set_option maxRecDepth 100000 in
set_option maxHeartbeats 4000000 in
theorem c_X2_cardOnAnswer_l {hp : List gA} {L : gLn}  (HL : gLine hp L)  : gM yX2_cardOnAnswer cX2_cardOnAnswer 2 ((some .int)) 4 124 [.ref 20] (hp) (0) (0) (fun v h => v = some (.int (rX2_cardOnAnswer L).1) ∧ (gLine h (rX2_cardOnAnswer L).2 ∧ gFL hp h)) := by
  refine gM_of (ls0 := [some (.ref 20), none]) (by decide +kernel) (Nat.le_of_ble_eq_true rfl) rfl fun X C E => ?_
  refine g_aload_n (q := 1) C dX2_cardOnAnswer_0 rfl rfl ?_
  refine g_aload_n (q := 2) C dX2_cardOnAnswer_1 rfl rfl ?_
  refine g_getfield (v := .ref 28) (q := 5) C fX2_20 dX2_cardOnAnswer_2 rfl HL.1 rfl ?_
  refine g_callVi (x := (rX2_isAnswerTo_c L)) (q := 8) (As := [.ref 28]) C gyX2_isAnswerTo gvX2_isAnswerTo t_649 (c_X2_isAnswerTo_c_l HL) dX2_cardOnAnswer_5 rfl HL.1 rfl rfl rfl (Nat.le_of_ble_eq_true rfl) (Nat.le_of_ble_eq_true rfl) (Nat.le_of_ble_eq_true rfl) (Nat.le_of_ble_eq_true rfl) (Nat.le_of_ble_eq_true rfl) rfl ?_
  refine g_if_ne (t := 19) (q := 11) C dX2_cardOnAnswer_8 (by decide) rfl (fun c_8 => ?_) (fun c_8 => ?_)
  ·
    refine g_aload_n (q := 20) C dX2_cardOnAnswer_19 rfl rfl ?_
    refine g_getfield (v := .ref 28) (q := 23) C fX2_20 dX2_cardOnAnswer_20 rfl HL.1 rfl ?_
    refine g_getfield (v := .int L.cd.ask) (q := 26) C fX2_149 dX2_cardOnAnswer_23 rfl HL.2.2.1.1 rfl ?_
    refine g_istore_n (q := 27) C dX2_cardOnAnswer_26 (Nat.le_of_ble_eq_true rfl) (by simp only [gset]; rfl) rfl ?_
    refine g_aload_n (q := 28) C dX2_cardOnAnswer_27 rfl rfl ?_
    refine g_getfield (v := .ref 28) (q := 31) C fX2_20 dX2_cardOnAnswer_28 rfl HL.1 rfl ?_
    refine g_iconst (v := (-1)) (q := 32) C dX2_cardOnAnswer_31 (by decide) rfl ?_
    refine g_putfield (q := 35) C fX2_149 dX2_cardOnAnswer_32 rfl HL.2.2.1.1 (Nat.le_of_ble_eq_true rfl) (Or.inl rfl) rfl rfl (by intro z h; cases h) ?_
    refine gLput_cd (k := 4) (x := (-1)) HL rfl fun h1 HL1 fr1 => ?_
    refine g_iload_n (q := 36) C dX2_cardOnAnswer_35 rfl rfl ?_
    refine g_iconst (v := 2) (q := 37) C dX2_cardOnAnswer_36 (by decide) rfl ?_
    refine g_icmp_ne (t := 49) (q := 40) C dX2_cardOnAnswer_37 (by decide) rfl (fun c_37 => ?_) (fun c_37 => ?_)
    ·
      refine g_iload_n (q := 50) C dX2_cardOnAnswer_49 rfl rfl ?_
      refine g_iconst (v := 1) (q := 51) C dX2_cardOnAnswer_50 (by decide) rfl ?_
      refine g_icmp_ne (t := 59) (q := 54) C dX2_cardOnAnswer_51 (by decide) rfl (fun c_51 => ?_) (fun c_51 => ?_)
      ·
        refine g_aload_n (q := 60) C dX2_cardOnAnswer_59 rfl rfl ?_
        refine g_dup (q := 61) C dX2_cardOnAnswer_60 rfl rfl ?_
        refine g_getfield (v := .int ((L.side 1 (L.cd.set 4 (-1))).we)) (q := 64) C fX2_37 dX2_cardOnAnswer_61 rfl HL1.1 rfl ?_
        refine g_iconst (v := 1) (q := 65) C dX2_cardOnAnswer_64 (by decide) rfl ?_
        refine g_iadd (q := 66) C dX2_cardOnAnswer_65 rfl ?_
        refine g_putfield (q := 69) C fX2_37 dX2_cardOnAnswer_66 rfl HL1.1 (Nat.le_of_ble_eq_true rfl) (Or.inl rfl) rfl rfl (by intro z h; cases h) ?_
        refine gLput (k := 2) (x := ((L.side 1 (L.cd.set 4 (-1))).we + 1)) HL1 rfl fun h2 HL2 fr2 => ?_
        refine g_aload_n (q := 70) C dX2_cardOnAnswer_69 rfl rfl ?_
        refine g_dup (q := 71) C dX2_cardOnAnswer_70 rfl rfl ?_
        refine g_getfield (v := .int (((L.side 1 (L.cd.set 4 (-1))).set 2 ((L.side 1 (L.cd.set 4 (-1))).we + 1)).wl)) (q := 74) C fX2_74 dX2_cardOnAnswer_71 rfl HL2.1 rfl ?_
        refine g_iconst (v := 1) (q := 75) C dX2_cardOnAnswer_74 (by decide) rfl ?_
        refine g_isub (q := 76) C dX2_cardOnAnswer_75 rfl ?_
        refine g_putfield (q := 79) C fX2_74 dX2_cardOnAnswer_76 rfl HL2.1 (Nat.le_of_ble_eq_true rfl) (Or.inl rfl) rfl rfl (by intro z h; cases h) ?_
        refine gLput (k := 10) (x := (((L.side 1 (L.cd.set 4 (-1))).set 2 ((L.side 1 (L.cd.set 4 (-1))).we + 1)).wl - 1)) HL2 rfl fun h3 HL3 fr3 => ?_
        refine g_aload_n (q := 80) C dX2_cardOnAnswer_79 rfl rfl ?_
        refine g_getfield (v := .int ((((L.side 1 (L.cd.set 4 (-1))).set 2 ((L.side 1 (L.cd.set 4 (-1))).we + 1)).set 10 (((L.side 1 (L.cd.set 4 (-1))).set 2 ((L.side 1 (L.cd.set 4 (-1))).we + 1)).wl - 1)).wl)) (q := 83) C fX2_74 dX2_cardOnAnswer_80 rfl HL3.1 rfl ?_
        refine g_if_le (t := 104) (q := 86) C dX2_cardOnAnswer_83 (by decide) rfl (fun c_83 => ?_) (fun c_83 => ?_)
        ·
          refine g_aload_n (q := 105) C dX2_cardOnAnswer_104 rfl rfl ?_
          refine g_callVix (x := (rX2_putBehindThird (((L.side 1 (L.cd.set 4 (-1))).set 2 ((L.side 1 (L.cd.set 4 (-1))).we + 1)).set 10 (((L.side 1 (L.cd.set 4 (-1))).set 2 ((L.side 1 (L.cd.set 4 (-1))).we + 1)).wl - 1))).1) (q := 108) (As := []) C gyX2_putBehindThird gvX2_putBehindThird t_812 (c_X2_putBehindThird_l HL3) dX2_cardOnAnswer_105 rfl HL3.1 rfl rfl rfl (Nat.le_of_ble_eq_true rfl) (Nat.le_of_ble_eq_true rfl) (Nat.le_of_ble_eq_true rfl) (Nat.le_of_ble_eq_true rfl) (Nat.le_of_ble_eq_true rfl) rfl (fun h4 z4 => ?_)
          obtain ⟨HL4, fr4⟩ := z4
          have e : rX2_cardOnAnswer L = ((rX2_putBehindThird (((L.side 1 (L.cd.set 4 (-1))).set 2 ((L.side 1 (L.cd.set 4 (-1))).we + 1)).set 10 (((L.side 1 (L.cd.set 4 (-1))).set 2 ((L.side 1 (L.cd.set 4 (-1))).we + 1)).wl - 1))).1, (rX2_putBehindThird (((L.side 1 (L.cd.set 4 (-1))).set 2 ((L.side 1 (L.cd.set 4 (-1))).we + 1)).set 10 (((L.side 1 (L.cd.set 4 (-1))).set 2 ((L.side 1 (L.cd.set 4 (-1))).we + 1)).wl - 1))).2) := ((if_neg c_8).trans ((if_neg c_37).trans ((if_neg c_51).trans (if_pos c_83))))
          exact E.1 _ _ _ _ _ _ _ dX2_cardOnAnswer_108 rfl rfl (Nat.le_of_ble_eq_true rfl) (Nat.le_of_ble_eq_true rfl) ⟨by rw [e], by rw [e]; exact ⟨HL4, (gFL.trans (gFL.trans (gFL.trans fr1 fr2) fr3) fr4)⟩⟩
        ·
          refine g_aload_n (q := 87) C dX2_cardOnAnswer_86 rfl rfl ?_
          refine g_getfield (v := .ref 28) (q := 90) C fX2_20 dX2_cardOnAnswer_87 rfl HL3.1 rfl ?_
          refine g_iconst (v := 3) (q := 91) C dX2_cardOnAnswer_90 (by decide) rfl ?_
          refine g_aload_n (q := 92) C dX2_cardOnAnswer_91 rfl rfl ?_
          refine g_getfield (v := .ref 28) (q := 95) C fX2_20 dX2_cardOnAnswer_92 rfl HL3.1 rfl ?_
          refine g_getfield (v := .int ((((L.side 1 (L.cd.set 4 (-1))).set 2 ((L.side 1 (L.cd.set 4 (-1))).we + 1)).set 10 (((L.side 1 (L.cd.set 4 (-1))).set 2 ((L.side 1 (L.cd.set 4 (-1))).we + 1)).wl - 1)).cd.ai)) (q := 98) C fX2_194 dX2_cardOnAnswer_95 rfl HL3.2.2.1.1 rfl ?_
          refine g_callVix (x := (192 + 3)) (q := 101) (As := [.int 3, .int ((((L.side 1 (L.cd.set 4 (-1))).set 2 ((L.side 1 (L.cd.set 4 (-1))).we + 1)).set 10 (((L.side 1 (L.cd.set 4 (-1))).set 2 ((L.side 1 (L.cd.set 4 (-1))).we + 1)).wl - 1)).cd.ai)]) C gyX5_ask gvX5_ask t_623 (c_X5_ask_s HL3.2.2.1) dX2_cardOnAnswer_98 rfl HL3.2.2.1.1 rfl rfl rfl (Nat.le_of_ble_eq_true rfl) (Nat.le_of_ble_eq_true rfl) (Nat.le_of_ble_eq_true rfl) (Nat.le_of_ble_eq_true rfl) (Nat.le_of_ble_eq_true rfl) rfl (fun h5 z5 => ?_)
          obtain ⟨HL5, fr5⟩ := gLine.cd_ HL3 z5
          refine g_goto (q := 108) C dX2_cardOnAnswer_101 (by decide) ?_
          have e : rX2_cardOnAnswer L = ((192 + 3), ((((L.side 1 (L.cd.set 4 (-1))).set 2 ((L.side 1 (L.cd.set 4 (-1))).we + 1)).set 10 (((L.side 1 (L.cd.set 4 (-1))).set 2 ((L.side 1 (L.cd.set 4 (-1))).we + 1)).wl - 1)).side 1 (((((L.side 1 (L.cd.set 4 (-1))).set 2 ((L.side 1 (L.cd.set 4 (-1))).we + 1)).set 10 (((L.side 1 (L.cd.set 4 (-1))).set 2 ((L.side 1 (L.cd.set 4 (-1))).we + 1)).wl - 1)).cd.set 4 3).set 5 ((((L.side 1 (L.cd.set 4 (-1))).set 2 ((L.side 1 (L.cd.set 4 (-1))).we + 1)).set 10 (((L.side 1 (L.cd.set 4 (-1))).set 2 ((L.side 1 (L.cd.set 4 (-1))).we + 1)).wl - 1)).cd.ai)))) := ((if_neg c_8).trans ((if_neg c_37).trans ((if_neg c_51).trans (if_neg c_83))))
          exact E.1 _ _ _ _ _ _ _ dX2_cardOnAnswer_108 rfl rfl (Nat.le_of_ble_eq_true rfl) (Nat.le_of_ble_eq_true rfl) ⟨by rw [e], by rw [e]; exact ⟨HL5, (gFL.trans (gFL.trans (gFL.trans fr1 fr2) fr3) fr5)⟩⟩
      ·
        refine g_aload_n (q := 55) C dX2_cardOnAnswer_54 rfl rfl ?_
        refine g_callVix (x := (rX2_putFirstByte (L.side 1 (L.cd.set 4 (-1)))).1) (q := 58) (As := []) C gyX2_putFirstByte gvX2_putFirstByte t_804 (c_X2_putFirstByte_l HL1) dX2_cardOnAnswer_55 rfl HL1.1 rfl rfl rfl (Nat.le_of_ble_eq_true rfl) (Nat.le_of_ble_eq_true rfl) (Nat.le_of_ble_eq_true rfl) (Nat.le_of_ble_eq_true rfl) (Nat.le_of_ble_eq_true rfl) rfl (fun h6 z6 => ?_)
        obtain ⟨HL6, fr6⟩ := z6
        have e : rX2_cardOnAnswer L = ((rX2_putFirstByte (L.side 1 (L.cd.set 4 (-1)))).1, (rX2_putFirstByte (L.side 1 (L.cd.set 4 (-1)))).2) := ((if_neg c_8).trans ((if_neg c_37).trans (if_pos c_51)))
        exact E.1 _ _ _ _ _ _ _ dX2_cardOnAnswer_58 rfl rfl (Nat.le_of_ble_eq_true rfl) (Nat.le_of_ble_eq_true rfl) ⟨by rw [e], by rw [e]; exact ⟨HL6, (gFL.trans fr1 fr6)⟩⟩
    ·
      refine g_aload_n (q := 41) C dX2_cardOnAnswer_40 rfl rfl ?_
      refine g_getfield (v := .ref 28) (q := 44) C fX2_20 dX2_cardOnAnswer_41 rfl HL1.1 rfl ?_
      refine g_iconst (v := 0) (q := 45) C dX2_cardOnAnswer_44 (by decide) rfl ?_
      refine g_callVi (x := (128 + 16 * (L.side 1 (L.cd.set 4 (-1))).cd.wa + 0)) (q := 48) (As := [.int 0]) C gyX5_receipt gvX5_receipt t_640 (c_X5_receipt_s HL1.2.2.1) dX2_cardOnAnswer_45 rfl HL1.2.2.1.1 rfl rfl rfl (Nat.le_of_ble_eq_true rfl) (Nat.le_of_ble_eq_true rfl) (Nat.le_of_ble_eq_true rfl) (Nat.le_of_ble_eq_true rfl) (Nat.le_of_ble_eq_true rfl) rfl ?_
      have e : rX2_cardOnAnswer L = ((128 + 16 * (L.side 1 (L.cd.set 4 (-1))).cd.wa + 0), (L.side 1 (L.cd.set 4 (-1)))) := ((if_neg c_8).trans (if_pos c_37))
      exact E.1 _ _ _ _ _ _ _ dX2_cardOnAnswer_48 rfl rfl (Nat.le_of_ble_eq_true rfl) (Nat.le_of_ble_eq_true rfl) ⟨by rw [e], by rw [e]; exact ⟨HL1, fr1⟩⟩
  ·
    refine g_aload_n (q := 12) C dX2_cardOnAnswer_11 rfl rfl ?_
    refine g_getfield (v := .ref 28) (q := 15) C fX2_20 dX2_cardOnAnswer_12 rfl HL.1 rfl ?_
    refine g_callVi (x := (192 + L.cd.ask)) (q := 18) (As := []) C gyX5_requestKind gvX5_requestKind t_639 (c_X5_requestKind_s HL.2.2.1) dX2_cardOnAnswer_15 rfl HL.2.2.1.1 rfl rfl rfl (Nat.le_of_ble_eq_true rfl) (Nat.le_of_ble_eq_true rfl) (Nat.le_of_ble_eq_true rfl) (Nat.le_of_ble_eq_true rfl) (Nat.le_of_ble_eq_true rfl) rfl ?_
    have e : rX2_cardOnAnswer L = ((192 + L.cd.ask), L) := (if_pos c_8)
    exact E.1 _ _ _ _ _ _ _ dX2_cardOnAnswer_18 rfl rfl (Nat.le_of_ble_eq_true rfl) (Nat.le_of_ble_eq_true rfl) ⟨by rw [e], by rw [e]; exact ⟨HL, gFL.rf⟩⟩
def rX2_readerKind (L : gLn) : Int32 × gLn := (if (L.set 8 0).oc = 0 then (if (L.set 8 0).rd.ask = (-1) then (if (gat (L.set 8 0).ca 1) < 192 then (if 128 ≤ (gat (L.set 8 0).ca 1) then (if (L.set 8 0).ta = 0 then ((rX2_onReceipt_r (L.set 8 0) (gat (L.set 8 0).ca 1)).1, (rX2_onReceipt_r (L.set 8 0) (gat (L.set 8 0).ca 1)).2) else ((rX2_finish ((L.set 8 0).side 0 ((L.set 8 0).rd.emptyCame)) 2).1, (rX2_finish ((L.set 8 0).side 0 ((L.set 8 0).rd.emptyCame)) 2).2)) else ((rX2_onI_r (L.set 8 0) (gat (L.set 8 0).ca 1)).1, (rX2_onI_r (L.set 8 0) (gat (L.set 8 0).ca 1)).2)) else ((rX2_onRequest_r (L.set 8 0) (gat (L.set 8 0).ca 1)).1, (rX2_onRequest_r (L.set 8 0) (gat (L.set 8 0).ca 1)).2)) else ((rX2_readerOnAnswer (L.set 8 0)).1, (rX2_readerOnAnswer (L.set 8 0)).2)) else ((rX2_onBroken_r (L.set 8 0)).1, (rX2_onBroken_r (L.set 8 0)).2))
theorem dX2_readerKind_0 : decode cX2_readerKind 0 = .ok (.aload_n 0, 1) := by decide +kernel
theorem dX2_readerKind_1 : decode cX2_readerKind 1 = .ok (.iconst 0, 1) := by decide +kernel
theorem dX2_readerKind_2 : decode cX2_readerKind 2 = .ok (.putfield 68, 3) := by decide +kernel
theorem dX2_readerKind_5 : decode cX2_readerKind 5 = .ok (.aload_n 0, 1) := by decide +kernel
theorem dX2_readerKind_6 : decode cX2_readerKind 6 = .ok (.getfield 58, 3) := by decide +kernel
theorem dX2_readerKind_9 : decode cX2_readerKind 9 = .ok (.ifCond .eq 12, 3) := by decide +kernel
theorem dX2_readerKind_12 : decode cX2_readerKind 12 = .ok (.aload_n 0, 1) := by decide +kernel
theorem dX2_readerKind_13 : decode cX2_readerKind 13 = .ok (.aload_n 0, 1) := by decide +kernel
theorem dX2_readerKind_14 : decode cX2_readerKind 14 = .ok (.getfield 14, 3) := by decide +kernel
theorem dX2_readerKind_17 : decode cX2_readerKind 17 = .ok (.invokevirtual 152, 3) := by decide +kernel
theorem dX2_readerKind_20 : decode cX2_readerKind 20 = .ok (.ireturn, 1) := by decide +kernel
theorem dX2_readerKind_21 : decode cX2_readerKind 21 = .ok (.aload_n 0, 1) := by decide +kernel
theorem dX2_readerKind_22 : decode cX2_readerKind 22 = .ok (.getfield 55, 3) := by decide +kernel
theorem dX2_readerKind_25 : decode cX2_readerKind 25 = .ok (.iconst 1, 1) := by decide +kernel
theorem dX2_readerKind_26 : decode cX2_readerKind 26 = .ok (.invokevirtual 156, 3) := by decide +kernel
theorem dX2_readerKind_29 : decode cX2_readerKind 29 = .ok (.istore_n 1, 1) := by decide +kernel
theorem dX2_readerKind_30 : decode cX2_readerKind 30 = .ok (.aload_n 0, 1) := by decide +kernel
theorem dX2_readerKind_31 : decode cX2_readerKind 31 = .ok (.getfield 14, 3) := by decide +kernel
theorem dX2_readerKind_34 : decode cX2_readerKind 34 = .ok (.getfield 149, 3) := by decide +kernel
theorem dX2_readerKind_37 : decode cX2_readerKind 37 = .ok (.iconst (-1), 1) := by decide +kernel
theorem dX2_readerKind_38 : decode cX2_readerKind 38 = .ok (.if_icmp .eq 8, 3) := by decide +kernel
theorem dX2_readerKind_41 : decode cX2_readerKind 41 = .ok (.aload_n 0, 1) := by decide +kernel
theorem dX2_readerKind_42 : decode cX2_readerKind 42 = .ok (.invokevirtual 159, 3) := by decide +kernel
theorem dX2_readerKind_45 : decode cX2_readerKind 45 = .ok (.ireturn, 1) := by decide +kernel
theorem dX2_readerKind_46 : decode cX2_readerKind 46 = .ok (.iload_n 1, 1) := by decide +kernel
theorem dX2_readerKind_47 : decode cX2_readerKind 47 = .ok (.sipush 192, 3) := by decide +kernel
theorem dX2_readerKind_50 : decode cX2_readerKind 50 = .ok (.if_icmp .lt 17, 3) := by decide +kernel
theorem dX2_readerKind_53 : decode cX2_readerKind 53 = .ok (.aload_n 0, 1) := by decide +kernel
theorem dX2_readerKind_54 : decode cX2_readerKind 54 = .ok (.aload_n 0, 1) := by decide +kernel
theorem dX2_readerKind_55 : decode cX2_readerKind 55 = .ok (.getfield 14, 3) := by decide +kernel
theorem dX2_readerKind_58 : decode cX2_readerKind 58 = .ok (.aload_n 0, 1) := by decide +kernel
theorem dX2_readerKind_59 : decode cX2_readerKind 59 = .ok (.getfield 20, 3) := by decide +kernel
theorem dX2_readerKind_62 : decode cX2_readerKind 62 = .ok (.iload_n 1, 1) := by decide +kernel
theorem dX2_readerKind_63 : decode cX2_readerKind 63 = .ok (.invokevirtual 162, 3) := by decide +kernel
theorem dX2_readerKind_66 : decode cX2_readerKind 66 = .ok (.ireturn, 1) := by decide +kernel
theorem dX2_readerKind_67 : decode cX2_readerKind 67 = .ok (.iload_n 1, 1) := by decide +kernel
theorem dX2_readerKind_68 : decode cX2_readerKind 68 = .ok (.sipush 128, 3) := by decide +kernel
theorem dX2_readerKind_71 : decode cX2_readerKind 71 = .ok (.if_icmp .ge 13, 3) := by decide +kernel
theorem dX2_readerKind_74 : decode cX2_readerKind 74 = .ok (.aload_n 0, 1) := by decide +kernel
theorem dX2_readerKind_75 : decode cX2_readerKind 75 = .ok (.aload_n 0, 1) := by decide +kernel
theorem dX2_readerKind_76 : decode cX2_readerKind 76 = .ok (.getfield 14, 3) := by decide +kernel
theorem dX2_readerKind_79 : decode cX2_readerKind 79 = .ok (.iload_n 1, 1) := by decide +kernel
theorem dX2_readerKind_80 : decode cX2_readerKind 80 = .ok (.invokevirtual 166, 3) := by decide +kernel
theorem dX2_readerKind_83 : decode cX2_readerKind 83 = .ok (.ireturn, 1) := by decide +kernel
theorem dX2_readerKind_84 : decode cX2_readerKind 84 = .ok (.aload_n 0, 1) := by decide +kernel
theorem dX2_readerKind_85 : decode cX2_readerKind 85 = .ok (.getfield 71, 3) := by decide +kernel
theorem dX2_readerKind_88 : decode cX2_readerKind 88 = .ok (.ifCond .eq 16, 3) := by decide +kernel
theorem dX2_readerKind_91 : decode cX2_readerKind 91 = .ok (.aload_n 0, 1) := by decide +kernel
theorem dX2_readerKind_92 : decode cX2_readerKind 92 = .ok (.getfield 14, 3) := by decide +kernel
theorem dX2_readerKind_95 : decode cX2_readerKind 95 = .ok (.invokevirtual 170, 3) := by decide +kernel
theorem dX2_readerKind_98 : decode cX2_readerKind 98 = .ok (.aload_n 0, 1) := by decide +kernel
theorem dX2_readerKind_99 : decode cX2_readerKind 99 = .ok (.iconst 2, 1) := by decide +kernel
theorem dX2_readerKind_100 : decode cX2_readerKind 100 = .ok (.invokevirtual 173, 3) := by decide +kernel
theorem dX2_readerKind_103 : decode cX2_readerKind 103 = .ok (.ireturn, 1) := by decide +kernel
theorem dX2_readerKind_104 : decode cX2_readerKind 104 = .ok (.aload_n 0, 1) := by decide +kernel
theorem dX2_readerKind_105 : decode cX2_readerKind 105 = .ok (.aload_n 0, 1) := by decide +kernel
theorem dX2_readerKind_106 : decode cX2_readerKind 106 = .ok (.getfield 14, 3) := by decide +kernel
theorem dX2_readerKind_109 : decode cX2_readerKind 109 = .ok (.iload_n 1, 1) := by decide +kernel
theorem dX2_readerKind_110 : decode cX2_readerKind 110 = .ok (.invokevirtual 176, 3) := by decide +kernel
theorem dX2_readerKind_113 : decode cX2_readerKind 113 = .ok (.ireturn, 1) := by decide +kernel
set_option maxRecDepth 100000 in
set_option maxHeartbeats 4000000 in
theorem c_X2_readerKind_l {hp : List gA} {L : gLn}  (HL : gLine hp L) (hca : L.oc = 0 → 4 ≤ L.ca.length) : gM yX2_readerKind cX2_readerKind 2 ((some .int)) 5 147 [.ref 20] (hp) (0) (0) (fun v h => v = some (.int (rX2_readerKind L).1) ∧ (gLine h (rX2_readerKind L).2 ∧ gFL hp h)) := by
  refine gM_of (ls0 := [some (.ref 20), none]) (by decide +kernel) (Nat.le_of_ble_eq_true rfl) rfl fun X C E => ?_
  refine g_aload_n (q := 1) C dX2_readerKind_0 rfl rfl ?_
  refine g_iconst (v := 0) (q := 2) C dX2_readerKind_1 (by decide) rfl ?_
  refine g_putfield (q := 5) C fX2_68 dX2_readerKind_2 rfl HL.1 (Nat.le_of_ble_eq_true rfl) (Or.inl rfl) rfl rfl (by intro z h; cases h) ?_
  refine gLput (k := 8) (x := 0) HL rfl fun h1 HL1 fr1 => ?_
  refine g_aload_n (q := 6) C dX2_readerKind_5 rfl rfl ?_
  refine g_getfield (v := .int ((L.set 8 0).oc)) (q := 9) C fX2_58 dX2_readerKind_6 rfl HL1.1 rfl ?_
  refine g_if_eq (t := 21) (q := 12) C dX2_readerKind_9 (by decide) rfl (fun c_9 => ?_) (fun c_9 => ?_)
  ·
    refine g_aload_n (q := 22) C dX2_readerKind_21 rfl rfl ?_
    refine g_getfield (v := .ref 41) (q := 25) C fX2_55 dX2_readerKind_22 rfl HL1.1 rfl ?_
    refine g_iconst (v := 1) (q := 26) C dX2_readerKind_25 (by decide) rfl ?_
    refine g_callVi (x := (gat (L.set 8 0).ca 1)) (q := 29) (As := [.int 1]) C gyX4_at gvX4_at t_644 (c_X4_at_w HL1.2.2.2.2) dX2_readerKind_26 rfl (gRw.obj HL1.2.2.2.2) rfl rfl rfl (Nat.le_of_ble_eq_true rfl) (Nat.le_of_ble_eq_true rfl) (Nat.le_of_ble_eq_true rfl) (Nat.le_of_ble_eq_true rfl) (Nat.le_of_ble_eq_true rfl) rfl ?_
    refine g_istore_n (q := 30) C dX2_readerKind_29 (Nat.le_of_ble_eq_true rfl) (by simp only [gset]; rfl) rfl ?_
    refine g_aload_n (q := 31) C dX2_readerKind_30 rfl rfl ?_
    refine g_getfield (v := .ref 21) (q := 34) C fX2_14 dX2_readerKind_31 rfl HL1.1 rfl ?_
    refine g_getfield (v := .int ((L.set 8 0).rd.ask)) (q := 37) C fX2_149 dX2_readerKind_34 rfl HL1.2.1.1 rfl ?_
    refine g_iconst (v := (-1)) (q := 38) C dX2_readerKind_37 (by decide) rfl ?_
    refine g_icmp_eq (t := 46) (q := 41) C dX2_readerKind_38 (by decide) rfl (fun c_38 => ?_) (fun c_38 => ?_)
    ·
      refine g_iload_n (q := 47) C dX2_readerKind_46 rfl rfl ?_
      refine g_sipush (v := 192) (q := 50) C dX2_readerKind_47 (by decide) rfl ?_
      refine g_icmp_lt (t := 67) (q := 53) C dX2_readerKind_50 (by decide) rfl (fun c_50 => ?_) (fun c_50 => ?_)
      ·
        refine g_iload_n (q := 68) C dX2_readerKind_67 rfl rfl ?_
        refine g_sipush (v := 128) (q := 71) C dX2_readerKind_68 (by decide) rfl ?_
        refine g_icmp_ge (t := 84) (q := 74) C dX2_readerKind_71 (by decide) rfl (fun c_71 => ?_) (fun c_71 => ?_)
        ·
          refine g_aload_n (q := 85) C dX2_readerKind_84 rfl rfl ?_
          refine g_getfield (v := .int ((L.set 8 0).ta)) (q := 88) C fX2_71 dX2_readerKind_85 rfl HL1.1 rfl ?_
          refine g_if_eq (t := 104) (q := 91) C dX2_readerKind_88 (by decide) rfl (fun c_88 => ?_) (fun c_88 => ?_)
          ·
            refine g_aload_n (q := 105) C dX2_readerKind_104 rfl rfl ?_
            refine g_aload_n (q := 106) C dX2_readerKind_105 rfl rfl ?_
            refine g_getfield (v := .ref 21) (q := 109) C fX2_14 dX2_readerKind_106 rfl HL1.1 rfl ?_
            refine g_iload_n (q := 110) C dX2_readerKind_109 rfl rfl ?_
            refine g_callVix (x := (rX2_onReceipt_r (L.set 8 0) (gat (L.set 8 0).ca 1)).1) (q := 113) (As := [.ref 21, .int ((gat (L.set 8 0).ca 1))]) C gyX2_onReceipt gvX2_onReceipt t_699 (c_X2_onReceipt_r_l HL1) dX2_readerKind_110 rfl HL1.1 rfl rfl rfl (Nat.le_of_ble_eq_true rfl) (Nat.le_of_ble_eq_true rfl) (Nat.le_of_ble_eq_true rfl) (Nat.le_of_ble_eq_true rfl) (Nat.le_of_ble_eq_true rfl) rfl (fun h2 z2 => ?_)
            obtain ⟨HL2, fr2⟩ := z2
            have e : rX2_readerKind L = ((rX2_onReceipt_r (L.set 8 0) (gat (L.set 8 0).ca 1)).1, (rX2_onReceipt_r (L.set 8 0) (gat (L.set 8 0).ca 1)).2) := ((if_pos c_9).trans ((if_pos c_38).trans ((if_pos c_50).trans ((if_pos c_71).trans (if_pos c_88)))))
            exact E.1 _ _ _ _ _ _ _ dX2_readerKind_113 rfl rfl (Nat.le_of_ble_eq_true rfl) (Nat.le_of_ble_eq_true rfl) ⟨by rw [e], by rw [e]; exact ⟨HL2, (gFL.trans fr1 fr2)⟩⟩
          ·
            refine g_aload_n (q := 92) C dX2_readerKind_91 rfl rfl ?_
            refine g_getfield (v := .ref 21) (q := 95) C fX2_14 dX2_readerKind_92 rfl HL1.1 rfl ?_
            refine g_callVvp (q := 98) (As := []) C gyX5_takeEmpty gvX5_takeEmpty t_695 (c_X5_takeEmpty_s HL1.2.1) dX2_readerKind_95 rfl HL1.2.1.1 rfl rfl rfl (Nat.le_of_ble_eq_true rfl) (Nat.le_of_ble_eq_true rfl) (Nat.le_of_ble_eq_true rfl) (Nat.le_of_ble_eq_true rfl) (Nat.le_of_ble_eq_true rfl) rfl (fun h3 z3 => ?_)
            obtain ⟨HL3, fr3⟩ := gLine.rd_ HL1 z3
            refine g_aload_n (q := 99) C dX2_readerKind_98 rfl rfl ?_
            refine g_iconst (v := 2) (q := 100) C dX2_readerKind_99 (by decide) rfl ?_
            refine g_callVix (x := (rX2_finish ((L.set 8 0).side 0 ((L.set 8 0).rd.emptyCame)) 2).1) (q := 103) (As := [.int 2]) C gyX2_finish gvX2_finish t_654 (c_X2_finish_l HL3) dX2_readerKind_100 rfl HL3.1 rfl rfl rfl (Nat.le_of_ble_eq_true rfl) (Nat.le_of_ble_eq_true rfl) (Nat.le_of_ble_eq_true rfl) (Nat.le_of_ble_eq_true rfl) (Nat.le_of_ble_eq_true rfl) rfl (fun h4 z4 => ?_)
            obtain ⟨HL4, fr4⟩ := z4
            have e : rX2_readerKind L = ((rX2_finish ((L.set 8 0).side 0 ((L.set 8 0).rd.emptyCame)) 2).1, (rX2_finish ((L.set 8 0).side 0 ((L.set 8 0).rd.emptyCame)) 2).2) := ((if_pos c_9).trans ((if_pos c_38).trans ((if_pos c_50).trans ((if_pos c_71).trans (if_neg c_88)))))
            exact E.1 _ _ _ _ _ _ _ dX2_readerKind_103 rfl rfl (Nat.le_of_ble_eq_true rfl) (Nat.le_of_ble_eq_true rfl) ⟨by rw [e], by rw [e]; exact ⟨HL4, (gFL.trans (gFL.trans fr1 fr3) fr4)⟩⟩
        ·
          refine g_aload_n (q := 75) C dX2_readerKind_74 rfl rfl ?_
          refine g_aload_n (q := 76) C dX2_readerKind_75 rfl rfl ?_
          refine g_getfield (v := .ref 21) (q := 79) C fX2_14 dX2_readerKind_76 rfl HL1.1 rfl ?_
          refine g_iload_n (q := 80) C dX2_readerKind_79 rfl rfl ?_
          refine g_callVix (x := (rX2_onI_r (L.set 8 0) (gat (L.set 8 0).ca 1)).1) (q := 83) (As := [.ref 21, .int ((gat (L.set 8 0).ca 1))]) C gyX2_onI gvX2_onI t_674 (c_X2_onI_r_l HL1 (hca c_9)) dX2_readerKind_80 rfl HL1.1 rfl rfl rfl (Nat.le_of_ble_eq_true rfl) (Nat.le_of_ble_eq_true rfl) (Nat.le_of_ble_eq_true rfl) (Nat.le_of_ble_eq_true rfl) (Nat.le_of_ble_eq_true rfl) rfl (fun h5 z5 => ?_)
          obtain ⟨HL5, fr5⟩ := z5
          have e : rX2_readerKind L = ((rX2_onI_r (L.set 8 0) (gat (L.set 8 0).ca 1)).1, (rX2_onI_r (L.set 8 0) (gat (L.set 8 0).ca 1)).2) := ((if_pos c_9).trans ((if_pos c_38).trans ((if_pos c_50).trans (if_neg c_71))))
          exact E.1 _ _ _ _ _ _ _ dX2_readerKind_83 rfl rfl (Nat.le_of_ble_eq_true rfl) (Nat.le_of_ble_eq_true rfl) ⟨by rw [e], by rw [e]; exact ⟨HL5, (gFL.trans fr1 fr5)⟩⟩
      ·
        refine g_aload_n (q := 54) C dX2_readerKind_53 rfl rfl ?_
        refine g_aload_n (q := 55) C dX2_readerKind_54 rfl rfl ?_
        refine g_getfield (v := .ref 21) (q := 58) C fX2_14 dX2_readerKind_55 rfl HL1.1 rfl ?_
        refine g_aload_n (q := 59) C dX2_readerKind_58 rfl rfl ?_
        refine g_getfield (v := .ref 28) (q := 62) C fX2_20 dX2_readerKind_59 rfl HL1.1 rfl ?_
        refine g_iload_n (q := 63) C dX2_readerKind_62 rfl rfl ?_
        refine g_callVix (x := (rX2_onRequest_r (L.set 8 0) (gat (L.set 8 0).ca 1)).1) (q := 66) (As := [.ref 21, .ref 28, .int ((gat (L.set 8 0).ca 1))]) C gyX2_onRequest gvX2_onRequest t_658 (c_X2_onRequest_r_l HL1) dX2_readerKind_63 rfl HL1.1 rfl rfl rfl (Nat.le_of_ble_eq_true rfl) (Nat.le_of_ble_eq_true rfl) (Nat.le_of_ble_eq_true rfl) (Nat.le_of_ble_eq_true rfl) (Nat.le_of_ble_eq_true rfl) rfl (fun h6 z6 => ?_)
        obtain ⟨HL6, fr6⟩ := z6
        have e : rX2_readerKind L = ((rX2_onRequest_r (L.set 8 0) (gat (L.set 8 0).ca 1)).1, (rX2_onRequest_r (L.set 8 0) (gat (L.set 8 0).ca 1)).2) := ((if_pos c_9).trans ((if_pos c_38).trans (if_neg c_50)))
        exact E.1 _ _ _ _ _ _ _ dX2_readerKind_66 rfl rfl (Nat.le_of_ble_eq_true rfl) (Nat.le_of_ble_eq_true rfl) ⟨by rw [e], by rw [e]; exact ⟨HL6, (gFL.trans fr1 fr6)⟩⟩
    ·
      refine g_aload_n (q := 42) C dX2_readerKind_41 rfl rfl ?_
      refine g_callVix (x := (rX2_readerOnAnswer (L.set 8 0)).1) (q := 45) (As := []) C gyX2_readerOnAnswer gvX2_readerOnAnswer t_645 (c_X2_readerOnAnswer_l HL1) dX2_readerKind_42 rfl HL1.1 rfl rfl rfl (Nat.le_of_ble_eq_true rfl) (Nat.le_of_ble_eq_true rfl) (Nat.le_of_ble_eq_true rfl) (Nat.le_of_ble_eq_true rfl) (Nat.le_of_ble_eq_true rfl) rfl (fun h7 z7 => ?_)
      obtain ⟨HL7, fr7⟩ := z7
      have e : rX2_readerKind L = ((rX2_readerOnAnswer (L.set 8 0)).1, (rX2_readerOnAnswer (L.set 8 0)).2) := ((if_pos c_9).trans (if_neg c_38))
      exact E.1 _ _ _ _ _ _ _ dX2_readerKind_45 rfl rfl (Nat.le_of_ble_eq_true rfl) (Nat.le_of_ble_eq_true rfl) ⟨by rw [e], by rw [e]; exact ⟨HL7, (gFL.trans fr1 fr7)⟩⟩
  ·
    refine g_aload_n (q := 13) C dX2_readerKind_12 rfl rfl ?_
    refine g_aload_n (q := 14) C dX2_readerKind_13 rfl rfl ?_
    refine g_getfield (v := .ref 21) (q := 17) C fX2_14 dX2_readerKind_14 rfl HL1.1 rfl ?_
    refine g_callVix (x := (rX2_onBroken_r (L.set 8 0)).1) (q := 20) (As := [.ref 21]) C gyX2_onBroken gvX2_onBroken t_635 (c_X2_onBroken_r_l HL1) dX2_readerKind_17 rfl HL1.1 rfl rfl rfl (Nat.le_of_ble_eq_true rfl) (Nat.le_of_ble_eq_true rfl) (Nat.le_of_ble_eq_true rfl) (Nat.le_of_ble_eq_true rfl) (Nat.le_of_ble_eq_true rfl) rfl (fun h8 z8 => ?_)
    obtain ⟨HL8, fr8⟩ := z8
    have e : rX2_readerKind L = ((rX2_onBroken_r (L.set 8 0)).1, (rX2_onBroken_r (L.set 8 0)).2) := (if_neg c_9)
    exact E.1 _ _ _ _ _ _ _ dX2_readerKind_20 rfl rfl (Nat.le_of_ble_eq_true rfl) (Nat.le_of_ble_eq_true rfl) ⟨by rw [e], by rw [e]; exact ⟨HL8, (gFL.trans fr1 fr8)⟩⟩
def rX2_cardKind (L : gLn) : Int32 × gLn := (if L.si ≤ 0 then (if L.oc = 3 then ((-1), L) else (if L.oc = 0 then (if (gat L.ca 1) = 192 then (224, ((L.side 1 L.cd.empt).side 1 ((L.side 1 L.cd.empt).cd.set 4 (-1)))) else (if L.cd.ask = (-1) then (if (gat L.ca 1) < 192 then (if 128 ≤ (gat L.ca 1) then ((rX2_onReceipt_c L (gat L.ca 1)).1, (rX2_onReceipt_c L (gat L.ca 1)).2) else ((rX2_onI_c L (gat L.ca 1)).1, (rX2_onI_c L (gat L.ca 1)).2)) else ((rX2_onRequest_c L (gat L.ca 1)).1, (rX2_onRequest_c L (gat L.ca 1)).2)) else ((rX2_cardOnAnswer L).1, (rX2_cardOnAnswer L).2))) else ((rX2_onBroken_c L).1, (rX2_onBroken_c L).2))) else (if (L.set 11 (L.si - 1)).si ≤ 0 then ((rX2_putFirstByte (L.set 11 (L.si - 1))).1, (rX2_putFirstByte (L.set 11 (L.si - 1))).2) else ((-1), (L.set 11 (L.si - 1)))))
theorem dX2_cardKind_0 : decode cX2_cardKind 0 = .ok (.aload_n 0, 1) := by decide +kernel
theorem dX2_cardKind_1 : decode cX2_cardKind 1 = .ok (.getfield 77, 3) := by decide +kernel
theorem dX2_cardKind_4 : decode cX2_cardKind 4 = .ok (.ifCond .le 29, 3) := by decide +kernel
theorem dX2_cardKind_7 : decode cX2_cardKind 7 = .ok (.aload_n 0, 1) := by decide +kernel
theorem dX2_cardKind_8 : decode cX2_cardKind 8 = .ok (.dup, 1) := by decide +kernel
theorem dX2_cardKind_9 : decode cX2_cardKind 9 = .ok (.getfield 77, 3) := by decide +kernel
theorem dX2_cardKind_12 : decode cX2_cardKind 12 = .ok (.iconst 1, 1) := by decide +kernel
theorem dX2_cardKind_13 : decode cX2_cardKind 13 = .ok (.isub, 1) := by decide +kernel
theorem dX2_cardKind_14 : decode cX2_cardKind 14 = .ok (.putfield 77, 3) := by decide +kernel
theorem dX2_cardKind_17 : decode cX2_cardKind 17 = .ok (.aload_n 0, 1) := by decide +kernel
theorem dX2_cardKind_18 : decode cX2_cardKind 18 = .ok (.getfield 77, 3) := by decide +kernel
theorem dX2_cardKind_21 : decode cX2_cardKind 21 = .ok (.ifCond .le 7, 3) := by decide +kernel
theorem dX2_cardKind_24 : decode cX2_cardKind 24 = .ok (.iconst (-1), 1) := by decide +kernel
theorem dX2_cardKind_25 : decode cX2_cardKind 25 = .ok (.goto 7, 3) := by decide +kernel
theorem dX2_cardKind_28 : decode cX2_cardKind 28 = .ok (.aload_n 0, 1) := by decide +kernel
theorem dX2_cardKind_29 : decode cX2_cardKind 29 = .ok (.invokevirtual 179, 3) := by decide +kernel
theorem dX2_cardKind_32 : decode cX2_cardKind 32 = .ok (.ireturn, 1) := by decide +kernel
theorem dX2_cardKind_33 : decode cX2_cardKind 33 = .ok (.aload_n 0, 1) := by decide +kernel
theorem dX2_cardKind_34 : decode cX2_cardKind 34 = .ok (.getfield 58, 3) := by decide +kernel
theorem dX2_cardKind_37 : decode cX2_cardKind 37 = .ok (.iconst 3, 1) := by decide +kernel
theorem dX2_cardKind_38 : decode cX2_cardKind 38 = .ok (.if_icmp .ne 5, 3) := by decide +kernel
theorem dX2_cardKind_41 : decode cX2_cardKind 41 = .ok (.iconst (-1), 1) := by decide +kernel
theorem dX2_cardKind_42 : decode cX2_cardKind 42 = .ok (.ireturn, 1) := by decide +kernel
theorem dX2_cardKind_43 : decode cX2_cardKind 43 = .ok (.aload_n 0, 1) := by decide +kernel
theorem dX2_cardKind_44 : decode cX2_cardKind 44 = .ok (.getfield 58, 3) := by decide +kernel
theorem dX2_cardKind_47 : decode cX2_cardKind 47 = .ok (.ifCond .eq 12, 3) := by decide +kernel
theorem dX2_cardKind_50 : decode cX2_cardKind 50 = .ok (.aload_n 0, 1) := by decide +kernel
theorem dX2_cardKind_51 : decode cX2_cardKind 51 = .ok (.aload_n 0, 1) := by decide +kernel
theorem dX2_cardKind_52 : decode cX2_cardKind 52 = .ok (.getfield 20, 3) := by decide +kernel
theorem dX2_cardKind_55 : decode cX2_cardKind 55 = .ok (.invokevirtual 152, 3) := by decide +kernel
theorem dX2_cardKind_58 : decode cX2_cardKind 58 = .ok (.ireturn, 1) := by decide +kernel
theorem dX2_cardKind_59 : decode cX2_cardKind 59 = .ok (.aload_n 0, 1) := by decide +kernel
theorem dX2_cardKind_60 : decode cX2_cardKind 60 = .ok (.getfield 55, 3) := by decide +kernel
theorem dX2_cardKind_63 : decode cX2_cardKind 63 = .ok (.iconst 1, 1) := by decide +kernel
theorem dX2_cardKind_64 : decode cX2_cardKind 64 = .ok (.invokevirtual 156, 3) := by decide +kernel
theorem dX2_cardKind_67 : decode cX2_cardKind 67 = .ok (.istore_n 1, 1) := by decide +kernel
theorem dX2_cardKind_68 : decode cX2_cardKind 68 = .ok (.iload_n 1, 1) := by decide +kernel
theorem dX2_cardKind_69 : decode cX2_cardKind 69 = .ok (.sipush 192, 3) := by decide +kernel
theorem dX2_cardKind_72 : decode cX2_cardKind 72 = .ok (.if_icmp .ne 22, 3) := by decide +kernel
theorem dX2_cardKind_75 : decode cX2_cardKind 75 = .ok (.aload_n 0, 1) := by decide +kernel
theorem dX2_cardKind_76 : decode cX2_cardKind 76 = .ok (.getfield 20, 3) := by decide +kernel
theorem dX2_cardKind_79 : decode cX2_cardKind 79 = .ok (.invokevirtual 182, 3) := by decide +kernel
theorem dX2_cardKind_82 : decode cX2_cardKind 82 = .ok (.aload_n 0, 1) := by decide +kernel
theorem dX2_cardKind_83 : decode cX2_cardKind 83 = .ok (.getfield 20, 3) := by decide +kernel
theorem dX2_cardKind_86 : decode cX2_cardKind 86 = .ok (.iconst (-1), 1) := by decide +kernel
theorem dX2_cardKind_87 : decode cX2_cardKind 87 = .ok (.putfield 149, 3) := by decide +kernel
theorem dX2_cardKind_90 : decode cX2_cardKind 90 = .ok (.sipush 224, 3) := by decide +kernel
theorem dX2_cardKind_93 : decode cX2_cardKind 93 = .ok (.ireturn, 1) := by decide +kernel
theorem dX2_cardKind_94 : decode cX2_cardKind 94 = .ok (.aload_n 0, 1) := by decide +kernel
theorem dX2_cardKind_95 : decode cX2_cardKind 95 = .ok (.getfield 20, 3) := by decide +kernel
theorem dX2_cardKind_98 : decode cX2_cardKind 98 = .ok (.getfield 149, 3) := by decide +kernel
theorem dX2_cardKind_101 : decode cX2_cardKind 101 = .ok (.iconst (-1), 1) := by decide +kernel
theorem dX2_cardKind_102 : decode cX2_cardKind 102 = .ok (.if_icmp .eq 8, 3) := by decide +kernel
theorem dX2_cardKind_105 : decode cX2_cardKind 105 = .ok (.aload_n 0, 1) := by decide +kernel
theorem dX2_cardKind_106 : decode cX2_cardKind 106 = .ok (.invokevirtual 185, 3) := by decide +kernel
theorem dX2_cardKind_109 : decode cX2_cardKind 109 = .ok (.ireturn, 1) := by decide +kernel
theorem dX2_cardKind_110 : decode cX2_cardKind 110 = .ok (.iload_n 1, 1) := by decide +kernel
theorem dX2_cardKind_111 : decode cX2_cardKind 111 = .ok (.sipush 192, 3) := by decide +kernel
theorem dX2_cardKind_114 : decode cX2_cardKind 114 = .ok (.if_icmp .lt 17, 3) := by decide +kernel
theorem dX2_cardKind_117 : decode cX2_cardKind 117 = .ok (.aload_n 0, 1) := by decide +kernel
theorem dX2_cardKind_118 : decode cX2_cardKind 118 = .ok (.aload_n 0, 1) := by decide +kernel
theorem dX2_cardKind_119 : decode cX2_cardKind 119 = .ok (.getfield 20, 3) := by decide +kernel
theorem dX2_cardKind_122 : decode cX2_cardKind 122 = .ok (.aload_n 0, 1) := by decide +kernel
theorem dX2_cardKind_123 : decode cX2_cardKind 123 = .ok (.getfield 14, 3) := by decide +kernel
theorem dX2_cardKind_126 : decode cX2_cardKind 126 = .ok (.iload_n 1, 1) := by decide +kernel
theorem dX2_cardKind_127 : decode cX2_cardKind 127 = .ok (.invokevirtual 162, 3) := by decide +kernel
theorem dX2_cardKind_130 : decode cX2_cardKind 130 = .ok (.ireturn, 1) := by decide +kernel
theorem dX2_cardKind_131 : decode cX2_cardKind 131 = .ok (.iload_n 1, 1) := by decide +kernel
theorem dX2_cardKind_132 : decode cX2_cardKind 132 = .ok (.sipush 128, 3) := by decide +kernel
theorem dX2_cardKind_135 : decode cX2_cardKind 135 = .ok (.if_icmp .ge 15, 3) := by decide +kernel
theorem dX2_cardKind_138 : decode cX2_cardKind 138 = .ok (.aload_n 0, 1) := by decide +kernel
theorem dX2_cardKind_139 : decode cX2_cardKind 139 = .ok (.aload_n 0, 1) := by decide +kernel
theorem dX2_cardKind_140 : decode cX2_cardKind 140 = .ok (.getfield 20, 3) := by decide +kernel
theorem dX2_cardKind_143 : decode cX2_cardKind 143 = .ok (.iload_n 1, 1) := by decide +kernel
theorem dX2_cardKind_144 : decode cX2_cardKind 144 = .ok (.invokevirtual 166, 3) := by decide +kernel
theorem dX2_cardKind_147 : decode cX2_cardKind 147 = .ok (.goto 12, 3) := by decide +kernel
theorem dX2_cardKind_150 : decode cX2_cardKind 150 = .ok (.aload_n 0, 1) := by decide +kernel
theorem dX2_cardKind_151 : decode cX2_cardKind 151 = .ok (.aload_n 0, 1) := by decide +kernel
theorem dX2_cardKind_152 : decode cX2_cardKind 152 = .ok (.getfield 20, 3) := by decide +kernel
theorem dX2_cardKind_155 : decode cX2_cardKind 155 = .ok (.iload_n 1, 1) := by decide +kernel
theorem dX2_cardKind_156 : decode cX2_cardKind 156 = .ok (.invokevirtual 176, 3) := by decide +kernel
theorem dX2_cardKind_159 : decode cX2_cardKind 159 = .ok (.ireturn, 1) := by decide +kernel
set_option maxRecDepth 100000 in
set_option maxHeartbeats 4000000 in
theorem c_X2_cardKind_l {hp : List gA} {L : gLn}  (HL : gLine hp L) (hca : L.oc = 0 → 4 ≤ L.ca.length) : gM yX2_cardKind cX2_cardKind 2 ((some .int)) 5 147 [.ref 20] (hp) (0) (0) (fun v h => v = some (.int (rX2_cardKind L).1) ∧ (gLine h (rX2_cardKind L).2 ∧ gFL hp h)) := by
  refine gM_of (ls0 := [some (.ref 20), none]) (by decide +kernel) (Nat.le_of_ble_eq_true rfl) rfl fun X C E => ?_
  refine g_aload_n (q := 1) C dX2_cardKind_0 rfl rfl ?_
  refine g_getfield (v := .int L.si) (q := 4) C fX2_77 dX2_cardKind_1 rfl HL.1 rfl ?_
  refine g_if_le (t := 33) (q := 7) C dX2_cardKind_4 (by decide) rfl (fun c_4 => ?_) (fun c_4 => ?_)
  ·
    refine g_aload_n (q := 34) C dX2_cardKind_33 rfl rfl ?_
    refine g_getfield (v := .int L.oc) (q := 37) C fX2_58 dX2_cardKind_34 rfl HL.1 rfl ?_
    refine g_iconst (v := 3) (q := 38) C dX2_cardKind_37 (by decide) rfl ?_
    refine g_icmp_ne (t := 43) (q := 41) C dX2_cardKind_38 (by decide) rfl (fun c_38 => ?_) (fun c_38 => ?_)
    ·
      refine g_aload_n (q := 44) C dX2_cardKind_43 rfl rfl ?_
      refine g_getfield (v := .int L.oc) (q := 47) C fX2_58 dX2_cardKind_44 rfl HL.1 rfl ?_
      refine g_if_eq (t := 59) (q := 50) C dX2_cardKind_47 (by decide) rfl (fun c_47 => ?_) (fun c_47 => ?_)
      ·
        refine g_aload_n (q := 60) C dX2_cardKind_59 rfl rfl ?_
        refine g_getfield (v := .ref 41) (q := 63) C fX2_55 dX2_cardKind_60 rfl HL.1 rfl ?_
        refine g_iconst (v := 1) (q := 64) C dX2_cardKind_63 (by decide) rfl ?_
        refine g_callVi (x := (gat L.ca 1)) (q := 67) (As := [.int 1]) C gyX4_at gvX4_at t_644 (c_X4_at_w HL.2.2.2.2) dX2_cardKind_64 rfl (gRw.obj HL.2.2.2.2) rfl rfl rfl (Nat.le_of_ble_eq_true rfl) (Nat.le_of_ble_eq_true rfl) (Nat.le_of_ble_eq_true rfl) (Nat.le_of_ble_eq_true rfl) (Nat.le_of_ble_eq_true rfl) rfl ?_
        refine g_istore_n (q := 68) C dX2_cardKind_67 (Nat.le_of_ble_eq_true rfl) (by simp only [gset]; rfl) rfl ?_
        refine g_iload_n (q := 69) C dX2_cardKind_68 rfl rfl ?_
        refine g_sipush (v := 192) (q := 72) C dX2_cardKind_69 (by decide) rfl ?_
        refine g_icmp_ne (t := 94) (q := 75) C dX2_cardKind_72 (by decide) rfl (fun c_72 => ?_) (fun c_72 => ?_)
        ·
          refine g_aload_n (q := 95) C dX2_cardKind_94 rfl rfl ?_
          refine g_getfield (v := .ref 28) (q := 98) C fX2_20 dX2_cardKind_95 rfl HL.1 rfl ?_
          refine g_getfield (v := .int L.cd.ask) (q := 101) C fX2_149 dX2_cardKind_98 rfl HL.2.2.1.1 rfl ?_
          refine g_iconst (v := (-1)) (q := 102) C dX2_cardKind_101 (by decide) rfl ?_
          refine g_icmp_eq (t := 110) (q := 105) C dX2_cardKind_102 (by decide) rfl (fun c_102 => ?_) (fun c_102 => ?_)
          ·
            refine g_iload_n (q := 111) C dX2_cardKind_110 rfl rfl ?_
            refine g_sipush (v := 192) (q := 114) C dX2_cardKind_111 (by decide) rfl ?_
            refine g_icmp_lt (t := 131) (q := 117) C dX2_cardKind_114 (by decide) rfl (fun c_114 => ?_) (fun c_114 => ?_)
            ·
              refine g_iload_n (q := 132) C dX2_cardKind_131 rfl rfl ?_
              refine g_sipush (v := 128) (q := 135) C dX2_cardKind_132 (by decide) rfl ?_
              refine g_icmp_ge (t := 150) (q := 138) C dX2_cardKind_135 (by decide) rfl (fun c_135 => ?_) (fun c_135 => ?_)
              ·
                refine g_aload_n (q := 151) C dX2_cardKind_150 rfl rfl ?_
                refine g_aload_n (q := 152) C dX2_cardKind_151 rfl rfl ?_
                refine g_getfield (v := .ref 28) (q := 155) C fX2_20 dX2_cardKind_152 rfl HL.1 rfl ?_
                refine g_iload_n (q := 156) C dX2_cardKind_155 rfl rfl ?_
                refine g_callVix (x := (rX2_onReceipt_c L (gat L.ca 1)).1) (q := 159) (As := [.ref 28, .int ((gat L.ca 1))]) C gyX2_onReceipt gvX2_onReceipt t_699 (c_X2_onReceipt_c_l HL) dX2_cardKind_156 rfl HL.1 rfl rfl rfl (Nat.le_of_ble_eq_true rfl) (Nat.le_of_ble_eq_true rfl) (Nat.le_of_ble_eq_true rfl) (Nat.le_of_ble_eq_true rfl) (Nat.le_of_ble_eq_true rfl) rfl (fun h1 z1 => ?_)
                obtain ⟨HL1, fr1⟩ := z1
                have e : rX2_cardKind L = ((rX2_onReceipt_c L (gat L.ca 1)).1, (rX2_onReceipt_c L (gat L.ca 1)).2) := ((if_pos c_4).trans ((if_neg c_38).trans ((if_pos c_47).trans ((if_neg c_72).trans ((if_pos c_102).trans ((if_pos c_114).trans (if_pos c_135)))))))
                exact E.1 _ _ _ _ _ _ _ dX2_cardKind_159 rfl rfl (Nat.le_of_ble_eq_true rfl) (Nat.le_of_ble_eq_true rfl) ⟨by rw [e], by rw [e]; exact ⟨HL1, fr1⟩⟩
              ·
                refine g_aload_n (q := 139) C dX2_cardKind_138 rfl rfl ?_
                refine g_aload_n (q := 140) C dX2_cardKind_139 rfl rfl ?_
                refine g_getfield (v := .ref 28) (q := 143) C fX2_20 dX2_cardKind_140 rfl HL.1 rfl ?_
                refine g_iload_n (q := 144) C dX2_cardKind_143 rfl rfl ?_
                refine g_callVix (x := (rX2_onI_c L (gat L.ca 1)).1) (q := 147) (As := [.ref 28, .int ((gat L.ca 1))]) C gyX2_onI gvX2_onI t_674 (c_X2_onI_c_l HL (hca c_47)) dX2_cardKind_144 rfl HL.1 rfl rfl rfl (Nat.le_of_ble_eq_true rfl) (Nat.le_of_ble_eq_true rfl) (Nat.le_of_ble_eq_true rfl) (Nat.le_of_ble_eq_true rfl) (Nat.le_of_ble_eq_true rfl) rfl (fun h2 z2 => ?_)
                obtain ⟨HL2, fr2⟩ := z2
                refine g_goto (q := 159) C dX2_cardKind_147 (by decide) ?_
                have e : rX2_cardKind L = ((rX2_onI_c L (gat L.ca 1)).1, (rX2_onI_c L (gat L.ca 1)).2) := ((if_pos c_4).trans ((if_neg c_38).trans ((if_pos c_47).trans ((if_neg c_72).trans ((if_pos c_102).trans ((if_pos c_114).trans (if_neg c_135)))))))
                exact E.1 _ _ _ _ _ _ _ dX2_cardKind_159 rfl rfl (Nat.le_of_ble_eq_true rfl) (Nat.le_of_ble_eq_true rfl) ⟨by rw [e], by rw [e]; exact ⟨HL2, fr2⟩⟩
            ·
              refine g_aload_n (q := 118) C dX2_cardKind_117 rfl rfl ?_
              refine g_aload_n (q := 119) C dX2_cardKind_118 rfl rfl ?_
              refine g_getfield (v := .ref 28) (q := 122) C fX2_20 dX2_cardKind_119 rfl HL.1 rfl ?_
              refine g_aload_n (q := 123) C dX2_cardKind_122 rfl rfl ?_
              refine g_getfield (v := .ref 21) (q := 126) C fX2_14 dX2_cardKind_123 rfl HL.1 rfl ?_
              refine g_iload_n (q := 127) C dX2_cardKind_126 rfl rfl ?_
              refine g_callVix (x := (rX2_onRequest_c L (gat L.ca 1)).1) (q := 130) (As := [.ref 28, .ref 21, .int ((gat L.ca 1))]) C gyX2_onRequest gvX2_onRequest t_658 (c_X2_onRequest_c_l HL) dX2_cardKind_127 rfl HL.1 rfl rfl rfl (Nat.le_of_ble_eq_true rfl) (Nat.le_of_ble_eq_true rfl) (Nat.le_of_ble_eq_true rfl) (Nat.le_of_ble_eq_true rfl) (Nat.le_of_ble_eq_true rfl) rfl (fun h3 z3 => ?_)
              obtain ⟨HL3, fr3⟩ := z3
              have e : rX2_cardKind L = ((rX2_onRequest_c L (gat L.ca 1)).1, (rX2_onRequest_c L (gat L.ca 1)).2) := ((if_pos c_4).trans ((if_neg c_38).trans ((if_pos c_47).trans ((if_neg c_72).trans ((if_pos c_102).trans (if_neg c_114))))))
              exact E.1 _ _ _ _ _ _ _ dX2_cardKind_130 rfl rfl (Nat.le_of_ble_eq_true rfl) (Nat.le_of_ble_eq_true rfl) ⟨by rw [e], by rw [e]; exact ⟨HL3, fr3⟩⟩
          ·
            refine g_aload_n (q := 106) C dX2_cardKind_105 rfl rfl ?_
            refine g_callVix (x := (rX2_cardOnAnswer L).1) (q := 109) (As := []) C gyX2_cardOnAnswer gvX2_cardOnAnswer t_808 (c_X2_cardOnAnswer_l HL) dX2_cardKind_106 rfl HL.1 rfl rfl rfl (Nat.le_of_ble_eq_true rfl) (Nat.le_of_ble_eq_true rfl) (Nat.le_of_ble_eq_true rfl) (Nat.le_of_ble_eq_true rfl) (Nat.le_of_ble_eq_true rfl) rfl (fun h4 z4 => ?_)
            obtain ⟨HL4, fr4⟩ := z4
            have e : rX2_cardKind L = ((rX2_cardOnAnswer L).1, (rX2_cardOnAnswer L).2) := ((if_pos c_4).trans ((if_neg c_38).trans ((if_pos c_47).trans ((if_neg c_72).trans (if_neg c_102)))))
            exact E.1 _ _ _ _ _ _ _ dX2_cardKind_109 rfl rfl (Nat.le_of_ble_eq_true rfl) (Nat.le_of_ble_eq_true rfl) ⟨by rw [e], by rw [e]; exact ⟨HL4, fr4⟩⟩
        ·
          refine g_aload_n (q := 76) C dX2_cardKind_75 rfl rfl ?_
          refine g_getfield (v := .ref 28) (q := 79) C fX2_20 dX2_cardKind_76 rfl HL.1 rfl ?_
          refine g_callVvp (q := 82) (As := []) C gyX5_emptyAll gvX5_emptyAll t_653 (c_X5_emptyAll_s HL.2.2.1) dX2_cardKind_79 rfl HL.2.2.1.1 rfl rfl rfl (Nat.le_of_ble_eq_true rfl) (Nat.le_of_ble_eq_true rfl) (Nat.le_of_ble_eq_true rfl) (Nat.le_of_ble_eq_true rfl) (Nat.le_of_ble_eq_true rfl) rfl (fun h5 z5 => ?_)
          obtain ⟨HL5, fr5⟩ := gLine.cd_ HL z5
          refine g_aload_n (q := 83) C dX2_cardKind_82 rfl rfl ?_
          refine g_getfield (v := .ref 28) (q := 86) C fX2_20 dX2_cardKind_83 rfl HL5.1 rfl ?_
          refine g_iconst (v := (-1)) (q := 87) C dX2_cardKind_86 (by decide) rfl ?_
          refine g_putfield (q := 90) C fX2_149 dX2_cardKind_87 rfl HL5.2.2.1.1 (Nat.le_of_ble_eq_true rfl) (Or.inl rfl) rfl rfl (by intro z h; cases h) ?_
          refine gLput_cd (k := 4) (x := (-1)) HL5 rfl fun h6 HL6 fr6 => ?_
          refine g_sipush (v := 224) (q := 93) C dX2_cardKind_90 (by decide) rfl ?_
          have e : rX2_cardKind L = (224, ((L.side 1 L.cd.empt).side 1 ((L.side 1 L.cd.empt).cd.set 4 (-1)))) := ((if_pos c_4).trans ((if_neg c_38).trans ((if_pos c_47).trans (if_pos c_72))))
          exact E.1 _ _ _ _ _ _ _ dX2_cardKind_93 rfl rfl (Nat.le_of_ble_eq_true rfl) (Nat.le_of_ble_eq_true rfl) ⟨by rw [e], by rw [e]; exact ⟨HL6, (gFL.trans fr5 fr6)⟩⟩
      ·
        refine g_aload_n (q := 51) C dX2_cardKind_50 rfl rfl ?_
        refine g_aload_n (q := 52) C dX2_cardKind_51 rfl rfl ?_
        refine g_getfield (v := .ref 28) (q := 55) C fX2_20 dX2_cardKind_52 rfl HL.1 rfl ?_
        refine g_callVix (x := (rX2_onBroken_c L).1) (q := 58) (As := [.ref 28]) C gyX2_onBroken gvX2_onBroken t_635 (c_X2_onBroken_c_l HL) dX2_cardKind_55 rfl HL.1 rfl rfl rfl (Nat.le_of_ble_eq_true rfl) (Nat.le_of_ble_eq_true rfl) (Nat.le_of_ble_eq_true rfl) (Nat.le_of_ble_eq_true rfl) (Nat.le_of_ble_eq_true rfl) rfl (fun h7 z7 => ?_)
        obtain ⟨HL7, fr7⟩ := z7
        have e : rX2_cardKind L = ((rX2_onBroken_c L).1, (rX2_onBroken_c L).2) := ((if_pos c_4).trans ((if_neg c_38).trans (if_neg c_47)))
        exact E.1 _ _ _ _ _ _ _ dX2_cardKind_58 rfl rfl (Nat.le_of_ble_eq_true rfl) (Nat.le_of_ble_eq_true rfl) ⟨by rw [e], by rw [e]; exact ⟨HL7, fr7⟩⟩
    ·
      refine g_iconst (v := (-1)) (q := 42) C dX2_cardKind_41 (by decide) rfl ?_
      have e : rX2_cardKind L = ((-1), L) := ((if_pos c_4).trans (if_pos c_38))
      exact E.1 _ _ _ _ _ _ _ dX2_cardKind_42 rfl rfl (Nat.le_of_ble_eq_true rfl) (Nat.le_of_ble_eq_true rfl) ⟨by rw [e], by rw [e]; exact ⟨HL, gFL.rf⟩⟩
  ·
    refine g_aload_n (q := 8) C dX2_cardKind_7 rfl rfl ?_
    refine g_dup (q := 9) C dX2_cardKind_8 rfl rfl ?_
    refine g_getfield (v := .int L.si) (q := 12) C fX2_77 dX2_cardKind_9 rfl HL.1 rfl ?_
    refine g_iconst (v := 1) (q := 13) C dX2_cardKind_12 (by decide) rfl ?_
    refine g_isub (q := 14) C dX2_cardKind_13 rfl ?_
    refine g_putfield (q := 17) C fX2_77 dX2_cardKind_14 rfl HL.1 (Nat.le_of_ble_eq_true rfl) (Or.inl rfl) rfl rfl (by intro z h; cases h) ?_
    refine gLput (k := 11) (x := (L.si - 1)) HL rfl fun h8 HL8 fr8 => ?_
    refine g_aload_n (q := 18) C dX2_cardKind_17 rfl rfl ?_
    refine g_getfield (v := .int ((L.set 11 (L.si - 1)).si)) (q := 21) C fX2_77 dX2_cardKind_18 rfl HL8.1 rfl ?_
    refine g_if_le (t := 28) (q := 24) C dX2_cardKind_21 (by decide) rfl (fun c_21 => ?_) (fun c_21 => ?_)
    ·
      refine g_aload_n (q := 29) C dX2_cardKind_28 rfl rfl ?_
      refine g_callVix (x := (rX2_putFirstByte (L.set 11 (L.si - 1))).1) (q := 32) (As := []) C gyX2_putFirstByte gvX2_putFirstByte t_804 (c_X2_putFirstByte_l HL8) dX2_cardKind_29 rfl HL8.1 rfl rfl rfl (Nat.le_of_ble_eq_true rfl) (Nat.le_of_ble_eq_true rfl) (Nat.le_of_ble_eq_true rfl) (Nat.le_of_ble_eq_true rfl) (Nat.le_of_ble_eq_true rfl) rfl (fun h9 z9 => ?_)
      obtain ⟨HL9, fr9⟩ := z9
      have e : rX2_cardKind L = ((rX2_putFirstByte (L.set 11 (L.si - 1))).1, (rX2_putFirstByte (L.set 11 (L.si - 1))).2) := ((if_neg c_4).trans (if_pos c_21))
      exact E.1 _ _ _ _ _ _ _ dX2_cardKind_32 rfl rfl (Nat.le_of_ble_eq_true rfl) (Nat.le_of_ble_eq_true rfl) ⟨by rw [e], by rw [e]; exact ⟨HL9, (gFL.trans fr8 fr9)⟩⟩
    ·
      refine g_iconst (v := (-1)) (q := 25) C dX2_cardKind_24 (by decide) rfl ?_
      refine g_goto (q := 32) C dX2_cardKind_25 (by decide) ?_
      have e : rX2_cardKind L = ((-1), (L.set 11 (L.si - 1))) := ((if_neg c_4).trans (if_neg c_21))
      exact E.1 _ _ _ _ _ _ _ dX2_cardKind_32 rfl rfl (Nat.le_of_ble_eq_true rfl) (Nat.le_of_ble_eq_true rfl) ⟨by rw [e], by rw [e]; exact ⟨HL8, fr8⟩⟩
