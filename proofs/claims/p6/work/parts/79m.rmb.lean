theorem rClk : ∀ {x : Int32}, gIr x 255 → rX8_clocks_x (x >>> (4 &&& 31)) = rX3_clockOf x := fun {x} h => by
  obtain ⟨b, hb, rfl⟩ := h
  exact (by decide +kernel : ∀ b : Fin 256, rX8_clocks_x (nI b.1 >>> (4 &&& 31)) = rX3_clockOf (nI b.1)) ⟨b, by omega⟩
theorem rBit : ∀ {x : Int32}, gIr x 255 → rX8_bits_x (x &&& 15) = rX3_divisorOf x := fun {x} h => by
  obtain ⟨b, hb, rfl⟩ := h
  exact (by decide +kernel : ∀ b : Fin 256, rX8_bits_x (nI b.1 &&& 15) = rX3_divisorOf (nI b.1)) ⟨b, by omega⟩
def nF (N1 : gMd) (x1 : Int32) : gMd := (if (N1.f 22) = 0 then (if (rX8_clocks_x (x1 >>> (4 &&& 31))) = 0 then (rX8_wrong ((N1.put 2 1 (rX8_clocks_x (x1 >>> (4 &&& 31)))).put 2 2 (rX8_bits_x (x1 &&& 15))) 4 ((N1.f 21) - 1)) else (if (rX8_bits_x (x1 &&& 15)) = 0 then (rX8_wrong ((N1.put 2 1 (rX8_clocks_x (x1 >>> (4 &&& 31)))).put 2 2 (rX8_bits_x (x1 &&& 15))) 4 ((N1.f 21) - 1)) else ((N1.put 2 1 (rX8_clocks_x (x1 >>> (4 &&& 31)))).put 2 2 (rX8_bits_x (x1 &&& 15))))) else N1)
set_option maxRecDepth 100000 in
set_option maxHeartbeats 4000000 in
theorem c_X8_factorx_r {hp : List gA} {M : gMd}  (HM : gMod hp M) (hz : ∃ z, z ≤ 96 ∧ M.f 20 = nI z ∧ ∃ a, a ≤ z ∧ M.f 21 = nI a) : gM yX8_factor cX8_factor 2 (none) 2 42 [.ref 122] (hp) (0) (0) (fun v h => v = none ∧ ∃ M' x, gBn M M' x ∧ gMod h (nF M' x) ∧ gFM hp h) := by
  refine gM_of (ls0 := [some (.ref 122), none]) (by decide +kernel) (Nat.le_of_ble_eq_true rfl) rfl fun X C E => ?_
  refine g_aload_n (q := 1) C dX8_factor_0 rfl rfl ?_
  refine g_callVip (q := 4) (As := []) C gyX8_byteNext gvX8_byteNext t_1218 (c_X8_byteNext_r HM hz) dX8_factor_1 rfl HM.1 rfl rfl rfl (Nat.le_of_ble_eq_true rfl) (Nat.le_of_ble_eq_true rfl) (Nat.le_of_ble_eq_true rfl) (Nat.le_of_ble_eq_true rfl) (Nat.le_of_ble_eq_true rfl) rfl (fun x1 h1 z1 => ?_)
  obtain ⟨N1, HN1, fn1, bn1⟩ := z1
  refine g_istore_n (q := 5) C dX8_factor_4 (Nat.le_of_ble_eq_true rfl) (by simp only [gset]; rfl) rfl ?_
  refine g_aload_n (q := 6) C dX8_factor_5 rfl rfl ?_
  refine g_getfield (v := .int ((N1.f 22))) (q := 9) C fX8_86 dX8_factor_6 rfl HN1.1 rfl ?_
  refine g_if_eq (t := 13) (q := 12) C dX8_factor_9 (by decide) rfl (fun c_9 => ?_) (fun c_9 => ?_)
  ·
    refine g_aload_n (q := 14) C dX8_factor_13 rfl rfl ?_
    refine g_getfield (v := .ref 125) (q := 17) C fX8_16 dX8_factor_14 rfl HN1.1 rfl ?_
    refine g_iconst (v := 1) (q := 18) C dX8_factor_17 (by decide) rfl ?_
    refine g_iload_n (q := 19) C dX8_factor_18 rfl rfl ?_
    refine g_iconst (v := 4) (q := 20) C dX8_factor_19 (by decide) rfl ?_
    refine g_ishr (q := 21) C dX8_factor_20 rfl ?_
    refine g_callSi (x := (rX8_clocks_x (x1 >>> (4 &&& 31)))) (q := 24) (As := [.int ((x1 >>> (4 &&& 31)))]) C gyX8_clocks t_1239 t_1238 (c_X8_clocks_x_m) dX8_factor_21 rfl rfl rfl (Nat.le_of_ble_eq_true rfl) (Nat.le_of_ble_eq_true rfl) (Nat.le_of_ble_eq_true rfl) (Nat.le_of_ble_eq_true rfl) (Nat.le_of_ble_eq_true rfl) rfl ?_
    refine g_iastoreN (j := 1) (q := 25) C dX8_factor_24 rfl (HN1.ar (i := 2) (n := 9) (by decide) rfl) (pk_in 1 9 (by decide)) (pk_cl 1) ?_
    refine gMsto (i := 2) (j := 1) (x := (rX8_clocks_x (x1 >>> (4 &&& 31)))) HN1 (by decide) rfl rfl fun h2 HL2 fr2 => ?_
    refine g_aload_n (q := 26) C dX8_factor_25 rfl rfl ?_
    refine g_getfield (v := .ref 125) (q := 29) C fX8_16 dX8_factor_26 rfl HL2.1 rfl ?_
    refine g_iconst (v := 2) (q := 30) C dX8_factor_29 (by decide) rfl ?_
    refine g_iload_n (q := 31) C dX8_factor_30 rfl rfl ?_
    refine g_bipush (v := 15) (q := 33) C dX8_factor_31 (by decide) rfl ?_
    refine g_iand (q := 34) C dX8_factor_33 rfl ?_
    refine g_callSi (x := (rX8_bits_x (x1 &&& 15))) (q := 37) (As := [.int ((x1 &&& 15))]) C gyX8_bits t_1242 t_1241 (c_X8_bits_x_m) dX8_factor_34 rfl rfl rfl (Nat.le_of_ble_eq_true rfl) (Nat.le_of_ble_eq_true rfl) (Nat.le_of_ble_eq_true rfl) (Nat.le_of_ble_eq_true rfl) (Nat.le_of_ble_eq_true rfl) rfl ?_
    refine g_iastoreN (j := 2) (q := 38) C dX8_factor_37 rfl (HL2.ar (i := 2) (n := 9) (by decide) rfl) (pk_in 2 9 (by decide)) (pk_cl 2) ?_
    refine gMsto (i := 2) (j := 2) (x := (rX8_bits_x (x1 &&& 15))) HL2 (by decide) rfl rfl fun h3 HL3 fr3 => ?_
    refine g_aload_n (q := 39) C dX8_factor_38 rfl rfl ?_
    refine g_getfield (v := .ref 125) (q := 42) C fX8_16 dX8_factor_39 rfl HL3.1 rfl ?_
    refine g_iconst (v := 1) (q := 43) C dX8_factor_42 (by decide) rfl ?_
    refine g_ialoadN (x := (rX8_clocks_x (x1 >>> (4 &&& 31)))) (j := 1) (q := 44) C dX8_factor_43 rfl (HL3.ar (i := 2) (n := 9) (by decide) rfl) (pk_in 1 9 (by decide)) (pk_cl 1) ((gput_n (by decide)).trans gput_s) ?_
    refine g_if_eq (t := 56) (q := 47) C dX8_factor_44 (by decide) rfl (fun c_44 => ?_) (fun c_44 => ?_)
    ·
      refine g_aload_n (q := 57) C dX8_factor_56 rfl rfl ?_
      refine g_iconst (v := 4) (q := 58) C dX8_factor_57 (by decide) rfl ?_
      refine g_aload_n (q := 59) C dX8_factor_58 rfl rfl ?_
      refine g_getfield (v := .int ((N1.f 21))) (q := 62) C fX8_89 dX8_factor_59 rfl HL3.1 rfl ?_
      refine g_iconst (v := 1) (q := 63) C dX8_factor_62 (by decide) rfl ?_
      refine g_isub (q := 64) C dX8_factor_63 rfl ?_
      refine g_callVvp (q := 67) (As := [.int 4, .int (((N1.f 21) - 1))]) C gyX8_wrong gvX8_wrong t_1222 (c_X8_wrong_m HL3) dX8_factor_64 rfl HL3.1 rfl rfl rfl (Nat.le_of_ble_eq_true rfl) (Nat.le_of_ble_eq_true rfl) (Nat.le_of_ble_eq_true rfl) (Nat.le_of_ble_eq_true rfl) (Nat.le_of_ble_eq_true rfl) rfl (fun h4 z4 => ?_)
      obtain ⟨HL4, fr4⟩ := z4
      have e : nF N1 x1 = (rX8_wrong ((N1.put 2 1 (rX8_clocks_x (x1 >>> (4 &&& 31)))).put 2 2 (rX8_bits_x (x1 &&& 15))) 4 ((N1.f 21) - 1)) := ((if_pos c_9).trans (if_pos c_44))
      exact E.2.1 _ _ _ _ _ dX8_factor_67 rfl (Nat.le_of_ble_eq_true rfl) (Nat.le_of_ble_eq_true rfl) ⟨rfl, N1, x1, bn1, by rw [e]; exact HL4, (gFM.trans (gFM.trans (gFM.trans fn1 fr2) fr3) fr4)⟩
    ·
      refine g_aload_n (q := 48) C dX8_factor_47 rfl rfl ?_
      refine g_getfield (v := .ref 125) (q := 51) C fX8_16 dX8_factor_48 rfl HL3.1 rfl ?_
      refine g_iconst (v := 2) (q := 52) C dX8_factor_51 (by decide) rfl ?_
      refine g_ialoadN (x := (rX8_bits_x (x1 &&& 15))) (j := 2) (q := 53) C dX8_factor_52 rfl (HL3.ar (i := 2) (n := 9) (by decide) rfl) (pk_in 2 9 (by decide)) (pk_cl 2) gput_s ?_
      refine g_if_ne (t := 67) (q := 56) C dX8_factor_53 (by decide) rfl (fun c_53 => ?_) (fun c_53 => ?_)
      ·
        have e : nF N1 x1 = ((N1.put 2 1 (rX8_clocks_x (x1 >>> (4 &&& 31)))).put 2 2 (rX8_bits_x (x1 &&& 15))) := ((if_pos c_9).trans ((if_neg c_44).trans (if_neg c_53)))
        exact E.2.1 _ _ _ _ _ dX8_factor_67 rfl (Nat.le_of_ble_eq_true rfl) (Nat.le_of_ble_eq_true rfl) ⟨rfl, N1, x1, bn1, by rw [e]; exact HL3, (gFM.trans (gFM.trans fn1 fr2) fr3)⟩
      ·
        refine g_aload_n (q := 57) C dX8_factor_56 rfl rfl ?_
        refine g_iconst (v := 4) (q := 58) C dX8_factor_57 (by decide) rfl ?_
        refine g_aload_n (q := 59) C dX8_factor_58 rfl rfl ?_
        refine g_getfield (v := .int ((N1.f 21))) (q := 62) C fX8_89 dX8_factor_59 rfl HL3.1 rfl ?_
        refine g_iconst (v := 1) (q := 63) C dX8_factor_62 (by decide) rfl ?_
        refine g_isub (q := 64) C dX8_factor_63 rfl ?_
        refine g_callVvp (q := 67) (As := [.int 4, .int (((N1.f 21) - 1))]) C gyX8_wrong gvX8_wrong t_1222 (c_X8_wrong_m HL3) dX8_factor_64 rfl HL3.1 rfl rfl rfl (Nat.le_of_ble_eq_true rfl) (Nat.le_of_ble_eq_true rfl) (Nat.le_of_ble_eq_true rfl) (Nat.le_of_ble_eq_true rfl) (Nat.le_of_ble_eq_true rfl) rfl (fun h5 z5 => ?_)
        obtain ⟨HL5, fr5⟩ := z5
        have e : nF N1 x1 = (rX8_wrong ((N1.put 2 1 (rX8_clocks_x (x1 >>> (4 &&& 31)))).put 2 2 (rX8_bits_x (x1 &&& 15))) 4 ((N1.f 21) - 1)) := ((if_pos c_9).trans ((if_neg c_44).trans (if_pos c_53)))
        exact E.2.1 _ _ _ _ _ dX8_factor_67 rfl (Nat.le_of_ble_eq_true rfl) (Nat.le_of_ble_eq_true rfl) ⟨rfl, N1, x1, bn1, by rw [e]; exact HL5, (gFM.trans (gFM.trans (gFM.trans fn1 fr2) fr3) fr5)⟩
  ·
    have e : nF N1 x1 = N1 := (if_neg c_9)
    exact E.2.1 _ _ _ _ _ dX8_factor_12 rfl (Nat.le_of_ble_eq_true rfl) (Nat.le_of_ble_eq_true rfl) ⟨rfl, N1, x1, bn1, by rw [e]; exact HN1, fn1⟩
def nW (N1 : gMd) (x1 : Int32) : gMd := (if (N1.f 22) = 0 then (if (rX8_within x1 1 254) = 0 then ((rX8_wrong N1 5 ((N1.f 21) - 1)).put 2 7 x1) else (N1.put 2 7 x1)) else (N1.put 2 7 x1))
set_option maxRecDepth 100000 in
set_option maxHeartbeats 4000000 in
theorem c_X8_windowx_r {hp : List gA} {M : gMd}  (HM : gMod hp M) (hz : ∃ z, z ≤ 96 ∧ M.f 20 = nI z ∧ ∃ a, a ≤ z ∧ M.f 21 = nI a) : gM yX8_window cX8_window 2 (none) 2 42 [.ref 122] (hp) (0) (0) (fun v h => v = none ∧ ∃ M' x, gBn M M' x ∧ gMod h (nW M' x) ∧ gFM hp h) := by
  refine gM_of (ls0 := [some (.ref 122), none]) (by decide +kernel) (Nat.le_of_ble_eq_true rfl) rfl fun X C E => ?_
  refine g_aload_n (q := 1) C dX8_window_0 rfl rfl ?_
  refine g_callVip (q := 4) (As := []) C gyX8_byteNext gvX8_byteNext t_1218 (c_X8_byteNext_r HM hz) dX8_window_1 rfl HM.1 rfl rfl rfl (Nat.le_of_ble_eq_true rfl) (Nat.le_of_ble_eq_true rfl) (Nat.le_of_ble_eq_true rfl) (Nat.le_of_ble_eq_true rfl) (Nat.le_of_ble_eq_true rfl) rfl (fun x1 h1 z1 => ?_)
  obtain ⟨N1, HN1, fn1, bn1⟩ := z1
  refine g_istore_n (q := 5) C dX8_window_4 (Nat.le_of_ble_eq_true rfl) (by simp only [gset]; rfl) rfl ?_
  refine g_aload_n (q := 6) C dX8_window_5 rfl rfl ?_
  refine g_getfield (v := .int ((N1.f 22))) (q := 9) C fX8_86 dX8_window_6 rfl HN1.1 rfl ?_
  refine g_if_ne (t := 34) (q := 12) C dX8_window_9 (by decide) rfl (fun c_9 => ?_) (fun c_9 => ?_)
  ·
    refine g_aload_n (q := 35) C dX8_window_34 rfl rfl ?_
    refine g_getfield (v := .ref 125) (q := 38) C fX8_16 dX8_window_35 rfl HN1.1 rfl ?_
    refine g_bipush (v := 7) (q := 40) C dX8_window_38 (by decide) rfl ?_
    refine g_iload_n (q := 41) C dX8_window_40 rfl rfl ?_
    refine g_iastoreN (j := 7) (q := 42) C dX8_window_41 rfl (HN1.ar (i := 2) (n := 9) (by decide) rfl) (pk_in 7 9 (by decide)) (pk_cl 7) ?_
    refine gMsto (i := 2) (j := 7) (x := x1) HN1 (by decide) rfl rfl fun h2 HL2 fr2 => ?_
    have e : nW N1 x1 = (N1.put 2 7 x1) := (if_neg c_9)
    exact E.2.1 _ _ _ _ _ dX8_window_42 rfl (Nat.le_of_ble_eq_true rfl) (Nat.le_of_ble_eq_true rfl) ⟨rfl, N1, x1, bn1, by rw [e]; exact HL2, (gFM.trans fn1 fr2)⟩
  ·
    refine g_iload_n (q := 13) C dX8_window_12 rfl rfl ?_
    refine g_iconst (v := 1) (q := 14) C dX8_window_13 (by decide) rfl ?_
    refine g_sipush (v := 254) (q := 17) C dX8_window_14 (by decide) rfl ?_
    refine g_callSi (x := (rX8_within x1 1 254)) (q := 20) (As := [.int x1, .int 1, .int 254]) C gyX8_within t_1212 t_1211 (c_X8_within_m) dX8_window_17 rfl rfl rfl (Nat.le_of_ble_eq_true rfl) (Nat.le_of_ble_eq_true rfl) (Nat.le_of_ble_eq_true rfl) (Nat.le_of_ble_eq_true rfl) (Nat.le_of_ble_eq_true rfl) rfl ?_
    refine g_if_ne (t := 34) (q := 23) C dX8_window_20 (by decide) rfl (fun c_20 => ?_) (fun c_20 => ?_)
    ·
      refine g_aload_n (q := 35) C dX8_window_34 rfl rfl ?_
      refine g_getfield (v := .ref 125) (q := 38) C fX8_16 dX8_window_35 rfl HN1.1 rfl ?_
      refine g_bipush (v := 7) (q := 40) C dX8_window_38 (by decide) rfl ?_
      refine g_iload_n (q := 41) C dX8_window_40 rfl rfl ?_
      refine g_iastoreN (j := 7) (q := 42) C dX8_window_41 rfl (HN1.ar (i := 2) (n := 9) (by decide) rfl) (pk_in 7 9 (by decide)) (pk_cl 7) ?_
      refine gMsto (i := 2) (j := 7) (x := x1) HN1 (by decide) rfl rfl fun h3 HL3 fr3 => ?_
      have e : nW N1 x1 = (N1.put 2 7 x1) := ((if_pos c_9).trans (if_neg c_20))
      exact E.2.1 _ _ _ _ _ dX8_window_42 rfl (Nat.le_of_ble_eq_true rfl) (Nat.le_of_ble_eq_true rfl) ⟨rfl, N1, x1, bn1, by rw [e]; exact HL3, (gFM.trans fn1 fr3)⟩
    ·
      refine g_aload_n (q := 24) C dX8_window_23 rfl rfl ?_
      refine g_iconst (v := 5) (q := 25) C dX8_window_24 (by decide) rfl ?_
      refine g_aload_n (q := 26) C dX8_window_25 rfl rfl ?_
      refine g_getfield (v := .int ((N1.f 21))) (q := 29) C fX8_89 dX8_window_26 rfl HN1.1 rfl ?_
      refine g_iconst (v := 1) (q := 30) C dX8_window_29 (by decide) rfl ?_
      refine g_isub (q := 31) C dX8_window_30 rfl ?_
      refine g_callVvp (q := 34) (As := [.int 5, .int (((N1.f 21) - 1))]) C gyX8_wrong gvX8_wrong t_1222 (c_X8_wrong_m HN1) dX8_window_31 rfl HN1.1 rfl rfl rfl (Nat.le_of_ble_eq_true rfl) (Nat.le_of_ble_eq_true rfl) (Nat.le_of_ble_eq_true rfl) (Nat.le_of_ble_eq_true rfl) (Nat.le_of_ble_eq_true rfl) rfl (fun h4 z4 => ?_)
      obtain ⟨HL4, fr4⟩ := z4
      refine g_aload_n (q := 35) C dX8_window_34 rfl rfl ?_
      refine g_getfield (v := .ref 125) (q := 38) C fX8_16 dX8_window_35 rfl HL4.1 rfl ?_
      refine g_bipush (v := 7) (q := 40) C dX8_window_38 (by decide) rfl ?_
      refine g_iload_n (q := 41) C dX8_window_40 rfl rfl ?_
      refine g_iastoreN (j := 7) (q := 42) C dX8_window_41 rfl (HL4.ar (i := 2) (n := 9) (by decide) rfl) (pk_in 7 9 (by decide)) (pk_cl 7) ?_
      refine gMsto (i := 2) (j := 7) (x := x1) HL4 (by decide) rfl rfl fun h5 HL5 fr5 => ?_
      have e : nW N1 x1 = ((rX8_wrong N1 5 ((N1.f 21) - 1)).put 2 7 x1) := ((if_pos c_9).trans (if_pos c_20))
      exact E.2.1 _ _ _ _ _ dX8_window_42 rfl (Nat.le_of_ble_eq_true rfl) (Nat.le_of_ble_eq_true rfl) ⟨rfl, N1, x1, bn1, by rw [e]; exact HL5, (gFM.trans (gFM.trans fn1 fr4) fr5)⟩
def nL1 (N1 : gMd) (y x1 : Int32) : gMd := (if (N1.f 22) = 0 then (if y = (N1.f 23) then (if (x1 >>> (4 &&& 31)) ≤ 9 then N1 else (rX8_wrong N1 5 ((N1.f 21) - 1))) else N1) else N1)
def nL2 (N1 : gMd) (y x1 : Int32) : gMd := (if y = 1 then (if (N1.f 22) = 0 then (if y = (N1.f 23) then (if x1 = 0 then (N1.put 2 3 x1) else (rX8_wrong (N1.put 2 3 x1) 5 ((N1.f 21) - 1))) else (N1.put 2 3 x1)) else (N1.put 2 3 x1)) else (if (N1.f 22) = 0 then (if y = (N1.f 23) then (if x1 = 0 then N1 else (rX8_wrong N1 5 ((N1.f 21) - 1))) else N1) else N1))
theorem rB0 {z : Int32} (h : gIr z 15) (c : ¬ z &&& 1 = 0) : ¬ (z >>> (nI 0 &&& 31)) &&& 1 = 0 := by
  obtain ⟨b, hb, rfl⟩ := h
  exact (by decide +kernel : ∀ b : Fin 16, ¬ nI b.1 &&& 1 = 0 → ¬ (nI b.1 >>> (nI 0 &&& 31)) &&& 1 = 0) ⟨b, by omega⟩ c
theorem rB0n {z : Int32} (h : gIr z 15) (c : z &&& 1 = 0) : (z >>> (nI 0 &&& 31)) &&& 1 = 0 := by
  obtain ⟨b, hb, rfl⟩ := h
  exact (by decide +kernel : ∀ b : Fin 16, nI b.1 &&& 1 = 0 → (nI b.1 >>> (nI 0 &&& 31)) &&& 1 = 0) ⟨b, by omega⟩ c
theorem rB1 {z : Int32} (h : gIr z 15) (c : ¬ z &&& 2 = 0) : ¬ (z >>> (nI 1 &&& 31)) &&& 1 = 0 := by
  obtain ⟨b, hb, rfl⟩ := h
  exact (by decide +kernel : ∀ b : Fin 16, ¬ nI b.1 &&& 2 = 0 → ¬ (nI b.1 >>> (nI 1 &&& 31)) &&& 1 = 0) ⟨b, by omega⟩ c
theorem rB1n {z : Int32} (h : gIr z 15) (c : z &&& 2 = 0) : (z >>> (nI 1 &&& 31)) &&& 1 = 0 := by
  obtain ⟨b, hb, rfl⟩ := h
  exact (by decide +kernel : ∀ b : Fin 16, nI b.1 &&& 2 = 0 → (nI b.1 >>> (nI 1 &&& 31)) &&& 1 = 0) ⟨b, by omega⟩ c
theorem rB2 {z : Int32} (h : gIr z 15) (c : ¬ z &&& 4 = 0) : ¬ (z >>> (nI 2 &&& 31)) &&& 1 = 0 := by
  obtain ⟨b, hb, rfl⟩ := h
  exact (by decide +kernel : ∀ b : Fin 16, ¬ nI b.1 &&& 4 = 0 → ¬ (nI b.1 >>> (nI 2 &&& 31)) &&& 1 = 0) ⟨b, by omega⟩ c
theorem rB2n {z : Int32} (h : gIr z 15) (c : z &&& 4 = 0) : (z >>> (nI 2 &&& 31)) &&& 1 = 0 := by
  obtain ⟨b, hb, rfl⟩ := h
  exact (by decide +kernel : ∀ b : Fin 16, nI b.1 &&& 4 = 0 → (nI b.1 >>> (nI 2 &&& 31)) &&& 1 = 0) ⟨b, by omega⟩ c
theorem rB3 {z : Int32} (h : gIr z 15) (c : ¬ z &&& 8 = 0) : ¬ (z >>> (nI 3 &&& 31)) &&& 1 = 0 := by
  obtain ⟨b, hb, rfl⟩ := h
  exact (by decide +kernel : ∀ b : Fin 16, ¬ nI b.1 &&& 8 = 0 → ¬ (nI b.1 >>> (nI 3 &&& 31)) &&& 1 = 0) ⟨b, by omega⟩ c
theorem rB3n {z : Int32} (h : gIr z 15) (c : z &&& 8 = 0) : (z >>> (nI 3 &&& 31)) &&& 1 = 0 := by
  obtain ⟨b, hb, rfl⟩ := h
  exact (by decide +kernel : ∀ b : Fin 16, nI b.1 &&& 8 = 0 → (nI b.1 >>> (nI 3 &&& 31)) &&& 1 = 0) ⟨b, by omega⟩ c
