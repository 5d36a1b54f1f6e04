/-! the reference: plans of the turns' parts (by program: wip/p2/m_mm.py) -/
def pX8_cardWaits (M : gMd) : gMd × Option (Int32 × Int32) := (if (M.a 4 416) ≤ 0 then (if (M.a 4 30) ≤ 3 then (pX8_cardSends_3 M 0) else (pX8_cardSends_3 M ((M.a 4 30) - 3))) else (pX8_asks_1 (M.put 4 416 ((M.a 4 416) - 1)) 3 (M.a 4 417)))
def oX8_cardWaits (M : gMd) (l : Nat) (E : List (Int32 × List Int32)) : Prop := (if (M.a 4 416) ≤ 0 then (if (M.a 4 30) ≤ 3 then oX8_cardSends_3 M 0 l E else oX8_cardSends_3 M ((M.a 4 30) - 3) l E) else oX8_asks_1 (M.put 4 416 ((M.a 4 416) - 1)) 3 (M.a 4 417) l E)
theorem dX8_cardWaits_0 : decode cX8_cardWaits 0 = .ok (.aload_n 0, 1) := by decide +kernel
theorem dX8_cardWaits_1 : decode cX8_cardWaits 1 = .ok (.getfield 22, 3) := by decide +kernel
theorem dX8_cardWaits_4 : decode cX8_cardWaits 4 = .ok (.sipush 416, 3) := by decide +kernel
theorem dX8_cardWaits_7 : decode cX8_cardWaits 7 = .ok (.iaload, 1) := by decide +kernel
theorem dX8_cardWaits_8 : decode cX8_cardWaits 8 = .ok (.ifCond .le 30, 3) := by decide +kernel
theorem dX8_cardWaits_11 : decode cX8_cardWaits 11 = .ok (.aload_n 0, 1) := by decide +kernel
theorem dX8_cardWaits_12 : decode cX8_cardWaits 12 = .ok (.getfield 22, 3) := by decide +kernel
theorem dX8_cardWaits_15 : decode cX8_cardWaits 15 = .ok (.sipush 416, 3) := by decide +kernel
theorem dX8_cardWaits_18 : decode cX8_cardWaits 18 = .ok (.dup2, 1) := by decide +kernel
theorem dX8_cardWaits_19 : decode cX8_cardWaits 19 = .ok (.iaload, 1) := by decide +kernel
theorem dX8_cardWaits_20 : decode cX8_cardWaits 20 = .ok (.iconst 1, 1) := by decide +kernel
theorem dX8_cardWaits_21 : decode cX8_cardWaits 21 = .ok (.isub, 1) := by decide +kernel
theorem dX8_cardWaits_22 : decode cX8_cardWaits 22 = .ok (.iastore, 1) := by decide +kernel
theorem dX8_cardWaits_23 : decode cX8_cardWaits 23 = .ok (.aload_n 0, 1) := by decide +kernel
theorem dX8_cardWaits_24 : decode cX8_cardWaits 24 = .ok (.iconst 1, 1) := by decide +kernel
theorem dX8_cardWaits_25 : decode cX8_cardWaits 25 = .ok (.iconst 3, 1) := by decide +kernel
theorem dX8_cardWaits_26 : decode cX8_cardWaits 26 = .ok (.aload_n 0, 1) := by decide +kernel
theorem dX8_cardWaits_27 : decode cX8_cardWaits 27 = .ok (.getfield 22, 3) := by decide +kernel
theorem dX8_cardWaits_30 : decode cX8_cardWaits 30 = .ok (.sipush 417, 3) := by decide +kernel
theorem dX8_cardWaits_33 : decode cX8_cardWaits 33 = .ok (.iaload, 1) := by decide +kernel
theorem dX8_cardWaits_34 : decode cX8_cardWaits 34 = .ok (.invokevirtual 267, 3) := by decide +kernel
theorem dX8_cardWaits_37 : decode cX8_cardWaits 37 = .ok (.return_, 1) := by decide +kernel
theorem dX8_cardWaits_38 : decode cX8_cardWaits 38 = .ok (.aload_n 0, 1) := by decide +kernel
theorem dX8_cardWaits_39 : decode cX8_cardWaits 39 = .ok (.getfield 22, 3) := by decide +kernel
theorem dX8_cardWaits_42 : decode cX8_cardWaits 42 = .ok (.bipush 30, 2) := by decide +kernel
theorem dX8_cardWaits_44 : decode cX8_cardWaits 44 = .ok (.iaload, 1) := by decide +kernel
theorem dX8_cardWaits_45 : decode cX8_cardWaits 45 = .ok (.istore_n 1, 1) := by decide +kernel
theorem dX8_cardWaits_46 : decode cX8_cardWaits 46 = .ok (.aload_n 0, 1) := by decide +kernel
theorem dX8_cardWaits_47 : decode cX8_cardWaits 47 = .ok (.iconst 3, 1) := by decide +kernel
theorem dX8_cardWaits_48 : decode cX8_cardWaits 48 = .ok (.iload_n 1, 1) := by decide +kernel
theorem dX8_cardWaits_49 : decode cX8_cardWaits 49 = .ok (.iconst 3, 1) := by decide +kernel
theorem dX8_cardWaits_50 : decode cX8_cardWaits 50 = .ok (.if_icmp .le 9, 3) := by decide +kernel
theorem dX8_cardWaits_53 : decode cX8_cardWaits 53 = .ok (.iload_n 1, 1) := by decide +kernel
theorem dX8_cardWaits_54 : decode cX8_cardWaits 54 = .ok (.iconst 3, 1) := by decide +kernel
theorem dX8_cardWaits_55 : decode cX8_cardWaits 55 = .ok (.isub, 1) := by decide +kernel
theorem dX8_cardWaits_56 : decode cX8_cardWaits 56 = .ok (.goto 4, 3) := by decide +kernel
theorem dX8_cardWaits_59 : decode cX8_cardWaits 59 = .ok (.iconst 0, 1) := by decide +kernel
theorem dX8_cardWaits_60 : decode cX8_cardWaits 60 = .ok (.invokevirtual 276, 3) := by decide +kernel
theorem dX8_cardWaits_63 : decode cX8_cardWaits 63 = .ok (.return_, 1) := by decide +kernel
set_option maxRecDepth 100000 in
set_option maxHeartbeats 4000000 in
theorem c_X8_cardWaits_p {hp : List gA} {M : gMd} {l : Nat} {E : List (Int32 × List Int32)}  (HM : gMod hp M) (ok : oX8_cardWaits M l E)  : gM yX8_cardWaits cX8_cardWaits 2 (none) 7 165 [.ref 122] (hp) (0) (0) (fun v h => v = none ∧ ∃ M' E', gMod h M' ∧ gFM hp h ∧ gDo 1 (pX8_cardWaits M) l E M' E') := by
  refine gM_of (ls0 := [some (.ref 122), none]) (by decide +kernel) (Nat.le_of_ble_eq_true rfl) rfl fun X C E9 => ?_
  obtain ⟨P, ep⟩ : ∃ P, P = pX8_cardWaits M := ⟨_, rfl⟩
  rw [← ep] at E9
  unfold pX8_cardWaits at ep
  unfold oX8_cardWaits at ok
  refine g_aload_n (q := 1) C dX8_cardWaits_0 rfl rfl ?_
  refine g_getfield (v := .ref 127) (q := 4) C fX8_22 dX8_cardWaits_1 rfl HM.1 rfl ?_
  refine g_sipush (v := 416) (q := 7) C dX8_cardWaits_4 (by decide) rfl ?_
  refine g_ialoadN (x := (M.a 4 416)) (j := 416) (q := 8) C dX8_cardWaits_7 rfl (HM.ar (i := 4) (n := 772) (by decide) rfl) (pk_in 416 772 (by decide)) (pk_cl 416) rfl ?_
  refine g_if_le (t := 38) (q := 11) C dX8_cardWaits_8 (by decide) rfl (fun c_8 => ?_) (fun c_8 => ?_)
  ·
    rw [if_pos c_8] at ok ep
    refine g_aload_n (q := 39) C dX8_cardWaits_38 rfl rfl ?_
    refine g_getfield (v := .ref 127) (q := 42) C fX8_22 dX8_cardWaits_39 rfl HM.1 rfl ?_
    refine g_bipush (v := 30) (q := 44) C dX8_cardWaits_42 (by decide) rfl ?_
    refine g_ialoadN (x := (M.a 4 30)) (j := 30) (q := 45) C dX8_cardWaits_44 rfl (HM.ar (i := 4) (n := 772) (by decide) rfl) (pk_in 30 772 (by decide)) (pk_cl 30) rfl ?_
    refine g_istore_n (q := 46) C dX8_cardWaits_45 (Nat.le_of_ble_eq_true rfl) (by simp only [gset]; rfl) rfl ?_
    refine g_aload_n (q := 47) C dX8_cardWaits_46 rfl rfl ?_
    refine g_iconst (v := 3) (q := 48) C dX8_cardWaits_47 (by decide) rfl ?_
    refine g_iload_n (q := 49) C dX8_cardWaits_48 rfl rfl ?_
    refine g_iconst (v := 3) (q := 50) C dX8_cardWaits_49 (by decide) rfl ?_
    refine g_icmp_le (t := 59) (q := 53) C dX8_cardWaits_50 (by decide) rfl (fun c_50 => ?_) (fun c_50 => ?_)
    ·
      rw [if_pos c_50] at ok ep
      refine g_iconst (v := 0) (q := 60) C dX8_cardWaits_59 (by decide) rfl ?_
      refine g_callVvp (q := 63) (As := [.int 3, .int 0]) C gyX8_cardSends gvX8_cardSends t_1428 (c_X8_cardSends_3_p HM ok) dX8_cardWaits_60 rfl HM.1 rfl rfl rfl (Nat.le_of_ble_eq_true rfl) (Nat.le_of_ble_eq_true rfl) (Nat.le_of_ble_eq_true rfl) (Nat.le_of_ble_eq_true rfl) (Nat.le_of_ble_eq_true rfl) rfl (fun h1 z1 => ?_)
      obtain ⟨M', E', HM', frs, dd⟩ := z1
      exact E9.2.1 _ _ _ _ _ dX8_cardWaits_63 rfl (Nat.le_of_ble_eq_true rfl) (Nat.le_of_ble_eq_true rfl) ⟨rfl, _, _, HM', frs, by rw [ep]; exact dd⟩
    ·
      rw [if_neg c_50] at ok ep
      refine g_iload_n (q := 54) C dX8_cardWaits_53 rfl rfl ?_
      refine g_iconst (v := 3) (q := 55) C dX8_cardWaits_54 (by decide) rfl ?_
      refine g_isub (q := 56) C dX8_cardWaits_55 rfl ?_
      refine g_goto (q := 60) C dX8_cardWaits_56 (by decide) ?_
      refine g_callVvp (q := 63) (As := [.int 3, .int (((M.a 4 30) - 3))]) C gyX8_cardSends gvX8_cardSends t_1428 (c_X8_cardSends_3_p HM ok) dX8_cardWaits_60 rfl HM.1 rfl rfl rfl (Nat.le_of_ble_eq_true rfl) (Nat.le_of_ble_eq_true rfl) (Nat.le_of_ble_eq_true rfl) (Nat.le_of_ble_eq_true rfl) (Nat.le_of_ble_eq_true rfl) rfl (fun h2 z2 => ?_)
      obtain ⟨M', E', HM', frs, dd⟩ := z2
      exact E9.2.1 _ _ _ _ _ dX8_cardWaits_63 rfl (Nat.le_of_ble_eq_true rfl) (Nat.le_of_ble_eq_true rfl) ⟨rfl, _, _, HM', frs, by rw [ep]; exact dd⟩
  ·
    rw [if_neg c_8] at ok ep
    refine g_aload_n (q := 12) C dX8_cardWaits_11 rfl rfl ?_
    refine g_getfield (v := .ref 127) (q := 15) C fX8_22 dX8_cardWaits_12 rfl HM.1 rfl ?_
    refine g_sipush (v := 416) (q := 18) C dX8_cardWaits_15 (by decide) rfl ?_
    refine g_dup2 (q := 19) C dX8_cardWaits_18 rfl rfl rfl ?_
    refine g_ialoadN (x := (M.a 4 416)) (j := 416) (q := 20) C dX8_cardWaits_19 rfl (HM.ar (i := 4) (n := 772) (by decide) rfl) (pk_in 416 772 (by decide)) (pk_cl 416) rfl ?_
    refine g_iconst (v := 1) (q := 21) C dX8_cardWaits_20 (by decide) rfl ?_
    refine g_isub (q := 22) C dX8_cardWaits_21 rfl ?_
    refine g_iastoreN (j := 416) (q := 23) C dX8_cardWaits_22 rfl (HM.ar (i := 4) (n := 772) (by decide) rfl) (pk_in 416 772 (by decide)) (pk_cl 416) ?_
    refine gMsto (i := 4) (j := 416) (x := ((M.a 4 416) - 1)) HM (by decide) rfl rfl fun h3 HL3 fr3 => ?_
    refine g_aload_n (q := 24) C dX8_cardWaits_23 rfl rfl ?_
    refine g_iconst (v := 1) (q := 25) C dX8_cardWaits_24 (by decide) rfl ?_
    refine g_iconst (v := 3) (q := 26) C dX8_cardWaits_25 (by decide) rfl ?_
    refine g_aload_n (q := 27) C dX8_cardWaits_26 rfl rfl ?_
    refine g_getfield (v := .ref 127) (q := 30) C fX8_22 dX8_cardWaits_27 rfl HL3.1 rfl ?_
    refine g_sipush (v := 417) (q := 33) C dX8_cardWaits_30 (by decide) rfl ?_
    refine g_ialoadN (x := (M.a 4 417)) (j := 417) (q := 34) C dX8_cardWaits_33 rfl (HL3.ar (i := 4) (n := 772) (by decide) rfl) (pk_in 417 772 (by decide)) (pk_cl 417) (gput_n (by decide)) ?_
    refine g_callVvp (q := 37) (As := [.int 1, .int 3, .int ((M.a 4 417))]) C gyX8_asks gvX8_asks t_1340 (c_X8_asks_1_p HL3 ok) dX8_cardWaits_34 rfl HL3.1 rfl rfl rfl (Nat.le_of_ble_eq_true rfl) (Nat.le_of_ble_eq_true rfl) (Nat.le_of_ble_eq_true rfl) (Nat.le_of_ble_eq_true rfl) (Nat.le_of_ble_eq_true rfl) rfl (fun h4 z4 => ?_)
    obtain ⟨M', E', HM', frs, dd⟩ := z4
    exact E9.2.1 _ _ _ _ _ dX8_cardWaits_37 rfl (Nat.le_of_ble_eq_true rfl) (Nat.le_of_ble_eq_true rfl) ⟨rfl, _, _, HM', (gFM.trans fr3 frs), by rw [ep]; exact dd⟩
def pX8_cardAnswered (M : gMd) : gMd × Option (Int32 × Int32) := (if (M.a 4 25) = 3 then (pX8_cardWaits ((M.put 4 25 (-1)).put 4 425 ((M.a 4 425) + 1))) else (if (M.a 4 25) = 1 then (pX8_cardSends_0 (M.put 4 25 (-1)) 1) else (pX8_sendsR_1 (M.put 4 25 (-1)) 0)))
def oX8_cardAnswered (M : gMd) (l : Nat) (E : List (Int32 × List Int32)) : Prop := (if (M.a 4 25) = 3 then oX8_cardWaits ((M.put 4 25 (-1)).put 4 425 ((M.a 4 425) + 1)) l E else (if (M.a 4 25) = 1 then oX8_cardSends_0 (M.put 4 25 (-1)) 1 l E else oX8_sendsR_1 (M.put 4 25 (-1)) 0 l E))
theorem dX8_cardAnswered_0 : decode cX8_cardAnswered 0 = .ok (.aload_n 0, 1) := by decide +kernel
theorem dX8_cardAnswered_1 : decode cX8_cardAnswered 1 = .ok (.getfield 22, 3) := by decide +kernel
theorem dX8_cardAnswered_4 : decode cX8_cardAnswered 4 = .ok (.bipush 25, 2) := by decide +kernel
theorem dX8_cardAnswered_6 : decode cX8_cardAnswered 6 = .ok (.iaload, 1) := by decide +kernel
theorem dX8_cardAnswered_7 : decode cX8_cardAnswered 7 = .ok (.istore_n 1, 1) := by decide +kernel
theorem dX8_cardAnswered_8 : decode cX8_cardAnswered 8 = .ok (.aload_n 0, 1) := by decide +kernel
theorem dX8_cardAnswered_9 : decode cX8_cardAnswered 9 = .ok (.getfield 22, 3) := by decide +kernel
theorem dX8_cardAnswered_12 : decode cX8_cardAnswered 12 = .ok (.bipush 25, 2) := by decide +kernel
theorem dX8_cardAnswered_14 : decode cX8_cardAnswered 14 = .ok (.iconst (-1), 1) := by decide +kernel
theorem dX8_cardAnswered_15 : decode cX8_cardAnswered 15 = .ok (.iastore, 1) := by decide +kernel
theorem dX8_cardAnswered_16 : decode cX8_cardAnswered 16 = .ok (.iload_n 1, 1) := by decide +kernel
theorem dX8_cardAnswered_17 : decode cX8_cardAnswered 17 = .ok (.iconst 3, 1) := by decide +kernel
theorem dX8_cardAnswered_18 : decode cX8_cardAnswered 18 = .ok (.if_icmp .ne 22, 3) := by decide +kernel
theorem dX8_cardAnswered_21 : decode cX8_cardAnswered 21 = .ok (.aload_n 0, 1) := by decide +kernel
theorem dX8_cardAnswered_22 : decode cX8_cardAnswered 22 = .ok (.getfield 22, 3) := by decide +kernel
theorem dX8_cardAnswered_25 : decode cX8_cardAnswered 25 = .ok (.sipush 425, 3) := by decide +kernel
theorem dX8_cardAnswered_28 : decode cX8_cardAnswered 28 = .ok (.dup2, 1) := by decide +kernel
theorem dX8_cardAnswered_29 : decode cX8_cardAnswered 29 = .ok (.iaload, 1) := by decide +kernel
theorem dX8_cardAnswered_30 : decode cX8_cardAnswered 30 = .ok (.iconst 1, 1) := by decide +kernel
theorem dX8_cardAnswered_31 : decode cX8_cardAnswered 31 = .ok (.iadd, 1) := by decide +kernel
theorem dX8_cardAnswered_32 : decode cX8_cardAnswered 32 = .ok (.iastore, 1) := by decide +kernel
theorem dX8_cardAnswered_33 : decode cX8_cardAnswered 33 = .ok (.aload_n 0, 1) := by decide +kernel
theorem dX8_cardAnswered_34 : decode cX8_cardAnswered 34 = .ok (.invokevirtual 279, 3) := by decide +kernel
theorem dX8_cardAnswered_37 : decode cX8_cardAnswered 37 = .ok (.goto 23, 3) := by decide +kernel
theorem dX8_cardAnswered_40 : decode cX8_cardAnswered 40 = .ok (.iload_n 1, 1) := by decide +kernel
theorem dX8_cardAnswered_41 : decode cX8_cardAnswered 41 = .ok (.iconst 1, 1) := by decide +kernel
theorem dX8_cardAnswered_42 : decode cX8_cardAnswered 42 = .ok (.if_icmp .ne 12, 3) := by decide +kernel
theorem dX8_cardAnswered_45 : decode cX8_cardAnswered 45 = .ok (.aload_n 0, 1) := by decide +kernel
theorem dX8_cardAnswered_46 : decode cX8_cardAnswered 46 = .ok (.iconst 0, 1) := by decide +kernel
theorem dX8_cardAnswered_47 : decode cX8_cardAnswered 47 = .ok (.iconst 1, 1) := by decide +kernel
theorem dX8_cardAnswered_48 : decode cX8_cardAnswered 48 = .ok (.invokevirtual 276, 3) := by decide +kernel
theorem dX8_cardAnswered_51 : decode cX8_cardAnswered 51 = .ok (.goto 9, 3) := by decide +kernel
theorem dX8_cardAnswered_54 : decode cX8_cardAnswered 54 = .ok (.aload_n 0, 1) := by decide +kernel
theorem dX8_cardAnswered_55 : decode cX8_cardAnswered 55 = .ok (.iconst 1, 1) := by decide +kernel
theorem dX8_cardAnswered_56 : decode cX8_cardAnswered 56 = .ok (.iconst 0, 1) := by decide +kernel
theorem dX8_cardAnswered_57 : decode cX8_cardAnswered 57 = .ok (.invokevirtual 216, 3) := by decide +kernel
theorem dX8_cardAnswered_60 : decode cX8_cardAnswered 60 = .ok (.return_, 1) := by decide +kernel
set_option maxRecDepth 100000 in
set_option maxHeartbeats 4000000 in
theorem c_X8_cardAnswered_p {hp : List gA} {M : gMd} {l : Nat} {E : List (Int32 × List Int32)}  (HM : gMod hp M) (ok : oX8_cardAnswered M l E)  : gM yX8_cardAnswered cX8_cardAnswered 2 (none) 8 186 [.ref 122] (hp) (0) (0) (fun v h => v = none ∧ ∃ M' E', gMod h M' ∧ gFM hp h ∧ gDo 1 (pX8_cardAnswered M) l E M' E') := by
  refine gM_of (ls0 := [some (.ref 122), none]) (by decide +kernel) (Nat.le_of_ble_eq_true rfl) rfl fun X C E9 => ?_
  obtain ⟨P, ep⟩ : ∃ P, P = pX8_cardAnswered M := ⟨_, rfl⟩
  rw [← ep] at E9
  unfold pX8_cardAnswered at ep
  unfold oX8_cardAnswered at ok
  refine g_aload_n (q := 1) C dX8_cardAnswered_0 rfl rfl ?_
  refine g_getfield (v := .ref 127) (q := 4) C fX8_22 dX8_cardAnswered_1 rfl HM.1 rfl ?_
  refine g_bipush (v := 25) (q := 6) C dX8_cardAnswered_4 (by decide) rfl ?_
  refine g_ialoadN (x := (M.a 4 25)) (j := 25) (q := 7) C dX8_cardAnswered_6 rfl (HM.ar (i := 4) (n := 772) (by decide) rfl) (pk_in 25 772 (by decide)) (pk_cl 25) rfl ?_
  refine g_istore_n (q := 8) C dX8_cardAnswered_7 (Nat.le_of_ble_eq_true rfl) (by simp only [gset]; rfl) rfl ?_
  refine g_aload_n (q := 9) C dX8_cardAnswered_8 rfl rfl ?_
  refine g_getfield (v := .ref 127) (q := 12) C fX8_22 dX8_cardAnswered_9 rfl HM.1 rfl ?_
  refine g_bipush (v := 25) (q := 14) C dX8_cardAnswered_12 (by decide) rfl ?_
  refine g_iconst (v := (-1)) (q := 15) C dX8_cardAnswered_14 (by decide) rfl ?_
  refine g_iastoreN (j := 25) (q := 16) C dX8_cardAnswered_15 rfl (HM.ar (i := 4) (n := 772) (by decide) rfl) (pk_in 25 772 (by decide)) (pk_cl 25) ?_
  refine gMsto (i := 4) (j := 25) (x := (-1)) HM (by decide) rfl rfl fun h1 HL1 fr1 => ?_
  refine g_iload_n (q := 17) C dX8_cardAnswered_16 rfl rfl ?_
  refine g_iconst (v := 3) (q := 18) C dX8_cardAnswered_17 (by decide) rfl ?_
  refine g_icmp_ne (t := 40) (q := 21) C dX8_cardAnswered_18 (by decide) rfl (fun c_18 => ?_) (fun c_18 => ?_)
  ·
    rw [if_neg c_18] at ok ep
    refine g_iload_n (q := 41) C dX8_cardAnswered_40 rfl rfl ?_
    refine g_iconst (v := 1) (q := 42) C dX8_cardAnswered_41 (by decide) rfl ?_
    refine g_icmp_ne (t := 54) (q := 45) C dX8_cardAnswered_42 (by decide) rfl (fun c_42 => ?_) (fun c_42 => ?_)
    ·
      rw [if_neg c_42] at ok ep
      refine g_aload_n (q := 55) C dX8_cardAnswered_54 rfl rfl ?_
      refine g_iconst (v := 1) (q := 56) C dX8_cardAnswered_55 (by decide) rfl ?_
      refine g_iconst (v := 0) (q := 57) C dX8_cardAnswered_56 (by decide) rfl ?_
      refine g_callVvp (q := 60) (As := [.int 1, .int 0]) C gyX8_sendsR gvX8_sendsR t_1392 (c_X8_sendsR_1_p HL1 ok) dX8_cardAnswered_57 rfl HL1.1 rfl rfl rfl (Nat.le_of_ble_eq_true rfl) (Nat.le_of_ble_eq_true rfl) (Nat.le_of_ble_eq_true rfl) (Nat.le_of_ble_eq_true rfl) (Nat.le_of_ble_eq_true rfl) rfl (fun h2 z2 => ?_)
      obtain ⟨M', E', HM', frs, dd⟩ := z2
      exact E9.2.1 _ _ _ _ _ dX8_cardAnswered_60 rfl (Nat.le_of_ble_eq_true rfl) (Nat.le_of_ble_eq_true rfl) ⟨rfl, _, _, HM', (gFM.trans fr1 frs), by rw [ep]; exact dd⟩
    ·
      rw [if_pos c_42] at ok ep
      refine g_aload_n (q := 46) C dX8_cardAnswered_45 rfl rfl ?_
      refine g_iconst (v := 0) (q := 47) C dX8_cardAnswered_46 (by decide) rfl ?_
      refine g_iconst (v := 1) (q := 48) C dX8_cardAnswered_47 (by decide) rfl ?_
      refine g_callVvp (q := 51) (As := [.int 0, .int 1]) C gyX8_cardSends gvX8_cardSends t_1428 (c_X8_cardSends_0_p HL1 ok) dX8_cardAnswered_48 rfl HL1.1 rfl rfl rfl (Nat.le_of_ble_eq_true rfl) (Nat.le_of_ble_eq_true rfl) (Nat.le_of_ble_eq_true rfl) (Nat.le_of_ble_eq_true rfl) (Nat.le_of_ble_eq_true rfl) rfl (fun h3 z3 => ?_)
      obtain ⟨M', E', HM', frs, dd⟩ := z3
      refine g_goto (q := 60) C dX8_cardAnswered_51 (by decide) ?_
      exact E9.2.1 _ _ _ _ _ dX8_cardAnswered_60 rfl (Nat.le_of_ble_eq_true rfl) (Nat.le_of_ble_eq_true rfl) ⟨rfl, _, _, HM', (gFM.trans fr1 frs), by rw [ep]; exact dd⟩
  ·
    rw [if_pos c_18] at ok ep
    refine g_aload_n (q := 22) C dX8_cardAnswered_21 rfl rfl ?_
    refine g_getfield (v := .ref 127) (q := 25) C fX8_22 dX8_cardAnswered_22 rfl HL1.1 rfl ?_
    refine g_sipush (v := 425) (q := 28) C dX8_cardAnswered_25 (by decide) rfl ?_
    refine g_dup2 (q := 29) C dX8_cardAnswered_28 rfl rfl rfl ?_
    refine g_ialoadN (x := (M.a 4 425)) (j := 425) (q := 30) C dX8_cardAnswered_29 rfl (HL1.ar (i := 4) (n := 772) (by decide) rfl) (pk_in 425 772 (by decide)) (pk_cl 425) (gput_n (by decide)) ?_
    refine g_iconst (v := 1) (q := 31) C dX8_cardAnswered_30 (by decide) rfl ?_
    refine g_iadd (q := 32) C dX8_cardAnswered_31 rfl ?_
    refine g_iastoreN (j := 425) (q := 33) C dX8_cardAnswered_32 rfl (HL1.ar (i := 4) (n := 772) (by decide) rfl) (pk_in 425 772 (by decide)) (pk_cl 425) ?_
    refine gMsto (i := 4) (j := 425) (x := ((M.a 4 425) + 1)) HL1 (by decide) rfl rfl fun h4 HL4 fr4 => ?_
    refine g_aload_n (q := 34) C dX8_cardAnswered_33 rfl rfl ?_
    refine g_callVvp (q := 37) (As := []) C gyX8_cardWaits gvX8_cardWaits t_1440 (c_X8_cardWaits_p HL4 ok) dX8_cardAnswered_34 rfl HL4.1 rfl rfl rfl (Nat.le_of_ble_eq_true rfl) (Nat.le_of_ble_eq_true rfl) (Nat.le_of_ble_eq_true rfl) (Nat.le_of_ble_eq_true rfl) (Nat.le_of_ble_eq_true rfl) rfl (fun h5 z5 => ?_)
    obtain ⟨M', E', HM', frs, dd⟩ := z5
    refine g_goto (q := 60) C dX8_cardAnswered_37 (by decide) ?_
    exact E9.2.1 _ _ _ _ _ dX8_cardAnswered_60 rfl (Nat.le_of_ble_eq_true rfl) (Nat.le_of_ble_eq_true rfl) ⟨rfl, _, _, HM', (gFM.trans (gFM.trans fr1 fr4) frs), by rw [ep]; exact dd⟩
def pX8_cardDoes (M : gMd) : gMd × Option (Int32 × Int32) := (if ((rX8_gotByte_0_0 M) - (rX8_gotByte_0_0 M) / 8 * 8) = 0 then (pX8_cardSends_0 M (M.a 4 30)) else (if ((rX8_gotByte_0_0 M) - (rX8_gotByte_0_0 M) / 8 * 8) = 1 then (pX8_sendsOut_1 (((rX8_cardOut_0 M 0).arr 4 (gCpy ((rX8_cardOut_0 M 0).a 4) 96 (fun k => nI k) 0 (((rX8_gotByte_1_0 M) - (rX8_gotByte_1_0 M) / 61 * 61).toNatClampNeg))).put 4 19 ((rX8_gotByte_1_0 M) - (rX8_gotByte_1_0 M) / 61 * 61))) else (if ((rX8_gotByte_0_0 M) - (rX8_gotByte_0_0 M) / 8 * 8) = 2 then (pX8_cardWaits ((M.put 4 416 ((rX8_gotByte_2_1 M) - (rX8_gotByte_2_1 M) / 4 * 4)).put 4 417 (rX8_gotByte_1_1 (M.put 4 416 ((rX8_gotByte_2_1 M) - (rX8_gotByte_2_1 M) / 4 * 4))))) else (if ((rX8_gotByte_0_0 M) - (rX8_gotByte_0_0 M) / 8 * 8) = 3 then (pX8_asks_1 M 1 (if (rX8_within (rX8_gotByte_1_32 M) 1 254) = 0 then 32 else (rX8_gotByte_1_32 M) : Int32)) else (if ((rX8_gotByte_0_0 M) - (rX8_gotByte_0_0 M) / 8 * 8) = 4 then (pX8_asks_1 M 2 0) else (if ((rX8_gotByte_0_0 M) - (rX8_gotByte_0_0 M) / 8 * 8) = 5 then ((M.put 4 418 ((rX8_gotByte_1_0 M) - (rX8_gotByte_1_0 M) / 4 * 4)), none) else (pX8_sendsOut_1 (((rX8_cardOut_0 M 1).put 4 97 (M.a 4 30)).put 4 19 2))))))))
def oX8_cardDoes (M : gMd) (l : Nat) (E : List (Int32 × List Int32)) : Prop := (if ((rX8_gotByte_0_0 M) - (rX8_gotByte_0_0 M) / 8 * 8) = 0 then oX8_cardSends_0 M (M.a 4 30) l E else (if ((rX8_gotByte_0_0 M) - (rX8_gotByte_0_0 M) / 8 * 8) = 1 then (gIr 0 60 ∧ (gIr ((rX8_gotByte_1_0 M) - (rX8_gotByte_1_0 M) / 61 * 61) 60 ∧ oX8_sendsOut_1 (((rX8_cardOut_0 M 0).arr 4 (gCpy ((rX8_cardOut_0 M 0).a 4) 96 (fun k => nI k) 0 (((rX8_gotByte_1_0 M) - (rX8_gotByte_1_0 M) / 61 * 61).toNatClampNeg))).put 4 19 ((rX8_gotByte_1_0 M) - (rX8_gotByte_1_0 M) / 61 * 61)) l E)) else (if ((rX8_gotByte_0_0 M) - (rX8_gotByte_0_0 M) / 8 * 8) = 2 then oX8_cardWaits ((M.put 4 416 ((rX8_gotByte_2_1 M) - (rX8_gotByte_2_1 M) / 4 * 4)).put 4 417 (rX8_gotByte_1_1 (M.put 4 416 ((rX8_gotByte_2_1 M) - (rX8_gotByte_2_1 M) / 4 * 4)))) l E else (if ((rX8_gotByte_0_0 M) - (rX8_gotByte_0_0 M) / 8 * 8) = 3 then oX8_asks_1 M 1 (if (rX8_within (rX8_gotByte_1_32 M) 1 254) = 0 then 32 else (rX8_gotByte_1_32 M) : Int32) l E else (if ((rX8_gotByte_0_0 M) - (rX8_gotByte_0_0 M) / 8 * 8) = 4 then oX8_asks_1 M 2 0 l E else (if ((rX8_gotByte_0_0 M) - (rX8_gotByte_0_0 M) / 8 * 8) = 5 then True else (gIr 1 60 ∧ oX8_sendsOut_1 (((rX8_cardOut_0 M 1).put 4 97 (M.a 4 30)).put 4 19 2) l E)))))))
theorem dX8_cardDoes_0 : decode cX8_cardDoes 0 = .ok (.aload_n 0, 1) := by decide +kernel
theorem dX8_cardDoes_1 : decode cX8_cardDoes 1 = .ok (.getfield 22, 3) := by decide +kernel
theorem dX8_cardDoes_4 : decode cX8_cardDoes 4 = .ok (.bipush 30, 2) := by decide +kernel
theorem dX8_cardDoes_6 : decode cX8_cardDoes 6 = .ok (.iaload, 1) := by decide +kernel
theorem dX8_cardDoes_7 : decode cX8_cardDoes 7 = .ok (.istore_n 1, 1) := by decide +kernel
theorem dX8_cardDoes_8 : decode cX8_cardDoes 8 = .ok (.aload_n 0, 1) := by decide +kernel
theorem dX8_cardDoes_9 : decode cX8_cardDoes 9 = .ok (.iconst 0, 1) := by decide +kernel
theorem dX8_cardDoes_10 : decode cX8_cardDoes 10 = .ok (.iconst 0, 1) := by decide +kernel
theorem dX8_cardDoes_11 : decode cX8_cardDoes 11 = .ok (.invokevirtual 273, 3) := by decide +kernel
theorem dX8_cardDoes_14 : decode cX8_cardDoes 14 = .ok (.bipush 8, 2) := by decide +kernel
theorem dX8_cardDoes_16 : decode cX8_cardDoes 16 = .ok (.irem, 1) := by decide +kernel
theorem dX8_cardDoes_17 : decode cX8_cardDoes 17 = .ok (.tableswitch 191 0 5 #[39, 46, 99, 134, 166, 174], 39) := by decide +kernel
theorem dX8_cardDoes_56 : decode cX8_cardDoes 56 = .ok (.aload_n 0, 1) := by decide +kernel
theorem dX8_cardDoes_57 : decode cX8_cardDoes 57 = .ok (.iconst 0, 1) := by decide +kernel
theorem dX8_cardDoes_58 : decode cX8_cardDoes 58 = .ok (.iload_n 1, 1) := by decide +kernel
theorem dX8_cardDoes_59 : decode cX8_cardDoes 59 = .ok (.invokevirtual 276, 3) := by decide +kernel
theorem dX8_cardDoes_62 : decode cX8_cardDoes 62 = .ok (.return_, 1) := by decide +kernel
theorem dX8_cardDoes_63 : decode cX8_cardDoes 63 = .ok (.aload_n 0, 1) := by decide +kernel
theorem dX8_cardDoes_64 : decode cX8_cardDoes 64 = .ok (.iconst 1, 1) := by decide +kernel
theorem dX8_cardDoes_65 : decode cX8_cardDoes 65 = .ok (.iconst 0, 1) := by decide +kernel
theorem dX8_cardDoes_66 : decode cX8_cardDoes 66 = .ok (.invokevirtual 273, 3) := by decide +kernel
theorem dX8_cardDoes_69 : decode cX8_cardDoes 69 = .ok (.bipush 61, 2) := by decide +kernel
theorem dX8_cardDoes_71 : decode cX8_cardDoes 71 = .ok (.irem, 1) := by decide +kernel
theorem dX8_cardDoes_72 : decode cX8_cardDoes 72 = .ok (.istore_n 2, 1) := by decide +kernel
theorem dX8_cardDoes_73 : decode cX8_cardDoes 73 = .ok (.aload_n 0, 1) := by decide +kernel
theorem dX8_cardDoes_74 : decode cX8_cardDoes 74 = .ok (.iconst 0, 1) := by decide +kernel
theorem dX8_cardDoes_75 : decode cX8_cardDoes 75 = .ok (.iconst 0, 1) := by decide +kernel
theorem dX8_cardDoes_76 : decode cX8_cardDoes 76 = .ok (.invokevirtual 270, 3) := by decide +kernel
theorem dX8_cardDoes_79 : decode cX8_cardDoes 79 = .ok (.iconst 0, 1) := by decide +kernel
theorem dX8_cardDoes_80 : decode cX8_cardDoes 80 = .ok (.istore_n 3, 1) := by decide +kernel
theorem dX8_cardDoes_81 : decode cX8_cardDoes 81 = .ok (.iload_n 3, 1) := by decide +kernel
theorem dX8_cardDoes_82 : decode cX8_cardDoes 82 = .ok (.iload_n 2, 1) := by decide +kernel
theorem dX8_cardDoes_83 : decode cX8_cardDoes 83 = .ok (.if_icmp .ge 19, 3) := by decide +kernel
theorem dX8_cardDoes_86 : decode cX8_cardDoes 86 = .ok (.aload_n 0, 1) := by decide +kernel
theorem dX8_cardDoes_87 : decode cX8_cardDoes 87 = .ok (.getfield 22, 3) := by decide +kernel
theorem dX8_cardDoes_90 : decode cX8_cardDoes 90 = .ok (.bipush 96, 2) := by decide +kernel
theorem dX8_cardDoes_92 : decode cX8_cardDoes 92 = .ok (.iload_n 3, 1) := by decide +kernel
theorem dX8_cardDoes_93 : decode cX8_cardDoes 93 = .ok (.iadd, 1) := by decide +kernel
theorem dX8_cardDoes_94 : decode cX8_cardDoes 94 = .ok (.iload_n 3, 1) := by decide +kernel
theorem dX8_cardDoes_95 : decode cX8_cardDoes 95 = .ok (.iastore, 1) := by decide +kernel
theorem dX8_cardDoes_96 : decode cX8_cardDoes 96 = .ok (.iinc 3 1, 3) := by decide +kernel
theorem dX8_cardDoes_99 : decode cX8_cardDoes 99 = .ok (.goto (-18), 3) := by decide +kernel
theorem dX8_cardDoes_102 : decode cX8_cardDoes 102 = .ok (.aload_n 0, 1) := by decide +kernel
theorem dX8_cardDoes_103 : decode cX8_cardDoes 103 = .ok (.getfield 22, 3) := by decide +kernel
theorem dX8_cardDoes_106 : decode cX8_cardDoes 106 = .ok (.bipush 19, 2) := by decide +kernel
theorem dX8_cardDoes_108 : decode cX8_cardDoes 108 = .ok (.iload_n 2, 1) := by decide +kernel
theorem dX8_cardDoes_109 : decode cX8_cardDoes 109 = .ok (.iastore, 1) := by decide +kernel
theorem dX8_cardDoes_110 : decode cX8_cardDoes 110 = .ok (.aload_n 0, 1) := by decide +kernel
theorem dX8_cardDoes_111 : decode cX8_cardDoes 111 = .ok (.iconst 1, 1) := by decide +kernel
theorem dX8_cardDoes_112 : decode cX8_cardDoes 112 = .ok (.invokevirtual 213, 3) := by decide +kernel
theorem dX8_cardDoes_115 : decode cX8_cardDoes 115 = .ok (.return_, 1) := by decide +kernel
theorem dX8_cardDoes_116 : decode cX8_cardDoes 116 = .ok (.aload_n 0, 1) := by decide +kernel
theorem dX8_cardDoes_117 : decode cX8_cardDoes 117 = .ok (.getfield 22, 3) := by decide +kernel
theorem dX8_cardDoes_120 : decode cX8_cardDoes 120 = .ok (.sipush 416, 3) := by decide +kernel
theorem dX8_cardDoes_123 : decode cX8_cardDoes 123 = .ok (.aload_n 0, 1) := by decide +kernel
theorem dX8_cardDoes_124 : decode cX8_cardDoes 124 = .ok (.iconst 2, 1) := by decide +kernel
theorem dX8_cardDoes_125 : decode cX8_cardDoes 125 = .ok (.iconst 1, 1) := by decide +kernel
theorem dX8_cardDoes_126 : decode cX8_cardDoes 126 = .ok (.invokevirtual 273, 3) := by decide +kernel
theorem dX8_cardDoes_129 : decode cX8_cardDoes 129 = .ok (.iconst 4, 1) := by decide +kernel
theorem dX8_cardDoes_130 : decode cX8_cardDoes 130 = .ok (.irem, 1) := by decide +kernel
theorem dX8_cardDoes_131 : decode cX8_cardDoes 131 = .ok (.iastore, 1) := by decide +kernel
theorem dX8_cardDoes_132 : decode cX8_cardDoes 132 = .ok (.aload_n 0, 1) := by decide +kernel
theorem dX8_cardDoes_133 : decode cX8_cardDoes 133 = .ok (.getfield 22, 3) := by decide +kernel
theorem dX8_cardDoes_136 : decode cX8_cardDoes 136 = .ok (.sipush 417, 3) := by decide +kernel
theorem dX8_cardDoes_139 : decode cX8_cardDoes 139 = .ok (.aload_n 0, 1) := by decide +kernel
theorem dX8_cardDoes_140 : decode cX8_cardDoes 140 = .ok (.iconst 1, 1) := by decide +kernel
theorem dX8_cardDoes_141 : decode cX8_cardDoes 141 = .ok (.iconst 1, 1) := by decide +kernel
theorem dX8_cardDoes_142 : decode cX8_cardDoes 142 = .ok (.invokevirtual 273, 3) := by decide +kernel
theorem dX8_cardDoes_145 : decode cX8_cardDoes 145 = .ok (.iastore, 1) := by decide +kernel
theorem dX8_cardDoes_146 : decode cX8_cardDoes 146 = .ok (.aload_n 0, 1) := by decide +kernel
theorem dX8_cardDoes_147 : decode cX8_cardDoes 147 = .ok (.invokevirtual 279, 3) := by decide +kernel
theorem dX8_cardDoes_150 : decode cX8_cardDoes 150 = .ok (.return_, 1) := by decide +kernel
theorem dX8_cardDoes_151 : decode cX8_cardDoes 151 = .ok (.aload_n 0, 1) := by decide +kernel
theorem dX8_cardDoes_152 : decode cX8_cardDoes 152 = .ok (.iconst 1, 1) := by decide +kernel
theorem dX8_cardDoes_153 : decode cX8_cardDoes 153 = .ok (.bipush 32, 2) := by decide +kernel
theorem dX8_cardDoes_155 : decode cX8_cardDoes 155 = .ok (.invokevirtual 273, 3) := by decide +kernel
theorem dX8_cardDoes_158 : decode cX8_cardDoes 158 = .ok (.istore_n 2, 1) := by decide +kernel
theorem dX8_cardDoes_159 : decode cX8_cardDoes 159 = .ok (.aload_n 0, 1) := by decide +kernel
theorem dX8_cardDoes_160 : decode cX8_cardDoes 160 = .ok (.iconst 1, 1) := by decide +kernel
theorem dX8_cardDoes_161 : decode cX8_cardDoes 161 = .ok (.iconst 1, 1) := by decide +kernel
theorem dX8_cardDoes_162 : decode cX8_cardDoes 162 = .ok (.iload_n 2, 1) := by decide +kernel
theorem dX8_cardDoes_163 : decode cX8_cardDoes 163 = .ok (.iconst 1, 1) := by decide +kernel
theorem dX8_cardDoes_164 : decode cX8_cardDoes 164 = .ok (.sipush 254, 3) := by decide +kernel
theorem dX8_cardDoes_167 : decode cX8_cardDoes 167 = .ok (.invokestatic 82, 3) := by decide +kernel
theorem dX8_cardDoes_170 : decode cX8_cardDoes 170 = .ok (.ifCond .eq 7, 3) := by decide +kernel
theorem dX8_cardDoes_173 : decode cX8_cardDoes 173 = .ok (.iload_n 2, 1) := by decide +kernel
theorem dX8_cardDoes_174 : decode cX8_cardDoes 174 = .ok (.goto 5, 3) := by decide +kernel
theorem dX8_cardDoes_177 : decode cX8_cardDoes 177 = .ok (.bipush 32, 2) := by decide +kernel
theorem dX8_cardDoes_179 : decode cX8_cardDoes 179 = .ok (.invokevirtual 267, 3) := by decide +kernel
theorem dX8_cardDoes_182 : decode cX8_cardDoes 182 = .ok (.return_, 1) := by decide +kernel
theorem dX8_cardDoes_183 : decode cX8_cardDoes 183 = .ok (.aload_n 0, 1) := by decide +kernel
theorem dX8_cardDoes_184 : decode cX8_cardDoes 184 = .ok (.iconst 1, 1) := by decide +kernel
theorem dX8_cardDoes_185 : decode cX8_cardDoes 185 = .ok (.iconst 2, 1) := by decide +kernel
theorem dX8_cardDoes_186 : decode cX8_cardDoes 186 = .ok (.iconst 0, 1) := by decide +kernel
theorem dX8_cardDoes_187 : decode cX8_cardDoes 187 = .ok (.invokevirtual 267, 3) := by decide +kernel
theorem dX8_cardDoes_190 : decode cX8_cardDoes 190 = .ok (.return_, 1) := by decide +kernel
theorem dX8_cardDoes_191 : decode cX8_cardDoes 191 = .ok (.aload_n 0, 1) := by decide +kernel
theorem dX8_cardDoes_192 : decode cX8_cardDoes 192 = .ok (.getfield 22, 3) := by decide +kernel
theorem dX8_cardDoes_195 : decode cX8_cardDoes 195 = .ok (.sipush 418, 3) := by decide +kernel
theorem dX8_cardDoes_198 : decode cX8_cardDoes 198 = .ok (.aload_n 0, 1) := by decide +kernel
theorem dX8_cardDoes_199 : decode cX8_cardDoes 199 = .ok (.iconst 1, 1) := by decide +kernel
theorem dX8_cardDoes_200 : decode cX8_cardDoes 200 = .ok (.iconst 0, 1) := by decide +kernel
theorem dX8_cardDoes_201 : decode cX8_cardDoes 201 = .ok (.invokevirtual 273, 3) := by decide +kernel
theorem dX8_cardDoes_204 : decode cX8_cardDoes 204 = .ok (.iconst 4, 1) := by decide +kernel
theorem dX8_cardDoes_205 : decode cX8_cardDoes 205 = .ok (.irem, 1) := by decide +kernel
theorem dX8_cardDoes_206 : decode cX8_cardDoes 206 = .ok (.iastore, 1) := by decide +kernel
theorem dX8_cardDoes_207 : decode cX8_cardDoes 207 = .ok (.return_, 1) := by decide +kernel
theorem dX8_cardDoes_208 : decode cX8_cardDoes 208 = .ok (.aload_n 0, 1) := by decide +kernel
theorem dX8_cardDoes_209 : decode cX8_cardDoes 209 = .ok (.iconst 0, 1) := by decide +kernel
theorem dX8_cardDoes_210 : decode cX8_cardDoes 210 = .ok (.iconst 1, 1) := by decide +kernel
theorem dX8_cardDoes_211 : decode cX8_cardDoes 211 = .ok (.invokevirtual 270, 3) := by decide +kernel
theorem dX8_cardDoes_214 : decode cX8_cardDoes 214 = .ok (.aload_n 0, 1) := by decide +kernel
theorem dX8_cardDoes_215 : decode cX8_cardDoes 215 = .ok (.getfield 22, 3) := by decide +kernel
theorem dX8_cardDoes_218 : decode cX8_cardDoes 218 = .ok (.bipush 97, 2) := by decide +kernel
theorem dX8_cardDoes_220 : decode cX8_cardDoes 220 = .ok (.iload_n 1, 1) := by decide +kernel
theorem dX8_cardDoes_221 : decode cX8_cardDoes 221 = .ok (.iastore, 1) := by decide +kernel
theorem dX8_cardDoes_222 : decode cX8_cardDoes 222 = .ok (.aload_n 0, 1) := by decide +kernel
theorem dX8_cardDoes_223 : decode cX8_cardDoes 223 = .ok (.getfield 22, 3) := by decide +kernel
theorem dX8_cardDoes_226 : decode cX8_cardDoes 226 = .ok (.bipush 19, 2) := by decide +kernel
theorem dX8_cardDoes_228 : decode cX8_cardDoes 228 = .ok (.iconst 2, 1) := by decide +kernel
theorem dX8_cardDoes_229 : decode cX8_cardDoes 229 = .ok (.iastore, 1) := by decide +kernel
theorem dX8_cardDoes_230 : decode cX8_cardDoes 230 = .ok (.aload_n 0, 1) := by decide +kernel
theorem dX8_cardDoes_231 : decode cX8_cardDoes 231 = .ok (.iconst 1, 1) := by decide +kernel
theorem dX8_cardDoes_232 : decode cX8_cardDoes 232 = .ok (.invokevirtual 213, 3) := by decide +kernel
theorem dX8_cardDoes_235 : decode cX8_cardDoes 235 = .ok (.return_, 1) := by decide +kernel
set_option maxRecDepth 100000 in
set_option maxHeartbeats 4000000 in
theorem c_X8_cardDoes_p {hp : List gA} {M : gMd} {l : Nat} {E : List (Int32 × List Int32)}  (HM : gMod hp M) (ok : oX8_cardDoes M l E)  : gM yX8_cardDoes cX8_cardDoes 4 (none) 8 186 [.ref 122] (hp) (0) (0) (fun v h => v = none ∧ ∃ M' E', gMod h M' ∧ gFM hp h ∧ gDo 1 (pX8_cardDoes M) l E M' E') := by
  refine gM_of (ls0 := [some (.ref 122), none, none, none]) (by decide +kernel) (Nat.le_of_ble_eq_true rfl) rfl fun X C E9 => ?_
  obtain ⟨P, ep⟩ : ∃ P, P = pX8_cardDoes M := ⟨_, rfl⟩
  rw [← ep] at E9
  unfold pX8_cardDoes at ep
  unfold oX8_cardDoes at ok
  refine g_aload_n (q := 1) C dX8_cardDoes_0 rfl rfl ?_
  refine g_getfield (v := .ref 127) (q := 4) C fX8_22 dX8_cardDoes_1 rfl HM.1 rfl ?_
  refine g_bipush (v := 30) (q := 6) C dX8_cardDoes_4 (by decide) rfl ?_
  refine g_ialoadN (x := (M.a 4 30)) (j := 30) (q := 7) C dX8_cardDoes_6 rfl (HM.ar (i := 4) (n := 772) (by decide) rfl) (pk_in 30 772 (by decide)) (pk_cl 30) rfl ?_
  refine g_istore_n (q := 8) C dX8_cardDoes_7 (Nat.le_of_ble_eq_true rfl) (by simp only [gset]; rfl) rfl ?_
  refine g_aload_n (q := 9) C dX8_cardDoes_8 rfl rfl ?_
  refine g_iconst (v := 0) (q := 10) C dX8_cardDoes_9 (by decide) rfl ?_
  refine g_iconst (v := 0) (q := 11) C dX8_cardDoes_10 (by decide) rfl ?_
  refine g_callVi (x := (rX8_gotByte_0_0 M)) (q := 14) (As := [.int 0, .int 0]) C gyX8_gotByte gvX8_gotByte t_1448 (c_X8_gotByte_0_0_m HM) dX8_cardDoes_11 rfl HM.1 rfl rfl rfl (Nat.le_of_ble_eq_true rfl) (Nat.le_of_ble_eq_true rfl) (Nat.le_of_ble_eq_true rfl) (Nat.le_of_ble_eq_true rfl) (Nat.le_of_ble_eq_true rfl) rfl ?_
  refine g_bipush (v := 8) (q := 16) C dX8_cardDoes_14 (by decide) rfl ?_
  refine g_irem (q := 17) C dX8_cardDoes_16 (by decide) rfl ?_
  by_cases c_17_0 : ((rX8_gotByte_0_0 M) - (rX8_gotByte_0_0 M) / 8 * 8) = 0
  ·
    refine g_tableE (v := 0) (off := 39) (t := 56) C dX8_cardDoes_17 c_17_0 (by decide) (by decide) (by decide) (by decide) ?_
    rw [if_pos c_17_0] at ok ep
    refine g_aload_n (q := 57) C dX8_cardDoes_56 rfl rfl ?_
    refine g_iconst (v := 0) (q := 58) C dX8_cardDoes_57 (by decide) rfl ?_
    refine g_iload_n (q := 59) C dX8_cardDoes_58 rfl rfl ?_
    refine g_callVvp (q := 62) (As := [.int 0, .int ((M.a 4 30))]) C gyX8_cardSends gvX8_cardSends t_1428 (c_X8_cardSends_0_p HM ok) dX8_cardDoes_59 rfl HM.1 rfl rfl rfl (Nat.le_of_ble_eq_true rfl) (Nat.le_of_ble_eq_true rfl) (Nat.le_of_ble_eq_true rfl) (Nat.le_of_ble_eq_true rfl) (Nat.le_of_ble_eq_true rfl) rfl (fun h1 z1 => ?_)
    obtain ⟨M', E', HM', frs, dd⟩ := z1
    exact E9.2.1 _ _ _ _ _ dX8_cardDoes_62 rfl (Nat.le_of_ble_eq_true rfl) (Nat.le_of_ble_eq_true rfl) ⟨rfl, _, _, HM', frs, by rw [ep]; exact dd⟩
  rw [if_neg c_17_0] at ok ep
  by_cases c_17_1 : ((rX8_gotByte_0_0 M) - (rX8_gotByte_0_0 M) / 8 * 8) = 1
  ·
    refine g_tableE (v := 1) (off := 46) (t := 63) C dX8_cardDoes_17 c_17_1 (by decide) (by decide) (by decide) (by decide) ?_
    rw [if_pos c_17_1] at ok ep
    refine g_aload_n (q := 64) C dX8_cardDoes_63 rfl rfl ?_
    refine g_iconst (v := 1) (q := 65) C dX8_cardDoes_64 (by decide) rfl ?_
    refine g_iconst (v := 0) (q := 66) C dX8_cardDoes_65 (by decide) rfl ?_
    refine g_callVi (x := (rX8_gotByte_1_0 M)) (q := 69) (As := [.int 1, .int 0]) C gyX8_gotByte gvX8_gotByte t_1448 (c_X8_gotByte_1_0_m HM) dX8_cardDoes_66 rfl HM.1 rfl rfl rfl (Nat.le_of_ble_eq_true rfl) (Nat.le_of_ble_eq_true rfl) (Nat.le_of_ble_eq_true rfl) (Nat.le_of_ble_eq_true rfl) (Nat.le_of_ble_eq_true rfl) rfl ?_
    refine g_bipush (v := 61) (q := 71) C dX8_cardDoes_69 (by decide) rfl ?_
    refine g_irem (q := 72) C dX8_cardDoes_71 (by decide) rfl ?_
    refine g_istore_n (q := 73) C dX8_cardDoes_72 (Nat.le_of_ble_eq_true rfl) (by simp only [gset]; rfl) rfl ?_
    refine g_aload_n (q := 74) C dX8_cardDoes_73 rfl rfl ?_
    refine g_iconst (v := 0) (q := 75) C dX8_cardDoes_74 (by decide) rfl ?_
    refine g_iconst (v := 0) (q := 76) C dX8_cardDoes_75 (by decide) rfl ?_
    obtain ⟨hob, ok⟩ := ok
    refine g_callVvp (q := 79) (As := [.int 0, .int 0]) C gyX8_cardOut gvX8_cardOut t_1432 (c_X8_cardOut_0_m HM hob) dX8_cardDoes_76 rfl HM.1 rfl rfl rfl (Nat.le_of_ble_eq_true rfl) (Nat.le_of_ble_eq_true rfl) (Nat.le_of_ble_eq_true rfl) (Nat.le_of_ble_eq_true rfl) (Nat.le_of_ble_eq_true rfl) rfl (fun h2 z2 => ?_)
    obtain ⟨HL2, fr2⟩ := z2
    refine g_iconst (v := 0) (q := 80) C dX8_cardDoes_79 (by decide) rfl ?_
    refine g_istore_n (q := 81) C dX8_cardDoes_80 (Nat.le_of_ble_eq_true rfl) (by simp only [gset]; rfl) rfl ?_
    obtain ⟨M1, e1⟩ : ∃ M1, M1 = (rX8_cardOut_0 M 0) := ⟨_, rfl⟩
    have HM1 : gMod h2 M1 := by rw [e1]; exact HL2
    obtain ⟨hmany, ok⟩ := ok
    have h60 := hmany.le (by decide)
    rw [← e1] at ok ep
    have HL8 : gMod h2 (M1.arr 4 (gCpy (M1.a 4) 96 (fun k => nI k) 0 0)) := by rw [gCpy_0, garr_id]; exact HM1
    have LL3 : ∀ d j : Nat, j + d = ((rX8_gotByte_1_0 M) - (rX8_gotByte_1_0 M) / 61 * 61).toNatClampNeg → ∀  (h1 : List gA), gMod h1 (M1.arr 4 (gCpy (M1.a 4) 96 (fun k => nI k) 0 j)) → gFM hp h1 → gG X 81 [some (.ref 122), some (.int ((M.a 4 30))), some (.int (((rX8_gotByte_1_0 M) - (rX8_gotByte_1_0 M) / 61 * 61))), some (.int ((nI j)))] [] h1 0 0 := by
      intro d
      induction d with
      | zero =>
        intro j hj  h1 HL1_ fr_
        obtain rfl : ((rX8_gotByte_1_0 M) - (rX8_gotByte_1_0 M) / 61 * 61).toNatClampNeg = j := by omega
        refine g_iload_n (q := 82) C dX8_cardDoes_81 rfl rfl ?_
        refine g_iload_n (q := 83) C dX8_cardDoes_82 rfl rfl ?_
        refine g_icmp_ge_t (t := 102) C dX8_cardDoes_83 (by decide) (hmany.t (by decide)) ?_
        refine g_aload_n (q := 103) C dX8_cardDoes_102 rfl rfl ?_
        refine g_getfield (v := .ref 127) (q := 106) C fX8_22 dX8_cardDoes_103 rfl HL1_.1 rfl ?_
        refine g_bipush (v := 19) (q := 108) C dX8_cardDoes_106 (by decide) rfl ?_
        refine g_iload_n (q := 109) C dX8_cardDoes_108 rfl rfl ?_
        refine g_iastoreN (j := 19) (q := 110) C dX8_cardDoes_109 rfl (HL1_.ar (i := 4) (n := 772) (by decide) rfl) (pk_in 19 772 (by decide)) (pk_cl 19) ?_
        refine gMsto (i := 4) (j := 19) (x := ((rX8_gotByte_1_0 M) - (rX8_gotByte_1_0 M) / 61 * 61)) HL1_ (by decide) rfl rfl fun h4 HL4 fr4 => ?_
        refine g_aload_n (q := 111) C dX8_cardDoes_110 rfl rfl ?_
        refine g_iconst (v := 1) (q := 112) C dX8_cardDoes_111 (by decide) rfl ?_
        refine g_callVvp (q := 115) (As := [.int 1]) C gyX8_sendsOut gvX8_sendsOut t_1304 (c_X8_sendsOut_1_p HL4 ok) dX8_cardDoes_112 rfl HL4.1 rfl rfl rfl (Nat.le_of_ble_eq_true rfl) (Nat.le_of_ble_eq_true rfl) (Nat.le_of_ble_eq_true rfl) (Nat.le_of_ble_eq_true rfl) (Nat.le_of_ble_eq_true rfl) rfl (fun h5 z5 => ?_)
        obtain ⟨M', E', HM', frs, dd⟩ := z5
        exact E9.2.1 _ _ _ _ _ dX8_cardDoes_115 rfl (Nat.le_of_ble_eq_true rfl) (Nat.le_of_ble_eq_true rfl) ⟨rfl, _, _, HM', (gFM.trans (gFM.trans fr_ fr4) frs), by rw [ep]; exact dd⟩
      | succ d ih =>
        intro j hj  h1 HL1_ fr_
        refine g_iload_n (q := 82) C dX8_cardDoes_81 rfl rfl ?_
        refine g_iload_n (q := 83) C dX8_cardDoes_82 rfl rfl ?_
        refine g_icmp_ge_f (t := 102) (q := 86) C dX8_cardDoes_83 (by decide) rfl (hmany.f (by decide) (by omega)) ?_
        refine g_aload_n (q := 87) C dX8_cardDoes_86 rfl rfl ?_
        refine g_getfield (v := .ref 127) (q := 90) C fX8_22 dX8_cardDoes_87 rfl HL1_.1 rfl ?_
        refine g_bipush (v := 96) (q := 92) C dX8_cardDoes_90 (by decide) rfl ?_
        refine g_iload_n (q := 93) C dX8_cardDoes_92 rfl rfl ?_
        refine g_iadd (q := 94) C dX8_cardDoes_93 rfl ?_
        refine g_iload_n (q := 95) C dX8_cardDoes_94 rfl rfl ?_
        refine g_iastoreN (j := (96 + j)) (q := 96) C dX8_cardDoes_95 rfl (HL1_.ar (i := 4) (n := 772) (by decide) rfl) (pk_in (96 + j) 772 (by omega) (nI_add 96 j)) (pk_cl (96 + j) (nI_add 96 j) (by omega)) ?_
        refine gMsto (i := 4) (j := (96 + j)) (x := (nI j)) HL1_ (by decide) rfl rfl fun h6 HL6 fr6 => ?_
        refine g_iinc (v := (nI (j + 1))) (q := 99) C dX8_cardDoes_96 rfl (nI_1 j) (by simp only [gset]; rfl) rfl ?_
        have e9 : (M1.arr 4 (gCpy (M1.a 4) 96 (fun k => nI k) 0 j)).put 4 (96 + j) (nI j) = (M1.arr 4 (gCpy (M1.a 4) 96 (fun k => nI k) 0 (j + 1))) := garr_cp (by rw [Nat.zero_add])
        have HL9 : gMod h6 (M1.arr 4 (gCpy (M1.a 4) 96 (fun k => nI k) 0 (j + 1))) := by rw [← e9]; exact HL6
        refine g_goto (q := 81) C dX8_cardDoes_99 (by decide) ?_
        exact ih (j + 1) (by omega)  h6 HL9 (gFM.trans fr_ fr6)
    exact LL3 (((rX8_gotByte_1_0 M) - (rX8_gotByte_1_0 M) / 61 * 61).toNatClampNeg - 0) 0 (by omega)  h2 HL8 fr2
    
  rw [if_neg c_17_1] at ok ep
  by_cases c_17_2 : ((rX8_gotByte_0_0 M) - (rX8_gotByte_0_0 M) / 8 * 8) = 2
  ·
    refine g_tableE (v := 2) (off := 99) (t := 116) C dX8_cardDoes_17 c_17_2 (by decide) (by decide) (by decide) (by decide) ?_
    rw [if_pos c_17_2] at ok ep
    refine g_aload_n (q := 117) C dX8_cardDoes_116 rfl rfl ?_
    refine g_getfield (v := .ref 127) (q := 120) C fX8_22 dX8_cardDoes_117 rfl HM.1 rfl ?_
    refine g_sipush (v := 416) (q := 123) C dX8_cardDoes_120 (by decide) rfl ?_
    refine g_aload_n (q := 124) C dX8_cardDoes_123 rfl rfl ?_
    refine g_iconst (v := 2) (q := 125) C dX8_cardDoes_124 (by decide) rfl ?_
    refine g_iconst (v := 1) (q := 126) C dX8_cardDoes_125 (by decide) rfl ?_
    refine g_callVi (x := (rX8_gotByte_2_1 M)) (q := 129) (As := [.int 2, .int 1]) C gyX8_gotByte gvX8_gotByte t_1448 (c_X8_gotByte_2_1_m HM) dX8_cardDoes_126 rfl HM.1 rfl rfl rfl (Nat.le_of_ble_eq_true rfl) (Nat.le_of_ble_eq_true rfl) (Nat.le_of_ble_eq_true rfl) (Nat.le_of_ble_eq_true rfl) (Nat.le_of_ble_eq_true rfl) rfl ?_
    refine g_iconst (v := 4) (q := 130) C dX8_cardDoes_129 (by decide) rfl ?_
    refine g_irem (q := 131) C dX8_cardDoes_130 (by decide) rfl ?_
    refine g_iastoreN (j := 416) (q := 132) C dX8_cardDoes_131 rfl (HM.ar (i := 4) (n := 772) (by decide) rfl) (pk_in 416 772 (by decide)) (pk_cl 416) ?_
    refine gMsto (i := 4) (j := 416) (x := ((rX8_gotByte_2_1 M) - (rX8_gotByte_2_1 M) / 4 * 4)) HM (by decide) rfl rfl fun h7 HL7 fr7 => ?_
    refine g_aload_n (q := 133) C dX8_cardDoes_132 rfl rfl ?_
    refine g_getfield (v := .ref 127) (q := 136) C fX8_22 dX8_cardDoes_133 rfl HL7.1 rfl ?_
    refine g_sipush (v := 417) (q := 139) C dX8_cardDoes_136 (by decide) rfl ?_
    refine g_aload_n (q := 140) C dX8_cardDoes_139 rfl rfl ?_
    refine g_iconst (v := 1) (q := 141) C dX8_cardDoes_140 (by decide) rfl ?_
    refine g_iconst (v := 1) (q := 142) C dX8_cardDoes_141 (by decide) rfl ?_
    refine g_callVi (x := (rX8_gotByte_1_1 (M.put 4 416 ((rX8_gotByte_2_1 M) - (rX8_gotByte_2_1 M) / 4 * 4)))) (q := 145) (As := [.int 1, .int 1]) C gyX8_gotByte gvX8_gotByte t_1448 (c_X8_gotByte_1_1_m HL7) dX8_cardDoes_142 rfl HL7.1 rfl rfl rfl (Nat.le_of_ble_eq_true rfl) (Nat.le_of_ble_eq_true rfl) (Nat.le_of_ble_eq_true rfl) (Nat.le_of_ble_eq_true rfl) (Nat.le_of_ble_eq_true rfl) rfl ?_
    refine g_iastoreN (j := 417) (q := 146) C dX8_cardDoes_145 rfl (HL7.ar (i := 4) (n := 772) (by decide) rfl) (pk_in 417 772 (by decide)) (pk_cl 417) ?_
    refine gMsto (i := 4) (j := 417) (x := (rX8_gotByte_1_1 (M.put 4 416 ((rX8_gotByte_2_1 M) - (rX8_gotByte_2_1 M) / 4 * 4)))) HL7 (by decide) rfl rfl fun h8 HL8 fr8 => ?_
    refine g_aload_n (q := 147) C dX8_cardDoes_146 rfl rfl ?_
    refine g_callVvp (q := 150) (As := []) C gyX8_cardWaits gvX8_cardWaits t_1440 (c_X8_cardWaits_p HL8 ok) dX8_cardDoes_147 rfl HL8.1 rfl rfl rfl (Nat.le_of_ble_eq_true rfl) (Nat.le_of_ble_eq_true rfl) (Nat.le_of_ble_eq_true rfl) (Nat.le_of_ble_eq_true rfl) (Nat.le_of_ble_eq_true rfl) rfl (fun h9 z9 => ?_)
    obtain ⟨M', E', HM', frs, dd⟩ := z9
    exact E9.2.1 _ _ _ _ _ dX8_cardDoes_150 rfl (Nat.le_of_ble_eq_true rfl) (Nat.le_of_ble_eq_true rfl) ⟨rfl, _, _, HM', (gFM.trans (gFM.trans fr7 fr8) frs), by rw [ep]; exact dd⟩
  rw [if_neg c_17_2] at ok ep
  by_cases c_17_3 : ((rX8_gotByte_0_0 M) - (rX8_gotByte_0_0 M) / 8 * 8) = 3
  ·
    refine g_tableE (v := 3) (off := 134) (t := 151) C dX8_cardDoes_17 c_17_3 (by decide) (by decide) (by decide) (by decide) ?_
    rw [if_pos c_17_3] at ok ep
    refine g_aload_n (q := 152) C dX8_cardDoes_151 rfl rfl ?_
    refine g_iconst (v := 1) (q := 153) C dX8_cardDoes_152 (by decide) rfl ?_
    refine g_bipush (v := 32) (q := 155) C dX8_cardDoes_153 (by decide) rfl ?_
    refine g_callVi (x := (rX8_gotByte_1_32 M)) (q := 158) (As := [.int 1, .int 32]) C gyX8_gotByte gvX8_gotByte t_1448 (c_X8_gotByte_1_32_m HM) dX8_cardDoes_155 rfl HM.1 rfl rfl rfl (Nat.le_of_ble_eq_true rfl) (Nat.le_of_ble_eq_true rfl) (Nat.le_of_ble_eq_true rfl) (Nat.le_of_ble_eq_true rfl) (Nat.le_of_ble_eq_true rfl) rfl ?_
    refine g_istore_n (q := 159) C dX8_cardDoes_158 (Nat.le_of_ble_eq_true rfl) (by simp only [gset]; rfl) rfl ?_
    refine g_aload_n (q := 160) C dX8_cardDoes_159 rfl rfl ?_
    refine g_iconst (v := 1) (q := 161) C dX8_cardDoes_160 (by decide) rfl ?_
    refine g_iconst (v := 1) (q := 162) C dX8_cardDoes_161 (by decide) rfl ?_
    refine g_iload_n (q := 163) C dX8_cardDoes_162 rfl rfl ?_
    refine g_iconst (v := 1) (q := 164) C dX8_cardDoes_163 (by decide) rfl ?_
    refine g_sipush (v := 254) (q := 167) C dX8_cardDoes_164 (by decide) rfl ?_
    refine g_callSi (x := (rX8_within (rX8_gotByte_1_32 M) 1 254)) (q := 170) (As := [.int ((rX8_gotByte_1_32 M)), .int 1, .int 254]) C gyX8_within t_1212 t_1211 (c_X8_within_m) dX8_cardDoes_167 rfl rfl rfl (Nat.le_of_ble_eq_true rfl) (Nat.le_of_ble_eq_true rfl) (Nat.le_of_ble_eq_true rfl) (Nat.le_of_ble_eq_true rfl) (Nat.le_of_ble_eq_true rfl) rfl ?_
    suffices K170 : gG X 179 [some (.ref 122), some (.int ((M.a 4 30))), some (.int ((rX8_gotByte_1_32 M))), none] [.int (if (rX8_within (rX8_gotByte_1_32 M) 1 254) = 0 then 32 else (rX8_gotByte_1_32 M) : Int32), .int 1, .int 1, .ref 122] hp 0 0 by
      refine g_if_eq (t := 177) (q := 173) C dX8_cardDoes_170 (by decide) rfl (fun c_170 => ?_) (fun c_170 => ?_)
      · refine g_bipush (v := 32) (q := 179) C dX8_cardDoes_177 (by decide) rfl ?_
        rw [if_pos c_170] at K170
        exact K170
      · refine g_iload_n (q := 174) C dX8_cardDoes_173 rfl rfl ?_
        refine g_goto (q := 179) C dX8_cardDoes_174 (by decide) ?_
        rw [if_neg c_170] at K170
        exact K170
    refine g_callVvp (q := 182) (As := [.int 1, .int 1, .int ((if (rX8_within (rX8_gotByte_1_32 M) 1 254) = 0 then 32 else (rX8_gotByte_1_32 M) : Int32))]) C gyX8_asks gvX8_asks t_1340 (c_X8_asks_1_p HM ok) dX8_cardDoes_179 rfl HM.1 rfl rfl rfl (Nat.le_of_ble_eq_true rfl) (Nat.le_of_ble_eq_true rfl) (Nat.le_of_ble_eq_true rfl) (Nat.le_of_ble_eq_true rfl) (Nat.le_of_ble_eq_true rfl) rfl (fun h10 z10 => ?_)
    obtain ⟨M', E', HM', frs, dd⟩ := z10
    exact E9.2.1 _ _ _ _ _ dX8_cardDoes_182 rfl (Nat.le_of_ble_eq_true rfl) (Nat.le_of_ble_eq_true rfl) ⟨rfl, _, _, HM', frs, by rw [ep]; exact dd⟩
  rw [if_neg c_17_3] at ok ep
  by_cases c_17_4 : ((rX8_gotByte_0_0 M) - (rX8_gotByte_0_0 M) / 8 * 8) = 4
  ·
    refine g_tableE (v := 4) (off := 166) (t := 183) C dX8_cardDoes_17 c_17_4 (by decide) (by decide) (by decide) (by decide) ?_
    rw [if_pos c_17_4] at ok ep
    refine g_aload_n (q := 184) C dX8_cardDoes_183 rfl rfl ?_
    refine g_iconst (v := 1) (q := 185) C dX8_cardDoes_184 (by decide) rfl ?_
    refine g_iconst (v := 2) (q := 186) C dX8_cardDoes_185 (by decide) rfl ?_
    refine g_iconst (v := 0) (q := 187) C dX8_cardDoes_186 (by decide) rfl ?_
    refine g_callVvp (q := 190) (As := [.int 1, .int 2, .int 0]) C gyX8_asks gvX8_asks t_1340 (c_X8_asks_1_p HM ok) dX8_cardDoes_187 rfl HM.1 rfl rfl rfl (Nat.le_of_ble_eq_true rfl) (Nat.le_of_ble_eq_true rfl) (Nat.le_of_ble_eq_true rfl) (Nat.le_of_ble_eq_true rfl) (Nat.le_of_ble_eq_true rfl) rfl (fun h11 z11 => ?_)
    obtain ⟨M', E', HM', frs, dd⟩ := z11
    exact E9.2.1 _ _ _ _ _ dX8_cardDoes_190 rfl (Nat.le_of_ble_eq_true rfl) (Nat.le_of_ble_eq_true rfl) ⟨rfl, _, _, HM', frs, by rw [ep]; exact dd⟩
  rw [if_neg c_17_4] at ok ep
  by_cases c_17_5 : ((rX8_gotByte_0_0 M) - (rX8_gotByte_0_0 M) / 8 * 8) = 5
  ·
    refine g_tableE (v := 5) (off := 174) (t := 191) C dX8_cardDoes_17 c_17_5 (by decide) (by decide) (by decide) (by decide) ?_
    rw [if_pos c_17_5] at ok ep
    refine g_aload_n (q := 192) C dX8_cardDoes_191 rfl rfl ?_
    refine g_getfield (v := .ref 127) (q := 195) C fX8_22 dX8_cardDoes_192 rfl HM.1 rfl ?_
    refine g_sipush (v := 418) (q := 198) C dX8_cardDoes_195 (by decide) rfl ?_
    refine g_aload_n (q := 199) C dX8_cardDoes_198 rfl rfl ?_
    refine g_iconst (v := 1) (q := 200) C dX8_cardDoes_199 (by decide) rfl ?_
    refine g_iconst (v := 0) (q := 201) C dX8_cardDoes_200 (by decide) rfl ?_
    refine g_callVi (x := (rX8_gotByte_1_0 M)) (q := 204) (As := [.int 1, .int 0]) C gyX8_gotByte gvX8_gotByte t_1448 (c_X8_gotByte_1_0_m HM) dX8_cardDoes_201 rfl HM.1 rfl rfl rfl (Nat.le_of_ble_eq_true rfl) (Nat.le_of_ble_eq_true rfl) (Nat.le_of_ble_eq_true rfl) (Nat.le_of_ble_eq_true rfl) (Nat.le_of_ble_eq_true rfl) rfl ?_
    refine g_iconst (v := 4) (q := 205) C dX8_cardDoes_204 (by decide) rfl ?_
    refine g_irem (q := 206) C dX8_cardDoes_205 (by decide) rfl ?_
    refine g_iastoreN (j := 418) (q := 207) C dX8_cardDoes_206 rfl (HM.ar (i := 4) (n := 772) (by decide) rfl) (pk_in 418 772 (by decide)) (pk_cl 418) ?_
    refine gMsto (i := 4) (j := 418) (x := ((rX8_gotByte_1_0 M) - (rX8_gotByte_1_0 M) / 4 * 4)) HM (by decide) rfl rfl fun h12 HL12 fr12 => ?_
    exact E9.2.1 _ _ _ _ _ dX8_cardDoes_207 rfl (Nat.le_of_ble_eq_true rfl) (Nat.le_of_ble_eq_true rfl) ⟨rfl, _, E, HL12, fr12, by rw [ep]; exact ⟨rfl, rfl⟩⟩
  rw [if_neg c_17_5] at ok ep
  refine g_tableOut (t := 208) C dX8_cardDoes_17 (gOut6 c_17_0 c_17_1 c_17_2 c_17_3 c_17_4 c_17_5) (by decide) ?_
  refine g_aload_n (q := 209) C dX8_cardDoes_208 rfl rfl ?_
  refine g_iconst (v := 0) (q := 210) C dX8_cardDoes_209 (by decide) rfl ?_
  refine g_iconst (v := 1) (q := 211) C dX8_cardDoes_210 (by decide) rfl ?_
  obtain ⟨hob, ok⟩ := ok
  refine g_callVvp (q := 214) (As := [.int 0, .int 1]) C gyX8_cardOut gvX8_cardOut t_1432 (c_X8_cardOut_0_m HM hob) dX8_cardDoes_211 rfl HM.1 rfl rfl rfl (Nat.le_of_ble_eq_true rfl) (Nat.le_of_ble_eq_true rfl) (Nat.le_of_ble_eq_true rfl) (Nat.le_of_ble_eq_true rfl) (Nat.le_of_ble_eq_true rfl) rfl (fun h13 z13 => ?_)
  obtain ⟨HL13, fr13⟩ := z13
  refine g_aload_n (q := 215) C dX8_cardDoes_214 rfl rfl ?_
  refine g_getfield (v := .ref 127) (q := 218) C fX8_22 dX8_cardDoes_215 rfl HL13.1 rfl ?_
  refine g_bipush (v := 97) (q := 220) C dX8_cardDoes_218 (by decide) rfl ?_
  refine g_iload_n (q := 221) C dX8_cardDoes_220 rfl rfl ?_
  refine g_iastoreN (j := 97) (q := 222) C dX8_cardDoes_221 rfl (HL13.ar (i := 4) (n := 772) (by decide) rfl) (pk_in 97 772 (by decide)) (pk_cl 97) ?_
  refine gMsto (i := 4) (j := 97) (x := (M.a 4 30)) HL13 (by decide) rfl rfl fun h14 HL14 fr14 => ?_
  refine g_aload_n (q := 223) C dX8_cardDoes_222 rfl rfl ?_
  refine g_getfield (v := .ref 127) (q := 226) C fX8_22 dX8_cardDoes_223 rfl HL14.1 rfl ?_
  refine g_bipush (v := 19) (q := 228) C dX8_cardDoes_226 (by decide) rfl ?_
  refine g_iconst (v := 2) (q := 229) C dX8_cardDoes_228 (by decide) rfl ?_
  refine g_iastoreN (j := 19) (q := 230) C dX8_cardDoes_229 rfl (HL14.ar (i := 4) (n := 772) (by decide) rfl) (pk_in 19 772 (by decide)) (pk_cl 19) ?_
  refine gMsto (i := 4) (j := 19) (x := 2) HL14 (by decide) rfl rfl fun h15 HL15 fr15 => ?_
  refine g_aload_n (q := 231) C dX8_cardDoes_230 rfl rfl ?_
  refine g_iconst (v := 1) (q := 232) C dX8_cardDoes_231 (by decide) rfl ?_
  refine g_callVvp (q := 235) (As := [.int 1]) C gyX8_sendsOut gvX8_sendsOut t_1304 (c_X8_sendsOut_1_p HL15 ok) dX8_cardDoes_232 rfl HL15.1 rfl rfl rfl (Nat.le_of_ble_eq_true rfl) (Nat.le_of_ble_eq_true rfl) (Nat.le_of_ble_eq_true rfl) (Nat.le_of_ble_eq_true rfl) (Nat.le_of_ble_eq_true rfl) rfl (fun h16 z16 => ?_)
  obtain ⟨M', E', HM', frs, dd⟩ := z16
  exact E9.2.1 _ _ _ _ _ dX8_cardDoes_235 rfl (Nat.le_of_ble_eq_true rfl) (Nat.le_of_ble_eq_true rfl) ⟨rfl, _, _, HM', (gFM.trans (gFM.trans (gFM.trans fr13 fr14) fr15) frs), by rw [ep]; exact dd⟩
def pX8_readerAsked (M : gMd) : gMd × Option (Int32 × Int32) := (if (M.a 13 1) = 193 then (pX8_responds_0 (M.put 4 18 (M.a 13 3))) else (if (M.a 13 1) = 194 then (pX8_responds_0 ((rX8_empties_0 (rX8_isThrough_0 M)).put 4 421 1)) else (if (M.a 13 1) = 195 then (pX8_responds_0 M) else ((rX8_tries M 2 2), none))))
def oX8_readerAsked (M : gMd) (l : Nat) (E : List (Int32 × List Int32)) : Prop := (if (M.a 13 1) = 193 then oX8_responds_0 (M.put 4 18 (M.a 13 3)) l E else (if (M.a 13 1) = 194 then oX8_responds_0 ((rX8_empties_0 (rX8_isThrough_0 M)).put 4 421 1) l E else (if (M.a 13 1) = 195 then oX8_responds_0 M l E else True)))
theorem dX8_readerAsked_0 : decode cX8_readerAsked 0 = .ok (.aload_n 0, 1) := by decide +kernel
theorem dX8_readerAsked_1 : decode cX8_readerAsked 1 = .ok (.getfield 54, 3) := by decide +kernel
theorem dX8_readerAsked_4 : decode cX8_readerAsked 4 = .ok (.iconst 1, 1) := by decide +kernel
theorem dX8_readerAsked_5 : decode cX8_readerAsked 5 = .ok (.iaload, 1) := by decide +kernel
theorem dX8_readerAsked_6 : decode cX8_readerAsked 6 = .ok (.istore_n 1, 1) := by decide +kernel
theorem dX8_readerAsked_7 : decode cX8_readerAsked 7 = .ok (.iload_n 1, 1) := by decide +kernel
theorem dX8_readerAsked_8 : decode cX8_readerAsked 8 = .ok (.sipush 193, 3) := by decide +kernel
theorem dX8_readerAsked_11 : decode cX8_readerAsked 11 = .ok (.if_icmp .ne 24, 3) := by decide +kernel
theorem dX8_readerAsked_14 : decode cX8_readerAsked 14 = .ok (.aload_n 0, 1) := by decide +kernel
theorem dX8_readerAsked_15 : decode cX8_readerAsked 15 = .ok (.getfield 22, 3) := by decide +kernel
theorem dX8_readerAsked_18 : decode cX8_readerAsked 18 = .ok (.bipush 18, 2) := by decide +kernel
theorem dX8_readerAsked_20 : decode cX8_readerAsked 20 = .ok (.aload_n 0, 1) := by decide +kernel
theorem dX8_readerAsked_21 : decode cX8_readerAsked 21 = .ok (.getfield 54, 3) := by decide +kernel
theorem dX8_readerAsked_24 : decode cX8_readerAsked 24 = .ok (.iconst 3, 1) := by decide +kernel
theorem dX8_readerAsked_25 : decode cX8_readerAsked 25 = .ok (.iaload, 1) := by decide +kernel
theorem dX8_readerAsked_26 : decode cX8_readerAsked 26 = .ok (.iastore, 1) := by decide +kernel
theorem dX8_readerAsked_27 : decode cX8_readerAsked 27 = .ok (.aload_n 0, 1) := by decide +kernel
theorem dX8_readerAsked_28 : decode cX8_readerAsked 28 = .ok (.iconst 0, 1) := by decide +kernel
theorem dX8_readerAsked_29 : decode cX8_readerAsked 29 = .ok (.invokevirtual 264, 3) := by decide +kernel
theorem dX8_readerAsked_32 : decode cX8_readerAsked 32 = .ok (.goto 58, 3) := by decide +kernel
theorem dX8_readerAsked_35 : decode cX8_readerAsked 35 = .ok (.iload_n 1, 1) := by decide +kernel
theorem dX8_readerAsked_36 : decode cX8_readerAsked 36 = .ok (.sipush 194, 3) := by decide +kernel
theorem dX8_readerAsked_39 : decode cX8_readerAsked 39 = .ok (.if_icmp .ne 30, 3) := by decide +kernel
theorem dX8_readerAsked_42 : decode cX8_readerAsked 42 = .ok (.aload_n 0, 1) := by decide +kernel
theorem dX8_readerAsked_43 : decode cX8_readerAsked 43 = .ok (.iconst 0, 1) := by decide +kernel
theorem dX8_readerAsked_44 : decode cX8_readerAsked 44 = .ok (.invokevirtual 210, 3) := by decide +kernel
theorem dX8_readerAsked_47 : decode cX8_readerAsked 47 = .ok (.aload_n 0, 1) := by decide +kernel
theorem dX8_readerAsked_48 : decode cX8_readerAsked 48 = .ok (.iconst 0, 1) := by decide +kernel
theorem dX8_readerAsked_49 : decode cX8_readerAsked 49 = .ok (.invokevirtual 207, 3) := by decide +kernel
theorem dX8_readerAsked_52 : decode cX8_readerAsked 52 = .ok (.aload_n 0, 1) := by decide +kernel
theorem dX8_readerAsked_53 : decode cX8_readerAsked 53 = .ok (.getfield 22, 3) := by decide +kernel
theorem dX8_readerAsked_56 : decode cX8_readerAsked 56 = .ok (.sipush 421, 3) := by decide +kernel
theorem dX8_readerAsked_59 : decode cX8_readerAsked 59 = .ok (.iconst 1, 1) := by decide +kernel
theorem dX8_readerAsked_60 : decode cX8_readerAsked 60 = .ok (.iastore, 1) := by decide +kernel
theorem dX8_readerAsked_61 : decode cX8_readerAsked 61 = .ok (.aload_n 0, 1) := by decide +kernel
theorem dX8_readerAsked_62 : decode cX8_readerAsked 62 = .ok (.iconst 0, 1) := by decide +kernel
theorem dX8_readerAsked_63 : decode cX8_readerAsked 63 = .ok (.invokevirtual 264, 3) := by decide +kernel
theorem dX8_readerAsked_66 : decode cX8_readerAsked 66 = .ok (.goto 24, 3) := by decide +kernel
theorem dX8_readerAsked_69 : decode cX8_readerAsked 69 = .ok (.iload_n 1, 1) := by decide +kernel
theorem dX8_readerAsked_70 : decode cX8_readerAsked 70 = .ok (.sipush 195, 3) := by decide +kernel
theorem dX8_readerAsked_73 : decode cX8_readerAsked 73 = .ok (.if_icmp .ne 11, 3) := by decide +kernel
theorem dX8_readerAsked_76 : decode cX8_readerAsked 76 = .ok (.aload_n 0, 1) := by decide +kernel
theorem dX8_readerAsked_77 : decode cX8_readerAsked 77 = .ok (.iconst 0, 1) := by decide +kernel
theorem dX8_readerAsked_78 : decode cX8_readerAsked 78 = .ok (.invokevirtual 264, 3) := by decide +kernel
theorem dX8_readerAsked_81 : decode cX8_readerAsked 81 = .ok (.goto 9, 3) := by decide +kernel
theorem dX8_readerAsked_84 : decode cX8_readerAsked 84 = .ok (.aload_n 0, 1) := by decide +kernel
theorem dX8_readerAsked_85 : decode cX8_readerAsked 85 = .ok (.iconst 2, 1) := by decide +kernel
theorem dX8_readerAsked_86 : decode cX8_readerAsked 86 = .ok (.iconst 2, 1) := by decide +kernel
theorem dX8_readerAsked_87 : decode cX8_readerAsked 87 = .ok (.invokevirtual 225, 3) := by decide +kernel
theorem dX8_readerAsked_90 : decode cX8_readerAsked 90 = .ok (.return_, 1) := by decide +kernel
set_option maxRecDepth 100000 in
set_option maxHeartbeats 4000000 in
theorem c_X8_readerAsked_p {hp : List gA} {M : gMd} {l : Nat} {E : List (Int32 × List Int32)}  (HM : gMod hp M) (ok : oX8_readerAsked M l E)  : gM yX8_readerAsked cX8_readerAsked 2 (none) 5 116 [.ref 122] (hp) (0) (0) (fun v h => v = none ∧ ∃ M' E', gMod h M' ∧ gFM hp h ∧ gDo 0 (pX8_readerAsked M) l E M' E') := by
  refine gM_of (ls0 := [some (.ref 122), none]) (by decide +kernel) (Nat.le_of_ble_eq_true rfl) rfl fun X C E9 => ?_
  obtain ⟨P, ep⟩ : ∃ P, P = pX8_readerAsked M := ⟨_, rfl⟩
  rw [← ep] at E9
  unfold pX8_readerAsked at ep
  unfold oX8_readerAsked at ok
  refine g_aload_n (q := 1) C dX8_readerAsked_0 rfl rfl ?_
  refine g_getfield (v := .ref 136) (q := 4) C fX8_54 dX8_readerAsked_1 rfl HM.1 rfl ?_
  refine g_iconst (v := 1) (q := 5) C dX8_readerAsked_4 (by decide) rfl ?_
  refine g_ialoadN (x := (M.a 13 1)) (j := 1) (q := 6) C dX8_readerAsked_5 rfl (HM.ar (i := 13) (n := 260) (by decide) rfl) (pk_in 1 260 (by decide)) (pk_cl 1) rfl ?_
  refine g_istore_n (q := 7) C dX8_readerAsked_6 (Nat.le_of_ble_eq_true rfl) (by simp only [gset]; rfl) rfl ?_
  refine g_iload_n (q := 8) C dX8_readerAsked_7 rfl rfl ?_
  refine g_sipush (v := 193) (q := 11) C dX8_readerAsked_8 (by decide) rfl ?_
  refine g_icmp_ne (t := 35) (q := 14) C dX8_readerAsked_11 (by decide) rfl (fun c_11 => ?_) (fun c_11 => ?_)
  ·
    rw [if_neg c_11] at ok ep
    refine g_iload_n (q := 36) C dX8_readerAsked_35 rfl rfl ?_
    refine g_sipush (v := 194) (q := 39) C dX8_readerAsked_36 (by decide) rfl ?_
    refine g_icmp_ne (t := 69) (q := 42) C dX8_readerAsked_39 (by decide) rfl (fun c_39 => ?_) (fun c_39 => ?_)
    ·
      rw [if_neg c_39] at ok ep
      refine g_iload_n (q := 70) C dX8_readerAsked_69 rfl rfl ?_
      refine g_sipush (v := 195) (q := 73) C dX8_readerAsked_70 (by decide) rfl ?_
      refine g_icmp_ne (t := 84) (q := 76) C dX8_readerAsked_73 (by decide) rfl (fun c_73 => ?_) (fun c_73 => ?_)
      ·
        rw [if_neg c_73] at ok ep
        refine g_aload_n (q := 85) C dX8_readerAsked_84 rfl rfl ?_
        refine g_iconst (v := 2) (q := 86) C dX8_readerAsked_85 (by decide) rfl ?_
        refine g_iconst (v := 2) (q := 87) C dX8_readerAsked_86 (by decide) rfl ?_
        refine g_callVvp (q := 90) (As := [.int 2, .int 2]) C gyX8_tries gvX8_tries t_1356 (c_X8_tries_m HM) dX8_readerAsked_87 rfl HM.1 rfl rfl rfl (Nat.le_of_ble_eq_true rfl) (Nat.le_of_ble_eq_true rfl) (Nat.le_of_ble_eq_true rfl) (Nat.le_of_ble_eq_true rfl) (Nat.le_of_ble_eq_true rfl) rfl (fun h1 z1 => ?_)
        obtain ⟨HL1, fr1⟩ := z1
        exact E9.2.1 _ _ _ _ _ dX8_readerAsked_90 rfl (Nat.le_of_ble_eq_true rfl) (Nat.le_of_ble_eq_true rfl) ⟨rfl, _, E, HL1, fr1, by rw [ep]; exact ⟨rfl, rfl⟩⟩
      ·
        rw [if_pos c_73] at ok ep
        refine g_aload_n (q := 77) C dX8_readerAsked_76 rfl rfl ?_
        refine g_iconst (v := 0) (q := 78) C dX8_readerAsked_77 (by decide) rfl ?_
        refine g_callVvp (q := 81) (As := [.int 0]) C gyX8_responds gvX8_responds t_1416 (c_X8_responds_0_p HM ok) dX8_readerAsked_78 rfl HM.1 rfl rfl rfl (Nat.le_of_ble_eq_true rfl) (Nat.le_of_ble_eq_true rfl) (Nat.le_of_ble_eq_true rfl) (Nat.le_of_ble_eq_true rfl) (Nat.le_of_ble_eq_true rfl) rfl (fun h2 z2 => ?_)
        obtain ⟨M', E', HM', frs, dd⟩ := z2
        refine g_goto (q := 90) C dX8_readerAsked_81 (by decide) ?_
        exact E9.2.1 _ _ _ _ _ dX8_readerAsked_90 rfl (Nat.le_of_ble_eq_true rfl) (Nat.le_of_ble_eq_true rfl) ⟨rfl, _, _, HM', frs, by rw [ep]; exact dd⟩
    ·
      rw [if_pos c_39] at ok ep
      refine g_aload_n (q := 43) C dX8_readerAsked_42 rfl rfl ?_
      refine g_iconst (v := 0) (q := 44) C dX8_readerAsked_43 (by decide) rfl ?_
      refine g_callVvp (q := 47) (As := [.int 0]) C gyX8_isThrough gvX8_isThrough t_1384 (c_X8_isThrough_0_m HM) dX8_readerAsked_44 rfl HM.1 rfl rfl rfl (Nat.le_of_ble_eq_true rfl) (Nat.le_of_ble_eq_true rfl) (Nat.le_of_ble_eq_true rfl) (Nat.le_of_ble_eq_true rfl) (Nat.le_of_ble_eq_true rfl) rfl (fun h3 z3 => ?_)
      obtain ⟨HL3, fr3⟩ := z3
      refine g_aload_n (q := 48) C dX8_readerAsked_47 rfl rfl ?_
      refine g_iconst (v := 0) (q := 49) C dX8_readerAsked_48 (by decide) rfl ?_
      refine g_callVvp (q := 52) (As := [.int 0]) C gyX8_empties gvX8_empties t_1376 (c_X8_empties_0_m HL3) dX8_readerAsked_49 rfl HL3.1 rfl rfl rfl (Nat.le_of_ble_eq_true rfl) (Nat.le_of_ble_eq_true rfl) (Nat.le_of_ble_eq_true rfl) (Nat.le_of_ble_eq_true rfl) (Nat.le_of_ble_eq_true rfl) rfl (fun h4 z4 => ?_)
      obtain ⟨HL4, fr4⟩ := z4
      refine g_aload_n (q := 53) C dX8_readerAsked_52 rfl rfl ?_
      refine g_getfield (v := .ref 127) (q := 56) C fX8_22 dX8_readerAsked_53 rfl HL4.1 rfl ?_
      refine g_sipush (v := 421) (q := 59) C dX8_readerAsked_56 (by decide) rfl ?_
      refine g_iconst (v := 1) (q := 60) C dX8_readerAsked_59 (by decide) rfl ?_
      refine g_iastoreN (j := 421) (q := 61) C dX8_readerAsked_60 rfl (HL4.ar (i := 4) (n := 772) (by decide) rfl) (pk_in 421 772 (by decide)) (pk_cl 421) ?_
      refine gMsto (i := 4) (j := 421) (x := 1) HL4 (by decide) rfl rfl fun h5 HL5 fr5 => ?_
      refine g_aload_n (q := 62) C dX8_readerAsked_61 rfl rfl ?_
      refine g_iconst (v := 0) (q := 63) C dX8_readerAsked_62 (by decide) rfl ?_
      refine g_callVvp (q := 66) (As := [.int 0]) C gyX8_responds gvX8_responds t_1416 (c_X8_responds_0_p HL5 ok) dX8_readerAsked_63 rfl HL5.1 rfl rfl rfl (Nat.le_of_ble_eq_true rfl) (Nat.le_of_ble_eq_true rfl) (Nat.le_of_ble_eq_true rfl) (Nat.le_of_ble_eq_true rfl) (Nat.le_of_ble_eq_true rfl) rfl (fun h6 z6 => ?_)
      obtain ⟨M', E', HM', frs, dd⟩ := z6
      refine g_goto (q := 90) C dX8_readerAsked_66 (by decide) ?_
      exact E9.2.1 _ _ _ _ _ dX8_readerAsked_90 rfl (Nat.le_of_ble_eq_true rfl) (Nat.le_of_ble_eq_true rfl) ⟨rfl, _, _, HM', (gFM.trans (gFM.trans (gFM.trans fr3 fr4) fr5) frs), by rw [ep]; exact dd⟩
  ·
    rw [if_pos c_11] at ok ep
    refine g_aload_n (q := 15) C dX8_readerAsked_14 rfl rfl ?_
    refine g_getfield (v := .ref 127) (q := 18) C fX8_22 dX8_readerAsked_15 rfl HM.1 rfl ?_
    refine g_bipush (v := 18) (q := 20) C dX8_readerAsked_18 (by decide) rfl ?_
    refine g_aload_n (q := 21) C dX8_readerAsked_20 rfl rfl ?_
    refine g_getfield (v := .ref 136) (q := 24) C fX8_54 dX8_readerAsked_21 rfl HM.1 rfl ?_
    refine g_iconst (v := 3) (q := 25) C dX8_readerAsked_24 (by decide) rfl ?_
    refine g_ialoadN (x := (M.a 13 3)) (j := 3) (q := 26) C dX8_readerAsked_25 rfl (HM.ar (i := 13) (n := 260) (by decide) rfl) (pk_in 3 260 (by decide)) (pk_cl 3) rfl ?_
    refine g_iastoreN (j := 18) (q := 27) C dX8_readerAsked_26 rfl (HM.ar (i := 4) (n := 772) (by decide) rfl) (pk_in 18 772 (by decide)) (pk_cl 18) ?_
    refine gMsto (i := 4) (j := 18) (x := (M.a 13 3)) HM (by decide) rfl rfl fun h7 HL7 fr7 => ?_
    refine g_aload_n (q := 28) C dX8_readerAsked_27 rfl rfl ?_
    refine g_iconst (v := 0) (q := 29) C dX8_readerAsked_28 (by decide) rfl ?_
    refine g_callVvp (q := 32) (As := [.int 0]) C gyX8_responds gvX8_responds t_1416 (c_X8_responds_0_p HL7 ok) dX8_readerAsked_29 rfl HL7.1 rfl rfl rfl (Nat.le_of_ble_eq_true rfl) (Nat.le_of_ble_eq_true rfl) (Nat.le_of_ble_eq_true rfl) (Nat.le_of_ble_eq_true rfl) (Nat.le_of_ble_eq_true rfl) rfl (fun h8 z8 => ?_)
    obtain ⟨M', E', HM', frs, dd⟩ := z8
    refine g_goto (q := 90) C dX8_readerAsked_32 (by decide) ?_
    exact E9.2.1 _ _ _ _ _ dX8_readerAsked_90 rfl (Nat.le_of_ble_eq_true rfl) (Nat.le_of_ble_eq_true rfl) ⟨rfl, _, _, HM', (gFM.trans fr7 frs), by rw [ep]; exact dd⟩
def pX8_readerTold (M : gMd) : gMd × Option (Int32 × Int32) := (if (M.a 4 421) = 1 then ((rX8_done (rX8_messageCame_0 (M.put 4 8 0))), none) else (if 0 ≤ (M.a 4 5) then (if (rX8_wantsAgain_0 M) = 0 then (pX8_goesOn_0 M) else ((rX8_tries M 3 0), none)) else (pX8_sendsR_0 M 0)))
def oX8_readerTold (M : gMd) (l : Nat) (E : List (Int32 × List Int32)) : Prop := (if (M.a 4 421) = 1 then (gIr ((M.put 4 8 0).a 4 8) 60 ∧ True) else (if 0 ≤ (M.a 4 5) then (if (rX8_wantsAgain_0 M) = 0 then oX8_goesOn_0 M l E else True) else oX8_sendsR_0 M 0 l E))
theorem dX8_readerTold_0 : decode cX8_readerTold 0 = .ok (.aload_n 0, 1) := by decide +kernel
theorem dX8_readerTold_1 : decode cX8_readerTold 1 = .ok (.getfield 22, 3) := by decide +kernel
theorem dX8_readerTold_4 : decode cX8_readerTold 4 = .ok (.sipush 421, 3) := by decide +kernel
theorem dX8_readerTold_7 : decode cX8_readerTold 7 = .ok (.iaload, 1) := by decide +kernel
theorem dX8_readerTold_8 : decode cX8_readerTold 8 = .ok (.iconst 1, 1) := by decide +kernel
theorem dX8_readerTold_9 : decode cX8_readerTold 9 = .ok (.if_icmp .ne 23, 3) := by decide +kernel
theorem dX8_readerTold_12 : decode cX8_readerTold 12 = .ok (.aload_n 0, 1) := by decide +kernel
theorem dX8_readerTold_13 : decode cX8_readerTold 13 = .ok (.getfield 22, 3) := by decide +kernel
theorem dX8_readerTold_16 : decode cX8_readerTold 16 = .ok (.bipush 8, 2) := by decide +kernel
theorem dX8_readerTold_18 : decode cX8_readerTold 18 = .ok (.iconst 0, 1) := by decide +kernel
theorem dX8_readerTold_19 : decode cX8_readerTold 19 = .ok (.iastore, 1) := by decide +kernel
theorem dX8_readerTold_20 : decode cX8_readerTold 20 = .ok (.aload_n 0, 1) := by decide +kernel
theorem dX8_readerTold_21 : decode cX8_readerTold 21 = .ok (.iconst 0, 1) := by decide +kernel
theorem dX8_readerTold_22 : decode cX8_readerTold 22 = .ok (.invokevirtual 240, 3) := by decide +kernel
theorem dX8_readerTold_25 : decode cX8_readerTold 25 = .ok (.aload_n 0, 1) := by decide +kernel
theorem dX8_readerTold_26 : decode cX8_readerTold 26 = .ok (.invokevirtual 243, 3) := by decide +kernel
theorem dX8_readerTold_29 : decode cX8_readerTold 29 = .ok (.goto 43, 3) := by decide +kernel
theorem dX8_readerTold_32 : decode cX8_readerTold 32 = .ok (.aload_n 0, 1) := by decide +kernel
theorem dX8_readerTold_33 : decode cX8_readerTold 33 = .ok (.getfield 22, 3) := by decide +kernel
theorem dX8_readerTold_36 : decode cX8_readerTold 36 = .ok (.iconst 5, 1) := by decide +kernel
theorem dX8_readerTold_37 : decode cX8_readerTold 37 = .ok (.iaload, 1) := by decide +kernel
theorem dX8_readerTold_38 : decode cX8_readerTold 38 = .ok (.ifCond .ge 12, 3) := by decide +kernel
theorem dX8_readerTold_41 : decode cX8_readerTold 41 = .ok (.aload_n 0, 1) := by decide +kernel
theorem dX8_readerTold_42 : decode cX8_readerTold 42 = .ok (.iconst 0, 1) := by decide +kernel
theorem dX8_readerTold_43 : decode cX8_readerTold 43 = .ok (.iconst 0, 1) := by decide +kernel
theorem dX8_readerTold_44 : decode cX8_readerTold 44 = .ok (.invokevirtual 216, 3) := by decide +kernel
theorem dX8_readerTold_47 : decode cX8_readerTold 47 = .ok (.goto 25, 3) := by decide +kernel
theorem dX8_readerTold_50 : decode cX8_readerTold 50 = .ok (.aload_n 0, 1) := by decide +kernel
theorem dX8_readerTold_51 : decode cX8_readerTold 51 = .ok (.iconst 0, 1) := by decide +kernel
theorem dX8_readerTold_52 : decode cX8_readerTold 52 = .ok (.invokevirtual 258, 3) := by decide +kernel
theorem dX8_readerTold_55 : decode cX8_readerTold 55 = .ok (.ifCond .eq 12, 3) := by decide +kernel
theorem dX8_readerTold_58 : decode cX8_readerTold 58 = .ok (.aload_n 0, 1) := by decide +kernel
theorem dX8_readerTold_59 : decode cX8_readerTold 59 = .ok (.iconst 3, 1) := by decide +kernel
theorem dX8_readerTold_60 : decode cX8_readerTold 60 = .ok (.iconst 0, 1) := by decide +kernel
theorem dX8_readerTold_61 : decode cX8_readerTold 61 = .ok (.invokevirtual 225, 3) := by decide +kernel
theorem dX8_readerTold_64 : decode cX8_readerTold 64 = .ok (.goto 8, 3) := by decide +kernel
theorem dX8_readerTold_67 : decode cX8_readerTold 67 = .ok (.aload_n 0, 1) := by decide +kernel
theorem dX8_readerTold_68 : decode cX8_readerTold 68 = .ok (.iconst 0, 1) := by decide +kernel
theorem dX8_readerTold_69 : decode cX8_readerTold 69 = .ok (.invokevirtual 261, 3) := by decide +kernel
theorem dX8_readerTold_72 : decode cX8_readerTold 72 = .ok (.return_, 1) := by decide +kernel
set_option maxRecDepth 100000 in
set_option maxHeartbeats 4000000 in
theorem c_X8_readerTold_p {hp : List gA} {M : gMd} {l : Nat} {E : List (Int32 × List Int32)}  (HM : gMod hp M) (ok : oX8_readerTold M l E)  : gM yX8_readerTold cX8_readerTold 1 (none) 7 165 [.ref 122] (hp) (0) (0) (fun v h => v = none ∧ ∃ M' E', gMod h M' ∧ gFM hp h ∧ gDo 0 (pX8_readerTold M) l E M' E') := by
  refine gM_of (ls0 := [some (.ref 122)]) (by decide +kernel) (Nat.le_of_ble_eq_true rfl) rfl fun X C E9 => ?_
  obtain ⟨P, ep⟩ : ∃ P, P = pX8_readerTold M := ⟨_, rfl⟩
  rw [← ep] at E9
  unfold pX8_readerTold at ep
  unfold oX8_readerTold at ok
  refine g_aload_n (q := 1) C dX8_readerTold_0 rfl rfl ?_
  refine g_getfield (v := .ref 127) (q := 4) C fX8_22 dX8_readerTold_1 rfl HM.1 rfl ?_
  refine g_sipush (v := 421) (q := 7) C dX8_readerTold_4 (by decide) rfl ?_
  refine g_ialoadN (x := (M.a 4 421)) (j := 421) (q := 8) C dX8_readerTold_7 rfl (HM.ar (i := 4) (n := 772) (by decide) rfl) (pk_in 421 772 (by decide)) (pk_cl 421) rfl ?_
  refine g_iconst (v := 1) (q := 9) C dX8_readerTold_8 (by decide) rfl ?_
  refine g_icmp_ne (t := 32) (q := 12) C dX8_readerTold_9 (by decide) rfl (fun c_9 => ?_) (fun c_9 => ?_)
  ·
    rw [if_neg c_9] at ok ep
    refine g_aload_n (q := 33) C dX8_readerTold_32 rfl rfl ?_
    refine g_getfield (v := .ref 127) (q := 36) C fX8_22 dX8_readerTold_33 rfl HM.1 rfl ?_
    refine g_iconst (v := 5) (q := 37) C dX8_readerTold_36 (by decide) rfl ?_
    refine g_ialoadN (x := (M.a 4 5)) (j := 5) (q := 38) C dX8_readerTold_37 rfl (HM.ar (i := 4) (n := 772) (by decide) rfl) (pk_in 5 772 (by decide)) (pk_cl 5) rfl ?_
    refine g_if_ge (t := 50) (q := 41) C dX8_readerTold_38 (by decide) rfl (fun c_38 => ?_) (fun c_38 => ?_)
    ·
      rw [if_pos c_38] at ok ep
      refine g_aload_n (q := 51) C dX8_readerTold_50 rfl rfl ?_
      refine g_iconst (v := 0) (q := 52) C dX8_readerTold_51 (by decide) rfl ?_
      refine g_callVi (x := (rX8_wantsAgain_0 M)) (q := 55) (As := [.int 0]) C gyX8_wantsAgain gvX8_wantsAgain t_1404 (c_X8_wantsAgain_0_m HM) dX8_readerTold_52 rfl HM.1 rfl rfl rfl (Nat.le_of_ble_eq_true rfl) (Nat.le_of_ble_eq_true rfl) (Nat.le_of_ble_eq_true rfl) (Nat.le_of_ble_eq_true rfl) (Nat.le_of_ble_eq_true rfl) rfl ?_
      refine g_if_eq (t := 67) (q := 58) C dX8_readerTold_55 (by decide) rfl (fun c_55 => ?_) (fun c_55 => ?_)
      ·
        rw [if_pos c_55] at ok ep
        refine g_aload_n (q := 68) C dX8_readerTold_67 rfl rfl ?_
        refine g_iconst (v := 0) (q := 69) C dX8_readerTold_68 (by decide) rfl ?_
        refine g_callVvp (q := 72) (As := [.int 0]) C gyX8_goesOn gvX8_goesOn t_1408 (c_X8_goesOn_0_p HM ok) dX8_readerTold_69 rfl HM.1 rfl rfl rfl (Nat.le_of_ble_eq_true rfl) (Nat.le_of_ble_eq_true rfl) (Nat.le_of_ble_eq_true rfl) (Nat.le_of_ble_eq_true rfl) (Nat.le_of_ble_eq_true rfl) rfl (fun h1 z1 => ?_)
        obtain ⟨M', E', HM', frs, dd⟩ := z1
        exact E9.2.1 _ _ _ _ _ dX8_readerTold_72 rfl (Nat.le_of_ble_eq_true rfl) (Nat.le_of_ble_eq_true rfl) ⟨rfl, _, _, HM', frs, by rw [ep]; exact dd⟩
      ·
        rw [if_neg c_55] at ok ep
        refine g_aload_n (q := 59) C dX8_readerTold_58 rfl rfl ?_
        refine g_iconst (v := 3) (q := 60) C dX8_readerTold_59 (by decide) rfl ?_
        refine g_iconst (v := 0) (q := 61) C dX8_readerTold_60 (by decide) rfl ?_
        refine g_callVvp (q := 64) (As := [.int 3, .int 0]) C gyX8_tries gvX8_tries t_1356 (c_X8_tries_m HM) dX8_readerTold_61 rfl HM.1 rfl rfl rfl (Nat.le_of_ble_eq_true rfl) (Nat.le_of_ble_eq_true rfl) (Nat.le_of_ble_eq_true rfl) (Nat.le_of_ble_eq_true rfl) (Nat.le_of_ble_eq_true rfl) rfl (fun h2 z2 => ?_)
        obtain ⟨HL2, fr2⟩ := z2
        refine g_goto (q := 72) C dX8_readerTold_64 (by decide) ?_
        exact E9.2.1 _ _ _ _ _ dX8_readerTold_72 rfl (Nat.le_of_ble_eq_true rfl) (Nat.le_of_ble_eq_true rfl) ⟨rfl, _, E, HL2, fr2, by rw [ep]; exact ⟨rfl, rfl⟩⟩
    ·
      rw [if_neg c_38] at ok ep
      refine g_aload_n (q := 42) C dX8_readerTold_41 rfl rfl ?_
      refine g_iconst (v := 0) (q := 43) C dX8_readerTold_42 (by decide) rfl ?_
      refine g_iconst (v := 0) (q := 44) C dX8_readerTold_43 (by decide) rfl ?_
      refine g_callVvp (q := 47) (As := [.int 0, .int 0]) C gyX8_sendsR gvX8_sendsR t_1392 (c_X8_sendsR_0_p HM ok) dX8_readerTold_44 rfl HM.1 rfl rfl rfl (Nat.le_of_ble_eq_true rfl) (Nat.le_of_ble_eq_true rfl) (Nat.le_of_ble_eq_true rfl) (Nat.le_of_ble_eq_true rfl) (Nat.le_of_ble_eq_true rfl) rfl (fun h3 z3 => ?_)
      obtain ⟨M', E', HM', frs, dd⟩ := z3
      refine g_goto (q := 72) C dX8_readerTold_47 (by decide) ?_
      exact E9.2.1 _ _ _ _ _ dX8_readerTold_72 rfl (Nat.le_of_ble_eq_true rfl) (Nat.le_of_ble_eq_true rfl) ⟨rfl, _, _, HM', frs, by rw [ep]; exact dd⟩
  ·
    rw [if_pos c_9] at ok ep
    refine g_aload_n (q := 13) C dX8_readerTold_12 rfl rfl ?_
    refine g_getfield (v := .ref 127) (q := 16) C fX8_22 dX8_readerTold_13 rfl HM.1 rfl ?_
    refine g_bipush (v := 8) (q := 18) C dX8_readerTold_16 (by decide) rfl ?_
    refine g_iconst (v := 0) (q := 19) C dX8_readerTold_18 (by decide) rfl ?_
    refine g_iastoreN (j := 8) (q := 20) C dX8_readerTold_19 rfl (HM.ar (i := 4) (n := 772) (by decide) rfl) (pk_in 8 772 (by decide)) (pk_cl 8) ?_
    refine gMsto (i := 4) (j := 8) (x := 0) HM (by decide) rfl rfl fun h4 HL4 fr4 => ?_
    refine g_aload_n (q := 21) C dX8_readerTold_20 rfl rfl ?_
    refine g_iconst (v := 0) (q := 22) C dX8_readerTold_21 (by decide) rfl ?_
    obtain ⟨hn8, ok⟩ := ok
    refine g_callVvp (q := 25) (As := [.int 0]) C gyX8_messageCame gvX8_messageCame t_1396 (c_X8_messageCame_0_m HL4 hn8) dX8_readerTold_22 rfl HL4.1 rfl rfl rfl (Nat.le_of_ble_eq_true rfl) (Nat.le_of_ble_eq_true rfl) (Nat.le_of_ble_eq_true rfl) (Nat.le_of_ble_eq_true rfl) (Nat.le_of_ble_eq_true rfl) rfl (fun h5 z5 => ?_)
    obtain ⟨HL5, fr5⟩ := z5
    refine g_aload_n (q := 26) C dX8_readerTold_25 rfl rfl ?_
    refine g_callVvp (q := 29) (As := []) C gyX8_done gvX8_done t_1368 (c_X8_done_m HL5) dX8_readerTold_26 rfl HL5.1 rfl rfl rfl (Nat.le_of_ble_eq_true rfl) (Nat.le_of_ble_eq_true rfl) (Nat.le_of_ble_eq_true rfl) (Nat.le_of_ble_eq_true rfl) (Nat.le_of_ble_eq_true rfl) rfl (fun h6 z6 => ?_)
    obtain ⟨HL6, fr6⟩ := z6
    refine g_goto (q := 72) C dX8_readerTold_29 (by decide) ?_
    exact E9.2.1 _ _ _ _ _ dX8_readerTold_72 rfl (Nat.le_of_ble_eq_true rfl) (Nat.le_of_ble_eq_true rfl) ⟨rfl, _, E, HL6, (gFM.trans (gFM.trans fr4 fr5) fr6), by rw [ep]; exact ⟨rfl, rfl⟩⟩
def pX8_triesOn (M : gMd) : gMd × Option (Int32 × Int32) := (if ((M.a 4 422) + 1) = 3 then (if (M.a 4 9) = 0 then ((((M.put 4 422 ((M.a 4 422) + 1)).put 4 419 4).put 4 422 0), none) else (pX8_asks_0 ((M.put 4 422 ((M.a 4 422) + 1)).put 4 422 0) 0 0)) else (if (M.f 34) = 1 then (pX8_sendsAsked_0 (M.put 4 422 ((M.a 4 422) + 1))) else (if (M.f 34) = 2 then (pX8_sendsR_0 (M.put 4 422 ((M.a 4 422) + 1)) (M.f 35)) else (pX8_sendsPending_0 (M.put 4 422 ((M.a 4 422) + 1))))))
def oX8_triesOn (M : gMd) (l : Nat) (E : List (Int32 × List Int32)) : Prop := (if ((M.a 4 422) + 1) = 3 then (if (M.a 4 9) = 0 then True else oX8_asks_0 ((M.put 4 422 ((M.a 4 422) + 1)).put 4 422 0) 0 0 l E) else (if (M.f 34) = 1 then oX8_sendsAsked_0 (M.put 4 422 ((M.a 4 422) + 1)) l E else (if (M.f 34) = 2 then oX8_sendsR_0 (M.put 4 422 ((M.a 4 422) + 1)) (M.f 35) l E else oX8_sendsPending_0 (M.put 4 422 ((M.a 4 422) + 1)) l E)))
theorem dX8_triesOn_0 : decode cX8_triesOn 0 = .ok (.aload_n 0, 1) := by decide +kernel
theorem dX8_triesOn_1 : decode cX8_triesOn 1 = .ok (.getfield 22, 3) := by decide +kernel
theorem dX8_triesOn_4 : decode cX8_triesOn 4 = .ok (.sipush 422, 3) := by decide +kernel
theorem dX8_triesOn_7 : decode cX8_triesOn 7 = .ok (.dup2, 1) := by decide +kernel
theorem dX8_triesOn_8 : decode cX8_triesOn 8 = .ok (.iaload, 1) := by decide +kernel
theorem dX8_triesOn_9 : decode cX8_triesOn 9 = .ok (.iconst 1, 1) := by decide +kernel
theorem dX8_triesOn_10 : decode cX8_triesOn 10 = .ok (.iadd, 1) := by decide +kernel
theorem dX8_triesOn_11 : decode cX8_triesOn 11 = .ok (.iastore, 1) := by decide +kernel
theorem dX8_triesOn_12 : decode cX8_triesOn 12 = .ok (.aload_n 0, 1) := by decide +kernel
theorem dX8_triesOn_13 : decode cX8_triesOn 13 = .ok (.getfield 22, 3) := by decide +kernel
theorem dX8_triesOn_16 : decode cX8_triesOn 16 = .ok (.sipush 422, 3) := by decide +kernel
theorem dX8_triesOn_19 : decode cX8_triesOn 19 = .ok (.iaload, 1) := by decide +kernel
theorem dX8_triesOn_20 : decode cX8_triesOn 20 = .ok (.iconst 3, 1) := by decide +kernel
theorem dX8_triesOn_21 : decode cX8_triesOn 21 = .ok (.if_icmp .ne 49, 3) := by decide +kernel
theorem dX8_triesOn_24 : decode cX8_triesOn 24 = .ok (.aload_n 0, 1) := by decide +kernel
theorem dX8_triesOn_25 : decode cX8_triesOn 25 = .ok (.getfield 22, 3) := by decide +kernel
theorem dX8_triesOn_28 : decode cX8_triesOn 28 = .ok (.bipush 9, 2) := by decide +kernel
theorem dX8_triesOn_30 : decode cX8_triesOn 30 = .ok (.iaload, 1) := by decide +kernel
theorem dX8_triesOn_31 : decode cX8_triesOn 31 = .ok (.ifCond .ne 22, 3) := by decide +kernel
theorem dX8_triesOn_34 : decode cX8_triesOn 34 = .ok (.aload_n 0, 1) := by decide +kernel
theorem dX8_triesOn_35 : decode cX8_triesOn 35 = .ok (.getfield 22, 3) := by decide +kernel
theorem dX8_triesOn_38 : decode cX8_triesOn 38 = .ok (.sipush 419, 3) := by decide +kernel
theorem dX8_triesOn_41 : decode cX8_triesOn 41 = .ok (.iconst 4, 1) := by decide +kernel
theorem dX8_triesOn_42 : decode cX8_triesOn 42 = .ok (.iastore, 1) := by decide +kernel
theorem dX8_triesOn_43 : decode cX8_triesOn 43 = .ok (.aload_n 0, 1) := by decide +kernel
theorem dX8_triesOn_44 : decode cX8_triesOn 44 = .ok (.getfield 22, 3) := by decide +kernel
theorem dX8_triesOn_47 : decode cX8_triesOn 47 = .ok (.sipush 422, 3) := by decide +kernel
theorem dX8_triesOn_50 : decode cX8_triesOn 50 = .ok (.iconst 0, 1) := by decide +kernel
theorem dX8_triesOn_51 : decode cX8_triesOn 51 = .ok (.iastore, 1) := by decide +kernel
theorem dX8_triesOn_52 : decode cX8_triesOn 52 = .ok (.return_, 1) := by decide +kernel
theorem dX8_triesOn_53 : decode cX8_triesOn 53 = .ok (.aload_n 0, 1) := by decide +kernel
theorem dX8_triesOn_54 : decode cX8_triesOn 54 = .ok (.getfield 22, 3) := by decide +kernel
theorem dX8_triesOn_57 : decode cX8_triesOn 57 = .ok (.sipush 422, 3) := by decide +kernel
theorem dX8_triesOn_60 : decode cX8_triesOn 60 = .ok (.iconst 0, 1) := by decide +kernel
theorem dX8_triesOn_61 : decode cX8_triesOn 61 = .ok (.iastore, 1) := by decide +kernel
theorem dX8_triesOn_62 : decode cX8_triesOn 62 = .ok (.aload_n 0, 1) := by decide +kernel
theorem dX8_triesOn_63 : decode cX8_triesOn 63 = .ok (.iconst 0, 1) := by decide +kernel
theorem dX8_triesOn_64 : decode cX8_triesOn 64 = .ok (.iconst 0, 1) := by decide +kernel
theorem dX8_triesOn_65 : decode cX8_triesOn 65 = .ok (.iconst 0, 1) := by decide +kernel
theorem dX8_triesOn_66 : decode cX8_triesOn 66 = .ok (.invokevirtual 267, 3) := by decide +kernel
theorem dX8_triesOn_69 : decode cX8_triesOn 69 = .ok (.return_, 1) := by decide +kernel
theorem dX8_triesOn_70 : decode cX8_triesOn 70 = .ok (.aload_n 0, 1) := by decide +kernel
theorem dX8_triesOn_71 : decode cX8_triesOn 71 = .ok (.getfield 219, 3) := by decide +kernel
theorem dX8_triesOn_74 : decode cX8_triesOn 74 = .ok (.iconst 1, 1) := by decide +kernel
theorem dX8_triesOn_75 : decode cX8_triesOn 75 = .ok (.if_icmp .ne 11, 3) := by decide +kernel
theorem dX8_triesOn_78 : decode cX8_triesOn 78 = .ok (.aload_n 0, 1) := by decide +kernel
theorem dX8_triesOn_79 : decode cX8_triesOn 79 = .ok (.iconst 0, 1) := by decide +kernel
theorem dX8_triesOn_80 : decode cX8_triesOn 80 = .ok (.invokevirtual 201, 3) := by decide +kernel
theorem dX8_triesOn_83 : decode cX8_triesOn 83 = .ok (.goto 28, 3) := by decide +kernel
theorem dX8_triesOn_86 : decode cX8_triesOn 86 = .ok (.aload_n 0, 1) := by decide +kernel
theorem dX8_triesOn_87 : decode cX8_triesOn 87 = .ok (.getfield 219, 3) := by decide +kernel
theorem dX8_triesOn_90 : decode cX8_triesOn 90 = .ok (.iconst 2, 1) := by decide +kernel
theorem dX8_triesOn_91 : decode cX8_triesOn 91 = .ok (.if_icmp .ne 15, 3) := by decide +kernel
theorem dX8_triesOn_94 : decode cX8_triesOn 94 = .ok (.aload_n 0, 1) := by decide +kernel
theorem dX8_triesOn_95 : decode cX8_triesOn 95 = .ok (.iconst 0, 1) := by decide +kernel
theorem dX8_triesOn_96 : decode cX8_triesOn 96 = .ok (.aload_n 0, 1) := by decide +kernel
theorem dX8_triesOn_97 : decode cX8_triesOn 97 = .ok (.getfield 222, 3) := by decide +kernel
theorem dX8_triesOn_100 : decode cX8_triesOn 100 = .ok (.invokevirtual 216, 3) := by decide +kernel
theorem dX8_triesOn_103 : decode cX8_triesOn 103 = .ok (.goto 8, 3) := by decide +kernel
theorem dX8_triesOn_106 : decode cX8_triesOn 106 = .ok (.aload_n 0, 1) := by decide +kernel
theorem dX8_triesOn_107 : decode cX8_triesOn 107 = .ok (.iconst 0, 1) := by decide +kernel
theorem dX8_triesOn_108 : decode cX8_triesOn 108 = .ok (.invokevirtual 204, 3) := by decide +kernel
theorem dX8_triesOn_111 : decode cX8_triesOn 111 = .ok (.return_, 1) := by decide +kernel
set_option maxRecDepth 100000 in
set_option maxHeartbeats 4000000 in
theorem c_X8_triesOn_p {hp : List gA} {M : gMd} {l : Nat} {E : List (Int32 × List Int32)}  (HM : gMod hp M) (ok : oX8_triesOn M l E)  : gM yX8_triesOn cX8_triesOn 1 (none) 6 140 [.ref 122] (hp) (0) (0) (fun v h => v = none ∧ ∃ M' E', gMod h M' ∧ gFM hp h ∧ gDo 0 (pX8_triesOn M) l E M' E') := by
  refine gM_of (ls0 := [some (.ref 122)]) (by decide +kernel) (Nat.le_of_ble_eq_true rfl) rfl fun X C E9 => ?_
  obtain ⟨P, ep⟩ : ∃ P, P = pX8_triesOn M := ⟨_, rfl⟩
  rw [← ep] at E9
  unfold pX8_triesOn at ep
  unfold oX8_triesOn at ok
  refine g_aload_n (q := 1) C dX8_triesOn_0 rfl rfl ?_
  refine g_getfield (v := .ref 127) (q := 4) C fX8_22 dX8_triesOn_1 rfl HM.1 rfl ?_
  refine g_sipush (v := 422) (q := 7) C dX8_triesOn_4 (by decide) rfl ?_
  refine g_dup2 (q := 8) C dX8_triesOn_7 rfl rfl rfl ?_
  refine g_ialoadN (x := (M.a 4 422)) (j := 422) (q := 9) C dX8_triesOn_8 rfl (HM.ar (i := 4) (n := 772) (by decide) rfl) (pk_in 422 772 (by decide)) (pk_cl 422) rfl ?_
  refine g_iconst (v := 1) (q := 10) C dX8_triesOn_9 (by decide) rfl ?_
  refine g_iadd (q := 11) C dX8_triesOn_10 rfl ?_
  refine g_iastoreN (j := 422) (q := 12) C dX8_triesOn_11 rfl (HM.ar (i := 4) (n := 772) (by decide) rfl) (pk_in 422 772 (by decide)) (pk_cl 422) ?_
  refine gMsto (i := 4) (j := 422) (x := ((M.a 4 422) + 1)) HM (by decide) rfl rfl fun h1 HL1 fr1 => ?_
  refine g_aload_n (q := 13) C dX8_triesOn_12 rfl rfl ?_
  refine g_getfield (v := .ref 127) (q := 16) C fX8_22 dX8_triesOn_13 rfl HL1.1 rfl ?_
  refine g_sipush (v := 422) (q := 19) C dX8_triesOn_16 (by decide) rfl ?_
  refine g_ialoadN (x := ((M.a 4 422) + 1)) (j := 422) (q := 20) C dX8_triesOn_19 rfl (HL1.ar (i := 4) (n := 772) (by decide) rfl) (pk_in 422 772 (by decide)) (pk_cl 422) gput_s ?_
  refine g_iconst (v := 3) (q := 21) C dX8_triesOn_20 (by decide) rfl ?_
  refine g_icmp_ne (t := 70) (q := 24) C dX8_triesOn_21 (by decide) rfl (fun c_21 => ?_) (fun c_21 => ?_)
  ·
    rw [if_neg c_21] at ok ep
    refine g_aload_n (q := 71) C dX8_triesOn_70 rfl rfl ?_
    refine g_getfield (v := .int ((M.f 34))) (q := 74) C fX8_219 dX8_triesOn_71 rfl HL1.1 rfl ?_
    refine g_iconst (v := 1) (q := 75) C dX8_triesOn_74 (by decide) rfl ?_
    refine g_icmp_ne (t := 86) (q := 78) C dX8_triesOn_75 (by decide) rfl (fun c_75 => ?_) (fun c_75 => ?_)
    ·
      rw [if_neg c_75] at ok ep
      refine g_aload_n (q := 87) C dX8_triesOn_86 rfl rfl ?_
      refine g_getfield (v := .int ((M.f 34))) (q := 90) C fX8_219 dX8_triesOn_87 rfl HL1.1 rfl ?_
      refine g_iconst (v := 2) (q := 91) C dX8_triesOn_90 (by decide) rfl ?_
      refine g_icmp_ne (t := 106) (q := 94) C dX8_triesOn_91 (by decide) rfl (fun c_91 => ?_) (fun c_91 => ?_)
      ·
        rw [if_neg c_91] at ok ep
        refine g_aload_n (q := 107) C dX8_triesOn_106 rfl rfl ?_
        refine g_iconst (v := 0) (q := 108) C dX8_triesOn_107 (by decide) rfl ?_
        refine g_callVvp (q := 111) (As := [.int 0]) C gyX8_sendsPending gvX8_sendsPending t_1308 (c_X8_sendsPending_0_p HL1 ok) dX8_triesOn_108 rfl HL1.1 rfl rfl rfl (Nat.le_of_ble_eq_true rfl) (Nat.le_of_ble_eq_true rfl) (Nat.le_of_ble_eq_true rfl) (Nat.le_of_ble_eq_true rfl) (Nat.le_of_ble_eq_true rfl) rfl (fun h2 z2 => ?_)
        obtain ⟨M', E', HM', frs, dd⟩ := z2
        exact E9.2.1 _ _ _ _ _ dX8_triesOn_111 rfl (Nat.le_of_ble_eq_true rfl) (Nat.le_of_ble_eq_true rfl) ⟨rfl, _, _, HM', (gFM.trans fr1 frs), by rw [ep]; exact dd⟩
      ·
        rw [if_pos c_91] at ok ep
        refine g_aload_n (q := 95) C dX8_triesOn_94 rfl rfl ?_
        refine g_iconst (v := 0) (q := 96) C dX8_triesOn_95 (by decide) rfl ?_
        refine g_aload_n (q := 97) C dX8_triesOn_96 rfl rfl ?_
        refine g_getfield (v := .int ((M.f 35))) (q := 100) C fX8_222 dX8_triesOn_97 rfl HL1.1 rfl ?_
        refine g_callVvp (q := 103) (As := [.int 0, .int ((M.f 35))]) C gyX8_sendsR gvX8_sendsR t_1392 (c_X8_sendsR_0_p HL1 ok) dX8_triesOn_100 rfl HL1.1 rfl rfl rfl (Nat.le_of_ble_eq_true rfl) (Nat.le_of_ble_eq_true rfl) (Nat.le_of_ble_eq_true rfl) (Nat.le_of_ble_eq_true rfl) (Nat.le_of_ble_eq_true rfl) rfl (fun h3 z3 => ?_)
        obtain ⟨M', E', HM', frs, dd⟩ := z3
        refine g_goto (q := 111) C dX8_triesOn_103 (by decide) ?_
        exact E9.2.1 _ _ _ _ _ dX8_triesOn_111 rfl (Nat.le_of_ble_eq_true rfl) (Nat.le_of_ble_eq_true rfl) ⟨rfl, _, _, HM', (gFM.trans fr1 frs), by rw [ep]; exact dd⟩
    ·
      rw [if_pos c_75] at ok ep
      refine g_aload_n (q := 79) C dX8_triesOn_78 rfl rfl ?_
      refine g_iconst (v := 0) (q := 80) C dX8_triesOn_79 (by decide) rfl ?_
      refine g_callVvp (q := 83) (As := [.int 0]) C gyX8_sendsAsked gvX8_sendsAsked t_1344 (c_X8_sendsAsked_0_p HL1 ok) dX8_triesOn_80 rfl HL1.1 rfl rfl rfl (Nat.le_of_ble_eq_true rfl) (Nat.le_of_ble_eq_true rfl) (Nat.le_of_ble_eq_true rfl) (Nat.le_of_ble_eq_true rfl) (Nat.le_of_ble_eq_true rfl) rfl (fun h4 z4 => ?_)
      obtain ⟨M', E', HM', frs, dd⟩ := z4
      refine g_goto (q := 111) C dX8_triesOn_83 (by decide) ?_
      exact E9.2.1 _ _ _ _ _ dX8_triesOn_111 rfl (Nat.le_of_ble_eq_true rfl) (Nat.le_of_ble_eq_true rfl) ⟨rfl, _, _, HM', (gFM.trans fr1 frs), by rw [ep]; exact dd⟩
  ·
    rw [if_pos c_21] at ok ep
    refine g_aload_n (q := 25) C dX8_triesOn_24 rfl rfl ?_
    refine g_getfield (v := .ref 127) (q := 28) C fX8_22 dX8_triesOn_25 rfl HL1.1 rfl ?_
    refine g_bipush (v := 9) (q := 30) C dX8_triesOn_28 (by decide) rfl ?_
    refine g_ialoadN (x := (M.a 4 9)) (j := 9) (q := 31) C dX8_triesOn_30 rfl (HL1.ar (i := 4) (n := 772) (by decide) rfl) (pk_in 9 772 (by decide)) (pk_cl 9) (gput_n (by decide)) ?_
    refine g_if_ne (t := 53) (q := 34) C dX8_triesOn_31 (by decide) rfl (fun c_31 => ?_) (fun c_31 => ?_)
    ·
      rw [if_neg c_31] at ok ep
      refine g_aload_n (q := 54) C dX8_triesOn_53 rfl rfl ?_
      refine g_getfield (v := .ref 127) (q := 57) C fX8_22 dX8_triesOn_54 rfl HL1.1 rfl ?_
      refine g_sipush (v := 422) (q := 60) C dX8_triesOn_57 (by decide) rfl ?_
      refine g_iconst (v := 0) (q := 61) C dX8_triesOn_60 (by decide) rfl ?_
      refine g_iastoreN (j := 422) (q := 62) C dX8_triesOn_61 rfl (HL1.ar (i := 4) (n := 772) (by decide) rfl) (pk_in 422 772 (by decide)) (pk_cl 422) ?_
      refine gMsto (i := 4) (j := 422) (x := 0) HL1 (by decide) rfl rfl fun h5 HL5 fr5 => ?_
      refine g_aload_n (q := 63) C dX8_triesOn_62 rfl rfl ?_
      refine g_iconst (v := 0) (q := 64) C dX8_triesOn_63 (by decide) rfl ?_
      refine g_iconst (v := 0) (q := 65) C dX8_triesOn_64 (by decide) rfl ?_
      refine g_iconst (v := 0) (q := 66) C dX8_triesOn_65 (by decide) rfl ?_
      refine g_callVvp (q := 69) (As := [.int 0, .int 0, .int 0]) C gyX8_asks gvX8_asks t_1340 (c_X8_asks_0_p HL5 ok) dX8_triesOn_66 rfl HL5.1 rfl rfl rfl (Nat.le_of_ble_eq_true rfl) (Nat.le_of_ble_eq_true rfl) (Nat.le_of_ble_eq_true rfl) (Nat.le_of_ble_eq_true rfl) (Nat.le_of_ble_eq_true rfl) rfl (fun h6 z6 => ?_)
      obtain ⟨M', E', HM', frs, dd⟩ := z6
      exact E9.2.1 _ _ _ _ _ dX8_triesOn_69 rfl (Nat.le_of_ble_eq_true rfl) (Nat.le_of_ble_eq_true rfl) ⟨rfl, _, _, HM', (gFM.trans (gFM.trans fr1 fr5) frs), by rw [ep]; exact dd⟩
    ·
      rw [if_pos c_31] at ok ep
      refine g_aload_n (q := 35) C dX8_triesOn_34 rfl rfl ?_
      refine g_getfield (v := .ref 127) (q := 38) C fX8_22 dX8_triesOn_35 rfl HL1.1 rfl ?_
      refine g_sipush (v := 419) (q := 41) C dX8_triesOn_38 (by decide) rfl ?_
      refine g_iconst (v := 4) (q := 42) C dX8_triesOn_41 (by decide) rfl ?_
      refine g_iastoreN (j := 419) (q := 43) C dX8_triesOn_42 rfl (HL1.ar (i := 4) (n := 772) (by decide) rfl) (pk_in 419 772 (by decide)) (pk_cl 419) ?_
      refine gMsto (i := 4) (j := 419) (x := 4) HL1 (by decide) rfl rfl fun h7 HL7 fr7 => ?_
      refine g_aload_n (q := 44) C dX8_triesOn_43 rfl rfl ?_
      refine g_getfield (v := .ref 127) (q := 47) C fX8_22 dX8_triesOn_44 rfl HL7.1 rfl ?_
      refine g_sipush (v := 422) (q := 50) C dX8_triesOn_47 (by decide) rfl ?_
      refine g_iconst (v := 0) (q := 51) C dX8_triesOn_50 (by decide) rfl ?_
      refine g_iastoreN (j := 422) (q := 52) C dX8_triesOn_51 rfl (HL7.ar (i := 4) (n := 772) (by decide) rfl) (pk_in 422 772 (by decide)) (pk_cl 422) ?_
      refine gMsto (i := 4) (j := 422) (x := 0) HL7 (by decide) rfl rfl fun h8 HL8 fr8 => ?_
      exact E9.2.1 _ _ _ _ _ dX8_triesOn_52 rfl (Nat.le_of_ble_eq_true rfl) (Nat.le_of_ble_eq_true rfl) ⟨rfl, _, E, HL8, (gFM.trans (gFM.trans fr1 fr7) fr8), by rw [ep]; exact ⟨rfl, rfl⟩⟩
