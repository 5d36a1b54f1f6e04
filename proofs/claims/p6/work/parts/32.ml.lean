/-! the reference: plans, further (by program: wip/p2/m_ml.py) -/
def pX8_sendsPending_0 (M : gMd) : gMd × Option (Int32 × Int32) := ((M.arr 14 (gCpy (M.a 14) 0 (M.a 4) (32 + (M.a 4 4).toNatClampNeg) ((M.a 4 7).toNatClampNeg))), some (((64 * ((M.arr 14 (gCpy (M.a 14) 0 (M.a 4) (32 + (M.a 4 4).toNatClampNeg) ((M.a 4 7).toNatClampNeg))).a 4 5)) + (if ((M.arr 14 (gCpy (M.a 14) 0 (M.a 4) (32 + (M.a 4 4).toNatClampNeg) ((M.a 4 7).toNatClampNeg))).a 4 6) = 1 then 32 else 0 : Int32)), ((M.arr 14 (gCpy (M.a 14) 0 (M.a 4) (32 + (M.a 4 4).toNatClampNeg) ((M.a 4 7).toNatClampNeg))).a 4 7)))
def oX8_sendsPending_0 (M : gMd) (l : Nat) (E : List (Int32 × List Int32)) : Prop := (gIr (M.a 4 7) 60 ∧ (gIr (M.a 4 4) 60 ∧ gSk (M.arr 14 (gCpy (M.a 14) 0 (M.a 4) (32 + (M.a 4 4).toNatClampNeg) ((M.a 4 7).toNatClampNeg))) ((64 * ((M.arr 14 (gCpy (M.a 14) 0 (M.a 4) (32 + (M.a 4 4).toNatClampNeg) ((M.a 4 7).toNatClampNeg))).a 4 5)) + (if ((M.arr 14 (gCpy (M.a 14) 0 (M.a 4) (32 + (M.a 4 4).toNatClampNeg) ((M.a 4 7).toNatClampNeg))).a 4 6) = 1 then 32 else 0 : Int32)) ((M.arr 14 (gCpy (M.a 14) 0 (M.a 4) (32 + (M.a 4 4).toNatClampNeg) ((M.a 4 7).toNatClampNeg))).a 4 7) l E))
theorem dX8_sendsPending_0 : decode cX8_sendsPending 0 = .ok (.bipush 16, 2) := by decide +kernel
theorem dX8_sendsPending_2 : decode cX8_sendsPending 2 = .ok (.iload_n 1, 1) := by decide +kernel
theorem dX8_sendsPending_3 : decode cX8_sendsPending 3 = .ok (.imul, 1) := by decide +kernel
theorem dX8_sendsPending_4 : decode cX8_sendsPending 4 = .ok (.istore_n 2, 1) := by decide +kernel
theorem dX8_sendsPending_5 : decode cX8_sendsPending 5 = .ok (.bipush 32, 2) := by decide +kernel
theorem dX8_sendsPending_7 : decode cX8_sendsPending 7 = .ok (.bipush 64, 2) := by decide +kernel
theorem dX8_sendsPending_9 : decode cX8_sendsPending 9 = .ok (.iload_n 1, 1) := by decide +kernel
theorem dX8_sendsPending_10 : decode cX8_sendsPending 10 = .ok (.imul, 1) := by decide +kernel
theorem dX8_sendsPending_11 : decode cX8_sendsPending 11 = .ok (.iadd, 1) := by decide +kernel
theorem dX8_sendsPending_12 : decode cX8_sendsPending 12 = .ok (.aload_n 0, 1) := by decide +kernel
theorem dX8_sendsPending_13 : decode cX8_sendsPending 13 = .ok (.getfield 22, 3) := by decide +kernel
theorem dX8_sendsPending_16 : decode cX8_sendsPending 16 = .ok (.iload_n 2, 1) := by decide +kernel
theorem dX8_sendsPending_17 : decode cX8_sendsPending 17 = .ok (.iconst 4, 1) := by decide +kernel
theorem dX8_sendsPending_18 : decode cX8_sendsPending 18 = .ok (.iadd, 1) := by decide +kernel
theorem dX8_sendsPending_19 : decode cX8_sendsPending 19 = .ok (.iaload, 1) := by decide +kernel
theorem dX8_sendsPending_20 : decode cX8_sendsPending 20 = .ok (.iadd, 1) := by decide +kernel
theorem dX8_sendsPending_21 : decode cX8_sendsPending 21 = .ok (.istore_n 3, 1) := by decide +kernel
theorem dX8_sendsPending_22 : decode cX8_sendsPending 22 = .ok (.iconst 0, 1) := by decide +kernel
theorem dX8_sendsPending_23 : decode cX8_sendsPending 23 = .ok (.istore 4, 2) := by decide +kernel
theorem dX8_sendsPending_25 : decode cX8_sendsPending 25 = .ok (.iload 4, 2) := by decide +kernel
theorem dX8_sendsPending_27 : decode cX8_sendsPending 27 = .ok (.aload_n 0, 1) := by decide +kernel
theorem dX8_sendsPending_28 : decode cX8_sendsPending 28 = .ok (.getfield 22, 3) := by decide +kernel
theorem dX8_sendsPending_31 : decode cX8_sendsPending 31 = .ok (.iload_n 2, 1) := by decide +kernel
theorem dX8_sendsPending_32 : decode cX8_sendsPending 32 = .ok (.bipush 7, 2) := by decide +kernel
theorem dX8_sendsPending_34 : decode cX8_sendsPending 34 = .ok (.iadd, 1) := by decide +kernel
theorem dX8_sendsPending_35 : decode cX8_sendsPending 35 = .ok (.iaload, 1) := by decide +kernel
theorem dX8_sendsPending_36 : decode cX8_sendsPending 36 = .ok (.if_icmp .ge 25, 3) := by decide +kernel
theorem dX8_sendsPending_39 : decode cX8_sendsPending 39 = .ok (.aload_n 0, 1) := by decide +kernel
theorem dX8_sendsPending_40 : decode cX8_sendsPending 40 = .ok (.getfield 57, 3) := by decide +kernel
theorem dX8_sendsPending_43 : decode cX8_sendsPending 43 = .ok (.iload 4, 2) := by decide +kernel
theorem dX8_sendsPending_45 : decode cX8_sendsPending 45 = .ok (.aload_n 0, 1) := by decide +kernel
theorem dX8_sendsPending_46 : decode cX8_sendsPending 46 = .ok (.getfield 22, 3) := by decide +kernel
theorem dX8_sendsPending_49 : decode cX8_sendsPending 49 = .ok (.iload_n 3, 1) := by decide +kernel
theorem dX8_sendsPending_50 : decode cX8_sendsPending 50 = .ok (.iload 4, 2) := by decide +kernel
theorem dX8_sendsPending_52 : decode cX8_sendsPending 52 = .ok (.iadd, 1) := by decide +kernel
theorem dX8_sendsPending_53 : decode cX8_sendsPending 53 = .ok (.iaload, 1) := by decide +kernel
theorem dX8_sendsPending_54 : decode cX8_sendsPending 54 = .ok (.iastore, 1) := by decide +kernel
theorem dX8_sendsPending_55 : decode cX8_sendsPending 55 = .ok (.iinc 4 1, 3) := by decide +kernel
theorem dX8_sendsPending_58 : decode cX8_sendsPending 58 = .ok (.goto (-33), 3) := by decide +kernel
theorem dX8_sendsPending_61 : decode cX8_sendsPending 61 = .ok (.aload_n 0, 1) := by decide +kernel
theorem dX8_sendsPending_62 : decode cX8_sendsPending 62 = .ok (.iload_n 1, 1) := by decide +kernel
theorem dX8_sendsPending_63 : decode cX8_sendsPending 63 = .ok (.bipush 64, 2) := by decide +kernel
theorem dX8_sendsPending_65 : decode cX8_sendsPending 65 = .ok (.aload_n 0, 1) := by decide +kernel
theorem dX8_sendsPending_66 : decode cX8_sendsPending 66 = .ok (.getfield 22, 3) := by decide +kernel
theorem dX8_sendsPending_69 : decode cX8_sendsPending 69 = .ok (.iload_n 2, 1) := by decide +kernel
theorem dX8_sendsPending_70 : decode cX8_sendsPending 70 = .ok (.iconst 5, 1) := by decide +kernel
theorem dX8_sendsPending_71 : decode cX8_sendsPending 71 = .ok (.iadd, 1) := by decide +kernel
theorem dX8_sendsPending_72 : decode cX8_sendsPending 72 = .ok (.iaload, 1) := by decide +kernel
theorem dX8_sendsPending_73 : decode cX8_sendsPending 73 = .ok (.imul, 1) := by decide +kernel
theorem dX8_sendsPending_74 : decode cX8_sendsPending 74 = .ok (.aload_n 0, 1) := by decide +kernel
theorem dX8_sendsPending_75 : decode cX8_sendsPending 75 = .ok (.getfield 22, 3) := by decide +kernel
theorem dX8_sendsPending_78 : decode cX8_sendsPending 78 = .ok (.iload_n 2, 1) := by decide +kernel
theorem dX8_sendsPending_79 : decode cX8_sendsPending 79 = .ok (.bipush 6, 2) := by decide +kernel
theorem dX8_sendsPending_81 : decode cX8_sendsPending 81 = .ok (.iadd, 1) := by decide +kernel
theorem dX8_sendsPending_82 : decode cX8_sendsPending 82 = .ok (.iaload, 1) := by decide +kernel
theorem dX8_sendsPending_83 : decode cX8_sendsPending 83 = .ok (.iconst 1, 1) := by decide +kernel
theorem dX8_sendsPending_84 : decode cX8_sendsPending 84 = .ok (.if_icmp .ne 8, 3) := by decide +kernel
theorem dX8_sendsPending_87 : decode cX8_sendsPending 87 = .ok (.bipush 32, 2) := by decide +kernel
theorem dX8_sendsPending_89 : decode cX8_sendsPending 89 = .ok (.goto 4, 3) := by decide +kernel
theorem dX8_sendsPending_92 : decode cX8_sendsPending 92 = .ok (.iconst 0, 1) := by decide +kernel
theorem dX8_sendsPending_93 : decode cX8_sendsPending 93 = .ok (.iadd, 1) := by decide +kernel
theorem dX8_sendsPending_94 : decode cX8_sendsPending 94 = .ok (.aload_n 0, 1) := by decide +kernel
theorem dX8_sendsPending_95 : decode cX8_sendsPending 95 = .ok (.getfield 22, 3) := by decide +kernel
theorem dX8_sendsPending_98 : decode cX8_sendsPending 98 = .ok (.iload_n 2, 1) := by decide +kernel
theorem dX8_sendsPending_99 : decode cX8_sendsPending 99 = .ok (.bipush 7, 2) := by decide +kernel
theorem dX8_sendsPending_101 : decode cX8_sendsPending 101 = .ok (.iadd, 1) := by decide +kernel
theorem dX8_sendsPending_102 : decode cX8_sendsPending 102 = .ok (.iaload, 1) := by decide +kernel
theorem dX8_sendsPending_103 : decode cX8_sendsPending 103 = .ok (.invokevirtual 198, 3) := by decide +kernel
theorem dX8_sendsPending_106 : decode cX8_sendsPending 106 = .ok (.return_, 1) := by decide +kernel
set_option maxRecDepth 100000 in
set_option maxHeartbeats 4000000 in
theorem c_X8_sendsPending_0_p {hp : List gA} {M : gMd} {l : Nat} {E : List (Int32 × List Int32)}  (HM : gMod hp M) (ok : oX8_sendsPending_0 M l E)  : gM yX8_sendsPending cX8_sendsPending 5 (none) 4 95 [.ref 122, .int 0] (hp) (0) (0) (fun v h => v = none ∧ ∃ M' E', gMod h M' ∧ gFM hp h ∧ gDo 0 (pX8_sendsPending_0 M) l E M' E') := by
  refine gM_of (ls0 := [some (.ref 122), some (.int 0), none, none, none]) (by decide +kernel) (Nat.le_of_ble_eq_true rfl) rfl fun X C E9 => ?_
  obtain ⟨P, ep⟩ : ∃ P, P = pX8_sendsPending_0 M := ⟨_, rfl⟩
  rw [← ep] at E9
  unfold pX8_sendsPending_0 at ep
  unfold oX8_sendsPending_0 at ok
  obtain ⟨h7, ok⟩ := ok
  obtain ⟨h4, ok⟩ := ok
  have h60 := h7.le (by decide)
  have t60 := h4.le (by decide)
  refine g_bipush (v := 16) (q := 2) C dX8_sendsPending_0 (by decide) rfl ?_
  refine g_iload_n (q := 3) C dX8_sendsPending_2 rfl rfl ?_
  refine g_imul (q := 4) C dX8_sendsPending_3 rfl ?_
  refine g_istore_n (q := 5) C dX8_sendsPending_4 (Nat.le_of_ble_eq_true rfl) (by simp only [gset]; rfl) rfl ?_
  refine g_bipush (v := 32) (q := 7) C dX8_sendsPending_5 (by decide) rfl ?_
  refine g_bipush (v := 64) (q := 9) C dX8_sendsPending_7 (by decide) rfl ?_
  refine g_iload_n (q := 10) C dX8_sendsPending_9 rfl rfl ?_
  refine g_imul (q := 11) C dX8_sendsPending_10 rfl ?_
  refine g_iadd (q := 12) C dX8_sendsPending_11 rfl ?_
  refine g_aload_n (q := 13) C dX8_sendsPending_12 rfl rfl ?_
  refine g_getfield (v := .ref 127) (q := 16) C fX8_22 dX8_sendsPending_13 rfl HM.1 rfl ?_
  refine g_iload_n (q := 17) C dX8_sendsPending_16 rfl rfl ?_
  refine g_iconst (v := 4) (q := 18) C dX8_sendsPending_17 (by decide) rfl ?_
  refine g_iadd (q := 19) C dX8_sendsPending_18 rfl ?_
  refine g_ialoadN (x := (M.a 4 4)) (j := 4) (q := 20) C dX8_sendsPending_19 rfl (HM.ar (i := 4) (n := 772) (by decide) rfl) (pk_in 4 772 (by decide)) (pk_cl 4) rfl ?_
  refine g_iadd (q := 21) C dX8_sendsPending_20 rfl ?_
  rw [show (32 : Int32) + 64 * 0 + (M.a 4 4) = nI (32 + (M.a 4 4).toNatClampNeg) from by rw [← nI_add, ← h4.c (by decide)]; rfl]
  refine g_istore_n (q := 22) C dX8_sendsPending_21 (Nat.le_of_ble_eq_true rfl) (by simp only [gset]; rfl) rfl ?_
  refine g_iconst (v := 0) (q := 23) C dX8_sendsPending_22 (by decide) rfl ?_
  refine g_istore (q := 25) C dX8_sendsPending_23 (Nat.le_of_ble_eq_true rfl) (by simp only [gset]; rfl) rfl ?_
  have LL1 : ∀ d j : Nat, j + d = (M.a 4 7).toNatClampNeg → ∀  (h1 : List gA), gMod h1 (M.arr 14 (gCpy (M.a 14) 0 (M.a 4) (32 + (M.a 4 4).toNatClampNeg) j)) → gFM hp h1 → gG X 25 [some (.ref 122), some (.int 0), some (.int 0), some (.int ((nI (32 + (M.a 4 4).toNatClampNeg)))), some (.int ((nI j)))] [] h1 0 0 := by
    intro d
    induction d with
    | zero =>
      intro j hj  h1 HL1_ fr_
      obtain rfl : (M.a 4 7).toNatClampNeg = j := by omega
      refine g_iload (q := 27) C dX8_sendsPending_25 rfl rfl ?_
      refine g_aload_n (q := 28) C dX8_sendsPending_27 rfl rfl ?_
      refine g_getfield (v := .ref 127) (q := 31) C fX8_22 dX8_sendsPending_28 rfl HL1_.1 rfl ?_
      refine g_iload_n (q := 32) C dX8_sendsPending_31 rfl rfl ?_
      refine g_bipush (v := 7) (q := 34) C dX8_sendsPending_32 (by decide) rfl ?_
      refine g_iadd (q := 35) C dX8_sendsPending_34 rfl ?_
      refine g_ialoadN (x := ((M.arr 14 (gCpy (M.a 14) 0 (M.a 4) (32 + (M.a 4 4).toNatClampNeg) ((M.a 4 7).toNatClampNeg))).a 4 7)) (j := 7) (q := 36) C dX8_sendsPending_35 rfl (HL1_.ar (i := 4) (n := 772) (by decide) rfl) (pk_in 7 772 (by decide)) (pk_cl 7) rfl ?_
      rw [show ((M.arr 14 (gCpy (M.a 14) 0 (M.a 4) (32 + (M.a 4 4).toNatClampNeg) ((M.a 4 7).toNatClampNeg))).a 4 7) = nI ((M.a 4 7).toNatClampNeg) from ((garr_o (by decide))).trans (h7.c (by decide))]
      refine g_icmp_ge_t (t := 61) C dX8_sendsPending_36 (by decide) (nI_le (Nat.le_refl _) (by omega)) ?_
      refine g_aload_n (q := 62) C dX8_sendsPending_61 rfl rfl ?_
      refine g_iload_n (q := 63) C dX8_sendsPending_62 rfl rfl ?_
      refine g_bipush (v := 64) (q := 65) C dX8_sendsPending_63 (by decide) rfl ?_
      refine g_aload_n (q := 66) C dX8_sendsPending_65 rfl rfl ?_
      refine g_getfield (v := .ref 127) (q := 69) C fX8_22 dX8_sendsPending_66 rfl HL1_.1 rfl ?_
      refine g_iload_n (q := 70) C dX8_sendsPending_69 rfl rfl ?_
      refine g_iconst (v := 5) (q := 71) C dX8_sendsPending_70 (by decide) rfl ?_
      refine g_iadd (q := 72) C dX8_sendsPending_71 rfl ?_
      refine g_ialoadN (x := ((M.arr 14 (gCpy (M.a 14) 0 (M.a 4) (32 + (M.a 4 4).toNatClampNeg) ((M.a 4 7).toNatClampNeg))).a 4 5)) (j := 5) (q := 73) C dX8_sendsPending_72 rfl (HL1_.ar (i := 4) (n := 772) (by decide) rfl) (pk_in 5 772 (by decide)) (pk_cl 5) rfl ?_
      refine g_imul (q := 74) C dX8_sendsPending_73 rfl ?_
      refine g_aload_n (q := 75) C dX8_sendsPending_74 rfl rfl ?_
      refine g_getfield (v := .ref 127) (q := 78) C fX8_22 dX8_sendsPending_75 rfl HL1_.1 rfl ?_
      refine g_iload_n (q := 79) C dX8_sendsPending_78 rfl rfl ?_
      refine g_bipush (v := 6) (q := 81) C dX8_sendsPending_79 (by decide) rfl ?_
      refine g_iadd (q := 82) C dX8_sendsPending_81 rfl ?_
      refine g_ialoadN (x := ((M.arr 14 (gCpy (M.a 14) 0 (M.a 4) (32 + (M.a 4 4).toNatClampNeg) ((M.a 4 7).toNatClampNeg))).a 4 6)) (j := 6) (q := 83) C dX8_sendsPending_82 rfl (HL1_.ar (i := 4) (n := 772) (by decide) rfl) (pk_in 6 772 (by decide)) (pk_cl 6) rfl ?_
      refine g_iconst (v := 1) (q := 84) C dX8_sendsPending_83 (by decide) rfl ?_
      suffices K84 : gG X 93 [some (.ref 122), some (.int 0), some (.int 0), some (.int ((nI (32 + (M.a 4 4).toNatClampNeg)))), some (.int ((nI ((M.a 4 7).toNatClampNeg))))] [.int (if ((M.arr 14 (gCpy (M.a 14) 0 (M.a 4) (32 + (M.a 4 4).toNatClampNeg) ((M.a 4 7).toNatClampNeg))).a 4 6) = 1 then 32 else 0 : Int32), .int ((64 * ((M.arr 14 (gCpy (M.a 14) 0 (M.a 4) (32 + (M.a 4 4).toNatClampNeg) ((M.a 4 7).toNatClampNeg))).a 4 5))), .int 0, .ref 122] h1 0 0 by
        refine g_icmp_ne (t := 92) (q := 87) C dX8_sendsPending_84 (by decide) rfl (fun c_84 => ?_) (fun c_84 => ?_)
        · refine g_iconst (v := 0) (q := 93) C dX8_sendsPending_92 (by decide) rfl ?_
          rw [if_neg c_84] at K84
          exact K84
        · refine g_bipush (v := 32) (q := 89) C dX8_sendsPending_87 (by decide) rfl ?_
          refine g_goto (q := 93) C dX8_sendsPending_89 (by decide) ?_
          rw [if_pos c_84] at K84
          exact K84
      refine g_iadd (q := 94) C dX8_sendsPending_93 rfl ?_
      refine g_aload_n (q := 95) C dX8_sendsPending_94 rfl rfl ?_
      refine g_getfield (v := .ref 127) (q := 98) C fX8_22 dX8_sendsPending_95 rfl HL1_.1 rfl ?_
      refine g_iload_n (q := 99) C dX8_sendsPending_98 rfl rfl ?_
      refine g_bipush (v := 7) (q := 101) C dX8_sendsPending_99 (by decide) rfl ?_
      refine g_iadd (q := 102) C dX8_sendsPending_101 rfl ?_
      refine g_ialoadN (x := ((M.arr 14 (gCpy (M.a 14) 0 (M.a 4) (32 + (M.a 4 4).toNatClampNeg) ((M.a 4 7).toNatClampNeg))).a 4 7)) (j := 7) (q := 103) C dX8_sendsPending_102 rfl (HL1_.ar (i := 4) (n := 772) (by decide) rfl) (pk_in 7 772 (by decide)) (pk_cl 7) rfl ?_
      refine g_callVvp (q := 106) (As := [.int 0, .int (((64 * ((M.arr 14 (gCpy (M.a 14) 0 (M.a 4) (32 + (M.a 4 4).toNatClampNeg) ((M.a 4 7).toNatClampNeg))).a 4 5)) + (if ((M.arr 14 (gCpy (M.a 14) 0 (M.a 4) (32 + (M.a 4 4).toNatClampNeg) ((M.a 4 7).toNatClampNeg))).a 4 6) = 1 then 32 else 0 : Int32))), .int (((M.arr 14 (gCpy (M.a 14) 0 (M.a 4) (32 + (M.a 4 4).toNatClampNeg) ((M.a 4 7).toNatClampNeg))).a 4 7))]) C gyX8_sends gvX8_sends t_1312 (c_X8_sends_0_p HL1_ ok) dX8_sendsPending_103 rfl HL1_.1 rfl rfl rfl (Nat.le_of_ble_eq_true rfl) (Nat.le_of_ble_eq_true rfl) (Nat.le_of_ble_eq_true rfl) (Nat.le_of_ble_eq_true rfl) (Nat.le_of_ble_eq_true rfl) rfl (fun h2 z2 => ?_)
      obtain ⟨M', E', HM', frs, dd⟩ := z2
      exact E9.2.1 _ _ _ _ _ dX8_sendsPending_106 rfl (Nat.le_of_ble_eq_true rfl) (Nat.le_of_ble_eq_true rfl) ⟨rfl, _, _, HM', (gFM.trans fr_ frs), by rw [ep]; exact dd⟩
    | succ d ih =>
      intro j hj  h1 HL1_ fr_
      refine g_iload (q := 27) C dX8_sendsPending_25 rfl rfl ?_
      refine g_aload_n (q := 28) C dX8_sendsPending_27 rfl rfl ?_
      refine g_getfield (v := .ref 127) (q := 31) C fX8_22 dX8_sendsPending_28 rfl HL1_.1 rfl ?_
      refine g_iload_n (q := 32) C dX8_sendsPending_31 rfl rfl ?_
      refine g_bipush (v := 7) (q := 34) C dX8_sendsPending_32 (by decide) rfl ?_
      refine g_iadd (q := 35) C dX8_sendsPending_34 rfl ?_
      refine g_ialoadN (x := ((M.arr 14 (gCpy (M.a 14) 0 (M.a 4) (32 + (M.a 4 4).toNatClampNeg) j)).a 4 7)) (j := 7) (q := 36) C dX8_sendsPending_35 rfl (HL1_.ar (i := 4) (n := 772) (by decide) rfl) (pk_in 7 772 (by decide)) (pk_cl 7) rfl ?_
      rw [show ((M.arr 14 (gCpy (M.a 14) 0 (M.a 4) (32 + (M.a 4 4).toNatClampNeg) j)).a 4 7) = nI ((M.a 4 7).toNatClampNeg) from ((garr_o (by decide))).trans (h7.c (by decide))]
      refine g_icmp_ge_f (t := 61) (q := 39) C dX8_sendsPending_36 (by decide) rfl (fun h => nI_ge (show j < (M.a 4 7).toNatClampNeg by omega) (by omega) h) ?_
      refine g_aload_n (q := 40) C dX8_sendsPending_39 rfl rfl ?_
      refine g_getfield (v := .ref 137) (q := 43) C fX8_57 dX8_sendsPending_40 rfl HL1_.1 rfl ?_
      refine g_iload (q := 45) C dX8_sendsPending_43 rfl rfl ?_
      refine g_aload_n (q := 46) C dX8_sendsPending_45 rfl rfl ?_
      refine g_getfield (v := .ref 127) (q := 49) C fX8_22 dX8_sendsPending_46 rfl HL1_.1 rfl ?_
      refine g_iload_n (q := 50) C dX8_sendsPending_49 rfl rfl ?_
      refine g_iload (q := 52) C dX8_sendsPending_50 rfl rfl ?_
      refine g_iadd (q := 53) C dX8_sendsPending_52 rfl ?_
      refine g_ialoadN (x := ((M.arr 14 (gCpy (M.a 14) 0 (M.a 4) (32 + (M.a 4 4).toNatClampNeg) j)).a 4 ((32 + (M.a 4 4).toNatClampNeg) + j))) (j := ((32 + (M.a 4 4).toNatClampNeg) + j)) (q := 54) C dX8_sendsPending_53 rfl (HL1_.ar (i := 4) (n := 772) (by decide) rfl) (pk_in ((32 + (M.a 4 4).toNatClampNeg) + j) 772 (by omega) (nI_add (32 + (M.a 4 4).toNatClampNeg) j)) (pk_cl ((32 + (M.a 4 4).toNatClampNeg) + j) (nI_add (32 + (M.a 4 4).toNatClampNeg) j) (by omega)) rfl ?_
      refine g_iastoreN (j := j) (q := 55) C dX8_sendsPending_54 rfl (HL1_.ar (i := 14) (n := 256) (by decide) rfl) (pk_in j 256 (by omega)) (pk_cl j rfl (by omega)) ?_
      refine gMsto (i := 14) (j := j) (x := ((M.arr 14 (gCpy (M.a 14) 0 (M.a 4) (32 + (M.a 4 4).toNatClampNeg) j)).a 4 ((32 + (M.a 4 4).toNatClampNeg) + j))) HL1_ (by decide) rfl rfl fun h3 HL3 fr3 => ?_
      refine g_iinc (v := (nI (j + 1))) (q := 58) C dX8_sendsPending_55 rfl (nI_1 j) (by simp only [gset]; rfl) rfl ?_
      have e9 : (M.arr 14 (gCpy (M.a 14) 0 (M.a 4) (32 + (M.a 4 4).toNatClampNeg) j)).put 14 (0 + j) ((M.arr 14 (gCpy (M.a 14) 0 (M.a 4) (32 + (M.a 4 4).toNatClampNeg) j)).a 4 ((32 + (M.a 4 4).toNatClampNeg) + j)) = (M.arr 14 (gCpy (M.a 14) 0 (M.a 4) (32 + (M.a 4 4).toNatClampNeg) (j + 1))) := garr_cp (by show (M.arr 14 (gCpy (M.a 14) 0 (M.a 4) (32 + (M.a 4 4).toNatClampNeg) j)).a 4 _ = _; rw [(garr_o (by decide))])
      have HL9 : gMod h3 (M.arr 14 (gCpy (M.a 14) 0 (M.a 4) (32 + (M.a 4 4).toNatClampNeg) (j + 1))) := by rw [← e9, Nat.zero_add]; exact HL3
      refine g_goto (q := 25) C dX8_sendsPending_58 (by decide) ?_
      exact ih (j + 1) (by omega)  h3 HL9 (gFM.trans fr_ fr3)
  have HL8 : gMod hp (M.arr 14 (gCpy (M.a 14) 0 (M.a 4) (32 + (M.a 4 4).toNatClampNeg) 0)) := by rw [garr_0]; exact HM
  exact LL1 ((M.a 4 7).toNatClampNeg - 0) 0 (by omega)  hp HL8 gFM.rf
  
def pX8_sendsOut_0 (M : gMd) : gMd × Option (Int32 × Int32) := (pX8_sendsPending_0 (((M.put 4 7 (if (M.a 4 18) ≤ ((M.a 4 3) - (M.a 4 4)) then (M.a 4 18) else ((M.a 4 3) - (M.a 4 4)) : Int32)).put 4 6 (if ((M.a 4 3) - (M.a 4 4)) ≤ (M.a 4 18) then 0 else 1 : Int32)).put 4 5 (M.a 4 0)))
def oX8_sendsOut_0 (M : gMd) (l : Nat) (E : List (Int32 × List Int32)) : Prop := oX8_sendsPending_0 (((M.put 4 7 (if (M.a 4 18) ≤ ((M.a 4 3) - (M.a 4 4)) then (M.a 4 18) else ((M.a 4 3) - (M.a 4 4)) : Int32)).put 4 6 (if ((M.a 4 3) - (M.a 4 4)) ≤ (M.a 4 18) then 0 else 1 : Int32)).put 4 5 (M.a 4 0)) l E
theorem dX8_sendsOut_0 : decode cX8_sendsOut 0 = .ok (.bipush 16, 2) := by decide +kernel
theorem dX8_sendsOut_2 : decode cX8_sendsOut 2 = .ok (.iload_n 1, 1) := by decide +kernel
theorem dX8_sendsOut_3 : decode cX8_sendsOut 3 = .ok (.imul, 1) := by decide +kernel
theorem dX8_sendsOut_4 : decode cX8_sendsOut 4 = .ok (.istore_n 2, 1) := by decide +kernel
theorem dX8_sendsOut_5 : decode cX8_sendsOut 5 = .ok (.aload_n 0, 1) := by decide +kernel
theorem dX8_sendsOut_6 : decode cX8_sendsOut 6 = .ok (.getfield 22, 3) := by decide +kernel
theorem dX8_sendsOut_9 : decode cX8_sendsOut 9 = .ok (.iload_n 2, 1) := by decide +kernel
theorem dX8_sendsOut_10 : decode cX8_sendsOut 10 = .ok (.iconst 3, 1) := by decide +kernel
theorem dX8_sendsOut_11 : decode cX8_sendsOut 11 = .ok (.iadd, 1) := by decide +kernel
theorem dX8_sendsOut_12 : decode cX8_sendsOut 12 = .ok (.iaload, 1) := by decide +kernel
theorem dX8_sendsOut_13 : decode cX8_sendsOut 13 = .ok (.aload_n 0, 1) := by decide +kernel
theorem dX8_sendsOut_14 : decode cX8_sendsOut 14 = .ok (.getfield 22, 3) := by decide +kernel
theorem dX8_sendsOut_17 : decode cX8_sendsOut 17 = .ok (.iload_n 2, 1) := by decide +kernel
theorem dX8_sendsOut_18 : decode cX8_sendsOut 18 = .ok (.iconst 4, 1) := by decide +kernel
theorem dX8_sendsOut_19 : decode cX8_sendsOut 19 = .ok (.iadd, 1) := by decide +kernel
theorem dX8_sendsOut_20 : decode cX8_sendsOut 20 = .ok (.iaload, 1) := by decide +kernel
theorem dX8_sendsOut_21 : decode cX8_sendsOut 21 = .ok (.isub, 1) := by decide +kernel
theorem dX8_sendsOut_22 : decode cX8_sendsOut 22 = .ok (.istore_n 3, 1) := by decide +kernel
theorem dX8_sendsOut_23 : decode cX8_sendsOut 23 = .ok (.aload_n 0, 1) := by decide +kernel
theorem dX8_sendsOut_24 : decode cX8_sendsOut 24 = .ok (.getfield 22, 3) := by decide +kernel
theorem dX8_sendsOut_27 : decode cX8_sendsOut 27 = .ok (.bipush 16, 2) := by decide +kernel
theorem dX8_sendsOut_29 : decode cX8_sendsOut 29 = .ok (.iconst 1, 1) := by decide +kernel
theorem dX8_sendsOut_30 : decode cX8_sendsOut 30 = .ok (.iload_n 1, 1) := by decide +kernel
theorem dX8_sendsOut_31 : decode cX8_sendsOut 31 = .ok (.isub, 1) := by decide +kernel
theorem dX8_sendsOut_32 : decode cX8_sendsOut 32 = .ok (.imul, 1) := by decide +kernel
theorem dX8_sendsOut_33 : decode cX8_sendsOut 33 = .ok (.iconst 2, 1) := by decide +kernel
theorem dX8_sendsOut_34 : decode cX8_sendsOut 34 = .ok (.iadd, 1) := by decide +kernel
theorem dX8_sendsOut_35 : decode cX8_sendsOut 35 = .ok (.iaload, 1) := by decide +kernel
theorem dX8_sendsOut_36 : decode cX8_sendsOut 36 = .ok (.istore 4, 2) := by decide +kernel
theorem dX8_sendsOut_38 : decode cX8_sendsOut 38 = .ok (.aload_n 0, 1) := by decide +kernel
theorem dX8_sendsOut_39 : decode cX8_sendsOut 39 = .ok (.getfield 22, 3) := by decide +kernel
theorem dX8_sendsOut_42 : decode cX8_sendsOut 42 = .ok (.iload_n 2, 1) := by decide +kernel
theorem dX8_sendsOut_43 : decode cX8_sendsOut 43 = .ok (.bipush 7, 2) := by decide +kernel
theorem dX8_sendsOut_45 : decode cX8_sendsOut 45 = .ok (.iadd, 1) := by decide +kernel
theorem dX8_sendsOut_46 : decode cX8_sendsOut 46 = .ok (.iload_n 3, 1) := by decide +kernel
theorem dX8_sendsOut_47 : decode cX8_sendsOut 47 = .ok (.iload 4, 2) := by decide +kernel
theorem dX8_sendsOut_49 : decode cX8_sendsOut 49 = .ok (.if_icmp .ge 7, 3) := by decide +kernel
theorem dX8_sendsOut_52 : decode cX8_sendsOut 52 = .ok (.iload_n 3, 1) := by decide +kernel
theorem dX8_sendsOut_53 : decode cX8_sendsOut 53 = .ok (.goto 5, 3) := by decide +kernel
theorem dX8_sendsOut_56 : decode cX8_sendsOut 56 = .ok (.iload 4, 2) := by decide +kernel
theorem dX8_sendsOut_58 : decode cX8_sendsOut 58 = .ok (.iastore, 1) := by decide +kernel
theorem dX8_sendsOut_59 : decode cX8_sendsOut 59 = .ok (.aload_n 0, 1) := by decide +kernel
theorem dX8_sendsOut_60 : decode cX8_sendsOut 60 = .ok (.getfield 22, 3) := by decide +kernel
theorem dX8_sendsOut_63 : decode cX8_sendsOut 63 = .ok (.iload_n 2, 1) := by decide +kernel
theorem dX8_sendsOut_64 : decode cX8_sendsOut 64 = .ok (.bipush 6, 2) := by decide +kernel
theorem dX8_sendsOut_66 : decode cX8_sendsOut 66 = .ok (.iadd, 1) := by decide +kernel
theorem dX8_sendsOut_67 : decode cX8_sendsOut 67 = .ok (.iload_n 3, 1) := by decide +kernel
theorem dX8_sendsOut_68 : decode cX8_sendsOut 68 = .ok (.iload 4, 2) := by decide +kernel
theorem dX8_sendsOut_70 : decode cX8_sendsOut 70 = .ok (.if_icmp .le 7, 3) := by decide +kernel
theorem dX8_sendsOut_73 : decode cX8_sendsOut 73 = .ok (.iconst 1, 1) := by decide +kernel
theorem dX8_sendsOut_74 : decode cX8_sendsOut 74 = .ok (.goto 4, 3) := by decide +kernel
theorem dX8_sendsOut_77 : decode cX8_sendsOut 77 = .ok (.iconst 0, 1) := by decide +kernel
theorem dX8_sendsOut_78 : decode cX8_sendsOut 78 = .ok (.iastore, 1) := by decide +kernel
theorem dX8_sendsOut_79 : decode cX8_sendsOut 79 = .ok (.aload_n 0, 1) := by decide +kernel
theorem dX8_sendsOut_80 : decode cX8_sendsOut 80 = .ok (.getfield 22, 3) := by decide +kernel
theorem dX8_sendsOut_83 : decode cX8_sendsOut 83 = .ok (.iload_n 2, 1) := by decide +kernel
theorem dX8_sendsOut_84 : decode cX8_sendsOut 84 = .ok (.iconst 5, 1) := by decide +kernel
theorem dX8_sendsOut_85 : decode cX8_sendsOut 85 = .ok (.iadd, 1) := by decide +kernel
theorem dX8_sendsOut_86 : decode cX8_sendsOut 86 = .ok (.aload_n 0, 1) := by decide +kernel
theorem dX8_sendsOut_87 : decode cX8_sendsOut 87 = .ok (.getfield 22, 3) := by decide +kernel
theorem dX8_sendsOut_90 : decode cX8_sendsOut 90 = .ok (.iload_n 2, 1) := by decide +kernel
theorem dX8_sendsOut_91 : decode cX8_sendsOut 91 = .ok (.iconst 0, 1) := by decide +kernel
theorem dX8_sendsOut_92 : decode cX8_sendsOut 92 = .ok (.iadd, 1) := by decide +kernel
theorem dX8_sendsOut_93 : decode cX8_sendsOut 93 = .ok (.iaload, 1) := by decide +kernel
theorem dX8_sendsOut_94 : decode cX8_sendsOut 94 = .ok (.iastore, 1) := by decide +kernel
theorem dX8_sendsOut_95 : decode cX8_sendsOut 95 = .ok (.aload_n 0, 1) := by decide +kernel
theorem dX8_sendsOut_96 : decode cX8_sendsOut 96 = .ok (.iload_n 1, 1) := by decide +kernel
theorem dX8_sendsOut_97 : decode cX8_sendsOut 97 = .ok (.invokevirtual 204, 3) := by decide +kernel
theorem dX8_sendsOut_100 : decode cX8_sendsOut 100 = .ok (.return_, 1) := by decide +kernel
set_option maxRecDepth 100000 in
set_option maxHeartbeats 4000000 in
theorem c_X8_sendsOut_0_p {hp : List gA} {M : gMd} {l : Nat} {E : List (Int32 × List Int32)}  (HM : gMod hp M) (ok : oX8_sendsOut_0 M l E)  : gM yX8_sendsOut cX8_sendsOut 5 (none) 5 119 [.ref 122, .int 0] (hp) (0) (0) (fun v h => v = none ∧ ∃ M' E', gMod h M' ∧ gFM hp h ∧ gDo 0 (pX8_sendsOut_0 M) l E M' E') := by
  refine gM_of (ls0 := [some (.ref 122), some (.int 0), none, none, none]) (by decide +kernel) (Nat.le_of_ble_eq_true rfl) rfl fun X C E9 => ?_
  obtain ⟨P, ep⟩ : ∃ P, P = pX8_sendsOut_0 M := ⟨_, rfl⟩
  rw [← ep] at E9
  unfold pX8_sendsOut_0 at ep
  unfold oX8_sendsOut_0 at ok
  refine g_bipush (v := 16) (q := 2) C dX8_sendsOut_0 (by decide) rfl ?_
  refine g_iload_n (q := 3) C dX8_sendsOut_2 rfl rfl ?_
  refine g_imul (q := 4) C dX8_sendsOut_3 rfl ?_
  refine g_istore_n (q := 5) C dX8_sendsOut_4 (Nat.le_of_ble_eq_true rfl) (by simp only [gset]; rfl) rfl ?_
  refine g_aload_n (q := 6) C dX8_sendsOut_5 rfl rfl ?_
  refine g_getfield (v := .ref 127) (q := 9) C fX8_22 dX8_sendsOut_6 rfl HM.1 rfl ?_
  refine g_iload_n (q := 10) C dX8_sendsOut_9 rfl rfl ?_
  refine g_iconst (v := 3) (q := 11) C dX8_sendsOut_10 (by decide) rfl ?_
  refine g_iadd (q := 12) C dX8_sendsOut_11 rfl ?_
  refine g_ialoadN (x := (M.a 4 3)) (j := 3) (q := 13) C dX8_sendsOut_12 rfl (HM.ar (i := 4) (n := 772) (by decide) rfl) (pk_in 3 772 (by decide)) (pk_cl 3) rfl ?_
  refine g_aload_n (q := 14) C dX8_sendsOut_13 rfl rfl ?_
  refine g_getfield (v := .ref 127) (q := 17) C fX8_22 dX8_sendsOut_14 rfl HM.1 rfl ?_
  refine g_iload_n (q := 18) C dX8_sendsOut_17 rfl rfl ?_
  refine g_iconst (v := 4) (q := 19) C dX8_sendsOut_18 (by decide) rfl ?_
  refine g_iadd (q := 20) C dX8_sendsOut_19 rfl ?_
  refine g_ialoadN (x := (M.a 4 4)) (j := 4) (q := 21) C dX8_sendsOut_20 rfl (HM.ar (i := 4) (n := 772) (by decide) rfl) (pk_in 4 772 (by decide)) (pk_cl 4) rfl ?_
  refine g_isub (q := 22) C dX8_sendsOut_21 rfl ?_
  refine g_istore_n (q := 23) C dX8_sendsOut_22 (Nat.le_of_ble_eq_true rfl) (by simp only [gset]; rfl) rfl ?_
  refine g_aload_n (q := 24) C dX8_sendsOut_23 rfl rfl ?_
  refine g_getfield (v := .ref 127) (q := 27) C fX8_22 dX8_sendsOut_24 rfl HM.1 rfl ?_
  refine g_bipush (v := 16) (q := 29) C dX8_sendsOut_27 (by decide) rfl ?_
  refine g_iconst (v := 1) (q := 30) C dX8_sendsOut_29 (by decide) rfl ?_
  refine g_iload_n (q := 31) C dX8_sendsOut_30 rfl rfl ?_
  refine g_isub (q := 32) C dX8_sendsOut_31 rfl ?_
  refine g_imul (q := 33) C dX8_sendsOut_32 rfl ?_
  refine g_iconst (v := 2) (q := 34) C dX8_sendsOut_33 (by decide) rfl ?_
  refine g_iadd (q := 35) C dX8_sendsOut_34 rfl ?_
  refine g_ialoadN (x := (M.a 4 18)) (j := 18) (q := 36) C dX8_sendsOut_35 rfl (HM.ar (i := 4) (n := 772) (by decide) rfl) (pk_in 18 772 (by decide)) (pk_cl 18) rfl ?_
  refine g_istore (q := 38) C dX8_sendsOut_36 (Nat.le_of_ble_eq_true rfl) (by simp only [gset]; rfl) rfl ?_
  refine g_aload_n (q := 39) C dX8_sendsOut_38 rfl rfl ?_
  refine g_getfield (v := .ref 127) (q := 42) C fX8_22 dX8_sendsOut_39 rfl HM.1 rfl ?_
  refine g_iload_n (q := 43) C dX8_sendsOut_42 rfl rfl ?_
  refine g_bipush (v := 7) (q := 45) C dX8_sendsOut_43 (by decide) rfl ?_
  refine g_iadd (q := 46) C dX8_sendsOut_45 rfl ?_
  refine g_iload_n (q := 47) C dX8_sendsOut_46 rfl rfl ?_
  refine g_iload (q := 49) C dX8_sendsOut_47 rfl rfl ?_
  suffices K49 : gG X 58 [some (.ref 122), some (.int 0), some (.int 0), some (.int (((M.a 4 3) - (M.a 4 4)))), some (.int ((M.a 4 18)))] [.int (if (M.a 4 18) ≤ ((M.a 4 3) - (M.a 4 4)) then (M.a 4 18) else ((M.a 4 3) - (M.a 4 4)) : Int32), .int 7, .ref 127] hp 0 0 by
    refine g_icmp_ge (t := 56) (q := 52) C dX8_sendsOut_49 (by decide) rfl (fun c_49 => ?_) (fun c_49 => ?_)
    · refine g_iload (q := 58) C dX8_sendsOut_56 rfl rfl ?_
      rw [if_pos c_49] at K49
      exact K49
    · refine g_iload_n (q := 53) C dX8_sendsOut_52 rfl rfl ?_
      refine g_goto (q := 58) C dX8_sendsOut_53 (by decide) ?_
      rw [if_neg c_49] at K49
      exact K49
  refine g_iastoreN (j := 7) (q := 59) C dX8_sendsOut_58 rfl (HM.ar (i := 4) (n := 772) (by decide) rfl) (pk_in 7 772 (by decide)) (pk_cl 7) ?_
  refine gMsto (i := 4) (j := 7) (x := (if (M.a 4 18) ≤ ((M.a 4 3) - (M.a 4 4)) then (M.a 4 18) else ((M.a 4 3) - (M.a 4 4)) : Int32)) HM (by decide) rfl rfl fun h1 HL1 fr1 => ?_
  refine g_aload_n (q := 60) C dX8_sendsOut_59 rfl rfl ?_
  refine g_getfield (v := .ref 127) (q := 63) C fX8_22 dX8_sendsOut_60 rfl HL1.1 rfl ?_
  refine g_iload_n (q := 64) C dX8_sendsOut_63 rfl rfl ?_
  refine g_bipush (v := 6) (q := 66) C dX8_sendsOut_64 (by decide) rfl ?_
  refine g_iadd (q := 67) C dX8_sendsOut_66 rfl ?_
  refine g_iload_n (q := 68) C dX8_sendsOut_67 rfl rfl ?_
  refine g_iload (q := 70) C dX8_sendsOut_68 rfl rfl ?_
  suffices K70 : gG X 78 [some (.ref 122), some (.int 0), some (.int 0), some (.int (((M.a 4 3) - (M.a 4 4)))), some (.int ((M.a 4 18)))] [.int (if ((M.a 4 3) - (M.a 4 4)) ≤ (M.a 4 18) then 0 else 1 : Int32), .int 6, .ref 127] h1 0 0 by
    refine g_icmp_le (t := 77) (q := 73) C dX8_sendsOut_70 (by decide) rfl (fun c_70 => ?_) (fun c_70 => ?_)
    · refine g_iconst (v := 0) (q := 78) C dX8_sendsOut_77 (by decide) rfl ?_
      rw [if_pos c_70] at K70
      exact K70
    · refine g_iconst (v := 1) (q := 74) C dX8_sendsOut_73 (by decide) rfl ?_
      refine g_goto (q := 78) C dX8_sendsOut_74 (by decide) ?_
      rw [if_neg c_70] at K70
      exact K70
  refine g_iastoreN (j := 6) (q := 79) C dX8_sendsOut_78 rfl (HL1.ar (i := 4) (n := 772) (by decide) rfl) (pk_in 6 772 (by decide)) (pk_cl 6) ?_
  refine gMsto (i := 4) (j := 6) (x := (if ((M.a 4 3) - (M.a 4 4)) ≤ (M.a 4 18) then 0 else 1 : Int32)) HL1 (by decide) rfl rfl fun h2 HL2 fr2 => ?_
  refine g_aload_n (q := 80) C dX8_sendsOut_79 rfl rfl ?_
  refine g_getfield (v := .ref 127) (q := 83) C fX8_22 dX8_sendsOut_80 rfl HL2.1 rfl ?_
  refine g_iload_n (q := 84) C dX8_sendsOut_83 rfl rfl ?_
  refine g_iconst (v := 5) (q := 85) C dX8_sendsOut_84 (by decide) rfl ?_
  refine g_iadd (q := 86) C dX8_sendsOut_85 rfl ?_
  refine g_aload_n (q := 87) C dX8_sendsOut_86 rfl rfl ?_
  refine g_getfield (v := .ref 127) (q := 90) C fX8_22 dX8_sendsOut_87 rfl HL2.1 rfl ?_
  refine g_iload_n (q := 91) C dX8_sendsOut_90 rfl rfl ?_
  refine g_iconst (v := 0) (q := 92) C dX8_sendsOut_91 (by decide) rfl ?_
  refine g_iadd (q := 93) C dX8_sendsOut_92 rfl ?_
  refine g_ialoadN (x := (M.a 4 0)) (j := 0) (q := 94) C dX8_sendsOut_93 rfl (HL2.ar (i := 4) (n := 772) (by decide) rfl) (pk_in 0 772 (by decide)) (pk_cl 0) ((gput_n (by decide)).trans (gput_n (by decide))) ?_
  refine g_iastoreN (j := 5) (q := 95) C dX8_sendsOut_94 rfl (HL2.ar (i := 4) (n := 772) (by decide) rfl) (pk_in 5 772 (by decide)) (pk_cl 5) ?_
  refine gMsto (i := 4) (j := 5) (x := (M.a 4 0)) HL2 (by decide) rfl rfl fun h3 HL3 fr3 => ?_
  refine g_aload_n (q := 96) C dX8_sendsOut_95 rfl rfl ?_
  refine g_iload_n (q := 97) C dX8_sendsOut_96 rfl rfl ?_
  refine g_callVvp (q := 100) (As := [.int 0]) C gyX8_sendsPending gvX8_sendsPending t_1308 (c_X8_sendsPending_0_p HL3 ok) dX8_sendsOut_97 rfl HL3.1 rfl rfl rfl (Nat.le_of_ble_eq_true rfl) (Nat.le_of_ble_eq_true rfl) (Nat.le_of_ble_eq_true rfl) (Nat.le_of_ble_eq_true rfl) (Nat.le_of_ble_eq_true rfl) rfl (fun h4 z4 => ?_)
  obtain ⟨M', E', HM', frs, dd⟩ := z4
  exact E9.2.1 _ _ _ _ _ dX8_sendsOut_100 rfl (Nat.le_of_ble_eq_true rfl) (Nat.le_of_ble_eq_true rfl) ⟨rfl, _, _, HM', (gFM.trans (gFM.trans (gFM.trans fr1 fr2) fr3) frs), by rw [ep]; exact dd⟩
def pX8_goesOn_0 (M : gMd) : gMd × Option (Int32 × Int32) := (if (if (M.a 4 6) = 1 then 1 else 0 : Int32) = 0 then (pX8_sendsR_0 (rX8_isThrough_0 M) 0) else (pX8_sendsOut_0 (rX8_isThrough_0 M)))
def oX8_goesOn_0 (M : gMd) (l : Nat) (E : List (Int32 × List Int32)) : Prop := (if (if (M.a 4 6) = 1 then 1 else 0 : Int32) = 0 then oX8_sendsR_0 (rX8_isThrough_0 M) 0 l E else oX8_sendsOut_0 (rX8_isThrough_0 M) l E)
theorem dX8_goesOn_0 : decode cX8_goesOn 0 = .ok (.aload_n 0, 1) := by decide +kernel
theorem dX8_goesOn_1 : decode cX8_goesOn 1 = .ok (.getfield 22, 3) := by decide +kernel
theorem dX8_goesOn_4 : decode cX8_goesOn 4 = .ok (.bipush 16, 2) := by decide +kernel
theorem dX8_goesOn_6 : decode cX8_goesOn 6 = .ok (.iload_n 1, 1) := by decide +kernel
theorem dX8_goesOn_7 : decode cX8_goesOn 7 = .ok (.imul, 1) := by decide +kernel
theorem dX8_goesOn_8 : decode cX8_goesOn 8 = .ok (.bipush 6, 2) := by decide +kernel
theorem dX8_goesOn_10 : decode cX8_goesOn 10 = .ok (.iadd, 1) := by decide +kernel
theorem dX8_goesOn_11 : decode cX8_goesOn 11 = .ok (.iaload, 1) := by decide +kernel
theorem dX8_goesOn_12 : decode cX8_goesOn 12 = .ok (.iconst 1, 1) := by decide +kernel
theorem dX8_goesOn_13 : decode cX8_goesOn 13 = .ok (.if_icmp .ne 7, 3) := by decide +kernel
theorem dX8_goesOn_16 : decode cX8_goesOn 16 = .ok (.iconst 1, 1) := by decide +kernel
theorem dX8_goesOn_17 : decode cX8_goesOn 17 = .ok (.goto 4, 3) := by decide +kernel
theorem dX8_goesOn_20 : decode cX8_goesOn 20 = .ok (.iconst 0, 1) := by decide +kernel
theorem dX8_goesOn_21 : decode cX8_goesOn 21 = .ok (.istore_n 2, 1) := by decide +kernel
theorem dX8_goesOn_22 : decode cX8_goesOn 22 = .ok (.aload_n 0, 1) := by decide +kernel
theorem dX8_goesOn_23 : decode cX8_goesOn 23 = .ok (.iload_n 1, 1) := by decide +kernel
theorem dX8_goesOn_24 : decode cX8_goesOn 24 = .ok (.invokevirtual 210, 3) := by decide +kernel
theorem dX8_goesOn_27 : decode cX8_goesOn 27 = .ok (.iload_n 2, 1) := by decide +kernel
theorem dX8_goesOn_28 : decode cX8_goesOn 28 = .ok (.ifCond .eq 11, 3) := by decide +kernel
theorem dX8_goesOn_31 : decode cX8_goesOn 31 = .ok (.aload_n 0, 1) := by decide +kernel
theorem dX8_goesOn_32 : decode cX8_goesOn 32 = .ok (.iload_n 1, 1) := by decide +kernel
theorem dX8_goesOn_33 : decode cX8_goesOn 33 = .ok (.invokevirtual 213, 3) := by decide +kernel
theorem dX8_goesOn_36 : decode cX8_goesOn 36 = .ok (.goto 9, 3) := by decide +kernel
theorem dX8_goesOn_39 : decode cX8_goesOn 39 = .ok (.aload_n 0, 1) := by decide +kernel
theorem dX8_goesOn_40 : decode cX8_goesOn 40 = .ok (.iload_n 1, 1) := by decide +kernel
theorem dX8_goesOn_41 : decode cX8_goesOn 41 = .ok (.iconst 0, 1) := by decide +kernel
theorem dX8_goesOn_42 : decode cX8_goesOn 42 = .ok (.invokevirtual 216, 3) := by decide +kernel
theorem dX8_goesOn_45 : decode cX8_goesOn 45 = .ok (.return_, 1) := by decide +kernel
set_option maxRecDepth 100000 in
set_option maxHeartbeats 4000000 in
theorem c_X8_goesOn_0_p {hp : List gA} {M : gMd} {l : Nat} {E : List (Int32 × List Int32)}  (HM : gMod hp M) (ok : oX8_goesOn_0 M l E)  : gM yX8_goesOn cX8_goesOn 3 (none) 6 143 [.ref 122, .int 0] (hp) (0) (0) (fun v h => v = none ∧ ∃ M' E', gMod h M' ∧ gFM hp h ∧ gDo 0 (pX8_goesOn_0 M) l E M' E') := by
  refine gM_of (ls0 := [some (.ref 122), some (.int 0), none]) (by decide +kernel) (Nat.le_of_ble_eq_true rfl) rfl fun X C E9 => ?_
  obtain ⟨P, ep⟩ : ∃ P, P = pX8_goesOn_0 M := ⟨_, rfl⟩
  rw [← ep] at E9
  unfold pX8_goesOn_0 at ep
  unfold oX8_goesOn_0 at ok
  refine g_aload_n (q := 1) C dX8_goesOn_0 rfl rfl ?_
  refine g_getfield (v := .ref 127) (q := 4) C fX8_22 dX8_goesOn_1 rfl HM.1 rfl ?_
  refine g_bipush (v := 16) (q := 6) C dX8_goesOn_4 (by decide) rfl ?_
  refine g_iload_n (q := 7) C dX8_goesOn_6 rfl rfl ?_
  refine g_imul (q := 8) C dX8_goesOn_7 rfl ?_
  refine g_bipush (v := 6) (q := 10) C dX8_goesOn_8 (by decide) rfl ?_
  refine g_iadd (q := 11) C dX8_goesOn_10 rfl ?_
  refine g_ialoadN (x := (M.a 4 6)) (j := 6) (q := 12) C dX8_goesOn_11 rfl (HM.ar (i := 4) (n := 772) (by decide) rfl) (pk_in 6 772 (by decide)) (pk_cl 6) rfl ?_
  refine g_iconst (v := 1) (q := 13) C dX8_goesOn_12 (by decide) rfl ?_
  suffices K13 : gG X 21 [some (.ref 122), some (.int 0), none] [.int (if (M.a 4 6) = 1 then 1 else 0 : Int32)] hp 0 0 by
    refine g_icmp_ne (t := 20) (q := 16) C dX8_goesOn_13 (by decide) rfl (fun c_13 => ?_) (fun c_13 => ?_)
    · refine g_iconst (v := 0) (q := 21) C dX8_goesOn_20 (by decide) rfl ?_
      rw [if_neg c_13] at K13
      exact K13
    · refine g_iconst (v := 1) (q := 17) C dX8_goesOn_16 (by decide) rfl ?_
      refine g_goto (q := 21) C dX8_goesOn_17 (by decide) ?_
      rw [if_pos c_13] at K13
      exact K13
  refine g_istore_n (q := 22) C dX8_goesOn_21 (Nat.le_of_ble_eq_true rfl) (by simp only [gset]; rfl) rfl ?_
  refine g_aload_n (q := 23) C dX8_goesOn_22 rfl rfl ?_
  refine g_iload_n (q := 24) C dX8_goesOn_23 rfl rfl ?_
  refine g_callVvp (q := 27) (As := [.int 0]) C gyX8_isThrough gvX8_isThrough t_1384 (c_X8_isThrough_0_m HM) dX8_goesOn_24 rfl HM.1 rfl rfl rfl (Nat.le_of_ble_eq_true rfl) (Nat.le_of_ble_eq_true rfl) (Nat.le_of_ble_eq_true rfl) (Nat.le_of_ble_eq_true rfl) (Nat.le_of_ble_eq_true rfl) rfl (fun h1 z1 => ?_)
  obtain ⟨HL1, fr1⟩ := z1
  refine g_iload_n (q := 28) C dX8_goesOn_27 rfl rfl ?_
  refine g_if_eq (t := 39) (q := 31) C dX8_goesOn_28 (by decide) rfl (fun c_28 => ?_) (fun c_28 => ?_)
  ·
    rw [if_pos c_28] at ok ep
    refine g_aload_n (q := 40) C dX8_goesOn_39 rfl rfl ?_
    refine g_iload_n (q := 41) C dX8_goesOn_40 rfl rfl ?_
    refine g_iconst (v := 0) (q := 42) C dX8_goesOn_41 (by decide) rfl ?_
    refine g_callVvp (q := 45) (As := [.int 0, .int 0]) C gyX8_sendsR gvX8_sendsR t_1392 (c_X8_sendsR_0_p HL1 ok) dX8_goesOn_42 rfl HL1.1 rfl rfl rfl (Nat.le_of_ble_eq_true rfl) (Nat.le_of_ble_eq_true rfl) (Nat.le_of_ble_eq_true rfl) (Nat.le_of_ble_eq_true rfl) (Nat.le_of_ble_eq_true rfl) rfl (fun h2 z2 => ?_)
    obtain ⟨M', E', HM', frs, dd⟩ := z2
    exact E9.2.1 _ _ _ _ _ dX8_goesOn_45 rfl (Nat.le_of_ble_eq_true rfl) (Nat.le_of_ble_eq_true rfl) ⟨rfl, _, _, HM', (gFM.trans fr1 frs), by rw [ep]; exact dd⟩
  ·
    rw [if_neg c_28] at ok ep
    refine g_aload_n (q := 32) C dX8_goesOn_31 rfl rfl ?_
    refine g_iload_n (q := 33) C dX8_goesOn_32 rfl rfl ?_
    refine g_callVvp (q := 36) (As := [.int 0]) C gyX8_sendsOut gvX8_sendsOut t_1304 (c_X8_sendsOut_0_p HL1 ok) dX8_goesOn_33 rfl HL1.1 rfl rfl rfl (Nat.le_of_ble_eq_true rfl) (Nat.le_of_ble_eq_true rfl) (Nat.le_of_ble_eq_true rfl) (Nat.le_of_ble_eq_true rfl) (Nat.le_of_ble_eq_true rfl) rfl (fun h3 z3 => ?_)
    obtain ⟨M', E', HM', frs, dd⟩ := z3
    refine g_goto (q := 45) C dX8_goesOn_36 (by decide) ?_
    exact E9.2.1 _ _ _ _ _ dX8_goesOn_45 rfl (Nat.le_of_ble_eq_true rfl) (Nat.le_of_ble_eq_true rfl) ⟨rfl, _, _, HM', (gFM.trans fr1 frs), by rw [ep]; exact dd⟩
def pX8_sendsPending_1 (M : gMd) : gMd × Option (Int32 × Int32) := ((M.arr 14 (gCpy (M.a 14) 0 (M.a 4) (96 + (M.a 4 20).toNatClampNeg) ((M.a 4 23).toNatClampNeg))), some (((64 * ((M.arr 14 (gCpy (M.a 14) 0 (M.a 4) (96 + (M.a 4 20).toNatClampNeg) ((M.a 4 23).toNatClampNeg))).a 4 21)) + (if ((M.arr 14 (gCpy (M.a 14) 0 (M.a 4) (96 + (M.a 4 20).toNatClampNeg) ((M.a 4 23).toNatClampNeg))).a 4 22) = 1 then 32 else 0 : Int32)), ((M.arr 14 (gCpy (M.a 14) 0 (M.a 4) (96 + (M.a 4 20).toNatClampNeg) ((M.a 4 23).toNatClampNeg))).a 4 23)))
def oX8_sendsPending_1 (M : gMd) (l : Nat) (E : List (Int32 × List Int32)) : Prop := (gIr (M.a 4 23) 60 ∧ (gIr (M.a 4 20) 60 ∧ gSk (M.arr 14 (gCpy (M.a 14) 0 (M.a 4) (96 + (M.a 4 20).toNatClampNeg) ((M.a 4 23).toNatClampNeg))) ((64 * ((M.arr 14 (gCpy (M.a 14) 0 (M.a 4) (96 + (M.a 4 20).toNatClampNeg) ((M.a 4 23).toNatClampNeg))).a 4 21)) + (if ((M.arr 14 (gCpy (M.a 14) 0 (M.a 4) (96 + (M.a 4 20).toNatClampNeg) ((M.a 4 23).toNatClampNeg))).a 4 22) = 1 then 32 else 0 : Int32)) ((M.arr 14 (gCpy (M.a 14) 0 (M.a 4) (96 + (M.a 4 20).toNatClampNeg) ((M.a 4 23).toNatClampNeg))).a 4 23) l E))
set_option maxRecDepth 100000 in
set_option maxHeartbeats 4000000 in
theorem c_X8_sendsPending_1_p {hp : List gA} {M : gMd} {l : Nat} {E : List (Int32 × List Int32)}  (HM : gMod hp M) (ok : oX8_sendsPending_1 M l E)  : gM yX8_sendsPending cX8_sendsPending 5 (none) 4 95 [.ref 122, .int 1] (hp) (0) (0) (fun v h => v = none ∧ ∃ M' E', gMod h M' ∧ gFM hp h ∧ gDo 1 (pX8_sendsPending_1 M) l E M' E') := by
  refine gM_of (ls0 := [some (.ref 122), some (.int 1), none, none, none]) (by decide +kernel) (Nat.le_of_ble_eq_true rfl) rfl fun X C E9 => ?_
  obtain ⟨P, ep⟩ : ∃ P, P = pX8_sendsPending_1 M := ⟨_, rfl⟩
  rw [← ep] at E9
  unfold pX8_sendsPending_1 at ep
  unfold oX8_sendsPending_1 at ok
  obtain ⟨h7, ok⟩ := ok
  obtain ⟨h4, ok⟩ := ok
  have h60 := h7.le (by decide)
  have t60 := h4.le (by decide)
  refine g_bipush (v := 16) (q := 2) C dX8_sendsPending_0 (by decide) rfl ?_
  refine g_iload_n (q := 3) C dX8_sendsPending_2 rfl rfl ?_
  refine g_imul (q := 4) C dX8_sendsPending_3 rfl ?_
  refine g_istore_n (q := 5) C dX8_sendsPending_4 (Nat.le_of_ble_eq_true rfl) (by simp only [gset]; rfl) rfl ?_
  refine g_bipush (v := 32) (q := 7) C dX8_sendsPending_5 (by decide) rfl ?_
  refine g_bipush (v := 64) (q := 9) C dX8_sendsPending_7 (by decide) rfl ?_
  refine g_iload_n (q := 10) C dX8_sendsPending_9 rfl rfl ?_
  refine g_imul (q := 11) C dX8_sendsPending_10 rfl ?_
  refine g_iadd (q := 12) C dX8_sendsPending_11 rfl ?_
  refine g_aload_n (q := 13) C dX8_sendsPending_12 rfl rfl ?_
  refine g_getfield (v := .ref 127) (q := 16) C fX8_22 dX8_sendsPending_13 rfl HM.1 rfl ?_
  refine g_iload_n (q := 17) C dX8_sendsPending_16 rfl rfl ?_
  refine g_iconst (v := 4) (q := 18) C dX8_sendsPending_17 (by decide) rfl ?_
  refine g_iadd (q := 19) C dX8_sendsPending_18 rfl ?_
  refine g_ialoadN (x := (M.a 4 20)) (j := 20) (q := 20) C dX8_sendsPending_19 rfl (HM.ar (i := 4) (n := 772) (by decide) rfl) (pk_in 20 772 (by decide)) (pk_cl 20) rfl ?_
  refine g_iadd (q := 21) C dX8_sendsPending_20 rfl ?_
  rw [show (32 : Int32) + 64 * 1 + (M.a 4 20) = nI (96 + (M.a 4 20).toNatClampNeg) from by rw [← nI_add, ← h4.c (by decide)]; rfl]
  refine g_istore_n (q := 22) C dX8_sendsPending_21 (Nat.le_of_ble_eq_true rfl) (by simp only [gset]; rfl) rfl ?_
  refine g_iconst (v := 0) (q := 23) C dX8_sendsPending_22 (by decide) rfl ?_
  refine g_istore (q := 25) C dX8_sendsPending_23 (Nat.le_of_ble_eq_true rfl) (by simp only [gset]; rfl) rfl ?_
  have LL1 : ∀ d j : Nat, j + d = (M.a 4 23).toNatClampNeg → ∀  (h1 : List gA), gMod h1 (M.arr 14 (gCpy (M.a 14) 0 (M.a 4) (96 + (M.a 4 20).toNatClampNeg) j)) → gFM hp h1 → gG X 25 [some (.ref 122), some (.int 1), some (.int 16), some (.int ((nI (96 + (M.a 4 20).toNatClampNeg)))), some (.int ((nI j)))] [] h1 0 0 := by
    intro d
    induction d with
    | zero =>
      intro j hj  h1 HL1_ fr_
      obtain rfl : (M.a 4 23).toNatClampNeg = j := by omega
      refine g_iload (q := 27) C dX8_sendsPending_25 rfl rfl ?_
      refine g_aload_n (q := 28) C dX8_sendsPending_27 rfl rfl ?_
      refine g_getfield (v := .ref 127) (q := 31) C fX8_22 dX8_sendsPending_28 rfl HL1_.1 rfl ?_
      refine g_iload_n (q := 32) C dX8_sendsPending_31 rfl rfl ?_
      refine g_bipush (v := 7) (q := 34) C dX8_sendsPending_32 (by decide) rfl ?_
      refine g_iadd (q := 35) C dX8_sendsPending_34 rfl ?_
      refine g_ialoadN (x := ((M.arr 14 (gCpy (M.a 14) 0 (M.a 4) (96 + (M.a 4 20).toNatClampNeg) ((M.a 4 23).toNatClampNeg))).a 4 23)) (j := 23) (q := 36) C dX8_sendsPending_35 rfl (HL1_.ar (i := 4) (n := 772) (by decide) rfl) (pk_in 23 772 (by decide)) (pk_cl 23) rfl ?_
      rw [show ((M.arr 14 (gCpy (M.a 14) 0 (M.a 4) (96 + (M.a 4 20).toNatClampNeg) ((M.a 4 23).toNatClampNeg))).a 4 23) = nI ((M.a 4 23).toNatClampNeg) from ((garr_o (by decide))).trans (h7.c (by decide))]
      refine g_icmp_ge_t (t := 61) C dX8_sendsPending_36 (by decide) (nI_le (Nat.le_refl _) (by omega)) ?_
      refine g_aload_n (q := 62) C dX8_sendsPending_61 rfl rfl ?_
      refine g_iload_n (q := 63) C dX8_sendsPending_62 rfl rfl ?_
      refine g_bipush (v := 64) (q := 65) C dX8_sendsPending_63 (by decide) rfl ?_
      refine g_aload_n (q := 66) C dX8_sendsPending_65 rfl rfl ?_
      refine g_getfield (v := .ref 127) (q := 69) C fX8_22 dX8_sendsPending_66 rfl HL1_.1 rfl ?_
      refine g_iload_n (q := 70) C dX8_sendsPending_69 rfl rfl ?_
      refine g_iconst (v := 5) (q := 71) C dX8_sendsPending_70 (by decide) rfl ?_
      refine g_iadd (q := 72) C dX8_sendsPending_71 rfl ?_
      refine g_ialoadN (x := ((M.arr 14 (gCpy (M.a 14) 0 (M.a 4) (96 + (M.a 4 20).toNatClampNeg) ((M.a 4 23).toNatClampNeg))).a 4 21)) (j := 21) (q := 73) C dX8_sendsPending_72 rfl (HL1_.ar (i := 4) (n := 772) (by decide) rfl) (pk_in 21 772 (by decide)) (pk_cl 21) rfl ?_
      refine g_imul (q := 74) C dX8_sendsPending_73 rfl ?_
      refine g_aload_n (q := 75) C dX8_sendsPending_74 rfl rfl ?_
      refine g_getfield (v := .ref 127) (q := 78) C fX8_22 dX8_sendsPending_75 rfl HL1_.1 rfl ?_
      refine g_iload_n (q := 79) C dX8_sendsPending_78 rfl rfl ?_
      refine g_bipush (v := 6) (q := 81) C dX8_sendsPending_79 (by decide) rfl ?_
      refine g_iadd (q := 82) C dX8_sendsPending_81 rfl ?_
      refine g_ialoadN (x := ((M.arr 14 (gCpy (M.a 14) 0 (M.a 4) (96 + (M.a 4 20).toNatClampNeg) ((M.a 4 23).toNatClampNeg))).a 4 22)) (j := 22) (q := 83) C dX8_sendsPending_82 rfl (HL1_.ar (i := 4) (n := 772) (by decide) rfl) (pk_in 22 772 (by decide)) (pk_cl 22) rfl ?_
      refine g_iconst (v := 1) (q := 84) C dX8_sendsPending_83 (by decide) rfl ?_
      suffices K84 : gG X 93 [some (.ref 122), some (.int 1), some (.int 16), some (.int ((nI (96 + (M.a 4 20).toNatClampNeg)))), some (.int ((nI ((M.a 4 23).toNatClampNeg))))] [.int (if ((M.arr 14 (gCpy (M.a 14) 0 (M.a 4) (96 + (M.a 4 20).toNatClampNeg) ((M.a 4 23).toNatClampNeg))).a 4 22) = 1 then 32 else 0 : Int32), .int ((64 * ((M.arr 14 (gCpy (M.a 14) 0 (M.a 4) (96 + (M.a 4 20).toNatClampNeg) ((M.a 4 23).toNatClampNeg))).a 4 21))), .int 1, .ref 122] h1 0 0 by
        refine g_icmp_ne (t := 92) (q := 87) C dX8_sendsPending_84 (by decide) rfl (fun c_84 => ?_) (fun c_84 => ?_)
        · refine g_iconst (v := 0) (q := 93) C dX8_sendsPending_92 (by decide) rfl ?_
          rw [if_neg c_84] at K84
          exact K84
        · refine g_bipush (v := 32) (q := 89) C dX8_sendsPending_87 (by decide) rfl ?_
          refine g_goto (q := 93) C dX8_sendsPending_89 (by decide) ?_
          rw [if_pos c_84] at K84
          exact K84
      refine g_iadd (q := 94) C dX8_sendsPending_93 rfl ?_
      refine g_aload_n (q := 95) C dX8_sendsPending_94 rfl rfl ?_
      refine g_getfield (v := .ref 127) (q := 98) C fX8_22 dX8_sendsPending_95 rfl HL1_.1 rfl ?_
      refine g_iload_n (q := 99) C dX8_sendsPending_98 rfl rfl ?_
      refine g_bipush (v := 7) (q := 101) C dX8_sendsPending_99 (by decide) rfl ?_
      refine g_iadd (q := 102) C dX8_sendsPending_101 rfl ?_
      refine g_ialoadN (x := ((M.arr 14 (gCpy (M.a 14) 0 (M.a 4) (96 + (M.a 4 20).toNatClampNeg) ((M.a 4 23).toNatClampNeg))).a 4 23)) (j := 23) (q := 103) C dX8_sendsPending_102 rfl (HL1_.ar (i := 4) (n := 772) (by decide) rfl) (pk_in 23 772 (by decide)) (pk_cl 23) rfl ?_
      refine g_callVvp (q := 106) (As := [.int 1, .int (((64 * ((M.arr 14 (gCpy (M.a 14) 0 (M.a 4) (96 + (M.a 4 20).toNatClampNeg) ((M.a 4 23).toNatClampNeg))).a 4 21)) + (if ((M.arr 14 (gCpy (M.a 14) 0 (M.a 4) (96 + (M.a 4 20).toNatClampNeg) ((M.a 4 23).toNatClampNeg))).a 4 22) = 1 then 32 else 0 : Int32))), .int (((M.arr 14 (gCpy (M.a 14) 0 (M.a 4) (96 + (M.a 4 20).toNatClampNeg) ((M.a 4 23).toNatClampNeg))).a 4 23))]) C gyX8_sends gvX8_sends t_1312 (c_X8_sends_1_p HL1_ ok) dX8_sendsPending_103 rfl HL1_.1 rfl rfl rfl (Nat.le_of_ble_eq_true rfl) (Nat.le_of_ble_eq_true rfl) (Nat.le_of_ble_eq_true rfl) (Nat.le_of_ble_eq_true rfl) (Nat.le_of_ble_eq_true rfl) rfl (fun h2 z2 => ?_)
      obtain ⟨M', E', HM', frs, dd⟩ := z2
      exact E9.2.1 _ _ _ _ _ dX8_sendsPending_106 rfl (Nat.le_of_ble_eq_true rfl) (Nat.le_of_ble_eq_true rfl) ⟨rfl, _, _, HM', (gFM.trans fr_ frs), by rw [ep]; exact dd⟩
    | succ d ih =>
      intro j hj  h1 HL1_ fr_
      refine g_iload (q := 27) C dX8_sendsPending_25 rfl rfl ?_
      refine g_aload_n (q := 28) C dX8_sendsPending_27 rfl rfl ?_
      refine g_getfield (v := .ref 127) (q := 31) C fX8_22 dX8_sendsPending_28 rfl HL1_.1 rfl ?_
      refine g_iload_n (q := 32) C dX8_sendsPending_31 rfl rfl ?_
      refine g_bipush (v := 7) (q := 34) C dX8_sendsPending_32 (by decide) rfl ?_
      refine g_iadd (q := 35) C dX8_sendsPending_34 rfl ?_
      refine g_ialoadN (x := ((M.arr 14 (gCpy (M.a 14) 0 (M.a 4) (96 + (M.a 4 20).toNatClampNeg) j)).a 4 23)) (j := 23) (q := 36) C dX8_sendsPending_35 rfl (HL1_.ar (i := 4) (n := 772) (by decide) rfl) (pk_in 23 772 (by decide)) (pk_cl 23) rfl ?_
      rw [show ((M.arr 14 (gCpy (M.a 14) 0 (M.a 4) (96 + (M.a 4 20).toNatClampNeg) j)).a 4 23) = nI ((M.a 4 23).toNatClampNeg) from ((garr_o (by decide))).trans (h7.c (by decide))]
      refine g_icmp_ge_f (t := 61) (q := 39) C dX8_sendsPending_36 (by decide) rfl (fun h => nI_ge (show j < (M.a 4 23).toNatClampNeg by omega) (by omega) h) ?_
      refine g_aload_n (q := 40) C dX8_sendsPending_39 rfl rfl ?_
      refine g_getfield (v := .ref 137) (q := 43) C fX8_57 dX8_sendsPending_40 rfl HL1_.1 rfl ?_
      refine g_iload (q := 45) C dX8_sendsPending_43 rfl rfl ?_
      refine g_aload_n (q := 46) C dX8_sendsPending_45 rfl rfl ?_
      refine g_getfield (v := .ref 127) (q := 49) C fX8_22 dX8_sendsPending_46 rfl HL1_.1 rfl ?_
      refine g_iload_n (q := 50) C dX8_sendsPending_49 rfl rfl ?_
      refine g_iload (q := 52) C dX8_sendsPending_50 rfl rfl ?_
      refine g_iadd (q := 53) C dX8_sendsPending_52 rfl ?_
      refine g_ialoadN (x := ((M.arr 14 (gCpy (M.a 14) 0 (M.a 4) (96 + (M.a 4 20).toNatClampNeg) j)).a 4 ((96 + (M.a 4 20).toNatClampNeg) + j))) (j := ((96 + (M.a 4 20).toNatClampNeg) + j)) (q := 54) C dX8_sendsPending_53 rfl (HL1_.ar (i := 4) (n := 772) (by decide) rfl) (pk_in ((96 + (M.a 4 20).toNatClampNeg) + j) 772 (by omega) (nI_add (96 + (M.a 4 20).toNatClampNeg) j)) (pk_cl ((96 + (M.a 4 20).toNatClampNeg) + j) (nI_add (96 + (M.a 4 20).toNatClampNeg) j) (by omega)) rfl ?_
      refine g_iastoreN (j := j) (q := 55) C dX8_sendsPending_54 rfl (HL1_.ar (i := 14) (n := 256) (by decide) rfl) (pk_in j 256 (by omega)) (pk_cl j rfl (by omega)) ?_
      refine gMsto (i := 14) (j := j) (x := ((M.arr 14 (gCpy (M.a 14) 0 (M.a 4) (96 + (M.a 4 20).toNatClampNeg) j)).a 4 ((96 + (M.a 4 20).toNatClampNeg) + j))) HL1_ (by decide) rfl rfl fun h3 HL3 fr3 => ?_
      refine g_iinc (v := (nI (j + 1))) (q := 58) C dX8_sendsPending_55 rfl (nI_1 j) (by simp only [gset]; rfl) rfl ?_
      have e9 : (M.arr 14 (gCpy (M.a 14) 0 (M.a 4) (96 + (M.a 4 20).toNatClampNeg) j)).put 14 (0 + j) ((M.arr 14 (gCpy (M.a 14) 0 (M.a 4) (96 + (M.a 4 20).toNatClampNeg) j)).a 4 ((96 + (M.a 4 20).toNatClampNeg) + j)) = (M.arr 14 (gCpy (M.a 14) 0 (M.a 4) (96 + (M.a 4 20).toNatClampNeg) (j + 1))) := garr_cp (by show (M.arr 14 (gCpy (M.a 14) 0 (M.a 4) (96 + (M.a 4 20).toNatClampNeg) j)).a 4 _ = _; rw [(garr_o (by decide))])
      have HL9 : gMod h3 (M.arr 14 (gCpy (M.a 14) 0 (M.a 4) (96 + (M.a 4 20).toNatClampNeg) (j + 1))) := by rw [← e9, Nat.zero_add]; exact HL3
      refine g_goto (q := 25) C dX8_sendsPending_58 (by decide) ?_
      exact ih (j + 1) (by omega)  h3 HL9 (gFM.trans fr_ fr3)
  have HL8 : gMod hp (M.arr 14 (gCpy (M.a 14) 0 (M.a 4) (96 + (M.a 4 20).toNatClampNeg) 0)) := by rw [garr_0]; exact HM
  exact LL1 ((M.a 4 23).toNatClampNeg - 0) 0 (by omega)  hp HL8 gFM.rf
  
def pX8_sendsOut_1 (M : gMd) : gMd × Option (Int32 × Int32) := (pX8_sendsPending_1 (((M.put 4 23 (if (M.a 4 2) ≤ ((M.a 4 19) - (M.a 4 20)) then (M.a 4 2) else ((M.a 4 19) - (M.a 4 20)) : Int32)).put 4 22 (if ((M.a 4 19) - (M.a 4 20)) ≤ (M.a 4 2) then 0 else 1 : Int32)).put 4 21 (M.a 4 16)))
def oX8_sendsOut_1 (M : gMd) (l : Nat) (E : List (Int32 × List Int32)) : Prop := oX8_sendsPending_1 (((M.put 4 23 (if (M.a 4 2) ≤ ((M.a 4 19) - (M.a 4 20)) then (M.a 4 2) else ((M.a 4 19) - (M.a 4 20)) : Int32)).put 4 22 (if ((M.a 4 19) - (M.a 4 20)) ≤ (M.a 4 2) then 0 else 1 : Int32)).put 4 21 (M.a 4 16)) l E
set_option maxRecDepth 100000 in
set_option maxHeartbeats 4000000 in
theorem c_X8_sendsOut_1_p {hp : List gA} {M : gMd} {l : Nat} {E : List (Int32 × List Int32)}  (HM : gMod hp M) (ok : oX8_sendsOut_1 M l E)  : gM yX8_sendsOut cX8_sendsOut 5 (none) 5 119 [.ref 122, .int 1] (hp) (0) (0) (fun v h => v = none ∧ ∃ M' E', gMod h M' ∧ gFM hp h ∧ gDo 1 (pX8_sendsOut_1 M) l E M' E') := by
  refine gM_of (ls0 := [some (.ref 122), some (.int 1), none, none, none]) (by decide +kernel) (Nat.le_of_ble_eq_true rfl) rfl fun X C E9 => ?_
  obtain ⟨P, ep⟩ : ∃ P, P = pX8_sendsOut_1 M := ⟨_, rfl⟩
  rw [← ep] at E9
  unfold pX8_sendsOut_1 at ep
  unfold oX8_sendsOut_1 at ok
  refine g_bipush (v := 16) (q := 2) C dX8_sendsOut_0 (by decide) rfl ?_
  refine g_iload_n (q := 3) C dX8_sendsOut_2 rfl rfl ?_
  refine g_imul (q := 4) C dX8_sendsOut_3 rfl ?_
  refine g_istore_n (q := 5) C dX8_sendsOut_4 (Nat.le_of_ble_eq_true rfl) (by simp only [gset]; rfl) rfl ?_
  refine g_aload_n (q := 6) C dX8_sendsOut_5 rfl rfl ?_
  refine g_getfield (v := .ref 127) (q := 9) C fX8_22 dX8_sendsOut_6 rfl HM.1 rfl ?_
  refine g_iload_n (q := 10) C dX8_sendsOut_9 rfl rfl ?_
  refine g_iconst (v := 3) (q := 11) C dX8_sendsOut_10 (by decide) rfl ?_
  refine g_iadd (q := 12) C dX8_sendsOut_11 rfl ?_
  refine g_ialoadN (x := (M.a 4 19)) (j := 19) (q := 13) C dX8_sendsOut_12 rfl (HM.ar (i := 4) (n := 772) (by decide) rfl) (pk_in 19 772 (by decide)) (pk_cl 19) rfl ?_
  refine g_aload_n (q := 14) C dX8_sendsOut_13 rfl rfl ?_
  refine g_getfield (v := .ref 127) (q := 17) C fX8_22 dX8_sendsOut_14 rfl HM.1 rfl ?_
  refine g_iload_n (q := 18) C dX8_sendsOut_17 rfl rfl ?_
  refine g_iconst (v := 4) (q := 19) C dX8_sendsOut_18 (by decide) rfl ?_
  refine g_iadd (q := 20) C dX8_sendsOut_19 rfl ?_
  refine g_ialoadN (x := (M.a 4 20)) (j := 20) (q := 21) C dX8_sendsOut_20 rfl (HM.ar (i := 4) (n := 772) (by decide) rfl) (pk_in 20 772 (by decide)) (pk_cl 20) rfl ?_
  refine g_isub (q := 22) C dX8_sendsOut_21 rfl ?_
  refine g_istore_n (q := 23) C dX8_sendsOut_22 (Nat.le_of_ble_eq_true rfl) (by simp only [gset]; rfl) rfl ?_
  refine g_aload_n (q := 24) C dX8_sendsOut_23 rfl rfl ?_
  refine g_getfield (v := .ref 127) (q := 27) C fX8_22 dX8_sendsOut_24 rfl HM.1 rfl ?_
  refine g_bipush (v := 16) (q := 29) C dX8_sendsOut_27 (by decide) rfl ?_
  refine g_iconst (v := 1) (q := 30) C dX8_sendsOut_29 (by decide) rfl ?_
  refine g_iload_n (q := 31) C dX8_sendsOut_30 rfl rfl ?_
  refine g_isub (q := 32) C dX8_sendsOut_31 rfl ?_
  refine g_imul (q := 33) C dX8_sendsOut_32 rfl ?_
  refine g_iconst (v := 2) (q := 34) C dX8_sendsOut_33 (by decide) rfl ?_
  refine g_iadd (q := 35) C dX8_sendsOut_34 rfl ?_
  refine g_ialoadN (x := (M.a 4 2)) (j := 2) (q := 36) C dX8_sendsOut_35 rfl (HM.ar (i := 4) (n := 772) (by decide) rfl) (pk_in 2 772 (by decide)) (pk_cl 2) rfl ?_
  refine g_istore (q := 38) C dX8_sendsOut_36 (Nat.le_of_ble_eq_true rfl) (by simp only [gset]; rfl) rfl ?_
  refine g_aload_n (q := 39) C dX8_sendsOut_38 rfl rfl ?_
  refine g_getfield (v := .ref 127) (q := 42) C fX8_22 dX8_sendsOut_39 rfl HM.1 rfl ?_
  refine g_iload_n (q := 43) C dX8_sendsOut_42 rfl rfl ?_
  refine g_bipush (v := 7) (q := 45) C dX8_sendsOut_43 (by decide) rfl ?_
  refine g_iadd (q := 46) C dX8_sendsOut_45 rfl ?_
  refine g_iload_n (q := 47) C dX8_sendsOut_46 rfl rfl ?_
  refine g_iload (q := 49) C dX8_sendsOut_47 rfl rfl ?_
  suffices K49 : gG X 58 [some (.ref 122), some (.int 1), some (.int 16), some (.int (((M.a 4 19) - (M.a 4 20)))), some (.int ((M.a 4 2)))] [.int (if (M.a 4 2) ≤ ((M.a 4 19) - (M.a 4 20)) then (M.a 4 2) else ((M.a 4 19) - (M.a 4 20)) : Int32), .int 23, .ref 127] hp 0 0 by
    refine g_icmp_ge (t := 56) (q := 52) C dX8_sendsOut_49 (by decide) rfl (fun c_49 => ?_) (fun c_49 => ?_)
    · refine g_iload (q := 58) C dX8_sendsOut_56 rfl rfl ?_
      rw [if_pos c_49] at K49
      exact K49
    · refine g_iload_n (q := 53) C dX8_sendsOut_52 rfl rfl ?_
      refine g_goto (q := 58) C dX8_sendsOut_53 (by decide) ?_
      rw [if_neg c_49] at K49
      exact K49
  refine g_iastoreN (j := 23) (q := 59) C dX8_sendsOut_58 rfl (HM.ar (i := 4) (n := 772) (by decide) rfl) (pk_in 23 772 (by decide)) (pk_cl 23) ?_
  refine gMsto (i := 4) (j := 23) (x := (if (M.a 4 2) ≤ ((M.a 4 19) - (M.a 4 20)) then (M.a 4 2) else ((M.a 4 19) - (M.a 4 20)) : Int32)) HM (by decide) rfl rfl fun h1 HL1 fr1 => ?_
  refine g_aload_n (q := 60) C dX8_sendsOut_59 rfl rfl ?_
  refine g_getfield (v := .ref 127) (q := 63) C fX8_22 dX8_sendsOut_60 rfl HL1.1 rfl ?_
  refine g_iload_n (q := 64) C dX8_sendsOut_63 rfl rfl ?_
  refine g_bipush (v := 6) (q := 66) C dX8_sendsOut_64 (by decide) rfl ?_
  refine g_iadd (q := 67) C dX8_sendsOut_66 rfl ?_
  refine g_iload_n (q := 68) C dX8_sendsOut_67 rfl rfl ?_
  refine g_iload (q := 70) C dX8_sendsOut_68 rfl rfl ?_
  suffices K70 : gG X 78 [some (.ref 122), some (.int 1), some (.int 16), some (.int (((M.a 4 19) - (M.a 4 20)))), some (.int ((M.a 4 2)))] [.int (if ((M.a 4 19) - (M.a 4 20)) ≤ (M.a 4 2) then 0 else 1 : Int32), .int 22, .ref 127] h1 0 0 by
    refine g_icmp_le (t := 77) (q := 73) C dX8_sendsOut_70 (by decide) rfl (fun c_70 => ?_) (fun c_70 => ?_)
    · refine g_iconst (v := 0) (q := 78) C dX8_sendsOut_77 (by decide) rfl ?_
      rw [if_pos c_70] at K70
      exact K70
    · refine g_iconst (v := 1) (q := 74) C dX8_sendsOut_73 (by decide) rfl ?_
      refine g_goto (q := 78) C dX8_sendsOut_74 (by decide) ?_
      rw [if_neg c_70] at K70
      exact K70
  refine g_iastoreN (j := 22) (q := 79) C dX8_sendsOut_78 rfl (HL1.ar (i := 4) (n := 772) (by decide) rfl) (pk_in 22 772 (by decide)) (pk_cl 22) ?_
  refine gMsto (i := 4) (j := 22) (x := (if ((M.a 4 19) - (M.a 4 20)) ≤ (M.a 4 2) then 0 else 1 : Int32)) HL1 (by decide) rfl rfl fun h2 HL2 fr2 => ?_
  refine g_aload_n (q := 80) C dX8_sendsOut_79 rfl rfl ?_
  refine g_getfield (v := .ref 127) (q := 83) C fX8_22 dX8_sendsOut_80 rfl HL2.1 rfl ?_
  refine g_iload_n (q := 84) C dX8_sendsOut_83 rfl rfl ?_
  refine g_iconst (v := 5) (q := 85) C dX8_sendsOut_84 (by decide) rfl ?_
  refine g_iadd (q := 86) C dX8_sendsOut_85 rfl ?_
  refine g_aload_n (q := 87) C dX8_sendsOut_86 rfl rfl ?_
  refine g_getfield (v := .ref 127) (q := 90) C fX8_22 dX8_sendsOut_87 rfl HL2.1 rfl ?_
  refine g_iload_n (q := 91) C dX8_sendsOut_90 rfl rfl ?_
  refine g_iconst (v := 0) (q := 92) C dX8_sendsOut_91 (by decide) rfl ?_
  refine g_iadd (q := 93) C dX8_sendsOut_92 rfl ?_
  refine g_ialoadN (x := (M.a 4 16)) (j := 16) (q := 94) C dX8_sendsOut_93 rfl (HL2.ar (i := 4) (n := 772) (by decide) rfl) (pk_in 16 772 (by decide)) (pk_cl 16) ((gput_n (by decide)).trans (gput_n (by decide))) ?_
  refine g_iastoreN (j := 21) (q := 95) C dX8_sendsOut_94 rfl (HL2.ar (i := 4) (n := 772) (by decide) rfl) (pk_in 21 772 (by decide)) (pk_cl 21) ?_
  refine gMsto (i := 4) (j := 21) (x := (M.a 4 16)) HL2 (by decide) rfl rfl fun h3 HL3 fr3 => ?_
  refine g_aload_n (q := 96) C dX8_sendsOut_95 rfl rfl ?_
  refine g_iload_n (q := 97) C dX8_sendsOut_96 rfl rfl ?_
  refine g_callVvp (q := 100) (As := [.int 1]) C gyX8_sendsPending gvX8_sendsPending t_1308 (c_X8_sendsPending_1_p HL3 ok) dX8_sendsOut_97 rfl HL3.1 rfl rfl rfl (Nat.le_of_ble_eq_true rfl) (Nat.le_of_ble_eq_true rfl) (Nat.le_of_ble_eq_true rfl) (Nat.le_of_ble_eq_true rfl) (Nat.le_of_ble_eq_true rfl) rfl (fun h4 z4 => ?_)
  obtain ⟨M', E', HM', frs, dd⟩ := z4
  exact E9.2.1 _ _ _ _ _ dX8_sendsOut_100 rfl (Nat.le_of_ble_eq_true rfl) (Nat.le_of_ble_eq_true rfl) ⟨rfl, _, _, HM', (gFM.trans (gFM.trans (gFM.trans fr1 fr2) fr3) frs), by rw [ep]; exact dd⟩
def pX8_goesOn_1 (M : gMd) : gMd × Option (Int32 × Int32) := (if (if (M.a 4 22) = 1 then 1 else 0 : Int32) = 0 then (pX8_sendsR_1 (rX8_isThrough_1 M) 0) else (pX8_sendsOut_1 (rX8_isThrough_1 M)))
def oX8_goesOn_1 (M : gMd) (l : Nat) (E : List (Int32 × List Int32)) : Prop := (if (if (M.a 4 22) = 1 then 1 else 0 : Int32) = 0 then oX8_sendsR_1 (rX8_isThrough_1 M) 0 l E else oX8_sendsOut_1 (rX8_isThrough_1 M) l E)
set_option maxRecDepth 100000 in
set_option maxHeartbeats 4000000 in
theorem c_X8_goesOn_1_p {hp : List gA} {M : gMd} {l : Nat} {E : List (Int32 × List Int32)}  (HM : gMod hp M) (ok : oX8_goesOn_1 M l E)  : gM yX8_goesOn cX8_goesOn 3 (none) 6 143 [.ref 122, .int 1] (hp) (0) (0) (fun v h => v = none ∧ ∃ M' E', gMod h M' ∧ gFM hp h ∧ gDo 1 (pX8_goesOn_1 M) l E M' E') := by
  refine gM_of (ls0 := [some (.ref 122), some (.int 1), none]) (by decide +kernel) (Nat.le_of_ble_eq_true rfl) rfl fun X C E9 => ?_
  obtain ⟨P, ep⟩ : ∃ P, P = pX8_goesOn_1 M := ⟨_, rfl⟩
  rw [← ep] at E9
  unfold pX8_goesOn_1 at ep
  unfold oX8_goesOn_1 at ok
  refine g_aload_n (q := 1) C dX8_goesOn_0 rfl rfl ?_
  refine g_getfield (v := .ref 127) (q := 4) C fX8_22 dX8_goesOn_1 rfl HM.1 rfl ?_
  refine g_bipush (v := 16) (q := 6) C dX8_goesOn_4 (by decide) rfl ?_
  refine g_iload_n (q := 7) C dX8_goesOn_6 rfl rfl ?_
  refine g_imul (q := 8) C dX8_goesOn_7 rfl ?_
  refine g_bipush (v := 6) (q := 10) C dX8_goesOn_8 (by decide) rfl ?_
  refine g_iadd (q := 11) C dX8_goesOn_10 rfl ?_
  refine g_ialoadN (x := (M.a 4 22)) (j := 22) (q := 12) C dX8_goesOn_11 rfl (HM.ar (i := 4) (n := 772) (by decide) rfl) (pk_in 22 772 (by decide)) (pk_cl 22) rfl ?_
  refine g_iconst (v := 1) (q := 13) C dX8_goesOn_12 (by decide) rfl ?_
  suffices K13 : gG X 21 [some (.ref 122), some (.int 1), none] [.int (if (M.a 4 22) = 1 then 1 else 0 : Int32)] hp 0 0 by
    refine g_icmp_ne (t := 20) (q := 16) C dX8_goesOn_13 (by decide) rfl (fun c_13 => ?_) (fun c_13 => ?_)
    · refine g_iconst (v := 0) (q := 21) C dX8_goesOn_20 (by decide) rfl ?_
      rw [if_neg c_13] at K13
      exact K13
    · refine g_iconst (v := 1) (q := 17) C dX8_goesOn_16 (by decide) rfl ?_
      refine g_goto (q := 21) C dX8_goesOn_17 (by decide) ?_
      rw [if_pos c_13] at K13
      exact K13
  refine g_istore_n (q := 22) C dX8_goesOn_21 (Nat.le_of_ble_eq_true rfl) (by simp only [gset]; rfl) rfl ?_
  refine g_aload_n (q := 23) C dX8_goesOn_22 rfl rfl ?_
  refine g_iload_n (q := 24) C dX8_goesOn_23 rfl rfl ?_
  refine g_callVvp (q := 27) (As := [.int 1]) C gyX8_isThrough gvX8_isThrough t_1384 (c_X8_isThrough_1_m HM) dX8_goesOn_24 rfl HM.1 rfl rfl rfl (Nat.le_of_ble_eq_true rfl) (Nat.le_of_ble_eq_true rfl) (Nat.le_of_ble_eq_true rfl) (Nat.le_of_ble_eq_true rfl) (Nat.le_of_ble_eq_true rfl) rfl (fun h1 z1 => ?_)
  obtain ⟨HL1, fr1⟩ := z1
  refine g_iload_n (q := 28) C dX8_goesOn_27 rfl rfl ?_
  refine g_if_eq (t := 39) (q := 31) C dX8_goesOn_28 (by decide) rfl (fun c_28 => ?_) (fun c_28 => ?_)
  ·
    rw [if_pos c_28] at ok ep
    refine g_aload_n (q := 40) C dX8_goesOn_39 rfl rfl ?_
    refine g_iload_n (q := 41) C dX8_goesOn_40 rfl rfl ?_
    refine g_iconst (v := 0) (q := 42) C dX8_goesOn_41 (by decide) rfl ?_
    refine g_callVvp (q := 45) (As := [.int 1, .int 0]) C gyX8_sendsR gvX8_sendsR t_1392 (c_X8_sendsR_1_p HL1 ok) dX8_goesOn_42 rfl HL1.1 rfl rfl rfl (Nat.le_of_ble_eq_true rfl) (Nat.le_of_ble_eq_true rfl) (Nat.le_of_ble_eq_true rfl) (Nat.le_of_ble_eq_true rfl) (Nat.le_of_ble_eq_true rfl) rfl (fun h2 z2 => ?_)
    obtain ⟨M', E', HM', frs, dd⟩ := z2
    exact E9.2.1 _ _ _ _ _ dX8_goesOn_45 rfl (Nat.le_of_ble_eq_true rfl) (Nat.le_of_ble_eq_true rfl) ⟨rfl, _, _, HM', (gFM.trans fr1 frs), by rw [ep]; exact dd⟩
  ·
    rw [if_neg c_28] at ok ep
    refine g_aload_n (q := 32) C dX8_goesOn_31 rfl rfl ?_
    refine g_iload_n (q := 33) C dX8_goesOn_32 rfl rfl ?_
    refine g_callVvp (q := 36) (As := [.int 1]) C gyX8_sendsOut gvX8_sendsOut t_1304 (c_X8_sendsOut_1_p HL1 ok) dX8_goesOn_33 rfl HL1.1 rfl rfl rfl (Nat.le_of_ble_eq_true rfl) (Nat.le_of_ble_eq_true rfl) (Nat.le_of_ble_eq_true rfl) (Nat.le_of_ble_eq_true rfl) (Nat.le_of_ble_eq_true rfl) rfl (fun h3 z3 => ?_)
    obtain ⟨M', E', HM', frs, dd⟩ := z3
    refine g_goto (q := 45) C dX8_goesOn_36 (by decide) ?_
    exact E9.2.1 _ _ _ _ _ dX8_goesOn_45 rfl (Nat.le_of_ble_eq_true rfl) (Nat.le_of_ble_eq_true rfl) ⟨rfl, _, _, HM', (gFM.trans fr1 frs), by rw [ep]; exact dd⟩
def rX8_cardOut_0 (M : gMd) (n : Int32) : gMd := ((((M.arr 4 (gCpy (M.a 4) 96 (M.a 4) 352 n.toNatClampNeg)).put 4 19 n).put 4 20 0).put 4 21 (-1))
theorem dX8_cardOut_0 : decode cX8_cardOut 0 = .ok (.bipush 16, 2) := by decide +kernel
theorem dX8_cardOut_2 : decode cX8_cardOut 2 = .ok (.istore_n 3, 1) := by decide +kernel
theorem dX8_cardOut_3 : decode cX8_cardOut 3 = .ok (.iconst 0, 1) := by decide +kernel
theorem dX8_cardOut_4 : decode cX8_cardOut 4 = .ok (.istore 4, 2) := by decide +kernel
theorem dX8_cardOut_6 : decode cX8_cardOut 6 = .ok (.iload 4, 2) := by decide +kernel
theorem dX8_cardOut_8 : decode cX8_cardOut 8 = .ok (.iload_n 2, 1) := by decide +kernel
theorem dX8_cardOut_9 : decode cX8_cardOut 9 = .ok (.if_icmp .ge 32, 3) := by decide +kernel
theorem dX8_cardOut_12 : decode cX8_cardOut 12 = .ok (.aload_n 0, 1) := by decide +kernel
theorem dX8_cardOut_13 : decode cX8_cardOut 13 = .ok (.getfield 22, 3) := by decide +kernel
theorem dX8_cardOut_16 : decode cX8_cardOut 16 = .ok (.bipush 96, 2) := by decide +kernel
theorem dX8_cardOut_18 : decode cX8_cardOut 18 = .ok (.iload 4, 2) := by decide +kernel
theorem dX8_cardOut_20 : decode cX8_cardOut 20 = .ok (.iadd, 1) := by decide +kernel
theorem dX8_cardOut_21 : decode cX8_cardOut 21 = .ok (.aload_n 0, 1) := by decide +kernel
theorem dX8_cardOut_22 : decode cX8_cardOut 22 = .ok (.getfield 22, 3) := by decide +kernel
theorem dX8_cardOut_25 : decode cX8_cardOut 25 = .ok (.sipush 352, 3) := by decide +kernel
theorem dX8_cardOut_28 : decode cX8_cardOut 28 = .ok (.iload_n 1, 1) := by decide +kernel
theorem dX8_cardOut_29 : decode cX8_cardOut 29 = .ok (.iadd, 1) := by decide +kernel
theorem dX8_cardOut_30 : decode cX8_cardOut 30 = .ok (.iload 4, 2) := by decide +kernel
theorem dX8_cardOut_32 : decode cX8_cardOut 32 = .ok (.iadd, 1) := by decide +kernel
theorem dX8_cardOut_33 : decode cX8_cardOut 33 = .ok (.iaload, 1) := by decide +kernel
theorem dX8_cardOut_34 : decode cX8_cardOut 34 = .ok (.iastore, 1) := by decide +kernel
theorem dX8_cardOut_35 : decode cX8_cardOut 35 = .ok (.iinc 4 1, 3) := by decide +kernel
theorem dX8_cardOut_38 : decode cX8_cardOut 38 = .ok (.goto (-32), 3) := by decide +kernel
theorem dX8_cardOut_41 : decode cX8_cardOut 41 = .ok (.aload_n 0, 1) := by decide +kernel
theorem dX8_cardOut_42 : decode cX8_cardOut 42 = .ok (.getfield 22, 3) := by decide +kernel
theorem dX8_cardOut_45 : decode cX8_cardOut 45 = .ok (.iload_n 3, 1) := by decide +kernel
theorem dX8_cardOut_46 : decode cX8_cardOut 46 = .ok (.iconst 3, 1) := by decide +kernel
theorem dX8_cardOut_47 : decode cX8_cardOut 47 = .ok (.iadd, 1) := by decide +kernel
theorem dX8_cardOut_48 : decode cX8_cardOut 48 = .ok (.iload_n 2, 1) := by decide +kernel
theorem dX8_cardOut_49 : decode cX8_cardOut 49 = .ok (.iastore, 1) := by decide +kernel
theorem dX8_cardOut_50 : decode cX8_cardOut 50 = .ok (.aload_n 0, 1) := by decide +kernel
theorem dX8_cardOut_51 : decode cX8_cardOut 51 = .ok (.getfield 22, 3) := by decide +kernel
theorem dX8_cardOut_54 : decode cX8_cardOut 54 = .ok (.iload_n 3, 1) := by decide +kernel
theorem dX8_cardOut_55 : decode cX8_cardOut 55 = .ok (.iconst 4, 1) := by decide +kernel
theorem dX8_cardOut_56 : decode cX8_cardOut 56 = .ok (.iadd, 1) := by decide +kernel
theorem dX8_cardOut_57 : decode cX8_cardOut 57 = .ok (.iconst 0, 1) := by decide +kernel
theorem dX8_cardOut_58 : decode cX8_cardOut 58 = .ok (.iastore, 1) := by decide +kernel
theorem dX8_cardOut_59 : decode cX8_cardOut 59 = .ok (.aload_n 0, 1) := by decide +kernel
theorem dX8_cardOut_60 : decode cX8_cardOut 60 = .ok (.getfield 22, 3) := by decide +kernel
theorem dX8_cardOut_63 : decode cX8_cardOut 63 = .ok (.iload_n 3, 1) := by decide +kernel
theorem dX8_cardOut_64 : decode cX8_cardOut 64 = .ok (.iconst 5, 1) := by decide +kernel
theorem dX8_cardOut_65 : decode cX8_cardOut 65 = .ok (.iadd, 1) := by decide +kernel
theorem dX8_cardOut_66 : decode cX8_cardOut 66 = .ok (.iconst (-1), 1) := by decide +kernel
theorem dX8_cardOut_67 : decode cX8_cardOut 67 = .ok (.iastore, 1) := by decide +kernel
theorem dX8_cardOut_68 : decode cX8_cardOut 68 = .ok (.return_, 1) := by decide +kernel
set_option maxRecDepth 100000 in
set_option maxHeartbeats 4000000 in
theorem c_X8_cardOut_0_m {hp : List gA} {M : gMd} {n : Int32}  (HM : gMod hp M) (hn : gIr n 60) : gM yX8_cardOut cX8_cardOut 5 (none) 0 0 [.ref 122, .int 0, .int n] (hp) (0) (0) (fun v h => v = none ∧ (gMod h (rX8_cardOut_0 M n) ∧ gFM hp h)) := by
  refine gM_of (ls0 := [some (.ref 122), some (.int 0), some (.int n), none, none]) (by decide +kernel) (Nat.le_of_ble_eq_true rfl) rfl fun X C E => ?_
  have h60 := hn.le (by decide)
  refine g_bipush (v := 16) (q := 2) C dX8_cardOut_0 (by decide) rfl ?_
  refine g_istore_n (q := 3) C dX8_cardOut_2 (Nat.le_of_ble_eq_true rfl) (by simp only [gset]; rfl) rfl ?_
  refine g_iconst (v := 0) (q := 4) C dX8_cardOut_3 (by decide) rfl ?_
  refine g_istore (q := 6) C dX8_cardOut_4 (Nat.le_of_ble_eq_true rfl) (by simp only [gset]; rfl) rfl ?_
  have HL8 : gMod hp (M.arr 4 (gCpy (M.a 4) 96 (M.a 4) 352 0)) := by rw [garr_0]; exact HM
  have LL1 : ∀ d j : Nat, j + d = n.toNatClampNeg → ∀  (h1 : List gA), gMod h1 (M.arr 4 (gCpy (M.a 4) 96 (M.a 4) 352 j)) → gFM hp h1 → gG X 6 [some (.ref 122), some (.int 0), some (.int n), some (.int 16), some (.int ((nI j)))] [] h1 0 0 := by
    intro d
    induction d with
    | zero =>
      intro j hj  h1 HL1_ fr_
      obtain rfl : n.toNatClampNeg = j := by omega
      refine g_iload (q := 8) C dX8_cardOut_6 rfl rfl ?_
      refine g_iload_n (q := 9) C dX8_cardOut_8 rfl rfl ?_
      refine g_icmp_ge_t (t := 41) C dX8_cardOut_9 (by decide) (hn.t (by decide)) ?_
      refine g_aload_n (q := 42) C dX8_cardOut_41 rfl rfl ?_
      refine g_getfield (v := .ref 127) (q := 45) C fX8_22 dX8_cardOut_42 rfl HL1_.1 rfl ?_
      refine g_iload_n (q := 46) C dX8_cardOut_45 rfl rfl ?_
      refine g_iconst (v := 3) (q := 47) C dX8_cardOut_46 (by decide) rfl ?_
      refine g_iadd (q := 48) C dX8_cardOut_47 rfl ?_
      refine g_iload_n (q := 49) C dX8_cardOut_48 rfl rfl ?_
      refine g_iastoreN (j := 19) (q := 50) C dX8_cardOut_49 rfl (HL1_.ar (i := 4) (n := 772) (by decide) rfl) (pk_in 19 772 (by decide)) (pk_cl 19) ?_
      refine gMsto (i := 4) (j := 19) (x := n) HL1_ (by decide) rfl rfl fun h2 HL2 fr2 => ?_
      refine g_aload_n (q := 51) C dX8_cardOut_50 rfl rfl ?_
      refine g_getfield (v := .ref 127) (q := 54) C fX8_22 dX8_cardOut_51 rfl HL2.1 rfl ?_
      refine g_iload_n (q := 55) C dX8_cardOut_54 rfl rfl ?_
      refine g_iconst (v := 4) (q := 56) C dX8_cardOut_55 (by decide) rfl ?_
      refine g_iadd (q := 57) C dX8_cardOut_56 rfl ?_
      refine g_iconst (v := 0) (q := 58) C dX8_cardOut_57 (by decide) rfl ?_
      refine g_iastoreN (j := 20) (q := 59) C dX8_cardOut_58 rfl (HL2.ar (i := 4) (n := 772) (by decide) rfl) (pk_in 20 772 (by decide)) (pk_cl 20) ?_
      refine gMsto (i := 4) (j := 20) (x := 0) HL2 (by decide) rfl rfl fun h3 HL3 fr3 => ?_
      refine g_aload_n (q := 60) C dX8_cardOut_59 rfl rfl ?_
      refine g_getfield (v := .ref 127) (q := 63) C fX8_22 dX8_cardOut_60 rfl HL3.1 rfl ?_
      refine g_iload_n (q := 64) C dX8_cardOut_63 rfl rfl ?_
      refine g_iconst (v := 5) (q := 65) C dX8_cardOut_64 (by decide) rfl ?_
      refine g_iadd (q := 66) C dX8_cardOut_65 rfl ?_
      refine g_iconst (v := (-1)) (q := 67) C dX8_cardOut_66 (by decide) rfl ?_
      refine g_iastoreN (j := 21) (q := 68) C dX8_cardOut_67 rfl (HL3.ar (i := 4) (n := 772) (by decide) rfl) (pk_in 21 772 (by decide)) (pk_cl 21) ?_
      refine gMsto (i := 4) (j := 21) (x := (-1)) HL3 (by decide) rfl rfl fun h4 HL4 fr4 => ?_
      have e : rX8_cardOut_0 M n = ((((M.arr 4 (gCpy (M.a 4) 96 (M.a 4) 352 n.toNatClampNeg)).put 4 19 n).put 4 20 0).put 4 21 (-1)) := rfl
      exact E.2.1 _ _ _ _ _ dX8_cardOut_68 rfl (Nat.le_of_ble_eq_true rfl) (Nat.le_of_ble_eq_true rfl) ⟨rfl, by rw [e]; exact ⟨HL4, (gFM.trans (gFM.trans (gFM.trans fr_ fr2) fr3) fr4)⟩⟩
    | succ d ih =>
      intro j hj  h1 HL1_ fr_
      refine g_iload (q := 8) C dX8_cardOut_6 rfl rfl ?_
      refine g_iload_n (q := 9) C dX8_cardOut_8 rfl rfl ?_
      refine g_icmp_ge_f (t := 41) (q := 12) C dX8_cardOut_9 (by decide) rfl (hn.f (by decide) (by omega)) ?_
      refine g_aload_n (q := 13) C dX8_cardOut_12 rfl rfl ?_
      refine g_getfield (v := .ref 127) (q := 16) C fX8_22 dX8_cardOut_13 rfl HL1_.1 rfl ?_
      refine g_bipush (v := 96) (q := 18) C dX8_cardOut_16 (by decide) rfl ?_
      refine g_iload (q := 20) C dX8_cardOut_18 rfl rfl ?_
      refine g_iadd (q := 21) C dX8_cardOut_20 rfl ?_
      refine g_aload_n (q := 22) C dX8_cardOut_21 rfl rfl ?_
      refine g_getfield (v := .ref 127) (q := 25) C fX8_22 dX8_cardOut_22 rfl HL1_.1 rfl ?_
      refine g_sipush (v := 352) (q := 28) C dX8_cardOut_25 (by decide) rfl ?_
      refine g_iload_n (q := 29) C dX8_cardOut_28 rfl rfl ?_
      refine g_iadd (q := 30) C dX8_cardOut_29 rfl ?_
      refine g_iload (q := 32) C dX8_cardOut_30 rfl rfl ?_
      refine g_iadd (q := 33) C dX8_cardOut_32 rfl ?_
      refine g_ialoadN (x := ((M.arr 4 (gCpy (M.a 4) 96 (M.a 4) 352 j)).a 4 (352 + j))) (j := (352 + j)) (q := 34) C dX8_cardOut_33 rfl (HL1_.ar (i := 4) (n := 772) (by decide) rfl) (pk_in (352 + j) 772 (by omega) (nI_add 352 j)) (pk_cl (352 + j) (nI_add 352 j) (by omega)) rfl ?_
      refine g_iastoreN (j := (96 + j)) (q := 35) C dX8_cardOut_34 rfl (HL1_.ar (i := 4) (n := 772) (by decide) rfl) (pk_in (96 + j) 772 (by omega) (nI_add 96 j)) (pk_cl (96 + j) (nI_add 96 j) (by omega)) ?_
      refine gMsto (i := 4) (j := (96 + j)) (x := ((M.arr 4 (gCpy (M.a 4) 96 (M.a 4) 352 j)).a 4 (352 + j))) HL1_ (by decide) rfl rfl fun h5 HL5 fr5 => ?_
      refine g_iinc (v := (nI (j + 1))) (q := 38) C dX8_cardOut_35 rfl (nI_1 j) (by simp only [gset]; rfl) rfl ?_
      have e9 : (M.arr 4 (gCpy (M.a 4) 96 (M.a 4) 352 j)).put 4 (96 + j) ((M.arr 4 (gCpy (M.a 4) 96 (M.a 4) 352 j)).a 4 (352 + j)) = (M.arr 4 (gCpy (M.a 4) 96 (M.a 4) 352 (j + 1))) := garr_cp (garr_s.trans (gCpy_out (by omega)))
      have HL9 : gMod h5 (M.arr 4 (gCpy (M.a 4) 96 (M.a 4) 352 (j + 1))) := by rw [← e9]; exact HL5
      refine g_goto (q := 6) C dX8_cardOut_38 (by decide) ?_
      exact ih (j + 1) (by omega)  h5 HL9 (gFM.trans fr_ fr5)
  exact LL1 (n.toNatClampNeg - 0) 0 (by omega)  hp HL8 gFM.rf
  
def rX8_cardOut_3 (M : gMd) (n : Int32) : gMd := ((((M.arr 4 (gCpy (M.a 4) 96 (M.a 4) 355 n.toNatClampNeg)).put 4 19 n).put 4 20 0).put 4 21 (-1))
set_option maxRecDepth 100000 in
set_option maxHeartbeats 4000000 in
theorem c_X8_cardOut_3_m {hp : List gA} {M : gMd} {n : Int32}  (HM : gMod hp M) (hn : gIr n 60) : gM yX8_cardOut cX8_cardOut 5 (none) 0 0 [.ref 122, .int 3, .int n] (hp) (0) (0) (fun v h => v = none ∧ (gMod h (rX8_cardOut_3 M n) ∧ gFM hp h)) := by
  refine gM_of (ls0 := [some (.ref 122), some (.int 3), some (.int n), none, none]) (by decide +kernel) (Nat.le_of_ble_eq_true rfl) rfl fun X C E => ?_
  have h60 := hn.le (by decide)
  refine g_bipush (v := 16) (q := 2) C dX8_cardOut_0 (by decide) rfl ?_
  refine g_istore_n (q := 3) C dX8_cardOut_2 (Nat.le_of_ble_eq_true rfl) (by simp only [gset]; rfl) rfl ?_
  refine g_iconst (v := 0) (q := 4) C dX8_cardOut_3 (by decide) rfl ?_
  refine g_istore (q := 6) C dX8_cardOut_4 (Nat.le_of_ble_eq_true rfl) (by simp only [gset]; rfl) rfl ?_
  have HL8 : gMod hp (M.arr 4 (gCpy (M.a 4) 96 (M.a 4) 355 0)) := by rw [garr_0]; exact HM
  have LL1 : ∀ d j : Nat, j + d = n.toNatClampNeg → ∀  (h1 : List gA), gMod h1 (M.arr 4 (gCpy (M.a 4) 96 (M.a 4) 355 j)) → gFM hp h1 → gG X 6 [some (.ref 122), some (.int 3), some (.int n), some (.int 16), some (.int ((nI j)))] [] h1 0 0 := by
    intro d
    induction d with
    | zero =>
      intro j hj  h1 HL1_ fr_
      obtain rfl : n.toNatClampNeg = j := by omega
      refine g_iload (q := 8) C dX8_cardOut_6 rfl rfl ?_
      refine g_iload_n (q := 9) C dX8_cardOut_8 rfl rfl ?_
      refine g_icmp_ge_t (t := 41) C dX8_cardOut_9 (by decide) (hn.t (by decide)) ?_
      refine g_aload_n (q := 42) C dX8_cardOut_41 rfl rfl ?_
      refine g_getfield (v := .ref 127) (q := 45) C fX8_22 dX8_cardOut_42 rfl HL1_.1 rfl ?_
      refine g_iload_n (q := 46) C dX8_cardOut_45 rfl rfl ?_
      refine g_iconst (v := 3) (q := 47) C dX8_cardOut_46 (by decide) rfl ?_
      refine g_iadd (q := 48) C dX8_cardOut_47 rfl ?_
      refine g_iload_n (q := 49) C dX8_cardOut_48 rfl rfl ?_
      refine g_iastoreN (j := 19) (q := 50) C dX8_cardOut_49 rfl (HL1_.ar (i := 4) (n := 772) (by decide) rfl) (pk_in 19 772 (by decide)) (pk_cl 19) ?_
      refine gMsto (i := 4) (j := 19) (x := n) HL1_ (by decide) rfl rfl fun h2 HL2 fr2 => ?_
      refine g_aload_n (q := 51) C dX8_cardOut_50 rfl rfl ?_
      refine g_getfield (v := .ref 127) (q := 54) C fX8_22 dX8_cardOut_51 rfl HL2.1 rfl ?_
      refine g_iload_n (q := 55) C dX8_cardOut_54 rfl rfl ?_
      refine g_iconst (v := 4) (q := 56) C dX8_cardOut_55 (by decide) rfl ?_
      refine g_iadd (q := 57) C dX8_cardOut_56 rfl ?_
      refine g_iconst (v := 0) (q := 58) C dX8_cardOut_57 (by decide) rfl ?_
      refine g_iastoreN (j := 20) (q := 59) C dX8_cardOut_58 rfl (HL2.ar (i := 4) (n := 772) (by decide) rfl) (pk_in 20 772 (by decide)) (pk_cl 20) ?_
      refine gMsto (i := 4) (j := 20) (x := 0) HL2 (by decide) rfl rfl fun h3 HL3 fr3 => ?_
      refine g_aload_n (q := 60) C dX8_cardOut_59 rfl rfl ?_
      refine g_getfield (v := .ref 127) (q := 63) C fX8_22 dX8_cardOut_60 rfl HL3.1 rfl ?_
      refine g_iload_n (q := 64) C dX8_cardOut_63 rfl rfl ?_
      refine g_iconst (v := 5) (q := 65) C dX8_cardOut_64 (by decide) rfl ?_
      refine g_iadd (q := 66) C dX8_cardOut_65 rfl ?_
      refine g_iconst (v := (-1)) (q := 67) C dX8_cardOut_66 (by decide) rfl ?_
      refine g_iastoreN (j := 21) (q := 68) C dX8_cardOut_67 rfl (HL3.ar (i := 4) (n := 772) (by decide) rfl) (pk_in 21 772 (by decide)) (pk_cl 21) ?_
      refine gMsto (i := 4) (j := 21) (x := (-1)) HL3 (by decide) rfl rfl fun h4 HL4 fr4 => ?_
      have e : rX8_cardOut_3 M n = ((((M.arr 4 (gCpy (M.a 4) 96 (M.a 4) 355 n.toNatClampNeg)).put 4 19 n).put 4 20 0).put 4 21 (-1)) := rfl
      exact E.2.1 _ _ _ _ _ dX8_cardOut_68 rfl (Nat.le_of_ble_eq_true rfl) (Nat.le_of_ble_eq_true rfl) ⟨rfl, by rw [e]; exact ⟨HL4, (gFM.trans (gFM.trans (gFM.trans fr_ fr2) fr3) fr4)⟩⟩
    | succ d ih =>
      intro j hj  h1 HL1_ fr_
      refine g_iload (q := 8) C dX8_cardOut_6 rfl rfl ?_
      refine g_iload_n (q := 9) C dX8_cardOut_8 rfl rfl ?_
      refine g_icmp_ge_f (t := 41) (q := 12) C dX8_cardOut_9 (by decide) rfl (hn.f (by decide) (by omega)) ?_
      refine g_aload_n (q := 13) C dX8_cardOut_12 rfl rfl ?_
      refine g_getfield (v := .ref 127) (q := 16) C fX8_22 dX8_cardOut_13 rfl HL1_.1 rfl ?_
      refine g_bipush (v := 96) (q := 18) C dX8_cardOut_16 (by decide) rfl ?_
      refine g_iload (q := 20) C dX8_cardOut_18 rfl rfl ?_
      refine g_iadd (q := 21) C dX8_cardOut_20 rfl ?_
      refine g_aload_n (q := 22) C dX8_cardOut_21 rfl rfl ?_
      refine g_getfield (v := .ref 127) (q := 25) C fX8_22 dX8_cardOut_22 rfl HL1_.1 rfl ?_
      refine g_sipush (v := 352) (q := 28) C dX8_cardOut_25 (by decide) rfl ?_
      refine g_iload_n (q := 29) C dX8_cardOut_28 rfl rfl ?_
      refine g_iadd (q := 30) C dX8_cardOut_29 rfl ?_
      refine g_iload (q := 32) C dX8_cardOut_30 rfl rfl ?_
      refine g_iadd (q := 33) C dX8_cardOut_32 rfl ?_
      refine g_ialoadN (x := ((M.arr 4 (gCpy (M.a 4) 96 (M.a 4) 355 j)).a 4 (355 + j))) (j := (355 + j)) (q := 34) C dX8_cardOut_33 rfl (HL1_.ar (i := 4) (n := 772) (by decide) rfl) (pk_in (355 + j) 772 (by omega) (nI_add 355 j)) (pk_cl (355 + j) (nI_add 355 j) (by omega)) rfl ?_
      refine g_iastoreN (j := (96 + j)) (q := 35) C dX8_cardOut_34 rfl (HL1_.ar (i := 4) (n := 772) (by decide) rfl) (pk_in (96 + j) 772 (by omega) (nI_add 96 j)) (pk_cl (96 + j) (nI_add 96 j) (by omega)) ?_
      refine gMsto (i := 4) (j := (96 + j)) (x := ((M.arr 4 (gCpy (M.a 4) 96 (M.a 4) 355 j)).a 4 (355 + j))) HL1_ (by decide) rfl rfl fun h5 HL5 fr5 => ?_
      refine g_iinc (v := (nI (j + 1))) (q := 38) C dX8_cardOut_35 rfl (nI_1 j) (by simp only [gset]; rfl) rfl ?_
      have e9 : (M.arr 4 (gCpy (M.a 4) 96 (M.a 4) 355 j)).put 4 (96 + j) ((M.arr 4 (gCpy (M.a 4) 96 (M.a 4) 355 j)).a 4 (355 + j)) = (M.arr 4 (gCpy (M.a 4) 96 (M.a 4) 355 (j + 1))) := garr_cp (garr_s.trans (gCpy_out (by omega)))
      have HL9 : gMod h5 (M.arr 4 (gCpy (M.a 4) 96 (M.a 4) 355 (j + 1))) := by rw [← e9]; exact HL5
      refine g_goto (q := 6) C dX8_cardOut_38 (by decide) ?_
      exact ih (j + 1) (by omega)  h5 HL9 (gFM.trans fr_ fr5)
  exact LL1 (n.toNatClampNeg - 0) 0 (by omega)  hp HL8 gFM.rf
  
def pX8_cardSends_0 (M : gMd) (n : Int32) : gMd × Option (Int32 × Int32) := (pX8_sendsOut_1 (rX8_cardOut_0 M n))
def oX8_cardSends_0 (M : gMd) (n : Int32) (l : Nat) (E : List (Int32 × List Int32)) : Prop := (gIr n 60 ∧ oX8_sendsOut_1 (rX8_cardOut_0 M n) l E)
theorem dX8_cardSends_0 : decode cX8_cardSends 0 = .ok (.aload_n 0, 1) := by decide +kernel
theorem dX8_cardSends_1 : decode cX8_cardSends 1 = .ok (.iload_n 1, 1) := by decide +kernel
theorem dX8_cardSends_2 : decode cX8_cardSends 2 = .ok (.iload_n 2, 1) := by decide +kernel
theorem dX8_cardSends_3 : decode cX8_cardSends 3 = .ok (.invokevirtual 270, 3) := by decide +kernel
theorem dX8_cardSends_6 : decode cX8_cardSends 6 = .ok (.aload_n 0, 1) := by decide +kernel
theorem dX8_cardSends_7 : decode cX8_cardSends 7 = .ok (.iconst 1, 1) := by decide +kernel
theorem dX8_cardSends_8 : decode cX8_cardSends 8 = .ok (.invokevirtual 213, 3) := by decide +kernel
theorem dX8_cardSends_11 : decode cX8_cardSends 11 = .ok (.return_, 1) := by decide +kernel
set_option maxRecDepth 100000 in
set_option maxHeartbeats 4000000 in
theorem c_X8_cardSends_0_p {hp : List gA} {M : gMd} {n : Int32} {l : Nat} {E : List (Int32 × List Int32)}  (HM : gMod hp M) (ok : oX8_cardSends_0 M n l E)  : gM yX8_cardSends cX8_cardSends 3 (none) 6 143 [.ref 122, .int 0, .int n] (hp) (0) (0) (fun v h => v = none ∧ ∃ M' E', gMod h M' ∧ gFM hp h ∧ gDo 1 (pX8_cardSends_0 M n) l E M' E') := by
  refine gM_of (ls0 := [some (.ref 122), some (.int 0), some (.int n)]) (by decide +kernel) (Nat.le_of_ble_eq_true rfl) rfl fun X C E9 => ?_
  obtain ⟨P, ep⟩ : ∃ P, P = pX8_cardSends_0 M n := ⟨_, rfl⟩
  rw [← ep] at E9
  unfold pX8_cardSends_0 at ep
  unfold oX8_cardSends_0 at ok
  refine g_aload_n (q := 1) C dX8_cardSends_0 rfl rfl ?_
  refine g_iload_n (q := 2) C dX8_cardSends_1 rfl rfl ?_
  refine g_iload_n (q := 3) C dX8_cardSends_2 rfl rfl ?_
  obtain ⟨hob, ok⟩ := ok
  refine g_callVvp (q := 6) (As := [.int 0, .int n]) C gyX8_cardOut gvX8_cardOut t_1432 (c_X8_cardOut_0_m HM hob) dX8_cardSends_3 rfl HM.1 rfl rfl rfl (Nat.le_of_ble_eq_true rfl) (Nat.le_of_ble_eq_true rfl) (Nat.le_of_ble_eq_true rfl) (Nat.le_of_ble_eq_true rfl) (Nat.le_of_ble_eq_true rfl) rfl (fun h1 z1 => ?_)
  obtain ⟨HL1, fr1⟩ := z1
  refine g_aload_n (q := 7) C dX8_cardSends_6 rfl rfl ?_
  refine g_iconst (v := 1) (q := 8) C dX8_cardSends_7 (by decide) rfl ?_
  refine g_callVvp (q := 11) (As := [.int 1]) C gyX8_sendsOut gvX8_sendsOut t_1304 (c_X8_sendsOut_1_p HL1 ok) dX8_cardSends_8 rfl HL1.1 rfl rfl rfl (Nat.le_of_ble_eq_true rfl) (Nat.le_of_ble_eq_true rfl) (Nat.le_of_ble_eq_true rfl) (Nat.le_of_ble_eq_true rfl) (Nat.le_of_ble_eq_true rfl) rfl (fun h2 z2 => ?_)
  obtain ⟨M', E', HM', frs, dd⟩ := z2
  exact E9.2.1 _ _ _ _ _ dX8_cardSends_11 rfl (Nat.le_of_ble_eq_true rfl) (Nat.le_of_ble_eq_true rfl) ⟨rfl, _, _, HM', (gFM.trans fr1 frs), by rw [ep]; exact dd⟩
def pX8_cardSends_3 (M : gMd) (n : Int32) : gMd × Option (Int32 × Int32) := (pX8_sendsOut_1 (rX8_cardOut_3 M n))
def oX8_cardSends_3 (M : gMd) (n : Int32) (l : Nat) (E : List (Int32 × List Int32)) : Prop := (gIr n 60 ∧ oX8_sendsOut_1 (rX8_cardOut_3 M n) l E)
set_option maxRecDepth 100000 in
set_option maxHeartbeats 4000000 in
theorem c_X8_cardSends_3_p {hp : List gA} {M : gMd} {n : Int32} {l : Nat} {E : List (Int32 × List Int32)}  (HM : gMod hp M) (ok : oX8_cardSends_3 M n l E)  : gM yX8_cardSends cX8_cardSends 3 (none) 6 143 [.ref 122, .int 3, .int n] (hp) (0) (0) (fun v h => v = none ∧ ∃ M' E', gMod h M' ∧ gFM hp h ∧ gDo 1 (pX8_cardSends_3 M n) l E M' E') := by
  refine gM_of (ls0 := [some (.ref 122), some (.int 3), some (.int n)]) (by decide +kernel) (Nat.le_of_ble_eq_true rfl) rfl fun X C E9 => ?_
  obtain ⟨P, ep⟩ : ∃ P, P = pX8_cardSends_3 M n := ⟨_, rfl⟩
  rw [← ep] at E9
  unfold pX8_cardSends_3 at ep
  unfold oX8_cardSends_3 at ok
  refine g_aload_n (q := 1) C dX8_cardSends_0 rfl rfl ?_
  refine g_iload_n (q := 2) C dX8_cardSends_1 rfl rfl ?_
  refine g_iload_n (q := 3) C dX8_cardSends_2 rfl rfl ?_
  obtain ⟨hob, ok⟩ := ok
  refine g_callVvp (q := 6) (As := [.int 3, .int n]) C gyX8_cardOut gvX8_cardOut t_1432 (c_X8_cardOut_3_m HM hob) dX8_cardSends_3 rfl HM.1 rfl rfl rfl (Nat.le_of_ble_eq_true rfl) (Nat.le_of_ble_eq_true rfl) (Nat.le_of_ble_eq_true rfl) (Nat.le_of_ble_eq_true rfl) (Nat.le_of_ble_eq_true rfl) rfl (fun h1 z1 => ?_)
  obtain ⟨HL1, fr1⟩ := z1
  refine g_aload_n (q := 7) C dX8_cardSends_6 rfl rfl ?_
  refine g_iconst (v := 1) (q := 8) C dX8_cardSends_7 (by decide) rfl ?_
  refine g_callVvp (q := 11) (As := [.int 1]) C gyX8_sendsOut gvX8_sendsOut t_1304 (c_X8_sendsOut_1_p HL1 ok) dX8_cardSends_8 rfl HL1.1 rfl rfl rfl (Nat.le_of_ble_eq_true rfl) (Nat.le_of_ble_eq_true rfl) (Nat.le_of_ble_eq_true rfl) (Nat.le_of_ble_eq_true rfl) (Nat.le_of_ble_eq_true rfl) rfl (fun h2 z2 => ?_)
  obtain ⟨M', E', HM', frs, dd⟩ := z2
  exact E9.2.1 _ _ _ _ _ dX8_cardSends_11 rfl (Nat.le_of_ble_eq_true rfl) (Nat.le_of_ble_eq_true rfl) ⟨rfl, _, _, HM', (gFM.trans fr1 frs), by rw [ep]; exact dd⟩
