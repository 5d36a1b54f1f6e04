/-! the reference: what came is brought (by program: wip/p2/m_mq.py) -/
def rX8_bringsCame (M : gMd) : gMd := (((M.set 29 (M.a 4 428)).set 28 (M.a 4 429)).arr 13 (gCpy (((M.set 29 (M.a 4 428)).set 28 (M.a 4 429)).a 13) 0 (((M.set 29 (M.a 4 428)).set 28 (M.a 4 429)).a 4) 512 ((M.a 4 429).toNatClampNeg)))
theorem dX8_bringsCame_0 : decode cX8_bringsCame 0 = .ok (.aload_n 0, 1) := by decide +kernel
theorem dX8_bringsCame_1 : decode cX8_bringsCame 1 = .ok (.aload_n 0, 1) := by decide +kernel
theorem dX8_bringsCame_2 : decode cX8_bringsCame 2 = .ok (.getfield 22, 3) := by decide +kernel
theorem dX8_bringsCame_5 : decode cX8_bringsCame 5 = .ok (.sipush 428, 3) := by decide +kernel
theorem dX8_bringsCame_8 : decode cX8_bringsCame 8 = .ok (.iaload, 1) := by decide +kernel
theorem dX8_bringsCame_9 : decode cX8_bringsCame 9 = .ok (.putfield 176, 3) := by decide +kernel
theorem dX8_bringsCame_12 : decode cX8_bringsCame 12 = .ok (.aload_n 0, 1) := by decide +kernel
theorem dX8_bringsCame_13 : decode cX8_bringsCame 13 = .ok (.aload_n 0, 1) := by decide +kernel
theorem dX8_bringsCame_14 : decode cX8_bringsCame 14 = .ok (.getfield 22, 3) := by decide +kernel
theorem dX8_bringsCame_17 : decode cX8_bringsCame 17 = .ok (.sipush 429, 3) := by decide +kernel
theorem dX8_bringsCame_20 : decode cX8_bringsCame 20 = .ok (.iaload, 1) := by decide +kernel
theorem dX8_bringsCame_21 : decode cX8_bringsCame 21 = .ok (.putfield 160, 3) := by decide +kernel
theorem dX8_bringsCame_24 : decode cX8_bringsCame 24 = .ok (.iconst 0, 1) := by decide +kernel
theorem dX8_bringsCame_25 : decode cX8_bringsCame 25 = .ok (.istore_n 1, 1) := by decide +kernel
theorem dX8_bringsCame_26 : decode cX8_bringsCame 26 = .ok (.iload_n 1, 1) := by decide +kernel
theorem dX8_bringsCame_27 : decode cX8_bringsCame 27 = .ok (.aload_n 0, 1) := by decide +kernel
theorem dX8_bringsCame_28 : decode cX8_bringsCame 28 = .ok (.getfield 160, 3) := by decide +kernel
theorem dX8_bringsCame_31 : decode cX8_bringsCame 31 = .ok (.if_icmp .ge 25, 3) := by decide +kernel
theorem dX8_bringsCame_34 : decode cX8_bringsCame 34 = .ok (.aload_n 0, 1) := by decide +kernel
theorem dX8_bringsCame_35 : decode cX8_bringsCame 35 = .ok (.getfield 54, 3) := by decide +kernel
theorem dX8_bringsCame_38 : decode cX8_bringsCame 38 = .ok (.iload_n 1, 1) := by decide +kernel
theorem dX8_bringsCame_39 : decode cX8_bringsCame 39 = .ok (.aload_n 0, 1) := by decide +kernel
theorem dX8_bringsCame_40 : decode cX8_bringsCame 40 = .ok (.getfield 22, 3) := by decide +kernel
theorem dX8_bringsCame_43 : decode cX8_bringsCame 43 = .ok (.sipush 512, 3) := by decide +kernel
theorem dX8_bringsCame_46 : decode cX8_bringsCame 46 = .ok (.iload_n 1, 1) := by decide +kernel
theorem dX8_bringsCame_47 : decode cX8_bringsCame 47 = .ok (.iadd, 1) := by decide +kernel
theorem dX8_bringsCame_48 : decode cX8_bringsCame 48 = .ok (.iaload, 1) := by decide +kernel
theorem dX8_bringsCame_49 : decode cX8_bringsCame 49 = .ok (.iastore, 1) := by decide +kernel
theorem dX8_bringsCame_50 : decode cX8_bringsCame 50 = .ok (.iinc 1 1, 3) := by decide +kernel
theorem dX8_bringsCame_53 : decode cX8_bringsCame 53 = .ok (.goto (-27), 3) := by decide +kernel
theorem dX8_bringsCame_56 : decode cX8_bringsCame 56 = .ok (.return_, 1) := by decide +kernel
set_option maxRecDepth 100000 in
set_option maxHeartbeats 4000000 in
theorem c_X8_bringsCame_m {hp : List gA} {M : gMd}  (HM : gMod hp M) (hn : gIr (M.a 4 429) 64) : gM yX8_bringsCame cX8_bringsCame 2 (none) 0 0 [.ref 122] (hp) (0) (0) (fun v h => v = none ∧ (gMod h (rX8_bringsCame M) ∧ gFM hp h)) := by
  refine gM_of (ls0 := [some (.ref 122), none]) (by decide +kernel) (Nat.le_of_ble_eq_true rfl) rfl fun X C E => ?_
  have h64 := hn.le (by decide)
  refine g_aload_n (q := 1) C dX8_bringsCame_0 rfl rfl ?_
  refine g_aload_n (q := 2) C dX8_bringsCame_1 rfl rfl ?_
  refine g_getfield (v := .ref 127) (q := 5) C fX8_22 dX8_bringsCame_2 rfl HM.1 rfl ?_
  refine g_sipush (v := 428) (q := 8) C dX8_bringsCame_5 (by decide) rfl ?_
  refine g_ialoadN (x := (M.a 4 428)) (j := 428) (q := 9) C dX8_bringsCame_8 rfl (HM.ar (i := 4) (n := 772) (by decide) rfl) (pk_in 428 772 (by decide)) (pk_cl 428) rfl ?_
  refine g_putfield (q := 12) C fX8_176 dX8_bringsCame_9 rfl HM.1 (Nat.le_of_ble_eq_true rfl) (Or.inl rfl) rfl rfl (by intro z h; cases h) ?_
  refine gMput (j := 29) (x := (M.a 4 428)) HM rfl fun h1 HL1 fr1 => ?_
  refine g_aload_n (q := 13) C dX8_bringsCame_12 rfl rfl ?_
  refine g_aload_n (q := 14) C dX8_bringsCame_13 rfl rfl ?_
  refine g_getfield (v := .ref 127) (q := 17) C fX8_22 dX8_bringsCame_14 rfl HL1.1 rfl ?_
  refine g_sipush (v := 429) (q := 20) C dX8_bringsCame_17 (by decide) rfl ?_
  refine g_ialoadN (x := (M.a 4 429)) (j := 429) (q := 21) C dX8_bringsCame_20 rfl (HL1.ar (i := 4) (n := 772) (by decide) rfl) (pk_in 429 772 (by decide)) (pk_cl 429) gset_a ?_
  refine g_putfield (q := 24) C fX8_160 dX8_bringsCame_21 rfl HL1.1 (Nat.le_of_ble_eq_true rfl) (Or.inl rfl) rfl rfl (by intro z h; cases h) ?_
  refine gMput (j := 28) (x := (M.a 4 429)) HL1 rfl fun h2 HL2 fr2 => ?_
  refine g_iconst (v := 0) (q := 25) C dX8_bringsCame_24 (by decide) rfl ?_
  refine g_istore_n (q := 26) C dX8_bringsCame_25 (Nat.le_of_ble_eq_true rfl) (by simp only [gset]; rfl) rfl ?_
  have LL3 : ∀ d j : Nat, j + d = (M.a 4 429).toNatClampNeg → ∀  (h1 : List gA), gMod h1 (((M.set 29 (M.a 4 428)).set 28 (M.a 4 429)).arr 13 (gCpy (((M.set 29 (M.a 4 428)).set 28 (M.a 4 429)).a 13) 0 (((M.set 29 (M.a 4 428)).set 28 (M.a 4 429)).a 4) 512 j)) → gFM hp h1 → gG X 26 [some (.ref 122), some (.int ((nI j)))] [] h1 0 0 := by
    intro d
    induction d with
    | zero =>
      intro j hj  h1 HL1_ fr_
      obtain rfl : (M.a 4 429).toNatClampNeg = j := by omega
      refine g_iload_n (q := 27) C dX8_bringsCame_26 rfl rfl ?_
      refine g_aload_n (q := 28) C dX8_bringsCame_27 rfl rfl ?_
      refine g_getfield (v := .int (((((M.set 29 (M.a 4 428)).set 28 (M.a 4 429)).arr 13 (gCpy (((M.set 29 (M.a 4 428)).set 28 (M.a 4 429)).a 13) 0 (((M.set 29 (M.a 4 428)).set 28 (M.a 4 429)).a 4) 512 ((M.a 4 429).toNatClampNeg))).f 28))) (q := 31) C fX8_160 dX8_bringsCame_28 rfl HL1_.1 rfl ?_
      rw [show ((((M.set 29 (M.a 4 428)).set 28 (M.a 4 429)).arr 13 (gCpy (((M.set 29 (M.a 4 428)).set 28 (M.a 4 429)).a 13) 0 (((M.set 29 (M.a 4 428)).set 28 (M.a 4 429)).a 4) 512 ((M.a 4 429).toNatClampNeg))).f 28) = nI ((M.a 4 429).toNatClampNeg) from (rfl).trans ((show ((M.set 29 (M.a 4 428)).set 28 (M.a 4 429)).f 28 = M.a 4 429 from gset_s).trans (hn.c (by decide)))]
      refine g_icmp_ge_t (t := 56) C dX8_bringsCame_31 (by decide) (nI_le (Nat.le_refl _) (by omega)) ?_
      have e : rX8_bringsCame M = (((M.set 29 (M.a 4 428)).set 28 (M.a 4 429)).arr 13 (gCpy (((M.set 29 (M.a 4 428)).set 28 (M.a 4 429)).a 13) 0 (((M.set 29 (M.a 4 428)).set 28 (M.a 4 429)).a 4) 512 ((M.a 4 429).toNatClampNeg))) := rfl
      exact E.2.1 _ _ _ _ _ dX8_bringsCame_56 rfl (Nat.le_of_ble_eq_true rfl) (Nat.le_of_ble_eq_true rfl) ⟨rfl, by rw [e]; exact ⟨HL1_, fr_⟩⟩
    | succ d ih =>
      intro j hj  h1 HL1_ fr_
      refine g_iload_n (q := 27) C dX8_bringsCame_26 rfl rfl ?_
      refine g_aload_n (q := 28) C dX8_bringsCame_27 rfl rfl ?_
      refine g_getfield (v := .int (((((M.set 29 (M.a 4 428)).set 28 (M.a 4 429)).arr 13 (gCpy (((M.set 29 (M.a 4 428)).set 28 (M.a 4 429)).a 13) 0 (((M.set 29 (M.a 4 428)).set 28 (M.a 4 429)).a 4) 512 j)).f 28))) (q := 31) C fX8_160 dX8_bringsCame_28 rfl HL1_.1 rfl ?_
      rw [show ((((M.set 29 (M.a 4 428)).set 28 (M.a 4 429)).arr 13 (gCpy (((M.set 29 (M.a 4 428)).set 28 (M.a 4 429)).a 13) 0 (((M.set 29 (M.a 4 428)).set 28 (M.a 4 429)).a 4) 512 j)).f 28) = nI ((M.a 4 429).toNatClampNeg) from (rfl).trans ((show ((M.set 29 (M.a 4 428)).set 28 (M.a 4 429)).f 28 = M.a 4 429 from gset_s).trans (hn.c (by decide)))]
      refine g_icmp_ge_f (t := 56) (q := 34) C dX8_bringsCame_31 (by decide) rfl (fun h => nI_ge (show j < (M.a 4 429).toNatClampNeg by omega) (by omega) h) ?_
      refine g_aload_n (q := 35) C dX8_bringsCame_34 rfl rfl ?_
      refine g_getfield (v := .ref 136) (q := 38) C fX8_54 dX8_bringsCame_35 rfl HL1_.1 rfl ?_
      refine g_iload_n (q := 39) C dX8_bringsCame_38 rfl rfl ?_
      refine g_aload_n (q := 40) C dX8_bringsCame_39 rfl rfl ?_
      refine g_getfield (v := .ref 127) (q := 43) C fX8_22 dX8_bringsCame_40 rfl HL1_.1 rfl ?_
      refine g_sipush (v := 512) (q := 46) C dX8_bringsCame_43 (by decide) rfl ?_
      refine g_iload_n (q := 47) C dX8_bringsCame_46 rfl rfl ?_
      refine g_iadd (q := 48) C dX8_bringsCame_47 rfl ?_
      refine g_ialoadN (x := ((((M.set 29 (M.a 4 428)).set 28 (M.a 4 429)).arr 13 (gCpy (((M.set 29 (M.a 4 428)).set 28 (M.a 4 429)).a 13) 0 (((M.set 29 (M.a 4 428)).set 28 (M.a 4 429)).a 4) 512 j)).a 4 (512 + j))) (j := (512 + j)) (q := 49) C dX8_bringsCame_48 rfl (HL1_.ar (i := 4) (n := 772) (by decide) rfl) (pk_in (512 + j) 772 (by omega) (nI_add 512 j)) (pk_cl (512 + j) (nI_add 512 j) (by omega)) rfl ?_
      refine g_iastoreN (j := j) (q := 50) C dX8_bringsCame_49 rfl (HL1_.ar (i := 13) (n := 260) (by decide) rfl) (pk_in j 260 (by omega)) (pk_cl j rfl (by omega)) ?_
      refine gMsto (i := 13) (j := j) (x := ((((M.set 29 (M.a 4 428)).set 28 (M.a 4 429)).arr 13 (gCpy (((M.set 29 (M.a 4 428)).set 28 (M.a 4 429)).a 13) 0 (((M.set 29 (M.a 4 428)).set 28 (M.a 4 429)).a 4) 512 j)).a 4 (512 + j))) HL1_ (by decide) rfl rfl fun h4 HL4 fr4 => ?_
      refine g_iinc (v := (nI (j + 1))) (q := 53) C dX8_bringsCame_50 rfl (nI_1 j) (by simp only [gset]; rfl) rfl ?_
      have e9 : (((M.set 29 (M.a 4 428)).set 28 (M.a 4 429)).arr 13 (gCpy (((M.set 29 (M.a 4 428)).set 28 (M.a 4 429)).a 13) 0 (((M.set 29 (M.a 4 428)).set 28 (M.a 4 429)).a 4) 512 j)).put 13 (0 + j) ((((M.set 29 (M.a 4 428)).set 28 (M.a 4 429)).arr 13 (gCpy (((M.set 29 (M.a 4 428)).set 28 (M.a 4 429)).a 13) 0 (((M.set 29 (M.a 4 428)).set 28 (M.a 4 429)).a 4) 512 j)).a 4 (512 + j)) = (((M.set 29 (M.a 4 428)).set 28 (M.a 4 429)).arr 13 (gCpy (((M.set 29 (M.a 4 428)).set 28 (M.a 4 429)).a 13) 0 (((M.set 29 (M.a 4 428)).set 28 (M.a 4 429)).a 4) 512 (j + 1))) := garr_cp (by show (((M.set 29 (M.a 4 428)).set 28 (M.a 4 429)).arr 13 (gCpy (((M.set 29 (M.a 4 428)).set 28 (M.a 4 429)).a 13) 0 (((M.set 29 (M.a 4 428)).set 28 (M.a 4 429)).a 4) 512 j)).a 4 _ = _; rw [(garr_o (by decide))])
      have HL9 : gMod h4 (((M.set 29 (M.a 4 428)).set 28 (M.a 4 429)).arr 13 (gCpy (((M.set 29 (M.a 4 428)).set 28 (M.a 4 429)).a 13) 0 (((M.set 29 (M.a 4 428)).set 28 (M.a 4 429)).a 4) 512 (j + 1))) := by rw [← e9, Nat.zero_add]; exact HL4
      refine g_goto (q := 26) C dX8_bringsCame_53 (by decide) ?_
      exact ih (j + 1) (by omega)  h4 HL9 (gFM.trans fr_ fr4)
  have HL8 : gMod h2 (((M.set 29 (M.a 4 428)).set 28 (M.a 4 429)).arr 13 (gCpy (((M.set 29 (M.a 4 428)).set 28 (M.a 4 429)).a 13) 0 (((M.set 29 (M.a 4 428)).set 28 (M.a 4 429)).a 4) 512 0)) := by rw [garr_0]; exact HL2
  exact LL3 ((M.a 4 429).toNatClampNeg - 0) 0 (by omega)  h2 HL8 (gFM.trans fr1 fr2)
  
