/-! the reference: the reset's sum (by program: wip/p2/m_ng.py) -/
theorem gWr.a {M : gMd} {y z : Int32} {i q : Nat} : (rX8_wrong M y z).a i q = M.a i q := by
  unfold rX8_wrong
  by_cases c : M.f 22 = 0
  · rw [if_pos c]; rfl
  · rw [if_neg c]
theorem gBn.a {M M' : gMd} {x : Int32} (h : gBn M M' x) (i q : Nat) : M'.a i q = M.a i q := by
  rcases h with ⟨_, rfl, _⟩ | ⟨_, _, rfl, _⟩ | ⟨_, a, z, _, _, _, _, rfl, _⟩
  · rfl
  · exact gWr.a
  · rfl
theorem dX8_checks_0 : decode cX8_checks 0 = .ok (.aload_n 0, 1) := by decide +kernel
theorem dX8_checks_1 : decode cX8_checks 1 = .ok (.invokevirtual 99, 3) := by decide +kernel
theorem dX8_checks_4 : decode cX8_checks 4 = .ok (.pop, 1) := by decide +kernel
theorem dX8_checks_5 : decode cX8_checks 5 = .ok (.aload_n 0, 1) := by decide +kernel
theorem dX8_checks_6 : decode cX8_checks 6 = .ok (.getfield 86, 3) := by decide +kernel
theorem dX8_checks_9 : decode cX8_checks 9 = .ok (.ifCond .eq 4, 3) := by decide +kernel
theorem dX8_checks_12 : decode cX8_checks 12 = .ok (.return_, 1) := by decide +kernel
theorem dX8_checks_13 : decode cX8_checks 13 = .ok (.iconst 0, 1) := by decide +kernel
theorem dX8_checks_14 : decode cX8_checks 14 = .ok (.istore_n 1, 1) := by decide +kernel
theorem dX8_checks_15 : decode cX8_checks 15 = .ok (.iconst 1, 1) := by decide +kernel
theorem dX8_checks_16 : decode cX8_checks 16 = .ok (.istore_n 2, 1) := by decide +kernel
theorem dX8_checks_17 : decode cX8_checks 17 = .ok (.iload_n 2, 1) := by decide +kernel
theorem dX8_checks_18 : decode cX8_checks 18 = .ok (.aload_n 0, 1) := by decide +kernel
theorem dX8_checks_19 : decode cX8_checks 19 = .ok (.getfield 89, 3) := by decide +kernel
theorem dX8_checks_22 : decode cX8_checks 22 = .ok (.if_icmp .ge 18, 3) := by decide +kernel
theorem dX8_checks_25 : decode cX8_checks 25 = .ok (.iload_n 1, 1) := by decide +kernel
theorem dX8_checks_26 : decode cX8_checks 26 = .ok (.aload_n 0, 1) := by decide +kernel
theorem dX8_checks_27 : decode cX8_checks 27 = .ok (.getfield 7, 3) := by decide +kernel
theorem dX8_checks_30 : decode cX8_checks 30 = .ok (.iload_n 2, 1) := by decide +kernel
theorem dX8_checks_31 : decode cX8_checks 31 = .ok (.iaload, 1) := by decide +kernel
theorem dX8_checks_32 : decode cX8_checks 32 = .ok (.ixor, 1) := by decide +kernel
theorem dX8_checks_33 : decode cX8_checks 33 = .ok (.istore_n 1, 1) := by decide +kernel
theorem dX8_checks_34 : decode cX8_checks 34 = .ok (.iinc 2 1, 3) := by decide +kernel
theorem dX8_checks_37 : decode cX8_checks 37 = .ok (.goto (-20), 3) := by decide +kernel
theorem dX8_checks_40 : decode cX8_checks 40 = .ok (.iload_n 1, 1) := by decide +kernel
theorem dX8_checks_41 : decode cX8_checks 41 = .ok (.ifCond .eq 15, 3) := by decide +kernel
theorem dX8_checks_44 : decode cX8_checks 44 = .ok (.aload_n 0, 1) := by decide +kernel
theorem dX8_checks_45 : decode cX8_checks 45 = .ok (.bipush 6, 2) := by decide +kernel
theorem dX8_checks_47 : decode cX8_checks 47 = .ok (.aload_n 0, 1) := by decide +kernel
theorem dX8_checks_48 : decode cX8_checks 48 = .ok (.getfield 89, 3) := by decide +kernel
theorem dX8_checks_51 : decode cX8_checks 51 = .ok (.iconst 1, 1) := by decide +kernel
theorem dX8_checks_52 : decode cX8_checks 52 = .ok (.isub, 1) := by decide +kernel
theorem dX8_checks_53 : decode cX8_checks 53 = .ok (.invokevirtual 95, 3) := by decide +kernel
theorem dX8_checks_56 : decode cX8_checks 56 = .ok (.return_, 1) := by decide +kernel
set_option maxRecDepth 100000 in
set_option maxHeartbeats 4000000 in
theorem c_X8_checks_r {hp : List gA} {M : gMd}  (HM : gMod hp M) (hr : gRi M) : gM yX8_checks cX8_checks 3 (none) 2 42 [.ref 122] (hp) (0) (0) (fun v h => v = none ∧ ∃ M', gMod h M' ∧ gFM hp h ∧ gRz 0 M M' ∧ ∀ i q, M'.a i q = M.a i q) := by
  refine gM_of (ls0 := [some (.ref 122), none, none]) (by decide +kernel) (Nat.le_of_ble_eq_true rfl) rfl fun X C E => ?_
  refine g_aload_n (q := 1) C dX8_checks_0 rfl rfl ?_
  refine g_callVip (q := 4) (As := []) C gyX8_byteNext gvX8_byteNext t_1218 (c_X8_byteNext_r HM (hr.of gRz.rf).1) dX8_checks_1 rfl HM.1 rfl rfl rfl (Nat.le_of_ble_eq_true rfl) (Nat.le_of_ble_eq_true rfl) (Nat.le_of_ble_eq_true rfl) (Nat.le_of_ble_eq_true rfl) (Nat.le_of_ble_eq_true rfl) rfl (fun x1 h1 z1 => ?_)
  obtain ⟨N1, HN1, fn1, bn1⟩ := z1
  obtain ⟨rn1, X1⟩ := gRz.bn (hr.of gRz.rf) bn1
  have R1 := gRz.trans gRz.rf rn1
  refine g_pop (q := 5) C dX8_checks_4 rfl rfl ?_
  refine g_aload_n (q := 6) C dX8_checks_5 rfl rfl ?_
  refine g_getfield (v := .int ((N1.f 22))) (q := 9) C fX8_86 dX8_checks_6 rfl HN1.1 rfl ?_
  refine g_if_eq (t := 13) (q := 12) C dX8_checks_9 (by decide) rfl (fun c_9 => ?_) (fun c_9 => ?_)
  ·
    refine g_iconst (v := 0) (q := 14) C dX8_checks_13 (by decide) rfl ?_
    refine g_istore_n (q := 15) C dX8_checks_14 (Nat.le_of_ble_eq_true rfl) (by simp only [gset]; rfl) rfl ?_
    refine g_iconst (v := 1) (q := 16) C dX8_checks_15 (by decide) rfl ?_
    refine g_istore_n (q := 17) C dX8_checks_16 (Nat.le_of_ble_eq_true rfl) (by simp only [gset]; rfl) rfl ?_
    obtain ⟨⟨z0, hz0, ez0, a0, ha0, ea0⟩, hb0⟩ := id hr
    obtain ⟨a', p1, p2, p3, p4⟩ := R1.2.2.2 z0 a0 hz0 ez0 ha0 ea0
    have p5 := p4 c_9
    have LL : ∀ d j : Nat, j + d = a' → ∀ t : Int32, gG X 17 [some (.ref 122), some (.int t), some (.int ((nI j)))] [] h1 0 0 := by
      intro d
      induction d with
      | zero =>
        intro j hj t
        obtain rfl : a' = j := by omega
        refine g_iload_n (q := 18) C dX8_checks_17 rfl rfl ?_
        refine g_aload_n (q := 19) C dX8_checks_18 rfl rfl ?_
        refine g_getfield (v := .int ((N1.f 21))) (q := 22) C fX8_89 dX8_checks_19 rfl HN1.1 rfl ?_
        rw [show (N1.f 21) = nI a' from p3]
        refine g_icmp_ge_t (t := 40) C dX8_checks_22 (by decide) (nI_le (Nat.le_refl _) (by omega)) ?_
        refine g_iload_n (q := 41) C dX8_checks_40 rfl rfl ?_
        refine g_if_eq (t := 56) (q := 44) C dX8_checks_41 (by decide) rfl (fun c_41 => ?_) (fun c_41 => ?_)
        ·
          exact E.2.1 _ _ _ _ _ dX8_checks_56 rfl (Nat.le_of_ble_eq_true rfl) (Nat.le_of_ble_eq_true rfl) ⟨rfl, _, HN1, fn1, gRz.le R1 (by decide), (bn1.a)⟩
        ·
          refine g_aload_n (q := 45) C dX8_checks_44 rfl rfl ?_
          refine g_bipush (v := 6) (q := 47) C dX8_checks_45 (by decide) rfl ?_
          refine g_aload_n (q := 48) C dX8_checks_47 rfl rfl ?_
          refine g_getfield (v := .int ((N1.f 21))) (q := 51) C fX8_89 dX8_checks_48 rfl HN1.1 rfl ?_
          refine g_iconst (v := 1) (q := 52) C dX8_checks_51 (by decide) rfl ?_
          refine g_isub (q := 53) C dX8_checks_52 rfl ?_
          refine g_callVvp (q := 56) (As := [.int 6, .int (((N1.f 21) - 1))]) C gyX8_wrong gvX8_wrong t_1222 (c_X8_wrong_m (y := 6) (z := ((N1.f 21) - 1)) HN1) dX8_checks_53 rfl HN1.1 rfl rfl rfl (Nat.le_of_ble_eq_true rfl) (Nat.le_of_ble_eq_true rfl) (Nat.le_of_ble_eq_true rfl) (Nat.le_of_ble_eq_true rfl) (Nat.le_of_ble_eq_true rfl) rfl (fun h2 z2 => ?_)
          obtain ⟨HN2, fn2⟩ := z2
          have R2 := gRz.trans R1 (gRz.wr (y := 6) (z := ((N1.f 21) - 1)))
          exact E.2.1 _ _ _ _ _ dX8_checks_56 rfl (Nat.le_of_ble_eq_true rfl) (Nat.le_of_ble_eq_true rfl) ⟨rfl, _, HN2, (gFM.trans fn1 fn2), gRz.le R2 (by decide), (fun i q => gWr.a.trans (bn1.a i q))⟩
      | succ d ih =>
        intro j hj t
        refine g_iload_n (q := 18) C dX8_checks_17 rfl rfl ?_
        refine g_aload_n (q := 19) C dX8_checks_18 rfl rfl ?_
        refine g_getfield (v := .int ((N1.f 21))) (q := 22) C fX8_89 dX8_checks_19 rfl HN1.1 rfl ?_
        rw [show (N1.f 21) = nI a' from p3]
        refine g_icmp_ge_f (t := 40) (q := 25) C dX8_checks_22 (by decide) rfl (fun h => nI_ge (show j < a' by omega) (by omega) h) ?_
        refine g_iload_n (q := 26) C dX8_checks_25 rfl rfl ?_
        refine g_aload_n (q := 27) C dX8_checks_26 rfl rfl ?_
        refine g_getfield (v := .ref 123) (q := 30) C fX8_7 dX8_checks_27 rfl HN1.1 rfl ?_
        refine g_iload_n (q := 31) C dX8_checks_30 rfl rfl ?_
        refine g_ialoadN (x := (N1.a 0 j)) (j := j) (q := 32) C dX8_checks_31 rfl (HN1.ar (i := 0) (n := 96) (by decide) rfl) (pk_in j 96 (by omega)) (pk_cl j rfl (by omega)) rfl ?_
        refine g_ixor (q := 33) C dX8_checks_32 rfl ?_
        refine g_istore_n (q := 34) C dX8_checks_33 (Nat.le_of_ble_eq_true rfl) (by simp only [gset]; rfl) rfl ?_
        refine g_iinc (v := (nI (j + 1))) (q := 37) C dX8_checks_34 rfl (nI_1 j) (by simp only [gset]; rfl) rfl ?_
        refine g_goto (q := 17) C dX8_checks_37 (by decide) ?_
        exact ih (j + 1) (by omega) _
    exact LL (a' - 1) 1 (by omega) 0
    
  ·
    exact E.2.1 _ _ _ _ _ dX8_checks_12 rfl (Nat.le_of_ble_eq_true rfl) (Nat.le_of_ble_eq_true rfl) ⟨rfl, _, HN1, fn1, gRz.le R1 (by decide), (bn1.a)⟩
  
