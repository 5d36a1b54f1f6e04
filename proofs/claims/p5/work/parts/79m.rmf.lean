def rCb (t : List Int32) (r : Int32 × rq) : Int32 × rq :=
  if r.1 = 0 then (if nI t.length ≤ r.2.f 8 then (8 * r.2.f 8 + 1, r.2) else if rXo t (r.2.f 8).toNatClampNeg = 0 then (0, r.2.set 8 (r.2.f 8 + 1)) else (8 * r.2.f 8 + 6, r.2)) else r
section RM4
variable {t : List Int32} {M M' : gMd} {r : Int32 × rq} {x : Int32}
theorem rck1 (T : rT t M) (H : rM t M r) (h : gBn M M' x) (c : ¬ M'.f 22 = 0) : rM t M' (rCb t r) := by
  have hat := H.1.2.bn T h
  rcases rBn T H h with ⟨c1, e, -⟩ | ⟨c1, c2, e, -⟩ | ⟨c1, c2, e, -, -⟩
  · have e2 : rCb t r = r := if_neg c1
    rw [e2, e]; exact H
  · have e2 : rCb t r = (8 * r.2.f 8 + 1, r.2) := (if_pos c1).trans (if_pos c2)
    rw [e2]; exact ⟨⟨e, hat⟩, fun h => absurd h (gx8 (c := 1) (by decide) (by decide))⟩
  · exact absurd (show M'.f 22 = 0 by rw [e]; exact H.1.1.trans c1) c
theorem rck2 (T : rT t M) (H : rM t M r) (h : gBn M M' x) (c : M'.f 22 = 0) : ∃ p, p < t.length ∧ M'.f 21 = nI (p + 1) ∧ (rXo t p = 0 → rM t M' (rCb t r)) ∧ (¬ rXo t p = 0 → rM t (rX8_wrong M' 6 (M'.f 21 - 1)) (rCb t r)) := by
  have hl := T.2.1
  have hat := H.1.2.bn T h
  rcases rBn T H h with ⟨c1, e, -⟩ | ⟨c1, c2, e, -⟩ | ⟨c1, c2, e, -, -⟩
  · exact absurd (H.1.1.symm.trans (by rw [← e]; exact c)) c1
  · exact absurd (e.symm.trans c) (gx8 (c := 1) (by decide) (by decide))
  · obtain ⟨Q, p, hp, ep⟩ := H.2 c1
    have lt : p < t.length := by
      by_cases lt : p < t.length
      · exact lt
      · exact absurd (show nI t.length ≤ r.2.f 8 by rw [ep]; exact nI_le (by omega) (by omega)) c2
    have e21 : M'.f 21 = nI (p + 1) := by rw [e, ep, nI_1]; exact gset_s
    have ec : (r.2.f 8).toNatClampNeg = p := by rw [ep]; exact nI_clamp (by omega)
    refine ⟨p, lt, e21, fun d => ?_, fun d => ?_⟩
    · have e2 : rCb t r = ((0 : Int32), r.2.set 8 (r.2.f 8 + 1)) := (if_pos c1).trans ((if_neg c2).trans (if_pos (by rw [ec]; exact d)))
      rw [e2]
      exact ⟨⟨c, hat⟩, fun _ => ⟨by rw [e]; exact Q.at, p + 1, lt, by rw [rq.set_s, ep]; exact nI_1 p⟩⟩
    · have e2 : rCb t r = (8 * r.2.f 8 + 6, r.2) := (if_pos c1).trans ((if_neg c2).trans (if_neg (by rw [ec]; exact d)))
      rw [e2]
      refine ⟨⟨?_, ?_⟩, fun h => absurd h (gx8 (c := 6) (by decide) (by decide))⟩
      · rw [rW22 c, e21, ep, ← nI_1, rA1]
      · obtain ⟨a, ha, ea⟩ := hat
        exact ⟨a, ha, (rWr.f (by decide)).trans ea⟩
end RM4
set_option maxRecDepth 100000 in
set_option maxHeartbeats 4000000 in
theorem c_X8_checksx_r {hp : List gA} {M : gMd} {t : List Int32} {r : Int32 × rq} (HM : gMod hp M) (T : rT t M) (RZ : rM t M r) : gM yX8_checks cX8_checks 3 (none) 2 42 [.ref 122] (hp) (0) (0) (fun v h => v = none ∧ ∃ M', gMod h M' ∧ gFM hp h ∧ rK M M' ∧ (∀ i q, M'.a i q = M.a i q) ∧ rM t M' (rCb t r)) := by
  refine gM_of (ls0 := [some (.ref 122), none, none]) (by decide +kernel) (Nat.le_of_ble_eq_true rfl) rfl fun X C E => ?_
  have hz := RZ.hz T
  refine g_aload_n (q := 1) C dX8_checks_0 rfl rfl ?_
  refine g_callVip (q := 4) (As := []) C gyX8_byteNext gvX8_byteNext t_1218 (c_X8_byteNext_r HM hz) dX8_checks_1 rfl HM.1 rfl rfl rfl (Nat.le_of_ble_eq_true rfl) (Nat.le_of_ble_eq_true rfl) (Nat.le_of_ble_eq_true rfl) (Nat.le_of_ble_eq_true rfl) (Nat.le_of_ble_eq_true rfl) rfl (fun x1 h1 z1 => ?_)
  obtain ⟨N1, HN1, fn1, bn1⟩ := z1
  refine g_pop (q := 5) C dX8_checks_4 rfl rfl ?_
  refine g_aload_n (q := 6) C dX8_checks_5 rfl rfl ?_
  refine g_getfield (v := .int ((N1.f 22))) (q := 9) C fX8_86 dX8_checks_6 rfl HN1.1 rfl ?_
  refine g_if_eq (t := 13) (q := 12) C dX8_checks_9 (by decide) rfl (fun c_9 => ?_) (fun c_9 => ?_)
  ·
    refine g_iconst (v := 0) (q := 14) C dX8_checks_13 (by decide) rfl ?_
    refine g_istore_n (q := 15) C dX8_checks_14 (Nat.le_of_ble_eq_true rfl) (by simp only [gset]; rfl) rfl ?_
    refine g_iconst (v := 1) (q := 16) C dX8_checks_15 (by decide) rfl ?_
    refine g_istore_n (q := 17) C dX8_checks_16 (Nat.le_of_ble_eq_true rfl) (by simp only [gset]; rfl) rfl ?_
    have hl := T.2.1
    obtain ⟨p, lt, e21, k1, k2⟩ := rck2 T RZ bn1 c_9
    have ea : ∀ j, j < t.length → N1.a 0 j = gat t (nI j) := fun j hj => by rw [gat_nI (by omega), bn1.a]; exact T.2.2.1 j hj
    have LL : ∀ d j : Nat, j + d = p → gG X 17 [some (.ref 122), some (.int ((rXo t j))), some (.int ((nI (j + 1))))] [] h1 0 0 := by
      intro d
      induction d with
      | zero =>
        intro j hj
        obtain rfl : p = j := by omega
        refine g_iload_n (q := 18) C dX8_checks_17 rfl rfl ?_
        refine g_aload_n (q := 19) C dX8_checks_18 rfl rfl ?_
        refine g_getfield (v := .int ((N1.f 21))) (q := 22) C fX8_89 dX8_checks_19 rfl HN1.1 rfl ?_
        rw [show (N1.f 21) = nI (p + 1) from e21]
        refine g_icmp_ge_t (t := 40) C dX8_checks_22 (by decide) (nI_le (Nat.le_refl _) (by omega)) ?_
        refine g_iload_n (q := 41) C dX8_checks_40 rfl rfl ?_
        refine g_if_eq (t := 56) (q := 44) C dX8_checks_41 (by decide) rfl (fun c_41 => ?_) (fun c_41 => ?_)
        ·
          exact E.2.1 _ _ _ _ _ dX8_checks_56 rfl (Nat.le_of_ble_eq_true rfl) (Nat.le_of_ble_eq_true rfl) ⟨rfl, _, HN1, fn1, rK.bn bn1, bn1.a, k1 c_41⟩
        ·
          refine g_aload_n (q := 45) C dX8_checks_44 rfl rfl ?_
          refine g_bipush (v := 6) (q := 47) C dX8_checks_45 (by decide) rfl ?_
          refine g_aload_n (q := 48) C dX8_checks_47 rfl rfl ?_
          refine g_getfield (v := .int ((N1.f 21))) (q := 51) C fX8_89 dX8_checks_48 rfl HN1.1 rfl ?_
          refine g_iconst (v := 1) (q := 52) C dX8_checks_51 (by decide) rfl ?_
          refine g_isub (q := 53) C dX8_checks_52 rfl ?_
          refine g_callVvp (q := 56) (As := [.int 6, .int (((N1.f 21) - 1))]) C gyX8_wrong gvX8_wrong t_1222 (c_X8_wrong_m HN1) dX8_checks_53 rfl HN1.1 rfl rfl rfl (Nat.le_of_ble_eq_true rfl) (Nat.le_of_ble_eq_true rfl) (Nat.le_of_ble_eq_true rfl) (Nat.le_of_ble_eq_true rfl) (Nat.le_of_ble_eq_true rfl) rfl (fun h2 z2 => ?_)
          obtain ⟨HL2, fr2⟩ := z2
          exact E.2.1 _ _ _ _ _ dX8_checks_56 rfl (Nat.le_of_ble_eq_true rfl) (Nat.le_of_ble_eq_true rfl) ⟨rfl, _, HL2, (gFM.trans fn1 fr2), (rK.bn bn1).trans rK.wr, fun i q => gWr.a.trans (bn1.a i q), k2 c_41⟩
      | succ d ih =>
        intro j hj
        refine g_iload_n (q := 18) C dX8_checks_17 rfl rfl ?_
        refine g_aload_n (q := 19) C dX8_checks_18 rfl rfl ?_
        refine g_getfield (v := .int ((N1.f 21))) (q := 22) C fX8_89 dX8_checks_19 rfl HN1.1 rfl ?_
        rw [show (N1.f 21) = nI (p + 1) from e21]
        refine g_icmp_ge_f (t := 40) (q := 25) C dX8_checks_22 (by decide) rfl (fun h => nI_ge (show j + 1 < p + 1 by omega) (by omega) h) ?_
        refine g_iload_n (q := 26) C dX8_checks_25 rfl rfl ?_
        refine g_aload_n (q := 27) C dX8_checks_26 rfl rfl ?_
        refine g_getfield (v := .ref 123) (q := 30) C fX8_7 dX8_checks_27 rfl HN1.1 rfl ?_
        refine g_iload_n (q := 31) C dX8_checks_30 rfl rfl ?_
        refine g_ialoadN (x := (N1.a 0 (j + 1))) (j := (j + 1)) (q := 32) C dX8_checks_31 rfl (HN1.ar (i := 0) (n := 96) (by decide) rfl) (pk_in (j + 1) 96 (by omega)) (pk_cl (j + 1) rfl (by omega)) rfl ?_
        refine g_ixor (q := 33) C dX8_checks_32 rfl ?_
        refine g_istore_n (q := 34) C dX8_checks_33 (Nat.le_of_ble_eq_true rfl) (by simp only [gset]; rfl) rfl ?_
        refine g_iinc (v := (nI (j + 1 + 1))) (q := 37) C dX8_checks_34 rfl (nI_1 (j + 1)) (by simp only [gset]; rfl) rfl ?_
        have ex : ((rXo t j) ^^^ (N1.a 0 (j + 1))) = rXo t (j + 1) := by rw [ea (j + 1) (by omega)]; rfl
        rw [ex]
        refine g_goto (q := 17) C dX8_checks_37 (by decide) ?_
        exact ih (j + 1) (by omega)
    exact LL p 0 (by omega)
    
  ·
    exact E.2.1 _ _ _ _ _ dX8_checks_12 rfl (Nat.le_of_ble_eq_true rfl) (Nat.le_of_ble_eq_true rfl) ⟨rfl, _, HN1, fn1, rK.bn bn1, bn1.a, rck1 T RZ bn1 c_9⟩
