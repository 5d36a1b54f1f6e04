/-! Wire, more: faults told (by program: wip/p1/m_wire2.py) -/
/-- as gWire, but for the fault at place i -/
def gWireX (hp : List gA) (w : Nat) (re le ag : Int32) (m i : Nat) : Prop := ∃ (fl fk fb : Nat → Int32) (pk bn : Int32), hp[w]? = some (.inr (.inr (6, [.int re, .int le, .int ag, .ref (w + 1), .ref (w + 2), .ref (w + 3), .int (nI m), .int (-1), .int pk, .int bn]))) ∧ hp[w + 1]? = some (.inl (24, fl)) ∧ hp[w + 2]? = some (.inl (24, fk)) ∧ hp[w + 3]? = some (.inl (24, fb)) ∧ m ≤ 24 ∧ ∀ j, j < m → j ≠ i → fk j = 1 ∨ fk j = 3
theorem gcut {m : Nat} (hm : m < 24) : gmin (nI m) 23 = nI m := by
  rw [show (23 : Int32) = nI 23 from rfl, gmn (by omega) (by omega), Nat.min_eq_left (by omega)]
theorem gcut2 {m : Nat} (hm : m < 24) : gmin (nI m + 1) 24 = nI (m + 1) := by
  rw [nI_1, show (24 : Int32) = nI 24 from rfl, gmn (by omega) (by omega), Nat.min_eq_left (by omega)]
theorem gupdm {fk : Nat → Int32} {m k : Nat} {x : Int32} (h1 : m = k → x = 1 ∨ x = 3) (h2 : m ≠ k → fk m = 1 ∨ fk m = 3) : upd fk k x m = 1 ∨ upd fk k x m = 3 := by
  by_cases e : m = k
  · subst e; rw [pk_us]; exact h1 rfl
  · rw [pk_un e]; exact h2 e
theorem gupdX {fk : Nat → Int32} {m i : Nat} {y : Int32} (hk : ∀ j, j < m → j ≠ i → fk j = 1 ∨ fk j = 3) (hy : y = 1 ∨ y = 3) : ∀ j, j < m → upd fk i y j = 1 ∨ upd fk i y j = 3 := by
  intro j hj
  by_cases e : j = i
  · subst e; rw [pk_us]; exact hy
  · rw [pk_un e]; exact hk j hj e
theorem gdec {k : Nat} (h : 1 ≤ k) : nI k + Int32.ofInt (-1) = nI (k - 1) := by
  obtain ⟨j, rfl⟩ : ∃ j, k = j + 1 := ⟨k - 1, by omega⟩
  rw [nI_succ, Nat.add_sub_cancel, Int32.add_assoc, show (1 : Int32) + Int32.ofInt (-1) = 0 by decide, Int32.add_zero]
theorem dX6_makePlace_0 : decode cX6_makePlace 0 = .ok (.aload_n 0, 1) := by decide +kernel
theorem dX6_makePlace_1 : decode cX6_makePlace 1 = .ok (.getfield 31, 3) := by decide +kernel
theorem dX6_makePlace_4 : decode cX6_makePlace 4 = .ok (.bipush 23, 2) := by decide +kernel
theorem dX6_makePlace_6 : decode cX6_makePlace 6 = .ok (.invokestatic 47, 3) := by decide +kernel
theorem dX6_makePlace_9 : decode cX6_makePlace 9 = .ok (.istore_n 2, 1) := by decide +kernel
theorem dX6_makePlace_10 : decode cX6_makePlace 10 = .ok (.iload_n 2, 1) := by decide +kernel
theorem dX6_makePlace_11 : decode cX6_makePlace 11 = .ok (.iload_n 1, 1) := by decide +kernel
theorem dX6_makePlace_12 : decode cX6_makePlace 12 = .ok (.if_icmp .le 55, 3) := by decide +kernel
theorem dX6_makePlace_15 : decode cX6_makePlace 15 = .ok (.iload_n 2, 1) := by decide +kernel
theorem dX6_makePlace_16 : decode cX6_makePlace 16 = .ok (.ifCond .le 51, 3) := by decide +kernel
theorem dX6_makePlace_19 : decode cX6_makePlace 19 = .ok (.aload_n 0, 1) := by decide +kernel
theorem dX6_makePlace_20 : decode cX6_makePlace 20 = .ok (.getfield 21, 3) := by decide +kernel
theorem dX6_makePlace_23 : decode cX6_makePlace 23 = .ok (.iload_n 2, 1) := by decide +kernel
theorem dX6_makePlace_24 : decode cX6_makePlace 24 = .ok (.aload_n 0, 1) := by decide +kernel
theorem dX6_makePlace_25 : decode cX6_makePlace 25 = .ok (.getfield 21, 3) := by decide +kernel
theorem dX6_makePlace_28 : decode cX6_makePlace 28 = .ok (.iload_n 2, 1) := by decide +kernel
theorem dX6_makePlace_29 : decode cX6_makePlace 29 = .ok (.iconst 1, 1) := by decide +kernel
theorem dX6_makePlace_30 : decode cX6_makePlace 30 = .ok (.isub, 1) := by decide +kernel
theorem dX6_makePlace_31 : decode cX6_makePlace 31 = .ok (.iaload, 1) := by decide +kernel
theorem dX6_makePlace_32 : decode cX6_makePlace 32 = .ok (.iastore, 1) := by decide +kernel
theorem dX6_makePlace_33 : decode cX6_makePlace 33 = .ok (.aload_n 0, 1) := by decide +kernel
theorem dX6_makePlace_34 : decode cX6_makePlace 34 = .ok (.getfield 25, 3) := by decide +kernel
theorem dX6_makePlace_37 : decode cX6_makePlace 37 = .ok (.iload_n 2, 1) := by decide +kernel
theorem dX6_makePlace_38 : decode cX6_makePlace 38 = .ok (.aload_n 0, 1) := by decide +kernel
theorem dX6_makePlace_39 : decode cX6_makePlace 39 = .ok (.getfield 25, 3) := by decide +kernel
theorem dX6_makePlace_42 : decode cX6_makePlace 42 = .ok (.iload_n 2, 1) := by decide +kernel
theorem dX6_makePlace_43 : decode cX6_makePlace 43 = .ok (.iconst 1, 1) := by decide +kernel
theorem dX6_makePlace_44 : decode cX6_makePlace 44 = .ok (.isub, 1) := by decide +kernel
theorem dX6_makePlace_45 : decode cX6_makePlace 45 = .ok (.iaload, 1) := by decide +kernel
theorem dX6_makePlace_46 : decode cX6_makePlace 46 = .ok (.iastore, 1) := by decide +kernel
theorem dX6_makePlace_47 : decode cX6_makePlace 47 = .ok (.aload_n 0, 1) := by decide +kernel
theorem dX6_makePlace_48 : decode cX6_makePlace 48 = .ok (.getfield 28, 3) := by decide +kernel
theorem dX6_makePlace_51 : decode cX6_makePlace 51 = .ok (.iload_n 2, 1) := by decide +kernel
theorem dX6_makePlace_52 : decode cX6_makePlace 52 = .ok (.aload_n 0, 1) := by decide +kernel
theorem dX6_makePlace_53 : decode cX6_makePlace 53 = .ok (.getfield 28, 3) := by decide +kernel
theorem dX6_makePlace_56 : decode cX6_makePlace 56 = .ok (.iload_n 2, 1) := by decide +kernel
theorem dX6_makePlace_57 : decode cX6_makePlace 57 = .ok (.iconst 1, 1) := by decide +kernel
theorem dX6_makePlace_58 : decode cX6_makePlace 58 = .ok (.isub, 1) := by decide +kernel
theorem dX6_makePlace_59 : decode cX6_makePlace 59 = .ok (.iaload, 1) := by decide +kernel
theorem dX6_makePlace_60 : decode cX6_makePlace 60 = .ok (.iastore, 1) := by decide +kernel
theorem dX6_makePlace_61 : decode cX6_makePlace 61 = .ok (.iinc 2 (-1), 3) := by decide +kernel
theorem dX6_makePlace_64 : decode cX6_makePlace 64 = .ok (.goto (-54), 3) := by decide +kernel
theorem dX6_makePlace_67 : decode cX6_makePlace 67 = .ok (.aload_n 0, 1) := by decide +kernel
theorem dX6_makePlace_68 : decode cX6_makePlace 68 = .ok (.aload_n 0, 1) := by decide +kernel
theorem dX6_makePlace_69 : decode cX6_makePlace 69 = .ok (.getfield 31, 3) := by decide +kernel
theorem dX6_makePlace_72 : decode cX6_makePlace 72 = .ok (.iconst 1, 1) := by decide +kernel
theorem dX6_makePlace_73 : decode cX6_makePlace 73 = .ok (.iadd, 1) := by decide +kernel
theorem dX6_makePlace_74 : decode cX6_makePlace 74 = .ok (.bipush 24, 2) := by decide +kernel
theorem dX6_makePlace_76 : decode cX6_makePlace 76 = .ok (.invokestatic 47, 3) := by decide +kernel
theorem dX6_makePlace_79 : decode cX6_makePlace 79 = .ok (.putfield 31, 3) := by decide +kernel
theorem dX6_makePlace_82 : decode cX6_makePlace 82 = .ok (.return_, 1) := by decide +kernel
set_option maxRecDepth 100000 in
set_option maxHeartbeats 4000000 in
theorem c_X6_makePlace_w {hp : List gA} {w : Nat} {re le ag : Int32} {m : Nat} {i : Nat} (H : gWire hp w re le ag m) (hm1 : m < 24) (him : i ≤ m) : gM yX6_makePlace cX6_makePlace 3 (none) 1 21 [.ref w, .int ((nI i))] (hp) (0) (0) (fun v h => v = none ∧ (gWireX h w re le ag (m + 1) i ∧ gFW hp h w)) := by
  obtain ⟨fl, fk, fb, pk, bn, hw, hl, hk, hb, hm, hkk⟩ := id H
  refine gM_of (ls0 := [some (.ref w), some (.int ((nI i))), none]) (by decide +kernel) (Nat.le_of_ble_eq_true rfl) rfl fun X C E => ?_
  have LL : ∀ d k : Nat, i + d = k → k ≤ m → ∀ (h1 : List gA) (fl fk fb : Nat → Int32) (pk bn : Int32), h1[w]? = some (.inr (.inr (6, [.int re, .int le, .int ag, .ref (w + 1), .ref (w + 2), .ref (w + 3), .int (nI m), .int (-1), .int pk, .int bn]))) → h1[w + 1]? = some (.inl (24, fl)) → h1[w + 2]? = some (.inl (24, fk)) → h1[w + 3]? = some (.inl (24, fb)) → (∀ j, j < m → fk j = 1 ∨ fk j = 3) → (k < m → fk m = 1 ∨ fk m = 3) → gFW hp h1 w → gG X 10 [some (.ref w), some (.int (nI i)), some (.int (nI k))] [] h1 0 0 := by
    intro d
    induction d with
    | zero =>
      intro k hk1 hkm h1 fl fk fb pk bn hw hl hk hb hkk hkm2 fr
      obtain rfl : i = k := by omega
      refine g_iload_n (q := 11) C dX6_makePlace_10 rfl rfl ?_
      refine g_iload_n (q := 12) C dX6_makePlace_11 rfl rfl ?_
      refine g_icmp_le_t (t := 67) C dX6_makePlace_12 (by decide) (nI_le (Nat.le_refl _) (by omega)) ?_
      refine g_aload_n (q := 68) C dX6_makePlace_67 rfl rfl ?_
      refine g_aload_n (q := 69) C dX6_makePlace_68 rfl rfl ?_
      refine g_getfield (q := 72) C fX6_31 dX6_makePlace_69 rfl hw rfl ?_
      refine g_iconst (v := 1) (q := 73) C dX6_makePlace_72 (by decide) rfl ?_
      refine g_iadd (q := 74) C dX6_makePlace_73 rfl ?_
      refine g_bipush (v := 24) (q := 76) C dX6_makePlace_74 (by decide) rfl ?_
      refine g_callSi (q := 79) (As := [.int _, .int 24]) C gyJ9_min_7cf53 t_411 t_586 (c_J9_min_7cf53) dX6_makePlace_76 rfl rfl rfl (Nat.le_of_ble_eq_true rfl) (Nat.le_of_ble_eq_true rfl) (Nat.le_of_ble_eq_true rfl) (Nat.le_of_ble_eq_true rfl) (Nat.le_of_ble_eq_true rfl) rfl ?_
      rw [gcut2 hm1]
      refine g_putfield (q := 82) C fX6_31 dX6_makePlace_79 rfl hw (Nat.le_of_ble_eq_true rfl) (Or.inl rfl) rfl rfl (by intro z h; cases h) ?_
      exact E.2.1 _ _ _ _ _ dX6_makePlace_82 rfl (Nat.le_of_ble_eq_true rfl) (Nat.le_of_ble_eq_true rfl) ⟨rfl, ⟨fl, fk, fb, pk, bn, (gset_self hw), (gset_other hl (by omega)), (gset_other hk (by omega)), (gset_other hb (by omega)), by omega, fun j hj hne => (Nat.lt_or_ge j m).elim (hkk j) (fun h9 => (show m = j by omega) ▸ hkm2 (by omega))⟩, gFW.trans fr gFW.set⟩
    | succ d ih =>
      intro k hk1 hkm h1 fl fk fb pk bn hw hl hk hb hkk hkm2 fr
      refine g_iload_n (q := 11) C dX6_makePlace_10 rfl rfl ?_
      refine g_iload_n (q := 12) C dX6_makePlace_11 rfl rfl ?_
      refine g_icmp_le_f (t := 67) (q := 15) C dX6_makePlace_12 (by decide) rfl (fun h => nI_ge (show i < k by omega) (by omega) h) ?_
      refine g_iload_n (q := 16) C dX6_makePlace_15 rfl rfl ?_
      refine g_if_le_f (t := 67) (q := 19) C dX6_makePlace_16 (by decide) rfl (fun h => by have := gle0 (by omega) h; omega) ?_
      refine g_aload_n (q := 20) C dX6_makePlace_19 rfl rfl ?_
      refine g_getfield (q := 23) C fX6_21 dX6_makePlace_20 rfl hw rfl ?_
      refine g_iload_n (q := 24) C dX6_makePlace_23 rfl rfl ?_
      refine g_aload_n (q := 25) C dX6_makePlace_24 rfl rfl ?_
      refine g_getfield (q := 28) C fX6_21 dX6_makePlace_25 rfl hw rfl ?_
      refine g_iload_n (q := 29) C dX6_makePlace_28 rfl rfl ?_
      refine g_iconst (v := 1) (q := 30) C dX6_makePlace_29 (by decide) rfl ?_
      refine g_isub (q := 31) C dX6_makePlace_30 rfl ?_
      refine g_ialoadN (x := (fl (k - 1))) (j := (k - 1)) (q := 32) C dX6_makePlace_31 rfl hl (pk_in (k - 1) 24 (by omega) (pk_sub (b := 1) (by omega))) (pk_cl (k - 1) (pk_sub (b := 1) (by omega))) rfl ?_
      refine g_iastoreN (j := k) (q := 33) C dX6_makePlace_32 rfl hl (pk_in k 24 (by omega)) (pk_cl k) ?_
      refine g_aload_n (q := 34) C dX6_makePlace_33 rfl rfl ?_
      refine g_getfield (q := 37) C fX6_25 dX6_makePlace_34 rfl (gset_other hw (by omega)) rfl ?_
      refine g_iload_n (q := 38) C dX6_makePlace_37 rfl rfl ?_
      refine g_aload_n (q := 39) C dX6_makePlace_38 rfl rfl ?_
      refine g_getfield (q := 42) C fX6_25 dX6_makePlace_39 rfl (gset_other hw (by omega)) rfl ?_
      refine g_iload_n (q := 43) C dX6_makePlace_42 rfl rfl ?_
      refine g_iconst (v := 1) (q := 44) C dX6_makePlace_43 (by decide) rfl ?_
      refine g_isub (q := 45) C dX6_makePlace_44 rfl ?_
      refine g_ialoadN (x := (fk (k - 1))) (j := (k - 1)) (q := 46) C dX6_makePlace_45 rfl (gset_other hk (by omega)) (pk_in (k - 1) 24 (by omega) (pk_sub (b := 1) (by omega))) (pk_cl (k - 1) (pk_sub (b := 1) (by omega))) rfl ?_
      refine g_iastoreN (j := k) (q := 47) C dX6_makePlace_46 rfl (gset_other hk (by omega)) (pk_in k 24 (by omega)) (pk_cl k) ?_
      refine g_aload_n (q := 48) C dX6_makePlace_47 rfl rfl ?_
      refine g_getfield (q := 51) C fX6_28 dX6_makePlace_48 rfl (gset_other (gset_other hw (by omega)) (by omega)) rfl ?_
      refine g_iload_n (q := 52) C dX6_makePlace_51 rfl rfl ?_
      refine g_aload_n (q := 53) C dX6_makePlace_52 rfl rfl ?_
      refine g_getfield (q := 56) C fX6_28 dX6_makePlace_53 rfl (gset_other (gset_other hw (by omega)) (by omega)) rfl ?_
      refine g_iload_n (q := 57) C dX6_makePlace_56 rfl rfl ?_
      refine g_iconst (v := 1) (q := 58) C dX6_makePlace_57 (by decide) rfl ?_
      refine g_isub (q := 59) C dX6_makePlace_58 rfl ?_
      refine g_ialoadN (x := (fb (k - 1))) (j := (k - 1)) (q := 60) C dX6_makePlace_59 rfl (gset_other (gset_other hb (by omega)) (by omega)) (pk_in (k - 1) 24 (by omega) (pk_sub (b := 1) (by omega))) (pk_cl (k - 1) (pk_sub (b := 1) (by omega))) rfl ?_
      refine g_iastoreN (j := k) (q := 61) C dX6_makePlace_60 rfl (gset_other (gset_other hb (by omega)) (by omega)) (pk_in k 24 (by omega)) (pk_cl k) ?_
      refine g_iinc (v := (nI (k - 1))) (q := 64) C dX6_makePlace_61 rfl (gdec (by omega)) (by simp only [gset]; rfl) rfl ?_
      refine g_goto (q := 10) C dX6_makePlace_64 (by decide) ?_
      exact ih (k - 1) (by omega) (by omega) _ _ _ _ pk bn (gset_other (gset_other (gset_other hw (by omega)) (by omega)) (by omega)) (gset_other (gset_other (gset_self hl) (by omega)) (by omega)) (gset_other (gset_self (gset_other hk (by omega))) (by omega)) (gset_self (gset_other (gset_other hb (by omega)) (by omega))) (gupd hkk (hkk (k - 1) (by omega))) (fun _ => gupdm (fun e => hkk _ (by omega)) (fun e => hkm2 (by omega))) (gFW.trans fr (fun k hk => by repeat (first | rfl | rw [List.getElem?_set_ne (by omega)])))
  refine g_aload_n (q := 1) C dX6_makePlace_0 rfl rfl ?_
  refine g_getfield (q := 4) C fX6_31 dX6_makePlace_1 rfl hw rfl ?_
  refine g_bipush (v := 23) (q := 6) C dX6_makePlace_4 (by decide) rfl ?_
  refine g_callSi (q := 9) (As := [.int ((nI m)), .int 23]) C gyJ9_min_7cf53 t_411 t_586 (c_J9_min_7cf53) dX6_makePlace_6 rfl rfl rfl (Nat.le_of_ble_eq_true rfl) (Nat.le_of_ble_eq_true rfl) (Nat.le_of_ble_eq_true rfl) (Nat.le_of_ble_eq_true rfl) (Nat.le_of_ble_eq_true rfl) rfl ?_
  rw [gcut hm1]
  refine g_istore_n (q := 10) C dX6_makePlace_9 (Nat.le_of_ble_eq_true rfl) (by simp only [gset]; rfl) rfl ?_
  exact LL (m - i) m (by omega) (Nat.le_refl _) hp fl fk fb pk bn hw hl hk hb hkk (fun h => absurd h (Nat.lt_irrefl _)) gFW.rf
  
theorem dX6_addFault_0 : decode cX6_addFault 0 = .ok (.aload_n 0, 1) := by decide +kernel
theorem dX6_addFault_1 : decode cX6_addFault 1 = .ok (.getfield 15, 3) := by decide +kernel
theorem dX6_addFault_4 : decode cX6_addFault 4 = .ok (.iload_n 1, 1) := by decide +kernel
theorem dX6_addFault_5 : decode cX6_addFault 5 = .ok (.iadd, 1) := by decide +kernel
theorem dX6_addFault_6 : decode cX6_addFault 6 = .ok (.istore 4, 2) := by decide +kernel
theorem dX6_addFault_8 : decode cX6_addFault 8 = .ok (.iconst 0, 1) := by decide +kernel
theorem dX6_addFault_9 : decode cX6_addFault 9 = .ok (.istore 5, 2) := by decide +kernel
theorem dX6_addFault_11 : decode cX6_addFault 11 = .ok (.iload 5, 2) := by decide +kernel
theorem dX6_addFault_13 : decode cX6_addFault 13 = .ok (.aload_n 0, 1) := by decide +kernel
theorem dX6_addFault_14 : decode cX6_addFault 14 = .ok (.getfield 31, 3) := by decide +kernel
theorem dX6_addFault_17 : decode cX6_addFault 17 = .ok (.if_icmp .ge 28, 3) := by decide +kernel
theorem dX6_addFault_20 : decode cX6_addFault 20 = .ok (.iload 5, 2) := by decide +kernel
theorem dX6_addFault_22 : decode cX6_addFault 22 = .ok (.bipush 24, 2) := by decide +kernel
theorem dX6_addFault_24 : decode cX6_addFault 24 = .ok (.if_icmp .ge 21, 3) := by decide +kernel
theorem dX6_addFault_27 : decode cX6_addFault 27 = .ok (.aload_n 0, 1) := by decide +kernel
theorem dX6_addFault_28 : decode cX6_addFault 28 = .ok (.getfield 21, 3) := by decide +kernel
theorem dX6_addFault_31 : decode cX6_addFault 31 = .ok (.iload 5, 2) := by decide +kernel
theorem dX6_addFault_33 : decode cX6_addFault 33 = .ok (.iaload, 1) := by decide +kernel
theorem dX6_addFault_34 : decode cX6_addFault 34 = .ok (.iload 4, 2) := by decide +kernel
theorem dX6_addFault_36 : decode cX6_addFault 36 = .ok (.if_icmp .ge 9, 3) := by decide +kernel
theorem dX6_addFault_39 : decode cX6_addFault 39 = .ok (.iinc 5 1, 3) := by decide +kernel
theorem dX6_addFault_42 : decode cX6_addFault 42 = .ok (.goto (-31), 3) := by decide +kernel
theorem dX6_addFault_45 : decode cX6_addFault 45 = .ok (.iload 5, 2) := by decide +kernel
theorem dX6_addFault_47 : decode cX6_addFault 47 = .ok (.bipush 24, 2) := by decide +kernel
theorem dX6_addFault_49 : decode cX6_addFault 49 = .ok (.if_icmp .lt 4, 3) := by decide +kernel
theorem dX6_addFault_53 : decode cX6_addFault 53 = .ok (.iload 5, 2) := by decide +kernel
theorem dX6_addFault_55 : decode cX6_addFault 55 = .ok (.aload_n 0, 1) := by decide +kernel
theorem dX6_addFault_56 : decode cX6_addFault 56 = .ok (.getfield 31, 3) := by decide +kernel
theorem dX6_addFault_59 : decode cX6_addFault 59 = .ok (.if_icmp .ge 15, 3) := by decide +kernel
theorem dX6_addFault_62 : decode cX6_addFault 62 = .ok (.aload_n 0, 1) := by decide +kernel
theorem dX6_addFault_63 : decode cX6_addFault 63 = .ok (.getfield 21, 3) := by decide +kernel
theorem dX6_addFault_66 : decode cX6_addFault 66 = .ok (.iload 5, 2) := by decide +kernel
theorem dX6_addFault_68 : decode cX6_addFault 68 = .ok (.iaload, 1) := by decide +kernel
theorem dX6_addFault_69 : decode cX6_addFault 69 = .ok (.iload 4, 2) := by decide +kernel
theorem dX6_addFault_71 : decode cX6_addFault 71 = .ok (.if_icmp .eq 9, 3) := by decide +kernel
theorem dX6_addFault_74 : decode cX6_addFault 74 = .ok (.aload_n 0, 1) := by decide +kernel
theorem dX6_addFault_75 : decode cX6_addFault 75 = .ok (.iload 5, 2) := by decide +kernel
theorem dX6_addFault_77 : decode cX6_addFault 77 = .ok (.invokevirtual 43, 3) := by decide +kernel
theorem dX6_addFault_80 : decode cX6_addFault 80 = .ok (.aload_n 0, 1) := by decide +kernel
theorem dX6_addFault_81 : decode cX6_addFault 81 = .ok (.getfield 21, 3) := by decide +kernel
theorem dX6_addFault_84 : decode cX6_addFault 84 = .ok (.iload 5, 2) := by decide +kernel
theorem dX6_addFault_86 : decode cX6_addFault 86 = .ok (.iload 4, 2) := by decide +kernel
theorem dX6_addFault_88 : decode cX6_addFault 88 = .ok (.iastore, 1) := by decide +kernel
theorem dX6_addFault_89 : decode cX6_addFault 89 = .ok (.aload_n 0, 1) := by decide +kernel
theorem dX6_addFault_90 : decode cX6_addFault 90 = .ok (.getfield 25, 3) := by decide +kernel
theorem dX6_addFault_93 : decode cX6_addFault 93 = .ok (.iload 5, 2) := by decide +kernel
theorem dX6_addFault_95 : decode cX6_addFault 95 = .ok (.iload_n 2, 1) := by decide +kernel
theorem dX6_addFault_96 : decode cX6_addFault 96 = .ok (.iastore, 1) := by decide +kernel
theorem dX6_addFault_97 : decode cX6_addFault 97 = .ok (.aload_n 0, 1) := by decide +kernel
theorem dX6_addFault_98 : decode cX6_addFault 98 = .ok (.getfield 28, 3) := by decide +kernel
theorem dX6_addFault_101 : decode cX6_addFault 101 = .ok (.iload 5, 2) := by decide +kernel
theorem dX6_addFault_103 : decode cX6_addFault 103 = .ok (.iload_n 3, 1) := by decide +kernel
theorem dX6_addFault_104 : decode cX6_addFault 104 = .ok (.iastore, 1) := by decide +kernel
theorem dX6_addFault_105 : decode cX6_addFault 105 = .ok (.return_, 1) := by decide +kernel
set_option maxRecDepth 100000 in
set_option maxHeartbeats 4000000 in
theorem c_X6_addFault_w {hp : List gA} {w : Nat} {re le ag : Int32} {m : Nat} {x y z : Int32} (H : gWire hp w re le ag m) (hm1 : m < 24) (hy : y = 1 ∨ y = 3) : gM yX6_addFault cX6_addFault 6 (none) 2 43 [.ref w, .int x, .int y, .int z] (hp) (0) (0) (fun v h => v = none ∧ ∃ m1, m1 ≤ m + 1 ∧ gWire h w re le ag m1 ∧ gFW hp h w) := by
  obtain ⟨fl, fk, fb, pk, bn, hw, hl, hk, hb, hm, hkk⟩ := id H
  refine gM_of (ls0 := [some (.ref w), some (.int x), some (.int y), some (.int z), none, none]) (by decide +kernel) (Nat.le_of_ble_eq_true rfl) rfl fun X C E => ?_
  have K : ∀ i : Nat, i ≤ m → gG X 45 [some (.ref w), some (.int x), some (.int y), some (.int z), some (.int (le + x)), some (.int (nI i))] [] hp 0 0 := by
    intro i him
    have P : gG X 74 [some (.ref w), some (.int x), some (.int y), some (.int z), some (.int (le + x)), some (.int (nI i))] [] hp 0 0 := by
      refine g_aload_n (q := 75) C dX6_addFault_74 rfl rfl ?_
      refine g_iload (q := 77) C dX6_addFault_75 rfl rfl ?_
      refine g_callVvp (q := 80) (As := [.int ((nI i))]) C gyX6_makePlace gvX6_makePlace t_582 (c_X6_makePlace_w (H := H) (hm1 := hm1) (him := him)) dX6_addFault_77 rfl hw rfl rfl rfl (Nat.le_of_ble_eq_true rfl) (Nat.le_of_ble_eq_true rfl) (Nat.le_of_ble_eq_true rfl) (Nat.le_of_ble_eq_true rfl) (Nat.le_of_ble_eq_true rfl) rfl (fun h1 z1 => ?_)
      obtain ⟨⟨fl2, fk2, fb2, pk2, bn2, hw2, hl2, hk2, hb2, hm2, hkk2⟩, fr1⟩ := z1
      refine g_aload_n (q := 81) C dX6_addFault_80 rfl rfl ?_
      refine g_getfield (q := 84) C fX6_21 dX6_addFault_81 rfl hw2 rfl ?_
      refine g_iload (q := 86) C dX6_addFault_84 rfl rfl ?_
      refine g_iload (q := 88) C dX6_addFault_86 rfl rfl ?_
      refine g_iastoreN (j := i) (q := 89) C dX6_addFault_88 rfl hl2 (pk_in i 24 (by omega)) (pk_cl i) ?_
      refine g_aload_n (q := 90) C dX6_addFault_89 rfl rfl ?_
      refine g_getfield (q := 93) C fX6_25 dX6_addFault_90 rfl (gset_other hw2 (by omega)) rfl ?_
      refine g_iload (q := 95) C dX6_addFault_93 rfl rfl ?_
      refine g_iload_n (q := 96) C dX6_addFault_95 rfl rfl ?_
      refine g_iastoreN (j := i) (q := 97) C dX6_addFault_96 rfl (gset_other hk2 (by omega)) (pk_in i 24 (by omega)) (pk_cl i) ?_
      refine g_aload_n (q := 98) C dX6_addFault_97 rfl rfl ?_
      refine g_getfield (q := 101) C fX6_28 dX6_addFault_98 rfl (gset_other (gset_other hw2 (by omega)) (by omega)) rfl ?_
      refine g_iload (q := 103) C dX6_addFault_101 rfl rfl ?_
      refine g_iload_n (q := 104) C dX6_addFault_103 rfl rfl ?_
      refine g_iastoreN (j := i) (q := 105) C dX6_addFault_104 rfl (gset_other (gset_other hb2 (by omega)) (by omega)) (pk_in i 24 (by omega)) (pk_cl i) ?_
      exact E.2.1 _ _ _ _ _ dX6_addFault_105 rfl (Nat.le_of_ble_eq_true rfl) (Nat.le_of_ble_eq_true rfl) ⟨rfl, m + 1, Nat.le_refl _, ⟨_, _, _, pk2, bn2, (gset_other (gset_other (gset_other hw2 (by omega)) (by omega)) (by omega)), (gset_other (gset_other (gset_self hl2) (by omega)) (by omega)), (gset_other (gset_self (gset_other hk2 (by omega))) (by omega)), (gset_self (gset_other (gset_other hb2 (by omega)) (by omega))), hm2, gupdX hkk2 hy⟩, gFW.trans fr1 (fun k hk => by repeat (first | rfl | rw [List.getElem?_set_ne (by omega)]))⟩
    by_cases e : i = m
    ·
      subst e
      refine g_iload (q := 47) C dX6_addFault_45 rfl rfl ?_
      refine g_bipush (v := 24) (q := 49) C dX6_addFault_47 (by decide) rfl ?_
      refine g_icmp_lt_t (t := 53) C dX6_addFault_49 (by decide) (nI_lt (show i < 24 by omega) (by decide)) ?_
      refine g_iload (q := 55) C dX6_addFault_53 rfl rfl ?_
      refine g_aload_n (q := 56) C dX6_addFault_55 rfl rfl ?_
      refine g_getfield (q := 59) C fX6_31 dX6_addFault_56 rfl hw rfl ?_
      refine g_icmp_ge_t (t := 74) C dX6_addFault_59 (by decide) (nI_le (Nat.le_refl _) (by omega)) ?_
      exact P
    ·
      refine g_iload (q := 47) C dX6_addFault_45 rfl rfl ?_
      refine g_bipush (v := 24) (q := 49) C dX6_addFault_47 (by decide) rfl ?_
      refine g_icmp_lt_t (t := 53) C dX6_addFault_49 (by decide) (nI_lt (show i < 24 by omega) (by decide)) ?_
      refine g_iload (q := 55) C dX6_addFault_53 rfl rfl ?_
      refine g_aload_n (q := 56) C dX6_addFault_55 rfl rfl ?_
      refine g_getfield (q := 59) C fX6_31 dX6_addFault_56 rfl hw rfl ?_
      refine g_icmp_ge_f (t := 74) (q := 62) C dX6_addFault_59 (by decide) rfl (fun h => nI_ge (show i < m by omega) (by omega) h) ?_
      refine g_aload_n (q := 63) C dX6_addFault_62 rfl rfl ?_
      refine g_getfield (q := 66) C fX6_21 dX6_addFault_63 rfl hw rfl ?_
      refine g_iload (q := 68) C dX6_addFault_66 rfl rfl ?_
      refine g_ialoadN (x := (fl i)) (j := i) (q := 69) C dX6_addFault_68 rfl hl (pk_in i 24 (by omega)) (pk_cl i) rfl ?_
      refine g_iload (q := 71) C dX6_addFault_69 rfl rfl ?_
      refine g_icmp_eq (t := 80) (q := 74) C dX6_addFault_71 (by decide) rfl (fun c_71 => ?_) (fun c_71 => ?_)
      · -- to 80
        refine g_aload_n (q := 81) C dX6_addFault_80 rfl rfl ?_
        refine g_getfield (q := 84) C fX6_21 dX6_addFault_81 rfl hw rfl ?_
        refine g_iload (q := 86) C dX6_addFault_84 rfl rfl ?_
        refine g_iload (q := 88) C dX6_addFault_86 rfl rfl ?_
        refine g_iastoreN (j := i) (q := 89) C dX6_addFault_88 rfl hl (pk_in i 24 (by omega)) (pk_cl i) ?_
        refine g_aload_n (q := 90) C dX6_addFault_89 rfl rfl ?_
        refine g_getfield (q := 93) C fX6_25 dX6_addFault_90 rfl (gset_other hw (by omega)) rfl ?_
        refine g_iload (q := 95) C dX6_addFault_93 rfl rfl ?_
        refine g_iload_n (q := 96) C dX6_addFault_95 rfl rfl ?_
        refine g_iastoreN (j := i) (q := 97) C dX6_addFault_96 rfl (gset_other hk (by omega)) (pk_in i 24 (by omega)) (pk_cl i) ?_
        refine g_aload_n (q := 98) C dX6_addFault_97 rfl rfl ?_
        refine g_getfield (q := 101) C fX6_28 dX6_addFault_98 rfl (gset_other (gset_other hw (by omega)) (by omega)) rfl ?_
        refine g_iload (q := 103) C dX6_addFault_101 rfl rfl ?_
        refine g_iload_n (q := 104) C dX6_addFault_103 rfl rfl ?_
        refine g_iastoreN (j := i) (q := 105) C dX6_addFault_104 rfl (gset_other (gset_other hb (by omega)) (by omega)) (pk_in i 24 (by omega)) (pk_cl i) ?_
        exact E.2.1 _ _ _ _ _ dX6_addFault_105 rfl (Nat.le_of_ble_eq_true rfl) (Nat.le_of_ble_eq_true rfl) ⟨rfl, m, Nat.le_succ _, ⟨_, _, _, pk, bn, (gset_other (gset_other (gset_other hw (by omega)) (by omega)) (by omega)), (gset_other (gset_other (gset_self hl) (by omega)) (by omega)), (gset_other (gset_self (gset_other hk (by omega))) (by omega)), (gset_self (gset_other (gset_other hb (by omega)) (by omega))), hm, gupd hkk hy⟩, (fun k hk => by repeat (first | rfl | rw [List.getElem?_set_ne (by omega)]))⟩
      · -- to 74
        exact P
  have LL : ∀ d i : Nat, i + d = m → gG X 11 [some (.ref w), some (.int x), some (.int y), some (.int z), some (.int (le + x)), some (.int (nI i))] [] hp 0 0 := by
    intro d
    induction d with
    | zero =>
      intro i hi
      obtain rfl : i = m := by omega
      refine g_iload (q := 13) C dX6_addFault_11 rfl rfl ?_
      refine g_aload_n (q := 14) C dX6_addFault_13 rfl rfl ?_
      refine g_getfield (q := 17) C fX6_31 dX6_addFault_14 rfl hw rfl ?_
      refine g_icmp_ge_t (t := 45) C dX6_addFault_17 (by decide) (nI_le (Nat.le_refl _) (by omega)) ?_
      exact K i (Nat.le_refl _)
    | succ d ih =>
      intro i hi
      refine g_iload (q := 13) C dX6_addFault_11 rfl rfl ?_
      refine g_aload_n (q := 14) C dX6_addFault_13 rfl rfl ?_
      refine g_getfield (q := 17) C fX6_31 dX6_addFault_14 rfl hw rfl ?_
      refine g_icmp_ge_f (t := 45) (q := 20) C dX6_addFault_17 (by decide) rfl (fun h => nI_ge (show i < m by omega) (by omega) h) ?_
      refine g_iload (q := 22) C dX6_addFault_20 rfl rfl ?_
      refine g_bipush (v := 24) (q := 24) C dX6_addFault_22 (by decide) rfl ?_
      refine g_icmp_ge_f (t := 45) (q := 27) C dX6_addFault_24 (by decide) rfl (fun h => nI_ge (show i < 24 by omega) (by omega) h) ?_
      refine g_aload_n (q := 28) C dX6_addFault_27 rfl rfl ?_
      refine g_getfield (q := 31) C fX6_21 dX6_addFault_28 rfl hw rfl ?_
      refine g_iload (q := 33) C dX6_addFault_31 rfl rfl ?_
      refine g_ialoadN (x := (fl i)) (j := i) (q := 34) C dX6_addFault_33 rfl hl (pk_in i 24 (by omega)) (pk_cl i) rfl ?_
      refine g_iload (q := 36) C dX6_addFault_34 rfl rfl ?_
      refine g_icmp_ge (t := 45) (q := 39) C dX6_addFault_36 (by decide) rfl (fun c_36 => ?_) (fun c_36 => ?_)
      · -- to 45
        exact K i (by omega)
      · -- to 39
        refine g_iinc (v := (nI (i + 1))) (q := 42) C dX6_addFault_39 rfl (nI_1 i) (by simp only [gset]; rfl) rfl ?_
        refine g_goto (q := 11) C dX6_addFault_42 (by decide) ?_
        exact ih (i + 1) (by omega)
  refine g_aload_n (q := 1) C dX6_addFault_0 rfl rfl ?_
  refine g_getfield (q := 4) C fX6_15 dX6_addFault_1 rfl hw rfl ?_
  refine g_iload_n (q := 5) C dX6_addFault_4 rfl rfl ?_
  refine g_iadd (q := 6) C dX6_addFault_5 rfl ?_
  refine g_istore (q := 8) C dX6_addFault_6 (Nat.le_of_ble_eq_true rfl) (by simp only [gset]; rfl) rfl ?_
  refine g_iconst (v := 0) (q := 9) C dX6_addFault_8 (by decide) rfl ?_
  refine g_istore (q := 11) C dX6_addFault_9 (Nat.le_of_ble_eq_true rfl) (by simp only [gset]; rfl) rfl ?_
  exact LL m 0 (by omega)
  
theorem dX6_restart_0 : decode cX6_restart 0 = .ok (.aload_n 0, 1) := by decide +kernel
theorem dX6_restart_1 : decode cX6_restart 1 = .ok (.iconst 0, 1) := by decide +kernel
theorem dX6_restart_2 : decode cX6_restart 2 = .ok (.putfield 15, 3) := by decide +kernel
theorem dX6_restart_5 : decode cX6_restart 5 = .ok (.aload_n 0, 1) := by decide +kernel
theorem dX6_restart_6 : decode cX6_restart 6 = .ok (.iconst 0, 1) := by decide +kernel
theorem dX6_restart_7 : decode cX6_restart 7 = .ok (.putfield 18, 3) := by decide +kernel
theorem dX6_restart_10 : decode cX6_restart 10 = .ok (.aload_n 0, 1) := by decide +kernel
theorem dX6_restart_11 : decode cX6_restart 11 = .ok (.iconst 0, 1) := by decide +kernel
theorem dX6_restart_12 : decode cX6_restart 12 = .ok (.putfield 31, 3) := by decide +kernel
theorem dX6_restart_15 : decode cX6_restart 15 = .ok (.aload_n 0, 1) := by decide +kernel
theorem dX6_restart_16 : decode cX6_restart 16 = .ok (.iconst (-1), 1) := by decide +kernel
theorem dX6_restart_17 : decode cX6_restart 17 = .ok (.putfield 34, 3) := by decide +kernel
theorem dX6_restart_20 : decode cX6_restart 20 = .ok (.return_, 1) := by decide +kernel
set_option maxRecDepth 100000 in
set_option maxHeartbeats 4000000 in
theorem c_X6_restart_w {hp : List gA} {w : Nat} {re le ag : Int32} {m : Nat} (H : gWire hp w re le ag m) : gM yX6_restart cX6_restart 1 (none) 0 0 [.ref w] (hp) (0) (0) (fun v h => v = none ∧ (gWire h w re 0 0 0 ∧ gFW hp h w)) := by
  obtain ⟨fl, fk, fb, pk, bn, hw, hl, hk, hb, hm, hkk⟩ := id H
  refine gM_of (ls0 := [some (.ref w)]) (by decide +kernel) (Nat.le_of_ble_eq_true rfl) rfl fun X C E => ?_
  refine g_aload_n (q := 1) C dX6_restart_0 rfl rfl ?_
  refine g_iconst (v := 0) (q := 2) C dX6_restart_1 (by decide) rfl ?_
  refine g_putfield (q := 5) C fX6_15 dX6_restart_2 rfl hw (Nat.le_of_ble_eq_true rfl) (Or.inl rfl) rfl rfl (by intro z h; cases h) ?_
  refine g_aload_n (q := 6) C dX6_restart_5 rfl rfl ?_
  refine g_iconst (v := 0) (q := 7) C dX6_restart_6 (by decide) rfl ?_
  refine g_putfield (q := 10) C fX6_18 dX6_restart_7 rfl (gset_self hw) (Nat.le_of_ble_eq_true rfl) (Or.inl rfl) rfl rfl (by intro z h; cases h) ?_
  refine g_aload_n (q := 11) C dX6_restart_10 rfl rfl ?_
  refine g_iconst (v := 0) (q := 12) C dX6_restart_11 (by decide) rfl ?_
  refine g_putfield (q := 15) C fX6_31 dX6_restart_12 rfl (gset_self (gset_self hw)) (Nat.le_of_ble_eq_true rfl) (Or.inl rfl) rfl rfl (by intro z h; cases h) ?_
  refine g_aload_n (q := 16) C dX6_restart_15 rfl rfl ?_
  refine g_iconst (v := (-1)) (q := 17) C dX6_restart_16 (by decide) rfl ?_
  refine g_putfield (q := 20) C fX6_34 dX6_restart_17 rfl (gset_self (gset_self (gset_self hw))) (Nat.le_of_ble_eq_true rfl) (Or.inl rfl) rfl rfl (by intro z h; cases h) ?_
  exact E.2.1 _ _ _ _ _ dX6_restart_20 rfl (Nat.le_of_ble_eq_true rfl) (Nat.le_of_ble_eq_true rfl) ⟨rfl, ⟨fl, fk, fb, pk, bn, (gset_self (gset_self (gset_self (gset_self hw)))), (gset_other (gset_other (gset_other (gset_other hl (by omega)) (by omega)) (by omega)) (by omega)), (gset_other (gset_other (gset_other (gset_other hk (by omega)) (by omega)) (by omega)) (by omega)), (gset_other (gset_other (gset_other (gset_other hb (by omega)) (by omega)) (by omega)) (by omega)), by omega, fun j hj => absurd hj (Nat.not_lt_zero _)⟩, (fun k hk => by repeat (first | rfl | rw [List.getElem?_set_ne (by omega)]))⟩
