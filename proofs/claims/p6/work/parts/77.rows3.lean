/-! Row that may grow (by program: wip/p1/m_row3.py) -/
def gRg (hp : List gA) (r a n mo : Nat) (l : List Int32) : Prop := ∃ f, hp[r]? = some (.inr (.inr (4, [.ref a, .int (nI l.length), .int (nI mo)]))) ∧ hp[a]? = some (.inl (n, f)) ∧ l.length ≤ n ∧ n ≤ 1048576 ∧ ∀ j, j < l.length → f j = l.getD j 0
theorem gRw.g {hp : List gA} {r a n : Nat} {l : List Int32} (H : gRw hp r a n l) : gRg hp r a n n l := by obtain ⟨f, a1, a2, a3, a4, a5⟩ := H; exact ⟨f, a1, a2, a3, by omega, a5⟩
theorem gRg.kept {hp h : List gA} {r a n mo : Nat} {l : List Int32} (H : gRg hp r a n mo l) (h1 : h[r]? = hp[r]?) (h2 : h[a]? = hp[a]?) : gRg h r a n mo l := by
  obtain ⟨f, a1, a2, a3⟩ := H
  exact ⟨f, h1.trans a1, h2.trans a2, a3⟩
theorem gRg.obj {hp : List gA} {r a n mo : Nat} {l : List Int32} (H : gRg hp r a n mo l) : hp[r]? = some (.inr (.inr (4, [.ref a, .int (nI l.length), .int (nI mo)]))) := by obtain ⟨f, a1, -⟩ := H; exact a1
theorem gRg.le {hp : List gA} {r a n mo : Nat} {l : List Int32} (H : gRg hp r a n mo l) : l.length ≤ n ∧ n ≤ 1048576 := by obtain ⟨f, -, -, a3, a4, -⟩ := H; exact ⟨a3, a4⟩
theorem gRg.ne {hp : List gA} {r a n mo : Nat} {l : List Int32} (H : gRg hp r a n mo l) : r ≠ a := by
  obtain ⟨f, a1, a2, -⟩ := H
  exact gne a1 a2 (by intro h; cases h)
theorem gRg.lt {hp : List gA} {r a n mo : Nat} {l : List Int32} (H : gRg hp r a n mo l) : r < hp.length ∧ a < hp.length := by
  obtain ⟨f, a1, a2, -⟩ := H
  exact ⟨(List.getElem?_eq_some_iff.mp a1).1, (List.getElem?_eq_some_iff.mp a2).1⟩
def gput (l : List Int32) (x y : Int32) : List Int32 := if x < 0 then l else l.set x.toNatClampNeg y
theorem gput_len {l : List Int32} {x y : Int32} : (gput l x y).length = l.length := by unfold gput; split <;> simp
theorem gput_neg {l : List Int32} {x y : Int32} (h : x < 0) : gput l x y = l := if_pos h
theorem gput_out {l : List Int32} {x y : Int32} (h : nI l.length ≤ x) (hl : l.length < 2 ^ 31) : gput l x y = l := by
  unfold gput
  split
  · rfl
  · rename_i h0
    have h1 := gcl h0
    rw [Int32.le_iff_toInt_le, nI_toInt hl] at h
    rw [List.set_eq_of_length_le (by omega)]
theorem gsz_app {hp : List gA} {e : gA} : gsz (hp ++ [e]) = gsz hp + gcs e := by
  unfold gsz
  rw [List.map_append, List.sum_append]; simp
theorem gsz_set {hp : List gA} {k : Nat} {e e0 : gA} (h : hp[k]? = some e0) (he : gcs e = gcs e0) : gsz (hp.set k e) = gsz hp := by
  unfold gsz
  congr 1
  refine List.ext_getElem? fun i => ?_
  rw [List.getElem?_map, List.getElem?_map]
  by_cases hi : k = i
  · subst hi; rw [gset_self h, h]; exact congrArg some he
  · rw [List.getElem?_set_ne hi]
theorem gJ4 {fs : List Value} {n : Nat} (h : n < 1000) : (Sum.inr (Sum.inr (n, fs)) : gA) ≠ gJunk := by
  intro e
  simp only [gJunk, Sum.inr.injEq, Prod.mk.injEq] at e
  omega
theorem gapp_n {hp : List gA} {n : Nat} {x : gA} (hn : hp.length = n) : (hp ++ [x])[n]? = some x := by subst hn; simp
set_option maxRecDepth 100000 in
set_option maxHeartbeats 4000000 in
theorem c_X4_at_g {hp : List gA} {r a n mo : Nat} {l : List Int32} {x : Int32} (H : gRg hp r a n mo l) : gM yX4_at cX4_at 2 ((some .int)) 0 0 [.ref r, .int x] (hp) (0) (0) (fun v h => v = some (.int (gat l x)) ∧ h = hp) := by
  obtain ⟨f, hr, ha, hle, hn, hf⟩ := H
  have hlt : l.length < 2 ^ 31 := by omega
  have hnt : n < 2 ^ 31 := by omega
  refine gM_of (ls0 := [some (.ref r), some (.int x)]) (by decide +kernel) (Nat.le_of_ble_eq_true rfl) rfl fun X C E => ?_
  refine g_iload_n (q := 1) C dX4_at_0 rfl rfl ?_
  refine g_if_lt (t := 30) (q := 4) C dX4_at_1 (by decide) rfl (fun c_1 => ?_) (fun c_1 => ?_)
  · -- to 30
    refine g_iconst (v := 0) (q := 31) C dX4_at_30 (by decide) rfl ?_
    exact E.1 _ _ _ _ _ _ _ dX4_at_31 rfl rfl (Nat.le_of_ble_eq_true rfl) (Nat.le_of_ble_eq_true rfl) ⟨by rw [gat_neg c_1], rfl⟩
  · -- to 4
    refine g_iload_n (q := 5) C dX4_at_4 rfl rfl ?_
    refine g_aload_n (q := 6) C dX4_at_5 rfl rfl ?_
    refine g_getfield (q := 9) C fX4_7 dX4_at_6 rfl hr rfl ?_
    refine g_icmp_ge (t := 30) (q := 12) C dX4_at_9 (by decide) rfl (fun c_9 => ?_) (fun c_9 => ?_)
    · -- to 30
      refine g_iconst (v := 0) (q := 31) C dX4_at_30 (by decide) rfl ?_
      exact E.1 _ _ _ _ _ _ _ dX4_at_31 rfl rfl (Nat.le_of_ble_eq_true rfl) (Nat.le_of_ble_eq_true rfl) ⟨by rw [gat_out c_9 hlt], rfl⟩
    · -- to 12
      refine g_iload_n (q := 13) C dX4_at_12 rfl rfl ?_
      refine g_aload_n (q := 14) C dX4_at_13 rfl rfl ?_
      refine g_getfield (q := 17) C fX4_19 dX4_at_14 rfl hr rfl ?_
      refine g_arraylength (q := 18) C dX4_at_17 rfl ha rfl ?_
      refine g_icmp_ge_f (t := 30) (q := 21) C dX4_at_18 (by decide) rfl (by have h1 := gat_in c_1 c_9 hlt; have h2 := gcl c_1; intro h3; rw [Int32.le_iff_toInt_le] at h3; have h4 : (Int32.ofNat n).toInt = (n : Int) := nI_toInt hnt; rw [h4] at h3; omega) ?_
      refine g_aload_n (q := 22) C dX4_at_21 rfl rfl ?_
      refine g_getfield (q := 25) C fX4_19 dX4_at_22 rfl hr rfl ?_
      refine g_iload_n (q := 26) C dX4_at_25 rfl rfl ?_
      refine g_iaload (q := 27) C dX4_at_26 rfl ha (fun z => z.elim c_1 (fun z => absurd (Nat.lt_of_lt_of_le (gat_in c_1 c_9 hlt) hle) (Nat.not_lt.mpr z))) ?_
      refine g_goto (q := 31) C dX4_at_27 (by decide) ?_
      exact E.1 _ _ _ _ _ _ _ dX4_at_31 rfl rfl (Nat.le_of_ble_eq_true rfl) (Nat.le_of_ble_eq_true rfl) ⟨by rw [gat, if_neg c_1, hf _ (gat_in c_1 c_9 hlt)], rfl⟩
theorem gput_upd {l : List Int32} {f : Nat → Int32} {x y : Int32} {j : Nat} (c : ¬ x < 0) (hf : ∀ j, j < l.length → f j = l.getD j 0) (hj : j < l.length) : upd f x.toNatClampNeg y j = (gput l x y).getD j 0 := by
  unfold gput
  rw [if_neg c]
  by_cases e : j = x.toNatClampNeg
  · subst e; rw [pk_us]; simp [List.getD, hj]
  · rw [pk_un e, hf j hj]; simp [List.getD, List.getElem?_set_ne (Ne.symm e)]
theorem dX4_put_0 : decode cX4_put 0 = .ok (.iload_n 1, 1) := by decide +kernel
theorem dX4_put_1 : decode cX4_put 1 = .ok (.ifCond .lt 27, 3) := by decide +kernel
theorem dX4_put_4 : decode cX4_put 4 = .ok (.iload_n 1, 1) := by decide +kernel
theorem dX4_put_5 : decode cX4_put 5 = .ok (.aload_n 0, 1) := by decide +kernel
theorem dX4_put_6 : decode cX4_put 6 = .ok (.getfield 7, 3) := by decide +kernel
theorem dX4_put_9 : decode cX4_put 9 = .ok (.if_icmp .ge 19, 3) := by decide +kernel
theorem dX4_put_12 : decode cX4_put 12 = .ok (.iload_n 1, 1) := by decide +kernel
theorem dX4_put_13 : decode cX4_put 13 = .ok (.aload_n 0, 1) := by decide +kernel
theorem dX4_put_14 : decode cX4_put 14 = .ok (.getfield 19, 3) := by decide +kernel
theorem dX4_put_17 : decode cX4_put 17 = .ok (.arraylength, 1) := by decide +kernel
theorem dX4_put_18 : decode cX4_put 18 = .ok (.if_icmp .ge 10, 3) := by decide +kernel
theorem dX4_put_21 : decode cX4_put 21 = .ok (.aload_n 0, 1) := by decide +kernel
theorem dX4_put_22 : decode cX4_put 22 = .ok (.getfield 19, 3) := by decide +kernel
theorem dX4_put_25 : decode cX4_put 25 = .ok (.iload_n 1, 1) := by decide +kernel
theorem dX4_put_26 : decode cX4_put 26 = .ok (.iload_n 2, 1) := by decide +kernel
theorem dX4_put_27 : decode cX4_put 27 = .ok (.iastore, 1) := by decide +kernel
theorem dX4_put_28 : decode cX4_put 28 = .ok (.return_, 1) := by decide +kernel
set_option maxRecDepth 100000 in
set_option maxHeartbeats 4000000 in
theorem c_X4_put_g {hp : List gA} {r a n mo : Nat} {l : List Int32} {x y : Int32} (H : gRg hp r a n mo l) : gM yX4_put cX4_put 3 (none) 0 0 [.ref r, .int x, .int y] (hp) (0) (0) (fun v h => v = none ∧ (gRg h r a n mo (gput l x y) ∧ gFr hp h r a)) := by
  obtain ⟨f, hr, ha, hle, hn, hf⟩ := H
  have hlt : l.length < 2 ^ 31 := by omega
  have hnt : n < 2 ^ 31 := by omega
  have hra : r ≠ a := gne hr ha (by intro h; cases h)
  refine gM_of (ls0 := [some (.ref r), some (.int x), some (.int y)]) (by decide +kernel) (Nat.le_of_ble_eq_true rfl) rfl fun X C E => ?_
  refine g_iload_n (q := 1) C dX4_put_0 rfl rfl ?_
  refine g_if_lt (t := 28) (q := 4) C dX4_put_1 (by decide) rfl (fun c_1 => ?_) (fun c_1 => ?_)
  · -- to 28
    exact E.2.1 _ _ _ _ _ dX4_put_28 rfl (Nat.le_of_ble_eq_true rfl) (Nat.le_of_ble_eq_true rfl) ⟨rfl, by rw [gput_neg c_1]; exact ⟨f, hr, ha, hle, hn, hf⟩, fun _ _ _ => rfl⟩
  · -- to 4
    refine g_iload_n (q := 5) C dX4_put_4 rfl rfl ?_
    refine g_aload_n (q := 6) C dX4_put_5 rfl rfl ?_
    refine g_getfield (q := 9) C fX4_7 dX4_put_6 rfl hr rfl ?_
    refine g_icmp_ge (t := 28) (q := 12) C dX4_put_9 (by decide) rfl (fun c_9 => ?_) (fun c_9 => ?_)
    · -- to 28
      exact E.2.1 _ _ _ _ _ dX4_put_28 rfl (Nat.le_of_ble_eq_true rfl) (Nat.le_of_ble_eq_true rfl) ⟨rfl, by rw [gput_out c_9 hlt]; exact ⟨f, hr, ha, hle, hn, hf⟩, fun _ _ _ => rfl⟩
    · -- to 12
      refine g_iload_n (q := 13) C dX4_put_12 rfl rfl ?_
      refine g_aload_n (q := 14) C dX4_put_13 rfl rfl ?_
      refine g_getfield (q := 17) C fX4_19 dX4_put_14 rfl hr rfl ?_
      refine g_arraylength (q := 18) C dX4_put_17 rfl ha rfl ?_
      refine g_icmp_ge_f (t := 28) (q := 21) C dX4_put_18 (by decide) rfl (by have h1 := gat_in c_1 c_9 hlt; have h2 := gcl c_1; intro h3; rw [Int32.le_iff_toInt_le] at h3; have h4 : (Int32.ofNat n).toInt = (n : Int) := nI_toInt hnt; rw [h4] at h3; omega) ?_
      refine g_aload_n (q := 22) C dX4_put_21 rfl rfl ?_
      refine g_getfield (q := 25) C fX4_19 dX4_put_22 rfl hr rfl ?_
      refine g_iload_n (q := 26) C dX4_put_25 rfl rfl ?_
      refine g_iload_n (q := 27) C dX4_put_26 rfl rfl ?_
      refine g_iastore (q := 28) C dX4_put_27 rfl ha (fun z => z.elim c_1 (fun z => absurd (Nat.lt_of_lt_of_le (gat_in c_1 c_9 hlt) hle) (Nat.not_lt.mpr z))) ?_
      exact E.2.1 _ _ _ _ _ dX4_put_28 rfl (Nat.le_of_ble_eq_true rfl) (Nat.le_of_ble_eq_true rfl) ⟨rfl, ⟨_, by rw [gput_len]; exact gset_other hr (Ne.symm hra), gset_self ha, by rw [gput_len]; exact hle, hn, fun j hj => by rw [gput_len] at hj; exact gput_upd c_1 hf hj⟩, fun k h1 h2 => List.getElem?_set_ne (Ne.symm h2)⟩
theorem gcpm {n m : Nat} (h : n ≤ m) (hm : m < 2 ^ 31) : gmin (Int32.ofNat n) (nI m) = nI n := (gmn (a := n) (b := m) (by omega) hm).trans (by rw [Nat.min_eq_left h])
theorem dJ7_copyOf_59c91_0 : decode cJ7_copyOf_59c91 0 = .ok (.iload_n 1, 1) := by decide +kernel
theorem dJ7_copyOf_59c91_1 : decode cJ7_copyOf_59c91 1 = .ok (.aload_n 0, 1) := by decide +kernel
theorem dJ7_copyOf_59c91_2 : decode cJ7_copyOf_59c91 2 = .ok (.arraylength, 1) := by decide +kernel
theorem dJ7_copyOf_59c91_3 : decode cJ7_copyOf_59c91 3 = .ok (.if_icmp .ne 11, 3) := by decide +kernel
theorem dJ7_copyOf_59c91_14 : decode cJ7_copyOf_59c91 14 = .ok (.iload_n 1, 1) := by decide +kernel
theorem dJ7_copyOf_59c91_15 : decode cJ7_copyOf_59c91 15 = .ok (.newarray .int, 2) := by decide +kernel
theorem dJ7_copyOf_59c91_17 : decode cJ7_copyOf_59c91 17 = .ok (.astore_n 2, 1) := by decide +kernel
theorem dJ7_copyOf_59c91_18 : decode cJ7_copyOf_59c91 18 = .ok (.aload_n 0, 1) := by decide +kernel
theorem dJ7_copyOf_59c91_19 : decode cJ7_copyOf_59c91 19 = .ok (.iconst 0, 1) := by decide +kernel
theorem dJ7_copyOf_59c91_20 : decode cJ7_copyOf_59c91 20 = .ok (.aload_n 2, 1) := by decide +kernel
theorem dJ7_copyOf_59c91_21 : decode cJ7_copyOf_59c91 21 = .ok (.iconst 0, 1) := by decide +kernel
theorem dJ7_copyOf_59c91_22 : decode cJ7_copyOf_59c91 22 = .ok (.aload_n 0, 1) := by decide +kernel
theorem dJ7_copyOf_59c91_23 : decode cJ7_copyOf_59c91 23 = .ok (.arraylength, 1) := by decide +kernel
theorem dJ7_copyOf_59c91_24 : decode cJ7_copyOf_59c91 24 = .ok (.iload_n 1, 1) := by decide +kernel
theorem dJ7_copyOf_59c91_25 : decode cJ7_copyOf_59c91 25 = .ok (.invokestatic 304, 3) := by decide +kernel
theorem dJ7_copyOf_59c91_28 : decode cJ7_copyOf_59c91 28 = .ok (.invokestatic 150, 3) := by decide +kernel
theorem dJ7_copyOf_59c91_31 : decode cJ7_copyOf_59c91 31 = .ok (.aload_n 2, 1) := by decide +kernel
theorem dJ7_copyOf_59c91_32 : decode cJ7_copyOf_59c91 32 = .ok (.areturn, 1) := by decide +kernel
set_option maxRecDepth 100000 in
set_option maxHeartbeats 4000000 in
theorem c_J7_copyOf_59c91_g {hp : List gA} {n a n0 m mc ms : Nat} {f : Nat → Int32} (hn : hp.length = n) (ha : hp[a]? = some (.inl (n0, f))) (hm0 : n0 ≤ m) (hm1 : n0 ≠ m) (hm2 : m ≤ 1048576) (hmc : 1 ≤ mc) (hms : m ≤ ms) : gM yJ7_copyOf_59c91 cJ7_copyOf_59c91 3 ((some (.array .int))) 1 60 [.ref a, .int ((nI m))] (hp) (mc) (ms) (fun v h => v = some (.ref n) ∧ h = hp ++ [.inl (m, va_cpy f (fun _ => 0) 0 0 n0)]) := by
  refine gM_of (ls0 := [some (.ref a), some (.int ((nI m))), none]) (by decide +kernel) (Nat.le_of_ble_eq_true rfl) rfl fun X C E => ?_
  refine g_heap (hp2 := hp ++ []) (List.append_nil _).symm ?_
  refine g_iload_n (q := 1) C dJ7_copyOf_59c91_0 rfl rfl ?_
  refine g_aload_n (q := 2) C dJ7_copyOf_59c91_1 rfl rfl ?_
  refine g_arraylength (q := 3) C dJ7_copyOf_59c91_2 rfl (gapp_old ha) rfl ?_
  refine g_icmp_ne_t (t := 14) C dJ7_copyOf_59c91_3 (by decide) (fun h => by have h1 := congrArg Int32.toInt h; rw [nI_toInt (by omega)] at h1; have h2 : (Int32.ofNat n0).toInt = (n0 : Int) := nI_toInt (by omega); rw [h2] at h1; omega) ?_
  refine g_iload_n (q := 15) C dJ7_copyOf_59c91_14 rfl rfl ?_
  refine g_newarray (q := 17) (k := n + 0) (N := m) C t_144 dJ7_copyOf_59c91_15 rfl (by rw [List.length_append, hn]; rfl) (nI_pos (by omega)) (nI_clamp (by omega)) (by omega) (by show 0 + 1 ≤ mc; omega) (by show 0 + m ≤ ms; omega) ?_
  refine g_heap (hp2 := hp ++ [.inl (m, fun _ => 0)]) (by simp only [List.append_assoc, List.cons_append, List.nil_append]) ?_
  refine g_astore_n (q := 18) C dJ7_copyOf_59c91_17 (Nat.le_of_ble_eq_true rfl) (by simp only [gset]; rfl) rfl ?_
  refine g_aload_n (q := 19) C dJ7_copyOf_59c91_18 rfl rfl ?_
  refine g_iconst (v := 0) (q := 20) C dJ7_copyOf_59c91_19 (by decide) rfl ?_
  refine g_aload_n (q := 21) C dJ7_copyOf_59c91_20 rfl rfl ?_
  refine g_iconst (v := 0) (q := 22) C dJ7_copyOf_59c91_21 (by decide) rfl ?_
  refine g_aload_n (q := 23) C dJ7_copyOf_59c91_22 rfl rfl ?_
  refine g_arraylength (q := 24) C dJ7_copyOf_59c91_23 rfl (gapp_old ha) rfl ?_
  refine g_iload_n (q := 25) C dJ7_copyOf_59c91_24 rfl rfl ?_
  refine g_callSi (q := 28) (As := [.int _, .int ((nI m))]) C gyJ9_min_7cf53 t_476 t_488 (c_J9_min_7cf53) dJ7_copyOf_59c91_25 rfl rfl rfl (Nat.le_of_ble_eq_true rfl) (Nat.le_of_ble_eq_true rfl) (Nat.le_of_ble_eq_true rfl) (by show _ + _ ≤ mc; omega) (by show _ + _ ≤ ms; omega) rfl ?_
  refine g_copy (q := 31) C t_489 (gW_of (List.mem_of_getElem? (i := 491) (by decide +kernel)) rfl) t_490 t_112 dJ7_copyOf_59c91_28 rfl rfl (gapp_old ha) (gapp_new hn rfl) (by decide) (by decide) (by rw [gcpm hm0 (by omega)]; exact nI_pos (by omega)) (by rw [gcpm hm0 (by omega), nI_clamp (by omega)]; show 0 + _ ≤ _; omega) (by rw [gcpm hm0 (by omega), nI_clamp (by omega)]; show 0 + _ ≤ _; omega) (Nat.le_of_ble_eq_true rfl) (Nat.le_of_ble_eq_true rfl) ?_
  refine g_heap (hp2 := hp ++ [.inl (m, va_cpy f (fun _ => 0) 0 0 n0)]) (by rw [gapp_set hn]; simp only [List.set_cons_zero]; rw [show Int32.toNatClampNeg 0 = 0 from by decide, gcpm hm0 (by omega), nI_clamp (by omega)]) ?_
  refine g_aload_n (q := 32) C dJ7_copyOf_59c91_31 rfl rfl ?_
  exact E.2.2 _ _ _ _ _ _ _ dJ7_copyOf_59c91_32 rfl (Or.inr ⟨_, rfl⟩) (by omega) (by omega) ⟨rfl, rfl⟩
set_option maxRecDepth 100000 in
set_option maxHeartbeats 4000000 in
theorem c_X4_add_gs {hp : List gA} {r a n mo : Nat} {l : List Int32} {x : Int32} {mc ms : Nat} (H : gRg hp r a n mo l) (hx : l.length < mo) (hmo : mo ≤ 1048576) (hx2 : l.length < n) : gM yX4_add cX4_add 2 (none) 2 82 [.ref r, .int x] (hp) (mc) (ms) (fun v h => v = none ∧ (∃ a' n' : Nat, gRg h r a' n' mo (l ++ [x]) ∧ ((a' = a ∧ n' = n ∧ h.length = hp.length ∧ gsz h = gsz hp ∧ ∀ k, k ≠ r → k ≠ a → h[k]? = hp[k]?) ∨ (a' = hp.length ∧ n' = min mo (2 * n) ∧ l.length = n ∧ h.length = hp.length + 1 ∧ gsz h = gsz hp + n' ∧ ∀ k, k ≠ r → k < hp.length → h[k]? = hp[k]?)))) := by
  obtain ⟨f, hr, ha, hle, hn, hf⟩ := H
  have hlt : l.length < 2 ^ 31 := by omega
  have hnt : n < 2 ^ 31 := by omega
  have hra : r ≠ a := gne hr ha (by intro h; cases h)
  refine gM_of (ls0 := [some (.ref r), some (.int x)]) (by decide +kernel) (Nat.le_of_ble_eq_true rfl) rfl fun X C E => ?_
  refine g_aload_n (q := 1) C dX4_add_0 rfl rfl ?_
  refine g_getfield (q := 4) C fX4_7 dX4_add_1 rfl hr rfl ?_
  refine g_aload_n (q := 5) C dX4_add_4 rfl rfl ?_
  refine g_getfield (q := 8) C fX4_23 dX4_add_5 rfl hr rfl ?_
  refine g_icmp_lt_t (t := 12) C dX4_add_8 (by decide) (nI_lt hx (by omega)) ?_
  refine g_aload_n (q := 13) C dX4_add_12 rfl rfl ?_
  refine g_getfield (q := 16) C fX4_7 dX4_add_13 rfl hr rfl ?_
  refine g_aload_n (q := 17) C dX4_add_16 rfl rfl ?_
  refine g_getfield (q := 20) C fX4_19 dX4_add_17 rfl hr rfl ?_
  refine g_arraylength (q := 21) C dX4_add_20 rfl ha rfl ?_
  refine g_icmp_lt_t (t := 53) C dX4_add_21 (by decide) (nI_lt hx2 hnt) ?_
  refine g_aload_n (q := 54) C dX4_add_53 rfl rfl ?_
  refine g_getfield (q := 57) C fX4_7 dX4_add_54 rfl hr rfl ?_
  refine g_if_lt_f (t := 92) (q := 60) C dX4_add_57 (by decide) rfl (nI_pos hlt) ?_
  refine g_aload_n (q := 61) C dX4_add_60 rfl rfl ?_
  refine g_getfield (q := 64) C fX4_7 dX4_add_61 rfl hr rfl ?_
  refine g_aload_n (q := 65) C dX4_add_64 rfl rfl ?_
  refine g_getfield (q := 68) C fX4_19 dX4_add_65 rfl hr rfl ?_
  refine g_arraylength (q := 69) C dX4_add_68 rfl ha rfl ?_
  refine g_icmp_ge_f (t := 92) (q := 72) C dX4_add_69 (by decide) rfl (fun h => nI_ge hx2 hnt h) ?_
  refine g_aload_n (q := 73) C dX4_add_72 rfl rfl ?_
  refine g_getfield (q := 76) C fX4_19 dX4_add_73 rfl hr rfl ?_
  refine g_aload_n (q := 77) C dX4_add_76 rfl rfl ?_
  refine g_getfield (q := 80) C fX4_7 dX4_add_77 rfl hr rfl ?_
  refine g_iload_n (q := 81) C dX4_add_80 rfl rfl ?_
  refine g_iastoreN (j := l.length) (q := 82) C dX4_add_81 rfl ha (pk_in l.length n hx2) (pk_cl l.length) ?_
  refine g_aload_n (q := 83) C dX4_add_82 rfl rfl ?_
  refine g_dup (q := 84) C dX4_add_83 rfl rfl ?_
  refine g_getfield (q := 87) C fX4_7 dX4_add_84 rfl (gset_other hr (Ne.symm hra)) rfl ?_
  refine g_iconst (v := 1) (q := 88) C dX4_add_87 (by decide) rfl ?_
  refine g_iadd (q := 89) C dX4_add_88 rfl ?_
  refine g_putfield (q := 92) C fX4_7 dX4_add_89 rfl (gset_other hr (Ne.symm hra)) (Nat.le_of_ble_eq_true rfl) (Or.inl rfl) rfl rfl (by intro z h; cases h) ?_
  exact E.2.1 _ _ _ _ _ dX4_add_92 rfl (by omega) (by omega) ⟨rfl, a, n, ⟨upd f l.length x, by rw [gset_self (gset_other hr (Ne.symm hra))]; simp [nI_succ], by rw [List.getElem?_set_ne hra]; exact gset_self ha, by simp; omega, hn, g_app hf⟩, Or.inl ⟨rfl, rfl, by simp, (gsz_set (gset_other hr (Ne.symm hra)) (by rfl)).trans (gsz_set ha (by rfl)), fun k h1 h2 => by rw [List.getElem?_set_ne (Ne.symm h1), List.getElem?_set_ne (Ne.symm h2)]⟩⟩
theorem gmaxmin {mo n : Nat} (h1 : 1 ≤ n) (hm : mo ≤ 1048576) (hm1 : 1 ≤ mo) (hn : n ≤ 1048576) : gmax 1 (gmin (nI mo) (2 * Int32.ofNat n)) = nI (min mo (2 * n)) := by
  have e : (2 : Int32) * Int32.ofNat n = nI (2 * n) := by
    apply Int32.toInt_inj.mp
    rw [Int32.toInt_mul, nI_toInt (by omega), show (Int32.ofNat n).toInt = (n : Int) from nI_toInt (by omega), show (2 : Int32).toInt = 2 from by decide]
    rw [Int.bmod_eq_of_le] <;> omega
  rw [e, gmn (by omega) (by omega)]
  unfold gmax
  split
  · rfl
  · rename_i h
    rw [Int32.lt_iff_toInt_lt, nI_toInt (by omega), show (1 : Int32).toInt = 1 from by decide] at h
    have : min mo (2 * n) = 1 := by omega
    rw [this]; rfl
theorem gcpyN {f : Nat → Int32} {n j : Nat} {l : List Int32} (hf : ∀ j, j < l.length → f j = l.getD j 0) (hl : l.length = n) (hj : j < l.length) : va_cpy f (fun _ => 0) 0 0 n j = l.getD j 0 := by
  rw [va_cpy, if_pos ⟨Nat.zero_le _, by omega⟩, Nat.zero_add, Nat.sub_zero]
  exact hf j hj
theorem dX4_add_24 : decode cX4_add 24 = .ok (.aload_n 0, 1) := by decide +kernel
theorem dX4_add_25 : decode cX4_add 25 = .ok (.aload_n 0, 1) := by decide +kernel
theorem dX4_add_26 : decode cX4_add 26 = .ok (.getfield 19, 3) := by decide +kernel
theorem dX4_add_29 : decode cX4_add 29 = .ok (.iconst 1, 1) := by decide +kernel
theorem dX4_add_30 : decode cX4_add 30 = .ok (.aload_n 0, 1) := by decide +kernel
theorem dX4_add_31 : decode cX4_add 31 = .ok (.getfield 23, 3) := by decide +kernel
theorem dX4_add_34 : decode cX4_add 34 = .ok (.iconst 2, 1) := by decide +kernel
theorem dX4_add_35 : decode cX4_add 35 = .ok (.aload_n 0, 1) := by decide +kernel
theorem dX4_add_36 : decode cX4_add 36 = .ok (.getfield 19, 3) := by decide +kernel
theorem dX4_add_39 : decode cX4_add 39 = .ok (.arraylength, 1) := by decide +kernel
theorem dX4_add_40 : decode cX4_add 40 = .ok (.imul, 1) := by decide +kernel
theorem dX4_add_41 : decode cX4_add 41 = .ok (.invokestatic 26, 3) := by decide +kernel
theorem dX4_add_44 : decode cX4_add 44 = .ok (.invokestatic 13, 3) := by decide +kernel
theorem dX4_add_47 : decode cX4_add 47 = .ok (.invokestatic 29, 3) := by decide +kernel
theorem dX4_add_50 : decode cX4_add 50 = .ok (.putfield 19, 3) := by decide +kernel
set_option maxRecDepth 100000 in
set_option maxHeartbeats 4000000 in
theorem c_X4_add_gg {hp : List gA} {r a n mo : Nat} {l : List Int32} {x : Int32} {mc ms : Nat} (H : gRg hp r a n mo l) (hx : l.length < mo) (hmo : mo ≤ 1048576) (hx2 : l.length = n) (h1n : 1 ≤ n) (hmc : 1 ≤ mc) (hms : min mo (2 * n) ≤ ms) : gM yX4_add cX4_add 2 (none) 2 82 [.ref r, .int x] (hp) (mc) (ms) (fun v h => v = none ∧ (∃ a' n' : Nat, gRg h r a' n' mo (l ++ [x]) ∧ ((a' = a ∧ n' = n ∧ h.length = hp.length ∧ gsz h = gsz hp ∧ ∀ k, k ≠ r → k ≠ a → h[k]? = hp[k]?) ∨ (a' = hp.length ∧ n' = min mo (2 * n) ∧ l.length = n ∧ h.length = hp.length + 1 ∧ gsz h = gsz hp + n' ∧ ∀ k, k ≠ r → k < hp.length → h[k]? = hp[k]?)))) := by
  obtain ⟨f, hr, ha, hle, hn, hf⟩ := H
  have hlt : l.length < 2 ^ 31 := by omega
  have hnt : n < 2 ^ 31 := by omega
  obtain ⟨m, hm⟩ : ∃ m, m = min mo (2 * n) := ⟨_, rfl⟩
  obtain ⟨n0, hn0⟩ : ∃ k, hp.length = k := ⟨_, rfl⟩
  have hra : r ≠ a := gne hr ha (by intro h; cases h)
  have hrn : r ≠ n0 := by have := (List.getElem?_eq_some_iff.mp hr).1; omega
  have han : a ≠ n0 := by have := (List.getElem?_eq_some_iff.mp ha).1; omega
  refine gM_of (ls0 := [some (.ref r), some (.int x)]) (by decide +kernel) (Nat.le_of_ble_eq_true rfl) rfl fun X C E => ?_
  refine g_aload_n (q := 1) C dX4_add_0 rfl rfl ?_
  refine g_getfield (q := 4) C fX4_7 dX4_add_1 rfl hr rfl ?_
  refine g_aload_n (q := 5) C dX4_add_4 rfl rfl ?_
  refine g_getfield (q := 8) C fX4_23 dX4_add_5 rfl hr rfl ?_
  refine g_icmp_lt_t (t := 12) C dX4_add_8 (by decide) (nI_lt hx (by omega)) ?_
  refine g_aload_n (q := 13) C dX4_add_12 rfl rfl ?_
  refine g_getfield (q := 16) C fX4_7 dX4_add_13 rfl hr rfl ?_
  refine g_aload_n (q := 17) C dX4_add_16 rfl rfl ?_
  refine g_getfield (q := 20) C fX4_19 dX4_add_17 rfl hr rfl ?_
  refine g_arraylength (q := 21) C dX4_add_20 rfl ha rfl ?_
  refine g_icmp_lt_f (t := 53) (q := 24) C dX4_add_21 (by decide) rfl (nI_nlt (Nat.le_of_eq hx2.symm) (hx2 ▸ hnt)) ?_
  refine g_aload_n (q := 25) C dX4_add_24 rfl rfl ?_
  refine g_aload_n (q := 26) C dX4_add_25 rfl rfl ?_
  refine g_getfield (q := 29) C fX4_19 dX4_add_26 rfl hr rfl ?_
  refine g_iconst (v := 1) (q := 30) C dX4_add_29 (by decide) rfl ?_
  refine g_aload_n (q := 31) C dX4_add_30 rfl rfl ?_
  refine g_getfield (q := 34) C fX4_23 dX4_add_31 rfl hr rfl ?_
  refine g_iconst (v := 2) (q := 35) C dX4_add_34 (by decide) rfl ?_
  refine g_aload_n (q := 36) C dX4_add_35 rfl rfl ?_
  refine g_getfield (q := 39) C fX4_19 dX4_add_36 rfl hr rfl ?_
  refine g_arraylength (q := 40) C dX4_add_39 rfl ha rfl ?_
  refine g_imul (q := 41) C dX4_add_40 rfl ?_
  refine g_callSi (q := 44) (As := [.int ((nI mo)), .int _]) C gyJ9_min_7cf53 t_476 t_475 (c_J9_min_7cf53) dX4_add_41 rfl rfl rfl (Nat.le_of_ble_eq_true rfl) (Nat.le_of_ble_eq_true rfl) (Nat.le_of_ble_eq_true rfl) (by show _ + _ ≤ mc; omega) (by show _ + _ ≤ ms; omega) rfl ?_
  refine g_callSi (q := 47) (As := [.int 1, .int _]) C gyJ9_max_7cf53 t_132 t_131 (c_J9_max_7cf53) dX4_add_44 rfl rfl rfl (Nat.le_of_ble_eq_true rfl) (Nat.le_of_ble_eq_true rfl) (Nat.le_of_ble_eq_true rfl) (by show _ + _ ≤ mc; omega) (by show _ + _ ≤ ms; omega) rfl ?_
  rw [gmaxmin h1n hmo (by omega) hn, ← hm]
  refine g_callSr (q := 50) (As := [.ref a, .int _]) C gyJ7_copyOf_59c91 t_479 t_478 (c_J7_copyOf_59c91_g (m := m) (mc := 1) (ms := m) hn0 ha (by omega) (by omega) (by omega) (Nat.le_refl _) (Nat.le_refl _)) dX4_add_47 rfl rfl rfl (Nat.le_of_ble_eq_true rfl) (Nat.le_of_ble_eq_true rfl) (Nat.le_of_ble_eq_true rfl) (by show _ + _ ≤ mc; omega) (by show _ + _ ≤ ms; omega) rfl ?_
  refine g_putfield (q := 53) C fX4_19 dX4_add_50 rfl (gapp_old hr) (Nat.le_of_ble_eq_true rfl) (Or.inl rfl) rfl rfl (by intro z h; cases h) ?_
  refine g_aload_n (q := 54) C dX4_add_53 rfl rfl ?_
  refine g_getfield (q := 57) C fX4_7 dX4_add_54 rfl (gset_self (gapp_old hr)) rfl ?_
  refine g_if_lt_f (t := 92) (q := 60) C dX4_add_57 (by decide) rfl (nI_pos hlt) ?_
  refine g_aload_n (q := 61) C dX4_add_60 rfl rfl ?_
  refine g_getfield (q := 64) C fX4_7 dX4_add_61 rfl (gset_self (gapp_old hr)) rfl ?_
  refine g_aload_n (q := 65) C dX4_add_64 rfl rfl ?_
  refine g_getfield (q := 68) C fX4_19 dX4_add_65 rfl (gset_self (gapp_old hr)) rfl ?_
  refine g_arraylength (q := 69) C dX4_add_68 rfl (gset_other (gapp_n hn0) hrn) rfl ?_
  refine g_icmp_ge_f (t := 92) (q := 72) C dX4_add_69 (by decide) rfl (fun h => nI_ge (show l.length < m by omega) (by omega) h) ?_
  refine g_aload_n (q := 73) C dX4_add_72 rfl rfl ?_
  refine g_getfield (q := 76) C fX4_19 dX4_add_73 rfl (gset_self (gapp_old hr)) rfl ?_
  refine g_aload_n (q := 77) C dX4_add_76 rfl rfl ?_
  refine g_getfield (q := 80) C fX4_7 dX4_add_77 rfl (gset_self (gapp_old hr)) rfl ?_
  refine g_iload_n (q := 81) C dX4_add_80 rfl rfl ?_
  refine g_iastoreN (j := l.length) (q := 82) C dX4_add_81 rfl (gset_other (gapp_n hn0) hrn) (pk_in l.length m (by omega)) (pk_cl l.length) ?_
  refine g_aload_n (q := 83) C dX4_add_82 rfl rfl ?_
  refine g_dup (q := 84) C dX4_add_83 rfl rfl ?_
  refine g_getfield (q := 87) C fX4_7 dX4_add_84 rfl (gset_other (gset_self (gapp_old hr)) (Ne.symm hrn)) rfl ?_
  refine g_iconst (v := 1) (q := 88) C dX4_add_87 (by decide) rfl ?_
  refine g_iadd (q := 89) C dX4_add_88 rfl ?_
  refine g_putfield (q := 92) C fX4_7 dX4_add_89 rfl (gset_other (gset_self (gapp_old hr)) (Ne.symm hrn)) (Nat.le_of_ble_eq_true rfl) (Or.inl rfl) rfl rfl (by intro z h; cases h) ?_
  exact E.2.1 _ _ _ _ _ dX4_add_92 rfl (by omega) (by omega) ⟨rfl, n0, m, ⟨upd (va_cpy f (fun _ => 0) 0 0 n) l.length x, by rw [(gset_self (gset_other (gset_self (gapp_old hr)) (Ne.symm hrn)))]; simp [nI_succ], (gset_other (gset_self (gset_other (gapp_n hn0) hrn)) hrn), by simp; omega, by omega, g_app (fun j hj => gcpyN hf hx2 hj)⟩, Or.inr ⟨hn0.symm, hm, hx2, by simp, (gsz_set (gset_other (gset_self (gapp_old hr)) (Ne.symm hrn)) (by rfl)).trans ((gsz_set (gset_other (gapp_n hn0) hrn) (by rfl)).trans ((gsz_set (gapp_old hr) (by rfl)).trans gsz_app)), fun k h1 h3 => by rw [List.getElem?_set_ne (Ne.symm h1), List.getElem?_set_ne (show n0 ≠ k by omega), List.getElem?_set_ne (Ne.symm h1), List.getElem?_append_left h3]⟩⟩
theorem c_X4_add_g {hp : List gA} {r a n mo : Nat} {l : List Int32} {x : Int32} {mc ms : Nat} (H : gRg hp r a n mo l) (hx : l.length < mo) (hmo : mo ≤ 1048576) (h1n : 1 ≤ n) (hmc : l.length = n → 1 ≤ mc) (hms : l.length = n → min mo (2 * n) ≤ ms) : gM yX4_add cX4_add 2 (none) 2 82 [.ref r, .int x] (hp) (mc) (ms) (fun v h => v = none ∧ (∃ a' n' : Nat, gRg h r a' n' mo (l ++ [x]) ∧ ((a' = a ∧ n' = n ∧ h.length = hp.length ∧ gsz h = gsz hp ∧ ∀ k, k ≠ r → k ≠ a → h[k]? = hp[k]?) ∨ (a' = hp.length ∧ n' = min mo (2 * n) ∧ l.length = n ∧ h.length = hp.length + 1 ∧ gsz h = gsz hp + n' ∧ ∀ k, k ≠ r → k < hp.length → h[k]? = hp[k]?)))) := by
  rcases Nat.lt_or_ge l.length n with h | h
  · exact c_X4_add_gs H hx hmo h
  · have e : l.length = n := Nat.le_antisymm H.le.1 h
    exact c_X4_add_gg H hx hmo e h1n (hmc e) (hms e)
