/-! Math.max, min; Row (by program: wip/p1/m_rows.py) -/
theorem dJ9_max_7cf53_0 : decode cJ9_max_7cf53 0 = .ok (.iload_n 0, 1) := by decide +kernel
theorem dJ9_max_7cf53_1 : decode cJ9_max_7cf53 1 = .ok (.iload_n 1, 1) := by decide +kernel
theorem dJ9_max_7cf53_2 : decode cJ9_max_7cf53 2 = .ok (.if_icmp .lt 7, 3) := by decide +kernel
theorem dJ9_max_7cf53_5 : decode cJ9_max_7cf53 5 = .ok (.iload_n 0, 1) := by decide +kernel
theorem dJ9_max_7cf53_6 : decode cJ9_max_7cf53 6 = .ok (.goto 4, 3) := by decide +kernel
theorem dJ9_max_7cf53_9 : decode cJ9_max_7cf53 9 = .ok (.iload_n 1, 1) := by decide +kernel
theorem dJ9_max_7cf53_10 : decode cJ9_max_7cf53 10 = .ok (.ireturn, 1) := by decide +kernel
set_option maxRecDepth 100000 in
set_option maxHeartbeats 4000000 in
theorem c_J9_max_7cf53 {hp : List gA} {a b : Int32}  : gM yJ9_max_7cf53 cJ9_max_7cf53 2 ((some .int)) 0 0 [.int a, .int b] (hp) (0) (0) (fun v h => v = some (.int (gmax a b)) ∧ h = hp) := by
  refine gM_of (ls0 := [some (.int a), some (.int b)]) (by decide +kernel) (Nat.le_of_ble_eq_true rfl) rfl fun X C E => ?_
  refine g_iload_n (q := 1) C dJ9_max_7cf53_0 rfl rfl ?_
  refine g_iload_n (q := 2) C dJ9_max_7cf53_1 rfl rfl ?_
  refine g_icmp_lt (t := 9) (q := 5) C dJ9_max_7cf53_2 (by decide) rfl (fun c_2 => ?_) (fun c_2 => ?_)
  · -- to 9
    refine g_iload_n (q := 10) C dJ9_max_7cf53_9 rfl rfl ?_
    exact E.1 _ _ _ _ _ _ _ dJ9_max_7cf53_10 rfl rfl (Nat.le_of_ble_eq_true rfl) (Nat.le_of_ble_eq_true rfl) ⟨by simp [*, gmax], rfl⟩
  · -- to 5
    refine g_iload_n (q := 6) C dJ9_max_7cf53_5 rfl rfl ?_
    refine g_goto (q := 10) C dJ9_max_7cf53_6 (by decide) ?_
    exact E.1 _ _ _ _ _ _ _ dJ9_max_7cf53_10 rfl rfl (Nat.le_of_ble_eq_true rfl) (Nat.le_of_ble_eq_true rfl) ⟨by simp [*, gmax], rfl⟩
theorem dJ9_min_7cf53_0 : decode cJ9_min_7cf53 0 = .ok (.iload_n 0, 1) := by decide +kernel
theorem dJ9_min_7cf53_1 : decode cJ9_min_7cf53 1 = .ok (.iload_n 1, 1) := by decide +kernel
theorem dJ9_min_7cf53_2 : decode cJ9_min_7cf53 2 = .ok (.if_icmp .gt 7, 3) := by decide +kernel
theorem dJ9_min_7cf53_5 : decode cJ9_min_7cf53 5 = .ok (.iload_n 0, 1) := by decide +kernel
theorem dJ9_min_7cf53_6 : decode cJ9_min_7cf53 6 = .ok (.goto 4, 3) := by decide +kernel
theorem dJ9_min_7cf53_9 : decode cJ9_min_7cf53 9 = .ok (.iload_n 1, 1) := by decide +kernel
theorem dJ9_min_7cf53_10 : decode cJ9_min_7cf53 10 = .ok (.ireturn, 1) := by decide +kernel
set_option maxRecDepth 100000 in
set_option maxHeartbeats 4000000 in
theorem c_J9_min_7cf53 {hp : List gA} {a b : Int32}  : gM yJ9_min_7cf53 cJ9_min_7cf53 2 ((some .int)) 0 0 [.int a, .int b] (hp) (0) (0) (fun v h => v = some (.int (gmin a b)) ∧ h = hp) := by
  refine gM_of (ls0 := [some (.int a), some (.int b)]) (by decide +kernel) (Nat.le_of_ble_eq_true rfl) rfl fun X C E => ?_
  refine g_iload_n (q := 1) C dJ9_min_7cf53_0 rfl rfl ?_
  refine g_iload_n (q := 2) C dJ9_min_7cf53_1 rfl rfl ?_
  refine g_icmp_gt (t := 9) (q := 5) C dJ9_min_7cf53_2 (by decide) rfl (fun c_2 => ?_) (fun c_2 => ?_)
  · -- to 9
    refine g_iload_n (q := 10) C dJ9_min_7cf53_9 rfl rfl ?_
    exact E.1 _ _ _ _ _ _ _ dJ9_min_7cf53_10 rfl rfl (Nat.le_of_ble_eq_true rfl) (Nat.le_of_ble_eq_true rfl) ⟨by simp [*, gmin], rfl⟩
  · -- to 5
    refine g_iload_n (q := 6) C dJ9_min_7cf53_5 rfl rfl ?_
    refine g_goto (q := 10) C dJ9_min_7cf53_6 (by decide) ?_
    exact E.1 _ _ _ _ _ _ _ dJ9_min_7cf53_10 rfl rfl (Nat.le_of_ble_eq_true rfl) (Nat.le_of_ble_eq_true rfl) ⟨by simp [*, gmin], rfl⟩
theorem dX4_size_0 : decode cX4_size 0 = .ok (.aload_n 0, 1) := by decide +kernel
theorem dX4_size_1 : decode cX4_size 1 = .ok (.getfield 7, 3) := by decide +kernel
theorem dX4_size_4 : decode cX4_size 4 = .ok (.ireturn, 1) := by decide +kernel
set_option maxRecDepth 100000 in
set_option maxHeartbeats 4000000 in
theorem c_X4_size {hp : List gA} {r a : Nat} {len most : Int32} (hr : hp[r]? = some (.inr (.inr (4, [.ref a, .int len, .int most])))) : gM yX4_size cX4_size 1 ((some .int)) 0 0 [.ref r] (hp) (0) (0) (fun v h => v = some (.int len) ∧ h = hp) := by
  refine gM_of (ls0 := [some (.ref r)]) (by decide +kernel) (Nat.le_of_ble_eq_true rfl) rfl fun X C E => ?_
  refine g_aload_n (q := 1) C dX4_size_0 rfl rfl ?_
  refine g_getfield (q := 4) C fX4_7 dX4_size_1 rfl hr rfl ?_
  exact E.1 _ _ _ _ _ _ _ dX4_size_4 rfl rfl (Nat.le_of_ble_eq_true rfl) (Nat.le_of_ble_eq_true rfl) ⟨rfl, rfl⟩
theorem dX4_keep_0 : decode cX4_keep 0 = .ok (.aload_n 0, 1) := by decide +kernel
theorem dX4_keep_1 : decode cX4_keep 1 = .ok (.iconst 0, 1) := by decide +kernel
theorem dX4_keep_2 : decode cX4_keep 2 = .ok (.iload_n 1, 1) := by decide +kernel
theorem dX4_keep_3 : decode cX4_keep 3 = .ok (.aload_n 0, 1) := by decide +kernel
theorem dX4_keep_4 : decode cX4_keep 4 = .ok (.getfield 7, 3) := by decide +kernel
theorem dX4_keep_7 : decode cX4_keep 7 = .ok (.invokestatic 26, 3) := by decide +kernel
theorem dX4_keep_10 : decode cX4_keep 10 = .ok (.invokestatic 13, 3) := by decide +kernel
theorem dX4_keep_13 : decode cX4_keep 13 = .ok (.putfield 7, 3) := by decide +kernel
theorem dX4_keep_16 : decode cX4_keep 16 = .ok (.return_, 1) := by decide +kernel
set_option maxRecDepth 100000 in
set_option maxHeartbeats 4000000 in
theorem c_X4_keep {hp : List gA} {r a : Nat} {len most x : Int32} (hr : hp[r]? = some (.inr (.inr (4, [.ref a, .int len, .int most])))) : gM yX4_keep cX4_keep 2 (none) 1 21 [.ref r, .int x] (hp) (0) (0) (fun v h => v = none ∧ h = hp.set r (.inr (.inr (4, [.ref a, .int (gmax 0 (gmin x len)), .int most])))) := by
  refine gM_of (ls0 := [some (.ref r), some (.int x)]) (by decide +kernel) (Nat.le_of_ble_eq_true rfl) rfl fun X C E => ?_
  refine g_aload_n (q := 1) C dX4_keep_0 rfl rfl ?_
  refine g_iconst (v := 0) (q := 2) C dX4_keep_1 (by decide) rfl ?_
  refine g_iload_n (q := 3) C dX4_keep_2 rfl rfl ?_
  refine g_aload_n (q := 4) C dX4_keep_3 rfl rfl ?_
  refine g_getfield (q := 7) C fX4_7 dX4_keep_4 rfl hr rfl ?_
  refine g_callSi (q := 10) (As := [.int x, .int len]) C gyJ9_min_7cf53 t_476 t_475 (c_J9_min_7cf53) dX4_keep_7 rfl rfl rfl (Nat.le_of_ble_eq_true rfl) (Nat.le_of_ble_eq_true rfl) (Nat.le_of_ble_eq_true rfl) (Nat.le_of_ble_eq_true rfl) (Nat.le_of_ble_eq_true rfl) rfl ?_
  refine g_callSi (q := 13) (As := [.int 0, .int _]) C gyJ9_max_7cf53 t_132 t_131 (c_J9_max_7cf53) dX4_keep_10 rfl rfl rfl (Nat.le_of_ble_eq_true rfl) (Nat.le_of_ble_eq_true rfl) (Nat.le_of_ble_eq_true rfl) (Nat.le_of_ble_eq_true rfl) (Nat.le_of_ble_eq_true rfl) rfl ?_
  refine g_putfield (q := 16) C fX4_7 dX4_keep_13 rfl hr (Nat.le_of_ble_eq_true rfl) (Or.inl rfl) rfl rfl (by intro z h; cases h) ?_
  exact E.2.1 _ _ _ _ _ dX4_keep_16 rfl (Nat.le_of_ble_eq_true rfl) (Nat.le_of_ble_eq_true rfl) ⟨rfl, rfl⟩
theorem dX4_init_0 : decode cX4_init 0 = .ok (.aload_n 0, 1) := by decide +kernel
theorem dX4_init_1 : decode cX4_init 1 = .ok (.invokespecial 1, 3) := by decide +kernel
theorem dX4_init_4 : decode cX4_init 4 = .ok (.aload_n 0, 1) := by decide +kernel
theorem dX4_init_5 : decode cX4_init 5 = .ok (.iconst 0, 1) := by decide +kernel
theorem dX4_init_6 : decode cX4_init 6 = .ok (.putfield 7, 3) := by decide +kernel
theorem dX4_init_9 : decode cX4_init 9 = .ok (.aload_n 0, 1) := by decide +kernel
theorem dX4_init_10 : decode cX4_init 10 = .ok (.iconst 0, 1) := by decide +kernel
theorem dX4_init_11 : decode cX4_init 11 = .ok (.iload_n 1, 1) := by decide +kernel
theorem dX4_init_12 : decode cX4_init 12 = .ok (.invokestatic 13, 3) := by decide +kernel
theorem dX4_init_15 : decode cX4_init 15 = .ok (.newarray .int, 2) := by decide +kernel
theorem dX4_init_17 : decode cX4_init 17 = .ok (.putfield 19, 3) := by decide +kernel
theorem dX4_init_20 : decode cX4_init 20 = .ok (.aload_n 0, 1) := by decide +kernel
theorem dX4_init_21 : decode cX4_init 21 = .ok (.iload_n 2, 1) := by decide +kernel
theorem dX4_init_22 : decode cX4_init 22 = .ok (.putfield 23, 3) := by decide +kernel
theorem dX4_init_25 : decode cX4_init 25 = .ok (.return_, 1) := by decide +kernel
set_option maxRecDepth 100000 in
set_option maxHeartbeats 4000000 in
theorem c_X4_init {hp : List gA} {n N : Nat} {first most : Int32} (hn : hp.length = n) (hN : (gmax 0 first).toNatClampNeg = N) (hb : N ≤ 100000000) : gM yX4_init cX4_init 3 (none) 1 21 [.ref (n + 0), .int first, .int most] (hp ++ [.inr (.inr (4, [.null, .int 0, .int 0]))]) (1) (N) (fun v h => v = none ∧ h = hp ++ [.inr (.inr (4, [.ref (n + 1), .int 0, .int most])), .inl (N, fun _ => 0)]) := by
  refine gM_of (ls0 := [some (.ref (n + 0)), some (.int first), some (.int most)]) (by decide +kernel) (Nat.le_of_ble_eq_true rfl) rfl fun X C E => ?_
  refine g_aload_n (q := 1) C dX4_init_0 rfl rfl ?_
  refine g_objInit (q := 4) C t_130 t_123 t_124 dX4_init_1 rfl rfl (Nat.le_of_ble_eq_true rfl) (Nat.le_of_ble_eq_true rfl) ?_
  refine g_aload_n (q := 5) C dX4_init_4 rfl rfl ?_
  refine g_iconst (v := 0) (q := 6) C dX4_init_5 (by decide) rfl ?_
  refine g_putE (q := 9) (hp' := hp ++ [.inr (.inr (4, [.null, .int 0, .int 0]))]) C fX4_7 dX4_init_6 rfl (gapp_new hn rfl) (Nat.le_of_ble_eq_true rfl) (Or.inl rfl) rfl rfl (by intro z h; cases h) rfl (gapp_set hn) ?_
  refine g_aload_n (q := 10) C dX4_init_9 rfl rfl ?_
  refine g_iconst (v := 0) (q := 11) C dX4_init_10 (by decide) rfl ?_
  refine g_iload_n (q := 12) C dX4_init_11 rfl rfl ?_
  refine g_callSi (q := 15) (As := [.int 0, .int first]) C gyJ9_max_7cf53 t_132 t_131 (c_J9_max_7cf53) dX4_init_12 rfl rfl rfl (Nat.le_of_ble_eq_true rfl) (Nat.le_of_ble_eq_true rfl) (Nat.le_of_ble_eq_true rfl) (Nat.le_of_ble_eq_true rfl) (Nat.le_of_ble_eq_true rfl) rfl ?_
  refine g_newarray (q := 17) (k := n + 1) (N := N) C t_144 dX4_init_15 rfl (by rw [List.length_append, hn]; rfl) (gmax0 _) hN hb (Nat.le_refl _) (by show 0 + N ≤ N; omega) ?_
  refine g_heap (hp2 := hp ++ [.inr (.inr (4, [.null, .int 0, .int 0])), .inl (N, fun _ => 0)]) (by simp only [List.append_assoc, List.cons_append, List.nil_append]) ?_
  refine g_putE (q := 20) (hp' := hp ++ [.inr (.inr (4, [.ref (n + 1), .int 0, .int 0])), .inl (N, fun _ => 0)]) C fX4_19 dX4_init_17 rfl (gapp_new hn rfl) (Nat.le_of_ble_eq_true rfl) (Or.inl rfl) rfl rfl (by intro z h; cases h) rfl (gapp_set hn) ?_
  refine g_aload_n (q := 21) C dX4_init_20 rfl rfl ?_
  refine g_iload_n (q := 22) C dX4_init_21 rfl rfl ?_
  refine g_putE (q := 25) (hp' := hp ++ [.inr (.inr (4, [.ref (n + 1), .int 0, .int most])), .inl (N, fun _ => 0)]) C fX4_23 dX4_init_22 rfl (gapp_new hn rfl) (Nat.le_of_ble_eq_true rfl) (Or.inr rfl) rfl rfl (by intro z h; cases h) rfl (gapp_set hn) ?_
  exact E.2.1 _ _ _ _ _ dX4_init_25 rfl (by omega) (by omega) ⟨rfl, rfl⟩
theorem dX4_add_0 : decode cX4_add 0 = .ok (.aload_n 0, 1) := by decide +kernel
theorem dX4_add_1 : decode cX4_add 1 = .ok (.getfield 7, 3) := by decide +kernel
theorem dX4_add_4 : decode cX4_add 4 = .ok (.aload_n 0, 1) := by decide +kernel
theorem dX4_add_5 : decode cX4_add 5 = .ok (.getfield 23, 3) := by decide +kernel
theorem dX4_add_8 : decode cX4_add 8 = .ok (.if_icmp .lt 4, 3) := by decide +kernel
theorem dX4_add_12 : decode cX4_add 12 = .ok (.aload_n 0, 1) := by decide +kernel
theorem dX4_add_13 : decode cX4_add 13 = .ok (.getfield 7, 3) := by decide +kernel
theorem dX4_add_16 : decode cX4_add 16 = .ok (.aload_n 0, 1) := by decide +kernel
theorem dX4_add_17 : decode cX4_add 17 = .ok (.getfield 19, 3) := by decide +kernel
theorem dX4_add_20 : decode cX4_add 20 = .ok (.arraylength, 1) := by decide +kernel
theorem dX4_add_21 : decode cX4_add 21 = .ok (.if_icmp .lt 32, 3) := by decide +kernel
theorem dX4_add_53 : decode cX4_add 53 = .ok (.aload_n 0, 1) := by decide +kernel
theorem dX4_add_54 : decode cX4_add 54 = .ok (.getfield 7, 3) := by decide +kernel
theorem dX4_add_57 : decode cX4_add 57 = .ok (.ifCond .lt 35, 3) := by decide +kernel
theorem dX4_add_60 : decode cX4_add 60 = .ok (.aload_n 0, 1) := by decide +kernel
theorem dX4_add_61 : decode cX4_add 61 = .ok (.getfield 7, 3) := by decide +kernel
theorem dX4_add_64 : decode cX4_add 64 = .ok (.aload_n 0, 1) := by decide +kernel
theorem dX4_add_65 : decode cX4_add 65 = .ok (.getfield 19, 3) := by decide +kernel
theorem dX4_add_68 : decode cX4_add 68 = .ok (.arraylength, 1) := by decide +kernel
theorem dX4_add_69 : decode cX4_add 69 = .ok (.if_icmp .ge 23, 3) := by decide +kernel
theorem dX4_add_72 : decode cX4_add 72 = .ok (.aload_n 0, 1) := by decide +kernel
theorem dX4_add_73 : decode cX4_add 73 = .ok (.getfield 19, 3) := by decide +kernel
theorem dX4_add_76 : decode cX4_add 76 = .ok (.aload_n 0, 1) := by decide +kernel
theorem dX4_add_77 : decode cX4_add 77 = .ok (.getfield 7, 3) := by decide +kernel
theorem dX4_add_80 : decode cX4_add 80 = .ok (.iload_n 1, 1) := by decide +kernel
theorem dX4_add_81 : decode cX4_add 81 = .ok (.iastore, 1) := by decide +kernel
theorem dX4_add_82 : decode cX4_add 82 = .ok (.aload_n 0, 1) := by decide +kernel
theorem dX4_add_83 : decode cX4_add 83 = .ok (.dup, 1) := by decide +kernel
theorem dX4_add_84 : decode cX4_add 84 = .ok (.getfield 7, 3) := by decide +kernel
theorem dX4_add_87 : decode cX4_add 87 = .ok (.iconst 1, 1) := by decide +kernel
theorem dX4_add_88 : decode cX4_add 88 = .ok (.iadd, 1) := by decide +kernel
theorem dX4_add_89 : decode cX4_add 89 = .ok (.putfield 7, 3) := by decide +kernel
theorem dX4_add_92 : decode cX4_add 92 = .ok (.return_, 1) := by decide +kernel
set_option maxRecDepth 100000 in
set_option maxHeartbeats 4000000 in
theorem c_X4_add_in {hp : List gA} {r a n : Nat} {f : Nat → Int32} {len most x : Int32} (hr : hp[r]? = some (.inr (.inr (4, [.ref a, .int len, .int most])))) (ha : hp[a]? = some (.inl (n, f))) (h1 : len < most) (h2 : len < Int32.ofNat n) (h3 : ¬ len < 0) (h4 : ¬ Int32.ofNat n ≤ len) (h5 : vp_in len n) : gM yX4_add cX4_add 2 (none) 2 82 [.ref r, .int x] (hp) (0) (0) (fun v h => v = none ∧ h = (hp.set a (.inl (n, upd f len.toNatClampNeg x))).set r (.inr (.inr (4, [.ref a, .int (len + 1), .int most])))) := by
  have n_a_r : a ≠ r := gne ha hr (by intro h; cases h)
  refine gM_of (ls0 := [some (.ref r), some (.int x)]) (by decide +kernel) (Nat.le_of_ble_eq_true rfl) rfl fun X C E => ?_
  refine g_aload_n (q := 1) C dX4_add_0 rfl rfl ?_
  refine g_getfield (q := 4) C fX4_7 dX4_add_1 rfl hr rfl ?_
  refine g_aload_n (q := 5) C dX4_add_4 rfl rfl ?_
  refine g_getfield (q := 8) C fX4_23 dX4_add_5 rfl hr rfl ?_
  refine g_icmp_lt_t (t := 12) C dX4_add_8 (by decide) h1 ?_
  refine g_aload_n (q := 13) C dX4_add_12 rfl rfl ?_
  refine g_getfield (q := 16) C fX4_7 dX4_add_13 rfl hr rfl ?_
  refine g_aload_n (q := 17) C dX4_add_16 rfl rfl ?_
  refine g_getfield (q := 20) C fX4_19 dX4_add_17 rfl hr rfl ?_
  refine g_arraylength (q := 21) C dX4_add_20 rfl ha rfl ?_
  refine g_icmp_lt_t (t := 53) C dX4_add_21 (by decide) h2 ?_
  refine g_aload_n (q := 54) C dX4_add_53 rfl rfl ?_
  refine g_getfield (q := 57) C fX4_7 dX4_add_54 rfl hr rfl ?_
  refine g_if_lt_f (t := 92) (q := 60) C dX4_add_57 (by decide) rfl h3 ?_
  refine g_aload_n (q := 61) C dX4_add_60 rfl rfl ?_
  refine g_getfield (q := 64) C fX4_7 dX4_add_61 rfl hr rfl ?_
  refine g_aload_n (q := 65) C dX4_add_64 rfl rfl ?_
  refine g_getfield (q := 68) C fX4_19 dX4_add_65 rfl hr rfl ?_
  refine g_arraylength (q := 69) C dX4_add_68 rfl ha rfl ?_
  refine g_icmp_ge_f (t := 92) (q := 72) C dX4_add_69 (by decide) rfl h4 ?_
  refine g_aload_n (q := 73) C dX4_add_72 rfl rfl ?_
  refine g_getfield (q := 76) C fX4_19 dX4_add_73 rfl hr rfl ?_
  refine g_aload_n (q := 77) C dX4_add_76 rfl rfl ?_
  refine g_getfield (q := 80) C fX4_7 dX4_add_77 rfl hr rfl ?_
  refine g_iload_n (q := 81) C dX4_add_80 rfl rfl ?_
  refine g_iastore (q := 82) C dX4_add_81 rfl ha h5 ?_
  refine g_aload_n (q := 83) C dX4_add_82 rfl rfl ?_
  refine g_dup (q := 84) C dX4_add_83 rfl rfl ?_
  refine g_getfield (q := 87) C fX4_7 dX4_add_84 rfl (gset_other hr n_a_r) rfl ?_
  refine g_iconst (v := 1) (q := 88) C dX4_add_87 (by decide) rfl ?_
  refine g_iadd (q := 89) C dX4_add_88 rfl ?_
  refine g_putfield (q := 92) C fX4_7 dX4_add_89 rfl (gset_other hr n_a_r) (Nat.le_of_ble_eq_true rfl) (Or.inl rfl) rfl rfl (by intro z h; cases h) ?_
  exact E.2.1 _ _ _ _ _ dX4_add_92 rfl (Nat.le_of_ble_eq_true rfl) (Nat.le_of_ble_eq_true rfl) ⟨rfl, rfl⟩
