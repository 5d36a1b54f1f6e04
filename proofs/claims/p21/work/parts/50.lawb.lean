/-! the law's walk: the loops of steps, the faults, the room (wip/p1/m_lawb.py) -/
theorem gBud.lim2 {hp : List gA} {J : gJr} {Bc Bs : Nat} (B : gBud hp J Bc Bs) (D : gJD J) (hc : Bc ≤ 200000) (hs : Bs ≤ 1000000) : hp.length + 1000 ≤ 300000 ∧ gsz hp + 1048576 ≤ 7000000 := by
  have L := gBud.lim B D hc hs
  obtain ⟨-, b1, -, -⟩ := B
  have d0 := (D.1 0 (by decide)).2.1; have d1 := (D.1 1 (by decide)).2.1; have d2 := (D.1 2 (by decide)).2.1; have d3 := (D.1 3 (by decide)).2.1
  have e0 := gmo0
  have e1 := gmo1
  have e2 := gmo2
  have e3 := gmo3
  omega
theorem dL_law_322 : decode cL_law 322 = .ok (.iload 10, 2) := by decide +kernel
theorem dL_law_324 : decode cL_law 324 = .ok (.bipush 20, 2) := by decide +kernel
theorem dL_law_326 : decode cL_law 326 = .ok (.if_icmp .ge 47, 3) := by decide +kernel
theorem dL_law_329 : decode cL_law 329 = .ok (.aload_n 1, 1) := by decide +kernel
theorem dL_law_330 : decode cL_law 330 = .ok (.invokevirtual 41, 3) := by decide +kernel
theorem dL_law_333 : decode cL_law 333 = .ok (.iconst 1, 1) := by decide +kernel
theorem dL_law_334 : decode cL_law 334 = .ok (.if_icmp .ne 39, 3) := by decide +kernel
theorem dL_law_337 : decode cL_law 337 = .ok (.aload_n 1, 1) := by decide +kernel
theorem dL_law_338 : decode cL_law 338 = .ok (.iconst 1, 1) := by decide +kernel
theorem dL_law_339 : decode cL_law 339 = .ok (.aload_n 0, 1) := by decide +kernel
theorem dL_law_340 : decode cL_law 340 = .ok (.bipush 126, 2) := by decide +kernel
theorem dL_law_342 : decode cL_law 342 = .ok (.iload 10, 2) := by decide +kernel
theorem dL_law_344 : decode cL_law 344 = .ok (.iadd, 1) := by decide +kernel
theorem dL_law_345 : decode cL_law 345 = .ok (.invokestatic 18, 3) := by decide +kernel
theorem dL_law_348 : decode cL_law 348 = .ok (.bipush 15, 2) := by decide +kernel
theorem dL_law_350 : decode cL_law 350 = .ok (.iand, 1) := by decide +kernel
theorem dL_law_351 : decode cL_law 351 = .ok (.iadd, 1) := by decide +kernel
theorem dL_law_352 : decode cL_law 352 = .ok (.invokevirtual 48, 3) := by decide +kernel
theorem dL_law_355 : decode cL_law 355 = .ok (.ifCond .lt 10, 3) := by decide +kernel
theorem dL_law_358 : decode cL_law 358 = .ok (.aload_n 1, 1) := by decide +kernel
theorem dL_law_359 : decode cL_law 359 = .ok (.invokestatic 83, 3) := by decide +kernel
theorem dL_law_362 : decode cL_law 362 = .ok (.ifCond .ne 5, 3) := by decide +kernel
theorem dL_law_367 : decode cL_law 367 = .ok (.iinc 10 1, 3) := by decide +kernel
theorem dL_law_370 : decode cL_law 370 = .ok (.goto (-48), 3) := by decide +kernel
set_option maxRecDepth 100000 in
set_option maxHeartbeats 4000000 in
theorem law_lp1 {X : gX} {nm : String} {SL : Nat} {SF : Nat → Int32} (C : gC X RL nm cL_law 11 room_1) (h0 : gH (xD X) (xI X) (xJ X) (xB X) (xA X) [] (xs X).heap) (hX : va_X (xA X 0) SL SF (xs X) (xs X).heap) (hbl : xA X 0 < (xs X).heap.size) (hb0 : ¬ xB X ≤ xA X 0) (hSL : SL < 2 ^ 31) (hEnd : ∀ (pc : Nat) (ls : List (Option Value)) (hp : List gA) (cl sl : Nat), decode cL_law pc = .ok (.ireturn, 1) → cl ≤ 300000 → sl ≤ 7000000 → gG X pc ls [.int 1] hp cl sl) {M : List Int32} {K : Int32 × Int32} {CC D E : Nat} {R : Nat} {q1 q2 : gRs} {Bc Bs : Nat} {hp0 : List gA} {J0 : gJr} {y2 y3 y4 y5 y6 y7 y8 : Option Value} {i9 : Int32} (hc : Bc ≤ 190000) (hs : Bs ≤ 900000) (hR : R ≤ 3) (hCC : CC ≤ 14900) (hDE : E + D ≤ 900000) (hE : (gExp M).length ≤ 60) (kk : ∀ (z9 : Int32) (hp : List gA) (L : gLn) (Lt A m : Nat) (J : gJr) (B k cl sl : Nat), gWo hp 119 116 1 [] L R Lt A m J q1 q2 Bc Bs → gIv M K B CC D E k L Lt A m J → gFO hp0 hp J0 J → (¬ L.st = 1 ∨ 1 * 20 ≤ k) → gG X 373 [some (.float 0), some (.ref 0), y2, y3, y4, y5, y6, y7, y8, some (.int i9), some (.int z9)] [] hp cl sl) : ∀ (d j : Nat), j + d = 20 → ∀ (hp : List gA) (L : gLn) (Lt A m : Nat) (J : gJr) (B k cl sl : Nat), gWo hp 119 116 1 [] L R Lt A m J q1 q2 Bc Bs → gIv M K B CC D E k L Lt A m J → gFO hp0 hp J0 J → (¬ L.st = 1 ∨ 1 * j ≤ k) → gG X 322 [some (.float 0), some (.ref 0), y2, y3, y4, y5, y6, y7, y8, some (.int i9), some (.int ((nI j)))] [] hp cl sl := by
  intro d
  induction d with
  | zero =>
    intro j hj hp L Lt A m J B k cl sl HO HI fo hk
    obtain rfl : j = 20 := by omega
    refine g_iload (q := 324) C dL_law_322 rfl rfl ?_
    refine g_bipush (v := 20) (q := 326) C dL_law_324 (by decide) rfl ?_
    refine g_icmp_ge_t (t := 373) C dL_law_326 (by decide) (nI_le (Nat.le_refl 20) (by decide)) ?_
    exact kk _ _ _ _ _ _ _ _ _ _ _ HO HI fo hk
  | succ d ih =>
    intro j hj hp L Lt A m J B k cl sl HO HI fo hk
    refine g_iload (q := 324) C dL_law_322 rfl rfl ?_
    refine g_bipush (v := 20) (q := 326) C dL_law_324 (by decide) rfl ?_
    refine g_icmp_ge_f (t := 373) (q := 329) C dL_law_326 (by decide) rfl (fun h => nI_ge (show j < 20 by omega) (by decide) h) ?_
    refine g_aload_n (q := 330) C dL_law_329 rfl rfl ?_
    refine g_tightL h0 HO.b.1 ?_
    have bl1 := gBud.lim2 HO.b HO.j.2.2 (by omega) (by omega)
    refine g_callVi (x := (rX7_state 1 L)) (q := 333) (As := []) C gyX7_state gvX7_state t_824 (c_X7_state_c HO.c HO.l) dL_law_330 rfl HO.c rfl rfl rfl (Nat.le_of_ble_eq_true rfl) (Nat.le_of_ble_eq_true rfl) (Nat.le_of_ble_eq_true rfl) (Nat.le_trans (m := 300000) (by omega) (Nat.le_of_ble_eq_true rfl)) (Nat.le_trans (m := 7000000) (by omega) (Nat.le_of_ble_eq_true rfl)) rfl ?_
    rw [gst1]
    refine g_iconst (v := 1) (q := 334) C dL_law_333 (by decide) rfl ?_
    refine g_icmp_ne (t := 373) (q := 337) C dL_law_334 (by decide) rfl (fun c_334 => ?_) (fun c_334 => ?_)
    ·
      exact kk _ _ _ _ _ _ _ _ _ _ _ HO HI fo (Or.inl c_334)
    ·
      refine g_aload_n (q := 338) C dL_law_337 rfl rfl ?_
      refine g_iconst (v := 1) (q := 339) C dL_law_338 (by decide) rfl ?_
      refine g_aloadS_n (q := 340) C dL_law_339 rfl rfl ?_
      refine g_bipush (v := 126) (q := 342) C dL_law_340 (by decide) rfl ?_
      refine g_iload (q := 344) C dL_law_342 rfl rfl ?_
      refine g_iadd (q := 345) C dL_law_344 rfl ?_
      rw [show (126 : Int32) + nI j = nI (126 + j) from nI_add 126 j]
      refine g_tightL h0 HO.b.1 ?_
      have bl2 := gBud.lim2 HO.b HO.j.2.2 (by omega) (by omega)
      refine g_callZip (q := 348) (As := [.float 0, .int (nI (126 + j))]) C hX hbl hb0 gyL_cell t_853 t_852 (c_L_cell_z (k0 := 126 + j) (by omega) hSL) dL_law_345 rfl rfl rfl (Nat.le_of_ble_eq_true rfl) (Nat.le_of_ble_eq_true rfl) (Nat.le_of_ble_eq_true rfl) (Nat.le_trans (m := 300000) (by omega) (Nat.le_of_ble_eq_true rfl)) (Nat.le_trans (m := 7000000) (by omega) (Nat.le_of_ble_eq_true rfl)) rfl (fun x1 h1 z1 => ?_)
      rw [z1]
      refine g_bipush (v := 15) (q := 350) C dL_law_348 (by decide) rfl ?_
      refine g_iand (q := 351) C dL_law_350 rfl ?_
      obtain ⟨n9, hn9, en9⟩ := gmask x1 (m := 15) (by decide)
      rw [show (x1 &&& 15) = nI n9 from en9]
      refine g_iadd (q := 352) C dL_law_351 rfl ?_
      rw [show (1 : Int32) + nI n9 = nI (1 + n9) from nI_add 1 n9]
      refine g_tightL h0 HO.b.1 ?_
      have bl3 := gBud.lim2 HO.b HO.j.2.2 (by omega) (by omega)
      obtain ⟨N9, se9, b9, c9, HI2⟩ := HI.at
      refine g_callVip (q := 355) (As := [.int ((nI (1 + n9)))]) C gyX7_step gvX7_step t_595 (c_X7_step_run_o (n := (1 + n9)) (k0 := k) (I := gIv M K N9 CC D E) HO (by omega) (by omega) (by decide) c_334 (by omega) (by omega) hR HI2 (fun _ _ _ _ _ _ H => H.pre hCC) (fun _ _ _ _ _ _ _ _ _ _ _ H h T => H.step hCC hDE hE h T)) dL_law_352 rfl HO.c rfl rfl rfl (Nat.le_of_ble_eq_true rfl) (Nat.le_of_ble_eq_true rfl) (Nat.le_of_ble_eq_true rfl) (Nat.le_trans (m := 300000) (by omega) (Nat.le_of_ble_eq_true rfl)) (Nat.le_trans (m := 7000000) (by omega) (Nat.le_of_ble_eq_true rfl)) rfl (fun x2 h2 z2 => ?_)
      obtain ⟨k2, L2, Lt2, A2, m2, J2, HO2, fo2, HI3, zk, ez⟩ := z2
      subst ez
      obtain ⟨N8, se8, b8, c8, HI4⟩ := HI3.at
      obtain ⟨N7, v1, v2, v3, v4, v5, v6, v7, v8⟩ := HI3.snd hCC
      refine g_if_lt_f (t := 365) (q := 358) C dL_law_355 (by decide) rfl (gZnn se9 se8 b8 (by omega)) ?_
      refine g_aload_n (q := 359) C dL_law_358 rfl rfl ?_
      refine g_tightL h0 HO2.b.1 ?_
      have bl4 := gBud.lim2 HO2.b HO2.j.2.2 (by omega) (by omega)
      refine g_callSi (x := 1) (q := 362) (As := [.ref 0]) C gyL_sound t_894 t_893 (c_L_sound_z HO2 (by decide) v1 v2 v3 v4 v5 v6 v7 v8) dL_law_359 rfl rfl rfl (Nat.le_of_ble_eq_true rfl) (Nat.le_of_ble_eq_true rfl) (Nat.le_of_ble_eq_true rfl) (Nat.le_trans (m := 300000) (by omega) (Nat.le_of_ble_eq_true rfl)) (Nat.le_trans (m := 7000000) (by omega) (Nat.le_of_ble_eq_true rfl)) rfl ?_
      refine g_if_ne_t (t := 367) C dL_law_362 (by decide) (by decide) ?_
      refine g_iinc (v := (nI (j + 1))) (q := 370) C dL_law_367 rfl (nI_1 j) (by simp only [gset]; rfl) rfl ?_
      refine g_goto (q := 322) C dL_law_370 (by decide) ?_
      exact ih (j + 1) (by omega) _ _ _ _ _ _ _ _ _ _ HO2 HI3 (gFO.trans fo fo2) (by rcases zk with e | e; exact Or.inr (by rcases hk with h | h; exact absurd c_334 h; omega); exact Or.inl e)
theorem dL_law_376 : decode cL_law 376 = .ok (.iload 10, 2) := by decide +kernel
theorem dL_law_378 : decode cL_law 378 = .ok (.bipush 20, 2) := by decide +kernel
theorem dL_law_380 : decode cL_law 380 = .ok (.if_icmp .ge 35, 3) := by decide +kernel
theorem dL_law_383 : decode cL_law 383 = .ok (.aload_n 1, 1) := by decide +kernel
theorem dL_law_384 : decode cL_law 384 = .ok (.invokevirtual 41, 3) := by decide +kernel
theorem dL_law_387 : decode cL_law 387 = .ok (.iconst 1, 1) := by decide +kernel
theorem dL_law_388 : decode cL_law 388 = .ok (.if_icmp .ne 27, 3) := by decide +kernel
theorem dL_law_391 : decode cL_law 391 = .ok (.aload_n 1, 1) := by decide +kernel
theorem dL_law_392 : decode cL_law 392 = .ok (.bipush 60, 2) := by decide +kernel
theorem dL_law_394 : decode cL_law 394 = .ok (.invokevirtual 48, 3) := by decide +kernel
theorem dL_law_397 : decode cL_law 397 = .ok (.ifCond .lt 10, 3) := by decide +kernel
theorem dL_law_400 : decode cL_law 400 = .ok (.aload_n 1, 1) := by decide +kernel
theorem dL_law_401 : decode cL_law 401 = .ok (.invokestatic 83, 3) := by decide +kernel
theorem dL_law_404 : decode cL_law 404 = .ok (.ifCond .ne 5, 3) := by decide +kernel
theorem dL_law_409 : decode cL_law 409 = .ok (.iinc 10 1, 3) := by decide +kernel
theorem dL_law_412 : decode cL_law 412 = .ok (.goto (-36), 3) := by decide +kernel
set_option maxRecDepth 100000 in
set_option maxHeartbeats 4000000 in
theorem law_lp2 {X : gX} {nm : String} {SL : Nat} {SF : Nat → Int32} (C : gC X RL nm cL_law 11 room_1) (h0 : gH (xD X) (xI X) (xJ X) (xB X) (xA X) [] (xs X).heap) (hX : va_X (xA X 0) SL SF (xs X) (xs X).heap) (hbl : xA X 0 < (xs X).heap.size) (hb0 : ¬ xB X ≤ xA X 0) (hSL : SL < 2 ^ 31) (hEnd : ∀ (pc : Nat) (ls : List (Option Value)) (hp : List gA) (cl sl : Nat), decode cL_law pc = .ok (.ireturn, 1) → cl ≤ 300000 → sl ≤ 7000000 → gG X pc ls [.int 1] hp cl sl) {M : List Int32} {K : Int32 × Int32} {CC D E : Nat} {R : Nat} {q1 q2 : gRs} {Bc Bs : Nat} {hp0 : List gA} {J0 : gJr} {y2 y3 y4 y5 y6 y7 y8 : Option Value} {i9 : Int32} (hc : Bc ≤ 190000) (hs : Bs ≤ 900000) (hR : R ≤ 3) (hCC : CC ≤ 14900) (hDE : E + D ≤ 900000) (hE : (gExp M).length ≤ 60) (kk : ∀ (z9 : Int32) (hp : List gA) (L : gLn) (Lt A m : Nat) (J : gJr) (B k cl sl : Nat), gWo hp 119 116 1 [] L R Lt A m J q1 q2 Bc Bs → gIv M K B CC D E k L Lt A m J → gFO hp0 hp J0 J → (¬ L.st = 1 ∨ 60 * 20 ≤ k) → gG X 415 [some (.float 0), some (.ref 0), y2, y3, y4, y5, y6, y7, y8, some (.int i9), some (.int z9)] [] hp cl sl) : ∀ (d j : Nat), j + d = 20 → ∀ (hp : List gA) (L : gLn) (Lt A m : Nat) (J : gJr) (B k cl sl : Nat), gWo hp 119 116 1 [] L R Lt A m J q1 q2 Bc Bs → gIv M K B CC D E k L Lt A m J → gFO hp0 hp J0 J → (¬ L.st = 1 ∨ 60 * j ≤ k) → gG X 376 [some (.float 0), some (.ref 0), y2, y3, y4, y5, y6, y7, y8, some (.int i9), some (.int ((nI j)))] [] hp cl sl := by
  intro d
  induction d with
  | zero =>
    intro j hj hp L Lt A m J B k cl sl HO HI fo hk
    obtain rfl : j = 20 := by omega
    refine g_iload (q := 378) C dL_law_376 rfl rfl ?_
    refine g_bipush (v := 20) (q := 380) C dL_law_378 (by decide) rfl ?_
    refine g_icmp_ge_t (t := 415) C dL_law_380 (by decide) (nI_le (Nat.le_refl 20) (by decide)) ?_
    exact kk _ _ _ _ _ _ _ _ _ _ _ HO HI fo hk
  | succ d ih =>
    intro j hj hp L Lt A m J B k cl sl HO HI fo hk
    refine g_iload (q := 378) C dL_law_376 rfl rfl ?_
    refine g_bipush (v := 20) (q := 380) C dL_law_378 (by decide) rfl ?_
    refine g_icmp_ge_f (t := 415) (q := 383) C dL_law_380 (by decide) rfl (fun h => nI_ge (show j < 20 by omega) (by decide) h) ?_
    refine g_aload_n (q := 384) C dL_law_383 rfl rfl ?_
    refine g_tightL h0 HO.b.1 ?_
    have bl5 := gBud.lim2 HO.b HO.j.2.2 (by omega) (by omega)
    refine g_callVi (x := (rX7_state 1 L)) (q := 387) (As := []) C gyX7_state gvX7_state t_824 (c_X7_state_c HO.c HO.l) dL_law_384 rfl HO.c rfl rfl rfl (Nat.le_of_ble_eq_true rfl) (Nat.le_of_ble_eq_true rfl) (Nat.le_of_ble_eq_true rfl) (Nat.le_trans (m := 300000) (by omega) (Nat.le_of_ble_eq_true rfl)) (Nat.le_trans (m := 7000000) (by omega) (Nat.le_of_ble_eq_true rfl)) rfl ?_
    rw [gst1]
    refine g_iconst (v := 1) (q := 388) C dL_law_387 (by decide) rfl ?_
    refine g_icmp_ne (t := 415) (q := 391) C dL_law_388 (by decide) rfl (fun c_388 => ?_) (fun c_388 => ?_)
    ·
      exact kk _ _ _ _ _ _ _ _ _ _ _ HO HI fo (Or.inl c_388)
    ·
      refine g_aload_n (q := 392) C dL_law_391 rfl rfl ?_
      refine g_bipush (v := 60) (q := 394) C dL_law_392 (by decide) rfl ?_
      refine g_tightL h0 HO.b.1 ?_
      have bl6 := gBud.lim2 HO.b HO.j.2.2 (by omega) (by omega)
      obtain ⟨N9, se9, b9, c9, HI2⟩ := HI.at
      refine g_callVip (q := 397) (As := [.int ((nI 60))]) C gyX7_step gvX7_step t_595 (c_X7_step_run_o (n := 60) (k0 := k) (I := gIv M K N9 CC D E) HO (by omega) (by omega) (by decide) c_388 (by omega) (by omega) hR HI2 (fun _ _ _ _ _ _ H => H.pre hCC) (fun _ _ _ _ _ _ _ _ _ _ _ H h T => H.step hCC hDE hE h T)) dL_law_394 rfl HO.c rfl rfl rfl (Nat.le_of_ble_eq_true rfl) (Nat.le_of_ble_eq_true rfl) (Nat.le_of_ble_eq_true rfl) (Nat.le_trans (m := 300000) (by omega) (Nat.le_of_ble_eq_true rfl)) (Nat.le_trans (m := 7000000) (by omega) (Nat.le_of_ble_eq_true rfl)) rfl (fun x1 h1 z1 => ?_)
      obtain ⟨k2, L2, Lt2, A2, m2, J2, HO2, fo2, HI3, zk, ez⟩ := z1
      subst ez
      obtain ⟨N8, se8, b8, c8, HI4⟩ := HI3.at
      obtain ⟨N7, v1, v2, v3, v4, v5, v6, v7, v8⟩ := HI3.snd hCC
      refine g_if_lt_f (t := 407) (q := 400) C dL_law_397 (by decide) rfl (gZnn se9 se8 b8 (by omega)) ?_
      refine g_aload_n (q := 401) C dL_law_400 rfl rfl ?_
      refine g_tightL h0 HO2.b.1 ?_
      have bl7 := gBud.lim2 HO2.b HO2.j.2.2 (by omega) (by omega)
      refine g_callSi (x := 1) (q := 404) (As := [.ref 0]) C gyL_sound t_894 t_893 (c_L_sound_z HO2 (by decide) v1 v2 v3 v4 v5 v6 v7 v8) dL_law_401 rfl rfl rfl (Nat.le_of_ble_eq_true rfl) (Nat.le_of_ble_eq_true rfl) (Nat.le_of_ble_eq_true rfl) (Nat.le_trans (m := 300000) (by omega) (Nat.le_of_ble_eq_true rfl)) (Nat.le_trans (m := 7000000) (by omega) (Nat.le_of_ble_eq_true rfl)) rfl ?_
      refine g_if_ne_t (t := 409) C dL_law_404 (by decide) (by decide) ?_
      refine g_iinc (v := (nI (j + 1))) (q := 412) C dL_law_409 rfl (nI_1 j) (by simp only [gset]; rfl) rfl ?_
      refine g_goto (q := 376) C dL_law_412 (by decide) ?_
      exact ih (j + 1) (by omega) _ _ _ _ _ _ _ _ _ _ HO2 HI3 (gFO.trans fo fo2) (by rcases zk with e | e; exact Or.inr (by rcases hk with h | h; exact absurd c_388 h; omega); exact Or.inl e)
theorem dL_law_642 : decode cL_law 642 = .ok (.iload 5, 2) := by decide +kernel
theorem dL_law_644 : decode cL_law 644 = .ok (.bipush 40, 2) := by decide +kernel
theorem dL_law_646 : decode cL_law 646 = .ok (.if_icmp .ge 35, 3) := by decide +kernel
theorem dL_law_649 : decode cL_law 649 = .ok (.aload_n 1, 1) := by decide +kernel
theorem dL_law_650 : decode cL_law 650 = .ok (.invokevirtual 41, 3) := by decide +kernel
theorem dL_law_653 : decode cL_law 653 = .ok (.iconst 1, 1) := by decide +kernel
theorem dL_law_654 : decode cL_law 654 = .ok (.if_icmp .ne 27, 3) := by decide +kernel
theorem dL_law_657 : decode cL_law 657 = .ok (.aload_n 1, 1) := by decide +kernel
theorem dL_law_658 : decode cL_law 658 = .ok (.bipush 9, 2) := by decide +kernel
theorem dL_law_660 : decode cL_law 660 = .ok (.invokevirtual 48, 3) := by decide +kernel
theorem dL_law_663 : decode cL_law 663 = .ok (.ifCond .lt 10, 3) := by decide +kernel
theorem dL_law_666 : decode cL_law 666 = .ok (.aload_n 1, 1) := by decide +kernel
theorem dL_law_667 : decode cL_law 667 = .ok (.invokestatic 83, 3) := by decide +kernel
theorem dL_law_670 : decode cL_law 670 = .ok (.ifCond .ne 5, 3) := by decide +kernel
theorem dL_law_675 : decode cL_law 675 = .ok (.iinc 5 1, 3) := by decide +kernel
theorem dL_law_678 : decode cL_law 678 = .ok (.goto (-36), 3) := by decide +kernel
set_option maxRecDepth 100000 in
set_option maxHeartbeats 4000000 in
theorem law_lp3 {X : gX} {nm : String} {SL : Nat} {SF : Nat → Int32} (C : gC X RL nm cL_law 11 room_1) (h0 : gH (xD X) (xI X) (xJ X) (xB X) (xA X) [] (xs X).heap) (hX : va_X (xA X 0) SL SF (xs X) (xs X).heap) (hbl : xA X 0 < (xs X).heap.size) (hb0 : ¬ xB X ≤ xA X 0) (hSL : SL < 2 ^ 31) (hEnd : ∀ (pc : Nat) (ls : List (Option Value)) (hp : List gA) (cl sl : Nat), decode cL_law pc = .ok (.ireturn, 1) → cl ≤ 300000 → sl ≤ 7000000 → gG X pc ls [.int 1] hp cl sl) {x9 : Nat} {K : Int32 × Int32} {CC D E : Nat} {R : Nat} {q1 q2 : gRs} {Bc Bs : Nat} {hp0 : List gA} {J0 : gJr} {y2 y3 y6 y7 y8 y9 y10 : Option Value} {i9 : Int32} (hc : Bc ≤ 190000) (hs : Bs ≤ 900000) (hR : R ≤ 3) (hCC : CC ≤ 14900) (hx1 : 1 ≤ x9) (hx2 : x9 ≤ 254) (kk : ∀ (z9 : Int32) (hp : List gA) (L : gLn) (Lt A m : Nat) (J : gJr) (B k cl sl : Nat), gWo hp 119 116 1 [] L R Lt A m J q1 q2 Bc Bs → gIq x9 K B CC D k L Lt A m J → gFO hp0 hp J0 J → (¬ L.st = 1 ∨ 9 * 40 ≤ k) → gG X 681 [some (.float 0), some (.ref 0), y2, y3, some (.int i9), some (.int z9), y6, y7, y8, y9, y10] [] hp cl sl) : ∀ (d j : Nat), j + d = 40 → ∀ (hp : List gA) (L : gLn) (Lt A m : Nat) (J : gJr) (B k cl sl : Nat), gWo hp 119 116 1 [] L R Lt A m J q1 q2 Bc Bs → gIq x9 K B CC D k L Lt A m J → gFO hp0 hp J0 J → (¬ L.st = 1 ∨ 9 * j ≤ k) → gG X 642 [some (.float 0), some (.ref 0), y2, y3, some (.int i9), some (.int ((nI j))), y6, y7, y8, y9, y10] [] hp cl sl := by
  intro d
  induction d with
  | zero =>
    intro j hj hp L Lt A m J B k cl sl HO HI fo hk
    obtain rfl : j = 40 := by omega
    refine g_iload (q := 644) C dL_law_642 rfl rfl ?_
    refine g_bipush (v := 40) (q := 646) C dL_law_644 (by decide) rfl ?_
    refine g_icmp_ge_t (t := 681) C dL_law_646 (by decide) (nI_le (Nat.le_refl 40) (by decide)) ?_
    exact kk _ _ _ _ _ _ _ _ _ _ _ HO HI fo hk
  | succ d ih =>
    intro j hj hp L Lt A m J B k cl sl HO HI fo hk
    refine g_iload (q := 644) C dL_law_642 rfl rfl ?_
    refine g_bipush (v := 40) (q := 646) C dL_law_644 (by decide) rfl ?_
    refine g_icmp_ge_f (t := 681) (q := 649) C dL_law_646 (by decide) rfl (fun h => nI_ge (show j < 40 by omega) (by decide) h) ?_
    refine g_aload_n (q := 650) C dL_law_649 rfl rfl ?_
    refine g_tightL h0 HO.b.1 ?_
    have bl8 := gBud.lim2 HO.b HO.j.2.2 (by omega) (by omega)
    refine g_callVi (x := (rX7_state 1 L)) (q := 653) (As := []) C gyX7_state gvX7_state t_824 (c_X7_state_c HO.c HO.l) dL_law_650 rfl HO.c rfl rfl rfl (Nat.le_of_ble_eq_true rfl) (Nat.le_of_ble_eq_true rfl) (Nat.le_of_ble_eq_true rfl) (Nat.le_trans (m := 300000) (by omega) (Nat.le_of_ble_eq_true rfl)) (Nat.le_trans (m := 7000000) (by omega) (Nat.le_of_ble_eq_true rfl)) rfl ?_
    rw [gst1]
    refine g_iconst (v := 1) (q := 654) C dL_law_653 (by decide) rfl ?_
    refine g_icmp_ne (t := 681) (q := 657) C dL_law_654 (by decide) rfl (fun c_654 => ?_) (fun c_654 => ?_)
    ·
      exact kk _ _ _ _ _ _ _ _ _ _ _ HO HI fo (Or.inl c_654)
    ·
      refine g_aload_n (q := 658) C dL_law_657 rfl rfl ?_
      refine g_bipush (v := 9) (q := 660) C dL_law_658 (by decide) rfl ?_
      refine g_tightL h0 HO.b.1 ?_
      have bl9 := gBud.lim2 HO.b HO.j.2.2 (by omega) (by omega)
      obtain ⟨N9, se9, b9, c9, HI2⟩ := HI.at
      refine g_callVip (q := 663) (As := [.int ((nI 9))]) C gyX7_step gvX7_step t_595 (c_X7_step_run_o (n := 9) (k0 := k) (I := gIq x9 K N9 CC D) HO (by omega) (by omega) (by decide) c_654 (by omega) (by omega) hR HI2 (fun _ _ _ _ _ _ H => H.pre hCC) (fun _ _ _ _ _ _ _ _ _ _ _ H h T => H.step hx1 hx2 hCC h T)) dL_law_660 rfl HO.c rfl rfl rfl (Nat.le_of_ble_eq_true rfl) (Nat.le_of_ble_eq_true rfl) (Nat.le_of_ble_eq_true rfl) (Nat.le_trans (m := 300000) (by omega) (Nat.le_of_ble_eq_true rfl)) (Nat.le_trans (m := 7000000) (by omega) (Nat.le_of_ble_eq_true rfl)) rfl (fun x1 h1 z1 => ?_)
      obtain ⟨k2, L2, Lt2, A2, m2, J2, HO2, fo2, HI3, zk, ez⟩ := z1
      subst ez
      obtain ⟨N8, se8, b8, c8, HI4⟩ := HI3.at
      obtain ⟨N7, v1, v2, v3, v4, v5, v6, v7, v8⟩ := HI3.snd hCC
      refine g_if_lt_f (t := 673) (q := 666) C dL_law_663 (by decide) rfl (gZnn se9 se8 b8 (by omega)) ?_
      refine g_aload_n (q := 667) C dL_law_666 rfl rfl ?_
      refine g_tightL h0 HO2.b.1 ?_
      have bl10 := gBud.lim2 HO2.b HO2.j.2.2 (by omega) (by omega)
      refine g_callSi (x := 1) (q := 670) (As := [.ref 0]) C gyL_sound t_894 t_893 (c_L_sound_z HO2 (by decide) v1 v2 v3 v4 v5 v6 v7 v8) dL_law_667 rfl rfl rfl (Nat.le_of_ble_eq_true rfl) (Nat.le_of_ble_eq_true rfl) (Nat.le_of_ble_eq_true rfl) (Nat.le_trans (m := 300000) (by omega) (Nat.le_of_ble_eq_true rfl)) (Nat.le_trans (m := 7000000) (by omega) (Nat.le_of_ble_eq_true rfl)) rfl ?_
      refine g_if_ne_t (t := 675) C dL_law_670 (by decide) (by decide) ?_
      refine g_iinc (v := (nI (j + 1))) (q := 678) C dL_law_675 rfl (nI_1 j) (by simp only [gset]; rfl) rfl ?_
      refine g_goto (q := 642) C dL_law_678 (by decide) ?_
      exact ih (j + 1) (by omega) _ _ _ _ _ _ _ _ _ _ HO2 HI3 (gFO.trans fo fo2) (by rcases zk with e | e; exact Or.inr (by rcases hk with h | h; exact absurd c_654 h; omega); exact Or.inl e)
theorem dL_law_175 : decode cL_law 175 = .ok (.iload 7, 2) := by decide +kernel
theorem dL_law_177 : decode cL_law 177 = .ok (.iload 6, 2) := by decide +kernel
theorem dL_law_179 : decode cL_law 179 = .ok (.if_icmp .ge 51, 3) := by decide +kernel
theorem dL_law_182 : decode cL_law 182 = .ok (.aload_n 0, 1) := by decide +kernel
theorem dL_law_183 : decode cL_law 183 = .ok (.bipush 94, 2) := by decide +kernel
theorem dL_law_185 : decode cL_law 185 = .ok (.bipush 8, 2) := by decide +kernel
theorem dL_law_187 : decode cL_law 187 = .ok (.iload_n 3, 1) := by decide +kernel
theorem dL_law_188 : decode cL_law 188 = .ok (.imul, 1) := by decide +kernel
theorem dL_law_189 : decode cL_law 189 = .ok (.iadd, 1) := by decide +kernel
theorem dL_law_190 : decode cL_law 190 = .ok (.iload 7, 2) := by decide +kernel
theorem dL_law_192 : decode cL_law 192 = .ok (.iadd, 1) := by decide +kernel
theorem dL_law_193 : decode cL_law 193 = .ok (.invokestatic 18, 3) := by decide +kernel
theorem dL_law_196 : decode cL_law 196 = .ok (.istore 8, 2) := by decide +kernel
theorem dL_law_198 : decode cL_law 198 = .ok (.aload_n 1, 1) := by decide +kernel
theorem dL_law_199 : decode cL_law 199 = .ok (.iload 8, 2) := by decide +kernel
theorem dL_law_201 : decode cL_law 201 = .ok (.bipush 127, 2) := by decide +kernel
theorem dL_law_203 : decode cL_law 203 = .ok (.iand, 1) := by decide +kernel
theorem dL_law_204 : decode cL_law 204 = .ok (.iload 8, 2) := by decide +kernel
theorem dL_law_206 : decode cL_law 206 = .ok (.bipush 7, 2) := by decide +kernel
theorem dL_law_208 : decode cL_law 208 = .ok (.iushr, 1) := by decide +kernel
theorem dL_law_209 : decode cL_law 209 = .ok (.iconst 1, 1) := by decide +kernel
theorem dL_law_210 : decode cL_law 210 = .ok (.iand, 1) := by decide +kernel
theorem dL_law_211 : decode cL_law 211 = .ok (.ifCond .ne 7, 3) := by decide +kernel
theorem dL_law_214 : decode cL_law 214 = .ok (.iconst 1, 1) := by decide +kernel
theorem dL_law_215 : decode cL_law 215 = .ok (.goto 4, 3) := by decide +kernel
theorem dL_law_218 : decode cL_law 218 = .ok (.iconst 3, 1) := by decide +kernel
theorem dL_law_219 : decode cL_law 219 = .ok (.iconst 0, 1) := by decide +kernel
theorem dL_law_220 : decode cL_law 220 = .ok (.invokevirtual 76, 3) := by decide +kernel
theorem dL_law_223 : decode cL_law 223 = .ok (.pop, 1) := by decide +kernel
theorem dL_law_224 : decode cL_law 224 = .ok (.iinc 7 1, 3) := by decide +kernel
theorem dL_law_227 : decode cL_law 227 = .ok (.goto (-52), 3) := by decide +kernel
set_option maxRecDepth 100000 in
set_option maxHeartbeats 4000000 in
theorem law_faults {X : gX} {nm : String} {SL : Nat} {SF : Nat → Int32} (C : gC X RL nm cL_law 11 room_1) (h0 : gH (xD X) (xI X) (xJ X) (xB X) (xA X) [] (xs X).heap) (hX : va_X (xA X 0) SL SF (xs X) (xs X).heap) (hbl : xA X 0 < (xs X).heap.size) (hb0 : ¬ xB X ≤ xA X 0) (hSL : SL < 2 ^ 31) (hEnd : ∀ (pc : Nat) (ls : List (Option Value)) (hp : List gA) (cl sl : Nat), decode cL_law pc = .ok (.ireturn, 1) → cl ≤ 300000 → sl ≤ 7000000 → gG X pc ls [.int 1] hp cl sl) {L : gLn} {R Lt A F r : Nat} {J : gJr} {q1 q2 : gRs} {Bc Bs : Nat} {hp0 : List gA} {y2 y4 y5 y9 y10 : Option Value} (hc : Bc ≤ 190000) (hs : Bs ≤ 900000) (hF : F ≤ 7) (hr : r ≤ 3) (kk : ∀ (hp : List gA) (m : Nat) (y8 : Option Value) (cl sl : Nat), gWo hp 119 116 1 [] L R Lt A m J q1 q2 Bc Bs → gFO hp0 hp J J → gG X 230 [some (.float 0), some (.ref 0), y2, some (.int ((nI r))), y4, y5, some (.int ((nI F))), some (.int ((nI F))), y8, y9, y10] [] hp cl sl) : ∀ (d j : Nat), j + d = F → ∀ (hp : List gA) (m : Nat) (y8 : Option Value) (cl sl : Nat), gWo hp 119 116 1 [] L R Lt A m J q1 q2 Bc Bs → gFO hp0 hp J J → gG X 175 [some (.float 0), some (.ref 0), y2, some (.int ((nI r))), y4, y5, some (.int ((nI F))), some (.int ((nI j))), y8, y9, y10] [] hp cl sl := by
  intro d
  induction d with
  | zero =>
    intro j hj hp m y8 cl sl HO fo
    obtain rfl : j = F := by omega
    refine g_iload (q := 177) C dL_law_175 rfl rfl ?_
    refine g_iload (q := 179) C dL_law_177 rfl rfl ?_
    refine g_icmp_ge_t (t := 230) C dL_law_179 (by decide) (nI_le (Nat.le_refl _) (by omega)) ?_
    exact kk _ _ _ _ _ HO fo
  | succ d ih =>
    intro j hj hp m y8 cl sl HO fo
    refine g_iload (q := 177) C dL_law_175 rfl rfl ?_
    refine g_iload (q := 179) C dL_law_177 rfl rfl ?_
    refine g_icmp_ge_f (t := 230) (q := 182) C dL_law_179 (by decide) rfl (fun h => nI_ge (show j < F by omega) (by omega) h) ?_
    refine g_aloadS_n (q := 183) C dL_law_182 rfl rfl ?_
    refine g_bipush (v := 94) (q := 185) C dL_law_183 (by decide) rfl ?_
    refine g_bipush (v := 8) (q := 187) C dL_law_185 (by decide) rfl ?_
    refine g_iload_n (q := 188) C dL_law_187 rfl rfl ?_
    refine g_imul (q := 189) C dL_law_188 rfl ?_
    refine g_iadd (q := 190) C dL_law_189 rfl ?_
    refine g_iload (q := 192) C dL_law_190 rfl rfl ?_
    refine g_iadd (q := 193) C dL_law_192 rfl ?_
    rw [show (94 : Int32) + 8 * nI r + nI j = nI (94 + 8 * r + j) by rw [show (8 : Int32) = nI 8 from rfl, nI_mulS (by omega) (by decide) (by omega), show (94 : Int32) = nI 94 from rfl, nI_add, nI_add]]
    refine g_tightL h0 HO.b.1 ?_
    have bl11 := gBud.lim2 HO.b HO.j.2.2 (by omega) (by omega)
    refine g_callZip (q := 196) (As := [.float 0, .int (nI (94 + 8 * r + j))]) C hX hbl hb0 gyL_cell t_853 t_852 (c_L_cell_z (k0 := 94 + 8 * r + j) (by omega) hSL) dL_law_193 rfl rfl rfl (Nat.le_of_ble_eq_true rfl) (Nat.le_of_ble_eq_true rfl) (Nat.le_of_ble_eq_true rfl) (Nat.le_trans (m := 300000) (by omega) (Nat.le_of_ble_eq_true rfl)) (Nat.le_trans (m := 7000000) (by omega) (Nat.le_of_ble_eq_true rfl)) rfl (fun x1 h1 z1 => ?_)
    rw [z1]
    refine g_istore (q := 198) C dL_law_196 (Nat.le_of_ble_eq_true rfl) (by simp only [gset]; rfl) rfl ?_
    refine g_aload_n (q := 199) C dL_law_198 rfl rfl ?_
    refine g_iload (q := 201) C dL_law_199 rfl rfl ?_
    refine g_bipush (v := 127) (q := 203) C dL_law_201 (by decide) rfl ?_
    refine g_iand (q := 204) C dL_law_203 rfl ?_
    refine g_iload (q := 206) C dL_law_204 rfl rfl ?_
    refine g_bipush (v := 7) (q := 208) C dL_law_206 (by decide) rfl ?_
    refine g_iushr (q := 209) C dL_law_208 rfl ?_
    refine g_iconst (v := 1) (q := 210) C dL_law_209 (by decide) rfl ?_
    refine g_iand (q := 211) C dL_law_210 rfl ?_
    refine g_if_ne (t := 218) (q := 214) C dL_law_211 (by decide) rfl (fun c_211 => ?_) (fun c_211 => ?_)
    ·
      refine g_iconst (v := 3) (q := 219) C dL_law_218 (by decide) rfl ?_
      refine g_iconst (v := 0) (q := 220) C dL_law_219 (by decide) rfl ?_
      refine g_tightL h0 HO.b.1 ?_
      have bl12 := gBud.lim2 HO.b HO.j.2.2 (by omega) (by omega)
      refine g_callVip (q := 223) (As := [.int ((x1 &&& 127)), .int 3, .int 0]) C gyX7_fault gvX7_fault t_570 (c_X7_fault_o_o (x := (x1 &&& 127)) (y := 3) HO (Or.inr rfl) (by decide)) dL_law_220 rfl HO.c rfl rfl rfl (Nat.le_of_ble_eq_true rfl) (Nat.le_of_ble_eq_true rfl) (Nat.le_of_ble_eq_true rfl) (Nat.le_trans (m := 300000) (by omega) (Nat.le_of_ble_eq_true rfl)) (Nat.le_trans (m := 7000000) (by omega) (Nat.le_of_ble_eq_true rfl)) rfl (fun x2 h2 z2 => ?_)
      obtain ⟨m2, hm2, HO2, fo2⟩ := z2
      refine g_pop (q := 224) C dL_law_223 rfl rfl ?_
      refine g_iinc (v := (nI (j + 1))) (q := 227) C dL_law_224 rfl (nI_1 j) (by simp only [gset]; rfl) rfl ?_
      refine g_goto (q := 175) C dL_law_227 (by decide) ?_
      exact ih (j + 1) (by omega) _ _ _ _ _ HO2 (gFO.trans fo fo2)
    ·
      refine g_iconst (v := 1) (q := 215) C dL_law_214 (by decide) rfl ?_
      refine g_goto (q := 219) C dL_law_215 (by decide) ?_
      refine g_iconst (v := 0) (q := 220) C dL_law_219 (by decide) rfl ?_
      refine g_tightL h0 HO.b.1 ?_
      have bl13 := gBud.lim2 HO.b HO.j.2.2 (by omega) (by omega)
      refine g_callVip (q := 223) (As := [.int ((x1 &&& 127)), .int 1, .int 0]) C gyX7_fault gvX7_fault t_570 (c_X7_fault_o_o (x := (x1 &&& 127)) (y := 1) HO (Or.inl rfl) (by decide)) dL_law_220 rfl HO.c rfl rfl rfl (Nat.le_of_ble_eq_true rfl) (Nat.le_of_ble_eq_true rfl) (Nat.le_of_ble_eq_true rfl) (Nat.le_trans (m := 300000) (by omega) (Nat.le_of_ble_eq_true rfl)) (Nat.le_trans (m := 7000000) (by omega) (Nat.le_of_ble_eq_true rfl)) rfl (fun x3 h3 z3 => ?_)
      obtain ⟨m2, hm2, HO2, fo2⟩ := z3
      refine g_pop (q := 224) C dL_law_223 rfl rfl ?_
      refine g_iinc (v := (nI (j + 1))) (q := 227) C dL_law_224 rfl (nI_1 j) (by simp only [gset]; rfl) rfl ?_
      refine g_goto (q := 175) C dL_law_227 (by decide) ?_
      exact ih (j + 1) (by omega) _ _ _ _ _ HO2 (gFO.trans fo fo2)
theorem dL_law_603 : decode cL_law 603 = .ok (.iconst 1, 1) := by decide +kernel
theorem dL_law_604 : decode cL_law 604 = .ok (.aload_n 0, 1) := by decide +kernel
theorem dL_law_605 : decode cL_law 605 = .ok (.sipush 166, 3) := by decide +kernel
theorem dL_law_608 : decode cL_law 608 = .ok (.invokestatic 18, 3) := by decide +kernel
theorem dL_law_611 : decode cL_law 611 = .ok (.sipush 255, 3) := by decide +kernel
theorem dL_law_614 : decode cL_law 614 = .ok (.iand, 1) := by decide +kernel
theorem dL_law_615 : decode cL_law 615 = .ok (.sipush 254, 3) := by decide +kernel
theorem dL_law_618 : decode cL_law 618 = .ok (.irem, 1) := by decide +kernel
theorem dL_law_619 : decode cL_law 619 = .ok (.iadd, 1) := by decide +kernel
theorem dL_law_620 : decode cL_law 620 = .ok (.istore_n 3, 1) := by decide +kernel
theorem dL_law_621 : decode cL_law 621 = .ok (.aload_n 1, 1) := by decide +kernel
theorem dL_law_622 : decode cL_law 622 = .ok (.iconst 2, 1) := by decide +kernel
theorem dL_law_623 : decode cL_law 623 = .ok (.invokevirtual 28, 3) := by decide +kernel
theorem dL_law_626 : decode cL_law 626 = .ok (.istore 4, 2) := by decide +kernel
theorem dL_law_628 : decode cL_law 628 = .ok (.aload_n 1, 1) := by decide +kernel
theorem dL_law_629 : decode cL_law 629 = .ok (.iload_n 3, 1) := by decide +kernel
theorem dL_law_630 : decode cL_law 630 = .ok (.invokevirtual 80, 3) := by decide +kernel
theorem dL_law_633 : decode cL_law 633 = .ok (.iconst 1, 1) := by decide +kernel
theorem dL_law_634 : decode cL_law 634 = .ok (.if_icmp .eq 5, 3) := by decide +kernel
theorem dL_law_639 : decode cL_law 639 = .ok (.iconst 0, 1) := by decide +kernel
theorem dL_law_640 : decode cL_law 640 = .ok (.istore 5, 2) := by decide +kernel
theorem dL_law_681 : decode cL_law 681 = .ok (.aload_n 1, 1) := by decide +kernel
theorem dL_law_682 : decode cL_law 682 = .ok (.invokevirtual 41, 3) := by decide +kernel
theorem dL_law_685 : decode cL_law 685 = .ok (.iconst 2, 1) := by decide +kernel
theorem dL_law_686 : decode cL_law 686 = .ok (.if_icmp .ne 26, 3) := by decide +kernel
theorem dL_law_689 : decode cL_law 689 = .ok (.aload_n 1, 1) := by decide +kernel
theorem dL_law_690 : decode cL_law 690 = .ok (.iconst 0, 1) := by decide +kernel
theorem dL_law_691 : decode cL_law 691 = .ok (.iconst 2, 1) := by decide +kernel
theorem dL_law_692 : decode cL_law 692 = .ok (.invokevirtual 37, 3) := by decide +kernel
theorem dL_law_695 : decode cL_law 695 = .ok (.iload_n 3, 1) := by decide +kernel
theorem dL_law_696 : decode cL_law 696 = .ok (.if_icmp .ne 14, 3) := by decide +kernel
theorem dL_law_699 : decode cL_law 699 = .ok (.aload_n 1, 1) := by decide +kernel
theorem dL_law_700 : decode cL_law 700 = .ok (.iconst 0, 1) := by decide +kernel
theorem dL_law_701 : decode cL_law 701 = .ok (.bipush 7, 2) := by decide +kernel
theorem dL_law_703 : decode cL_law 703 = .ok (.invokevirtual 37, 3) := by decide +kernel
theorem dL_law_706 : decode cL_law 706 = .ok (.iconst (-1), 1) := by decide +kernel
theorem dL_law_707 : decode cL_law 707 = .ok (.if_icmp .eq 5, 3) := by decide +kernel
theorem dL_law_712 : decode cL_law 712 = .ok (.iload 4, 2) := by decide +kernel
theorem dL_law_714 : decode cL_law 714 = .ok (.ifCond .lt 14, 3) := by decide +kernel
theorem dL_law_717 : decode cL_law 717 = .ok (.aload_n 1, 1) := by decide +kernel
theorem dL_law_718 : decode cL_law 718 = .ok (.invokestatic 83, 3) := by decide +kernel
theorem dL_law_721 : decode cL_law 721 = .ok (.ifCond .eq 7, 3) := by decide +kernel
theorem dL_law_724 : decode cL_law 724 = .ok (.iconst 1, 1) := by decide +kernel
theorem dL_law_725 : decode cL_law 725 = .ok (.goto 4, 3) := by decide +kernel
theorem dL_law_729 : decode cL_law 729 = .ok (.ireturn, 1) := by decide +kernel
set_option maxRecDepth 100000 in
set_option maxHeartbeats 4000000 in
theorem law_room {X : gX} {nm : String} {SL : Nat} {SF : Nat → Int32} (C : gC X RL nm cL_law 11 room_1) (h0 : gH (xD X) (xI X) (xJ X) (xB X) (xA X) [] (xs X).heap) (hX : va_X (xA X 0) SL SF (xs X) (xs X).heap) (hbl : xA X 0 < (xs X).heap.size) (hb0 : ¬ xB X ≤ xA X 0) (hSL : SL < 2 ^ 31) (hEnd : ∀ (pc : Nat) (ls : List (Option Value)) (hp : List gA) (cl sl : Nat), decode cL_law pc = .ok (.ireturn, 1) → cl ≤ 300000 → sl ≤ 7000000 → gG X pc ls [.int 1] hp cl sl) {L : gLn} {R Lt A m N : Nat} {J : gJr} {q1 q2 : gRs} {Bc Bs : Nat} {hp : List gA} {y3 y4 y5 y6 y7 y8 y9 y10 : Option Value} {a2 : Nat} {cl sl : Nat} (HO : gWo hp 119 116 1 [] L R Lt A m J q1 q2 Bc Bs) (hc : Bc ≤ 190000) (hs : Bs ≤ 900000) (hR : R ≤ 3) (V : gBs N L Lt A J) (hN : N ≤ 4000) (G : gRdy L) (hst : ¬ L.st = 1 ∧ ¬ L.st = 4) : gG X 603 [some (.float 0), some (.ref 0), some (.ref a2), y3, y4, y5, y6, y7, y8, y9, y10] [] hp cl sl := by
  refine g_iconst (v := 1) (q := 604) C dL_law_603 (by decide) rfl ?_
  refine g_aloadS_n (q := 605) C dL_law_604 rfl rfl ?_
  refine g_sipush (v := 166) (q := 608) C dL_law_605 (by decide) rfl ?_
  refine g_tightL h0 HO.b.1 ?_
  have bl14 := gBud.lim2 HO.b HO.j.2.2 (by omega) (by omega)
  refine g_callZip (q := 611) (As := [.float 0, .int (nI (166))]) C hX hbl hb0 gyL_cell t_853 t_852 (c_L_cell_z (k0 := 166) (by omega) hSL) dL_law_608 rfl rfl rfl (Nat.le_of_ble_eq_true rfl) (Nat.le_of_ble_eq_true rfl) (Nat.le_of_ble_eq_true rfl) (Nat.le_trans (m := 300000) (by omega) (Nat.le_of_ble_eq_true rfl)) (Nat.le_trans (m := 7000000) (by omega) (Nat.le_of_ble_eq_true rfl)) rfl (fun x1 h1 z1 => ?_)
  rw [z1]
  refine g_sipush (v := 255) (q := 614) C dL_law_611 (by decide) rfl ?_
  refine g_iand (q := 615) C dL_law_614 rfl ?_
  obtain ⟨k9, hk9, ek9⟩ := gmask x1 (m := 255) (by decide)
  rw [show (x1 &&& 255) = nI k9 from ek9]
  refine g_sipush (v := 254) (q := 618) C dL_law_615 (by decide) rfl ?_
  refine g_irem (q := 619) C dL_law_618 (by decide) rfl ?_
  rw [show (254 : Int32) = nI 254 from rfl, nI_rem (by omega) (by decide)]
  refine g_iadd (q := 620) C dL_law_619 rfl ?_
  have hk8 := Nat.mod_lt k9 (show 0 < 254 by decide)
  rw [show (1 : Int32) + nI (k9 % 254) = nI (1 + k9 % 254) from nI_add 1 _]
  obtain ⟨x9, hx9⟩ : ∃ x9, 1 + k9 % 254 = x9 := ⟨_, rfl⟩
  rw [hx9]
  have hx1 : 1 ≤ x9 := by omega
  have hx2 : x9 ≤ 254 := by omega
  refine g_istore_n (q := 621) C dL_law_620 (Nat.le_of_ble_eq_true rfl) (by simp only [gset]; rfl) rfl ?_
  refine g_aload_n (q := 622) C dL_law_621 rfl rfl ?_
  refine g_iconst (v := 2) (q := 623) C dL_law_622 (by decide) rfl ?_
  refine g_tightL h0 HO.b.1 ?_
  have bl15 := gBud.lim2 HO.b HO.j.2.2 (by omega) (by omega)
  refine g_callVi (x := (rX7_count_2 1 L R Lt A m)) (q := 626) (As := [.int 2]) C gyX7_count gvX7_count t_840 (c_X7_count_2_c HO.c HO.l HO.w) dL_law_623 rfl HO.c rfl rfl rfl (Nat.le_of_ble_eq_true rfl) (Nat.le_of_ble_eq_true rfl) (Nat.le_of_ble_eq_true rfl) (Nat.le_trans (m := 300000) (by omega) (Nat.le_of_ble_eq_true rfl)) (Nat.le_trans (m := 7000000) (by omega) (Nat.le_of_ble_eq_true rfl)) rfl ?_
  rw [show rX7_count_2 1 L R Lt A m = nI m from rfl]
  refine g_istore (q := 628) C dL_law_626 (Nat.le_of_ble_eq_true rfl) (by simp only [gset]; rfl) rfl ?_
  refine g_aload_n (q := 629) C dL_law_628 rfl rfl ?_
  refine g_iload_n (q := 630) C dL_law_629 rfl rfl ?_
  refine g_tightL h0 HO.b.1 ?_
  have bl16 := gBud.lim2 HO.b HO.j.2.2 (by omega) (by omega)
  refine g_callVix (x := 1) (q := 633) (As := [.int ((nI x9))]) C gyX7_room gvX7_room t_562 (c_X7_room_ok_o (x := nI x9) HO (gms1 hst.1 hst.2) (nI_nlt (show 1 ≤ x9 from hx1) (by omega)) (nI_le (b := 254) hx2 (by decide))) dL_law_630 rfl HO.c rfl rfl rfl (Nat.le_of_ble_eq_true rfl) (Nat.le_of_ble_eq_true rfl) (Nat.le_of_ble_eq_true rfl) (Nat.le_trans (m := 300000) (by omega) (Nat.le_of_ble_eq_true rfl)) (Nat.le_trans (m := 7000000) (by omega) (Nat.le_of_ble_eq_true rfl)) rfl (fun h2 z2 => ?_)
  obtain ⟨HO2, fo2⟩ := z2
  refine g_iconst (v := 1) (q := 634) C dL_law_633 (by decide) rfl ?_
  refine g_icmp_eq_t (t := 639) C dL_law_634 (by decide) (by decide) ?_
  refine g_iconst (v := 0) (q := 640) C dL_law_639 (by decide) rfl ?_
  refine g_istore (q := 642) C dL_law_640 (Nat.le_of_ble_eq_true rfl) (by simp only [gset]; rfl) rfl ?_
  have hm24 : m ≤ 24 := by have := HO.w; obtain ⟨_, _, _, _, _, _, _, _, _, h9, -⟩ := this; exact h9
  refine law_lp3 C h0 hX hbl hb0 hSL hEnd (x9 := x9) (K := (L.td, L.tg)) (CC := N + 174) (D := 174) (E := 0) (hp0 := h2) (J0 := J) hc hs hR (by omega) hx1 hx2 ?_ 40 0 rfl _ _ _ _ _ _ N 0 _ _ HO2 (V.iq G (by omega) (by omega)) gFO.rf (Or.inr (Nat.zero_le _))
  intro z9 hp L' Lt' A' m' J' B' k' cl sl HO' HI fo hk
  obtain ⟨N7, v1, v2, v3, v4, v5, v6, v7, v8⟩ := HI.snd (by omega)
  have F := HI.fin (hk.imp id (fun h => by omega))
  obtain ⟨T1, T2, F⟩ := F
  rcases F with ⟨e2, -, -, er, ea⟩ | F
  ·
    refine g_aload_n (q := 682) C dL_law_681 rfl rfl ?_
    refine g_tightL h0 HO'.b.1 ?_
    have bl17 := gBud.lim2 HO'.b HO'.j.2.2 (by omega) (by omega)
    refine g_callVi (x := (rX7_state 1 (L'))) (q := 685) (As := []) C gyX7_state gvX7_state t_824 (c_X7_state_c HO'.c HO'.l) dL_law_682 rfl HO'.c rfl rfl rfl (Nat.le_of_ble_eq_true rfl) (Nat.le_of_ble_eq_true rfl) (Nat.le_of_ble_eq_true rfl) (Nat.le_trans (m := 300000) (by omega) (Nat.le_of_ble_eq_true rfl)) (Nat.le_trans (m := 7000000) (by omega) (Nat.le_of_ble_eq_true rfl)) rfl ?_
    rw [gst1, e2]
    refine g_iconst (v := 2) (q := 686) C dL_law_685 (by decide) rfl ?_
    refine g_icmp_ne_f (t := 712) (q := 689) C dL_law_686 (by decide) rfl (by decide) ?_
    refine g_aload_n (q := 690) C dL_law_689 rfl rfl ?_
    refine g_iconst (v := 0) (q := 691) C dL_law_690 (by decide) rfl ?_
    refine g_iconst (v := 2) (q := 692) C dL_law_691 (by decide) rfl ?_
    refine g_tightL h0 HO'.b.1 ?_
    have bl18 := gBud.lim2 HO'.b HO'.j.2.2 (by omega) (by omega)
    refine g_callVi (x := (rX7_side_0 1 (L') 2)) (q := 695) (As := [.int 0, .int 2]) C gyX7_side gvX7_side t_828 (c_X7_side_0_c HO'.c HO'.l) dL_law_692 rfl HO'.c rfl rfl rfl (Nat.le_of_ble_eq_true rfl) (Nat.le_of_ble_eq_true rfl) (Nat.le_of_ble_eq_true rfl) (Nat.le_trans (m := 300000) (by omega) (Nat.le_of_ble_eq_true rfl)) (Nat.le_trans (m := 7000000) (by omega) (Nat.le_of_ble_eq_true rfl)) rfl ?_
    rw [gsd0, gtl2, er]
    refine g_iload_n (q := 696) C dL_law_695 rfl rfl ?_
    refine g_icmp_ne_f (t := 710) (q := 699) C dL_law_696 (by decide) rfl rfl ?_
    refine g_aload_n (q := 700) C dL_law_699 rfl rfl ?_
    refine g_iconst (v := 0) (q := 701) C dL_law_700 (by decide) rfl ?_
    refine g_bipush (v := 7) (q := 703) C dL_law_701 (by decide) rfl ?_
    refine g_tightL h0 HO'.b.1 ?_
    have bl19 := gBud.lim2 HO'.b HO'.j.2.2 (by omega) (by omega)
    refine g_callVi (x := (rX7_side_0 1 (L') 7)) (q := 706) (As := [.int 0, .int 7]) C gyX7_side gvX7_side t_828 (c_X7_side_0_c HO'.c HO'.l) dL_law_703 rfl HO'.c rfl rfl rfl (Nat.le_of_ble_eq_true rfl) (Nat.le_of_ble_eq_true rfl) (Nat.le_of_ble_eq_true rfl) (Nat.le_trans (m := 300000) (by omega) (Nat.le_of_ble_eq_true rfl)) (Nat.le_trans (m := 7000000) (by omega) (Nat.le_of_ble_eq_true rfl)) rfl ?_
    rw [gsd0, gtl7, ea]
    refine g_iconst (v := (-1)) (q := 707) C dL_law_706 (by decide) rfl ?_
    refine g_icmp_eq_t (t := 712) C dL_law_707 (by decide) (by decide) ?_
    refine g_iload (q := 714) C dL_law_712 rfl rfl ?_
    refine g_if_lt_f (t := 728) (q := 717) C dL_law_714 (by decide) rfl (nI_pos (by omega)) ?_
    refine g_aload_n (q := 718) C dL_law_717 rfl rfl ?_
    refine g_tightL h0 HO'.b.1 ?_
    have bl20 := gBud.lim2 HO'.b HO'.j.2.2 (by omega) (by omega)
    refine g_callSi (x := 1) (q := 721) (As := [.ref 0]) C gyL_sound t_894 t_893 (c_L_sound_z HO' (by decide) v1 v2 v3 v4 v5 v6 v7 v8) dL_law_718 rfl rfl rfl (Nat.le_of_ble_eq_true rfl) (Nat.le_of_ble_eq_true rfl) (Nat.le_of_ble_eq_true rfl) (Nat.le_trans (m := 300000) (by omega) (Nat.le_of_ble_eq_true rfl)) (Nat.le_trans (m := 7000000) (by omega) (Nat.le_of_ble_eq_true rfl)) rfl ?_
    refine g_if_eq_f (t := 728) (q := 724) C dL_law_721 (by decide) rfl (by decide) ?_
    refine g_iconst (v := 1) (q := 725) C dL_law_724 (by decide) rfl ?_
    refine g_goto (q := 729) C dL_law_725 (by decide) ?_
    refine g_tightL h0 HO'.b.1 ?_
    have bl21 := gBud.lim2 HO'.b HO'.j.2.2 (by omega) (by omega)
    exact hEnd 729 _ _ _ _ dL_law_729 (by omega) (by omega)
  · have ne : ¬ L'.st = 2 := by rcases F with ⟨e, -⟩ | e <;> rw [e] <;> decide
    refine g_aload_n (q := 682) C dL_law_681 rfl rfl ?_
    refine g_tightL h0 HO'.b.1 ?_
    have bl22 := gBud.lim2 HO'.b HO'.j.2.2 (by omega) (by omega)
    refine g_callVi (x := (rX7_state 1 (L'))) (q := 685) (As := []) C gyX7_state gvX7_state t_824 (c_X7_state_c HO'.c HO'.l) dL_law_682 rfl HO'.c rfl rfl rfl (Nat.le_of_ble_eq_true rfl) (Nat.le_of_ble_eq_true rfl) (Nat.le_of_ble_eq_true rfl) (Nat.le_trans (m := 300000) (by omega) (Nat.le_of_ble_eq_true rfl)) (Nat.le_trans (m := 7000000) (by omega) (Nat.le_of_ble_eq_true rfl)) rfl ?_
    rw [gst1]
    refine g_iconst (v := 2) (q := 686) C dL_law_685 (by decide) rfl ?_
    refine g_icmp_ne_t (t := 712) C dL_law_686 (by decide) ne ?_
    refine g_iload (q := 714) C dL_law_712 rfl rfl ?_
    refine g_if_lt_f (t := 728) (q := 717) C dL_law_714 (by decide) rfl (nI_pos (by omega)) ?_
    refine g_aload_n (q := 718) C dL_law_717 rfl rfl ?_
    refine g_tightL h0 HO'.b.1 ?_
    have bl23 := gBud.lim2 HO'.b HO'.j.2.2 (by omega) (by omega)
    refine g_callSi (x := 1) (q := 721) (As := [.ref 0]) C gyL_sound t_894 t_893 (c_L_sound_z HO' (by decide) v1 v2 v3 v4 v5 v6 v7 v8) dL_law_718 rfl rfl rfl (Nat.le_of_ble_eq_true rfl) (Nat.le_of_ble_eq_true rfl) (Nat.le_of_ble_eq_true rfl) (Nat.le_trans (m := 300000) (by omega) (Nat.le_of_ble_eq_true rfl)) (Nat.le_trans (m := 7000000) (by omega) (Nat.le_of_ble_eq_true rfl)) rfl ?_
    refine g_if_eq_f (t := 728) (q := 724) C dL_law_721 (by decide) rfl (by decide) ?_
    refine g_iconst (v := 1) (q := 725) C dL_law_724 (by decide) rfl ?_
    refine g_goto (q := 729) C dL_law_725 (by decide) ?_
    refine g_tightL h0 HO'.b.1 ?_
    have bl24 := gBud.lim2 HO'.b HO'.j.2.2 (by omega) (by omega)
    exact hEnd 729 _ _ _ _ dL_law_729 (by omega) (by omega)
  
