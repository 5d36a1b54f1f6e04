/-! the law's walk: a message's end, a message, the rounds (wip/p1/m_lawc.py) -/
theorem dL_law_415 : decode cL_law 415 = .ok (.aload_n 1, 1) := by decide +kernel
theorem dL_law_416 : decode cL_law 416 = .ok (.invokevirtual 41, 3) := by decide +kernel
theorem dL_law_419 : decode cL_law 419 = .ok (.iconst 4, 1) := by decide +kernel
theorem dL_law_420 : decode cL_law 420 = .ok (.if_icmp .ne 36, 3) := by decide +kernel
theorem dL_law_423 : decode cL_law 423 = .ok (.aload_n 1, 1) := by decide +kernel
theorem dL_law_424 : decode cL_law 424 = .ok (.invokevirtual 45, 3) := by decide +kernel
theorem dL_law_427 : decode cL_law 427 = .ok (.iconst (-1), 1) := by decide +kernel
theorem dL_law_428 : decode cL_law 428 = .ok (.if_icmp .ne 26, 3) := by decide +kernel
theorem dL_law_431 : decode cL_law 431 = .ok (.aload_n 1, 1) := by decide +kernel
theorem dL_law_432 : decode cL_law 432 = .ok (.bipush 9, 2) := by decide +kernel
theorem dL_law_434 : decode cL_law 434 = .ok (.invokevirtual 80, 3) := by decide +kernel
theorem dL_law_437 : decode cL_law 437 = .ok (.iconst (-1), 1) := by decide +kernel
theorem dL_law_438 : decode cL_law 438 = .ok (.if_icmp .ne 16, 3) := by decide +kernel
theorem dL_law_441 : decode cL_law 441 = .ok (.aload_n 1, 1) := by decide +kernel
theorem dL_law_442 : decode cL_law 442 = .ok (.iconst 1, 1) := by decide +kernel
theorem dL_law_443 : decode cL_law 443 = .ok (.invokevirtual 48, 3) := by decide +kernel
theorem dL_law_446 : decode cL_law 446 = .ok (.iconst (-1), 1) := by decide +kernel
theorem dL_law_447 : decode cL_law 447 = .ok (.if_icmp .ne 7, 3) := by decide +kernel
theorem dL_law_450 : decode cL_law 450 = .ok (.iconst 1, 1) := by decide +kernel
theorem dL_law_451 : decode cL_law 451 = .ok (.goto 4, 3) := by decide +kernel
theorem dL_law_455 : decode cL_law 455 = .ok (.ireturn, 1) := by decide +kernel
theorem dL_law_456 : decode cL_law 456 = .ok (.aload_n 1, 1) := by decide +kernel
theorem dL_law_457 : decode cL_law 457 = .ok (.invokevirtual 41, 3) := by decide +kernel
theorem dL_law_460 : decode cL_law 460 = .ok (.iconst 3, 1) := by decide +kernel
theorem dL_law_461 : decode cL_law 461 = .ok (.if_icmp .ne 74, 3) := by decide +kernel
theorem dL_law_464 : decode cL_law 464 = .ok (.aload_n 1, 1) := by decide +kernel
theorem dL_law_465 : decode cL_law 465 = .ok (.bipush 9, 2) := by decide +kernel
theorem dL_law_467 : decode cL_law 467 = .ok (.invokevirtual 28, 3) := by decide +kernel
theorem dL_law_470 : decode cL_law 470 = .ok (.iload 9, 2) := by decide +kernel
theorem dL_law_472 : decode cL_law 472 = .ok (.iconst 1, 1) := by decide +kernel
theorem dL_law_473 : decode cL_law 473 = .ok (.iadd, 1) := by decide +kernel
theorem dL_law_474 : decode cL_law 474 = .ok (.if_icmp .ne 59, 3) := by decide +kernel
theorem dL_law_477 : decode cL_law 477 = .ok (.aload_n 1, 1) := by decide +kernel
theorem dL_law_478 : decode cL_law 478 = .ok (.iconst 0, 1) := by decide +kernel
theorem dL_law_479 : decode cL_law 479 = .ok (.iconst 0, 1) := by decide +kernel
theorem dL_law_480 : decode cL_law 480 = .ok (.invokevirtual 37, 3) := by decide +kernel
theorem dL_law_483 : decode cL_law 483 = .ok (.ifCond .ne 50, 3) := by decide +kernel
theorem dL_law_486 : decode cL_law 486 = .ok (.aload_n 1, 1) := by decide +kernel
theorem dL_law_487 : decode cL_law 487 = .ok (.iconst 0, 1) := by decide +kernel
theorem dL_law_488 : decode cL_law 488 = .ok (.iconst 1, 1) := by decide +kernel
theorem dL_law_489 : decode cL_law 489 = .ok (.invokevirtual 37, 3) := by decide +kernel
theorem dL_law_492 : decode cL_law 492 = .ok (.ifCond .ne 41, 3) := by decide +kernel
theorem dL_law_495 : decode cL_law 495 = .ok (.aload_n 1, 1) := by decide +kernel
theorem dL_law_496 : decode cL_law 496 = .ok (.iconst 1, 1) := by decide +kernel
theorem dL_law_497 : decode cL_law 497 = .ok (.iconst 0, 1) := by decide +kernel
theorem dL_law_498 : decode cL_law 498 = .ok (.invokevirtual 37, 3) := by decide +kernel
theorem dL_law_501 : decode cL_law 501 = .ok (.ifCond .ne 32, 3) := by decide +kernel
theorem dL_law_504 : decode cL_law 504 = .ok (.aload_n 1, 1) := by decide +kernel
theorem dL_law_505 : decode cL_law 505 = .ok (.iconst 1, 1) := by decide +kernel
theorem dL_law_506 : decode cL_law 506 = .ok (.iconst 1, 1) := by decide +kernel
theorem dL_law_507 : decode cL_law 507 = .ok (.invokevirtual 37, 3) := by decide +kernel
theorem dL_law_510 : decode cL_law 510 = .ok (.ifCond .ne 23, 3) := by decide +kernel
theorem dL_law_513 : decode cL_law 513 = .ok (.aload_n 1, 1) := by decide +kernel
theorem dL_law_514 : decode cL_law 514 = .ok (.iconst 0, 1) := by decide +kernel
theorem dL_law_515 : decode cL_law 515 = .ok (.iconst 3, 1) := by decide +kernel
theorem dL_law_516 : decode cL_law 516 = .ok (.invokevirtual 37, 3) := by decide +kernel
theorem dL_law_519 : decode cL_law 519 = .ok (.ifCond .ne 14, 3) := by decide +kernel
theorem dL_law_522 : decode cL_law 522 = .ok (.aload_n 1, 1) := by decide +kernel
theorem dL_law_523 : decode cL_law 523 = .ok (.iconst 1, 1) := by decide +kernel
theorem dL_law_524 : decode cL_law 524 = .ok (.bipush 8, 2) := by decide +kernel
theorem dL_law_526 : decode cL_law 526 = .ok (.invokevirtual 37, 3) := by decide +kernel
theorem dL_law_529 : decode cL_law 529 = .ok (.iconst (-1), 1) := by decide +kernel
theorem dL_law_530 : decode cL_law 530 = .ok (.if_icmp .eq 67, 3) := by decide +kernel
theorem dL_law_535 : decode cL_law 535 = .ok (.aload_n 1, 1) := by decide +kernel
theorem dL_law_536 : decode cL_law 536 = .ok (.invokevirtual 41, 3) := by decide +kernel
theorem dL_law_539 : decode cL_law 539 = .ok (.iconst 2, 1) := by decide +kernel
theorem dL_law_540 : decode cL_law 540 = .ok (.if_icmp .eq 5, 3) := by decide +kernel
theorem dL_law_545 : decode cL_law 545 = .ok (.aload 5, 2) := by decide +kernel
theorem dL_law_547 : decode cL_law 547 = .ok (.iload 4, 2) := by decide +kernel
theorem dL_law_549 : decode cL_law 549 = .ok (.invokestatic 87, 3) := by decide +kernel
theorem dL_law_552 : decode cL_law 552 = .ok (.astore 10, 2) := by decide +kernel
theorem dL_law_554 : decode cL_law 554 = .ok (.aload_n 1, 1) := by decide +kernel
theorem dL_law_555 : decode cL_law 555 = .ok (.bipush 8, 2) := by decide +kernel
theorem dL_law_557 : decode cL_law 557 = .ok (.invokevirtual 28, 3) := by decide +kernel
theorem dL_law_560 : decode cL_law 560 = .ok (.iload 8, 2) := by decide +kernel
theorem dL_law_562 : decode cL_law 562 = .ok (.iconst 1, 1) := by decide +kernel
theorem dL_law_563 : decode cL_law 563 = .ok (.iadd, 1) := by decide +kernel
theorem dL_law_564 : decode cL_law 564 = .ok (.if_icmp .ne 31, 3) := by decide +kernel
theorem dL_law_567 : decode cL_law 567 = .ok (.aload_n 1, 1) := by decide +kernel
theorem dL_law_568 : decode cL_law 568 = .ok (.iconst 1, 1) := by decide +kernel
theorem dL_law_569 : decode cL_law 569 = .ok (.aload 5, 2) := by decide +kernel
theorem dL_law_571 : decode cL_law 571 = .ok (.iconst 0, 1) := by decide +kernel
theorem dL_law_572 : decode cL_law 572 = .ok (.iload 4, 2) := by decide +kernel
theorem dL_law_574 : decode cL_law 574 = .ok (.invokestatic 91, 3) := by decide +kernel
theorem dL_law_577 : decode cL_law 577 = .ok (.ifCond .eq 18, 3) := by decide +kernel
theorem dL_law_580 : decode cL_law 580 = .ok (.aload_n 1, 1) := by decide +kernel
theorem dL_law_581 : decode cL_law 581 = .ok (.iconst 0, 1) := by decide +kernel
theorem dL_law_582 : decode cL_law 582 = .ok (.aload 10, 2) := by decide +kernel
theorem dL_law_584 : decode cL_law 584 = .ok (.iconst 1, 1) := by decide +kernel
theorem dL_law_585 : decode cL_law 585 = .ok (.aload 10, 2) := by decide +kernel
theorem dL_law_587 : decode cL_law 587 = .ok (.iconst 0, 1) := by decide +kernel
theorem dL_law_588 : decode cL_law 588 = .ok (.iaload, 1) := by decide +kernel
theorem dL_law_589 : decode cL_law 589 = .ok (.invokestatic 91, 3) := by decide +kernel
theorem dL_law_592 : decode cL_law 592 = .ok (.ifCond .ne 5, 3) := by decide +kernel
set_option maxRecDepth 100000 in
set_option maxHeartbeats 4000000 in
theorem law_fin {X : gX} {nm : String} {SL : Nat} {SF : Nat → Int32} (C : gC X RL nm cL_law 11 room_1) (h0 : gH (xD X) (xI X) (xJ X) (xB X) (xA X) [] (xs X).heap) (hX : va_X (xA X 0) SL SF (xs X) (xs X).heap) (hbl : xA X 0 < (xs X).heap.size) (hb0 : ¬ xB X ≤ xA X 0) (hSL : SL < 2 ^ 31) (hEnd : ∀ (pc : Nat) (ls : List (Option Value)) (hp : List gA) (cl sl : Nat), decode cL_law pc = .ok (.ireturn, 1) → cl ≤ 300000 → sl ≤ 7000000 → gG X pc ls [.int 1] hp cl sl) {K : Int32 × Int32} {f : Nat → Int32} {n a5 r : Nat} {L : gLn} {R Lt A m : Nat} {J : gJr} {q1 q2 : gRs} {Bc Bs : Nat} {hp : List gA} {a2 : Nat} {i6 : Int32} {y7 y10 : Option Value} {cl sl : Nat} (HO : gWo hp 119 116 1 [] L R Lt A m J q1 q2 Bc Bs) (hc : Bc ≤ 180000) (hs : Bs ≤ 800000) (F : gFin (gMl f n) K L) (ha : hp[a5]? = some (.inl (60, f))) (hf : ∀ k, ∃ b, b < 256 ∧ f k = nI b) (hn : n ≤ 60) (kk : ∀ (hp : List gA) (y10 : Option Value) (cl sl : Nat), gWo hp 119 116 1 [] L R Lt A m J q1 q2 (Bc + 1) (Bs + 64) → gRdy L → (¬ L.st = 1 ∧ ¬ L.st = 4) → gG X 597 [some (.float 0), some (.ref 0), some (.ref a2), some (.int ((nI r))), some (.int ((nI n))), some (.ref a5), some (.int i6), y7, some (.int K.1), some (.int K.2), y10] [] hp cl sl) : gG X 415 [some (.float 0), some (.ref 0), some (.ref a2), some (.int ((nI r))), some (.int ((nI n))), some (.ref a5), some (.int i6), y7, some (.int K.1), some (.int K.2), y10] [] hp cl sl := by
  rcases F with ⟨e1, e2, -, e4, e5, G⟩ | ⟨e1, -, e3, G, e4, e5, e6, e7, e8, e9⟩ | ⟨e1, -⟩
  ·
    refine g_aload_n (q := 416) C dL_law_415 rfl rfl ?_
    refine g_tightL h0 HO.b.1 ?_
    have bl25 := gBud.lim2 HO.b HO.j.2.2 (by omega) (by omega)
    refine g_callVi (x := (rX7_state 1 L)) (q := 419) (As := []) C gyX7_state gvX7_state t_824 (c_X7_state_c HO.c HO.l) dL_law_416 rfl HO.c rfl rfl rfl (Nat.le_of_ble_eq_true rfl) (Nat.le_of_ble_eq_true rfl) (Nat.le_of_ble_eq_true rfl) (Nat.le_trans (m := 300000) (by omega) (Nat.le_of_ble_eq_true rfl)) (Nat.le_trans (m := 7000000) (by omega) (Nat.le_of_ble_eq_true rfl)) rfl ?_
    rw [gst1, e1]
    refine g_iconst (v := 4) (q := 420) C dL_law_419 (by decide) rfl ?_
    refine g_icmp_ne_t (t := 456) C dL_law_420 (by decide) (by decide) ?_
    refine g_aload_n (q := 457) C dL_law_456 rfl rfl ?_
    refine g_tightL h0 HO.b.1 ?_
    have bl26 := gBud.lim2 HO.b HO.j.2.2 (by omega) (by omega)
    refine g_callVi (x := (rX7_state 1 L)) (q := 460) (As := []) C gyX7_state gvX7_state t_824 (c_X7_state_c HO.c HO.l) dL_law_457 rfl HO.c rfl rfl rfl (Nat.le_of_ble_eq_true rfl) (Nat.le_of_ble_eq_true rfl) (Nat.le_of_ble_eq_true rfl) (Nat.le_trans (m := 300000) (by omega) (Nat.le_of_ble_eq_true rfl)) (Nat.le_trans (m := 7000000) (by omega) (Nat.le_of_ble_eq_true rfl)) rfl ?_
    rw [gst1, e1]
    refine g_iconst (v := 3) (q := 461) C dL_law_460 (by decide) rfl ?_
    refine g_icmp_ne_t (t := 535) C dL_law_461 (by decide) (by decide) ?_
    refine g_aload_n (q := 536) C dL_law_535 rfl rfl ?_
    refine g_tightL h0 HO.b.1 ?_
    have bl27 := gBud.lim2 HO.b HO.j.2.2 (by omega) (by omega)
    refine g_callVi (x := (rX7_state 1 L)) (q := 539) (As := []) C gyX7_state gvX7_state t_824 (c_X7_state_c HO.c HO.l) dL_law_536 rfl HO.c rfl rfl rfl (Nat.le_of_ble_eq_true rfl) (Nat.le_of_ble_eq_true rfl) (Nat.le_of_ble_eq_true rfl) (Nat.le_trans (m := 300000) (by omega) (Nat.le_of_ble_eq_true rfl)) (Nat.le_trans (m := 7000000) (by omega) (Nat.le_of_ble_eq_true rfl)) rfl ?_
    rw [gst1, e1]
    refine g_iconst (v := 2) (q := 540) C dL_law_539 (by decide) rfl ?_
    refine g_icmp_eq_t (t := 545) C dL_law_540 (by decide) (by decide) ?_
    refine g_aload (q := 547) C dL_law_545 rfl rfl ?_
    refine g_iload (q := 549) C dL_law_547 rfl rfl ?_
    refine g_tightL h0 HO.b.1 ?_
    have bl28 := gBud.lim2 HO.b HO.j.2.2 (by omega) (by omega)
    obtain ⟨n0, hn0⟩ : ∃ k, hp.length = k := ⟨_, rfl⟩
    refine g_callS (q := 552) (As := [.ref a5, .int (nI n)]) C gyL_expected t_883 t_882 (c_L_expected_z hn0 ha hn (by decide) hn (fun k _ => hf k)) dL_law_549 rfl rfl rfl (Nat.le_of_ble_eq_true rfl) (Nat.le_of_ble_eq_true rfl) (Nat.le_of_ble_eq_true rfl) (Nat.le_trans (m := 300000) (by omega) (Nat.le_of_ble_eq_true rfl)) (Nat.le_trans (m := 7000000) (by omega) (Nat.le_of_ble_eq_true rfl)) rfl (fun v9 h9 z9 => ?_)
    obtain ⟨rfl, g9, rfl, hg0, hg⟩ := z9
    obtain ⟨HO2, fo2⟩ := HO.app (e := .inl (64, g9)) gJ2
    have HO3 : gWo (hp ++ [.inl (64, g9)]) 119 116 1 [] L R Lt A m J q1 q2 (Bc + 1) (Bs + 64) := HO2
    have ha3 : (hp ++ [.inl (64, g9)] : List gA)[a5]? = some (.inl (60, f)) := gapp_old ha
    have bE : (gExp (gMl f n)).length ≤ 60 := gExp_len (by rw [gMl_len]; exact hn)
    refine g_astore (q := 554) C dL_law_552 (Nat.le_of_ble_eq_true rfl) (by simp only [gset]; rfl) rfl ?_
    refine g_aload_n (q := 555) C dL_law_554 rfl rfl ?_
    refine g_bipush (v := 8) (q := 557) C dL_law_555 (by decide) rfl ?_
    refine g_tightL h0 HO3.b.1 ?_
    have bl29 := gBud.lim2 HO3.b HO3.j.2.2 (by omega) (by omega)
    refine g_callVi (x := (rX7_count_8 1 L)) (q := 560) (As := [.int 8]) C gyX7_count gvX7_count t_840 (c_X7_count_8_c HO3.c HO3.l) dL_law_557 rfl HO3.c rfl rfl rfl (Nat.le_of_ble_eq_true rfl) (Nat.le_of_ble_eq_true rfl) (Nat.le_of_ble_eq_true rfl) (Nat.le_trans (m := 300000) (by omega) (Nat.le_of_ble_eq_true rfl)) (Nat.le_trans (m := 7000000) (by omega) (Nat.le_of_ble_eq_true rfl)) rfl ?_
    rw [show rX7_count_8 1 L = K.1 + 1 from e2]
    refine g_iload (q := 562) C dL_law_560 rfl rfl ?_
    refine g_iconst (v := 1) (q := 563) C dL_law_562 (by decide) rfl ?_
    refine g_iadd (q := 564) C dL_law_563 rfl ?_
    refine g_icmp_ne_f (t := 595) (q := 567) C dL_law_564 (by decide) rfl rfl ?_
    refine g_aload_n (q := 568) C dL_law_567 rfl rfl ?_
    refine g_iconst (v := 1) (q := 569) C dL_law_568 (by decide) rfl ?_
    refine g_aload (q := 571) C dL_law_569 rfl rfl ?_
    refine g_iconst (v := 0) (q := 572) C dL_law_571 (by decide) rfl ?_
    refine g_iload (q := 574) C dL_law_572 rfl rfl ?_
    refine g_tightL h0 HO3.b.1 ?_
    have bl30 := gBud.lim2 HO3.b HO3.j.2.2 (by omega) (by omega)
    refine g_callSi (x := 1) (q := 577) (As := [.ref 0, .int 1, .ref a5, .int 0, .int ((nI n))]) C gyL_isGot t_886 t_885 (c_L_isGot_1_z HO3.c HO3.l ha3 (by decide) (by omega) (by decide) e5.2 (by rw [e5.1, gMl_len]) hn (fun k hk => by rw [e5.1, gMl_at hk, Nat.zero_add])) dL_law_574 rfl rfl rfl (Nat.le_of_ble_eq_true rfl) (Nat.le_of_ble_eq_true rfl) (Nat.le_of_ble_eq_true rfl) (Nat.le_trans (m := 300000) (by omega) (Nat.le_of_ble_eq_true rfl)) (Nat.le_trans (m := 7000000) (by omega) (Nat.le_of_ble_eq_true rfl)) rfl ?_
    refine g_if_eq_f (t := 595) (q := 580) C dL_law_577 (by decide) rfl (by decide) ?_
    refine g_aload_n (q := 581) C dL_law_580 rfl rfl ?_
    refine g_iconst (v := 0) (q := 582) C dL_law_581 (by decide) rfl ?_
    refine g_aload (q := 584) C dL_law_582 rfl rfl ?_
    refine g_iconst (v := 1) (q := 585) C dL_law_584 (by decide) rfl ?_
    refine g_aload (q := 587) C dL_law_585 rfl rfl ?_
    refine g_iconst (v := 0) (q := 588) C dL_law_587 (by decide) rfl ?_
    refine g_ialoadN (x := (nI (gExp (gMl f n)).length)) (j := 0) (q := 589) C dL_law_588 rfl (gapp_n hn0) (pk_in 0 64 (by decide)) (pk_cl 0) hg0 ?_
    refine g_tightL h0 HO3.b.1 ?_
    have bl31 := gBud.lim2 HO3.b HO3.j.2.2 (by omega) (by omega)
    refine g_callSi (x := 1) (q := 592) (As := [.ref 0, .int 0, .ref n0, .int 1, .int ((nI (gExp (gMl f n)).length))]) C gyL_isGot t_886 t_885 (c_L_isGot_0_z HO3.c HO3.l (gapp_n hn0) (by decide) (by omega) (by decide) e4.2 (by rw [e4.1]) bE (fun k hk => by rw [e4.1]; exact hg k hk)) dL_law_589 rfl rfl rfl (Nat.le_of_ble_eq_true rfl) (Nat.le_of_ble_eq_true rfl) (Nat.le_of_ble_eq_true rfl) (Nat.le_trans (m := 300000) (by omega) (Nat.le_of_ble_eq_true rfl)) (Nat.le_trans (m := 7000000) (by omega) (Nat.le_of_ble_eq_true rfl)) rfl ?_
    refine g_if_ne_t (t := 597) C dL_law_592 (by decide) (by decide) ?_
    exact kk _ _ _ _ HO3 G (by rw [e1]; decide)
  ·
    refine g_aload_n (q := 416) C dL_law_415 rfl rfl ?_
    refine g_tightL h0 HO.b.1 ?_
    have bl32 := gBud.lim2 HO.b HO.j.2.2 (by omega) (by omega)
    refine g_callVi (x := (rX7_state 1 L)) (q := 419) (As := []) C gyX7_state gvX7_state t_824 (c_X7_state_c HO.c HO.l) dL_law_416 rfl HO.c rfl rfl rfl (Nat.le_of_ble_eq_true rfl) (Nat.le_of_ble_eq_true rfl) (Nat.le_of_ble_eq_true rfl) (Nat.le_trans (m := 300000) (by omega) (Nat.le_of_ble_eq_true rfl)) (Nat.le_trans (m := 7000000) (by omega) (Nat.le_of_ble_eq_true rfl)) rfl ?_
    rw [gst1, e1]
    refine g_iconst (v := 4) (q := 420) C dL_law_419 (by decide) rfl ?_
    refine g_icmp_ne_t (t := 456) C dL_law_420 (by decide) (by decide) ?_
    refine g_aload_n (q := 457) C dL_law_456 rfl rfl ?_
    refine g_tightL h0 HO.b.1 ?_
    have bl33 := gBud.lim2 HO.b HO.j.2.2 (by omega) (by omega)
    refine g_callVi (x := (rX7_state 1 L)) (q := 460) (As := []) C gyX7_state gvX7_state t_824 (c_X7_state_c HO.c HO.l) dL_law_457 rfl HO.c rfl rfl rfl (Nat.le_of_ble_eq_true rfl) (Nat.le_of_ble_eq_true rfl) (Nat.le_of_ble_eq_true rfl) (Nat.le_trans (m := 300000) (by omega) (Nat.le_of_ble_eq_true rfl)) (Nat.le_trans (m := 7000000) (by omega) (Nat.le_of_ble_eq_true rfl)) rfl ?_
    rw [gst1, e1]
    refine g_iconst (v := 3) (q := 461) C dL_law_460 (by decide) rfl ?_
    refine g_icmp_ne_f (t := 535) (q := 464) C dL_law_461 (by decide) rfl (by decide) ?_
    refine g_aload_n (q := 465) C dL_law_464 rfl rfl ?_
    refine g_bipush (v := 9) (q := 467) C dL_law_465 (by decide) rfl ?_
    refine g_tightL h0 HO.b.1 ?_
    have bl34 := gBud.lim2 HO.b HO.j.2.2 (by omega) (by omega)
    refine g_callVi (x := (rX7_count_9 1 L)) (q := 470) (As := [.int 9]) C gyX7_count gvX7_count t_840 (c_X7_count_9_c HO.c HO.l) dL_law_467 rfl HO.c rfl rfl rfl (Nat.le_of_ble_eq_true rfl) (Nat.le_of_ble_eq_true rfl) (Nat.le_of_ble_eq_true rfl) (Nat.le_trans (m := 300000) (by omega) (Nat.le_of_ble_eq_true rfl)) (Nat.le_trans (m := 7000000) (by omega) (Nat.le_of_ble_eq_true rfl)) rfl ?_
    rw [show rX7_count_9 1 L = K.2 + 1 from e3]
    refine g_iload (q := 472) C dL_law_470 rfl rfl ?_
    refine g_iconst (v := 1) (q := 473) C dL_law_472 (by decide) rfl ?_
    refine g_iadd (q := 474) C dL_law_473 rfl ?_
    refine g_icmp_ne_f (t := 533) (q := 477) C dL_law_474 (by decide) rfl rfl ?_
    refine g_aload_n (q := 478) C dL_law_477 rfl rfl ?_
    refine g_iconst (v := 0) (q := 479) C dL_law_478 (by decide) rfl ?_
    refine g_iconst (v := 0) (q := 480) C dL_law_479 (by decide) rfl ?_
    refine g_tightL h0 HO.b.1 ?_
    have bl35 := gBud.lim2 HO.b HO.j.2.2 (by omega) (by omega)
    refine g_callVi (x := (rX7_side_0 1 L 0)) (q := 483) (As := [.int 0, .int 0]) C gyX7_side gvX7_side t_828 (c_X7_side_0_c HO.c HO.l) dL_law_480 rfl HO.c rfl rfl rfl (Nat.le_of_ble_eq_true rfl) (Nat.le_of_ble_eq_true rfl) (Nat.le_of_ble_eq_true rfl) (Nat.le_trans (m := 300000) (by omega) (Nat.le_of_ble_eq_true rfl)) (Nat.le_trans (m := 7000000) (by omega) (Nat.le_of_ble_eq_true rfl)) rfl ?_
    rw [gsd0, gtl0, e4]
    refine g_if_ne_f (t := 533) (q := 486) C dL_law_483 (by decide) rfl (by decide) ?_
    refine g_aload_n (q := 487) C dL_law_486 rfl rfl ?_
    refine g_iconst (v := 0) (q := 488) C dL_law_487 (by decide) rfl ?_
    refine g_iconst (v := 1) (q := 489) C dL_law_488 (by decide) rfl ?_
    refine g_tightL h0 HO.b.1 ?_
    have bl36 := gBud.lim2 HO.b HO.j.2.2 (by omega) (by omega)
    refine g_callVi (x := (rX7_side_0 1 L 1)) (q := 492) (As := [.int 0, .int 1]) C gyX7_side gvX7_side t_828 (c_X7_side_0_c HO.c HO.l) dL_law_489 rfl HO.c rfl rfl rfl (Nat.le_of_ble_eq_true rfl) (Nat.le_of_ble_eq_true rfl) (Nat.le_of_ble_eq_true rfl) (Nat.le_trans (m := 300000) (by omega) (Nat.le_of_ble_eq_true rfl)) (Nat.le_trans (m := 7000000) (by omega) (Nat.le_of_ble_eq_true rfl)) rfl ?_
    rw [gsd0, gtl1, e5]
    refine g_if_ne_f (t := 533) (q := 495) C dL_law_492 (by decide) rfl (by decide) ?_
    refine g_aload_n (q := 496) C dL_law_495 rfl rfl ?_
    refine g_iconst (v := 1) (q := 497) C dL_law_496 (by decide) rfl ?_
    refine g_iconst (v := 0) (q := 498) C dL_law_497 (by decide) rfl ?_
    refine g_tightL h0 HO.b.1 ?_
    have bl37 := gBud.lim2 HO.b HO.j.2.2 (by omega) (by omega)
    refine g_callVi (x := (rX7_side_1 1 L 0)) (q := 501) (As := [.int 1, .int 0]) C gyX7_side gvX7_side t_828 (c_X7_side_1_c HO.c HO.l) dL_law_498 rfl HO.c rfl rfl rfl (Nat.le_of_ble_eq_true rfl) (Nat.le_of_ble_eq_true rfl) (Nat.le_of_ble_eq_true rfl) (Nat.le_trans (m := 300000) (by omega) (Nat.le_of_ble_eq_true rfl)) (Nat.le_trans (m := 7000000) (by omega) (Nat.le_of_ble_eq_true rfl)) rfl ?_
    rw [gsd1, gtl0, e6]
    refine g_if_ne_f (t := 533) (q := 504) C dL_law_501 (by decide) rfl (by decide) ?_
    refine g_aload_n (q := 505) C dL_law_504 rfl rfl ?_
    refine g_iconst (v := 1) (q := 506) C dL_law_505 (by decide) rfl ?_
    refine g_iconst (v := 1) (q := 507) C dL_law_506 (by decide) rfl ?_
    refine g_tightL h0 HO.b.1 ?_
    have bl38 := gBud.lim2 HO.b HO.j.2.2 (by omega) (by omega)
    refine g_callVi (x := (rX7_side_1 1 L 1)) (q := 510) (As := [.int 1, .int 1]) C gyX7_side gvX7_side t_828 (c_X7_side_1_c HO.c HO.l) dL_law_507 rfl HO.c rfl rfl rfl (Nat.le_of_ble_eq_true rfl) (Nat.le_of_ble_eq_true rfl) (Nat.le_of_ble_eq_true rfl) (Nat.le_trans (m := 300000) (by omega) (Nat.le_of_ble_eq_true rfl)) (Nat.le_trans (m := 7000000) (by omega) (Nat.le_of_ble_eq_true rfl)) rfl ?_
    rw [gsd1, gtl1, e7]
    refine g_if_ne_f (t := 533) (q := 513) C dL_law_510 (by decide) rfl (by decide) ?_
    refine g_aload_n (q := 514) C dL_law_513 rfl rfl ?_
    refine g_iconst (v := 0) (q := 515) C dL_law_514 (by decide) rfl ?_
    refine g_iconst (v := 3) (q := 516) C dL_law_515 (by decide) rfl ?_
    refine g_tightL h0 HO.b.1 ?_
    have bl39 := gBud.lim2 HO.b HO.j.2.2 (by omega) (by omega)
    refine g_callVi (x := (rX7_side_0 1 L 3)) (q := 519) (As := [.int 0, .int 3]) C gyX7_side gvX7_side t_828 (c_X7_side_0_c HO.c HO.l) dL_law_516 rfl HO.c rfl rfl rfl (Nat.le_of_ble_eq_true rfl) (Nat.le_of_ble_eq_true rfl) (Nat.le_of_ble_eq_true rfl) (Nat.le_trans (m := 300000) (by omega) (Nat.le_of_ble_eq_true rfl)) (Nat.le_trans (m := 7000000) (by omega) (Nat.le_of_ble_eq_true rfl)) rfl ?_
    rw [gsd0, gtl3, e8, show nI ([] : List Int32).length = 0 from rfl]
    refine g_if_ne_f (t := 533) (q := 522) C dL_law_519 (by decide) rfl (by decide) ?_
    refine g_aload_n (q := 523) C dL_law_522 rfl rfl ?_
    refine g_iconst (v := 1) (q := 524) C dL_law_523 (by decide) rfl ?_
    refine g_bipush (v := 8) (q := 526) C dL_law_524 (by decide) rfl ?_
    refine g_tightL h0 HO.b.1 ?_
    have bl40 := gBud.lim2 HO.b HO.j.2.2 (by omega) (by omega)
    refine g_callVi (x := (rX7_side_1 1 L 8)) (q := 529) (As := [.int 1, .int 8]) C gyX7_side gvX7_side t_828 (c_X7_side_1_c HO.c HO.l) dL_law_526 rfl HO.c rfl rfl rfl (Nat.le_of_ble_eq_true rfl) (Nat.le_of_ble_eq_true rfl) (Nat.le_of_ble_eq_true rfl) (Nat.le_trans (m := 300000) (by omega) (Nat.le_of_ble_eq_true rfl)) (Nat.le_trans (m := 7000000) (by omega) (Nat.le_of_ble_eq_true rfl)) rfl ?_
    rw [gsd1, gtl8 e9]
    refine g_iconst (v := (-1)) (q := 530) C dL_law_529 (by decide) rfl ?_
    refine g_icmp_eq_t (t := 597) C dL_law_530 (by decide) (by decide) ?_
    exact kk _ _ _ _ (HO.up (by omega) (by omega)) G (by rw [e1]; decide)
  ·
    refine g_aload_n (q := 416) C dL_law_415 rfl rfl ?_
    refine g_tightL h0 HO.b.1 ?_
    have bl41 := gBud.lim2 HO.b HO.j.2.2 (by omega) (by omega)
    refine g_callVi (x := (rX7_state 1 L)) (q := 419) (As := []) C gyX7_state gvX7_state t_824 (c_X7_state_c HO.c HO.l) dL_law_416 rfl HO.c rfl rfl rfl (Nat.le_of_ble_eq_true rfl) (Nat.le_of_ble_eq_true rfl) (Nat.le_of_ble_eq_true rfl) (Nat.le_trans (m := 300000) (by omega) (Nat.le_of_ble_eq_true rfl)) (Nat.le_trans (m := 7000000) (by omega) (Nat.le_of_ble_eq_true rfl)) rfl ?_
    rw [gst1, e1]
    refine g_iconst (v := 4) (q := 420) C dL_law_419 (by decide) rfl ?_
    refine g_icmp_ne_f (t := 456) (q := 423) C dL_law_420 (by decide) rfl (by decide) ?_
    refine g_aload_n (q := 424) C dL_law_423 rfl rfl ?_
    refine g_tightL h0 HO.b.1 ?_
    have bl42 := gBud.lim2 HO.b HO.j.2.2 (by omega) (by omega)
    refine g_callVix (x := (-1)) (q := 427) (As := []) C gyX7_message gvX7_message t_535 (c_X7_message_no_o HO (gms0 (Or.inr e1))) dL_law_424 rfl HO.c rfl rfl rfl (Nat.le_of_ble_eq_true rfl) (Nat.le_of_ble_eq_true rfl) (Nat.le_of_ble_eq_true rfl) (Nat.le_trans (m := 300000) (by omega) (Nat.le_of_ble_eq_true rfl)) (Nat.le_trans (m := 7000000) (by omega) (Nat.le_of_ble_eq_true rfl)) rfl (fun h1 z1 => ?_)
    obtain ⟨HO2, fo2⟩ := z1
    refine g_iconst (v := (-1)) (q := 428) C dL_law_427 (by decide) rfl ?_
    refine g_icmp_ne_f (t := 454) (q := 431) C dL_law_428 (by decide) rfl (by decide) ?_
    refine g_aload_n (q := 432) C dL_law_431 rfl rfl ?_
    refine g_bipush (v := 9) (q := 434) C dL_law_432 (by decide) rfl ?_
    refine g_tightL h0 HO2.b.1 ?_
    have bl43 := gBud.lim2 HO2.b HO2.j.2.2 (by omega) (by omega)
    refine g_callVix (x := (-1)) (q := 437) (As := [.int 9]) C gyX7_room gvX7_room t_562 (c_X7_room_no_o (x := 9) HO2 (gms0 (Or.inr e1))) dL_law_434 rfl HO2.c rfl rfl rfl (Nat.le_of_ble_eq_true rfl) (Nat.le_of_ble_eq_true rfl) (Nat.le_of_ble_eq_true rfl) (Nat.le_trans (m := 300000) (by omega) (Nat.le_of_ble_eq_true rfl)) (Nat.le_trans (m := 7000000) (by omega) (Nat.le_of_ble_eq_true rfl)) rfl (fun h2 z2 => ?_)
    obtain ⟨HO3, fo3⟩ := z2
    refine g_iconst (v := (-1)) (q := 438) C dL_law_437 (by decide) rfl ?_
    refine g_icmp_ne_f (t := 454) (q := 441) C dL_law_438 (by decide) rfl (by decide) ?_
    refine g_aload_n (q := 442) C dL_law_441 rfl rfl ?_
    refine g_iconst (v := 1) (q := 443) C dL_law_442 (by decide) rfl ?_
    refine g_tightL h0 HO3.b.1 ?_
    have bl44 := gBud.lim2 HO3.b HO3.j.2.2 (by omega) (by omega)
    refine g_callVix (x := (-1)) (q := 446) (As := [.int 1]) C gyX7_step gvX7_step t_595 (c_X7_step_no_o (x := 1) HO3 (gow0 e1)) dL_law_443 rfl HO3.c rfl rfl rfl (Nat.le_of_ble_eq_true rfl) (Nat.le_of_ble_eq_true rfl) (Nat.le_of_ble_eq_true rfl) (Nat.le_trans (m := 300000) (by omega) (Nat.le_of_ble_eq_true rfl)) (Nat.le_trans (m := 7000000) (by omega) (Nat.le_of_ble_eq_true rfl)) rfl (fun h3 z3 => ?_)
    obtain ⟨HO4, fo4⟩ := z3
    refine g_iconst (v := (-1)) (q := 447) C dL_law_446 (by decide) rfl ?_
    refine g_icmp_ne_f (t := 454) (q := 450) C dL_law_447 (by decide) rfl (by decide) ?_
    refine g_iconst (v := 1) (q := 451) C dL_law_450 (by decide) rfl ?_
    refine g_goto (q := 455) C dL_law_451 (by decide) ?_
    refine g_tightL h0 HO4.b.1 ?_
    have bl45 := gBud.lim2 HO4.b HO4.j.2.2 (by omega) (by omega)
    exact hEnd 455 _ _ _ _ dL_law_455 (by omega) (by omega)
theorem dL_law_230 : decode cL_law 230 = .ok (.aload_n 1, 1) := by decide +kernel
theorem dL_law_231 : decode cL_law 231 = .ok (.aload 5, 2) := by decide +kernel
theorem dL_law_233 : decode cL_law 233 = .ok (.iload 4, 2) := by decide +kernel
theorem dL_law_235 : decode cL_law 235 = .ok (.invokestatic 55, 3) := by decide +kernel
theorem dL_law_238 : decode cL_law 238 = .ok (.aload_n 1, 1) := by decide +kernel
theorem dL_law_239 : decode cL_law 239 = .ok (.invokevirtual 45, 3) := by decide +kernel
theorem dL_law_242 : decode cL_law 242 = .ok (.istore 7, 2) := by decide +kernel
theorem dL_law_244 : decode cL_law 244 = .ok (.iload 7, 2) := by decide +kernel
theorem dL_law_246 : decode cL_law 246 = .ok (.iload 4, 2) := by decide +kernel
theorem dL_law_248 : decode cL_law 248 = .ok (.ifCond .ne 7, 3) := by decide +kernel
theorem dL_law_251 : decode cL_law 251 = .ok (.iconst 1, 1) := by decide +kernel
theorem dL_law_252 : decode cL_law 252 = .ok (.goto 21, 3) := by decide +kernel
theorem dL_law_255 : decode cL_law 255 = .ok (.iload 4, 2) := by decide +kernel
theorem dL_law_257 : decode cL_law 257 = .ok (.aload_n 1, 1) := by decide +kernel
theorem dL_law_258 : decode cL_law 258 = .ok (.iconst 1, 1) := by decide +kernel
theorem dL_law_259 : decode cL_law 259 = .ok (.iconst 2, 1) := by decide +kernel
theorem dL_law_260 : decode cL_law 260 = .ok (.invokevirtual 37, 3) := by decide +kernel
theorem dL_law_263 : decode cL_law 263 = .ok (.iadd, 1) := by decide +kernel
theorem dL_law_264 : decode cL_law 264 = .ok (.iconst 1, 1) := by decide +kernel
theorem dL_law_265 : decode cL_law 265 = .ok (.isub, 1) := by decide +kernel
theorem dL_law_266 : decode cL_law 266 = .ok (.aload_n 1, 1) := by decide +kernel
theorem dL_law_267 : decode cL_law 267 = .ok (.iconst 1, 1) := by decide +kernel
theorem dL_law_268 : decode cL_law 268 = .ok (.iconst 2, 1) := by decide +kernel
theorem dL_law_269 : decode cL_law 269 = .ok (.invokevirtual 37, 3) := by decide +kernel
theorem dL_law_272 : decode cL_law 272 = .ok (.idiv, 1) := by decide +kernel
theorem dL_law_273 : decode cL_law 273 = .ok (.if_icmp .ne 28, 3) := by decide +kernel
theorem dL_law_276 : decode cL_law 276 = .ok (.aload_n 1, 1) := by decide +kernel
theorem dL_law_277 : decode cL_law 277 = .ok (.invokevirtual 41, 3) := by decide +kernel
theorem dL_law_280 : decode cL_law 280 = .ok (.iconst 1, 1) := by decide +kernel
theorem dL_law_281 : decode cL_law 281 = .ok (.if_icmp .ne 20, 3) := by decide +kernel
theorem dL_law_284 : decode cL_law 284 = .ok (.aload_n 1, 1) := by decide +kernel
theorem dL_law_285 : decode cL_law 285 = .ok (.invokevirtual 45, 3) := by decide +kernel
theorem dL_law_288 : decode cL_law 288 = .ok (.iconst (-1), 1) := by decide +kernel
theorem dL_law_289 : decode cL_law 289 = .ok (.if_icmp .ne 12, 3) := by decide +kernel
theorem dL_law_292 : decode cL_law 292 = .ok (.aload_n 1, 1) := by decide +kernel
theorem dL_law_293 : decode cL_law 293 = .ok (.iconst 5, 1) := by decide +kernel
theorem dL_law_294 : decode cL_law 294 = .ok (.invokevirtual 80, 3) := by decide +kernel
theorem dL_law_297 : decode cL_law 297 = .ok (.iconst (-1), 1) := by decide +kernel
theorem dL_law_298 : decode cL_law 298 = .ok (.if_icmp .eq 5, 3) := by decide +kernel
theorem dL_law_303 : decode cL_law 303 = .ok (.aload_n 1, 1) := by decide +kernel
theorem dL_law_304 : decode cL_law 304 = .ok (.bipush 8, 2) := by decide +kernel
theorem dL_law_306 : decode cL_law 306 = .ok (.invokevirtual 28, 3) := by decide +kernel
theorem dL_law_309 : decode cL_law 309 = .ok (.istore 8, 2) := by decide +kernel
theorem dL_law_311 : decode cL_law 311 = .ok (.aload_n 1, 1) := by decide +kernel
theorem dL_law_312 : decode cL_law 312 = .ok (.bipush 9, 2) := by decide +kernel
theorem dL_law_314 : decode cL_law 314 = .ok (.invokevirtual 28, 3) := by decide +kernel
theorem dL_law_317 : decode cL_law 317 = .ok (.istore 9, 2) := by decide +kernel
theorem dL_law_319 : decode cL_law 319 = .ok (.iconst 0, 1) := by decide +kernel
theorem dL_law_320 : decode cL_law 320 = .ok (.istore 10, 2) := by decide +kernel
theorem dL_law_373 : decode cL_law 373 = .ok (.iconst 0, 1) := by decide +kernel
theorem dL_law_374 : decode cL_law 374 = .ok (.istore 10, 2) := by decide +kernel
set_option maxRecDepth 100000 in
set_option maxHeartbeats 4000000 in
theorem law_msg {X : gX} {nm : String} {SL : Nat} {SF : Nat → Int32} (C : gC X RL nm cL_law 11 room_1) (h0 : gH (xD X) (xI X) (xJ X) (xB X) (xA X) [] (xs X).heap) (hX : va_X (xA X 0) SL SF (xs X) (xs X).heap) (hbl : xA X 0 < (xs X).heap.size) (hb0 : ¬ xB X ≤ xA X 0) (hSL : SL < 2 ^ 31) (hEnd : ∀ (pc : Nat) (ls : List (Option Value)) (hp : List gA) (cl sl : Nat), decode cL_law pc = .ok (.ireturn, 1) → cl ≤ 300000 → sl ≤ 7000000 → gG X pc ls [.int 1] hp cl sl) {f : Nat → Int32} {n a5 r N E : Nat} {L : gLn} {R Lt A m : Nat} {J : gJr} {q1 q2 : gRs} {Bc Bs : Nat} {hp : List gA} {a2 : Nat} {i6 : Int32} {y7 y8 y9 y10 : Option Value} {cl sl : Nat} (HO : gWo hp 119 116 1 [] L R Lt A m J q1 q2 Bc Bs) (hc : Bc ≤ 150000) (hs : Bs ≤ 700000) (hR : R ≤ 3) (V : gBs N L Lt A J) (hN : N ≤ 4000) (me : gMe E L) (hE : E ≤ 100000) (G : gRdy L) (hst : ¬ L.st = 1 ∧ ¬ L.st = 4) (ha : hp[a5]? = some (.inl (60, f))) (hf : ∀ k, ∃ b, b < 256 ∧ f k = nI b) (hn : n ≤ 60) (ha2 : 122 ≤ a5) (hJa : ∀ i, i < 8 → a5 ≠ J.ad i) (kk : ∀ (hp : List gA) (L : gLn) (Lt A m N' : Nat) (J : gJr) (y7 y8 y9 y10 : Option Value) (cl sl : Nat), gWo hp 119 116 1 [] L R Lt A m J q1 q2 (Bc + 5) (Bs + 72) → gBs N' L Lt A J → N' ≤ N + 426 → gMe (E + 426) L → gRdy L → (¬ L.st = 1 ∧ ¬ L.st = 4) → gG X 597 [some (.float 0), some (.ref 0), some (.ref a2), some (.int ((nI r))), some (.int ((nI n))), some (.ref a5), some (.int i6), y7, y8, y9, y10] [] hp cl sl) : gG X 230 [some (.float 0), some (.ref 0), some (.ref a2), some (.int ((nI r))), some (.int ((nI n))), some (.ref a5), some (.int i6), y7, y8, y9, y10] [] hp cl sl := by
  refine g_aload_n (q := 231) C dL_law_230 rfl rfl ?_
  refine g_aload (q := 233) C dL_law_231 rfl rfl ?_
  refine g_iload (q := 235) C dL_law_233 rfl rfl ?_
  refine g_tightL h0 HO.b.1 ?_
  have bl46 := gBud.lim2 HO.b HO.j.2.2 (by omega) (by omega)
  refine g_callSvp (q := 238) (As := [.ref 0, .ref a5, .int ((nI n))]) C gyL_types t_857 t_856 (c_L_types_z HO ha ha2 hJa hn (by decide) hn (fun k _ => hf k)) dL_law_235 rfl rfl rfl (Nat.le_of_ble_eq_true rfl) (Nat.le_of_ble_eq_true rfl) (Nat.le_of_ble_eq_true rfl) (Nat.le_trans (m := 300000) (by omega) (Nat.le_of_ble_eq_true rfl)) (Nat.le_trans (m := 7000000) (by omega) (Nat.le_of_ble_eq_true rfl)) rfl (fun h1 z1 => ?_)
  obtain ⟨HO1, fo1⟩ := z1
  rw [gPl_gMl (fun k _ => hf k)] at HO1
  have q9 := G
  obtain ⟨-, -, -, -, -, -, _, _, _, _, q, _, -, b9, -⟩ := q9
  have er := b9.2.2.2.2.1
  have q1_ := b9.1.2.2.1
  have q2_ := b9.1.2.2.2.1
  refine g_aload_n (q := 239) C dL_law_238 rfl rfl ?_
  refine g_tightL h0 HO1.b.1 ?_
  have bl47 := gBud.lim2 HO1.b HO1.j.2.2 (by omega) (by omega)
  refine g_callVix (x := (nI (gBl (gMl f n).length q))) (q := 242) (As := []) C gyX7_message gvX7_message t_535 (c_X7_message_ok_o (q := q) HO1 (gms1 hst.1 hst.2) (by rw [gMl_len]; exact hn) er q1_ q2_) dL_law_239 rfl HO1.c rfl rfl rfl (Nat.le_of_ble_eq_true rfl) (Nat.le_of_ble_eq_true rfl) (Nat.le_of_ble_eq_true rfl) (Nat.le_trans (m := 300000) (by omega) (Nat.le_of_ble_eq_true rfl)) (Nat.le_trans (m := 7000000) (by omega) (Nat.le_of_ble_eq_true rfl)) rfl (fun h2 z2 => ?_)
  obtain ⟨HO2, fo2⟩ := z2
  rw [gMl_len]
  refine g_istore (q := 244) C dL_law_242 (Nat.le_of_ble_eq_true rfl) (by simp only [gset]; rfl) rfl ?_
  refine g_iload (q := 246) C dL_law_244 rfl rfl ?_
  have K6 : ∀ cl sl : Nat, gG X 276 [some (.float 0), some (.ref 0), some (.ref a2), some (.int ((nI r))), some (.int ((nI n))), some (.ref a5), some (.int i6), some (.int ((nI (gBl n q)))), y8, y9, y10] [] h2 cl sl := by
    intro cl sl
    refine g_aload_n (q := 277) C dL_law_276 rfl rfl ?_
    refine g_tightL h0 HO2.b.1 ?_
    have bl48 := gBud.lim2 HO2.b HO2.j.2.2 (by omega) (by omega)
    refine g_callVi (x := (rX7_state 1 (rX2_startMessage L (gMl f n)))) (q := 280) (As := []) C gyX7_state gvX7_state t_824 (c_X7_state_c HO2.c HO2.l) dL_law_277 rfl HO2.c rfl rfl rfl (Nat.le_of_ble_eq_true rfl) (Nat.le_of_ble_eq_true rfl) (Nat.le_of_ble_eq_true rfl) (Nat.le_trans (m := 300000) (by omega) (Nat.le_of_ble_eq_true rfl)) (Nat.le_trans (m := 7000000) (by omega) (Nat.le_of_ble_eq_true rfl)) rfl ?_
    rw [gst1, show (rX2_startMessage L (gMl f n)).st = 1 from rfl]
    refine g_iconst (v := 1) (q := 281) C dL_law_280 (by decide) rfl ?_
    refine g_icmp_ne_f (t := 301) (q := 284) C dL_law_281 (by decide) rfl (by decide) ?_
    refine g_aload_n (q := 285) C dL_law_284 rfl rfl ?_
    refine g_tightL h0 HO2.b.1 ?_
    have bl49 := gBud.lim2 HO2.b HO2.j.2.2 (by omega) (by omega)
    refine g_callVix (x := (-1)) (q := 288) (As := []) C gyX7_message gvX7_message t_535 (c_X7_message_no_o HO2 (gms0 (Or.inl rfl))) dL_law_285 rfl HO2.c rfl rfl rfl (Nat.le_of_ble_eq_true rfl) (Nat.le_of_ble_eq_true rfl) (Nat.le_of_ble_eq_true rfl) (Nat.le_trans (m := 300000) (by omega) (Nat.le_of_ble_eq_true rfl)) (Nat.le_trans (m := 7000000) (by omega) (Nat.le_of_ble_eq_true rfl)) rfl (fun h3 z3 => ?_)
    obtain ⟨HO3, fo3⟩ := z3
    refine g_iconst (v := (-1)) (q := 289) C dL_law_288 (by decide) rfl ?_
    refine g_icmp_ne_f (t := 301) (q := 292) C dL_law_289 (by decide) rfl (by decide) ?_
    refine g_aload_n (q := 293) C dL_law_292 rfl rfl ?_
    refine g_iconst (v := 5) (q := 294) C dL_law_293 (by decide) rfl ?_
    refine g_tightL h0 HO3.b.1 ?_
    have bl50 := gBud.lim2 HO3.b HO3.j.2.2 (by omega) (by omega)
    refine g_callVix (x := (-1)) (q := 297) (As := [.int 5]) C gyX7_room gvX7_room t_562 (c_X7_room_no_o (x := 5) HO3 (gms0 (Or.inl rfl))) dL_law_294 rfl HO3.c rfl rfl rfl (Nat.le_of_ble_eq_true rfl) (Nat.le_of_ble_eq_true rfl) (Nat.le_of_ble_eq_true rfl) (Nat.le_trans (m := 300000) (by omega) (Nat.le_of_ble_eq_true rfl)) (Nat.le_trans (m := 7000000) (by omega) (Nat.le_of_ble_eq_true rfl)) rfl (fun h4 z4 => ?_)
    obtain ⟨HO4, fo4⟩ := z4
    refine g_iconst (v := (-1)) (q := 298) C dL_law_297 (by decide) rfl ?_
    refine g_icmp_eq_t (t := 303) C dL_law_298 (by decide) (by decide) ?_
    refine g_aload_n (q := 304) C dL_law_303 rfl rfl ?_
    refine g_bipush (v := 8) (q := 306) C dL_law_304 (by decide) rfl ?_
    refine g_tightL h0 HO4.b.1 ?_
    have bl51 := gBud.lim2 HO4.b HO4.j.2.2 (by omega) (by omega)
    refine g_callVi (x := (rX7_count_8 1 (rX2_startMessage L (gMl f n)))) (q := 309) (As := [.int 8]) C gyX7_count gvX7_count t_840 (c_X7_count_8_c HO4.c HO4.l) dL_law_306 rfl HO4.c rfl rfl rfl (Nat.le_of_ble_eq_true rfl) (Nat.le_of_ble_eq_true rfl) (Nat.le_of_ble_eq_true rfl) (Nat.le_trans (m := 300000) (by omega) (Nat.le_of_ble_eq_true rfl)) (Nat.le_trans (m := 7000000) (by omega) (Nat.le_of_ble_eq_true rfl)) rfl ?_
    rw [show rX7_count_8 1 (rX2_startMessage L (gMl f n)) = L.td from rfl]
    refine g_istore (q := 311) C dL_law_309 (Nat.le_of_ble_eq_true rfl) (by simp only [gset]; rfl) rfl ?_
    refine g_aload_n (q := 312) C dL_law_311 rfl rfl ?_
    refine g_bipush (v := 9) (q := 314) C dL_law_312 (by decide) rfl ?_
    refine g_tightL h0 HO4.b.1 ?_
    have bl52 := gBud.lim2 HO4.b HO4.j.2.2 (by omega) (by omega)
    refine g_callVi (x := (rX7_count_9 1 (rX2_startMessage L (gMl f n)))) (q := 317) (As := [.int 9]) C gyX7_count gvX7_count t_840 (c_X7_count_9_c HO4.c HO4.l) dL_law_314 rfl HO4.c rfl rfl rfl (Nat.le_of_ble_eq_true rfl) (Nat.le_of_ble_eq_true rfl) (Nat.le_of_ble_eq_true rfl) (Nat.le_trans (m := 300000) (by omega) (Nat.le_of_ble_eq_true rfl)) (Nat.le_trans (m := 7000000) (by omega) (Nat.le_of_ble_eq_true rfl)) rfl ?_
    rw [show rX7_count_9 1 (rX2_startMessage L (gMl f n)) = L.tg from rfl]
    refine g_istore (q := 319) C dL_law_317 (Nat.le_of_ble_eq_true rfl) (by simp only [gset]; rfl) rfl ?_
    refine g_iconst (v := 0) (q := 320) C dL_law_319 (by decide) rfl ?_
    refine g_istore (q := 322) C dL_law_320 (Nat.le_of_ble_eq_true rfl) (by simp only [gset]; rfl) rfl ?_
    have hm24 : m ≤ 24 := by have := HO.w; obtain ⟨_, _, _, _, _, _, _, _, _, h9, -⟩ := this; exact h9
    have bM : gByt (gMl f n) := gMl_byt (fun k _ => hf k)
    have lM : (gMl f n).length ≤ 60 := by rw [gMl_len]; exact hn
    have lE : (gExp (gMl f n)).length ≤ 60 := gExp_len lM
    have I0 := V.iv (C := N + 424) (D := 424) (m := m) G me lM bM (by omega) (by omega)
    have FO0 := gFO.trans fo1 (gFO.trans fo2 (gFO.trans fo3 fo4))
    refine law_lp1 C h0 hX hbl hb0 hSL hEnd (CC := N + 424) (D := 424) (E := E) (hp0 := hp) (J0 := J) (Bc := Bc + 4) (Bs := Bs + 8) (by omega) (by omega) hR (by omega) (by omega) lE ?_ 20 0 rfl _ _ _ _ _ _ N 0 _ _ HO4 I0 FO0 (Or.inr (Nat.zero_le _))
    intro z9 hp1 L1 Lt1 A1 m1 J1 B1 k1 cl1 sl1 HO5 HI5 fo5 hk5
    refine g_iconst (v := 0) (q := 374) C dL_law_373 (by decide) rfl ?_
    refine g_istore (q := 376) C dL_law_374 (Nat.le_of_ble_eq_true rfl) (by simp only [gset]; rfl) rfl ?_
    refine law_lp2 C h0 hX hbl hb0 hSL hEnd (CC := N + 424) (D := 424) (E := E) (hp0 := hp) (J0 := J) (Bc := Bc + 4) (Bs := Bs + 8) (by omega) (by omega) hR (by omega) (by omega) lE ?_ 20 0 rfl _ _ _ _ _ _ B1 k1 _ _ HO5 HI5 fo5 (Or.inr (Nat.zero_le _))
    intro z8 hp2 L2 Lt2 A2 m2 J2 B2 k2 cl2 sl2 HO6 HI6 fo6 hk6
    have F := HI6.fin (hk6.imp id (fun h => by omega))
    obtain ⟨⟨N', hN', VB⟩, me'⟩ := HI6.bs
    have ha6 : hp2[a5]? = some (.inl (60, f)) := (fo6.2.1 a5 (List.getElem?_eq_some_iff.mp ha).1 ha2 hJa).trans ha
    refine law_fin C h0 hX hbl hb0 hSL hEnd (K := (L.td, L.tg)) HO6 (by omega) (by omega) F ha6 hf hn ?_
    intro hp3 y10 cl3 sl3 HO7 G7 st7
    exact kk _ _ _ _ _ N' _ _ _ _ _ _ _ HO7 VB (by omega) ((me' st7.1).le (by omega)) G7 st7
    
    
  have q3 : 1 ≤ gBl n q := gBl_1 n q
  refine g_iload (q := 248) C dL_law_246 rfl rfl ?_
  refine g_if_ne (t := 255) (q := 251) C dL_law_248 (by decide) rfl (fun c_248 => ?_) (fun c_248 => ?_)
  ·
    refine g_iload (q := 257) C dL_law_255 rfl rfl ?_
    refine g_aload_n (q := 258) C dL_law_257 rfl rfl ?_
    refine g_iconst (v := 1) (q := 259) C dL_law_258 (by decide) rfl ?_
    refine g_iconst (v := 2) (q := 260) C dL_law_259 (by decide) rfl ?_
    refine g_tightL h0 HO2.b.1 ?_
    have bl53 := gBud.lim2 HO2.b HO2.j.2.2 (by omega) (by omega)
    refine g_callVi (x := (rX7_side_1 1 (rX2_startMessage L (gMl f n)) 2)) (q := 263) (As := [.int 1, .int 2]) C gyX7_side gvX7_side t_828 (c_X7_side_1_c HO2.c HO2.l) dL_law_260 rfl HO2.c rfl rfl rfl (Nat.le_of_ble_eq_true rfl) (Nat.le_of_ble_eq_true rfl) (Nat.le_of_ble_eq_true rfl) (Nat.le_trans (m := 300000) (by omega) (Nat.le_of_ble_eq_true rfl)) (Nat.le_trans (m := 7000000) (by omega) (Nat.le_of_ble_eq_true rfl)) rfl ?_
    rw [gsd1, gtl2, show (rX2_startMessage L (gMl f n)).cd.ro = nI q from er]
    refine g_iadd (q := 264) C dL_law_263 rfl ?_
    refine g_iconst (v := 1) (q := 265) C dL_law_264 (by decide) rfl ?_
    refine g_isub (q := 266) C dL_law_265 rfl ?_
    refine g_aload_n (q := 267) C dL_law_266 rfl rfl ?_
    refine g_iconst (v := 1) (q := 268) C dL_law_267 (by decide) rfl ?_
    refine g_iconst (v := 2) (q := 269) C dL_law_268 (by decide) rfl ?_
    refine g_tightL h0 HO2.b.1 ?_
    have bl54 := gBud.lim2 HO2.b HO2.j.2.2 (by omega) (by omega)
    refine g_callVi (x := (rX7_side_1 1 (rX2_startMessage L (gMl f n)) 2)) (q := 272) (As := [.int 1, .int 2]) C gyX7_side gvX7_side t_828 (c_X7_side_1_c HO2.c HO2.l) dL_law_269 rfl HO2.c rfl rfl rfl (Nat.le_of_ble_eq_true rfl) (Nat.le_of_ble_eq_true rfl) (Nat.le_of_ble_eq_true rfl) (Nat.le_trans (m := 300000) (by omega) (Nat.le_of_ble_eq_true rfl)) (Nat.le_trans (m := 7000000) (by omega) (Nat.le_of_ble_eq_true rfl)) rfl ?_
    rw [gsd1, gtl2, show (rX2_startMessage L (gMl f n)).cd.ro = nI q from er]
    refine g_idiv (q := 273) C dL_law_272 (fun h => by have := nI_inj (b := 0) (by omega) (by decide) h; omega) rfl ?_
    refine g_icmp_ne_f (t := 301) (q := 276) C dL_law_273 (by decide) rfl (gBl_d (by have : ¬ n = 0 := (fun h => c_248 (by rw [h]; rfl)); omega) hn q1_ q2_) ?_
    exact K6 _ _
  ·
    refine g_iconst (v := 1) (q := 252) C dL_law_251 (by decide) rfl ?_
    refine g_goto (q := 273) C dL_law_252 (by decide) ?_
    refine g_icmp_ne_f (t := 301) (q := 276) C dL_law_273 (by decide) rfl (by have := nI_inj (b := 0) (by omega) (by decide) c_248; rw [this, gBl_0 q1_]; rfl) ?_
    exact K6 _ _
  
theorem dL_law_130 : decode cL_law 130 = .ok (.iload_n 3, 1) := by decide +kernel
theorem dL_law_131 : decode cL_law 131 = .ok (.iconst 4, 1) := by decide +kernel
theorem dL_law_132 : decode cL_law 132 = .ok (.if_icmp .ge 471, 3) := by decide +kernel
theorem dL_law_135 : decode cL_law 135 = .ok (.aload_n 0, 1) := by decide +kernel
theorem dL_law_136 : decode cL_law 136 = .ok (.iconst 2, 1) := by decide +kernel
theorem dL_law_137 : decode cL_law 137 = .ok (.iload_n 3, 1) := by decide +kernel
theorem dL_law_138 : decode cL_law 138 = .ok (.iadd, 1) := by decide +kernel
theorem dL_law_139 : decode cL_law 139 = .ok (.invokestatic 70, 3) := by decide +kernel
theorem dL_law_142 : decode cL_law 142 = .ok (.istore 4, 2) := by decide +kernel
theorem dL_law_144 : decode cL_law 144 = .ok (.aload_n 0, 1) := by decide +kernel
theorem dL_law_145 : decode cL_law 145 = .ok (.bipush 6, 2) := by decide +kernel
theorem dL_law_147 : decode cL_law 147 = .ok (.bipush 20, 2) := by decide +kernel
theorem dL_law_149 : decode cL_law 149 = .ok (.iload_n 3, 1) := by decide +kernel
theorem dL_law_150 : decode cL_law 150 = .ok (.imul, 1) := by decide +kernel
theorem dL_law_151 : decode cL_law 151 = .ok (.iadd, 1) := by decide +kernel
theorem dL_law_152 : decode cL_law 152 = .ok (.iload 4, 2) := by decide +kernel
theorem dL_law_154 : decode cL_law 154 = .ok (.invokestatic 73, 3) := by decide +kernel
theorem dL_law_157 : decode cL_law 157 = .ok (.astore 5, 2) := by decide +kernel
theorem dL_law_159 : decode cL_law 159 = .ok (.aload_n 0, 1) := by decide +kernel
theorem dL_law_160 : decode cL_law 160 = .ok (.bipush 90, 2) := by decide +kernel
theorem dL_law_162 : decode cL_law 162 = .ok (.iload_n 3, 1) := by decide +kernel
theorem dL_law_163 : decode cL_law 163 = .ok (.iadd, 1) := by decide +kernel
theorem dL_law_164 : decode cL_law 164 = .ok (.invokestatic 18, 3) := by decide +kernel
theorem dL_law_167 : decode cL_law 167 = .ok (.bipush 7, 2) := by decide +kernel
theorem dL_law_169 : decode cL_law 169 = .ok (.iand, 1) := by decide +kernel
theorem dL_law_170 : decode cL_law 170 = .ok (.istore 6, 2) := by decide +kernel
theorem dL_law_172 : decode cL_law 172 = .ok (.iconst 0, 1) := by decide +kernel
theorem dL_law_173 : decode cL_law 173 = .ok (.istore 7, 2) := by decide +kernel
theorem dL_law_597 : decode cL_law 597 = .ok (.iinc 3 1, 3) := by decide +kernel
theorem dL_law_600 : decode cL_law 600 = .ok (.goto (-470), 3) := by decide +kernel
set_option maxRecDepth 100000 in
set_option maxHeartbeats 4000000 in
theorem law_round {X : gX} {nm : String} {SL : Nat} {SF : Nat → Int32} (C : gC X RL nm cL_law 11 room_1) (h0 : gH (xD X) (xI X) (xJ X) (xB X) (xA X) [] (xs X).heap) (hX : va_X (xA X 0) SL SF (xs X) (xs X).heap) (hbl : xA X 0 < (xs X).heap.size) (hb0 : ¬ xB X ≤ xA X 0) (hSL : SL < 2 ^ 31) (hEnd : ∀ (pc : Nat) (ls : List (Option Value)) (hp : List gA) (cl sl : Nat), decode cL_law pc = .ok (.ireturn, 1) → cl ≤ 300000 → sl ≤ 7000000 → gG X pc ls [.int 1] hp cl sl) {R : Nat} {q1 q2 : gRs} {a2 : Nat} (hR : R ≤ 3) : ∀ (d r : Nat), r + d = 4 → ∀ (hp : List gA) (L : gLn) (Lt A m N : Nat) (J : gJr) (y4 y5 y6 y7 y8 y9 y10 : Option Value) (cl sl : Nat), gWo hp 119 116 1 [] L R Lt A m J q1 q2 (1100 + 6 * r) (12000 + 200 * r) → gBs N L Lt A J → N ≤ 426 * r → gMe (426 * r) L → gRdy L → (¬ L.st = 1 ∧ ¬ L.st = 4) → gG X 130 [some (.float 0), some (.ref 0), some (.ref a2), some (.int ((nI r))), y4, y5, y6, y7, y8, y9, y10] [] hp cl sl := by
  intro d
  induction d with
  | zero =>
    intro r hr hp L Lt A m N J y4 y5 y6 y7 y8 y9 y10 cl sl HO V hN me G hst
    obtain rfl : r = 4 := by omega
    refine g_iload_n (q := 131) C dL_law_130 rfl rfl ?_
    refine g_iconst (v := 4) (q := 132) C dL_law_131 (by decide) rfl ?_
    refine g_icmp_ge_t (t := 603) C dL_law_132 (by decide) (nI_le (Nat.le_refl 4) (by decide)) ?_
    exact law_room C h0 hX hbl hb0 hSL hEnd HO (by omega) (by omega) hR V (by omega) G hst
  | succ d ih =>
    intro r hr hp L Lt A m N J y4 y5 y6 y7 y8 y9 y10 cl sl HO V hN me G hst
    refine g_iload_n (q := 131) C dL_law_130 rfl rfl ?_
    refine g_iconst (v := 4) (q := 132) C dL_law_131 (by decide) rfl ?_
    refine g_icmp_ge_f (t := 603) (q := 135) C dL_law_132 (by decide) rfl (fun h => nI_ge (show r < 4 by omega) (by decide) h) ?_
    refine g_aloadS_n (q := 136) C dL_law_135 rfl rfl ?_
    refine g_iconst (v := 2) (q := 137) C dL_law_136 (by decide) rfl ?_
    refine g_iload_n (q := 138) C dL_law_137 rfl rfl ?_
    refine g_iadd (q := 139) C dL_law_138 rfl ?_
    refine g_tightL h0 HO.b.1 ?_
    have bl55 := gBud.lim2 HO.b HO.j.2.2 (by omega) (by omega)
    rw [show (2 : Int32) + nI r = nI (2 + r) from nI_add 2 r]
    refine g_callZip (q := 142) (As := [.float 0, .int (nI (2 + r))]) C hX hbl hb0 gyL_size t_877 t_876 (c_L_size_z (k0 := 2 + r) (by omega) hSL) dL_law_139 rfl rfl rfl (Nat.le_of_ble_eq_true rfl) (Nat.le_of_ble_eq_true rfl) (Nat.le_of_ble_eq_true rfl) (Nat.le_trans (m := 300000) (by omega) (Nat.le_of_ble_eq_true rfl)) (Nat.le_trans (m := 7000000) (by omega) (Nat.le_of_ble_eq_true rfl)) rfl (fun x1 h1 z1 => ?_)
    obtain ⟨⟨n, hn, rfl⟩, eh⟩ := z1
    rw [eh]
    refine g_istore (q := 144) C dL_law_142 (Nat.le_of_ble_eq_true rfl) (by simp only [gset]; rfl) rfl ?_
    refine g_aloadS_n (q := 145) C dL_law_144 rfl rfl ?_
    refine g_bipush (v := 6) (q := 147) C dL_law_145 (by decide) rfl ?_
    refine g_bipush (v := 20) (q := 149) C dL_law_147 (by decide) rfl ?_
    refine g_iload_n (q := 150) C dL_law_149 rfl rfl ?_
    refine g_imul (q := 151) C dL_law_150 rfl ?_
    refine g_iadd (q := 152) C dL_law_151 rfl ?_
    refine g_iload (q := 154) C dL_law_152 rfl rfl ?_
    refine g_tightL h0 HO.b.1 ?_
    have bl56 := gBud.lim2 HO.b HO.j.2.2 (by omega) (by omega)
    obtain ⟨a5, hn0⟩ : ∃ k, hp.length = k := ⟨_, rfl⟩
    rw [show (6 : Int32) + 20 * nI r = nI (6 + 20 * r) by rw [show (20 : Int32) = nI 20 from rfl, nI_mulS (by omega) (by decide) (by omega), show (6 : Int32) = nI 6 from rfl, nI_add]]
    refine g_callZ (q := 157) (As := [.float 0, .int (nI (6 + 20 * r)), .int (nI n)]) C hX hbl hb0 gyL_message t_880 t_879 (c_L_message_z (a0 := 6 + 20 * r) (n1 := n) hn0 (by omega) hn hSL) dL_law_154 rfl rfl rfl (Nat.le_of_ble_eq_true rfl) (Nat.le_of_ble_eq_true rfl) (Nat.le_of_ble_eq_true rfl) (Nat.le_trans (m := 300000) (by omega) (Nat.le_of_ble_eq_true rfl)) (Nat.le_trans (m := 7000000) (by omega) (Nat.le_of_ble_eq_true rfl)) rfl (fun v9 h9 z9 => ?_)
    obtain ⟨rfl, f, rfl, hf⟩ := z9
    obtain ⟨HO1, fo2⟩ := HO.app (e := .inl (60, f)) gJ2
    have HO2 : gWo (hp ++ [.inl (60, f)]) 119 116 1 [] L R Lt A m J q1 q2 (1100 + 6 * r + 1) (12000 + 200 * r + 60) := HO1
    have ha : (hp ++ [.inl (60, f)] : List gA)[a5]? = some (.inl (60, f)) := gapp_n hn0
    have ha2 : 122 ≤ a5 := by have := HO.b.2.2.2; omega
    have hJa : ∀ i, i < 8 → a5 ≠ J.ad i := fun i hi h => by have := (HO.j.2.1 i hi).lt.2; omega
    refine g_astore (q := 159) C dL_law_157 (Nat.le_of_ble_eq_true rfl) (by simp only [gset]; rfl) rfl ?_
    refine g_aloadS_n (q := 160) C dL_law_159 rfl rfl ?_
    refine g_bipush (v := 90) (q := 162) C dL_law_160 (by decide) rfl ?_
    refine g_iload_n (q := 163) C dL_law_162 rfl rfl ?_
    refine g_iadd (q := 164) C dL_law_163 rfl ?_
    rw [show (90 : Int32) + nI r = nI (90 + r) from nI_add 90 r]
    refine g_tightL h0 HO2.b.1 ?_
    have bl57 := gBud.lim2 HO2.b HO2.j.2.2 (by omega) (by omega)
    refine g_callZip (q := 167) (As := [.float 0, .int (nI (90 + r))]) C hX hbl hb0 gyL_cell t_853 t_852 (c_L_cell_z (k0 := 90 + r) (by omega) hSL) dL_law_164 rfl rfl rfl (Nat.le_of_ble_eq_true rfl) (Nat.le_of_ble_eq_true rfl) (Nat.le_of_ble_eq_true rfl) (Nat.le_trans (m := 300000) (by omega) (Nat.le_of_ble_eq_true rfl)) (Nat.le_trans (m := 7000000) (by omega) (Nat.le_of_ble_eq_true rfl)) rfl (fun x2 h2 z2 => ?_)
    rw [z2]
    refine g_bipush (v := 7) (q := 169) C dL_law_167 (by decide) rfl ?_
    refine g_iand (q := 170) C dL_law_169 rfl ?_
    obtain ⟨F, hF, eF⟩ := gmask x2 (m := 7) (by decide)
    rw [show (x2 &&& 7) = nI F from eF]
    refine g_istore (q := 172) C dL_law_170 (Nat.le_of_ble_eq_true rfl) (by simp only [gset]; rfl) rfl ?_
    refine g_iconst (v := 0) (q := 173) C dL_law_172 (by decide) rfl ?_
    refine g_istore (q := 175) C dL_law_173 (Nat.le_of_ble_eq_true rfl) (by simp only [gset]; rfl) rfl ?_
    refine law_faults C h0 hX hbl hb0 hSL hEnd (r := r) (hp0 := (hp ++ [.inl (60, f)])) (Bc := 1100 + 6 * r + 1) (Bs := 12000 + 200 * r + 60) (by omega) (by omega) hF (by omega) ?_ F 0 (by omega) _ _ _ _ _ HO2 gFO.rf
    intro hp3 m3 y8' cl3 sl3 HO3 fo3
    have ha3 : hp3[a5]? = some (.inl (60, f)) := (fo3.2.1 a5 (List.getElem?_eq_some_iff.mp ha).1 ha2 hJa).trans ha
    refine law_msg C h0 hX hbl hb0 hSL hEnd HO3 (by omega) (by omega) hR V (by omega) me (by omega) G hst ha3 hf hn ha2 hJa ?_
    intro hp4 L4 Lt4 A4 m4 N4 J4 z7 z8 z9 z10 cl4 sl4 HO4 V4 hN4 me4 G4 st4
    refine g_iinc (v := (nI (r + 1))) (q := 600) C dL_law_597 rfl (nI_1 r) (by simp only [gset]; rfl) rfl ?_
    refine g_goto (q := 130) C dL_law_600 (by decide) ?_
    exact ih (r + 1) (by omega) _ _ _ _ _ N4 _ _ _ _ _ _ _ _ _ _ (HO4.up (by omega) (by omega)) V4 (by omega) (me4.le (by omega)) G4 st4
    
