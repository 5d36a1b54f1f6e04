/-! the law's walk: from the start (wip/p1/m_lawd.py) -/
theorem dL_law_46 : decode cL_law 46 = .ok (.iconst 1, 1) := by decide +kernel
theorem dL_law_47 : decode cL_law 47 = .ok (.aload_n 0, 1) := by decide +kernel
theorem dL_law_48 : decode cL_law 48 = .ok (.iconst 0, 1) := by decide +kernel
theorem dL_law_49 : decode cL_law 49 = .ok (.invokestatic 18, 3) := by decide +kernel
theorem dL_law_52 : decode cL_law 52 = .ok (.sipush 255, 3) := by decide +kernel
theorem dL_law_55 : decode cL_law 55 = .ok (.iand, 1) := by decide +kernel
theorem dL_law_56 : decode cL_law 56 = .ok (.bipush 40, 2) := by decide +kernel
theorem dL_law_58 : decode cL_law 58 = .ok (.irem, 1) := by decide +kernel
theorem dL_law_59 : decode cL_law 59 = .ok (.iadd, 1) := by decide +kernel
theorem dL_law_60 : decode cL_law 60 = .ok (.invokestatic 51, 3) := by decide +kernel
theorem dL_law_63 : decode cL_law 63 = .ok (.astore_n 2, 1) := by decide +kernel
theorem dL_law_64 : decode cL_law 64 = .ok (.aload_n 1, 1) := by decide +kernel
theorem dL_law_65 : decode cL_law 65 = .ok (.aload_n 2, 1) := by decide +kernel
theorem dL_law_66 : decode cL_law 66 = .ok (.bipush 8, 2) := by decide +kernel
theorem dL_law_68 : decode cL_law 68 = .ok (.invokestatic 55, 3) := by decide +kernel
theorem dL_law_71 : decode cL_law 71 = .ok (.aload_n 1, 1) := by decide +kernel
theorem dL_law_72 : decode cL_law 72 = .ok (.invokevirtual 59, 3) := by decide +kernel
theorem dL_law_75 : decode cL_law 75 = .ok (.iconst 2, 1) := by decide +kernel
theorem dL_law_76 : decode cL_law 76 = .ok (.if_icmp .ne 50, 3) := by decide +kernel
theorem dL_law_79 : decode cL_law 79 = .ok (.aload_n 1, 1) := by decide +kernel
theorem dL_law_80 : decode cL_law 80 = .ok (.iconst 0, 1) := by decide +kernel
theorem dL_law_81 : decode cL_law 81 = .ok (.invokevirtual 62, 3) := by decide +kernel
theorem dL_law_84 : decode cL_law 84 = .ok (.bipush 65, 2) := by decide +kernel
theorem dL_law_86 : decode cL_law 86 = .ok (.if_icmp .ne 40, 3) := by decide +kernel
theorem dL_law_89 : decode cL_law 89 = .ok (.aload_n 1, 1) := by decide +kernel
theorem dL_law_90 : decode cL_law 90 = .ok (.iconst 1, 1) := by decide +kernel
theorem dL_law_91 : decode cL_law 91 = .ok (.invokevirtual 62, 3) := by decide +kernel
theorem dL_law_94 : decode cL_law 94 = .ok (.bipush 66, 2) := by decide +kernel
theorem dL_law_96 : decode cL_law 96 = .ok (.if_icmp .ne 30, 3) := by decide +kernel
theorem dL_law_99 : decode cL_law 99 = .ok (.aload_n 1, 1) := by decide +kernel
theorem dL_law_100 : decode cL_law 100 = .ok (.bipush 7, 2) := by decide +kernel
theorem dL_law_102 : decode cL_law 102 = .ok (.invokevirtual 65, 3) := by decide +kernel
theorem dL_law_105 : decode cL_law 105 = .ok (.aload_n 2, 1) := by decide +kernel
theorem dL_law_106 : decode cL_law 106 = .ok (.iconst 4, 1) := by decide +kernel
theorem dL_law_107 : decode cL_law 107 = .ok (.iaload, 1) := by decide +kernel
theorem dL_law_108 : decode cL_law 108 = .ok (.if_icmp .ne 18, 3) := by decide +kernel
theorem dL_law_111 : decode cL_law 111 = .ok (.aload_n 1, 1) := by decide +kernel
theorem dL_law_112 : decode cL_law 112 = .ok (.aload_n 0, 1) := by decide +kernel
theorem dL_law_113 : decode cL_law 113 = .ok (.iconst 1, 1) := by decide +kernel
theorem dL_law_114 : decode cL_law 114 = .ok (.invokestatic 18, 3) := by decide +kernel
theorem dL_law_117 : decode cL_law 117 = .ok (.iconst 3, 1) := by decide +kernel
theorem dL_law_118 : decode cL_law 118 = .ok (.iand, 1) := by decide +kernel
theorem dL_law_119 : decode cL_law 119 = .ok (.invokevirtual 67, 3) := by decide +kernel
theorem dL_law_122 : decode cL_law 122 = .ok (.iconst 1, 1) := by decide +kernel
theorem dL_law_123 : decode cL_law 123 = .ok (.if_icmp .eq 5, 3) := by decide +kernel
theorem dL_law_128 : decode cL_law 128 = .ok (.iconst 0, 1) := by decide +kernel
theorem dL_law_129 : decode cL_law 129 = .ok (.istore_n 3, 1) := by decide +kernel
set_option maxRecDepth 100000 in
set_option maxHeartbeats 4000000 in
theorem law_new {X : gX} {nm : String} {SL : Nat} {SF : Nat → Int32} (C : gC X RL nm cL_law 11 room_1) (h0 : gH (xD X) (xI X) (xJ X) (xB X) (xA X) [] (xs X).heap) (hX : va_X (xA X 0) SL SF (xs X) (xs X).heap) (hbl : xA X 0 < (xs X).heap.size) (hb0 : ¬ xB X ≤ xA X 0) (hSL : SL < 2 ^ 31) (hEnd : ∀ (pc : Nat) (ls : List (Option Value)) (hp : List gA) (cl sl : Nat), decode cL_law pc = .ok (.ireturn, 1) → cl ≤ 300000 → sl ≤ 7000000 → gG X pc ls [.int 1] hp cl sl) {hp : List gA} {cl sl : Nat} {L : gLn} {J : gJr} {q1 q2 : gRs} (HO : gWo hp 116 119 0 [] L 1 0 0 0 J q1 q2 1000 10000) : gG X 46 [some (.float 0), some (.ref 0), none, none, none, none, none, none, none, none, none] [] hp cl sl := by
  refine g_iconst (v := 1) (q := 47) C dL_law_46 (by decide) rfl ?_
  refine g_aloadS_n (q := 48) C dL_law_47 rfl rfl ?_
  refine g_iconst (v := 0) (q := 49) C dL_law_48 (by decide) rfl ?_
  refine g_tightL h0 HO.b.1 ?_
  have bl58 := gBud.lim2 HO.b HO.j.2.2 (by omega) (by omega)
  refine g_callZip (q := 52) (As := [.float 0, .int (nI (0))]) C hX hbl hb0 gyL_cell t_853 t_852 (c_L_cell_z (k0 := 0) (by omega) hSL) dL_law_49 rfl rfl rfl (Nat.le_of_ble_eq_true rfl) (Nat.le_of_ble_eq_true rfl) (Nat.le_of_ble_eq_true rfl) (Nat.le_trans (m := 300000) (by omega) (Nat.le_of_ble_eq_true rfl)) (Nat.le_trans (m := 7000000) (by omega) (Nat.le_of_ble_eq_true rfl)) rfl (fun x1 h1 z1 => ?_)
  rw [z1]
  refine g_sipush (v := 255) (q := 55) C dL_law_52 (by decide) rfl ?_
  refine g_iand (q := 56) C dL_law_55 rfl ?_
  obtain ⟨k9, hk9, ek9⟩ := gmask x1 (m := 255) (by decide)
  rw [show (x1 &&& 255) = nI k9 from ek9]
  refine g_bipush (v := 40) (q := 58) C dL_law_56 (by decide) rfl ?_
  refine g_irem (q := 59) C dL_law_58 (by decide) rfl ?_
  rw [show (40 : Int32) = nI 40 from rfl, nI_rem (by omega) (by decide)]
  refine g_iadd (q := 60) C dL_law_59 rfl ?_
  have hk8 := Nat.mod_lt k9 (show 0 < 40 by decide)
  rw [show (1 : Int32) + nI (k9 % 40) = nI (1 + k9 % 40) from nI_add 1 _]
  obtain ⟨p, hp9⟩ : ∃ p, 1 + k9 % 40 = p := ⟨_, rfl⟩
  rw [hp9]
  have hp1 : 1 ≤ p := by omega
  have hp2 : p ≤ 40 := by omega
  refine g_tightL h0 HO.b.1 ?_
  have bl59 := gBud.lim2 HO.b HO.j.2.2 (by omega) (by omega)
  obtain ⟨a2, hn0⟩ : ∃ k, hp.length = k := ⟨_, rfl⟩
  refine g_callSr (q := 63) (As := [.int (nI p)]) C gyL_answer t_874 t_873 (c_L_answer_z hn0) dL_law_60 rfl rfl rfl (Nat.le_of_ble_eq_true rfl) (Nat.le_of_ble_eq_true rfl) (Nat.le_of_ble_eq_true rfl) (Nat.le_trans (m := 300000) (by omega) (Nat.le_of_ble_eq_true rfl)) (Nat.le_trans (m := 7000000) (by omega) (Nat.le_of_ble_eq_true rfl)) rfl ?_
  refine g_heap (hp2 := (hp ++ [.inl (8, gArr [59, 130, 129, 17, nI p, 65, 66, gChk (nI p)])])) rfl ?_
  obtain ⟨HO1, fo2⟩ := HO.app (e := (.inl (8, gArr [59, 130, 129, 17, nI p, 65, 66, gChk (nI p)]))) gJ2
  have HO2 : gWo (hp ++ [(.inl (8, gArr [59, 130, 129, 17, nI p, 65, 66, gChk (nI p)]))]) 116 119 0 [] L 1 0 0 0 J q1 q2 (1000 + 1) (10000 + 8) := HO1
  have ha : (hp ++ [(.inl (8, gArr [59, 130, 129, 17, nI p, 65, 66, gChk (nI p)]))] : List gA)[a2]? = some (.inl (8, gArr [59, 130, 129, 17, nI p, 65, 66, gChk (nI p)])) := gapp_n hn0
  have ha2 : 122 ≤ a2 := by have := HO.b.2.2.2; omega
  have hJa : ∀ i, i < 8 → a2 ≠ J.ad i := fun i hi h => by have := (HO.j.2.1 i hi).lt.2; omega
  have hf := gAns_f hp2
  refine g_astore_n (q := 64) C dL_law_63 (Nat.le_of_ble_eq_true rfl) (by simp only [gset]; rfl) rfl ?_
  refine g_aload_n (q := 65) C dL_law_64 rfl rfl ?_
  refine g_aload_n (q := 66) C dL_law_65 rfl rfl ?_
  refine g_bipush (v := 8) (q := 68) C dL_law_66 (by decide) rfl ?_
  refine g_tightL h0 HO2.b.1 ?_
  have bl60 := gBud.lim2 HO2.b HO2.j.2.2 (by omega) (by omega)
  refine g_callSvp (q := 71) (As := [.ref 0, .ref a2, .int 8]) C gyL_types t_857 t_856 (c_L_types_z (n := 8) HO2 ha ha2 hJa (by decide) (by decide) (by decide) hf) dL_law_68 rfl rfl rfl (Nat.le_of_ble_eq_true rfl) (Nat.le_of_ble_eq_true rfl) (Nat.le_of_ble_eq_true rfl) (Nat.le_trans (m := 300000) (by omega) (Nat.le_of_ble_eq_true rfl)) (Nat.le_trans (m := 7000000) (by omega) (Nat.le_of_ble_eq_true rfl)) rfl (fun h2 z2 => ?_)
  obtain ⟨HO3, fo3⟩ := z2
  rw [gPl_gMl hf] at HO3
  have HO4 : gWo h2 116 119 0 [59, 130, 129, 17, nI p, 65, 66, gChk (nI p)] L 1 0 0 0 J q1 q2 (1000 + 1 + 4) (10000 + 8 + 8) := HO3
  refine g_aload_n (q := 72) C dL_law_71 rfl rfl ?_
  refine g_tightL h0 HO4.b.1 ?_
  have bl61 := gBud.lim2 HO4.b HO4.j.2.2 (by omega) (by omega)
  refine g_callVix (x := 2) (q := 75) (As := []) C gyX7_reset gvX7_reset t_394 (c_X7_reset_o HO4 (nI_nlt (show 1 ≤ p from hp1) (by omega)) (nI_le (show p ≤ 254 by omega) (by decide)) (gAns_x hp2)) dL_law_72 rfl HO4.c rfl rfl rfl (Nat.le_of_ble_eq_true rfl) (Nat.le_of_ble_eq_true rfl) (Nat.le_of_ble_eq_true rfl) (Nat.le_trans (m := 300000) (by omega) (Nat.le_of_ble_eq_true rfl)) (Nat.le_trans (m := 7000000) (by omega) (Nat.le_of_ble_eq_true rfl)) rfl (fun h3 z3 => ?_)
  obtain ⟨HO5, fo5⟩ := z3
  have ha5 : h3[a2]? = some (.inl (8, gArr [59, 130, 129, 17, nI p, 65, 66, gChk (nI p)])) := ((gFO.trans fo3 fo5).2.1 a2 (List.getElem?_eq_some_iff.mp ha).1 ha2 hJa).trans ha
  refine g_iconst (v := 2) (q := 76) C dL_law_75 (by decide) rfl ?_
  refine g_icmp_ne_f (t := 126) (q := 79) C dL_law_76 (by decide) rfl (by decide) ?_
  refine g_aload_n (q := 80) C dL_law_79 rfl rfl ?_
  refine g_iconst (v := 0) (q := 81) C dL_law_80 (by decide) rfl ?_
  refine g_tightL h0 HO5.b.1 ?_
  have bl62 := gBud.lim2 HO5.b HO5.j.2.2 (by omega) (by omega)
  refine g_callVi (x := (rX7_historical 1 (qX3_read q2 (nI p) (gChk (nI p))) 0)) (q := 84) (As := [.int 0]) C gyX7_historical gvX7_historical t_527 (c_X7_historical_c HO5.c HO5.qb) dL_law_81 rfl HO5.c rfl rfl rfl (Nat.le_of_ble_eq_true rfl) (Nat.le_of_ble_eq_true rfl) (Nat.le_of_ble_eq_true rfl) (Nat.le_trans (m := 300000) (by omega) (Nat.le_of_ble_eq_true rfl)) (Nat.le_trans (m := 7000000) (by omega) (Nat.le_of_ble_eq_true rfl)) rfl ?_
  rw [gHis0]
  refine g_bipush (v := 65) (q := 86) C dL_law_84 (by decide) rfl ?_
  refine g_icmp_ne_f (t := 126) (q := 89) C dL_law_86 (by decide) rfl (by decide) ?_
  refine g_aload_n (q := 90) C dL_law_89 rfl rfl ?_
  refine g_iconst (v := 1) (q := 91) C dL_law_90 (by decide) rfl ?_
  refine g_tightL h0 HO5.b.1 ?_
  have bl63 := gBud.lim2 HO5.b HO5.j.2.2 (by omega) (by omega)
  refine g_callVi (x := (rX7_historical 1 (qX3_read q2 (nI p) (gChk (nI p))) 1)) (q := 94) (As := [.int 1]) C gyX7_historical gvX7_historical t_527 (c_X7_historical_c HO5.c HO5.qb) dL_law_91 rfl HO5.c rfl rfl rfl (Nat.le_of_ble_eq_true rfl) (Nat.le_of_ble_eq_true rfl) (Nat.le_of_ble_eq_true rfl) (Nat.le_trans (m := 300000) (by omega) (Nat.le_of_ble_eq_true rfl)) (Nat.le_trans (m := 7000000) (by omega) (Nat.le_of_ble_eq_true rfl)) rfl ?_
  rw [gHis1]
  refine g_bipush (v := 66) (q := 96) C dL_law_94 (by decide) rfl ?_
  refine g_icmp_ne_f (t := 126) (q := 99) C dL_law_96 (by decide) rfl (by decide) ?_
  refine g_aload_n (q := 100) C dL_law_99 rfl rfl ?_
  refine g_bipush (v := 7) (q := 102) C dL_law_100 (by decide) rfl ?_
  refine g_tightL h0 HO5.b.1 ?_
  have bl64 := gBud.lim2 HO5.b HO5.j.2.2 (by omega) (by omega)
  refine g_callVi (x := (rX7_answer_7 1 (qX3_read q2 (nI p) (gChk (nI p))))) (q := 105) (As := [.int 7]) C gyX7_answer gvX7_answer t_519 (c_X7_answer_7_c HO5.c HO5.qb) dL_law_102 rfl HO5.c rfl rfl rfl (Nat.le_of_ble_eq_true rfl) (Nat.le_of_ble_eq_true rfl) (Nat.le_of_ble_eq_true rfl) (Nat.le_trans (m := 300000) (by omega) (Nat.le_of_ble_eq_true rfl)) (Nat.le_trans (m := 7000000) (by omega) (Nat.le_of_ble_eq_true rfl)) rfl ?_
  rw [gAns7]
  refine g_aload_n (q := 106) C dL_law_105 rfl rfl ?_
  refine g_iconst (v := 4) (q := 107) C dL_law_106 (by decide) rfl ?_
  refine g_ialoadN (x := (nI p)) (j := 4) (q := 108) C dL_law_107 rfl ha5 (pk_in 4 8 (by decide)) (pk_cl 4) rfl ?_
  refine g_icmp_ne_f (t := 126) (q := 111) C dL_law_108 (by decide) rfl rfl ?_
  refine g_aload_n (q := 112) C dL_law_111 rfl rfl ?_
  refine g_aloadS_n (q := 113) C dL_law_112 rfl rfl ?_
  refine g_iconst (v := 1) (q := 114) C dL_law_113 (by decide) rfl ?_
  refine g_tightL h0 HO5.b.1 ?_
  have bl65 := gBud.lim2 HO5.b HO5.j.2.2 (by omega) (by omega)
  refine g_callZip (q := 117) (As := [.float 0, .int (nI (1))]) C hX hbl hb0 gyL_cell t_853 t_852 (c_L_cell_z (k0 := 1) (by omega) hSL) dL_law_114 rfl rfl rfl (Nat.le_of_ble_eq_true rfl) (Nat.le_of_ble_eq_true rfl) (Nat.le_of_ble_eq_true rfl) (Nat.le_trans (m := 300000) (by omega) (Nat.le_of_ble_eq_true rfl)) (Nat.le_trans (m := 7000000) (by omega) (Nat.le_of_ble_eq_true rfl)) rfl (fun x4 h4 z4 => ?_)
  rw [z4]
  refine g_iconst (v := 3) (q := 118) C dL_law_117 (by decide) rfl ?_
  refine g_iand (q := 119) C dL_law_118 rfl ?_
  refine g_tightL h0 HO5.b.1 ?_
  have bl66 := gBud.lim2 HO5.b HO5.j.2.2 (by omega) (by omega)
  obtain ⟨r9, hr9, er9⟩ := gmask x4 (m := 3) (by decide)
  rw [show (x4 &&& 3) = nI r9 from er9]
  refine g_callVix (x := 1) (q := 122) (As := [.int ((nI r9))]) C gyX7_repeats gvX7_repeats t_591 (c_X7_repeats_o HO5 hr9) dL_law_119 rfl HO5.c rfl rfl rfl (Nat.le_of_ble_eq_true rfl) (Nat.le_of_ble_eq_true rfl) (Nat.le_of_ble_eq_true rfl) (Nat.le_trans (m := 300000) (by omega) (Nat.le_of_ble_eq_true rfl)) (Nat.le_trans (m := 7000000) (by omega) (Nat.le_of_ble_eq_true rfl)) rfl (fun h5 z5 => ?_)
  obtain ⟨HO6, fo6⟩ := z5
  refine g_iconst (v := 1) (q := 123) C dL_law_122 (by decide) rfl ?_
  refine g_icmp_eq_t (t := 128) C dL_law_123 (by decide) (by decide) ?_
  refine g_iconst (v := 0) (q := 129) C dL_law_128 (by decide) rfl ?_
  refine g_istore_n (q := 130) C dL_law_129 (Nat.le_of_ble_eq_true rfl) (by simp only [gset]; rfl) rfl ?_
  exact law_round C h0 hX hbl hb0 hSL hEnd hr9 4 0 rfl _ _ _ _ _ 0 _ _ _ _ _ _ _ _ _ _ (HO6.up (by decide) (by decide)) gRst_bs (Nat.le_refl _) gRst_me (gRst_rdy hp1 (by omega)) ⟨show ¬ (0 : Int32) = 1 by decide, show ¬ (0 : Int32) = 4 by decide⟩
theorem dL_law_0 : decode cL_law 0 = .ok (.new 9, 3) := by decide +kernel
theorem dL_law_3 : decode cL_law 3 = .ok (.dup, 1) := by decide +kernel
theorem dL_law_4 : decode cL_law 4 = .ok (.invokespecial 40, 3) := by decide +kernel
theorem dL_law_7 : decode cL_law 7 = .ok (.astore_n 1, 1) := by decide +kernel
theorem dL_law_8 : decode cL_law 8 = .ok (.aload_n 1, 1) := by decide +kernel
theorem dL_law_9 : decode cL_law 9 = .ok (.invokevirtual 41, 3) := by decide +kernel
theorem dL_law_12 : decode cL_law 12 = .ok (.iconst (-1), 1) := by decide +kernel
theorem dL_law_13 : decode cL_law 13 = .ok (.if_icmp .ne 31, 3) := by decide +kernel
theorem dL_law_16 : decode cL_law 16 = .ok (.aload_n 1, 1) := by decide +kernel
theorem dL_law_17 : decode cL_law 17 = .ok (.invokevirtual 45, 3) := by decide +kernel
theorem dL_law_20 : decode cL_law 20 = .ok (.iconst (-1), 1) := by decide +kernel
theorem dL_law_21 : decode cL_law 21 = .ok (.if_icmp .ne 23, 3) := by decide +kernel
theorem dL_law_24 : decode cL_law 24 = .ok (.aload_n 1, 1) := by decide +kernel
theorem dL_law_25 : decode cL_law 25 = .ok (.iconst 1, 1) := by decide +kernel
theorem dL_law_26 : decode cL_law 26 = .ok (.invokevirtual 48, 3) := by decide +kernel
theorem dL_law_29 : decode cL_law 29 = .ok (.iconst (-1), 1) := by decide +kernel
theorem dL_law_30 : decode cL_law 30 = .ok (.if_icmp .ne 14, 3) := by decide +kernel
theorem dL_law_33 : decode cL_law 33 = .ok (.aload_n 1, 1) := by decide +kernel
theorem dL_law_34 : decode cL_law 34 = .ok (.iconst 0, 1) := by decide +kernel
theorem dL_law_35 : decode cL_law 35 = .ok (.iconst 0, 1) := by decide +kernel
theorem dL_law_36 : decode cL_law 36 = .ok (.invokevirtual 37, 3) := by decide +kernel
theorem dL_law_39 : decode cL_law 39 = .ok (.bipush (-2), 2) := by decide +kernel
theorem dL_law_41 : decode cL_law 41 = .ok (.if_icmp .eq 5, 3) := by decide +kernel
set_option maxRecDepth 100000 in
set_option maxHeartbeats 4000000 in
theorem law_start {X : gX} {nm : String} {SL : Nat} {SF : Nat → Int32} (C : gC X RL nm cL_law 11 room_1) (h0 : gH (xD X) (xI X) (xJ X) (xB X) (xA X) [] (xs X).heap) (hX : va_X (xA X 0) SL SF (xs X) (xs X).heap) (hbl : xA X 0 < (xs X).heap.size) (hb0 : ¬ xB X ≤ xA X 0) (hSL : SL < 2 ^ 31) (hEnd : ∀ (pc : Nat) (ls : List (Option Value)) (hp : List gA) (cl sl : Nat), decode cL_law pc = .ok (.ireturn, 1) → cl ≤ 300000 → sl ≤ 7000000 → gG X pc ls [.int 1] hp cl sl) : gG X 0 [some (.float 0), none, none, none, none, none, none, none, none, none, none] [] [] 0 0 := by
  refine g_new (q := 3) (k := 0) C nL_9 dL_law_0 rfl rfl (Nat.le_of_ble_eq_true rfl) (Nat.le_of_ble_eq_true rfl) ?_
  refine g_dup (q := 4) C dL_law_3 rfl rfl ?_
  refine g_callIv (q := 7) (As := []) C gyX7_init giX7_init rfl t_59 (c_X7_init (hp := []) (n := 0) rfl) dL_law_4 rfl rfl rfl (Nat.le_of_ble_eq_true rfl) (Nat.le_of_ble_eq_true rfl) (Nat.le_of_ble_eq_true rfl) (Nat.le_of_ble_eq_true rfl) (Nat.le_of_ble_eq_true rfl) rfl ?_
  refine g_heap (hp2 := gCLS) rfl ?_
  refine g_astore_n (q := 8) C dL_law_7 (Nat.le_of_ble_eq_true rfl) (by simp only [gset]; rfl) rfl ?_
  have HO1 := gWo_0
  refine g_aload_n (q := 9) C dL_law_8 rfl rfl ?_
  refine g_tightL h0 HO1.b.1 ?_
  have bl67 := gBud.lim2 HO1.b HO1.j.2.2 (by omega) (by omega)
  refine g_callVi (x := (-1)) (q := 12) (As := []) C gyX7_state gvX7_state t_824 (c_X7_state_c HO1.c HO1.l) dL_law_9 rfl HO1.c rfl rfl rfl (Nat.le_of_ble_eq_true rfl) (Nat.le_of_ble_eq_true rfl) (Nat.le_of_ble_eq_true rfl) (Nat.le_trans (m := 300000) (by omega) (Nat.le_of_ble_eq_true rfl)) (Nat.le_trans (m := 7000000) (by omega) (Nat.le_of_ble_eq_true rfl)) rfl ?_
  refine g_iconst (v := (-1)) (q := 13) C dL_law_12 (by decide) rfl ?_
  refine g_icmp_ne_f (t := 44) (q := 16) C dL_law_13 (by decide) rfl (by decide) ?_
  refine g_aload_n (q := 17) C dL_law_16 rfl rfl ?_
  refine g_tightL h0 HO1.b.1 ?_
  have bl68 := gBud.lim2 HO1.b HO1.j.2.2 (by omega) (by omega)
  refine g_callVix (x := (-1)) (q := 20) (As := []) C gyX7_message gvX7_message t_535 (c_X7_message_no_o HO1 rfl) dL_law_17 rfl HO1.c rfl rfl rfl (Nat.le_of_ble_eq_true rfl) (Nat.le_of_ble_eq_true rfl) (Nat.le_of_ble_eq_true rfl) (Nat.le_trans (m := 300000) (by omega) (Nat.le_of_ble_eq_true rfl)) (Nat.le_trans (m := 7000000) (by omega) (Nat.le_of_ble_eq_true rfl)) rfl (fun h1 z1 => ?_)
  obtain ⟨HO2, fo2⟩ := z1
  refine g_iconst (v := (-1)) (q := 21) C dL_law_20 (by decide) rfl ?_
  refine g_icmp_ne_f (t := 44) (q := 24) C dL_law_21 (by decide) rfl (by decide) ?_
  refine g_aload_n (q := 25) C dL_law_24 rfl rfl ?_
  refine g_iconst (v := 1) (q := 26) C dL_law_25 (by decide) rfl ?_
  refine g_tightL h0 HO2.b.1 ?_
  have bl69 := gBud.lim2 HO2.b HO2.j.2.2 (by omega) (by omega)
  refine g_callVix (x := (-1)) (q := 29) (As := [.int 1]) C gyX7_step gvX7_step t_595 (c_X7_step_no_o (x := 1) HO2 rfl) dL_law_26 rfl HO2.c rfl rfl rfl (Nat.le_of_ble_eq_true rfl) (Nat.le_of_ble_eq_true rfl) (Nat.le_of_ble_eq_true rfl) (Nat.le_trans (m := 300000) (by omega) (Nat.le_of_ble_eq_true rfl)) (Nat.le_trans (m := 7000000) (by omega) (Nat.le_of_ble_eq_true rfl)) rfl (fun h2 z2 => ?_)
  obtain ⟨HO3, fo3⟩ := z2
  refine g_iconst (v := (-1)) (q := 30) C dL_law_29 (by decide) rfl ?_
  refine g_icmp_ne_f (t := 44) (q := 33) C dL_law_30 (by decide) rfl (by decide) ?_
  refine g_aload_n (q := 34) C dL_law_33 rfl rfl ?_
  refine g_iconst (v := 0) (q := 35) C dL_law_34 (by decide) rfl ?_
  refine g_iconst (v := 0) (q := 36) C dL_law_35 (by decide) rfl ?_
  refine g_tightL h0 HO3.b.1 ?_
  have bl70 := gBud.lim2 HO3.b HO3.j.2.2 (by omega) (by omega)
  refine g_callVi (x := (-2)) (q := 39) (As := [.int 0, .int 0]) C gyX7_side gvX7_side t_828 (c_X7_side_0_c HO3.c HO3.l) dL_law_36 rfl HO3.c rfl rfl rfl (Nat.le_of_ble_eq_true rfl) (Nat.le_of_ble_eq_true rfl) (Nat.le_of_ble_eq_true rfl) (Nat.le_trans (m := 300000) (by omega) (Nat.le_of_ble_eq_true rfl)) (Nat.le_trans (m := 7000000) (by omega) (Nat.le_of_ble_eq_true rfl)) rfl ?_
  refine g_bipush (v := (-2)) (q := 41) C dL_law_39 (by decide) rfl ?_
  refine g_icmp_eq_t (t := 46) C dL_law_41 (by decide) (by decide) ?_
  exact law_new C h0 hX hbl hb0 hSL hEnd HO3
