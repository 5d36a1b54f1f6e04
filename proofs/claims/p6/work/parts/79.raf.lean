set_option maxRecDepth 100000 in
set_option maxHeartbeats 4000000 in
theorem c_X3_readTail_119 {hp : List gA} {q : rq} {t : List Int32} {n : Nat} (HQ : rqH hp 119 q []) (HT : gRw hp 1 2 96 t) (hn : n ≤ 15) (hP : rP t q) : gM yX3_readTail cX3_readTail 5 ((some .int)) 3 103 [.ref 119, .ref 1, .int (nI n)] (hp) (0) (0) (fun v h => v = some (.int (rE t (rC t (rH t n (0, (q, []))))).1) ∧ (rqH h 119 (rE t (rC t (rH t n (0, (q, []))))).2.1 (rE t (rC t (rH t n (0, (q, []))))).2.2 ∧ rqF 119 hp h)) := by
  refine gM_of (ls0 := [some (.ref 119), some (.ref 1), some (.int (nI n)), none, none]) (by decide +kernel) (Nat.le_of_ble_eq_true rfl) rfl fun X C E => ?_
  have ht := (gRw.le HT).1
  obtain ⟨F, hF⟩ : ∃ F, rE t (rC t (rH t n (0, (q, [])))) = F := ⟨_, rfl⟩
  have KE : ∀ (q1 : rq) (l1 : List Int32) (ha : List gA) (x3 x4 : Option Value), rqH ha 119 q1 l1 → gRw ha 1 2 96 t → rqF 119 hp ha → rE t (0, (q1, l1)) = F → gG X 138 [some (.ref 119), some (.ref 1), some (.int ((nI n))), x3, x4] [] ha 0 0 := by
    intro q1 l1 ha x3 x4 HQa HTa fqa hr
    refine g_aload_n (q := 139) C dX3_readTail_138 rfl rfl ?_
    refine g_getfield (v := .int ((q1.f 8))) (q := 142) C fX3_79 dX3_readTail_139 rfl HQa.1 rfl ?_
    refine g_aload_n (q := 143) C dX3_readTail_142 rfl rfl ?_
    refine g_callVi (x := (nI t.length)) (q := 146) (As := []) C gyX4_size gvX4_size t_517 (c_X4_size (gRw.obj HTa)) dX3_readTail_143 rfl (gRw.obj HTa) rfl rfl rfl (Nat.le_of_ble_eq_true rfl) (Nat.le_of_ble_eq_true rfl) (Nat.le_of_ble_eq_true rfl) (Nat.le_of_ble_eq_true rfl) (Nat.le_of_ble_eq_true rfl) rfl ?_
    refine g_icmp_ge (t := 161) (q := 149) C dX3_readTail_146 (by decide) rfl (fun c_146 => ?_) (fun c_146 => ?_)
    ·
      refine g_iconst (v := 0) (q := 162) C dX3_readTail_161 (by decide) rfl ?_
      have e : rE t (0, (q1, l1)) = ((0 : Int32), (q1, l1)) := (if_pos rfl).trans (if_pos c_146)
      exact E.1 _ _ _ _ _ _ _ dX3_readTail_162 rfl rfl (Nat.le_of_ble_eq_true rfl) (Nat.le_of_ble_eq_true rfl) ⟨by rw [hF, ← hr, e], by rw [hF, ← hr, e]; exact ⟨HQa, fqa⟩⟩
    ·
      refine g_aload_n (q := 150) C dX3_readTail_149 rfl rfl ?_
      refine g_getfield (v := .int ((q1.f 8))) (q := 153) C fX3_79 dX3_readTail_150 rfl HQa.1 rfl ?_
      refine g_bipush (v := 7) (q := 155) C dX3_readTail_153 (by decide) rfl ?_
      refine g_callSi (x := (8 * (q1.f 8) + 7)) (q := 158) (As := [.int ((q1.f 8)), .int 7]) C gyX3_faultAt t_519 t_518 (c_X3_faultAt_x) dX3_readTail_155 rfl rfl rfl (Nat.le_of_ble_eq_true rfl) (Nat.le_of_ble_eq_true rfl) (Nat.le_of_ble_eq_true rfl) (Nat.le_of_ble_eq_true rfl) (Nat.le_of_ble_eq_true rfl) rfl ?_
      refine g_goto (q := 162) C dX3_readTail_158 (by decide) ?_
      have e : rE t (0, (q1, l1)) = (8 * q1.f 8 + 7, (q1, l1)) := (if_pos rfl).trans (if_neg c_146)
      exact E.1 _ _ _ _ _ _ _ dX3_readTail_162 rfl rfl (Nat.le_of_ble_eq_true rfl) (Nat.le_of_ble_eq_true rfl) ⟨by rw [hF, ← hr, e], by rw [hF, ← hr, e]; exact ⟨HQa, fqa⟩⟩
  have KC : ∀ (q1 : rq) (l1 : List Int32) (ha : List gA) (x3 x4 : Option Value), rqH ha 119 q1 l1 → gRw ha 1 2 96 t → rqF 119 hp ha → rP t q1 → rE t (rC t (0, (q1, l1))) = F → gG X 58 [some (.ref 119), some (.ref 1), some (.int ((nI n))), x3, x4] [] ha 0 0 := by
    intro q1 l1 ha x3 x4 HQa HTa fqa hP hr
    obtain ⟨p, hp1, ep⟩ := hP
    refine g_aload_n (q := 59) C dX3_readTail_58 rfl rfl ?_
    refine g_getfield (v := .int ((q1.f 6))) (q := 62) C fX3_54 dX3_readTail_59 rfl HQa.1 rfl ?_
    refine g_if_eq (t := 138) (q := 65) C dX3_readTail_62 (by decide) rfl (fun c_62 => ?_) (fun c_62 => ?_)
    ·
      exact KE q1 l1 ha _ _ HQa HTa fqa (by rw [← hr, show rC t (0, (q1, l1)) = ((0 : Int32), (q1, l1)) from (if_pos rfl).trans (if_pos c_62)])
    ·
      refine g_aload_n (q := 66) C dX3_readTail_65 rfl rfl ?_
      refine g_getfield (v := .int ((q1.f 8))) (q := 69) C fX3_79 dX3_readTail_66 rfl HQa.1 rfl ?_
      refine g_aload_n (q := 70) C dX3_readTail_69 rfl rfl ?_
      refine g_callVi (x := (nI t.length)) (q := 73) (As := []) C gyX4_size gvX4_size t_517 (c_X4_size (gRw.obj HTa)) dX3_readTail_70 rfl (gRw.obj HTa) rfl rfl rfl (Nat.le_of_ble_eq_true rfl) (Nat.le_of_ble_eq_true rfl) (Nat.le_of_ble_eq_true rfl) (Nat.le_of_ble_eq_true rfl) (Nat.le_of_ble_eq_true rfl) rfl ?_
      refine g_icmp_lt (t := 85) (q := 76) C dX3_readTail_73 (by decide) rfl (fun c_73 => ?_) (fun c_73 => ?_)
      ·
        refine g_iconst (v := 0) (q := 86) C dX3_readTail_85 (by decide) rfl ?_
        refine g_istore_n (q := 87) C dX3_readTail_86 (Nat.le_of_ble_eq_true rfl) (by simp only [gset]; rfl) rfl ?_
        refine g_iconst (v := 1) (q := 88) C dX3_readTail_87 (by decide) rfl ?_
        refine g_istore (q := 90) C dX3_readTail_88 (Nat.le_of_ble_eq_true rfl) (by simp only [gset]; rfl) rfl ?_
        have lt : p < t.length := by
          by_cases lt : p < t.length
          · exact lt
          · exact absurd (show nI t.length ≤ q1.f 8 by rw [ep]; exact nI_le (by omega) (by omega)) (by rw [Int32.not_le]; exact c_73)
        have LX : ∀ d j : Nat, j + d = p → gG X 90 [some (.ref 119), some (.ref 1), some (.int ((nI n))), some (.int ((rXo t j))), some (.int ((nI (j + 1))))] [] ha 0 0 := by
          intro d
          induction d with
          | zero =>
            intro j hj
            obtain rfl : j = p := by omega
            refine g_iload (q := 92) C dX3_readTail_90 rfl rfl ?_
            refine g_aload_n (q := 93) C dX3_readTail_92 rfl rfl ?_
            refine g_getfield (v := .int ((q1.f 8))) (q := 96) C fX3_79 dX3_readTail_93 rfl HQa.1 rfl ?_
            refine g_icmp_gt_t (t := 114) C dX3_readTail_96 (by decide) (by rw [ep]; exact nI_lt (by omega) (by omega)) ?_
            refine g_iload_n (q := 115) C dX3_readTail_114 rfl rfl ?_
            refine g_if_eq (t := 128) (q := 118) C dX3_readTail_115 (by decide) rfl (fun c_115 => ?_) (fun c_115 => ?_)
            ·
              refine g_aload_n (q := 129) C dX3_readTail_128 rfl rfl ?_
              refine g_dup (q := 130) C dX3_readTail_129 rfl rfl ?_
              refine g_getfield (v := .int ((q1.f 8))) (q := 133) C fX3_79 dX3_readTail_130 rfl HQa.1 rfl ?_
              refine g_iconst (v := 1) (q := 134) C dX3_readTail_133 (by decide) rfl ?_
              refine g_iadd (q := 135) C dX3_readTail_134 rfl ?_
              refine g_putfield (q := 138) C fX3_79 dX3_readTail_135 rfl HQa.1 (Nat.le_of_ble_eq_true rfl) (Or.inl rfl) rfl rfl (by intro z h; cases h) ?_
              refine rqput (j := 8) (x := ((q1.f 8) + 1)) HQa rfl fun h1 HQ1 fq1 => ?_
              have HT1 := gRw.ra HTa (by decide) fq1
              exact KE _ _ _ _ _ HQ1 HT1 (rqF.trans fqa fq1) (by rw [← hr, show rC t (0, (q1, l1)) = ((0 : Int32), (q1.set 8 (q1.f 8 + 1), l1)) from (if_pos rfl).trans ((if_neg c_62).trans ((if_neg (by rw [Int32.not_le]; exact c_73)).trans (if_pos (by rw [ep, nI_clamp (by omega)]; exact c_115))))])
            ·
              refine g_aload_n (q := 119) C dX3_readTail_118 rfl rfl ?_
              refine g_getfield (v := .int ((q1.f 8))) (q := 122) C fX3_79 dX3_readTail_119 rfl HQa.1 rfl ?_
              refine g_bipush (v := 6) (q := 124) C dX3_readTail_122 (by decide) rfl ?_
              refine g_callSi (x := (8 * (q1.f 8) + 6)) (q := 127) (As := [.int ((q1.f 8)), .int 6]) C gyX3_faultAt t_519 t_518 (c_X3_faultAt_x) dX3_readTail_124 rfl rfl rfl (Nat.le_of_ble_eq_true rfl) (Nat.le_of_ble_eq_true rfl) (Nat.le_of_ble_eq_true rfl) (Nat.le_of_ble_eq_true rfl) (Nat.le_of_ble_eq_true rfl) rfl ?_
              have hst : ¬ (((8 * q1.f 8 + 6, (q1, l1)) : Int32 × (rq × List Int32))).1 = 0 := gx8 (c := 6) (by decide) (by decide)
              have e : rC t (0, (q1, l1)) = (8 * q1.f 8 + 6, (q1, l1)) := (if_pos rfl).trans ((if_neg c_62).trans ((if_neg (by rw [Int32.not_le]; exact c_73)).trans (if_neg (by rw [ep, nI_clamp (by omega)]; exact c_115))))
              rw [e, rE_st hst] at hr
              exact E.1 _ _ _ _ _ _ _ dX3_readTail_127 rfl rfl (Nat.le_of_ble_eq_true rfl) (Nat.le_of_ble_eq_true rfl) ⟨by rw [hF, ← hr], by rw [hF, ← hr]; exact ⟨HQa, fqa⟩⟩
          | succ d ih =>
            intro j hj
            refine g_iload (q := 92) C dX3_readTail_90 rfl rfl ?_
            refine g_aload_n (q := 93) C dX3_readTail_92 rfl rfl ?_
            refine g_getfield (v := .int ((q1.f 8))) (q := 96) C fX3_79 dX3_readTail_93 rfl HQa.1 rfl ?_
            refine g_icmp_gt_f (t := 114) (q := 99) C dX3_readTail_96 (by decide) rfl (by rw [ep, nI_ltI (by omega) (by omega)]; omega) ?_
            refine g_iload_n (q := 100) C dX3_readTail_99 rfl rfl ?_
            refine g_aload_n (q := 101) C dX3_readTail_100 rfl rfl ?_
            refine g_iload (q := 103) C dX3_readTail_101 rfl rfl ?_
            refine g_callVi (x := (gat t (nI (j + 1)))) (q := 106) (As := [.int ((nI (j + 1)))]) C gyX4_at gvX4_at t_521 (c_X4_at_w HTa) dX3_readTail_103 rfl (gRw.obj HTa) rfl rfl rfl (Nat.le_of_ble_eq_true rfl) (Nat.le_of_ble_eq_true rfl) (Nat.le_of_ble_eq_true rfl) (Nat.le_of_ble_eq_true rfl) (Nat.le_of_ble_eq_true rfl) rfl ?_
            refine g_ixor (q := 107) C dX3_readTail_106 rfl ?_
            refine g_istore_n (q := 108) C dX3_readTail_107 (Nat.le_of_ble_eq_true rfl) (by simp only [gset]; rfl) rfl ?_
            refine g_iinc (v := (nI (j + 1 + 1))) (q := 111) C dX3_readTail_108 rfl (nI_1 (j + 1)) (by simp only [gset]; rfl) rfl ?_
            refine g_goto (q := 90) C dX3_readTail_111 (by decide) ?_
            exact ih (j + 1) (by omega)
        exact LX p 0 (by omega)
      ·
        refine g_aload_n (q := 77) C dX3_readTail_76 rfl rfl ?_
        refine g_getfield (v := .int ((q1.f 8))) (q := 80) C fX3_79 dX3_readTail_77 rfl HQa.1 rfl ?_
        refine g_iconst (v := 1) (q := 81) C dX3_readTail_80 (by decide) rfl ?_
        refine g_callSi (x := (8 * (q1.f 8) + 1)) (q := 84) (As := [.int ((q1.f 8)), .int 1]) C gyX3_faultAt t_519 t_518 (c_X3_faultAt_x) dX3_readTail_81 rfl rfl rfl (Nat.le_of_ble_eq_true rfl) (Nat.le_of_ble_eq_true rfl) (Nat.le_of_ble_eq_true rfl) (Nat.le_of_ble_eq_true rfl) (Nat.le_of_ble_eq_true rfl) rfl ?_
        have hst : ¬ (((8 * q1.f 8 + 1, (q1, l1)) : Int32 × (rq × List Int32))).1 = 0 := gx8 (c := 1) (by decide) (by decide)
        have e : rC t (0, (q1, l1)) = (8 * q1.f 8 + 1, (q1, l1)) := (if_pos rfl).trans ((if_neg c_62).trans (if_pos (Int32.not_lt.mp c_73)))
        rw [e, rE_st hst] at hr
        exact E.1 _ _ _ _ _ _ _ dX3_readTail_84 rfl rfl (Nat.le_of_ble_eq_true rfl) (Nat.le_of_ble_eq_true rfl) ⟨by rw [hF, ← hr], by rw [hF, ← hr]; exact ⟨HQa, fqa⟩⟩
  have KH : ∀ (d j : Nat) (q1 : rq) (l1 : List Int32) (ha : List gA) (x4 : Option Value), j + d = n → l1.length = j → rqH ha 119 q1 l1 → gRw ha 1 2 96 t → rqF 119 hp ha → rP t q1 → rE t (rC t (rH t d (0, (q1, l1)))) = F → gG X 2 [some (.ref 119), some (.ref 1), some (.int ((nI n))), some (.int ((nI j))), x4] [] ha 0 0 := by
    intro d
    induction d with
    | zero =>
      intro j q1 l1 ha x4 hj hl HQa HTa fqa hP hr
      obtain rfl : j = n := by omega
      refine g_iload_n (q := 3) C dX3_readTail_2 rfl rfl ?_
      refine g_iload_n (q := 4) C dX3_readTail_3 rfl rfl ?_
      refine g_icmp_ge_t (t := 58) C dX3_readTail_4 (by decide) (Int32.le_refl _) ?_
      exact KC q1 l1 ha _ _ HQa HTa fqa hP hr
    | succ d ih =>
      intro j q1 l1 ha x4 hj hl HQa HTa fqa hP hr
      obtain ⟨p, hp1, ep⟩ := hP
      refine g_iload_n (q := 3) C dX3_readTail_2 rfl rfl ?_
      refine g_iload_n (q := 4) C dX3_readTail_3 rfl rfl ?_
      refine g_icmp_ge_f (t := 58) (q := 7) C dX3_readTail_4 (by decide) rfl (by rw [Int32.not_le]; exact nI_lt (by omega) (by omega)) ?_
      refine g_aload_n (q := 8) C dX3_readTail_7 rfl rfl ?_
      refine g_getfield (v := .int ((q1.f 8))) (q := 11) C fX3_79 dX3_readTail_8 rfl HQa.1 rfl ?_
      refine g_aload_n (q := 12) C dX3_readTail_11 rfl rfl ?_
      refine g_callVi (x := (nI t.length)) (q := 15) (As := []) C gyX4_size gvX4_size t_517 (c_X4_size (gRw.obj HTa)) dX3_readTail_12 rfl (gRw.obj HTa) rfl rfl rfl (Nat.le_of_ble_eq_true rfl) (Nat.le_of_ble_eq_true rfl) (Nat.le_of_ble_eq_true rfl) (Nat.le_of_ble_eq_true rfl) (Nat.le_of_ble_eq_true rfl) rfl ?_
      refine g_icmp_lt (t := 27) (q := 18) C dX3_readTail_15 (by decide) rfl (fun c_15 => ?_) (fun c_15 => ?_)
      ·
        refine g_aload_n (q := 28) C dX3_readTail_27 rfl rfl ?_
        refine g_getfield (v := .ref 120) (q := 31) C fX3_14 dX3_readTail_28 rfl HQa.1 rfl ?_
        refine g_aload_n (q := 32) C dX3_readTail_31 rfl rfl ?_
        refine g_aload_n (q := 33) C dX3_readTail_32 rfl rfl ?_
        refine g_getfield (v := .int ((q1.f 8))) (q := 36) C fX3_79 dX3_readTail_33 rfl HQa.1 rfl ?_
        refine g_callVi (x := (gat t (q1.f 8))) (q := 39) (As := [.int ((q1.f 8))]) C gyX4_at gvX4_at t_521 (c_X4_at_w HTa) dX3_readTail_36 rfl (gRw.obj HTa) rfl rfl rfl (Nat.le_of_ble_eq_true rfl) (Nat.le_of_ble_eq_true rfl) (Nat.le_of_ble_eq_true rfl) (Nat.le_of_ble_eq_true rfl) (Nat.le_of_ble_eq_true rfl) rfl ?_
        refine g_callVvp (q := 42) (As := [.int ((gat t (q1.f 8)))]) C gyX4_add gvX4_add t_559 (c_X4_add_w HQa.2 (by omega)) dX3_readTail_39 rfl (gRw.obj HQa.2) rfl rfl rfl (Nat.le_of_ble_eq_true rfl) (Nat.le_of_ble_eq_true rfl) (Nat.le_of_ble_eq_true rfl) (Nat.le_of_ble_eq_true rfl) (Nat.le_of_ble_eq_true rfl) rfl (fun h2 z2 => ?_)
        obtain ⟨HQ2, fq2⟩ := rqrow HQa z2
        have HT2 := gRw.ra HTa (by decide) fq2
        refine g_aload_n (q := 43) C dX3_readTail_42 rfl rfl ?_
        refine g_dup (q := 44) C dX3_readTail_43 rfl rfl ?_
        refine g_getfield (v := .int ((q1.f 8))) (q := 47) C fX3_79 dX3_readTail_44 rfl HQ2.1 rfl ?_
        refine g_iconst (v := 1) (q := 48) C dX3_readTail_47 (by decide) rfl ?_
        refine g_iadd (q := 49) C dX3_readTail_48 rfl ?_
        refine g_putfield (q := 52) C fX3_79 dX3_readTail_49 rfl HQ2.1 (Nat.le_of_ble_eq_true rfl) (Or.inl rfl) rfl rfl (by intro z h; cases h) ?_
        refine rqput (j := 8) (x := ((q1.f 8) + 1)) HQ2 rfl fun h3 HQ3 fq3 => ?_
        have HT3 := gRw.ra HT2 (by decide) fq3
        refine g_iinc (v := (nI (j + 1))) (q := 55) C dX3_readTail_52 rfl (nI_1 j) (by simp only [gset]; rfl) rfl ?_
        have lt : p < t.length := by
          by_cases lt : p < t.length
          · exact lt
          · exact absurd (show nI t.length ≤ q1.f 8 by rw [ep]; exact nI_le (by omega) (by omega)) (by rw [Int32.not_le]; exact c_15)
        refine g_goto (q := 2) C dX3_readTail_55 (by decide) ?_
        exact ih (j + 1) _ _ _ _ (by omega) (by rw [List.length_append, hl]; rfl) HQ3 HT3 (rqF.trans (rqF.trans fqa fq2) fq3) ⟨p + 1, lt, by rw [rq.set_s, ep]; exact nI_1 p⟩ (by rw [← hr, show rH t (d + 1) (0, (q1, l1)) = rH t d (0, (q1.set 8 (q1.f 8 + 1), l1 ++ [gat t (q1.f 8)])) from (if_pos rfl).trans (if_neg (by rw [Int32.not_le]; exact c_15))])
      ·
        refine g_aload_n (q := 19) C dX3_readTail_18 rfl rfl ?_
        refine g_getfield (v := .int ((q1.f 8))) (q := 22) C fX3_79 dX3_readTail_19 rfl HQa.1 rfl ?_
        refine g_iconst (v := 1) (q := 23) C dX3_readTail_22 (by decide) rfl ?_
        refine g_callSi (x := (8 * (q1.f 8) + 1)) (q := 26) (As := [.int ((q1.f 8)), .int 1]) C gyX3_faultAt t_519 t_518 (c_X3_faultAt_x) dX3_readTail_23 rfl rfl rfl (Nat.le_of_ble_eq_true rfl) (Nat.le_of_ble_eq_true rfl) (Nat.le_of_ble_eq_true rfl) (Nat.le_of_ble_eq_true rfl) (Nat.le_of_ble_eq_true rfl) rfl ?_
        have hst : ¬ (((8 * q1.f 8 + 1, (q1, l1)) : Int32 × (rq × List Int32))).1 = 0 := gx8 (c := 1) (by decide) (by decide)
        have e : rH t (d + 1) (0, (q1, l1)) = (8 * q1.f 8 + 1, (q1, l1)) := (if_pos rfl).trans (if_pos (Int32.not_lt.mp c_15))
        rw [e, rC_st hst, rE_st hst] at hr
        exact E.1 _ _ _ _ _ _ _ dX3_readTail_26 rfl rfl (Nat.le_of_ble_eq_true rfl) (Nat.le_of_ble_eq_true rfl) ⟨by rw [hF, ← hr], by rw [hF, ← hr]; exact ⟨HQa, fqa⟩⟩
  refine g_iconst (v := 0) (q := 1) C dX3_readTail_0 (by decide) rfl ?_
  refine g_istore_n (q := 2) C dX3_readTail_1 (Nat.le_of_ble_eq_true rfl) (by simp only [gset]; rfl) rfl ?_
  exact KH n 0 q [] hp _ (by omega) rfl HQ HT rqF.rf hP hF
set_option maxRecDepth 100000 in
set_option maxHeartbeats 4000000 in
theorem c_X3_read_119 {hp : List gA} {q : rq} {l t : List Int32} (HQ : rqH hp 119 q l) (HT : gRw hp 1 2 96 t) : gM yX3_read cX3_read 3 ((some .int)) 4 127 [.ref 119, .ref 1] (hp) (0) (0) (fun v h => v = some (.int (rRd q t).1) ∧ (rqH h 119 (rRd q t).2.1 (rRd q t).2.2 ∧ rqF 119 hp h)) := by
  refine gM_of (ls0 := [some (.ref 119), some (.ref 1), none]) (by decide +kernel) (Nat.le_of_ble_eq_true rfl) rfl fun X C E => ?_
  have ht := (gRw.le HT).1
  refine g_aload_n (q := 1) C dX3_read_0 rfl rfl ?_
  refine g_callVvp (q := 4) (As := []) C gyX3_clear gvX3_clear t_508 (c_X3_clear_119 HQ) dX3_read_1 rfl HQ.1 rfl rfl rfl (Nat.le_of_ble_eq_true rfl) (Nat.le_of_ble_eq_true rfl) (Nat.le_of_ble_eq_true rfl) (Nat.le_of_ble_eq_true rfl) (Nat.le_of_ble_eq_true rfl) rfl (fun h1 z1 => ?_)
  obtain ⟨HQ1, fq1⟩ := z1
  have HT1 := gRw.ra HT (by decide) fq1
  refine g_aload_n (q := 5) C dX3_read_4 rfl rfl ?_
  refine g_aload_n (q := 6) C dX3_read_5 rfl rfl ?_
  refine g_callVix (x := (rX3_readHead (rX3_clear q) t).1) (q := 9) (As := [.ref 1]) C gyX3_readHead gvX3_readHead t_513 (c_X3_readHead_119 HQ1 HT1) dX3_read_6 rfl HQ1.1 rfl rfl rfl (Nat.le_of_ble_eq_true rfl) (Nat.le_of_ble_eq_true rfl) (Nat.le_of_ble_eq_true rfl) (Nat.le_of_ble_eq_true rfl) (Nat.le_of_ble_eq_true rfl) rfl (fun h2 z2 => ?_)
  obtain ⟨HQ2, fq2⟩ := z2
  have HT2 := gRw.ra HT1 (by decide) fq2
  refine g_istore_n (q := 10) C dX3_read_9 (Nat.le_of_ble_eq_true rfl) (by simp only [gset]; rfl) rfl ?_
  refine g_iload_n (q := 11) C dX3_read_10 rfl rfl ?_
  refine g_if_ne (t := 20) (q := 14) C dX3_read_11 (by decide) rfl (fun c_11 => ?_) (fun c_11 => ?_)
  ·
    refine g_iload_n (q := 21) C dX3_read_20 rfl rfl ?_
    refine g_if_ne (t := 38) (q := 24) C dX3_read_21 (by decide) rfl (fun c_21 => ?_) (fun c_21 => ?_)
    ·
      refine g_iload_n (q := 39) C dX3_read_38 rfl rfl ?_
      have e : rRd q t = ((rX3_readHead (rX3_clear q) t).1, ((rX3_readHead (rX3_clear q) t).2, [])) := (if_neg c_11)
      exact E.1 _ _ _ _ _ _ _ dX3_read_39 rfl rfl (Nat.le_of_ble_eq_true rfl) (Nat.le_of_ble_eq_true rfl) ⟨by rw [e], by rw [e]; exact ⟨HQ2, (rqF.trans fq1 fq2)⟩⟩
    ·
      exact absurd c_21 c_11
  ·
    refine g_aload_n (q := 15) C dX3_read_14 rfl rfl ?_
    refine g_aload_n (q := 16) C dX3_read_15 rfl rfl ?_
    refine g_callVix (x := (rGs t 4 1 (0, (rX3_readHead (rX3_clear q) t).2)).1) (q := 19) (As := [.ref 1]) C gyX3_readGroups gvX3_readGroups t_525 (c_X3_readGroups_119 HQ2 HT2) dX3_read_16 rfl HQ2.1 rfl rfl rfl (Nat.le_of_ble_eq_true rfl) (Nat.le_of_ble_eq_true rfl) (Nat.le_of_ble_eq_true rfl) (Nat.le_of_ble_eq_true rfl) (Nat.le_of_ble_eq_true rfl) rfl (fun h3 z3 => ?_)
    obtain ⟨HQ3, fq3⟩ := z3
    have HT3 := gRw.ra HT2 (by decide) fq3
    refine g_istore_n (q := 20) C dX3_read_19 (Nat.le_of_ble_eq_true rfl) (by simp only [gset]; rfl) rfl ?_
    refine g_iload_n (q := 21) C dX3_read_20 rfl rfl ?_
    refine g_if_ne (t := 38) (q := 24) C dX3_read_21 (by decide) rfl (fun c_21 => ?_) (fun c_21 => ?_)
    ·
      refine g_iload_n (q := 39) C dX3_read_38 rfl rfl ?_
      have e : rRd q t = ((rGs t 4 1 (0, (rX3_readHead (rX3_clear q) t).2)).1, ((rGs t 4 1 (0, (rX3_readHead (rX3_clear q) t).2)).2, [])) := (if_pos (c_11)).trans (if_neg c_21)
      exact E.1 _ _ _ _ _ _ _ dX3_read_39 rfl rfl (Nat.le_of_ble_eq_true rfl) (Nat.le_of_ble_eq_true rfl) ⟨by rw [e], by rw [e]; exact ⟨HQ3, (rqF.trans (rqF.trans fq1 fq2) fq3)⟩⟩
    ·
      have h0 : (rX3_readHead (rX3_clear q) t).1 = 0 := c_11
      have h1 : (rGs t 4 1 (0, (rX3_readHead (rX3_clear q) t).2)).1 = 0 := c_21
      obtain ⟨n, hn, en⟩ := raAnd15 (a := gat t 1)
      refine g_aload_n (q := 25) C dX3_read_24 rfl rfl ?_
      refine g_aload_n (q := 26) C dX3_read_25 rfl rfl ?_
      refine g_aload_n (q := 27) C dX3_read_26 rfl rfl ?_
      refine g_iconst (v := 1) (q := 28) C dX3_read_27 (by decide) rfl ?_
      refine g_callVi (x := (gat t 1)) (q := 31) (As := [.int 1]) C gyX4_at gvX4_at t_521 (c_X4_at_w HT3) dX3_read_28 rfl (gRw.obj HT3) rfl rfl rfl (Nat.le_of_ble_eq_true rfl) (Nat.le_of_ble_eq_true rfl) (Nat.le_of_ble_eq_true rfl) (Nat.le_of_ble_eq_true rfl) (Nat.le_of_ble_eq_true rfl) rfl ?_
      refine g_bipush (v := 15) (q := 33) C dX3_read_31 (by decide) rfl ?_
      refine g_iand (q := 34) C dX3_read_33 rfl ?_
      rw [en]
      refine g_callVix (x := (rE t (rC t (rH t n (0, ((rGs t 4 1 (0, (rX3_readHead (rX3_clear q) t).2)).2, []))))).1) (q := 37) (As := [.ref 1, .int ((nI n))]) C gyX3_readTail gvX3_readTail t_555 (c_X3_readTail_119 HQ3 HT3 hn (rGs_P ht (fun _ => (rHead0 ht h0).1) h1)) dX3_read_34 rfl HQ3.1 rfl rfl rfl (Nat.le_of_ble_eq_true rfl) (Nat.le_of_ble_eq_true rfl) (Nat.le_of_ble_eq_true rfl) (Nat.le_of_ble_eq_true rfl) (Nat.le_of_ble_eq_true rfl) rfl (fun h4 z4 => ?_)
      obtain ⟨HQ4, fq4⟩ := z4
      have HT4 := gRw.ra HT3 (by decide) fq4
      refine g_istore_n (q := 38) C dX3_read_37 (Nat.le_of_ble_eq_true rfl) (by simp only [gset]; rfl) rfl ?_
      refine g_iload_n (q := 39) C dX3_read_38 rfl rfl ?_
      have e : rRd q t = rE t (rC t (rH t n (0, ((rGs t 4 1 (0, (rX3_readHead (rX3_clear q) t).2)).2, [])))) := (if_pos h0).trans ((if_pos h1).trans (by rw [en, nI_clamp (by omega)]))
      exact E.1 _ _ _ _ _ _ _ dX3_read_39 rfl rfl (Nat.le_of_ble_eq_true rfl) (Nat.le_of_ble_eq_true rfl) ⟨by rw [e], by rw [e]; exact ⟨HQ4, (rqF.trans (rqF.trans (rqF.trans fq1 fq2) fq3) fq4)⟩⟩
def rX3_historicalBytes (q : rq) (l : List Int32) : Int32 := (nI l.length)
theorem dX3_historicalBytes_0 : decode cX3_historicalBytes 0 = .ok (.aload_n 0, 1) := by decide +kernel
theorem dX3_historicalBytes_1 : decode cX3_historicalBytes 1 = .ok (.getfield 14, 3) := by decide +kernel
theorem dX3_historicalBytes_4 : decode cX3_historicalBytes 4 = .ok (.invokevirtual 65, 3) := by decide +kernel
theorem dX3_historicalBytes_7 : decode cX3_historicalBytes 7 = .ok (.ireturn, 1) := by decide +kernel
set_option maxRecDepth 100000 in
set_option maxHeartbeats 4000000 in
theorem c_X3_historicalBytes_116 {hp : List gA} {q : rq} {l : List Int32} (HQ : rqH hp 116 q l) : gM yX3_historicalBytes cX3_historicalBytes 1 ((some .int)) 1 20 [.ref 116] (hp) (0) (0) (fun v h => v = some (.int (rX3_historicalBytes q l)) ∧ h = hp) := by
  refine gM_of (ls0 := [some (.ref 116)]) (by decide +kernel) (Nat.le_of_ble_eq_true rfl) rfl fun X C E => ?_
  refine g_aload_n (q := 1) C dX3_historicalBytes_0 rfl rfl ?_
  refine g_getfield (v := .ref 117) (q := 4) C fX3_14 dX3_historicalBytes_1 rfl HQ.1 rfl ?_
  refine g_callVi (x := (nI l.length)) (q := 7) (As := []) C gyX4_size gvX4_size t_517 (c_X4_size (gRw.obj HQ.2)) dX3_historicalBytes_4 rfl (gRw.obj HQ.2) rfl rfl rfl (Nat.le_of_ble_eq_true rfl) (Nat.le_of_ble_eq_true rfl) (Nat.le_of_ble_eq_true rfl) (Nat.le_of_ble_eq_true rfl) (Nat.le_of_ble_eq_true rfl) rfl ?_
  have e : rX3_historicalBytes q l = (nI l.length) := rfl
  exact E.1 _ _ _ _ _ _ _ dX3_historicalBytes_7 rfl rfl (Nat.le_of_ble_eq_true rfl) (Nat.le_of_ble_eq_true rfl) ⟨by rw [e], rfl⟩
def rX3_historicalByte (q : rq) (l : List Int32) (y : Int32) : Int32 := (gat l y)
theorem dX3_historicalByte_0 : decode cX3_historicalByte 0 = .ok (.aload_n 0, 1) := by decide +kernel
theorem dX3_historicalByte_1 : decode cX3_historicalByte 1 = .ok (.getfield 14, 3) := by decide +kernel
theorem dX3_historicalByte_4 : decode cX3_historicalByte 4 = .ok (.iload_n 1, 1) := by decide +kernel
theorem dX3_historicalByte_5 : decode cX3_historicalByte 5 = .ok (.invokevirtual 30, 3) := by decide +kernel
theorem dX3_historicalByte_8 : decode cX3_historicalByte 8 = .ok (.ireturn, 1) := by decide +kernel
set_option maxRecDepth 100000 in
set_option maxHeartbeats 4000000 in
theorem c_X3_historicalByte_116 {hp : List gA} {q : rq} {l : List Int32} {y : Int32} (HQ : rqH hp 116 q l) : gM yX3_historicalByte cX3_historicalByte 2 ((some .int)) 1 21 [.ref 116, .int y] (hp) (0) (0) (fun v h => v = some (.int (rX3_historicalByte q l y)) ∧ h = hp) := by
  refine gM_of (ls0 := [some (.ref 116), some (.int y)]) (by decide +kernel) (Nat.le_of_ble_eq_true rfl) rfl fun X C E => ?_
  refine g_aload_n (q := 1) C dX3_historicalByte_0 rfl rfl ?_
  refine g_getfield (v := .ref 117) (q := 4) C fX3_14 dX3_historicalByte_1 rfl HQ.1 rfl ?_
  refine g_iload_n (q := 5) C dX3_historicalByte_4 rfl rfl ?_
  refine g_callVi (x := (gat l y)) (q := 8) (As := [.int y]) C gyX4_at gvX4_at t_521 (c_X4_at_w HQ.2) dX3_historicalByte_5 rfl (gRw.obj HQ.2) rfl rfl rfl (Nat.le_of_ble_eq_true rfl) (Nat.le_of_ble_eq_true rfl) (Nat.le_of_ble_eq_true rfl) (Nat.le_of_ble_eq_true rfl) (Nat.le_of_ble_eq_true rfl) rfl ?_
  have e : rX3_historicalByte q l y = (gat l y) := rfl
  exact E.1 _ _ _ _ _ _ _ dX3_historicalByte_8 rfl rfl (Nat.le_of_ble_eq_true rfl) (Nat.le_of_ble_eq_true rfl) ⟨by rw [e], rfl⟩
def rX3_cardRoom (q : rq) (l : List Int32) : Int32 := (q.f 5)
theorem dX3_cardRoom_0 : decode cX3_cardRoom 0 = .ok (.aload_n 0, 1) := by decide +kernel
theorem dX3_cardRoom_1 : decode cX3_cardRoom 1 = .ok (.getfield 51, 3) := by decide +kernel
theorem dX3_cardRoom_4 : decode cX3_cardRoom 4 = .ok (.ireturn, 1) := by decide +kernel
set_option maxRecDepth 100000 in
set_option maxHeartbeats 4000000 in
theorem c_X3_cardRoom_116 {hp : List gA} {q : rq} {l : List Int32} (HQ : rqH hp 116 q l) : gM yX3_cardRoom cX3_cardRoom 1 ((some .int)) 0 0 [.ref 116] (hp) (0) (0) (fun v h => v = some (.int (rX3_cardRoom q l)) ∧ h = hp) := by
  refine gM_of (ls0 := [some (.ref 116)]) (by decide +kernel) (Nat.le_of_ble_eq_true rfl) rfl fun X C E => ?_
  refine g_aload_n (q := 1) C dX3_cardRoom_0 rfl rfl ?_
  refine g_getfield (v := .int ((q.f 5))) (q := 4) C fX3_51 dX3_cardRoom_1 rfl HQ.1 rfl ?_
  have e : rX3_cardRoom q l = (q.f 5) := rfl
  exact E.1 _ _ _ _ _ _ _ dX3_cardRoom_4 rfl rfl (Nat.le_of_ble_eq_true rfl) (Nat.le_of_ble_eq_true rfl) ⟨by rw [e], rfl⟩
def rX3_tell (q : rq) (l : List Int32) (y : Int32) : Int32 := (if y = 0 then (q.f 0) else (if y = 1 then (rX3_clockOf (q.f 1)) else (if y = 2 then (rX3_divisorOf (q.f 1)) else (if y = 3 then (q.f 2) else (if y = 4 then (q.f 3) else (if y = 5 then (q.f 4) else (if y = 6 then (nI l.length) else (if y = 7 then (q.f 5) else (if y = 8 then (if (q.f 6) = 0 then 0 else 1) else (-1))))))))))
theorem dX3_tell_0 : decode cX3_tell 0 = .ok (.iload_n 1, 1) := by decide +kernel
theorem dX3_tell_1 : decode cX3_tell 1 = .ok (.tableswitch 113 0 8 #[51, 56, 64, 72, 77, 82, 87, 95, 100], 51) := by decide +kernel
theorem dX3_tell_52 : decode cX3_tell 52 = .ok (.aload_n 0, 1) := by decide +kernel
theorem dX3_tell_53 : decode cX3_tell 53 = .ok (.getfield 73, 3) := by decide +kernel
theorem dX3_tell_56 : decode cX3_tell 56 = .ok (.ireturn, 1) := by decide +kernel
theorem dX3_tell_57 : decode cX3_tell 57 = .ok (.aload_n 0, 1) := by decide +kernel
theorem dX3_tell_58 : decode cX3_tell 58 = .ok (.getfield 38, 3) := by decide +kernel
theorem dX3_tell_61 : decode cX3_tell 61 = .ok (.invokestatic 95, 3) := by decide +kernel
theorem dX3_tell_64 : decode cX3_tell 64 = .ok (.ireturn, 1) := by decide +kernel
theorem dX3_tell_65 : decode cX3_tell 65 = .ok (.aload_n 0, 1) := by decide +kernel
theorem dX3_tell_66 : decode cX3_tell 66 = .ok (.getfield 38, 3) := by decide +kernel
theorem dX3_tell_69 : decode cX3_tell 69 = .ok (.invokestatic 98, 3) := by decide +kernel
theorem dX3_tell_72 : decode cX3_tell 72 = .ok (.ireturn, 1) := by decide +kernel
theorem dX3_tell_73 : decode cX3_tell 73 = .ok (.aload_n 0, 1) := by decide +kernel
theorem dX3_tell_74 : decode cX3_tell 74 = .ok (.getfield 42, 3) := by decide +kernel
theorem dX3_tell_77 : decode cX3_tell 77 = .ok (.ireturn, 1) := by decide +kernel
theorem dX3_tell_78 : decode cX3_tell 78 = .ok (.aload_n 0, 1) := by decide +kernel
theorem dX3_tell_79 : decode cX3_tell 79 = .ok (.getfield 45, 3) := by decide +kernel
theorem dX3_tell_82 : decode cX3_tell 82 = .ok (.ireturn, 1) := by decide +kernel
theorem dX3_tell_83 : decode cX3_tell 83 = .ok (.aload_n 0, 1) := by decide +kernel
theorem dX3_tell_84 : decode cX3_tell 84 = .ok (.getfield 48, 3) := by decide +kernel
theorem dX3_tell_87 : decode cX3_tell 87 = .ok (.ireturn, 1) := by decide +kernel
theorem dX3_tell_88 : decode cX3_tell 88 = .ok (.aload_n 0, 1) := by decide +kernel
theorem dX3_tell_89 : decode cX3_tell 89 = .ok (.getfield 14, 3) := by decide +kernel
theorem dX3_tell_92 : decode cX3_tell 92 = .ok (.invokevirtual 65, 3) := by decide +kernel
theorem dX3_tell_95 : decode cX3_tell 95 = .ok (.ireturn, 1) := by decide +kernel
theorem dX3_tell_96 : decode cX3_tell 96 = .ok (.aload_n 0, 1) := by decide +kernel
theorem dX3_tell_97 : decode cX3_tell 97 = .ok (.getfield 51, 3) := by decide +kernel
theorem dX3_tell_100 : decode cX3_tell 100 = .ok (.ireturn, 1) := by decide +kernel
theorem dX3_tell_101 : decode cX3_tell 101 = .ok (.aload_n 0, 1) := by decide +kernel
theorem dX3_tell_102 : decode cX3_tell 102 = .ok (.getfield 54, 3) := by decide +kernel
theorem dX3_tell_105 : decode cX3_tell 105 = .ok (.ifCond .eq 7, 3) := by decide +kernel
theorem dX3_tell_108 : decode cX3_tell 108 = .ok (.iconst 1, 1) := by decide +kernel
theorem dX3_tell_109 : decode cX3_tell 109 = .ok (.goto 4, 3) := by decide +kernel
theorem dX3_tell_112 : decode cX3_tell 112 = .ok (.iconst 0, 1) := by decide +kernel
theorem dX3_tell_113 : decode cX3_tell 113 = .ok (.ireturn, 1) := by decide +kernel
theorem dX3_tell_114 : decode cX3_tell 114 = .ok (.iconst (-1), 1) := by decide +kernel
theorem dX3_tell_115 : decode cX3_tell 115 = .ok (.ireturn, 1) := by decide +kernel
set_option maxRecDepth 100000 in
set_option maxHeartbeats 4000000 in
theorem c_X3_tell_116 {hp : List gA} {q : rq} {l : List Int32} {y : Int32} (HQ : rqH hp 116 q l) : gM yX3_tell cX3_tell 2 ((some .int)) 1 21 [.ref 116, .int y] (hp) (0) (0) (fun v h => v = some (.int (rX3_tell q l y)) ∧ h = hp) := by
  refine gM_of (ls0 := [some (.ref 116), some (.int y)]) (by decide +kernel) (Nat.le_of_ble_eq_true rfl) rfl fun X C E => ?_
  refine g_iload_n (q := 1) C dX3_tell_0 rfl rfl ?_
  by_cases c_1_0 : y = 0
  ·
    refine g_tableE (v := 0) (off := 51) (t := 52) C dX3_tell_1 c_1_0 (by decide) (by decide) (by decide) (by decide) ?_
    refine g_aload_n (q := 53) C dX3_tell_52 rfl rfl ?_
    refine g_getfield (v := .int ((q.f 0))) (q := 56) C fX3_73 dX3_tell_53 rfl HQ.1 rfl ?_
    have e : rX3_tell q l y = (q.f 0) := (if_pos c_1_0)
    exact E.1 _ _ _ _ _ _ _ dX3_tell_56 rfl rfl (Nat.le_of_ble_eq_true rfl) (Nat.le_of_ble_eq_true rfl) ⟨by rw [e], rfl⟩
  by_cases c_1_1 : y = 1
  ·
    refine g_tableE (v := 1) (off := 56) (t := 57) C dX3_tell_1 c_1_1 (by decide) (by decide) (by decide) (by decide) ?_
    refine g_aload_n (q := 58) C dX3_tell_57 rfl rfl ?_
    refine g_getfield (v := .int ((q.f 1))) (q := 61) C fX3_38 dX3_tell_58 rfl HQ.1 rfl ?_
    refine g_callSi (x := (rX3_clockOf (q.f 1))) (q := 64) (As := [.int ((q.f 1))]) C gyX3_clockOf t_542 t_541 (c_X3_clockOf_x) dX3_tell_61 rfl rfl rfl (Nat.le_of_ble_eq_true rfl) (Nat.le_of_ble_eq_true rfl) (Nat.le_of_ble_eq_true rfl) (Nat.le_of_ble_eq_true rfl) (Nat.le_of_ble_eq_true rfl) rfl ?_
    have e : rX3_tell q l y = (rX3_clockOf (q.f 1)) := ((if_neg c_1_0).trans (if_pos c_1_1))
    exact E.1 _ _ _ _ _ _ _ dX3_tell_64 rfl rfl (Nat.le_of_ble_eq_true rfl) (Nat.le_of_ble_eq_true rfl) ⟨by rw [e], rfl⟩
  by_cases c_1_2 : y = 2
  ·
    refine g_tableE (v := 2) (off := 64) (t := 65) C dX3_tell_1 c_1_2 (by decide) (by decide) (by decide) (by decide) ?_
    refine g_aload_n (q := 66) C dX3_tell_65 rfl rfl ?_
    refine g_getfield (v := .int ((q.f 1))) (q := 69) C fX3_38 dX3_tell_66 rfl HQ.1 rfl ?_
    refine g_callSi (x := (rX3_divisorOf (q.f 1))) (q := 72) (As := [.int ((q.f 1))]) C gyX3_divisorOf t_547 t_546 (c_X3_divisorOf_x) dX3_tell_69 rfl rfl rfl (Nat.le_of_ble_eq_true rfl) (Nat.le_of_ble_eq_true rfl) (Nat.le_of_ble_eq_true rfl) (Nat.le_of_ble_eq_true rfl) (Nat.le_of_ble_eq_true rfl) rfl ?_
    have e : rX3_tell q l y = (rX3_divisorOf (q.f 1)) := ((if_neg c_1_0).trans ((if_neg c_1_1).trans (if_pos c_1_2)))
    exact E.1 _ _ _ _ _ _ _ dX3_tell_72 rfl rfl (Nat.le_of_ble_eq_true rfl) (Nat.le_of_ble_eq_true rfl) ⟨by rw [e], rfl⟩
  by_cases c_1_3 : y = 3
  ·
    refine g_tableE (v := 3) (off := 72) (t := 73) C dX3_tell_1 c_1_3 (by decide) (by decide) (by decide) (by decide) ?_
    refine g_aload_n (q := 74) C dX3_tell_73 rfl rfl ?_
    refine g_getfield (v := .int ((q.f 2))) (q := 77) C fX3_42 dX3_tell_74 rfl HQ.1 rfl ?_
    have e : rX3_tell q l y = (q.f 2) := ((if_neg c_1_0).trans ((if_neg c_1_1).trans ((if_neg c_1_2).trans (if_pos c_1_3))))
    exact E.1 _ _ _ _ _ _ _ dX3_tell_77 rfl rfl (Nat.le_of_ble_eq_true rfl) (Nat.le_of_ble_eq_true rfl) ⟨by rw [e], rfl⟩
  by_cases c_1_4 : y = 4
  ·
    refine g_tableE (v := 4) (off := 77) (t := 78) C dX3_tell_1 c_1_4 (by decide) (by decide) (by decide) (by decide) ?_
    refine g_aload_n (q := 79) C dX3_tell_78 rfl rfl ?_
    refine g_getfield (v := .int ((q.f 3))) (q := 82) C fX3_45 dX3_tell_79 rfl HQ.1 rfl ?_
    have e : rX3_tell q l y = (q.f 3) := ((if_neg c_1_0).trans ((if_neg c_1_1).trans ((if_neg c_1_2).trans ((if_neg c_1_3).trans (if_pos c_1_4)))))
    exact E.1 _ _ _ _ _ _ _ dX3_tell_82 rfl rfl (Nat.le_of_ble_eq_true rfl) (Nat.le_of_ble_eq_true rfl) ⟨by rw [e], rfl⟩
  by_cases c_1_5 : y = 5
  ·
    refine g_tableE (v := 5) (off := 82) (t := 83) C dX3_tell_1 c_1_5 (by decide) (by decide) (by decide) (by decide) ?_
    refine g_aload_n (q := 84) C dX3_tell_83 rfl rfl ?_
    refine g_getfield (v := .int ((q.f 4))) (q := 87) C fX3_48 dX3_tell_84 rfl HQ.1 rfl ?_
    have e : rX3_tell q l y = (q.f 4) := ((if_neg c_1_0).trans ((if_neg c_1_1).trans ((if_neg c_1_2).trans ((if_neg c_1_3).trans ((if_neg c_1_4).trans (if_pos c_1_5))))))
    exact E.1 _ _ _ _ _ _ _ dX3_tell_87 rfl rfl (Nat.le_of_ble_eq_true rfl) (Nat.le_of_ble_eq_true rfl) ⟨by rw [e], rfl⟩
  by_cases c_1_6 : y = 6
  ·
    refine g_tableE (v := 6) (off := 87) (t := 88) C dX3_tell_1 c_1_6 (by decide) (by decide) (by decide) (by decide) ?_
    refine g_aload_n (q := 89) C dX3_tell_88 rfl rfl ?_
    refine g_getfield (v := .ref 117) (q := 92) C fX3_14 dX3_tell_89 rfl HQ.1 rfl ?_
    refine g_callVi (x := (nI l.length)) (q := 95) (As := []) C gyX4_size gvX4_size t_517 (c_X4_size (gRw.obj HQ.2)) dX3_tell_92 rfl (gRw.obj HQ.2) rfl rfl rfl (Nat.le_of_ble_eq_true rfl) (Nat.le_of_ble_eq_true rfl) (Nat.le_of_ble_eq_true rfl) (Nat.le_of_ble_eq_true rfl) (Nat.le_of_ble_eq_true rfl) rfl ?_
    have e : rX3_tell q l y = (nI l.length) := ((if_neg c_1_0).trans ((if_neg c_1_1).trans ((if_neg c_1_2).trans ((if_neg c_1_3).trans ((if_neg c_1_4).trans ((if_neg c_1_5).trans (if_pos c_1_6)))))))
    exact E.1 _ _ _ _ _ _ _ dX3_tell_95 rfl rfl (Nat.le_of_ble_eq_true rfl) (Nat.le_of_ble_eq_true rfl) ⟨by rw [e], rfl⟩
  by_cases c_1_7 : y = 7
  ·
    refine g_tableE (v := 7) (off := 95) (t := 96) C dX3_tell_1 c_1_7 (by decide) (by decide) (by decide) (by decide) ?_
    refine g_aload_n (q := 97) C dX3_tell_96 rfl rfl ?_
    refine g_getfield (v := .int ((q.f 5))) (q := 100) C fX3_51 dX3_tell_97 rfl HQ.1 rfl ?_
    have e : rX3_tell q l y = (q.f 5) := ((if_neg c_1_0).trans ((if_neg c_1_1).trans ((if_neg c_1_2).trans ((if_neg c_1_3).trans ((if_neg c_1_4).trans ((if_neg c_1_5).trans ((if_neg c_1_6).trans (if_pos c_1_7))))))))
    exact E.1 _ _ _ _ _ _ _ dX3_tell_100 rfl rfl (Nat.le_of_ble_eq_true rfl) (Nat.le_of_ble_eq_true rfl) ⟨by rw [e], rfl⟩
  by_cases c_1_8 : y = 8
  ·
    refine g_tableE (v := 8) (off := 100) (t := 101) C dX3_tell_1 c_1_8 (by decide) (by decide) (by decide) (by decide) ?_
    refine g_aload_n (q := 102) C dX3_tell_101 rfl rfl ?_
    refine g_getfield (v := .int ((q.f 6))) (q := 105) C fX3_54 dX3_tell_102 rfl HQ.1 rfl ?_
    refine g_if_eq (t := 112) (q := 108) C dX3_tell_105 (by decide) rfl (fun c_105 => ?_) (fun c_105 => ?_)
    ·
      refine g_iconst (v := 0) (q := 113) C dX3_tell_112 (by decide) rfl ?_
      have e : rX3_tell q l y = 0 := ((if_neg c_1_0).trans ((if_neg c_1_1).trans ((if_neg c_1_2).trans ((if_neg c_1_3).trans ((if_neg c_1_4).trans ((if_neg c_1_5).trans ((if_neg c_1_6).trans ((if_neg c_1_7).trans ((if_pos c_1_8).trans (if_pos c_105))))))))))
      exact E.1 _ _ _ _ _ _ _ dX3_tell_113 rfl rfl (Nat.le_of_ble_eq_true rfl) (Nat.le_of_ble_eq_true rfl) ⟨by rw [e], rfl⟩
    ·
      refine g_iconst (v := 1) (q := 109) C dX3_tell_108 (by decide) rfl ?_
      refine g_goto (q := 113) C dX3_tell_109 (by decide) ?_
      have e : rX3_tell q l y = 1 := ((if_neg c_1_0).trans ((if_neg c_1_1).trans ((if_neg c_1_2).trans ((if_neg c_1_3).trans ((if_neg c_1_4).trans ((if_neg c_1_5).trans ((if_neg c_1_6).trans ((if_neg c_1_7).trans ((if_pos c_1_8).trans (if_neg c_105))))))))))
      exact E.1 _ _ _ _ _ _ _ dX3_tell_113 rfl rfl (Nat.le_of_ble_eq_true rfl) (Nat.le_of_ble_eq_true rfl) ⟨by rw [e], rfl⟩
  refine g_tableOut (t := 114) C dX3_tell_1 (gOut9 c_1_0 c_1_1 c_1_2 c_1_3 c_1_4 c_1_5 c_1_6 c_1_7 c_1_8) (by decide) ?_
  refine g_iconst (v := (-1)) (q := 115) C dX3_tell_114 (by decide) rfl ?_
  have e : rX3_tell q l y = (-1) := ((if_neg c_1_0).trans ((if_neg c_1_1).trans ((if_neg c_1_2).trans ((if_neg c_1_3).trans ((if_neg c_1_4).trans ((if_neg c_1_5).trans ((if_neg c_1_6).trans ((if_neg c_1_7).trans (if_neg c_1_8)))))))))
  exact E.1 _ _ _ _ _ _ _ dX3_tell_115 rfl rfl (Nat.le_of_ble_eq_true rfl) (Nat.le_of_ble_eq_true rfl) ⟨by rw [e], rfl⟩
set_option maxRecDepth 100000 in
set_option maxHeartbeats 4000000 in
theorem c_X3_historicalBytes_119 {hp : List gA} {q : rq} {l : List Int32} (HQ : rqH hp 119 q l) : gM yX3_historicalBytes cX3_historicalBytes 1 ((some .int)) 1 20 [.ref 119] (hp) (0) (0) (fun v h => v = some (.int (rX3_historicalBytes q l)) ∧ h = hp) := by
  refine gM_of (ls0 := [some (.ref 119)]) (by decide +kernel) (Nat.le_of_ble_eq_true rfl) rfl fun X C E => ?_
  refine g_aload_n (q := 1) C dX3_historicalBytes_0 rfl rfl ?_
  refine g_getfield (v := .ref 120) (q := 4) C fX3_14 dX3_historicalBytes_1 rfl HQ.1 rfl ?_
  refine g_callVi (x := (nI l.length)) (q := 7) (As := []) C gyX4_size gvX4_size t_517 (c_X4_size (gRw.obj HQ.2)) dX3_historicalBytes_4 rfl (gRw.obj HQ.2) rfl rfl rfl (Nat.le_of_ble_eq_true rfl) (Nat.le_of_ble_eq_true rfl) (Nat.le_of_ble_eq_true rfl) (Nat.le_of_ble_eq_true rfl) (Nat.le_of_ble_eq_true rfl) rfl ?_
  have e : rX3_historicalBytes q l = (nI l.length) := rfl
  exact E.1 _ _ _ _ _ _ _ dX3_historicalBytes_7 rfl rfl (Nat.le_of_ble_eq_true rfl) (Nat.le_of_ble_eq_true rfl) ⟨by rw [e], rfl⟩
set_option maxRecDepth 100000 in
set_option maxHeartbeats 4000000 in
theorem c_X3_historicalByte_119 {hp : List gA} {q : rq} {l : List Int32} {y : Int32} (HQ : rqH hp 119 q l) : gM yX3_historicalByte cX3_historicalByte 2 ((some .int)) 1 21 [.ref 119, .int y] (hp) (0) (0) (fun v h => v = some (.int (rX3_historicalByte q l y)) ∧ h = hp) := by
  refine gM_of (ls0 := [some (.ref 119), some (.int y)]) (by decide +kernel) (Nat.le_of_ble_eq_true rfl) rfl fun X C E => ?_
  refine g_aload_n (q := 1) C dX3_historicalByte_0 rfl rfl ?_
  refine g_getfield (v := .ref 120) (q := 4) C fX3_14 dX3_historicalByte_1 rfl HQ.1 rfl ?_
  refine g_iload_n (q := 5) C dX3_historicalByte_4 rfl rfl ?_
  refine g_callVi (x := (gat l y)) (q := 8) (As := [.int y]) C gyX4_at gvX4_at t_521 (c_X4_at_w HQ.2) dX3_historicalByte_5 rfl (gRw.obj HQ.2) rfl rfl rfl (Nat.le_of_ble_eq_true rfl) (Nat.le_of_ble_eq_true rfl) (Nat.le_of_ble_eq_true rfl) (Nat.le_of_ble_eq_true rfl) (Nat.le_of_ble_eq_true rfl) rfl ?_
  have e : rX3_historicalByte q l y = (gat l y) := rfl
  exact E.1 _ _ _ _ _ _ _ dX3_historicalByte_8 rfl rfl (Nat.le_of_ble_eq_true rfl) (Nat.le_of_ble_eq_true rfl) ⟨by rw [e], rfl⟩
set_option maxRecDepth 100000 in
set_option maxHeartbeats 4000000 in
theorem c_X3_cardRoom_119 {hp : List gA} {q : rq} {l : List Int32} (HQ : rqH hp 119 q l) : gM yX3_cardRoom cX3_cardRoom 1 ((some .int)) 0 0 [.ref 119] (hp) (0) (0) (fun v h => v = some (.int (rX3_cardRoom q l)) ∧ h = hp) := by
  refine gM_of (ls0 := [some (.ref 119)]) (by decide +kernel) (Nat.le_of_ble_eq_true rfl) rfl fun X C E => ?_
  refine g_aload_n (q := 1) C dX3_cardRoom_0 rfl rfl ?_
  refine g_getfield (v := .int ((q.f 5))) (q := 4) C fX3_51 dX3_cardRoom_1 rfl HQ.1 rfl ?_
  have e : rX3_cardRoom q l = (q.f 5) := rfl
  exact E.1 _ _ _ _ _ _ _ dX3_cardRoom_4 rfl rfl (Nat.le_of_ble_eq_true rfl) (Nat.le_of_ble_eq_true rfl) ⟨by rw [e], rfl⟩
set_option maxRecDepth 100000 in
set_option maxHeartbeats 4000000 in
theorem c_X3_tell_119 {hp : List gA} {q : rq} {l : List Int32} {y : Int32} (HQ : rqH hp 119 q l) : gM yX3_tell cX3_tell 2 ((some .int)) 1 21 [.ref 119, .int y] (hp) (0) (0) (fun v h => v = some (.int (rX3_tell q l y)) ∧ h = hp) := by
  refine gM_of (ls0 := [some (.ref 119), some (.int y)]) (by decide +kernel) (Nat.le_of_ble_eq_true rfl) rfl fun X C E => ?_
  refine g_iload_n (q := 1) C dX3_tell_0 rfl rfl ?_
  by_cases c_1_0 : y = 0
  ·
    refine g_tableE (v := 0) (off := 51) (t := 52) C dX3_tell_1 c_1_0 (by decide) (by decide) (by decide) (by decide) ?_
    refine g_aload_n (q := 53) C dX3_tell_52 rfl rfl ?_
    refine g_getfield (v := .int ((q.f 0))) (q := 56) C fX3_73 dX3_tell_53 rfl HQ.1 rfl ?_
    have e : rX3_tell q l y = (q.f 0) := (if_pos c_1_0)
    exact E.1 _ _ _ _ _ _ _ dX3_tell_56 rfl rfl (Nat.le_of_ble_eq_true rfl) (Nat.le_of_ble_eq_true rfl) ⟨by rw [e], rfl⟩
  by_cases c_1_1 : y = 1
  ·
    refine g_tableE (v := 1) (off := 56) (t := 57) C dX3_tell_1 c_1_1 (by decide) (by decide) (by decide) (by decide) ?_
    refine g_aload_n (q := 58) C dX3_tell_57 rfl rfl ?_
    refine g_getfield (v := .int ((q.f 1))) (q := 61) C fX3_38 dX3_tell_58 rfl HQ.1 rfl ?_
    refine g_callSi (x := (rX3_clockOf (q.f 1))) (q := 64) (As := [.int ((q.f 1))]) C gyX3_clockOf t_542 t_541 (c_X3_clockOf_x) dX3_tell_61 rfl rfl rfl (Nat.le_of_ble_eq_true rfl) (Nat.le_of_ble_eq_true rfl) (Nat.le_of_ble_eq_true rfl) (Nat.le_of_ble_eq_true rfl) (Nat.le_of_ble_eq_true rfl) rfl ?_
    have e : rX3_tell q l y = (rX3_clockOf (q.f 1)) := ((if_neg c_1_0).trans (if_pos c_1_1))
    exact E.1 _ _ _ _ _ _ _ dX3_tell_64 rfl rfl (Nat.le_of_ble_eq_true rfl) (Nat.le_of_ble_eq_true rfl) ⟨by rw [e], rfl⟩
  by_cases c_1_2 : y = 2
  ·
    refine g_tableE (v := 2) (off := 64) (t := 65) C dX3_tell_1 c_1_2 (by decide) (by decide) (by decide) (by decide) ?_
    refine g_aload_n (q := 66) C dX3_tell_65 rfl rfl ?_
    refine g_getfield (v := .int ((q.f 1))) (q := 69) C fX3_38 dX3_tell_66 rfl HQ.1 rfl ?_
    refine g_callSi (x := (rX3_divisorOf (q.f 1))) (q := 72) (As := [.int ((q.f 1))]) C gyX3_divisorOf t_547 t_546 (c_X3_divisorOf_x) dX3_tell_69 rfl rfl rfl (Nat.le_of_ble_eq_true rfl) (Nat.le_of_ble_eq_true rfl) (Nat.le_of_ble_eq_true rfl) (Nat.le_of_ble_eq_true rfl) (Nat.le_of_ble_eq_true rfl) rfl ?_
    have e : rX3_tell q l y = (rX3_divisorOf (q.f 1)) := ((if_neg c_1_0).trans ((if_neg c_1_1).trans (if_pos c_1_2)))
    exact E.1 _ _ _ _ _ _ _ dX3_tell_72 rfl rfl (Nat.le_of_ble_eq_true rfl) (Nat.le_of_ble_eq_true rfl) ⟨by rw [e], rfl⟩
  by_cases c_1_3 : y = 3
  ·
    refine g_tableE (v := 3) (off := 72) (t := 73) C dX3_tell_1 c_1_3 (by decide) (by decide) (by decide) (by decide) ?_
    refine g_aload_n (q := 74) C dX3_tell_73 rfl rfl ?_
    refine g_getfield (v := .int ((q.f 2))) (q := 77) C fX3_42 dX3_tell_74 rfl HQ.1 rfl ?_
    have e : rX3_tell q l y = (q.f 2) := ((if_neg c_1_0).trans ((if_neg c_1_1).trans ((if_neg c_1_2).trans (if_pos c_1_3))))
    exact E.1 _ _ _ _ _ _ _ dX3_tell_77 rfl rfl (Nat.le_of_ble_eq_true rfl) (Nat.le_of_ble_eq_true rfl) ⟨by rw [e], rfl⟩
  by_cases c_1_4 : y = 4
  ·
    refine g_tableE (v := 4) (off := 77) (t := 78) C dX3_tell_1 c_1_4 (by decide) (by decide) (by decide) (by decide) ?_
    refine g_aload_n (q := 79) C dX3_tell_78 rfl rfl ?_
    refine g_getfield (v := .int ((q.f 3))) (q := 82) C fX3_45 dX3_tell_79 rfl HQ.1 rfl ?_
    have e : rX3_tell q l y = (q.f 3) := ((if_neg c_1_0).trans ((if_neg c_1_1).trans ((if_neg c_1_2).trans ((if_neg c_1_3).trans (if_pos c_1_4)))))
    exact E.1 _ _ _ _ _ _ _ dX3_tell_82 rfl rfl (Nat.le_of_ble_eq_true rfl) (Nat.le_of_ble_eq_true rfl) ⟨by rw [e], rfl⟩
  by_cases c_1_5 : y = 5
  ·
    refine g_tableE (v := 5) (off := 82) (t := 83) C dX3_tell_1 c_1_5 (by decide) (by decide) (by decide) (by decide) ?_
    refine g_aload_n (q := 84) C dX3_tell_83 rfl rfl ?_
    refine g_getfield (v := .int ((q.f 4))) (q := 87) C fX3_48 dX3_tell_84 rfl HQ.1 rfl ?_
    have e : rX3_tell q l y = (q.f 4) := ((if_neg c_1_0).trans ((if_neg c_1_1).trans ((if_neg c_1_2).trans ((if_neg c_1_3).trans ((if_neg c_1_4).trans (if_pos c_1_5))))))
    exact E.1 _ _ _ _ _ _ _ dX3_tell_87 rfl rfl (Nat.le_of_ble_eq_true rfl) (Nat.le_of_ble_eq_true rfl) ⟨by rw [e], rfl⟩
  by_cases c_1_6 : y = 6
  ·
    refine g_tableE (v := 6) (off := 87) (t := 88) C dX3_tell_1 c_1_6 (by decide) (by decide) (by decide) (by decide) ?_
    refine g_aload_n (q := 89) C dX3_tell_88 rfl rfl ?_
    refine g_getfield (v := .ref 120) (q := 92) C fX3_14 dX3_tell_89 rfl HQ.1 rfl ?_
    refine g_callVi (x := (nI l.length)) (q := 95) (As := []) C gyX4_size gvX4_size t_517 (c_X4_size (gRw.obj HQ.2)) dX3_tell_92 rfl (gRw.obj HQ.2) rfl rfl rfl (Nat.le_of_ble_eq_true rfl) (Nat.le_of_ble_eq_true rfl) (Nat.le_of_ble_eq_true rfl) (Nat.le_of_ble_eq_true rfl) (Nat.le_of_ble_eq_true rfl) rfl ?_
    have e : rX3_tell q l y = (nI l.length) := ((if_neg c_1_0).trans ((if_neg c_1_1).trans ((if_neg c_1_2).trans ((if_neg c_1_3).trans ((if_neg c_1_4).trans ((if_neg c_1_5).trans (if_pos c_1_6)))))))
    exact E.1 _ _ _ _ _ _ _ dX3_tell_95 rfl rfl (Nat.le_of_ble_eq_true rfl) (Nat.le_of_ble_eq_true rfl) ⟨by rw [e], rfl⟩
  by_cases c_1_7 : y = 7
  ·
    refine g_tableE (v := 7) (off := 95) (t := 96) C dX3_tell_1 c_1_7 (by decide) (by decide) (by decide) (by decide) ?_
    refine g_aload_n (q := 97) C dX3_tell_96 rfl rfl ?_
    refine g_getfield (v := .int ((q.f 5))) (q := 100) C fX3_51 dX3_tell_97 rfl HQ.1 rfl ?_
    have e : rX3_tell q l y = (q.f 5) := ((if_neg c_1_0).trans ((if_neg c_1_1).trans ((if_neg c_1_2).trans ((if_neg c_1_3).trans ((if_neg c_1_4).trans ((if_neg c_1_5).trans ((if_neg c_1_6).trans (if_pos c_1_7))))))))
    exact E.1 _ _ _ _ _ _ _ dX3_tell_100 rfl rfl (Nat.le_of_ble_eq_true rfl) (Nat.le_of_ble_eq_true rfl) ⟨by rw [e], rfl⟩
  by_cases c_1_8 : y = 8
  ·
    refine g_tableE (v := 8) (off := 100) (t := 101) C dX3_tell_1 c_1_8 (by decide) (by decide) (by decide) (by decide) ?_
    refine g_aload_n (q := 102) C dX3_tell_101 rfl rfl ?_
    refine g_getfield (v := .int ((q.f 6))) (q := 105) C fX3_54 dX3_tell_102 rfl HQ.1 rfl ?_
    refine g_if_eq (t := 112) (q := 108) C dX3_tell_105 (by decide) rfl (fun c_105 => ?_) (fun c_105 => ?_)
    ·
      refine g_iconst (v := 0) (q := 113) C dX3_tell_112 (by decide) rfl ?_
      have e : rX3_tell q l y = 0 := ((if_neg c_1_0).trans ((if_neg c_1_1).trans ((if_neg c_1_2).trans ((if_neg c_1_3).trans ((if_neg c_1_4).trans ((if_neg c_1_5).trans ((if_neg c_1_6).trans ((if_neg c_1_7).trans ((if_pos c_1_8).trans (if_pos c_105))))))))))
      exact E.1 _ _ _ _ _ _ _ dX3_tell_113 rfl rfl (Nat.le_of_ble_eq_true rfl) (Nat.le_of_ble_eq_true rfl) ⟨by rw [e], rfl⟩
    ·
      refine g_iconst (v := 1) (q := 109) C dX3_tell_108 (by decide) rfl ?_
      refine g_goto (q := 113) C dX3_tell_109 (by decide) ?_
      have e : rX3_tell q l y = 1 := ((if_neg c_1_0).trans ((if_neg c_1_1).trans ((if_neg c_1_2).trans ((if_neg c_1_3).trans ((if_neg c_1_4).trans ((if_neg c_1_5).trans ((if_neg c_1_6).trans ((if_neg c_1_7).trans ((if_pos c_1_8).trans (if_neg c_105))))))))))
      exact E.1 _ _ _ _ _ _ _ dX3_tell_113 rfl rfl (Nat.le_of_ble_eq_true rfl) (Nat.le_of_ble_eq_true rfl) ⟨by rw [e], rfl⟩
  refine g_tableOut (t := 114) C dX3_tell_1 (gOut9 c_1_0 c_1_1 c_1_2 c_1_3 c_1_4 c_1_5 c_1_6 c_1_7 c_1_8) (by decide) ?_
  refine g_iconst (v := (-1)) (q := 115) C dX3_tell_114 (by decide) rfl ?_
  have e : rX3_tell q l y = (-1) := ((if_neg c_1_0).trans ((if_neg c_1_1).trans ((if_neg c_1_2).trans ((if_neg c_1_3).trans ((if_neg c_1_4).trans ((if_neg c_1_5).trans ((if_neg c_1_6).trans ((if_neg c_1_7).trans (if_neg c_1_8)))))))))
  exact E.1 _ _ _ _ _ _ _ dX3_tell_115 rfl rfl (Nat.le_of_ble_eq_true rfl) (Nat.le_of_ble_eq_true rfl) ⟨by rw [e], rfl⟩
