/-- historical bytes -/
def rH (t : List Int32) : Nat → Int32 × (rq × List Int32) → Int32 × (rq × List Int32)
  | 0, s => s
  | n + 1, s => if s.1 = 0 then (if nI t.length ≤ s.2.1.f 8 then (8 * s.2.1.f 8 + 1, s.2) else rH t n (0, (s.2.1.set 8 (s.2.1.f 8 + 1), s.2.2 ++ [gat t (s.2.1.f 8)]))) else s
/-- the xor of the bytes 1 to n -/
def rXo (t : List Int32) : Nat → Int32
  | 0 => 0
  | n + 1 => rXo t n ^^^ gat t (nI (n + 1))
def rC (t : List Int32) (s : Int32 × (rq × List Int32)) : Int32 × (rq × List Int32) :=
  if s.1 = 0 then (if s.2.1.f 6 = 0 then s else if nI t.length ≤ s.2.1.f 8 then (8 * s.2.1.f 8 + 1, s.2) else if rXo t (s.2.1.f 8).toNatClampNeg = 0 then (0, (s.2.1.set 8 (s.2.1.f 8 + 1), s.2.2)) else (8 * s.2.1.f 8 + 6, s.2)) else s
def rE (t : List Int32) (s : Int32 × (rq × List Int32)) : Int32 × (rq × List Int32) :=
  if s.1 = 0 then (if nI t.length ≤ s.2.1.f 8 then s else (8 * s.2.1.f 8 + 7, s.2)) else s
theorem rH_st {t : List Int32} : ∀ {n : Nat} {s : Int32 × (rq × List Int32)}, ¬ s.1 = 0 → rH t n s = s
  | 0, _, _ => rfl
  | _ + 1, _, h => if_neg h
theorem rC_st {t : List Int32} {s : Int32 × (rq × List Int32)} (h : ¬ s.1 = 0) : rC t s = s := if_neg h
theorem rE_st {t : List Int32} {s : Int32 × (rq × List Int32)} (h : ¬ s.1 = 0) : rE t s = s := if_neg h
theorem dX3_readTail_0 : decode cX3_readTail 0 = .ok (.iconst 0, 1) := by decide +kernel
theorem dX3_readTail_1 : decode cX3_readTail 1 = .ok (.istore_n 3, 1) := by decide +kernel
theorem dX3_readTail_2 : decode cX3_readTail 2 = .ok (.iload_n 3, 1) := by decide +kernel
theorem dX3_readTail_3 : decode cX3_readTail 3 = .ok (.iload_n 2, 1) := by decide +kernel
theorem dX3_readTail_4 : decode cX3_readTail 4 = .ok (.if_icmp .ge 54, 3) := by decide +kernel
theorem dX3_readTail_7 : decode cX3_readTail 7 = .ok (.aload_n 0, 1) := by decide +kernel
theorem dX3_readTail_8 : decode cX3_readTail 8 = .ok (.getfield 79, 3) := by decide +kernel
theorem dX3_readTail_11 : decode cX3_readTail 11 = .ok (.aload_n 1, 1) := by decide +kernel
theorem dX3_readTail_12 : decode cX3_readTail 12 = .ok (.invokevirtual 65, 3) := by decide +kernel
theorem dX3_readTail_15 : decode cX3_readTail 15 = .ok (.if_icmp .lt 12, 3) := by decide +kernel
theorem dX3_readTail_18 : decode cX3_readTail 18 = .ok (.aload_n 0, 1) := by decide +kernel
theorem dX3_readTail_19 : decode cX3_readTail 19 = .ok (.getfield 79, 3) := by decide +kernel
theorem dX3_readTail_22 : decode cX3_readTail 22 = .ok (.iconst 1, 1) := by decide +kernel
theorem dX3_readTail_23 : decode cX3_readTail 23 = .ok (.invokestatic 69, 3) := by decide +kernel
theorem dX3_readTail_26 : decode cX3_readTail 26 = .ok (.ireturn, 1) := by decide +kernel
theorem dX3_readTail_27 : decode cX3_readTail 27 = .ok (.aload_n 0, 1) := by decide +kernel
theorem dX3_readTail_28 : decode cX3_readTail 28 = .ok (.getfield 14, 3) := by decide +kernel
theorem dX3_readTail_31 : decode cX3_readTail 31 = .ok (.aload_n 1, 1) := by decide +kernel
theorem dX3_readTail_32 : decode cX3_readTail 32 = .ok (.aload_n 0, 1) := by decide +kernel
theorem dX3_readTail_33 : decode cX3_readTail 33 = .ok (.getfield 79, 3) := by decide +kernel
theorem dX3_readTail_36 : decode cX3_readTail 36 = .ok (.invokevirtual 30, 3) := by decide +kernel
theorem dX3_readTail_39 : decode cX3_readTail 39 = .ok (.invokevirtual 101, 3) := by decide +kernel
theorem dX3_readTail_42 : decode cX3_readTail 42 = .ok (.aload_n 0, 1) := by decide +kernel
theorem dX3_readTail_43 : decode cX3_readTail 43 = .ok (.dup, 1) := by decide +kernel
theorem dX3_readTail_44 : decode cX3_readTail 44 = .ok (.getfield 79, 3) := by decide +kernel
theorem dX3_readTail_47 : decode cX3_readTail 47 = .ok (.iconst 1, 1) := by decide +kernel
theorem dX3_readTail_48 : decode cX3_readTail 48 = .ok (.iadd, 1) := by decide +kernel
theorem dX3_readTail_49 : decode cX3_readTail 49 = .ok (.putfield 79, 3) := by decide +kernel
theorem dX3_readTail_52 : decode cX3_readTail 52 = .ok (.iinc 3 1, 3) := by decide +kernel
theorem dX3_readTail_55 : decode cX3_readTail 55 = .ok (.goto (-53), 3) := by decide +kernel
theorem dX3_readTail_58 : decode cX3_readTail 58 = .ok (.aload_n 0, 1) := by decide +kernel
theorem dX3_readTail_59 : decode cX3_readTail 59 = .ok (.getfield 54, 3) := by decide +kernel
theorem dX3_readTail_62 : decode cX3_readTail 62 = .ok (.ifCond .eq 76, 3) := by decide +kernel
theorem dX3_readTail_65 : decode cX3_readTail 65 = .ok (.aload_n 0, 1) := by decide +kernel
theorem dX3_readTail_66 : decode cX3_readTail 66 = .ok (.getfield 79, 3) := by decide +kernel
theorem dX3_readTail_69 : decode cX3_readTail 69 = .ok (.aload_n 1, 1) := by decide +kernel
theorem dX3_readTail_70 : decode cX3_readTail 70 = .ok (.invokevirtual 65, 3) := by decide +kernel
theorem dX3_readTail_73 : decode cX3_readTail 73 = .ok (.if_icmp .lt 12, 3) := by decide +kernel
theorem dX3_readTail_76 : decode cX3_readTail 76 = .ok (.aload_n 0, 1) := by decide +kernel
theorem dX3_readTail_77 : decode cX3_readTail 77 = .ok (.getfield 79, 3) := by decide +kernel
theorem dX3_readTail_80 : decode cX3_readTail 80 = .ok (.iconst 1, 1) := by decide +kernel
theorem dX3_readTail_81 : decode cX3_readTail 81 = .ok (.invokestatic 69, 3) := by decide +kernel
theorem dX3_readTail_84 : decode cX3_readTail 84 = .ok (.ireturn, 1) := by decide +kernel
theorem dX3_readTail_85 : decode cX3_readTail 85 = .ok (.iconst 0, 1) := by decide +kernel
theorem dX3_readTail_86 : decode cX3_readTail 86 = .ok (.istore_n 3, 1) := by decide +kernel
theorem dX3_readTail_87 : decode cX3_readTail 87 = .ok (.iconst 1, 1) := by decide +kernel
theorem dX3_readTail_88 : decode cX3_readTail 88 = .ok (.istore 4, 2) := by decide +kernel
theorem dX3_readTail_90 : decode cX3_readTail 90 = .ok (.iload 4, 2) := by decide +kernel
theorem dX3_readTail_92 : decode cX3_readTail 92 = .ok (.aload_n 0, 1) := by decide +kernel
theorem dX3_readTail_93 : decode cX3_readTail 93 = .ok (.getfield 79, 3) := by decide +kernel
theorem dX3_readTail_96 : decode cX3_readTail 96 = .ok (.if_icmp .gt 18, 3) := by decide +kernel
theorem dX3_readTail_99 : decode cX3_readTail 99 = .ok (.iload_n 3, 1) := by decide +kernel
theorem dX3_readTail_100 : decode cX3_readTail 100 = .ok (.aload_n 1, 1) := by decide +kernel
theorem dX3_readTail_101 : decode cX3_readTail 101 = .ok (.iload 4, 2) := by decide +kernel
theorem dX3_readTail_103 : decode cX3_readTail 103 = .ok (.invokevirtual 30, 3) := by decide +kernel
theorem dX3_readTail_106 : decode cX3_readTail 106 = .ok (.ixor, 1) := by decide +kernel
theorem dX3_readTail_107 : decode cX3_readTail 107 = .ok (.istore_n 3, 1) := by decide +kernel
theorem dX3_readTail_108 : decode cX3_readTail 108 = .ok (.iinc 4 1, 3) := by decide +kernel
theorem dX3_readTail_111 : decode cX3_readTail 111 = .ok (.goto (-21), 3) := by decide +kernel
theorem dX3_readTail_114 : decode cX3_readTail 114 = .ok (.iload_n 3, 1) := by decide +kernel
theorem dX3_readTail_115 : decode cX3_readTail 115 = .ok (.ifCond .eq 13, 3) := by decide +kernel
theorem dX3_readTail_118 : decode cX3_readTail 118 = .ok (.aload_n 0, 1) := by decide +kernel
theorem dX3_readTail_119 : decode cX3_readTail 119 = .ok (.getfield 79, 3) := by decide +kernel
theorem dX3_readTail_122 : decode cX3_readTail 122 = .ok (.bipush 6, 2) := by decide +kernel
theorem dX3_readTail_124 : decode cX3_readTail 124 = .ok (.invokestatic 69, 3) := by decide +kernel
theorem dX3_readTail_127 : decode cX3_readTail 127 = .ok (.ireturn, 1) := by decide +kernel
theorem dX3_readTail_128 : decode cX3_readTail 128 = .ok (.aload_n 0, 1) := by decide +kernel
theorem dX3_readTail_129 : decode cX3_readTail 129 = .ok (.dup, 1) := by decide +kernel
theorem dX3_readTail_130 : decode cX3_readTail 130 = .ok (.getfield 79, 3) := by decide +kernel
theorem dX3_readTail_133 : decode cX3_readTail 133 = .ok (.iconst 1, 1) := by decide +kernel
theorem dX3_readTail_134 : decode cX3_readTail 134 = .ok (.iadd, 1) := by decide +kernel
theorem dX3_readTail_135 : decode cX3_readTail 135 = .ok (.putfield 79, 3) := by decide +kernel
theorem dX3_readTail_138 : decode cX3_readTail 138 = .ok (.aload_n 0, 1) := by decide +kernel
theorem dX3_readTail_139 : decode cX3_readTail 139 = .ok (.getfield 79, 3) := by decide +kernel
theorem dX3_readTail_142 : decode cX3_readTail 142 = .ok (.aload_n 1, 1) := by decide +kernel
theorem dX3_readTail_143 : decode cX3_readTail 143 = .ok (.invokevirtual 65, 3) := by decide +kernel
theorem dX3_readTail_146 : decode cX3_readTail 146 = .ok (.if_icmp .ge 15, 3) := by decide +kernel
theorem dX3_readTail_149 : decode cX3_readTail 149 = .ok (.aload_n 0, 1) := by decide +kernel
theorem dX3_readTail_150 : decode cX3_readTail 150 = .ok (.getfield 79, 3) := by decide +kernel
theorem dX3_readTail_153 : decode cX3_readTail 153 = .ok (.bipush 7, 2) := by decide +kernel
theorem dX3_readTail_155 : decode cX3_readTail 155 = .ok (.invokestatic 69, 3) := by decide +kernel
theorem dX3_readTail_158 : decode cX3_readTail 158 = .ok (.goto 4, 3) := by decide +kernel
theorem dX3_readTail_161 : decode cX3_readTail 161 = .ok (.iconst 0, 1) := by decide +kernel
theorem dX3_readTail_162 : decode cX3_readTail 162 = .ok (.ireturn, 1) := by decide +kernel
set_option maxRecDepth 100000 in
set_option maxHeartbeats 4000000 in
theorem c_X3_readTail_116 {hp : List gA} {q : rq} {t : List Int32} {n : Nat} (HQ : rqH hp 116 q []) (HT : gRw hp 1 2 96 t) (hn : n ≤ 15) (hP : rP t q) : gM yX3_readTail cX3_readTail 5 ((some .int)) 3 103 [.ref 116, .ref 1, .int (nI n)] (hp) (0) (0) (fun v h => v = some (.int (rE t (rC t (rH t n (0, (q, []))))).1) ∧ (rqH h 116 (rE t (rC t (rH t n (0, (q, []))))).2.1 (rE t (rC t (rH t n (0, (q, []))))).2.2 ∧ rqF 116 hp h)) := by
  refine gM_of (ls0 := [some (.ref 116), some (.ref 1), some (.int (nI n)), none, none]) (by decide +kernel) (Nat.le_of_ble_eq_true rfl) rfl fun X C E => ?_
  have ht := (gRw.le HT).1
  obtain ⟨F, hF⟩ : ∃ F, rE t (rC t (rH t n (0, (q, [])))) = F := ⟨_, rfl⟩
  have KE : ∀ (q1 : rq) (l1 : List Int32) (ha : List gA) (x3 x4 : Option Value), rqH ha 116 q1 l1 → gRw ha 1 2 96 t → rqF 116 hp ha → rE t (0, (q1, l1)) = F → gG X 138 [some (.ref 116), some (.ref 1), some (.int ((nI n))), x3, x4] [] ha 0 0 := by
    intro q1 l1 ha x3 x4 HQa HTa fqa hr
    refine g_aload_n (q := 139) C dX3_readTail_138 rfl rfl ?_
    refine g_getfield (v := .int ((q1.f 8))) (q := 142) C fX3_79 dX3_readTail_139 rfl HQa.1 rfl ?_
    refine g_aload_n (q := 143) C dX3_readTail_142 rfl rfl ?_
    refine g_callVi (x := (nI t.length)) (q := 146) (As := []) C gyX4_size gvX4_size t_517 (c_X4_size (gRw.obj HTa)) dX3_readTail_143 rfl (gRw.obj HTa) rfl rfl rfl (Nat.le_of_ble_eq_true rfl) (Nat.le_of_ble_eq_true rfl) (Nat.le_of_ble_eq_true rfl) (Nat.le_of_ble_eq_true rfl) (Nat.le_of_ble_eq_true rfl) rfl ?_
    refine g_icmp_ge (t := 161) (q := 149) C dX3_readTail_146 (by decide) rfl (fun c_146 => ?_) (fun c_146 => ?_)
    ·
      refine g_iconst (v := 0) (q := 162) C dX3_readTail_161 (by decide) rfl ?_
      have e : rE t (0, (q1, l1)) = ((0 : Int32), (q1, l1)) := (if_pos rfl).trans (if_pos c_146)
      exact E.1 _ _ _ _ _ _ _ dX3_readTail_162 rfl rfl (Nat.le_of_ble_eq_true rfl) (Nat.le_of_ble_eq_true rfl) ⟨by rw [hF, ← hr, e], by rw [hF, ← hr, e]; exact ⟨HQa, fqa⟩⟩
    ·
      refine g_aload_n (q := 150) C dX3_readTail_149 rfl rfl ?_
      refine g_getfield (v := .int ((q1.f 8))) (q := 153) C fX3_79 dX3_readTail_150 rfl HQa.1 rfl ?_
      refine g_bipush (v := 7) (q := 155) C dX3_readTail_153 (by decide) rfl ?_
      refine g_callSi (x := (8 * (q1.f 8) + 7)) (q := 158) (As := [.int ((q1.f 8)), .int 7]) C gyX3_faultAt t_519 t_518 (c_X3_faultAt_x) dX3_readTail_155 rfl rfl rfl (Nat.le_of_ble_eq_true rfl) (Nat.le_of_ble_eq_true rfl) (Nat.le_of_ble_eq_true rfl) (Nat.le_of_ble_eq_true rfl) (Nat.le_of_ble_eq_true rfl) rfl ?_
      refine g_goto (q := 162) C dX3_readTail_158 (by decide) ?_
      have e : rE t (0, (q1, l1)) = (8 * q1.f 8 + 7, (q1, l1)) := (if_pos rfl).trans (if_neg c_146)
      exact E.1 _ _ _ _ _ _ _ dX3_readTail_162 rfl rfl (Nat.le_of_ble_eq_true rfl) (Nat.le_of_ble_eq_true rfl) ⟨by rw [hF, ← hr, e], by rw [hF, ← hr, e]; exact ⟨HQa, fqa⟩⟩
  have KC : ∀ (q1 : rq) (l1 : List Int32) (ha : List gA) (x3 x4 : Option Value), rqH ha 116 q1 l1 → gRw ha 1 2 96 t → rqF 116 hp ha → rP t q1 → rE t (rC t (0, (q1, l1))) = F → gG X 58 [some (.ref 116), some (.ref 1), some (.int ((nI n))), x3, x4] [] ha 0 0 := by
    intro q1 l1 ha x3 x4 HQa HTa fqa hP hr
    obtain ⟨p, hp1, ep⟩ := hP
    refine g_aload_n (q := 59) C dX3_readTail_58 rfl rfl ?_
    refine g_getfield (v := .int ((q1.f 6))) (q := 62) C fX3_54 dX3_readTail_59 rfl HQa.1 rfl ?_
    refine g_if_eq (t := 138) (q := 65) C dX3_readTail_62 (by decide) rfl (fun c_62 => ?_) (fun c_62 => ?_)
    ·
      exact KE q1 l1 ha _ _ HQa HTa fqa (by rw [← hr, show rC t (0, (q1, l1)) = ((0 : Int32), (q1, l1)) from (if_pos rfl).trans (if_pos c_62)])
    ·
      refine g_aload_n (q := 66) C dX3_readTail_65 rfl rfl ?_
      refine g_getfield (v := .int ((q1.f 8))) (q := 69) C fX3_79 dX3_readTail_66 rfl HQa.1 rfl ?_
      refine g_aload_n (q := 70) C dX3_readTail_69 rfl rfl ?_
      refine g_callVi (x := (nI t.length)) (q := 73) (As := []) C gyX4_size gvX4_size t_517 (c_X4_size (gRw.obj HTa)) dX3_readTail_70 rfl (gRw.obj HTa) rfl rfl rfl (Nat.le_of_ble_eq_true rfl) (Nat.le_of_ble_eq_true rfl) (Nat.le_of_ble_eq_true rfl) (Nat.le_of_ble_eq_true rfl) (Nat.le_of_ble_eq_true rfl) rfl ?_
      refine g_icmp_lt (t := 85) (q := 76) C dX3_readTail_73 (by decide) rfl (fun c_73 => ?_) (fun c_73 => ?_)
      ·
        refine g_iconst (v := 0) (q := 86) C dX3_readTail_85 (by decide) rfl ?_
        refine g_istore_n (q := 87) C dX3_readTail_86 (Nat.le_of_ble_eq_true rfl) (by simp only [gset]; rfl) rfl ?_
        refine g_iconst (v := 1) (q := 88) C dX3_readTail_87 (by decide) rfl ?_
        refine g_istore (q := 90) C dX3_readTail_88 (Nat.le_of_ble_eq_true rfl) (by simp only [gset]; rfl) rfl ?_
        have lt : p < t.length := by
          by_cases lt : p < t.length
          · exact lt
          · exact absurd (show nI t.length ≤ q1.f 8 by rw [ep]; exact nI_le (by omega) (by omega)) (by rw [Int32.not_le]; exact c_73)
        have LX : ∀ d j : Nat, j + d = p → gG X 90 [some (.ref 116), some (.ref 1), some (.int ((nI n))), some (.int ((rXo t j))), some (.int ((nI (j + 1))))] [] ha 0 0 := by
          intro d
          induction d with
          | zero =>
            intro j hj
            obtain rfl : j = p := by omega
            refine g_iload (q := 92) C dX3_readTail_90 rfl rfl ?_
            refine g_aload_n (q := 93) C dX3_readTail_92 rfl rfl ?_
            refine g_getfield (v := .int ((q1.f 8))) (q := 96) C fX3_79 dX3_readTail_93 rfl HQa.1 rfl ?_
            refine g_icmp_gt_t (t := 114) C dX3_readTail_96 (by decide) (by rw [ep]; exact nI_lt (by omega) (by omega)) ?_
            refine g_iload_n (q := 115) C dX3_readTail_114 rfl rfl ?_
            refine g_if_eq (t := 128) (q := 118) C dX3_readTail_115 (by decide) rfl (fun c_115 => ?_) (fun c_115 => ?_)
            ·
              refine g_aload_n (q := 129) C dX3_readTail_128 rfl rfl ?_
              refine g_dup (q := 130) C dX3_readTail_129 rfl rfl ?_
              refine g_getfield (v := .int ((q1.f 8))) (q := 133) C fX3_79 dX3_readTail_130 rfl HQa.1 rfl ?_
              refine g_iconst (v := 1) (q := 134) C dX3_readTail_133 (by decide) rfl ?_
              refine g_iadd (q := 135) C dX3_readTail_134 rfl ?_
              refine g_putfield (q := 138) C fX3_79 dX3_readTail_135 rfl HQa.1 (Nat.le_of_ble_eq_true rfl) (Or.inl rfl) rfl rfl (by intro z h; cases h) ?_
              refine rqput (j := 8) (x := ((q1.f 8) + 1)) HQa rfl fun h1 HQ1 fq1 => ?_
              have HT1 := gRw.ra HTa (by decide) fq1
              exact KE _ _ _ _ _ HQ1 HT1 (rqF.trans fqa fq1) (by rw [← hr, show rC t (0, (q1, l1)) = ((0 : Int32), (q1.set 8 (q1.f 8 + 1), l1)) from (if_pos rfl).trans ((if_neg c_62).trans ((if_neg (by rw [Int32.not_le]; exact c_73)).trans (if_pos (by rw [ep, nI_clamp (by omega)]; exact c_115))))])
            ·
              refine g_aload_n (q := 119) C dX3_readTail_118 rfl rfl ?_
              refine g_getfield (v := .int ((q1.f 8))) (q := 122) C fX3_79 dX3_readTail_119 rfl HQa.1 rfl ?_
              refine g_bipush (v := 6) (q := 124) C dX3_readTail_122 (by decide) rfl ?_
              refine g_callSi (x := (8 * (q1.f 8) + 6)) (q := 127) (As := [.int ((q1.f 8)), .int 6]) C gyX3_faultAt t_519 t_518 (c_X3_faultAt_x) dX3_readTail_124 rfl rfl rfl (Nat.le_of_ble_eq_true rfl) (Nat.le_of_ble_eq_true rfl) (Nat.le_of_ble_eq_true rfl) (Nat.le_of_ble_eq_true rfl) (Nat.le_of_ble_eq_true rfl) rfl ?_
              have hst : ¬ (((8 * q1.f 8 + 6, (q1, l1)) : Int32 × (rq × List Int32))).1 = 0 := gx8 (c := 6) (by decide) (by decide)
              have e : rC t (0, (q1, l1)) = (8 * q1.f 8 + 6, (q1, l1)) := (if_pos rfl).trans ((if_neg c_62).trans ((if_neg (by rw [Int32.not_le]; exact c_73)).trans (if_neg (by rw [ep, nI_clamp (by omega)]; exact c_115))))
              rw [e, rE_st hst] at hr
              exact E.1 _ _ _ _ _ _ _ dX3_readTail_127 rfl rfl (Nat.le_of_ble_eq_true rfl) (Nat.le_of_ble_eq_true rfl) ⟨by rw [hF, ← hr], by rw [hF, ← hr]; exact ⟨HQa, fqa⟩⟩
          | succ d ih =>
            intro j hj
            refine g_iload (q := 92) C dX3_readTail_90 rfl rfl ?_
            refine g_aload_n (q := 93) C dX3_readTail_92 rfl rfl ?_
            refine g_getfield (v := .int ((q1.f 8))) (q := 96) C fX3_79 dX3_readTail_93 rfl HQa.1 rfl ?_
            refine g_icmp_gt_f (t := 114) (q := 99) C dX3_readTail_96 (by decide) rfl (by rw [ep, nI_ltI (by omega) (by omega)]; omega) ?_
            refine g_iload_n (q := 100) C dX3_readTail_99 rfl rfl ?_
            refine g_aload_n (q := 101) C dX3_readTail_100 rfl rfl ?_
            refine g_iload (q := 103) C dX3_readTail_101 rfl rfl ?_
            refine g_callVi (x := (gat t (nI (j + 1)))) (q := 106) (As := [.int ((nI (j + 1)))]) C gyX4_at gvX4_at t_521 (c_X4_at_w HTa) dX3_readTail_103 rfl (gRw.obj HTa) rfl rfl rfl (Nat.le_of_ble_eq_true rfl) (Nat.le_of_ble_eq_true rfl) (Nat.le_of_ble_eq_true rfl) (Nat.le_of_ble_eq_true rfl) (Nat.le_of_ble_eq_true rfl) rfl ?_
            refine g_ixor (q := 107) C dX3_readTail_106 rfl ?_
            refine g_istore_n (q := 108) C dX3_readTail_107 (Nat.le_of_ble_eq_true rfl) (by simp only [gset]; rfl) rfl ?_
            refine g_iinc (v := (nI (j + 1 + 1))) (q := 111) C dX3_readTail_108 rfl (nI_1 (j + 1)) (by simp only [gset]; rfl) rfl ?_
            refine g_goto (q := 90) C dX3_readTail_111 (by decide) ?_
            exact ih (j + 1) (by omega)
        exact LX p 0 (by omega)
      ·
        refine g_aload_n (q := 77) C dX3_readTail_76 rfl rfl ?_
        refine g_getfield (v := .int ((q1.f 8))) (q := 80) C fX3_79 dX3_readTail_77 rfl HQa.1 rfl ?_
        refine g_iconst (v := 1) (q := 81) C dX3_readTail_80 (by decide) rfl ?_
        refine g_callSi (x := (8 * (q1.f 8) + 1)) (q := 84) (As := [.int ((q1.f 8)), .int 1]) C gyX3_faultAt t_519 t_518 (c_X3_faultAt_x) dX3_readTail_81 rfl rfl rfl (Nat.le_of_ble_eq_true rfl) (Nat.le_of_ble_eq_true rfl) (Nat.le_of_ble_eq_true rfl) (Nat.le_of_ble_eq_true rfl) (Nat.le_of_ble_eq_true rfl) rfl ?_
        have hst : ¬ (((8 * q1.f 8 + 1, (q1, l1)) : Int32 × (rq × List Int32))).1 = 0 := gx8 (c := 1) (by decide) (by decide)
        have e : rC t (0, (q1, l1)) = (8 * q1.f 8 + 1, (q1, l1)) := (if_pos rfl).trans ((if_neg c_62).trans (if_pos (Int32.not_lt.mp c_73)))
        rw [e, rE_st hst] at hr
        exact E.1 _ _ _ _ _ _ _ dX3_readTail_84 rfl rfl (Nat.le_of_ble_eq_true rfl) (Nat.le_of_ble_eq_true rfl) ⟨by rw [hF, ← hr], by rw [hF, ← hr]; exact ⟨HQa, fqa⟩⟩
  have KH : ∀ (d j : Nat) (q1 : rq) (l1 : List Int32) (ha : List gA) (x4 : Option Value), j + d = n → l1.length = j → rqH ha 116 q1 l1 → gRw ha 1 2 96 t → rqF 116 hp ha → rP t q1 → rE t (rC t (rH t d (0, (q1, l1)))) = F → gG X 2 [some (.ref 116), some (.ref 1), some (.int ((nI n))), some (.int ((nI j))), x4] [] ha 0 0 := by
    intro d
    induction d with
    | zero =>
      intro j q1 l1 ha x4 hj hl HQa HTa fqa hP hr
      obtain rfl : j = n := by omega
      refine g_iload_n (q := 3) C dX3_readTail_2 rfl rfl ?_
      refine g_iload_n (q := 4) C dX3_readTail_3 rfl rfl ?_
      refine g_icmp_ge_t (t := 58) C dX3_readTail_4 (by decide) (Int32.le_refl _) ?_
      exact KC q1 l1 ha _ _ HQa HTa fqa hP hr
    | succ d ih =>
      intro j q1 l1 ha x4 hj hl HQa HTa fqa hP hr
      obtain ⟨p, hp1, ep⟩ := hP
      refine g_iload_n (q := 3) C dX3_readTail_2 rfl rfl ?_
      refine g_iload_n (q := 4) C dX3_readTail_3 rfl rfl ?_
      refine g_icmp_ge_f (t := 58) (q := 7) C dX3_readTail_4 (by decide) rfl (by rw [Int32.not_le]; exact nI_lt (by omega) (by omega)) ?_
      refine g_aload_n (q := 8) C dX3_readTail_7 rfl rfl ?_
      refine g_getfield (v := .int ((q1.f 8))) (q := 11) C fX3_79 dX3_readTail_8 rfl HQa.1 rfl ?_
      refine g_aload_n (q := 12) C dX3_readTail_11 rfl rfl ?_
      refine g_callVi (x := (nI t.length)) (q := 15) (As := []) C gyX4_size gvX4_size t_517 (c_X4_size (gRw.obj HTa)) dX3_readTail_12 rfl (gRw.obj HTa) rfl rfl rfl (Nat.le_of_ble_eq_true rfl) (Nat.le_of_ble_eq_true rfl) (Nat.le_of_ble_eq_true rfl) (Nat.le_of_ble_eq_true rfl) (Nat.le_of_ble_eq_true rfl) rfl ?_
      refine g_icmp_lt (t := 27) (q := 18) C dX3_readTail_15 (by decide) rfl (fun c_15 => ?_) (fun c_15 => ?_)
      ·
        refine g_aload_n (q := 28) C dX3_readTail_27 rfl rfl ?_
        refine g_getfield (v := .ref 117) (q := 31) C fX3_14 dX3_readTail_28 rfl HQa.1 rfl ?_
        refine g_aload_n (q := 32) C dX3_readTail_31 rfl rfl ?_
        refine g_aload_n (q := 33) C dX3_readTail_32 rfl rfl ?_
        refine g_getfield (v := .int ((q1.f 8))) (q := 36) C fX3_79 dX3_readTail_33 rfl HQa.1 rfl ?_
        refine g_callVi (x := (gat t (q1.f 8))) (q := 39) (As := [.int ((q1.f 8))]) C gyX4_at gvX4_at t_521 (c_X4_at_w HTa) dX3_readTail_36 rfl (gRw.obj HTa) rfl rfl rfl (Nat.le_of_ble_eq_true rfl) (Nat.le_of_ble_eq_true rfl) (Nat.le_of_ble_eq_true rfl) (Nat.le_of_ble_eq_true rfl) (Nat.le_of_ble_eq_true rfl) rfl ?_
        refine g_callVvp (q := 42) (As := [.int ((gat t (q1.f 8)))]) C gyX4_add gvX4_add t_559 (c_X4_add_w HQa.2 (by omega)) dX3_readTail_39 rfl (gRw.obj HQa.2) rfl rfl rfl (Nat.le_of_ble_eq_true rfl) (Nat.le_of_ble_eq_true rfl) (Nat.le_of_ble_eq_true rfl) (Nat.le_of_ble_eq_true rfl) (Nat.le_of_ble_eq_true rfl) rfl (fun h2 z2 => ?_)
        obtain ⟨HQ2, fq2⟩ := rqrow HQa z2
        have HT2 := gRw.ra HTa (by decide) fq2
        refine g_aload_n (q := 43) C dX3_readTail_42 rfl rfl ?_
        refine g_dup (q := 44) C dX3_readTail_43 rfl rfl ?_
        refine g_getfield (v := .int ((q1.f 8))) (q := 47) C fX3_79 dX3_readTail_44 rfl HQ2.1 rfl ?_
        refine g_iconst (v := 1) (q := 48) C dX3_readTail_47 (by decide) rfl ?_
        refine g_iadd (q := 49) C dX3_readTail_48 rfl ?_
        refine g_putfield (q := 52) C fX3_79 dX3_readTail_49 rfl HQ2.1 (Nat.le_of_ble_eq_true rfl) (Or.inl rfl) rfl rfl (by intro z h; cases h) ?_
        refine rqput (j := 8) (x := ((q1.f 8) + 1)) HQ2 rfl fun h3 HQ3 fq3 => ?_
        have HT3 := gRw.ra HT2 (by decide) fq3
        refine g_iinc (v := (nI (j + 1))) (q := 55) C dX3_readTail_52 rfl (nI_1 j) (by simp only [gset]; rfl) rfl ?_
        have lt : p < t.length := by
          by_cases lt : p < t.length
          · exact lt
          · exact absurd (show nI t.length ≤ q1.f 8 by rw [ep]; exact nI_le (by omega) (by omega)) (by rw [Int32.not_le]; exact c_15)
        refine g_goto (q := 2) C dX3_readTail_55 (by decide) ?_
        exact ih (j + 1) _ _ _ _ (by omega) (by rw [List.length_append, hl]; rfl) HQ3 HT3 (rqF.trans (rqF.trans fqa fq2) fq3) ⟨p + 1, lt, by rw [rq.set_s, ep]; exact nI_1 p⟩ (by rw [← hr, show rH t (d + 1) (0, (q1, l1)) = rH t d (0, (q1.set 8 (q1.f 8 + 1), l1 ++ [gat t (q1.f 8)])) from (if_pos rfl).trans (if_neg (by rw [Int32.not_le]; exact c_15))])
      ·
        refine g_aload_n (q := 19) C dX3_readTail_18 rfl rfl ?_
        refine g_getfield (v := .int ((q1.f 8))) (q := 22) C fX3_79 dX3_readTail_19 rfl HQa.1 rfl ?_
        refine g_iconst (v := 1) (q := 23) C dX3_readTail_22 (by decide) rfl ?_
        refine g_callSi (x := (8 * (q1.f 8) + 1)) (q := 26) (As := [.int ((q1.f 8)), .int 1]) C gyX3_faultAt t_519 t_518 (c_X3_faultAt_x) dX3_readTail_23 rfl rfl rfl (Nat.le_of_ble_eq_true rfl) (Nat.le_of_ble_eq_true rfl) (Nat.le_of_ble_eq_true rfl) (Nat.le_of_ble_eq_true rfl) (Nat.le_of_ble_eq_true rfl) rfl ?_
        have hst : ¬ (((8 * q1.f 8 + 1, (q1, l1)) : Int32 × (rq × List Int32))).1 = 0 := gx8 (c := 1) (by decide) (by decide)
        have e : rH t (d + 1) (0, (q1, l1)) = (8 * q1.f 8 + 1, (q1, l1)) := (if_pos rfl).trans (if_pos (Int32.not_lt.mp c_15))
        rw [e, rC_st hst, rE_st hst] at hr
        exact E.1 _ _ _ _ _ _ _ dX3_readTail_26 rfl rfl (Nat.le_of_ble_eq_true rfl) (Nat.le_of_ble_eq_true rfl) ⟨by rw [hF, ← hr], by rw [hF, ← hr]; exact ⟨HQa, fqa⟩⟩
  refine g_iconst (v := 0) (q := 1) C dX3_readTail_0 (by decide) rfl ?_
  refine g_istore_n (q := 2) C dX3_readTail_1 (Nat.le_of_ble_eq_true rfl) (by simp only [gset]; rfl) rfl ?_
  exact KH n 0 q [] hp _ (by omega) rfl HQ HT rqF.rf hP hF
theorem rHead0 {q : rq} {t : List Int32} (ht : t.length ≤ 96) (h : (rX3_readHead q t).1 = 0) : rP t (rX3_readHead q t).2 ∧ 2 ≤ t.length := by
  have k1 : ¬ (8 * 0 + 1 : Int32) = 0 := by decide
  have k2 : ¬ (8 * 1 + 1 : Int32) = 0 := by decide
  have k3 : ¬ (8 * 0 + 2 : Int32) = 0 := by decide
  by_cases a0 : t.length = 0
  · have n0 : nI t.length = 0 := by rw [a0]; rfl
    exfalso
    revert h
    unfold rX3_readHead
    rw [if_pos n0]
    exact k1
  · have n0 : ¬ nI t.length = 0 := fun e => a0 (nI_inj (by omega) (by decide) e)
    by_cases a1 : t.length = 1
    · have n1 : nI t.length = 1 := by rw [a1]; rfl
      exfalso
      revert h
      unfold rX3_readHead
      rw [if_neg n0, if_pos n1]
      repeat' split
      all_goals first | exact k2 | exact k3
    · have n1 : ¬ nI t.length = 1 := fun e => a1 (nI_inj (by omega) (by decide) e)
      have : 2 ≤ t.length := by omega
      refine ⟨⟨2, this, ?_⟩, this⟩
      revert h
      unfold rX3_readHead
      rw [if_neg n0, if_neg n1]
      repeat' split
      all_goals first | (intro _; rfl) | (intro h; exact absurd h k3)
/-- the reset answer t, read -/
def rRd (q : rq) (t : List Int32) : Int32 × (rq × List Int32) :=
  if (rX3_readHead (rX3_clear q) t).1 = 0 then
    (if (rGs t 4 1 (0, (rX3_readHead (rX3_clear q) t).2)).1 = 0 then rE t (rC t (rH t (gat t 1 &&& 15).toNatClampNeg (0, ((rGs t 4 1 (0, (rX3_readHead (rX3_clear q) t).2)).2, []))))
     else ((rGs t 4 1 (0, (rX3_readHead (rX3_clear q) t).2)).1, ((rGs t 4 1 (0, (rX3_readHead (rX3_clear q) t).2)).2, [])))
  else ((rX3_readHead (rX3_clear q) t).1, ((rX3_readHead (rX3_clear q) t).2, []))
theorem dX3_read_0 : decode cX3_read 0 = .ok (.aload_n 0, 1) := by decide +kernel
theorem dX3_read_1 : decode cX3_read 1 = .ok (.invokevirtual 20, 3) := by decide +kernel
theorem dX3_read_4 : decode cX3_read 4 = .ok (.aload_n 0, 1) := by decide +kernel
theorem dX3_read_5 : decode cX3_read 5 = .ok (.aload_n 1, 1) := by decide +kernel
theorem dX3_read_6 : decode cX3_read 6 = .ok (.invokevirtual 23, 3) := by decide +kernel
theorem dX3_read_9 : decode cX3_read 9 = .ok (.istore_n 2, 1) := by decide +kernel
theorem dX3_read_10 : decode cX3_read 10 = .ok (.iload_n 2, 1) := by decide +kernel
theorem dX3_read_11 : decode cX3_read 11 = .ok (.ifCond .ne 9, 3) := by decide +kernel
theorem dX3_read_14 : decode cX3_read 14 = .ok (.aload_n 0, 1) := by decide +kernel
theorem dX3_read_15 : decode cX3_read 15 = .ok (.aload_n 1, 1) := by decide +kernel
theorem dX3_read_16 : decode cX3_read 16 = .ok (.invokevirtual 27, 3) := by decide +kernel
theorem dX3_read_19 : decode cX3_read 19 = .ok (.istore_n 2, 1) := by decide +kernel
theorem dX3_read_20 : decode cX3_read 20 = .ok (.iload_n 2, 1) := by decide +kernel
theorem dX3_read_21 : decode cX3_read 21 = .ok (.ifCond .ne 17, 3) := by decide +kernel
theorem dX3_read_24 : decode cX3_read 24 = .ok (.aload_n 0, 1) := by decide +kernel
theorem dX3_read_25 : decode cX3_read 25 = .ok (.aload_n 1, 1) := by decide +kernel
theorem dX3_read_26 : decode cX3_read 26 = .ok (.aload_n 1, 1) := by decide +kernel
theorem dX3_read_27 : decode cX3_read 27 = .ok (.iconst 1, 1) := by decide +kernel
theorem dX3_read_28 : decode cX3_read 28 = .ok (.invokevirtual 30, 3) := by decide +kernel
theorem dX3_read_31 : decode cX3_read 31 = .ok (.bipush 15, 2) := by decide +kernel
theorem dX3_read_33 : decode cX3_read 33 = .ok (.iand, 1) := by decide +kernel
theorem dX3_read_34 : decode cX3_read 34 = .ok (.invokevirtual 34, 3) := by decide +kernel
theorem dX3_read_37 : decode cX3_read 37 = .ok (.istore_n 2, 1) := by decide +kernel
theorem dX3_read_38 : decode cX3_read 38 = .ok (.iload_n 2, 1) := by decide +kernel
theorem dX3_read_39 : decode cX3_read 39 = .ok (.ireturn, 1) := by decide +kernel
set_option maxRecDepth 100000 in
set_option maxHeartbeats 4000000 in
theorem c_X3_read_116 {hp : List gA} {q : rq} {l t : List Int32} (HQ : rqH hp 116 q l) (HT : gRw hp 1 2 96 t) : gM yX3_read cX3_read 3 ((some .int)) 4 127 [.ref 116, .ref 1] (hp) (0) (0) (fun v h => v = some (.int (rRd q t).1) ∧ (rqH h 116 (rRd q t).2.1 (rRd q t).2.2 ∧ rqF 116 hp h)) := by
  refine gM_of (ls0 := [some (.ref 116), some (.ref 1), none]) (by decide +kernel) (Nat.le_of_ble_eq_true rfl) rfl fun X C E => ?_
  have ht := (gRw.le HT).1
  refine g_aload_n (q := 1) C dX3_read_0 rfl rfl ?_
  refine g_callVvp (q := 4) (As := []) C gyX3_clear gvX3_clear t_508 (c_X3_clear_116 HQ) dX3_read_1 rfl HQ.1 rfl rfl rfl (Nat.le_of_ble_eq_true rfl) (Nat.le_of_ble_eq_true rfl) (Nat.le_of_ble_eq_true rfl) (Nat.le_of_ble_eq_true rfl) (Nat.le_of_ble_eq_true rfl) rfl (fun h1 z1 => ?_)
  obtain ⟨HQ1, fq1⟩ := z1
  have HT1 := gRw.ra HT (by decide) fq1
  refine g_aload_n (q := 5) C dX3_read_4 rfl rfl ?_
  refine g_aload_n (q := 6) C dX3_read_5 rfl rfl ?_
  refine g_callVix (x := (rX3_readHead (rX3_clear q) t).1) (q := 9) (As := [.ref 1]) C gyX3_readHead gvX3_readHead t_513 (c_X3_readHead_116 HQ1 HT1) dX3_read_6 rfl HQ1.1 rfl rfl rfl (Nat.le_of_ble_eq_true rfl) (Nat.le_of_ble_eq_true rfl) (Nat.le_of_ble_eq_true rfl) (Nat.le_of_ble_eq_true rfl) (Nat.le_of_ble_eq_true rfl) rfl (fun h2 z2 => ?_)
  obtain ⟨HQ2, fq2⟩ := z2
  have HT2 := gRw.ra HT1 (by decide) fq2
  refine g_istore_n (q := 10) C dX3_read_9 (Nat.le_of_ble_eq_true rfl) (by simp only [gset]; rfl) rfl ?_
  refine g_iload_n (q := 11) C dX3_read_10 rfl rfl ?_
  refine g_if_ne (t := 20) (q := 14) C dX3_read_11 (by decide) rfl (fun c_11 => ?_) (fun c_11 => ?_)
  ·
    refine g_iload_n (q := 21) C dX3_read_20 rfl rfl ?_
    refine g_if_ne (t := 38) (q := 24) C dX3_read_21 (by decide) rfl (fun c_21 => ?_) (fun c_21 => ?_)
    ·
      refine g_iload_n (q := 39) C dX3_read_38 rfl rfl ?_
      have e : rRd q t = ((rX3_readHead (rX3_clear q) t).1, ((rX3_readHead (rX3_clear q) t).2, [])) := (if_neg c_11)
      exact E.1 _ _ _ _ _ _ _ dX3_read_39 rfl rfl (Nat.le_of_ble_eq_true rfl) (Nat.le_of_ble_eq_true rfl) ⟨by rw [e], by rw [e]; exact ⟨HQ2, (rqF.trans fq1 fq2)⟩⟩
    ·
      exact absurd c_21 c_11
  ·
    refine g_aload_n (q := 15) C dX3_read_14 rfl rfl ?_
    refine g_aload_n (q := 16) C dX3_read_15 rfl rfl ?_
    refine g_callVix (x := (rGs t 4 1 (0, (rX3_readHead (rX3_clear q) t).2)).1) (q := 19) (As := [.ref 1]) C gyX3_readGroups gvX3_readGroups t_525 (c_X3_readGroups_116 HQ2 HT2) dX3_read_16 rfl HQ2.1 rfl rfl rfl (Nat.le_of_ble_eq_true rfl) (Nat.le_of_ble_eq_true rfl) (Nat.le_of_ble_eq_true rfl) (Nat.le_of_ble_eq_true rfl) (Nat.le_of_ble_eq_true rfl) rfl (fun h3 z3 => ?_)
    obtain ⟨HQ3, fq3⟩ := z3
    have HT3 := gRw.ra HT2 (by decide) fq3
    refine g_istore_n (q := 20) C dX3_read_19 (Nat.le_of_ble_eq_true rfl) (by simp only [gset]; rfl) rfl ?_
    refine g_iload_n (q := 21) C dX3_read_20 rfl rfl ?_
    refine g_if_ne (t := 38) (q := 24) C dX3_read_21 (by decide) rfl (fun c_21 => ?_) (fun c_21 => ?_)
    ·
      refine g_iload_n (q := 39) C dX3_read_38 rfl rfl ?_
      have e : rRd q t = ((rGs t 4 1 (0, (rX3_readHead (rX3_clear q) t).2)).1, ((rGs t 4 1 (0, (rX3_readHead (rX3_clear q) t).2)).2, [])) := (if_pos (c_11)).trans (if_neg c_21)
      exact E.1 _ _ _ _ _ _ _ dX3_read_39 rfl rfl (Nat.le_of_ble_eq_true rfl) (Nat.le_of_ble_eq_true rfl) ⟨by rw [e], by rw [e]; exact ⟨HQ3, (rqF.trans (rqF.trans fq1 fq2) fq3)⟩⟩
    ·
      have h0 : (rX3_readHead (rX3_clear q) t).1 = 0 := c_11
      have h1 : (rGs t 4 1 (0, (rX3_readHead (rX3_clear q) t).2)).1 = 0 := c_21
      obtain ⟨n, hn, en⟩ := raAnd15 (a := gat t 1)
      refine g_aload_n (q := 25) C dX3_read_24 rfl rfl ?_
      refine g_aload_n (q := 26) C dX3_read_25 rfl rfl ?_
      refine g_aload_n (q := 27) C dX3_read_26 rfl rfl ?_
      refine g_iconst (v := 1) (q := 28) C dX3_read_27 (by decide) rfl ?_
      refine g_callVi (x := (gat t 1)) (q := 31) (As := [.int 1]) C gyX4_at gvX4_at t_521 (c_X4_at_w HT3) dX3_read_28 rfl (gRw.obj HT3) rfl rfl rfl (Nat.le_of_ble_eq_true rfl) (Nat.le_of_ble_eq_true rfl) (Nat.le_of_ble_eq_true rfl) (Nat.le_of_ble_eq_true rfl) (Nat.le_of_ble_eq_true rfl) rfl ?_
      refine g_bipush (v := 15) (q := 33) C dX3_read_31 (by decide) rfl ?_
      refine g_iand (q := 34) C dX3_read_33 rfl ?_
      rw [en]
      refine g_callVix (x := (rE t (rC t (rH t n (0, ((rGs t 4 1 (0, (rX3_readHead (rX3_clear q) t).2)).2, []))))).1) (q := 37) (As := [.ref 1, .int ((nI n))]) C gyX3_readTail gvX3_readTail t_555 (c_X3_readTail_116 HQ3 HT3 hn (rGs_P ht (fun _ => (rHead0 ht h0).1) h1)) dX3_read_34 rfl HQ3.1 rfl rfl rfl (Nat.le_of_ble_eq_true rfl) (Nat.le_of_ble_eq_true rfl) (Nat.le_of_ble_eq_true rfl) (Nat.le_of_ble_eq_true rfl) (Nat.le_of_ble_eq_true rfl) rfl (fun h4 z4 => ?_)
      obtain ⟨HQ4, fq4⟩ := z4
      have HT4 := gRw.ra HT3 (by decide) fq4
      refine g_istore_n (q := 38) C dX3_read_37 (Nat.le_of_ble_eq_true rfl) (by simp only [gset]; rfl) rfl ?_
      refine g_iload_n (q := 39) C dX3_read_38 rfl rfl ?_
      have e : rRd q t = rE t (rC t (rH t n (0, ((rGs t 4 1 (0, (rX3_readHead (rX3_clear q) t).2)).2, [])))) := (if_pos h0).trans ((if_pos h1).trans (by rw [en, nI_clamp (by omega)]))
      exact E.1 _ _ _ _ _ _ _ dX3_read_39 rfl rfl (Nat.le_of_ble_eq_true rfl) (Nat.le_of_ble_eq_true rfl) ⟨by rw [e], by rw [e]; exact ⟨HQ4, (rqF.trans (rqF.trans (rqF.trans fq1 fq2) fq3) fq4)⟩⟩
set_option maxRecDepth 100000 in
set_option maxHeartbeats 4000000 in
theorem c_X3_clear_119 {hp : List gA} {q : rq} {l : List Int32} (HQ : rqH hp 119 q l) : gM yX3_clear cX3_clear 1 (none) 2 42 [.ref 119] (hp) (0) (0) (fun v h => v = none ∧ (rqH h 119 (rX3_clear q) [] ∧ rqF 119 hp h)) := by
  refine gM_of (ls0 := [some (.ref 119)]) (by decide +kernel) (Nat.le_of_ble_eq_true rfl) rfl fun X C E => ?_
  refine g_aload_n (q := 1) C dX3_clear_0 rfl rfl ?_
  refine g_bipush (v := 17) (q := 3) C dX3_clear_1 (by decide) rfl ?_
  refine g_putfield (q := 6) C fX3_38 dX3_clear_3 rfl HQ.1 (Nat.le_of_ble_eq_true rfl) (Or.inl rfl) rfl rfl (by intro z h; cases h) ?_
  refine rqput (j := 1) (x := 17) HQ rfl fun h1 HQ1 fq1 => ?_
  refine g_aload_n (q := 7) C dX3_clear_6 rfl rfl ?_
  refine g_iconst (v := 0) (q := 8) C dX3_clear_7 (by decide) rfl ?_
  refine g_putfield (q := 11) C fX3_42 dX3_clear_8 rfl HQ1.1 (Nat.le_of_ble_eq_true rfl) (Or.inl rfl) rfl rfl (by intro z h; cases h) ?_
  refine rqput (j := 2) (x := 0) HQ1 rfl fun h2 HQ2 fq2 => ?_
  refine g_aload_n (q := 12) C dX3_clear_11 rfl rfl ?_
  refine g_iconst (v := 0) (q := 13) C dX3_clear_12 (by decide) rfl ?_
  refine g_putfield (q := 16) C fX3_45 dX3_clear_13 rfl HQ2.1 (Nat.le_of_ble_eq_true rfl) (Or.inl rfl) rfl rfl (by intro z h; cases h) ?_
  refine rqput (j := 3) (x := 0) HQ2 rfl fun h3 HQ3 fq3 => ?_
  refine g_aload_n (q := 17) C dX3_clear_16 rfl rfl ?_
  refine g_iconst (v := 0) (q := 18) C dX3_clear_17 (by decide) rfl ?_
  refine g_putfield (q := 21) C fX3_48 dX3_clear_18 rfl HQ3.1 (Nat.le_of_ble_eq_true rfl) (Or.inl rfl) rfl rfl (by intro z h; cases h) ?_
  refine rqput (j := 4) (x := 0) HQ3 rfl fun h4 HQ4 fq4 => ?_
  refine g_aload_n (q := 22) C dX3_clear_21 rfl rfl ?_
  refine g_bipush (v := 32) (q := 24) C dX3_clear_22 (by decide) rfl ?_
  refine g_putfield (q := 27) C fX3_51 dX3_clear_24 rfl HQ4.1 (Nat.le_of_ble_eq_true rfl) (Or.inl rfl) rfl rfl (by intro z h; cases h) ?_
  refine rqput (j := 5) (x := 32) HQ4 rfl fun h5 HQ5 fq5 => ?_
  refine g_aload_n (q := 28) C dX3_clear_27 rfl rfl ?_
  refine g_iconst (v := 0) (q := 29) C dX3_clear_28 (by decide) rfl ?_
  refine g_putfield (q := 32) C fX3_54 dX3_clear_29 rfl HQ5.1 (Nat.le_of_ble_eq_true rfl) (Or.inl rfl) rfl rfl (by intro z h; cases h) ?_
  refine rqput (j := 6) (x := 0) HQ5 rfl fun h6 HQ6 fq6 => ?_
  refine g_aload_n (q := 33) C dX3_clear_32 rfl rfl ?_
  refine g_getfield (v := .ref 120) (q := 36) C fX3_14 dX3_clear_33 rfl HQ6.1 rfl ?_
  refine g_iconst (v := 0) (q := 37) C dX3_clear_36 (by decide) rfl ?_
  refine g_callVvp (q := 40) (As := [.int 0]) C gyX4_keep gvX4_keep t_512 (c_X4_keep0 HQ6.2) dX3_clear_37 rfl (gRw.obj HQ6.2) rfl rfl rfl (Nat.le_of_ble_eq_true rfl) (Nat.le_of_ble_eq_true rfl) (Nat.le_of_ble_eq_true rfl) (Nat.le_of_ble_eq_true rfl) (Nat.le_of_ble_eq_true rfl) rfl (fun h7 z7 => ?_)
  obtain ⟨HQ7, fq7⟩ := rqrow HQ6 z7
  refine g_aload_n (q := 41) C dX3_clear_40 rfl rfl ?_
  refine g_iconst (v := 0) (q := 42) C dX3_clear_41 (by decide) rfl ?_
  refine g_putfield (q := 45) C fX3_62 dX3_clear_42 rfl HQ7.1 (Nat.le_of_ble_eq_true rfl) (Or.inl rfl) rfl rfl (by intro z h; cases h) ?_
  refine rqput (j := 10) (x := 0) HQ7 rfl fun h8 HQ8 fq8 => ?_
  have e : rX3_clear q = (((((((q.set 1 17).set 2 0).set 3 0).set 4 0).set 5 32).set 6 0).set 10 0) := rfl
  exact E.2.1 _ _ _ _ _ dX3_clear_45 rfl (Nat.le_of_ble_eq_true rfl) (Nat.le_of_ble_eq_true rfl) ⟨rfl, by rw [e]; exact ⟨HQ8, (rqF.trans (rqF.trans (rqF.trans (rqF.trans (rqF.trans (rqF.trans (rqF.trans fq1 fq2) fq3) fq4) fq5) fq6) fq7) fq8)⟩⟩
set_option maxRecDepth 100000 in
set_option maxHeartbeats 4000000 in
theorem c_X3_readHead_119 {hp : List gA} {q : rq} {l t : List Int32} (HQ : rqH hp 119 q l) (HT : gRw hp 1 2 96 t) : gM yX3_readHead cX3_readHead 2 ((some .int)) 1 21 [.ref 119, .ref 1] (hp) (0) (0) (fun v h => v = some (.int (rX3_readHead q t).1) ∧ (rqH h 119 (rX3_readHead q t).2 l ∧ rqF 119 hp h)) := by
  refine gM_of (ls0 := [some (.ref 119), some (.ref 1)]) (by decide +kernel) (Nat.le_of_ble_eq_true rfl) rfl fun X C E => ?_
  refine g_aload_n (q := 1) C dX3_readHead_0 rfl rfl ?_
  refine g_callVi (x := (nI t.length)) (q := 4) (As := []) C gyX4_size gvX4_size t_517 (c_X4_size (gRw.obj HT)) dX3_readHead_1 rfl (gRw.obj HT) rfl rfl rfl (Nat.le_of_ble_eq_true rfl) (Nat.le_of_ble_eq_true rfl) (Nat.le_of_ble_eq_true rfl) (Nat.le_of_ble_eq_true rfl) (Nat.le_of_ble_eq_true rfl) rfl ?_
  refine g_if_ne (t := 13) (q := 7) C dX3_readHead_4 (by decide) rfl (fun c_4 => ?_) (fun c_4 => ?_)
  ·
    refine g_aload_n (q := 14) C dX3_readHead_13 rfl rfl ?_
    refine g_aload_n (q := 15) C dX3_readHead_14 rfl rfl ?_
    refine g_iconst (v := 0) (q := 16) C dX3_readHead_15 (by decide) rfl ?_
    refine g_callVi (x := (gat t 0)) (q := 19) (As := [.int 0]) C gyX4_at gvX4_at t_521 (c_X4_at_w HT) dX3_readHead_16 rfl (gRw.obj HT) rfl rfl rfl (Nat.le_of_ble_eq_true rfl) (Nat.le_of_ble_eq_true rfl) (Nat.le_of_ble_eq_true rfl) (Nat.le_of_ble_eq_true rfl) (Nat.le_of_ble_eq_true rfl) rfl ?_
    refine g_putfield (q := 22) C fX3_73 dX3_readHead_19 rfl HQ.1 (Nat.le_of_ble_eq_true rfl) (Or.inl rfl) rfl rfl (by intro z h; cases h) ?_
    refine rqput (j := 0) (x := (gat t 0)) HQ rfl fun h1 HQ1 fq1 => ?_
    have HT1 := gRw.ra HT (by decide) fq1
    refine g_aload_n (q := 23) C dX3_readHead_22 rfl rfl ?_
    refine g_getfield (v := .int ((gat t 0))) (q := 26) C fX3_73 dX3_readHead_23 rfl HQ1.1 rfl ?_
    refine g_bipush (v := 59) (q := 28) C dX3_readHead_26 (by decide) rfl ?_
    refine g_icmp_eq (t := 46) (q := 31) C dX3_readHead_28 (by decide) rfl (fun c_28 => ?_) (fun c_28 => ?_)
    ·
      refine g_aload_n (q := 47) C dX3_readHead_46 rfl rfl ?_
      refine g_callVi (x := (nI t.length)) (q := 50) (As := []) C gyX4_size gvX4_size t_517 (c_X4_size (gRw.obj HT1)) dX3_readHead_47 rfl (gRw.obj HT1) rfl rfl rfl (Nat.le_of_ble_eq_true rfl) (Nat.le_of_ble_eq_true rfl) (Nat.le_of_ble_eq_true rfl) (Nat.le_of_ble_eq_true rfl) (Nat.le_of_ble_eq_true rfl) rfl ?_
      refine g_iconst (v := 1) (q := 51) C dX3_readHead_50 (by decide) rfl ?_
      refine g_icmp_ne (t := 60) (q := 54) C dX3_readHead_51 (by decide) rfl (fun c_51 => ?_) (fun c_51 => ?_)
      ·
        refine g_aload_n (q := 61) C dX3_readHead_60 rfl rfl ?_
        refine g_aload_n (q := 62) C dX3_readHead_61 rfl rfl ?_
        refine g_iconst (v := 1) (q := 63) C dX3_readHead_62 (by decide) rfl ?_
        refine g_callVi (x := (gat t 1)) (q := 66) (As := [.int 1]) C gyX4_at gvX4_at t_521 (c_X4_at_w HT1) dX3_readHead_63 rfl (gRw.obj HT1) rfl rfl rfl (Nat.le_of_ble_eq_true rfl) (Nat.le_of_ble_eq_true rfl) (Nat.le_of_ble_eq_true rfl) (Nat.le_of_ble_eq_true rfl) (Nat.le_of_ble_eq_true rfl) rfl ?_
        refine g_iconst (v := 4) (q := 67) C dX3_readHead_66 (by decide) rfl ?_
        refine g_ishr (q := 68) C dX3_readHead_67 rfl ?_
        refine g_putfield (q := 71) C fX3_76 dX3_readHead_68 rfl HQ1.1 (Nat.le_of_ble_eq_true rfl) (Or.inl rfl) rfl rfl (by intro z h; cases h) ?_
        refine rqput (j := 9) (x := ((gat t 1) >>> (4 &&& 31))) HQ1 rfl fun h2 HQ2 fq2 => ?_
        have HT2 := gRw.ra HT1 (by decide) fq2
        refine g_aload_n (q := 72) C dX3_readHead_71 rfl rfl ?_
        refine g_iconst (v := 2) (q := 73) C dX3_readHead_72 (by decide) rfl ?_
        refine g_putfield (q := 76) C fX3_79 dX3_readHead_73 rfl HQ2.1 (Nat.le_of_ble_eq_true rfl) (Or.inl rfl) rfl rfl (by intro z h; cases h) ?_
        refine rqput (j := 8) (x := 2) HQ2 rfl fun h3 HQ3 fq3 => ?_
        have HT3 := gRw.ra HT2 (by decide) fq3
        refine g_iconst (v := 0) (q := 77) C dX3_readHead_76 (by decide) rfl ?_
        have e : rX3_readHead q t = ((0 : Int32), (((q.set 0 (gat t 0)).set 9 ((gat t 1) >>> (4 &&& 31))).set 8 2)) := ((if_neg c_4).trans ((if_pos c_28).trans (if_neg c_51)))
        exact E.1 _ _ _ _ _ _ _ dX3_readHead_77 rfl rfl (Nat.le_of_ble_eq_true rfl) (Nat.le_of_ble_eq_true rfl) ⟨by rw [e], by rw [e]; exact ⟨HQ3, (rqF.trans (rqF.trans fq1 fq2) fq3)⟩⟩
      ·
        refine g_iconst (v := 1) (q := 55) C dX3_readHead_54 (by decide) rfl ?_
        refine g_iconst (v := 1) (q := 56) C dX3_readHead_55 (by decide) rfl ?_
        refine g_callSi (x := (8 * 1 + 1)) (q := 59) (As := [.int 1, .int 1]) C gyX3_faultAt t_519 t_518 (c_X3_faultAt_x) dX3_readHead_56 rfl rfl rfl (Nat.le_of_ble_eq_true rfl) (Nat.le_of_ble_eq_true rfl) (Nat.le_of_ble_eq_true rfl) (Nat.le_of_ble_eq_true rfl) (Nat.le_of_ble_eq_true rfl) rfl ?_
        have e : rX3_readHead q t = ((8 * 1 + 1 : Int32), (q.set 0 (gat t 0))) := ((if_neg c_4).trans ((if_pos c_28).trans (if_pos c_51)))
        exact E.1 _ _ _ _ _ _ _ dX3_readHead_59 rfl rfl (Nat.le_of_ble_eq_true rfl) (Nat.le_of_ble_eq_true rfl) ⟨by rw [e], by rw [e]; exact ⟨HQ1, fq1⟩⟩
    ·
      refine g_aload_n (q := 32) C dX3_readHead_31 rfl rfl ?_
      refine g_getfield (v := .int ((gat t 0))) (q := 35) C fX3_73 dX3_readHead_32 rfl HQ1.1 rfl ?_
      refine g_bipush (v := 63) (q := 37) C dX3_readHead_35 (by decide) rfl ?_
      refine g_icmp_eq (t := 46) (q := 40) C dX3_readHead_37 (by decide) rfl (fun c_37 => ?_) (fun c_37 => ?_)
      ·
        refine g_aload_n (q := 47) C dX3_readHead_46 rfl rfl ?_
        refine g_callVi (x := (nI t.length)) (q := 50) (As := []) C gyX4_size gvX4_size t_517 (c_X4_size (gRw.obj HT1)) dX3_readHead_47 rfl (gRw.obj HT1) rfl rfl rfl (Nat.le_of_ble_eq_true rfl) (Nat.le_of_ble_eq_true rfl) (Nat.le_of_ble_eq_true rfl) (Nat.le_of_ble_eq_true rfl) (Nat.le_of_ble_eq_true rfl) rfl ?_
        refine g_iconst (v := 1) (q := 51) C dX3_readHead_50 (by decide) rfl ?_
        refine g_icmp_ne (t := 60) (q := 54) C dX3_readHead_51 (by decide) rfl (fun c_51 => ?_) (fun c_51 => ?_)
        ·
          refine g_aload_n (q := 61) C dX3_readHead_60 rfl rfl ?_
          refine g_aload_n (q := 62) C dX3_readHead_61 rfl rfl ?_
          refine g_iconst (v := 1) (q := 63) C dX3_readHead_62 (by decide) rfl ?_
          refine g_callVi (x := (gat t 1)) (q := 66) (As := [.int 1]) C gyX4_at gvX4_at t_521 (c_X4_at_w HT1) dX3_readHead_63 rfl (gRw.obj HT1) rfl rfl rfl (Nat.le_of_ble_eq_true rfl) (Nat.le_of_ble_eq_true rfl) (Nat.le_of_ble_eq_true rfl) (Nat.le_of_ble_eq_true rfl) (Nat.le_of_ble_eq_true rfl) rfl ?_
          refine g_iconst (v := 4) (q := 67) C dX3_readHead_66 (by decide) rfl ?_
          refine g_ishr (q := 68) C dX3_readHead_67 rfl ?_
          refine g_putfield (q := 71) C fX3_76 dX3_readHead_68 rfl HQ1.1 (Nat.le_of_ble_eq_true rfl) (Or.inl rfl) rfl rfl (by intro z h; cases h) ?_
          refine rqput (j := 9) (x := ((gat t 1) >>> (4 &&& 31))) HQ1 rfl fun h4 HQ4 fq4 => ?_
          have HT4 := gRw.ra HT1 (by decide) fq4
          refine g_aload_n (q := 72) C dX3_readHead_71 rfl rfl ?_
          refine g_iconst (v := 2) (q := 73) C dX3_readHead_72 (by decide) rfl ?_
          refine g_putfield (q := 76) C fX3_79 dX3_readHead_73 rfl HQ4.1 (Nat.le_of_ble_eq_true rfl) (Or.inl rfl) rfl rfl (by intro z h; cases h) ?_
          refine rqput (j := 8) (x := 2) HQ4 rfl fun h5 HQ5 fq5 => ?_
          have HT5 := gRw.ra HT4 (by decide) fq5
          refine g_iconst (v := 0) (q := 77) C dX3_readHead_76 (by decide) rfl ?_
          have e : rX3_readHead q t = ((0 : Int32), (((q.set 0 (gat t 0)).set 9 ((gat t 1) >>> (4 &&& 31))).set 8 2)) := ((if_neg c_4).trans ((if_neg c_28).trans ((if_pos c_37).trans (if_neg c_51))))
          exact E.1 _ _ _ _ _ _ _ dX3_readHead_77 rfl rfl (Nat.le_of_ble_eq_true rfl) (Nat.le_of_ble_eq_true rfl) ⟨by rw [e], by rw [e]; exact ⟨HQ5, (rqF.trans (rqF.trans fq1 fq4) fq5)⟩⟩
        ·
          refine g_iconst (v := 1) (q := 55) C dX3_readHead_54 (by decide) rfl ?_
          refine g_iconst (v := 1) (q := 56) C dX3_readHead_55 (by decide) rfl ?_
          refine g_callSi (x := (8 * 1 + 1)) (q := 59) (As := [.int 1, .int 1]) C gyX3_faultAt t_519 t_518 (c_X3_faultAt_x) dX3_readHead_56 rfl rfl rfl (Nat.le_of_ble_eq_true rfl) (Nat.le_of_ble_eq_true rfl) (Nat.le_of_ble_eq_true rfl) (Nat.le_of_ble_eq_true rfl) (Nat.le_of_ble_eq_true rfl) rfl ?_
          have e : rX3_readHead q t = ((8 * 1 + 1 : Int32), (q.set 0 (gat t 0))) := ((if_neg c_4).trans ((if_neg c_28).trans ((if_pos c_37).trans (if_pos c_51))))
          exact E.1 _ _ _ _ _ _ _ dX3_readHead_59 rfl rfl (Nat.le_of_ble_eq_true rfl) (Nat.le_of_ble_eq_true rfl) ⟨by rw [e], by rw [e]; exact ⟨HQ1, fq1⟩⟩
      ·
        refine g_iconst (v := 0) (q := 41) C dX3_readHead_40 (by decide) rfl ?_
        refine g_iconst (v := 2) (q := 42) C dX3_readHead_41 (by decide) rfl ?_
        refine g_callSi (x := (8 * 0 + 2)) (q := 45) (As := [.int 0, .int 2]) C gyX3_faultAt t_519 t_518 (c_X3_faultAt_x) dX3_readHead_42 rfl rfl rfl (Nat.le_of_ble_eq_true rfl) (Nat.le_of_ble_eq_true rfl) (Nat.le_of_ble_eq_true rfl) (Nat.le_of_ble_eq_true rfl) (Nat.le_of_ble_eq_true rfl) rfl ?_
        have e : rX3_readHead q t = ((8 * 0 + 2 : Int32), (q.set 0 (gat t 0))) := ((if_neg c_4).trans ((if_neg c_28).trans (if_neg c_37)))
        exact E.1 _ _ _ _ _ _ _ dX3_readHead_45 rfl rfl (Nat.le_of_ble_eq_true rfl) (Nat.le_of_ble_eq_true rfl) ⟨by rw [e], by rw [e]; exact ⟨HQ1, fq1⟩⟩
  ·
    refine g_iconst (v := 0) (q := 8) C dX3_readHead_7 (by decide) rfl ?_
    refine g_iconst (v := 1) (q := 9) C dX3_readHead_8 (by decide) rfl ?_
    refine g_callSi (x := (8 * 0 + 1)) (q := 12) (As := [.int 0, .int 1]) C gyX3_faultAt t_519 t_518 (c_X3_faultAt_x) dX3_readHead_9 rfl rfl rfl (Nat.le_of_ble_eq_true rfl) (Nat.le_of_ble_eq_true rfl) (Nat.le_of_ble_eq_true rfl) (Nat.le_of_ble_eq_true rfl) (Nat.le_of_ble_eq_true rfl) rfl ?_
    have e : rX3_readHead q t = ((8 * 0 + 1 : Int32), q) := (if_pos c_4)
    exact E.1 _ _ _ _ _ _ _ dX3_readHead_12 rfl rfl (Nat.le_of_ble_eq_true rfl) (Nat.le_of_ble_eq_true rfl) ⟨by rw [e], by rw [e]; exact ⟨HQ, rqF.rf⟩⟩
