/-! the reference: faults told, and what they would harm (by program: wip/p2/m_mw.py) -/
theorem gI3 {x : Int32} (h : ¬ rX8_within x 1 3 = 0) : x = 1 ∨ x = 2 ∨ x = 3 := by
  obtain ⟨n, h1, h2, rfl⟩ := gWi (a := 1) (b := 3) (by decide) (by decide) h
  have : n = 1 ∨ n = 2 ∨ n = 3 := by omega
  rcases this with rfl | rfl | rfl
  · exact Or.inl rfl
  · exact Or.inr (Or.inl rfl)
  · exact Or.inr (Or.inr rfl)
theorem dX8_faultsToCome_0 : decode cX8_faultsToCome 0 = .ok (.iconst 0, 1) := by decide +kernel
theorem dX8_faultsToCome_1 : decode cX8_faultsToCome 1 = .ok (.istore_n 1, 1) := by decide +kernel
theorem dX8_faultsToCome_2 : decode cX8_faultsToCome 2 = .ok (.iconst 0, 1) := by decide +kernel
theorem dX8_faultsToCome_3 : decode cX8_faultsToCome 3 = .ok (.istore_n 2, 1) := by decide +kernel
theorem dX8_faultsToCome_4 : decode cX8_faultsToCome 4 = .ok (.iload_n 2, 1) := by decide +kernel
theorem dX8_faultsToCome_5 : decode cX8_faultsToCome 5 = .ok (.aload_n 0, 1) := by decide +kernel
theorem dX8_faultsToCome_6 : decode cX8_faultsToCome 6 = .ok (.getfield 22, 3) := by decide +kernel
theorem dX8_faultsToCome_9 : decode cX8_faultsToCome 9 = .ok (.sipush 430, 3) := by decide +kernel
theorem dX8_faultsToCome_12 : decode cX8_faultsToCome 12 = .ok (.iaload, 1) := by decide +kernel
theorem dX8_faultsToCome_13 : decode cX8_faultsToCome 13 = .ok (.if_icmp .ge 35, 3) := by decide +kernel
theorem dX8_faultsToCome_16 : decode cX8_faultsToCome 16 = .ok (.aload_n 0, 1) := by decide +kernel
theorem dX8_faultsToCome_17 : decode cX8_faultsToCome 17 = .ok (.getfield 22, 3) := by decide +kernel
theorem dX8_faultsToCome_20 : decode cX8_faultsToCome 20 = .ok (.sipush 431, 3) := by decide +kernel
theorem dX8_faultsToCome_23 : decode cX8_faultsToCome 23 = .ok (.iconst 3, 1) := by decide +kernel
theorem dX8_faultsToCome_24 : decode cX8_faultsToCome 24 = .ok (.iload_n 2, 1) := by decide +kernel
theorem dX8_faultsToCome_25 : decode cX8_faultsToCome 25 = .ok (.imul, 1) := by decide +kernel
theorem dX8_faultsToCome_26 : decode cX8_faultsToCome 26 = .ok (.iadd, 1) := by decide +kernel
theorem dX8_faultsToCome_27 : decode cX8_faultsToCome 27 = .ok (.iaload, 1) := by decide +kernel
theorem dX8_faultsToCome_28 : decode cX8_faultsToCome 28 = .ok (.aload_n 0, 1) := by decide +kernel
theorem dX8_faultsToCome_29 : decode cX8_faultsToCome 29 = .ok (.getfield 22, 3) := by decide +kernel
theorem dX8_faultsToCome_32 : decode cX8_faultsToCome 32 = .ok (.sipush 423, 3) := by decide +kernel
theorem dX8_faultsToCome_35 : decode cX8_faultsToCome 35 = .ok (.iaload, 1) := by decide +kernel
theorem dX8_faultsToCome_36 : decode cX8_faultsToCome 36 = .ok (.if_icmp .lt 6, 3) := by decide +kernel
theorem dX8_faultsToCome_39 : decode cX8_faultsToCome 39 = .ok (.iinc 1 1, 3) := by decide +kernel
theorem dX8_faultsToCome_42 : decode cX8_faultsToCome 42 = .ok (.iinc 2 1, 3) := by decide +kernel
theorem dX8_faultsToCome_45 : decode cX8_faultsToCome 45 = .ok (.goto (-41), 3) := by decide +kernel
theorem dX8_faultsToCome_48 : decode cX8_faultsToCome 48 = .ok (.iload_n 1, 1) := by decide +kernel
theorem dX8_faultsToCome_49 : decode cX8_faultsToCome 49 = .ok (.ireturn, 1) := by decide +kernel
set_option maxRecDepth 100000 in
set_option maxHeartbeats 4000000 in
theorem c_X8_faultsToCome_r {hp : List gA} {M : gMd}  (HM : gMod hp M) (hf : gIr (M.a 4 430) 25) : gM yX8_faultsToCome cX8_faultsToCome 3 ((some .int)) 0 0 [.ref 122] (hp) (0) (0) (fun v h => ∃ x, v = some (.int x) ∧ h = hp) := by
  refine gM_of (ls0 := [some (.ref 122), none, none]) (by decide +kernel) (Nat.le_of_ble_eq_true rfl) rfl fun X C E => ?_
  have h25 := hf.le (by decide)
  refine g_iconst (v := 0) (q := 1) C dX8_faultsToCome_0 (by decide) rfl ?_
  refine g_istore_n (q := 2) C dX8_faultsToCome_1 (Nat.le_of_ble_eq_true rfl) (by simp only [gset]; rfl) rfl ?_
  refine g_iconst (v := 0) (q := 3) C dX8_faultsToCome_2 (by decide) rfl ?_
  refine g_istore_n (q := 4) C dX8_faultsToCome_3 (Nat.le_of_ble_eq_true rfl) (by simp only [gset]; rfl) rfl ?_
  have LL : ∀ d j : Nat, j + d = (M.a 4 430).toNatClampNeg → ∀ t : Int32, gG X 4 [some (.ref 122), some (.int t), some (.int ((nI j)))] [] hp 0 0 := by
    intro d
    induction d with
    | zero =>
      intro j hj t
      obtain rfl : (M.a 4 430).toNatClampNeg = j := by omega
      refine g_iload_n (q := 5) C dX8_faultsToCome_4 rfl rfl ?_
      refine g_aload_n (q := 6) C dX8_faultsToCome_5 rfl rfl ?_
      refine g_getfield (v := .ref 127) (q := 9) C fX8_22 dX8_faultsToCome_6 rfl HM.1 rfl ?_
      refine g_sipush (v := 430) (q := 12) C dX8_faultsToCome_9 (by decide) rfl ?_
      refine g_ialoadN (x := (M.a 4 430)) (j := 430) (q := 13) C dX8_faultsToCome_12 rfl (HM.ar (i := 4) (n := 772) (by decide) rfl) (pk_in 430 772 (by decide)) (pk_cl 430) rfl ?_
      refine g_icmp_ge_t (t := 48) C dX8_faultsToCome_13 (by decide) (hf.t (by decide)) ?_
      refine g_iload_n (q := 49) C dX8_faultsToCome_48 rfl rfl ?_
      exact E.1 _ _ _ _ _ _ _ dX8_faultsToCome_49 rfl rfl (Nat.le_of_ble_eq_true rfl) (Nat.le_of_ble_eq_true rfl) ⟨_, rfl, rfl⟩
    | succ d ih =>
      intro j hj t
      refine g_iload_n (q := 5) C dX8_faultsToCome_4 rfl rfl ?_
      refine g_aload_n (q := 6) C dX8_faultsToCome_5 rfl rfl ?_
      refine g_getfield (v := .ref 127) (q := 9) C fX8_22 dX8_faultsToCome_6 rfl HM.1 rfl ?_
      refine g_sipush (v := 430) (q := 12) C dX8_faultsToCome_9 (by decide) rfl ?_
      refine g_ialoadN (x := (M.a 4 430)) (j := 430) (q := 13) C dX8_faultsToCome_12 rfl (HM.ar (i := 4) (n := 772) (by decide) rfl) (pk_in 430 772 (by decide)) (pk_cl 430) rfl ?_
      refine g_icmp_ge_f (t := 48) (q := 16) C dX8_faultsToCome_13 (by decide) rfl (hf.f (by decide) (by omega)) ?_
      refine g_aload_n (q := 17) C dX8_faultsToCome_16 rfl rfl ?_
      refine g_getfield (v := .ref 127) (q := 20) C fX8_22 dX8_faultsToCome_17 rfl HM.1 rfl ?_
      refine g_sipush (v := 431) (q := 23) C dX8_faultsToCome_20 (by decide) rfl ?_
      refine g_iconst (v := 3) (q := 24) C dX8_faultsToCome_23 (by decide) rfl ?_
      refine g_iload_n (q := 25) C dX8_faultsToCome_24 rfl rfl ?_
      refine g_imul (q := 26) C dX8_faultsToCome_25 rfl ?_
      refine g_iadd (q := 27) C dX8_faultsToCome_26 rfl ?_
      refine g_ialoadN (x := (M.a 4 (431 + 3 * j))) (j := (431 + 3 * j)) (q := 28) C dX8_faultsToCome_27 rfl (HM.ar (i := 4) (n := 772) (by decide) rfl) (pk_in (431 + 3 * j) 772 (by omega) (g3j (by omega))) (pk_cl (431 + 3 * j) (g3j (by omega)) (by omega)) rfl ?_
      refine g_aload_n (q := 29) C dX8_faultsToCome_28 rfl rfl ?_
      refine g_getfield (v := .ref 127) (q := 32) C fX8_22 dX8_faultsToCome_29 rfl HM.1 rfl ?_
      refine g_sipush (v := 423) (q := 35) C dX8_faultsToCome_32 (by decide) rfl ?_
      refine g_ialoadN (x := (M.a 4 423)) (j := 423) (q := 36) C dX8_faultsToCome_35 rfl (HM.ar (i := 4) (n := 772) (by decide) rfl) (pk_in 423 772 (by decide)) (pk_cl 423) rfl ?_
      refine g_icmp_lt (t := 42) (q := 39) C dX8_faultsToCome_36 (by decide) rfl (fun c_36 => ?_) (fun c_36 => ?_)
      ·
        refine g_iinc (v := (nI (j + 1))) (q := 45) C dX8_faultsToCome_42 rfl (nI_1 j) (by simp only [gset]; rfl) rfl ?_
        refine g_goto (q := 4) C dX8_faultsToCome_45 (by decide) ?_
        exact ih (j + 1) (by omega) _
      ·
        refine g_iinc (v := (t + Int32.ofInt 1)) (q := 42) C dX8_faultsToCome_39 rfl rfl (by simp only [gset]; rfl) rfl ?_
        refine g_iinc (v := (nI (j + 1))) (q := 45) C dX8_faultsToCome_42 rfl (nI_1 j) (by simp only [gset]; rfl) rfl ?_
        refine g_goto (q := 4) C dX8_faultsToCome_45 (by decide) ?_
        exact ih (j + 1) (by omega) _
  exact LL (M.a 4 430).toNatClampNeg 0 (by omega) 0
  
theorem dX8_harm_0 : decode cX8_harm 0 = .ok (.aload_n 0, 1) := by decide +kernel
theorem dX8_harm_1 : decode cX8_harm 1 = .ok (.iconst 0, 1) := by decide +kernel
theorem dX8_harm_2 : decode cX8_harm 2 = .ok (.putfield 66, 3) := by decide +kernel
theorem dX8_harm_5 : decode cX8_harm 5 = .ok (.aload_n 0, 1) := by decide +kernel
theorem dX8_harm_6 : decode cX8_harm 6 = .ok (.getfield 134, 3) := by decide +kernel
theorem dX8_harm_9 : decode cX8_harm 9 = .ok (.ifCond .eq 33, 3) := by decide +kernel
theorem dX8_harm_12 : decode cX8_harm 12 = .ok (.aload_n 0, 1) := by decide +kernel
theorem dX8_harm_13 : decode cX8_harm 13 = .ok (.getfield 22, 3) := by decide +kernel
theorem dX8_harm_16 : decode cX8_harm 16 = .ok (.sipush 419, 3) := by decide +kernel
theorem dX8_harm_19 : decode cX8_harm 19 = .ok (.iaload, 1) := by decide +kernel
theorem dX8_harm_20 : decode cX8_harm 20 = .ok (.iconst 1, 1) := by decide +kernel
theorem dX8_harm_21 : decode cX8_harm 21 = .ok (.if_icmp .ne 21, 3) := by decide +kernel
theorem dX8_harm_24 : decode cX8_harm 24 = .ok (.iload_n 1, 1) := by decide +kernel
theorem dX8_harm_25 : decode cX8_harm 25 = .ok (.iconst 1, 1) := by decide +kernel
theorem dX8_harm_26 : decode cX8_harm 26 = .ok (.iconst 3, 1) := by decide +kernel
theorem dX8_harm_27 : decode cX8_harm 27 = .ok (.invokestatic 82, 3) := by decide +kernel
theorem dX8_harm_30 : decode cX8_harm 30 = .ok (.ifCond .eq 12, 3) := by decide +kernel
theorem dX8_harm_33 : decode cX8_harm 33 = .ok (.iload_n 2, 1) := by decide +kernel
theorem dX8_harm_34 : decode cX8_harm 34 = .ok (.iconst 0, 1) := by decide +kernel
theorem dX8_harm_35 : decode cX8_harm 35 = .ok (.iconst 1, 1) := by decide +kernel
theorem dX8_harm_36 : decode cX8_harm 36 = .ok (.invokestatic 82, 3) := by decide +kernel
theorem dX8_harm_39 : decode cX8_harm 39 = .ok (.ifCond .ne 5, 3) := by decide +kernel
theorem dX8_harm_42 : decode cX8_harm 42 = .ok (.iconst (-1), 1) := by decide +kernel
theorem dX8_harm_43 : decode cX8_harm 43 = .ok (.ireturn, 1) := by decide +kernel
theorem dX8_harm_44 : decode cX8_harm 44 = .ok (.aload_n 0, 1) := by decide +kernel
theorem dX8_harm_45 : decode cX8_harm 45 = .ok (.invokevirtual 147, 3) := by decide +kernel
theorem dX8_harm_48 : decode cX8_harm 48 = .ok (.aload_n 0, 1) := by decide +kernel
theorem dX8_harm_49 : decode cX8_harm 49 = .ok (.invokevirtual 309, 3) := by decide +kernel
theorem dX8_harm_52 : decode cX8_harm 52 = .ok (.aload_n 0, 1) := by decide +kernel
theorem dX8_harm_53 : decode cX8_harm 53 = .ok (.invokevirtual 312, 3) := by decide +kernel
theorem dX8_harm_56 : decode cX8_harm 56 = .ok (.aload_n 0, 1) := by decide +kernel
theorem dX8_harm_57 : decode cX8_harm 57 = .ok (.getfield 22, 3) := by decide +kernel
theorem dX8_harm_60 : decode cX8_harm 60 = .ok (.sipush 423, 3) := by decide +kernel
theorem dX8_harm_63 : decode cX8_harm 63 = .ok (.iaload, 1) := by decide +kernel
theorem dX8_harm_64 : decode cX8_harm 64 = .ok (.aload_n 0, 1) := by decide +kernel
theorem dX8_harm_65 : decode cX8_harm 65 = .ok (.getfield 25, 3) := by decide +kernel
theorem dX8_harm_68 : decode cX8_harm 68 = .ok (.sipush 423, 3) := by decide +kernel
theorem dX8_harm_71 : decode cX8_harm 71 = .ok (.iaload, 1) := by decide +kernel
theorem dX8_harm_72 : decode cX8_harm 72 = .ok (.isub, 1) := by decide +kernel
theorem dX8_harm_73 : decode cX8_harm 73 = .ok (.istore_n 3, 1) := by decide +kernel
theorem dX8_harm_74 : decode cX8_harm 74 = .ok (.aload_n 0, 1) := by decide +kernel
theorem dX8_harm_75 : decode cX8_harm 75 = .ok (.getfield 22, 3) := by decide +kernel
theorem dX8_harm_78 : decode cX8_harm 78 = .ok (.sipush 419, 3) := by decide +kernel
theorem dX8_harm_81 : decode cX8_harm 81 = .ok (.iaload, 1) := by decide +kernel
theorem dX8_harm_82 : decode cX8_harm 82 = .ok (.iconst 2, 1) := by decide +kernel
theorem dX8_harm_83 : decode cX8_harm 83 = .ok (.if_icmp .ne 7, 3) := by decide +kernel
theorem dX8_harm_86 : decode cX8_harm 86 = .ok (.iconst 1, 1) := by decide +kernel
theorem dX8_harm_87 : decode cX8_harm 87 = .ok (.goto 4, 3) := by decide +kernel
theorem dX8_harm_90 : decode cX8_harm 90 = .ok (.iconst 0, 1) := by decide +kernel
theorem dX8_harm_91 : decode cX8_harm 91 = .ok (.istore 4, 2) := by decide +kernel
theorem dX8_harm_93 : decode cX8_harm 93 = .ok (.aload_n 0, 1) := by decide +kernel
theorem dX8_harm_94 : decode cX8_harm 94 = .ok (.aload_n 0, 1) := by decide +kernel
theorem dX8_harm_95 : decode cX8_harm 95 = .ok (.getfield 22, 3) := by decide +kernel
theorem dX8_harm_98 : decode cX8_harm 98 = .ok (.bipush 14, 2) := by decide +kernel
theorem dX8_harm_100 : decode cX8_harm 100 = .ok (.iaload, 1) := by decide +kernel
theorem dX8_harm_101 : decode cX8_harm 101 = .ok (.putfield 318, 3) := by decide +kernel
theorem dX8_harm_104 : decode cX8_harm 104 = .ok (.iconst 0, 1) := by decide +kernel
theorem dX8_harm_105 : decode cX8_harm 105 = .ok (.istore 5, 2) := by decide +kernel
theorem dX8_harm_107 : decode cX8_harm 107 = .ok (.iload 5, 2) := by decide +kernel
theorem dX8_harm_109 : decode cX8_harm 109 = .ok (.aload_n 0, 1) := by decide +kernel
theorem dX8_harm_110 : decode cX8_harm 110 = .ok (.getfield 318, 3) := by decide +kernel
theorem dX8_harm_113 : decode cX8_harm 113 = .ok (.if_icmp .ge 27, 3) := by decide +kernel
theorem dX8_harm_116 : decode cX8_harm 116 = .ok (.aload_n 0, 1) := by decide +kernel
theorem dX8_harm_117 : decode cX8_harm 117 = .ok (.getfield 60, 3) := by decide +kernel
theorem dX8_harm_120 : decode cX8_harm 120 = .ok (.iload 5, 2) := by decide +kernel
theorem dX8_harm_122 : decode cX8_harm 122 = .ok (.aload_n 0, 1) := by decide +kernel
theorem dX8_harm_123 : decode cX8_harm 123 = .ok (.getfield 22, 3) := by decide +kernel
theorem dX8_harm_126 : decode cX8_harm 126 = .ok (.sipush 288, 3) := by decide +kernel
theorem dX8_harm_129 : decode cX8_harm 129 = .ok (.iload 5, 2) := by decide +kernel
theorem dX8_harm_131 : decode cX8_harm 131 = .ok (.iadd, 1) := by decide +kernel
theorem dX8_harm_132 : decode cX8_harm 132 = .ok (.iaload, 1) := by decide +kernel
theorem dX8_harm_133 : decode cX8_harm 133 = .ok (.iastore, 1) := by decide +kernel
theorem dX8_harm_134 : decode cX8_harm 134 = .ok (.iinc 5 1, 3) := by decide +kernel
theorem dX8_harm_137 : decode cX8_harm 137 = .ok (.goto (-30), 3) := by decide +kernel
theorem dX8_harm_140 : decode cX8_harm 140 = .ok (.aload_n 0, 1) := by decide +kernel
theorem dX8_harm_141 : decode cX8_harm 141 = .ok (.invokevirtual 315, 3) := by decide +kernel
theorem dX8_harm_144 : decode cX8_harm 144 = .ok (.iload 4, 2) := by decide +kernel
theorem dX8_harm_146 : decode cX8_harm 146 = .ok (.ifCond .ne 5, 3) := by decide +kernel
theorem dX8_harm_149 : decode cX8_harm 149 = .ok (.iconst (-1), 1) := by decide +kernel
theorem dX8_harm_150 : decode cX8_harm 150 = .ok (.ireturn, 1) := by decide +kernel
theorem dX8_harm_151 : decode cX8_harm 151 = .ok (.iconst 0, 1) := by decide +kernel
theorem dX8_harm_152 : decode cX8_harm 152 = .ok (.istore 5, 2) := by decide +kernel
theorem dX8_harm_154 : decode cX8_harm 154 = .ok (.iconst (-1), 1) := by decide +kernel
theorem dX8_harm_155 : decode cX8_harm 155 = .ok (.istore 6, 2) := by decide +kernel
theorem dX8_harm_157 : decode cX8_harm 157 = .ok (.iconst 0, 1) := by decide +kernel
theorem dX8_harm_158 : decode cX8_harm 158 = .ok (.istore 7, 2) := by decide +kernel
theorem dX8_harm_160 : decode cX8_harm 160 = .ok (.iload 7, 2) := by decide +kernel
theorem dX8_harm_162 : decode cX8_harm 162 = .ok (.iload_n 3, 1) := by decide +kernel
theorem dX8_harm_163 : decode cX8_harm 163 = .ok (.if_icmp .ge 69, 3) := by decide +kernel
theorem dX8_harm_166 : decode cX8_harm 166 = .ok (.aload_n 0, 1) := by decide +kernel
theorem dX8_harm_167 : decode cX8_harm 167 = .ok (.aload_n 0, 1) := by decide +kernel
theorem dX8_harm_168 : decode cX8_harm 168 = .ok (.getfield 22, 3) := by decide +kernel
theorem dX8_harm_171 : decode cX8_harm 171 = .ok (.sipush 423, 3) := by decide +kernel
theorem dX8_harm_174 : decode cX8_harm 174 = .ok (.iaload, 1) := by decide +kernel
theorem dX8_harm_175 : decode cX8_harm 175 = .ok (.iload 7, 2) := by decide +kernel
theorem dX8_harm_177 : decode cX8_harm 177 = .ok (.iadd, 1) := by decide +kernel
theorem dX8_harm_178 : decode cX8_harm 178 = .ok (.iload_n 1, 1) := by decide +kernel
theorem dX8_harm_179 : decode cX8_harm 179 = .ok (.iload_n 1, 1) := by decide +kernel
theorem dX8_harm_180 : decode cX8_harm 180 = .ok (.iconst 2, 1) := by decide +kernel
theorem dX8_harm_181 : decode cX8_harm 181 = .ok (.if_icmp .ne 7, 3) := by decide +kernel
theorem dX8_harm_184 : decode cX8_harm 184 = .ok (.iconst 1, 1) := by decide +kernel
theorem dX8_harm_185 : decode cX8_harm 185 = .ok (.goto 4, 3) := by decide +kernel
theorem dX8_harm_188 : decode cX8_harm 188 = .ok (.iconst 0, 1) := by decide +kernel
theorem dX8_harm_189 : decode cX8_harm 189 = .ok (.invokevirtual 150, 3) := by decide +kernel
theorem dX8_harm_192 : decode cX8_harm 192 = .ok (.aload_n 0, 1) := by decide +kernel
theorem dX8_harm_193 : decode cX8_harm 193 = .ok (.invokevirtual 312, 3) := by decide +kernel
theorem dX8_harm_196 : decode cX8_harm 196 = .ok (.aload_n 0, 1) := by decide +kernel
theorem dX8_harm_197 : decode cX8_harm 197 = .ok (.invokevirtual 321, 3) := by decide +kernel
theorem dX8_harm_200 : decode cX8_harm 200 = .ok (.istore 8, 2) := by decide +kernel
theorem dX8_harm_202 : decode cX8_harm 202 = .ok (.aload_n 0, 1) := by decide +kernel
theorem dX8_harm_203 : decode cX8_harm 203 = .ok (.invokevirtual 315, 3) := by decide +kernel
theorem dX8_harm_206 : decode cX8_harm 206 = .ok (.iload 8, 2) := by decide +kernel
theorem dX8_harm_208 : decode cX8_harm 208 = .ok (.ifCond .eq 6, 3) := by decide +kernel
theorem dX8_harm_211 : decode cX8_harm 211 = .ok (.goto 15, 3) := by decide +kernel
theorem dX8_harm_214 : decode cX8_harm 214 = .ok (.iinc 5 1, 3) := by decide +kernel
theorem dX8_harm_217 : decode cX8_harm 217 = .ok (.iload 6, 2) := by decide +kernel
theorem dX8_harm_219 : decode cX8_harm 219 = .ok (.ifCond .ge 7, 3) := by decide +kernel
theorem dX8_harm_222 : decode cX8_harm 222 = .ok (.iload 7, 2) := by decide +kernel
theorem dX8_harm_224 : decode cX8_harm 224 = .ok (.istore 6, 2) := by decide +kernel
theorem dX8_harm_226 : decode cX8_harm 226 = .ok (.iinc 7 1, 3) := by decide +kernel
theorem dX8_harm_229 : decode cX8_harm 229 = .ok (.goto (-69), 3) := by decide +kernel
theorem dX8_harm_232 : decode cX8_harm 232 = .ok (.iload_n 2, 1) := by decide +kernel
theorem dX8_harm_233 : decode cX8_harm 233 = .ok (.ifCond .ne 8, 3) := by decide +kernel
theorem dX8_harm_236 : decode cX8_harm 236 = .ok (.iload 5, 2) := by decide +kernel
theorem dX8_harm_238 : decode cX8_harm 238 = .ok (.goto 5, 3) := by decide +kernel
theorem dX8_harm_241 : decode cX8_harm 241 = .ok (.iload 6, 2) := by decide +kernel
theorem dX8_harm_243 : decode cX8_harm 243 = .ok (.ireturn, 1) := by decide +kernel
set_option maxRecDepth 100000 in
set_option maxHeartbeats 4000000 in
theorem c_X8_harm_r {hp : List gA} {M : gMd} {y z : Int32} {J : Nat → gMd → Nat → List (Int32 × List Int32) → Prop} {B : gMd → Prop} (HM : gMod hp M) (hf : gIr (M.a 4 430) 25) (hE : gFe (M.a 4)) (hB0 : ¬ M.f 3 = 0 → M.a 4 419 = 1 → ∀ g L, gPs (M.a 4) g (M.a 4 430).toNatClampNeg L → B (rX8_keeps (((M.set 2 0).arr 4 g).put 4 430 (nI L)))) (hBJ : ∀ M1, B M1 → ∃ l D, J 0 ((M1.set 19 1).set 36 0) l D) (hJ : ∀ k M1 l D, k < 400 → J k M1 l D → M1.a 4 419 = 1 → oTn M1 l D ∧ ∀ M' D' x, gTn M1 l D M' D' x → ∀ s, ∃ l', J (k + 1) (M'.set 36 s) l' D') (hJB : ∀ k Mz l D, J k Mz l D → (Mz.a 4 14).toNatClampNeg ≤ 60 ∧ (Mz.f 38).toNatClampNeg ≤ 60 ∧ (B (rX8_comesBack (Mz.set 19 0)) ∧ ∀ g, B (rX8_comesBack (((Mz.set 19 0).set 38 (Mz.a 4 14)).arr 15 g)))) (hBf : ∀ M1, B M1 → gIr (M1.a 4 430) 24 ∧ ∀ y z w k n, ((k < (M1.a 4 430).toNatClampNeg ∧ n = (M1.a 4 430).toNatClampNeg ∧ M1.a 4 (431 + 3 * k) = y) ∨ (k = (M1.a 4 430).toNatClampNeg ∧ n = (M1.a 4 430).toNatClampNeg + 1 ∧ ∀ j, j < (M1.a 4 430).toNatClampNeg → ¬ M1.a 4 (431 + 3 * j) = y)) → (z = 1 ∨ z = 2 ∨ z = 3) → w = (if z = 2 then 1 else 0) → ∃ l D, J 0 (((gPf M1 y z w k n).set 19 1).set 36 0) l D) : gM yX8_harm cX8_harm 9 ((some .int)) 12 274 [.ref 122, .int y, .int z] (hp) (0) (0) (fun v h => ∃ x, v = some (.int x) ∧ ∃ M', gMod h M' ∧ gFM hp h ∧ ((M' = M.set 2 0) ∨ B M')) := by
  refine gM_of (ls0 := [some (.ref 122), some (.int y), some (.int z), none, none, none, none, none, none]) (by decide +kernel) (Nat.le_of_ble_eq_true rfl) rfl fun X C E => ?_
  refine g_aload_n (q := 1) C dX8_harm_0 rfl rfl ?_
  refine g_iconst (v := 0) (q := 2) C dX8_harm_1 (by decide) rfl ?_
  refine g_putfield (q := 5) C fX8_66 dX8_harm_2 rfl HM.1 (Nat.le_of_ble_eq_true rfl) (Or.inl rfl) rfl rfl (by intro z h; cases h) ?_
  refine gMput (j := 2) (x := 0) HM rfl fun h1 HL1 fr1 => ?_
  refine g_aload_n (q := 6) C dX8_harm_5 rfl rfl ?_
  refine g_getfield (v := .int ((M.f 3))) (q := 9) C fX8_134 dX8_harm_6 rfl HL1.1 rfl ?_
  refine g_if_eq (t := 42) (q := 12) C dX8_harm_9 (by decide) rfl (fun c_9 => ?_) (fun c_9 => ?_)
  ·
    refine g_iconst (v := (-1)) (q := 43) C dX8_harm_42 (by decide) rfl ?_
    exact E.1 _ _ _ _ _ _ _ dX8_harm_43 rfl rfl (Nat.le_of_ble_eq_true rfl) (Nat.le_of_ble_eq_true rfl) ⟨_, rfl, _, HL1, fr1, Or.inl rfl⟩
  ·
    refine g_aload_n (q := 13) C dX8_harm_12 rfl rfl ?_
    refine g_getfield (v := .ref 127) (q := 16) C fX8_22 dX8_harm_13 rfl HL1.1 rfl ?_
    refine g_sipush (v := 419) (q := 19) C dX8_harm_16 (by decide) rfl ?_
    refine g_ialoadN (x := (M.a 4 419)) (j := 419) (q := 20) C dX8_harm_19 rfl (HL1.ar (i := 4) (n := 772) (by decide) rfl) (pk_in 419 772 (by decide)) (pk_cl 419) gset_a ?_
    refine g_iconst (v := 1) (q := 21) C dX8_harm_20 (by decide) rfl ?_
    refine g_icmp_ne (t := 42) (q := 24) C dX8_harm_21 (by decide) rfl (fun c_21 => ?_) (fun c_21 => ?_)
    ·
      refine g_iconst (v := (-1)) (q := 43) C dX8_harm_42 (by decide) rfl ?_
      exact E.1 _ _ _ _ _ _ _ dX8_harm_43 rfl rfl (Nat.le_of_ble_eq_true rfl) (Nat.le_of_ble_eq_true rfl) ⟨_, rfl, _, HL1, fr1, Or.inl rfl⟩
    ·
      refine g_iload_n (q := 25) C dX8_harm_24 rfl rfl ?_
      refine g_iconst (v := 1) (q := 26) C dX8_harm_25 (by decide) rfl ?_
      refine g_iconst (v := 3) (q := 27) C dX8_harm_26 (by decide) rfl ?_
      refine g_callSi (x := (rX8_within y 1 3)) (q := 30) (As := [.int y, .int 1, .int 3]) C gyX8_within t_1212 t_1211 (c_X8_within_m) dX8_harm_27 rfl rfl rfl (Nat.le_of_ble_eq_true rfl) (Nat.le_of_ble_eq_true rfl) (Nat.le_of_ble_eq_true rfl) (Nat.le_of_ble_eq_true rfl) (Nat.le_of_ble_eq_true rfl) rfl ?_
      refine g_if_eq (t := 42) (q := 33) C dX8_harm_30 (by decide) rfl (fun c_30 => ?_) (fun c_30 => ?_)
      ·
        refine g_iconst (v := (-1)) (q := 43) C dX8_harm_42 (by decide) rfl ?_
        exact E.1 _ _ _ _ _ _ _ dX8_harm_43 rfl rfl (Nat.le_of_ble_eq_true rfl) (Nat.le_of_ble_eq_true rfl) ⟨_, rfl, _, HL1, fr1, Or.inl rfl⟩
      ·
        refine g_iload_n (q := 34) C dX8_harm_33 rfl rfl ?_
        refine g_iconst (v := 0) (q := 35) C dX8_harm_34 (by decide) rfl ?_
        refine g_iconst (v := 1) (q := 36) C dX8_harm_35 (by decide) rfl ?_
        refine g_callSi (x := (rX8_within z 0 1)) (q := 39) (As := [.int z, .int 0, .int 1]) C gyX8_within t_1212 t_1211 (c_X8_within_m) dX8_harm_36 rfl rfl rfl (Nat.le_of_ble_eq_true rfl) (Nat.le_of_ble_eq_true rfl) (Nat.le_of_ble_eq_true rfl) (Nat.le_of_ble_eq_true rfl) (Nat.le_of_ble_eq_true rfl) rfl ?_
        refine g_if_ne (t := 44) (q := 42) C dX8_harm_39 (by decide) rfl (fun c_39 => ?_) (fun c_39 => ?_)
        ·
          refine g_aload_n (q := 45) C dX8_harm_44 rfl rfl ?_
          refine g_callVvp (q := 48) (As := []) C gyX8_passes gvX8_passes t_1280 (c_X8_passes_r HL1 hf hE) dX8_harm_45 rfl HL1.1 rfl rfl rfl (Nat.le_of_ble_eq_true rfl) (Nat.le_of_ble_eq_true rfl) (Nat.le_of_ble_eq_true rfl) (Nat.le_of_ble_eq_true rfl) (Nat.le_of_ble_eq_true rfl) rfl (fun h2 z2 => ?_)
          obtain ⟨gp, Lp, HM9, frt8, hp9⟩ := z2
          refine g_aload_n (q := 49) C dX8_harm_48 rfl rfl ?_
          refine g_callVvp (q := 52) (As := []) C gyX8_keeps gvX8_keeps t_1482 (c_X8_keeps_m HM9) dX8_harm_49 rfl HM9.1 rfl rfl rfl (Nat.le_of_ble_eq_true rfl) (Nat.le_of_ble_eq_true rfl) (Nat.le_of_ble_eq_true rfl) (Nat.le_of_ble_eq_true rfl) (Nat.le_of_ble_eq_true rfl) rfl (fun h3 z3 => ?_)
          obtain ⟨HL3, fr3⟩ := z3
          refine g_aload_n (q := 53) C dX8_harm_52 rfl rfl ?_
          refine g_callVvp (q := 56) (As := []) C gyX8_triesOut gvX8_triesOut t_1486 (c_X8_triesOut_r HL3 (hBJ _ (hB0 c_9 c_21 gp Lp hp9)) hJ) dX8_harm_53 rfl HL3.1 rfl rfl rfl (Nat.le_of_ble_eq_true rfl) (Nat.le_of_ble_eq_true rfl) (Nat.le_of_ble_eq_true rfl) (Nat.le_of_ble_eq_true rfl) (Nat.le_of_ble_eq_true rfl) rfl (fun h4 z4 => ?_)
          obtain ⟨k9, Mz, l9, D9, hk9, HJ9, hs9, HM9, frt9⟩ := z4
          refine g_aload_n (q := 57) C dX8_harm_56 rfl rfl ?_
          refine g_getfield (v := .ref 127) (q := 60) C fX8_22 dX8_harm_57 rfl HM9.1 rfl ?_
          refine g_sipush (v := 423) (q := 63) C dX8_harm_60 (by decide) rfl ?_
          refine g_ialoadN (x := ((Mz.set 19 0).a 4 423)) (j := 423) (q := 64) C dX8_harm_63 rfl (HM9.ar (i := 4) (n := 772) (by decide) rfl) (pk_in 423 772 (by decide)) (pk_cl 423) rfl ?_
          refine g_aload_n (q := 65) C dX8_harm_64 rfl rfl ?_
          refine g_getfield (v := .ref 128) (q := 68) C fX8_25 dX8_harm_65 rfl HM9.1 rfl ?_
          refine g_sipush (v := 423) (q := 71) C dX8_harm_68 (by decide) rfl ?_
          refine g_ialoadN (x := ((Mz.set 19 0).a 5 423)) (j := 423) (q := 72) C dX8_harm_71 rfl (HM9.ar (i := 5) (n := 772) (by decide) rfl) (pk_in 423 772 (by decide)) (pk_cl 423) rfl ?_
          refine g_isub (q := 73) C dX8_harm_72 rfl ?_
          refine g_istore_n (q := 74) C dX8_harm_73 (Nat.le_of_ble_eq_true rfl) (by simp only [gset]; rfl) rfl ?_
          refine g_aload_n (q := 75) C dX8_harm_74 rfl rfl ?_
          refine g_getfield (v := .ref 127) (q := 78) C fX8_22 dX8_harm_75 rfl HM9.1 rfl ?_
          refine g_sipush (v := 419) (q := 81) C dX8_harm_78 (by decide) rfl ?_
          refine g_ialoadN (x := ((Mz.set 19 0).a 4 419)) (j := 419) (q := 82) C dX8_harm_81 rfl (HM9.ar (i := 4) (n := 772) (by decide) rfl) (pk_in 419 772 (by decide)) (pk_cl 419) rfl ?_
          refine g_iconst (v := 2) (q := 83) C dX8_harm_82 (by decide) rfl ?_
          suffices K83 : gG X 91 [some (.ref 122), some (.int y), some (.int z), some (.int ((((Mz.set 19 0).a 4 423) - ((Mz.set 19 0).a 5 423)))), none, none, none, none, none] [.int (if ((Mz.set 19 0).a 4 419) = 2 then 1 else 0 : Int32)] h4 0 0 by
            refine g_icmp_ne (t := 90) (q := 86) C dX8_harm_83 (by decide) rfl (fun c_83 => ?_) (fun c_83 => ?_)
            · refine g_iconst (v := 0) (q := 91) C dX8_harm_90 (by decide) rfl ?_
              rw [if_neg c_83] at K83
              exact K83
            · refine g_iconst (v := 1) (q := 87) C dX8_harm_86 (by decide) rfl ?_
              refine g_goto (q := 91) C dX8_harm_87 (by decide) ?_
              rw [if_pos c_83] at K83
              exact K83
          refine g_istore (q := 93) C dX8_harm_91 (Nat.le_of_ble_eq_true rfl) (by simp only [gset]; rfl) rfl ?_
          refine g_aload_n (q := 94) C dX8_harm_93 rfl rfl ?_
          refine g_aload_n (q := 95) C dX8_harm_94 rfl rfl ?_
          refine g_getfield (v := .ref 127) (q := 98) C fX8_22 dX8_harm_95 rfl HM9.1 rfl ?_
          refine g_bipush (v := 14) (q := 100) C dX8_harm_98 (by decide) rfl ?_
          refine g_ialoadN (x := ((Mz.set 19 0).a 4 14)) (j := 14) (q := 101) C dX8_harm_100 rfl (HM9.ar (i := 4) (n := 772) (by decide) rfl) (pk_in 14 772 (by decide)) (pk_cl 14) rfl ?_
          refine g_putfield (q := 104) C fX8_318 dX8_harm_101 rfl HM9.1 (Nat.le_of_ble_eq_true rfl) (Or.inl rfl) rfl rfl (by intro z h; cases h) ?_
          refine gMput (j := 38) (x := ((Mz.set 19 0).a 4 14)) HM9 rfl fun h5 HL5 fr5 => ?_
          refine g_iconst (v := 0) (q := 105) C dX8_harm_104 (by decide) rfl ?_
          refine g_istore (q := 107) C dX8_harm_105 (Nat.le_of_ble_eq_true rfl) (by simp only [gset]; rfl) rfl ?_
          obtain ⟨hr1, hr2, hr3⟩ := hJB _ _ _ _ HJ9
          have h60 := hr1
          have LL6 : ∀ d j : Nat, j + d = (Mz.a 4 14).toNatClampNeg → ∀  (h1 : List gA), gMod h1 (((Mz.set 19 0).set 38 ((Mz.set 19 0).a 4 14)).arr 15 (gCpy (((Mz.set 19 0).set 38 ((Mz.set 19 0).a 4 14)).a 15) 0 (((Mz.set 19 0).set 38 ((Mz.set 19 0).a 4 14)).a 4) 288 j)) → gFM hp h1 → gG X 107 [some (.ref 122), some (.int y), some (.int z), some (.int ((((Mz.set 19 0).a 4 423) - ((Mz.set 19 0).a 5 423)))), some (.int ((if ((Mz.set 19 0).a 4 419) = 2 then 1 else 0 : Int32))), some (.int ((nI j))), none, none, none] [] h1 0 0 := by
            intro d
            induction d with
            | zero =>
              intro j hj  h1 HL1_ fr_
              obtain rfl : (Mz.a 4 14).toNatClampNeg = j := by omega
              refine g_iload (q := 109) C dX8_harm_107 rfl rfl ?_
              refine g_aload_n (q := 110) C dX8_harm_109 rfl rfl ?_
              refine g_getfield (v := .int (((((Mz.set 19 0).set 38 ((Mz.set 19 0).a 4 14)).arr 15 (gCpy (((Mz.set 19 0).set 38 ((Mz.set 19 0).a 4 14)).a 15) 0 (((Mz.set 19 0).set 38 ((Mz.set 19 0).a 4 14)).a 4) 288 ((Mz.a 4 14).toNatClampNeg))).f 38))) (q := 113) C fX8_318 dX8_harm_110 rfl HL1_.1 rfl ?_
              rw [show ((((Mz.set 19 0).set 38 ((Mz.set 19 0).a 4 14)).arr 15 (gCpy (((Mz.set 19 0).set 38 ((Mz.set 19 0).a 4 14)).a 15) 0 (((Mz.set 19 0).set 38 ((Mz.set 19 0).a 4 14)).a 4) 288 ((Mz.a 4 14).toNatClampNeg))).f 38) = (Mz.a 4 14) from (rfl).trans (show ((Mz.set 19 0).set 38 ((Mz.set 19 0).a 4 14)).f 38 = Mz.a 4 14 from gset_s)]
              refine g_icmp_ge_t (t := 140) C dX8_harm_113 (by decide) gTt ?_
              have HB9 := hr3.2 (gCpy (Mz.a 15) 0 (Mz.a 4) 288 (Mz.a 4 14).toNatClampNeg)
              refine g_aload_n (q := 141) C dX8_harm_140 rfl rfl ?_
              refine g_callVvp (q := 144) (As := []) C gyX8_comesBack gvX8_comesBack t_1490 (c_X8_comesBack_m HL1_) dX8_harm_141 rfl HL1_.1 rfl rfl rfl (Nat.le_of_ble_eq_true rfl) (Nat.le_of_ble_eq_true rfl) (Nat.le_of_ble_eq_true rfl) (Nat.le_of_ble_eq_true rfl) (Nat.le_of_ble_eq_true rfl) rfl (fun h7 z7 => ?_)
              obtain ⟨HL7, fr7⟩ := z7
              refine g_iload (q := 146) C dX8_harm_144 rfl rfl ?_
              refine g_if_ne (t := 151) (q := 149) C dX8_harm_146 (by decide) rfl (fun c_146 => ?_) (fun c_146 => ?_)
              ·
                refine g_iconst (v := 0) (q := 152) C dX8_harm_151 (by decide) rfl ?_
                refine g_istore (q := 154) C dX8_harm_152 (Nat.le_of_ble_eq_true rfl) (by simp only [gset]; rfl) rfl ?_
                refine g_iconst (v := (-1)) (q := 155) C dX8_harm_154 (by decide) rfl ?_
                refine g_istore (q := 157) C dX8_harm_155 (Nat.le_of_ble_eq_true rfl) (by simp only [gset]; rfl) rfl ?_
                refine g_iconst (v := 0) (q := 158) C dX8_harm_157 (by decide) rfl ?_
                refine g_istore (q := 160) C dX8_harm_158 (Nat.le_of_ble_eq_true rfl) (by simp only [gset]; rfl) rfl ?_
                obtain ⟨t9, et9⟩ : ∃ t9, t9 = (((Mz.set 19 0).a 4 423) - ((Mz.set 19 0).a 5 423)) := ⟨_, rfl⟩
                rw [← et9]
                have LL : ∀ d j : Nat, j + d = t9.toNatClampNeg → ∀ (a b : Int32) (x8 : Option Value) (M1 : gMd) (hz : List gA), gMod hz M1 → gFM hp hz → B M1 → gG X 160 [some (.ref 122), some (.int y), some (.int z), some (.int t9), some (.int ((if ((Mz.set 19 0).a 4 419) = 2 then 1 else 0 : Int32))), some (.int a), some (.int b), some (.int ((nI j))), x8] [] hz 0 0 := by
                  intro d
                  induction d with
                  | zero =>
                    intro j hj a b x8 M1 hz HZ frz HB9
                    obtain rfl : t9.toNatClampNeg = j := by omega
                    refine g_iload (q := 162) C dX8_harm_160 rfl rfl ?_
                    refine g_iload_n (q := 163) C dX8_harm_162 rfl rfl ?_
                    refine g_icmp_ge_t (t := 232) C dX8_harm_163 (by decide) gTt ?_
                    refine g_iload_n (q := 233) C dX8_harm_232 rfl rfl ?_
                    suffices K233 : gG X 243 [some (.ref 122), some (.int y), some (.int z), some (.int t9), some (.int ((if ((Mz.set 19 0).a 4 419) = 2 then 1 else 0 : Int32))), some (.int a), some (.int b), some (.int ((nI t9.toNatClampNeg))), x8] [.int (if z = 0 then a else b : Int32)] hz 0 0 by
                      refine g_if_ne (t := 241) (q := 236) C dX8_harm_233 (by decide) rfl (fun c_233 => ?_) (fun c_233 => ?_)
                      · refine g_iload (q := 243) C dX8_harm_241 rfl rfl ?_
                        rw [if_neg c_233] at K233
                        exact K233
                      · refine g_iload (q := 238) C dX8_harm_236 rfl rfl ?_
                        refine g_goto (q := 243) C dX8_harm_238 (by decide) ?_
                        rw [if_pos c_233] at K233
                        exact K233
                    exact E.1 _ _ _ _ _ _ _ dX8_harm_243 rfl rfl (Nat.le_of_ble_eq_true rfl) (Nat.le_of_ble_eq_true rfl) ⟨_, rfl, _, HZ, frz, Or.inr HB9⟩
                  | succ d ih =>
                    intro j hj a b x8 M1 hz HZ frz HB9
                    obtain ⟨hb1, hbf⟩ := hBf M1 HB9
                    refine g_iload (q := 162) C dX8_harm_160 rfl rfl ?_
                    refine g_iload_n (q := 163) C dX8_harm_162 rfl rfl ?_
                    refine g_icmp_ge_f (t := 232) (q := 166) C dX8_harm_163 (by decide) rfl (gTf (by omega)) ?_
                    refine g_aload_n (q := 167) C dX8_harm_166 rfl rfl ?_
                    refine g_aload_n (q := 168) C dX8_harm_167 rfl rfl ?_
                    refine g_getfield (v := .ref 127) (q := 171) C fX8_22 dX8_harm_168 rfl HZ.1 rfl ?_
                    refine g_sipush (v := 423) (q := 174) C dX8_harm_171 (by decide) rfl ?_
                    refine g_ialoadN (x := (M1.a 4 423)) (j := 423) (q := 175) C dX8_harm_174 rfl (HZ.ar (i := 4) (n := 772) (by decide) rfl) (pk_in 423 772 (by decide)) (pk_cl 423) rfl ?_
                    refine g_iload (q := 177) C dX8_harm_175 rfl rfl ?_
                    refine g_iadd (q := 178) C dX8_harm_177 rfl ?_
                    refine g_iload_n (q := 179) C dX8_harm_178 rfl rfl ?_
                    refine g_iload_n (q := 180) C dX8_harm_179 rfl rfl ?_
                    refine g_iconst (v := 2) (q := 181) C dX8_harm_180 (by decide) rfl ?_
                    suffices K181 : gG X 189 [some (.ref 122), some (.int y), some (.int z), some (.int t9), some (.int ((if ((Mz.set 19 0).a 4 419) = 2 then 1 else 0 : Int32))), some (.int a), some (.int b), some (.int ((nI j))), x8] [.int (if y = 2 then 1 else 0 : Int32), .int y, .int (((M1.a 4 423) + (nI j))), .ref 122] hz 0 0 by
                      refine g_icmp_ne (t := 188) (q := 184) C dX8_harm_181 (by decide) rfl (fun c_181 => ?_) (fun c_181 => ?_)
                      · refine g_iconst (v := 0) (q := 189) C dX8_harm_188 (by decide) rfl ?_
                        rw [if_neg c_181] at K181
                        exact K181
                      · refine g_iconst (v := 1) (q := 185) C dX8_harm_184 (by decide) rfl ?_
                        refine g_goto (q := 189) C dX8_harm_185 (by decide) ?_
                        rw [if_pos c_181] at K181
                        exact K181
                    refine g_callVvp (q := 192) (As := [.int (((M1.a 4 423) + (nI j))), .int y, .int ((if y = 2 then 1 else 0 : Int32))]) C gyX8_putsFault gvX8_putsFault t_1288 (c_X8_putsFault_r (y := ((M1.a 4 423) + (nI j))) (z := y) (w := (if y = 2 then 1 else 0 : Int32)) HZ hb1) dX8_harm_189 rfl HZ.1 rfl rfl rfl (Nat.le_of_ble_eq_true rfl) (Nat.le_of_ble_eq_true rfl) (Nat.le_of_ble_eq_true rfl) (Nat.le_of_ble_eq_true rfl) (Nat.le_of_ble_eq_true rfl) rfl (fun h8 z8 => ?_)
                    obtain ⟨kp, np, hkp, HP9, frp9⟩ := z8
                    refine g_aload_n (q := 193) C dX8_harm_192 rfl rfl ?_
                    refine g_callVvp (q := 196) (As := []) C gyX8_triesOut gvX8_triesOut t_1486 (c_X8_triesOut_r HP9 (hbf _ _ _ kp np hkp (gI3 c_30) rfl) hJ) dX8_harm_193 rfl HP9.1 rfl rfl rfl (Nat.le_of_ble_eq_true rfl) (Nat.le_of_ble_eq_true rfl) (Nat.le_of_ble_eq_true rfl) (Nat.le_of_ble_eq_true rfl) (Nat.le_of_ble_eq_true rfl) rfl (fun h9 z9 => ?_)
                    obtain ⟨k9, Mz, l9, D9, hk9, HJ9, hs9, HM9, frt9⟩ := z9
                    refine g_aload_n (q := 197) C dX8_harm_196 rfl rfl ?_
                    obtain ⟨hq1, hq2, hq3⟩ := hJB _ _ _ _ HJ9
                    refine g_callVip (q := 200) (As := []) C gyX8_isSame gvX8_isSame t_1498 (c_X8_isSame_r HM9 hq2) dX8_harm_197 rfl HM9.1 rfl rfl rfl (Nat.le_of_ble_eq_true rfl) (Nat.le_of_ble_eq_true rfl) (Nat.le_of_ble_eq_true rfl) (Nat.le_of_ble_eq_true rfl) (Nat.le_of_ble_eq_true rfl) rfl (fun x10 h10 z10 => ?_)
                    subst z10
                    refine g_istore (q := 202) C dX8_harm_200 (Nat.le_of_ble_eq_true rfl) (by simp only [gset]; rfl) rfl ?_
                    refine g_aload_n (q := 203) C dX8_harm_202 rfl rfl ?_
                    refine g_callVvp (q := 206) (As := []) C gyX8_comesBack gvX8_comesBack t_1490 (c_X8_comesBack_m HM9) dX8_harm_203 rfl HM9.1 rfl rfl rfl (Nat.le_of_ble_eq_true rfl) (Nat.le_of_ble_eq_true rfl) (Nat.le_of_ble_eq_true rfl) (Nat.le_of_ble_eq_true rfl) (Nat.le_of_ble_eq_true rfl) rfl (fun h11 z11 => ?_)
                    obtain ⟨HL11, fr11⟩ := z11
                    refine g_iload (q := 208) C dX8_harm_206 rfl rfl ?_
                    refine g_if_eq (t := 214) (q := 211) C dX8_harm_208 (by decide) rfl (fun c_208 => ?_) (fun c_208 => ?_)
                    ·
                      refine g_iinc (v := (a + Int32.ofInt 1)) (q := 217) C dX8_harm_214 rfl rfl (by simp only [gset]; rfl) rfl ?_
                      refine g_iload (q := 219) C dX8_harm_217 rfl rfl ?_
                      refine g_if_ge (t := 226) (q := 222) C dX8_harm_219 (by decide) rfl (fun c_219 => ?_) (fun c_219 => ?_)
                      ·
                        refine g_iinc (v := (nI (j + 1))) (q := 229) C dX8_harm_226 rfl (nI_1 j) (by simp only [gset]; rfl) rfl ?_
                        refine g_goto (q := 160) C dX8_harm_229 (by decide) ?_
                        exact ih (j + 1) (by omega) _ _ _ _ _ HL11 (gFM.trans (gFM.trans (gFM.trans frz frp9) frt9) fr11) hq3.1
                      ·
                        refine g_iload (q := 224) C dX8_harm_222 rfl rfl ?_
                        refine g_istore (q := 226) C dX8_harm_224 (Nat.le_of_ble_eq_true rfl) (by simp only [gset]; rfl) rfl ?_
                        refine g_iinc (v := (nI (j + 1))) (q := 229) C dX8_harm_226 rfl (nI_1 j) (by simp only [gset]; rfl) rfl ?_
                        refine g_goto (q := 160) C dX8_harm_229 (by decide) ?_
                        exact ih (j + 1) (by omega) _ _ _ _ _ HL11 (gFM.trans (gFM.trans (gFM.trans frz frp9) frt9) fr11) hq3.1
                    ·
                      refine g_goto (q := 226) C dX8_harm_211 (by decide) ?_
                      refine g_iinc (v := (nI (j + 1))) (q := 229) C dX8_harm_226 rfl (nI_1 j) (by simp only [gset]; rfl) rfl ?_
                      refine g_goto (q := 160) C dX8_harm_229 (by decide) ?_
                      exact ih (j + 1) (by omega) _ _ _ _ _ HL11 (gFM.trans (gFM.trans (gFM.trans frz frp9) frt9) fr11) hq3.1
                exact LL t9.toNatClampNeg 0 (by omega) 0 (-1) none _ h7 HL7 (gFM.trans fr_ fr7) HB9
                
              ·
                refine g_iconst (v := (-1)) (q := 150) C dX8_harm_149 (by decide) rfl ?_
                exact E.1 _ _ _ _ _ _ _ dX8_harm_150 rfl rfl (Nat.le_of_ble_eq_true rfl) (Nat.le_of_ble_eq_true rfl) ⟨_, rfl, _, HL7, (gFM.trans fr_ fr7), Or.inr HB9⟩
              
            | succ d ih =>
              intro j hj  h1 HL1_ fr_
              refine g_iload (q := 109) C dX8_harm_107 rfl rfl ?_
              refine g_aload_n (q := 110) C dX8_harm_109 rfl rfl ?_
              refine g_getfield (v := .int (((((Mz.set 19 0).set 38 ((Mz.set 19 0).a 4 14)).arr 15 (gCpy (((Mz.set 19 0).set 38 ((Mz.set 19 0).a 4 14)).a 15) 0 (((Mz.set 19 0).set 38 ((Mz.set 19 0).a 4 14)).a 4) 288 j)).f 38))) (q := 113) C fX8_318 dX8_harm_110 rfl HL1_.1 rfl ?_
              rw [show ((((Mz.set 19 0).set 38 ((Mz.set 19 0).a 4 14)).arr 15 (gCpy (((Mz.set 19 0).set 38 ((Mz.set 19 0).a 4 14)).a 15) 0 (((Mz.set 19 0).set 38 ((Mz.set 19 0).a 4 14)).a 4) 288 j)).f 38) = (Mz.a 4 14) from (rfl).trans (show ((Mz.set 19 0).set 38 ((Mz.set 19 0).a 4 14)).f 38 = Mz.a 4 14 from gset_s)]
              refine g_icmp_ge_f (t := 140) (q := 116) C dX8_harm_113 (by decide) rfl (gTf (by omega)) ?_
              refine g_aload_n (q := 117) C dX8_harm_116 rfl rfl ?_
              refine g_getfield (v := .ref 138) (q := 120) C fX8_60 dX8_harm_117 rfl HL1_.1 rfl ?_
              refine g_iload (q := 122) C dX8_harm_120 rfl rfl ?_
              refine g_aload_n (q := 123) C dX8_harm_122 rfl rfl ?_
              refine g_getfield (v := .ref 127) (q := 126) C fX8_22 dX8_harm_123 rfl HL1_.1 rfl ?_
              refine g_sipush (v := 288) (q := 129) C dX8_harm_126 (by decide) rfl ?_
              refine g_iload (q := 131) C dX8_harm_129 rfl rfl ?_
              refine g_iadd (q := 132) C dX8_harm_131 rfl ?_
              refine g_ialoadN (x := ((((Mz.set 19 0).set 38 ((Mz.set 19 0).a 4 14)).arr 15 (gCpy (((Mz.set 19 0).set 38 ((Mz.set 19 0).a 4 14)).a 15) 0 (((Mz.set 19 0).set 38 ((Mz.set 19 0).a 4 14)).a 4) 288 j)).a 4 (288 + j))) (j := (288 + j)) (q := 133) C dX8_harm_132 rfl (HL1_.ar (i := 4) (n := 772) (by decide) rfl) (pk_in (288 + j) 772 (by omega) (nI_add 288 j)) (pk_cl (288 + j) (nI_add 288 j) (by omega)) rfl ?_
              refine g_iastoreN (j := j) (q := 134) C dX8_harm_133 rfl (HL1_.ar (i := 15) (n := 64) (by decide) rfl) (pk_in j 64 (by omega)) (pk_cl j rfl (by omega)) ?_
              refine gMsto (i := 15) (j := j) (x := ((((Mz.set 19 0).set 38 ((Mz.set 19 0).a 4 14)).arr 15 (gCpy (((Mz.set 19 0).set 38 ((Mz.set 19 0).a 4 14)).a 15) 0 (((Mz.set 19 0).set 38 ((Mz.set 19 0).a 4 14)).a 4) 288 j)).a 4 (288 + j))) HL1_ (by decide) rfl rfl fun h12 HL12 fr12 => ?_
              refine g_iinc (v := (nI (j + 1))) (q := 137) C dX8_harm_134 rfl (nI_1 j) (by simp only [gset]; rfl) rfl ?_
              have e9 : (((Mz.set 19 0).set 38 ((Mz.set 19 0).a 4 14)).arr 15 (gCpy (((Mz.set 19 0).set 38 ((Mz.set 19 0).a 4 14)).a 15) 0 (((Mz.set 19 0).set 38 ((Mz.set 19 0).a 4 14)).a 4) 288 j)).put 15 (0 + j) ((((Mz.set 19 0).set 38 ((Mz.set 19 0).a 4 14)).arr 15 (gCpy (((Mz.set 19 0).set 38 ((Mz.set 19 0).a 4 14)).a 15) 0 (((Mz.set 19 0).set 38 ((Mz.set 19 0).a 4 14)).a 4) 288 j)).a 4 (288 + j)) = (((Mz.set 19 0).set 38 ((Mz.set 19 0).a 4 14)).arr 15 (gCpy (((Mz.set 19 0).set 38 ((Mz.set 19 0).a 4 14)).a 15) 0 (((Mz.set 19 0).set 38 ((Mz.set 19 0).a 4 14)).a 4) 288 (j + 1))) := garr_cp (by show (((Mz.set 19 0).set 38 ((Mz.set 19 0).a 4 14)).arr 15 (gCpy (((Mz.set 19 0).set 38 ((Mz.set 19 0).a 4 14)).a 15) 0 (((Mz.set 19 0).set 38 ((Mz.set 19 0).a 4 14)).a 4) 288 j)).a 4 _ = _; rw [(garr_o (by decide))])
              have HL9 : gMod h12 (((Mz.set 19 0).set 38 ((Mz.set 19 0).a 4 14)).arr 15 (gCpy (((Mz.set 19 0).set 38 ((Mz.set 19 0).a 4 14)).a 15) 0 (((Mz.set 19 0).set 38 ((Mz.set 19 0).a 4 14)).a 4) 288 (j + 1))) := by rw [← e9, Nat.zero_add]; exact HL12
              refine g_goto (q := 107) C dX8_harm_137 (by decide) ?_
              exact ih (j + 1) (by omega)  h12 HL9 (gFM.trans fr_ fr12)
          have HL8 : gMod h5 (((Mz.set 19 0).set 38 ((Mz.set 19 0).a 4 14)).arr 15 (gCpy (((Mz.set 19 0).set 38 ((Mz.set 19 0).a 4 14)).a 15) 0 (((Mz.set 19 0).set 38 ((Mz.set 19 0).a 4 14)).a 4) 288 0)) := by rw [garr_0]; exact HL5
          exact LL6 ((Mz.a 4 14).toNatClampNeg - 0) 0 (by omega)  h5 HL8 (gFM.trans (gFM.trans (gFM.trans (gFM.trans fr1 frt8) fr3) frt9) fr5)
          
        ·
          refine g_iconst (v := (-1)) (q := 43) C dX8_harm_42 (by decide) rfl ?_
          exact E.1 _ _ _ _ _ _ _ dX8_harm_43 rfl rfl (Nat.le_of_ble_eq_true rfl) (Nat.le_of_ble_eq_true rfl) ⟨_, rfl, _, HL1, fr1, Or.inl rfl⟩
