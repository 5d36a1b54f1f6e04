/-! the reference: the log (by program: wip/p2/m_mh.py) -/
/-- the log's ranges -/
def gLg (M : gMd) : Prop := (∃ a, a < 30 ∧ M.f 13 = nI a) ∧ (∃ n, n ≤ 30 ∧ M.f 12 = nI n) ∧ ∀ p, p < 30 → gIr (M.a 6 (6 * p + 5)) 8191 ∧ gIr (M.a 6 (6 * p + 2)) 254
theorem gUn.kept {M M' : gMd} {E : List (Int32 × List Int32)} (U : gUn M E) (h18 : M'.f 18 = M.f 18) (h8 : ∀ i, M'.a 8 i = M.a 8 i) (h9 : ∀ i, M'.a 9 i = M.a 9 i) (h11 : ∀ i, M'.a 11 i = M.a 11 i) : gUn M' E := by
  obtain ⟨u1, u2, u3, u4, u5, u6⟩ := U
  exact ⟨h18.trans u1, fun i hi => (h8 i).trans (u2 i hi), fun i hi => (h9 i).trans (u3 i hi), fun i k hi hk => (h11 _).trans (u4 i k hi hk), u5, u6⟩
theorem gBk_congr {M M' : gMd} {n : Nat} (h : ∀ i, M'.a 12 i = M.a 12 i) : gBk M' n = gBk M n := by
  unfold gBk
  exact List.map_congr_left fun i _ => h i
/-- noted: what the log leaves -/
def gLo (M : gMd) (side : Int32) (n : Nat) (E : List (Int32 × List Int32)) (M' : gMd) (E' : List (Int32 × List Int32)) : Prop :=
  gUn M' E' ∧ gLg M' ∧ (∃ id, id < E'.length ∧ gEn E' id = (side, gBk M n)) ∧ (∀ k, ¬ k = 12 → ¬ k = 13 → ¬ k = 18 → M'.f k = M.f k) ∧ (∀ i j, (i < 6 ∨ 11 < i) → M'.a i j = M.a i j) ∧
  (E' = E ∨ ((∀ k, k < E.length → ¬ gEn E k = (side, gBk M n)) ∧ E' = E ++ [(side, gBk M n)]))
theorem g6b {b : Nat} (hb : b < 1000) : (6 : Int32) * nI b = nI (6 * b) := by
  rw [show (6 : Int32) = nI 6 from rfl, nI_mulS (by omega) (by decide) (by omega)]
theorem g258 {b : Nat} (hb : b < 1000) : (258 : Int32) * nI b = nI (258 * b) := by
  rw [show (258 : Int32) = nI 258 from rfl, nI_mulS (by omega) (by decide) (by omega)]
theorem dX8_logs_0 : decode cX8_logs 0 = .ok (.aload_n 0, 1) := by decide +kernel
theorem dX8_logs_1 : decode cX8_logs 1 = .ok (.aload_n 0, 1) := by decide +kernel
theorem dX8_logs_2 : decode cX8_logs 2 = .ok (.getfield 192, 3) := by decide +kernel
theorem dX8_logs_5 : decode cX8_logs 5 = .ok (.iconst 1, 1) := by decide +kernel
theorem dX8_logs_6 : decode cX8_logs 6 = .ok (.iadd, 1) := by decide +kernel
theorem dX8_logs_7 : decode cX8_logs 7 = .ok (.bipush 30, 2) := by decide +kernel
theorem dX8_logs_9 : decode cX8_logs 9 = .ok (.irem, 1) := by decide +kernel
theorem dX8_logs_10 : decode cX8_logs 10 = .ok (.putfield 192, 3) := by decide +kernel
theorem dX8_logs_13 : decode cX8_logs 13 = .ok (.aload_n 0, 1) := by decide +kernel
theorem dX8_logs_14 : decode cX8_logs 14 = .ok (.getfield 69, 3) := by decide +kernel
theorem dX8_logs_17 : decode cX8_logs 17 = .ok (.bipush 30, 2) := by decide +kernel
theorem dX8_logs_19 : decode cX8_logs 19 = .ok (.if_icmp .ge 13, 3) := by decide +kernel
theorem dX8_logs_22 : decode cX8_logs 22 = .ok (.aload_n 0, 1) := by decide +kernel
theorem dX8_logs_23 : decode cX8_logs 23 = .ok (.dup, 1) := by decide +kernel
theorem dX8_logs_24 : decode cX8_logs 24 = .ok (.getfield 69, 3) := by decide +kernel
theorem dX8_logs_27 : decode cX8_logs 27 = .ok (.iconst 1, 1) := by decide +kernel
theorem dX8_logs_28 : decode cX8_logs 28 = .ok (.iadd, 1) := by decide +kernel
theorem dX8_logs_29 : decode cX8_logs 29 = .ok (.putfield 69, 3) := by decide +kernel
theorem dX8_logs_32 : decode cX8_logs 32 = .ok (.aload_n 0, 1) := by decide +kernel
theorem dX8_logs_33 : decode cX8_logs 33 = .ok (.iload_n 1, 1) := by decide +kernel
theorem dX8_logs_34 : decode cX8_logs 34 = .ok (.invokevirtual 195, 3) := by decide +kernel
theorem dX8_logs_37 : decode cX8_logs 37 = .ok (.istore_n 3, 1) := by decide +kernel
theorem dX8_logs_38 : decode cX8_logs 38 = .ok (.aload_n 0, 1) := by decide +kernel
theorem dX8_logs_39 : decode cX8_logs 39 = .ok (.getfield 44, 3) := by decide +kernel
theorem dX8_logs_42 : decode cX8_logs 42 = .ok (.iload_n 3, 1) := by decide +kernel
theorem dX8_logs_43 : decode cX8_logs 43 = .ok (.dup2, 1) := by decide +kernel
theorem dX8_logs_44 : decode cX8_logs 44 = .ok (.iaload, 1) := by decide +kernel
theorem dX8_logs_45 : decode cX8_logs 45 = .ok (.iconst 1, 1) := by decide +kernel
theorem dX8_logs_46 : decode cX8_logs 46 = .ok (.iadd, 1) := by decide +kernel
theorem dX8_logs_47 : decode cX8_logs 47 = .ok (.iastore, 1) := by decide +kernel
theorem dX8_logs_48 : decode cX8_logs 48 = .ok (.aload_n 0, 1) := by decide +kernel
theorem dX8_logs_49 : decode cX8_logs 49 = .ok (.getfield 32, 3) := by decide +kernel
theorem dX8_logs_52 : decode cX8_logs 52 = .ok (.bipush 6, 2) := by decide +kernel
theorem dX8_logs_54 : decode cX8_logs 54 = .ok (.aload_n 0, 1) := by decide +kernel
theorem dX8_logs_55 : decode cX8_logs 55 = .ok (.getfield 192, 3) := by decide +kernel
theorem dX8_logs_58 : decode cX8_logs 58 = .ok (.imul, 1) := by decide +kernel
theorem dX8_logs_59 : decode cX8_logs 59 = .ok (.iload_n 1, 1) := by decide +kernel
theorem dX8_logs_60 : decode cX8_logs 60 = .ok (.iastore, 1) := by decide +kernel
theorem dX8_logs_61 : decode cX8_logs 61 = .ok (.aload_n 0, 1) := by decide +kernel
theorem dX8_logs_62 : decode cX8_logs 62 = .ok (.getfield 32, 3) := by decide +kernel
theorem dX8_logs_65 : decode cX8_logs 65 = .ok (.bipush 6, 2) := by decide +kernel
theorem dX8_logs_67 : decode cX8_logs 67 = .ok (.aload_n 0, 1) := by decide +kernel
theorem dX8_logs_68 : decode cX8_logs 68 = .ok (.getfield 192, 3) := by decide +kernel
theorem dX8_logs_71 : decode cX8_logs 71 = .ok (.imul, 1) := by decide +kernel
theorem dX8_logs_72 : decode cX8_logs 72 = .ok (.iconst 1, 1) := by decide +kernel
theorem dX8_logs_73 : decode cX8_logs 73 = .ok (.iadd, 1) := by decide +kernel
theorem dX8_logs_74 : decode cX8_logs 74 = .ok (.aload_n 0, 1) := by decide +kernel
theorem dX8_logs_75 : decode cX8_logs 75 = .ok (.getfield 51, 3) := by decide +kernel
theorem dX8_logs_78 : decode cX8_logs 78 = .ok (.iconst 1, 1) := by decide +kernel
theorem dX8_logs_79 : decode cX8_logs 79 = .ok (.iaload, 1) := by decide +kernel
theorem dX8_logs_80 : decode cX8_logs 80 = .ok (.iastore, 1) := by decide +kernel
theorem dX8_logs_81 : decode cX8_logs 81 = .ok (.aload_n 0, 1) := by decide +kernel
theorem dX8_logs_82 : decode cX8_logs 82 = .ok (.getfield 32, 3) := by decide +kernel
theorem dX8_logs_85 : decode cX8_logs 85 = .ok (.bipush 6, 2) := by decide +kernel
theorem dX8_logs_87 : decode cX8_logs 87 = .ok (.aload_n 0, 1) := by decide +kernel
theorem dX8_logs_88 : decode cX8_logs 88 = .ok (.getfield 192, 3) := by decide +kernel
theorem dX8_logs_91 : decode cX8_logs 91 = .ok (.imul, 1) := by decide +kernel
theorem dX8_logs_92 : decode cX8_logs 92 = .ok (.iconst 2, 1) := by decide +kernel
theorem dX8_logs_93 : decode cX8_logs 93 = .ok (.iadd, 1) := by decide +kernel
theorem dX8_logs_94 : decode cX8_logs 94 = .ok (.aload_n 0, 1) := by decide +kernel
theorem dX8_logs_95 : decode cX8_logs 95 = .ok (.getfield 51, 3) := by decide +kernel
theorem dX8_logs_98 : decode cX8_logs 98 = .ok (.iconst 2, 1) := by decide +kernel
theorem dX8_logs_99 : decode cX8_logs 99 = .ok (.iaload, 1) := by decide +kernel
theorem dX8_logs_100 : decode cX8_logs 100 = .ok (.iastore, 1) := by decide +kernel
theorem dX8_logs_101 : decode cX8_logs 101 = .ok (.aload_n 0, 1) := by decide +kernel
theorem dX8_logs_102 : decode cX8_logs 102 = .ok (.getfield 32, 3) := by decide +kernel
theorem dX8_logs_105 : decode cX8_logs 105 = .ok (.bipush 6, 2) := by decide +kernel
theorem dX8_logs_107 : decode cX8_logs 107 = .ok (.aload_n 0, 1) := by decide +kernel
theorem dX8_logs_108 : decode cX8_logs 108 = .ok (.getfield 192, 3) := by decide +kernel
theorem dX8_logs_111 : decode cX8_logs 111 = .ok (.imul, 1) := by decide +kernel
theorem dX8_logs_112 : decode cX8_logs 112 = .ok (.iconst 3, 1) := by decide +kernel
theorem dX8_logs_113 : decode cX8_logs 113 = .ok (.iadd, 1) := by decide +kernel
theorem dX8_logs_114 : decode cX8_logs 114 = .ok (.aload_n 0, 1) := by decide +kernel
theorem dX8_logs_115 : decode cX8_logs 115 = .ok (.getfield 176, 3) := by decide +kernel
theorem dX8_logs_118 : decode cX8_logs 118 = .ok (.iastore, 1) := by decide +kernel
theorem dX8_logs_119 : decode cX8_logs 119 = .ok (.aload_n 0, 1) := by decide +kernel
theorem dX8_logs_120 : decode cX8_logs 120 = .ok (.getfield 32, 3) := by decide +kernel
theorem dX8_logs_123 : decode cX8_logs 123 = .ok (.bipush 6, 2) := by decide +kernel
theorem dX8_logs_125 : decode cX8_logs 125 = .ok (.aload_n 0, 1) := by decide +kernel
theorem dX8_logs_126 : decode cX8_logs 126 = .ok (.getfield 192, 3) := by decide +kernel
theorem dX8_logs_129 : decode cX8_logs 129 = .ok (.imul, 1) := by decide +kernel
theorem dX8_logs_130 : decode cX8_logs 130 = .ok (.iconst 4, 1) := by decide +kernel
theorem dX8_logs_131 : decode cX8_logs 131 = .ok (.iadd, 1) := by decide +kernel
theorem dX8_logs_132 : decode cX8_logs 132 = .ok (.iload_n 2, 1) := by decide +kernel
theorem dX8_logs_133 : decode cX8_logs 133 = .ok (.iastore, 1) := by decide +kernel
theorem dX8_logs_134 : decode cX8_logs 134 = .ok (.aload_n 0, 1) := by decide +kernel
theorem dX8_logs_135 : decode cX8_logs 135 = .ok (.getfield 32, 3) := by decide +kernel
theorem dX8_logs_138 : decode cX8_logs 138 = .ok (.bipush 6, 2) := by decide +kernel
theorem dX8_logs_140 : decode cX8_logs 140 = .ok (.aload_n 0, 1) := by decide +kernel
theorem dX8_logs_141 : decode cX8_logs 141 = .ok (.getfield 192, 3) := by decide +kernel
theorem dX8_logs_144 : decode cX8_logs 144 = .ok (.imul, 1) := by decide +kernel
theorem dX8_logs_145 : decode cX8_logs 145 = .ok (.iconst 5, 1) := by decide +kernel
theorem dX8_logs_146 : decode cX8_logs 146 = .ok (.iadd, 1) := by decide +kernel
theorem dX8_logs_147 : decode cX8_logs 147 = .ok (.iload_n 3, 1) := by decide +kernel
theorem dX8_logs_148 : decode cX8_logs 148 = .ok (.iastore, 1) := by decide +kernel
theorem dX8_logs_149 : decode cX8_logs 149 = .ok (.iconst 0, 1) := by decide +kernel
theorem dX8_logs_150 : decode cX8_logs 150 = .ok (.istore 4, 2) := by decide +kernel
theorem dX8_logs_152 : decode cX8_logs 152 = .ok (.iload 4, 2) := by decide +kernel
theorem dX8_logs_154 : decode cX8_logs 154 = .ok (.aload_n 0, 1) := by decide +kernel
theorem dX8_logs_155 : decode cX8_logs 155 = .ok (.getfield 167, 3) := by decide +kernel
theorem dX8_logs_158 : decode cX8_logs 158 = .ok (.if_icmp .ge 32, 3) := by decide +kernel
theorem dX8_logs_161 : decode cX8_logs 161 = .ok (.aload_n 0, 1) := by decide +kernel
theorem dX8_logs_162 : decode cX8_logs 162 = .ok (.getfield 35, 3) := by decide +kernel
theorem dX8_logs_165 : decode cX8_logs 165 = .ok (.sipush 258, 3) := by decide +kernel
theorem dX8_logs_168 : decode cX8_logs 168 = .ok (.aload_n 0, 1) := by decide +kernel
theorem dX8_logs_169 : decode cX8_logs 169 = .ok (.getfield 192, 3) := by decide +kernel
theorem dX8_logs_172 : decode cX8_logs 172 = .ok (.imul, 1) := by decide +kernel
theorem dX8_logs_173 : decode cX8_logs 173 = .ok (.iload 4, 2) := by decide +kernel
theorem dX8_logs_175 : decode cX8_logs 175 = .ok (.iadd, 1) := by decide +kernel
theorem dX8_logs_176 : decode cX8_logs 176 = .ok (.aload_n 0, 1) := by decide +kernel
theorem dX8_logs_177 : decode cX8_logs 177 = .ok (.getfield 51, 3) := by decide +kernel
theorem dX8_logs_180 : decode cX8_logs 180 = .ok (.iload 4, 2) := by decide +kernel
theorem dX8_logs_182 : decode cX8_logs 182 = .ok (.iaload, 1) := by decide +kernel
theorem dX8_logs_183 : decode cX8_logs 183 = .ok (.iastore, 1) := by decide +kernel
theorem dX8_logs_184 : decode cX8_logs 184 = .ok (.iinc 4 1, 3) := by decide +kernel
theorem dX8_logs_187 : decode cX8_logs 187 = .ok (.goto (-35), 3) := by decide +kernel
theorem dX8_logs_190 : decode cX8_logs 190 = .ok (.return_, 1) := by decide +kernel
set_option maxRecDepth 100000 in
set_option maxHeartbeats 4000000 in
theorem c_X8_logs_0_r {hp : List gA} {M : gMd} {y : Int32} {n : Nat} {E : List (Int32 × List Int32)} (HM : gMod hp M) (U : gUn M E) (G : gLg M) (hn : M.f 26 = nI n) (hn2 : n ≤ 64) (hE : E.length < 8192) (hB : gOf E E.length + n ≤ 131072) (hbl2 : gIr (M.a 12 2) 254) : gM yX8_logs cX8_logs 5 (none) 2 45 [.ref 122, .int 0, .int y] (hp) (0) (0) (fun v h => v = none ∧ ∃ M' E', gMod h M' ∧ gFM hp h ∧ gLo M 0 n E M' E') := by
  refine gM_of (ls0 := [some (.ref 122), some (.int 0), some (.int y), none, none]) (by decide +kernel) (Nat.le_of_ble_eq_true rfl) rfl fun X C E9 => ?_
  obtain ⟨⟨a, ha, ea⟩, ⟨n9, hn9, en9⟩, lg⟩ := id G
  obtain ⟨b, hb⟩ : ∃ b, (a + 1) % 30 = b := ⟨_, rfl⟩
  have hb30 : b < 30 := by have := Nat.mod_lt (a + 1) (show 0 < 30 by decide); omega
  have K : ∀ (M1 : gMd) (h1 : List gA), gMod h1 M1 → gFM hp h1 → (∀ q, ¬ q = 12 → ¬ q = 13 → M1.f q = M.f q) → M1.f 13 = nI b → (∃ n, n ≤ 30 ∧ M1.f 12 = nI n) → (∀ i j, M1.a i j = M.a i j) → gG X 32 [some (.ref 122), some (.int 0), some (.int y), none, none] [] h1 0 0 := by
    intro M1 h1 HM1 fr1 f1 e13 e12 a1
    have U1 : gUn M1 E := U.kept (f1 18 (by decide) (by decide)) (a1 8) (a1 9) (a1 11)
    have hn1 : M1.f 26 = nI n := (f1 26 (by decide) (by decide)).trans hn
    have b1 : gBk M1 n = gBk M n := gBk_congr (a1 12)
    refine g_aload_n (q := 33) C dX8_logs_32 rfl rfl ?_
    refine g_iload_n (q := 34) C dX8_logs_33 rfl rfl ?_
    refine g_callVip (q := 37) (As := [.int 0]) C gyX8_unlikeOf gvX8_unlikeOf t_1332 (c_X8_unlikeOf_0_r HM1 U1 hn1 hn2 hE hB) dX8_logs_34 rfl HM1.1 rfl rfl rfl (Nat.le_of_ble_eq_true rfl) (Nat.le_of_ble_eq_true rfl) (Nat.le_of_ble_eq_true rfl) (Nat.le_of_ble_eq_true rfl) (Nat.le_of_ble_eq_true rfl) rfl (fun x2 h2 z2 => ?_)
    obtain ⟨M2, id, E', HM2, fr2, rfl, V⟩ := z2
    obtain ⟨v1, v2, v3, v4, v5, v6⟩ := V
    rw [b1] at v3 v6
    have e13b : M2.f 13 = nI b := (v4 13 (by decide)).trans e13
    have hn2b : M2.f 26 = nI n := (v4 26 (by decide)).trans hn1
    have id8 : id < 8192 := by have := v1.2.2.2.2.1; omega
    refine g_istore_n (q := 38) C dX8_logs_37 (Nat.le_of_ble_eq_true rfl) (by simp only [gset]; rfl) rfl ?_
    refine g_aload_n (q := 39) C dX8_logs_38 rfl rfl ?_
    refine g_getfield (v := .ref 133) (q := 42) C fX8_44 dX8_logs_39 rfl HM2.1 rfl ?_
    refine g_iload_n (q := 43) C dX8_logs_42 rfl rfl ?_
    refine g_dup2 (q := 44) C dX8_logs_43 rfl rfl rfl ?_
    refine g_ialoadN (x := (M2.a 10 id)) (j := id) (q := 45) C dX8_logs_44 rfl (HM2.ar (i := 10) (n := 8192) (by decide) rfl) (pk_in id 8192 (by omega)) (pk_cl id rfl (by omega)) rfl ?_
    refine g_iconst (v := 1) (q := 46) C dX8_logs_45 (by decide) rfl ?_
    refine g_iadd (q := 47) C dX8_logs_46 rfl ?_
    refine g_iastoreN (j := id) (q := 48) C dX8_logs_47 rfl (HM2.ar (i := 10) (n := 8192) (by decide) rfl) (pk_in id 8192 (by omega)) (pk_cl id rfl (by omega)) ?_
    refine gMsto (i := 10) (j := id) (x := ((M2.a 10 id) + 1)) HM2 (by decide) rfl rfl fun h3 HL3 fr3 => ?_
    refine g_aload_n (q := 49) C dX8_logs_48 rfl rfl ?_
    refine g_getfield (v := .ref 129) (q := 52) C fX8_32 dX8_logs_49 rfl HL3.1 rfl ?_
    refine g_bipush (v := 6) (q := 54) C dX8_logs_52 (by decide) rfl ?_
    refine g_aload_n (q := 55) C dX8_logs_54 rfl rfl ?_
    refine g_getfield (v := .int ((M2.f 13))) (q := 58) C fX8_192 dX8_logs_55 rfl HL3.1 rfl ?_
    rw [show (M2.f 13) = nI b from e13b]
    refine g_imul (q := 59) C dX8_logs_58 rfl ?_
    rw [g6b (by omega)]
    refine g_iload_n (q := 60) C dX8_logs_59 rfl rfl ?_
    refine g_iastoreN (j := (6 * b)) (q := 61) C dX8_logs_60 rfl (HL3.ar (i := 6) (n := 180) (by decide) rfl) (pk_in (6 * b) 180 (by omega)) (pk_cl (6 * b) rfl (by omega)) ?_
    refine gMsto (i := 6) (j := (6 * b)) (x := 0) HL3 (by decide) rfl rfl fun h4 HL4 fr4 => ?_
    refine g_aload_n (q := 62) C dX8_logs_61 rfl rfl ?_
    refine g_getfield (v := .ref 129) (q := 65) C fX8_32 dX8_logs_62 rfl HL4.1 rfl ?_
    refine g_bipush (v := 6) (q := 67) C dX8_logs_65 (by decide) rfl ?_
    refine g_aload_n (q := 68) C dX8_logs_67 rfl rfl ?_
    refine g_getfield (v := .int ((M2.f 13))) (q := 71) C fX8_192 dX8_logs_68 rfl HL4.1 rfl ?_
    rw [show (M2.f 13) = nI b from e13b]
    refine g_imul (q := 72) C dX8_logs_71 rfl ?_
    rw [g6b (by omega)]
    refine g_iconst (v := 1) (q := 73) C dX8_logs_72 (by decide) rfl ?_
    refine g_iadd (q := 74) C dX8_logs_73 rfl ?_
    refine g_aload_n (q := 75) C dX8_logs_74 rfl rfl ?_
    refine g_getfield (v := .ref 135) (q := 78) C fX8_51 dX8_logs_75 rfl HL4.1 rfl ?_
    refine g_iconst (v := 1) (q := 79) C dX8_logs_78 (by decide) rfl ?_
    refine g_ialoadN (x := (M2.a 12 1)) (j := 1) (q := 80) C dX8_logs_79 rfl (HL4.ar (i := 12) (n := 260) (by decide) rfl) (pk_in 1 260 (by decide)) (pk_cl 1) ((gput_o (by decide)).trans (gput_o (by decide))) ?_
    refine g_iastoreN (j := (6 * b + 1)) (q := 81) C dX8_logs_80 rfl (HL4.ar (i := 6) (n := 180) (by decide) rfl) (pk_in (6 * b + 1) 180 (by omega) (nI_add (6 * b) 1)) (pk_cl (6 * b + 1) (nI_add (6 * b) 1) (by omega)) ?_
    refine gMsto (i := 6) (j := (6 * b + 1)) (x := (M2.a 12 1)) HL4 (by decide) rfl rfl fun h5 HL5 fr5 => ?_
    refine g_aload_n (q := 82) C dX8_logs_81 rfl rfl ?_
    refine g_getfield (v := .ref 129) (q := 85) C fX8_32 dX8_logs_82 rfl HL5.1 rfl ?_
    refine g_bipush (v := 6) (q := 87) C dX8_logs_85 (by decide) rfl ?_
    refine g_aload_n (q := 88) C dX8_logs_87 rfl rfl ?_
    refine g_getfield (v := .int ((M2.f 13))) (q := 91) C fX8_192 dX8_logs_88 rfl HL5.1 rfl ?_
    rw [show (M2.f 13) = nI b from e13b]
    refine g_imul (q := 92) C dX8_logs_91 rfl ?_
    rw [g6b (by omega)]
    refine g_iconst (v := 2) (q := 93) C dX8_logs_92 (by decide) rfl ?_
    refine g_iadd (q := 94) C dX8_logs_93 rfl ?_
    refine g_aload_n (q := 95) C dX8_logs_94 rfl rfl ?_
    refine g_getfield (v := .ref 135) (q := 98) C fX8_51 dX8_logs_95 rfl HL5.1 rfl ?_
    refine g_iconst (v := 2) (q := 99) C dX8_logs_98 (by decide) rfl ?_
    refine g_ialoadN (x := (M2.a 12 2)) (j := 2) (q := 100) C dX8_logs_99 rfl (HL5.ar (i := 12) (n := 260) (by decide) rfl) (pk_in 2 260 (by decide)) (pk_cl 2) ((gput_o (by decide)).trans ((gput_o (by decide)).trans (gput_o (by decide)))) ?_
    refine g_iastoreN (j := (6 * b + 2)) (q := 101) C dX8_logs_100 rfl (HL5.ar (i := 6) (n := 180) (by decide) rfl) (pk_in (6 * b + 2) 180 (by omega) (nI_add (6 * b) 2)) (pk_cl (6 * b + 2) (nI_add (6 * b) 2) (by omega)) ?_
    refine gMsto (i := 6) (j := (6 * b + 2)) (x := (M2.a 12 2)) HL5 (by decide) rfl rfl fun h6 HL6 fr6 => ?_
    refine g_aload_n (q := 102) C dX8_logs_101 rfl rfl ?_
    refine g_getfield (v := .ref 129) (q := 105) C fX8_32 dX8_logs_102 rfl HL6.1 rfl ?_
    refine g_bipush (v := 6) (q := 107) C dX8_logs_105 (by decide) rfl ?_
    refine g_aload_n (q := 108) C dX8_logs_107 rfl rfl ?_
    refine g_getfield (v := .int ((M2.f 13))) (q := 111) C fX8_192 dX8_logs_108 rfl HL6.1 rfl ?_
    rw [show (M2.f 13) = nI b from e13b]
    refine g_imul (q := 112) C dX8_logs_111 rfl ?_
    rw [g6b (by omega)]
    refine g_iconst (v := 3) (q := 113) C dX8_logs_112 (by decide) rfl ?_
    refine g_iadd (q := 114) C dX8_logs_113 rfl ?_
    refine g_aload_n (q := 115) C dX8_logs_114 rfl rfl ?_
    refine g_getfield (v := .int ((M2.f 29))) (q := 118) C fX8_176 dX8_logs_115 rfl HL6.1 rfl ?_
    refine g_iastoreN (j := (6 * b + 3)) (q := 119) C dX8_logs_118 rfl (HL6.ar (i := 6) (n := 180) (by decide) rfl) (pk_in (6 * b + 3) 180 (by omega) (nI_add (6 * b) 3)) (pk_cl (6 * b + 3) (nI_add (6 * b) 3) (by omega)) ?_
    refine gMsto (i := 6) (j := (6 * b + 3)) (x := (M2.f 29)) HL6 (by decide) rfl rfl fun h7 HL7 fr7 => ?_
    refine g_aload_n (q := 120) C dX8_logs_119 rfl rfl ?_
    refine g_getfield (v := .ref 129) (q := 123) C fX8_32 dX8_logs_120 rfl HL7.1 rfl ?_
    refine g_bipush (v := 6) (q := 125) C dX8_logs_123 (by decide) rfl ?_
    refine g_aload_n (q := 126) C dX8_logs_125 rfl rfl ?_
    refine g_getfield (v := .int ((M2.f 13))) (q := 129) C fX8_192 dX8_logs_126 rfl HL7.1 rfl ?_
    rw [show (M2.f 13) = nI b from e13b]
    refine g_imul (q := 130) C dX8_logs_129 rfl ?_
    rw [g6b (by omega)]
    refine g_iconst (v := 4) (q := 131) C dX8_logs_130 (by decide) rfl ?_
    refine g_iadd (q := 132) C dX8_logs_131 rfl ?_
    refine g_iload_n (q := 133) C dX8_logs_132 rfl rfl ?_
    refine g_iastoreN (j := (6 * b + 4)) (q := 134) C dX8_logs_133 rfl (HL7.ar (i := 6) (n := 180) (by decide) rfl) (pk_in (6 * b + 4) 180 (by omega) (nI_add (6 * b) 4)) (pk_cl (6 * b + 4) (nI_add (6 * b) 4) (by omega)) ?_
    refine gMsto (i := 6) (j := (6 * b + 4)) (x := y) HL7 (by decide) rfl rfl fun h8 HL8 fr8 => ?_
    refine g_aload_n (q := 135) C dX8_logs_134 rfl rfl ?_
    refine g_getfield (v := .ref 129) (q := 138) C fX8_32 dX8_logs_135 rfl HL8.1 rfl ?_
    refine g_bipush (v := 6) (q := 140) C dX8_logs_138 (by decide) rfl ?_
    refine g_aload_n (q := 141) C dX8_logs_140 rfl rfl ?_
    refine g_getfield (v := .int ((M2.f 13))) (q := 144) C fX8_192 dX8_logs_141 rfl HL8.1 rfl ?_
    rw [show (M2.f 13) = nI b from e13b]
    refine g_imul (q := 145) C dX8_logs_144 rfl ?_
    rw [g6b (by omega)]
    refine g_iconst (v := 5) (q := 146) C dX8_logs_145 (by decide) rfl ?_
    refine g_iadd (q := 147) C dX8_logs_146 rfl ?_
    refine g_iload_n (q := 148) C dX8_logs_147 rfl rfl ?_
    refine g_iastoreN (j := (6 * b + 5)) (q := 149) C dX8_logs_148 rfl (HL8.ar (i := 6) (n := 180) (by decide) rfl) (pk_in (6 * b + 5) 180 (by omega) (nI_add (6 * b) 5)) (pk_cl (6 * b + 5) (nI_add (6 * b) 5) (by omega)) ?_
    refine gMsto (i := 6) (j := (6 * b + 5)) (x := (nI id)) HL8 (by decide) rfl rfl fun h9 HL9 fr9 => ?_
    refine g_iconst (v := 0) (q := 150) C dX8_logs_149 (by decide) rfl ?_
    refine g_istore (q := 152) C dX8_logs_150 (Nat.le_of_ble_eq_true rfl) (by simp only [gset]; rfl) rfl ?_
    obtain ⟨M3, e3⟩ : ∃ M3, M3 = (((((((M2.put 10 id ((M2.a 10 id) + 1)).put 6 (6 * b) 0).put 6 (6 * b + 1) (M2.a 12 1)).put 6 (6 * b + 2) (M2.a 12 2)).put 6 (6 * b + 3) (M2.f 29)).put 6 (6 * b + 4) y).put 6 (6 * b + 5) (nI id)) := ⟨_, rfl⟩
    have HM3 : gMod h9 M3 := by rw [e3]; exact HL9
    have HL8 : gMod h9 (M3.arr 7 (gCpy (M3.a 7) (258 * b) (M3.a 12) 0 0)) := by rw [garr_0]; exact HM3
    have h3n : M3.f 26 = nI n := by rw [e3]; exact hn2b
    have h3b : M3.f 13 = nI b := by rw [e3]; exact e13b
    have LL10 : ∀ d j : Nat, j + d = n → ∀  (h1 : List gA), gMod h1 (M3.arr 7 (gCpy (M3.a 7) (258 * b) (M3.a 12) 0 j)) → gFM hp h1 → gG X 152 [some (.ref 122), some (.int 0), some (.int y), some (.int ((nI id))), some (.int ((nI j)))] [] h1 0 0 := by
      intro d
      induction d with
      | zero =>
        intro j hj  h1 HL1_ fr_
        obtain rfl : n = j := by omega
        refine g_iload (q := 154) C dX8_logs_152 rfl rfl ?_
        refine g_aload_n (q := 155) C dX8_logs_154 rfl rfl ?_
        refine g_getfield (v := .int (((M3.arr 7 (gCpy (M3.a 7) (258 * b) (M3.a 12) 0 n)).f 26))) (q := 158) C fX8_167 dX8_logs_155 rfl HL1_.1 rfl ?_
        rw [show ((M3.arr 7 (gCpy (M3.a 7) (258 * b) (M3.a 12) 0 n)).f 26) = nI n from h3n]
        refine g_icmp_ge_t (t := 190) C dX8_logs_158 (by decide) (nI_le (Nat.le_refl _) (by omega)) ?_
        have a3 : ∀ i q, ¬ i = 6 → ¬ i = 10 → M3.a i q = M2.a i q := fun i q h6 h10 => by rw [e3, gput_o h6, gput_o h6, gput_o h6, gput_o h6, gput_o h6, gput_o h6, gput_o h10]
        have a6 : ∀ q, ¬ q = 6 * b → ¬ q = 6 * b + 1 → ¬ q = 6 * b + 2 → ¬ q = 6 * b + 3 → ¬ q = 6 * b + 4 → ¬ q = 6 * b + 5 → M3.a 6 q = M2.a 6 q := fun q q0 q1 q2 q3 q4 q5 => by rw [e3, gput_n q5, gput_n q4, gput_n q3, gput_n q2, gput_n q1, gput_n q0, gput_o (by decide)]
        have a65 : M3.a 6 (6 * b + 5) = nI id := by rw [e3, gput_s]
        have a62 : M3.a 6 (6 * b + 2) = M2.a 12 2 := by rw [e3, gput_n (by omega), gput_n (by omega), gput_n (by omega), gput_s]
        have m2 : ∀ q, M2.a 12 q = M.a 12 q := fun q => (v5 12 q (by decide) (by decide) (by decide) (by decide)).trans (a1 12 q)
        have l6 : ∀ q, M2.a 6 q = M.a 6 q := fun q => (v5 6 q (by decide) (by decide) (by decide) (by decide)).trans (a1 6 q)
        have f3 : ∀ q, M3.f q = M2.f q := fun q => by rw [e3]; rfl
        refine E9.2.1 _ _ _ _ _ dX8_logs_190 rfl (Nat.le_of_ble_eq_true rfl) (Nat.le_of_ble_eq_true rfl) ⟨rfl, _, E', HL1_, fr_, v1.kept (f3 18) (fun q => ?_) (fun q => ?_) (fun q => ?_), ⟨⟨b, hb30, h3b⟩, ?_, fun p hp9 => ⟨?_, ?_⟩⟩, ⟨id, v2, v3⟩, fun q q1 q2 q3 => ?_, fun i q hi => ?_, ?_⟩
        · rw [garr_o (by decide)]; exact a3 8 q (by decide) (by decide)
        · rw [garr_o (by decide)]; exact a3 9 q (by decide) (by decide)
        · rw [garr_o (by decide)]; exact a3 11 q (by decide) (by decide)
        · obtain ⟨n8, h8, e8⟩ := e12
          exact ⟨n8, h8, (f3 12).trans ((v4 12 (by decide)).trans e8)⟩
        · rw [garr_o (by decide)]
          by_cases c : p = b
          · subst c; rw [a65]; exact ⟨id, by omega, rfl⟩
          · rw [a6 _ (by omega) (by omega) (by omega) (by omega) (by omega) (by omega), l6]; exact (lg p hp9).1
        · rw [garr_o (by decide)]
          by_cases c : p = b
          · subst c; rw [a62, m2]; exact hbl2
          · rw [a6 _ (by omega) (by omega) (by omega) (by omega) (by omega) (by omega), l6]; exact (lg p hp9).2
        · exact (f3 q).trans ((v4 q q3).trans (f1 q q1 q2))
        · rw [garr_o (by omega), a3 i q (by omega) (by omega), v5 i q (by omega) (by omega) (by omega) (by omega)]; exact a1 i q
        · exact v6.imp (fun h => h.1) (fun h => h)
      | succ d ih =>
        intro j hj  h1 HL1_ fr_
        refine g_iload (q := 154) C dX8_logs_152 rfl rfl ?_
        refine g_aload_n (q := 155) C dX8_logs_154 rfl rfl ?_
        refine g_getfield (v := .int (((M3.arr 7 (gCpy (M3.a 7) (258 * b) (M3.a 12) 0 j)).f 26))) (q := 158) C fX8_167 dX8_logs_155 rfl HL1_.1 rfl ?_
        rw [show ((M3.arr 7 (gCpy (M3.a 7) (258 * b) (M3.a 12) 0 j)).f 26) = nI n from h3n]
        refine g_icmp_ge_f (t := 190) (q := 161) C dX8_logs_158 (by decide) rfl (fun h => nI_ge (show j < n by omega) (by omega) h) ?_
        refine g_aload_n (q := 162) C dX8_logs_161 rfl rfl ?_
        refine g_getfield (v := .ref 130) (q := 165) C fX8_35 dX8_logs_162 rfl HL1_.1 rfl ?_
        refine g_sipush (v := 258) (q := 168) C dX8_logs_165 (by decide) rfl ?_
        refine g_aload_n (q := 169) C dX8_logs_168 rfl rfl ?_
        refine g_getfield (v := .int (((M3.arr 7 (gCpy (M3.a 7) (258 * b) (M3.a 12) 0 j)).f 13))) (q := 172) C fX8_192 dX8_logs_169 rfl HL1_.1 rfl ?_
        rw [show ((M3.arr 7 (gCpy (M3.a 7) (258 * b) (M3.a 12) 0 j)).f 13) = nI b from h3b]
        refine g_imul (q := 173) C dX8_logs_172 rfl ?_
        rw [g258 (by omega)]
        refine g_iload (q := 175) C dX8_logs_173 rfl rfl ?_
        refine g_iadd (q := 176) C dX8_logs_175 rfl ?_
        refine g_aload_n (q := 177) C dX8_logs_176 rfl rfl ?_
        refine g_getfield (v := .ref 135) (q := 180) C fX8_51 dX8_logs_177 rfl HL1_.1 rfl ?_
        refine g_iload (q := 182) C dX8_logs_180 rfl rfl ?_
        refine g_ialoadN (x := ((M3.arr 7 (gCpy (M3.a 7) (258 * b) (M3.a 12) 0 j)).a 12 j)) (j := j) (q := 183) C dX8_logs_182 rfl (HL1_.ar (i := 12) (n := 260) (by decide) rfl) (pk_in j 260 (by omega)) (pk_cl j rfl (by omega)) rfl ?_
        rw [nI_add]
        refine g_iastoreN (j := (258 * b + j)) (q := 184) C dX8_logs_183 rfl (HL1_.ar (i := 7) (n := 7740) (by decide) rfl) (pk_in (258 * b + j) 7740 (by omega)) (pk_cl (258 * b + j) rfl (by omega)) ?_
        refine gMsto (i := 7) (j := (258 * b + j)) (x := ((M3.arr 7 (gCpy (M3.a 7) (258 * b) (M3.a 12) 0 j)).a 12 j)) HL1_ (by decide) rfl rfl fun h11 HL11 fr11 => ?_
        refine g_iinc (v := (nI (j + 1))) (q := 187) C dX8_logs_184 rfl (nI_1 j) (by simp only [gset]; rfl) rfl ?_
        have e9 : (M3.arr 7 (gCpy (M3.a 7) (258 * b) (M3.a 12) 0 j)).put 7 (258 * b + j) ((M3.arr 7 (gCpy (M3.a 7) (258 * b) (M3.a 12) 0 j)).a 12 j) = (M3.arr 7 (gCpy (M3.a 7) (258 * b) (M3.a 12) 0 (j + 1))) := garr_cp (by rw [Nat.zero_add]; exact garr_o (by decide))
        have HL9 : gMod h11 (M3.arr 7 (gCpy (M3.a 7) (258 * b) (M3.a 12) 0 (j + 1))) := by rw [← e9]; exact HL11
        refine g_goto (q := 152) C dX8_logs_187 (by decide) ?_
        exact ih (j + 1) (by omega)  h11 HL9 (gFM.trans fr_ fr11)
    exact LL10 (n - 0) 0 (by omega)  h9 HL8 (gFM.trans (gFM.trans (gFM.trans (gFM.trans (gFM.trans (gFM.trans (gFM.trans (gFM.trans fr1 fr2) fr3) fr4) fr5) fr6) fr7) fr8) fr9)
    
  refine g_aload_n (q := 1) C dX8_logs_0 rfl rfl ?_
  refine g_aload_n (q := 2) C dX8_logs_1 rfl rfl ?_
  refine g_getfield (v := .int ((M.f 13))) (q := 5) C fX8_192 dX8_logs_2 rfl HM.1 rfl ?_
  refine g_iconst (v := 1) (q := 6) C dX8_logs_5 (by decide) rfl ?_
  refine g_iadd (q := 7) C dX8_logs_6 rfl ?_
  rw [show M.f 13 = nI a from ea, nI_1]
  refine g_bipush (v := 30) (q := 9) C dX8_logs_7 (by decide) rfl ?_
  refine g_irem (q := 10) C dX8_logs_9 (by decide) rfl ?_
  rw [show (30 : Int32) = nI 30 from rfl, nI_rem (by omega) (by decide), hb]
  refine g_putfield (q := 13) C fX8_192 dX8_logs_10 rfl HM.1 (Nat.le_of_ble_eq_true rfl) (Or.inl rfl) rfl rfl (by intro z h; cases h) ?_
  refine gMput (j := 13) (x := (nI b)) HM rfl fun h12 HL12 fr12 => ?_
  refine g_aload_n (q := 14) C dX8_logs_13 rfl rfl ?_
  refine g_getfield (v := .int ((M.f 12))) (q := 17) C fX8_69 dX8_logs_14 rfl HL12.1 rfl ?_
  refine g_bipush (v := 30) (q := 19) C dX8_logs_17 (by decide) rfl ?_
  refine g_icmp_ge (t := 32) (q := 22) C dX8_logs_19 (by decide) rfl (fun c_19 => ?_) (fun c_19 => ?_)
  ·
    exact K _ _ HL12 fr12 (fun q h1 h2 => gset_n h2) gset_s ⟨n9, hn9, (gset_n (by decide)).trans en9⟩ (fun _ _ => rfl)
  ·
    refine g_aload_n (q := 23) C dX8_logs_22 rfl rfl ?_
    refine g_dup (q := 24) C dX8_logs_23 rfl rfl ?_
    refine g_getfield (v := .int ((M.f 12))) (q := 27) C fX8_69 dX8_logs_24 rfl HL12.1 rfl ?_
    refine g_iconst (v := 1) (q := 28) C dX8_logs_27 (by decide) rfl ?_
    refine g_iadd (q := 29) C dX8_logs_28 rfl ?_
    refine g_putfield (q := 32) C fX8_69 dX8_logs_29 rfl HL12.1 (Nat.le_of_ble_eq_true rfl) (Or.inl rfl) rfl rfl (by intro z h; cases h) ?_
    refine gMput (j := 12) (x := ((M.f 12) + 1)) HL12 rfl fun h13 HL13 fr13 => ?_
    exact K _ _ HL13 (gFM.trans fr12 fr13) (fun q h1 h2 => (gset_n h1).trans (gset_n h2)) ((gset_n (by decide)).trans gset_s) ⟨n9 + 1, by have : ¬ 30 ≤ n9 := (fun h => c_19 (by rw [en9]; exact nI_le (a := 30) h (by omega))); omega, gset_s.trans (by rw [en9, nI_1])⟩ (fun _ _ => rfl)
set_option maxRecDepth 100000 in
set_option maxHeartbeats 4000000 in
theorem c_X8_logs_1_r {hp : List gA} {M : gMd} {y : Int32} {n : Nat} {E : List (Int32 × List Int32)} (HM : gMod hp M) (U : gUn M E) (G : gLg M) (hn : M.f 26 = nI n) (hn2 : n ≤ 64) (hE : E.length < 8192) (hB : gOf E E.length + n ≤ 131072) (hbl2 : gIr (M.a 12 2) 254) : gM yX8_logs cX8_logs 5 (none) 2 45 [.ref 122, .int 1, .int y] (hp) (0) (0) (fun v h => v = none ∧ ∃ M' E', gMod h M' ∧ gFM hp h ∧ gLo M 1 n E M' E') := by
  refine gM_of (ls0 := [some (.ref 122), some (.int 1), some (.int y), none, none]) (by decide +kernel) (Nat.le_of_ble_eq_true rfl) rfl fun X C E9 => ?_
  obtain ⟨⟨a, ha, ea⟩, ⟨n9, hn9, en9⟩, lg⟩ := id G
  obtain ⟨b, hb⟩ : ∃ b, (a + 1) % 30 = b := ⟨_, rfl⟩
  have hb30 : b < 30 := by have := Nat.mod_lt (a + 1) (show 0 < 30 by decide); omega
  have K : ∀ (M1 : gMd) (h1 : List gA), gMod h1 M1 → gFM hp h1 → (∀ q, ¬ q = 12 → ¬ q = 13 → M1.f q = M.f q) → M1.f 13 = nI b → (∃ n, n ≤ 30 ∧ M1.f 12 = nI n) → (∀ i j, M1.a i j = M.a i j) → gG X 32 [some (.ref 122), some (.int 1), some (.int y), none, none] [] h1 0 0 := by
    intro M1 h1 HM1 fr1 f1 e13 e12 a1
    have U1 : gUn M1 E := U.kept (f1 18 (by decide) (by decide)) (a1 8) (a1 9) (a1 11)
    have hn1 : M1.f 26 = nI n := (f1 26 (by decide) (by decide)).trans hn
    have b1 : gBk M1 n = gBk M n := gBk_congr (a1 12)
    refine g_aload_n (q := 33) C dX8_logs_32 rfl rfl ?_
    refine g_iload_n (q := 34) C dX8_logs_33 rfl rfl ?_
    refine g_callVip (q := 37) (As := [.int 1]) C gyX8_unlikeOf gvX8_unlikeOf t_1332 (c_X8_unlikeOf_1_r HM1 U1 hn1 hn2 hE hB) dX8_logs_34 rfl HM1.1 rfl rfl rfl (Nat.le_of_ble_eq_true rfl) (Nat.le_of_ble_eq_true rfl) (Nat.le_of_ble_eq_true rfl) (Nat.le_of_ble_eq_true rfl) (Nat.le_of_ble_eq_true rfl) rfl (fun x2 h2 z2 => ?_)
    obtain ⟨M2, id, E', HM2, fr2, rfl, V⟩ := z2
    obtain ⟨v1, v2, v3, v4, v5, v6⟩ := V
    rw [b1] at v3 v6
    have e13b : M2.f 13 = nI b := (v4 13 (by decide)).trans e13
    have hn2b : M2.f 26 = nI n := (v4 26 (by decide)).trans hn1
    have id8 : id < 8192 := by have := v1.2.2.2.2.1; omega
    refine g_istore_n (q := 38) C dX8_logs_37 (Nat.le_of_ble_eq_true rfl) (by simp only [gset]; rfl) rfl ?_
    refine g_aload_n (q := 39) C dX8_logs_38 rfl rfl ?_
    refine g_getfield (v := .ref 133) (q := 42) C fX8_44 dX8_logs_39 rfl HM2.1 rfl ?_
    refine g_iload_n (q := 43) C dX8_logs_42 rfl rfl ?_
    refine g_dup2 (q := 44) C dX8_logs_43 rfl rfl rfl ?_
    refine g_ialoadN (x := (M2.a 10 id)) (j := id) (q := 45) C dX8_logs_44 rfl (HM2.ar (i := 10) (n := 8192) (by decide) rfl) (pk_in id 8192 (by omega)) (pk_cl id rfl (by omega)) rfl ?_
    refine g_iconst (v := 1) (q := 46) C dX8_logs_45 (by decide) rfl ?_
    refine g_iadd (q := 47) C dX8_logs_46 rfl ?_
    refine g_iastoreN (j := id) (q := 48) C dX8_logs_47 rfl (HM2.ar (i := 10) (n := 8192) (by decide) rfl) (pk_in id 8192 (by omega)) (pk_cl id rfl (by omega)) ?_
    refine gMsto (i := 10) (j := id) (x := ((M2.a 10 id) + 1)) HM2 (by decide) rfl rfl fun h3 HL3 fr3 => ?_
    refine g_aload_n (q := 49) C dX8_logs_48 rfl rfl ?_
    refine g_getfield (v := .ref 129) (q := 52) C fX8_32 dX8_logs_49 rfl HL3.1 rfl ?_
    refine g_bipush (v := 6) (q := 54) C dX8_logs_52 (by decide) rfl ?_
    refine g_aload_n (q := 55) C dX8_logs_54 rfl rfl ?_
    refine g_getfield (v := .int ((M2.f 13))) (q := 58) C fX8_192 dX8_logs_55 rfl HL3.1 rfl ?_
    rw [show (M2.f 13) = nI b from e13b]
    refine g_imul (q := 59) C dX8_logs_58 rfl ?_
    rw [g6b (by omega)]
    refine g_iload_n (q := 60) C dX8_logs_59 rfl rfl ?_
    refine g_iastoreN (j := (6 * b)) (q := 61) C dX8_logs_60 rfl (HL3.ar (i := 6) (n := 180) (by decide) rfl) (pk_in (6 * b) 180 (by omega)) (pk_cl (6 * b) rfl (by omega)) ?_
    refine gMsto (i := 6) (j := (6 * b)) (x := 1) HL3 (by decide) rfl rfl fun h4 HL4 fr4 => ?_
    refine g_aload_n (q := 62) C dX8_logs_61 rfl rfl ?_
    refine g_getfield (v := .ref 129) (q := 65) C fX8_32 dX8_logs_62 rfl HL4.1 rfl ?_
    refine g_bipush (v := 6) (q := 67) C dX8_logs_65 (by decide) rfl ?_
    refine g_aload_n (q := 68) C dX8_logs_67 rfl rfl ?_
    refine g_getfield (v := .int ((M2.f 13))) (q := 71) C fX8_192 dX8_logs_68 rfl HL4.1 rfl ?_
    rw [show (M2.f 13) = nI b from e13b]
    refine g_imul (q := 72) C dX8_logs_71 rfl ?_
    rw [g6b (by omega)]
    refine g_iconst (v := 1) (q := 73) C dX8_logs_72 (by decide) rfl ?_
    refine g_iadd (q := 74) C dX8_logs_73 rfl ?_
    refine g_aload_n (q := 75) C dX8_logs_74 rfl rfl ?_
    refine g_getfield (v := .ref 135) (q := 78) C fX8_51 dX8_logs_75 rfl HL4.1 rfl ?_
    refine g_iconst (v := 1) (q := 79) C dX8_logs_78 (by decide) rfl ?_
    refine g_ialoadN (x := (M2.a 12 1)) (j := 1) (q := 80) C dX8_logs_79 rfl (HL4.ar (i := 12) (n := 260) (by decide) rfl) (pk_in 1 260 (by decide)) (pk_cl 1) ((gput_o (by decide)).trans (gput_o (by decide))) ?_
    refine g_iastoreN (j := (6 * b + 1)) (q := 81) C dX8_logs_80 rfl (HL4.ar (i := 6) (n := 180) (by decide) rfl) (pk_in (6 * b + 1) 180 (by omega) (nI_add (6 * b) 1)) (pk_cl (6 * b + 1) (nI_add (6 * b) 1) (by omega)) ?_
    refine gMsto (i := 6) (j := (6 * b + 1)) (x := (M2.a 12 1)) HL4 (by decide) rfl rfl fun h5 HL5 fr5 => ?_
    refine g_aload_n (q := 82) C dX8_logs_81 rfl rfl ?_
    refine g_getfield (v := .ref 129) (q := 85) C fX8_32 dX8_logs_82 rfl HL5.1 rfl ?_
    refine g_bipush (v := 6) (q := 87) C dX8_logs_85 (by decide) rfl ?_
    refine g_aload_n (q := 88) C dX8_logs_87 rfl rfl ?_
    refine g_getfield (v := .int ((M2.f 13))) (q := 91) C fX8_192 dX8_logs_88 rfl HL5.1 rfl ?_
    rw [show (M2.f 13) = nI b from e13b]
    refine g_imul (q := 92) C dX8_logs_91 rfl ?_
    rw [g6b (by omega)]
    refine g_iconst (v := 2) (q := 93) C dX8_logs_92 (by decide) rfl ?_
    refine g_iadd (q := 94) C dX8_logs_93 rfl ?_
    refine g_aload_n (q := 95) C dX8_logs_94 rfl rfl ?_
    refine g_getfield (v := .ref 135) (q := 98) C fX8_51 dX8_logs_95 rfl HL5.1 rfl ?_
    refine g_iconst (v := 2) (q := 99) C dX8_logs_98 (by decide) rfl ?_
    refine g_ialoadN (x := (M2.a 12 2)) (j := 2) (q := 100) C dX8_logs_99 rfl (HL5.ar (i := 12) (n := 260) (by decide) rfl) (pk_in 2 260 (by decide)) (pk_cl 2) ((gput_o (by decide)).trans ((gput_o (by decide)).trans (gput_o (by decide)))) ?_
    refine g_iastoreN (j := (6 * b + 2)) (q := 101) C dX8_logs_100 rfl (HL5.ar (i := 6) (n := 180) (by decide) rfl) (pk_in (6 * b + 2) 180 (by omega) (nI_add (6 * b) 2)) (pk_cl (6 * b + 2) (nI_add (6 * b) 2) (by omega)) ?_
    refine gMsto (i := 6) (j := (6 * b + 2)) (x := (M2.a 12 2)) HL5 (by decide) rfl rfl fun h6 HL6 fr6 => ?_
    refine g_aload_n (q := 102) C dX8_logs_101 rfl rfl ?_
    refine g_getfield (v := .ref 129) (q := 105) C fX8_32 dX8_logs_102 rfl HL6.1 rfl ?_
    refine g_bipush (v := 6) (q := 107) C dX8_logs_105 (by decide) rfl ?_
    refine g_aload_n (q := 108) C dX8_logs_107 rfl rfl ?_
    refine g_getfield (v := .int ((M2.f 13))) (q := 111) C fX8_192 dX8_logs_108 rfl HL6.1 rfl ?_
    rw [show (M2.f 13) = nI b from e13b]
    refine g_imul (q := 112) C dX8_logs_111 rfl ?_
    rw [g6b (by omega)]
    refine g_iconst (v := 3) (q := 113) C dX8_logs_112 (by decide) rfl ?_
    refine g_iadd (q := 114) C dX8_logs_113 rfl ?_
    refine g_aload_n (q := 115) C dX8_logs_114 rfl rfl ?_
    refine g_getfield (v := .int ((M2.f 29))) (q := 118) C fX8_176 dX8_logs_115 rfl HL6.1 rfl ?_
    refine g_iastoreN (j := (6 * b + 3)) (q := 119) C dX8_logs_118 rfl (HL6.ar (i := 6) (n := 180) (by decide) rfl) (pk_in (6 * b + 3) 180 (by omega) (nI_add (6 * b) 3)) (pk_cl (6 * b + 3) (nI_add (6 * b) 3) (by omega)) ?_
    refine gMsto (i := 6) (j := (6 * b + 3)) (x := (M2.f 29)) HL6 (by decide) rfl rfl fun h7 HL7 fr7 => ?_
    refine g_aload_n (q := 120) C dX8_logs_119 rfl rfl ?_
    refine g_getfield (v := .ref 129) (q := 123) C fX8_32 dX8_logs_120 rfl HL7.1 rfl ?_
    refine g_bipush (v := 6) (q := 125) C dX8_logs_123 (by decide) rfl ?_
    refine g_aload_n (q := 126) C dX8_logs_125 rfl rfl ?_
    refine g_getfield (v := .int ((M2.f 13))) (q := 129) C fX8_192 dX8_logs_126 rfl HL7.1 rfl ?_
    rw [show (M2.f 13) = nI b from e13b]
    refine g_imul (q := 130) C dX8_logs_129 rfl ?_
    rw [g6b (by omega)]
    refine g_iconst (v := 4) (q := 131) C dX8_logs_130 (by decide) rfl ?_
    refine g_iadd (q := 132) C dX8_logs_131 rfl ?_
    refine g_iload_n (q := 133) C dX8_logs_132 rfl rfl ?_
    refine g_iastoreN (j := (6 * b + 4)) (q := 134) C dX8_logs_133 rfl (HL7.ar (i := 6) (n := 180) (by decide) rfl) (pk_in (6 * b + 4) 180 (by omega) (nI_add (6 * b) 4)) (pk_cl (6 * b + 4) (nI_add (6 * b) 4) (by omega)) ?_
    refine gMsto (i := 6) (j := (6 * b + 4)) (x := y) HL7 (by decide) rfl rfl fun h8 HL8 fr8 => ?_
    refine g_aload_n (q := 135) C dX8_logs_134 rfl rfl ?_
    refine g_getfield (v := .ref 129) (q := 138) C fX8_32 dX8_logs_135 rfl HL8.1 rfl ?_
    refine g_bipush (v := 6) (q := 140) C dX8_logs_138 (by decide) rfl ?_
    refine g_aload_n (q := 141) C dX8_logs_140 rfl rfl ?_
    refine g_getfield (v := .int ((M2.f 13))) (q := 144) C fX8_192 dX8_logs_141 rfl HL8.1 rfl ?_
    rw [show (M2.f 13) = nI b from e13b]
    refine g_imul (q := 145) C dX8_logs_144 rfl ?_
    rw [g6b (by omega)]
    refine g_iconst (v := 5) (q := 146) C dX8_logs_145 (by decide) rfl ?_
    refine g_iadd (q := 147) C dX8_logs_146 rfl ?_
    refine g_iload_n (q := 148) C dX8_logs_147 rfl rfl ?_
    refine g_iastoreN (j := (6 * b + 5)) (q := 149) C dX8_logs_148 rfl (HL8.ar (i := 6) (n := 180) (by decide) rfl) (pk_in (6 * b + 5) 180 (by omega) (nI_add (6 * b) 5)) (pk_cl (6 * b + 5) (nI_add (6 * b) 5) (by omega)) ?_
    refine gMsto (i := 6) (j := (6 * b + 5)) (x := (nI id)) HL8 (by decide) rfl rfl fun h9 HL9 fr9 => ?_
    refine g_iconst (v := 0) (q := 150) C dX8_logs_149 (by decide) rfl ?_
    refine g_istore (q := 152) C dX8_logs_150 (Nat.le_of_ble_eq_true rfl) (by simp only [gset]; rfl) rfl ?_
    obtain ⟨M3, e3⟩ : ∃ M3, M3 = (((((((M2.put 10 id ((M2.a 10 id) + 1)).put 6 (6 * b) 1).put 6 (6 * b + 1) (M2.a 12 1)).put 6 (6 * b + 2) (M2.a 12 2)).put 6 (6 * b + 3) (M2.f 29)).put 6 (6 * b + 4) y).put 6 (6 * b + 5) (nI id)) := ⟨_, rfl⟩
    have HM3 : gMod h9 M3 := by rw [e3]; exact HL9
    have HL8 : gMod h9 (M3.arr 7 (gCpy (M3.a 7) (258 * b) (M3.a 12) 0 0)) := by rw [garr_0]; exact HM3
    have h3n : M3.f 26 = nI n := by rw [e3]; exact hn2b
    have h3b : M3.f 13 = nI b := by rw [e3]; exact e13b
    have LL10 : ∀ d j : Nat, j + d = n → ∀  (h1 : List gA), gMod h1 (M3.arr 7 (gCpy (M3.a 7) (258 * b) (M3.a 12) 0 j)) → gFM hp h1 → gG X 152 [some (.ref 122), some (.int 1), some (.int y), some (.int ((nI id))), some (.int ((nI j)))] [] h1 0 0 := by
      intro d
      induction d with
      | zero =>
        intro j hj  h1 HL1_ fr_
        obtain rfl : n = j := by omega
        refine g_iload (q := 154) C dX8_logs_152 rfl rfl ?_
        refine g_aload_n (q := 155) C dX8_logs_154 rfl rfl ?_
        refine g_getfield (v := .int (((M3.arr 7 (gCpy (M3.a 7) (258 * b) (M3.a 12) 0 n)).f 26))) (q := 158) C fX8_167 dX8_logs_155 rfl HL1_.1 rfl ?_
        rw [show ((M3.arr 7 (gCpy (M3.a 7) (258 * b) (M3.a 12) 0 n)).f 26) = nI n from h3n]
        refine g_icmp_ge_t (t := 190) C dX8_logs_158 (by decide) (nI_le (Nat.le_refl _) (by omega)) ?_
        have a3 : ∀ i q, ¬ i = 6 → ¬ i = 10 → M3.a i q = M2.a i q := fun i q h6 h10 => by rw [e3, gput_o h6, gput_o h6, gput_o h6, gput_o h6, gput_o h6, gput_o h6, gput_o h10]
        have a6 : ∀ q, ¬ q = 6 * b → ¬ q = 6 * b + 1 → ¬ q = 6 * b + 2 → ¬ q = 6 * b + 3 → ¬ q = 6 * b + 4 → ¬ q = 6 * b + 5 → M3.a 6 q = M2.a 6 q := fun q q0 q1 q2 q3 q4 q5 => by rw [e3, gput_n q5, gput_n q4, gput_n q3, gput_n q2, gput_n q1, gput_n q0, gput_o (by decide)]
        have a65 : M3.a 6 (6 * b + 5) = nI id := by rw [e3, gput_s]
        have a62 : M3.a 6 (6 * b + 2) = M2.a 12 2 := by rw [e3, gput_n (by omega), gput_n (by omega), gput_n (by omega), gput_s]
        have m2 : ∀ q, M2.a 12 q = M.a 12 q := fun q => (v5 12 q (by decide) (by decide) (by decide) (by decide)).trans (a1 12 q)
        have l6 : ∀ q, M2.a 6 q = M.a 6 q := fun q => (v5 6 q (by decide) (by decide) (by decide) (by decide)).trans (a1 6 q)
        have f3 : ∀ q, M3.f q = M2.f q := fun q => by rw [e3]; rfl
        refine E9.2.1 _ _ _ _ _ dX8_logs_190 rfl (Nat.le_of_ble_eq_true rfl) (Nat.le_of_ble_eq_true rfl) ⟨rfl, _, E', HL1_, fr_, v1.kept (f3 18) (fun q => ?_) (fun q => ?_) (fun q => ?_), ⟨⟨b, hb30, h3b⟩, ?_, fun p hp9 => ⟨?_, ?_⟩⟩, ⟨id, v2, v3⟩, fun q q1 q2 q3 => ?_, fun i q hi => ?_, ?_⟩
        · rw [garr_o (by decide)]; exact a3 8 q (by decide) (by decide)
        · rw [garr_o (by decide)]; exact a3 9 q (by decide) (by decide)
        · rw [garr_o (by decide)]; exact a3 11 q (by decide) (by decide)
        · obtain ⟨n8, h8, e8⟩ := e12
          exact ⟨n8, h8, (f3 12).trans ((v4 12 (by decide)).trans e8)⟩
        · rw [garr_o (by decide)]
          by_cases c : p = b
          · subst c; rw [a65]; exact ⟨id, by omega, rfl⟩
          · rw [a6 _ (by omega) (by omega) (by omega) (by omega) (by omega) (by omega), l6]; exact (lg p hp9).1
        · rw [garr_o (by decide)]
          by_cases c : p = b
          · subst c; rw [a62, m2]; exact hbl2
          · rw [a6 _ (by omega) (by omega) (by omega) (by omega) (by omega) (by omega), l6]; exact (lg p hp9).2
        · exact (f3 q).trans ((v4 q q3).trans (f1 q q1 q2))
        · rw [garr_o (by omega), a3 i q (by omega) (by omega), v5 i q (by omega) (by omega) (by omega) (by omega)]; exact a1 i q
        · exact v6.imp (fun h => h.1) (fun h => h)
      | succ d ih =>
        intro j hj  h1 HL1_ fr_
        refine g_iload (q := 154) C dX8_logs_152 rfl rfl ?_
        refine g_aload_n (q := 155) C dX8_logs_154 rfl rfl ?_
        refine g_getfield (v := .int (((M3.arr 7 (gCpy (M3.a 7) (258 * b) (M3.a 12) 0 j)).f 26))) (q := 158) C fX8_167 dX8_logs_155 rfl HL1_.1 rfl ?_
        rw [show ((M3.arr 7 (gCpy (M3.a 7) (258 * b) (M3.a 12) 0 j)).f 26) = nI n from h3n]
        refine g_icmp_ge_f (t := 190) (q := 161) C dX8_logs_158 (by decide) rfl (fun h => nI_ge (show j < n by omega) (by omega) h) ?_
        refine g_aload_n (q := 162) C dX8_logs_161 rfl rfl ?_
        refine g_getfield (v := .ref 130) (q := 165) C fX8_35 dX8_logs_162 rfl HL1_.1 rfl ?_
        refine g_sipush (v := 258) (q := 168) C dX8_logs_165 (by decide) rfl ?_
        refine g_aload_n (q := 169) C dX8_logs_168 rfl rfl ?_
        refine g_getfield (v := .int (((M3.arr 7 (gCpy (M3.a 7) (258 * b) (M3.a 12) 0 j)).f 13))) (q := 172) C fX8_192 dX8_logs_169 rfl HL1_.1 rfl ?_
        rw [show ((M3.arr 7 (gCpy (M3.a 7) (258 * b) (M3.a 12) 0 j)).f 13) = nI b from h3b]
        refine g_imul (q := 173) C dX8_logs_172 rfl ?_
        rw [g258 (by omega)]
        refine g_iload (q := 175) C dX8_logs_173 rfl rfl ?_
        refine g_iadd (q := 176) C dX8_logs_175 rfl ?_
        refine g_aload_n (q := 177) C dX8_logs_176 rfl rfl ?_
        refine g_getfield (v := .ref 135) (q := 180) C fX8_51 dX8_logs_177 rfl HL1_.1 rfl ?_
        refine g_iload (q := 182) C dX8_logs_180 rfl rfl ?_
        refine g_ialoadN (x := ((M3.arr 7 (gCpy (M3.a 7) (258 * b) (M3.a 12) 0 j)).a 12 j)) (j := j) (q := 183) C dX8_logs_182 rfl (HL1_.ar (i := 12) (n := 260) (by decide) rfl) (pk_in j 260 (by omega)) (pk_cl j rfl (by omega)) rfl ?_
        rw [nI_add]
        refine g_iastoreN (j := (258 * b + j)) (q := 184) C dX8_logs_183 rfl (HL1_.ar (i := 7) (n := 7740) (by decide) rfl) (pk_in (258 * b + j) 7740 (by omega)) (pk_cl (258 * b + j) rfl (by omega)) ?_
        refine gMsto (i := 7) (j := (258 * b + j)) (x := ((M3.arr 7 (gCpy (M3.a 7) (258 * b) (M3.a 12) 0 j)).a 12 j)) HL1_ (by decide) rfl rfl fun h11 HL11 fr11 => ?_
        refine g_iinc (v := (nI (j + 1))) (q := 187) C dX8_logs_184 rfl (nI_1 j) (by simp only [gset]; rfl) rfl ?_
        have e9 : (M3.arr 7 (gCpy (M3.a 7) (258 * b) (M3.a 12) 0 j)).put 7 (258 * b + j) ((M3.arr 7 (gCpy (M3.a 7) (258 * b) (M3.a 12) 0 j)).a 12 j) = (M3.arr 7 (gCpy (M3.a 7) (258 * b) (M3.a 12) 0 (j + 1))) := garr_cp (by rw [Nat.zero_add]; exact garr_o (by decide))
        have HL9 : gMod h11 (M3.arr 7 (gCpy (M3.a 7) (258 * b) (M3.a 12) 0 (j + 1))) := by rw [← e9]; exact HL11
        refine g_goto (q := 152) C dX8_logs_187 (by decide) ?_
        exact ih (j + 1) (by omega)  h11 HL9 (gFM.trans fr_ fr11)
    exact LL10 (n - 0) 0 (by omega)  h9 HL8 (gFM.trans (gFM.trans (gFM.trans (gFM.trans (gFM.trans (gFM.trans (gFM.trans (gFM.trans fr1 fr2) fr3) fr4) fr5) fr6) fr7) fr8) fr9)
    
  refine g_aload_n (q := 1) C dX8_logs_0 rfl rfl ?_
  refine g_aload_n (q := 2) C dX8_logs_1 rfl rfl ?_
  refine g_getfield (v := .int ((M.f 13))) (q := 5) C fX8_192 dX8_logs_2 rfl HM.1 rfl ?_
  refine g_iconst (v := 1) (q := 6) C dX8_logs_5 (by decide) rfl ?_
  refine g_iadd (q := 7) C dX8_logs_6 rfl ?_
  rw [show M.f 13 = nI a from ea, nI_1]
  refine g_bipush (v := 30) (q := 9) C dX8_logs_7 (by decide) rfl ?_
  refine g_irem (q := 10) C dX8_logs_9 (by decide) rfl ?_
  rw [show (30 : Int32) = nI 30 from rfl, nI_rem (by omega) (by decide), hb]
  refine g_putfield (q := 13) C fX8_192 dX8_logs_10 rfl HM.1 (Nat.le_of_ble_eq_true rfl) (Or.inl rfl) rfl rfl (by intro z h; cases h) ?_
  refine gMput (j := 13) (x := (nI b)) HM rfl fun h12 HL12 fr12 => ?_
  refine g_aload_n (q := 14) C dX8_logs_13 rfl rfl ?_
  refine g_getfield (v := .int ((M.f 12))) (q := 17) C fX8_69 dX8_logs_14 rfl HL12.1 rfl ?_
  refine g_bipush (v := 30) (q := 19) C dX8_logs_17 (by decide) rfl ?_
  refine g_icmp_ge (t := 32) (q := 22) C dX8_logs_19 (by decide) rfl (fun c_19 => ?_) (fun c_19 => ?_)
  ·
    exact K _ _ HL12 fr12 (fun q h1 h2 => gset_n h2) gset_s ⟨n9, hn9, (gset_n (by decide)).trans en9⟩ (fun _ _ => rfl)
  ·
    refine g_aload_n (q := 23) C dX8_logs_22 rfl rfl ?_
    refine g_dup (q := 24) C dX8_logs_23 rfl rfl ?_
    refine g_getfield (v := .int ((M.f 12))) (q := 27) C fX8_69 dX8_logs_24 rfl HL12.1 rfl ?_
    refine g_iconst (v := 1) (q := 28) C dX8_logs_27 (by decide) rfl ?_
    refine g_iadd (q := 29) C dX8_logs_28 rfl ?_
    refine g_putfield (q := 32) C fX8_69 dX8_logs_29 rfl HL12.1 (Nat.le_of_ble_eq_true rfl) (Or.inl rfl) rfl rfl (by intro z h; cases h) ?_
    refine gMput (j := 12) (x := ((M.f 12) + 1)) HL12 rfl fun h13 HL13 fr13 => ?_
    exact K _ _ HL13 (gFM.trans fr12 fr13) (fun q h1 h2 => (gset_n h1).trans (gset_n h2)) ((gset_n (by decide)).trans gset_s) ⟨n9 + 1, by have : ¬ 30 ≤ n9 := (fun h => c_19 (by rw [en9]; exact nI_le (a := 30) h (by omega))); omega, gset_s.trans (by rw [en9, nI_1])⟩ (fun _ _ => rfl)
