/-! the reference: sends (by program: wip/p2/m_mj.py) -/
/-- what lets a block be sent -/
def gSr (M : gMd) : Prop := gIr (M.a 4 430) 25 ∧ gFe (M.a 4) ∧ gIr (M.f 9) 3
/-- a block was sent: what is left of M; E: the unlike ones before, E' behind; sh: whether it has the shape, where it goes -/
def gSn (M : gMd) (sd : Nat) (x : Int32) (n l : Nat) (E : List (Int32 × List Int32)) (M' : gMd) (E' : List (Int32 × List Int32)) (sh : Int32) : Prop :=
  (∀ k, ¬ k = 12 → ¬ k = 13 → ¬ k = 18 → ¬ k = 26 → ¬ k = 28 → ¬ k = 29 → ¬ k = 30 → ¬ k = 31 → ¬ k = 33 → M'.f k = M.f k) ∧ (∀ i q, ¬ i = 4 → (i < 6 ∨ 11 < i) → ¬ i = 12 → ¬ i = 13 → M'.a i q = M.a i q) ∧
  (∀ q, ¬ q = 423 → ¬ q = 424 → ¬ q = 16 * sd + 12 → ¬ q = 16 * sd + 11 → M'.a 4 q = M.a 4 q) ∧ (∃ l', M'.a 4 423 = nI l' ∧ l ≤ l' ∧ l' ≤ l + 256) ∧ gTk (M'.a 4) ≤ gTk (M.a 4) ∧ M'.f 33 = 1 ∧
  (∃ c, c ≤ n + 4 ∧ M'.f 28 = nI c ∧ (∀ q, q < c → gIr (M'.a 13 q) 255)) ∧
  ((M'.f 29 = 0 ∧ M'.f 28 = nI (n + 4) ∧ M'.a 13 2 = nI n ∧ ¬ sh = 0 ∧ ((∀ q, q < n + 4 → M'.a 13 q = gBv x n (M.a 14) q) ∨ gTk (M'.a 4) + 2 ≤ gTk (M.a 4))) ∨
   ((M'.f 29 = 1 ∨ M'.f 29 = 2 ∨ M'.f 29 = 3) ∧ (gTk (M'.a 4) < gTk (M.a 4) ∨ (M'.f 29 = 2 ∧ sh = 0 ∧ M'.f 28 = nI (n + 4) ∧ ∀ q, q < n + 4 → M'.a 13 q = gBv x n (M.a 14) q)))) ∧
  ((¬ M.f 19 = 0 ∧ E' = E ∧ M'.f 12 = M.f 12 ∧ M'.f 13 = M.f 13 ∧ M'.f 18 = M.f 18 ∧ ∀ i q, ¬ i = 4 → ¬ i = 12 → ¬ i = 13 → M'.a i q = M.a i q) ∨
   (M.f 19 = 0 ∧ gUn M' E' ∧ gLg M' ∧ (∃ id, id < E'.length ∧ gEn E' id = (nI sd, (List.range (n + 4)).map (gBv x n (M.a 14)))) ∧ (E' = E ∨ ((∀ k, k < E.length → ¬ gEn E k = (nI sd, (List.range (n + 4)).map (gBv x n (M.a 14)))) ∧ E' = E ++ [(nI sd, (List.range (n + 4)).map (gBv x n (M.a 14)))]))))
theorem gHow_0 {M : gMd} {c : Nat} (hc : M.f 28 = nI c) (h : c ≤ 64) :
    (rX8_howCame_0 M = 0 ∧ M.f 30 = 0 ∧ M.a 13 2 = nI c - 4 ∧ gXr (M.a 13) c = 0 ∧ ¬ rX8_isShaped_0 M = 0) ∨ (rX8_howCame_0 M = 3 ∧ c = 0) ∨ (rX8_howCame_0 M = 2 ∧ (¬ M.f 30 = 0 ∨ ¬ nI c = M.a 13 2 + 4)) ∨
    (rX8_howCame_0 M = 1 ∧ (¬ M.f 31 = 0 ∨ (M.f 30 = 0 ∧ nI c = M.a 13 2 + 4 ∧ ¬ gXr (M.a 13) c = 0))) ∨ (rX8_howCame_0 M = 2 ∧ M.f 30 = 0 ∧ nI c = M.a 13 2 + 4 ∧ gXr (M.a 13) c = 0 ∧ rX8_isShaped_0 M = 0) := by
  unfold rX8_howCame_0
  rw [hc, nI_clamp (by omega)]
  by_cases c0 : nI c = 0
  · rw [if_pos c0]
    exact Or.inr (Or.inl ⟨rfl, nI_inj (by omega) (by decide) c0⟩)
  · rw [if_neg c0]
    by_cases c1 : M.f 30 = 0
    · rw [if_pos c1]
      by_cases c2 : nI c = M.a 13 2 + 4
      · rw [if_pos c2]
        by_cases c3 : M.f 31 = 0
        · rw [if_pos c3]
          by_cases c4 : gXr (M.a 13) c = 0
          · rw [if_pos c4]
            by_cases c5 : rX8_isShaped_0 M = 0
            · rw [if_pos c5]; exact Or.inr (Or.inr (Or.inr (Or.inr ⟨rfl, c1, c2, c4, c5⟩)))
            · rw [if_neg c5]; exact Or.inl ⟨rfl, c1, by rw [c2, Int32.add_sub_cancel], c4, c5⟩
          · rw [if_neg c4]; exact Or.inr (Or.inr (Or.inr (Or.inl ⟨rfl, Or.inr ⟨c1, c2, c4⟩⟩)))
        · rw [if_neg c3]; exact Or.inr (Or.inr (Or.inr (Or.inl ⟨rfl, Or.inl c3⟩)))
      · rw [if_neg c2]; exact Or.inr (Or.inr (Or.inl ⟨rfl, Or.inr c2⟩))
    · rw [if_neg c1]; exact Or.inr (Or.inr (Or.inl ⟨rfl, Or.inl c1⟩))
theorem gHow_1 {M : gMd} {c : Nat} (hc : M.f 28 = nI c) (h : c ≤ 64) :
    (rX8_howCame_1 M = 0 ∧ M.f 30 = 0 ∧ M.a 13 2 = nI c - 4 ∧ gXr (M.a 13) c = 0 ∧ ¬ rX8_isShaped_1 M = 0) ∨ (rX8_howCame_1 M = 3 ∧ c = 0) ∨ (rX8_howCame_1 M = 2 ∧ (¬ M.f 30 = 0 ∨ ¬ nI c = M.a 13 2 + 4)) ∨
    (rX8_howCame_1 M = 1 ∧ (¬ M.f 31 = 0 ∨ (M.f 30 = 0 ∧ nI c = M.a 13 2 + 4 ∧ ¬ gXr (M.a 13) c = 0))) ∨ (rX8_howCame_1 M = 2 ∧ M.f 30 = 0 ∧ nI c = M.a 13 2 + 4 ∧ gXr (M.a 13) c = 0 ∧ rX8_isShaped_1 M = 0) := by
  unfold rX8_howCame_1
  rw [hc, nI_clamp (by omega)]
  by_cases c0 : nI c = 0
  · rw [if_pos c0]
    exact Or.inr (Or.inl ⟨rfl, nI_inj (by omega) (by decide) c0⟩)
  · rw [if_neg c0]
    by_cases c1 : M.f 30 = 0
    · rw [if_pos c1]
      by_cases c2 : nI c = M.a 13 2 + 4
      · rw [if_pos c2]
        by_cases c3 : M.f 31 = 0
        · rw [if_pos c3]
          by_cases c4 : gXr (M.a 13) c = 0
          · rw [if_pos c4]
            by_cases c5 : rX8_isShaped_1 M = 0
            · rw [if_pos c5]; exact Or.inr (Or.inr (Or.inr (Or.inr ⟨rfl, c1, c2, c4, c5⟩)))
            · rw [if_neg c5]; exact Or.inl ⟨rfl, c1, by rw [c2, Int32.add_sub_cancel], c4, c5⟩
          · rw [if_neg c4]; exact Or.inr (Or.inr (Or.inr (Or.inl ⟨rfl, Or.inr ⟨c1, c2, c4⟩⟩)))
        · rw [if_neg c3]; exact Or.inr (Or.inr (Or.inr (Or.inl ⟨rfl, Or.inl c3⟩)))
      · rw [if_neg c2]; exact Or.inr (Or.inr (Or.inl ⟨rfl, Or.inr c2⟩))
    · rw [if_neg c1]; exact Or.inr (Or.inr (Or.inl ⟨rfl, Or.inl c1⟩))
theorem dX8_sends_0 : decode cX8_sends 0 = .ok (.aload_n 0, 1) := by decide +kernel
theorem dX8_sends_1 : decode cX8_sends 1 = .ok (.getfield 51, 3) := by decide +kernel
theorem dX8_sends_4 : decode cX8_sends 4 = .ok (.iconst 0, 1) := by decide +kernel
theorem dX8_sends_5 : decode cX8_sends 5 = .ok (.iconst 0, 1) := by decide +kernel
theorem dX8_sends_6 : decode cX8_sends 6 = .ok (.iastore, 1) := by decide +kernel
theorem dX8_sends_7 : decode cX8_sends 7 = .ok (.aload_n 0, 1) := by decide +kernel
theorem dX8_sends_8 : decode cX8_sends 8 = .ok (.getfield 51, 3) := by decide +kernel
theorem dX8_sends_11 : decode cX8_sends 11 = .ok (.iconst 1, 1) := by decide +kernel
theorem dX8_sends_12 : decode cX8_sends 12 = .ok (.iload_n 2, 1) := by decide +kernel
theorem dX8_sends_13 : decode cX8_sends 13 = .ok (.iastore, 1) := by decide +kernel
theorem dX8_sends_14 : decode cX8_sends 14 = .ok (.aload_n 0, 1) := by decide +kernel
theorem dX8_sends_15 : decode cX8_sends 15 = .ok (.getfield 51, 3) := by decide +kernel
theorem dX8_sends_18 : decode cX8_sends 18 = .ok (.iconst 2, 1) := by decide +kernel
theorem dX8_sends_19 : decode cX8_sends 19 = .ok (.iload_n 3, 1) := by decide +kernel
theorem dX8_sends_20 : decode cX8_sends 20 = .ok (.iastore, 1) := by decide +kernel
theorem dX8_sends_21 : decode cX8_sends 21 = .ok (.iload_n 2, 1) := by decide +kernel
theorem dX8_sends_22 : decode cX8_sends 22 = .ok (.iload_n 3, 1) := by decide +kernel
theorem dX8_sends_23 : decode cX8_sends 23 = .ok (.ixor, 1) := by decide +kernel
theorem dX8_sends_24 : decode cX8_sends 24 = .ok (.istore 4, 2) := by decide +kernel
theorem dX8_sends_26 : decode cX8_sends 26 = .ok (.iconst 0, 1) := by decide +kernel
theorem dX8_sends_27 : decode cX8_sends 27 = .ok (.istore 5, 2) := by decide +kernel
theorem dX8_sends_29 : decode cX8_sends 29 = .ok (.iload 5, 2) := by decide +kernel
theorem dX8_sends_31 : decode cX8_sends 31 = .ok (.iload_n 3, 1) := by decide +kernel
theorem dX8_sends_32 : decode cX8_sends 32 = .ok (.if_icmp .ge 37, 3) := by decide +kernel
theorem dX8_sends_35 : decode cX8_sends 35 = .ok (.aload_n 0, 1) := by decide +kernel
theorem dX8_sends_36 : decode cX8_sends 36 = .ok (.getfield 51, 3) := by decide +kernel
theorem dX8_sends_39 : decode cX8_sends 39 = .ok (.iconst 3, 1) := by decide +kernel
theorem dX8_sends_40 : decode cX8_sends 40 = .ok (.iload 5, 2) := by decide +kernel
theorem dX8_sends_42 : decode cX8_sends 42 = .ok (.iadd, 1) := by decide +kernel
theorem dX8_sends_43 : decode cX8_sends 43 = .ok (.aload_n 0, 1) := by decide +kernel
theorem dX8_sends_44 : decode cX8_sends 44 = .ok (.getfield 57, 3) := by decide +kernel
theorem dX8_sends_47 : decode cX8_sends 47 = .ok (.iload 5, 2) := by decide +kernel
theorem dX8_sends_49 : decode cX8_sends 49 = .ok (.iaload, 1) := by decide +kernel
theorem dX8_sends_50 : decode cX8_sends 50 = .ok (.iastore, 1) := by decide +kernel
theorem dX8_sends_51 : decode cX8_sends 51 = .ok (.iload 4, 2) := by decide +kernel
theorem dX8_sends_53 : decode cX8_sends 53 = .ok (.aload_n 0, 1) := by decide +kernel
theorem dX8_sends_54 : decode cX8_sends 54 = .ok (.getfield 57, 3) := by decide +kernel
theorem dX8_sends_57 : decode cX8_sends 57 = .ok (.iload 5, 2) := by decide +kernel
theorem dX8_sends_59 : decode cX8_sends 59 = .ok (.iaload, 1) := by decide +kernel
theorem dX8_sends_60 : decode cX8_sends 60 = .ok (.ixor, 1) := by decide +kernel
theorem dX8_sends_61 : decode cX8_sends 61 = .ok (.istore 4, 2) := by decide +kernel
theorem dX8_sends_63 : decode cX8_sends 63 = .ok (.iinc 5 1, 3) := by decide +kernel
theorem dX8_sends_66 : decode cX8_sends 66 = .ok (.goto (-37), 3) := by decide +kernel
theorem dX8_sends_69 : decode cX8_sends 69 = .ok (.aload_n 0, 1) := by decide +kernel
theorem dX8_sends_70 : decode cX8_sends 70 = .ok (.getfield 51, 3) := by decide +kernel
theorem dX8_sends_73 : decode cX8_sends 73 = .ok (.iconst 3, 1) := by decide +kernel
theorem dX8_sends_74 : decode cX8_sends 74 = .ok (.iload_n 3, 1) := by decide +kernel
theorem dX8_sends_75 : decode cX8_sends 75 = .ok (.iadd, 1) := by decide +kernel
theorem dX8_sends_76 : decode cX8_sends 76 = .ok (.iload 4, 2) := by decide +kernel
theorem dX8_sends_78 : decode cX8_sends 78 = .ok (.iastore, 1) := by decide +kernel
theorem dX8_sends_79 : decode cX8_sends 79 = .ok (.aload_n 0, 1) := by decide +kernel
theorem dX8_sends_80 : decode cX8_sends 80 = .ok (.iload_n 3, 1) := by decide +kernel
theorem dX8_sends_81 : decode cX8_sends 81 = .ok (.iconst 4, 1) := by decide +kernel
theorem dX8_sends_82 : decode cX8_sends 82 = .ok (.iadd, 1) := by decide +kernel
theorem dX8_sends_83 : decode cX8_sends 83 = .ok (.putfield 167, 3) := by decide +kernel
theorem dX8_sends_86 : decode cX8_sends 86 = .ok (.aload_n 0, 1) := by decide +kernel
theorem dX8_sends_87 : decode cX8_sends 87 = .ok (.getfield 22, 3) := by decide +kernel
theorem dX8_sends_90 : decode cX8_sends 90 = .ok (.sipush 423, 3) := by decide +kernel
theorem dX8_sends_93 : decode cX8_sends 93 = .ok (.iaload, 1) := by decide +kernel
theorem dX8_sends_94 : decode cX8_sends 94 = .ok (.istore 5, 2) := by decide +kernel
theorem dX8_sends_96 : decode cX8_sends 96 = .ok (.aload_n 0, 1) := by decide +kernel
theorem dX8_sends_97 : decode cX8_sends 97 = .ok (.iconst 0, 1) := by decide +kernel
theorem dX8_sends_98 : decode cX8_sends 98 = .ok (.putfield 160, 3) := by decide +kernel
theorem dX8_sends_101 : decode cX8_sends 101 = .ok (.aload_n 0, 1) := by decide +kernel
theorem dX8_sends_102 : decode cX8_sends 102 = .ok (.iconst 0, 1) := by decide +kernel
theorem dX8_sends_103 : decode cX8_sends 103 = .ok (.putfield 154, 3) := by decide +kernel
theorem dX8_sends_106 : decode cX8_sends 106 = .ok (.aload_n 0, 1) := by decide +kernel
theorem dX8_sends_107 : decode cX8_sends 107 = .ok (.iconst 0, 1) := by decide +kernel
theorem dX8_sends_108 : decode cX8_sends 108 = .ok (.putfield 157, 3) := by decide +kernel
theorem dX8_sends_111 : decode cX8_sends 111 = .ok (.iconst 0, 1) := by decide +kernel
theorem dX8_sends_112 : decode cX8_sends 112 = .ok (.istore 6, 2) := by decide +kernel
theorem dX8_sends_114 : decode cX8_sends 114 = .ok (.iload 6, 2) := by decide +kernel
theorem dX8_sends_116 : decode cX8_sends 116 = .ok (.aload_n 0, 1) := by decide +kernel
theorem dX8_sends_117 : decode cX8_sends 117 = .ok (.getfield 167, 3) := by decide +kernel
theorem dX8_sends_120 : decode cX8_sends 120 = .ok (.if_icmp .ge 20, 3) := by decide +kernel
theorem dX8_sends_123 : decode cX8_sends 123 = .ok (.aload_n 0, 1) := by decide +kernel
theorem dX8_sends_124 : decode cX8_sends 124 = .ok (.aload_n 0, 1) := by decide +kernel
theorem dX8_sends_125 : decode cX8_sends 125 = .ok (.getfield 51, 3) := by decide +kernel
theorem dX8_sends_128 : decode cX8_sends 128 = .ok (.iload 6, 2) := by decide +kernel
theorem dX8_sends_130 : decode cX8_sends 130 = .ok (.iaload, 1) := by decide +kernel
theorem dX8_sends_131 : decode cX8_sends 131 = .ok (.invokevirtual 170, 3) := by decide +kernel
theorem dX8_sends_134 : decode cX8_sends 134 = .ok (.iinc 6 1, 3) := by decide +kernel
theorem dX8_sends_137 : decode cX8_sends 137 = .ok (.goto (-23), 3) := by decide +kernel
theorem dX8_sends_140 : decode cX8_sends 140 = .ok (.aload_n 0, 1) := by decide +kernel
theorem dX8_sends_141 : decode cX8_sends 141 = .ok (.aload_n 0, 1) := by decide +kernel
theorem dX8_sends_142 : decode cX8_sends 142 = .ok (.iconst 1, 1) := by decide +kernel
theorem dX8_sends_143 : decode cX8_sends 143 = .ok (.iload_n 1, 1) := by decide +kernel
theorem dX8_sends_144 : decode cX8_sends 144 = .ok (.isub, 1) := by decide +kernel
theorem dX8_sends_145 : decode cX8_sends 145 = .ok (.invokevirtual 173, 3) := by decide +kernel
theorem dX8_sends_148 : decode cX8_sends 148 = .ok (.putfield 176, 3) := by decide +kernel
theorem dX8_sends_151 : decode cX8_sends 151 = .ok (.aload_n 0, 1) := by decide +kernel
theorem dX8_sends_152 : decode cX8_sends 152 = .ok (.getfield 22, 3) := by decide +kernel
theorem dX8_sends_155 : decode cX8_sends 155 = .ok (.bipush 16, 2) := by decide +kernel
theorem dX8_sends_157 : decode cX8_sends 157 = .ok (.iload_n 1, 1) := by decide +kernel
theorem dX8_sends_158 : decode cX8_sends 158 = .ok (.imul, 1) := by decide +kernel
theorem dX8_sends_159 : decode cX8_sends 159 = .ok (.bipush 12, 2) := by decide +kernel
theorem dX8_sends_161 : decode cX8_sends 161 = .ok (.iadd, 1) := by decide +kernel
theorem dX8_sends_162 : decode cX8_sends 162 = .ok (.dup2, 1) := by decide +kernel
theorem dX8_sends_163 : decode cX8_sends 163 = .ok (.iaload, 1) := by decide +kernel
theorem dX8_sends_164 : decode cX8_sends 164 = .ok (.iconst 1, 1) := by decide +kernel
theorem dX8_sends_165 : decode cX8_sends 165 = .ok (.iadd, 1) := by decide +kernel
theorem dX8_sends_166 : decode cX8_sends 166 = .ok (.iastore, 1) := by decide +kernel
theorem dX8_sends_167 : decode cX8_sends 167 = .ok (.aload_n 0, 1) := by decide +kernel
theorem dX8_sends_168 : decode cX8_sends 168 = .ok (.getfield 22, 3) := by decide +kernel
theorem dX8_sends_171 : decode cX8_sends 171 = .ok (.bipush 16, 2) := by decide +kernel
theorem dX8_sends_173 : decode cX8_sends 173 = .ok (.iload_n 1, 1) := by decide +kernel
theorem dX8_sends_174 : decode cX8_sends 174 = .ok (.imul, 1) := by decide +kernel
theorem dX8_sends_175 : decode cX8_sends 175 = .ok (.bipush 11, 2) := by decide +kernel
theorem dX8_sends_177 : decode cX8_sends 177 = .ok (.iadd, 1) := by decide +kernel
theorem dX8_sends_178 : decode cX8_sends 178 = .ok (.iload_n 2, 1) := by decide +kernel
theorem dX8_sends_179 : decode cX8_sends 179 = .ok (.iastore, 1) := by decide +kernel
theorem dX8_sends_180 : decode cX8_sends 180 = .ok (.aload_n 0, 1) := by decide +kernel
theorem dX8_sends_181 : decode cX8_sends 181 = .ok (.iconst 1, 1) := by decide +kernel
theorem dX8_sends_182 : decode cX8_sends 182 = .ok (.putfield 179, 3) := by decide +kernel
theorem dX8_sends_185 : decode cX8_sends 185 = .ok (.aload_n 0, 1) := by decide +kernel
theorem dX8_sends_186 : decode cX8_sends 186 = .ok (.getfield 182, 3) := by decide +kernel
theorem dX8_sends_189 : decode cX8_sends 189 = .ok (.ifCond .ne 19, 3) := by decide +kernel
theorem dX8_sends_192 : decode cX8_sends 192 = .ok (.aload_n 0, 1) := by decide +kernel
theorem dX8_sends_193 : decode cX8_sends 193 = .ok (.iload_n 1, 1) := by decide +kernel
theorem dX8_sends_194 : decode cX8_sends 194 = .ok (.aload_n 0, 1) := by decide +kernel
theorem dX8_sends_195 : decode cX8_sends 195 = .ok (.getfield 22, 3) := by decide +kernel
theorem dX8_sends_198 : decode cX8_sends 198 = .ok (.sipush 423, 3) := by decide +kernel
theorem dX8_sends_201 : decode cX8_sends 201 = .ok (.iaload, 1) := by decide +kernel
theorem dX8_sends_202 : decode cX8_sends 202 = .ok (.iload 5, 2) := by decide +kernel
theorem dX8_sends_204 : decode cX8_sends 204 = .ok (.isub, 1) := by decide +kernel
theorem dX8_sends_205 : decode cX8_sends 205 = .ok (.invokevirtual 185, 3) := by decide +kernel
theorem dX8_sends_208 : decode cX8_sends 208 = .ok (.return_, 1) := by decide +kernel
set_option maxRecDepth 100000 in
set_option maxHeartbeats 4000000 in
theorem c_X8_sends_0_r {hp : List gA} {M : gMd} {x : Int32} {n l : Nat} {E : List (Int32 × List Int32)} (HM : gMod hp M) (R : gSr M) (hx : gIr x 255) (hn : n ≤ 60) (hI : ∀ q, q < n → gIr (M.a 14 q) 255) (hl : M.a 4 423 = nI l) (hlb : l < 1000000000) (UU : M.f 19 = 0 → gUn M E ∧ gLg M ∧ E.length < 8192 ∧ gOf E E.length + 64 ≤ 131072) : gM yX8_sends cX8_sends 7 (none) 3 69 [.ref 122, .int 0, .int x, .int ((nI n))] (hp) (0) (0) (fun v h => v = none ∧ ∃ M' E', gMod h M' ∧ gFM hp h ∧ gSn M 0 x n l E M' E' (rX8_isShaped_1 M')) := by
  refine gM_of (ls0 := [some (.ref 122), some (.int 0), some (.int x), some (.int ((nI n))), none, none, none]) (by decide +kernel) (Nat.le_of_ble_eq_true rfl) rfl fun X C E9 => ?_
  obtain ⟨r1, r2, r3⟩ := id R
  refine g_aload_n (q := 1) C dX8_sends_0 rfl rfl ?_
  refine g_getfield (v := .ref 135) (q := 4) C fX8_51 dX8_sends_1 rfl HM.1 rfl ?_
  refine g_iconst (v := 0) (q := 5) C dX8_sends_4 (by decide) rfl ?_
  refine g_iconst (v := 0) (q := 6) C dX8_sends_5 (by decide) rfl ?_
  refine g_iastoreN (j := 0) (q := 7) C dX8_sends_6 rfl (HM.ar (i := 12) (n := 260) (by decide) rfl) (pk_in 0 260 (by decide)) (pk_cl 0) ?_
  refine gMsto (i := 12) (j := 0) (x := 0) HM (by decide) rfl rfl fun h1 HL1 fr1 => ?_
  refine g_aload_n (q := 8) C dX8_sends_7 rfl rfl ?_
  refine g_getfield (v := .ref 135) (q := 11) C fX8_51 dX8_sends_8 rfl HL1.1 rfl ?_
  refine g_iconst (v := 1) (q := 12) C dX8_sends_11 (by decide) rfl ?_
  refine g_iload_n (q := 13) C dX8_sends_12 rfl rfl ?_
  refine g_iastoreN (j := 1) (q := 14) C dX8_sends_13 rfl (HL1.ar (i := 12) (n := 260) (by decide) rfl) (pk_in 1 260 (by decide)) (pk_cl 1) ?_
  refine gMsto (i := 12) (j := 1) (x := x) HL1 (by decide) rfl rfl fun h2 HL2 fr2 => ?_
  refine g_aload_n (q := 15) C dX8_sends_14 rfl rfl ?_
  refine g_getfield (v := .ref 135) (q := 18) C fX8_51 dX8_sends_15 rfl HL2.1 rfl ?_
  refine g_iconst (v := 2) (q := 19) C dX8_sends_18 (by decide) rfl ?_
  refine g_iload_n (q := 20) C dX8_sends_19 rfl rfl ?_
  refine g_iastoreN (j := 2) (q := 21) C dX8_sends_20 rfl (HL2.ar (i := 12) (n := 260) (by decide) rfl) (pk_in 2 260 (by decide)) (pk_cl 2) ?_
  refine gMsto (i := 12) (j := 2) (x := (nI n)) HL2 (by decide) rfl rfl fun h3 HL3 fr3 => ?_
  refine g_iload_n (q := 22) C dX8_sends_21 rfl rfl ?_
  refine g_iload_n (q := 23) C dX8_sends_22 rfl rfl ?_
  refine g_ixor (q := 24) C dX8_sends_23 rfl ?_
  refine g_istore (q := 26) C dX8_sends_24 (Nat.le_of_ble_eq_true rfl) (by simp only [gset]; rfl) rfl ?_
  refine g_iconst (v := 0) (q := 27) C dX8_sends_26 (by decide) rfl ?_
  refine g_istore (q := 29) C dX8_sends_27 (Nat.le_of_ble_eq_true rfl) (by simp only [gset]; rfl) rfl ?_
  obtain ⟨M1, e1⟩ : ∃ M1, M1 = (((M.put 12 0 0).put 12 1 x).put 12 2 (nI n)) := ⟨_, rfl⟩
  have HM1 : gMod h3 M1 := by rw [e1]; exact HL3
  have i1 : ∀ q, M1.a 14 q = M.a 14 q := fun q => by rw [e1]; rfl
  have HL8 : gMod h3 (M1.arr 12 (gCpy (M1.a 12) 3 (M.a 14) 0 0)) := by rw [gCpy_0, garr_id]; exact HM1
  have LL4 : ∀ d j : Nat, j + d = n → ∀  (h1 : List gA), gMod h1 (M1.arr 12 (gCpy (M1.a 12) 3 (M.a 14) 0 j)) → gFM hp h1 → gG X 29 [some (.ref 122), some (.int 0), some (.int x), some (.int ((nI n))), some (.int ((gXs (x ^^^ nI n) (M.a 14) j))), some (.int ((nI j))), none] [] h1 0 0 := by
    intro d
    induction d with
    | zero =>
      intro j hj  h1 HL1_ fr_
      obtain rfl : n = j := by omega
      refine g_iload (q := 31) C dX8_sends_29 rfl rfl ?_
      refine g_iload_n (q := 32) C dX8_sends_31 rfl rfl ?_
      refine g_icmp_ge_t (t := 69) C dX8_sends_32 (by decide) (nI_le (Nat.le_refl _) (by omega)) ?_
      refine g_aload_n (q := 70) C dX8_sends_69 rfl rfl ?_
      refine g_getfield (v := .ref 135) (q := 73) C fX8_51 dX8_sends_70 rfl HL1_.1 rfl ?_
      refine g_iconst (v := 3) (q := 74) C dX8_sends_73 (by decide) rfl ?_
      refine g_iload_n (q := 75) C dX8_sends_74 rfl rfl ?_
      refine g_iadd (q := 76) C dX8_sends_75 rfl ?_
      refine g_iload (q := 78) C dX8_sends_76 rfl rfl ?_
      refine g_iastoreN (j := (3 + n)) (q := 79) C dX8_sends_78 rfl (HL1_.ar (i := 12) (n := 260) (by decide) rfl) (pk_in (3 + n) 260 (by omega) (nI_add 3 n)) (pk_cl (3 + n) (nI_add 3 n) (by omega)) ?_
      refine gMsto (i := 12) (j := (3 + n)) (x := (gXs (x ^^^ nI n) (M.a 14) n)) HL1_ (by decide) rfl rfl fun h5 HL5 fr5 => ?_
      refine g_aload_n (q := 80) C dX8_sends_79 rfl rfl ?_
      refine g_iload_n (q := 81) C dX8_sends_80 rfl rfl ?_
      refine g_iconst (v := 4) (q := 82) C dX8_sends_81 (by decide) rfl ?_
      refine g_iadd (q := 83) C dX8_sends_82 rfl ?_
      rw [show nI n + (4 : Int32) = nI (n + 4) from nI_add n 4]
      refine g_putfield (q := 86) C fX8_167 dX8_sends_83 rfl HL5.1 (Nat.le_of_ble_eq_true rfl) (Or.inl rfl) rfl rfl (by intro z h; cases h) ?_
      refine gMput (j := 26) (x := (nI (n + 4))) HL5 rfl fun h6 HL6 fr6 => ?_
      refine g_aload_n (q := 87) C dX8_sends_86 rfl rfl ?_
      refine g_getfield (v := .ref 127) (q := 90) C fX8_22 dX8_sends_87 rfl HL6.1 rfl ?_
      refine g_sipush (v := 423) (q := 93) C dX8_sends_90 (by decide) rfl ?_
      refine g_ialoadN (x := ((M1.arr 12 (gCpy (M1.a 12) 3 (M.a 14) 0 n)).a 4 423)) (j := 423) (q := 94) C dX8_sends_93 rfl (HL6.ar (i := 4) (n := 772) (by decide) rfl) (pk_in 423 772 (by decide)) (pk_cl 423) (gset_a.trans (gput_o (by decide))) ?_
      rw [show ((M1.arr 12 (gCpy (M1.a 12) 3 (M.a 14) 0 n)).a 4 423) = nI l from (by rw [garr_o (by decide), e1]; exact hl)]
      refine g_istore (q := 96) C dX8_sends_94 (Nat.le_of_ble_eq_true rfl) (by simp only [gset]; rfl) rfl ?_
      refine g_aload_n (q := 97) C dX8_sends_96 rfl rfl ?_
      refine g_iconst (v := 0) (q := 98) C dX8_sends_97 (by decide) rfl ?_
      refine g_putfield (q := 101) C fX8_160 dX8_sends_98 rfl HL6.1 (Nat.le_of_ble_eq_true rfl) (Or.inl rfl) rfl rfl (by intro z h; cases h) ?_
      refine gMput (j := 28) (x := 0) HL6 rfl fun h7 HL7 fr7 => ?_
      refine g_aload_n (q := 102) C dX8_sends_101 rfl rfl ?_
      refine g_iconst (v := 0) (q := 103) C dX8_sends_102 (by decide) rfl ?_
      refine g_putfield (q := 106) C fX8_154 dX8_sends_103 rfl HL7.1 (Nat.le_of_ble_eq_true rfl) (Or.inl rfl) rfl rfl (by intro z h; cases h) ?_
      refine gMput (j := 30) (x := 0) HL7 rfl fun h8 HL8 fr8 => ?_
      refine g_aload_n (q := 107) C dX8_sends_106 rfl rfl ?_
      refine g_iconst (v := 0) (q := 108) C dX8_sends_107 (by decide) rfl ?_
      refine g_putfield (q := 111) C fX8_157 dX8_sends_108 rfl HL8.1 (Nat.le_of_ble_eq_true rfl) (Or.inl rfl) rfl rfl (by intro z h; cases h) ?_
      refine gMput (j := 31) (x := 0) HL8 rfl fun h9 HL9 fr9 => ?_
      refine g_iconst (v := 0) (q := 112) C dX8_sends_111 (by decide) rfl ?_
      refine g_istore (q := 114) C dX8_sends_112 (Nat.le_of_ble_eq_true rfl) (by simp only [gset]; rfl) rfl ?_
      obtain ⟨M2, e2⟩ : ∃ M2, M2 = ((((((M1.arr 12 (gCpy (M1.a 12) 3 (M.a 14) 0 n)).put 12 (3 + n) (gXs (x ^^^ nI n) (M.a 14) n)).set 26 (nI (n + 4))).set 28 0).set 30 0).set 31 0) := ⟨_, rfl⟩
      have HM2 : gMod h9 M2 := by rw [e2]; exact HL9
      have fr2 : gFM hp h9 := (gFM.trans (gFM.trans (gFM.trans (gFM.trans (gFM.trans fr_ fr5) fr6) fr7) fr8) fr9)
      have f2 : ∀ q, ¬ q = 26 → ¬ q = 28 → ¬ q = 30 → ¬ q = 31 → M2.f q = M.f q := fun q h26 h28 h30 h31 => by rw [e2, gset_n h31, gset_n h30, gset_n h28, gset_n h26, e1]; rfl
      have f26 : M2.f 26 = nI (n + 4) := by rw [e2, gset_n (by decide), gset_n (by decide), gset_n (by decide), gset_s]
      have f28 : M2.f 28 = nI 0 := by rw [e2, gset_n (by decide), gset_n (by decide), gset_s]; rfl
      have f30 : M2.f 30 = 0 := by rw [e2, gset_n (by decide), gset_s]
      have f31 : M2.f 31 = 0 := by rw [e2, gset_s]
      have a2 : ∀ i q, ¬ i = 12 → M2.a i q = M.a i q := fun i q h => by rw [e2, gset_a, gset_a, gset_a, gset_a, gput_o h, garr_o h, e1, gput_o h, gput_o h, gput_o h]
      have b2 : ∀ q, q < n + 4 → M2.a 12 q = gBv x n (M.a 14) q := by
        intro q hq
        rw [e2, gset_a, gset_a, gset_a, gset_a]
        by_cases c : q = 3 + n
        · subst c; rw [gput_s, gBv_n]
        · rw [gput_n c, garr_s]
          by_cases c3 : q < 3
          · rw [gCpy_out (Or.inl c3), e1]
            have : q = 0 ∨ q = 1 ∨ q = 2 := by omega
            rcases this with rfl | rfl | rfl
            · rw [gput_n (by decide), gput_n (by decide), gput_s]; rfl
            · rw [gput_n (by decide), gput_s]; rfl
            · rw [gput_s]; rfl
          · obtain ⟨p, rfl⟩ : ∃ p, q = 3 + p := ⟨q - 3, by omega⟩
            rw [gCpy_in (by omega), gBv_in (by omega), Nat.zero_add]
      have hby : ∀ q, gIr (gBv x n (M.a 14) q) 255 := fun q => gBv_by hx hn hI
      have t2 : gTk (M2.a 4) = gTk (M.a 4) := by rw [show M2.a 4 = M.a 4 from funext fun q => a2 4 q (by decide)]
      have L2 : ∀ d j : Nat, j + d = n + 4 → ∀ (M3 : gMd) (hq : List gA), gMod hq M3 → gFM hp hq → gLt M2 (gBv x n (M.a 14)) l j M3 → gG X 114 [some (.ref 122), some (.int 0), some (.int x), some (.int ((nI n))), some (.int ((gXs (x ^^^ nI n) (M.a 14) n))), some (.int ((nI l))), some (.int ((nI j)))] [] hq 0 0 := by
        intro d
        induction d with
        | zero =>
          intro j hj M3 hq HM3 fr3 T3
          obtain rfl : n + 4 = j := by omega
          obtain ⟨t1, t3, t4, ⟨l3, q1, q2, q3⟩, q4, q5, c, c1, c2, c3, c4⟩ := id T3
          have g26 : M3.f 26 = nI (n + 4) := (t1 26 (by decide) (by decide) (by decide)).trans f26
          refine g_iload (q := 116) C dX8_sends_114 rfl rfl ?_
          refine g_aload_n (q := 117) C dX8_sends_116 rfl rfl ?_
          refine g_getfield (v := .int ((M3.f 26))) (q := 120) C fX8_167 dX8_sends_117 rfl HM3.1 rfl ?_
          rw [show (M3.f 26) = nI (n + 4) from g26]
          refine g_icmp_ge_t (t := 140) C dX8_sends_120 (by decide) (nI_le (Nat.le_refl _) (by omega)) ?_
          refine g_aload_n (q := 141) C dX8_sends_140 rfl rfl ?_
          refine g_aload_n (q := 142) C dX8_sends_141 rfl rfl ?_
          refine g_iconst (v := 1) (q := 143) C dX8_sends_142 (by decide) rfl ?_
          refine g_iload_n (q := 144) C dX8_sends_143 rfl rfl ?_
          refine g_isub (q := 145) C dX8_sends_144 rfl ?_
          refine g_callVi (x := (rX8_howCame_1 M3)) (q := 148) (As := [.int 1]) C gyX8_howCame gvX8_howCame t_1320 (c_X8_howCame_1_m HM3 ⟨c, by omega, c2⟩) dX8_sends_145 rfl HM3.1 rfl rfl rfl (Nat.le_of_ble_eq_true rfl) (Nat.le_of_ble_eq_true rfl) (Nat.le_of_ble_eq_true rfl) (Nat.le_of_ble_eq_true rfl) (Nat.le_of_ble_eq_true rfl) rfl ?_
          refine g_putfield (q := 151) C fX8_176 dX8_sends_148 rfl HM3.1 (Nat.le_of_ble_eq_true rfl) (Or.inl rfl) rfl rfl (by intro z h; cases h) ?_
          refine gMput (j := 29) (x := (rX8_howCame_1 M3)) HM3 rfl fun h10 HL10 fr10 => ?_
          refine g_aload_n (q := 152) C dX8_sends_151 rfl rfl ?_
          refine g_getfield (v := .ref 127) (q := 155) C fX8_22 dX8_sends_152 rfl HL10.1 rfl ?_
          refine g_bipush (v := 16) (q := 157) C dX8_sends_155 (by decide) rfl ?_
          refine g_iload_n (q := 158) C dX8_sends_157 rfl rfl ?_
          refine g_imul (q := 159) C dX8_sends_158 rfl ?_
          refine g_bipush (v := 12) (q := 161) C dX8_sends_159 (by decide) rfl ?_
          refine g_iadd (q := 162) C dX8_sends_161 rfl ?_
          refine g_dup2 (q := 163) C dX8_sends_162 rfl rfl rfl ?_
          refine g_ialoadN (x := (M3.a 4 12)) (j := 12) (q := 164) C dX8_sends_163 rfl (HL10.ar (i := 4) (n := 772) (by decide) rfl) (pk_in 12 772 (by decide)) (pk_cl 12) gset_a ?_
          refine g_iconst (v := 1) (q := 165) C dX8_sends_164 (by decide) rfl ?_
          refine g_iadd (q := 166) C dX8_sends_165 rfl ?_
          refine g_iastoreN (j := 12) (q := 167) C dX8_sends_166 rfl (HL10.ar (i := 4) (n := 772) (by decide) rfl) (pk_in 12 772 (by decide)) (pk_cl 12) ?_
          refine gMsto (i := 4) (j := 12) (x := ((M3.a 4 12) + 1)) HL10 (by decide) rfl rfl fun h11 HL11 fr11 => ?_
          refine g_aload_n (q := 168) C dX8_sends_167 rfl rfl ?_
          refine g_getfield (v := .ref 127) (q := 171) C fX8_22 dX8_sends_168 rfl HL11.1 rfl ?_
          refine g_bipush (v := 16) (q := 173) C dX8_sends_171 (by decide) rfl ?_
          refine g_iload_n (q := 174) C dX8_sends_173 rfl rfl ?_
          refine g_imul (q := 175) C dX8_sends_174 rfl ?_
          refine g_bipush (v := 11) (q := 177) C dX8_sends_175 (by decide) rfl ?_
          refine g_iadd (q := 178) C dX8_sends_177 rfl ?_
          refine g_iload_n (q := 179) C dX8_sends_178 rfl rfl ?_
          refine g_iastoreN (j := 11) (q := 180) C dX8_sends_179 rfl (HL11.ar (i := 4) (n := 772) (by decide) rfl) (pk_in 11 772 (by decide)) (pk_cl 11) ?_
          refine gMsto (i := 4) (j := 11) (x := x) HL11 (by decide) rfl rfl fun h12 HL12 fr12 => ?_
          refine g_aload_n (q := 181) C dX8_sends_180 rfl rfl ?_
          refine g_iconst (v := 1) (q := 182) C dX8_sends_181 (by decide) rfl ?_
          refine g_putfield (q := 185) C fX8_179 dX8_sends_182 rfl HL12.1 (Nat.le_of_ble_eq_true rfl) (Or.inl rfl) rfl rfl (by intro z h; cases h) ?_
          refine gMput (j := 33) (x := 1) HL12 rfl fun h13 HL13 fr13 => ?_
          obtain ⟨M5, e5⟩ : ∃ M5, M5 = ((((M3.set 29 (rX8_howCame_1 M3)).put 4 12 ((M3.a 4 12) + 1)).put 4 11 x).set 33 1) := ⟨_, rfl⟩
          have HM5 : gMod h13 M5 := by rw [e5]; exact HL13
          have fr5 : gFM hp h13 := (gFM.trans (gFM.trans (gFM.trans (gFM.trans fr3 fr10) fr11) fr12) fr13)
          have g5 : ∀ q, ¬ q = 26 → ¬ q = 28 → ¬ q = 30 → ¬ q = 31 → ¬ q = 29 → ¬ q = 33 → M5.f q = M.f q := fun q h1 h2 h3 h4 h5 h6 => by rw [e5, gset_n h6, gput_f, gput_f, gset_n h5, t1 q h2 h3 h4, f2 q h1 h2 h3 h4]
          have g5b : ∀ q, ¬ q = 29 → ¬ q = 33 → M5.f q = M3.f q := fun q h5 h6 => by rw [e5, gset_n h6, gput_f, gput_f, gset_n h5]
          have g29 : M5.f 29 = rX8_howCame_1 M3 := by rw [e5, gset_n (by decide), gput_f, gput_f, gset_s]
          have g33 : M5.f 33 = 1 := by rw [e5, gset_s]
          have a5 : ∀ i q, ¬ i = 4 → M5.a i q = M3.a i q := fun i q h => by rw [e5, gset_a, gput_o h, gput_o h, gset_a]
          have a54 : ∀ q, ¬ q = 12 → ¬ q = 11 → M5.a 4 q = M3.a 4 q := fun q h1 h2 => by rw [e5, gset_a, gput_n h2, gput_n h1, gset_a]
          have g12 : ∀ q, M5.a 12 q = M2.a 12 q := fun q => (a5 12 q (by decide)).trans (t3 12 q (by decide) (by decide))
          have T5 : gTk (M5.a 4) = gTk (M3.a 4) := by
            unfold gTk
            rw [a54 423 (by decide) (by decide), a54 430 (by decide) (by decide)]
            exact gcn_congr fun p _ => a54 _ (by omega) (by omega)
          have Z : ∀ (M' : gMd) (E' : List (Int32 × List Int32)), (∀ q, ¬ q = 12 → ¬ q = 13 → ¬ q = 18 → M'.f q = M5.f q) → (∀ i q, (i < 6 ∨ 11 < i) → (i < 6 ∨ 11 < i) → M'.a i q = M5.a i q) →
              ((¬ M.f 19 = 0 ∧ E' = E ∧ M'.f 12 = M5.f 12 ∧ M'.f 13 = M5.f 13 ∧ M'.f 18 = M5.f 18 ∧ ∀ i q, M'.a i q = M5.a i q) ∨ (M.f 19 = 0 ∧ gUn M' E' ∧ gLg M' ∧ (∃ id, id < E'.length ∧ gEn E' id = (nI 0, (List.range (n + 4)).map (gBv x n (M.a 14)))) ∧ (E' = E ∨ ((∀ k, k < E.length → ¬ gEn E k = (nI 0, (List.range (n + 4)).map (gBv x n (M.a 14)))) ∧ E' = E ++ [(nI 0, (List.range (n + 4)).map (gBv x n (M.a 14)))])))) →
              gSn M 0 x n l E M' E' (rX8_isShaped_1 M') := by
            intro M' E' F1 F2 F3
            have A4 : M'.a 4 = M5.a 4 := funext fun q => F2 4 q (Or.inl (by decide)) (Or.inl (by decide))
            have tk : gTk (M'.a 4) = gTk (M3.a 4) := by rw [A4]; exact T5
            have A13 : ∀ q, M'.a 13 q = M3.a 13 q := fun q => (F2 13 q (Or.inr (by decide)) (Or.inr (by decide))).trans (a5 13 q (by decide))
            have e28 : M'.f 28 = M3.f 28 := (F1 28 (by decide) (by decide) (by decide)).trans (g5b 28 (by decide) (by decide))
            have e29 : M'.f 29 = rX8_howCame_1 M3 := (F1 29 (by decide) (by decide) (by decide)).trans g29
            have eS : rX8_isShaped_1 M' = rX8_isShaped_1 M3 := by
              have ew : M'.a 4 18 = M3.a 4 18 := by rw [A4]; exact a54 _ (by decide) (by decide)
              unfold rX8_isShaped_1
              simp only [A13, ew]
            rw [eS]
            refine ⟨fun q h1 h2 h3 h4 h5 h6 h7 h8 h9 => (F1 q h1 h2 h3).trans (g5 q h4 h5 h7 h8 h6 h9), fun i q h1 h2 h3 h4 => (F2 i q h2 h2).trans ((a5 i q h1).trans ((t3 i q h1 h4).trans (a2 i q h3))), fun q h1 h2 h3 h4 => ?_, ⟨l3, ?_, q2, by omega⟩, ?_, (F1 33 (by decide) (by decide) (by decide)).trans g33, ⟨c, c1, e28.trans c2, fun q hq => by rw [A13]; exact c3 q hq⟩, ?_, ?_⟩
            · rw [A4, a54 q h3 h4, t4 q h1 h2, a2 4 q (by decide)]
            · rw [A4, a54 423 (by decide) (by decide)]; exact q1
            · rw [tk]; omega
            · rw [tk, e29, e28]
              have hw := gHow_1 (M := M3) c2 (by omega)
              rcases hw with ⟨w1, w2, w3, w4, w5⟩ | ⟨w1, w2⟩ | ⟨w1, w2⟩ | ⟨w1, w2⟩ | ⟨w1, w2, w3, w4, w5⟩
              · rcases c4 with ⟨d1, d2, d3⟩ | ⟨d1, d2⟩
                · subst d2
                  refine Or.inl ⟨w1, c2, ?_, w5, ?_⟩
                  · rw [A13, w3, show (4 : Int32) = nI 4 from rfl, pk_sub (by omega), Nat.add_sub_cancel]
                  · by_cases z : gDf (M3.a 13) (gBv x n (M.a 14)) (n + 4) = 0
                    · exact Or.inl fun q hq => by rw [A13]; exact gDf_0 z q hq
                    · refine Or.inr ?_
                      by_cases z1 : gDf (M3.a 13) (gBv x n (M.a 14)) (n + 4) = 1
                      · exact absurd (w4.trans gBv_x.symm) (gDf_1 z1)
                      · omega
                · exact absurd d1 (by rw [w2]; decide)
              · refine Or.inr ⟨Or.inr (Or.inr w1), Or.inl ?_⟩
                rcases c4 with ⟨d1, d2, d3⟩ | ⟨d1, d2⟩
                · omega
                · omega
              · refine Or.inr ⟨Or.inr (Or.inl w1), Or.inl ?_⟩
                rcases c4 with ⟨d1, d2, d3⟩ | ⟨d1, d2⟩
                · rcases w2 with w2 | w2
                  · exact absurd d1 w2
                  · by_cases z : gDf (M3.a 13) (gBv x n (M.a 14)) (n + 4) = 0
                    · refine absurd ?_ w2
                      rw [gDf_0 z 2 (by omega), d2]
                      exact (nI_add n 4).symm
                    · omega
                · omega
              · refine Or.inr ⟨Or.inl w1, Or.inl ?_⟩
                rcases w2 with w2 | ⟨w2, w3, w4⟩
                · rcases q5 with h | h
                  · exact absurd h w2
                  · omega
                · rcases c4 with ⟨d1, d2, d3⟩ | ⟨d1, d2⟩
                  · by_cases z : gDf (M3.a 13) (gBv x n (M.a 14)) (n + 4) = 0
                    · refine absurd ?_ w4
                      rw [d2, gXr_congr (gDf_0 z)]; exact gBv_x
                    · omega
                  · omega
              · refine Or.inr ⟨Or.inr (Or.inl w1), ?_⟩
                rcases c4 with ⟨d1, d2, d3⟩ | ⟨d1, d2⟩
                · subst d2
                  by_cases z : gDf (M3.a 13) (gBv x n (M.a 14)) (n + 4) = 0
                  · exact Or.inr ⟨w1, w5, c2, fun q hq => by rw [A13]; exact gDf_0 z q hq⟩
                  · exact Or.inl (by omega)
                · exact Or.inl (by omega)
            · rcases F3 with ⟨h1, h2, h3, h4, h5, h6⟩ | h
              · exact Or.inl ⟨h1, h2, h3.trans (g5 12 (by decide) (by decide) (by decide) (by decide) (by decide) (by decide)), h4.trans (g5 13 (by decide) (by decide) (by decide) (by decide) (by decide) (by decide)), h5.trans (g5 18 (by decide) (by decide) (by decide) (by decide) (by decide) (by decide)), fun i q i1 i2 i3 => (h6 i q).trans ((a5 i q i1).trans ((t3 i q i1 i3).trans (a2 i q i2)))⟩
              · exact Or.inr h
          refine g_aload_n (q := 186) C dX8_sends_185 rfl rfl ?_
          refine g_getfield (v := .int ((M5.f 19))) (q := 189) C fX8_182 dX8_sends_186 rfl HM5.1 rfl ?_
          refine g_if_ne (t := 208) (q := 192) C dX8_sends_189 (by decide) rfl (fun c_189 => ?_) (fun c_189 => ?_)
          ·
            refine E9.2.1 _ _ _ _ _ dX8_sends_208 rfl (Nat.le_of_ble_eq_true rfl) (Nat.le_of_ble_eq_true rfl) ⟨rfl, M5, E, HM5, fr5, ?_⟩
            exact Z M5 E (fun _ _ _ _ => rfl) (fun _ _ _ _ => rfl) (Or.inl ⟨fun h => c_189 (by rw [g5 19 (by decide) (by decide) (by decide) (by decide) (by decide) (by decide)]; exact h), rfl, rfl, rfl, rfl, fun _ _ => rfl⟩)
          ·
            refine g_aload_n (q := 193) C dX8_sends_192 rfl rfl ?_
            refine g_iload_n (q := 194) C dX8_sends_193 rfl rfl ?_
            refine g_aload_n (q := 195) C dX8_sends_194 rfl rfl ?_
            refine g_getfield (v := .ref 127) (q := 198) C fX8_22 dX8_sends_195 rfl HM5.1 rfl ?_
            refine g_sipush (v := 423) (q := 201) C dX8_sends_198 (by decide) rfl ?_
            refine g_ialoadN (x := (M5.a 4 423)) (j := 423) (q := 202) C dX8_sends_201 rfl (HM5.ar (i := 4) (n := 772) (by decide) rfl) (pk_in 423 772 (by decide)) (pk_cl 423) rfl ?_
            refine g_iload (q := 204) C dX8_sends_202 rfl rfl ?_
            refine g_isub (q := 205) C dX8_sends_204 rfl ?_
            have n19 : M.f 19 = 0 := by rw [← g5 19 (by decide) (by decide) (by decide) (by decide) (by decide) (by decide)]; exact c_189
            obtain ⟨U, G, hE, hB⟩ := UU n19
            have p8 : ∀ i q, ¬ i = 4 → ¬ i = 12 → ¬ i = 13 → M5.a i q = M.a i q := fun i q i1 i2 i3 => (a5 i q i1).trans ((t3 i q i1 i3).trans (a2 i q i2))
            have G5 : gLg M5 := by
              obtain ⟨⟨a, y1, y2⟩, ⟨b, y3, y4⟩, y5⟩ := G
              exact ⟨⟨a, y1, (g5 13 (by decide) (by decide) (by decide) (by decide) (by decide) (by decide)).trans y2⟩, ⟨b, y3, (g5 12 (by decide) (by decide) (by decide) (by decide) (by decide) (by decide)).trans y4⟩, fun p hp9 => by rw [p8 6 _ (by decide) (by decide) (by decide), p8 6 _ (by decide) (by decide) (by decide)]; exact y5 p hp9⟩
            have n26 : M5.f 26 = nI (n + 4) := (g5b 26 (by decide) (by decide)).trans g26
            refine g_callVvp (q := 208) (As := [.int 0, .int (((M5.a 4 423) - (nI l)))]) C gyX8_logs gvX8_logs t_1328 (c_X8_logs_0_r (n := n + 4) HM5 (U.kept (g5 18 (by decide) (by decide) (by decide) (by decide) (by decide) (by decide)) (fun q => p8 8 q (by decide) (by decide) (by decide)) (fun q => p8 9 q (by decide) (by decide) (by decide)) (fun q => p8 11 q (by decide) (by decide) (by decide))) G5 n26 (by omega) hE (by omega) (by rw [g12, b2 2 (by omega)]; exact ⟨n, by omega, rfl⟩)) dX8_sends_205 rfl HM5.1 rfl rfl rfl (Nat.le_of_ble_eq_true rfl) (Nat.le_of_ble_eq_true rfl) (Nat.le_of_ble_eq_true rfl) (Nat.le_of_ble_eq_true rfl) (Nat.le_of_ble_eq_true rfl) rfl (fun h14 z14 => ?_)
            obtain ⟨M6, E', HM6, fr6, Y⟩ := z14
            refine E9.2.1 _ _ _ _ _ dX8_sends_208 rfl (Nat.le_of_ble_eq_true rfl) (Nat.le_of_ble_eq_true rfl) ⟨rfl, M6, E', HM6, (gFM.trans fr5 fr6), ?_⟩
            obtain ⟨y1, y2, y3, y4, y5, y6⟩ := Y
            have eb : gBk M5 (n + 4) = (List.range (n + 4)).map (gBv x n (M.a 14)) := List.map_congr_left fun q hq => (g12 q).trans (b2 q (List.mem_range.mp hq))
            rw [eb] at y3 y6
            exact Z M6 E' y4 (fun i q h1 h2 => y5 i q h1) (Or.inr ⟨by rw [← g5 19 (by decide) (by decide) (by decide) (by decide) (by decide) (by decide)]; exact c_189, y1, y2, y3, y6⟩)
          
          
        | succ d ih =>
          intro j hj M3 hq HM3 fr3 T3
          obtain ⟨t1, t3, t4, ⟨l3, q1, q2, q3⟩, q4, q5, c, c1, c2, c3, c4⟩ := id T3
          have g26 : M3.f 26 = nI (n + 4) := (t1 26 (by decide) (by decide) (by decide)).trans f26
          refine g_iload (q := 116) C dX8_sends_114 rfl rfl ?_
          refine g_aload_n (q := 117) C dX8_sends_116 rfl rfl ?_
          refine g_getfield (v := .int ((M3.f 26))) (q := 120) C fX8_167 dX8_sends_117 rfl HM3.1 rfl ?_
          rw [show (M3.f 26) = nI (n + 4) from g26]
          refine g_icmp_ge_f (t := 140) (q := 123) C dX8_sends_120 (by decide) rfl (fun h => nI_ge (show j < n + 4 by omega) (by omega) h) ?_
          refine g_aload_n (q := 124) C dX8_sends_123 rfl rfl ?_
          refine g_aload_n (q := 125) C dX8_sends_124 rfl rfl ?_
          refine g_getfield (v := .ref 135) (q := 128) C fX8_51 dX8_sends_125 rfl HM3.1 rfl ?_
          refine g_iload (q := 130) C dX8_sends_128 rfl rfl ?_
          refine g_ialoadN (x := (M3.a 12 j)) (j := j) (q := 131) C dX8_sends_130 rfl (HM3.ar (i := 12) (n := 260) (by decide) rfl) (pk_in j 260 (by omega)) (pk_cl j rfl (by omega)) rfl ?_
          rw [show (M3.a 12 j) = gBv x n (M.a 14) j from (t3 12 j (by decide) (by decide)).trans (b2 j (by omega))]
          have h430 : gIr (M3.a 4 430) 25 := by rw [t4 430 (by decide) (by decide), a2 4 430 (by decide)]; exact r1
          have hfe : gFe (M3.a 4) := fun k hk => by rw [t4 430 (by decide) (by decide), a2 4 430 (by decide)] at hk; rw [t4 _ (by omega) (by omega), t4 _ (by omega) (by omega), a2 4 _ (by decide), a2 4 _ (by decide)]; exact r2 k hk
          have hre : gIr (M3.f 9) 3 := by rw [t1 9 (by decide) (by decide) (by decide), f2 9 (by decide) (by decide) (by decide) (by decide)]; exact r3
          refine g_callVvp (q := 134) (As := [.int ((gBv x n (M.a 14) j))]) C gyX8_carries gvX8_carries t_1316 (c_X8_carries_r (b := gBv x n (M.a 14) j) HM3 h430 hfe hre c2 (by omega) q1 (by omega)) dX8_sends_131 rfl HM3.1 rfl rfl rfl (Nat.le_of_ble_eq_true rfl) (Nat.le_of_ble_eq_true rfl) (Nat.le_of_ble_eq_true rfl) (Nat.le_of_ble_eq_true rfl) (Nat.le_of_ble_eq_true rfl) rfl (fun h15 z15 => ?_)
          obtain ⟨M4, l4, HM4, fr4, K4⟩ := z15
          refine g_iinc (v := (nI (j + 1))) (q := 137) C dX8_sends_134 rfl (nI_1 j) (by simp only [gset]; rfl) rfl ?_
          refine g_goto (q := 114) C dX8_sends_137 (by decide) ?_
          exact ih (j + 1) (by omega) M4 _ HM4 (gFM.trans fr3 fr4) (T3.step (hby j) q1 c2 (by omega) (by omega) (by omega) K4)
      exact L2 (n + 4) 0 (by omega) M2 h9 HM2 fr2 ⟨fun _ _ _ _ => rfl, fun _ _ _ _ => rfl, fun _ _ _ => rfl, ⟨l, (a2 4 423 (by decide)).trans hl, Nat.le_refl _, by omega⟩, Nat.le_refl _, Or.inl f31, 0, Nat.le_refl _, f28, fun q hq => absurd hq (Nat.not_lt_zero _), Or.inl ⟨f30, rfl, by show 0 + _ ≤ _; omega⟩⟩
      
    | succ d ih =>
      intro j hj  h1 HL1_ fr_
      refine g_iload (q := 31) C dX8_sends_29 rfl rfl ?_
      refine g_iload_n (q := 32) C dX8_sends_31 rfl rfl ?_
      refine g_icmp_ge_f (t := 69) (q := 35) C dX8_sends_32 (by decide) rfl (fun h => nI_ge (show j < n by omega) (by omega) h) ?_
      refine g_aload_n (q := 36) C dX8_sends_35 rfl rfl ?_
      refine g_getfield (v := .ref 135) (q := 39) C fX8_51 dX8_sends_36 rfl HL1_.1 rfl ?_
      refine g_iconst (v := 3) (q := 40) C dX8_sends_39 (by decide) rfl ?_
      refine g_iload (q := 42) C dX8_sends_40 rfl rfl ?_
      refine g_iadd (q := 43) C dX8_sends_42 rfl ?_
      refine g_aload_n (q := 44) C dX8_sends_43 rfl rfl ?_
      refine g_getfield (v := .ref 137) (q := 47) C fX8_57 dX8_sends_44 rfl HL1_.1 rfl ?_
      refine g_iload (q := 49) C dX8_sends_47 rfl rfl ?_
      refine g_ialoadN (x := ((M1.arr 12 (gCpy (M1.a 12) 3 (M.a 14) 0 j)).a 14 j)) (j := j) (q := 50) C dX8_sends_49 rfl (HL1_.ar (i := 14) (n := 256) (by decide) rfl) (pk_in j 256 (by omega)) (pk_cl j rfl (by omega)) rfl ?_
      rw [show ((M1.arr 12 (gCpy (M1.a 12) 3 (M.a 14) 0 j)).a 14 j) = M.a 14 j from (garr_o (by decide)).trans (i1 j)]
      refine g_iastoreN (j := (3 + j)) (q := 51) C dX8_sends_50 rfl (HL1_.ar (i := 12) (n := 260) (by decide) rfl) (pk_in (3 + j) 260 (by omega) (nI_add 3 j)) (pk_cl (3 + j) (nI_add 3 j) (by omega)) ?_
      refine gMsto (i := 12) (j := (3 + j)) (x := (M.a 14 j)) HL1_ (by decide) rfl rfl fun h16 HL16 fr16 => ?_
      refine g_iload (q := 53) C dX8_sends_51 rfl rfl ?_
      refine g_aload_n (q := 54) C dX8_sends_53 rfl rfl ?_
      refine g_getfield (v := .ref 137) (q := 57) C fX8_57 dX8_sends_54 rfl HL16.1 rfl ?_
      refine g_iload (q := 59) C dX8_sends_57 rfl rfl ?_
      refine g_ialoadN (x := ((M1.arr 12 (gCpy (M1.a 12) 3 (M.a 14) 0 j)).a 14 j)) (j := j) (q := 60) C dX8_sends_59 rfl (HL16.ar (i := 14) (n := 256) (by decide) rfl) (pk_in j 256 (by omega)) (pk_cl j rfl (by omega)) (gput_o (by decide)) ?_
      rw [show ((M1.arr 12 (gCpy (M1.a 12) 3 (M.a 14) 0 j)).a 14 j) = M.a 14 j from (garr_o (by decide)).trans (i1 j)]
      refine g_ixor (q := 61) C dX8_sends_60 rfl ?_
      refine g_istore (q := 63) C dX8_sends_61 (Nat.le_of_ble_eq_true rfl) (by simp only [gset]; rfl) rfl ?_
      refine g_iinc (v := (nI (j + 1))) (q := 66) C dX8_sends_63 rfl (nI_1 j) (by simp only [gset]; rfl) rfl ?_
      have e9 : (M1.arr 12 (gCpy (M1.a 12) 3 (M.a 14) 0 j)).put 12 (3 + j) (M.a 14 j) = (M1.arr 12 (gCpy (M1.a 12) 3 (M.a 14) 0 (j + 1))) := garr_cp (by rw [Nat.zero_add])
      have HL9 : gMod h16 (M1.arr 12 (gCpy (M1.a 12) 3 (M.a 14) 0 (j + 1))) := by rw [← e9]; exact HL16
      refine g_goto (q := 29) C dX8_sends_66 (by decide) ?_
      exact ih (j + 1) (by omega)  h16 HL9 (gFM.trans fr_ fr16)
  exact LL4 (n - 0) 0 (by omega)  h3 HL8 (gFM.trans (gFM.trans fr1 fr2) fr3)
  
set_option maxRecDepth 100000 in
set_option maxHeartbeats 4000000 in
theorem c_X8_sends_1_r {hp : List gA} {M : gMd} {x : Int32} {n l : Nat} {E : List (Int32 × List Int32)} (HM : gMod hp M) (R : gSr M) (hx : gIr x 255) (hn : n ≤ 60) (hI : ∀ q, q < n → gIr (M.a 14 q) 255) (hl : M.a 4 423 = nI l) (hlb : l < 1000000000) (UU : M.f 19 = 0 → gUn M E ∧ gLg M ∧ E.length < 8192 ∧ gOf E E.length + 64 ≤ 131072) : gM yX8_sends cX8_sends 7 (none) 3 69 [.ref 122, .int 1, .int x, .int ((nI n))] (hp) (0) (0) (fun v h => v = none ∧ ∃ M' E', gMod h M' ∧ gFM hp h ∧ gSn M 1 x n l E M' E' (rX8_isShaped_0 M')) := by
  refine gM_of (ls0 := [some (.ref 122), some (.int 1), some (.int x), some (.int ((nI n))), none, none, none]) (by decide +kernel) (Nat.le_of_ble_eq_true rfl) rfl fun X C E9 => ?_
  obtain ⟨r1, r2, r3⟩ := id R
  refine g_aload_n (q := 1) C dX8_sends_0 rfl rfl ?_
  refine g_getfield (v := .ref 135) (q := 4) C fX8_51 dX8_sends_1 rfl HM.1 rfl ?_
  refine g_iconst (v := 0) (q := 5) C dX8_sends_4 (by decide) rfl ?_
  refine g_iconst (v := 0) (q := 6) C dX8_sends_5 (by decide) rfl ?_
  refine g_iastoreN (j := 0) (q := 7) C dX8_sends_6 rfl (HM.ar (i := 12) (n := 260) (by decide) rfl) (pk_in 0 260 (by decide)) (pk_cl 0) ?_
  refine gMsto (i := 12) (j := 0) (x := 0) HM (by decide) rfl rfl fun h1 HL1 fr1 => ?_
  refine g_aload_n (q := 8) C dX8_sends_7 rfl rfl ?_
  refine g_getfield (v := .ref 135) (q := 11) C fX8_51 dX8_sends_8 rfl HL1.1 rfl ?_
  refine g_iconst (v := 1) (q := 12) C dX8_sends_11 (by decide) rfl ?_
  refine g_iload_n (q := 13) C dX8_sends_12 rfl rfl ?_
  refine g_iastoreN (j := 1) (q := 14) C dX8_sends_13 rfl (HL1.ar (i := 12) (n := 260) (by decide) rfl) (pk_in 1 260 (by decide)) (pk_cl 1) ?_
  refine gMsto (i := 12) (j := 1) (x := x) HL1 (by decide) rfl rfl fun h2 HL2 fr2 => ?_
  refine g_aload_n (q := 15) C dX8_sends_14 rfl rfl ?_
  refine g_getfield (v := .ref 135) (q := 18) C fX8_51 dX8_sends_15 rfl HL2.1 rfl ?_
  refine g_iconst (v := 2) (q := 19) C dX8_sends_18 (by decide) rfl ?_
  refine g_iload_n (q := 20) C dX8_sends_19 rfl rfl ?_
  refine g_iastoreN (j := 2) (q := 21) C dX8_sends_20 rfl (HL2.ar (i := 12) (n := 260) (by decide) rfl) (pk_in 2 260 (by decide)) (pk_cl 2) ?_
  refine gMsto (i := 12) (j := 2) (x := (nI n)) HL2 (by decide) rfl rfl fun h3 HL3 fr3 => ?_
  refine g_iload_n (q := 22) C dX8_sends_21 rfl rfl ?_
  refine g_iload_n (q := 23) C dX8_sends_22 rfl rfl ?_
  refine g_ixor (q := 24) C dX8_sends_23 rfl ?_
  refine g_istore (q := 26) C dX8_sends_24 (Nat.le_of_ble_eq_true rfl) (by simp only [gset]; rfl) rfl ?_
  refine g_iconst (v := 0) (q := 27) C dX8_sends_26 (by decide) rfl ?_
  refine g_istore (q := 29) C dX8_sends_27 (Nat.le_of_ble_eq_true rfl) (by simp only [gset]; rfl) rfl ?_
  obtain ⟨M1, e1⟩ : ∃ M1, M1 = (((M.put 12 0 0).put 12 1 x).put 12 2 (nI n)) := ⟨_, rfl⟩
  have HM1 : gMod h3 M1 := by rw [e1]; exact HL3
  have i1 : ∀ q, M1.a 14 q = M.a 14 q := fun q => by rw [e1]; rfl
  have HL8 : gMod h3 (M1.arr 12 (gCpy (M1.a 12) 3 (M.a 14) 0 0)) := by rw [gCpy_0, garr_id]; exact HM1
  have LL4 : ∀ d j : Nat, j + d = n → ∀  (h1 : List gA), gMod h1 (M1.arr 12 (gCpy (M1.a 12) 3 (M.a 14) 0 j)) → gFM hp h1 → gG X 29 [some (.ref 122), some (.int 1), some (.int x), some (.int ((nI n))), some (.int ((gXs (x ^^^ nI n) (M.a 14) j))), some (.int ((nI j))), none] [] h1 0 0 := by
    intro d
    induction d with
    | zero =>
      intro j hj  h1 HL1_ fr_
      obtain rfl : n = j := by omega
      refine g_iload (q := 31) C dX8_sends_29 rfl rfl ?_
      refine g_iload_n (q := 32) C dX8_sends_31 rfl rfl ?_
      refine g_icmp_ge_t (t := 69) C dX8_sends_32 (by decide) (nI_le (Nat.le_refl _) (by omega)) ?_
      refine g_aload_n (q := 70) C dX8_sends_69 rfl rfl ?_
      refine g_getfield (v := .ref 135) (q := 73) C fX8_51 dX8_sends_70 rfl HL1_.1 rfl ?_
      refine g_iconst (v := 3) (q := 74) C dX8_sends_73 (by decide) rfl ?_
      refine g_iload_n (q := 75) C dX8_sends_74 rfl rfl ?_
      refine g_iadd (q := 76) C dX8_sends_75 rfl ?_
      refine g_iload (q := 78) C dX8_sends_76 rfl rfl ?_
      refine g_iastoreN (j := (3 + n)) (q := 79) C dX8_sends_78 rfl (HL1_.ar (i := 12) (n := 260) (by decide) rfl) (pk_in (3 + n) 260 (by omega) (nI_add 3 n)) (pk_cl (3 + n) (nI_add 3 n) (by omega)) ?_
      refine gMsto (i := 12) (j := (3 + n)) (x := (gXs (x ^^^ nI n) (M.a 14) n)) HL1_ (by decide) rfl rfl fun h5 HL5 fr5 => ?_
      refine g_aload_n (q := 80) C dX8_sends_79 rfl rfl ?_
      refine g_iload_n (q := 81) C dX8_sends_80 rfl rfl ?_
      refine g_iconst (v := 4) (q := 82) C dX8_sends_81 (by decide) rfl ?_
      refine g_iadd (q := 83) C dX8_sends_82 rfl ?_
      rw [show nI n + (4 : Int32) = nI (n + 4) from nI_add n 4]
      refine g_putfield (q := 86) C fX8_167 dX8_sends_83 rfl HL5.1 (Nat.le_of_ble_eq_true rfl) (Or.inl rfl) rfl rfl (by intro z h; cases h) ?_
      refine gMput (j := 26) (x := (nI (n + 4))) HL5 rfl fun h6 HL6 fr6 => ?_
      refine g_aload_n (q := 87) C dX8_sends_86 rfl rfl ?_
      refine g_getfield (v := .ref 127) (q := 90) C fX8_22 dX8_sends_87 rfl HL6.1 rfl ?_
      refine g_sipush (v := 423) (q := 93) C dX8_sends_90 (by decide) rfl ?_
      refine g_ialoadN (x := ((M1.arr 12 (gCpy (M1.a 12) 3 (M.a 14) 0 n)).a 4 423)) (j := 423) (q := 94) C dX8_sends_93 rfl (HL6.ar (i := 4) (n := 772) (by decide) rfl) (pk_in 423 772 (by decide)) (pk_cl 423) (gset_a.trans (gput_o (by decide))) ?_
      rw [show ((M1.arr 12 (gCpy (M1.a 12) 3 (M.a 14) 0 n)).a 4 423) = nI l from (by rw [garr_o (by decide), e1]; exact hl)]
      refine g_istore (q := 96) C dX8_sends_94 (Nat.le_of_ble_eq_true rfl) (by simp only [gset]; rfl) rfl ?_
      refine g_aload_n (q := 97) C dX8_sends_96 rfl rfl ?_
      refine g_iconst (v := 0) (q := 98) C dX8_sends_97 (by decide) rfl ?_
      refine g_putfield (q := 101) C fX8_160 dX8_sends_98 rfl HL6.1 (Nat.le_of_ble_eq_true rfl) (Or.inl rfl) rfl rfl (by intro z h; cases h) ?_
      refine gMput (j := 28) (x := 0) HL6 rfl fun h7 HL7 fr7 => ?_
      refine g_aload_n (q := 102) C dX8_sends_101 rfl rfl ?_
      refine g_iconst (v := 0) (q := 103) C dX8_sends_102 (by decide) rfl ?_
      refine g_putfield (q := 106) C fX8_154 dX8_sends_103 rfl HL7.1 (Nat.le_of_ble_eq_true rfl) (Or.inl rfl) rfl rfl (by intro z h; cases h) ?_
      refine gMput (j := 30) (x := 0) HL7 rfl fun h8 HL8 fr8 => ?_
      refine g_aload_n (q := 107) C dX8_sends_106 rfl rfl ?_
      refine g_iconst (v := 0) (q := 108) C dX8_sends_107 (by decide) rfl ?_
      refine g_putfield (q := 111) C fX8_157 dX8_sends_108 rfl HL8.1 (Nat.le_of_ble_eq_true rfl) (Or.inl rfl) rfl rfl (by intro z h; cases h) ?_
      refine gMput (j := 31) (x := 0) HL8 rfl fun h9 HL9 fr9 => ?_
      refine g_iconst (v := 0) (q := 112) C dX8_sends_111 (by decide) rfl ?_
      refine g_istore (q := 114) C dX8_sends_112 (Nat.le_of_ble_eq_true rfl) (by simp only [gset]; rfl) rfl ?_
      obtain ⟨M2, e2⟩ : ∃ M2, M2 = ((((((M1.arr 12 (gCpy (M1.a 12) 3 (M.a 14) 0 n)).put 12 (3 + n) (gXs (x ^^^ nI n) (M.a 14) n)).set 26 (nI (n + 4))).set 28 0).set 30 0).set 31 0) := ⟨_, rfl⟩
      have HM2 : gMod h9 M2 := by rw [e2]; exact HL9
      have fr2 : gFM hp h9 := (gFM.trans (gFM.trans (gFM.trans (gFM.trans (gFM.trans fr_ fr5) fr6) fr7) fr8) fr9)
      have f2 : ∀ q, ¬ q = 26 → ¬ q = 28 → ¬ q = 30 → ¬ q = 31 → M2.f q = M.f q := fun q h26 h28 h30 h31 => by rw [e2, gset_n h31, gset_n h30, gset_n h28, gset_n h26, e1]; rfl
      have f26 : M2.f 26 = nI (n + 4) := by rw [e2, gset_n (by decide), gset_n (by decide), gset_n (by decide), gset_s]
      have f28 : M2.f 28 = nI 0 := by rw [e2, gset_n (by decide), gset_n (by decide), gset_s]; rfl
      have f30 : M2.f 30 = 0 := by rw [e2, gset_n (by decide), gset_s]
      have f31 : M2.f 31 = 0 := by rw [e2, gset_s]
      have a2 : ∀ i q, ¬ i = 12 → M2.a i q = M.a i q := fun i q h => by rw [e2, gset_a, gset_a, gset_a, gset_a, gput_o h, garr_o h, e1, gput_o h, gput_o h, gput_o h]
      have b2 : ∀ q, q < n + 4 → M2.a 12 q = gBv x n (M.a 14) q := by
        intro q hq
        rw [e2, gset_a, gset_a, gset_a, gset_a]
        by_cases c : q = 3 + n
        · subst c; rw [gput_s, gBv_n]
        · rw [gput_n c, garr_s]
          by_cases c3 : q < 3
          · rw [gCpy_out (Or.inl c3), e1]
            have : q = 0 ∨ q = 1 ∨ q = 2 := by omega
            rcases this with rfl | rfl | rfl
            · rw [gput_n (by decide), gput_n (by decide), gput_s]; rfl
            · rw [gput_n (by decide), gput_s]; rfl
            · rw [gput_s]; rfl
          · obtain ⟨p, rfl⟩ : ∃ p, q = 3 + p := ⟨q - 3, by omega⟩
            rw [gCpy_in (by omega), gBv_in (by omega), Nat.zero_add]
      have hby : ∀ q, gIr (gBv x n (M.a 14) q) 255 := fun q => gBv_by hx hn hI
      have t2 : gTk (M2.a 4) = gTk (M.a 4) := by rw [show M2.a 4 = M.a 4 from funext fun q => a2 4 q (by decide)]
      have L2 : ∀ d j : Nat, j + d = n + 4 → ∀ (M3 : gMd) (hq : List gA), gMod hq M3 → gFM hp hq → gLt M2 (gBv x n (M.a 14)) l j M3 → gG X 114 [some (.ref 122), some (.int 1), some (.int x), some (.int ((nI n))), some (.int ((gXs (x ^^^ nI n) (M.a 14) n))), some (.int ((nI l))), some (.int ((nI j)))] [] hq 0 0 := by
        intro d
        induction d with
        | zero =>
          intro j hj M3 hq HM3 fr3 T3
          obtain rfl : n + 4 = j := by omega
          obtain ⟨t1, t3, t4, ⟨l3, q1, q2, q3⟩, q4, q5, c, c1, c2, c3, c4⟩ := id T3
          have g26 : M3.f 26 = nI (n + 4) := (t1 26 (by decide) (by decide) (by decide)).trans f26
          refine g_iload (q := 116) C dX8_sends_114 rfl rfl ?_
          refine g_aload_n (q := 117) C dX8_sends_116 rfl rfl ?_
          refine g_getfield (v := .int ((M3.f 26))) (q := 120) C fX8_167 dX8_sends_117 rfl HM3.1 rfl ?_
          rw [show (M3.f 26) = nI (n + 4) from g26]
          refine g_icmp_ge_t (t := 140) C dX8_sends_120 (by decide) (nI_le (Nat.le_refl _) (by omega)) ?_
          refine g_aload_n (q := 141) C dX8_sends_140 rfl rfl ?_
          refine g_aload_n (q := 142) C dX8_sends_141 rfl rfl ?_
          refine g_iconst (v := 1) (q := 143) C dX8_sends_142 (by decide) rfl ?_
          refine g_iload_n (q := 144) C dX8_sends_143 rfl rfl ?_
          refine g_isub (q := 145) C dX8_sends_144 rfl ?_
          refine g_callVi (x := (rX8_howCame_0 M3)) (q := 148) (As := [.int 0]) C gyX8_howCame gvX8_howCame t_1320 (c_X8_howCame_0_m HM3 ⟨c, by omega, c2⟩) dX8_sends_145 rfl HM3.1 rfl rfl rfl (Nat.le_of_ble_eq_true rfl) (Nat.le_of_ble_eq_true rfl) (Nat.le_of_ble_eq_true rfl) (Nat.le_of_ble_eq_true rfl) (Nat.le_of_ble_eq_true rfl) rfl ?_
          refine g_putfield (q := 151) C fX8_176 dX8_sends_148 rfl HM3.1 (Nat.le_of_ble_eq_true rfl) (Or.inl rfl) rfl rfl (by intro z h; cases h) ?_
          refine gMput (j := 29) (x := (rX8_howCame_0 M3)) HM3 rfl fun h10 HL10 fr10 => ?_
          refine g_aload_n (q := 152) C dX8_sends_151 rfl rfl ?_
          refine g_getfield (v := .ref 127) (q := 155) C fX8_22 dX8_sends_152 rfl HL10.1 rfl ?_
          refine g_bipush (v := 16) (q := 157) C dX8_sends_155 (by decide) rfl ?_
          refine g_iload_n (q := 158) C dX8_sends_157 rfl rfl ?_
          refine g_imul (q := 159) C dX8_sends_158 rfl ?_
          refine g_bipush (v := 12) (q := 161) C dX8_sends_159 (by decide) rfl ?_
          refine g_iadd (q := 162) C dX8_sends_161 rfl ?_
          refine g_dup2 (q := 163) C dX8_sends_162 rfl rfl rfl ?_
          refine g_ialoadN (x := (M3.a 4 28)) (j := 28) (q := 164) C dX8_sends_163 rfl (HL10.ar (i := 4) (n := 772) (by decide) rfl) (pk_in 28 772 (by decide)) (pk_cl 28) gset_a ?_
          refine g_iconst (v := 1) (q := 165) C dX8_sends_164 (by decide) rfl ?_
          refine g_iadd (q := 166) C dX8_sends_165 rfl ?_
          refine g_iastoreN (j := 28) (q := 167) C dX8_sends_166 rfl (HL10.ar (i := 4) (n := 772) (by decide) rfl) (pk_in 28 772 (by decide)) (pk_cl 28) ?_
          refine gMsto (i := 4) (j := 28) (x := ((M3.a 4 28) + 1)) HL10 (by decide) rfl rfl fun h11 HL11 fr11 => ?_
          refine g_aload_n (q := 168) C dX8_sends_167 rfl rfl ?_
          refine g_getfield (v := .ref 127) (q := 171) C fX8_22 dX8_sends_168 rfl HL11.1 rfl ?_
          refine g_bipush (v := 16) (q := 173) C dX8_sends_171 (by decide) rfl ?_
          refine g_iload_n (q := 174) C dX8_sends_173 rfl rfl ?_
          refine g_imul (q := 175) C dX8_sends_174 rfl ?_
          refine g_bipush (v := 11) (q := 177) C dX8_sends_175 (by decide) rfl ?_
          refine g_iadd (q := 178) C dX8_sends_177 rfl ?_
          refine g_iload_n (q := 179) C dX8_sends_178 rfl rfl ?_
          refine g_iastoreN (j := 27) (q := 180) C dX8_sends_179 rfl (HL11.ar (i := 4) (n := 772) (by decide) rfl) (pk_in 27 772 (by decide)) (pk_cl 27) ?_
          refine gMsto (i := 4) (j := 27) (x := x) HL11 (by decide) rfl rfl fun h12 HL12 fr12 => ?_
          refine g_aload_n (q := 181) C dX8_sends_180 rfl rfl ?_
          refine g_iconst (v := 1) (q := 182) C dX8_sends_181 (by decide) rfl ?_
          refine g_putfield (q := 185) C fX8_179 dX8_sends_182 rfl HL12.1 (Nat.le_of_ble_eq_true rfl) (Or.inl rfl) rfl rfl (by intro z h; cases h) ?_
          refine gMput (j := 33) (x := 1) HL12 rfl fun h13 HL13 fr13 => ?_
          obtain ⟨M5, e5⟩ : ∃ M5, M5 = ((((M3.set 29 (rX8_howCame_0 M3)).put 4 28 ((M3.a 4 28) + 1)).put 4 27 x).set 33 1) := ⟨_, rfl⟩
          have HM5 : gMod h13 M5 := by rw [e5]; exact HL13
          have fr5 : gFM hp h13 := (gFM.trans (gFM.trans (gFM.trans (gFM.trans fr3 fr10) fr11) fr12) fr13)
          have g5 : ∀ q, ¬ q = 26 → ¬ q = 28 → ¬ q = 30 → ¬ q = 31 → ¬ q = 29 → ¬ q = 33 → M5.f q = M.f q := fun q h1 h2 h3 h4 h5 h6 => by rw [e5, gset_n h6, gput_f, gput_f, gset_n h5, t1 q h2 h3 h4, f2 q h1 h2 h3 h4]
          have g5b : ∀ q, ¬ q = 29 → ¬ q = 33 → M5.f q = M3.f q := fun q h5 h6 => by rw [e5, gset_n h6, gput_f, gput_f, gset_n h5]
          have g29 : M5.f 29 = rX8_howCame_0 M3 := by rw [e5, gset_n (by decide), gput_f, gput_f, gset_s]
          have g33 : M5.f 33 = 1 := by rw [e5, gset_s]
          have a5 : ∀ i q, ¬ i = 4 → M5.a i q = M3.a i q := fun i q h => by rw [e5, gset_a, gput_o h, gput_o h, gset_a]
          have a54 : ∀ q, ¬ q = 28 → ¬ q = 27 → M5.a 4 q = M3.a 4 q := fun q h1 h2 => by rw [e5, gset_a, gput_n h2, gput_n h1, gset_a]
          have g12 : ∀ q, M5.a 12 q = M2.a 12 q := fun q => (a5 12 q (by decide)).trans (t3 12 q (by decide) (by decide))
          have T5 : gTk (M5.a 4) = gTk (M3.a 4) := by
            unfold gTk
            rw [a54 423 (by decide) (by decide), a54 430 (by decide) (by decide)]
            exact gcn_congr fun p _ => a54 _ (by omega) (by omega)
          have Z : ∀ (M' : gMd) (E' : List (Int32 × List Int32)), (∀ q, ¬ q = 12 → ¬ q = 13 → ¬ q = 18 → M'.f q = M5.f q) → (∀ i q, (i < 6 ∨ 11 < i) → (i < 6 ∨ 11 < i) → M'.a i q = M5.a i q) →
              ((¬ M.f 19 = 0 ∧ E' = E ∧ M'.f 12 = M5.f 12 ∧ M'.f 13 = M5.f 13 ∧ M'.f 18 = M5.f 18 ∧ ∀ i q, M'.a i q = M5.a i q) ∨ (M.f 19 = 0 ∧ gUn M' E' ∧ gLg M' ∧ (∃ id, id < E'.length ∧ gEn E' id = (nI 1, (List.range (n + 4)).map (gBv x n (M.a 14)))) ∧ (E' = E ∨ ((∀ k, k < E.length → ¬ gEn E k = (nI 1, (List.range (n + 4)).map (gBv x n (M.a 14)))) ∧ E' = E ++ [(nI 1, (List.range (n + 4)).map (gBv x n (M.a 14)))])))) →
              gSn M 1 x n l E M' E' (rX8_isShaped_0 M') := by
            intro M' E' F1 F2 F3
            have A4 : M'.a 4 = M5.a 4 := funext fun q => F2 4 q (Or.inl (by decide)) (Or.inl (by decide))
            have tk : gTk (M'.a 4) = gTk (M3.a 4) := by rw [A4]; exact T5
            have A13 : ∀ q, M'.a 13 q = M3.a 13 q := fun q => (F2 13 q (Or.inr (by decide)) (Or.inr (by decide))).trans (a5 13 q (by decide))
            have e28 : M'.f 28 = M3.f 28 := (F1 28 (by decide) (by decide) (by decide)).trans (g5b 28 (by decide) (by decide))
            have e29 : M'.f 29 = rX8_howCame_0 M3 := (F1 29 (by decide) (by decide) (by decide)).trans g29
            have eS : rX8_isShaped_0 M' = rX8_isShaped_0 M3 := by
              have ew : M'.a 4 2 = M3.a 4 2 := by rw [A4]; exact a54 _ (by decide) (by decide)
              unfold rX8_isShaped_0
              simp only [A13, ew]
            rw [eS]
            refine ⟨fun q h1 h2 h3 h4 h5 h6 h7 h8 h9 => (F1 q h1 h2 h3).trans (g5 q h4 h5 h7 h8 h6 h9), fun i q h1 h2 h3 h4 => (F2 i q h2 h2).trans ((a5 i q h1).trans ((t3 i q h1 h4).trans (a2 i q h3))), fun q h1 h2 h3 h4 => ?_, ⟨l3, ?_, q2, by omega⟩, ?_, (F1 33 (by decide) (by decide) (by decide)).trans g33, ⟨c, c1, e28.trans c2, fun q hq => by rw [A13]; exact c3 q hq⟩, ?_, ?_⟩
            · rw [A4, a54 q h3 h4, t4 q h1 h2, a2 4 q (by decide)]
            · rw [A4, a54 423 (by decide) (by decide)]; exact q1
            · rw [tk]; omega
            · rw [tk, e29, e28]
              have hw := gHow_0 (M := M3) c2 (by omega)
              rcases hw with ⟨w1, w2, w3, w4, w5⟩ | ⟨w1, w2⟩ | ⟨w1, w2⟩ | ⟨w1, w2⟩ | ⟨w1, w2, w3, w4, w5⟩
              · rcases c4 with ⟨d1, d2, d3⟩ | ⟨d1, d2⟩
                · subst d2
                  refine Or.inl ⟨w1, c2, ?_, w5, ?_⟩
                  · rw [A13, w3, show (4 : Int32) = nI 4 from rfl, pk_sub (by omega), Nat.add_sub_cancel]
                  · by_cases z : gDf (M3.a 13) (gBv x n (M.a 14)) (n + 4) = 0
                    · exact Or.inl fun q hq => by rw [A13]; exact gDf_0 z q hq
                    · refine Or.inr ?_
                      by_cases z1 : gDf (M3.a 13) (gBv x n (M.a 14)) (n + 4) = 1
                      · exact absurd (w4.trans gBv_x.symm) (gDf_1 z1)
                      · omega
                · exact absurd d1 (by rw [w2]; decide)
              · refine Or.inr ⟨Or.inr (Or.inr w1), Or.inl ?_⟩
                rcases c4 with ⟨d1, d2, d3⟩ | ⟨d1, d2⟩
                · omega
                · omega
              · refine Or.inr ⟨Or.inr (Or.inl w1), Or.inl ?_⟩
                rcases c4 with ⟨d1, d2, d3⟩ | ⟨d1, d2⟩
                · rcases w2 with w2 | w2
                  · exact absurd d1 w2
                  · by_cases z : gDf (M3.a 13) (gBv x n (M.a 14)) (n + 4) = 0
                    · refine absurd ?_ w2
                      rw [gDf_0 z 2 (by omega), d2]
                      exact (nI_add n 4).symm
                    · omega
                · omega
              · refine Or.inr ⟨Or.inl w1, Or.inl ?_⟩
                rcases w2 with w2 | ⟨w2, w3, w4⟩
                · rcases q5 with h | h
                  · exact absurd h w2
                  · omega
                · rcases c4 with ⟨d1, d2, d3⟩ | ⟨d1, d2⟩
                  · by_cases z : gDf (M3.a 13) (gBv x n (M.a 14)) (n + 4) = 0
                    · refine absurd ?_ w4
                      rw [d2, gXr_congr (gDf_0 z)]; exact gBv_x
                    · omega
                  · omega
              · refine Or.inr ⟨Or.inr (Or.inl w1), ?_⟩
                rcases c4 with ⟨d1, d2, d3⟩ | ⟨d1, d2⟩
                · subst d2
                  by_cases z : gDf (M3.a 13) (gBv x n (M.a 14)) (n + 4) = 0
                  · exact Or.inr ⟨w1, w5, c2, fun q hq => by rw [A13]; exact gDf_0 z q hq⟩
                  · exact Or.inl (by omega)
                · exact Or.inl (by omega)
            · rcases F3 with ⟨h1, h2, h3, h4, h5, h6⟩ | h
              · exact Or.inl ⟨h1, h2, h3.trans (g5 12 (by decide) (by decide) (by decide) (by decide) (by decide) (by decide)), h4.trans (g5 13 (by decide) (by decide) (by decide) (by decide) (by decide) (by decide)), h5.trans (g5 18 (by decide) (by decide) (by decide) (by decide) (by decide) (by decide)), fun i q i1 i2 i3 => (h6 i q).trans ((a5 i q i1).trans ((t3 i q i1 i3).trans (a2 i q i2)))⟩
              · exact Or.inr h
          refine g_aload_n (q := 186) C dX8_sends_185 rfl rfl ?_
          refine g_getfield (v := .int ((M5.f 19))) (q := 189) C fX8_182 dX8_sends_186 rfl HM5.1 rfl ?_
          refine g_if_ne (t := 208) (q := 192) C dX8_sends_189 (by decide) rfl (fun c_189 => ?_) (fun c_189 => ?_)
          ·
            refine E9.2.1 _ _ _ _ _ dX8_sends_208 rfl (Nat.le_of_ble_eq_true rfl) (Nat.le_of_ble_eq_true rfl) ⟨rfl, M5, E, HM5, fr5, ?_⟩
            exact Z M5 E (fun _ _ _ _ => rfl) (fun _ _ _ _ => rfl) (Or.inl ⟨fun h => c_189 (by rw [g5 19 (by decide) (by decide) (by decide) (by decide) (by decide) (by decide)]; exact h), rfl, rfl, rfl, rfl, fun _ _ => rfl⟩)
          ·
            refine g_aload_n (q := 193) C dX8_sends_192 rfl rfl ?_
            refine g_iload_n (q := 194) C dX8_sends_193 rfl rfl ?_
            refine g_aload_n (q := 195) C dX8_sends_194 rfl rfl ?_
            refine g_getfield (v := .ref 127) (q := 198) C fX8_22 dX8_sends_195 rfl HM5.1 rfl ?_
            refine g_sipush (v := 423) (q := 201) C dX8_sends_198 (by decide) rfl ?_
            refine g_ialoadN (x := (M5.a 4 423)) (j := 423) (q := 202) C dX8_sends_201 rfl (HM5.ar (i := 4) (n := 772) (by decide) rfl) (pk_in 423 772 (by decide)) (pk_cl 423) rfl ?_
            refine g_iload (q := 204) C dX8_sends_202 rfl rfl ?_
            refine g_isub (q := 205) C dX8_sends_204 rfl ?_
            have n19 : M.f 19 = 0 := by rw [← g5 19 (by decide) (by decide) (by decide) (by decide) (by decide) (by decide)]; exact c_189
            obtain ⟨U, G, hE, hB⟩ := UU n19
            have p8 : ∀ i q, ¬ i = 4 → ¬ i = 12 → ¬ i = 13 → M5.a i q = M.a i q := fun i q i1 i2 i3 => (a5 i q i1).trans ((t3 i q i1 i3).trans (a2 i q i2))
            have G5 : gLg M5 := by
              obtain ⟨⟨a, y1, y2⟩, ⟨b, y3, y4⟩, y5⟩ := G
              exact ⟨⟨a, y1, (g5 13 (by decide) (by decide) (by decide) (by decide) (by decide) (by decide)).trans y2⟩, ⟨b, y3, (g5 12 (by decide) (by decide) (by decide) (by decide) (by decide) (by decide)).trans y4⟩, fun p hp9 => by rw [p8 6 _ (by decide) (by decide) (by decide), p8 6 _ (by decide) (by decide) (by decide)]; exact y5 p hp9⟩
            have n26 : M5.f 26 = nI (n + 4) := (g5b 26 (by decide) (by decide)).trans g26
            refine g_callVvp (q := 208) (As := [.int 1, .int (((M5.a 4 423) - (nI l)))]) C gyX8_logs gvX8_logs t_1328 (c_X8_logs_1_r (n := n + 4) HM5 (U.kept (g5 18 (by decide) (by decide) (by decide) (by decide) (by decide) (by decide)) (fun q => p8 8 q (by decide) (by decide) (by decide)) (fun q => p8 9 q (by decide) (by decide) (by decide)) (fun q => p8 11 q (by decide) (by decide) (by decide))) G5 n26 (by omega) hE (by omega) (by rw [g12, b2 2 (by omega)]; exact ⟨n, by omega, rfl⟩)) dX8_sends_205 rfl HM5.1 rfl rfl rfl (Nat.le_of_ble_eq_true rfl) (Nat.le_of_ble_eq_true rfl) (Nat.le_of_ble_eq_true rfl) (Nat.le_of_ble_eq_true rfl) (Nat.le_of_ble_eq_true rfl) rfl (fun h14 z14 => ?_)
            obtain ⟨M6, E', HM6, fr6, Y⟩ := z14
            refine E9.2.1 _ _ _ _ _ dX8_sends_208 rfl (Nat.le_of_ble_eq_true rfl) (Nat.le_of_ble_eq_true rfl) ⟨rfl, M6, E', HM6, (gFM.trans fr5 fr6), ?_⟩
            obtain ⟨y1, y2, y3, y4, y5, y6⟩ := Y
            have eb : gBk M5 (n + 4) = (List.range (n + 4)).map (gBv x n (M.a 14)) := List.map_congr_left fun q hq => (g12 q).trans (b2 q (List.mem_range.mp hq))
            rw [eb] at y3 y6
            exact Z M6 E' y4 (fun i q h1 h2 => y5 i q h1) (Or.inr ⟨by rw [← g5 19 (by decide) (by decide) (by decide) (by decide) (by decide) (by decide)]; exact c_189, y1, y2, y3, y6⟩)
          
          
        | succ d ih =>
          intro j hj M3 hq HM3 fr3 T3
          obtain ⟨t1, t3, t4, ⟨l3, q1, q2, q3⟩, q4, q5, c, c1, c2, c3, c4⟩ := id T3
          have g26 : M3.f 26 = nI (n + 4) := (t1 26 (by decide) (by decide) (by decide)).trans f26
          refine g_iload (q := 116) C dX8_sends_114 rfl rfl ?_
          refine g_aload_n (q := 117) C dX8_sends_116 rfl rfl ?_
          refine g_getfield (v := .int ((M3.f 26))) (q := 120) C fX8_167 dX8_sends_117 rfl HM3.1 rfl ?_
          rw [show (M3.f 26) = nI (n + 4) from g26]
          refine g_icmp_ge_f (t := 140) (q := 123) C dX8_sends_120 (by decide) rfl (fun h => nI_ge (show j < n + 4 by omega) (by omega) h) ?_
          refine g_aload_n (q := 124) C dX8_sends_123 rfl rfl ?_
          refine g_aload_n (q := 125) C dX8_sends_124 rfl rfl ?_
          refine g_getfield (v := .ref 135) (q := 128) C fX8_51 dX8_sends_125 rfl HM3.1 rfl ?_
          refine g_iload (q := 130) C dX8_sends_128 rfl rfl ?_
          refine g_ialoadN (x := (M3.a 12 j)) (j := j) (q := 131) C dX8_sends_130 rfl (HM3.ar (i := 12) (n := 260) (by decide) rfl) (pk_in j 260 (by omega)) (pk_cl j rfl (by omega)) rfl ?_
          rw [show (M3.a 12 j) = gBv x n (M.a 14) j from (t3 12 j (by decide) (by decide)).trans (b2 j (by omega))]
          have h430 : gIr (M3.a 4 430) 25 := by rw [t4 430 (by decide) (by decide), a2 4 430 (by decide)]; exact r1
          have hfe : gFe (M3.a 4) := fun k hk => by rw [t4 430 (by decide) (by decide), a2 4 430 (by decide)] at hk; rw [t4 _ (by omega) (by omega), t4 _ (by omega) (by omega), a2 4 _ (by decide), a2 4 _ (by decide)]; exact r2 k hk
          have hre : gIr (M3.f 9) 3 := by rw [t1 9 (by decide) (by decide) (by decide), f2 9 (by decide) (by decide) (by decide) (by decide)]; exact r3
          refine g_callVvp (q := 134) (As := [.int ((gBv x n (M.a 14) j))]) C gyX8_carries gvX8_carries t_1316 (c_X8_carries_r (b := gBv x n (M.a 14) j) HM3 h430 hfe hre c2 (by omega) q1 (by omega)) dX8_sends_131 rfl HM3.1 rfl rfl rfl (Nat.le_of_ble_eq_true rfl) (Nat.le_of_ble_eq_true rfl) (Nat.le_of_ble_eq_true rfl) (Nat.le_of_ble_eq_true rfl) (Nat.le_of_ble_eq_true rfl) rfl (fun h15 z15 => ?_)
          obtain ⟨M4, l4, HM4, fr4, K4⟩ := z15
          refine g_iinc (v := (nI (j + 1))) (q := 137) C dX8_sends_134 rfl (nI_1 j) (by simp only [gset]; rfl) rfl ?_
          refine g_goto (q := 114) C dX8_sends_137 (by decide) ?_
          exact ih (j + 1) (by omega) M4 _ HM4 (gFM.trans fr3 fr4) (T3.step (hby j) q1 c2 (by omega) (by omega) (by omega) K4)
      exact L2 (n + 4) 0 (by omega) M2 h9 HM2 fr2 ⟨fun _ _ _ _ => rfl, fun _ _ _ _ => rfl, fun _ _ _ => rfl, ⟨l, (a2 4 423 (by decide)).trans hl, Nat.le_refl _, by omega⟩, Nat.le_refl _, Or.inl f31, 0, Nat.le_refl _, f28, fun q hq => absurd hq (Nat.not_lt_zero _), Or.inl ⟨f30, rfl, by show 0 + _ ≤ _; omega⟩⟩
      
    | succ d ih =>
      intro j hj  h1 HL1_ fr_
      refine g_iload (q := 31) C dX8_sends_29 rfl rfl ?_
      refine g_iload_n (q := 32) C dX8_sends_31 rfl rfl ?_
      refine g_icmp_ge_f (t := 69) (q := 35) C dX8_sends_32 (by decide) rfl (fun h => nI_ge (show j < n by omega) (by omega) h) ?_
      refine g_aload_n (q := 36) C dX8_sends_35 rfl rfl ?_
      refine g_getfield (v := .ref 135) (q := 39) C fX8_51 dX8_sends_36 rfl HL1_.1 rfl ?_
      refine g_iconst (v := 3) (q := 40) C dX8_sends_39 (by decide) rfl ?_
      refine g_iload (q := 42) C dX8_sends_40 rfl rfl ?_
      refine g_iadd (q := 43) C dX8_sends_42 rfl ?_
      refine g_aload_n (q := 44) C dX8_sends_43 rfl rfl ?_
      refine g_getfield (v := .ref 137) (q := 47) C fX8_57 dX8_sends_44 rfl HL1_.1 rfl ?_
      refine g_iload (q := 49) C dX8_sends_47 rfl rfl ?_
      refine g_ialoadN (x := ((M1.arr 12 (gCpy (M1.a 12) 3 (M.a 14) 0 j)).a 14 j)) (j := j) (q := 50) C dX8_sends_49 rfl (HL1_.ar (i := 14) (n := 256) (by decide) rfl) (pk_in j 256 (by omega)) (pk_cl j rfl (by omega)) rfl ?_
      rw [show ((M1.arr 12 (gCpy (M1.a 12) 3 (M.a 14) 0 j)).a 14 j) = M.a 14 j from (garr_o (by decide)).trans (i1 j)]
      refine g_iastoreN (j := (3 + j)) (q := 51) C dX8_sends_50 rfl (HL1_.ar (i := 12) (n := 260) (by decide) rfl) (pk_in (3 + j) 260 (by omega) (nI_add 3 j)) (pk_cl (3 + j) (nI_add 3 j) (by omega)) ?_
      refine gMsto (i := 12) (j := (3 + j)) (x := (M.a 14 j)) HL1_ (by decide) rfl rfl fun h16 HL16 fr16 => ?_
      refine g_iload (q := 53) C dX8_sends_51 rfl rfl ?_
      refine g_aload_n (q := 54) C dX8_sends_53 rfl rfl ?_
      refine g_getfield (v := .ref 137) (q := 57) C fX8_57 dX8_sends_54 rfl HL16.1 rfl ?_
      refine g_iload (q := 59) C dX8_sends_57 rfl rfl ?_
      refine g_ialoadN (x := ((M1.arr 12 (gCpy (M1.a 12) 3 (M.a 14) 0 j)).a 14 j)) (j := j) (q := 60) C dX8_sends_59 rfl (HL16.ar (i := 14) (n := 256) (by decide) rfl) (pk_in j 256 (by omega)) (pk_cl j rfl (by omega)) (gput_o (by decide)) ?_
      rw [show ((M1.arr 12 (gCpy (M1.a 12) 3 (M.a 14) 0 j)).a 14 j) = M.a 14 j from (garr_o (by decide)).trans (i1 j)]
      refine g_ixor (q := 61) C dX8_sends_60 rfl ?_
      refine g_istore (q := 63) C dX8_sends_61 (Nat.le_of_ble_eq_true rfl) (by simp only [gset]; rfl) rfl ?_
      refine g_iinc (v := (nI (j + 1))) (q := 66) C dX8_sends_63 rfl (nI_1 j) (by simp only [gset]; rfl) rfl ?_
      have e9 : (M1.arr 12 (gCpy (M1.a 12) 3 (M.a 14) 0 j)).put 12 (3 + j) (M.a 14 j) = (M1.arr 12 (gCpy (M1.a 12) 3 (M.a 14) 0 (j + 1))) := garr_cp (by rw [Nat.zero_add])
      have HL9 : gMod h16 (M1.arr 12 (gCpy (M1.a 12) 3 (M.a 14) 0 (j + 1))) := by rw [← e9]; exact HL16
      refine g_goto (q := 29) C dX8_sends_66 (by decide) ?_
      exact ih (j + 1) (by omega)  h16 HL9 (gFM.trans fr_ fr16)
  exact LL4 (n - 0) 0 (by omega)  h3 HL8 (gFM.trans (gFM.trans fr1 fr2) fr3)
  
