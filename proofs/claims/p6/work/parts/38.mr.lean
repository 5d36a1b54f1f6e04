/-! the reference: a turn (by program: wip/p2/m_mr.py) -/
/-- what the reader does of a turn -/
def pX8_rd (M : gMd) : gMd × Option (Int32 × Int32) := if M.a 4 420 = 1 then pX8_sendsOut_0 ((M.set 33 0).put 4 420 0) else if M.a 4 420 = 2 then pX8_asks_0 ((M.set 33 0).put 4 420 0) 1 (M.a 4 10) else pX8_readerGets (rX8_bringsCame ((M.set 33 0).put 4 420 0))
def oX8_rd (M : gMd) (l : Nat) (E : List (Int32 × List Int32)) : Prop := if M.a 4 420 = 1 then oX8_sendsOut_0 ((M.set 33 0).put 4 420 0) l E else if M.a 4 420 = 2 then oX8_asks_0 ((M.set 33 0).put 4 420 0) 1 (M.a 4 10) l E else gIr (M.a 4 429) 64 ∧ oX8_readerGets (rX8_bringsCame ((M.set 33 0).put 4 420 0)) l E
/-- what a turn wants -/
def oTn (M : gMd) (l : Nat) (E : List (Int32 × List Int32)) : Prop := oX8_rd M l E ∧ ∀ M1 E1, gDo 0 (pX8_rd M) l E M1 E1 → ¬ M1.f 33 = 0 → ∃ l1, (M1.a 4 423 = nI l1 ∧ l1 < 1000000000) ∧ oX8_cardGets (M1.set 33 0) l1 E1 ∧ ∀ M2 E2, gDo 1 (pX8_cardGets (M1.set 33 0)) l1 E1 M2 E2 → ¬ M2.f 33 = 0 → gIr (M2.f 28) 64
/-- what a turn makes -/
def gTn (M : gMd) (l : Nat) (E : List (Int32 × List Int32)) (M' : gMd) (E' : List (Int32 × List Int32)) (x : Int32) : Prop :=
  ∃ M1 E1, gDo 0 (pX8_rd M) l E M1 E1 ∧ ((M1.f 33 = 0 ∧ x = 0 ∧ M' = M1 ∧ E' = E1) ∨ (¬ M1.f 33 = 0 ∧ ∃ l1 M2, (M1.a 4 423 = nI l1 ∧ l1 < 1000000000) ∧ oX8_cardGets (M1.set 33 0) l1 E1 ∧ gDo 1 (pX8_cardGets (M1.set 33 0)) l1 E1 M2 E' ∧
    ((M2.f 33 = 0 ∧ x = 1 ∧ M' = (M2.put 4 428 3).put 4 429 0) ∨ (¬ M2.f 33 = 0 ∧ x = 2 ∧ M' = (((M2.put 4 428 (M2.f 29)).put 4 429 (M2.f 28)).arr 4 (gCpy (((M2.put 4 428 (M2.f 29)).put 4 429 (M2.f 28)).a 4) 512 (((M2.put 4 428 (M2.f 29)).put 4 429 (M2.f 28)).a 13) 0 (M2.f 28).toNatClampNeg))))))
theorem dX8_turns_0 : decode cX8_turns 0 = .ok (.aload_n 0, 1) := by decide +kernel
theorem dX8_turns_1 : decode cX8_turns 1 = .ok (.iconst 0, 1) := by decide +kernel
theorem dX8_turns_2 : decode cX8_turns 2 = .ok (.putfield 179, 3) := by decide +kernel
theorem dX8_turns_5 : decode cX8_turns 5 = .ok (.aload_n 0, 1) := by decide +kernel
theorem dX8_turns_6 : decode cX8_turns 6 = .ok (.getfield 22, 3) := by decide +kernel
theorem dX8_turns_9 : decode cX8_turns 9 = .ok (.sipush 420, 3) := by decide +kernel
theorem dX8_turns_12 : decode cX8_turns 12 = .ok (.iaload, 1) := by decide +kernel
theorem dX8_turns_13 : decode cX8_turns 13 = .ok (.istore_n 1, 1) := by decide +kernel
theorem dX8_turns_14 : decode cX8_turns 14 = .ok (.aload_n 0, 1) := by decide +kernel
theorem dX8_turns_15 : decode cX8_turns 15 = .ok (.getfield 22, 3) := by decide +kernel
theorem dX8_turns_18 : decode cX8_turns 18 = .ok (.sipush 420, 3) := by decide +kernel
theorem dX8_turns_21 : decode cX8_turns 21 = .ok (.iconst 0, 1) := by decide +kernel
theorem dX8_turns_22 : decode cX8_turns 22 = .ok (.iastore, 1) := by decide +kernel
theorem dX8_turns_23 : decode cX8_turns 23 = .ok (.iload_n 1, 1) := by decide +kernel
theorem dX8_turns_24 : decode cX8_turns 24 = .ok (.iconst 1, 1) := by decide +kernel
theorem dX8_turns_25 : decode cX8_turns 25 = .ok (.if_icmp .ne 11, 3) := by decide +kernel
theorem dX8_turns_28 : decode cX8_turns 28 = .ok (.aload_n 0, 1) := by decide +kernel
theorem dX8_turns_29 : decode cX8_turns 29 = .ok (.iconst 0, 1) := by decide +kernel
theorem dX8_turns_30 : decode cX8_turns 30 = .ok (.invokevirtual 213, 3) := by decide +kernel
theorem dX8_turns_33 : decode cX8_turns 33 = .ok (.goto 32, 3) := by decide +kernel
theorem dX8_turns_36 : decode cX8_turns 36 = .ok (.iload_n 1, 1) := by decide +kernel
theorem dX8_turns_37 : decode cX8_turns 37 = .ok (.iconst 2, 1) := by decide +kernel
theorem dX8_turns_38 : decode cX8_turns 38 = .ok (.if_icmp .ne 19, 3) := by decide +kernel
theorem dX8_turns_41 : decode cX8_turns 41 = .ok (.aload_n 0, 1) := by decide +kernel
theorem dX8_turns_42 : decode cX8_turns 42 = .ok (.iconst 0, 1) := by decide +kernel
theorem dX8_turns_43 : decode cX8_turns 43 = .ok (.iconst 1, 1) := by decide +kernel
theorem dX8_turns_44 : decode cX8_turns 44 = .ok (.aload_n 0, 1) := by decide +kernel
theorem dX8_turns_45 : decode cX8_turns 45 = .ok (.getfield 22, 3) := by decide +kernel
theorem dX8_turns_48 : decode cX8_turns 48 = .ok (.bipush 10, 2) := by decide +kernel
theorem dX8_turns_50 : decode cX8_turns 50 = .ok (.iaload, 1) := by decide +kernel
theorem dX8_turns_51 : decode cX8_turns 51 = .ok (.invokevirtual 267, 3) := by decide +kernel
theorem dX8_turns_54 : decode cX8_turns 54 = .ok (.goto 11, 3) := by decide +kernel
theorem dX8_turns_57 : decode cX8_turns 57 = .ok (.aload_n 0, 1) := by decide +kernel
theorem dX8_turns_58 : decode cX8_turns 58 = .ok (.invokevirtual 288, 3) := by decide +kernel
theorem dX8_turns_61 : decode cX8_turns 61 = .ok (.aload_n 0, 1) := by decide +kernel
theorem dX8_turns_62 : decode cX8_turns 62 = .ok (.invokevirtual 291, 3) := by decide +kernel
theorem dX8_turns_65 : decode cX8_turns 65 = .ok (.aload_n 0, 1) := by decide +kernel
theorem dX8_turns_66 : decode cX8_turns 66 = .ok (.getfield 179, 3) := by decide +kernel
theorem dX8_turns_69 : decode cX8_turns 69 = .ok (.ifCond .ne 5, 3) := by decide +kernel
theorem dX8_turns_72 : decode cX8_turns 72 = .ok (.iconst 0, 1) := by decide +kernel
theorem dX8_turns_73 : decode cX8_turns 73 = .ok (.ireturn, 1) := by decide +kernel
theorem dX8_turns_74 : decode cX8_turns 74 = .ok (.aload_n 0, 1) := by decide +kernel
theorem dX8_turns_75 : decode cX8_turns 75 = .ok (.iconst 0, 1) := by decide +kernel
theorem dX8_turns_76 : decode cX8_turns 76 = .ok (.putfield 179, 3) := by decide +kernel
theorem dX8_turns_79 : decode cX8_turns 79 = .ok (.aload_n 0, 1) := by decide +kernel
theorem dX8_turns_80 : decode cX8_turns 80 = .ok (.invokevirtual 294, 3) := by decide +kernel
theorem dX8_turns_83 : decode cX8_turns 83 = .ok (.aload_n 0, 1) := by decide +kernel
theorem dX8_turns_84 : decode cX8_turns 84 = .ok (.getfield 179, 3) := by decide +kernel
theorem dX8_turns_87 : decode cX8_turns 87 = .ok (.istore_n 2, 1) := by decide +kernel
theorem dX8_turns_88 : decode cX8_turns 88 = .ok (.aload_n 0, 1) := by decide +kernel
theorem dX8_turns_89 : decode cX8_turns 89 = .ok (.getfield 22, 3) := by decide +kernel
theorem dX8_turns_92 : decode cX8_turns 92 = .ok (.sipush 428, 3) := by decide +kernel
theorem dX8_turns_95 : decode cX8_turns 95 = .ok (.iload_n 2, 1) := by decide +kernel
theorem dX8_turns_96 : decode cX8_turns 96 = .ok (.ifCond .eq 10, 3) := by decide +kernel
theorem dX8_turns_99 : decode cX8_turns 99 = .ok (.aload_n 0, 1) := by decide +kernel
theorem dX8_turns_100 : decode cX8_turns 100 = .ok (.getfield 176, 3) := by decide +kernel
theorem dX8_turns_103 : decode cX8_turns 103 = .ok (.goto 4, 3) := by decide +kernel
theorem dX8_turns_106 : decode cX8_turns 106 = .ok (.iconst 3, 1) := by decide +kernel
theorem dX8_turns_107 : decode cX8_turns 107 = .ok (.iastore, 1) := by decide +kernel
theorem dX8_turns_108 : decode cX8_turns 108 = .ok (.aload_n 0, 1) := by decide +kernel
theorem dX8_turns_109 : decode cX8_turns 109 = .ok (.getfield 22, 3) := by decide +kernel
theorem dX8_turns_112 : decode cX8_turns 112 = .ok (.sipush 429, 3) := by decide +kernel
theorem dX8_turns_115 : decode cX8_turns 115 = .ok (.iload_n 2, 1) := by decide +kernel
theorem dX8_turns_116 : decode cX8_turns 116 = .ok (.ifCond .eq 10, 3) := by decide +kernel
theorem dX8_turns_119 : decode cX8_turns 119 = .ok (.aload_n 0, 1) := by decide +kernel
theorem dX8_turns_120 : decode cX8_turns 120 = .ok (.getfield 160, 3) := by decide +kernel
theorem dX8_turns_123 : decode cX8_turns 123 = .ok (.goto 4, 3) := by decide +kernel
theorem dX8_turns_126 : decode cX8_turns 126 = .ok (.iconst 0, 1) := by decide +kernel
theorem dX8_turns_127 : decode cX8_turns 127 = .ok (.iastore, 1) := by decide +kernel
theorem dX8_turns_128 : decode cX8_turns 128 = .ok (.iconst 0, 1) := by decide +kernel
theorem dX8_turns_129 : decode cX8_turns 129 = .ok (.istore_n 3, 1) := by decide +kernel
theorem dX8_turns_130 : decode cX8_turns 130 = .ok (.iload_n 3, 1) := by decide +kernel
theorem dX8_turns_131 : decode cX8_turns 131 = .ok (.aload_n 0, 1) := by decide +kernel
theorem dX8_turns_132 : decode cX8_turns 132 = .ok (.getfield 22, 3) := by decide +kernel
theorem dX8_turns_135 : decode cX8_turns 135 = .ok (.sipush 429, 3) := by decide +kernel
theorem dX8_turns_138 : decode cX8_turns 138 = .ok (.iaload, 1) := by decide +kernel
theorem dX8_turns_139 : decode cX8_turns 139 = .ok (.if_icmp .ge 25, 3) := by decide +kernel
theorem dX8_turns_142 : decode cX8_turns 142 = .ok (.aload_n 0, 1) := by decide +kernel
theorem dX8_turns_143 : decode cX8_turns 143 = .ok (.getfield 22, 3) := by decide +kernel
theorem dX8_turns_146 : decode cX8_turns 146 = .ok (.sipush 512, 3) := by decide +kernel
theorem dX8_turns_149 : decode cX8_turns 149 = .ok (.iload_n 3, 1) := by decide +kernel
theorem dX8_turns_150 : decode cX8_turns 150 = .ok (.iadd, 1) := by decide +kernel
theorem dX8_turns_151 : decode cX8_turns 151 = .ok (.aload_n 0, 1) := by decide +kernel
theorem dX8_turns_152 : decode cX8_turns 152 = .ok (.getfield 54, 3) := by decide +kernel
theorem dX8_turns_155 : decode cX8_turns 155 = .ok (.iload_n 3, 1) := by decide +kernel
theorem dX8_turns_156 : decode cX8_turns 156 = .ok (.iaload, 1) := by decide +kernel
theorem dX8_turns_157 : decode cX8_turns 157 = .ok (.iastore, 1) := by decide +kernel
theorem dX8_turns_158 : decode cX8_turns 158 = .ok (.iinc 3 1, 3) := by decide +kernel
theorem dX8_turns_161 : decode cX8_turns 161 = .ok (.goto (-31), 3) := by decide +kernel
theorem dX8_turns_164 : decode cX8_turns 164 = .ok (.iload_n 2, 1) := by decide +kernel
theorem dX8_turns_165 : decode cX8_turns 165 = .ok (.ifCond .eq 7, 3) := by decide +kernel
theorem dX8_turns_168 : decode cX8_turns 168 = .ok (.iconst 2, 1) := by decide +kernel
theorem dX8_turns_169 : decode cX8_turns 169 = .ok (.goto 4, 3) := by decide +kernel
theorem dX8_turns_172 : decode cX8_turns 172 = .ok (.iconst 1, 1) := by decide +kernel
theorem dX8_turns_173 : decode cX8_turns 173 = .ok (.ireturn, 1) := by decide +kernel
set_option maxRecDepth 100000 in
set_option maxHeartbeats 4000000 in
theorem c_X8_turns_r {hp : List gA} {M : gMd} {l : Nat} {E0 : List (Int32 × List Int32)} (HM : gMod hp M) (ok : oTn M l E0) : gM yX8_turns cX8_turns 4 ((some .int)) 10 230 [.ref 122] (hp) (0) (0) (fun v h => ∃ x, v = some (.int x) ∧ ∃ M' E', gMod h M' ∧ gFM hp h ∧ gTn M l E0 M' E' x) := by
  refine gM_of (ls0 := [some (.ref 122), none, none, none]) (by decide +kernel) (Nat.le_of_ble_eq_true rfl) rfl fun X C E => ?_
  obtain ⟨ok1, ok2⟩ := ok
  have K : ∀ (M1 : gMd) (E1 : List (Int32 × List Int32)) (hz : List gA), gMod hz M1 → gFM hp hz → gDo 0 (pX8_rd M) l E0 M1 E1 → gG X 65 [some (.ref 122), some (.int ((M.a 4 420))), none, none] [] hz 0 0 := by
    intro M1 E1 hz HZ frz dd1
    refine g_aload_n (q := 66) C dX8_turns_65 rfl rfl ?_
    refine g_getfield (v := .int ((M1.f 33))) (q := 69) C fX8_179 dX8_turns_66 rfl HZ.1 rfl ?_
    refine g_if_ne (t := 74) (q := 72) C dX8_turns_69 (by decide) rfl (fun c_69 => ?_) (fun c_69 => ?_)
    ·
      refine g_aload_n (q := 75) C dX8_turns_74 rfl rfl ?_
      refine g_iconst (v := 0) (q := 76) C dX8_turns_75 (by decide) rfl ?_
      refine g_putfield (q := 79) C fX8_179 dX8_turns_76 rfl HZ.1 (Nat.le_of_ble_eq_true rfl) (Or.inl rfl) rfl rfl (by intro z h; cases h) ?_
      refine gMput (j := 33) (x := 0) HZ rfl fun h1 HL1 fr1 => ?_
      refine g_aload_n (q := 80) C dX8_turns_79 rfl rfl ?_
      obtain ⟨l1, ok23, okc, ok3⟩ := ok2 M1 E1 dd1 c_69
      have ok := okc
      refine g_callVvp (q := 83) (As := []) C gyX8_cardGets gvX8_cardGets t_1424 (c_X8_cardGets_p HL1 ok) dX8_turns_80 rfl HL1.1 rfl rfl rfl (Nat.le_of_ble_eq_true rfl) (Nat.le_of_ble_eq_true rfl) (Nat.le_of_ble_eq_true rfl) (Nat.le_of_ble_eq_true rfl) (Nat.le_of_ble_eq_true rfl) rfl (fun h2 z2 => ?_)
      obtain ⟨M', E', HM', frs, dd⟩ := z2
      have HM2 := HM'
      by_cases c33 : M'.f 33 = 0
      ·
        refine g_aload_n (q := 84) C dX8_turns_83 rfl rfl ?_
        refine g_getfield (v := .int (((M').f 33))) (q := 87) C fX8_179 dX8_turns_84 rfl HM2.1 rfl ?_
        refine g_istore_n (q := 88) C dX8_turns_87 (Nat.le_of_ble_eq_true rfl) (by simp only [gset]; rfl) rfl ?_
        refine g_aload_n (q := 89) C dX8_turns_88 rfl rfl ?_
        refine g_getfield (v := .ref 127) (q := 92) C fX8_22 dX8_turns_89 rfl HM2.1 rfl ?_
        refine g_sipush (v := 428) (q := 95) C dX8_turns_92 (by decide) rfl ?_
        refine g_iload_n (q := 96) C dX8_turns_95 rfl rfl ?_
        refine g_if_eq_t (t := 106) C dX8_turns_96 (by decide) c33 ?_
        refine g_iconst (v := 3) (q := 107) C dX8_turns_106 (by decide) rfl ?_
        refine g_iastoreN (j := 428) (q := 108) C dX8_turns_107 rfl (HM2.ar (i := 4) (n := 772) (by decide) rfl) (pk_in 428 772 (by decide)) (pk_cl 428) ?_
        refine gMsto (i := 4) (j := 428) (x := 3) HM2 (by decide) rfl rfl fun h3 HL3 fr3 => ?_
        refine g_aload_n (q := 109) C dX8_turns_108 rfl rfl ?_
        refine g_getfield (v := .ref 127) (q := 112) C fX8_22 dX8_turns_109 rfl HL3.1 rfl ?_
        refine g_sipush (v := 429) (q := 115) C dX8_turns_112 (by decide) rfl ?_
        refine g_iload_n (q := 116) C dX8_turns_115 rfl rfl ?_
        refine g_if_eq_t (t := 126) C dX8_turns_116 (by decide) c33 ?_
        refine g_iconst (v := 0) (q := 127) C dX8_turns_126 (by decide) rfl ?_
        refine g_iastoreN (j := 429) (q := 128) C dX8_turns_127 rfl (HL3.ar (i := 4) (n := 772) (by decide) rfl) (pk_in 429 772 (by decide)) (pk_cl 429) ?_
        refine gMsto (i := 4) (j := 429) (x := 0) HL3 (by decide) rfl rfl fun h4 HL4 fr4 => ?_
        refine g_iconst (v := 0) (q := 129) C dX8_turns_128 (by decide) rfl ?_
        refine g_istore_n (q := 130) C dX8_turns_129 (Nat.le_of_ble_eq_true rfl) (by simp only [gset]; rfl) rfl ?_
        refine g_iload_n (q := 131) C dX8_turns_130 rfl rfl ?_
        refine g_aload_n (q := 132) C dX8_turns_131 rfl rfl ?_
        refine g_getfield (v := .ref 127) (q := 135) C fX8_22 dX8_turns_132 rfl HL4.1 rfl ?_
        refine g_sipush (v := 429) (q := 138) C dX8_turns_135 (by decide) rfl ?_
        refine g_ialoadN (x := 0) (j := 429) (q := 139) C dX8_turns_138 rfl (HL4.ar (i := 4) (n := 772) (by decide) rfl) (pk_in 429 772 (by decide)) (pk_cl 429) gput_s ?_
        refine g_icmp_ge_t (t := 164) C dX8_turns_139 (by decide) (by decide) ?_
        refine g_iload_n (q := 165) C dX8_turns_164 rfl rfl ?_
        refine g_if_eq_t (t := 172) C dX8_turns_165 (by decide) c33 ?_
        refine g_iconst (v := 1) (q := 173) C dX8_turns_172 (by decide) rfl ?_
        exact E.1 _ _ _ _ _ _ _ dX8_turns_173 rfl rfl (Nat.le_of_ble_eq_true rfl) (Nat.le_of_ble_eq_true rfl) ⟨_, rfl, _, _, HL4, (gFM.trans (gFM.trans (gFM.trans (gFM.trans frz fr1) frs) fr3) fr4), M1, E1, dd1, Or.inr ⟨c_69, l1, _, ok23, okc, dd, Or.inl ⟨c33, rfl, rfl⟩⟩⟩
      ·
        have hn := ok3 M' E' dd c33
        have h64 := hn.le (by decide)
        refine g_aload_n (q := 84) C dX8_turns_83 rfl rfl ?_
        refine g_getfield (v := .int (((M').f 33))) (q := 87) C fX8_179 dX8_turns_84 rfl HM2.1 rfl ?_
        refine g_istore_n (q := 88) C dX8_turns_87 (Nat.le_of_ble_eq_true rfl) (by simp only [gset]; rfl) rfl ?_
        refine g_aload_n (q := 89) C dX8_turns_88 rfl rfl ?_
        refine g_getfield (v := .ref 127) (q := 92) C fX8_22 dX8_turns_89 rfl HM2.1 rfl ?_
        refine g_sipush (v := 428) (q := 95) C dX8_turns_92 (by decide) rfl ?_
        refine g_iload_n (q := 96) C dX8_turns_95 rfl rfl ?_
        refine g_if_eq_f (t := 106) (q := 99) C dX8_turns_96 (by decide) rfl c33 ?_
        refine g_aload_n (q := 100) C dX8_turns_99 rfl rfl ?_
        refine g_getfield (v := .int (((M').f 29))) (q := 103) C fX8_176 dX8_turns_100 rfl HM2.1 rfl ?_
        refine g_goto (q := 107) C dX8_turns_103 (by decide) ?_
        refine g_iastoreN (j := 428) (q := 108) C dX8_turns_107 rfl (HM2.ar (i := 4) (n := 772) (by decide) rfl) (pk_in 428 772 (by decide)) (pk_cl 428) ?_
        refine gMsto (i := 4) (j := 428) (x := ((M').f 29)) HM2 (by decide) rfl rfl fun h5 HL5 fr5 => ?_
        refine g_aload_n (q := 109) C dX8_turns_108 rfl rfl ?_
        refine g_getfield (v := .ref 127) (q := 112) C fX8_22 dX8_turns_109 rfl HL5.1 rfl ?_
        refine g_sipush (v := 429) (q := 115) C dX8_turns_112 (by decide) rfl ?_
        refine g_iload_n (q := 116) C dX8_turns_115 rfl rfl ?_
        refine g_if_eq_f (t := 126) (q := 119) C dX8_turns_116 (by decide) rfl c33 ?_
        refine g_aload_n (q := 120) C dX8_turns_119 rfl rfl ?_
        refine g_getfield (v := .int (((M').f 28))) (q := 123) C fX8_160 dX8_turns_120 rfl HL5.1 rfl ?_
        refine g_goto (q := 127) C dX8_turns_123 (by decide) ?_
        refine g_iastoreN (j := 429) (q := 128) C dX8_turns_127 rfl (HL5.ar (i := 4) (n := 772) (by decide) rfl) (pk_in 429 772 (by decide)) (pk_cl 429) ?_
        refine gMsto (i := 4) (j := 429) (x := ((M').f 28)) HL5 (by decide) rfl rfl fun h6 HL6 fr6 => ?_
        refine g_iconst (v := 0) (q := 129) C dX8_turns_128 (by decide) rfl ?_
        refine g_istore_n (q := 130) C dX8_turns_129 (Nat.le_of_ble_eq_true rfl) (by simp only [gset]; rfl) rfl ?_
        have LL7 : ∀ d j : Nat, j + d = (M'.f 28).toNatClampNeg → ∀  (h1 : List gA), gMod h1 (((M'.put 4 428 ((M').f 29)).put 4 429 ((M').f 28)).arr 4 (gCpy (((M'.put 4 428 ((M').f 29)).put 4 429 ((M').f 28)).a 4) 512 (((M'.put 4 428 ((M').f 29)).put 4 429 ((M').f 28)).a 13) 0 j)) → gFM hp h1 → gG X 130 [some (.ref 122), some (.int ((M.a 4 420))), some (.int ((M'.f 33))), some (.int ((nI j)))] [] h1 0 0 := by
          intro d
          induction d with
          | zero =>
            intro j hj  h1 HL1_ fr_
            obtain rfl : (M'.f 28).toNatClampNeg = j := by omega
            refine g_iload_n (q := 131) C dX8_turns_130 rfl rfl ?_
            refine g_aload_n (q := 132) C dX8_turns_131 rfl rfl ?_
            refine g_getfield (v := .ref 127) (q := 135) C fX8_22 dX8_turns_132 rfl HL1_.1 rfl ?_
            refine g_sipush (v := 429) (q := 138) C dX8_turns_135 (by decide) rfl ?_
            refine g_ialoadN (x := ((((M'.put 4 428 ((M').f 29)).put 4 429 ((M').f 28)).arr 4 (gCpy (((M'.put 4 428 ((M').f 29)).put 4 429 ((M').f 28)).a 4) 512 (((M'.put 4 428 ((M').f 29)).put 4 429 ((M').f 28)).a 13) 0 ((M'.f 28).toNatClampNeg))).a 4 429)) (j := 429) (q := 139) C dX8_turns_138 rfl (HL1_.ar (i := 4) (n := 772) (by decide) rfl) (pk_in 429 772 (by decide)) (pk_cl 429) rfl ?_
            rw [show ((((M'.put 4 428 ((M').f 29)).put 4 429 ((M').f 28)).arr 4 (gCpy (((M'.put 4 428 ((M').f 29)).put 4 429 ((M').f 28)).a 4) 512 (((M'.put 4 428 ((M').f 29)).put 4 429 ((M').f 28)).a 13) 0 ((M'.f 28).toNatClampNeg))).a 4 429) = nI ((M'.f 28).toNatClampNeg) from ((garr_s.trans (gCpy_out (by omega)))).trans ((show ((M'.put 4 428 ((M').f 29)).put 4 429 ((M').f 28)).a 4 429 = M'.f 28 from gput_s).trans (hn.c (by decide)))]
            refine g_icmp_ge_t (t := 164) C dX8_turns_139 (by decide) (nI_le (Nat.le_refl _) (by omega)) ?_
            refine g_iload_n (q := 165) C dX8_turns_164 rfl rfl ?_
            refine g_if_eq_f (t := 172) (q := 168) C dX8_turns_165 (by decide) rfl c33 ?_
            refine g_iconst (v := 2) (q := 169) C dX8_turns_168 (by decide) rfl ?_
            refine g_goto (q := 173) C dX8_turns_169 (by decide) ?_
            exact E.1 _ _ _ _ _ _ _ dX8_turns_173 rfl rfl (Nat.le_of_ble_eq_true rfl) (Nat.le_of_ble_eq_true rfl) ⟨_, rfl, _, _, HL1_, fr_, M1, E1, dd1, Or.inr ⟨c_69, l1, _, ok23, okc, dd, Or.inr ⟨c33, rfl, rfl⟩⟩⟩
          | succ d ih =>
            intro j hj  h1 HL1_ fr_
            refine g_iload_n (q := 131) C dX8_turns_130 rfl rfl ?_
            refine g_aload_n (q := 132) C dX8_turns_131 rfl rfl ?_
            refine g_getfield (v := .ref 127) (q := 135) C fX8_22 dX8_turns_132 rfl HL1_.1 rfl ?_
            refine g_sipush (v := 429) (q := 138) C dX8_turns_135 (by decide) rfl ?_
            refine g_ialoadN (x := ((((M'.put 4 428 ((M').f 29)).put 4 429 ((M').f 28)).arr 4 (gCpy (((M'.put 4 428 ((M').f 29)).put 4 429 ((M').f 28)).a 4) 512 (((M'.put 4 428 ((M').f 29)).put 4 429 ((M').f 28)).a 13) 0 j)).a 4 429)) (j := 429) (q := 139) C dX8_turns_138 rfl (HL1_.ar (i := 4) (n := 772) (by decide) rfl) (pk_in 429 772 (by decide)) (pk_cl 429) rfl ?_
            rw [show ((((M'.put 4 428 ((M').f 29)).put 4 429 ((M').f 28)).arr 4 (gCpy (((M'.put 4 428 ((M').f 29)).put 4 429 ((M').f 28)).a 4) 512 (((M'.put 4 428 ((M').f 29)).put 4 429 ((M').f 28)).a 13) 0 j)).a 4 429) = nI ((M'.f 28).toNatClampNeg) from ((garr_s.trans (gCpy_out (by omega)))).trans ((show ((M'.put 4 428 ((M').f 29)).put 4 429 ((M').f 28)).a 4 429 = M'.f 28 from gput_s).trans (hn.c (by decide)))]
            refine g_icmp_ge_f (t := 164) (q := 142) C dX8_turns_139 (by decide) rfl (fun h => nI_ge (show j < (M'.f 28).toNatClampNeg by omega) (by omega) h) ?_
            refine g_aload_n (q := 143) C dX8_turns_142 rfl rfl ?_
            refine g_getfield (v := .ref 127) (q := 146) C fX8_22 dX8_turns_143 rfl HL1_.1 rfl ?_
            refine g_sipush (v := 512) (q := 149) C dX8_turns_146 (by decide) rfl ?_
            refine g_iload_n (q := 150) C dX8_turns_149 rfl rfl ?_
            refine g_iadd (q := 151) C dX8_turns_150 rfl ?_
            refine g_aload_n (q := 152) C dX8_turns_151 rfl rfl ?_
            refine g_getfield (v := .ref 136) (q := 155) C fX8_54 dX8_turns_152 rfl HL1_.1 rfl ?_
            refine g_iload_n (q := 156) C dX8_turns_155 rfl rfl ?_
            refine g_ialoadN (x := ((((M'.put 4 428 ((M').f 29)).put 4 429 ((M').f 28)).arr 4 (gCpy (((M'.put 4 428 ((M').f 29)).put 4 429 ((M').f 28)).a 4) 512 (((M'.put 4 428 ((M').f 29)).put 4 429 ((M').f 28)).a 13) 0 j)).a 13 j)) (j := j) (q := 157) C dX8_turns_156 rfl (HL1_.ar (i := 13) (n := 260) (by decide) rfl) (pk_in j 260 (by omega)) (pk_cl j rfl (by omega)) rfl ?_
            refine g_iastoreN (j := (512 + j)) (q := 158) C dX8_turns_157 rfl (HL1_.ar (i := 4) (n := 772) (by decide) rfl) (pk_in (512 + j) 772 (by omega) (nI_add 512 j)) (pk_cl (512 + j) (nI_add 512 j) (by omega)) ?_
            refine gMsto (i := 4) (j := (512 + j)) (x := ((((M'.put 4 428 ((M').f 29)).put 4 429 ((M').f 28)).arr 4 (gCpy (((M'.put 4 428 ((M').f 29)).put 4 429 ((M').f 28)).a 4) 512 (((M'.put 4 428 ((M').f 29)).put 4 429 ((M').f 28)).a 13) 0 j)).a 13 j)) HL1_ (by decide) rfl rfl fun h8 HL8 fr8 => ?_
            refine g_iinc (v := (nI (j + 1))) (q := 161) C dX8_turns_158 rfl (nI_1 j) (by simp only [gset]; rfl) rfl ?_
            have e9 : (((M'.put 4 428 ((M').f 29)).put 4 429 ((M').f 28)).arr 4 (gCpy (((M'.put 4 428 ((M').f 29)).put 4 429 ((M').f 28)).a 4) 512 (((M'.put 4 428 ((M').f 29)).put 4 429 ((M').f 28)).a 13) 0 j)).put 4 (512 + j) ((((M'.put 4 428 ((M').f 29)).put 4 429 ((M').f 28)).arr 4 (gCpy (((M'.put 4 428 ((M').f 29)).put 4 429 ((M').f 28)).a 4) 512 (((M'.put 4 428 ((M').f 29)).put 4 429 ((M').f 28)).a 13) 0 j)).a 13 j) = (((M'.put 4 428 ((M').f 29)).put 4 429 ((M').f 28)).arr 4 (gCpy (((M'.put 4 428 ((M').f 29)).put 4 429 ((M').f 28)).a 4) 512 (((M'.put 4 428 ((M').f 29)).put 4 429 ((M').f 28)).a 13) 0 (j + 1))) := garr_cp (by show (((M'.put 4 428 ((M').f 29)).put 4 429 ((M').f 28)).arr 4 (gCpy (((M'.put 4 428 ((M').f 29)).put 4 429 ((M').f 28)).a 4) 512 (((M'.put 4 428 ((M').f 29)).put 4 429 ((M').f 28)).a 13) 0 j)).a 13 _ = _; rw [(garr_o (by decide))]; rw [Nat.zero_add])
            have HL9 : gMod h8 (((M'.put 4 428 ((M').f 29)).put 4 429 ((M').f 28)).arr 4 (gCpy (((M'.put 4 428 ((M').f 29)).put 4 429 ((M').f 28)).a 4) 512 (((M'.put 4 428 ((M').f 29)).put 4 429 ((M').f 28)).a 13) 0 (j + 1))) := by rw [← e9]; exact HL8
            refine g_goto (q := 130) C dX8_turns_161 (by decide) ?_
            exact ih (j + 1) (by omega)  h8 HL9 (gFM.trans fr_ fr8)
        have HL8 : gMod h6 (((M'.put 4 428 ((M').f 29)).put 4 429 ((M').f 28)).arr 4 (gCpy (((M'.put 4 428 ((M').f 29)).put 4 429 ((M').f 28)).a 4) 512 (((M'.put 4 428 ((M').f 29)).put 4 429 ((M').f 28)).a 13) 0 0)) := by rw [garr_0]; exact HL6
        exact LL7 ((M'.f 28).toNatClampNeg - 0) 0 (by omega)  h6 HL8 (gFM.trans (gFM.trans (gFM.trans (gFM.trans frz fr1) frs) fr5) fr6)
        
      
    ·
      refine g_iconst (v := 0) (q := 73) C dX8_turns_72 (by decide) rfl ?_
      exact E.1 _ _ _ _ _ _ _ dX8_turns_73 rfl rfl (Nat.le_of_ble_eq_true rfl) (Nat.le_of_ble_eq_true rfl) ⟨_, rfl, _, _, HZ, frz, M1, E1, dd1, Or.inl ⟨c_69, rfl, rfl, rfl⟩⟩
  refine g_aload_n (q := 1) C dX8_turns_0 rfl rfl ?_
  refine g_iconst (v := 0) (q := 2) C dX8_turns_1 (by decide) rfl ?_
  refine g_putfield (q := 5) C fX8_179 dX8_turns_2 rfl HM.1 (Nat.le_of_ble_eq_true rfl) (Or.inl rfl) rfl rfl (by intro z h; cases h) ?_
  refine gMput (j := 33) (x := 0) HM rfl fun h9 HL9 fr9 => ?_
  refine g_aload_n (q := 6) C dX8_turns_5 rfl rfl ?_
  refine g_getfield (v := .ref 127) (q := 9) C fX8_22 dX8_turns_6 rfl HL9.1 rfl ?_
  refine g_sipush (v := 420) (q := 12) C dX8_turns_9 (by decide) rfl ?_
  refine g_ialoadN (x := (M.a 4 420)) (j := 420) (q := 13) C dX8_turns_12 rfl (HL9.ar (i := 4) (n := 772) (by decide) rfl) (pk_in 420 772 (by decide)) (pk_cl 420) gset_a ?_
  refine g_istore_n (q := 14) C dX8_turns_13 (Nat.le_of_ble_eq_true rfl) (by simp only [gset]; rfl) rfl ?_
  refine g_aload_n (q := 15) C dX8_turns_14 rfl rfl ?_
  refine g_getfield (v := .ref 127) (q := 18) C fX8_22 dX8_turns_15 rfl HL9.1 rfl ?_
  refine g_sipush (v := 420) (q := 21) C dX8_turns_18 (by decide) rfl ?_
  refine g_iconst (v := 0) (q := 22) C dX8_turns_21 (by decide) rfl ?_
  refine g_iastoreN (j := 420) (q := 23) C dX8_turns_22 rfl (HL9.ar (i := 4) (n := 772) (by decide) rfl) (pk_in 420 772 (by decide)) (pk_cl 420) ?_
  refine gMsto (i := 4) (j := 420) (x := 0) HL9 (by decide) rfl rfl fun h10 HL10 fr10 => ?_
  refine g_iload_n (q := 24) C dX8_turns_23 rfl rfl ?_
  refine g_iconst (v := 1) (q := 25) C dX8_turns_24 (by decide) rfl ?_
  refine g_icmp_ne (t := 36) (q := 28) C dX8_turns_25 (by decide) rfl (fun c_25 => ?_) (fun c_25 => ?_)
  ·
    refine g_iload_n (q := 37) C dX8_turns_36 rfl rfl ?_
    refine g_iconst (v := 2) (q := 38) C dX8_turns_37 (by decide) rfl ?_
    refine g_icmp_ne (t := 57) (q := 41) C dX8_turns_38 (by decide) rfl (fun c_38 => ?_) (fun c_38 => ?_)
    ·
      refine g_aload_n (q := 58) C dX8_turns_57 rfl rfl ?_
      have ok := ok1
      unfold oX8_rd at ok
      rw [if_neg c_25, if_neg c_38] at ok
      obtain ⟨hn64, ok⟩ := ok
      refine g_callVvp (q := 61) (As := []) C gyX8_bringsCame gvX8_bringsCame t_1348 (c_X8_bringsCame_m HL10 hn64) dX8_turns_58 rfl HL10.1 rfl rfl rfl (Nat.le_of_ble_eq_true rfl) (Nat.le_of_ble_eq_true rfl) (Nat.le_of_ble_eq_true rfl) (Nat.le_of_ble_eq_true rfl) (Nat.le_of_ble_eq_true rfl) rfl (fun h11 z11 => ?_)
      obtain ⟨HL11, fr11⟩ := z11
      refine g_aload_n (q := 62) C dX8_turns_61 rfl rfl ?_
      refine g_callVvp (q := 65) (As := []) C gyX8_readerGets gvX8_readerGets t_1352 (c_X8_readerGets_p HL11 ok) dX8_turns_62 rfl HL11.1 rfl rfl rfl (Nat.le_of_ble_eq_true rfl) (Nat.le_of_ble_eq_true rfl) (Nat.le_of_ble_eq_true rfl) (Nat.le_of_ble_eq_true rfl) (Nat.le_of_ble_eq_true rfl) rfl (fun h12 z12 => ?_)
      obtain ⟨M', E', HM', frs, dd⟩ := z12
      exact K _ _ _ HM' (gFM.trans (gFM.trans (gFM.trans fr9 fr10) fr11) frs) (by unfold pX8_rd; rw [if_neg c_25, if_neg c_38]; exact dd)
    ·
      refine g_aload_n (q := 42) C dX8_turns_41 rfl rfl ?_
      refine g_iconst (v := 0) (q := 43) C dX8_turns_42 (by decide) rfl ?_
      refine g_iconst (v := 1) (q := 44) C dX8_turns_43 (by decide) rfl ?_
      refine g_aload_n (q := 45) C dX8_turns_44 rfl rfl ?_
      refine g_getfield (v := .ref 127) (q := 48) C fX8_22 dX8_turns_45 rfl HL10.1 rfl ?_
      refine g_bipush (v := 10) (q := 50) C dX8_turns_48 (by decide) rfl ?_
      refine g_ialoadN (x := (M.a 4 10)) (j := 10) (q := 51) C dX8_turns_50 rfl (HL10.ar (i := 4) (n := 772) (by decide) rfl) (pk_in 10 772 (by decide)) (pk_cl 10) ((gput_n (by decide)).trans gset_a) ?_
      have ok := ok1
      unfold oX8_rd at ok
      rw [if_neg c_25, if_pos c_38] at ok
      refine g_callVvp (q := 54) (As := [.int 0, .int 1, .int ((M.a 4 10))]) C gyX8_asks gvX8_asks t_1340 (c_X8_asks_0_p HL10 ok) dX8_turns_51 rfl HL10.1 rfl rfl rfl (Nat.le_of_ble_eq_true rfl) (Nat.le_of_ble_eq_true rfl) (Nat.le_of_ble_eq_true rfl) (Nat.le_of_ble_eq_true rfl) (Nat.le_of_ble_eq_true rfl) rfl (fun h13 z13 => ?_)
      obtain ⟨M', E', HM', frs, dd⟩ := z13
      refine g_goto (q := 65) C dX8_turns_54 (by decide) ?_
      exact K _ _ _ HM' (gFM.trans (gFM.trans fr9 fr10) frs) (by unfold pX8_rd; rw [if_neg c_25, if_pos c_38]; exact dd)
  ·
    refine g_aload_n (q := 29) C dX8_turns_28 rfl rfl ?_
    refine g_iconst (v := 0) (q := 30) C dX8_turns_29 (by decide) rfl ?_
    have ok := ok1
    unfold oX8_rd at ok
    rw [if_pos c_25] at ok
    refine g_callVvp (q := 33) (As := [.int 0]) C gyX8_sendsOut gvX8_sendsOut t_1304 (c_X8_sendsOut_0_p HL10 ok) dX8_turns_30 rfl HL10.1 rfl rfl rfl (Nat.le_of_ble_eq_true rfl) (Nat.le_of_ble_eq_true rfl) (Nat.le_of_ble_eq_true rfl) (Nat.le_of_ble_eq_true rfl) (Nat.le_of_ble_eq_true rfl) rfl (fun h14 z14 => ?_)
    obtain ⟨M', E', HM', frs, dd⟩ := z14
    refine g_goto (q := 65) C dX8_turns_33 (by decide) ?_
    exact K _ _ _ HM' (gFM.trans (gFM.trans fr9 fr10) frs) (by unfold pX8_rd; rw [if_pos c_25]; exact dd)
