/-! the reference: a block noted (by program: wip/p2/m_mg.py) -/
theorem nI_add_sub1 {n : Nat} : nI (n + 1) - 1 = nI n := by rw [show (1 : Int32) = nI 1 from rfl, pk_sub (by omega), Nat.add_sub_cancel]
/-- what unlikeOf leaves: the block is there, or it is put behind the others -/
def gUo (M : gMd) (side : Int32) (n : Nat) (E : List (Int32 × List Int32)) (M' : gMd) (id : Nat) (E' : List (Int32 × List Int32)) : Prop :=
  gUn M' E' ∧ id < E'.length ∧ gEn E' id = (side, gBk M n) ∧ (∀ k, ¬ k = 18 → M'.f k = M.f k) ∧ (∀ i j, ¬ i = 8 → ¬ i = 9 → ¬ i = 10 → ¬ i = 11 → M'.a i j = M.a i j) ∧
  ((E' = E ∧ M'.f 18 = M.f 18) ∨ ((∀ k, k < E.length → ¬ gEn E k = (side, gBk M n)) ∧ E' = E ++ [(side, gBk M n)]))
theorem gUn.add {M M' : gMd} {E : List (Int32 × List Int32)} {side : Int32} {bl : List Int32} (U : gUn M E) (hE : E.length < 8192) (hb : gOf E E.length + bl.length ≤ 131072) (h18 : M'.f 18 = nI (E.length + 1)) (h8 : ∀ i, ¬ i = E.length + 1 → M'.a 8 i = M.a 8 i) (h8n : M'.a 8 (E.length + 1) = nI (gOf E E.length + bl.length))
    (h9 : ∀ i, ¬ i = E.length → M'.a 9 i = M.a 9 i) (h9n : M'.a 9 E.length = side) (h11 : ∀ k, k < gOf E E.length → M'.a 11 k = M.a 11 k) (h11n : ∀ k, k < bl.length → M'.a 11 (gOf E E.length + k) = bl.getD k 0) : gUn M' (E ++ [(side, bl)]) := by
  obtain ⟨u1, u2, u3, u4, u5, u6⟩ := U
  have hl : (E ++ [(side, bl)]).length = E.length + 1 := by simp
  have ol : gOf (E ++ [(side, bl)]) (E.length + 1) = gOf E E.length + bl.length := by
    show gOf (E ++ [(side, bl)]) E.length + (gEn (E ++ [(side, bl)]) E.length).2.length = _
    rw [gOf_app (Nat.le_refl _), gEn_last]
  refine ⟨by rw [hl]; exact h18, fun i hi => ?_, fun i hi => ?_, fun i k hi hk => ?_, by rw [hl]; omega, by rw [hl, ol]; exact hb⟩
  · rw [hl] at hi
    by_cases c : i = E.length + 1
    · subst c; rw [ol]; exact h8n
    · rw [h8 i c, gOf_app (by omega)]; exact u2 i (by omega)
  · rw [hl] at hi
    by_cases c : i = E.length
    · subst c; rw [gEn_last]; exact h9n
    · rw [h9 i c, gEn_app (by omega)]; exact u3 i (by omega)
  · rw [hl] at hi
    by_cases c : i = E.length
    · subst c
      rw [gEn_last] at hk ⊢
      rw [gOf_app (Nat.le_refl _)]
      exact h11n k hk
    · rw [gEn_app (by omega)] at hk ⊢
      rw [gOf_app (by omega)]
      have m := gOf_mono (E := E) (i := i + 1) (j := E.length) (by omega)
      have e : gOf E (i + 1) = gOf E i + (gEn E i).2.length := rfl
      rw [h11 _ (by omega)]
      exact u4 i k (by omega) hk
theorem dX8_unlikeOf_0 : decode cX8_unlikeOf 0 = .ok (.iconst 0, 1) := by decide +kernel
theorem dX8_unlikeOf_1 : decode cX8_unlikeOf 1 = .ok (.istore_n 2, 1) := by decide +kernel
theorem dX8_unlikeOf_2 : decode cX8_unlikeOf 2 = .ok (.iload_n 2, 1) := by decide +kernel
theorem dX8_unlikeOf_3 : decode cX8_unlikeOf 3 = .ok (.aload_n 0, 1) := by decide +kernel
theorem dX8_unlikeOf_4 : decode cX8_unlikeOf 4 = .ok (.getfield 72, 3) := by decide +kernel
theorem dX8_unlikeOf_7 : decode cX8_unlikeOf 7 = .ok (.if_icmp .ge 20, 3) := by decide +kernel
theorem dX8_unlikeOf_10 : decode cX8_unlikeOf 10 = .ok (.aload_n 0, 1) := by decide +kernel
theorem dX8_unlikeOf_11 : decode cX8_unlikeOf 11 = .ok (.iload_n 2, 1) := by decide +kernel
theorem dX8_unlikeOf_12 : decode cX8_unlikeOf 12 = .ok (.iload_n 1, 1) := by decide +kernel
theorem dX8_unlikeOf_13 : decode cX8_unlikeOf 13 = .ok (.invokevirtual 188, 3) := by decide +kernel
theorem dX8_unlikeOf_16 : decode cX8_unlikeOf 16 = .ok (.ifCond .eq 5, 3) := by decide +kernel
theorem dX8_unlikeOf_19 : decode cX8_unlikeOf 19 = .ok (.iload_n 2, 1) := by decide +kernel
theorem dX8_unlikeOf_20 : decode cX8_unlikeOf 20 = .ok (.ireturn, 1) := by decide +kernel
theorem dX8_unlikeOf_21 : decode cX8_unlikeOf 21 = .ok (.iinc 2 1, 3) := by decide +kernel
theorem dX8_unlikeOf_24 : decode cX8_unlikeOf 24 = .ok (.goto (-22), 3) := by decide +kernel
theorem dX8_unlikeOf_27 : decode cX8_unlikeOf 27 = .ok (.aload_n 0, 1) := by decide +kernel
theorem dX8_unlikeOf_28 : decode cX8_unlikeOf 28 = .ok (.getfield 41, 3) := by decide +kernel
theorem dX8_unlikeOf_31 : decode cX8_unlikeOf 31 = .ok (.aload_n 0, 1) := by decide +kernel
theorem dX8_unlikeOf_32 : decode cX8_unlikeOf 32 = .ok (.getfield 72, 3) := by decide +kernel
theorem dX8_unlikeOf_35 : decode cX8_unlikeOf 35 = .ok (.iload_n 1, 1) := by decide +kernel
theorem dX8_unlikeOf_36 : decode cX8_unlikeOf 36 = .ok (.iastore, 1) := by decide +kernel
theorem dX8_unlikeOf_37 : decode cX8_unlikeOf 37 = .ok (.aload_n 0, 1) := by decide +kernel
theorem dX8_unlikeOf_38 : decode cX8_unlikeOf 38 = .ok (.getfield 44, 3) := by decide +kernel
theorem dX8_unlikeOf_41 : decode cX8_unlikeOf 41 = .ok (.aload_n 0, 1) := by decide +kernel
theorem dX8_unlikeOf_42 : decode cX8_unlikeOf 42 = .ok (.getfield 72, 3) := by decide +kernel
theorem dX8_unlikeOf_45 : decode cX8_unlikeOf 45 = .ok (.iconst 0, 1) := by decide +kernel
theorem dX8_unlikeOf_46 : decode cX8_unlikeOf 46 = .ok (.iastore, 1) := by decide +kernel
theorem dX8_unlikeOf_47 : decode cX8_unlikeOf 47 = .ok (.aload_n 0, 1) := by decide +kernel
theorem dX8_unlikeOf_48 : decode cX8_unlikeOf 48 = .ok (.getfield 38, 3) := by decide +kernel
theorem dX8_unlikeOf_51 : decode cX8_unlikeOf 51 = .ok (.aload_n 0, 1) := by decide +kernel
theorem dX8_unlikeOf_52 : decode cX8_unlikeOf 52 = .ok (.getfield 72, 3) := by decide +kernel
theorem dX8_unlikeOf_55 : decode cX8_unlikeOf 55 = .ok (.iconst 1, 1) := by decide +kernel
theorem dX8_unlikeOf_56 : decode cX8_unlikeOf 56 = .ok (.iadd, 1) := by decide +kernel
theorem dX8_unlikeOf_57 : decode cX8_unlikeOf 57 = .ok (.aload_n 0, 1) := by decide +kernel
theorem dX8_unlikeOf_58 : decode cX8_unlikeOf 58 = .ok (.getfield 38, 3) := by decide +kernel
theorem dX8_unlikeOf_61 : decode cX8_unlikeOf 61 = .ok (.aload_n 0, 1) := by decide +kernel
theorem dX8_unlikeOf_62 : decode cX8_unlikeOf 62 = .ok (.getfield 72, 3) := by decide +kernel
theorem dX8_unlikeOf_65 : decode cX8_unlikeOf 65 = .ok (.iaload, 1) := by decide +kernel
theorem dX8_unlikeOf_66 : decode cX8_unlikeOf 66 = .ok (.aload_n 0, 1) := by decide +kernel
theorem dX8_unlikeOf_67 : decode cX8_unlikeOf 67 = .ok (.getfield 167, 3) := by decide +kernel
theorem dX8_unlikeOf_70 : decode cX8_unlikeOf 70 = .ok (.iadd, 1) := by decide +kernel
theorem dX8_unlikeOf_71 : decode cX8_unlikeOf 71 = .ok (.iastore, 1) := by decide +kernel
theorem dX8_unlikeOf_72 : decode cX8_unlikeOf 72 = .ok (.iconst 0, 1) := by decide +kernel
theorem dX8_unlikeOf_73 : decode cX8_unlikeOf 73 = .ok (.istore_n 2, 1) := by decide +kernel
theorem dX8_unlikeOf_74 : decode cX8_unlikeOf 74 = .ok (.iload_n 2, 1) := by decide +kernel
theorem dX8_unlikeOf_75 : decode cX8_unlikeOf 75 = .ok (.aload_n 0, 1) := by decide +kernel
theorem dX8_unlikeOf_76 : decode cX8_unlikeOf 76 = .ok (.getfield 167, 3) := by decide +kernel
theorem dX8_unlikeOf_79 : decode cX8_unlikeOf 79 = .ok (.if_icmp .ge 31, 3) := by decide +kernel
theorem dX8_unlikeOf_82 : decode cX8_unlikeOf 82 = .ok (.aload_n 0, 1) := by decide +kernel
theorem dX8_unlikeOf_83 : decode cX8_unlikeOf 83 = .ok (.getfield 48, 3) := by decide +kernel
theorem dX8_unlikeOf_86 : decode cX8_unlikeOf 86 = .ok (.aload_n 0, 1) := by decide +kernel
theorem dX8_unlikeOf_87 : decode cX8_unlikeOf 87 = .ok (.getfield 38, 3) := by decide +kernel
theorem dX8_unlikeOf_90 : decode cX8_unlikeOf 90 = .ok (.aload_n 0, 1) := by decide +kernel
theorem dX8_unlikeOf_91 : decode cX8_unlikeOf 91 = .ok (.getfield 72, 3) := by decide +kernel
theorem dX8_unlikeOf_94 : decode cX8_unlikeOf 94 = .ok (.iaload, 1) := by decide +kernel
theorem dX8_unlikeOf_95 : decode cX8_unlikeOf 95 = .ok (.iload_n 2, 1) := by decide +kernel
theorem dX8_unlikeOf_96 : decode cX8_unlikeOf 96 = .ok (.iadd, 1) := by decide +kernel
theorem dX8_unlikeOf_97 : decode cX8_unlikeOf 97 = .ok (.aload_n 0, 1) := by decide +kernel
theorem dX8_unlikeOf_98 : decode cX8_unlikeOf 98 = .ok (.getfield 51, 3) := by decide +kernel
theorem dX8_unlikeOf_101 : decode cX8_unlikeOf 101 = .ok (.iload_n 2, 1) := by decide +kernel
theorem dX8_unlikeOf_102 : decode cX8_unlikeOf 102 = .ok (.iaload, 1) := by decide +kernel
theorem dX8_unlikeOf_103 : decode cX8_unlikeOf 103 = .ok (.iastore, 1) := by decide +kernel
theorem dX8_unlikeOf_104 : decode cX8_unlikeOf 104 = .ok (.iinc 2 1, 3) := by decide +kernel
theorem dX8_unlikeOf_107 : decode cX8_unlikeOf 107 = .ok (.goto (-33), 3) := by decide +kernel
theorem dX8_unlikeOf_110 : decode cX8_unlikeOf 110 = .ok (.aload_n 0, 1) := by decide +kernel
theorem dX8_unlikeOf_111 : decode cX8_unlikeOf 111 = .ok (.dup, 1) := by decide +kernel
theorem dX8_unlikeOf_112 : decode cX8_unlikeOf 112 = .ok (.getfield 72, 3) := by decide +kernel
theorem dX8_unlikeOf_115 : decode cX8_unlikeOf 115 = .ok (.iconst 1, 1) := by decide +kernel
theorem dX8_unlikeOf_116 : decode cX8_unlikeOf 116 = .ok (.iadd, 1) := by decide +kernel
theorem dX8_unlikeOf_117 : decode cX8_unlikeOf 117 = .ok (.putfield 72, 3) := by decide +kernel
theorem dX8_unlikeOf_120 : decode cX8_unlikeOf 120 = .ok (.aload_n 0, 1) := by decide +kernel
theorem dX8_unlikeOf_121 : decode cX8_unlikeOf 121 = .ok (.getfield 72, 3) := by decide +kernel
theorem dX8_unlikeOf_124 : decode cX8_unlikeOf 124 = .ok (.iconst 1, 1) := by decide +kernel
theorem dX8_unlikeOf_125 : decode cX8_unlikeOf 125 = .ok (.isub, 1) := by decide +kernel
theorem dX8_unlikeOf_126 : decode cX8_unlikeOf 126 = .ok (.ireturn, 1) := by decide +kernel
set_option maxRecDepth 100000 in
set_option maxHeartbeats 4000000 in
theorem c_X8_unlikeOf_0_r {hp : List gA} {M : gMd} {n : Nat} {E : List (Int32 × List Int32)} (HM : gMod hp M) (U : gUn M E) (hn : M.f 26 = nI n) (hn2 : n ≤ 64) (hE : E.length < 8192) (hB : gOf E E.length + n ≤ 131072) : gM yX8_unlikeOf cX8_unlikeOf 3 ((some .int)) 1 23 [.ref 122, .int 0] (hp) (0) (0) (fun v h => ∃ x, v = some (.int x) ∧ ∃ M' id E', gMod h M' ∧ gFM hp h ∧ x = nI id ∧ gUo M 0 n E M' id E') := by
  refine gM_of (ls0 := [some (.ref 122), some (.int 0), none]) (by decide +kernel) (Nat.le_of_ble_eq_true rfl) rfl fun X C E9 => ?_
  obtain ⟨u1, u2, u3, u4, u5, u6⟩ := id U
  have oE := u2 E.length (Nat.le_refl _)
  have LL : ∀ d j : Nat, j + d = E.length → (∀ q, q < j → ¬ gEn E q = (0, gBk M n)) → gG X 2 [some (.ref 122), some (.int 0), some (.int ((nI j)))] [] hp 0 0 := by
    intro d
    induction d with
    | zero =>
      intro j hj hq
      obtain rfl : j = E.length := by omega
      refine g_iload_n (q := 3) C dX8_unlikeOf_2 rfl rfl ?_
      refine g_aload_n (q := 4) C dX8_unlikeOf_3 rfl rfl ?_
      refine g_getfield (v := .int ((M.f 18))) (q := 7) C fX8_72 dX8_unlikeOf_4 rfl HM.1 rfl ?_
      rw [show M.f 18 = nI E.length from u1]
      refine g_icmp_ge_t (t := 27) C dX8_unlikeOf_7 (by decide) (nI_le (Nat.le_refl _) (by omega)) ?_
      refine g_aload_n (q := 28) C dX8_unlikeOf_27 rfl rfl ?_
      refine g_getfield (v := .ref 132) (q := 31) C fX8_41 dX8_unlikeOf_28 rfl HM.1 rfl ?_
      refine g_aload_n (q := 32) C dX8_unlikeOf_31 rfl rfl ?_
      refine g_getfield (v := .int ((M.f 18))) (q := 35) C fX8_72 dX8_unlikeOf_32 rfl HM.1 rfl ?_
      rw [show M.f 18 = nI E.length from u1]
      refine g_iload_n (q := 36) C dX8_unlikeOf_35 rfl rfl ?_
      refine g_iastoreN (j := E.length) (q := 37) C dX8_unlikeOf_36 rfl (HM.ar (i := 9) (n := 8192) (by decide) rfl) (pk_in E.length 8192 (by omega)) (pk_cl E.length rfl (by omega)) ?_
      refine gMsto (i := 9) (j := E.length) (x := 0) HM (by decide) rfl rfl fun h1 HL1 fr1 => ?_
      refine g_aload_n (q := 38) C dX8_unlikeOf_37 rfl rfl ?_
      refine g_getfield (v := .ref 133) (q := 41) C fX8_44 dX8_unlikeOf_38 rfl HL1.1 rfl ?_
      refine g_aload_n (q := 42) C dX8_unlikeOf_41 rfl rfl ?_
      refine g_getfield (v := .int ((M.f 18))) (q := 45) C fX8_72 dX8_unlikeOf_42 rfl HL1.1 rfl ?_
      rw [show M.f 18 = nI E.length from u1]
      refine g_iconst (v := 0) (q := 46) C dX8_unlikeOf_45 (by decide) rfl ?_
      refine g_iastoreN (j := E.length) (q := 47) C dX8_unlikeOf_46 rfl (HL1.ar (i := 10) (n := 8192) (by decide) rfl) (pk_in E.length 8192 (by omega)) (pk_cl E.length rfl (by omega)) ?_
      refine gMsto (i := 10) (j := E.length) (x := 0) HL1 (by decide) rfl rfl fun h2 HL2 fr2 => ?_
      refine g_aload_n (q := 48) C dX8_unlikeOf_47 rfl rfl ?_
      refine g_getfield (v := .ref 131) (q := 51) C fX8_38 dX8_unlikeOf_48 rfl HL2.1 rfl ?_
      refine g_aload_n (q := 52) C dX8_unlikeOf_51 rfl rfl ?_
      refine g_getfield (v := .int ((M.f 18))) (q := 55) C fX8_72 dX8_unlikeOf_52 rfl HL2.1 rfl ?_
      rw [show M.f 18 = nI E.length from u1]
      refine g_iconst (v := 1) (q := 56) C dX8_unlikeOf_55 (by decide) rfl ?_
      refine g_iadd (q := 57) C dX8_unlikeOf_56 rfl ?_
      rw [nI_1]
      refine g_aload_n (q := 58) C dX8_unlikeOf_57 rfl rfl ?_
      refine g_getfield (v := .ref 131) (q := 61) C fX8_38 dX8_unlikeOf_58 rfl HL2.1 rfl ?_
      refine g_aload_n (q := 62) C dX8_unlikeOf_61 rfl rfl ?_
      refine g_getfield (v := .int ((M.f 18))) (q := 65) C fX8_72 dX8_unlikeOf_62 rfl HL2.1 rfl ?_
      rw [show M.f 18 = nI E.length from u1]
      refine g_ialoadN (x := (M.a 8 E.length)) (j := E.length) (q := 66) C dX8_unlikeOf_65 rfl (HL2.ar (i := 8) (n := 8193) (by decide) rfl) (pk_in E.length 8193 (by omega)) (pk_cl E.length rfl (by omega)) ((gput_o (by decide)).trans (gput_o (by decide))) ?_
      refine g_aload_n (q := 67) C dX8_unlikeOf_66 rfl rfl ?_
      refine g_getfield (v := .int ((M.f 26))) (q := 70) C fX8_167 dX8_unlikeOf_67 rfl HL2.1 rfl ?_
      refine g_iadd (q := 71) C dX8_unlikeOf_70 rfl ?_
      rw [show M.a 8 E.length = nI (gOf E E.length) from oE, show M.f 26 = nI n from hn, nI_add]
      refine g_iastoreN (j := (E.length + 1)) (q := 72) C dX8_unlikeOf_71 rfl (HL2.ar (i := 8) (n := 8193) (by decide) rfl) (pk_in (E.length + 1) 8193 (by omega)) (pk_cl (E.length + 1) rfl (by omega)) ?_
      refine gMsto (i := 8) (j := (E.length + 1)) (x := (nI (gOf E E.length + n))) HL2 (by decide) rfl rfl fun h3 HL3 fr3 => ?_
      refine g_iconst (v := 0) (q := 73) C dX8_unlikeOf_72 (by decide) rfl ?_
      refine g_istore_n (q := 74) C dX8_unlikeOf_73 (Nat.le_of_ble_eq_true rfl) (by simp only [gset]; rfl) rfl ?_
      have HL8 : gMod h3 ((((M.put 9 E.length 0).put 10 E.length 0).put 8 (E.length + 1) (nI (gOf E E.length + n))).arr 11 (gCpy (M.a 11) (gOf E E.length) (M.a 12) 0 0)) := by rw [show M.a 11 = (((M.put 9 E.length 0).put 10 E.length 0).put 8 (E.length + 1) (nI (gOf E E.length + n))).a 11 from rfl, garr_0]; exact HL3
      have LL4 : ∀ d j : Nat, j + d = n → ∀  (h1 : List gA), gMod h1 ((((M.put 9 E.length 0).put 10 E.length 0).put 8 (E.length + 1) (nI (gOf E E.length + n))).arr 11 (gCpy (M.a 11) (gOf E E.length) (M.a 12) 0 j)) → gFM hp h1 → gG X 74 [some (.ref 122), some (.int 0), some (.int ((nI j)))] [] h1 0 0 := by
        intro d
        induction d with
        | zero =>
          intro j hj  h1 HL1_ fr_
          obtain rfl : n = j := by omega
          refine g_iload_n (q := 75) C dX8_unlikeOf_74 rfl rfl ?_
          refine g_aload_n (q := 76) C dX8_unlikeOf_75 rfl rfl ?_
          refine g_getfield (v := .int ((((((M.put 9 E.length 0).put 10 E.length 0).put 8 (E.length + 1) (nI (gOf E E.length + n))).arr 11 (gCpy (M.a 11) (gOf E E.length) (M.a 12) 0 n)).f 26))) (q := 79) C fX8_167 dX8_unlikeOf_76 rfl HL1_.1 rfl ?_
          rw [show (((((M.put 9 E.length 0).put 10 E.length 0).put 8 (E.length + 1) (nI (gOf E E.length + n))).arr 11 (gCpy (M.a 11) (gOf E E.length) (M.a 12) 0 n)).f 26) = nI n from hn]
          refine g_icmp_ge_t (t := 110) C dX8_unlikeOf_79 (by decide) (nI_le (Nat.le_refl _) (by omega)) ?_
          refine g_aload_n (q := 111) C dX8_unlikeOf_110 rfl rfl ?_
          refine g_dup (q := 112) C dX8_unlikeOf_111 rfl rfl ?_
          refine g_getfield (v := .int ((((((M.put 9 E.length 0).put 10 E.length 0).put 8 (E.length + 1) (nI (gOf E E.length + n))).arr 11 (gCpy (M.a 11) (gOf E E.length) (M.a 12) 0 n)).f 18))) (q := 115) C fX8_72 dX8_unlikeOf_112 rfl HL1_.1 rfl ?_
          rw [show (((((M.put 9 E.length 0).put 10 E.length 0).put 8 (E.length + 1) (nI (gOf E E.length + n))).arr 11 (gCpy (M.a 11) (gOf E E.length) (M.a 12) 0 n)).f 18) = nI E.length from u1]
          refine g_iconst (v := 1) (q := 116) C dX8_unlikeOf_115 (by decide) rfl ?_
          refine g_iadd (q := 117) C dX8_unlikeOf_116 rfl ?_
          rw [nI_1]
          refine g_putfield (q := 120) C fX8_72 dX8_unlikeOf_117 rfl HL1_.1 (Nat.le_of_ble_eq_true rfl) (Or.inl rfl) rfl rfl (by intro z h; cases h) ?_
          refine gMput (j := 18) (x := (nI (E.length + 1))) HL1_ rfl fun h5 HL5 fr5 => ?_
          refine g_aload_n (q := 121) C dX8_unlikeOf_120 rfl rfl ?_
          refine g_getfield (v := .int ((nI (E.length + 1)))) (q := 124) C fX8_72 dX8_unlikeOf_121 rfl HL5.1 rfl ?_
          refine g_iconst (v := 1) (q := 125) C dX8_unlikeOf_124 (by decide) rfl ?_
          refine g_isub (q := 126) C dX8_unlikeOf_125 rfl ?_
          have U9 : gUn (((((M.put 9 E.length 0).put 10 E.length 0).put 8 (E.length + 1) (nI (gOf E E.length + n))).arr 11 (gCpy (M.a 11) (gOf E E.length) (M.a 12) 0 n)).set 18 (nI (E.length + 1))) (E ++ [(0, gBk M n)]) := by
            refine gUn.add U hE (by rw [gBk_len]; exact hB) gset_s (fun i hi => ?_) ?_ (fun i hi => ?_) ?_ (fun q hq9 => ?_) (fun q hq9 => ?_)
            · rw [gset_a, garr_o (by decide), gput_n hi, gput_o (by decide), gput_o (by decide)]
            · rw [gset_a, garr_o (by decide), gput_s, gBk_len]
            · rw [gset_a, garr_o (by decide), gput_o (by decide), gput_o (by decide), gput_n hi]
            · rw [gset_a, garr_o (by decide), gput_o (by decide), gput_o (by decide), gput_s]
            · rw [gset_a, garr_s]; exact gCpy_out (by omega)
            · rw [gBk_len] at hq9
              rw [gset_a, garr_s, gCpy_in hq9, gBk_at hq9, Nat.zero_add]
          exact E9.1 _ _ _ _ _ _ _ dX8_unlikeOf_126 rfl rfl (Nat.le_of_ble_eq_true rfl) (Nat.le_of_ble_eq_true rfl) ⟨_, rfl, _, E.length, _, HL5, (gFM.trans fr_ fr5), by rw [nI_add_sub1], U9, by simp, gEn_last, fun q h => by rw [gset_n h]; rfl, fun i q h8 h9 h10 h11 => by rw [gset_a, garr_o h11, gput_o h8, gput_o h10, gput_o h9], Or.inr ⟨hq, rfl⟩⟩
        | succ d ih =>
          intro j hj  h1 HL1_ fr_
          refine g_iload_n (q := 75) C dX8_unlikeOf_74 rfl rfl ?_
          refine g_aload_n (q := 76) C dX8_unlikeOf_75 rfl rfl ?_
          refine g_getfield (v := .int ((((((M.put 9 E.length 0).put 10 E.length 0).put 8 (E.length + 1) (nI (gOf E E.length + n))).arr 11 (gCpy (M.a 11) (gOf E E.length) (M.a 12) 0 j)).f 26))) (q := 79) C fX8_167 dX8_unlikeOf_76 rfl HL1_.1 rfl ?_
          rw [show (((((M.put 9 E.length 0).put 10 E.length 0).put 8 (E.length + 1) (nI (gOf E E.length + n))).arr 11 (gCpy (M.a 11) (gOf E E.length) (M.a 12) 0 j)).f 26) = nI n from hn]
          refine g_icmp_ge_f (t := 110) (q := 82) C dX8_unlikeOf_79 (by decide) rfl (fun h => nI_ge (show j < n by omega) (by omega) h) ?_
          refine g_aload_n (q := 83) C dX8_unlikeOf_82 rfl rfl ?_
          refine g_getfield (v := .ref 134) (q := 86) C fX8_48 dX8_unlikeOf_83 rfl HL1_.1 rfl ?_
          refine g_aload_n (q := 87) C dX8_unlikeOf_86 rfl rfl ?_
          refine g_getfield (v := .ref 131) (q := 90) C fX8_38 dX8_unlikeOf_87 rfl HL1_.1 rfl ?_
          refine g_aload_n (q := 91) C dX8_unlikeOf_90 rfl rfl ?_
          refine g_getfield (v := .int ((((((M.put 9 E.length 0).put 10 E.length 0).put 8 (E.length + 1) (nI (gOf E E.length + n))).arr 11 (gCpy (M.a 11) (gOf E E.length) (M.a 12) 0 j)).f 18))) (q := 94) C fX8_72 dX8_unlikeOf_91 rfl HL1_.1 rfl ?_
          rw [show (((((M.put 9 E.length 0).put 10 E.length 0).put 8 (E.length + 1) (nI (gOf E E.length + n))).arr 11 (gCpy (M.a 11) (gOf E E.length) (M.a 12) 0 j)).f 18) = nI E.length from u1]
          refine g_ialoadN (x := (((((M.put 9 E.length 0).put 10 E.length 0).put 8 (E.length + 1) (nI (gOf E E.length + n))).arr 11 (gCpy (M.a 11) (gOf E E.length) (M.a 12) 0 j)).a 8 E.length)) (j := E.length) (q := 95) C dX8_unlikeOf_94 rfl (HL1_.ar (i := 8) (n := 8193) (by decide) rfl) (pk_in E.length 8193 (by omega)) (pk_cl E.length rfl (by omega)) rfl ?_
          rw [show (((((M.put 9 E.length 0).put 10 E.length 0).put 8 (E.length + 1) (nI (gOf E E.length + n))).arr 11 (gCpy (M.a 11) (gOf E E.length) (M.a 12) 0 j)).a 8 E.length) = nI (gOf E E.length) from (garr_o (by decide)).trans ((gput_n (by omega)).trans ((gput_o (by decide)).trans ((gput_o (by decide)).trans oE)))]
          refine g_iload_n (q := 96) C dX8_unlikeOf_95 rfl rfl ?_
          refine g_iadd (q := 97) C dX8_unlikeOf_96 rfl ?_
          refine g_aload_n (q := 98) C dX8_unlikeOf_97 rfl rfl ?_
          refine g_getfield (v := .ref 135) (q := 101) C fX8_51 dX8_unlikeOf_98 rfl HL1_.1 rfl ?_
          refine g_iload_n (q := 102) C dX8_unlikeOf_101 rfl rfl ?_
          refine g_ialoadN (x := (((((M.put 9 E.length 0).put 10 E.length 0).put 8 (E.length + 1) (nI (gOf E E.length + n))).arr 11 (gCpy (M.a 11) (gOf E E.length) (M.a 12) 0 j)).a 12 j)) (j := j) (q := 103) C dX8_unlikeOf_102 rfl (HL1_.ar (i := 12) (n := 260) (by decide) rfl) (pk_in j 260 (by omega)) (pk_cl j rfl (by omega)) rfl ?_
          rw [nI_add]
          refine g_iastoreN (j := (gOf E E.length + j)) (q := 104) C dX8_unlikeOf_103 rfl (HL1_.ar (i := 11) (n := 131072) (by decide) rfl) (pk_in (gOf E E.length + j) 131072 (by omega)) (pk_cl (gOf E E.length + j) rfl (by omega)) ?_
          refine gMsto (i := 11) (j := (gOf E E.length + j)) (x := (((((M.put 9 E.length 0).put 10 E.length 0).put 8 (E.length + 1) (nI (gOf E E.length + n))).arr 11 (gCpy (M.a 11) (gOf E E.length) (M.a 12) 0 j)).a 12 j)) HL1_ (by decide) rfl rfl fun h6 HL6 fr6 => ?_
          refine g_iinc (v := (nI (j + 1))) (q := 107) C dX8_unlikeOf_104 rfl (nI_1 j) (by simp only [gset]; rfl) rfl ?_
          have e9 : ((((M.put 9 E.length 0).put 10 E.length 0).put 8 (E.length + 1) (nI (gOf E E.length + n))).arr 11 (gCpy (M.a 11) (gOf E E.length) (M.a 12) 0 j)).put 11 (gOf E E.length + j) (((((M.put 9 E.length 0).put 10 E.length 0).put 8 (E.length + 1) (nI (gOf E E.length + n))).arr 11 (gCpy (M.a 11) (gOf E E.length) (M.a 12) 0 j)).a 12 j) = ((((M.put 9 E.length 0).put 10 E.length 0).put 8 (E.length + 1) (nI (gOf E E.length + n))).arr 11 (gCpy (M.a 11) (gOf E E.length) (M.a 12) 0 (j + 1))) := garr_cp (by rw [Nat.zero_add]; exact (garr_o (by decide)).trans ((gput_o (by decide)).trans ((gput_o (by decide)).trans (gput_o (by decide)))))
          have HL9 : gMod h6 ((((M.put 9 E.length 0).put 10 E.length 0).put 8 (E.length + 1) (nI (gOf E E.length + n))).arr 11 (gCpy (M.a 11) (gOf E E.length) (M.a 12) 0 (j + 1))) := by rw [← e9]; exact HL6
          refine g_goto (q := 74) C dX8_unlikeOf_107 (by decide) ?_
          exact ih (j + 1) (by omega)  h6 HL9 (gFM.trans fr_ fr6)
      exact LL4 (n - 0) 0 (by omega)  h3 HL8 (gFM.trans (gFM.trans fr1 fr2) fr3)
      
    | succ d ih =>
      intro j hj hq
      refine g_iload_n (q := 3) C dX8_unlikeOf_2 rfl rfl ?_
      refine g_aload_n (q := 4) C dX8_unlikeOf_3 rfl rfl ?_
      refine g_getfield (v := .int ((M.f 18))) (q := 7) C fX8_72 dX8_unlikeOf_4 rfl HM.1 rfl ?_
      rw [show M.f 18 = nI E.length from u1]
      refine g_icmp_ge_f (t := 27) (q := 10) C dX8_unlikeOf_7 (by decide) rfl (fun h => nI_ge (show j < E.length by omega) (by omega) h) ?_
      refine g_aload_n (q := 11) C dX8_unlikeOf_10 rfl rfl ?_
      refine g_iload_n (q := 12) C dX8_unlikeOf_11 rfl rfl ?_
      refine g_iload_n (q := 13) C dX8_unlikeOf_12 rfl rfl ?_
      refine g_callVip (q := 16) (As := [.int ((nI j)), .int 0]) C gyX8_isAlike gvX8_isAlike t_1336 (c_X8_isAlike_0_r (u := j) HM U (by omega) hn hn2) dX8_unlikeOf_13 rfl HM.1 rfl rfl rfl (Nat.le_of_ble_eq_true rfl) (Nat.le_of_ble_eq_true rfl) (Nat.le_of_ble_eq_true rfl) (Nat.le_of_ble_eq_true rfl) (Nat.le_of_ble_eq_true rfl) rfl (fun x7 h7 z7 => ?_)
      obtain ⟨rfl, z7⟩ := z7
      rcases z7 with ⟨rfl, ea⟩ | ⟨rfl, ea⟩
      ·
        refine g_if_eq_f (t := 21) (q := 19) C dX8_unlikeOf_16 (by decide) rfl (by decide) ?_
        refine g_iload_n (q := 20) C dX8_unlikeOf_19 rfl rfl ?_
        exact E9.1 _ _ _ _ _ _ _ dX8_unlikeOf_20 rfl rfl (Nat.le_of_ble_eq_true rfl) (Nat.le_of_ble_eq_true rfl) ⟨_, rfl, M, j, E, HM, gFM.rf, rfl, U, by omega, ea, fun _ _ => rfl, fun _ _ _ _ _ _ => rfl, Or.inl ⟨rfl, rfl⟩⟩
      ·
        refine g_if_eq_t (t := 21) C dX8_unlikeOf_16 (by decide) (by decide) ?_
        refine g_iinc (v := (nI (j + 1))) (q := 24) C dX8_unlikeOf_21 rfl (nI_1 j) (by simp only [gset]; rfl) rfl ?_
        refine g_goto (q := 2) C dX8_unlikeOf_24 (by decide) ?_
        exact ih (j + 1) (by omega) (fun q hq9 => by rcases Nat.lt_or_eq_of_le (Nat.le_of_lt_succ hq9) with h | h; exact hq q h; subst h; exact ea)
      
  refine g_iconst (v := 0) (q := 1) C dX8_unlikeOf_0 (by decide) rfl ?_
  refine g_istore_n (q := 2) C dX8_unlikeOf_1 (Nat.le_of_ble_eq_true rfl) (by simp only [gset]; rfl) rfl ?_
  exact LL E.length 0 (by omega) (fun q hq => absurd hq (Nat.not_lt_zero _))
set_option maxRecDepth 100000 in
set_option maxHeartbeats 4000000 in
theorem c_X8_unlikeOf_1_r {hp : List gA} {M : gMd} {n : Nat} {E : List (Int32 × List Int32)} (HM : gMod hp M) (U : gUn M E) (hn : M.f 26 = nI n) (hn2 : n ≤ 64) (hE : E.length < 8192) (hB : gOf E E.length + n ≤ 131072) : gM yX8_unlikeOf cX8_unlikeOf 3 ((some .int)) 1 23 [.ref 122, .int 1] (hp) (0) (0) (fun v h => ∃ x, v = some (.int x) ∧ ∃ M' id E', gMod h M' ∧ gFM hp h ∧ x = nI id ∧ gUo M 1 n E M' id E') := by
  refine gM_of (ls0 := [some (.ref 122), some (.int 1), none]) (by decide +kernel) (Nat.le_of_ble_eq_true rfl) rfl fun X C E9 => ?_
  obtain ⟨u1, u2, u3, u4, u5, u6⟩ := id U
  have oE := u2 E.length (Nat.le_refl _)
  have LL : ∀ d j : Nat, j + d = E.length → (∀ q, q < j → ¬ gEn E q = (1, gBk M n)) → gG X 2 [some (.ref 122), some (.int 1), some (.int ((nI j)))] [] hp 0 0 := by
    intro d
    induction d with
    | zero =>
      intro j hj hq
      obtain rfl : j = E.length := by omega
      refine g_iload_n (q := 3) C dX8_unlikeOf_2 rfl rfl ?_
      refine g_aload_n (q := 4) C dX8_unlikeOf_3 rfl rfl ?_
      refine g_getfield (v := .int ((M.f 18))) (q := 7) C fX8_72 dX8_unlikeOf_4 rfl HM.1 rfl ?_
      rw [show M.f 18 = nI E.length from u1]
      refine g_icmp_ge_t (t := 27) C dX8_unlikeOf_7 (by decide) (nI_le (Nat.le_refl _) (by omega)) ?_
      refine g_aload_n (q := 28) C dX8_unlikeOf_27 rfl rfl ?_
      refine g_getfield (v := .ref 132) (q := 31) C fX8_41 dX8_unlikeOf_28 rfl HM.1 rfl ?_
      refine g_aload_n (q := 32) C dX8_unlikeOf_31 rfl rfl ?_
      refine g_getfield (v := .int ((M.f 18))) (q := 35) C fX8_72 dX8_unlikeOf_32 rfl HM.1 rfl ?_
      rw [show M.f 18 = nI E.length from u1]
      refine g_iload_n (q := 36) C dX8_unlikeOf_35 rfl rfl ?_
      refine g_iastoreN (j := E.length) (q := 37) C dX8_unlikeOf_36 rfl (HM.ar (i := 9) (n := 8192) (by decide) rfl) (pk_in E.length 8192 (by omega)) (pk_cl E.length rfl (by omega)) ?_
      refine gMsto (i := 9) (j := E.length) (x := 1) HM (by decide) rfl rfl fun h1 HL1 fr1 => ?_
      refine g_aload_n (q := 38) C dX8_unlikeOf_37 rfl rfl ?_
      refine g_getfield (v := .ref 133) (q := 41) C fX8_44 dX8_unlikeOf_38 rfl HL1.1 rfl ?_
      refine g_aload_n (q := 42) C dX8_unlikeOf_41 rfl rfl ?_
      refine g_getfield (v := .int ((M.f 18))) (q := 45) C fX8_72 dX8_unlikeOf_42 rfl HL1.1 rfl ?_
      rw [show M.f 18 = nI E.length from u1]
      refine g_iconst (v := 0) (q := 46) C dX8_unlikeOf_45 (by decide) rfl ?_
      refine g_iastoreN (j := E.length) (q := 47) C dX8_unlikeOf_46 rfl (HL1.ar (i := 10) (n := 8192) (by decide) rfl) (pk_in E.length 8192 (by omega)) (pk_cl E.length rfl (by omega)) ?_
      refine gMsto (i := 10) (j := E.length) (x := 0) HL1 (by decide) rfl rfl fun h2 HL2 fr2 => ?_
      refine g_aload_n (q := 48) C dX8_unlikeOf_47 rfl rfl ?_
      refine g_getfield (v := .ref 131) (q := 51) C fX8_38 dX8_unlikeOf_48 rfl HL2.1 rfl ?_
      refine g_aload_n (q := 52) C dX8_unlikeOf_51 rfl rfl ?_
      refine g_getfield (v := .int ((M.f 18))) (q := 55) C fX8_72 dX8_unlikeOf_52 rfl HL2.1 rfl ?_
      rw [show M.f 18 = nI E.length from u1]
      refine g_iconst (v := 1) (q := 56) C dX8_unlikeOf_55 (by decide) rfl ?_
      refine g_iadd (q := 57) C dX8_unlikeOf_56 rfl ?_
      rw [nI_1]
      refine g_aload_n (q := 58) C dX8_unlikeOf_57 rfl rfl ?_
      refine g_getfield (v := .ref 131) (q := 61) C fX8_38 dX8_unlikeOf_58 rfl HL2.1 rfl ?_
      refine g_aload_n (q := 62) C dX8_unlikeOf_61 rfl rfl ?_
      refine g_getfield (v := .int ((M.f 18))) (q := 65) C fX8_72 dX8_unlikeOf_62 rfl HL2.1 rfl ?_
      rw [show M.f 18 = nI E.length from u1]
      refine g_ialoadN (x := (M.a 8 E.length)) (j := E.length) (q := 66) C dX8_unlikeOf_65 rfl (HL2.ar (i := 8) (n := 8193) (by decide) rfl) (pk_in E.length 8193 (by omega)) (pk_cl E.length rfl (by omega)) ((gput_o (by decide)).trans (gput_o (by decide))) ?_
      refine g_aload_n (q := 67) C dX8_unlikeOf_66 rfl rfl ?_
      refine g_getfield (v := .int ((M.f 26))) (q := 70) C fX8_167 dX8_unlikeOf_67 rfl HL2.1 rfl ?_
      refine g_iadd (q := 71) C dX8_unlikeOf_70 rfl ?_
      rw [show M.a 8 E.length = nI (gOf E E.length) from oE, show M.f 26 = nI n from hn, nI_add]
      refine g_iastoreN (j := (E.length + 1)) (q := 72) C dX8_unlikeOf_71 rfl (HL2.ar (i := 8) (n := 8193) (by decide) rfl) (pk_in (E.length + 1) 8193 (by omega)) (pk_cl (E.length + 1) rfl (by omega)) ?_
      refine gMsto (i := 8) (j := (E.length + 1)) (x := (nI (gOf E E.length + n))) HL2 (by decide) rfl rfl fun h3 HL3 fr3 => ?_
      refine g_iconst (v := 0) (q := 73) C dX8_unlikeOf_72 (by decide) rfl ?_
      refine g_istore_n (q := 74) C dX8_unlikeOf_73 (Nat.le_of_ble_eq_true rfl) (by simp only [gset]; rfl) rfl ?_
      have HL8 : gMod h3 ((((M.put 9 E.length 1).put 10 E.length 0).put 8 (E.length + 1) (nI (gOf E E.length + n))).arr 11 (gCpy (M.a 11) (gOf E E.length) (M.a 12) 0 0)) := by rw [show M.a 11 = (((M.put 9 E.length 1).put 10 E.length 0).put 8 (E.length + 1) (nI (gOf E E.length + n))).a 11 from rfl, garr_0]; exact HL3
      have LL4 : ∀ d j : Nat, j + d = n → ∀  (h1 : List gA), gMod h1 ((((M.put 9 E.length 1).put 10 E.length 0).put 8 (E.length + 1) (nI (gOf E E.length + n))).arr 11 (gCpy (M.a 11) (gOf E E.length) (M.a 12) 0 j)) → gFM hp h1 → gG X 74 [some (.ref 122), some (.int 1), some (.int ((nI j)))] [] h1 0 0 := by
        intro d
        induction d with
        | zero =>
          intro j hj  h1 HL1_ fr_
          obtain rfl : n = j := by omega
          refine g_iload_n (q := 75) C dX8_unlikeOf_74 rfl rfl ?_
          refine g_aload_n (q := 76) C dX8_unlikeOf_75 rfl rfl ?_
          refine g_getfield (v := .int ((((((M.put 9 E.length 1).put 10 E.length 0).put 8 (E.length + 1) (nI (gOf E E.length + n))).arr 11 (gCpy (M.a 11) (gOf E E.length) (M.a 12) 0 n)).f 26))) (q := 79) C fX8_167 dX8_unlikeOf_76 rfl HL1_.1 rfl ?_
          rw [show (((((M.put 9 E.length 1).put 10 E.length 0).put 8 (E.length + 1) (nI (gOf E E.length + n))).arr 11 (gCpy (M.a 11) (gOf E E.length) (M.a 12) 0 n)).f 26) = nI n from hn]
          refine g_icmp_ge_t (t := 110) C dX8_unlikeOf_79 (by decide) (nI_le (Nat.le_refl _) (by omega)) ?_
          refine g_aload_n (q := 111) C dX8_unlikeOf_110 rfl rfl ?_
          refine g_dup (q := 112) C dX8_unlikeOf_111 rfl rfl ?_
          refine g_getfield (v := .int ((((((M.put 9 E.length 1).put 10 E.length 0).put 8 (E.length + 1) (nI (gOf E E.length + n))).arr 11 (gCpy (M.a 11) (gOf E E.length) (M.a 12) 0 n)).f 18))) (q := 115) C fX8_72 dX8_unlikeOf_112 rfl HL1_.1 rfl ?_
          rw [show (((((M.put 9 E.length 1).put 10 E.length 0).put 8 (E.length + 1) (nI (gOf E E.length + n))).arr 11 (gCpy (M.a 11) (gOf E E.length) (M.a 12) 0 n)).f 18) = nI E.length from u1]
          refine g_iconst (v := 1) (q := 116) C dX8_unlikeOf_115 (by decide) rfl ?_
          refine g_iadd (q := 117) C dX8_unlikeOf_116 rfl ?_
          rw [nI_1]
          refine g_putfield (q := 120) C fX8_72 dX8_unlikeOf_117 rfl HL1_.1 (Nat.le_of_ble_eq_true rfl) (Or.inl rfl) rfl rfl (by intro z h; cases h) ?_
          refine gMput (j := 18) (x := (nI (E.length + 1))) HL1_ rfl fun h5 HL5 fr5 => ?_
          refine g_aload_n (q := 121) C dX8_unlikeOf_120 rfl rfl ?_
          refine g_getfield (v := .int ((nI (E.length + 1)))) (q := 124) C fX8_72 dX8_unlikeOf_121 rfl HL5.1 rfl ?_
          refine g_iconst (v := 1) (q := 125) C dX8_unlikeOf_124 (by decide) rfl ?_
          refine g_isub (q := 126) C dX8_unlikeOf_125 rfl ?_
          have U9 : gUn (((((M.put 9 E.length 1).put 10 E.length 0).put 8 (E.length + 1) (nI (gOf E E.length + n))).arr 11 (gCpy (M.a 11) (gOf E E.length) (M.a 12) 0 n)).set 18 (nI (E.length + 1))) (E ++ [(1, gBk M n)]) := by
            refine gUn.add U hE (by rw [gBk_len]; exact hB) gset_s (fun i hi => ?_) ?_ (fun i hi => ?_) ?_ (fun q hq9 => ?_) (fun q hq9 => ?_)
            · rw [gset_a, garr_o (by decide), gput_n hi, gput_o (by decide), gput_o (by decide)]
            · rw [gset_a, garr_o (by decide), gput_s, gBk_len]
            · rw [gset_a, garr_o (by decide), gput_o (by decide), gput_o (by decide), gput_n hi]
            · rw [gset_a, garr_o (by decide), gput_o (by decide), gput_o (by decide), gput_s]
            · rw [gset_a, garr_s]; exact gCpy_out (by omega)
            · rw [gBk_len] at hq9
              rw [gset_a, garr_s, gCpy_in hq9, gBk_at hq9, Nat.zero_add]
          exact E9.1 _ _ _ _ _ _ _ dX8_unlikeOf_126 rfl rfl (Nat.le_of_ble_eq_true rfl) (Nat.le_of_ble_eq_true rfl) ⟨_, rfl, _, E.length, _, HL5, (gFM.trans fr_ fr5), by rw [nI_add_sub1], U9, by simp, gEn_last, fun q h => by rw [gset_n h]; rfl, fun i q h8 h9 h10 h11 => by rw [gset_a, garr_o h11, gput_o h8, gput_o h10, gput_o h9], Or.inr ⟨hq, rfl⟩⟩
        | succ d ih =>
          intro j hj  h1 HL1_ fr_
          refine g_iload_n (q := 75) C dX8_unlikeOf_74 rfl rfl ?_
          refine g_aload_n (q := 76) C dX8_unlikeOf_75 rfl rfl ?_
          refine g_getfield (v := .int ((((((M.put 9 E.length 1).put 10 E.length 0).put 8 (E.length + 1) (nI (gOf E E.length + n))).arr 11 (gCpy (M.a 11) (gOf E E.length) (M.a 12) 0 j)).f 26))) (q := 79) C fX8_167 dX8_unlikeOf_76 rfl HL1_.1 rfl ?_
          rw [show (((((M.put 9 E.length 1).put 10 E.length 0).put 8 (E.length + 1) (nI (gOf E E.length + n))).arr 11 (gCpy (M.a 11) (gOf E E.length) (M.a 12) 0 j)).f 26) = nI n from hn]
          refine g_icmp_ge_f (t := 110) (q := 82) C dX8_unlikeOf_79 (by decide) rfl (fun h => nI_ge (show j < n by omega) (by omega) h) ?_
          refine g_aload_n (q := 83) C dX8_unlikeOf_82 rfl rfl ?_
          refine g_getfield (v := .ref 134) (q := 86) C fX8_48 dX8_unlikeOf_83 rfl HL1_.1 rfl ?_
          refine g_aload_n (q := 87) C dX8_unlikeOf_86 rfl rfl ?_
          refine g_getfield (v := .ref 131) (q := 90) C fX8_38 dX8_unlikeOf_87 rfl HL1_.1 rfl ?_
          refine g_aload_n (q := 91) C dX8_unlikeOf_90 rfl rfl ?_
          refine g_getfield (v := .int ((((((M.put 9 E.length 1).put 10 E.length 0).put 8 (E.length + 1) (nI (gOf E E.length + n))).arr 11 (gCpy (M.a 11) (gOf E E.length) (M.a 12) 0 j)).f 18))) (q := 94) C fX8_72 dX8_unlikeOf_91 rfl HL1_.1 rfl ?_
          rw [show (((((M.put 9 E.length 1).put 10 E.length 0).put 8 (E.length + 1) (nI (gOf E E.length + n))).arr 11 (gCpy (M.a 11) (gOf E E.length) (M.a 12) 0 j)).f 18) = nI E.length from u1]
          refine g_ialoadN (x := (((((M.put 9 E.length 1).put 10 E.length 0).put 8 (E.length + 1) (nI (gOf E E.length + n))).arr 11 (gCpy (M.a 11) (gOf E E.length) (M.a 12) 0 j)).a 8 E.length)) (j := E.length) (q := 95) C dX8_unlikeOf_94 rfl (HL1_.ar (i := 8) (n := 8193) (by decide) rfl) (pk_in E.length 8193 (by omega)) (pk_cl E.length rfl (by omega)) rfl ?_
          rw [show (((((M.put 9 E.length 1).put 10 E.length 0).put 8 (E.length + 1) (nI (gOf E E.length + n))).arr 11 (gCpy (M.a 11) (gOf E E.length) (M.a 12) 0 j)).a 8 E.length) = nI (gOf E E.length) from (garr_o (by decide)).trans ((gput_n (by omega)).trans ((gput_o (by decide)).trans ((gput_o (by decide)).trans oE)))]
          refine g_iload_n (q := 96) C dX8_unlikeOf_95 rfl rfl ?_
          refine g_iadd (q := 97) C dX8_unlikeOf_96 rfl ?_
          refine g_aload_n (q := 98) C dX8_unlikeOf_97 rfl rfl ?_
          refine g_getfield (v := .ref 135) (q := 101) C fX8_51 dX8_unlikeOf_98 rfl HL1_.1 rfl ?_
          refine g_iload_n (q := 102) C dX8_unlikeOf_101 rfl rfl ?_
          refine g_ialoadN (x := (((((M.put 9 E.length 1).put 10 E.length 0).put 8 (E.length + 1) (nI (gOf E E.length + n))).arr 11 (gCpy (M.a 11) (gOf E E.length) (M.a 12) 0 j)).a 12 j)) (j := j) (q := 103) C dX8_unlikeOf_102 rfl (HL1_.ar (i := 12) (n := 260) (by decide) rfl) (pk_in j 260 (by omega)) (pk_cl j rfl (by omega)) rfl ?_
          rw [nI_add]
          refine g_iastoreN (j := (gOf E E.length + j)) (q := 104) C dX8_unlikeOf_103 rfl (HL1_.ar (i := 11) (n := 131072) (by decide) rfl) (pk_in (gOf E E.length + j) 131072 (by omega)) (pk_cl (gOf E E.length + j) rfl (by omega)) ?_
          refine gMsto (i := 11) (j := (gOf E E.length + j)) (x := (((((M.put 9 E.length 1).put 10 E.length 0).put 8 (E.length + 1) (nI (gOf E E.length + n))).arr 11 (gCpy (M.a 11) (gOf E E.length) (M.a 12) 0 j)).a 12 j)) HL1_ (by decide) rfl rfl fun h6 HL6 fr6 => ?_
          refine g_iinc (v := (nI (j + 1))) (q := 107) C dX8_unlikeOf_104 rfl (nI_1 j) (by simp only [gset]; rfl) rfl ?_
          have e9 : ((((M.put 9 E.length 1).put 10 E.length 0).put 8 (E.length + 1) (nI (gOf E E.length + n))).arr 11 (gCpy (M.a 11) (gOf E E.length) (M.a 12) 0 j)).put 11 (gOf E E.length + j) (((((M.put 9 E.length 1).put 10 E.length 0).put 8 (E.length + 1) (nI (gOf E E.length + n))).arr 11 (gCpy (M.a 11) (gOf E E.length) (M.a 12) 0 j)).a 12 j) = ((((M.put 9 E.length 1).put 10 E.length 0).put 8 (E.length + 1) (nI (gOf E E.length + n))).arr 11 (gCpy (M.a 11) (gOf E E.length) (M.a 12) 0 (j + 1))) := garr_cp (by rw [Nat.zero_add]; exact (garr_o (by decide)).trans ((gput_o (by decide)).trans ((gput_o (by decide)).trans (gput_o (by decide)))))
          have HL9 : gMod h6 ((((M.put 9 E.length 1).put 10 E.length 0).put 8 (E.length + 1) (nI (gOf E E.length + n))).arr 11 (gCpy (M.a 11) (gOf E E.length) (M.a 12) 0 (j + 1))) := by rw [← e9]; exact HL6
          refine g_goto (q := 74) C dX8_unlikeOf_107 (by decide) ?_
          exact ih (j + 1) (by omega)  h6 HL9 (gFM.trans fr_ fr6)
      exact LL4 (n - 0) 0 (by omega)  h3 HL8 (gFM.trans (gFM.trans fr1 fr2) fr3)
      
    | succ d ih =>
      intro j hj hq
      refine g_iload_n (q := 3) C dX8_unlikeOf_2 rfl rfl ?_
      refine g_aload_n (q := 4) C dX8_unlikeOf_3 rfl rfl ?_
      refine g_getfield (v := .int ((M.f 18))) (q := 7) C fX8_72 dX8_unlikeOf_4 rfl HM.1 rfl ?_
      rw [show M.f 18 = nI E.length from u1]
      refine g_icmp_ge_f (t := 27) (q := 10) C dX8_unlikeOf_7 (by decide) rfl (fun h => nI_ge (show j < E.length by omega) (by omega) h) ?_
      refine g_aload_n (q := 11) C dX8_unlikeOf_10 rfl rfl ?_
      refine g_iload_n (q := 12) C dX8_unlikeOf_11 rfl rfl ?_
      refine g_iload_n (q := 13) C dX8_unlikeOf_12 rfl rfl ?_
      refine g_callVip (q := 16) (As := [.int ((nI j)), .int 1]) C gyX8_isAlike gvX8_isAlike t_1336 (c_X8_isAlike_1_r (u := j) HM U (by omega) hn hn2) dX8_unlikeOf_13 rfl HM.1 rfl rfl rfl (Nat.le_of_ble_eq_true rfl) (Nat.le_of_ble_eq_true rfl) (Nat.le_of_ble_eq_true rfl) (Nat.le_of_ble_eq_true rfl) (Nat.le_of_ble_eq_true rfl) rfl (fun x7 h7 z7 => ?_)
      obtain ⟨rfl, z7⟩ := z7
      rcases z7 with ⟨rfl, ea⟩ | ⟨rfl, ea⟩
      ·
        refine g_if_eq_f (t := 21) (q := 19) C dX8_unlikeOf_16 (by decide) rfl (by decide) ?_
        refine g_iload_n (q := 20) C dX8_unlikeOf_19 rfl rfl ?_
        exact E9.1 _ _ _ _ _ _ _ dX8_unlikeOf_20 rfl rfl (Nat.le_of_ble_eq_true rfl) (Nat.le_of_ble_eq_true rfl) ⟨_, rfl, M, j, E, HM, gFM.rf, rfl, U, by omega, ea, fun _ _ => rfl, fun _ _ _ _ _ _ => rfl, Or.inl ⟨rfl, rfl⟩⟩
      ·
        refine g_if_eq_t (t := 21) C dX8_unlikeOf_16 (by decide) (by decide) ?_
        refine g_iinc (v := (nI (j + 1))) (q := 24) C dX8_unlikeOf_21 rfl (nI_1 j) (by simp only [gset]; rfl) rfl ?_
        refine g_goto (q := 2) C dX8_unlikeOf_24 (by decide) ?_
        exact ih (j + 1) (by omega) (fun q hq9 => by rcases Nat.lt_or_eq_of_le (Nat.le_of_lt_succ hq9) with h | h; exact hq q h; subst h; exact ea)
      
  refine g_iconst (v := 0) (q := 1) C dX8_unlikeOf_0 (by decide) rfl ?_
  refine g_istore_n (q := 2) C dX8_unlikeOf_1 (Nat.le_of_ble_eq_true rfl) (by simp only [gset]; rfl) rfl ?_
  exact LL E.length 0 (by omega) (fun q hq => absurd hq (Nat.not_lt_zero _))
