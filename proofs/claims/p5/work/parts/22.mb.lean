/-! the reference: copies (by program: wip/p2/m_mb.py) -/
/-- x lies in 0..b -/
def gIr (x : Int32) (b : Nat) : Prop := ∃ n, n ≤ b ∧ x = nI n
theorem gIr.c {x : Int32} {b : Nat} (h : gIr x b) (hb : b < 2 ^ 31) : x = nI x.toNatClampNeg := by
  obtain ⟨n, h1, rfl⟩ := h
  rw [nI_clamp (by omega)]
theorem gIr.le {x : Int32} {b : Nat} (h : gIr x b) (hb : b < 2 ^ 31) : x.toNatClampNeg ≤ b := by
  obtain ⟨n, h1, rfl⟩ := h
  rw [nI_clamp (by omega)]; exact h1
/-- f, but n places from i on are those of g from j on -/
def gCpy (f : Nat → Int32) (i : Nat) (g : Nat → Int32) (j n : Nat) : Nat → Int32 := fun k => if i ≤ k ∧ k < i + n then g (j + (k - i)) else f k
theorem gCpy_out {f g : Nat → Int32} {i j n k : Nat} (h : k < i ∨ i + n ≤ k) : gCpy f i g j n k = f k := if_neg (by omega)
theorem gCpy_in {f g : Nat → Int32} {i j n k : Nat} (h : k < n) : gCpy f i g j n (i + k) = g (j + k) := by
  unfold gCpy
  rw [if_pos (by omega), show i + k - i = k by omega]
theorem gCpy_0 {f g : Nat → Int32} {i j : Nat} : gCpy f i g j 0 = f := funext fun k => if_neg (by omega)
theorem gCpy_s {f g : Nat → Int32} {i j n : Nat} : upd (gCpy f i g j n) (i + n) (g (j + n)) = gCpy f i g j (n + 1) := by
  funext k
  by_cases e : k = i + n
  · subst e
    rw [pk_us, gCpy_in (by omega)]
  · rw [pk_un e]
    unfold gCpy
    by_cases c : i ≤ k ∧ k < i + n
    · rw [if_pos c, if_pos (by omega)]
    · rw [if_neg c, if_neg (by omega)]
theorem garr_id {M : gMd} {i : Nat} : M.arr i (M.a i) = M := by
  have : (fun i' => if i' = i then M.2 i else M.2 i') = M.2 := by
    funext i'
    by_cases e : i' = i
    · subst e; exact if_pos rfl
    · exact if_neg e
  show ((M.1, _) : gMd) = M
  exact Prod.ext rfl this
theorem garr_0 {M : gMd} {i a b : Nat} {g : Nat → Int32} : M.arr i (gCpy (M.a i) a g b 0) = M := by rw [gCpy_0, garr_id]
theorem garr_s {M : gMd} {i : Nat} {g : Nat → Int32} {k : Nat} : (M.arr i g).a i k = g k := by
  show (if i = i then g else M.2 i) k = g k
  rw [if_pos rfl]
theorem garr_o {M : gMd} {i i' : Nat} {g : Nat → Int32} {k : Nat} (h : ¬ i' = i) : (M.arr i g).a i' k = M.a i' k := by
  show (if i' = i then g else M.2 i') k = M.2 i' k
  rw [if_neg h]
theorem garr_put {M : gMd} {i j : Nat} {f : Nat → Int32} {x : Int32} : (M.arr i f).put i j x = M.arr i (upd f j x) := by
  have : (fun i' => if i' = i then upd ((M.arr i f).2 i) j x else (M.arr i f).2 i') = (M.arr i (upd f j x)).2 := by
    funext i'
    show (if i' = i then upd (if i = i then f else M.2 i) j x else (if i' = i then f else M.2 i')) = (if i' = i then upd f j x else M.2 i')
    by_cases e : i' = i
    · rw [if_pos e, if_pos rfl, if_pos e]
    · rw [if_neg e, if_neg e, if_neg e]
  exact Prod.ext rfl this
theorem garr_cp {M : gMd} {i a b n : Nat} {f g : Nat → Int32} {x : Int32} (h : x = g (b + n)) : (M.arr i (gCpy f a g b n)).put i (a + n) x = M.arr i (gCpy f a g b (n + 1)) := by
  rw [garr_put, h, gCpy_s]
def rX8_messageCame_0 (M : gMd) : gMd := ((((M.arr 4 (gCpy (M.a 4) 288 (M.a 4) 160 ((M.a 4 8).toNatClampNeg))).put 4 14 ((M.arr 4 (gCpy (M.a 4) 288 (M.a 4) 160 ((M.a 4 8).toNatClampNeg))).a 4 8)).put 4 13 (((M.arr 4 (gCpy (M.a 4) 288 (M.a 4) 160 ((M.a 4 8).toNatClampNeg))).a 4 13) + 1)).put 4 8 0)
theorem dX8_messageCame_0 : decode cX8_messageCame 0 = .ok (.bipush 16, 2) := by decide +kernel
theorem dX8_messageCame_2 : decode cX8_messageCame 2 = .ok (.iload_n 1, 1) := by decide +kernel
theorem dX8_messageCame_3 : decode cX8_messageCame 3 = .ok (.imul, 1) := by decide +kernel
theorem dX8_messageCame_4 : decode cX8_messageCame 4 = .ok (.istore_n 2, 1) := by decide +kernel
theorem dX8_messageCame_5 : decode cX8_messageCame 5 = .ok (.iconst 0, 1) := by decide +kernel
theorem dX8_messageCame_6 : decode cX8_messageCame 6 = .ok (.istore_n 3, 1) := by decide +kernel
theorem dX8_messageCame_7 : decode cX8_messageCame 7 = .ok (.iload_n 3, 1) := by decide +kernel
theorem dX8_messageCame_8 : decode cX8_messageCame 8 = .ok (.aload_n 0, 1) := by decide +kernel
theorem dX8_messageCame_9 : decode cX8_messageCame 9 = .ok (.getfield 22, 3) := by decide +kernel
theorem dX8_messageCame_12 : decode cX8_messageCame 12 = .ok (.iload_n 2, 1) := by decide +kernel
theorem dX8_messageCame_13 : decode cX8_messageCame 13 = .ok (.bipush 8, 2) := by decide +kernel
theorem dX8_messageCame_15 : decode cX8_messageCame 15 = .ok (.iadd, 1) := by decide +kernel
theorem dX8_messageCame_16 : decode cX8_messageCame 16 = .ok (.iaload, 1) := by decide +kernel
theorem dX8_messageCame_17 : decode cX8_messageCame 17 = .ok (.if_icmp .ge 39, 3) := by decide +kernel
theorem dX8_messageCame_20 : decode cX8_messageCame 20 = .ok (.aload_n 0, 1) := by decide +kernel
theorem dX8_messageCame_21 : decode cX8_messageCame 21 = .ok (.getfield 22, 3) := by decide +kernel
theorem dX8_messageCame_24 : decode cX8_messageCame 24 = .ok (.sipush 288, 3) := by decide +kernel
theorem dX8_messageCame_27 : decode cX8_messageCame 27 = .ok (.bipush 64, 2) := by decide +kernel
theorem dX8_messageCame_29 : decode cX8_messageCame 29 = .ok (.iload_n 1, 1) := by decide +kernel
theorem dX8_messageCame_30 : decode cX8_messageCame 30 = .ok (.imul, 1) := by decide +kernel
theorem dX8_messageCame_31 : decode cX8_messageCame 31 = .ok (.iadd, 1) := by decide +kernel
theorem dX8_messageCame_32 : decode cX8_messageCame 32 = .ok (.iload_n 3, 1) := by decide +kernel
theorem dX8_messageCame_33 : decode cX8_messageCame 33 = .ok (.iadd, 1) := by decide +kernel
theorem dX8_messageCame_34 : decode cX8_messageCame 34 = .ok (.aload_n 0, 1) := by decide +kernel
theorem dX8_messageCame_35 : decode cX8_messageCame 35 = .ok (.getfield 22, 3) := by decide +kernel
theorem dX8_messageCame_38 : decode cX8_messageCame 38 = .ok (.sipush 160, 3) := by decide +kernel
theorem dX8_messageCame_41 : decode cX8_messageCame 41 = .ok (.bipush 64, 2) := by decide +kernel
theorem dX8_messageCame_43 : decode cX8_messageCame 43 = .ok (.iload_n 1, 1) := by decide +kernel
theorem dX8_messageCame_44 : decode cX8_messageCame 44 = .ok (.imul, 1) := by decide +kernel
theorem dX8_messageCame_45 : decode cX8_messageCame 45 = .ok (.iadd, 1) := by decide +kernel
theorem dX8_messageCame_46 : decode cX8_messageCame 46 = .ok (.iload_n 3, 1) := by decide +kernel
theorem dX8_messageCame_47 : decode cX8_messageCame 47 = .ok (.iadd, 1) := by decide +kernel
theorem dX8_messageCame_48 : decode cX8_messageCame 48 = .ok (.iaload, 1) := by decide +kernel
theorem dX8_messageCame_49 : decode cX8_messageCame 49 = .ok (.iastore, 1) := by decide +kernel
theorem dX8_messageCame_50 : decode cX8_messageCame 50 = .ok (.iinc 3 1, 3) := by decide +kernel
theorem dX8_messageCame_53 : decode cX8_messageCame 53 = .ok (.goto (-46), 3) := by decide +kernel
theorem dX8_messageCame_56 : decode cX8_messageCame 56 = .ok (.aload_n 0, 1) := by decide +kernel
theorem dX8_messageCame_57 : decode cX8_messageCame 57 = .ok (.getfield 22, 3) := by decide +kernel
theorem dX8_messageCame_60 : decode cX8_messageCame 60 = .ok (.iload_n 2, 1) := by decide +kernel
theorem dX8_messageCame_61 : decode cX8_messageCame 61 = .ok (.bipush 14, 2) := by decide +kernel
theorem dX8_messageCame_63 : decode cX8_messageCame 63 = .ok (.iadd, 1) := by decide +kernel
theorem dX8_messageCame_64 : decode cX8_messageCame 64 = .ok (.aload_n 0, 1) := by decide +kernel
theorem dX8_messageCame_65 : decode cX8_messageCame 65 = .ok (.getfield 22, 3) := by decide +kernel
theorem dX8_messageCame_68 : decode cX8_messageCame 68 = .ok (.iload_n 2, 1) := by decide +kernel
theorem dX8_messageCame_69 : decode cX8_messageCame 69 = .ok (.bipush 8, 2) := by decide +kernel
theorem dX8_messageCame_71 : decode cX8_messageCame 71 = .ok (.iadd, 1) := by decide +kernel
theorem dX8_messageCame_72 : decode cX8_messageCame 72 = .ok (.iaload, 1) := by decide +kernel
theorem dX8_messageCame_73 : decode cX8_messageCame 73 = .ok (.iastore, 1) := by decide +kernel
theorem dX8_messageCame_74 : decode cX8_messageCame 74 = .ok (.aload_n 0, 1) := by decide +kernel
theorem dX8_messageCame_75 : decode cX8_messageCame 75 = .ok (.getfield 22, 3) := by decide +kernel
theorem dX8_messageCame_78 : decode cX8_messageCame 78 = .ok (.iload_n 2, 1) := by decide +kernel
theorem dX8_messageCame_79 : decode cX8_messageCame 79 = .ok (.bipush 13, 2) := by decide +kernel
theorem dX8_messageCame_81 : decode cX8_messageCame 81 = .ok (.iadd, 1) := by decide +kernel
theorem dX8_messageCame_82 : decode cX8_messageCame 82 = .ok (.dup2, 1) := by decide +kernel
theorem dX8_messageCame_83 : decode cX8_messageCame 83 = .ok (.iaload, 1) := by decide +kernel
theorem dX8_messageCame_84 : decode cX8_messageCame 84 = .ok (.iconst 1, 1) := by decide +kernel
theorem dX8_messageCame_85 : decode cX8_messageCame 85 = .ok (.iadd, 1) := by decide +kernel
theorem dX8_messageCame_86 : decode cX8_messageCame 86 = .ok (.iastore, 1) := by decide +kernel
theorem dX8_messageCame_87 : decode cX8_messageCame 87 = .ok (.aload_n 0, 1) := by decide +kernel
theorem dX8_messageCame_88 : decode cX8_messageCame 88 = .ok (.getfield 22, 3) := by decide +kernel
theorem dX8_messageCame_91 : decode cX8_messageCame 91 = .ok (.iload_n 2, 1) := by decide +kernel
theorem dX8_messageCame_92 : decode cX8_messageCame 92 = .ok (.bipush 8, 2) := by decide +kernel
theorem dX8_messageCame_94 : decode cX8_messageCame 94 = .ok (.iadd, 1) := by decide +kernel
theorem dX8_messageCame_95 : decode cX8_messageCame 95 = .ok (.iconst 0, 1) := by decide +kernel
theorem dX8_messageCame_96 : decode cX8_messageCame 96 = .ok (.iastore, 1) := by decide +kernel
theorem dX8_messageCame_97 : decode cX8_messageCame 97 = .ok (.return_, 1) := by decide +kernel
set_option maxRecDepth 100000 in
set_option maxHeartbeats 4000000 in
theorem c_X8_messageCame_0_m {hp : List gA} {M : gMd}  (HM : gMod hp M) (hn : gIr (M.a 4 8) 60) : gM yX8_messageCame cX8_messageCame 4 (none) 0 0 [.ref 122, .int 0] (hp) (0) (0) (fun v h => v = none ∧ (gMod h (rX8_messageCame_0 M) ∧ gFM hp h)) := by
  refine gM_of (ls0 := [some (.ref 122), some (.int 0), none, none]) (by decide +kernel) (Nat.le_of_ble_eq_true rfl) rfl fun X C E => ?_
  have h60 := hn.le (by decide)
  refine g_bipush (v := 16) (q := 2) C dX8_messageCame_0 (by decide) rfl ?_
  refine g_iload_n (q := 3) C dX8_messageCame_2 rfl rfl ?_
  refine g_imul (q := 4) C dX8_messageCame_3 rfl ?_
  refine g_istore_n (q := 5) C dX8_messageCame_4 (Nat.le_of_ble_eq_true rfl) (by simp only [gset]; rfl) rfl ?_
  refine g_iconst (v := 0) (q := 6) C dX8_messageCame_5 (by decide) rfl ?_
  refine g_istore_n (q := 7) C dX8_messageCame_6 (Nat.le_of_ble_eq_true rfl) (by simp only [gset]; rfl) rfl ?_
  have LL1 : ∀ d j : Nat, j + d = (M.a 4 8).toNatClampNeg → ∀  (h1 : List gA), gMod h1 (M.arr 4 (gCpy (M.a 4) 288 (M.a 4) 160 j)) → gFM hp h1 → gG X 7 [some (.ref 122), some (.int 0), some (.int 0), some (.int ((nI j)))] [] h1 0 0 := by
    intro d
    induction d with
    | zero =>
      intro j hj  h1 HL1_ fr_
      obtain rfl : (M.a 4 8).toNatClampNeg = j := by omega
      refine g_iload_n (q := 8) C dX8_messageCame_7 rfl rfl ?_
      refine g_aload_n (q := 9) C dX8_messageCame_8 rfl rfl ?_
      refine g_getfield (v := .ref 127) (q := 12) C fX8_22 dX8_messageCame_9 rfl HL1_.1 rfl ?_
      refine g_iload_n (q := 13) C dX8_messageCame_12 rfl rfl ?_
      refine g_bipush (v := 8) (q := 15) C dX8_messageCame_13 (by decide) rfl ?_
      refine g_iadd (q := 16) C dX8_messageCame_15 rfl ?_
      refine g_ialoadN (x := ((M.arr 4 (gCpy (M.a 4) 288 (M.a 4) 160 ((M.a 4 8).toNatClampNeg))).a 4 8)) (j := 8) (q := 17) C dX8_messageCame_16 rfl (HL1_.ar (i := 4) (n := 772) (by decide) rfl) (pk_in 8 772 (by decide)) (pk_cl 8) rfl ?_
      rw [show ((M.arr 4 (gCpy (M.a 4) 288 (M.a 4) 160 ((M.a 4 8).toNatClampNeg))).a 4 8) = nI ((M.a 4 8).toNatClampNeg) from ((garr_s.trans (gCpy_out (by omega)))).trans (hn.c (by decide))]
      refine g_icmp_ge_t (t := 56) C dX8_messageCame_17 (by decide) (nI_le (Nat.le_refl _) (by omega)) ?_
      refine g_aload_n (q := 57) C dX8_messageCame_56 rfl rfl ?_
      refine g_getfield (v := .ref 127) (q := 60) C fX8_22 dX8_messageCame_57 rfl HL1_.1 rfl ?_
      refine g_iload_n (q := 61) C dX8_messageCame_60 rfl rfl ?_
      refine g_bipush (v := 14) (q := 63) C dX8_messageCame_61 (by decide) rfl ?_
      refine g_iadd (q := 64) C dX8_messageCame_63 rfl ?_
      refine g_aload_n (q := 65) C dX8_messageCame_64 rfl rfl ?_
      refine g_getfield (v := .ref 127) (q := 68) C fX8_22 dX8_messageCame_65 rfl HL1_.1 rfl ?_
      refine g_iload_n (q := 69) C dX8_messageCame_68 rfl rfl ?_
      refine g_bipush (v := 8) (q := 71) C dX8_messageCame_69 (by decide) rfl ?_
      refine g_iadd (q := 72) C dX8_messageCame_71 rfl ?_
      refine g_ialoadN (x := ((M.arr 4 (gCpy (M.a 4) 288 (M.a 4) 160 ((M.a 4 8).toNatClampNeg))).a 4 8)) (j := 8) (q := 73) C dX8_messageCame_72 rfl (HL1_.ar (i := 4) (n := 772) (by decide) rfl) (pk_in 8 772 (by decide)) (pk_cl 8) rfl ?_
      refine g_iastoreN (j := 14) (q := 74) C dX8_messageCame_73 rfl (HL1_.ar (i := 4) (n := 772) (by decide) rfl) (pk_in 14 772 (by decide)) (pk_cl 14) ?_
      refine gMsto (i := 4) (j := 14) (x := ((M.arr 4 (gCpy (M.a 4) 288 (M.a 4) 160 ((M.a 4 8).toNatClampNeg))).a 4 8)) HL1_ (by decide) rfl rfl fun h2 HL2 fr2 => ?_
      refine g_aload_n (q := 75) C dX8_messageCame_74 rfl rfl ?_
      refine g_getfield (v := .ref 127) (q := 78) C fX8_22 dX8_messageCame_75 rfl HL2.1 rfl ?_
      refine g_iload_n (q := 79) C dX8_messageCame_78 rfl rfl ?_
      refine g_bipush (v := 13) (q := 81) C dX8_messageCame_79 (by decide) rfl ?_
      refine g_iadd (q := 82) C dX8_messageCame_81 rfl ?_
      refine g_dup2 (q := 83) C dX8_messageCame_82 rfl rfl rfl ?_
      refine g_ialoadN (x := ((M.arr 4 (gCpy (M.a 4) 288 (M.a 4) 160 ((M.a 4 8).toNatClampNeg))).a 4 13)) (j := 13) (q := 84) C dX8_messageCame_83 rfl (HL2.ar (i := 4) (n := 772) (by decide) rfl) (pk_in 13 772 (by decide)) (pk_cl 13) (gput_n (by decide)) ?_
      refine g_iconst (v := 1) (q := 85) C dX8_messageCame_84 (by decide) rfl ?_
      refine g_iadd (q := 86) C dX8_messageCame_85 rfl ?_
      refine g_iastoreN (j := 13) (q := 87) C dX8_messageCame_86 rfl (HL2.ar (i := 4) (n := 772) (by decide) rfl) (pk_in 13 772 (by decide)) (pk_cl 13) ?_
      refine gMsto (i := 4) (j := 13) (x := (((M.arr 4 (gCpy (M.a 4) 288 (M.a 4) 160 ((M.a 4 8).toNatClampNeg))).a 4 13) + 1)) HL2 (by decide) rfl rfl fun h3 HL3 fr3 => ?_
      refine g_aload_n (q := 88) C dX8_messageCame_87 rfl rfl ?_
      refine g_getfield (v := .ref 127) (q := 91) C fX8_22 dX8_messageCame_88 rfl HL3.1 rfl ?_
      refine g_iload_n (q := 92) C dX8_messageCame_91 rfl rfl ?_
      refine g_bipush (v := 8) (q := 94) C dX8_messageCame_92 (by decide) rfl ?_
      refine g_iadd (q := 95) C dX8_messageCame_94 rfl ?_
      refine g_iconst (v := 0) (q := 96) C dX8_messageCame_95 (by decide) rfl ?_
      refine g_iastoreN (j := 8) (q := 97) C dX8_messageCame_96 rfl (HL3.ar (i := 4) (n := 772) (by decide) rfl) (pk_in 8 772 (by decide)) (pk_cl 8) ?_
      refine gMsto (i := 4) (j := 8) (x := 0) HL3 (by decide) rfl rfl fun h4 HL4 fr4 => ?_
      have e : rX8_messageCame_0 M = ((((M.arr 4 (gCpy (M.a 4) 288 (M.a 4) 160 ((M.a 4 8).toNatClampNeg))).put 4 14 ((M.arr 4 (gCpy (M.a 4) 288 (M.a 4) 160 ((M.a 4 8).toNatClampNeg))).a 4 8)).put 4 13 (((M.arr 4 (gCpy (M.a 4) 288 (M.a 4) 160 ((M.a 4 8).toNatClampNeg))).a 4 13) + 1)).put 4 8 0) := rfl
      exact E.2.1 _ _ _ _ _ dX8_messageCame_97 rfl (Nat.le_of_ble_eq_true rfl) (Nat.le_of_ble_eq_true rfl) ⟨rfl, by rw [e]; exact ⟨HL4, (gFM.trans (gFM.trans (gFM.trans fr_ fr2) fr3) fr4)⟩⟩
    | succ d ih =>
      intro j hj  h1 HL1_ fr_
      refine g_iload_n (q := 8) C dX8_messageCame_7 rfl rfl ?_
      refine g_aload_n (q := 9) C dX8_messageCame_8 rfl rfl ?_
      refine g_getfield (v := .ref 127) (q := 12) C fX8_22 dX8_messageCame_9 rfl HL1_.1 rfl ?_
      refine g_iload_n (q := 13) C dX8_messageCame_12 rfl rfl ?_
      refine g_bipush (v := 8) (q := 15) C dX8_messageCame_13 (by decide) rfl ?_
      refine g_iadd (q := 16) C dX8_messageCame_15 rfl ?_
      refine g_ialoadN (x := ((M.arr 4 (gCpy (M.a 4) 288 (M.a 4) 160 j)).a 4 8)) (j := 8) (q := 17) C dX8_messageCame_16 rfl (HL1_.ar (i := 4) (n := 772) (by decide) rfl) (pk_in 8 772 (by decide)) (pk_cl 8) rfl ?_
      rw [show ((M.arr 4 (gCpy (M.a 4) 288 (M.a 4) 160 j)).a 4 8) = nI ((M.a 4 8).toNatClampNeg) from ((garr_s.trans (gCpy_out (by omega)))).trans (hn.c (by decide))]
      refine g_icmp_ge_f (t := 56) (q := 20) C dX8_messageCame_17 (by decide) rfl (fun h => nI_ge (show j < (M.a 4 8).toNatClampNeg by omega) (by omega) h) ?_
      refine g_aload_n (q := 21) C dX8_messageCame_20 rfl rfl ?_
      refine g_getfield (v := .ref 127) (q := 24) C fX8_22 dX8_messageCame_21 rfl HL1_.1 rfl ?_
      refine g_sipush (v := 288) (q := 27) C dX8_messageCame_24 (by decide) rfl ?_
      refine g_bipush (v := 64) (q := 29) C dX8_messageCame_27 (by decide) rfl ?_
      refine g_iload_n (q := 30) C dX8_messageCame_29 rfl rfl ?_
      refine g_imul (q := 31) C dX8_messageCame_30 rfl ?_
      refine g_iadd (q := 32) C dX8_messageCame_31 rfl ?_
      refine g_iload_n (q := 33) C dX8_messageCame_32 rfl rfl ?_
      refine g_iadd (q := 34) C dX8_messageCame_33 rfl ?_
      refine g_aload_n (q := 35) C dX8_messageCame_34 rfl rfl ?_
      refine g_getfield (v := .ref 127) (q := 38) C fX8_22 dX8_messageCame_35 rfl HL1_.1 rfl ?_
      refine g_sipush (v := 160) (q := 41) C dX8_messageCame_38 (by decide) rfl ?_
      refine g_bipush (v := 64) (q := 43) C dX8_messageCame_41 (by decide) rfl ?_
      refine g_iload_n (q := 44) C dX8_messageCame_43 rfl rfl ?_
      refine g_imul (q := 45) C dX8_messageCame_44 rfl ?_
      refine g_iadd (q := 46) C dX8_messageCame_45 rfl ?_
      refine g_iload_n (q := 47) C dX8_messageCame_46 rfl rfl ?_
      refine g_iadd (q := 48) C dX8_messageCame_47 rfl ?_
      refine g_ialoadN (x := ((M.arr 4 (gCpy (M.a 4) 288 (M.a 4) 160 j)).a 4 (160 + j))) (j := (160 + j)) (q := 49) C dX8_messageCame_48 rfl (HL1_.ar (i := 4) (n := 772) (by decide) rfl) (pk_in (160 + j) 772 (by omega) (nI_add 160 j)) (pk_cl (160 + j) (nI_add 160 j) (by omega)) rfl ?_
      refine g_iastoreN (j := (288 + j)) (q := 50) C dX8_messageCame_49 rfl (HL1_.ar (i := 4) (n := 772) (by decide) rfl) (pk_in (288 + j) 772 (by omega) (nI_add 288 j)) (pk_cl (288 + j) (nI_add 288 j) (by omega)) ?_
      refine gMsto (i := 4) (j := (288 + j)) (x := ((M.arr 4 (gCpy (M.a 4) 288 (M.a 4) 160 j)).a 4 (160 + j))) HL1_ (by decide) rfl rfl fun h5 HL5 fr5 => ?_
      refine g_iinc (v := (nI (j + 1))) (q := 53) C dX8_messageCame_50 rfl (nI_1 j) (by simp only [gset]; rfl) rfl ?_
      have e9 : (M.arr 4 (gCpy (M.a 4) 288 (M.a 4) 160 j)).put 4 (288 + j) ((M.arr 4 (gCpy (M.a 4) 288 (M.a 4) 160 j)).a 4 (160 + j)) = (M.arr 4 (gCpy (M.a 4) 288 (M.a 4) 160 (j + 1))) := garr_cp (by show (M.arr 4 (gCpy (M.a 4) 288 (M.a 4) 160 j)).a 4 _ = _; rw [(garr_s.trans (gCpy_out (by omega)))])
      have HL9 : gMod h5 (M.arr 4 (gCpy (M.a 4) 288 (M.a 4) 160 (j + 1))) := by rw [← e9]; exact HL5
      refine g_goto (q := 7) C dX8_messageCame_53 (by decide) ?_
      exact ih (j + 1) (by omega)  h5 HL9 (gFM.trans fr_ fr5)
  have HL8 : gMod hp (M.arr 4 (gCpy (M.a 4) 288 (M.a 4) 160 0)) := by rw [garr_0]; exact HM
  exact LL1 ((M.a 4 8).toNatClampNeg - 0) 0 (by omega)  hp HL8 gFM.rf
  
def rX8_messageCame_1 (M : gMd) : gMd := ((((M.arr 4 (gCpy (M.a 4) 352 (M.a 4) 224 ((M.a 4 24).toNatClampNeg))).put 4 30 ((M.arr 4 (gCpy (M.a 4) 352 (M.a 4) 224 ((M.a 4 24).toNatClampNeg))).a 4 24)).put 4 29 (((M.arr 4 (gCpy (M.a 4) 352 (M.a 4) 224 ((M.a 4 24).toNatClampNeg))).a 4 29) + 1)).put 4 24 0)
set_option maxRecDepth 100000 in
set_option maxHeartbeats 4000000 in
theorem c_X8_messageCame_1_m {hp : List gA} {M : gMd}  (HM : gMod hp M) (hn : gIr (M.a 4 24) 60) : gM yX8_messageCame cX8_messageCame 4 (none) 0 0 [.ref 122, .int 1] (hp) (0) (0) (fun v h => v = none ∧ (gMod h (rX8_messageCame_1 M) ∧ gFM hp h)) := by
  refine gM_of (ls0 := [some (.ref 122), some (.int 1), none, none]) (by decide +kernel) (Nat.le_of_ble_eq_true rfl) rfl fun X C E => ?_
  have h60 := hn.le (by decide)
  refine g_bipush (v := 16) (q := 2) C dX8_messageCame_0 (by decide) rfl ?_
  refine g_iload_n (q := 3) C dX8_messageCame_2 rfl rfl ?_
  refine g_imul (q := 4) C dX8_messageCame_3 rfl ?_
  refine g_istore_n (q := 5) C dX8_messageCame_4 (Nat.le_of_ble_eq_true rfl) (by simp only [gset]; rfl) rfl ?_
  refine g_iconst (v := 0) (q := 6) C dX8_messageCame_5 (by decide) rfl ?_
  refine g_istore_n (q := 7) C dX8_messageCame_6 (Nat.le_of_ble_eq_true rfl) (by simp only [gset]; rfl) rfl ?_
  have LL1 : ∀ d j : Nat, j + d = (M.a 4 24).toNatClampNeg → ∀  (h1 : List gA), gMod h1 (M.arr 4 (gCpy (M.a 4) 352 (M.a 4) 224 j)) → gFM hp h1 → gG X 7 [some (.ref 122), some (.int 1), some (.int 16), some (.int ((nI j)))] [] h1 0 0 := by
    intro d
    induction d with
    | zero =>
      intro j hj  h1 HL1_ fr_
      obtain rfl : (M.a 4 24).toNatClampNeg = j := by omega
      refine g_iload_n (q := 8) C dX8_messageCame_7 rfl rfl ?_
      refine g_aload_n (q := 9) C dX8_messageCame_8 rfl rfl ?_
      refine g_getfield (v := .ref 127) (q := 12) C fX8_22 dX8_messageCame_9 rfl HL1_.1 rfl ?_
      refine g_iload_n (q := 13) C dX8_messageCame_12 rfl rfl ?_
      refine g_bipush (v := 8) (q := 15) C dX8_messageCame_13 (by decide) rfl ?_
      refine g_iadd (q := 16) C dX8_messageCame_15 rfl ?_
      refine g_ialoadN (x := ((M.arr 4 (gCpy (M.a 4) 352 (M.a 4) 224 ((M.a 4 24).toNatClampNeg))).a 4 24)) (j := 24) (q := 17) C dX8_messageCame_16 rfl (HL1_.ar (i := 4) (n := 772) (by decide) rfl) (pk_in 24 772 (by decide)) (pk_cl 24) rfl ?_
      rw [show ((M.arr 4 (gCpy (M.a 4) 352 (M.a 4) 224 ((M.a 4 24).toNatClampNeg))).a 4 24) = nI ((M.a 4 24).toNatClampNeg) from ((garr_s.trans (gCpy_out (by omega)))).trans (hn.c (by decide))]
      refine g_icmp_ge_t (t := 56) C dX8_messageCame_17 (by decide) (nI_le (Nat.le_refl _) (by omega)) ?_
      refine g_aload_n (q := 57) C dX8_messageCame_56 rfl rfl ?_
      refine g_getfield (v := .ref 127) (q := 60) C fX8_22 dX8_messageCame_57 rfl HL1_.1 rfl ?_
      refine g_iload_n (q := 61) C dX8_messageCame_60 rfl rfl ?_
      refine g_bipush (v := 14) (q := 63) C dX8_messageCame_61 (by decide) rfl ?_
      refine g_iadd (q := 64) C dX8_messageCame_63 rfl ?_
      refine g_aload_n (q := 65) C dX8_messageCame_64 rfl rfl ?_
      refine g_getfield (v := .ref 127) (q := 68) C fX8_22 dX8_messageCame_65 rfl HL1_.1 rfl ?_
      refine g_iload_n (q := 69) C dX8_messageCame_68 rfl rfl ?_
      refine g_bipush (v := 8) (q := 71) C dX8_messageCame_69 (by decide) rfl ?_
      refine g_iadd (q := 72) C dX8_messageCame_71 rfl ?_
      refine g_ialoadN (x := ((M.arr 4 (gCpy (M.a 4) 352 (M.a 4) 224 ((M.a 4 24).toNatClampNeg))).a 4 24)) (j := 24) (q := 73) C dX8_messageCame_72 rfl (HL1_.ar (i := 4) (n := 772) (by decide) rfl) (pk_in 24 772 (by decide)) (pk_cl 24) rfl ?_
      refine g_iastoreN (j := 30) (q := 74) C dX8_messageCame_73 rfl (HL1_.ar (i := 4) (n := 772) (by decide) rfl) (pk_in 30 772 (by decide)) (pk_cl 30) ?_
      refine gMsto (i := 4) (j := 30) (x := ((M.arr 4 (gCpy (M.a 4) 352 (M.a 4) 224 ((M.a 4 24).toNatClampNeg))).a 4 24)) HL1_ (by decide) rfl rfl fun h2 HL2 fr2 => ?_
      refine g_aload_n (q := 75) C dX8_messageCame_74 rfl rfl ?_
      refine g_getfield (v := .ref 127) (q := 78) C fX8_22 dX8_messageCame_75 rfl HL2.1 rfl ?_
      refine g_iload_n (q := 79) C dX8_messageCame_78 rfl rfl ?_
      refine g_bipush (v := 13) (q := 81) C dX8_messageCame_79 (by decide) rfl ?_
      refine g_iadd (q := 82) C dX8_messageCame_81 rfl ?_
      refine g_dup2 (q := 83) C dX8_messageCame_82 rfl rfl rfl ?_
      refine g_ialoadN (x := ((M.arr 4 (gCpy (M.a 4) 352 (M.a 4) 224 ((M.a 4 24).toNatClampNeg))).a 4 29)) (j := 29) (q := 84) C dX8_messageCame_83 rfl (HL2.ar (i := 4) (n := 772) (by decide) rfl) (pk_in 29 772 (by decide)) (pk_cl 29) (gput_n (by decide)) ?_
      refine g_iconst (v := 1) (q := 85) C dX8_messageCame_84 (by decide) rfl ?_
      refine g_iadd (q := 86) C dX8_messageCame_85 rfl ?_
      refine g_iastoreN (j := 29) (q := 87) C dX8_messageCame_86 rfl (HL2.ar (i := 4) (n := 772) (by decide) rfl) (pk_in 29 772 (by decide)) (pk_cl 29) ?_
      refine gMsto (i := 4) (j := 29) (x := (((M.arr 4 (gCpy (M.a 4) 352 (M.a 4) 224 ((M.a 4 24).toNatClampNeg))).a 4 29) + 1)) HL2 (by decide) rfl rfl fun h3 HL3 fr3 => ?_
      refine g_aload_n (q := 88) C dX8_messageCame_87 rfl rfl ?_
      refine g_getfield (v := .ref 127) (q := 91) C fX8_22 dX8_messageCame_88 rfl HL3.1 rfl ?_
      refine g_iload_n (q := 92) C dX8_messageCame_91 rfl rfl ?_
      refine g_bipush (v := 8) (q := 94) C dX8_messageCame_92 (by decide) rfl ?_
      refine g_iadd (q := 95) C dX8_messageCame_94 rfl ?_
      refine g_iconst (v := 0) (q := 96) C dX8_messageCame_95 (by decide) rfl ?_
      refine g_iastoreN (j := 24) (q := 97) C dX8_messageCame_96 rfl (HL3.ar (i := 4) (n := 772) (by decide) rfl) (pk_in 24 772 (by decide)) (pk_cl 24) ?_
      refine gMsto (i := 4) (j := 24) (x := 0) HL3 (by decide) rfl rfl fun h4 HL4 fr4 => ?_
      have e : rX8_messageCame_1 M = ((((M.arr 4 (gCpy (M.a 4) 352 (M.a 4) 224 ((M.a 4 24).toNatClampNeg))).put 4 30 ((M.arr 4 (gCpy (M.a 4) 352 (M.a 4) 224 ((M.a 4 24).toNatClampNeg))).a 4 24)).put 4 29 (((M.arr 4 (gCpy (M.a 4) 352 (M.a 4) 224 ((M.a 4 24).toNatClampNeg))).a 4 29) + 1)).put 4 24 0) := rfl
      exact E.2.1 _ _ _ _ _ dX8_messageCame_97 rfl (Nat.le_of_ble_eq_true rfl) (Nat.le_of_ble_eq_true rfl) ⟨rfl, by rw [e]; exact ⟨HL4, (gFM.trans (gFM.trans (gFM.trans fr_ fr2) fr3) fr4)⟩⟩
    | succ d ih =>
      intro j hj  h1 HL1_ fr_
      refine g_iload_n (q := 8) C dX8_messageCame_7 rfl rfl ?_
      refine g_aload_n (q := 9) C dX8_messageCame_8 rfl rfl ?_
      refine g_getfield (v := .ref 127) (q := 12) C fX8_22 dX8_messageCame_9 rfl HL1_.1 rfl ?_
      refine g_iload_n (q := 13) C dX8_messageCame_12 rfl rfl ?_
      refine g_bipush (v := 8) (q := 15) C dX8_messageCame_13 (by decide) rfl ?_
      refine g_iadd (q := 16) C dX8_messageCame_15 rfl ?_
      refine g_ialoadN (x := ((M.arr 4 (gCpy (M.a 4) 352 (M.a 4) 224 j)).a 4 24)) (j := 24) (q := 17) C dX8_messageCame_16 rfl (HL1_.ar (i := 4) (n := 772) (by decide) rfl) (pk_in 24 772 (by decide)) (pk_cl 24) rfl ?_
      rw [show ((M.arr 4 (gCpy (M.a 4) 352 (M.a 4) 224 j)).a 4 24) = nI ((M.a 4 24).toNatClampNeg) from ((garr_s.trans (gCpy_out (by omega)))).trans (hn.c (by decide))]
      refine g_icmp_ge_f (t := 56) (q := 20) C dX8_messageCame_17 (by decide) rfl (fun h => nI_ge (show j < (M.a 4 24).toNatClampNeg by omega) (by omega) h) ?_
      refine g_aload_n (q := 21) C dX8_messageCame_20 rfl rfl ?_
      refine g_getfield (v := .ref 127) (q := 24) C fX8_22 dX8_messageCame_21 rfl HL1_.1 rfl ?_
      refine g_sipush (v := 288) (q := 27) C dX8_messageCame_24 (by decide) rfl ?_
      refine g_bipush (v := 64) (q := 29) C dX8_messageCame_27 (by decide) rfl ?_
      refine g_iload_n (q := 30) C dX8_messageCame_29 rfl rfl ?_
      refine g_imul (q := 31) C dX8_messageCame_30 rfl ?_
      refine g_iadd (q := 32) C dX8_messageCame_31 rfl ?_
      refine g_iload_n (q := 33) C dX8_messageCame_32 rfl rfl ?_
      refine g_iadd (q := 34) C dX8_messageCame_33 rfl ?_
      refine g_aload_n (q := 35) C dX8_messageCame_34 rfl rfl ?_
      refine g_getfield (v := .ref 127) (q := 38) C fX8_22 dX8_messageCame_35 rfl HL1_.1 rfl ?_
      refine g_sipush (v := 160) (q := 41) C dX8_messageCame_38 (by decide) rfl ?_
      refine g_bipush (v := 64) (q := 43) C dX8_messageCame_41 (by decide) rfl ?_
      refine g_iload_n (q := 44) C dX8_messageCame_43 rfl rfl ?_
      refine g_imul (q := 45) C dX8_messageCame_44 rfl ?_
      refine g_iadd (q := 46) C dX8_messageCame_45 rfl ?_
      refine g_iload_n (q := 47) C dX8_messageCame_46 rfl rfl ?_
      refine g_iadd (q := 48) C dX8_messageCame_47 rfl ?_
      refine g_ialoadN (x := ((M.arr 4 (gCpy (M.a 4) 352 (M.a 4) 224 j)).a 4 (224 + j))) (j := (224 + j)) (q := 49) C dX8_messageCame_48 rfl (HL1_.ar (i := 4) (n := 772) (by decide) rfl) (pk_in (224 + j) 772 (by omega) (nI_add 224 j)) (pk_cl (224 + j) (nI_add 224 j) (by omega)) rfl ?_
      refine g_iastoreN (j := (352 + j)) (q := 50) C dX8_messageCame_49 rfl (HL1_.ar (i := 4) (n := 772) (by decide) rfl) (pk_in (352 + j) 772 (by omega) (nI_add 352 j)) (pk_cl (352 + j) (nI_add 352 j) (by omega)) ?_
      refine gMsto (i := 4) (j := (352 + j)) (x := ((M.arr 4 (gCpy (M.a 4) 352 (M.a 4) 224 j)).a 4 (224 + j))) HL1_ (by decide) rfl rfl fun h5 HL5 fr5 => ?_
      refine g_iinc (v := (nI (j + 1))) (q := 53) C dX8_messageCame_50 rfl (nI_1 j) (by simp only [gset]; rfl) rfl ?_
      have e9 : (M.arr 4 (gCpy (M.a 4) 352 (M.a 4) 224 j)).put 4 (352 + j) ((M.arr 4 (gCpy (M.a 4) 352 (M.a 4) 224 j)).a 4 (224 + j)) = (M.arr 4 (gCpy (M.a 4) 352 (M.a 4) 224 (j + 1))) := garr_cp (by show (M.arr 4 (gCpy (M.a 4) 352 (M.a 4) 224 j)).a 4 _ = _; rw [(garr_s.trans (gCpy_out (by omega)))])
      have HL9 : gMod h5 (M.arr 4 (gCpy (M.a 4) 352 (M.a 4) 224 (j + 1))) := by rw [← e9]; exact HL5
      refine g_goto (q := 7) C dX8_messageCame_53 (by decide) ?_
      exact ih (j + 1) (by omega)  h5 HL9 (gFM.trans fr_ fr5)
  have HL8 : gMod hp (M.arr 4 (gCpy (M.a 4) 352 (M.a 4) 224 0)) := by rw [garr_0]; exact HM
  exact LL1 ((M.a 4 24).toNatClampNeg - 0) 0 (by omega)  hp HL8 gFM.rf
  
