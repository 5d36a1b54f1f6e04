/-! the reference: kept and brought back; faults past go (by program: wip/p2/m_ms.py) -/
def rX8_keeps (M : gMd) : gMd := (M.arr 5 (gCpy (M.a 5) 0 (M.a 4) 0 772))
theorem dX8_keeps_0 : decode cX8_keeps 0 = .ok (.iconst 0, 1) := by decide +kernel
theorem dX8_keeps_1 : decode cX8_keeps 1 = .ok (.istore_n 1, 1) := by decide +kernel
theorem dX8_keeps_2 : decode cX8_keeps 2 = .ok (.iload_n 1, 1) := by decide +kernel
theorem dX8_keeps_3 : decode cX8_keeps 3 = .ok (.sipush 772, 3) := by decide +kernel
theorem dX8_keeps_6 : decode cX8_keeps 6 = .ok (.if_icmp .ge 21, 3) := by decide +kernel
theorem dX8_keeps_9 : decode cX8_keeps 9 = .ok (.aload_n 0, 1) := by decide +kernel
theorem dX8_keeps_10 : decode cX8_keeps 10 = .ok (.getfield 25, 3) := by decide +kernel
theorem dX8_keeps_13 : decode cX8_keeps 13 = .ok (.iload_n 1, 1) := by decide +kernel
theorem dX8_keeps_14 : decode cX8_keeps 14 = .ok (.aload_n 0, 1) := by decide +kernel
theorem dX8_keeps_15 : decode cX8_keeps 15 = .ok (.getfield 22, 3) := by decide +kernel
theorem dX8_keeps_18 : decode cX8_keeps 18 = .ok (.iload_n 1, 1) := by decide +kernel
theorem dX8_keeps_19 : decode cX8_keeps 19 = .ok (.iaload, 1) := by decide +kernel
theorem dX8_keeps_20 : decode cX8_keeps 20 = .ok (.iastore, 1) := by decide +kernel
theorem dX8_keeps_21 : decode cX8_keeps 21 = .ok (.iinc 1 1, 3) := by decide +kernel
theorem dX8_keeps_24 : decode cX8_keeps 24 = .ok (.goto (-22), 3) := by decide +kernel
theorem dX8_keeps_27 : decode cX8_keeps 27 = .ok (.return_, 1) := by decide +kernel
set_option maxRecDepth 100000 in
set_option maxHeartbeats 4000000 in
theorem c_X8_keeps_m {hp : List gA} {M : gMd}  (HM : gMod hp M)  : gM yX8_keeps cX8_keeps 2 (none) 0 0 [.ref 122] (hp) (0) (0) (fun v h => v = none ∧ (gMod h (rX8_keeps M) ∧ gFM hp h)) := by
  refine gM_of (ls0 := [some (.ref 122), none]) (by decide +kernel) (Nat.le_of_ble_eq_true rfl) rfl fun X C E => ?_
  refine g_iconst (v := 0) (q := 1) C dX8_keeps_0 (by decide) rfl ?_
  refine g_istore_n (q := 2) C dX8_keeps_1 (Nat.le_of_ble_eq_true rfl) (by simp only [gset]; rfl) rfl ?_
  have LL1 : ∀ d j : Nat, j + d = 772 → ∀  (h1 : List gA), gMod h1 (M.arr 5 (gCpy (M.a 5) 0 (M.a 4) 0 j)) → gFM hp h1 → gG X 2 [some (.ref 122), some (.int ((nI j)))] [] h1 0 0 := by
    intro d
    induction d with
    | zero =>
      intro j hj  h1 HL1_ fr_
      obtain rfl : 772 = j := by omega
      refine g_iload_n (q := 3) C dX8_keeps_2 rfl rfl ?_
      refine g_sipush (v := 772) (q := 6) C dX8_keeps_3 (by decide) rfl ?_
      rw [show 772 = nI 772 from (rfl).trans rfl]
      refine g_icmp_ge_t (t := 27) C dX8_keeps_6 (by decide) (nI_le (Nat.le_refl _) (by omega)) ?_
      have e : rX8_keeps M = (M.arr 5 (gCpy (M.a 5) 0 (M.a 4) 0 772)) := rfl
      exact E.2.1 _ _ _ _ _ dX8_keeps_27 rfl (Nat.le_of_ble_eq_true rfl) (Nat.le_of_ble_eq_true rfl) ⟨rfl, by rw [e]; exact ⟨HL1_, fr_⟩⟩
    | succ d ih =>
      intro j hj  h1 HL1_ fr_
      refine g_iload_n (q := 3) C dX8_keeps_2 rfl rfl ?_
      refine g_sipush (v := 772) (q := 6) C dX8_keeps_3 (by decide) rfl ?_
      rw [show 772 = nI 772 from (rfl).trans rfl]
      refine g_icmp_ge_f (t := 27) (q := 9) C dX8_keeps_6 (by decide) rfl (fun h => nI_ge (show j < 772 by omega) (by omega) h) ?_
      refine g_aload_n (q := 10) C dX8_keeps_9 rfl rfl ?_
      refine g_getfield (v := .ref 128) (q := 13) C fX8_25 dX8_keeps_10 rfl HL1_.1 rfl ?_
      refine g_iload_n (q := 14) C dX8_keeps_13 rfl rfl ?_
      refine g_aload_n (q := 15) C dX8_keeps_14 rfl rfl ?_
      refine g_getfield (v := .ref 127) (q := 18) C fX8_22 dX8_keeps_15 rfl HL1_.1 rfl ?_
      refine g_iload_n (q := 19) C dX8_keeps_18 rfl rfl ?_
      refine g_ialoadN (x := ((M.arr 5 (gCpy (M.a 5) 0 (M.a 4) 0 j)).a 4 j)) (j := j) (q := 20) C dX8_keeps_19 rfl (HL1_.ar (i := 4) (n := 772) (by decide) rfl) (pk_in j 772 (by omega)) (pk_cl j rfl (by omega)) rfl ?_
      refine g_iastoreN (j := j) (q := 21) C dX8_keeps_20 rfl (HL1_.ar (i := 5) (n := 772) (by decide) rfl) (pk_in j 772 (by omega)) (pk_cl j rfl (by omega)) ?_
      refine gMsto (i := 5) (j := j) (x := ((M.arr 5 (gCpy (M.a 5) 0 (M.a 4) 0 j)).a 4 j)) HL1_ (by decide) rfl rfl fun h2 HL2 fr2 => ?_
      refine g_iinc (v := (nI (j + 1))) (q := 24) C dX8_keeps_21 rfl (nI_1 j) (by simp only [gset]; rfl) rfl ?_
      have e9 : (M.arr 5 (gCpy (M.a 5) 0 (M.a 4) 0 j)).put 5 (0 + j) ((M.arr 5 (gCpy (M.a 5) 0 (M.a 4) 0 j)).a 4 j) = (M.arr 5 (gCpy (M.a 5) 0 (M.a 4) 0 (j + 1))) := garr_cp (by show (M.arr 5 (gCpy (M.a 5) 0 (M.a 4) 0 j)).a 4 _ = _; rw [(garr_o (by decide))]; rw [Nat.zero_add])
      have HL9 : gMod h2 (M.arr 5 (gCpy (M.a 5) 0 (M.a 4) 0 (j + 1))) := by rw [← e9, Nat.zero_add]; exact HL2
      refine g_goto (q := 2) C dX8_keeps_24 (by decide) ?_
      exact ih (j + 1) (by omega)  h2 HL9 (gFM.trans fr_ fr2)
  have HL8 : gMod hp (M.arr 5 (gCpy (M.a 5) 0 (M.a 4) 0 0)) := by rw [garr_0]; exact HM
  exact LL1 (772 - 0) 0 (by omega)  hp HL8 gFM.rf
  
def rX8_comesBack (M : gMd) : gMd := (M.arr 4 (gCpy (M.a 4) 0 (M.a 5) 0 772))
theorem dX8_comesBack_0 : decode cX8_comesBack 0 = .ok (.iconst 0, 1) := by decide +kernel
theorem dX8_comesBack_1 : decode cX8_comesBack 1 = .ok (.istore_n 1, 1) := by decide +kernel
theorem dX8_comesBack_2 : decode cX8_comesBack 2 = .ok (.iload_n 1, 1) := by decide +kernel
theorem dX8_comesBack_3 : decode cX8_comesBack 3 = .ok (.sipush 772, 3) := by decide +kernel
theorem dX8_comesBack_6 : decode cX8_comesBack 6 = .ok (.if_icmp .ge 21, 3) := by decide +kernel
theorem dX8_comesBack_9 : decode cX8_comesBack 9 = .ok (.aload_n 0, 1) := by decide +kernel
theorem dX8_comesBack_10 : decode cX8_comesBack 10 = .ok (.getfield 22, 3) := by decide +kernel
theorem dX8_comesBack_13 : decode cX8_comesBack 13 = .ok (.iload_n 1, 1) := by decide +kernel
theorem dX8_comesBack_14 : decode cX8_comesBack 14 = .ok (.aload_n 0, 1) := by decide +kernel
theorem dX8_comesBack_15 : decode cX8_comesBack 15 = .ok (.getfield 25, 3) := by decide +kernel
theorem dX8_comesBack_18 : decode cX8_comesBack 18 = .ok (.iload_n 1, 1) := by decide +kernel
theorem dX8_comesBack_19 : decode cX8_comesBack 19 = .ok (.iaload, 1) := by decide +kernel
theorem dX8_comesBack_20 : decode cX8_comesBack 20 = .ok (.iastore, 1) := by decide +kernel
theorem dX8_comesBack_21 : decode cX8_comesBack 21 = .ok (.iinc 1 1, 3) := by decide +kernel
theorem dX8_comesBack_24 : decode cX8_comesBack 24 = .ok (.goto (-22), 3) := by decide +kernel
theorem dX8_comesBack_27 : decode cX8_comesBack 27 = .ok (.return_, 1) := by decide +kernel
set_option maxRecDepth 100000 in
set_option maxHeartbeats 4000000 in
theorem c_X8_comesBack_m {hp : List gA} {M : gMd}  (HM : gMod hp M)  : gM yX8_comesBack cX8_comesBack 2 (none) 0 0 [.ref 122] (hp) (0) (0) (fun v h => v = none ∧ (gMod h (rX8_comesBack M) ∧ gFM hp h)) := by
  refine gM_of (ls0 := [some (.ref 122), none]) (by decide +kernel) (Nat.le_of_ble_eq_true rfl) rfl fun X C E => ?_
  refine g_iconst (v := 0) (q := 1) C dX8_comesBack_0 (by decide) rfl ?_
  refine g_istore_n (q := 2) C dX8_comesBack_1 (Nat.le_of_ble_eq_true rfl) (by simp only [gset]; rfl) rfl ?_
  have LL1 : ∀ d j : Nat, j + d = 772 → ∀  (h1 : List gA), gMod h1 (M.arr 4 (gCpy (M.a 4) 0 (M.a 5) 0 j)) → gFM hp h1 → gG X 2 [some (.ref 122), some (.int ((nI j)))] [] h1 0 0 := by
    intro d
    induction d with
    | zero =>
      intro j hj  h1 HL1_ fr_
      obtain rfl : 772 = j := by omega
      refine g_iload_n (q := 3) C dX8_comesBack_2 rfl rfl ?_
      refine g_sipush (v := 772) (q := 6) C dX8_comesBack_3 (by decide) rfl ?_
      rw [show 772 = nI 772 from (rfl).trans rfl]
      refine g_icmp_ge_t (t := 27) C dX8_comesBack_6 (by decide) (nI_le (Nat.le_refl _) (by omega)) ?_
      have e : rX8_comesBack M = (M.arr 4 (gCpy (M.a 4) 0 (M.a 5) 0 772)) := rfl
      exact E.2.1 _ _ _ _ _ dX8_comesBack_27 rfl (Nat.le_of_ble_eq_true rfl) (Nat.le_of_ble_eq_true rfl) ⟨rfl, by rw [e]; exact ⟨HL1_, fr_⟩⟩
    | succ d ih =>
      intro j hj  h1 HL1_ fr_
      refine g_iload_n (q := 3) C dX8_comesBack_2 rfl rfl ?_
      refine g_sipush (v := 772) (q := 6) C dX8_comesBack_3 (by decide) rfl ?_
      rw [show 772 = nI 772 from (rfl).trans rfl]
      refine g_icmp_ge_f (t := 27) (q := 9) C dX8_comesBack_6 (by decide) rfl (fun h => nI_ge (show j < 772 by omega) (by omega) h) ?_
      refine g_aload_n (q := 10) C dX8_comesBack_9 rfl rfl ?_
      refine g_getfield (v := .ref 127) (q := 13) C fX8_22 dX8_comesBack_10 rfl HL1_.1 rfl ?_
      refine g_iload_n (q := 14) C dX8_comesBack_13 rfl rfl ?_
      refine g_aload_n (q := 15) C dX8_comesBack_14 rfl rfl ?_
      refine g_getfield (v := .ref 128) (q := 18) C fX8_25 dX8_comesBack_15 rfl HL1_.1 rfl ?_
      refine g_iload_n (q := 19) C dX8_comesBack_18 rfl rfl ?_
      refine g_ialoadN (x := ((M.arr 4 (gCpy (M.a 4) 0 (M.a 5) 0 j)).a 5 j)) (j := j) (q := 20) C dX8_comesBack_19 rfl (HL1_.ar (i := 5) (n := 772) (by decide) rfl) (pk_in j 772 (by omega)) (pk_cl j rfl (by omega)) rfl ?_
      refine g_iastoreN (j := j) (q := 21) C dX8_comesBack_20 rfl (HL1_.ar (i := 4) (n := 772) (by decide) rfl) (pk_in j 772 (by omega)) (pk_cl j rfl (by omega)) ?_
      refine gMsto (i := 4) (j := j) (x := ((M.arr 4 (gCpy (M.a 4) 0 (M.a 5) 0 j)).a 5 j)) HL1_ (by decide) rfl rfl fun h2 HL2 fr2 => ?_
      refine g_iinc (v := (nI (j + 1))) (q := 24) C dX8_comesBack_21 rfl (nI_1 j) (by simp only [gset]; rfl) rfl ?_
      have e9 : (M.arr 4 (gCpy (M.a 4) 0 (M.a 5) 0 j)).put 4 (0 + j) ((M.arr 4 (gCpy (M.a 4) 0 (M.a 5) 0 j)).a 5 j) = (M.arr 4 (gCpy (M.a 4) 0 (M.a 5) 0 (j + 1))) := garr_cp (by show (M.arr 4 (gCpy (M.a 4) 0 (M.a 5) 0 j)).a 5 _ = _; rw [(garr_o (by decide))]; rw [Nat.zero_add])
      have HL9 : gMod h2 (M.arr 4 (gCpy (M.a 4) 0 (M.a 5) 0 (j + 1))) := by rw [← e9, Nat.zero_add]; exact HL2
      refine g_goto (q := 2) C dX8_comesBack_24 (by decide) ?_
      exact ih (j + 1) (by omega)  h2 HL9 (gFM.trans fr_ fr2)
  have HL8 : gMod hp (M.arr 4 (gCpy (M.a 4) 0 (M.a 5) 0 0)) := by rw [garr_0]; exact HM
  exact LL1 (772 - 0) 0 (by omega)  hp HL8 gFM.rf
  
/-- a fault's kind and what it turns -/
def gF1 (a b : Int32) : Prop := (a = 1 ∧ b = 0) ∨ (a = 3 ∧ b = 0) ∨ (a = 2 ∧ ∃ y, 1 ≤ y ∧ y < 256 ∧ b = nI y)
/-- faults past go, underway: of j entries L stay -/
def gPs (s g : Nat → Int32) (j L : Nat) : Prop := (∀ q, ¬ (431 ≤ q ∧ q < 431 + 3 * L) → g q = s q) ∧ (∀ i, i < L → s 423 ≤ g (431 + 3 * i) ∧ gF1 (g (431 + 3 * i + 1)) (g (431 + 3 * i + 2))) ∧ gcn s (s 423) j = L ∧ L ≤ j
theorem gPs.nil {s : Nat → Int32} : gPs s s 0 0 := ⟨fun _ _ => rfl, fun _ h => absurd h (Nat.not_lt_zero _), rfl, Nat.le_refl _⟩
theorem gPs.keep {s g : Nat → Int32} {j L : Nat} (H : gPs s g j L) (c : ¬ s 423 ≤ s (431 + 3 * j)) : gPs s g (j + 1) L := by
  refine ⟨H.1, H.2.1, ?_, Nat.le_succ_of_le H.2.2.2⟩
  show gcn s (s 423) j + _ = L
  rw [if_neg c]; exact H.2.2.1
theorem gPs.add {s g : Nat → Int32} {j L : Nat} {x0 x1 x2 : Int32} (H : gPs s g j L) (c : s 423 ≤ s (431 + 3 * j)) (hE : gF1 (s (431 + 3 * j + 1)) (s (431 + 3 * j + 2))) (e0 : x0 = s (431 + 3 * j)) (e1 : x1 = s (431 + 3 * j + 1)) (e2 : x2 = s (431 + 3 * j + 2)) :
    gPs s (upd (upd (upd g (431 + 3 * L) x0) (431 + 3 * L + 1) x1) (431 + 3 * L + 2) x2) (j + 1) (L + 1) := by
  obtain ⟨a1, a2, a3, a4⟩ := H
  subst e0; subst e1; subst e2
  refine ⟨fun q hq => ?_, fun i hi => ?_, ?_, by omega⟩
  · rw [pk_un (by omega), pk_un (by omega), pk_un (by omega)]; exact a1 q (by omega)
  · by_cases e : i = L
    · subst e
      refine ⟨?_, ?_⟩
      · rw [pk_un (by omega), pk_un (by omega), pk_us]; exact c
      · rw [pk_us, pk_un (by omega), pk_us]; exact hE
    · rw [pk_un (by omega), pk_un (by omega), pk_un (by omega), pk_un (by omega), pk_un (by omega), pk_un (by omega), pk_un (by omega), pk_un (by omega), pk_un (by omega)]
      exact a2 i (by omega)
  · show gcn s (s 423) j + _ = L + 1
    rw [if_pos c, a3]
theorem dX8_passes_0 : decode cX8_passes 0 = .ok (.iconst 0, 1) := by decide +kernel
theorem dX8_passes_1 : decode cX8_passes 1 = .ok (.istore_n 1, 1) := by decide +kernel
theorem dX8_passes_2 : decode cX8_passes 2 = .ok (.iconst 0, 1) := by decide +kernel
theorem dX8_passes_3 : decode cX8_passes 3 = .ok (.istore_n 2, 1) := by decide +kernel
theorem dX8_passes_4 : decode cX8_passes 4 = .ok (.iload_n 2, 1) := by decide +kernel
theorem dX8_passes_5 : decode cX8_passes 5 = .ok (.aload_n 0, 1) := by decide +kernel
theorem dX8_passes_6 : decode cX8_passes 6 = .ok (.getfield 22, 3) := by decide +kernel
theorem dX8_passes_9 : decode cX8_passes 9 = .ok (.sipush 430, 3) := by decide +kernel
theorem dX8_passes_12 : decode cX8_passes 12 = .ok (.iaload, 1) := by decide +kernel
theorem dX8_passes_13 : decode cX8_passes 13 = .ok (.if_icmp .ge 79, 3) := by decide +kernel
theorem dX8_passes_16 : decode cX8_passes 16 = .ok (.aload_n 0, 1) := by decide +kernel
theorem dX8_passes_17 : decode cX8_passes 17 = .ok (.getfield 22, 3) := by decide +kernel
theorem dX8_passes_20 : decode cX8_passes 20 = .ok (.sipush 431, 3) := by decide +kernel
theorem dX8_passes_23 : decode cX8_passes 23 = .ok (.iconst 3, 1) := by decide +kernel
theorem dX8_passes_24 : decode cX8_passes 24 = .ok (.iload_n 2, 1) := by decide +kernel
theorem dX8_passes_25 : decode cX8_passes 25 = .ok (.imul, 1) := by decide +kernel
theorem dX8_passes_26 : decode cX8_passes 26 = .ok (.iadd, 1) := by decide +kernel
theorem dX8_passes_27 : decode cX8_passes 27 = .ok (.iaload, 1) := by decide +kernel
theorem dX8_passes_28 : decode cX8_passes 28 = .ok (.aload_n 0, 1) := by decide +kernel
theorem dX8_passes_29 : decode cX8_passes 29 = .ok (.getfield 22, 3) := by decide +kernel
theorem dX8_passes_32 : decode cX8_passes 32 = .ok (.sipush 423, 3) := by decide +kernel
theorem dX8_passes_35 : decode cX8_passes 35 = .ok (.iaload, 1) := by decide +kernel
theorem dX8_passes_36 : decode cX8_passes 36 = .ok (.if_icmp .ge 6, 3) := by decide +kernel
theorem dX8_passes_39 : decode cX8_passes 39 = .ok (.goto 47, 3) := by decide +kernel
theorem dX8_passes_42 : decode cX8_passes 42 = .ok (.iconst 0, 1) := by decide +kernel
theorem dX8_passes_43 : decode cX8_passes 43 = .ok (.istore_n 3, 1) := by decide +kernel
theorem dX8_passes_44 : decode cX8_passes 44 = .ok (.iload_n 3, 1) := by decide +kernel
theorem dX8_passes_45 : decode cX8_passes 45 = .ok (.iconst 3, 1) := by decide +kernel
theorem dX8_passes_46 : decode cX8_passes 46 = .ok (.if_icmp .ge 37, 3) := by decide +kernel
theorem dX8_passes_49 : decode cX8_passes 49 = .ok (.aload_n 0, 1) := by decide +kernel
theorem dX8_passes_50 : decode cX8_passes 50 = .ok (.getfield 22, 3) := by decide +kernel
theorem dX8_passes_53 : decode cX8_passes 53 = .ok (.sipush 431, 3) := by decide +kernel
theorem dX8_passes_56 : decode cX8_passes 56 = .ok (.iconst 3, 1) := by decide +kernel
theorem dX8_passes_57 : decode cX8_passes 57 = .ok (.iload_n 1, 1) := by decide +kernel
theorem dX8_passes_58 : decode cX8_passes 58 = .ok (.imul, 1) := by decide +kernel
theorem dX8_passes_59 : decode cX8_passes 59 = .ok (.iadd, 1) := by decide +kernel
theorem dX8_passes_60 : decode cX8_passes 60 = .ok (.iload_n 3, 1) := by decide +kernel
theorem dX8_passes_61 : decode cX8_passes 61 = .ok (.iadd, 1) := by decide +kernel
theorem dX8_passes_62 : decode cX8_passes 62 = .ok (.aload_n 0, 1) := by decide +kernel
theorem dX8_passes_63 : decode cX8_passes 63 = .ok (.getfield 22, 3) := by decide +kernel
theorem dX8_passes_66 : decode cX8_passes 66 = .ok (.sipush 431, 3) := by decide +kernel
theorem dX8_passes_69 : decode cX8_passes 69 = .ok (.iconst 3, 1) := by decide +kernel
theorem dX8_passes_70 : decode cX8_passes 70 = .ok (.iload_n 2, 1) := by decide +kernel
theorem dX8_passes_71 : decode cX8_passes 71 = .ok (.imul, 1) := by decide +kernel
theorem dX8_passes_72 : decode cX8_passes 72 = .ok (.iadd, 1) := by decide +kernel
theorem dX8_passes_73 : decode cX8_passes 73 = .ok (.iload_n 3, 1) := by decide +kernel
theorem dX8_passes_74 : decode cX8_passes 74 = .ok (.iadd, 1) := by decide +kernel
theorem dX8_passes_75 : decode cX8_passes 75 = .ok (.iaload, 1) := by decide +kernel
theorem dX8_passes_76 : decode cX8_passes 76 = .ok (.iastore, 1) := by decide +kernel
theorem dX8_passes_77 : decode cX8_passes 77 = .ok (.iinc 3 1, 3) := by decide +kernel
theorem dX8_passes_80 : decode cX8_passes 80 = .ok (.goto (-36), 3) := by decide +kernel
theorem dX8_passes_83 : decode cX8_passes 83 = .ok (.iinc 1 1, 3) := by decide +kernel
theorem dX8_passes_86 : decode cX8_passes 86 = .ok (.iinc 2 1, 3) := by decide +kernel
theorem dX8_passes_89 : decode cX8_passes 89 = .ok (.goto (-85), 3) := by decide +kernel
theorem dX8_passes_92 : decode cX8_passes 92 = .ok (.aload_n 0, 1) := by decide +kernel
theorem dX8_passes_93 : decode cX8_passes 93 = .ok (.getfield 22, 3) := by decide +kernel
theorem dX8_passes_96 : decode cX8_passes 96 = .ok (.sipush 430, 3) := by decide +kernel
theorem dX8_passes_99 : decode cX8_passes 99 = .ok (.iload_n 1, 1) := by decide +kernel
theorem dX8_passes_100 : decode cX8_passes 100 = .ok (.iastore, 1) := by decide +kernel
theorem dX8_passes_101 : decode cX8_passes 101 = .ok (.return_, 1) := by decide +kernel
set_option maxRecDepth 100000 in
set_option maxHeartbeats 4000000 in
theorem c_X8_passes_r {hp : List gA} {M : gMd}  (HM : gMod hp M) (hf : gIr (M.a 4 430) 25) (hE : gFe (M.a 4)) : gM yX8_passes cX8_passes 4 (none) 0 0 [.ref 122] (hp) (0) (0) (fun v h => v = none ∧ ∃ g L, gMod h ((M.arr 4 g).put 4 430 (nI L)) ∧ gFM hp h ∧ gPs (M.a 4) g (M.a 4 430).toNatClampNeg L) := by
  refine gM_of (ls0 := [some (.ref 122), none, none, none]) (by decide +kernel) (Nat.le_of_ble_eq_true rfl) rfl fun X C E => ?_
  refine g_iconst (v := 0) (q := 1) C dX8_passes_0 (by decide) rfl ?_
  refine g_istore_n (q := 2) C dX8_passes_1 (Nat.le_of_ble_eq_true rfl) (by simp only [gset]; rfl) rfl ?_
  refine g_iconst (v := 0) (q := 3) C dX8_passes_2 (by decide) rfl ?_
  refine g_istore_n (q := 4) C dX8_passes_3 (Nat.le_of_ble_eq_true rfl) (by simp only [gset]; rfl) rfl ?_
  have h25 := hf.le (by decide)
  have LL : ∀ d j : Nat, j + d = (M.a 4 430).toNatClampNeg → ∀ (L : Nat) (g : Nat → Int32) (x3 : Option Value) (hz : List gA), gMod hz (M.arr 4 g) → gFM hp hz → gPs (M.a 4) g j L → gG X 4 [some (.ref 122), some (.int ((nI L))), some (.int ((nI j))), x3] [] hz 0 0 := by
    intro d
    induction d with
    | zero =>
      intro j hj L g x3 hz HZ frz H
      obtain rfl : (M.a 4 430).toNatClampNeg = j := by omega
      have r0 : ∀ q, ¬ (431 ≤ q ∧ q < 431 + 3 * L) → (M.arr 4 g).a 4 q = M.a 4 q := fun q h => garr_s.trans (H.1 q h)
      have hL := H.2.2.2
      refine g_iload_n (q := 5) C dX8_passes_4 rfl rfl ?_
      refine g_aload_n (q := 6) C dX8_passes_5 rfl rfl ?_
      refine g_getfield (v := .ref 127) (q := 9) C fX8_22 dX8_passes_6 rfl HZ.1 rfl ?_
      refine g_sipush (v := 430) (q := 12) C dX8_passes_9 (by decide) rfl ?_
      refine g_ialoadN (x := ((M.arr 4 g).a 4 430)) (j := 430) (q := 13) C dX8_passes_12 rfl (HZ.ar (i := 4) (n := 772) (by decide) rfl) (pk_in 430 772 (by decide)) (pk_cl 430) rfl ?_
      rw [show ((M.arr 4 g).a 4 430) = nI (M.a 4 430).toNatClampNeg from (r0 430 (by omega)).trans (hf.c (by decide))]
      refine g_icmp_ge_t (t := 92) C dX8_passes_13 (by decide) (nI_le (Nat.le_refl _) (by omega)) ?_
      refine g_aload_n (q := 93) C dX8_passes_92 rfl rfl ?_
      refine g_getfield (v := .ref 127) (q := 96) C fX8_22 dX8_passes_93 rfl HZ.1 rfl ?_
      refine g_sipush (v := 430) (q := 99) C dX8_passes_96 (by decide) rfl ?_
      refine g_iload_n (q := 100) C dX8_passes_99 rfl rfl ?_
      refine g_iastoreN (j := 430) (q := 101) C dX8_passes_100 rfl (HZ.ar (i := 4) (n := 772) (by decide) rfl) (pk_in 430 772 (by decide)) (pk_cl 430) ?_
      refine gMsto (i := 4) (j := 430) (x := (nI L)) HZ (by decide) rfl rfl fun h1 HL1 fr1 => ?_
      exact E.2.1 _ _ _ _ _ dX8_passes_101 rfl (Nat.le_of_ble_eq_true rfl) (Nat.le_of_ble_eq_true rfl) ⟨rfl, g, L, HL1, (gFM.trans frz fr1), H⟩
    | succ d ih =>
      intro j hj L g x3 hz HZ frz H
      have r0 : ∀ q, ¬ (431 ≤ q ∧ q < 431 + 3 * L) → (M.arr 4 g).a 4 q = M.a 4 q := fun q h => garr_s.trans (H.1 q h)
      have hL := H.2.2.2
      refine g_iload_n (q := 5) C dX8_passes_4 rfl rfl ?_
      refine g_aload_n (q := 6) C dX8_passes_5 rfl rfl ?_
      refine g_getfield (v := .ref 127) (q := 9) C fX8_22 dX8_passes_6 rfl HZ.1 rfl ?_
      refine g_sipush (v := 430) (q := 12) C dX8_passes_9 (by decide) rfl ?_
      refine g_ialoadN (x := ((M.arr 4 g).a 4 430)) (j := 430) (q := 13) C dX8_passes_12 rfl (HZ.ar (i := 4) (n := 772) (by decide) rfl) (pk_in 430 772 (by decide)) (pk_cl 430) rfl ?_
      rw [show ((M.arr 4 g).a 4 430) = nI (M.a 4 430).toNatClampNeg from (r0 430 (by omega)).trans (hf.c (by decide))]
      refine g_icmp_ge_f (t := 92) (q := 16) C dX8_passes_13 (by decide) rfl (fun h => nI_ge (show j < (M.a 4 430).toNatClampNeg by omega) (by omega) h) ?_
      refine g_aload_n (q := 17) C dX8_passes_16 rfl rfl ?_
      refine g_getfield (v := .ref 127) (q := 20) C fX8_22 dX8_passes_17 rfl HZ.1 rfl ?_
      refine g_sipush (v := 431) (q := 23) C dX8_passes_20 (by decide) rfl ?_
      refine g_iconst (v := 3) (q := 24) C dX8_passes_23 (by decide) rfl ?_
      refine g_iload_n (q := 25) C dX8_passes_24 rfl rfl ?_
      refine g_imul (q := 26) C dX8_passes_25 rfl ?_
      refine g_iadd (q := 27) C dX8_passes_26 rfl ?_
      refine g_ialoadN (x := ((M.arr 4 g).a 4 (431 + 3 * j))) (j := (431 + 3 * j)) (q := 28) C dX8_passes_27 rfl (HZ.ar (i := 4) (n := 772) (by decide) rfl) (pk_in (431 + 3 * j) 772 (by omega) (g3j (by omega))) (pk_cl (431 + 3 * j) (g3j (by omega)) (by omega)) rfl ?_
      refine g_aload_n (q := 29) C dX8_passes_28 rfl rfl ?_
      refine g_getfield (v := .ref 127) (q := 32) C fX8_22 dX8_passes_29 rfl HZ.1 rfl ?_
      refine g_sipush (v := 423) (q := 35) C dX8_passes_32 (by decide) rfl ?_
      refine g_ialoadN (x := ((M.arr 4 g).a 4 423)) (j := 423) (q := 36) C dX8_passes_35 rfl (HZ.ar (i := 4) (n := 772) (by decide) rfl) (pk_in 423 772 (by decide)) (pk_cl 423) rfl ?_
      refine g_icmp_ge (t := 42) (q := 39) C dX8_passes_36 (by decide) rfl (fun c_36 => ?_) (fun c_36 => ?_)
      ·
        refine g_iconst (v := 0) (q := 43) C dX8_passes_42 (by decide) rfl ?_
        refine g_istore_n (q := 44) C dX8_passes_43 (Nat.le_of_ble_eq_true rfl) (by simp only [gset]; rfl) rfl ?_
        refine g_iload_n (q := 45) C dX8_passes_44 rfl rfl ?_
        refine g_iconst (v := 3) (q := 46) C dX8_passes_45 (by decide) rfl ?_
        refine g_icmp_ge_f (t := 83) (q := 49) C dX8_passes_46 (by decide) rfl (by decide) ?_
        refine g_aload_n (q := 50) C dX8_passes_49 rfl rfl ?_
        refine g_getfield (v := .ref 127) (q := 53) C fX8_22 dX8_passes_50 rfl HZ.1 rfl ?_
        refine g_sipush (v := 431) (q := 56) C dX8_passes_53 (by decide) rfl ?_
        refine g_iconst (v := 3) (q := 57) C dX8_passes_56 (by decide) rfl ?_
        refine g_iload_n (q := 58) C dX8_passes_57 rfl rfl ?_
        refine g_imul (q := 59) C dX8_passes_58 rfl ?_
        refine g_iadd (q := 60) C dX8_passes_59 rfl ?_
        refine g_iload_n (q := 61) C dX8_passes_60 rfl rfl ?_
        refine g_iadd (q := 62) C dX8_passes_61 rfl ?_
        refine g_aload_n (q := 63) C dX8_passes_62 rfl rfl ?_
        refine g_getfield (v := .ref 127) (q := 66) C fX8_22 dX8_passes_63 rfl HZ.1 rfl ?_
        refine g_sipush (v := 431) (q := 69) C dX8_passes_66 (by decide) rfl ?_
        refine g_iconst (v := 3) (q := 70) C dX8_passes_69 (by decide) rfl ?_
        refine g_iload_n (q := 71) C dX8_passes_70 rfl rfl ?_
        refine g_imul (q := 72) C dX8_passes_71 rfl ?_
        refine g_iadd (q := 73) C dX8_passes_72 rfl ?_
        refine g_iload_n (q := 74) C dX8_passes_73 rfl rfl ?_
        refine g_iadd (q := 75) C dX8_passes_74 rfl ?_
        refine g_ialoadN (x := ((M.arr 4 g).a 4 (431 + 3 * j))) (j := (431 + 3 * j)) (q := 76) C dX8_passes_75 rfl (HZ.ar (i := 4) (n := 772) (by decide) rfl) (pk_in (431 + 3 * j) 772 (by omega) (g3c (c := 0) (by omega) (by decide))) (pk_cl (431 + 3 * j) (g3c (c := 0) (by omega) (by decide)) (by omega)) rfl ?_
        refine g_iastoreN (j := (431 + 3 * L)) (q := 77) C dX8_passes_76 rfl (HZ.ar (i := 4) (n := 772) (by decide) rfl) (pk_in (431 + 3 * L) 772 (by omega) (g3c (c := 0) (by omega) (by decide))) (pk_cl (431 + 3 * L) (g3c (c := 0) (by omega) (by decide)) (by omega)) ?_
        refine gMsto (i := 4) (j := (431 + 3 * L)) (x := ((M.arr 4 g).a 4 (431 + 3 * j))) HZ (by decide) rfl rfl fun h2 HL2 fr2 => ?_
        refine g_iinc (v := 1) (q := 80) C dX8_passes_77 rfl (by decide) (by simp only [gset]; rfl) rfl ?_
        refine g_goto (q := 44) C dX8_passes_80 (by decide) ?_
        refine g_iload_n (q := 45) C dX8_passes_44 rfl rfl ?_
        refine g_iconst (v := 3) (q := 46) C dX8_passes_45 (by decide) rfl ?_
        refine g_icmp_ge_f (t := 83) (q := 49) C dX8_passes_46 (by decide) rfl (by decide) ?_
        refine g_aload_n (q := 50) C dX8_passes_49 rfl rfl ?_
        refine g_getfield (v := .ref 127) (q := 53) C fX8_22 dX8_passes_50 rfl HL2.1 rfl ?_
        refine g_sipush (v := 431) (q := 56) C dX8_passes_53 (by decide) rfl ?_
        refine g_iconst (v := 3) (q := 57) C dX8_passes_56 (by decide) rfl ?_
        refine g_iload_n (q := 58) C dX8_passes_57 rfl rfl ?_
        refine g_imul (q := 59) C dX8_passes_58 rfl ?_
        refine g_iadd (q := 60) C dX8_passes_59 rfl ?_
        refine g_iload_n (q := 61) C dX8_passes_60 rfl rfl ?_
        refine g_iadd (q := 62) C dX8_passes_61 rfl ?_
        refine g_aload_n (q := 63) C dX8_passes_62 rfl rfl ?_
        refine g_getfield (v := .ref 127) (q := 66) C fX8_22 dX8_passes_63 rfl HL2.1 rfl ?_
        refine g_sipush (v := 431) (q := 69) C dX8_passes_66 (by decide) rfl ?_
        refine g_iconst (v := 3) (q := 70) C dX8_passes_69 (by decide) rfl ?_
        refine g_iload_n (q := 71) C dX8_passes_70 rfl rfl ?_
        refine g_imul (q := 72) C dX8_passes_71 rfl ?_
        refine g_iadd (q := 73) C dX8_passes_72 rfl ?_
        refine g_iload_n (q := 74) C dX8_passes_73 rfl rfl ?_
        refine g_iadd (q := 75) C dX8_passes_74 rfl ?_
        refine g_ialoadN (x := (((M.arr 4 g).put 4 (431 + 3 * L) ((M.arr 4 g).a 4 (431 + 3 * j))).a 4 (431 + 3 * j + 1))) (j := (431 + 3 * j + 1)) (q := 76) C dX8_passes_75 rfl (HL2.ar (i := 4) (n := 772) (by decide) rfl) (pk_in (431 + 3 * j + 1) 772 (by omega) (g3c (c := 1) (by omega) (by decide))) (pk_cl (431 + 3 * j + 1) (g3c (c := 1) (by omega) (by decide)) (by omega)) rfl ?_
        refine g_iastoreN (j := (431 + 3 * L + 1)) (q := 77) C dX8_passes_76 rfl (HL2.ar (i := 4) (n := 772) (by decide) rfl) (pk_in (431 + 3 * L + 1) 772 (by omega) (g3c (c := 1) (by omega) (by decide))) (pk_cl (431 + 3 * L + 1) (g3c (c := 1) (by omega) (by decide)) (by omega)) ?_
        refine gMsto (i := 4) (j := (431 + 3 * L + 1)) (x := (((M.arr 4 g).put 4 (431 + 3 * L) ((M.arr 4 g).a 4 (431 + 3 * j))).a 4 (431 + 3 * j + 1))) HL2 (by decide) rfl rfl fun h3 HL3 fr3 => ?_
        refine g_iinc (v := 2) (q := 80) C dX8_passes_77 rfl (by decide) (by simp only [gset]; rfl) rfl ?_
        refine g_goto (q := 44) C dX8_passes_80 (by decide) ?_
        refine g_iload_n (q := 45) C dX8_passes_44 rfl rfl ?_
        refine g_iconst (v := 3) (q := 46) C dX8_passes_45 (by decide) rfl ?_
        refine g_icmp_ge_f (t := 83) (q := 49) C dX8_passes_46 (by decide) rfl (by decide) ?_
        refine g_aload_n (q := 50) C dX8_passes_49 rfl rfl ?_
        refine g_getfield (v := .ref 127) (q := 53) C fX8_22 dX8_passes_50 rfl HL3.1 rfl ?_
        refine g_sipush (v := 431) (q := 56) C dX8_passes_53 (by decide) rfl ?_
        refine g_iconst (v := 3) (q := 57) C dX8_passes_56 (by decide) rfl ?_
        refine g_iload_n (q := 58) C dX8_passes_57 rfl rfl ?_
        refine g_imul (q := 59) C dX8_passes_58 rfl ?_
        refine g_iadd (q := 60) C dX8_passes_59 rfl ?_
        refine g_iload_n (q := 61) C dX8_passes_60 rfl rfl ?_
        refine g_iadd (q := 62) C dX8_passes_61 rfl ?_
        refine g_aload_n (q := 63) C dX8_passes_62 rfl rfl ?_
        refine g_getfield (v := .ref 127) (q := 66) C fX8_22 dX8_passes_63 rfl HL3.1 rfl ?_
        refine g_sipush (v := 431) (q := 69) C dX8_passes_66 (by decide) rfl ?_
        refine g_iconst (v := 3) (q := 70) C dX8_passes_69 (by decide) rfl ?_
        refine g_iload_n (q := 71) C dX8_passes_70 rfl rfl ?_
        refine g_imul (q := 72) C dX8_passes_71 rfl ?_
        refine g_iadd (q := 73) C dX8_passes_72 rfl ?_
        refine g_iload_n (q := 74) C dX8_passes_73 rfl rfl ?_
        refine g_iadd (q := 75) C dX8_passes_74 rfl ?_
        refine g_ialoadN (x := ((((M.arr 4 g).put 4 (431 + 3 * L) ((M.arr 4 g).a 4 (431 + 3 * j))).put 4 (431 + 3 * L + 1) (((M.arr 4 g).put 4 (431 + 3 * L) ((M.arr 4 g).a 4 (431 + 3 * j))).a 4 (431 + 3 * j + 1))).a 4 (431 + 3 * j + 2))) (j := (431 + 3 * j + 2)) (q := 76) C dX8_passes_75 rfl (HL3.ar (i := 4) (n := 772) (by decide) rfl) (pk_in (431 + 3 * j + 2) 772 (by omega) (g3c (c := 2) (by omega) (by decide))) (pk_cl (431 + 3 * j + 2) (g3c (c := 2) (by omega) (by decide)) (by omega)) rfl ?_
        refine g_iastoreN (j := (431 + 3 * L + 2)) (q := 77) C dX8_passes_76 rfl (HL3.ar (i := 4) (n := 772) (by decide) rfl) (pk_in (431 + 3 * L + 2) 772 (by omega) (g3c (c := 2) (by omega) (by decide))) (pk_cl (431 + 3 * L + 2) (g3c (c := 2) (by omega) (by decide)) (by omega)) ?_
        refine gMsto (i := 4) (j := (431 + 3 * L + 2)) (x := ((((M.arr 4 g).put 4 (431 + 3 * L) ((M.arr 4 g).a 4 (431 + 3 * j))).put 4 (431 + 3 * L + 1) (((M.arr 4 g).put 4 (431 + 3 * L) ((M.arr 4 g).a 4 (431 + 3 * j))).a 4 (431 + 3 * j + 1))).a 4 (431 + 3 * j + 2))) HL3 (by decide) rfl rfl fun h4 HL4 fr4 => ?_
        refine g_iinc (v := 3) (q := 80) C dX8_passes_77 rfl (by decide) (by simp only [gset]; rfl) rfl ?_
        refine g_goto (q := 44) C dX8_passes_80 (by decide) ?_
        refine g_iload_n (q := 45) C dX8_passes_44 rfl rfl ?_
        refine g_iconst (v := 3) (q := 46) C dX8_passes_45 (by decide) rfl ?_
        refine g_icmp_ge_t (t := 83) C dX8_passes_46 (by decide) (by decide) ?_
        refine g_iinc (v := (nI (L + 1))) (q := 86) C dX8_passes_83 rfl (nI_1 L) (by simp only [gset]; rfl) rfl ?_
        refine g_iinc (v := (nI (j + 1))) (q := 89) C dX8_passes_86 rfl (nI_1 j) (by simp only [gset]; rfl) rfl ?_
        have c9 := c_36
        rw [r0 423 (by omega), r0 (431 + 3 * j) (by omega)] at c9
        have e0 : ((M.arr 4 g).a 4 (431 + 3 * j)) = M.a 4 (431 + 3 * j) := r0 _ (by omega)
        have e1 : (((M.arr 4 g).put 4 (431 + 3 * L) ((M.arr 4 g).a 4 (431 + 3 * j))).a 4 (431 + 3 * j + 1)) = M.a 4 (431 + 3 * j + 1) := (gput_n (by omega)).trans (r0 _ (by omega))
        have e2 : ((((M.arr 4 g).put 4 (431 + 3 * L) ((M.arr 4 g).a 4 (431 + 3 * j))).put 4 (431 + 3 * L + 1) (((M.arr 4 g).put 4 (431 + 3 * L) ((M.arr 4 g).a 4 (431 + 3 * j))).a 4 (431 + 3 * j + 1))).a 4 (431 + 3 * j + 2)) = M.a 4 (431 + 3 * j + 2) := (gput_n (by omega)).trans ((gput_n (by omega)).trans (r0 _ (by omega)))
        have HN := H.add c9 (hE j (by omega)) e0 e1 e2
        have HG := HL4
        rw [garr_put, garr_put, garr_put] at HG
        refine g_goto (q := 4) C dX8_passes_89 (by decide) ?_
        exact ih (j + 1) (by omega) (L + 1) _ _ _ HG (gFM.trans (gFM.trans (gFM.trans frz fr2) fr3) fr4) HN
      ·
        refine g_goto (q := 86) C dX8_passes_39 (by decide) ?_
        refine g_iinc (v := (nI (j + 1))) (q := 89) C dX8_passes_86 rfl (nI_1 j) (by simp only [gset]; rfl) rfl ?_
        have c9 := c_36
        rw [r0 423 (by omega), r0 (431 + 3 * j) (by omega)] at c9
        refine g_goto (q := 4) C dX8_passes_89 (by decide) ?_
        exact ih (j + 1) (by omega) L g _ _ HZ frz (H.keep c9)
  exact LL (M.a 4 430).toNatClampNeg 0 (by omega) 0 (M.a 4) _ hp (by rw [garr_id]; exact HM) gFM.rf gPs.nil
  
