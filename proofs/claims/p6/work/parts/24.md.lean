/-! the reference: a letter over the line (by program: wip/p2/m_md.py) -/
/-- faults to come: of n entries those that are not before l -/
def gcn (s : Nat → Int32) (l : Int32) : Nat → Nat
  | 0 => 0
  | n + 1 => gcn s l n + (if l ≤ s (431 + 3 * n) then 1 else 0)
def gTk (s : Nat → Int32) : Nat := gcn s (s 423) (s 430).toNatClampNeg
theorem gcn_congr {s s' : Nat → Int32} {l : Int32} {n : Nat} (h : ∀ k, k < n → s' (431 + 3 * k) = s (431 + 3 * k)) : gcn s' l n = gcn s l n := by
  induction n with
  | zero => rfl
  | succ n ih =>
    show gcn s' l n + _ = gcn s l n + _
    rw [ih (fun k hk => h k (by omega)), h n (by omega)]
theorem gcn_le {s : Nat → Int32} {l n : Nat} (hl : l + 1 < 2 ^ 31) : gcn s (nI (l + 1)) n ≤ gcn s (nI l) n := by
  induction n with
  | zero => exact Nat.le_refl _
  | succ n ih =>
    show gcn s (nI (l + 1)) n + _ ≤ gcn s (nI l) n + _
    by_cases c : nI (l + 1) ≤ s (431 + 3 * n)
    · rw [if_pos c, if_pos (Int32.le_trans (nI_le (Nat.le_succ l) hl) c)]; omega
    · rw [if_neg c]; omega
theorem gcn_lt {s : Nat → Int32} {l n k : Nat} (hl : l + 1 < 2 ^ 31) (hk : k < n) (e : s (431 + 3 * k) = nI l) : gcn s (nI (l + 1)) n < gcn s (nI l) n := by
  induction n with
  | zero => exact absurd hk (Nat.not_lt_zero _)
  | succ n ih =>
    show gcn s (nI (l + 1)) n + _ < gcn s (nI l) n + _
    by_cases c : k = n
    · subst c
      have h1 := gcn_le (s := s) (n := k) hl
      rw [e, if_neg (fun h => nI_ge (Nat.lt_succ_self l) hl h), if_pos (Int32.le_refl _)]; omega
    · have h1 := ih (by omega)
      by_cases c2 : nI (l + 1) ≤ s (431 + 3 * n)
      · rw [if_pos c2, if_pos (Int32.le_trans (nI_le (Nat.le_succ l) hl) c2)]; omega
      · rw [if_neg c2]; omega
/-- what the entries of faults are -/
def gFe (s : Nat → Int32) : Prop := ∀ k, k < (s 430).toNatClampNeg → (s (431 + 3 * k + 1) = 1 ∧ s (431 + 3 * k + 2) = 0) ∨ (s (431 + 3 * k + 1) = 3 ∧ s (431 + 3 * k + 2) = 0) ∨ (s (431 + 3 * k + 1) = 2 ∧ ∃ y, 1 ≤ y ∧ y < 256 ∧ s (431 + 3 * k + 2) = nI y)
/-- letters went, nothing else -/
def gCar0 (M M1 : gMd) (l l1 : Nat) : Prop := (∀ k, M1.f k = M.f k) ∧ (∀ i j, ¬ i = 4 → M1.a i j = M.a i j) ∧ (∀ j, ¬ j = 423 → ¬ j = 424 → M1.a 4 j = M.a 4 j) ∧ M1.a 4 423 = nI l1 ∧ l ≤ l1 ∧ gTk (M1.a 4) ≤ gTk (M.a 4)
theorem gCar0.next {M M1 M2 : gMd} {l l1 : Nat} (H : gCar0 M M1 l l1) (hl : l1 + 1 < 2 ^ 31) (h1 : ∀ k, M2.f k = M1.f k) (h2 : ∀ i j, ¬ i = 4 → M2.a i j = M1.a i j) (h3 : ∀ j, ¬ j = 423 → ¬ j = 424 → M2.a 4 j = M1.a 4 j) (h4 : M2.a 4 423 = nI (l1 + 1)) :
    gCar0 M M2 l (l1 + 1) ∧ ((∃ k, k < (M1.a 4 430).toNatClampNeg ∧ M1.a 4 (431 + 3 * k) = nI l1) → gTk (M2.a 4) < gTk (M.a 4)) := by
  obtain ⟨a1, a2, a3, a4, a5, a6⟩ := H
  have e : gTk (M2.a 4) = gcn (M1.a 4) (nI (l1 + 1)) (M1.a 4 430).toNatClampNeg := by
    unfold gTk
    rw [h4, h3 430 (by decide) (by decide)]
    exact gcn_congr fun k _ => h3 _ (by omega) (by omega)
  have e1 : gTk (M1.a 4) = gcn (M1.a 4) (nI l1) (M1.a 4 430).toNatClampNeg := by unfold gTk; rw [a4]
  have le := gcn_le (s := M1.a 4) (n := (M1.a 4 430).toNatClampNeg) hl
  refine ⟨⟨fun k => (h1 k).trans (a1 k), fun i j hi => (h2 i j hi).trans (a2 i j hi), fun j hj hk => (h3 j hj hk).trans (a3 j hj hk), h4, by omega, by omega⟩, fun ⟨k, hk, ek⟩ => ?_⟩
  have := gcn_lt (s := M1.a 4) hl hk ek
  omega
/-- a letter b went: what came of it -/
def gCar (M : gMd) (b : Int32) (M' : gMd) (l l' c : Nat) : Prop :=
  (∀ k, ¬ k = 28 → ¬ k = 30 → ¬ k = 31 → M'.f k = M.f k) ∧ (∀ i j, ¬ i = 4 → ¬ i = 13 → M'.a i j = M.a i j) ∧ (∀ j, ¬ j = 423 → ¬ j = 424 → M'.a 4 j = M.a 4 j) ∧ M'.a 4 423 = nI l' ∧ l ≤ l' ∧ l' ≤ l + 4 ∧ gTk (M'.a 4) ≤ gTk (M.a 4) ∧ (∀ j, ¬ j = c → M'.a 13 j = M.a 13 j) ∧
  ((M'.f 28 = nI (c + 1) ∧ M'.f 30 = M.f 30 ∧ M'.f 31 = M.f 31 ∧ M'.a 13 c = b) ∨
   (M'.f 28 = nI (c + 1) ∧ M'.f 30 = M.f 30 ∧ M'.f 31 = 1 ∧ M'.a 13 c = b ∧ gTk (M'.a 4) < gTk (M.a 4)) ∨
   (M'.f 28 = nI c ∧ M'.f 30 = 1 ∧ M'.f 31 = M.f 31 ∧ gTk (M'.a 4) < gTk (M.a 4)) ∨
   (∃ y, 1 ≤ y ∧ y < 256 ∧ M'.f 28 = nI (c + 1) ∧ M'.f 30 = M.f 30 ∧ M'.f 31 = M.f 31 ∧ M'.a 13 c = b ^^^ nI y ∧ gTk (M'.a 4) < gTk (M.a 4)))
theorem gxor0 (b : Int32) : b ^^^ 0 = b := by
  apply Int32.toBitVec_inj.mp
  show b.toBitVec ^^^ 0#32 = b.toBitVec
  simp
theorem nI_pos2 {n : Nat} (h : n < 2 ^ 31) : (0 : Int32) ≤ nI n := nI_le (a := 0) (Nat.zero_le n) h
theorem dX8_carries_0 : decode cX8_carries 0 = .ok (.iconst 0, 1) := by decide +kernel
theorem dX8_carries_1 : decode cX8_carries 1 = .ok (.istore_n 2, 1) := by decide +kernel
theorem dX8_carries_2 : decode cX8_carries 2 = .ok (.aload_n 0, 1) := by decide +kernel
theorem dX8_carries_3 : decode cX8_carries 3 = .ok (.aload_n 0, 1) := by decide +kernel
theorem dX8_carries_4 : decode cX8_carries 4 = .ok (.getfield 22, 3) := by decide +kernel
theorem dX8_carries_7 : decode cX8_carries 7 = .ok (.sipush 423, 3) := by decide +kernel
theorem dX8_carries_10 : decode cX8_carries 10 = .ok (.iaload, 1) := by decide +kernel
theorem dX8_carries_11 : decode cX8_carries 11 = .ok (.invokevirtual 144, 3) := by decide +kernel
theorem dX8_carries_14 : decode cX8_carries 14 = .ok (.istore_n 3, 1) := by decide +kernel
theorem dX8_carries_15 : decode cX8_carries 15 = .ok (.iload_n 3, 1) := by decide +kernel
theorem dX8_carries_16 : decode cX8_carries 16 = .ok (.ifCond .ge 7, 3) := by decide +kernel
theorem dX8_carries_19 : decode cX8_carries 19 = .ok (.iconst 0, 1) := by decide +kernel
theorem dX8_carries_20 : decode cX8_carries 20 = .ok (.goto 17, 3) := by decide +kernel
theorem dX8_carries_23 : decode cX8_carries 23 = .ok (.aload_n 0, 1) := by decide +kernel
theorem dX8_carries_24 : decode cX8_carries 24 = .ok (.getfield 22, 3) := by decide +kernel
theorem dX8_carries_27 : decode cX8_carries 27 = .ok (.sipush 431, 3) := by decide +kernel
theorem dX8_carries_30 : decode cX8_carries 30 = .ok (.iconst 3, 1) := by decide +kernel
theorem dX8_carries_31 : decode cX8_carries 31 = .ok (.iload_n 3, 1) := by decide +kernel
theorem dX8_carries_32 : decode cX8_carries 32 = .ok (.imul, 1) := by decide +kernel
theorem dX8_carries_33 : decode cX8_carries 33 = .ok (.iadd, 1) := by decide +kernel
theorem dX8_carries_34 : decode cX8_carries 34 = .ok (.iconst 1, 1) := by decide +kernel
theorem dX8_carries_35 : decode cX8_carries 35 = .ok (.iadd, 1) := by decide +kernel
theorem dX8_carries_36 : decode cX8_carries 36 = .ok (.iaload, 1) := by decide +kernel
theorem dX8_carries_37 : decode cX8_carries 37 = .ok (.istore 4, 2) := by decide +kernel
theorem dX8_carries_39 : decode cX8_carries 39 = .ok (.iload_n 3, 1) := by decide +kernel
theorem dX8_carries_40 : decode cX8_carries 40 = .ok (.ifCond .ge 7, 3) := by decide +kernel
theorem dX8_carries_43 : decode cX8_carries 43 = .ok (.iconst 0, 1) := by decide +kernel
theorem dX8_carries_44 : decode cX8_carries 44 = .ok (.goto 17, 3) := by decide +kernel
theorem dX8_carries_47 : decode cX8_carries 47 = .ok (.aload_n 0, 1) := by decide +kernel
theorem dX8_carries_48 : decode cX8_carries 48 = .ok (.getfield 22, 3) := by decide +kernel
theorem dX8_carries_51 : decode cX8_carries 51 = .ok (.sipush 431, 3) := by decide +kernel
theorem dX8_carries_54 : decode cX8_carries 54 = .ok (.iconst 3, 1) := by decide +kernel
theorem dX8_carries_55 : decode cX8_carries 55 = .ok (.iload_n 3, 1) := by decide +kernel
theorem dX8_carries_56 : decode cX8_carries 56 = .ok (.imul, 1) := by decide +kernel
theorem dX8_carries_57 : decode cX8_carries 57 = .ok (.iadd, 1) := by decide +kernel
theorem dX8_carries_58 : decode cX8_carries 58 = .ok (.iconst 2, 1) := by decide +kernel
theorem dX8_carries_59 : decode cX8_carries 59 = .ok (.iadd, 1) := by decide +kernel
theorem dX8_carries_60 : decode cX8_carries 60 = .ok (.iaload, 1) := by decide +kernel
theorem dX8_carries_61 : decode cX8_carries 61 = .ok (.istore 5, 2) := by decide +kernel
theorem dX8_carries_63 : decode cX8_carries 63 = .ok (.aload_n 0, 1) := by decide +kernel
theorem dX8_carries_64 : decode cX8_carries 64 = .ok (.getfield 22, 3) := by decide +kernel
theorem dX8_carries_67 : decode cX8_carries 67 = .ok (.sipush 423, 3) := by decide +kernel
theorem dX8_carries_70 : decode cX8_carries 70 = .ok (.dup2, 1) := by decide +kernel
theorem dX8_carries_71 : decode cX8_carries 71 = .ok (.iaload, 1) := by decide +kernel
theorem dX8_carries_72 : decode cX8_carries 72 = .ok (.iconst 1, 1) := by decide +kernel
theorem dX8_carries_73 : decode cX8_carries 73 = .ok (.iadd, 1) := by decide +kernel
theorem dX8_carries_74 : decode cX8_carries 74 = .ok (.iastore, 1) := by decide +kernel
theorem dX8_carries_75 : decode cX8_carries 75 = .ok (.iload 4, 2) := by decide +kernel
theorem dX8_carries_77 : decode cX8_carries 77 = .ok (.iconst 1, 1) := by decide +kernel
theorem dX8_carries_78 : decode cX8_carries 78 = .ok (.if_icmp .ne 29, 3) := by decide +kernel
theorem dX8_carries_81 : decode cX8_carries 81 = .ok (.iload_n 2, 1) := by decide +kernel
theorem dX8_carries_82 : decode cX8_carries 82 = .ok (.aload_n 0, 1) := by decide +kernel
theorem dX8_carries_83 : decode cX8_carries 83 = .ok (.getfield 28, 3) := by decide +kernel
theorem dX8_carries_86 : decode cX8_carries 86 = .ok (.if_icmp .ge 21, 3) := by decide +kernel
theorem dX8_carries_89 : decode cX8_carries 89 = .ok (.iinc 2 1, 3) := by decide +kernel
theorem dX8_carries_92 : decode cX8_carries 92 = .ok (.aload_n 0, 1) := by decide +kernel
theorem dX8_carries_93 : decode cX8_carries 93 = .ok (.getfield 22, 3) := by decide +kernel
theorem dX8_carries_96 : decode cX8_carries 96 = .ok (.sipush 424, 3) := by decide +kernel
theorem dX8_carries_99 : decode cX8_carries 99 = .ok (.dup2, 1) := by decide +kernel
theorem dX8_carries_100 : decode cX8_carries 100 = .ok (.iaload, 1) := by decide +kernel
theorem dX8_carries_101 : decode cX8_carries 101 = .ok (.iconst 1, 1) := by decide +kernel
theorem dX8_carries_102 : decode cX8_carries 102 = .ok (.iadd, 1) := by decide +kernel
theorem dX8_carries_103 : decode cX8_carries 103 = .ok (.iastore, 1) := by decide +kernel
theorem dX8_carries_104 : decode cX8_carries 104 = .ok (.goto (-102), 3) := by decide +kernel
theorem dX8_carries_107 : decode cX8_carries 107 = .ok (.iload 4, 2) := by decide +kernel
theorem dX8_carries_109 : decode cX8_carries 109 = .ok (.iconst 3, 1) := by decide +kernel
theorem dX8_carries_110 : decode cX8_carries 110 = .ok (.if_icmp .ne 9, 3) := by decide +kernel
theorem dX8_carries_113 : decode cX8_carries 113 = .ok (.aload_n 0, 1) := by decide +kernel
theorem dX8_carries_114 : decode cX8_carries 114 = .ok (.iconst 1, 1) := by decide +kernel
theorem dX8_carries_115 : decode cX8_carries 115 = .ok (.putfield 154, 3) := by decide +kernel
theorem dX8_carries_118 : decode cX8_carries 118 = .ok (.return_, 1) := by decide +kernel
theorem dX8_carries_119 : decode cX8_carries 119 = .ok (.iload 4, 2) := by decide +kernel
theorem dX8_carries_121 : decode cX8_carries 121 = .ok (.iconst 1, 1) := by decide +kernel
theorem dX8_carries_122 : decode cX8_carries 122 = .ok (.if_icmp .ne 8, 3) := by decide +kernel
theorem dX8_carries_125 : decode cX8_carries 125 = .ok (.aload_n 0, 1) := by decide +kernel
theorem dX8_carries_126 : decode cX8_carries 126 = .ok (.iconst 1, 1) := by decide +kernel
theorem dX8_carries_127 : decode cX8_carries 127 = .ok (.putfield 157, 3) := by decide +kernel
theorem dX8_carries_130 : decode cX8_carries 130 = .ok (.aload_n 0, 1) := by decide +kernel
theorem dX8_carries_131 : decode cX8_carries 131 = .ok (.getfield 54, 3) := by decide +kernel
theorem dX8_carries_134 : decode cX8_carries 134 = .ok (.aload_n 0, 1) := by decide +kernel
theorem dX8_carries_135 : decode cX8_carries 135 = .ok (.getfield 160, 3) := by decide +kernel
theorem dX8_carries_138 : decode cX8_carries 138 = .ok (.iload_n 1, 1) := by decide +kernel
theorem dX8_carries_139 : decode cX8_carries 139 = .ok (.iload 5, 2) := by decide +kernel
theorem dX8_carries_141 : decode cX8_carries 141 = .ok (.ixor, 1) := by decide +kernel
theorem dX8_carries_142 : decode cX8_carries 142 = .ok (.iastore, 1) := by decide +kernel
theorem dX8_carries_143 : decode cX8_carries 143 = .ok (.aload_n 0, 1) := by decide +kernel
theorem dX8_carries_144 : decode cX8_carries 144 = .ok (.dup, 1) := by decide +kernel
theorem dX8_carries_145 : decode cX8_carries 145 = .ok (.getfield 160, 3) := by decide +kernel
theorem dX8_carries_148 : decode cX8_carries 148 = .ok (.iconst 1, 1) := by decide +kernel
theorem dX8_carries_149 : decode cX8_carries 149 = .ok (.iadd, 1) := by decide +kernel
theorem dX8_carries_150 : decode cX8_carries 150 = .ok (.putfield 160, 3) := by decide +kernel
theorem dX8_carries_153 : decode cX8_carries 153 = .ok (.return_, 1) := by decide +kernel
set_option maxRecDepth 100000 in
set_option maxHeartbeats 4000000 in
theorem c_X8_carries_r {hp : List gA} {M : gMd} {b : Int32} {l c : Nat} (HM : gMod hp M) (hf : gIr (M.a 4 430) 25) (hE : gFe (M.a 4)) (hr : gIr (M.f 9) 3) (hc : M.f 28 = nI c) (hc2 : c < 260) (hl : M.a 4 423 = nI l) (hlb : l < 2000000000) : gM yX8_carries cX8_carries 6 (none) 1 22 [.ref 122, .int b] (hp) (0) (0) (fun v h => v = none ∧ ∃ M' l', gMod h M' ∧ gFM hp h ∧ gCar M b M' l l' c) := by
  refine gM_of (ls0 := [some (.ref 122), some (.int b), none, none, none, none]) (by decide +kernel) (Nat.le_of_ble_eq_true rfl) rfl fun X C E => ?_
  obtain ⟨R, hR, eR⟩ := hr
  have LL : ∀ d n : Nat, n + d = R → ∀ (x3 x4 x5 : Option Value) (M1 : gMd) (l1 : Nat) (h1 : List gA), gMod h1 M1 → gFM hp h1 → l1 = l + n → gCar0 M M1 l l1 → gG X 2 [some (.ref 122), some (.int b), some (.int ((nI n))), x3, x4, x5] [] h1 0 0 := by
    intro d
    induction d with
    | zero =>
      intro n hn x3 x4 x5 M1 l1 h1 HM1 fr1 el H0
      obtain ⟨a1, a2, a3, a4, a5, a6⟩ := id H0
      have hf1 : gIr (M1.a 4 430) 25 := by rw [a3 430 (by decide) (by decide)]; exact hf
      have hF25 := hf1.le (by decide)
      have hc1 : M1.f 28 = nI c := (a1 28).trans hc
      have hr1 : M1.f 9 = nI R := (a1 9).trans eR
      refine g_aload_n (q := 3) C dX8_carries_2 rfl rfl ?_
      refine g_aload_n (q := 4) C dX8_carries_3 rfl rfl ?_
      refine g_getfield (v := .ref 127) (q := 7) C fX8_22 dX8_carries_4 rfl HM1.1 rfl ?_
      refine g_sipush (v := 423) (q := 10) C dX8_carries_7 (by decide) rfl ?_
      refine g_ialoadN (x := (M1.a 4 423)) (j := 423) (q := 11) C dX8_carries_10 rfl (HM1.ar (i := 4) (n := 772) (by decide) rfl) (pk_in 423 772 (by decide)) (pk_cl 423) rfl ?_
      refine g_callVip (q := 14) (As := [.int ((M1.a 4 423))]) C gyX8_faultAt gvX8_faultAt t_1284 (c_X8_faultAt_r (y := (M1.a 4 423)) HM1 hf1) dX8_carries_11 rfl HM1.1 rfl rfl rfl (Nat.le_of_ble_eq_true rfl) (Nat.le_of_ble_eq_true rfl) (Nat.le_of_ble_eq_true rfl) (Nat.le_of_ble_eq_true rfl) (Nat.le_of_ble_eq_true rfl) rfl (fun x2 h2 z2 => ?_)
      obtain ⟨rfl, z2⟩ := z2
      refine g_istore_n (q := 15) C dX8_carries_14 (Nat.le_of_ble_eq_true rfl) (by simp only [gset]; rfl) rfl ?_
      rcases z2 with ⟨ex, -⟩ | ⟨k9, hk9, ex, ek9⟩
      ·
        rw [ex]
        refine g_iload_n (q := 16) C dX8_carries_15 rfl rfl ?_
        refine g_if_ge_f (t := 23) (q := 19) C dX8_carries_16 (by decide) rfl (by decide) ?_
        refine g_iconst (v := 0) (q := 20) C dX8_carries_19 (by decide) rfl ?_
        refine g_goto (q := 37) C dX8_carries_20 (by decide) ?_
        refine g_istore (q := 39) C dX8_carries_37 (Nat.le_of_ble_eq_true rfl) (by simp only [gset]; rfl) rfl ?_
        refine g_iload_n (q := 40) C dX8_carries_39 rfl rfl ?_
        refine g_if_ge_f (t := 47) (q := 43) C dX8_carries_40 (by decide) rfl (by decide) ?_
        refine g_iconst (v := 0) (q := 44) C dX8_carries_43 (by decide) rfl ?_
        refine g_goto (q := 61) C dX8_carries_44 (by decide) ?_
        refine g_istore (q := 63) C dX8_carries_61 (Nat.le_of_ble_eq_true rfl) (by simp only [gset]; rfl) rfl ?_
        refine g_aload_n (q := 64) C dX8_carries_63 rfl rfl ?_
        refine g_getfield (v := .ref 127) (q := 67) C fX8_22 dX8_carries_64 rfl HM1.1 rfl ?_
        refine g_sipush (v := 423) (q := 70) C dX8_carries_67 (by decide) rfl ?_
        refine g_dup2 (q := 71) C dX8_carries_70 rfl rfl rfl ?_
        refine g_ialoadN (x := (M1.a 4 423)) (j := 423) (q := 72) C dX8_carries_71 rfl (HM1.ar (i := 4) (n := 772) (by decide) rfl) (pk_in 423 772 (by decide)) (pk_cl 423) rfl ?_
        refine g_iconst (v := 1) (q := 73) C dX8_carries_72 (by decide) rfl ?_
        refine g_iadd (q := 74) C dX8_carries_73 rfl ?_
        rw [show M1.a 4 423 + 1 = nI (l1 + 1) by rw [a4, nI_1]]
        refine g_iastoreN (j := 423) (q := 75) C dX8_carries_74 rfl (HM1.ar (i := 4) (n := 772) (by decide) rfl) (pk_in 423 772 (by decide)) (pk_cl 423) ?_
        refine gMsto (i := 4) (j := 423) (x := (nI (l1 + 1))) HM1 (by decide) rfl rfl fun h3 HL3 fr3 => ?_
        refine g_iload (q := 77) C dX8_carries_75 rfl rfl ?_
        refine g_iconst (v := 1) (q := 78) C dX8_carries_77 (by decide) rfl ?_
        refine g_icmp_ne_t (t := 107) C dX8_carries_78 (by decide) (by decide) ?_
        refine g_iload (q := 109) C dX8_carries_107 rfl rfl ?_
        refine g_iconst (v := 3) (q := 110) C dX8_carries_109 (by decide) rfl ?_
        refine g_icmp_ne_t (t := 119) C dX8_carries_110 (by decide) (by decide) ?_
        refine g_iload (q := 121) C dX8_carries_119 rfl rfl ?_
        refine g_iconst (v := 1) (q := 122) C dX8_carries_121 (by decide) rfl ?_
        refine g_icmp_ne_t (t := 130) C dX8_carries_122 (by decide) (by decide) ?_
        refine g_aload_n (q := 131) C dX8_carries_130 rfl rfl ?_
        refine g_getfield (v := .ref 136) (q := 134) C fX8_54 dX8_carries_131 rfl HL3.1 rfl ?_
        refine g_aload_n (q := 135) C dX8_carries_134 rfl rfl ?_
        refine g_getfield (v := .int ((M1.f 28))) (q := 138) C fX8_160 dX8_carries_135 rfl HL3.1 rfl ?_
        rw [show (M1.f 28) = nI c from hc1]
        refine g_iload_n (q := 139) C dX8_carries_138 rfl rfl ?_
        refine g_iload (q := 141) C dX8_carries_139 rfl rfl ?_
        refine g_ixor (q := 142) C dX8_carries_141 rfl ?_
        refine g_iastoreN (j := c) (q := 143) C dX8_carries_142 rfl (HL3.ar (i := 13) (n := 260) (by decide) rfl) (pk_in c 260 (by omega)) (pk_cl c rfl (by omega)) ?_
        refine gMsto (i := 13) (j := c) (x := (b ^^^ 0)) HL3 (by decide) rfl rfl fun h4 HL4 fr4 => ?_
        refine g_aload_n (q := 144) C dX8_carries_143 rfl rfl ?_
        refine g_dup (q := 145) C dX8_carries_144 rfl rfl ?_
        refine g_getfield (v := .int ((M1.f 28))) (q := 148) C fX8_160 dX8_carries_145 rfl HL4.1 rfl ?_
        rw [show (M1.f 28) = nI c from hc1]
        refine g_iconst (v := 1) (q := 149) C dX8_carries_148 (by decide) rfl ?_
        refine g_iadd (q := 150) C dX8_carries_149 rfl ?_
        refine g_putfield (q := 153) C fX8_160 dX8_carries_150 rfl HL4.1 (Nat.le_of_ble_eq_true rfl) (Or.inl rfl) rfl rfl (by intro z h; cases h) ?_
        refine gMput (j := 28) (x := ((nI c) + 1)) HL4 rfl fun h5 HL5 fr5 => ?_
        have N9 := gCar0.next (M2 := (M1.put 4 423 (nI (l1 + 1)))) H0 (by omega) (fun _ => rfl) (fun _ _ h => gput_o h) (fun _ h _ => gput_n h) gput_s
        exact E.2.1 _ _ _ _ _ dX8_carries_153 rfl (Nat.le_of_ble_eq_true rfl) (Nat.le_of_ble_eq_true rfl) ⟨rfl, _, l1 + 1, HL5, (gFM.trans (gFM.trans (gFM.trans fr1 fr3) fr4) fr5), ⟨fun k h1 h2 h3 => by rw [gset_n h1, gput_f, gput_f]; exact a1 k, fun i j hi h13 => by rw [gset_a, gput_o h13, gput_o hi]; exact a2 i j hi, fun j hj hk => by rw [gset_a, gput_o (by decide), gput_n hj]; exact a3 j hj hk, by rw [gset_a, gput_o (by decide), gput_s], by omega, by omega, N9.1.2.2.2.2.2, fun j hj => by rw [gset_a, gput_n hj, gput_o (by decide)]; exact a2 13 j (by decide), Or.inl ⟨by rw [gset_s]; exact nI_1 c, by rw [gset_n (by decide), gput_f, gput_f]; exact a1 30, by rw [gset_n (by decide), gput_f, gput_f]; exact a1 31, by rw [gset_a, gput_s]; exact gxor0 b⟩⟩⟩
      ·
        rw [ex]
        have ek9 := ek9.trans a4
        have he := hE k9 (by rw [← a3 430 (by decide) (by decide)]; exact hk9)
        rw [← a3 (431 + 3 * k9 + 1) (by omega) (by omega), ← a3 (431 + 3 * k9 + 2) (by omega) (by omega)] at he
        rcases he with ⟨e1, e2⟩ | ⟨e1, e2⟩ | ⟨e1, y9, hy1, hy2, e2⟩
        ·
          refine g_iload_n (q := 16) C dX8_carries_15 rfl rfl ?_
          refine g_if_ge_t (t := 23) C dX8_carries_16 (by decide) (nI_pos2 (by omega)) ?_
          refine g_aload_n (q := 24) C dX8_carries_23 rfl rfl ?_
          refine g_getfield (v := .ref 127) (q := 27) C fX8_22 dX8_carries_24 rfl HM1.1 rfl ?_
          refine g_sipush (v := 431) (q := 30) C dX8_carries_27 (by decide) rfl ?_
          refine g_iconst (v := 3) (q := 31) C dX8_carries_30 (by decide) rfl ?_
          refine g_iload_n (q := 32) C dX8_carries_31 rfl rfl ?_
          refine g_imul (q := 33) C dX8_carries_32 rfl ?_
          refine g_iadd (q := 34) C dX8_carries_33 rfl ?_
          refine g_iconst (v := 1) (q := 35) C dX8_carries_34 (by decide) rfl ?_
          refine g_iadd (q := 36) C dX8_carries_35 rfl ?_
          refine g_ialoadN (x := (M1.a 4 (431 + 3 * k9 + 1))) (j := (431 + 3 * k9 + 1)) (q := 37) C dX8_carries_36 rfl (HM1.ar (i := 4) (n := 772) (by decide) rfl) (pk_in (431 + 3 * k9 + 1) 772 (by omega) (g3c (c := 1) (by omega) (by decide))) (pk_cl (431 + 3 * k9 + 1) (g3c (c := 1) (by omega) (by decide)) (by omega)) rfl ?_
          rw [show (M1.a 4 (431 + 3 * k9 + 1)) = 1 from e1]
          refine g_istore (q := 39) C dX8_carries_37 (Nat.le_of_ble_eq_true rfl) (by simp only [gset]; rfl) rfl ?_
          refine g_iload_n (q := 40) C dX8_carries_39 rfl rfl ?_
          refine g_if_ge_t (t := 47) C dX8_carries_40 (by decide) (nI_pos2 (by omega)) ?_
          refine g_aload_n (q := 48) C dX8_carries_47 rfl rfl ?_
          refine g_getfield (v := .ref 127) (q := 51) C fX8_22 dX8_carries_48 rfl HM1.1 rfl ?_
          refine g_sipush (v := 431) (q := 54) C dX8_carries_51 (by decide) rfl ?_
          refine g_iconst (v := 3) (q := 55) C dX8_carries_54 (by decide) rfl ?_
          refine g_iload_n (q := 56) C dX8_carries_55 rfl rfl ?_
          refine g_imul (q := 57) C dX8_carries_56 rfl ?_
          refine g_iadd (q := 58) C dX8_carries_57 rfl ?_
          refine g_iconst (v := 2) (q := 59) C dX8_carries_58 (by decide) rfl ?_
          refine g_iadd (q := 60) C dX8_carries_59 rfl ?_
          refine g_ialoadN (x := (M1.a 4 (431 + 3 * k9 + 2))) (j := (431 + 3 * k9 + 2)) (q := 61) C dX8_carries_60 rfl (HM1.ar (i := 4) (n := 772) (by decide) rfl) (pk_in (431 + 3 * k9 + 2) 772 (by omega) (g3c (c := 2) (by omega) (by decide))) (pk_cl (431 + 3 * k9 + 2) (g3c (c := 2) (by omega) (by decide)) (by omega)) rfl ?_
          rw [show (M1.a 4 (431 + 3 * k9 + 2)) = 0 from e2]
          refine g_istore (q := 63) C dX8_carries_61 (Nat.le_of_ble_eq_true rfl) (by simp only [gset]; rfl) rfl ?_
          refine g_aload_n (q := 64) C dX8_carries_63 rfl rfl ?_
          refine g_getfield (v := .ref 127) (q := 67) C fX8_22 dX8_carries_64 rfl HM1.1 rfl ?_
          refine g_sipush (v := 423) (q := 70) C dX8_carries_67 (by decide) rfl ?_
          refine g_dup2 (q := 71) C dX8_carries_70 rfl rfl rfl ?_
          refine g_ialoadN (x := (M1.a 4 423)) (j := 423) (q := 72) C dX8_carries_71 rfl (HM1.ar (i := 4) (n := 772) (by decide) rfl) (pk_in 423 772 (by decide)) (pk_cl 423) rfl ?_
          refine g_iconst (v := 1) (q := 73) C dX8_carries_72 (by decide) rfl ?_
          refine g_iadd (q := 74) C dX8_carries_73 rfl ?_
          rw [show M1.a 4 423 + 1 = nI (l1 + 1) by rw [a4, nI_1]]
          refine g_iastoreN (j := 423) (q := 75) C dX8_carries_74 rfl (HM1.ar (i := 4) (n := 772) (by decide) rfl) (pk_in 423 772 (by decide)) (pk_cl 423) ?_
          refine gMsto (i := 4) (j := 423) (x := (nI (l1 + 1))) HM1 (by decide) rfl rfl fun h6 HL6 fr6 => ?_
          refine g_iload (q := 77) C dX8_carries_75 rfl rfl ?_
          refine g_iconst (v := 1) (q := 78) C dX8_carries_77 (by decide) rfl ?_
          refine g_icmp_ne_f (t := 107) (q := 81) C dX8_carries_78 (by decide) rfl (by decide) ?_
          refine g_iload_n (q := 82) C dX8_carries_81 rfl rfl ?_
          refine g_aload_n (q := 83) C dX8_carries_82 rfl rfl ?_
          refine g_getfield (v := .int ((M1.f 9))) (q := 86) C fX8_28 dX8_carries_83 rfl HL6.1 rfl ?_
          rw [show (M1.f 9) = nI R from hr1]
          refine g_icmp_ge_t (t := 107) C dX8_carries_86 (by decide) (nI_le (by omega) (by omega)) ?_
          refine g_iload (q := 109) C dX8_carries_107 rfl rfl ?_
          refine g_iconst (v := 3) (q := 110) C dX8_carries_109 (by decide) rfl ?_
          refine g_icmp_ne_t (t := 119) C dX8_carries_110 (by decide) (by decide) ?_
          refine g_iload (q := 121) C dX8_carries_119 rfl rfl ?_
          refine g_iconst (v := 1) (q := 122) C dX8_carries_121 (by decide) rfl ?_
          refine g_icmp_ne_f (t := 130) (q := 125) C dX8_carries_122 (by decide) rfl (by decide) ?_
          refine g_aload_n (q := 126) C dX8_carries_125 rfl rfl ?_
          refine g_iconst (v := 1) (q := 127) C dX8_carries_126 (by decide) rfl ?_
          refine g_putfield (q := 130) C fX8_157 dX8_carries_127 rfl HL6.1 (Nat.le_of_ble_eq_true rfl) (Or.inl rfl) rfl rfl (by intro z h; cases h) ?_
          refine gMput (j := 31) (x := 1) HL6 rfl fun h7 HL7 fr7 => ?_
          refine g_aload_n (q := 131) C dX8_carries_130 rfl rfl ?_
          refine g_getfield (v := .ref 136) (q := 134) C fX8_54 dX8_carries_131 rfl HL7.1 rfl ?_
          refine g_aload_n (q := 135) C dX8_carries_134 rfl rfl ?_
          refine g_getfield (v := .int ((M1.f 28))) (q := 138) C fX8_160 dX8_carries_135 rfl HL7.1 rfl ?_
          rw [show (M1.f 28) = nI c from hc1]
          refine g_iload_n (q := 139) C dX8_carries_138 rfl rfl ?_
          refine g_iload (q := 141) C dX8_carries_139 rfl rfl ?_
          refine g_ixor (q := 142) C dX8_carries_141 rfl ?_
          refine g_iastoreN (j := c) (q := 143) C dX8_carries_142 rfl (HL7.ar (i := 13) (n := 260) (by decide) rfl) (pk_in c 260 (by omega)) (pk_cl c rfl (by omega)) ?_
          refine gMsto (i := 13) (j := c) (x := (b ^^^ 0)) HL7 (by decide) rfl rfl fun h8 HL8 fr8 => ?_
          refine g_aload_n (q := 144) C dX8_carries_143 rfl rfl ?_
          refine g_dup (q := 145) C dX8_carries_144 rfl rfl ?_
          refine g_getfield (v := .int ((M1.f 28))) (q := 148) C fX8_160 dX8_carries_145 rfl HL8.1 rfl ?_
          rw [show (M1.f 28) = nI c from hc1]
          refine g_iconst (v := 1) (q := 149) C dX8_carries_148 (by decide) rfl ?_
          refine g_iadd (q := 150) C dX8_carries_149 rfl ?_
          refine g_putfield (q := 153) C fX8_160 dX8_carries_150 rfl HL8.1 (Nat.le_of_ble_eq_true rfl) (Or.inl rfl) rfl rfl (by intro z h; cases h) ?_
          refine gMput (j := 28) (x := ((nI c) + 1)) HL8 rfl fun h9 HL9 fr9 => ?_
          have N9 := gCar0.next (M2 := (M1.put 4 423 (nI (l1 + 1)))) H0 (by omega) (fun _ => rfl) (fun _ _ h => gput_o h) (fun _ h _ => gput_n h) gput_s
          exact E.2.1 _ _ _ _ _ dX8_carries_153 rfl (Nat.le_of_ble_eq_true rfl) (Nat.le_of_ble_eq_true rfl) ⟨rfl, _, l1 + 1, HL9, (gFM.trans (gFM.trans (gFM.trans (gFM.trans fr1 fr6) fr7) fr8) fr9), ⟨fun k h1 h2 h3 => by rw [gset_n h1, gput_f, gset_n h3, gput_f]; exact a1 k, fun i j hi h13 => by rw [gset_a, gput_o h13, gset_a, gput_o hi]; exact a2 i j hi, fun j hj hk => by rw [gset_a, gput_o (by decide), gset_a, gput_n hj]; exact a3 j hj hk, by rw [gset_a, gput_o (by decide), gset_a, gput_s], by omega, by omega, Nat.le_of_lt (N9.2 ⟨k9, hk9, ek9⟩), fun j hj => by rw [gset_a, gput_n hj, gset_a, gput_o (by decide)]; exact a2 13 j (by decide), Or.inr (Or.inl ⟨by rw [gset_s]; exact nI_1 c, by rw [gset_n (by decide), gput_f, gset_n (by decide), gput_f]; exact a1 30, by rw [gset_n (by decide), gput_f, gset_s], by rw [gset_a, gput_s]; exact gxor0 b, (N9.2 ⟨k9, hk9, ek9⟩)⟩)⟩⟩
        ·
          refine g_iload_n (q := 16) C dX8_carries_15 rfl rfl ?_
          refine g_if_ge_t (t := 23) C dX8_carries_16 (by decide) (nI_pos2 (by omega)) ?_
          refine g_aload_n (q := 24) C dX8_carries_23 rfl rfl ?_
          refine g_getfield (v := .ref 127) (q := 27) C fX8_22 dX8_carries_24 rfl HM1.1 rfl ?_
          refine g_sipush (v := 431) (q := 30) C dX8_carries_27 (by decide) rfl ?_
          refine g_iconst (v := 3) (q := 31) C dX8_carries_30 (by decide) rfl ?_
          refine g_iload_n (q := 32) C dX8_carries_31 rfl rfl ?_
          refine g_imul (q := 33) C dX8_carries_32 rfl ?_
          refine g_iadd (q := 34) C dX8_carries_33 rfl ?_
          refine g_iconst (v := 1) (q := 35) C dX8_carries_34 (by decide) rfl ?_
          refine g_iadd (q := 36) C dX8_carries_35 rfl ?_
          refine g_ialoadN (x := (M1.a 4 (431 + 3 * k9 + 1))) (j := (431 + 3 * k9 + 1)) (q := 37) C dX8_carries_36 rfl (HM1.ar (i := 4) (n := 772) (by decide) rfl) (pk_in (431 + 3 * k9 + 1) 772 (by omega) (g3c (c := 1) (by omega) (by decide))) (pk_cl (431 + 3 * k9 + 1) (g3c (c := 1) (by omega) (by decide)) (by omega)) rfl ?_
          rw [show (M1.a 4 (431 + 3 * k9 + 1)) = 3 from e1]
          refine g_istore (q := 39) C dX8_carries_37 (Nat.le_of_ble_eq_true rfl) (by simp only [gset]; rfl) rfl ?_
          refine g_iload_n (q := 40) C dX8_carries_39 rfl rfl ?_
          refine g_if_ge_t (t := 47) C dX8_carries_40 (by decide) (nI_pos2 (by omega)) ?_
          refine g_aload_n (q := 48) C dX8_carries_47 rfl rfl ?_
          refine g_getfield (v := .ref 127) (q := 51) C fX8_22 dX8_carries_48 rfl HM1.1 rfl ?_
          refine g_sipush (v := 431) (q := 54) C dX8_carries_51 (by decide) rfl ?_
          refine g_iconst (v := 3) (q := 55) C dX8_carries_54 (by decide) rfl ?_
          refine g_iload_n (q := 56) C dX8_carries_55 rfl rfl ?_
          refine g_imul (q := 57) C dX8_carries_56 rfl ?_
          refine g_iadd (q := 58) C dX8_carries_57 rfl ?_
          refine g_iconst (v := 2) (q := 59) C dX8_carries_58 (by decide) rfl ?_
          refine g_iadd (q := 60) C dX8_carries_59 rfl ?_
          refine g_ialoadN (x := (M1.a 4 (431 + 3 * k9 + 2))) (j := (431 + 3 * k9 + 2)) (q := 61) C dX8_carries_60 rfl (HM1.ar (i := 4) (n := 772) (by decide) rfl) (pk_in (431 + 3 * k9 + 2) 772 (by omega) (g3c (c := 2) (by omega) (by decide))) (pk_cl (431 + 3 * k9 + 2) (g3c (c := 2) (by omega) (by decide)) (by omega)) rfl ?_
          rw [show (M1.a 4 (431 + 3 * k9 + 2)) = 0 from e2]
          refine g_istore (q := 63) C dX8_carries_61 (Nat.le_of_ble_eq_true rfl) (by simp only [gset]; rfl) rfl ?_
          refine g_aload_n (q := 64) C dX8_carries_63 rfl rfl ?_
          refine g_getfield (v := .ref 127) (q := 67) C fX8_22 dX8_carries_64 rfl HM1.1 rfl ?_
          refine g_sipush (v := 423) (q := 70) C dX8_carries_67 (by decide) rfl ?_
          refine g_dup2 (q := 71) C dX8_carries_70 rfl rfl rfl ?_
          refine g_ialoadN (x := (M1.a 4 423)) (j := 423) (q := 72) C dX8_carries_71 rfl (HM1.ar (i := 4) (n := 772) (by decide) rfl) (pk_in 423 772 (by decide)) (pk_cl 423) rfl ?_
          refine g_iconst (v := 1) (q := 73) C dX8_carries_72 (by decide) rfl ?_
          refine g_iadd (q := 74) C dX8_carries_73 rfl ?_
          rw [show M1.a 4 423 + 1 = nI (l1 + 1) by rw [a4, nI_1]]
          refine g_iastoreN (j := 423) (q := 75) C dX8_carries_74 rfl (HM1.ar (i := 4) (n := 772) (by decide) rfl) (pk_in 423 772 (by decide)) (pk_cl 423) ?_
          refine gMsto (i := 4) (j := 423) (x := (nI (l1 + 1))) HM1 (by decide) rfl rfl fun h10 HL10 fr10 => ?_
          refine g_iload (q := 77) C dX8_carries_75 rfl rfl ?_
          refine g_iconst (v := 1) (q := 78) C dX8_carries_77 (by decide) rfl ?_
          refine g_icmp_ne_t (t := 107) C dX8_carries_78 (by decide) (by decide) ?_
          refine g_iload (q := 109) C dX8_carries_107 rfl rfl ?_
          refine g_iconst (v := 3) (q := 110) C dX8_carries_109 (by decide) rfl ?_
          refine g_icmp_ne_f (t := 119) (q := 113) C dX8_carries_110 (by decide) rfl (by decide) ?_
          refine g_aload_n (q := 114) C dX8_carries_113 rfl rfl ?_
          refine g_iconst (v := 1) (q := 115) C dX8_carries_114 (by decide) rfl ?_
          refine g_putfield (q := 118) C fX8_154 dX8_carries_115 rfl HL10.1 (Nat.le_of_ble_eq_true rfl) (Or.inl rfl) rfl rfl (by intro z h; cases h) ?_
          refine gMput (j := 30) (x := 1) HL10 rfl fun h11 HL11 fr11 => ?_
          have N9 := gCar0.next (M2 := (M1.put 4 423 (nI (l1 + 1)))) H0 (by omega) (fun _ => rfl) (fun _ _ h => gput_o h) (fun _ h _ => gput_n h) gput_s
          exact E.2.1 _ _ _ _ _ dX8_carries_118 rfl (Nat.le_of_ble_eq_true rfl) (Nat.le_of_ble_eq_true rfl) ⟨rfl, _, l1 + 1, HL11, (gFM.trans (gFM.trans fr1 fr10) fr11), ⟨fun k h1 h2 h3 => by rw [gset_n h2, gput_f]; exact a1 k, fun i j hi h13 => by rw [gset_a, gput_o hi]; exact a2 i j hi, fun j hj hk => by rw [gset_a, gput_n hj]; exact a3 j hj hk, by rw [gset_a, gput_s], by omega, by omega, Nat.le_of_lt (N9.2 ⟨k9, hk9, ek9⟩), fun j hj => by rw [gset_a, gput_o (by decide)]; exact a2 13 j (by decide), Or.inr (Or.inr (Or.inl ⟨by rw [gset_n (by decide), gput_f]; exact hc1, gset_s, by rw [gset_n (by decide), gput_f]; exact a1 31, (N9.2 ⟨k9, hk9, ek9⟩)⟩))⟩⟩
        ·
          refine g_iload_n (q := 16) C dX8_carries_15 rfl rfl ?_
          refine g_if_ge_t (t := 23) C dX8_carries_16 (by decide) (nI_pos2 (by omega)) ?_
          refine g_aload_n (q := 24) C dX8_carries_23 rfl rfl ?_
          refine g_getfield (v := .ref 127) (q := 27) C fX8_22 dX8_carries_24 rfl HM1.1 rfl ?_
          refine g_sipush (v := 431) (q := 30) C dX8_carries_27 (by decide) rfl ?_
          refine g_iconst (v := 3) (q := 31) C dX8_carries_30 (by decide) rfl ?_
          refine g_iload_n (q := 32) C dX8_carries_31 rfl rfl ?_
          refine g_imul (q := 33) C dX8_carries_32 rfl ?_
          refine g_iadd (q := 34) C dX8_carries_33 rfl ?_
          refine g_iconst (v := 1) (q := 35) C dX8_carries_34 (by decide) rfl ?_
          refine g_iadd (q := 36) C dX8_carries_35 rfl ?_
          refine g_ialoadN (x := (M1.a 4 (431 + 3 * k9 + 1))) (j := (431 + 3 * k9 + 1)) (q := 37) C dX8_carries_36 rfl (HM1.ar (i := 4) (n := 772) (by decide) rfl) (pk_in (431 + 3 * k9 + 1) 772 (by omega) (g3c (c := 1) (by omega) (by decide))) (pk_cl (431 + 3 * k9 + 1) (g3c (c := 1) (by omega) (by decide)) (by omega)) rfl ?_
          rw [show (M1.a 4 (431 + 3 * k9 + 1)) = 2 from e1]
          refine g_istore (q := 39) C dX8_carries_37 (Nat.le_of_ble_eq_true rfl) (by simp only [gset]; rfl) rfl ?_
          refine g_iload_n (q := 40) C dX8_carries_39 rfl rfl ?_
          refine g_if_ge_t (t := 47) C dX8_carries_40 (by decide) (nI_pos2 (by omega)) ?_
          refine g_aload_n (q := 48) C dX8_carries_47 rfl rfl ?_
          refine g_getfield (v := .ref 127) (q := 51) C fX8_22 dX8_carries_48 rfl HM1.1 rfl ?_
          refine g_sipush (v := 431) (q := 54) C dX8_carries_51 (by decide) rfl ?_
          refine g_iconst (v := 3) (q := 55) C dX8_carries_54 (by decide) rfl ?_
          refine g_iload_n (q := 56) C dX8_carries_55 rfl rfl ?_
          refine g_imul (q := 57) C dX8_carries_56 rfl ?_
          refine g_iadd (q := 58) C dX8_carries_57 rfl ?_
          refine g_iconst (v := 2) (q := 59) C dX8_carries_58 (by decide) rfl ?_
          refine g_iadd (q := 60) C dX8_carries_59 rfl ?_
          refine g_ialoadN (x := (M1.a 4 (431 + 3 * k9 + 2))) (j := (431 + 3 * k9 + 2)) (q := 61) C dX8_carries_60 rfl (HM1.ar (i := 4) (n := 772) (by decide) rfl) (pk_in (431 + 3 * k9 + 2) 772 (by omega) (g3c (c := 2) (by omega) (by decide))) (pk_cl (431 + 3 * k9 + 2) (g3c (c := 2) (by omega) (by decide)) (by omega)) rfl ?_
          rw [show (M1.a 4 (431 + 3 * k9 + 2)) = (nI y9) from e2]
          refine g_istore (q := 63) C dX8_carries_61 (Nat.le_of_ble_eq_true rfl) (by simp only [gset]; rfl) rfl ?_
          refine g_aload_n (q := 64) C dX8_carries_63 rfl rfl ?_
          refine g_getfield (v := .ref 127) (q := 67) C fX8_22 dX8_carries_64 rfl HM1.1 rfl ?_
          refine g_sipush (v := 423) (q := 70) C dX8_carries_67 (by decide) rfl ?_
          refine g_dup2 (q := 71) C dX8_carries_70 rfl rfl rfl ?_
          refine g_ialoadN (x := (M1.a 4 423)) (j := 423) (q := 72) C dX8_carries_71 rfl (HM1.ar (i := 4) (n := 772) (by decide) rfl) (pk_in 423 772 (by decide)) (pk_cl 423) rfl ?_
          refine g_iconst (v := 1) (q := 73) C dX8_carries_72 (by decide) rfl ?_
          refine g_iadd (q := 74) C dX8_carries_73 rfl ?_
          rw [show M1.a 4 423 + 1 = nI (l1 + 1) by rw [a4, nI_1]]
          refine g_iastoreN (j := 423) (q := 75) C dX8_carries_74 rfl (HM1.ar (i := 4) (n := 772) (by decide) rfl) (pk_in 423 772 (by decide)) (pk_cl 423) ?_
          refine gMsto (i := 4) (j := 423) (x := (nI (l1 + 1))) HM1 (by decide) rfl rfl fun h12 HL12 fr12 => ?_
          refine g_iload (q := 77) C dX8_carries_75 rfl rfl ?_
          refine g_iconst (v := 1) (q := 78) C dX8_carries_77 (by decide) rfl ?_
          refine g_icmp_ne_t (t := 107) C dX8_carries_78 (by decide) (by decide) ?_
          refine g_iload (q := 109) C dX8_carries_107 rfl rfl ?_
          refine g_iconst (v := 3) (q := 110) C dX8_carries_109 (by decide) rfl ?_
          refine g_icmp_ne_t (t := 119) C dX8_carries_110 (by decide) (by decide) ?_
          refine g_iload (q := 121) C dX8_carries_119 rfl rfl ?_
          refine g_iconst (v := 1) (q := 122) C dX8_carries_121 (by decide) rfl ?_
          refine g_icmp_ne_t (t := 130) C dX8_carries_122 (by decide) (by decide) ?_
          refine g_aload_n (q := 131) C dX8_carries_130 rfl rfl ?_
          refine g_getfield (v := .ref 136) (q := 134) C fX8_54 dX8_carries_131 rfl HL12.1 rfl ?_
          refine g_aload_n (q := 135) C dX8_carries_134 rfl rfl ?_
          refine g_getfield (v := .int ((M1.f 28))) (q := 138) C fX8_160 dX8_carries_135 rfl HL12.1 rfl ?_
          rw [show (M1.f 28) = nI c from hc1]
          refine g_iload_n (q := 139) C dX8_carries_138 rfl rfl ?_
          refine g_iload (q := 141) C dX8_carries_139 rfl rfl ?_
          refine g_ixor (q := 142) C dX8_carries_141 rfl ?_
          refine g_iastoreN (j := c) (q := 143) C dX8_carries_142 rfl (HL12.ar (i := 13) (n := 260) (by decide) rfl) (pk_in c 260 (by omega)) (pk_cl c rfl (by omega)) ?_
          refine gMsto (i := 13) (j := c) (x := (b ^^^ (nI y9))) HL12 (by decide) rfl rfl fun h13 HL13 fr13 => ?_
          refine g_aload_n (q := 144) C dX8_carries_143 rfl rfl ?_
          refine g_dup (q := 145) C dX8_carries_144 rfl rfl ?_
          refine g_getfield (v := .int ((M1.f 28))) (q := 148) C fX8_160 dX8_carries_145 rfl HL13.1 rfl ?_
          rw [show (M1.f 28) = nI c from hc1]
          refine g_iconst (v := 1) (q := 149) C dX8_carries_148 (by decide) rfl ?_
          refine g_iadd (q := 150) C dX8_carries_149 rfl ?_
          refine g_putfield (q := 153) C fX8_160 dX8_carries_150 rfl HL13.1 (Nat.le_of_ble_eq_true rfl) (Or.inl rfl) rfl rfl (by intro z h; cases h) ?_
          refine gMput (j := 28) (x := ((nI c) + 1)) HL13 rfl fun h14 HL14 fr14 => ?_
          have N9 := gCar0.next (M2 := (M1.put 4 423 (nI (l1 + 1)))) H0 (by omega) (fun _ => rfl) (fun _ _ h => gput_o h) (fun _ h _ => gput_n h) gput_s
          exact E.2.1 _ _ _ _ _ dX8_carries_153 rfl (Nat.le_of_ble_eq_true rfl) (Nat.le_of_ble_eq_true rfl) ⟨rfl, _, l1 + 1, HL14, (gFM.trans (gFM.trans (gFM.trans fr1 fr12) fr13) fr14), ⟨fun k h1 h2 h3 => by rw [gset_n h1, gput_f, gput_f]; exact a1 k, fun i j hi h13 => by rw [gset_a, gput_o h13, gput_o hi]; exact a2 i j hi, fun j hj hk => by rw [gset_a, gput_o (by decide), gput_n hj]; exact a3 j hj hk, by rw [gset_a, gput_o (by decide), gput_s], by omega, by omega, Nat.le_of_lt (N9.2 ⟨k9, hk9, ek9⟩), fun j hj => by rw [gset_a, gput_n hj, gput_o (by decide)]; exact a2 13 j (by decide), Or.inr (Or.inr (Or.inr ⟨y9, hy1, hy2, by rw [gset_s]; exact nI_1 c, by rw [gset_n (by decide), gput_f, gput_f]; exact a1 30, by rw [gset_n (by decide), gput_f, gput_f]; exact a1 31, by rw [gset_a, gput_s], (N9.2 ⟨k9, hk9, ek9⟩)⟩))⟩⟩
      
    | succ d ih =>
      intro n hn x3 x4 x5 M1 l1 h1 HM1 fr1 el H0
      obtain ⟨a1, a2, a3, a4, a5, a6⟩ := id H0
      have hf1 : gIr (M1.a 4 430) 25 := by rw [a3 430 (by decide) (by decide)]; exact hf
      have hF25 := hf1.le (by decide)
      have hc1 : M1.f 28 = nI c := (a1 28).trans hc
      have hr1 : M1.f 9 = nI R := (a1 9).trans eR
      refine g_aload_n (q := 3) C dX8_carries_2 rfl rfl ?_
      refine g_aload_n (q := 4) C dX8_carries_3 rfl rfl ?_
      refine g_getfield (v := .ref 127) (q := 7) C fX8_22 dX8_carries_4 rfl HM1.1 rfl ?_
      refine g_sipush (v := 423) (q := 10) C dX8_carries_7 (by decide) rfl ?_
      refine g_ialoadN (x := (M1.a 4 423)) (j := 423) (q := 11) C dX8_carries_10 rfl (HM1.ar (i := 4) (n := 772) (by decide) rfl) (pk_in 423 772 (by decide)) (pk_cl 423) rfl ?_
      refine g_callVip (q := 14) (As := [.int ((M1.a 4 423))]) C gyX8_faultAt gvX8_faultAt t_1284 (c_X8_faultAt_r (y := (M1.a 4 423)) HM1 hf1) dX8_carries_11 rfl HM1.1 rfl rfl rfl (Nat.le_of_ble_eq_true rfl) (Nat.le_of_ble_eq_true rfl) (Nat.le_of_ble_eq_true rfl) (Nat.le_of_ble_eq_true rfl) (Nat.le_of_ble_eq_true rfl) rfl (fun x15 h15 z15 => ?_)
      obtain ⟨rfl, z15⟩ := z15
      refine g_istore_n (q := 15) C dX8_carries_14 (Nat.le_of_ble_eq_true rfl) (by simp only [gset]; rfl) rfl ?_
      rcases z15 with ⟨ex, -⟩ | ⟨k9, hk9, ex, ek9⟩
      ·
        rw [ex]
        refine g_iload_n (q := 16) C dX8_carries_15 rfl rfl ?_
        refine g_if_ge_f (t := 23) (q := 19) C dX8_carries_16 (by decide) rfl (by decide) ?_
        refine g_iconst (v := 0) (q := 20) C dX8_carries_19 (by decide) rfl ?_
        refine g_goto (q := 37) C dX8_carries_20 (by decide) ?_
        refine g_istore (q := 39) C dX8_carries_37 (Nat.le_of_ble_eq_true rfl) (by simp only [gset]; rfl) rfl ?_
        refine g_iload_n (q := 40) C dX8_carries_39 rfl rfl ?_
        refine g_if_ge_f (t := 47) (q := 43) C dX8_carries_40 (by decide) rfl (by decide) ?_
        refine g_iconst (v := 0) (q := 44) C dX8_carries_43 (by decide) rfl ?_
        refine g_goto (q := 61) C dX8_carries_44 (by decide) ?_
        refine g_istore (q := 63) C dX8_carries_61 (Nat.le_of_ble_eq_true rfl) (by simp only [gset]; rfl) rfl ?_
        refine g_aload_n (q := 64) C dX8_carries_63 rfl rfl ?_
        refine g_getfield (v := .ref 127) (q := 67) C fX8_22 dX8_carries_64 rfl HM1.1 rfl ?_
        refine g_sipush (v := 423) (q := 70) C dX8_carries_67 (by decide) rfl ?_
        refine g_dup2 (q := 71) C dX8_carries_70 rfl rfl rfl ?_
        refine g_ialoadN (x := (M1.a 4 423)) (j := 423) (q := 72) C dX8_carries_71 rfl (HM1.ar (i := 4) (n := 772) (by decide) rfl) (pk_in 423 772 (by decide)) (pk_cl 423) rfl ?_
        refine g_iconst (v := 1) (q := 73) C dX8_carries_72 (by decide) rfl ?_
        refine g_iadd (q := 74) C dX8_carries_73 rfl ?_
        rw [show M1.a 4 423 + 1 = nI (l1 + 1) by rw [a4, nI_1]]
        refine g_iastoreN (j := 423) (q := 75) C dX8_carries_74 rfl (HM1.ar (i := 4) (n := 772) (by decide) rfl) (pk_in 423 772 (by decide)) (pk_cl 423) ?_
        refine gMsto (i := 4) (j := 423) (x := (nI (l1 + 1))) HM1 (by decide) rfl rfl fun h16 HL16 fr16 => ?_
        refine g_iload (q := 77) C dX8_carries_75 rfl rfl ?_
        refine g_iconst (v := 1) (q := 78) C dX8_carries_77 (by decide) rfl ?_
        refine g_icmp_ne_t (t := 107) C dX8_carries_78 (by decide) (by decide) ?_
        refine g_iload (q := 109) C dX8_carries_107 rfl rfl ?_
        refine g_iconst (v := 3) (q := 110) C dX8_carries_109 (by decide) rfl ?_
        refine g_icmp_ne_t (t := 119) C dX8_carries_110 (by decide) (by decide) ?_
        refine g_iload (q := 121) C dX8_carries_119 rfl rfl ?_
        refine g_iconst (v := 1) (q := 122) C dX8_carries_121 (by decide) rfl ?_
        refine g_icmp_ne_t (t := 130) C dX8_carries_122 (by decide) (by decide) ?_
        refine g_aload_n (q := 131) C dX8_carries_130 rfl rfl ?_
        refine g_getfield (v := .ref 136) (q := 134) C fX8_54 dX8_carries_131 rfl HL16.1 rfl ?_
        refine g_aload_n (q := 135) C dX8_carries_134 rfl rfl ?_
        refine g_getfield (v := .int ((M1.f 28))) (q := 138) C fX8_160 dX8_carries_135 rfl HL16.1 rfl ?_
        rw [show (M1.f 28) = nI c from hc1]
        refine g_iload_n (q := 139) C dX8_carries_138 rfl rfl ?_
        refine g_iload (q := 141) C dX8_carries_139 rfl rfl ?_
        refine g_ixor (q := 142) C dX8_carries_141 rfl ?_
        refine g_iastoreN (j := c) (q := 143) C dX8_carries_142 rfl (HL16.ar (i := 13) (n := 260) (by decide) rfl) (pk_in c 260 (by omega)) (pk_cl c rfl (by omega)) ?_
        refine gMsto (i := 13) (j := c) (x := (b ^^^ 0)) HL16 (by decide) rfl rfl fun h17 HL17 fr17 => ?_
        refine g_aload_n (q := 144) C dX8_carries_143 rfl rfl ?_
        refine g_dup (q := 145) C dX8_carries_144 rfl rfl ?_
        refine g_getfield (v := .int ((M1.f 28))) (q := 148) C fX8_160 dX8_carries_145 rfl HL17.1 rfl ?_
        rw [show (M1.f 28) = nI c from hc1]
        refine g_iconst (v := 1) (q := 149) C dX8_carries_148 (by decide) rfl ?_
        refine g_iadd (q := 150) C dX8_carries_149 rfl ?_
        refine g_putfield (q := 153) C fX8_160 dX8_carries_150 rfl HL17.1 (Nat.le_of_ble_eq_true rfl) (Or.inl rfl) rfl rfl (by intro z h; cases h) ?_
        refine gMput (j := 28) (x := ((nI c) + 1)) HL17 rfl fun h18 HL18 fr18 => ?_
        have N9 := gCar0.next (M2 := (M1.put 4 423 (nI (l1 + 1)))) H0 (by omega) (fun _ => rfl) (fun _ _ h => gput_o h) (fun _ h _ => gput_n h) gput_s
        exact E.2.1 _ _ _ _ _ dX8_carries_153 rfl (Nat.le_of_ble_eq_true rfl) (Nat.le_of_ble_eq_true rfl) ⟨rfl, _, l1 + 1, HL18, (gFM.trans (gFM.trans (gFM.trans fr1 fr16) fr17) fr18), ⟨fun k h1 h2 h3 => by rw [gset_n h1, gput_f, gput_f]; exact a1 k, fun i j hi h13 => by rw [gset_a, gput_o h13, gput_o hi]; exact a2 i j hi, fun j hj hk => by rw [gset_a, gput_o (by decide), gput_n hj]; exact a3 j hj hk, by rw [gset_a, gput_o (by decide), gput_s], by omega, by omega, N9.1.2.2.2.2.2, fun j hj => by rw [gset_a, gput_n hj, gput_o (by decide)]; exact a2 13 j (by decide), Or.inl ⟨by rw [gset_s]; exact nI_1 c, by rw [gset_n (by decide), gput_f, gput_f]; exact a1 30, by rw [gset_n (by decide), gput_f, gput_f]; exact a1 31, by rw [gset_a, gput_s]; exact gxor0 b⟩⟩⟩
      ·
        rw [ex]
        have ek9 := ek9.trans a4
        have he := hE k9 (by rw [← a3 430 (by decide) (by decide)]; exact hk9)
        rw [← a3 (431 + 3 * k9 + 1) (by omega) (by omega), ← a3 (431 + 3 * k9 + 2) (by omega) (by omega)] at he
        rcases he with ⟨e1, e2⟩ | ⟨e1, e2⟩ | ⟨e1, y9, hy1, hy2, e2⟩
        ·
          refine g_iload_n (q := 16) C dX8_carries_15 rfl rfl ?_
          refine g_if_ge_t (t := 23) C dX8_carries_16 (by decide) (nI_pos2 (by omega)) ?_
          refine g_aload_n (q := 24) C dX8_carries_23 rfl rfl ?_
          refine g_getfield (v := .ref 127) (q := 27) C fX8_22 dX8_carries_24 rfl HM1.1 rfl ?_
          refine g_sipush (v := 431) (q := 30) C dX8_carries_27 (by decide) rfl ?_
          refine g_iconst (v := 3) (q := 31) C dX8_carries_30 (by decide) rfl ?_
          refine g_iload_n (q := 32) C dX8_carries_31 rfl rfl ?_
          refine g_imul (q := 33) C dX8_carries_32 rfl ?_
          refine g_iadd (q := 34) C dX8_carries_33 rfl ?_
          refine g_iconst (v := 1) (q := 35) C dX8_carries_34 (by decide) rfl ?_
          refine g_iadd (q := 36) C dX8_carries_35 rfl ?_
          refine g_ialoadN (x := (M1.a 4 (431 + 3 * k9 + 1))) (j := (431 + 3 * k9 + 1)) (q := 37) C dX8_carries_36 rfl (HM1.ar (i := 4) (n := 772) (by decide) rfl) (pk_in (431 + 3 * k9 + 1) 772 (by omega) (g3c (c := 1) (by omega) (by decide))) (pk_cl (431 + 3 * k9 + 1) (g3c (c := 1) (by omega) (by decide)) (by omega)) rfl ?_
          rw [show (M1.a 4 (431 + 3 * k9 + 1)) = 1 from e1]
          refine g_istore (q := 39) C dX8_carries_37 (Nat.le_of_ble_eq_true rfl) (by simp only [gset]; rfl) rfl ?_
          refine g_iload_n (q := 40) C dX8_carries_39 rfl rfl ?_
          refine g_if_ge_t (t := 47) C dX8_carries_40 (by decide) (nI_pos2 (by omega)) ?_
          refine g_aload_n (q := 48) C dX8_carries_47 rfl rfl ?_
          refine g_getfield (v := .ref 127) (q := 51) C fX8_22 dX8_carries_48 rfl HM1.1 rfl ?_
          refine g_sipush (v := 431) (q := 54) C dX8_carries_51 (by decide) rfl ?_
          refine g_iconst (v := 3) (q := 55) C dX8_carries_54 (by decide) rfl ?_
          refine g_iload_n (q := 56) C dX8_carries_55 rfl rfl ?_
          refine g_imul (q := 57) C dX8_carries_56 rfl ?_
          refine g_iadd (q := 58) C dX8_carries_57 rfl ?_
          refine g_iconst (v := 2) (q := 59) C dX8_carries_58 (by decide) rfl ?_
          refine g_iadd (q := 60) C dX8_carries_59 rfl ?_
          refine g_ialoadN (x := (M1.a 4 (431 + 3 * k9 + 2))) (j := (431 + 3 * k9 + 2)) (q := 61) C dX8_carries_60 rfl (HM1.ar (i := 4) (n := 772) (by decide) rfl) (pk_in (431 + 3 * k9 + 2) 772 (by omega) (g3c (c := 2) (by omega) (by decide))) (pk_cl (431 + 3 * k9 + 2) (g3c (c := 2) (by omega) (by decide)) (by omega)) rfl ?_
          rw [show (M1.a 4 (431 + 3 * k9 + 2)) = 0 from e2]
          refine g_istore (q := 63) C dX8_carries_61 (Nat.le_of_ble_eq_true rfl) (by simp only [gset]; rfl) rfl ?_
          refine g_aload_n (q := 64) C dX8_carries_63 rfl rfl ?_
          refine g_getfield (v := .ref 127) (q := 67) C fX8_22 dX8_carries_64 rfl HM1.1 rfl ?_
          refine g_sipush (v := 423) (q := 70) C dX8_carries_67 (by decide) rfl ?_
          refine g_dup2 (q := 71) C dX8_carries_70 rfl rfl rfl ?_
          refine g_ialoadN (x := (M1.a 4 423)) (j := 423) (q := 72) C dX8_carries_71 rfl (HM1.ar (i := 4) (n := 772) (by decide) rfl) (pk_in 423 772 (by decide)) (pk_cl 423) rfl ?_
          refine g_iconst (v := 1) (q := 73) C dX8_carries_72 (by decide) rfl ?_
          refine g_iadd (q := 74) C dX8_carries_73 rfl ?_
          rw [show M1.a 4 423 + 1 = nI (l1 + 1) by rw [a4, nI_1]]
          refine g_iastoreN (j := 423) (q := 75) C dX8_carries_74 rfl (HM1.ar (i := 4) (n := 772) (by decide) rfl) (pk_in 423 772 (by decide)) (pk_cl 423) ?_
          refine gMsto (i := 4) (j := 423) (x := (nI (l1 + 1))) HM1 (by decide) rfl rfl fun h19 HL19 fr19 => ?_
          refine g_iload (q := 77) C dX8_carries_75 rfl rfl ?_
          refine g_iconst (v := 1) (q := 78) C dX8_carries_77 (by decide) rfl ?_
          refine g_icmp_ne_f (t := 107) (q := 81) C dX8_carries_78 (by decide) rfl (by decide) ?_
          refine g_iload_n (q := 82) C dX8_carries_81 rfl rfl ?_
          refine g_aload_n (q := 83) C dX8_carries_82 rfl rfl ?_
          refine g_getfield (v := .int ((M1.f 9))) (q := 86) C fX8_28 dX8_carries_83 rfl HL19.1 rfl ?_
          rw [show (M1.f 9) = nI R from hr1]
          refine g_icmp_ge_f (t := 107) (q := 89) C dX8_carries_86 (by decide) rfl (fun h => nI_ge (show n < R by omega) (by omega) h) ?_
          refine g_iinc (v := (nI (n + 1))) (q := 92) C dX8_carries_89 rfl (nI_1 n) (by simp only [gset]; rfl) rfl ?_
          refine g_aload_n (q := 93) C dX8_carries_92 rfl rfl ?_
          refine g_getfield (v := .ref 127) (q := 96) C fX8_22 dX8_carries_93 rfl HL19.1 rfl ?_
          refine g_sipush (v := 424) (q := 99) C dX8_carries_96 (by decide) rfl ?_
          refine g_dup2 (q := 100) C dX8_carries_99 rfl rfl rfl ?_
          refine g_ialoadN (x := (M1.a 4 424)) (j := 424) (q := 101) C dX8_carries_100 rfl (HL19.ar (i := 4) (n := 772) (by decide) rfl) (pk_in 424 772 (by decide)) (pk_cl 424) (gput_n (by decide)) ?_
          refine g_iconst (v := 1) (q := 102) C dX8_carries_101 (by decide) rfl ?_
          refine g_iadd (q := 103) C dX8_carries_102 rfl ?_
          refine g_iastoreN (j := 424) (q := 104) C dX8_carries_103 rfl (HL19.ar (i := 4) (n := 772) (by decide) rfl) (pk_in 424 772 (by decide)) (pk_cl 424) ?_
          refine gMsto (i := 4) (j := 424) (x := ((M1.a 4 424) + 1)) HL19 (by decide) rfl rfl fun h20 HL20 fr20 => ?_
          have N9 := gCar0.next (M2 := ((M1.put 4 423 (nI (l1 + 1))).put 4 424 ((M1.a 4 424) + 1))) H0 (by omega) (fun _ => rfl) (fun _ _ h => (gput_o h).trans (gput_o h)) (fun _ h1 h2 => (gput_n h2).trans (gput_n h1)) ((gput_n (by decide)).trans gput_s)
          refine g_goto (q := 2) C dX8_carries_104 (by decide) ?_
          exact ih (n + 1) (by omega) _ _ _ _ (l1 + 1) _ HL20 (gFM.trans (gFM.trans fr1 fr19) fr20) (by omega) N9.1
        ·
          refine g_iload_n (q := 16) C dX8_carries_15 rfl rfl ?_
          refine g_if_ge_t (t := 23) C dX8_carries_16 (by decide) (nI_pos2 (by omega)) ?_
          refine g_aload_n (q := 24) C dX8_carries_23 rfl rfl ?_
          refine g_getfield (v := .ref 127) (q := 27) C fX8_22 dX8_carries_24 rfl HM1.1 rfl ?_
          refine g_sipush (v := 431) (q := 30) C dX8_carries_27 (by decide) rfl ?_
          refine g_iconst (v := 3) (q := 31) C dX8_carries_30 (by decide) rfl ?_
          refine g_iload_n (q := 32) C dX8_carries_31 rfl rfl ?_
          refine g_imul (q := 33) C dX8_carries_32 rfl ?_
          refine g_iadd (q := 34) C dX8_carries_33 rfl ?_
          refine g_iconst (v := 1) (q := 35) C dX8_carries_34 (by decide) rfl ?_
          refine g_iadd (q := 36) C dX8_carries_35 rfl ?_
          refine g_ialoadN (x := (M1.a 4 (431 + 3 * k9 + 1))) (j := (431 + 3 * k9 + 1)) (q := 37) C dX8_carries_36 rfl (HM1.ar (i := 4) (n := 772) (by decide) rfl) (pk_in (431 + 3 * k9 + 1) 772 (by omega) (g3c (c := 1) (by omega) (by decide))) (pk_cl (431 + 3 * k9 + 1) (g3c (c := 1) (by omega) (by decide)) (by omega)) rfl ?_
          rw [show (M1.a 4 (431 + 3 * k9 + 1)) = 3 from e1]
          refine g_istore (q := 39) C dX8_carries_37 (Nat.le_of_ble_eq_true rfl) (by simp only [gset]; rfl) rfl ?_
          refine g_iload_n (q := 40) C dX8_carries_39 rfl rfl ?_
          refine g_if_ge_t (t := 47) C dX8_carries_40 (by decide) (nI_pos2 (by omega)) ?_
          refine g_aload_n (q := 48) C dX8_carries_47 rfl rfl ?_
          refine g_getfield (v := .ref 127) (q := 51) C fX8_22 dX8_carries_48 rfl HM1.1 rfl ?_
          refine g_sipush (v := 431) (q := 54) C dX8_carries_51 (by decide) rfl ?_
          refine g_iconst (v := 3) (q := 55) C dX8_carries_54 (by decide) rfl ?_
          refine g_iload_n (q := 56) C dX8_carries_55 rfl rfl ?_
          refine g_imul (q := 57) C dX8_carries_56 rfl ?_
          refine g_iadd (q := 58) C dX8_carries_57 rfl ?_
          refine g_iconst (v := 2) (q := 59) C dX8_carries_58 (by decide) rfl ?_
          refine g_iadd (q := 60) C dX8_carries_59 rfl ?_
          refine g_ialoadN (x := (M1.a 4 (431 + 3 * k9 + 2))) (j := (431 + 3 * k9 + 2)) (q := 61) C dX8_carries_60 rfl (HM1.ar (i := 4) (n := 772) (by decide) rfl) (pk_in (431 + 3 * k9 + 2) 772 (by omega) (g3c (c := 2) (by omega) (by decide))) (pk_cl (431 + 3 * k9 + 2) (g3c (c := 2) (by omega) (by decide)) (by omega)) rfl ?_
          rw [show (M1.a 4 (431 + 3 * k9 + 2)) = 0 from e2]
          refine g_istore (q := 63) C dX8_carries_61 (Nat.le_of_ble_eq_true rfl) (by simp only [gset]; rfl) rfl ?_
          refine g_aload_n (q := 64) C dX8_carries_63 rfl rfl ?_
          refine g_getfield (v := .ref 127) (q := 67) C fX8_22 dX8_carries_64 rfl HM1.1 rfl ?_
          refine g_sipush (v := 423) (q := 70) C dX8_carries_67 (by decide) rfl ?_
          refine g_dup2 (q := 71) C dX8_carries_70 rfl rfl rfl ?_
          refine g_ialoadN (x := (M1.a 4 423)) (j := 423) (q := 72) C dX8_carries_71 rfl (HM1.ar (i := 4) (n := 772) (by decide) rfl) (pk_in 423 772 (by decide)) (pk_cl 423) rfl ?_
          refine g_iconst (v := 1) (q := 73) C dX8_carries_72 (by decide) rfl ?_
          refine g_iadd (q := 74) C dX8_carries_73 rfl ?_
          rw [show M1.a 4 423 + 1 = nI (l1 + 1) by rw [a4, nI_1]]
          refine g_iastoreN (j := 423) (q := 75) C dX8_carries_74 rfl (HM1.ar (i := 4) (n := 772) (by decide) rfl) (pk_in 423 772 (by decide)) (pk_cl 423) ?_
          refine gMsto (i := 4) (j := 423) (x := (nI (l1 + 1))) HM1 (by decide) rfl rfl fun h21 HL21 fr21 => ?_
          refine g_iload (q := 77) C dX8_carries_75 rfl rfl ?_
          refine g_iconst (v := 1) (q := 78) C dX8_carries_77 (by decide) rfl ?_
          refine g_icmp_ne_t (t := 107) C dX8_carries_78 (by decide) (by decide) ?_
          refine g_iload (q := 109) C dX8_carries_107 rfl rfl ?_
          refine g_iconst (v := 3) (q := 110) C dX8_carries_109 (by decide) rfl ?_
          refine g_icmp_ne_f (t := 119) (q := 113) C dX8_carries_110 (by decide) rfl (by decide) ?_
          refine g_aload_n (q := 114) C dX8_carries_113 rfl rfl ?_
          refine g_iconst (v := 1) (q := 115) C dX8_carries_114 (by decide) rfl ?_
          refine g_putfield (q := 118) C fX8_154 dX8_carries_115 rfl HL21.1 (Nat.le_of_ble_eq_true rfl) (Or.inl rfl) rfl rfl (by intro z h; cases h) ?_
          refine gMput (j := 30) (x := 1) HL21 rfl fun h22 HL22 fr22 => ?_
          have N9 := gCar0.next (M2 := (M1.put 4 423 (nI (l1 + 1)))) H0 (by omega) (fun _ => rfl) (fun _ _ h => gput_o h) (fun _ h _ => gput_n h) gput_s
          exact E.2.1 _ _ _ _ _ dX8_carries_118 rfl (Nat.le_of_ble_eq_true rfl) (Nat.le_of_ble_eq_true rfl) ⟨rfl, _, l1 + 1, HL22, (gFM.trans (gFM.trans fr1 fr21) fr22), ⟨fun k h1 h2 h3 => by rw [gset_n h2, gput_f]; exact a1 k, fun i j hi h13 => by rw [gset_a, gput_o hi]; exact a2 i j hi, fun j hj hk => by rw [gset_a, gput_n hj]; exact a3 j hj hk, by rw [gset_a, gput_s], by omega, by omega, Nat.le_of_lt (N9.2 ⟨k9, hk9, ek9⟩), fun j hj => by rw [gset_a, gput_o (by decide)]; exact a2 13 j (by decide), Or.inr (Or.inr (Or.inl ⟨by rw [gset_n (by decide), gput_f]; exact hc1, gset_s, by rw [gset_n (by decide), gput_f]; exact a1 31, (N9.2 ⟨k9, hk9, ek9⟩)⟩))⟩⟩
        ·
          refine g_iload_n (q := 16) C dX8_carries_15 rfl rfl ?_
          refine g_if_ge_t (t := 23) C dX8_carries_16 (by decide) (nI_pos2 (by omega)) ?_
          refine g_aload_n (q := 24) C dX8_carries_23 rfl rfl ?_
          refine g_getfield (v := .ref 127) (q := 27) C fX8_22 dX8_carries_24 rfl HM1.1 rfl ?_
          refine g_sipush (v := 431) (q := 30) C dX8_carries_27 (by decide) rfl ?_
          refine g_iconst (v := 3) (q := 31) C dX8_carries_30 (by decide) rfl ?_
          refine g_iload_n (q := 32) C dX8_carries_31 rfl rfl ?_
          refine g_imul (q := 33) C dX8_carries_32 rfl ?_
          refine g_iadd (q := 34) C dX8_carries_33 rfl ?_
          refine g_iconst (v := 1) (q := 35) C dX8_carries_34 (by decide) rfl ?_
          refine g_iadd (q := 36) C dX8_carries_35 rfl ?_
          refine g_ialoadN (x := (M1.a 4 (431 + 3 * k9 + 1))) (j := (431 + 3 * k9 + 1)) (q := 37) C dX8_carries_36 rfl (HM1.ar (i := 4) (n := 772) (by decide) rfl) (pk_in (431 + 3 * k9 + 1) 772 (by omega) (g3c (c := 1) (by omega) (by decide))) (pk_cl (431 + 3 * k9 + 1) (g3c (c := 1) (by omega) (by decide)) (by omega)) rfl ?_
          rw [show (M1.a 4 (431 + 3 * k9 + 1)) = 2 from e1]
          refine g_istore (q := 39) C dX8_carries_37 (Nat.le_of_ble_eq_true rfl) (by simp only [gset]; rfl) rfl ?_
          refine g_iload_n (q := 40) C dX8_carries_39 rfl rfl ?_
          refine g_if_ge_t (t := 47) C dX8_carries_40 (by decide) (nI_pos2 (by omega)) ?_
          refine g_aload_n (q := 48) C dX8_carries_47 rfl rfl ?_
          refine g_getfield (v := .ref 127) (q := 51) C fX8_22 dX8_carries_48 rfl HM1.1 rfl ?_
          refine g_sipush (v := 431) (q := 54) C dX8_carries_51 (by decide) rfl ?_
          refine g_iconst (v := 3) (q := 55) C dX8_carries_54 (by decide) rfl ?_
          refine g_iload_n (q := 56) C dX8_carries_55 rfl rfl ?_
          refine g_imul (q := 57) C dX8_carries_56 rfl ?_
          refine g_iadd (q := 58) C dX8_carries_57 rfl ?_
          refine g_iconst (v := 2) (q := 59) C dX8_carries_58 (by decide) rfl ?_
          refine g_iadd (q := 60) C dX8_carries_59 rfl ?_
          refine g_ialoadN (x := (M1.a 4 (431 + 3 * k9 + 2))) (j := (431 + 3 * k9 + 2)) (q := 61) C dX8_carries_60 rfl (HM1.ar (i := 4) (n := 772) (by decide) rfl) (pk_in (431 + 3 * k9 + 2) 772 (by omega) (g3c (c := 2) (by omega) (by decide))) (pk_cl (431 + 3 * k9 + 2) (g3c (c := 2) (by omega) (by decide)) (by omega)) rfl ?_
          rw [show (M1.a 4 (431 + 3 * k9 + 2)) = (nI y9) from e2]
          refine g_istore (q := 63) C dX8_carries_61 (Nat.le_of_ble_eq_true rfl) (by simp only [gset]; rfl) rfl ?_
          refine g_aload_n (q := 64) C dX8_carries_63 rfl rfl ?_
          refine g_getfield (v := .ref 127) (q := 67) C fX8_22 dX8_carries_64 rfl HM1.1 rfl ?_
          refine g_sipush (v := 423) (q := 70) C dX8_carries_67 (by decide) rfl ?_
          refine g_dup2 (q := 71) C dX8_carries_70 rfl rfl rfl ?_
          refine g_ialoadN (x := (M1.a 4 423)) (j := 423) (q := 72) C dX8_carries_71 rfl (HM1.ar (i := 4) (n := 772) (by decide) rfl) (pk_in 423 772 (by decide)) (pk_cl 423) rfl ?_
          refine g_iconst (v := 1) (q := 73) C dX8_carries_72 (by decide) rfl ?_
          refine g_iadd (q := 74) C dX8_carries_73 rfl ?_
          rw [show M1.a 4 423 + 1 = nI (l1 + 1) by rw [a4, nI_1]]
          refine g_iastoreN (j := 423) (q := 75) C dX8_carries_74 rfl (HM1.ar (i := 4) (n := 772) (by decide) rfl) (pk_in 423 772 (by decide)) (pk_cl 423) ?_
          refine gMsto (i := 4) (j := 423) (x := (nI (l1 + 1))) HM1 (by decide) rfl rfl fun h23 HL23 fr23 => ?_
          refine g_iload (q := 77) C dX8_carries_75 rfl rfl ?_
          refine g_iconst (v := 1) (q := 78) C dX8_carries_77 (by decide) rfl ?_
          refine g_icmp_ne_t (t := 107) C dX8_carries_78 (by decide) (by decide) ?_
          refine g_iload (q := 109) C dX8_carries_107 rfl rfl ?_
          refine g_iconst (v := 3) (q := 110) C dX8_carries_109 (by decide) rfl ?_
          refine g_icmp_ne_t (t := 119) C dX8_carries_110 (by decide) (by decide) ?_
          refine g_iload (q := 121) C dX8_carries_119 rfl rfl ?_
          refine g_iconst (v := 1) (q := 122) C dX8_carries_121 (by decide) rfl ?_
          refine g_icmp_ne_t (t := 130) C dX8_carries_122 (by decide) (by decide) ?_
          refine g_aload_n (q := 131) C dX8_carries_130 rfl rfl ?_
          refine g_getfield (v := .ref 136) (q := 134) C fX8_54 dX8_carries_131 rfl HL23.1 rfl ?_
          refine g_aload_n (q := 135) C dX8_carries_134 rfl rfl ?_
          refine g_getfield (v := .int ((M1.f 28))) (q := 138) C fX8_160 dX8_carries_135 rfl HL23.1 rfl ?_
          rw [show (M1.f 28) = nI c from hc1]
          refine g_iload_n (q := 139) C dX8_carries_138 rfl rfl ?_
          refine g_iload (q := 141) C dX8_carries_139 rfl rfl ?_
          refine g_ixor (q := 142) C dX8_carries_141 rfl ?_
          refine g_iastoreN (j := c) (q := 143) C dX8_carries_142 rfl (HL23.ar (i := 13) (n := 260) (by decide) rfl) (pk_in c 260 (by omega)) (pk_cl c rfl (by omega)) ?_
          refine gMsto (i := 13) (j := c) (x := (b ^^^ (nI y9))) HL23 (by decide) rfl rfl fun h24 HL24 fr24 => ?_
          refine g_aload_n (q := 144) C dX8_carries_143 rfl rfl ?_
          refine g_dup (q := 145) C dX8_carries_144 rfl rfl ?_
          refine g_getfield (v := .int ((M1.f 28))) (q := 148) C fX8_160 dX8_carries_145 rfl HL24.1 rfl ?_
          rw [show (M1.f 28) = nI c from hc1]
          refine g_iconst (v := 1) (q := 149) C dX8_carries_148 (by decide) rfl ?_
          refine g_iadd (q := 150) C dX8_carries_149 rfl ?_
          refine g_putfield (q := 153) C fX8_160 dX8_carries_150 rfl HL24.1 (Nat.le_of_ble_eq_true rfl) (Or.inl rfl) rfl rfl (by intro z h; cases h) ?_
          refine gMput (j := 28) (x := ((nI c) + 1)) HL24 rfl fun h25 HL25 fr25 => ?_
          have N9 := gCar0.next (M2 := (M1.put 4 423 (nI (l1 + 1)))) H0 (by omega) (fun _ => rfl) (fun _ _ h => gput_o h) (fun _ h _ => gput_n h) gput_s
          exact E.2.1 _ _ _ _ _ dX8_carries_153 rfl (Nat.le_of_ble_eq_true rfl) (Nat.le_of_ble_eq_true rfl) ⟨rfl, _, l1 + 1, HL25, (gFM.trans (gFM.trans (gFM.trans fr1 fr23) fr24) fr25), ⟨fun k h1 h2 h3 => by rw [gset_n h1, gput_f, gput_f]; exact a1 k, fun i j hi h13 => by rw [gset_a, gput_o h13, gput_o hi]; exact a2 i j hi, fun j hj hk => by rw [gset_a, gput_o (by decide), gput_n hj]; exact a3 j hj hk, by rw [gset_a, gput_o (by decide), gput_s], by omega, by omega, Nat.le_of_lt (N9.2 ⟨k9, hk9, ek9⟩), fun j hj => by rw [gset_a, gput_n hj, gput_o (by decide)]; exact a2 13 j (by decide), Or.inr (Or.inr (Or.inr ⟨y9, hy1, hy2, by rw [gset_s]; exact nI_1 c, by rw [gset_n (by decide), gput_f, gput_f]; exact a1 30, by rw [gset_n (by decide), gput_f, gput_f]; exact a1 31, by rw [gset_a, gput_s], (N9.2 ⟨k9, hk9, ek9⟩)⟩))⟩⟩
      
  refine g_iconst (v := 0) (q := 1) C dX8_carries_0 (by decide) rfl ?_
  refine g_istore_n (q := 2) C dX8_carries_1 (Nat.le_of_ble_eq_true rfl) (by simp only [gset]; rfl) rfl ?_
  exact LL R 0 (by omega) _ _ _ M l hp HM gFM.rf (by omega) ⟨fun _ => rfl, fun _ _ _ => rfl, fun _ _ _ => rfl, hl, Nat.le_refl _, Nat.le_refl _⟩
