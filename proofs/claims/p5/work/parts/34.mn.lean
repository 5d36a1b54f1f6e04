/-! the reference: takes (by program: wip/p2/m_mn.py) -/
theorem gput_id {M : gMd} {i j : Nat} : M.put i j (M.a i j) = M := by
  have : (fun i' => if i' = i then upd (M.2 i) j (M.2 i j) else M.2 i') = M.2 := by
    funext i'
    by_cases e : i' = i
    · subst e
      rw [if_pos rfl]
      funext k
      by_cases c : k = j
      · subst c; rw [pk_us]
      · rw [pk_un c]
    · exact if_neg e
  exact Prod.ext rfl this
theorem gput_d {M : gMd} {i j : Nat} {x y : Int32} : (M.put i j x).put i j y = M.put i j y := by
  have : ((M.put i j x).put i j y).2 = (M.put i j y).2 := by
    funext i'
    show (if i' = i then upd (if i = i then upd (M.2 i) j x else M.2 i) j y else (if i' = i then upd (M.2 i) j x else M.2 i')) = (if i' = i then upd (M.2 i) j y else M.2 i')
    by_cases e : i' = i
    · rw [if_pos e, if_pos rfl, if_pos e]
      funext k
      by_cases c : k = j
      · subst c; rw [pk_us, pk_us]
      · rw [pk_un c, pk_un c, pk_un c]
    · rw [if_neg e, if_neg e, if_neg e]
  exact Prod.ext rfl this
/-- two places of one array: the order of the writes is nothing -/
theorem gput_c {M : gMd} {i j j' : Nat} {x y : Int32} (h : ¬ j' = j) : (M.put i j x).put i j' y = (M.put i j' y).put i j x := by
  have : ((M.put i j x).put i j' y).2 = ((M.put i j' y).put i j x).2 := by
    funext i'
    show (if i' = i then upd (if i = i then upd (M.2 i) j x else M.2 i) j' y else (if i' = i then upd (M.2 i) j x else M.2 i')) = (if i' = i then upd (if i = i then upd (M.2 i) j' y else M.2 i) j x else (if i' = i then upd (M.2 i) j' y else M.2 i'))
    by_cases e : i' = i
    · rw [if_pos e, if_pos rfl, if_pos rfl, if_pos e]
      funext k
      by_cases c : k = j
      · subst c; rw [pk_un (Ne.symm h), pk_us, pk_us]
      · by_cases c2 : k = j'
        · subst c2; rw [pk_us, pk_un c, pk_us]
        · rw [pk_un c2, pk_un c, pk_un c, pk_un c2]
    · rw [if_neg e, if_neg e, if_neg e, if_neg e]
  exact Prod.ext rfl this
def rX8_takes_0 (M : gMd) : Int32 × gMd := (if ((M.a 13 1) &&& 64) = (64 * (M.a 4 1)) then (if (M.a 4 5) < 0 then (1, ((((rX8_isThrough_0 M).arr 4 (gCpy ((rX8_isThrough_0 M).a 4) (160 + ((rX8_isThrough_0 M).a 4 8).toNatClampNeg) ((rX8_isThrough_0 M).a 13) 3 (min (((rX8_isThrough_0 M).a 13 2).toNatClampNeg) (60 - ((rX8_isThrough_0 M).a 4 8).toNatClampNeg)))).put 4 8 (nI (((rX8_isThrough_0 M).a 4 8).toNatClampNeg + (min (((rX8_isThrough_0 M).a 13 2).toNatClampNeg) (60 - ((rX8_isThrough_0 M).a 4 8).toNatClampNeg))))).put 4 1 (1 - (((rX8_isThrough_0 M).arr 4 (gCpy ((rX8_isThrough_0 M).a 4) (160 + ((rX8_isThrough_0 M).a 4 8).toNatClampNeg) ((rX8_isThrough_0 M).a 13) 3 (min (((rX8_isThrough_0 M).a 13 2).toNatClampNeg) (60 - ((rX8_isThrough_0 M).a 4 8).toNatClampNeg)))).a 4 1)))) else (if (M.a 4 6) = 1 then (0, M) else (1, ((((rX8_isThrough_0 M).arr 4 (gCpy ((rX8_isThrough_0 M).a 4) (160 + ((rX8_isThrough_0 M).a 4 8).toNatClampNeg) ((rX8_isThrough_0 M).a 13) 3 (min (((rX8_isThrough_0 M).a 13 2).toNatClampNeg) (60 - ((rX8_isThrough_0 M).a 4 8).toNatClampNeg)))).put 4 8 (nI (((rX8_isThrough_0 M).a 4 8).toNatClampNeg + (min (((rX8_isThrough_0 M).a 13 2).toNatClampNeg) (60 - ((rX8_isThrough_0 M).a 4 8).toNatClampNeg))))).put 4 1 (1 - (((rX8_isThrough_0 M).arr 4 (gCpy ((rX8_isThrough_0 M).a 4) (160 + ((rX8_isThrough_0 M).a 4 8).toNatClampNeg) ((rX8_isThrough_0 M).a 13) 3 (min (((rX8_isThrough_0 M).a 13 2).toNatClampNeg) (60 - ((rX8_isThrough_0 M).a 4 8).toNatClampNeg)))).a 4 1)))))) else (0, M))
theorem dX8_takes_0 : decode cX8_takes 0 = .ok (.bipush 16, 2) := by decide +kernel
theorem dX8_takes_2 : decode cX8_takes 2 = .ok (.iload_n 1, 1) := by decide +kernel
theorem dX8_takes_3 : decode cX8_takes 3 = .ok (.imul, 1) := by decide +kernel
theorem dX8_takes_4 : decode cX8_takes 4 = .ok (.istore_n 2, 1) := by decide +kernel
theorem dX8_takes_5 : decode cX8_takes 5 = .ok (.aload_n 0, 1) := by decide +kernel
theorem dX8_takes_6 : decode cX8_takes 6 = .ok (.getfield 54, 3) := by decide +kernel
theorem dX8_takes_9 : decode cX8_takes 9 = .ok (.iconst 1, 1) := by decide +kernel
theorem dX8_takes_10 : decode cX8_takes 10 = .ok (.iaload, 1) := by decide +kernel
theorem dX8_takes_11 : decode cX8_takes 11 = .ok (.bipush 64, 2) := by decide +kernel
theorem dX8_takes_13 : decode cX8_takes 13 = .ok (.iand, 1) := by decide +kernel
theorem dX8_takes_14 : decode cX8_takes 14 = .ok (.bipush 64, 2) := by decide +kernel
theorem dX8_takes_16 : decode cX8_takes 16 = .ok (.aload_n 0, 1) := by decide +kernel
theorem dX8_takes_17 : decode cX8_takes 17 = .ok (.getfield 22, 3) := by decide +kernel
theorem dX8_takes_20 : decode cX8_takes 20 = .ok (.iload_n 2, 1) := by decide +kernel
theorem dX8_takes_21 : decode cX8_takes 21 = .ok (.iconst 1, 1) := by decide +kernel
theorem dX8_takes_22 : decode cX8_takes 22 = .ok (.iadd, 1) := by decide +kernel
theorem dX8_takes_23 : decode cX8_takes 23 = .ok (.iaload, 1) := by decide +kernel
theorem dX8_takes_24 : decode cX8_takes 24 = .ok (.imul, 1) := by decide +kernel
theorem dX8_takes_25 : decode cX8_takes 25 = .ok (.if_icmp .ne 27, 3) := by decide +kernel
theorem dX8_takes_28 : decode cX8_takes 28 = .ok (.aload_n 0, 1) := by decide +kernel
theorem dX8_takes_29 : decode cX8_takes 29 = .ok (.getfield 22, 3) := by decide +kernel
theorem dX8_takes_32 : decode cX8_takes 32 = .ok (.iload_n 2, 1) := by decide +kernel
theorem dX8_takes_33 : decode cX8_takes 33 = .ok (.iconst 5, 1) := by decide +kernel
theorem dX8_takes_34 : decode cX8_takes 34 = .ok (.iadd, 1) := by decide +kernel
theorem dX8_takes_35 : decode cX8_takes 35 = .ok (.iaload, 1) := by decide +kernel
theorem dX8_takes_36 : decode cX8_takes 36 = .ok (.ifCond .lt 18, 3) := by decide +kernel
theorem dX8_takes_39 : decode cX8_takes 39 = .ok (.aload_n 0, 1) := by decide +kernel
theorem dX8_takes_40 : decode cX8_takes 40 = .ok (.getfield 22, 3) := by decide +kernel
theorem dX8_takes_43 : decode cX8_takes 43 = .ok (.iload_n 2, 1) := by decide +kernel
theorem dX8_takes_44 : decode cX8_takes 44 = .ok (.bipush 6, 2) := by decide +kernel
theorem dX8_takes_46 : decode cX8_takes 46 = .ok (.iadd, 1) := by decide +kernel
theorem dX8_takes_47 : decode cX8_takes 47 = .ok (.iaload, 1) := by decide +kernel
theorem dX8_takes_48 : decode cX8_takes 48 = .ok (.iconst 1, 1) := by decide +kernel
theorem dX8_takes_49 : decode cX8_takes 49 = .ok (.if_icmp .ne 5, 3) := by decide +kernel
theorem dX8_takes_52 : decode cX8_takes 52 = .ok (.iconst 0, 1) := by decide +kernel
theorem dX8_takes_53 : decode cX8_takes 53 = .ok (.ireturn, 1) := by decide +kernel
theorem dX8_takes_54 : decode cX8_takes 54 = .ok (.aload_n 0, 1) := by decide +kernel
theorem dX8_takes_55 : decode cX8_takes 55 = .ok (.iload_n 1, 1) := by decide +kernel
theorem dX8_takes_56 : decode cX8_takes 56 = .ok (.invokevirtual 210, 3) := by decide +kernel
theorem dX8_takes_59 : decode cX8_takes 59 = .ok (.iconst 0, 1) := by decide +kernel
theorem dX8_takes_60 : decode cX8_takes 60 = .ok (.istore_n 3, 1) := by decide +kernel
theorem dX8_takes_61 : decode cX8_takes 61 = .ok (.iload_n 3, 1) := by decide +kernel
theorem dX8_takes_62 : decode cX8_takes 62 = .ok (.aload_n 0, 1) := by decide +kernel
theorem dX8_takes_63 : decode cX8_takes 63 = .ok (.getfield 54, 3) := by decide +kernel
theorem dX8_takes_66 : decode cX8_takes 66 = .ok (.iconst 2, 1) := by decide +kernel
theorem dX8_takes_67 : decode cX8_takes 67 = .ok (.iaload, 1) := by decide +kernel
theorem dX8_takes_68 : decode cX8_takes 68 = .ok (.if_icmp .ge 67, 3) := by decide +kernel
theorem dX8_takes_71 : decode cX8_takes 71 = .ok (.aload_n 0, 1) := by decide +kernel
theorem dX8_takes_72 : decode cX8_takes 72 = .ok (.getfield 22, 3) := by decide +kernel
theorem dX8_takes_75 : decode cX8_takes 75 = .ok (.iload_n 2, 1) := by decide +kernel
theorem dX8_takes_76 : decode cX8_takes 76 = .ok (.bipush 8, 2) := by decide +kernel
theorem dX8_takes_78 : decode cX8_takes 78 = .ok (.iadd, 1) := by decide +kernel
theorem dX8_takes_79 : decode cX8_takes 79 = .ok (.iaload, 1) := by decide +kernel
theorem dX8_takes_80 : decode cX8_takes 80 = .ok (.bipush 60, 2) := by decide +kernel
theorem dX8_takes_82 : decode cX8_takes 82 = .ok (.if_icmp .ge 53, 3) := by decide +kernel
theorem dX8_takes_85 : decode cX8_takes 85 = .ok (.aload_n 0, 1) := by decide +kernel
theorem dX8_takes_86 : decode cX8_takes 86 = .ok (.getfield 22, 3) := by decide +kernel
theorem dX8_takes_89 : decode cX8_takes 89 = .ok (.sipush 160, 3) := by decide +kernel
theorem dX8_takes_92 : decode cX8_takes 92 = .ok (.bipush 64, 2) := by decide +kernel
theorem dX8_takes_94 : decode cX8_takes 94 = .ok (.iload_n 1, 1) := by decide +kernel
theorem dX8_takes_95 : decode cX8_takes 95 = .ok (.imul, 1) := by decide +kernel
theorem dX8_takes_96 : decode cX8_takes 96 = .ok (.iadd, 1) := by decide +kernel
theorem dX8_takes_97 : decode cX8_takes 97 = .ok (.aload_n 0, 1) := by decide +kernel
theorem dX8_takes_98 : decode cX8_takes 98 = .ok (.getfield 22, 3) := by decide +kernel
theorem dX8_takes_101 : decode cX8_takes 101 = .ok (.iload_n 2, 1) := by decide +kernel
theorem dX8_takes_102 : decode cX8_takes 102 = .ok (.bipush 8, 2) := by decide +kernel
theorem dX8_takes_104 : decode cX8_takes 104 = .ok (.iadd, 1) := by decide +kernel
theorem dX8_takes_105 : decode cX8_takes 105 = .ok (.iaload, 1) := by decide +kernel
theorem dX8_takes_106 : decode cX8_takes 106 = .ok (.iadd, 1) := by decide +kernel
theorem dX8_takes_107 : decode cX8_takes 107 = .ok (.aload_n 0, 1) := by decide +kernel
theorem dX8_takes_108 : decode cX8_takes 108 = .ok (.getfield 54, 3) := by decide +kernel
theorem dX8_takes_111 : decode cX8_takes 111 = .ok (.iconst 3, 1) := by decide +kernel
theorem dX8_takes_112 : decode cX8_takes 112 = .ok (.iload_n 3, 1) := by decide +kernel
theorem dX8_takes_113 : decode cX8_takes 113 = .ok (.iadd, 1) := by decide +kernel
theorem dX8_takes_114 : decode cX8_takes 114 = .ok (.iaload, 1) := by decide +kernel
theorem dX8_takes_115 : decode cX8_takes 115 = .ok (.iastore, 1) := by decide +kernel
theorem dX8_takes_116 : decode cX8_takes 116 = .ok (.aload_n 0, 1) := by decide +kernel
theorem dX8_takes_117 : decode cX8_takes 117 = .ok (.getfield 22, 3) := by decide +kernel
theorem dX8_takes_120 : decode cX8_takes 120 = .ok (.iload_n 2, 1) := by decide +kernel
theorem dX8_takes_121 : decode cX8_takes 121 = .ok (.bipush 8, 2) := by decide +kernel
theorem dX8_takes_123 : decode cX8_takes 123 = .ok (.iadd, 1) := by decide +kernel
theorem dX8_takes_124 : decode cX8_takes 124 = .ok (.dup2, 1) := by decide +kernel
theorem dX8_takes_125 : decode cX8_takes 125 = .ok (.iaload, 1) := by decide +kernel
theorem dX8_takes_126 : decode cX8_takes 126 = .ok (.iconst 1, 1) := by decide +kernel
theorem dX8_takes_127 : decode cX8_takes 127 = .ok (.iadd, 1) := by decide +kernel
theorem dX8_takes_128 : decode cX8_takes 128 = .ok (.iastore, 1) := by decide +kernel
theorem dX8_takes_129 : decode cX8_takes 129 = .ok (.iinc 3 1, 3) := by decide +kernel
theorem dX8_takes_132 : decode cX8_takes 132 = .ok (.goto (-71), 3) := by decide +kernel
theorem dX8_takes_135 : decode cX8_takes 135 = .ok (.aload_n 0, 1) := by decide +kernel
theorem dX8_takes_136 : decode cX8_takes 136 = .ok (.getfield 22, 3) := by decide +kernel
theorem dX8_takes_139 : decode cX8_takes 139 = .ok (.iload_n 2, 1) := by decide +kernel
theorem dX8_takes_140 : decode cX8_takes 140 = .ok (.iconst 1, 1) := by decide +kernel
theorem dX8_takes_141 : decode cX8_takes 141 = .ok (.iadd, 1) := by decide +kernel
theorem dX8_takes_142 : decode cX8_takes 142 = .ok (.iconst 1, 1) := by decide +kernel
theorem dX8_takes_143 : decode cX8_takes 143 = .ok (.aload_n 0, 1) := by decide +kernel
theorem dX8_takes_144 : decode cX8_takes 144 = .ok (.getfield 22, 3) := by decide +kernel
theorem dX8_takes_147 : decode cX8_takes 147 = .ok (.iload_n 2, 1) := by decide +kernel
theorem dX8_takes_148 : decode cX8_takes 148 = .ok (.iconst 1, 1) := by decide +kernel
theorem dX8_takes_149 : decode cX8_takes 149 = .ok (.iadd, 1) := by decide +kernel
theorem dX8_takes_150 : decode cX8_takes 150 = .ok (.iaload, 1) := by decide +kernel
theorem dX8_takes_151 : decode cX8_takes 151 = .ok (.isub, 1) := by decide +kernel
theorem dX8_takes_152 : decode cX8_takes 152 = .ok (.iastore, 1) := by decide +kernel
theorem dX8_takes_153 : decode cX8_takes 153 = .ok (.iconst 1, 1) := by decide +kernel
theorem dX8_takes_154 : decode cX8_takes 154 = .ok (.ireturn, 1) := by decide +kernel
set_option maxRecDepth 100000 in
set_option maxHeartbeats 4000000 in
theorem c_X8_takes_0_m {hp : List gA} {M : gMd}  (HM : gMod hp M) (hin : gIr ((rX8_isThrough_0 M).a 4 8) 60) (hcm : gIr ((rX8_isThrough_0 M).a 13 2) 60) : gM yX8_takes cX8_takes 4 ((some .boolean)) 1 22 [.ref 122, .int 0] (hp) (0) (0) (fun v h => v = some (.int (rX8_takes_0 M).1) ∧ (gMod h (rX8_takes_0 M).2 ∧ gFM hp h)) := by
  refine gM_of (ls0 := [some (.ref 122), some (.int 0), none, none]) (by decide +kernel) (Nat.le_of_ble_eq_true rfl) rfl fun X C E => ?_
  obtain ⟨q, hq, eq⟩ : ∃ q, q ≤ 60 ∧ (rX8_isThrough_0 M).a 4 8 = nI q := hin
  obtain ⟨c, hc, ec⟩ : ∃ c, c ≤ 60 ∧ (rX8_isThrough_0 M).a 13 2 = nI c := hcm
  have e0 : rX8_takes_0 M = rX8_takes_0 M := rfl
  have K : rX8_takes_0 M = (1, ((((rX8_isThrough_0 M).arr 4 (gCpy ((rX8_isThrough_0 M).a 4) (160 + ((rX8_isThrough_0 M).a 4 8).toNatClampNeg) ((rX8_isThrough_0 M).a 13) 3 (min (((rX8_isThrough_0 M).a 13 2).toNatClampNeg) (60 - ((rX8_isThrough_0 M).a 4 8).toNatClampNeg)))).put 4 8 (nI (((rX8_isThrough_0 M).a 4 8).toNatClampNeg + (min (((rX8_isThrough_0 M).a 13 2).toNatClampNeg) (60 - ((rX8_isThrough_0 M).a 4 8).toNatClampNeg))))).put 4 1 (1 - (((rX8_isThrough_0 M).arr 4 (gCpy ((rX8_isThrough_0 M).a 4) (160 + ((rX8_isThrough_0 M).a 4 8).toNatClampNeg) ((rX8_isThrough_0 M).a 13) 3 (min (((rX8_isThrough_0 M).a 13 2).toNatClampNeg) (60 - ((rX8_isThrough_0 M).a 4 8).toNatClampNeg)))).a 4 1)))) → gG X 54 [some (.ref 122), some (.int 0), some (.int 0), none] [] hp 0 0 := by
    intro e
    rw [show ((rX8_isThrough_0 M).a 4 8).toNatClampNeg = q by rw [eq, nI_clamp (by omega)], show ((rX8_isThrough_0 M).a 13 2).toNatClampNeg = c by rw [ec, nI_clamp (by omega)]] at e
    refine g_aload_n (q := 55) C dX8_takes_54 rfl rfl ?_
    refine g_iload_n (q := 56) C dX8_takes_55 rfl rfl ?_
    refine g_callVvp (q := 59) (As := [.int 0]) C gyX8_isThrough gvX8_isThrough t_1384 (c_X8_isThrough_0_m HM) dX8_takes_56 rfl HM.1 rfl rfl rfl (Nat.le_of_ble_eq_true rfl) (Nat.le_of_ble_eq_true rfl) (Nat.le_of_ble_eq_true rfl) (Nat.le_of_ble_eq_true rfl) (Nat.le_of_ble_eq_true rfl) rfl (fun h1 z1 => ?_)
    obtain ⟨HL1, fr1⟩ := z1
    refine g_iconst (v := 0) (q := 60) C dX8_takes_59 (by decide) rfl ?_
    refine g_istore_n (q := 61) C dX8_takes_60 (Nat.le_of_ble_eq_true rfl) (by simp only [gset]; rfl) rfl ?_
    have HL8 : gMod h1 (((rX8_isThrough_0 M).arr 4 (gCpy ((rX8_isThrough_0 M).a 4) (160 + q) ((rX8_isThrough_0 M).a 13) 3 0)).put 4 8 (nI (q + 0))) := by
      have e8 : (rX8_isThrough_0 M).put 4 8 (nI (q + 0)) = (rX8_isThrough_0 M) := by rw [Nat.add_zero, ← eq]; exact gput_id
      rw [gCpy_0, garr_id, e8]; exact HL1
    have LL : ∀ d j : Nat, j + d = min c (60 - q) → ∀ hz : List gA, gMod hz (((rX8_isThrough_0 M).arr 4 (gCpy ((rX8_isThrough_0 M).a 4) (160 + q) ((rX8_isThrough_0 M).a 13) 3 j)).put 4 8 (nI (q + j))) → gFM hp hz → gG X 61 [some (.ref 122), some (.int 0), some (.int 0), some (.int ((nI j)))] [] hz 0 0 := by
      intro d
      induction d with
      | zero =>
        intro j hj hz HZ frz
        obtain rfl : min c (60 - q) = j := by omega
        by_cases hx : c ≤ 60 - q
        · have hm : min c (60 - q) = c := by omega
          refine g_iload_n (q := 62) C dX8_takes_61 rfl rfl ?_
          refine g_aload_n (q := 63) C dX8_takes_62 rfl rfl ?_
          refine g_getfield (v := .ref 136) (q := 66) C fX8_54 dX8_takes_63 rfl HZ.1 rfl ?_
          refine g_iconst (v := 2) (q := 67) C dX8_takes_66 (by decide) rfl ?_
          refine g_ialoadN (x := (((rX8_isThrough_0 M).arr 4 (gCpy ((rX8_isThrough_0 M).a 4) (160 + q) ((rX8_isThrough_0 M).a 13) 3 (min c (60 - q)))).a 13 2)) (j := 2) (q := 68) C dX8_takes_67 rfl (HZ.ar (i := 13) (n := 260) (by decide) rfl) (pk_in 2 260 (by decide)) (pk_cl 2) (gput_o (by decide)) ?_
          rw [show (((rX8_isThrough_0 M).arr 4 (gCpy ((rX8_isThrough_0 M).a 4) (160 + q) ((rX8_isThrough_0 M).a 13) 3 (min c (60 - q)))).a 13 2) = nI c from (garr_o (by decide)).trans ec]
          refine g_icmp_ge_t (t := 135) C dX8_takes_68 (by decide) (nI_le (by omega) (by omega)) ?_
          refine g_aload_n (q := 136) C dX8_takes_135 rfl rfl ?_
          refine g_getfield (v := .ref 127) (q := 139) C fX8_22 dX8_takes_136 rfl HZ.1 rfl ?_
          refine g_iload_n (q := 140) C dX8_takes_139 rfl rfl ?_
          refine g_iconst (v := 1) (q := 141) C dX8_takes_140 (by decide) rfl ?_
          refine g_iadd (q := 142) C dX8_takes_141 rfl ?_
          refine g_iconst (v := 1) (q := 143) C dX8_takes_142 (by decide) rfl ?_
          refine g_aload_n (q := 144) C dX8_takes_143 rfl rfl ?_
          refine g_getfield (v := .ref 127) (q := 147) C fX8_22 dX8_takes_144 rfl HZ.1 rfl ?_
          refine g_iload_n (q := 148) C dX8_takes_147 rfl rfl ?_
          refine g_iconst (v := 1) (q := 149) C dX8_takes_148 (by decide) rfl ?_
          refine g_iadd (q := 150) C dX8_takes_149 rfl ?_
          refine g_ialoadN (x := (((rX8_isThrough_0 M).arr 4 (gCpy ((rX8_isThrough_0 M).a 4) (160 + q) ((rX8_isThrough_0 M).a 13) 3 (min c (60 - q)))).a 4 1)) (j := 1) (q := 151) C dX8_takes_150 rfl (HZ.ar (i := 4) (n := 772) (by decide) rfl) (pk_in 1 772 (by decide)) (pk_cl 1) (gput_n (by decide)) ?_
          refine g_isub (q := 152) C dX8_takes_151 rfl ?_
          refine g_iastoreN (j := 1) (q := 153) C dX8_takes_152 rfl (HZ.ar (i := 4) (n := 772) (by decide) rfl) (pk_in 1 772 (by decide)) (pk_cl 1) ?_
          refine gMsto (i := 4) (j := 1) (x := (1 - (((rX8_isThrough_0 M).arr 4 (gCpy ((rX8_isThrough_0 M).a 4) (160 + q) ((rX8_isThrough_0 M).a 13) 3 (min c (60 - q)))).a 4 1))) HZ (by decide) rfl rfl fun h2 HL2 fr2 => ?_
          refine g_iconst (v := 1) (q := 154) C dX8_takes_153 (by decide) rfl ?_
          exact E.1 _ _ _ _ _ _ _ dX8_takes_154 rfl rfl (Nat.le_of_ble_eq_true rfl) (Nat.le_of_ble_eq_true rfl) ⟨by rw [e], by rw [e]; exact ⟨HL2, (gFM.trans frz fr2)⟩⟩
        ·
          refine g_iload_n (q := 62) C dX8_takes_61 rfl rfl ?_
          refine g_aload_n (q := 63) C dX8_takes_62 rfl rfl ?_
          refine g_getfield (v := .ref 136) (q := 66) C fX8_54 dX8_takes_63 rfl HZ.1 rfl ?_
          refine g_iconst (v := 2) (q := 67) C dX8_takes_66 (by decide) rfl ?_
          refine g_ialoadN (x := (((rX8_isThrough_0 M).arr 4 (gCpy ((rX8_isThrough_0 M).a 4) (160 + q) ((rX8_isThrough_0 M).a 13) 3 (min c (60 - q)))).a 13 2)) (j := 2) (q := 68) C dX8_takes_67 rfl (HZ.ar (i := 13) (n := 260) (by decide) rfl) (pk_in 2 260 (by decide)) (pk_cl 2) (gput_o (by decide)) ?_
          rw [show (((rX8_isThrough_0 M).arr 4 (gCpy ((rX8_isThrough_0 M).a 4) (160 + q) ((rX8_isThrough_0 M).a 13) 3 (min c (60 - q)))).a 13 2) = nI c from (garr_o (by decide)).trans ec]
          refine g_icmp_ge_f (t := 135) (q := 71) C dX8_takes_68 (by decide) rfl (fun h => nI_ge (show min c (60 - q) < c by omega) (by omega) h) ?_
          refine g_aload_n (q := 72) C dX8_takes_71 rfl rfl ?_
          refine g_getfield (v := .ref 127) (q := 75) C fX8_22 dX8_takes_72 rfl HZ.1 rfl ?_
          refine g_iload_n (q := 76) C dX8_takes_75 rfl rfl ?_
          refine g_bipush (v := 8) (q := 78) C dX8_takes_76 (by decide) rfl ?_
          refine g_iadd (q := 79) C dX8_takes_78 rfl ?_
          refine g_ialoadN (x := (nI (q + (min c (60 - q))))) (j := 8) (q := 80) C dX8_takes_79 rfl (HZ.ar (i := 4) (n := 772) (by decide) rfl) (pk_in 8 772 (by decide)) (pk_cl 8) gput_s ?_
          refine g_bipush (v := 60) (q := 82) C dX8_takes_80 (by decide) rfl ?_
          refine g_icmp_ge_t (t := 135) C dX8_takes_82 (by decide) (nI_le (a := 60) (show 60 ≤ q + min c (60 - q) by omega) (by omega)) ?_
          refine g_aload_n (q := 136) C dX8_takes_135 rfl rfl ?_
          refine g_getfield (v := .ref 127) (q := 139) C fX8_22 dX8_takes_136 rfl HZ.1 rfl ?_
          refine g_iload_n (q := 140) C dX8_takes_139 rfl rfl ?_
          refine g_iconst (v := 1) (q := 141) C dX8_takes_140 (by decide) rfl ?_
          refine g_iadd (q := 142) C dX8_takes_141 rfl ?_
          refine g_iconst (v := 1) (q := 143) C dX8_takes_142 (by decide) rfl ?_
          refine g_aload_n (q := 144) C dX8_takes_143 rfl rfl ?_
          refine g_getfield (v := .ref 127) (q := 147) C fX8_22 dX8_takes_144 rfl HZ.1 rfl ?_
          refine g_iload_n (q := 148) C dX8_takes_147 rfl rfl ?_
          refine g_iconst (v := 1) (q := 149) C dX8_takes_148 (by decide) rfl ?_
          refine g_iadd (q := 150) C dX8_takes_149 rfl ?_
          refine g_ialoadN (x := (((rX8_isThrough_0 M).arr 4 (gCpy ((rX8_isThrough_0 M).a 4) (160 + q) ((rX8_isThrough_0 M).a 13) 3 (min c (60 - q)))).a 4 1)) (j := 1) (q := 151) C dX8_takes_150 rfl (HZ.ar (i := 4) (n := 772) (by decide) rfl) (pk_in 1 772 (by decide)) (pk_cl 1) (gput_n (by decide)) ?_
          refine g_isub (q := 152) C dX8_takes_151 rfl ?_
          refine g_iastoreN (j := 1) (q := 153) C dX8_takes_152 rfl (HZ.ar (i := 4) (n := 772) (by decide) rfl) (pk_in 1 772 (by decide)) (pk_cl 1) ?_
          refine gMsto (i := 4) (j := 1) (x := (1 - (((rX8_isThrough_0 M).arr 4 (gCpy ((rX8_isThrough_0 M).a 4) (160 + q) ((rX8_isThrough_0 M).a 13) 3 (min c (60 - q)))).a 4 1))) HZ (by decide) rfl rfl fun h3 HL3 fr3 => ?_
          refine g_iconst (v := 1) (q := 154) C dX8_takes_153 (by decide) rfl ?_
          exact E.1 _ _ _ _ _ _ _ dX8_takes_154 rfl rfl (Nat.le_of_ble_eq_true rfl) (Nat.le_of_ble_eq_true rfl) ⟨by rw [e], by rw [e]; exact ⟨HL3, (gFM.trans frz fr3)⟩⟩
      | succ d ih =>
        intro j hj hz HZ frz
        refine g_iload_n (q := 62) C dX8_takes_61 rfl rfl ?_
        refine g_aload_n (q := 63) C dX8_takes_62 rfl rfl ?_
        refine g_getfield (v := .ref 136) (q := 66) C fX8_54 dX8_takes_63 rfl HZ.1 rfl ?_
        refine g_iconst (v := 2) (q := 67) C dX8_takes_66 (by decide) rfl ?_
        refine g_ialoadN (x := (((rX8_isThrough_0 M).arr 4 (gCpy ((rX8_isThrough_0 M).a 4) (160 + q) ((rX8_isThrough_0 M).a 13) 3 j)).a 13 2)) (j := 2) (q := 68) C dX8_takes_67 rfl (HZ.ar (i := 13) (n := 260) (by decide) rfl) (pk_in 2 260 (by decide)) (pk_cl 2) (gput_o (by decide)) ?_
        rw [show (((rX8_isThrough_0 M).arr 4 (gCpy ((rX8_isThrough_0 M).a 4) (160 + q) ((rX8_isThrough_0 M).a 13) 3 j)).a 13 2) = nI c from (garr_o (by decide)).trans ec]
        refine g_icmp_ge_f (t := 135) (q := 71) C dX8_takes_68 (by decide) rfl (fun h => nI_ge (show j < c by omega) (by omega) h) ?_
        refine g_aload_n (q := 72) C dX8_takes_71 rfl rfl ?_
        refine g_getfield (v := .ref 127) (q := 75) C fX8_22 dX8_takes_72 rfl HZ.1 rfl ?_
        refine g_iload_n (q := 76) C dX8_takes_75 rfl rfl ?_
        refine g_bipush (v := 8) (q := 78) C dX8_takes_76 (by decide) rfl ?_
        refine g_iadd (q := 79) C dX8_takes_78 rfl ?_
        refine g_ialoadN (x := (nI (q + j))) (j := 8) (q := 80) C dX8_takes_79 rfl (HZ.ar (i := 4) (n := 772) (by decide) rfl) (pk_in 8 772 (by decide)) (pk_cl 8) gput_s ?_
        refine g_bipush (v := 60) (q := 82) C dX8_takes_80 (by decide) rfl ?_
        refine g_icmp_ge_f (t := 135) (q := 85) C dX8_takes_82 (by decide) rfl (fun h => nI_ge (show q + j < 60 by omega) (by decide) h) ?_
        refine g_aload_n (q := 86) C dX8_takes_85 rfl rfl ?_
        refine g_getfield (v := .ref 127) (q := 89) C fX8_22 dX8_takes_86 rfl HZ.1 rfl ?_
        refine g_sipush (v := 160) (q := 92) C dX8_takes_89 (by decide) rfl ?_
        refine g_bipush (v := 64) (q := 94) C dX8_takes_92 (by decide) rfl ?_
        refine g_iload_n (q := 95) C dX8_takes_94 rfl rfl ?_
        refine g_imul (q := 96) C dX8_takes_95 rfl ?_
        refine g_iadd (q := 97) C dX8_takes_96 rfl ?_
        refine g_aload_n (q := 98) C dX8_takes_97 rfl rfl ?_
        refine g_getfield (v := .ref 127) (q := 101) C fX8_22 dX8_takes_98 rfl HZ.1 rfl ?_
        refine g_iload_n (q := 102) C dX8_takes_101 rfl rfl ?_
        refine g_bipush (v := 8) (q := 104) C dX8_takes_102 (by decide) rfl ?_
        refine g_iadd (q := 105) C dX8_takes_104 rfl ?_
        refine g_ialoadN (x := (nI (q + j))) (j := 8) (q := 106) C dX8_takes_105 rfl (HZ.ar (i := 4) (n := 772) (by decide) rfl) (pk_in 8 772 (by decide)) (pk_cl 8) gput_s ?_
        refine g_iadd (q := 107) C dX8_takes_106 rfl ?_
        rw [show (160 : Int32) + 64 * 0 + nI (q + j) = nI (160 + q + j) from by rw [show (160 : Int32) + 64 * 0 = nI 160 from rfl, nI_add, Nat.add_assoc]]
        refine g_aload_n (q := 108) C dX8_takes_107 rfl rfl ?_
        refine g_getfield (v := .ref 136) (q := 111) C fX8_54 dX8_takes_108 rfl HZ.1 rfl ?_
        refine g_iconst (v := 3) (q := 112) C dX8_takes_111 (by decide) rfl ?_
        refine g_iload_n (q := 113) C dX8_takes_112 rfl rfl ?_
        refine g_iadd (q := 114) C dX8_takes_113 rfl ?_
        refine g_ialoadN (x := (((rX8_isThrough_0 M).arr 4 (gCpy ((rX8_isThrough_0 M).a 4) (160 + q) ((rX8_isThrough_0 M).a 13) 3 j)).a 13 (3 + j))) (j := (3 + j)) (q := 115) C dX8_takes_114 rfl (HZ.ar (i := 13) (n := 260) (by decide) rfl) (pk_in (3 + j) 260 (by omega) (nI_add 3 j)) (pk_cl (3 + j) (nI_add 3 j) (by omega)) (gput_o (by decide)) ?_
        refine g_iastoreN (j := (160 + q + j)) (q := 116) C dX8_takes_115 rfl (HZ.ar (i := 4) (n := 772) (by decide) rfl) (pk_in (160 + q + j) 772 (by omega)) (pk_cl (160 + q + j) rfl (by omega)) ?_
        refine gMsto (i := 4) (j := (160 + q + j)) (x := (((rX8_isThrough_0 M).arr 4 (gCpy ((rX8_isThrough_0 M).a 4) (160 + q) ((rX8_isThrough_0 M).a 13) 3 j)).a 13 (3 + j))) HZ (by decide) rfl rfl fun h4 HL4 fr4 => ?_
        refine g_aload_n (q := 117) C dX8_takes_116 rfl rfl ?_
        refine g_getfield (v := .ref 127) (q := 120) C fX8_22 dX8_takes_117 rfl HL4.1 rfl ?_
        refine g_iload_n (q := 121) C dX8_takes_120 rfl rfl ?_
        refine g_bipush (v := 8) (q := 123) C dX8_takes_121 (by decide) rfl ?_
        refine g_iadd (q := 124) C dX8_takes_123 rfl ?_
        refine g_dup2 (q := 125) C dX8_takes_124 rfl rfl rfl ?_
        refine g_ialoadN (x := (((((rX8_isThrough_0 M).arr 4 (gCpy ((rX8_isThrough_0 M).a 4) (160 + q) ((rX8_isThrough_0 M).a 13) 3 j)).put 4 8 (nI (q + j))).put 4 (160 + q + j) (((rX8_isThrough_0 M).arr 4 (gCpy ((rX8_isThrough_0 M).a 4) (160 + q) ((rX8_isThrough_0 M).a 13) 3 j)).a 13 (3 + j))).a 4 8)) (j := 8) (q := 126) C dX8_takes_125 rfl (HL4.ar (i := 4) (n := 772) (by decide) rfl) (pk_in 8 772 (by decide)) (pk_cl 8) rfl ?_
        refine g_iconst (v := 1) (q := 127) C dX8_takes_126 (by decide) rfl ?_
        refine g_iadd (q := 128) C dX8_takes_127 rfl ?_
        refine g_iastoreN (j := 8) (q := 129) C dX8_takes_128 rfl (HL4.ar (i := 4) (n := 772) (by decide) rfl) (pk_in 8 772 (by decide)) (pk_cl 8) ?_
        refine gMsto (i := 4) (j := 8) (x := ((((((rX8_isThrough_0 M).arr 4 (gCpy ((rX8_isThrough_0 M).a 4) (160 + q) ((rX8_isThrough_0 M).a 13) 3 j)).put 4 8 (nI (q + j))).put 4 (160 + q + j) (((rX8_isThrough_0 M).arr 4 (gCpy ((rX8_isThrough_0 M).a 4) (160 + q) ((rX8_isThrough_0 M).a 13) 3 j)).a 13 (3 + j))).a 4 8) + 1)) HL4 (by decide) rfl rfl fun h5 HL5 fr5 => ?_
        refine g_iinc (v := (nI (j + 1))) (q := 132) C dX8_takes_129 rfl (nI_1 j) (by simp only [gset]; rfl) rfl ?_
        have e8 : (((rX8_isThrough_0 M).arr 4 (gCpy ((rX8_isThrough_0 M).a 4) (160 + q) ((rX8_isThrough_0 M).a 13) 3 j)).a 13 (3 + j)) = (rX8_isThrough_0 M).a 13 (3 + j) := garr_o (by decide)
        have e7 : ((((rX8_isThrough_0 M).arr 4 (gCpy ((rX8_isThrough_0 M).a 4) (160 + q) ((rX8_isThrough_0 M).a 13) 3 j)).put 4 8 (nI (q + j))).put 4 (160 + q + j) (((rX8_isThrough_0 M).arr 4 (gCpy ((rX8_isThrough_0 M).a 4) (160 + q) ((rX8_isThrough_0 M).a 13) 3 j)).a 13 (3 + j))).a 4 8 = nI (q + j) := (gput_n (by omega)).trans gput_s
        have e9 : (((((rX8_isThrough_0 M).arr 4 (gCpy ((rX8_isThrough_0 M).a 4) (160 + q) ((rX8_isThrough_0 M).a 13) 3 j)).put 4 8 (nI (q + j))).put 4 (160 + q + j) (((rX8_isThrough_0 M).arr 4 (gCpy ((rX8_isThrough_0 M).a 4) (160 + q) ((rX8_isThrough_0 M).a 13) 3 j)).a 13 (3 + j))).put 4 8 ((((((rX8_isThrough_0 M).arr 4 (gCpy ((rX8_isThrough_0 M).a 4) (160 + q) ((rX8_isThrough_0 M).a 13) 3 j)).put 4 8 (nI (q + j))).put 4 (160 + q + j) (((rX8_isThrough_0 M).arr 4 (gCpy ((rX8_isThrough_0 M).a 4) (160 + q) ((rX8_isThrough_0 M).a 13) 3 j)).a 13 (3 + j))).a 4 8) + 1)) = (((rX8_isThrough_0 M).arr 4 (gCpy ((rX8_isThrough_0 M).a 4) (160 + q) ((rX8_isThrough_0 M).a 13) 3 (j + 1))).put 4 8 (nI (q + (j + 1)))) := by
          rw [e7, gput_c (by omega), gput_d, gput_c (by omega), garr_cp e8, nI_1, Nat.add_assoc]
        have HL9 : gMod h5 (((rX8_isThrough_0 M).arr 4 (gCpy ((rX8_isThrough_0 M).a 4) (160 + q) ((rX8_isThrough_0 M).a 13) 3 (j + 1))).put 4 8 (nI (q + (j + 1)))) := by rw [← e9]; exact HL5
        refine g_goto (q := 61) C dX8_takes_132 (by decide) ?_
        exact ih (j + 1) (by omega) _ HL9 (gFM.trans (gFM.trans frz fr4) fr5)
    exact LL (min c (60 - q)) 0 (by omega) _ HL8 fr1
    
  refine g_bipush (v := 16) (q := 2) C dX8_takes_0 (by decide) rfl ?_
  refine g_iload_n (q := 3) C dX8_takes_2 rfl rfl ?_
  refine g_imul (q := 4) C dX8_takes_3 rfl ?_
  refine g_istore_n (q := 5) C dX8_takes_4 (Nat.le_of_ble_eq_true rfl) (by simp only [gset]; rfl) rfl ?_
  refine g_aload_n (q := 6) C dX8_takes_5 rfl rfl ?_
  refine g_getfield (v := .ref 136) (q := 9) C fX8_54 dX8_takes_6 rfl HM.1 rfl ?_
  refine g_iconst (v := 1) (q := 10) C dX8_takes_9 (by decide) rfl ?_
  refine g_ialoadN (x := (M.a 13 1)) (j := 1) (q := 11) C dX8_takes_10 rfl (HM.ar (i := 13) (n := 260) (by decide) rfl) (pk_in 1 260 (by decide)) (pk_cl 1) rfl ?_
  refine g_bipush (v := 64) (q := 13) C dX8_takes_11 (by decide) rfl ?_
  refine g_iand (q := 14) C dX8_takes_13 rfl ?_
  refine g_bipush (v := 64) (q := 16) C dX8_takes_14 (by decide) rfl ?_
  refine g_aload_n (q := 17) C dX8_takes_16 rfl rfl ?_
  refine g_getfield (v := .ref 127) (q := 20) C fX8_22 dX8_takes_17 rfl HM.1 rfl ?_
  refine g_iload_n (q := 21) C dX8_takes_20 rfl rfl ?_
  refine g_iconst (v := 1) (q := 22) C dX8_takes_21 (by decide) rfl ?_
  refine g_iadd (q := 23) C dX8_takes_22 rfl ?_
  refine g_ialoadN (x := (M.a 4 1)) (j := 1) (q := 24) C dX8_takes_23 rfl (HM.ar (i := 4) (n := 772) (by decide) rfl) (pk_in 1 772 (by decide)) (pk_cl 1) rfl ?_
  refine g_imul (q := 25) C dX8_takes_24 rfl ?_
  refine g_icmp_ne (t := 52) (q := 28) C dX8_takes_25 (by decide) rfl (fun c_25 => ?_) (fun c_25 => ?_)
  ·
    refine g_iconst (v := 0) (q := 53) C dX8_takes_52 (by decide) rfl ?_
    have e : rX8_takes_0 M = (0, M) := (if_neg c_25)
    exact E.1 _ _ _ _ _ _ _ dX8_takes_53 rfl rfl (Nat.le_of_ble_eq_true rfl) (Nat.le_of_ble_eq_true rfl) ⟨by rw [e], by rw [e]; exact ⟨HM, gFM.rf⟩⟩
  ·
    refine g_aload_n (q := 29) C dX8_takes_28 rfl rfl ?_
    refine g_getfield (v := .ref 127) (q := 32) C fX8_22 dX8_takes_29 rfl HM.1 rfl ?_
    refine g_iload_n (q := 33) C dX8_takes_32 rfl rfl ?_
    refine g_iconst (v := 5) (q := 34) C dX8_takes_33 (by decide) rfl ?_
    refine g_iadd (q := 35) C dX8_takes_34 rfl ?_
    refine g_ialoadN (x := (M.a 4 5)) (j := 5) (q := 36) C dX8_takes_35 rfl (HM.ar (i := 4) (n := 772) (by decide) rfl) (pk_in 5 772 (by decide)) (pk_cl 5) rfl ?_
    refine g_if_lt (t := 54) (q := 39) C dX8_takes_36 (by decide) rfl (fun c_36 => ?_) (fun c_36 => ?_)
    ·
      exact K ((if_pos c_25).trans (if_pos c_36))
    ·
      refine g_aload_n (q := 40) C dX8_takes_39 rfl rfl ?_
      refine g_getfield (v := .ref 127) (q := 43) C fX8_22 dX8_takes_40 rfl HM.1 rfl ?_
      refine g_iload_n (q := 44) C dX8_takes_43 rfl rfl ?_
      refine g_bipush (v := 6) (q := 46) C dX8_takes_44 (by decide) rfl ?_
      refine g_iadd (q := 47) C dX8_takes_46 rfl ?_
      refine g_ialoadN (x := (M.a 4 6)) (j := 6) (q := 48) C dX8_takes_47 rfl (HM.ar (i := 4) (n := 772) (by decide) rfl) (pk_in 6 772 (by decide)) (pk_cl 6) rfl ?_
      refine g_iconst (v := 1) (q := 49) C dX8_takes_48 (by decide) rfl ?_
      refine g_icmp_ne (t := 54) (q := 52) C dX8_takes_49 (by decide) rfl (fun c_49 => ?_) (fun c_49 => ?_)
      ·
        exact K ((if_pos c_25).trans ((if_neg c_36).trans (if_neg c_49)))
      ·
        refine g_iconst (v := 0) (q := 53) C dX8_takes_52 (by decide) rfl ?_
        have e : rX8_takes_0 M = (0, M) := ((if_pos c_25).trans ((if_neg c_36).trans (if_pos c_49)))
        exact E.1 _ _ _ _ _ _ _ dX8_takes_53 rfl rfl (Nat.le_of_ble_eq_true rfl) (Nat.le_of_ble_eq_true rfl) ⟨by rw [e], by rw [e]; exact ⟨HM, gFM.rf⟩⟩
def rX8_takes_1 (M : gMd) : Int32 × gMd := (if ((M.a 13 1) &&& 64) = (64 * (M.a 4 17)) then (if (M.a 4 21) < 0 then (1, ((((rX8_isThrough_1 M).arr 4 (gCpy ((rX8_isThrough_1 M).a 4) (224 + ((rX8_isThrough_1 M).a 4 24).toNatClampNeg) ((rX8_isThrough_1 M).a 13) 3 (min (((rX8_isThrough_1 M).a 13 2).toNatClampNeg) (60 - ((rX8_isThrough_1 M).a 4 24).toNatClampNeg)))).put 4 24 (nI (((rX8_isThrough_1 M).a 4 24).toNatClampNeg + (min (((rX8_isThrough_1 M).a 13 2).toNatClampNeg) (60 - ((rX8_isThrough_1 M).a 4 24).toNatClampNeg))))).put 4 17 (1 - (((rX8_isThrough_1 M).arr 4 (gCpy ((rX8_isThrough_1 M).a 4) (224 + ((rX8_isThrough_1 M).a 4 24).toNatClampNeg) ((rX8_isThrough_1 M).a 13) 3 (min (((rX8_isThrough_1 M).a 13 2).toNatClampNeg) (60 - ((rX8_isThrough_1 M).a 4 24).toNatClampNeg)))).a 4 17)))) else (if (M.a 4 22) = 1 then (0, M) else (1, ((((rX8_isThrough_1 M).arr 4 (gCpy ((rX8_isThrough_1 M).a 4) (224 + ((rX8_isThrough_1 M).a 4 24).toNatClampNeg) ((rX8_isThrough_1 M).a 13) 3 (min (((rX8_isThrough_1 M).a 13 2).toNatClampNeg) (60 - ((rX8_isThrough_1 M).a 4 24).toNatClampNeg)))).put 4 24 (nI (((rX8_isThrough_1 M).a 4 24).toNatClampNeg + (min (((rX8_isThrough_1 M).a 13 2).toNatClampNeg) (60 - ((rX8_isThrough_1 M).a 4 24).toNatClampNeg))))).put 4 17 (1 - (((rX8_isThrough_1 M).arr 4 (gCpy ((rX8_isThrough_1 M).a 4) (224 + ((rX8_isThrough_1 M).a 4 24).toNatClampNeg) ((rX8_isThrough_1 M).a 13) 3 (min (((rX8_isThrough_1 M).a 13 2).toNatClampNeg) (60 - ((rX8_isThrough_1 M).a 4 24).toNatClampNeg)))).a 4 17)))))) else (0, M))
set_option maxRecDepth 100000 in
set_option maxHeartbeats 4000000 in
theorem c_X8_takes_1_m {hp : List gA} {M : gMd}  (HM : gMod hp M) (hin : gIr ((rX8_isThrough_1 M).a 4 24) 60) (hcm : gIr ((rX8_isThrough_1 M).a 13 2) 60) : gM yX8_takes cX8_takes 4 ((some .boolean)) 1 22 [.ref 122, .int 1] (hp) (0) (0) (fun v h => v = some (.int (rX8_takes_1 M).1) ∧ (gMod h (rX8_takes_1 M).2 ∧ gFM hp h)) := by
  refine gM_of (ls0 := [some (.ref 122), some (.int 1), none, none]) (by decide +kernel) (Nat.le_of_ble_eq_true rfl) rfl fun X C E => ?_
  obtain ⟨q, hq, eq⟩ : ∃ q, q ≤ 60 ∧ (rX8_isThrough_1 M).a 4 24 = nI q := hin
  obtain ⟨c, hc, ec⟩ : ∃ c, c ≤ 60 ∧ (rX8_isThrough_1 M).a 13 2 = nI c := hcm
  have e0 : rX8_takes_1 M = rX8_takes_1 M := rfl
  have K : rX8_takes_1 M = (1, ((((rX8_isThrough_1 M).arr 4 (gCpy ((rX8_isThrough_1 M).a 4) (224 + ((rX8_isThrough_1 M).a 4 24).toNatClampNeg) ((rX8_isThrough_1 M).a 13) 3 (min (((rX8_isThrough_1 M).a 13 2).toNatClampNeg) (60 - ((rX8_isThrough_1 M).a 4 24).toNatClampNeg)))).put 4 24 (nI (((rX8_isThrough_1 M).a 4 24).toNatClampNeg + (min (((rX8_isThrough_1 M).a 13 2).toNatClampNeg) (60 - ((rX8_isThrough_1 M).a 4 24).toNatClampNeg))))).put 4 17 (1 - (((rX8_isThrough_1 M).arr 4 (gCpy ((rX8_isThrough_1 M).a 4) (224 + ((rX8_isThrough_1 M).a 4 24).toNatClampNeg) ((rX8_isThrough_1 M).a 13) 3 (min (((rX8_isThrough_1 M).a 13 2).toNatClampNeg) (60 - ((rX8_isThrough_1 M).a 4 24).toNatClampNeg)))).a 4 17)))) → gG X 54 [some (.ref 122), some (.int 1), some (.int 16), none] [] hp 0 0 := by
    intro e
    rw [show ((rX8_isThrough_1 M).a 4 24).toNatClampNeg = q by rw [eq, nI_clamp (by omega)], show ((rX8_isThrough_1 M).a 13 2).toNatClampNeg = c by rw [ec, nI_clamp (by omega)]] at e
    refine g_aload_n (q := 55) C dX8_takes_54 rfl rfl ?_
    refine g_iload_n (q := 56) C dX8_takes_55 rfl rfl ?_
    refine g_callVvp (q := 59) (As := [.int 1]) C gyX8_isThrough gvX8_isThrough t_1384 (c_X8_isThrough_1_m HM) dX8_takes_56 rfl HM.1 rfl rfl rfl (Nat.le_of_ble_eq_true rfl) (Nat.le_of_ble_eq_true rfl) (Nat.le_of_ble_eq_true rfl) (Nat.le_of_ble_eq_true rfl) (Nat.le_of_ble_eq_true rfl) rfl (fun h1 z1 => ?_)
    obtain ⟨HL1, fr1⟩ := z1
    refine g_iconst (v := 0) (q := 60) C dX8_takes_59 (by decide) rfl ?_
    refine g_istore_n (q := 61) C dX8_takes_60 (Nat.le_of_ble_eq_true rfl) (by simp only [gset]; rfl) rfl ?_
    have HL8 : gMod h1 (((rX8_isThrough_1 M).arr 4 (gCpy ((rX8_isThrough_1 M).a 4) (224 + q) ((rX8_isThrough_1 M).a 13) 3 0)).put 4 24 (nI (q + 0))) := by
      have e8 : (rX8_isThrough_1 M).put 4 24 (nI (q + 0)) = (rX8_isThrough_1 M) := by rw [Nat.add_zero, ← eq]; exact gput_id
      rw [gCpy_0, garr_id, e8]; exact HL1
    have LL : ∀ d j : Nat, j + d = min c (60 - q) → ∀ hz : List gA, gMod hz (((rX8_isThrough_1 M).arr 4 (gCpy ((rX8_isThrough_1 M).a 4) (224 + q) ((rX8_isThrough_1 M).a 13) 3 j)).put 4 24 (nI (q + j))) → gFM hp hz → gG X 61 [some (.ref 122), some (.int 1), some (.int 16), some (.int ((nI j)))] [] hz 0 0 := by
      intro d
      induction d with
      | zero =>
        intro j hj hz HZ frz
        obtain rfl : min c (60 - q) = j := by omega
        by_cases hx : c ≤ 60 - q
        · have hm : min c (60 - q) = c := by omega
          refine g_iload_n (q := 62) C dX8_takes_61 rfl rfl ?_
          refine g_aload_n (q := 63) C dX8_takes_62 rfl rfl ?_
          refine g_getfield (v := .ref 136) (q := 66) C fX8_54 dX8_takes_63 rfl HZ.1 rfl ?_
          refine g_iconst (v := 2) (q := 67) C dX8_takes_66 (by decide) rfl ?_
          refine g_ialoadN (x := (((rX8_isThrough_1 M).arr 4 (gCpy ((rX8_isThrough_1 M).a 4) (224 + q) ((rX8_isThrough_1 M).a 13) 3 (min c (60 - q)))).a 13 2)) (j := 2) (q := 68) C dX8_takes_67 rfl (HZ.ar (i := 13) (n := 260) (by decide) rfl) (pk_in 2 260 (by decide)) (pk_cl 2) (gput_o (by decide)) ?_
          rw [show (((rX8_isThrough_1 M).arr 4 (gCpy ((rX8_isThrough_1 M).a 4) (224 + q) ((rX8_isThrough_1 M).a 13) 3 (min c (60 - q)))).a 13 2) = nI c from (garr_o (by decide)).trans ec]
          refine g_icmp_ge_t (t := 135) C dX8_takes_68 (by decide) (nI_le (by omega) (by omega)) ?_
          refine g_aload_n (q := 136) C dX8_takes_135 rfl rfl ?_
          refine g_getfield (v := .ref 127) (q := 139) C fX8_22 dX8_takes_136 rfl HZ.1 rfl ?_
          refine g_iload_n (q := 140) C dX8_takes_139 rfl rfl ?_
          refine g_iconst (v := 1) (q := 141) C dX8_takes_140 (by decide) rfl ?_
          refine g_iadd (q := 142) C dX8_takes_141 rfl ?_
          refine g_iconst (v := 1) (q := 143) C dX8_takes_142 (by decide) rfl ?_
          refine g_aload_n (q := 144) C dX8_takes_143 rfl rfl ?_
          refine g_getfield (v := .ref 127) (q := 147) C fX8_22 dX8_takes_144 rfl HZ.1 rfl ?_
          refine g_iload_n (q := 148) C dX8_takes_147 rfl rfl ?_
          refine g_iconst (v := 1) (q := 149) C dX8_takes_148 (by decide) rfl ?_
          refine g_iadd (q := 150) C dX8_takes_149 rfl ?_
          refine g_ialoadN (x := (((rX8_isThrough_1 M).arr 4 (gCpy ((rX8_isThrough_1 M).a 4) (224 + q) ((rX8_isThrough_1 M).a 13) 3 (min c (60 - q)))).a 4 17)) (j := 17) (q := 151) C dX8_takes_150 rfl (HZ.ar (i := 4) (n := 772) (by decide) rfl) (pk_in 17 772 (by decide)) (pk_cl 17) (gput_n (by decide)) ?_
          refine g_isub (q := 152) C dX8_takes_151 rfl ?_
          refine g_iastoreN (j := 17) (q := 153) C dX8_takes_152 rfl (HZ.ar (i := 4) (n := 772) (by decide) rfl) (pk_in 17 772 (by decide)) (pk_cl 17) ?_
          refine gMsto (i := 4) (j := 17) (x := (1 - (((rX8_isThrough_1 M).arr 4 (gCpy ((rX8_isThrough_1 M).a 4) (224 + q) ((rX8_isThrough_1 M).a 13) 3 (min c (60 - q)))).a 4 17))) HZ (by decide) rfl rfl fun h2 HL2 fr2 => ?_
          refine g_iconst (v := 1) (q := 154) C dX8_takes_153 (by decide) rfl ?_
          exact E.1 _ _ _ _ _ _ _ dX8_takes_154 rfl rfl (Nat.le_of_ble_eq_true rfl) (Nat.le_of_ble_eq_true rfl) ⟨by rw [e], by rw [e]; exact ⟨HL2, (gFM.trans frz fr2)⟩⟩
        ·
          refine g_iload_n (q := 62) C dX8_takes_61 rfl rfl ?_
          refine g_aload_n (q := 63) C dX8_takes_62 rfl rfl ?_
          refine g_getfield (v := .ref 136) (q := 66) C fX8_54 dX8_takes_63 rfl HZ.1 rfl ?_
          refine g_iconst (v := 2) (q := 67) C dX8_takes_66 (by decide) rfl ?_
          refine g_ialoadN (x := (((rX8_isThrough_1 M).arr 4 (gCpy ((rX8_isThrough_1 M).a 4) (224 + q) ((rX8_isThrough_1 M).a 13) 3 (min c (60 - q)))).a 13 2)) (j := 2) (q := 68) C dX8_takes_67 rfl (HZ.ar (i := 13) (n := 260) (by decide) rfl) (pk_in 2 260 (by decide)) (pk_cl 2) (gput_o (by decide)) ?_
          rw [show (((rX8_isThrough_1 M).arr 4 (gCpy ((rX8_isThrough_1 M).a 4) (224 + q) ((rX8_isThrough_1 M).a 13) 3 (min c (60 - q)))).a 13 2) = nI c from (garr_o (by decide)).trans ec]
          refine g_icmp_ge_f (t := 135) (q := 71) C dX8_takes_68 (by decide) rfl (fun h => nI_ge (show min c (60 - q) < c by omega) (by omega) h) ?_
          refine g_aload_n (q := 72) C dX8_takes_71 rfl rfl ?_
          refine g_getfield (v := .ref 127) (q := 75) C fX8_22 dX8_takes_72 rfl HZ.1 rfl ?_
          refine g_iload_n (q := 76) C dX8_takes_75 rfl rfl ?_
          refine g_bipush (v := 8) (q := 78) C dX8_takes_76 (by decide) rfl ?_
          refine g_iadd (q := 79) C dX8_takes_78 rfl ?_
          refine g_ialoadN (x := (nI (q + (min c (60 - q))))) (j := 24) (q := 80) C dX8_takes_79 rfl (HZ.ar (i := 4) (n := 772) (by decide) rfl) (pk_in 24 772 (by decide)) (pk_cl 24) gput_s ?_
          refine g_bipush (v := 60) (q := 82) C dX8_takes_80 (by decide) rfl ?_
          refine g_icmp_ge_t (t := 135) C dX8_takes_82 (by decide) (nI_le (a := 60) (show 60 ≤ q + min c (60 - q) by omega) (by omega)) ?_
          refine g_aload_n (q := 136) C dX8_takes_135 rfl rfl ?_
          refine g_getfield (v := .ref 127) (q := 139) C fX8_22 dX8_takes_136 rfl HZ.1 rfl ?_
          refine g_iload_n (q := 140) C dX8_takes_139 rfl rfl ?_
          refine g_iconst (v := 1) (q := 141) C dX8_takes_140 (by decide) rfl ?_
          refine g_iadd (q := 142) C dX8_takes_141 rfl ?_
          refine g_iconst (v := 1) (q := 143) C dX8_takes_142 (by decide) rfl ?_
          refine g_aload_n (q := 144) C dX8_takes_143 rfl rfl ?_
          refine g_getfield (v := .ref 127) (q := 147) C fX8_22 dX8_takes_144 rfl HZ.1 rfl ?_
          refine g_iload_n (q := 148) C dX8_takes_147 rfl rfl ?_
          refine g_iconst (v := 1) (q := 149) C dX8_takes_148 (by decide) rfl ?_
          refine g_iadd (q := 150) C dX8_takes_149 rfl ?_
          refine g_ialoadN (x := (((rX8_isThrough_1 M).arr 4 (gCpy ((rX8_isThrough_1 M).a 4) (224 + q) ((rX8_isThrough_1 M).a 13) 3 (min c (60 - q)))).a 4 17)) (j := 17) (q := 151) C dX8_takes_150 rfl (HZ.ar (i := 4) (n := 772) (by decide) rfl) (pk_in 17 772 (by decide)) (pk_cl 17) (gput_n (by decide)) ?_
          refine g_isub (q := 152) C dX8_takes_151 rfl ?_
          refine g_iastoreN (j := 17) (q := 153) C dX8_takes_152 rfl (HZ.ar (i := 4) (n := 772) (by decide) rfl) (pk_in 17 772 (by decide)) (pk_cl 17) ?_
          refine gMsto (i := 4) (j := 17) (x := (1 - (((rX8_isThrough_1 M).arr 4 (gCpy ((rX8_isThrough_1 M).a 4) (224 + q) ((rX8_isThrough_1 M).a 13) 3 (min c (60 - q)))).a 4 17))) HZ (by decide) rfl rfl fun h3 HL3 fr3 => ?_
          refine g_iconst (v := 1) (q := 154) C dX8_takes_153 (by decide) rfl ?_
          exact E.1 _ _ _ _ _ _ _ dX8_takes_154 rfl rfl (Nat.le_of_ble_eq_true rfl) (Nat.le_of_ble_eq_true rfl) ⟨by rw [e], by rw [e]; exact ⟨HL3, (gFM.trans frz fr3)⟩⟩
      | succ d ih =>
        intro j hj hz HZ frz
        refine g_iload_n (q := 62) C dX8_takes_61 rfl rfl ?_
        refine g_aload_n (q := 63) C dX8_takes_62 rfl rfl ?_
        refine g_getfield (v := .ref 136) (q := 66) C fX8_54 dX8_takes_63 rfl HZ.1 rfl ?_
        refine g_iconst (v := 2) (q := 67) C dX8_takes_66 (by decide) rfl ?_
        refine g_ialoadN (x := (((rX8_isThrough_1 M).arr 4 (gCpy ((rX8_isThrough_1 M).a 4) (224 + q) ((rX8_isThrough_1 M).a 13) 3 j)).a 13 2)) (j := 2) (q := 68) C dX8_takes_67 rfl (HZ.ar (i := 13) (n := 260) (by decide) rfl) (pk_in 2 260 (by decide)) (pk_cl 2) (gput_o (by decide)) ?_
        rw [show (((rX8_isThrough_1 M).arr 4 (gCpy ((rX8_isThrough_1 M).a 4) (224 + q) ((rX8_isThrough_1 M).a 13) 3 j)).a 13 2) = nI c from (garr_o (by decide)).trans ec]
        refine g_icmp_ge_f (t := 135) (q := 71) C dX8_takes_68 (by decide) rfl (fun h => nI_ge (show j < c by omega) (by omega) h) ?_
        refine g_aload_n (q := 72) C dX8_takes_71 rfl rfl ?_
        refine g_getfield (v := .ref 127) (q := 75) C fX8_22 dX8_takes_72 rfl HZ.1 rfl ?_
        refine g_iload_n (q := 76) C dX8_takes_75 rfl rfl ?_
        refine g_bipush (v := 8) (q := 78) C dX8_takes_76 (by decide) rfl ?_
        refine g_iadd (q := 79) C dX8_takes_78 rfl ?_
        refine g_ialoadN (x := (nI (q + j))) (j := 24) (q := 80) C dX8_takes_79 rfl (HZ.ar (i := 4) (n := 772) (by decide) rfl) (pk_in 24 772 (by decide)) (pk_cl 24) gput_s ?_
        refine g_bipush (v := 60) (q := 82) C dX8_takes_80 (by decide) rfl ?_
        refine g_icmp_ge_f (t := 135) (q := 85) C dX8_takes_82 (by decide) rfl (fun h => nI_ge (show q + j < 60 by omega) (by decide) h) ?_
        refine g_aload_n (q := 86) C dX8_takes_85 rfl rfl ?_
        refine g_getfield (v := .ref 127) (q := 89) C fX8_22 dX8_takes_86 rfl HZ.1 rfl ?_
        refine g_sipush (v := 160) (q := 92) C dX8_takes_89 (by decide) rfl ?_
        refine g_bipush (v := 64) (q := 94) C dX8_takes_92 (by decide) rfl ?_
        refine g_iload_n (q := 95) C dX8_takes_94 rfl rfl ?_
        refine g_imul (q := 96) C dX8_takes_95 rfl ?_
        refine g_iadd (q := 97) C dX8_takes_96 rfl ?_
        refine g_aload_n (q := 98) C dX8_takes_97 rfl rfl ?_
        refine g_getfield (v := .ref 127) (q := 101) C fX8_22 dX8_takes_98 rfl HZ.1 rfl ?_
        refine g_iload_n (q := 102) C dX8_takes_101 rfl rfl ?_
        refine g_bipush (v := 8) (q := 104) C dX8_takes_102 (by decide) rfl ?_
        refine g_iadd (q := 105) C dX8_takes_104 rfl ?_
        refine g_ialoadN (x := (nI (q + j))) (j := 24) (q := 106) C dX8_takes_105 rfl (HZ.ar (i := 4) (n := 772) (by decide) rfl) (pk_in 24 772 (by decide)) (pk_cl 24) gput_s ?_
        refine g_iadd (q := 107) C dX8_takes_106 rfl ?_
        rw [show (160 : Int32) + 64 * 1 + nI (q + j) = nI (224 + q + j) from by rw [show (160 : Int32) + 64 * 1 = nI 224 from rfl, nI_add, Nat.add_assoc]]
        refine g_aload_n (q := 108) C dX8_takes_107 rfl rfl ?_
        refine g_getfield (v := .ref 136) (q := 111) C fX8_54 dX8_takes_108 rfl HZ.1 rfl ?_
        refine g_iconst (v := 3) (q := 112) C dX8_takes_111 (by decide) rfl ?_
        refine g_iload_n (q := 113) C dX8_takes_112 rfl rfl ?_
        refine g_iadd (q := 114) C dX8_takes_113 rfl ?_
        refine g_ialoadN (x := (((rX8_isThrough_1 M).arr 4 (gCpy ((rX8_isThrough_1 M).a 4) (224 + q) ((rX8_isThrough_1 M).a 13) 3 j)).a 13 (3 + j))) (j := (3 + j)) (q := 115) C dX8_takes_114 rfl (HZ.ar (i := 13) (n := 260) (by decide) rfl) (pk_in (3 + j) 260 (by omega) (nI_add 3 j)) (pk_cl (3 + j) (nI_add 3 j) (by omega)) (gput_o (by decide)) ?_
        refine g_iastoreN (j := (224 + q + j)) (q := 116) C dX8_takes_115 rfl (HZ.ar (i := 4) (n := 772) (by decide) rfl) (pk_in (224 + q + j) 772 (by omega)) (pk_cl (224 + q + j) rfl (by omega)) ?_
        refine gMsto (i := 4) (j := (224 + q + j)) (x := (((rX8_isThrough_1 M).arr 4 (gCpy ((rX8_isThrough_1 M).a 4) (224 + q) ((rX8_isThrough_1 M).a 13) 3 j)).a 13 (3 + j))) HZ (by decide) rfl rfl fun h4 HL4 fr4 => ?_
        refine g_aload_n (q := 117) C dX8_takes_116 rfl rfl ?_
        refine g_getfield (v := .ref 127) (q := 120) C fX8_22 dX8_takes_117 rfl HL4.1 rfl ?_
        refine g_iload_n (q := 121) C dX8_takes_120 rfl rfl ?_
        refine g_bipush (v := 8) (q := 123) C dX8_takes_121 (by decide) rfl ?_
        refine g_iadd (q := 124) C dX8_takes_123 rfl ?_
        refine g_dup2 (q := 125) C dX8_takes_124 rfl rfl rfl ?_
        refine g_ialoadN (x := (((((rX8_isThrough_1 M).arr 4 (gCpy ((rX8_isThrough_1 M).a 4) (224 + q) ((rX8_isThrough_1 M).a 13) 3 j)).put 4 24 (nI (q + j))).put 4 (224 + q + j) (((rX8_isThrough_1 M).arr 4 (gCpy ((rX8_isThrough_1 M).a 4) (224 + q) ((rX8_isThrough_1 M).a 13) 3 j)).a 13 (3 + j))).a 4 24)) (j := 24) (q := 126) C dX8_takes_125 rfl (HL4.ar (i := 4) (n := 772) (by decide) rfl) (pk_in 24 772 (by decide)) (pk_cl 24) rfl ?_
        refine g_iconst (v := 1) (q := 127) C dX8_takes_126 (by decide) rfl ?_
        refine g_iadd (q := 128) C dX8_takes_127 rfl ?_
        refine g_iastoreN (j := 24) (q := 129) C dX8_takes_128 rfl (HL4.ar (i := 4) (n := 772) (by decide) rfl) (pk_in 24 772 (by decide)) (pk_cl 24) ?_
        refine gMsto (i := 4) (j := 24) (x := ((((((rX8_isThrough_1 M).arr 4 (gCpy ((rX8_isThrough_1 M).a 4) (224 + q) ((rX8_isThrough_1 M).a 13) 3 j)).put 4 24 (nI (q + j))).put 4 (224 + q + j) (((rX8_isThrough_1 M).arr 4 (gCpy ((rX8_isThrough_1 M).a 4) (224 + q) ((rX8_isThrough_1 M).a 13) 3 j)).a 13 (3 + j))).a 4 24) + 1)) HL4 (by decide) rfl rfl fun h5 HL5 fr5 => ?_
        refine g_iinc (v := (nI (j + 1))) (q := 132) C dX8_takes_129 rfl (nI_1 j) (by simp only [gset]; rfl) rfl ?_
        have e8 : (((rX8_isThrough_1 M).arr 4 (gCpy ((rX8_isThrough_1 M).a 4) (224 + q) ((rX8_isThrough_1 M).a 13) 3 j)).a 13 (3 + j)) = (rX8_isThrough_1 M).a 13 (3 + j) := garr_o (by decide)
        have e7 : ((((rX8_isThrough_1 M).arr 4 (gCpy ((rX8_isThrough_1 M).a 4) (224 + q) ((rX8_isThrough_1 M).a 13) 3 j)).put 4 24 (nI (q + j))).put 4 (224 + q + j) (((rX8_isThrough_1 M).arr 4 (gCpy ((rX8_isThrough_1 M).a 4) (224 + q) ((rX8_isThrough_1 M).a 13) 3 j)).a 13 (3 + j))).a 4 24 = nI (q + j) := (gput_n (by omega)).trans gput_s
        have e9 : (((((rX8_isThrough_1 M).arr 4 (gCpy ((rX8_isThrough_1 M).a 4) (224 + q) ((rX8_isThrough_1 M).a 13) 3 j)).put 4 24 (nI (q + j))).put 4 (224 + q + j) (((rX8_isThrough_1 M).arr 4 (gCpy ((rX8_isThrough_1 M).a 4) (224 + q) ((rX8_isThrough_1 M).a 13) 3 j)).a 13 (3 + j))).put 4 24 ((((((rX8_isThrough_1 M).arr 4 (gCpy ((rX8_isThrough_1 M).a 4) (224 + q) ((rX8_isThrough_1 M).a 13) 3 j)).put 4 24 (nI (q + j))).put 4 (224 + q + j) (((rX8_isThrough_1 M).arr 4 (gCpy ((rX8_isThrough_1 M).a 4) (224 + q) ((rX8_isThrough_1 M).a 13) 3 j)).a 13 (3 + j))).a 4 24) + 1)) = (((rX8_isThrough_1 M).arr 4 (gCpy ((rX8_isThrough_1 M).a 4) (224 + q) ((rX8_isThrough_1 M).a 13) 3 (j + 1))).put 4 24 (nI (q + (j + 1)))) := by
          rw [e7, gput_c (by omega), gput_d, gput_c (by omega), garr_cp e8, nI_1, Nat.add_assoc]
        have HL9 : gMod h5 (((rX8_isThrough_1 M).arr 4 (gCpy ((rX8_isThrough_1 M).a 4) (224 + q) ((rX8_isThrough_1 M).a 13) 3 (j + 1))).put 4 24 (nI (q + (j + 1)))) := by rw [← e9]; exact HL5
        refine g_goto (q := 61) C dX8_takes_132 (by decide) ?_
        exact ih (j + 1) (by omega) _ HL9 (gFM.trans (gFM.trans frz fr4) fr5)
    exact LL (min c (60 - q)) 0 (by omega) _ HL8 fr1
    
  refine g_bipush (v := 16) (q := 2) C dX8_takes_0 (by decide) rfl ?_
  refine g_iload_n (q := 3) C dX8_takes_2 rfl rfl ?_
  refine g_imul (q := 4) C dX8_takes_3 rfl ?_
  refine g_istore_n (q := 5) C dX8_takes_4 (Nat.le_of_ble_eq_true rfl) (by simp only [gset]; rfl) rfl ?_
  refine g_aload_n (q := 6) C dX8_takes_5 rfl rfl ?_
  refine g_getfield (v := .ref 136) (q := 9) C fX8_54 dX8_takes_6 rfl HM.1 rfl ?_
  refine g_iconst (v := 1) (q := 10) C dX8_takes_9 (by decide) rfl ?_
  refine g_ialoadN (x := (M.a 13 1)) (j := 1) (q := 11) C dX8_takes_10 rfl (HM.ar (i := 13) (n := 260) (by decide) rfl) (pk_in 1 260 (by decide)) (pk_cl 1) rfl ?_
  refine g_bipush (v := 64) (q := 13) C dX8_takes_11 (by decide) rfl ?_
  refine g_iand (q := 14) C dX8_takes_13 rfl ?_
  refine g_bipush (v := 64) (q := 16) C dX8_takes_14 (by decide) rfl ?_
  refine g_aload_n (q := 17) C dX8_takes_16 rfl rfl ?_
  refine g_getfield (v := .ref 127) (q := 20) C fX8_22 dX8_takes_17 rfl HM.1 rfl ?_
  refine g_iload_n (q := 21) C dX8_takes_20 rfl rfl ?_
  refine g_iconst (v := 1) (q := 22) C dX8_takes_21 (by decide) rfl ?_
  refine g_iadd (q := 23) C dX8_takes_22 rfl ?_
  refine g_ialoadN (x := (M.a 4 17)) (j := 17) (q := 24) C dX8_takes_23 rfl (HM.ar (i := 4) (n := 772) (by decide) rfl) (pk_in 17 772 (by decide)) (pk_cl 17) rfl ?_
  refine g_imul (q := 25) C dX8_takes_24 rfl ?_
  refine g_icmp_ne (t := 52) (q := 28) C dX8_takes_25 (by decide) rfl (fun c_25 => ?_) (fun c_25 => ?_)
  ·
    refine g_iconst (v := 0) (q := 53) C dX8_takes_52 (by decide) rfl ?_
    have e : rX8_takes_1 M = (0, M) := (if_neg c_25)
    exact E.1 _ _ _ _ _ _ _ dX8_takes_53 rfl rfl (Nat.le_of_ble_eq_true rfl) (Nat.le_of_ble_eq_true rfl) ⟨by rw [e], by rw [e]; exact ⟨HM, gFM.rf⟩⟩
  ·
    refine g_aload_n (q := 29) C dX8_takes_28 rfl rfl ?_
    refine g_getfield (v := .ref 127) (q := 32) C fX8_22 dX8_takes_29 rfl HM.1 rfl ?_
    refine g_iload_n (q := 33) C dX8_takes_32 rfl rfl ?_
    refine g_iconst (v := 5) (q := 34) C dX8_takes_33 (by decide) rfl ?_
    refine g_iadd (q := 35) C dX8_takes_34 rfl ?_
    refine g_ialoadN (x := (M.a 4 21)) (j := 21) (q := 36) C dX8_takes_35 rfl (HM.ar (i := 4) (n := 772) (by decide) rfl) (pk_in 21 772 (by decide)) (pk_cl 21) rfl ?_
    refine g_if_lt (t := 54) (q := 39) C dX8_takes_36 (by decide) rfl (fun c_36 => ?_) (fun c_36 => ?_)
    ·
      exact K ((if_pos c_25).trans (if_pos c_36))
    ·
      refine g_aload_n (q := 40) C dX8_takes_39 rfl rfl ?_
      refine g_getfield (v := .ref 127) (q := 43) C fX8_22 dX8_takes_40 rfl HM.1 rfl ?_
      refine g_iload_n (q := 44) C dX8_takes_43 rfl rfl ?_
      refine g_bipush (v := 6) (q := 46) C dX8_takes_44 (by decide) rfl ?_
      refine g_iadd (q := 47) C dX8_takes_46 rfl ?_
      refine g_ialoadN (x := (M.a 4 22)) (j := 22) (q := 48) C dX8_takes_47 rfl (HM.ar (i := 4) (n := 772) (by decide) rfl) (pk_in 22 772 (by decide)) (pk_cl 22) rfl ?_
      refine g_iconst (v := 1) (q := 49) C dX8_takes_48 (by decide) rfl ?_
      refine g_icmp_ne (t := 54) (q := 52) C dX8_takes_49 (by decide) rfl (fun c_49 => ?_) (fun c_49 => ?_)
      ·
        exact K ((if_pos c_25).trans ((if_neg c_36).trans (if_neg c_49)))
      ·
        refine g_iconst (v := 0) (q := 53) C dX8_takes_52 (by decide) rfl ?_
        have e : rX8_takes_1 M = (0, M) := ((if_pos c_25).trans ((if_neg c_36).trans (if_pos c_49)))
        exact E.1 _ _ _ _ _ _ _ dX8_takes_53 rfl rfl (Nat.le_of_ble_eq_true rfl) (Nat.le_of_ble_eq_true rfl) ⟨by rw [e], by rw [e]; exact ⟨HM, gFM.rf⟩⟩
