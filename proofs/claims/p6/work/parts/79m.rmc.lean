section RM2
variable {t : List Int32} {M M' M1 E : gMd} {r : Int32 × rq} {x g y z : Int32} {q : rq}
theorem rL_0 {here : Int32} {k : Nat} (h : (rL t g here k r).1 = 0) : r.1 = 0 := by
  by_cases c : r.1 = 0
  · exact c
  · rw [rL_st c] at h; exact absurd h c
theorem rL_10 {here : Int32} {k : Nat} (hk : k < 3) (h : (rL t g here k r).1 = 0) : (rL t g here k r).2.f 10 = r.2.f 10 := by
  have h0 := rL_0 h
  have key : ∀ x, (rX3_readGroupByte r.2 g (nI k) x).2.f 10 = r.2.f 10 := fun x => by
    have : k = 0 ∨ k = 1 ∨ k = 2 := by omega
    rcases this with rfl | rfl | rfl
    · rw [rGb_0]; repeat' split
      all_goals rfl
    · rw [rGb_1]; repeat' split
      all_goals rfl
    · rw [rGb_2]; repeat' split
      all_goals rfl
  unfold rL
  rw [if_pos h0]
  repeat' split
  all_goals first | rfl | exact key _
theorem nL1.k : rK M (nL1 M y x) := by
  unfold nL1
  repeat' split
  all_goals first | exact rK.wr | exact rK.rf
theorem nL2.k : rK M (nL2 M y x) := by
  unfold nL2
  repeat' split
  all_goals first | exact rK.put.trans rK.wr | exact rK.wr | exact rK.put | exact rK.rf
theorem nF.k : rK M (nF M x) := by
  unfold nF
  repeat' split
  all_goals first | exact (rK.put.trans rK.put).trans rK.wr | exact rK.put.trans rK.put | exact rK.rf
theorem nW.k : rK M (nW M x) := by
  unfold nW
  repeat' split
  all_goals first | exact rK.wr.trans rK.put | exact rK.put | exact rK.rf
theorem nL1.f21 : (nL1 M y x).f 21 = M.f 21 := by
  unfold nL1
  repeat' split
  all_goals first | exact rWr.f (by decide) | rfl
theorem nL2.f21 : (nL2 M y x).f 21 = M.f 21 := by
  unfold nL2
  repeat' split
  all_goals first | rfl | exact rWr.f (by decide) | exact (rWr.f (by decide)).trans rfl
theorem nF.f21 : (nF M x).f 21 = M.f 21 := by
  unfold nF
  repeat' split
  all_goals first | rfl | exact rWr.f (by decide) | exact (rWr.f (by decide)).trans rfl
theorem nW.f21 : (nW M x).f 21 = M.f 21 := by
  unfold nW
  repeat' split
  all_goals first | rfl | exact (show _ = _ from rWr.f (by decide))
theorem rW22 {a b : Int32} (h : M.f 22 = 0) : (rX8_wrong M a b).f 22 = 8 * b + a := by rw [rWr0 h]; exact gset_s
theorem n0_4 : ¬ (4 : Int32) = 0 := by decide
theorem n0_5 : ¬ (5 : Int32) = 0 := by decide
theorem rl1 (T : rT t M) (H : rM t M r) (h : gBn M M' x) (hg : g = 1 → r.1 = 0 → r.2.f 10 = 0) : rM t (nL1 M' g x) (rLb t g 1 r) := by
  refine rFin T H h nL1.f21 (fun c => by unfold nL1; rw [if_neg c]) fun c Q e f _ => ?_
  have e23 : M'.f 23 = r.2.f 10 := by rw [e]; exact Q.2.1
  have e21 : M'.f 21 - 1 = r.2.f 8 := by rw [e]; show r.2.f 8 + 1 - 1 = _; exact rA1
  have QA : rQ M' (r.2.set 8 (r.2.f 8 + 1)) := by rw [e]; exact Q.at
  rw [rGb_1]
  unfold nL1
  rw [if_pos f]
  by_cases a : g = 1
  · have n : ¬ g = M'.f 23 := fun e9 => by rw [e23, hg a c, a] at e9; exact absurd e9 (by decide)
    rw [if_pos a, if_neg n]
    exact ⟨fun n => absurd rfl n, fun _ => ⟨f, QA⟩⟩
  · rw [if_neg a]
    by_cases b : g = r.2.f 10
    · rw [if_pos b, if_pos (b.trans e23.symm)]
      by_cases d : x >>> (4 &&& 31) ≤ 9
      · rw [if_pos d, if_pos d]; exact ⟨fun n => absurd rfl n, fun _ => ⟨f, QA⟩⟩
      · rw [if_neg d, if_neg d]; exact ⟨fun _ => by rw [rW22 f, e21], fun h => absurd h n0_5⟩
    · rw [if_neg b, if_neg (fun e9 => b (e9.trans e23))]
      exact ⟨fun n => absurd rfl n, fun _ => ⟨f, QA⟩⟩
theorem rl2 (T : rT t M) (H : rM t M r) (h : gBn M M' x) (hg : g = 1 → r.1 = 0 → r.2.f 10 = 0) : rM t (nL2 M' g x) (rLb t g 2 r) := by
  refine rFin T H h nL2.f21 (fun c => ?_) fun c Q e f _ => ?_
  · unfold nL2
    by_cases a : g = 1
    · rw [if_pos a, if_neg c]; rfl
    · rw [if_neg a, if_neg c]
  have e23 : M'.f 23 = r.2.f 10 := by rw [e]; exact Q.2.1
  have e21 : M'.f 21 - 1 = r.2.f 8 := by rw [e]; show r.2.f 8 + 1 - 1 = _; exact rA1
  have QA : rQ M' (r.2.set 8 (r.2.f 8 + 1)) := by rw [e]; exact Q.at
  rw [rGb_2]
  unfold nL2
  by_cases a : g = 1
  · have n : ¬ g = M'.f 23 := fun e9 => by rw [e23, hg a c, a] at e9; exact absurd e9 (by decide)
    rw [if_pos a, if_pos a, if_pos f, if_neg n]
    refine ⟨fun n => absurd rfl n, fun _ => ⟨f, ?_⟩⟩
    obtain ⟨a1, a2, a3, a4, a5, a6, a7, a8, a9, a10⟩ := QA
    exact ⟨a1, a2, a3, a4, a5, a6, rfl, a8, a9, a10⟩
  · rw [if_neg a, if_neg a, if_pos f]
    by_cases b : g = r.2.f 10
    · rw [if_pos b, if_pos (b.trans e23.symm)]
      by_cases d : x = 0
      · rw [if_pos d, if_pos d]; exact ⟨fun n => absurd rfl n, fun _ => ⟨f, QA⟩⟩
      · rw [if_neg d, if_neg d]; exact ⟨fun _ => by rw [rW22 f, e21], fun h => absurd h n0_5⟩
    · rw [if_neg b, if_neg (fun e9 => b (e9.trans e23))]
      exact ⟨fun n => absurd rfl n, fun _ => ⟨f, QA⟩⟩
theorem rl0f (T : rT t M) (H : rM t M r) (h : gBn M M' x) (hy : g = 1) : rM t (nF M' x) (rLb t g 0 r) := by
  refine rFin T H h nF.f21 (fun c => by unfold nF; rw [if_neg c]) fun c Q e f hx => ?_
  have e21 : M'.f 21 - 1 = r.2.f 8 := by rw [e]; show r.2.f 8 + 1 - 1 = _; exact rA1
  have QA : rQ M' (r.2.set 8 (r.2.f 8 + 1)) := by rw [e]; exact Q.at
  rw [rGb_0, if_pos hy]
  unfold nF
  rw [if_pos f, rClk hx, rBit hx]
  by_cases a : rX3_clockOf x = 0
  · rw [if_pos a, if_pos a]
    exact ⟨fun _ => by rw [rW22 (M := (M'.put 2 1 _).put 2 2 _) f, e21], fun h => absurd h n0_4⟩
  · rw [if_neg a, if_neg a]
    by_cases b : rX3_divisorOf x = 0
    · rw [if_pos b, if_pos b]
      exact ⟨fun _ => by rw [rW22 (M := (M'.put 2 1 _).put 2 2 _) f, e21], fun h => absurd h n0_4⟩
    · rw [if_neg b, if_neg b]
      refine ⟨fun n => absurd rfl n, fun _ => ⟨f, ?_⟩⟩
      obtain ⟨a1, a2, a3, a4, a5, a6, a7, a8, a9, a10⟩ := QA
      exact ⟨a1, a2, a3, a4, rfl, rfl, a7, a8, a9, a10⟩
theorem rWin (h : gIr x 255) : (rX8_within x 1 254 = 0 → x < 1 ∨ ¬ x ≤ 254) ∧ (¬ rX8_within x 1 254 = 0 → ¬ x < 1 ∧ x ≤ 254) := by
  obtain ⟨b, hb, rfl⟩ := h
  exact (by decide +kernel : ∀ b : Fin 256, (rX8_within (nI b.1) 1 254 = 0 → nI b.1 < 1 ∨ ¬ nI b.1 ≤ 254) ∧ (¬ rX8_within (nI b.1) 1 254 = 0 → ¬ nI b.1 < 1 ∧ nI b.1 ≤ 254)) ⟨b, by omega⟩
theorem rl0w (T : rT t M) (H : rM t M r) (h : gBn M M' x) (hy : ¬ g = 1) (hg : r.1 = 0 → g = r.2.f 10) : rM t (nW M' x) (rLb t g 0 r) := by
  refine rFin T H h nW.f21 (fun c => by unfold nW; rw [if_neg c]; rfl) fun c Q e f hx => ?_
  have e21 : M'.f 21 - 1 = r.2.f 8 := by rw [e]; show r.2.f 8 + 1 - 1 = _; exact rA1
  have QA : rQ M' (r.2.set 8 (r.2.f 8 + 1)) := by rw [e]; exact Q.at
  rw [rGb_0, if_neg hy, if_pos (hg c)]
  unfold nW
  rw [if_pos f]
  by_cases a : rX8_within x 1 254 = 0
  · rw [if_pos a]
    have w := (rWin hx).1 a
    have er : (if x < 1 then (5, r.2.set 5 x) else if x ≤ 254 then (0, r.2.set 5 x) else (5, r.2.set 5 x) : Int32 × rq) = ((5 : Int32), r.2.set 5 x) := by
      by_cases b : x < 1
      · rw [if_pos b]
      · rw [if_neg b, if_neg (w.resolve_left b)]
    rw [er]
    refine ⟨fun _ => ?_, fun h => absurd h n0_5⟩
    show (rX8_wrong M' 5 (M'.f 21 - 1)).f 22 = _
    rw [rW22 f, e21]
  · rw [if_neg a]
    have w := (rWin hx).2 a
    rw [if_neg w.1, if_pos w.2]
    refine ⟨fun n => absurd rfl n, fun _ => ⟨f, ?_⟩⟩
    obtain ⟨a1, a2, a3, a4, a5, a6, a7, a8, a9, a10⟩ := QA
    exact ⟨a1, a2, a3, a4, a5, a6, a7, a8, a9, rfl⟩
theorem rl0n (T : rT t M) (H : rM t M r) (h : gBn M M' x) (hy : ¬ g = 1) (hg : r.1 = 0 → ¬ g = r.2.f 10) : rM t M' (rLb t g 0 r) :=
  rS1 T H h fun c x => by rw [rGb_0, if_neg hy, if_neg (hg c)]
end RM2
set_option maxRecDepth 100000 in
set_option maxHeartbeats 4000000 in
theorem c_X8_groupToldx_r {hp : List gA} {M : gMd} {y z : Int32} {t : List Int32} {r : Int32 × rq} (HM : gMod hp M) (T : rT t M) (RZ : rM t M r) (hz15 : gIr z 15) (hg10 : y = 1 → r.1 = 0 → r.2.f 10 = 0) : gM yX8_groupTold cX8_groupTold 4 ((some .int)) 3 63 [.ref 122, .int y, .int z] (hp) (0) (0) (fun v h => ∃ x, v = some (.int x) ∧ ∃ M' M3, gMod h M' ∧ gFM hp h ∧ rK M M' ∧ rM t M3 (rL t y z 2 (rL t y z 1 (rL t y z 0 r))) ∧ ((z &&& 8 = 0 ∧ x = -1 ∧ M' = M3) ∨ (¬ z &&& 8 = 0 ∧ gBn M3 M' x))) := by
  refine gM_of (ls0 := [some (.ref 122), some (.int y), some (.int z), none]) (by decide +kernel) (Nat.le_of_ble_eq_true rfl) rfl fun X C E => ?_
  have J136 : ∀ (M1 : gMd) (x3 : Option Value) (hz : List gA), gMod hz M1 → gFM hp hz → rK M M1 → rM t M1 (rL t y z 2 (rL t y z 1 (rL t y z 0 r))) → (y = 1 → ((rL t y z 2 (rL t y z 1 (rL t y z 0 r)))).1 = 0 → ((rL t y z 2 (rL t y z 1 (rL t y z 0 r)))).2.f 10 = 0) → gG X 136 [some (.ref 122), some (.int y), some (.int z), x3] [] hz 0 0 := by
    intro M1 x3 hz0 HZ frz KZ RZ hg10
    have T1 := T.k KZ
    have hz := RZ.hz T1
    refine g_iload_n (q := 137) C dX8_groupTold_136 rfl rfl ?_
    refine g_bipush (v := 8) (q := 139) C dX8_groupTold_137 (by decide) rfl ?_
    refine g_iand (q := 140) C dX8_groupTold_139 rfl ?_
    refine g_if_eq (t := 150) (q := 143) C dX8_groupTold_140 (by decide) rfl (fun c_140 => ?_) (fun c_140 => ?_)
    ·
      refine g_iconst (v := (-1)) (q := 151) C dX8_groupTold_150 (by decide) rfl ?_
      exact E.1 _ _ _ _ _ _ _ dX8_groupTold_151 rfl rfl (Nat.le_of_ble_eq_true rfl) (Nat.le_of_ble_eq_true rfl) ⟨_, rfl, M1, M1, HZ, frz, KZ, RZ, Or.inl ⟨c_140, rfl, rfl⟩⟩
    ·
      refine g_aload_n (q := 144) C dX8_groupTold_143 rfl rfl ?_
      refine g_callVip (q := 147) (As := []) C gyX8_byteNext gvX8_byteNext t_1218 (c_X8_byteNext_r HZ hz) dX8_groupTold_144 rfl HZ.1 rfl rfl rfl (Nat.le_of_ble_eq_true rfl) (Nat.le_of_ble_eq_true rfl) (Nat.le_of_ble_eq_true rfl) (Nat.le_of_ble_eq_true rfl) (Nat.le_of_ble_eq_true rfl) rfl (fun x1 h1 z1 => ?_)
      obtain ⟨N1, HN1, fn1, bn1⟩ := z1
      refine g_goto (q := 151) C dX8_groupTold_147 (by decide) ?_
      exact E.1 _ _ _ _ _ _ _ dX8_groupTold_151 rfl rfl (Nat.le_of_ble_eq_true rfl) (Nat.le_of_ble_eq_true rfl) ⟨_, rfl, N1, M1, HN1, (gFM.trans frz fn1), (KZ.trans (rK.bn bn1)), RZ, Or.inr ⟨c_140, bn1⟩⟩
  have J83 : ∀ (M1 : gMd) (x3 : Option Value) (hz : List gA), gMod hz M1 → gFM hp hz → rK M M1 → rM t M1 (rL t y z 1 (rL t y z 0 r)) → (y = 1 → ((rL t y z 1 (rL t y z 0 r))).1 = 0 → ((rL t y z 1 (rL t y z 0 r))).2.f 10 = 0) → gG X 83 [some (.ref 122), some (.int y), some (.int z), x3] [] hz 0 0 := by
    intro M1 x3 hz0 HZ frz KZ RZ hg10
    have T1 := T.k KZ
    have hz := RZ.hz T1
    refine g_iload_n (q := 84) C dX8_groupTold_83 rfl rfl ?_
    refine g_iconst (v := 4) (q := 85) C dX8_groupTold_84 (by decide) rfl ?_
    refine g_iand (q := 86) C dX8_groupTold_85 rfl ?_
    refine g_if_eq (t := 136) (q := 89) C dX8_groupTold_86 (by decide) rfl (fun c_86 => ?_) (fun c_86 => ?_)
    ·
      exact J136 M1 _ _ HZ frz KZ (by rw [rL_1 (rB2n hz15 c_86)]; exact RZ) (fun a b => (rL_10 (by decide) b).trans (hg10 a (rL_0 b)))
    ·
      refine g_aload_n (q := 90) C dX8_groupTold_89 rfl rfl ?_
      refine g_callVip (q := 93) (As := []) C gyX8_byteNext gvX8_byteNext t_1218 (c_X8_byteNext_r HZ hz) dX8_groupTold_90 rfl HZ.1 rfl rfl rfl (Nat.le_of_ble_eq_true rfl) (Nat.le_of_ble_eq_true rfl) (Nat.le_of_ble_eq_true rfl) (Nat.le_of_ble_eq_true rfl) (Nat.le_of_ble_eq_true rfl) rfl (fun x2 h2 z2 => ?_)
      obtain ⟨N2, HN2, fn2, bn2⟩ := z2
      refine g_istore_n (q := 94) C dX8_groupTold_93 (Nat.le_of_ble_eq_true rfl) (by simp only [gset]; rfl) rfl ?_
      refine g_iload_n (q := 95) C dX8_groupTold_94 rfl rfl ?_
      refine g_iconst (v := 1) (q := 96) C dX8_groupTold_95 (by decide) rfl ?_
      refine g_icmp_ne (t := 106) (q := 99) C dX8_groupTold_96 (by decide) rfl (fun c_96 => ?_) (fun c_96 => ?_)
      ·
        refine g_aload_n (q := 107) C dX8_groupTold_106 rfl rfl ?_
        refine g_getfield (v := .int ((N2.f 22))) (q := 110) C fX8_86 dX8_groupTold_107 rfl HN2.1 rfl ?_
        refine g_if_ne (t := 136) (q := 113) C dX8_groupTold_110 (by decide) rfl (fun c_110 => ?_) (fun c_110 => ?_)
        ·
          have e : nL2 N2 y x2 = N2 := ((if_neg c_96).trans (if_neg c_110))
          exact J136 (nL2 N2 y x2) _ _ (by rw [e]; exact HN2) (gFM.trans frz fn2) ((KZ.trans (rK.bn bn2)).trans nL2.k) (by rw [rL_b (rB2 hz15 c_86)]; exact rl2 T1 RZ bn2 hg10) (fun a b => (rL_10 (by decide) b).trans (hg10 a (rL_0 b)))
        ·
          refine g_iload_n (q := 114) C dX8_groupTold_113 rfl rfl ?_
          refine g_aload_n (q := 115) C dX8_groupTold_114 rfl rfl ?_
          refine g_getfield (v := .int ((N2.f 23))) (q := 118) C fX8_113 dX8_groupTold_115 rfl HN2.1 rfl ?_
          refine g_icmp_ne (t := 136) (q := 121) C dX8_groupTold_118 (by decide) rfl (fun c_118 => ?_) (fun c_118 => ?_)
          ·
            have e : nL2 N2 y x2 = N2 := ((if_neg c_96).trans ((if_pos c_110).trans (if_neg c_118)))
            exact J136 (nL2 N2 y x2) _ _ (by rw [e]; exact HN2) (gFM.trans frz fn2) ((KZ.trans (rK.bn bn2)).trans nL2.k) (by rw [rL_b (rB2 hz15 c_86)]; exact rl2 T1 RZ bn2 hg10) (fun a b => (rL_10 (by decide) b).trans (hg10 a (rL_0 b)))
          ·
            refine g_iload_n (q := 122) C dX8_groupTold_121 rfl rfl ?_
            refine g_if_eq (t := 136) (q := 125) C dX8_groupTold_122 (by decide) rfl (fun c_122 => ?_) (fun c_122 => ?_)
            ·
              have e : nL2 N2 y x2 = N2 := ((if_neg c_96).trans ((if_pos c_110).trans ((if_pos c_118).trans (if_pos c_122))))
              exact J136 (nL2 N2 y x2) _ _ (by rw [e]; exact HN2) (gFM.trans frz fn2) ((KZ.trans (rK.bn bn2)).trans nL2.k) (by rw [rL_b (rB2 hz15 c_86)]; exact rl2 T1 RZ bn2 hg10) (fun a b => (rL_10 (by decide) b).trans (hg10 a (rL_0 b)))
            ·
              refine g_aload_n (q := 126) C dX8_groupTold_125 rfl rfl ?_
              refine g_iconst (v := 5) (q := 127) C dX8_groupTold_126 (by decide) rfl ?_
              refine g_aload_n (q := 128) C dX8_groupTold_127 rfl rfl ?_
              refine g_getfield (v := .int ((N2.f 21))) (q := 131) C fX8_89 dX8_groupTold_128 rfl HN2.1 rfl ?_
              refine g_iconst (v := 1) (q := 132) C dX8_groupTold_131 (by decide) rfl ?_
              refine g_isub (q := 133) C dX8_groupTold_132 rfl ?_
              refine g_callVvp (q := 136) (As := [.int 5, .int (((N2.f 21) - 1))]) C gyX8_wrong gvX8_wrong t_1222 (c_X8_wrong_m HN2) dX8_groupTold_133 rfl HN2.1 rfl rfl rfl (Nat.le_of_ble_eq_true rfl) (Nat.le_of_ble_eq_true rfl) (Nat.le_of_ble_eq_true rfl) (Nat.le_of_ble_eq_true rfl) (Nat.le_of_ble_eq_true rfl) rfl (fun h3 z3 => ?_)
              obtain ⟨HL3, fr3⟩ := z3
              have e : nL2 N2 y x2 = (rX8_wrong N2 5 ((N2.f 21) - 1)) := ((if_neg c_96).trans ((if_pos c_110).trans ((if_pos c_118).trans (if_neg c_122))))
              exact J136 (nL2 N2 y x2) _ _ (by rw [e]; exact HL3) (gFM.trans (gFM.trans frz fn2) fr3) ((KZ.trans (rK.bn bn2)).trans nL2.k) (by rw [rL_b (rB2 hz15 c_86)]; exact rl2 T1 RZ bn2 hg10) (fun a b => (rL_10 (by decide) b).trans (hg10 a (rL_0 b)))
      ·
        refine g_aload_n (q := 100) C dX8_groupTold_99 rfl rfl ?_
        refine g_getfield (v := .ref 125) (q := 103) C fX8_16 dX8_groupTold_100 rfl HN2.1 rfl ?_
        refine g_iconst (v := 3) (q := 104) C dX8_groupTold_103 (by decide) rfl ?_
        refine g_iload_n (q := 105) C dX8_groupTold_104 rfl rfl ?_
        refine g_iastoreN (j := 3) (q := 106) C dX8_groupTold_105 rfl (HN2.ar (i := 2) (n := 9) (by decide) rfl) (pk_in 3 9 (by decide)) (pk_cl 3) ?_
        refine gMsto (i := 2) (j := 3) (x := x2) HN2 (by decide) rfl rfl fun h4 HL4 fr4 => ?_
        refine g_aload_n (q := 107) C dX8_groupTold_106 rfl rfl ?_
        refine g_getfield (v := .int ((N2.f 22))) (q := 110) C fX8_86 dX8_groupTold_107 rfl HL4.1 rfl ?_
        refine g_if_ne (t := 136) (q := 113) C dX8_groupTold_110 (by decide) rfl (fun c_110 => ?_) (fun c_110 => ?_)
        ·
          have e : nL2 N2 y x2 = (N2.put 2 3 x2) := ((if_pos c_96).trans (if_neg c_110))
          exact J136 (nL2 N2 y x2) _ _ (by rw [e]; exact HL4) (gFM.trans (gFM.trans frz fn2) fr4) ((KZ.trans (rK.bn bn2)).trans nL2.k) (by rw [rL_b (rB2 hz15 c_86)]; exact rl2 T1 RZ bn2 hg10) (fun a b => (rL_10 (by decide) b).trans (hg10 a (rL_0 b)))
        ·
          refine g_iload_n (q := 114) C dX8_groupTold_113 rfl rfl ?_
          refine g_aload_n (q := 115) C dX8_groupTold_114 rfl rfl ?_
          refine g_getfield (v := .int ((N2.f 23))) (q := 118) C fX8_113 dX8_groupTold_115 rfl HL4.1 rfl ?_
          refine g_icmp_ne (t := 136) (q := 121) C dX8_groupTold_118 (by decide) rfl (fun c_118 => ?_) (fun c_118 => ?_)
          ·
            have e : nL2 N2 y x2 = (N2.put 2 3 x2) := ((if_pos c_96).trans ((if_pos c_110).trans (if_neg c_118)))
            exact J136 (nL2 N2 y x2) _ _ (by rw [e]; exact HL4) (gFM.trans (gFM.trans frz fn2) fr4) ((KZ.trans (rK.bn bn2)).trans nL2.k) (by rw [rL_b (rB2 hz15 c_86)]; exact rl2 T1 RZ bn2 hg10) (fun a b => (rL_10 (by decide) b).trans (hg10 a (rL_0 b)))
          ·
            refine g_iload_n (q := 122) C dX8_groupTold_121 rfl rfl ?_
            refine g_if_eq (t := 136) (q := 125) C dX8_groupTold_122 (by decide) rfl (fun c_122 => ?_) (fun c_122 => ?_)
            ·
              have e : nL2 N2 y x2 = (N2.put 2 3 x2) := ((if_pos c_96).trans ((if_pos c_110).trans ((if_pos c_118).trans (if_pos c_122))))
              exact J136 (nL2 N2 y x2) _ _ (by rw [e]; exact HL4) (gFM.trans (gFM.trans frz fn2) fr4) ((KZ.trans (rK.bn bn2)).trans nL2.k) (by rw [rL_b (rB2 hz15 c_86)]; exact rl2 T1 RZ bn2 hg10) (fun a b => (rL_10 (by decide) b).trans (hg10 a (rL_0 b)))
            ·
              refine g_aload_n (q := 126) C dX8_groupTold_125 rfl rfl ?_
              refine g_iconst (v := 5) (q := 127) C dX8_groupTold_126 (by decide) rfl ?_
              refine g_aload_n (q := 128) C dX8_groupTold_127 rfl rfl ?_
              refine g_getfield (v := .int ((N2.f 21))) (q := 131) C fX8_89 dX8_groupTold_128 rfl HL4.1 rfl ?_
              refine g_iconst (v := 1) (q := 132) C dX8_groupTold_131 (by decide) rfl ?_
              refine g_isub (q := 133) C dX8_groupTold_132 rfl ?_
              refine g_callVvp (q := 136) (As := [.int 5, .int (((N2.f 21) - 1))]) C gyX8_wrong gvX8_wrong t_1222 (c_X8_wrong_m HL4) dX8_groupTold_133 rfl HL4.1 rfl rfl rfl (Nat.le_of_ble_eq_true rfl) (Nat.le_of_ble_eq_true rfl) (Nat.le_of_ble_eq_true rfl) (Nat.le_of_ble_eq_true rfl) (Nat.le_of_ble_eq_true rfl) rfl (fun h5 z5 => ?_)
              obtain ⟨HL5, fr5⟩ := z5
              have e : nL2 N2 y x2 = (rX8_wrong (N2.put 2 3 x2) 5 ((N2.f 21) - 1)) := ((if_pos c_96).trans ((if_pos c_110).trans ((if_pos c_118).trans (if_neg c_122))))
              exact J136 (nL2 N2 y x2) _ _ (by rw [e]; exact HL5) (gFM.trans (gFM.trans (gFM.trans frz fn2) fr4) fr5) ((KZ.trans (rK.bn bn2)).trans nL2.k) (by rw [rL_b (rB2 hz15 c_86)]; exact rl2 T1 RZ bn2 hg10) (fun a b => (rL_10 (by decide) b).trans (hg10 a (rL_0 b)))
      
  have J38 : ∀ (M1 : gMd) (x3 : Option Value) (hz : List gA), gMod hz M1 → gFM hp hz → rK M M1 → rM t M1 (rL t y z 0 r) → (y = 1 → ((rL t y z 0 r)).1 = 0 → ((rL t y z 0 r)).2.f 10 = 0) → gG X 38 [some (.ref 122), some (.int y), some (.int z), x3] [] hz 0 0 := by
    intro M1 x3 hz0 HZ frz KZ RZ hg10
    have T1 := T.k KZ
    have hz := RZ.hz T1
    refine g_iload_n (q := 39) C dX8_groupTold_38 rfl rfl ?_
    refine g_iconst (v := 2) (q := 40) C dX8_groupTold_39 (by decide) rfl ?_
    refine g_iand (q := 41) C dX8_groupTold_40 rfl ?_
    refine g_if_eq (t := 83) (q := 44) C dX8_groupTold_41 (by decide) rfl (fun c_41 => ?_) (fun c_41 => ?_)
    ·
      exact J83 M1 _ _ HZ frz KZ (by rw [rL_1 (rB1n hz15 c_41)]; exact RZ) (fun a b => (rL_10 (by decide) b).trans (hg10 a (rL_0 b)))
    ·
      refine g_aload_n (q := 45) C dX8_groupTold_44 rfl rfl ?_
      refine g_callVip (q := 48) (As := []) C gyX8_byteNext gvX8_byteNext t_1218 (c_X8_byteNext_r HZ hz) dX8_groupTold_45 rfl HZ.1 rfl rfl rfl (Nat.le_of_ble_eq_true rfl) (Nat.le_of_ble_eq_true rfl) (Nat.le_of_ble_eq_true rfl) (Nat.le_of_ble_eq_true rfl) (Nat.le_of_ble_eq_true rfl) rfl (fun x6 h6 z6 => ?_)
      obtain ⟨N6, HN6, fn6, bn6⟩ := z6
      refine g_istore_n (q := 49) C dX8_groupTold_48 (Nat.le_of_ble_eq_true rfl) (by simp only [gset]; rfl) rfl ?_
      refine g_aload_n (q := 50) C dX8_groupTold_49 rfl rfl ?_
      refine g_getfield (v := .int ((N6.f 22))) (q := 53) C fX8_86 dX8_groupTold_50 rfl HN6.1 rfl ?_
      refine g_if_ne (t := 83) (q := 56) C dX8_groupTold_53 (by decide) rfl (fun c_53 => ?_) (fun c_53 => ?_)
      ·
        have e : nL1 N6 y x6 = N6 := (if_neg c_53)
        exact J83 (nL1 N6 y x6) _ _ (by rw [e]; exact HN6) (gFM.trans frz fn6) ((KZ.trans (rK.bn bn6)).trans nL1.k) (by rw [rL_b (rB1 hz15 c_41)]; exact rl1 T1 RZ bn6 hg10) (fun a b => (rL_10 (by decide) b).trans (hg10 a (rL_0 b)))
      ·
        refine g_iload_n (q := 57) C dX8_groupTold_56 rfl rfl ?_
        refine g_aload_n (q := 58) C dX8_groupTold_57 rfl rfl ?_
        refine g_getfield (v := .int ((N6.f 23))) (q := 61) C fX8_113 dX8_groupTold_58 rfl HN6.1 rfl ?_
        refine g_icmp_ne (t := 83) (q := 64) C dX8_groupTold_61 (by decide) rfl (fun c_61 => ?_) (fun c_61 => ?_)
        ·
          have e : nL1 N6 y x6 = N6 := ((if_pos c_53).trans (if_neg c_61))
          exact J83 (nL1 N6 y x6) _ _ (by rw [e]; exact HN6) (gFM.trans frz fn6) ((KZ.trans (rK.bn bn6)).trans nL1.k) (by rw [rL_b (rB1 hz15 c_41)]; exact rl1 T1 RZ bn6 hg10) (fun a b => (rL_10 (by decide) b).trans (hg10 a (rL_0 b)))
        ·
          refine g_iload_n (q := 65) C dX8_groupTold_64 rfl rfl ?_
          refine g_iconst (v := 4) (q := 66) C dX8_groupTold_65 (by decide) rfl ?_
          refine g_ishr (q := 67) C dX8_groupTold_66 rfl ?_
          refine g_bipush (v := 9) (q := 69) C dX8_groupTold_67 (by decide) rfl ?_
          refine g_icmp_le (t := 83) (q := 72) C dX8_groupTold_69 (by decide) rfl (fun c_69 => ?_) (fun c_69 => ?_)
          ·
            have e : nL1 N6 y x6 = N6 := ((if_pos c_53).trans ((if_pos c_61).trans (if_pos c_69)))
            exact J83 (nL1 N6 y x6) _ _ (by rw [e]; exact HN6) (gFM.trans frz fn6) ((KZ.trans (rK.bn bn6)).trans nL1.k) (by rw [rL_b (rB1 hz15 c_41)]; exact rl1 T1 RZ bn6 hg10) (fun a b => (rL_10 (by decide) b).trans (hg10 a (rL_0 b)))
          ·
            refine g_aload_n (q := 73) C dX8_groupTold_72 rfl rfl ?_
            refine g_iconst (v := 5) (q := 74) C dX8_groupTold_73 (by decide) rfl ?_
            refine g_aload_n (q := 75) C dX8_groupTold_74 rfl rfl ?_
            refine g_getfield (v := .int ((N6.f 21))) (q := 78) C fX8_89 dX8_groupTold_75 rfl HN6.1 rfl ?_
            refine g_iconst (v := 1) (q := 79) C dX8_groupTold_78 (by decide) rfl ?_
            refine g_isub (q := 80) C dX8_groupTold_79 rfl ?_
            refine g_callVvp (q := 83) (As := [.int 5, .int (((N6.f 21) - 1))]) C gyX8_wrong gvX8_wrong t_1222 (c_X8_wrong_m HN6) dX8_groupTold_80 rfl HN6.1 rfl rfl rfl (Nat.le_of_ble_eq_true rfl) (Nat.le_of_ble_eq_true rfl) (Nat.le_of_ble_eq_true rfl) (Nat.le_of_ble_eq_true rfl) (Nat.le_of_ble_eq_true rfl) rfl (fun h7 z7 => ?_)
            obtain ⟨HL7, fr7⟩ := z7
            have e : nL1 N6 y x6 = (rX8_wrong N6 5 ((N6.f 21) - 1)) := ((if_pos c_53).trans ((if_pos c_61).trans (if_neg c_69)))
            exact J83 (nL1 N6 y x6) _ _ (by rw [e]; exact HL7) (gFM.trans (gFM.trans frz fn6) fr7) ((KZ.trans (rK.bn bn6)).trans nL1.k) (by rw [rL_b (rB1 hz15 c_41)]; exact rl1 T1 RZ bn6 hg10) (fun a b => (rL_10 (by decide) b).trans (hg10 a (rL_0 b)))
      
  have hz := RZ.hz T
  have RZ9 : r.1 = 0 → M.f 23 = r.2.f 10 := fun h => (RZ.2 h).1.2.1
  refine g_iload_n (q := 1) C dX8_groupTold_0 rfl rfl ?_
  refine g_iconst (v := 1) (q := 2) C dX8_groupTold_1 (by decide) rfl ?_
  refine g_iand (q := 3) C dX8_groupTold_2 rfl ?_
  refine g_if_eq (t := 38) (q := 6) C dX8_groupTold_3 (by decide) rfl (fun c_3 => ?_) (fun c_3 => ?_)
  ·
    exact J38 M _ _ HM gFM.rf rK.rf (by rw [rL_1 (rB0n hz15 c_3)]; exact RZ) (fun a b => (rL_10 (by decide) b).trans (hg10 a (rL_0 b)))
  ·
    refine g_iload_n (q := 7) C dX8_groupTold_6 rfl rfl ?_
    refine g_iconst (v := 1) (q := 8) C dX8_groupTold_7 (by decide) rfl ?_
    refine g_icmp_ne (t := 18) (q := 11) C dX8_groupTold_8 (by decide) rfl (fun c_8 => ?_) (fun c_8 => ?_)
    ·
      refine g_iload_n (q := 19) C dX8_groupTold_18 rfl rfl ?_
      refine g_aload_n (q := 20) C dX8_groupTold_19 rfl rfl ?_
      refine g_getfield (v := .int ((M.f 23))) (q := 23) C fX8_113 dX8_groupTold_20 rfl HM.1 rfl ?_
      refine g_icmp_ne (t := 33) (q := 26) C dX8_groupTold_23 (by decide) rfl (fun c_23 => ?_) (fun c_23 => ?_)
      ·
        refine g_aload_n (q := 34) C dX8_groupTold_33 rfl rfl ?_
        refine g_callVip (q := 37) (As := []) C gyX8_byteNext gvX8_byteNext t_1218 (c_X8_byteNext_r HM hz) dX8_groupTold_34 rfl HM.1 rfl rfl rfl (Nat.le_of_ble_eq_true rfl) (Nat.le_of_ble_eq_true rfl) (Nat.le_of_ble_eq_true rfl) (Nat.le_of_ble_eq_true rfl) (Nat.le_of_ble_eq_true rfl) rfl (fun x8 h8 z8 => ?_)
        obtain ⟨N8, HN8, fn8, bn8⟩ := z8
        refine g_pop (q := 38) C dX8_groupTold_37 rfl rfl ?_
        exact J38 _ _ _ HN8 fn8 (rK.bn bn8) (by rw [rL_b (rB0 hz15 c_3)]; exact rl0n T RZ bn8 c_8 (fun b0 e => c_23 (e.trans (RZ9 b0).symm))) (fun a b => (rL_10 (by decide) b).trans (hg10 a (rL_0 b)))
      ·
        refine g_aload_n (q := 27) C dX8_groupTold_26 rfl rfl ?_
        refine g_callVvp (q := 30) (As := []) C gyX8_window gvX8_window t_1244 (c_X8_windowx_r HM hz) dX8_groupTold_27 rfl HM.1 rfl rfl rfl (Nat.le_of_ble_eq_true rfl) (Nat.le_of_ble_eq_true rfl) (Nat.le_of_ble_eq_true rfl) (Nat.le_of_ble_eq_true rfl) (Nat.le_of_ble_eq_true rfl) rfl (fun h9 z9 => ?_)
        obtain ⟨N9, x9, bn9, HN9, fn9⟩ := z9
        refine g_goto (q := 38) C dX8_groupTold_30 (by decide) ?_
        exact J38 _ _ _ HN9 fn9 ((rK.bn bn9).trans nW.k) (by rw [rL_b (rB0 hz15 c_3)]; exact rl0w T RZ bn9 c_8 (fun b0 => c_23.trans (RZ9 b0))) (fun a b => (rL_10 (by decide) b).trans (hg10 a (rL_0 b)))
    ·
      refine g_aload_n (q := 12) C dX8_groupTold_11 rfl rfl ?_
      refine g_callVvp (q := 15) (As := []) C gyX8_factor gvX8_factor t_1234 (c_X8_factorx_r HM hz) dX8_groupTold_12 rfl HM.1 rfl rfl rfl (Nat.le_of_ble_eq_true rfl) (Nat.le_of_ble_eq_true rfl) (Nat.le_of_ble_eq_true rfl) (Nat.le_of_ble_eq_true rfl) (Nat.le_of_ble_eq_true rfl) rfl (fun h10 z10 => ?_)
      obtain ⟨N10, x10, bn10, HN10, fn10⟩ := z10
      refine g_goto (q := 38) C dX8_groupTold_15 (by decide) ?_
      exact J38 _ _ _ HN10 fn10 ((rK.bn bn10).trans nF.k) (by rw [rL_b (rB0 hz15 c_3)]; exact rl0f T RZ bn10 c_8) (fun a b => (rL_10 (by decide) b).trans (hg10 a (rL_0 b)))
