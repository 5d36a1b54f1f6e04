set_option maxRecDepth 100000 in
set_option maxHeartbeats 4000000 in
theorem c_X8_groupsToldx_r {hp : List gA} {M : gMd} {y : Int32} {t : List Int32} {r : Int32 × rq} (HM : gMod hp M) (T : rT t M) (RZ : rM t M r) (hy : r.1 = 0 → y = r.2.f 9 ∧ gIr y 15 ∧ r.2.f 10 = 0 ∧ r.2.f 4 = 0) : gM yX8_groupsTold cX8_groupsTold 6 (none) 4 86 [.ref 122, .int y] (hp) (0) (0) (fun v h => v = none ∧ ∃ M', gMod h M' ∧ gFM hp h ∧ rK M M' ∧ rM t M' (rGs t 4 1 r)) := by
  refine gM_of (ls0 := [some (.ref 122), some (.int y), none, none, none, none]) (by decide +kernel) (Nat.le_of_ble_eq_true rfl) rfl fun X C E => ?_
  refine g_iload_n (q := 1) C dX8_groupsTold_0 rfl rfl ?_
  refine g_istore_n (q := 2) C dX8_groupsTold_1 (Nat.le_of_ble_eq_true rfl) (by simp only [gset]; rfl) rfl ?_
  refine g_iconst (v := 1) (q := 3) C dX8_groupsTold_2 (by decide) rfl ?_
  refine g_istore_n (q := 4) C dX8_groupsTold_3 (Nat.le_of_ble_eq_true rfl) (by simp only [gset]; rfl) rfl ?_
  obtain ⟨F, hF⟩ : ∃ F, rGs t 4 1 r = F := ⟨_, rfl⟩
  have LL : ∀ (n g : Nat) (w : Int32) (M1 : gMd) (R1 : Int32 × rq) (x4 x5 : Option Value) (hz0 : List gA), n + g = 5 → 1 ≤ g → gMod hz0 M1 → gFM hp hz0 → rK M M1 → rM t M1 R1 → rGs t n g R1 = F → (R1.1 = 0 → w = R1.2.f 9 ∧ gIr w 15 ∧ (g = 1 → R1.2.f 10 = 0) ∧ R1.2.f 4 = nI (g - 1) ∧ (g = 5 → w = 0)) → gG X 4 [some (.ref 122), some (.int y), some (.int w), some (.int ((nI g))), x4, x5] [] hz0 0 0 := by
    intro n
    induction n with
    | zero =>
      intro g w M1 R1 x4 x5 hz0 hg hg1 HZ frz KZ RZ hr hw
      have T1 := T.k KZ
      refine g_aload_n (q := 5) C dX8_groupsTold_4 rfl rfl ?_
      refine g_getfield (v := .int ((M1.f 22))) (q := 8) C fX8_86 dX8_groupsTold_5 rfl HZ.1 rfl ?_
      refine g_if_ne (t := 153) (q := 11) C dX8_groupsTold_8 (by decide) rfl (fun c_8 => ?_) (fun c_8 => ?_)
      ·
        have r0 : ¬ R1.1 = 0 := fun h => c_8 (RZ.1.1.trans h)
        have e : rGs t 0 g R1 = R1 := rGs_st r0
        exact E.2.1 _ _ _ _ _ dX8_groupsTold_153 rfl (Nat.le_of_ble_eq_true rfl) (Nat.le_of_ble_eq_true rfl) ⟨rfl, _, HZ, frz, KZ, by rw [hF, ← hr, e]; exact RZ⟩
      ·
        refine g_iload_n (q := 12) C dX8_groupsTold_11 rfl rfl ?_
        refine g_if_le (t := 153) (q := 15) C dX8_groupsTold_12 (by decide) rfl (fun c_12 => ?_) (fun c_12 => ?_)
        ·
          have r0 : R1.1 = 0 := RZ.1.1.symm.trans c_8
          obtain ⟨w1, w2, w3, w4, w5⟩ := hw r0
          have w0 : R1.2.f 9 = 0 := by rw [← w1]; exact rLe0 w2 c_12
          have e : rGs t 0 g R1 = R1 := rfl
          exact E.2.1 _ _ _ _ _ dX8_groupsTold_153 rfl (Nat.le_of_ble_eq_true rfl) (Nat.le_of_ble_eq_true rfl) ⟨rfl, _, HZ, frz, KZ, by rw [hF, ← hr, e]; exact RZ⟩
        ·
          exfalso
          have r0 : R1.1 = 0 := RZ.1.1.symm.trans c_8
          exact c_12 (by rw [(hw r0).2.2.2.2 (by omega)]; exact Int32.le_refl _)
    | succ n ih =>
      intro g w M1 R1 x4 x5 hz0 hg hg1 HZ frz KZ RZ hr hw
      have T1 := T.k KZ
      refine g_aload_n (q := 5) C dX8_groupsTold_4 rfl rfl ?_
      refine g_getfield (v := .int ((M1.f 22))) (q := 8) C fX8_86 dX8_groupsTold_5 rfl HZ.1 rfl ?_
      refine g_if_ne (t := 153) (q := 11) C dX8_groupsTold_8 (by decide) rfl (fun c_8 => ?_) (fun c_8 => ?_)
      ·
        have r0 : ¬ R1.1 = 0 := fun h => c_8 (RZ.1.1.trans h)
        have e : rGs t (n + 1) g R1 = R1 := rGs_st r0
        exact E.2.1 _ _ _ _ _ dX8_groupsTold_153 rfl (Nat.le_of_ble_eq_true rfl) (Nat.le_of_ble_eq_true rfl) ⟨rfl, _, HZ, frz, KZ, by rw [hF, ← hr, e]; exact RZ⟩
      ·
        refine g_iload_n (q := 12) C dX8_groupsTold_11 rfl rfl ?_
        refine g_if_le (t := 153) (q := 15) C dX8_groupsTold_12 (by decide) rfl (fun c_12 => ?_) (fun c_12 => ?_)
        ·
          have r0 : R1.1 = 0 := RZ.1.1.symm.trans c_8
          obtain ⟨w1, w2, w3, w4, w5⟩ := hw r0
          have w0 : R1.2.f 9 = 0 := by rw [← w1]; exact rLe0 w2 c_12
          have e : rGs t (n + 1) g R1 = R1 := (if_pos r0).trans (if_pos w0)
          exact E.2.1 _ _ _ _ _ dX8_groupsTold_153 rfl (Nat.le_of_ble_eq_true rfl) (Nat.le_of_ble_eq_true rfl) ⟨rfl, _, HZ, frz, KZ, by rw [hF, ← hr, e]; exact RZ⟩
        ·
          have r0 : R1.1 = 0 := RZ.1.1.symm.trans c_8
          obtain ⟨w1, w2, w3, w4, w5⟩ := hw r0
          have w0 : ¬ R1.2.f 9 = 0 := fun h => c_12 (by rw [w1, h]; exact Int32.le_refl _)
          have eG : rGs t (n + 1) g R1 = rGs t n (g + 1) (rL t (nI g) w 3 (rL t (nI g) w 2 (rL t (nI g) w 1 (rL t (nI g) w 0 (0, (R1.2.set 4 (nI g)).set 9 0))))) := by rw [w1]; exact (if_pos r0).trans (if_neg w0)
          rw [eG] at hr
          refine g_aload_n (q := 16) C dX8_groupsTold_15 rfl rfl ?_
          refine g_getfield (v := .ref 125) (q := 19) C fX8_16 dX8_groupsTold_16 rfl HZ.1 rfl ?_
          refine g_iconst (v := 5) (q := 20) C dX8_groupsTold_19 (by decide) rfl ?_
          refine g_dup2 (q := 21) C dX8_groupsTold_20 rfl rfl rfl ?_
          refine g_ialoadN (x := (M1.a 2 5)) (j := 5) (q := 22) C dX8_groupsTold_21 rfl (HZ.ar (i := 2) (n := 9) (by decide) rfl) (pk_in 5 9 (by decide)) (pk_cl 5) rfl ?_
          refine g_iconst (v := 1) (q := 23) C dX8_groupsTold_22 (by decide) rfl ?_
          refine g_iadd (q := 24) C dX8_groupsTold_23 rfl ?_
          refine g_iastoreN (j := 5) (q := 25) C dX8_groupsTold_24 rfl (HZ.ar (i := 2) (n := 9) (by decide) rfl) (pk_in 5 9 (by decide)) (pk_cl 5) ?_
          refine gMsto (i := 2) (j := 5) (x := ((M1.a 2 5) + 1)) HZ (by decide) rfl rfl fun h1 HL1 fr1 => ?_
          refine g_aload_n (q := 26) C dX8_groupsTold_25 rfl rfl ?_
          refine g_iload_n (q := 27) C dX8_groupsTold_26 rfl rfl ?_
          refine g_iload_n (q := 28) C dX8_groupsTold_27 rfl rfl ?_
          refine g_callVip (q := 31) (As := [.int ((nI g)), .int w]) C gyX8_groupTold gvX8_groupTold t_1230 (c_X8_groupToldx_r (t := t) (r := ((0 : Int32), (R1.2.set 4 (nI g)).set 9 0)) HL1 (T1.k rK.put) (rM.grp RZ r0 (rGp hg1 (RZ.2 r0).1 w4)) w2 (fun a _ => w3 (rG1 ⟨hg1, by omega⟩ a))) dX8_groupsTold_28 rfl HL1.1 rfl rfl rfl (Nat.le_of_ble_eq_true rfl) (Nat.le_of_ble_eq_true rfl) (Nat.le_of_ble_eq_true rfl) (Nat.le_of_ble_eq_true rfl) (Nat.le_of_ble_eq_true rfl) rfl (fun x2 h2 z2 => ?_)
          obtain ⟨N2, M3, HN2, fn2, K2, RZ3, X2⟩ := z2
          refine g_istore (q := 33) C dX8_groupsTold_31 (Nat.le_of_ble_eq_true rfl) (by simp only [gset]; rfl) rfl ?_
          obtain ⟨R3, e3⟩ : ∃ R3, R3 = (rL t (nI g) w 2 (rL t (nI g) w 1 (rL t (nI g) w 0 (0, (R1.2.set 4 (nI g)).set 9 0)))) := ⟨_, rfl⟩
          rw [← e3] at hr RZ3
          have T3 : rT t M3 := by
            rcases X2 with ⟨-, -, e⟩ | ⟨-, b⟩
            · rw [← e]; exact (T1.k rK.put).k K2
            · exact (rT.bk b ((T1.k rK.put).k K2))
          have f9 : R3.1 = 0 → R3.2.f 9 = 0 := fun h => by
            rw [e3] at h ⊢
            rw [rL_9 (by decide) h, rL_9 (by decide) (rL_0 h), rL_9 (by decide) (rL_0 (rL_0 h))]; rfl
          have f4 : R3.1 = 0 → R3.2.f 4 = nI g := fun h => by
            rw [e3] at h ⊢
            rw [rL_4 h, rL_4 (rL_0 h), rL_4 (rL_0 (rL_0 h))]; rfl
          refine g_aload_n (q := 34) C dX8_groupsTold_33 rfl rfl ?_
          refine g_getfield (v := .int ((N2.f 22))) (q := 37) C fX8_86 dX8_groupsTold_34 rfl HN2.1 rfl ?_
          refine g_if_ne (t := 45) (q := 40) C dX8_groupsTold_37 (by decide) rfl (fun c_37 => ?_) (fun c_37 => ?_)
          ·
            have RN : rM t N2 (rL t (nI g) w 3 R3) := by
              rcases X2 with ⟨b8, -, eN⟩ | ⟨b8, bn⟩
              · rw [rL_1 (rB3n w2 b8), eN]; exact RZ3
              · rw [rL_b (rB3 w2 b8)]; exact rFin T3 RZ3 bn rfl (fun _ => rfl) (fun _ _ _ f _ => absurd f c_37)
            have ns : ¬ (rL t (nI g) w 3 R3).1 = 0 := fun h => c_37 (RN.1.1.trans h)
            exact E.2.1 _ _ _ _ _ dX8_groupsTold_45 rfl (Nat.le_of_ble_eq_true rfl) (Nat.le_of_ble_eq_true rfl) ⟨rfl, _, HN2, (gFM.trans (gFM.trans frz fr1) fn2), (KZ.trans rK.put).trans K2, by rw [hF, ← hr, rGs_st ns]; exact RN⟩
          ·
            refine g_iload (q := 42) C dX8_groupsTold_40 rfl rfl ?_
            refine g_if_ge (t := 46) (q := 45) C dX8_groupsTold_42 (by decide) rfl (fun c_42 => ?_) (fun c_42 => ?_)
            ·
              obtain ⟨b8, bn⟩ : ¬ w &&& 8 = 0 ∧ gBn M3 N2 x2 := by
                rcases X2 with ⟨-, e, -⟩ | h
                · rw [e] at c_42; exact absurd c_42 (by decide)
                · exact h
              have J142 : ∀ (D0 : gMd) (h0z : List gA), gMod h0z D0 → gFM hp h0z → D0 = nD (nC (nB (nA N2 (nI g) x2) (nI g) x2) (nI g) x2) (nI g) x2 → gG X 142 [some (.ref 122), some (.int y), some (.int w), some (.int ((nI g))), some (.int x2), some (.int ((x2 &&& 15)))] [] h0z 0 0 := by
                intro D0 h0z H0 fr0 eD
                have RN : rM t D0 (rL t (nI g) w 3 R3) := by rw [eD, rL_b (rB3 w2 b8)]; exact rl3 (by omega) (by omega) T3 RZ3 bn
                have KN : rK M D0 := by rw [eD]; exact ((((((KZ.trans rK.put).trans K2).trans nA.k).trans nB.k).trans nC.k).trans nD.k)
                refine g_iload (q := 144) C dX8_groupsTold_142 rfl rfl ?_
                refine g_iconst (v := 4) (q := 145) C dX8_groupsTold_144 (by decide) rfl ?_
                refine g_ishr (q := 146) C dX8_groupsTold_145 rfl ?_
                refine g_istore_n (q := 147) C dX8_groupsTold_146 (Nat.le_of_ble_eq_true rfl) (by simp only [gset]; rfl) rfl ?_
                refine g_iinc (v := (nI (g + 1))) (q := 150) C dX8_groupsTold_147 rfl (nI_1 g) (by simp only [gset]; rfl) rfl ?_
                refine g_goto (q := 4) C dX8_groupsTold_150 (by decide) ?_
                exact ih (g + 1) _ D0 _ _ _ _ (by omega) (by omega) H0 fr0 KN RN hr (fun h => ⟨(rL3_9 b8 w2 bn T3 RZ3 h).symm, rShr (rBx T3 RZ3 bn), fun e => absurd e (by omega), by rw [rL_4 h, f4 (rL_0 h)]; rfl, fun e => rL3_0 (by rw [show g = 4 by omega]; rfl) b8 w2 bn T3 RZ3 h⟩)
              have J117 : ∀ (D0 : gMd) (h0z : List gA), gMod h0z D0 → gFM hp h0z → D0 = nC (nB (nA N2 (nI g) x2) (nI g) x2) (nI g) x2 → gG X 117 [some (.ref 122), some (.int y), some (.int w), some (.int ((nI g))), some (.int x2), some (.int ((x2 &&& 15)))] [] h0z 0 0 := by
                intro D0 h0z H0 fr0 eD
                refine g_iload (q := 119) C dX8_groupsTold_117 rfl rfl ?_
                refine g_iconst (v := 1) (q := 120) C dX8_groupsTold_119 (by decide) rfl ?_
                refine g_icmp_ne (t := 142) (q := 123) C dX8_groupsTold_120 (by decide) rfl (fun c_120 => ?_) (fun c_120 => ?_)
                ·
                  have e : nD D0 (nI g) x2 = D0 := (if_neg c_120)
                  exact J142 (nD D0 (nI g) x2) _ (by rw [e]; exact H0) fr0 (by rw [eD])
                ·
                  refine g_iload_n (q := 124) C dX8_groupsTold_123 rfl rfl ?_
                  refine g_iconst (v := 1) (q := 125) C dX8_groupsTold_124 (by decide) rfl ?_
                  refine g_icmp_le (t := 142) (q := 128) C dX8_groupsTold_125 (by decide) rfl (fun c_125 => ?_) (fun c_125 => ?_)
                  ·
                    have e : nD D0 (nI g) x2 = D0 := ((if_pos c_120).trans (if_pos c_125))
                    exact J142 (nD D0 (nI g) x2) _ (by rw [e]; exact H0) fr0 (by rw [eD])
                  ·
                    refine g_aload_n (q := 129) C dX8_groupsTold_128 rfl rfl ?_
                    refine g_getfield (v := .int ((D0.f 23))) (q := 132) C fX8_113 dX8_groupsTold_129 rfl H0.1 rfl ?_
                    refine g_if_ne (t := 142) (q := 135) C dX8_groupsTold_132 (by decide) rfl (fun c_132 => ?_) (fun c_132 => ?_)
                    ·
                      have e : nD D0 (nI g) x2 = D0 := ((if_pos c_120).trans ((if_neg c_125).trans (if_neg c_132)))
                      exact J142 (nD D0 (nI g) x2) _ (by rw [e]; exact H0) fr0 (by rw [eD])
                    ·
                      refine g_aload_n (q := 136) C dX8_groupsTold_135 rfl rfl ?_
                      refine g_iload_n (q := 137) C dX8_groupsTold_136 rfl rfl ?_
                      refine g_iconst (v := 1) (q := 138) C dX8_groupsTold_137 (by decide) rfl ?_
                      refine g_iadd (q := 139) C dX8_groupsTold_138 rfl ?_
                      refine g_putfield (q := 142) C fX8_113 dX8_groupsTold_139 rfl H0.1 (Nat.le_of_ble_eq_true rfl) (Or.inl rfl) rfl rfl (by intro z h; cases h) ?_
                      refine gMput (j := 23) (x := ((nI g) + 1)) H0 rfl fun h3 HL3 fr3 => ?_
                      have e : nD D0 (nI g) x2 = (D0.set 23 ((nI g) + 1)) := ((if_pos c_120).trans ((if_neg c_125).trans (if_pos c_132)))
                      exact J142 (nD D0 (nI g) x2) _ (by rw [e]; exact HL3) (gFM.trans fr0 fr3) (by rw [eD])
              have J107 : ∀ (D0 : gMd) (h0z : List gA), gMod h0z D0 → gFM hp h0z → D0 = nB (nA N2 (nI g) x2) (nI g) x2 → gG X 107 [some (.ref 122), some (.int y), some (.int w), some (.int ((nI g))), some (.int x2), some (.int ((x2 &&& 15)))] [] h0z 0 0 := by
                intro D0 h0z H0 fr0 eD
                refine g_iload (q := 109) C dX8_groupsTold_107 rfl rfl ?_
                refine g_if_eq (t := 117) (q := 112) C dX8_groupsTold_109 (by decide) rfl (fun c_109 => ?_) (fun c_109 => ?_)
                ·
                  have e : nC D0 (nI g) x2 = D0 := (if_pos c_109)
                  exact J117 (nC D0 (nI g) x2) _ (by rw [e]; exact H0) fr0 (by rw [eD])
                ·
                  refine g_aload_n (q := 113) C dX8_groupsTold_112 rfl rfl ?_
                  refine g_iconst (v := 1) (q := 114) C dX8_groupsTold_113 (by decide) rfl ?_
                  refine g_putfield (q := 117) C fX8_123 dX8_groupsTold_114 rfl H0.1 (Nat.le_of_ble_eq_true rfl) (Or.inl rfl) rfl rfl (by intro z h; cases h) ?_
                  refine gMput (j := 24) (x := 1) H0 rfl fun h4 HL4 fr4 => ?_
                  have e : nC D0 (nI g) x2 = (D0.set 24 1) := (if_neg c_109)
                  exact J117 (nC D0 (nI g) x2) _ (by rw [e]; exact HL4) (gFM.trans fr0 fr4) (by rw [eD])
              have J94 : ∀ (D0 : gMd) (h0z : List gA), gMod h0z D0 → gFM hp h0z → D0 = nA N2 (nI g) x2 → gG X 94 [some (.ref 122), some (.int y), some (.int w), some (.int ((nI g))), some (.int x2), some (.int ((x2 &&& 15)))] [] h0z 0 0 := by
                intro D0 h0z H0 fr0 eD
                refine g_iload_n (q := 95) C dX8_groupsTold_94 rfl rfl ?_
                refine g_iconst (v := 1) (q := 96) C dX8_groupsTold_95 (by decide) rfl ?_
                refine g_icmp_ne (t := 107) (q := 99) C dX8_groupsTold_96 (by decide) rfl (fun c_96 => ?_) (fun c_96 => ?_)
                ·
                  have e : nB D0 (nI g) x2 = D0 := (if_neg c_96)
                  exact J107 (nB D0 (nI g) x2) _ (by rw [e]; exact H0) fr0 (by rw [eD])
                ·
                  refine g_aload_n (q := 100) C dX8_groupsTold_99 rfl rfl ?_
                  refine g_getfield (v := .ref 125) (q := 103) C fX8_16 dX8_groupsTold_100 rfl H0.1 rfl ?_
                  refine g_iconst (v := 4) (q := 104) C dX8_groupsTold_103 (by decide) rfl ?_
                  refine g_iload (q := 106) C dX8_groupsTold_104 rfl rfl ?_
                  refine g_iastoreN (j := 4) (q := 107) C dX8_groupsTold_106 rfl (H0.ar (i := 2) (n := 9) (by decide) rfl) (pk_in 4 9 (by decide)) (pk_cl 4) ?_
                  refine gMsto (i := 2) (j := 4) (x := (x2 &&& 15)) H0 (by decide) rfl rfl fun h5 HL5 fr5 => ?_
                  have e : nB D0 (nI g) x2 = (D0.put 2 4 (x2 &&& 15)) := (if_pos c_96)
                  exact J107 (nB D0 (nI g) x2) _ (by rw [e]; exact HL5) (gFM.trans fr0 fr5) (by rw [eD])
              refine g_iload (q := 48) C dX8_groupsTold_46 rfl rfl ?_
              refine g_bipush (v := 15) (q := 50) C dX8_groupsTold_48 (by decide) rfl ?_
              refine g_iand (q := 51) C dX8_groupsTold_50 rfl ?_
              refine g_istore (q := 53) C dX8_groupsTold_51 (Nat.le_of_ble_eq_true rfl) (by simp only [gset]; rfl) rfl ?_
              refine g_iload (q := 55) C dX8_groupsTold_53 rfl rfl ?_
              refine g_if_eq (t := 71) (q := 58) C dX8_groupsTold_55 (by decide) rfl (fun c_55 => ?_) (fun c_55 => ?_)
              ·
                refine g_iload_n (q := 72) C dX8_groupsTold_71 rfl rfl ?_
                refine g_iconst (v := 4) (q := 73) C dX8_groupsTold_72 (by decide) rfl ?_
                refine g_icmp_ne (t := 94) (q := 76) C dX8_groupsTold_73 (by decide) rfl (fun c_73 => ?_) (fun c_73 => ?_)
                ·
                  have e : nA N2 (nI g) x2 = N2 := ((if_pos c_55).trans (if_neg c_73))
                  exact J94 (nA N2 (nI g) x2) _ (by rw [e]; exact HN2) (gFM.trans (gFM.trans frz fr1) fn2) rfl
                ·
                  refine g_iload (q := 78) C dX8_groupsTold_76 rfl rfl ?_
                  refine g_iconst (v := 4) (q := 79) C dX8_groupsTold_78 (by decide) rfl ?_
                  refine g_ishr (q := 80) C dX8_groupsTold_79 rfl ?_
                  refine g_if_eq (t := 94) (q := 83) C dX8_groupsTold_80 (by decide) rfl (fun c_80 => ?_) (fun c_80 => ?_)
                  ·
                    have e : nA N2 (nI g) x2 = N2 := ((if_pos c_55).trans ((if_pos c_73).trans (if_pos c_80)))
                    exact J94 (nA N2 (nI g) x2) _ (by rw [e]; exact HN2) (gFM.trans (gFM.trans frz fr1) fn2) rfl
                  ·
                    refine g_aload_n (q := 84) C dX8_groupsTold_83 rfl rfl ?_
                    refine g_iconst (v := 3) (q := 85) C dX8_groupsTold_84 (by decide) rfl ?_
                    refine g_aload_n (q := 86) C dX8_groupsTold_85 rfl rfl ?_
                    refine g_getfield (v := .int ((N2.f 21))) (q := 89) C fX8_89 dX8_groupsTold_86 rfl HN2.1 rfl ?_
                    refine g_iconst (v := 1) (q := 90) C dX8_groupsTold_89 (by decide) rfl ?_
                    refine g_isub (q := 91) C dX8_groupsTold_90 rfl ?_
                    refine g_callVvp (q := 94) (As := [.int 3, .int (((N2.f 21) - 1))]) C gyX8_wrong gvX8_wrong t_1222 (c_X8_wrong_m HN2) dX8_groupsTold_91 rfl HN2.1 rfl rfl rfl (Nat.le_of_ble_eq_true rfl) (Nat.le_of_ble_eq_true rfl) (Nat.le_of_ble_eq_true rfl) (Nat.le_of_ble_eq_true rfl) (Nat.le_of_ble_eq_true rfl) rfl (fun h6 z6 => ?_)
                    obtain ⟨HL6, fr6⟩ := z6
                    have e : nA N2 (nI g) x2 = (rX8_wrong N2 3 ((N2.f 21) - 1)) := ((if_pos c_55).trans ((if_pos c_73).trans (if_neg c_80)))
                    exact J94 (nA N2 (nI g) x2) _ (by rw [e]; exact HL6) (gFM.trans (gFM.trans (gFM.trans frz fr1) fn2) fr6) rfl
              ·
                refine g_iload (q := 60) C dX8_groupsTold_58 rfl rfl ?_
                refine g_iconst (v := 1) (q := 61) C dX8_groupsTold_60 (by decide) rfl ?_
                refine g_icmp_eq (t := 71) (q := 64) C dX8_groupsTold_61 (by decide) rfl (fun c_61 => ?_) (fun c_61 => ?_)
                ·
                  refine g_iload_n (q := 72) C dX8_groupsTold_71 rfl rfl ?_
                  refine g_iconst (v := 4) (q := 73) C dX8_groupsTold_72 (by decide) rfl ?_
                  refine g_icmp_ne (t := 94) (q := 76) C dX8_groupsTold_73 (by decide) rfl (fun c_73 => ?_) (fun c_73 => ?_)
                  ·
                    have e : nA N2 (nI g) x2 = N2 := ((if_neg c_55).trans ((if_pos c_61).trans (if_neg c_73)))
                    exact J94 (nA N2 (nI g) x2) _ (by rw [e]; exact HN2) (gFM.trans (gFM.trans frz fr1) fn2) rfl
                  ·
                    refine g_iload (q := 78) C dX8_groupsTold_76 rfl rfl ?_
                    refine g_iconst (v := 4) (q := 79) C dX8_groupsTold_78 (by decide) rfl ?_
                    refine g_ishr (q := 80) C dX8_groupsTold_79 rfl ?_
                    refine g_if_eq (t := 94) (q := 83) C dX8_groupsTold_80 (by decide) rfl (fun c_80 => ?_) (fun c_80 => ?_)
                    ·
                      have e : nA N2 (nI g) x2 = N2 := ((if_neg c_55).trans ((if_pos c_61).trans ((if_pos c_73).trans (if_pos c_80))))
                      exact J94 (nA N2 (nI g) x2) _ (by rw [e]; exact HN2) (gFM.trans (gFM.trans frz fr1) fn2) rfl
                    ·
                      refine g_aload_n (q := 84) C dX8_groupsTold_83 rfl rfl ?_
                      refine g_iconst (v := 3) (q := 85) C dX8_groupsTold_84 (by decide) rfl ?_
                      refine g_aload_n (q := 86) C dX8_groupsTold_85 rfl rfl ?_
                      refine g_getfield (v := .int ((N2.f 21))) (q := 89) C fX8_89 dX8_groupsTold_86 rfl HN2.1 rfl ?_
                      refine g_iconst (v := 1) (q := 90) C dX8_groupsTold_89 (by decide) rfl ?_
                      refine g_isub (q := 91) C dX8_groupsTold_90 rfl ?_
                      refine g_callVvp (q := 94) (As := [.int 3, .int (((N2.f 21) - 1))]) C gyX8_wrong gvX8_wrong t_1222 (c_X8_wrong_m HN2) dX8_groupsTold_91 rfl HN2.1 rfl rfl rfl (Nat.le_of_ble_eq_true rfl) (Nat.le_of_ble_eq_true rfl) (Nat.le_of_ble_eq_true rfl) (Nat.le_of_ble_eq_true rfl) (Nat.le_of_ble_eq_true rfl) rfl (fun h7 z7 => ?_)
                      obtain ⟨HL7, fr7⟩ := z7
                      have e : nA N2 (nI g) x2 = (rX8_wrong N2 3 ((N2.f 21) - 1)) := ((if_neg c_55).trans ((if_pos c_61).trans ((if_pos c_73).trans (if_neg c_80))))
                      exact J94 (nA N2 (nI g) x2) _ (by rw [e]; exact HL7) (gFM.trans (gFM.trans (gFM.trans frz fr1) fn2) fr7) rfl
                ·
                  refine g_iload (q := 66) C dX8_groupsTold_64 rfl rfl ?_
                  refine g_bipush (v := 15) (q := 68) C dX8_groupsTold_66 (by decide) rfl ?_
                  refine g_icmp_ne (t := 83) (q := 71) C dX8_groupsTold_68 (by decide) rfl (fun c_68 => ?_) (fun c_68 => ?_)
                  ·
                    refine g_aload_n (q := 84) C dX8_groupsTold_83 rfl rfl ?_
                    refine g_iconst (v := 3) (q := 85) C dX8_groupsTold_84 (by decide) rfl ?_
                    refine g_aload_n (q := 86) C dX8_groupsTold_85 rfl rfl ?_
                    refine g_getfield (v := .int ((N2.f 21))) (q := 89) C fX8_89 dX8_groupsTold_86 rfl HN2.1 rfl ?_
                    refine g_iconst (v := 1) (q := 90) C dX8_groupsTold_89 (by decide) rfl ?_
                    refine g_isub (q := 91) C dX8_groupsTold_90 rfl ?_
                    refine g_callVvp (q := 94) (As := [.int 3, .int (((N2.f 21) - 1))]) C gyX8_wrong gvX8_wrong t_1222 (c_X8_wrong_m HN2) dX8_groupsTold_91 rfl HN2.1 rfl rfl rfl (Nat.le_of_ble_eq_true rfl) (Nat.le_of_ble_eq_true rfl) (Nat.le_of_ble_eq_true rfl) (Nat.le_of_ble_eq_true rfl) (Nat.le_of_ble_eq_true rfl) rfl (fun h8 z8 => ?_)
                    obtain ⟨HL8, fr8⟩ := z8
                    have e : nA N2 (nI g) x2 = (rX8_wrong N2 3 ((N2.f 21) - 1)) := ((if_neg c_55).trans ((if_neg c_61).trans (if_neg c_68)))
                    exact J94 (nA N2 (nI g) x2) _ (by rw [e]; exact HL8) (gFM.trans (gFM.trans (gFM.trans frz fr1) fn2) fr8) rfl
                  ·
                    refine g_iload_n (q := 72) C dX8_groupsTold_71 rfl rfl ?_
                    refine g_iconst (v := 4) (q := 73) C dX8_groupsTold_72 (by decide) rfl ?_
                    refine g_icmp_ne (t := 94) (q := 76) C dX8_groupsTold_73 (by decide) rfl (fun c_73 => ?_) (fun c_73 => ?_)
                    ·
                      have e : nA N2 (nI g) x2 = N2 := ((if_neg c_55).trans ((if_neg c_61).trans ((if_pos c_68).trans (if_neg c_73))))
                      exact J94 (nA N2 (nI g) x2) _ (by rw [e]; exact HN2) (gFM.trans (gFM.trans frz fr1) fn2) rfl
                    ·
                      refine g_iload (q := 78) C dX8_groupsTold_76 rfl rfl ?_
                      refine g_iconst (v := 4) (q := 79) C dX8_groupsTold_78 (by decide) rfl ?_
                      refine g_ishr (q := 80) C dX8_groupsTold_79 rfl ?_
                      refine g_if_eq (t := 94) (q := 83) C dX8_groupsTold_80 (by decide) rfl (fun c_80 => ?_) (fun c_80 => ?_)
                      ·
                        have e : nA N2 (nI g) x2 = N2 := ((if_neg c_55).trans ((if_neg c_61).trans ((if_pos c_68).trans ((if_pos c_73).trans (if_pos c_80)))))
                        exact J94 (nA N2 (nI g) x2) _ (by rw [e]; exact HN2) (gFM.trans (gFM.trans frz fr1) fn2) rfl
                      ·
                        refine g_aload_n (q := 84) C dX8_groupsTold_83 rfl rfl ?_
                        refine g_iconst (v := 3) (q := 85) C dX8_groupsTold_84 (by decide) rfl ?_
                        refine g_aload_n (q := 86) C dX8_groupsTold_85 rfl rfl ?_
                        refine g_getfield (v := .int ((N2.f 21))) (q := 89) C fX8_89 dX8_groupsTold_86 rfl HN2.1 rfl ?_
                        refine g_iconst (v := 1) (q := 90) C dX8_groupsTold_89 (by decide) rfl ?_
                        refine g_isub (q := 91) C dX8_groupsTold_90 rfl ?_
                        refine g_callVvp (q := 94) (As := [.int 3, .int (((N2.f 21) - 1))]) C gyX8_wrong gvX8_wrong t_1222 (c_X8_wrong_m HN2) dX8_groupsTold_91 rfl HN2.1 rfl rfl rfl (Nat.le_of_ble_eq_true rfl) (Nat.le_of_ble_eq_true rfl) (Nat.le_of_ble_eq_true rfl) (Nat.le_of_ble_eq_true rfl) (Nat.le_of_ble_eq_true rfl) rfl (fun h9 z9 => ?_)
                        obtain ⟨HL9, fr9⟩ := z9
                        have e : nA N2 (nI g) x2 = (rX8_wrong N2 3 ((N2.f 21) - 1)) := ((if_neg c_55).trans ((if_neg c_61).trans ((if_pos c_68).trans ((if_pos c_73).trans (if_neg c_80)))))
                        exact J94 (nA N2 (nI g) x2) _ (by rw [e]; exact HL9) (gFM.trans (gFM.trans (gFM.trans frz fr1) fn2) fr9) rfl
              
            ·
              rcases X2 with ⟨b8, -, eN⟩ | ⟨b8, bn⟩
              · have r3 : R3.1 = 0 := by rw [← RZ3.1.1, ← eN]; exact c_37
                have e : rL t (nI g) w 3 R3 = R3 := rL_1 (rB3n w2 b8)
                have e2 : rGs t n (g + 1) R3 = R3 := rGs_0 (f9 r3)
                exact E.2.1 _ _ _ _ _ dX8_groupsTold_45 rfl (Nat.le_of_ble_eq_true rfl) (Nat.le_of_ble_eq_true rfl) ⟨rfl, _, HN2, (gFM.trans (gFM.trans frz fr1) fn2), (KZ.trans rK.put).trans K2, by rw [hF, ← hr, e, e2, eN]; exact RZ3⟩
              · exact absurd (rBx T3 RZ3 bn) (fun h => c_42 (rGe0 h))
          
  exact LL 4 1 y M r _ _ hp rfl (by decide) HM gFM.rf rK.rf RZ hF (fun h => ⟨(hy h).1, (hy h).2.1, fun _ => (hy h).2.2.1, (hy h).2.2.2, fun e => absurd e (by decide)⟩)
  
