/-- what stands when no fault came behind the historical bytes -/
theorem rFinQ {t : List Int32} {s : Int32 × (rq × List Int32)} (h : s.1 = 0) (z : (rE t (rC t s)).1 = 0) : (∀ k, ¬ k = 8 → (rE t (rC t s)).2.1.f k = s.2.1.f k) ∧ (rE t (rC t s)).2.2 = s.2.2 := by
  have hc : (rC t s).1 = 0 → (∀ k, ¬ k = 8 → (rC t s).2.1.f k = s.2.1.f k) ∧ (rC t s).2.2 = s.2.2 := by
    unfold rC
    rw [if_pos h]
    by_cases a : s.2.1.f 6 = 0
    · rw [if_pos a]; exact fun _ => ⟨fun _ _ => rfl, rfl⟩
    · rw [if_neg a]
      by_cases b : nI t.length ≤ s.2.1.f 8
      · rw [if_pos b]; exact fun _ => ⟨fun _ _ => rfl, rfl⟩
      · rw [if_neg b]
        by_cases c : rXo t (s.2.1.f 8).toNatClampNeg = 0
        · rw [if_pos c]; exact fun _ => ⟨fun k hk => rq.set_n hk, rfl⟩
        · rw [if_neg c]; exact fun _ => ⟨fun _ _ => rfl, rfl⟩
  by_cases c : (rC t s).1 = 0
  · have e := hc c
    revert z
    unfold rE
    rw [if_pos c]
    by_cases d : nI t.length ≤ (rC t s).2.1.f 8
    · rw [if_pos d]; exact fun _ => e
    · rw [if_neg d]; exact fun _ => e
  · rw [rE_st c] at z
    exact absurd z c
set_option maxRecDepth 100000 in
set_option maxHeartbeats 4000000 in
theorem c_X8_resetx_r {hp : List gA} {M : gMd} {t : List Int32} {Q : rq} (HM : gMod hp M) (ht : M.f 1 = nI t.length) (hl : t.length ≤ 96) (hc : ∀ q, q < t.length → M.a 0 q = t.getD q 0) (hb : ∀ q, gIr (M.a 0 q) 255) : gM yX8_reset cX8_reset 4 ((some .int)) 5 111 [.ref 122] (hp) (0) (0) (fun v h => ∃ x, v = some (.int x) ∧ ∃ M', gMod h M' ∧ gFM hp h ∧ gRs M M' ∧ rOut t Q M M' x) := by
  refine gM_of (ls0 := [some (.ref 122), none, none, none]) (by decide +kernel) (Nat.le_of_ble_eq_true rfl) rfl fun X C E => ?_
  have T0 : ∀ N : gMd, N.f 20 = M.f 1 → (∀ q, N.a 0 q = M.a 0 q) → rT t N := fun N e1 e2 => ⟨e1.trans ht, hl, fun q hq => (e2 q).trans (hc q hq), fun q => by rw [e2 q]; exact hb q⟩
  refine g_aload_n (q := 1) C dX8_reset_0 rfl rfl ?_
  refine g_iconst (v := 0) (q := 2) C dX8_reset_1 (by decide) rfl ?_
  refine g_putfield (q := 5) C fX8_66 dX8_reset_2 rfl HM.1 (Nat.le_of_ble_eq_true rfl) (Or.inl rfl) rfl rfl (by intro z h; cases h) ?_
  refine gMput (j := 2) (x := 0) HM rfl fun h1 HL1 fr1 => ?_
  refine g_aload_n (q := 6) C dX8_reset_5 rfl rfl ?_
  refine g_aload_n (q := 7) C dX8_reset_6 rfl rfl ?_
  refine g_getfield (v := .int ((M.f 1))) (q := 10) C fX8_75 dX8_reset_7 rfl HL1.1 rfl ?_
  refine g_putfield (q := 13) C fX8_92 dX8_reset_10 rfl HL1.1 (Nat.le_of_ble_eq_true rfl) (Or.inl rfl) rfl rfl (by intro z h; cases h) ?_
  refine gMput (j := 20) (x := (M.f 1)) HL1 rfl fun h2 HL2 fr2 => ?_
  refine g_aload_n (q := 14) C dX8_reset_13 rfl rfl ?_
  refine g_iconst (v := 0) (q := 15) C dX8_reset_14 (by decide) rfl ?_
  refine g_putfield (q := 18) C fX8_75 dX8_reset_15 rfl HL2.1 (Nat.le_of_ble_eq_true rfl) (Or.inl rfl) rfl rfl (by intro z h; cases h) ?_
  refine gMput (j := 1) (x := 0) HL2 rfl fun h3 HL3 fr3 => ?_
  refine g_aload_n (q := 19) C dX8_reset_18 rfl rfl ?_
  refine g_iconst (v := 0) (q := 20) C dX8_reset_19 (by decide) rfl ?_
  refine g_putfield (q := 23) C fX8_89 dX8_reset_20 rfl HL3.1 (Nat.le_of_ble_eq_true rfl) (Or.inl rfl) rfl rfl (by intro z h; cases h) ?_
  refine gMput (j := 21) (x := 0) HL3 rfl fun h4 HL4 fr4 => ?_
  refine g_aload_n (q := 24) C dX8_reset_23 rfl rfl ?_
  refine g_iconst (v := 0) (q := 25) C dX8_reset_24 (by decide) rfl ?_
  refine g_putfield (q := 28) C fX8_86 dX8_reset_25 rfl HL4.1 (Nat.le_of_ble_eq_true rfl) (Or.inl rfl) rfl rfl (by intro z h; cases h) ?_
  refine gMput (j := 22) (x := 0) HL4 rfl fun h5 HL5 fr5 => ?_
  refine g_aload_n (q := 29) C dX8_reset_28 rfl rfl ?_
  refine g_iconst (v := 0) (q := 30) C dX8_reset_29 (by decide) rfl ?_
  refine g_putfield (q := 33) C fX8_113 dX8_reset_30 rfl HL5.1 (Nat.le_of_ble_eq_true rfl) (Or.inl rfl) rfl rfl (by intro z h; cases h) ?_
  refine gMput (j := 23) (x := 0) HL5 rfl fun h6 HL6 fr6 => ?_
  refine g_aload_n (q := 34) C dX8_reset_33 rfl rfl ?_
  refine g_iconst (v := 0) (q := 35) C dX8_reset_34 (by decide) rfl ?_
  refine g_putfield (q := 38) C fX8_123 dX8_reset_35 rfl HL6.1 (Nat.le_of_ble_eq_true rfl) (Or.inl rfl) rfl rfl (by intro z h; cases h) ?_
  refine gMput (j := 24) (x := 0) HL6 rfl fun h7 HL7 fr7 => ?_
  refine g_iconst (v := 0) (q := 39) C dX8_reset_38 (by decide) rfl ?_
  refine g_istore_n (q := 40) C dX8_reset_39 (Nat.le_of_ble_eq_true rfl) (by simp only [gset]; rfl) rfl ?_
  refine g_iload_n (q := 41) C dX8_reset_40 rfl rfl ?_
  refine g_bipush (v := 9) (q := 43) C dX8_reset_41 (by decide) rfl ?_
  refine g_icmp_ge_f (t := 59) (q := 46) C dX8_reset_43 (by decide) rfl (by decide) ?_
  refine g_aload_n (q := 47) C dX8_reset_46 rfl rfl ?_
  refine g_getfield (v := .ref 125) (q := 50) C fX8_16 dX8_reset_47 rfl HL7.1 rfl ?_
  refine g_iload_n (q := 51) C dX8_reset_50 rfl rfl ?_
  refine g_iconst (v := 0) (q := 52) C dX8_reset_51 (by decide) rfl ?_
  refine g_iastoreN (j := 0) (q := 53) C dX8_reset_52 rfl (HL7.ar (i := 2) (n := 9) (by decide) rfl) (pk_in 0 9 (by decide)) (pk_cl 0) ?_
  refine gMsto (i := 2) (j := 0) (x := 0) HL7 (by decide) rfl rfl fun h8 HL8 fr8 => ?_
  refine g_iinc (v := 1) (q := 56) C dX8_reset_53 rfl (by decide) (by simp only [gset]; rfl) rfl ?_
  refine g_goto (q := 40) C dX8_reset_56 (by decide) ?_
  refine g_iload_n (q := 41) C dX8_reset_40 rfl rfl ?_
  refine g_bipush (v := 9) (q := 43) C dX8_reset_41 (by decide) rfl ?_
  refine g_icmp_ge_f (t := 59) (q := 46) C dX8_reset_43 (by decide) rfl (by decide) ?_
  refine g_aload_n (q := 47) C dX8_reset_46 rfl rfl ?_
  refine g_getfield (v := .ref 125) (q := 50) C fX8_16 dX8_reset_47 rfl HL8.1 rfl ?_
  refine g_iload_n (q := 51) C dX8_reset_50 rfl rfl ?_
  refine g_iconst (v := 0) (q := 52) C dX8_reset_51 (by decide) rfl ?_
  refine g_iastoreN (j := 1) (q := 53) C dX8_reset_52 rfl (HL8.ar (i := 2) (n := 9) (by decide) rfl) (pk_in 1 9 (by decide)) (pk_cl 1) ?_
  refine gMsto (i := 2) (j := 1) (x := 0) HL8 (by decide) rfl rfl fun h9 HL9 fr9 => ?_
  refine g_iinc (v := 2) (q := 56) C dX8_reset_53 rfl (by decide) (by simp only [gset]; rfl) rfl ?_
  refine g_goto (q := 40) C dX8_reset_56 (by decide) ?_
  refine g_iload_n (q := 41) C dX8_reset_40 rfl rfl ?_
  refine g_bipush (v := 9) (q := 43) C dX8_reset_41 (by decide) rfl ?_
  refine g_icmp_ge_f (t := 59) (q := 46) C dX8_reset_43 (by decide) rfl (by decide) ?_
  refine g_aload_n (q := 47) C dX8_reset_46 rfl rfl ?_
  refine g_getfield (v := .ref 125) (q := 50) C fX8_16 dX8_reset_47 rfl HL9.1 rfl ?_
  refine g_iload_n (q := 51) C dX8_reset_50 rfl rfl ?_
  refine g_iconst (v := 0) (q := 52) C dX8_reset_51 (by decide) rfl ?_
  refine g_iastoreN (j := 2) (q := 53) C dX8_reset_52 rfl (HL9.ar (i := 2) (n := 9) (by decide) rfl) (pk_in 2 9 (by decide)) (pk_cl 2) ?_
  refine gMsto (i := 2) (j := 2) (x := 0) HL9 (by decide) rfl rfl fun h10 HL10 fr10 => ?_
  refine g_iinc (v := 3) (q := 56) C dX8_reset_53 rfl (by decide) (by simp only [gset]; rfl) rfl ?_
  refine g_goto (q := 40) C dX8_reset_56 (by decide) ?_
  refine g_iload_n (q := 41) C dX8_reset_40 rfl rfl ?_
  refine g_bipush (v := 9) (q := 43) C dX8_reset_41 (by decide) rfl ?_
  refine g_icmp_ge_f (t := 59) (q := 46) C dX8_reset_43 (by decide) rfl (by decide) ?_
  refine g_aload_n (q := 47) C dX8_reset_46 rfl rfl ?_
  refine g_getfield (v := .ref 125) (q := 50) C fX8_16 dX8_reset_47 rfl HL10.1 rfl ?_
  refine g_iload_n (q := 51) C dX8_reset_50 rfl rfl ?_
  refine g_iconst (v := 0) (q := 52) C dX8_reset_51 (by decide) rfl ?_
  refine g_iastoreN (j := 3) (q := 53) C dX8_reset_52 rfl (HL10.ar (i := 2) (n := 9) (by decide) rfl) (pk_in 3 9 (by decide)) (pk_cl 3) ?_
  refine gMsto (i := 2) (j := 3) (x := 0) HL10 (by decide) rfl rfl fun h11 HL11 fr11 => ?_
  refine g_iinc (v := 4) (q := 56) C dX8_reset_53 rfl (by decide) (by simp only [gset]; rfl) rfl ?_
  refine g_goto (q := 40) C dX8_reset_56 (by decide) ?_
  refine g_iload_n (q := 41) C dX8_reset_40 rfl rfl ?_
  refine g_bipush (v := 9) (q := 43) C dX8_reset_41 (by decide) rfl ?_
  refine g_icmp_ge_f (t := 59) (q := 46) C dX8_reset_43 (by decide) rfl (by decide) ?_
  refine g_aload_n (q := 47) C dX8_reset_46 rfl rfl ?_
  refine g_getfield (v := .ref 125) (q := 50) C fX8_16 dX8_reset_47 rfl HL11.1 rfl ?_
  refine g_iload_n (q := 51) C dX8_reset_50 rfl rfl ?_
  refine g_iconst (v := 0) (q := 52) C dX8_reset_51 (by decide) rfl ?_
  refine g_iastoreN (j := 4) (q := 53) C dX8_reset_52 rfl (HL11.ar (i := 2) (n := 9) (by decide) rfl) (pk_in 4 9 (by decide)) (pk_cl 4) ?_
  refine gMsto (i := 2) (j := 4) (x := 0) HL11 (by decide) rfl rfl fun h12 HL12 fr12 => ?_
  refine g_iinc (v := 5) (q := 56) C dX8_reset_53 rfl (by decide) (by simp only [gset]; rfl) rfl ?_
  refine g_goto (q := 40) C dX8_reset_56 (by decide) ?_
  refine g_iload_n (q := 41) C dX8_reset_40 rfl rfl ?_
  refine g_bipush (v := 9) (q := 43) C dX8_reset_41 (by decide) rfl ?_
  refine g_icmp_ge_f (t := 59) (q := 46) C dX8_reset_43 (by decide) rfl (by decide) ?_
  refine g_aload_n (q := 47) C dX8_reset_46 rfl rfl ?_
  refine g_getfield (v := .ref 125) (q := 50) C fX8_16 dX8_reset_47 rfl HL12.1 rfl ?_
  refine g_iload_n (q := 51) C dX8_reset_50 rfl rfl ?_
  refine g_iconst (v := 0) (q := 52) C dX8_reset_51 (by decide) rfl ?_
  refine g_iastoreN (j := 5) (q := 53) C dX8_reset_52 rfl (HL12.ar (i := 2) (n := 9) (by decide) rfl) (pk_in 5 9 (by decide)) (pk_cl 5) ?_
  refine gMsto (i := 2) (j := 5) (x := 0) HL12 (by decide) rfl rfl fun h13 HL13 fr13 => ?_
  refine g_iinc (v := 6) (q := 56) C dX8_reset_53 rfl (by decide) (by simp only [gset]; rfl) rfl ?_
  refine g_goto (q := 40) C dX8_reset_56 (by decide) ?_
  refine g_iload_n (q := 41) C dX8_reset_40 rfl rfl ?_
  refine g_bipush (v := 9) (q := 43) C dX8_reset_41 (by decide) rfl ?_
  refine g_icmp_ge_f (t := 59) (q := 46) C dX8_reset_43 (by decide) rfl (by decide) ?_
  refine g_aload_n (q := 47) C dX8_reset_46 rfl rfl ?_
  refine g_getfield (v := .ref 125) (q := 50) C fX8_16 dX8_reset_47 rfl HL13.1 rfl ?_
  refine g_iload_n (q := 51) C dX8_reset_50 rfl rfl ?_
  refine g_iconst (v := 0) (q := 52) C dX8_reset_51 (by decide) rfl ?_
  refine g_iastoreN (j := 6) (q := 53) C dX8_reset_52 rfl (HL13.ar (i := 2) (n := 9) (by decide) rfl) (pk_in 6 9 (by decide)) (pk_cl 6) ?_
  refine gMsto (i := 2) (j := 6) (x := 0) HL13 (by decide) rfl rfl fun h14 HL14 fr14 => ?_
  refine g_iinc (v := 7) (q := 56) C dX8_reset_53 rfl (by decide) (by simp only [gset]; rfl) rfl ?_
  refine g_goto (q := 40) C dX8_reset_56 (by decide) ?_
  refine g_iload_n (q := 41) C dX8_reset_40 rfl rfl ?_
  refine g_bipush (v := 9) (q := 43) C dX8_reset_41 (by decide) rfl ?_
  refine g_icmp_ge_f (t := 59) (q := 46) C dX8_reset_43 (by decide) rfl (by decide) ?_
  refine g_aload_n (q := 47) C dX8_reset_46 rfl rfl ?_
  refine g_getfield (v := .ref 125) (q := 50) C fX8_16 dX8_reset_47 rfl HL14.1 rfl ?_
  refine g_iload_n (q := 51) C dX8_reset_50 rfl rfl ?_
  refine g_iconst (v := 0) (q := 52) C dX8_reset_51 (by decide) rfl ?_
  refine g_iastoreN (j := 7) (q := 53) C dX8_reset_52 rfl (HL14.ar (i := 2) (n := 9) (by decide) rfl) (pk_in 7 9 (by decide)) (pk_cl 7) ?_
  refine gMsto (i := 2) (j := 7) (x := 0) HL14 (by decide) rfl rfl fun h15 HL15 fr15 => ?_
  refine g_iinc (v := 8) (q := 56) C dX8_reset_53 rfl (by decide) (by simp only [gset]; rfl) rfl ?_
  refine g_goto (q := 40) C dX8_reset_56 (by decide) ?_
  refine g_iload_n (q := 41) C dX8_reset_40 rfl rfl ?_
  refine g_bipush (v := 9) (q := 43) C dX8_reset_41 (by decide) rfl ?_
  refine g_icmp_ge_f (t := 59) (q := 46) C dX8_reset_43 (by decide) rfl (by decide) ?_
  refine g_aload_n (q := 47) C dX8_reset_46 rfl rfl ?_
  refine g_getfield (v := .ref 125) (q := 50) C fX8_16 dX8_reset_47 rfl HL15.1 rfl ?_
  refine g_iload_n (q := 51) C dX8_reset_50 rfl rfl ?_
  refine g_iconst (v := 0) (q := 52) C dX8_reset_51 (by decide) rfl ?_
  refine g_iastoreN (j := 8) (q := 53) C dX8_reset_52 rfl (HL15.ar (i := 2) (n := 9) (by decide) rfl) (pk_in 8 9 (by decide)) (pk_cl 8) ?_
  refine gMsto (i := 2) (j := 8) (x := 0) HL15 (by decide) rfl rfl fun h16 HL16 fr16 => ?_
  refine g_iinc (v := 9) (q := 56) C dX8_reset_53 rfl (by decide) (by simp only [gset]; rfl) rfl ?_
  refine g_goto (q := 40) C dX8_reset_56 (by decide) ?_
  refine g_iload_n (q := 41) C dX8_reset_40 rfl rfl ?_
  refine g_bipush (v := 9) (q := 43) C dX8_reset_41 (by decide) rfl ?_
  refine g_icmp_ge_t (t := 59) C dX8_reset_43 (by decide) (by decide) ?_
  refine g_aload_n (q := 60) C dX8_reset_59 rfl rfl ?_
  refine g_getfield (v := .ref 125) (q := 63) C fX8_16 dX8_reset_60 rfl HL16.1 rfl ?_
  refine g_iconst (v := 1) (q := 64) C dX8_reset_63 (by decide) rfl ?_
  refine g_sipush (v := 372) (q := 67) C dX8_reset_64 (by decide) rfl ?_
  refine g_iastoreN (j := 1) (q := 68) C dX8_reset_67 rfl (HL16.ar (i := 2) (n := 9) (by decide) rfl) (pk_in 1 9 (by decide)) (pk_cl 1) ?_
  refine gMsto (i := 2) (j := 1) (x := 372) HL16 (by decide) rfl rfl fun h17 HL17 fr17 => ?_
  refine g_aload_n (q := 69) C dX8_reset_68 rfl rfl ?_
  refine g_getfield (v := .ref 125) (q := 72) C fX8_16 dX8_reset_69 rfl HL17.1 rfl ?_
  refine g_iconst (v := 2) (q := 73) C dX8_reset_72 (by decide) rfl ?_
  refine g_iconst (v := 1) (q := 74) C dX8_reset_73 (by decide) rfl ?_
  refine g_iastoreN (j := 2) (q := 75) C dX8_reset_74 rfl (HL17.ar (i := 2) (n := 9) (by decide) rfl) (pk_in 2 9 (by decide)) (pk_cl 2) ?_
  refine gMsto (i := 2) (j := 2) (x := 1) HL17 (by decide) rfl rfl fun h18 HL18 fr18 => ?_
  refine g_aload_n (q := 76) C dX8_reset_75 rfl rfl ?_
  refine g_getfield (v := .ref 125) (q := 79) C fX8_16 dX8_reset_76 rfl HL18.1 rfl ?_
  refine g_bipush (v := 7) (q := 81) C dX8_reset_79 (by decide) rfl ?_
  refine g_bipush (v := 32) (q := 83) C dX8_reset_81 (by decide) rfl ?_
  refine g_iastoreN (j := 7) (q := 84) C dX8_reset_83 rfl (HL18.ar (i := 2) (n := 9) (by decide) rfl) (pk_in 7 9 (by decide)) (pk_cl 7) ?_
  refine gMsto (i := 2) (j := 7) (x := 32) HL18 (by decide) rfl rfl fun h19 HL19 fr19 => ?_
  obtain ⟨MB, eB⟩ : ∃ MB, MB = (((((((((((((((((((M.set 2 0).set 20 (M.f 1)).set 1 0).set 21 0).set 22 0).set 23 0).set 24 0).put 2 0 0).put 2 1 0).put 2 2 0).put 2 3 0).put 2 4 0).put 2 5 0).put 2 6 0).put 2 7 0).put 2 8 0).put 2 1 372).put 2 2 1).put 2 7 32) := ⟨_, rfl⟩
  have HB9 : gMod h19 MB := by rw [eB]; exact HL19
  have frB : gFM hp h19 := (gFM.trans (gFM.trans (gFM.trans (gFM.trans (gFM.trans (gFM.trans (gFM.trans (gFM.trans (gFM.trans (gFM.trans (gFM.trans (gFM.trans (gFM.trans (gFM.trans (gFM.trans (gFM.trans (gFM.trans (gFM.trans fr1 fr2) fr3) fr4) fr5) fr6) fr7) fr8) fr9) fr10) fr11) fr12) fr13) fr14) fr15) fr16) fr17) fr18) fr19)
  have fB : ∀ k, ¬ k = 1 → ¬ k = 2 → ¬ k = 20 → ¬ k = 21 → ¬ k = 22 → ¬ k = 23 → ¬ k = 24 → MB.f k = M.f k := fun k h1 h2 h20 h21 h22 h23 h24 => by rw [eB]; simp only [gput_f]; rw [gset_n h24, gset_n h23, gset_n h22, gset_n h21, gset_n h1, gset_n h20, gset_n h2]
  have aB : ∀ i q, ¬ i = 2 → MB.a i q = M.a i q := fun i q h => by rw [eB]; simp only [gput_o h, gset_a]
  have f1 : MB.f 1 = 0 := by rw [eB]; exact (gput_f.trans (gput_f.trans (gput_f.trans (gput_f.trans (gput_f.trans (gput_f.trans (gput_f.trans (gput_f.trans (gput_f.trans (gput_f.trans (gput_f.trans (gput_f.trans ((gset_n (by decide)).trans ((gset_n (by decide)).trans ((gset_n (by decide)).trans ((gset_n (by decide)).trans gset_s))))))))))))))))
  have f20 : MB.f 20 = (M.f 1) := by rw [eB]; exact (gput_f.trans (gput_f.trans (gput_f.trans (gput_f.trans (gput_f.trans (gput_f.trans (gput_f.trans (gput_f.trans (gput_f.trans (gput_f.trans (gput_f.trans (gput_f.trans ((gset_n (by decide)).trans ((gset_n (by decide)).trans ((gset_n (by decide)).trans ((gset_n (by decide)).trans ((gset_n (by decide)).trans gset_s)))))))))))))))))
  have f21 : MB.f 21 = 0 := by rw [eB]; exact (gput_f.trans (gput_f.trans (gput_f.trans (gput_f.trans (gput_f.trans (gput_f.trans (gput_f.trans (gput_f.trans (gput_f.trans (gput_f.trans (gput_f.trans (gput_f.trans ((gset_n (by decide)).trans ((gset_n (by decide)).trans ((gset_n (by decide)).trans gset_s)))))))))))))))
  have f22 : MB.f 22 = 0 := by rw [eB]; exact (gput_f.trans (gput_f.trans (gput_f.trans (gput_f.trans (gput_f.trans (gput_f.trans (gput_f.trans (gput_f.trans (gput_f.trans (gput_f.trans (gput_f.trans (gput_f.trans ((gset_n (by decide)).trans ((gset_n (by decide)).trans gset_s))))))))))))))
  have f23 : MB.f 23 = 0 := by rw [eB]; exact (gput_f.trans (gput_f.trans (gput_f.trans (gput_f.trans (gput_f.trans (gput_f.trans (gput_f.trans (gput_f.trans (gput_f.trans (gput_f.trans (gput_f.trans (gput_f.trans ((gset_n (by decide)).trans gset_s)))))))))))))
  have f24 : MB.f 24 = 0 := by rw [eB]; exact (gput_f.trans (gput_f.trans (gput_f.trans (gput_f.trans (gput_f.trans (gput_f.trans (gput_f.trans (gput_f.trans (gput_f.trans (gput_f.trans (gput_f.trans (gput_f.trans gset_s))))))))))))
  have d1 : MB.a 2 1 = 372 := by rw [eB]; exact ((gput_n (by decide)).trans ((gput_n (by decide)).trans gput_s))
  have d2 : MB.a 2 2 = 1 := by rw [eB]; exact ((gput_n (by decide)).trans gput_s)
  have d3 : MB.a 2 3 = 0 := by rw [eB]; exact ((gput_n (by decide)).trans ((gput_n (by decide)).trans ((gput_n (by decide)).trans ((gput_n (by decide)).trans ((gput_n (by decide)).trans ((gput_n (by decide)).trans ((gput_n (by decide)).trans ((gput_n (by decide)).trans gput_s))))))))
  have d4 : MB.a 2 4 = 0 := by rw [eB]; exact ((gput_n (by decide)).trans ((gput_n (by decide)).trans ((gput_n (by decide)).trans ((gput_n (by decide)).trans ((gput_n (by decide)).trans ((gput_n (by decide)).trans ((gput_n (by decide)).trans gput_s)))))))
  have d5 : MB.a 2 5 = 0 := by rw [eB]; exact ((gput_n (by decide)).trans ((gput_n (by decide)).trans ((gput_n (by decide)).trans ((gput_n (by decide)).trans ((gput_n (by decide)).trans ((gput_n (by decide)).trans gput_s))))))
  have d7 : MB.a 2 7 = 32 := by rw [eB]; exact gput_s
  have TB : rT t MB := T0 MB f20 (fun q => aB 0 q (by decide))
  have B : rMB t MB := ⟨TB, f21, f22, f23, f24, d1, d2, d3, d4, d5, d7⟩
  refine g_aload_n (q := 85) C dX8_reset_84 rfl rfl ?_
  refine g_getfield (v := .ref 125) (q := 88) C fX8_16 dX8_reset_85 rfl HB9.1 rfl ?_
  refine g_iconst (v := 0) (q := 89) C dX8_reset_88 (by decide) rfl ?_
  refine g_aload_n (q := 90) C dX8_reset_89 rfl rfl ?_
  refine g_callVip (q := 93) (As := []) C gyX8_byteNext gvX8_byteNext t_1218 (c_X8_byteNext_r HB9 B.hz) dX8_reset_90 rfl HB9.1 rfl rfl rfl (Nat.le_of_ble_eq_true rfl) (Nat.le_of_ble_eq_true rfl) (Nat.le_of_ble_eq_true rfl) (Nat.le_of_ble_eq_true rfl) (Nat.le_of_ble_eq_true rfl) rfl (fun x20 h20 z20 => ?_)
  obtain ⟨N20, HN20, fn20, bn20⟩ := z20
  refine g_iastoreN (j := 0) (q := 94) C dX8_reset_93 rfl (HN20.ar (i := 2) (n := 9) (by decide) rfl) (pk_in 0 9 (by decide)) (pk_cl 0) ?_
  refine gMsto (i := 2) (j := 0) (x := x20) HN20 (by decide) rfl rfl fun h21 HL21 fr21 => ?_
  have frX : gFM hp h21 := (gFM.trans (gFM.trans frB fn20) fr21)
  have J220 : ∀ (x2 : Int32) (a1 c : Nat) (k3 : Int32) (M1 : gMd) (hz : List gA), a1 ≤ t.length → c ≤ 15 → ((rGs t 4 1 (rHD Q t)).1 = 0 → (rGs t 4 1 (rHD Q t)).2.f 8 = nI a1 ∧ (gat t 1 &&& 15).toNatClampNeg = c) → gMod hz M1 → gFM hp hz → rK MB M1 → M1.a 2 6 = nI c → rM t M1 ((rE t (rC t (rH t c ((rGs t 4 1 (rHD Q t)).1, ((rGs t 4 1 (rHD Q t)).2, ([] : List Int32)))))).1, (rE t (rC t (rH t c ((rGs t 4 1 (rHD Q t)).1, ((rGs t 4 1 (rHD Q t)).2, ([] : List Int32)))))).2.1) → gG X 220 [some (.ref 122), some (.int x2), some (.int ((nI a1))), some (.int k3)] [] hz 0 0 := by
    intro x2 a1 c k3 M1 hz ha1 hc15 hG HZ frz KZ d6 RZ
    have T1 := TB.k KZ
    obtain ⟨F, hF⟩ : ∃ F, rE t (rC t (rH t c ((rGs t 4 1 (rHD Q t)).1, ((rGs t 4 1 (rHD Q t)).2, ([] : List Int32))))) = F := ⟨_, rfl⟩
    obtain ⟨r1, r2⟩ := rRdG (fun h => (hG h).2) hF
    rw [hF] at RZ
    refine g_aload_n (q := 221) C dX8_reset_220 rfl rfl ?_
    refine g_getfield (v := .int ((M1.f 22))) (q := 224) C fX8_86 dX8_reset_221 rfl HZ.1 rfl ?_
    refine g_if_eq (t := 235) (q := 227) C dX8_reset_224 (by decide) rfl (fun c_224 => ?_) (fun c_224 => ?_)
    ·
      refine g_aload_n (q := 236) C dX8_reset_235 rfl rfl ?_
      refine g_getfield (v := .ref 125) (q := 239) C fX8_16 dX8_reset_236 rfl HZ.1 rfl ?_
      refine g_bipush (v := 8) (q := 241) C dX8_reset_239 (by decide) rfl ?_
      refine g_aload_n (q := 242) C dX8_reset_241 rfl rfl ?_
      refine g_getfield (v := .int ((M1.f 24))) (q := 245) C fX8_123 dX8_reset_242 rfl HZ.1 rfl ?_
      suffices K245 : gG X 253 [some (.ref 122), some (.int x2), some (.int ((nI a1))), some (.int k3)] [.int (if (M1.f 24) = 0 then 0 else 1 : Int32), .int 8, .ref 125] hz 0 0 by
        refine g_if_eq (t := 252) (q := 248) C dX8_reset_245 (by decide) rfl (fun c_245 => ?_) (fun c_245 => ?_)
        · refine g_iconst (v := 0) (q := 253) C dX8_reset_252 (by decide) rfl ?_
          rw [if_pos c_245] at K245
          exact K245
        · refine g_iconst (v := 1) (q := 249) C dX8_reset_248 (by decide) rfl ?_
          refine g_goto (q := 253) C dX8_reset_249 (by decide) ?_
          rw [if_neg c_245] at K245
          exact K245
      refine g_iastoreN (j := 8) (q := 254) C dX8_reset_253 rfl (HZ.ar (i := 2) (n := 9) (by decide) rfl) (pk_in 8 9 (by decide)) (pk_cl 8) ?_
      refine gMsto (i := 2) (j := 8) (x := (if (M1.f 24) = 0 then 0 else 1 : Int32)) HZ (by decide) rfl rfl fun h22 HL22 fr22 => ?_
      refine g_iconst (v := 0) (q := 255) C dX8_reset_254 (by decide) rfl ?_
      refine g_istore_n (q := 256) C dX8_reset_255 (Nat.le_of_ble_eq_true rfl) (by simp only [gset]; rfl) rfl ?_
      have z0 : F.1 = 0 := RZ.1.1.symm.trans c_224
      have eR := r2 z0
      have g0 : (rGs t 4 1 (rHD Q t)).1 = 0 := by
        by_cases n : (rGs t 4 1 (rHD Q t)).1 = 0
        · exact n
        · have n0 : ¬ (((rGs t 4 1 (rHD Q t)).1, ((rGs t 4 1 (rHD Q t)).2, ([] : List Int32)))).1 = 0 := n
          rw [rH_st n0, rC_st n0, rE_st n0] at hF
          exact absurd (show (rGs t 4 1 (rHD Q t)).1 = 0 by rw [← hF] at z0; exact z0) n
      obtain ⟨g8, gc⟩ := hG g0
      have hs : ∀ (s : Int32 × (rq × List Int32)), ¬ s.1 = 0 → ¬ (rE t (rC t s)).1 = 0 := fun s n => by rw [rC_st n, rE_st n]; exact n
      have eS : ((rGs t 4 1 (rHD Q t)).1, ((rGs t 4 1 (rHD Q t)).2, ([] : List Int32))) = ((0 : Int32), ((rGs t 4 1 (rHD Q t)).2, ([] : List Int32))) := by rw [g0]
      have h0 : (rH t c (0, ((rGs t 4 1 (rHD Q t)).2, []))).1 = 0 := by
        by_cases n : (rH t c (0, ((rGs t 4 1 (rHD Q t)).2, []))).1 = 0
        · exact n
        · have := hs _ n
          rw [← eS, hF] at this
          exact absurd z0 this
      obtain ⟨p5, pl, pq⟩ := rH_l hl g8 ha1 h0
      have p6 : a1 + c ≤ 96 := by omega
      have eF := rFinQ (t := t) (s := rH t c (0, ((rGs t 4 1 (rHD Q t)).2, []))) h0 (by rw [← eS]; rw [hF]; exact z0)
      rw [← eS, hF, eS] at eF
      have fl : F.2.2 = (List.range c).map (fun i => t.getD (a1 + i) 0) := by rw [eF.2, pl, List.nil_append]
      have fq : ∀ k, ¬ k = 8 → F.2.1.f k = (rGs t 4 1 (rHD Q t)).2.f k := fun k hk => by
        rw [eF.1 k hk, pq]
        by_cases n : c = 0
        · rw [if_pos n]
        · rw [if_neg n]; exact rq.set_n hk
      have ll : F.2.2.length = c := by rw [fl, List.length_map, List.length_range]
      obtain ⟨wd, hw1, hw2, ew⟩ := rGs_5 (t := t) (rT.by TB) (n := 4) (g := 1) (r := rHD Q t) (fun h => by rw [rHDq h]; exact ⟨32, by decide, by decide, rfl⟩) g0
      have ew : F.2.1.f 5 = nI wd := (fq 5 (by decide)).trans ew
      obtain ⟨q1, q2, q3, q4, q5, q6, q7, q8, q9, q10⟩ := (RZ.2 z0).1
      have ew7 : M1.a 2 7 = nI wd := q10.trans ew
      have LL23 : ∀ d j : Nat, j + d = 9 → ∀  (h1 : List gA), gMod h1 ((M1.put 2 8 (if (M1.f 24) = 0 then 0 else 1 : Int32)).arr 1 (gCpy ((M1.put 2 8 (if (M1.f 24) = 0 then 0 else 1 : Int32)).a 1) 0 ((M1.put 2 8 (if (M1.f 24) = 0 then 0 else 1 : Int32)).a 2) 0 j)) → gFM hp h1 → gG X 256 [some (.ref 122), some (.int x2), some (.int ((nI a1))), some (.int ((nI j)))] [] h1 0 0 := by
        intro d
        induction d with
        | zero =>
          intro j hj  h1 HL1_ fr_
          obtain rfl : 9 = j := by omega
          refine g_iload_n (q := 257) C dX8_reset_256 rfl rfl ?_
          refine g_bipush (v := 9) (q := 259) C dX8_reset_257 (by decide) rfl ?_
          rw [show 9 = nI 9 from (rfl).trans rfl]
          refine g_icmp_ge_t (t := 280) C dX8_reset_259 (by decide) (nI_le (Nat.le_refl _) (by omega)) ?_
          refine g_iconst (v := 0) (q := 281) C dX8_reset_280 (by decide) rfl ?_
          refine g_istore_n (q := 282) C dX8_reset_281 (Nat.le_of_ble_eq_true rfl) (by simp only [gset]; rfl) rfl ?_
          have LL24 : ∀ d j : Nat, j + d = c → ∀  (h1 : List gA), gMod h1 (((M1.put 2 8 (if (M1.f 24) = 0 then 0 else 1 : Int32)).arr 1 (gCpy ((M1.put 2 8 (if (M1.f 24) = 0 then 0 else 1 : Int32)).a 1) 0 ((M1.put 2 8 (if (M1.f 24) = 0 then 0 else 1 : Int32)).a 2) 0 9)).arr 3 (gCpy (((M1.put 2 8 (if (M1.f 24) = 0 then 0 else 1 : Int32)).arr 1 (gCpy ((M1.put 2 8 (if (M1.f 24) = 0 then 0 else 1 : Int32)).a 1) 0 ((M1.put 2 8 (if (M1.f 24) = 0 then 0 else 1 : Int32)).a 2) 0 9)).a 3) 0 (((M1.put 2 8 (if (M1.f 24) = 0 then 0 else 1 : Int32)).arr 1 (gCpy ((M1.put 2 8 (if (M1.f 24) = 0 then 0 else 1 : Int32)).a 1) 0 ((M1.put 2 8 (if (M1.f 24) = 0 then 0 else 1 : Int32)).a 2) 0 9)).a 0) a1 j)) → gFM hp h1 → gG X 282 [some (.ref 122), some (.int x2), some (.int ((nI a1))), some (.int ((nI j)))] [] h1 0 0 := by
            intro d
            induction d with
            | zero =>
              intro j hj  h1 HL1_ fr_
              obtain rfl : c = j := by omega
              refine g_iload_n (q := 283) C dX8_reset_282 rfl rfl ?_
              refine g_aload_n (q := 284) C dX8_reset_283 rfl rfl ?_
              refine g_getfield (v := .ref 125) (q := 287) C fX8_16 dX8_reset_284 rfl HL1_.1 rfl ?_
              refine g_bipush (v := 6) (q := 289) C dX8_reset_287 (by decide) rfl ?_
              refine g_ialoadN (x := ((((M1.put 2 8 (if (M1.f 24) = 0 then 0 else 1 : Int32)).arr 1 (gCpy ((M1.put 2 8 (if (M1.f 24) = 0 then 0 else 1 : Int32)).a 1) 0 ((M1.put 2 8 (if (M1.f 24) = 0 then 0 else 1 : Int32)).a 2) 0 9)).arr 3 (gCpy (((M1.put 2 8 (if (M1.f 24) = 0 then 0 else 1 : Int32)).arr 1 (gCpy ((M1.put 2 8 (if (M1.f 24) = 0 then 0 else 1 : Int32)).a 1) 0 ((M1.put 2 8 (if (M1.f 24) = 0 then 0 else 1 : Int32)).a 2) 0 9)).a 3) 0 (((M1.put 2 8 (if (M1.f 24) = 0 then 0 else 1 : Int32)).arr 1 (gCpy ((M1.put 2 8 (if (M1.f 24) = 0 then 0 else 1 : Int32)).a 1) 0 ((M1.put 2 8 (if (M1.f 24) = 0 then 0 else 1 : Int32)).a 2) 0 9)).a 0) a1 c)).a 2 6)) (j := 6) (q := 290) C dX8_reset_289 rfl (HL1_.ar (i := 2) (n := 9) (by decide) rfl) (pk_in 6 9 (by decide)) (pk_cl 6) rfl ?_
              rw [show ((((M1.put 2 8 (if (M1.f 24) = 0 then 0 else 1 : Int32)).arr 1 (gCpy ((M1.put 2 8 (if (M1.f 24) = 0 then 0 else 1 : Int32)).a 1) 0 ((M1.put 2 8 (if (M1.f 24) = 0 then 0 else 1 : Int32)).a 2) 0 9)).arr 3 (gCpy (((M1.put 2 8 (if (M1.f 24) = 0 then 0 else 1 : Int32)).arr 1 (gCpy ((M1.put 2 8 (if (M1.f 24) = 0 then 0 else 1 : Int32)).a 1) 0 ((M1.put 2 8 (if (M1.f 24) = 0 then 0 else 1 : Int32)).a 2) 0 9)).a 3) 0 (((M1.put 2 8 (if (M1.f 24) = 0 then 0 else 1 : Int32)).arr 1 (gCpy ((M1.put 2 8 (if (M1.f 24) = 0 then 0 else 1 : Int32)).a 1) 0 ((M1.put 2 8 (if (M1.f 24) = 0 then 0 else 1 : Int32)).a 2) 0 9)).a 0) a1 c)).a 2 6) = nI c from ((garr_o (by decide))).trans ((show ((M1.put 2 8 (if (M1.f 24) = 0 then 0 else 1 : Int32)).arr 1 (gCpy ((M1.put 2 8 (if (M1.f 24) = 0 then 0 else 1 : Int32)).a 1) 0 ((M1.put 2 8 (if (M1.f 24) = 0 then 0 else 1 : Int32)).a 2) 0 9)).a 2 6 = M1.a 2 6 from rfl).trans d6)]
              refine g_icmp_ge_t (t := 313) C dX8_reset_290 (by decide) (nI_le (Nat.le_refl _) (by omega)) ?_
              obtain ⟨MX, eX⟩ : ∃ MX, MX = (((M1.put 2 8 (if (M1.f 24) = 0 then 0 else 1 : Int32)).arr 1 (gCpy ((M1.put 2 8 (if (M1.f 24) = 0 then 0 else 1 : Int32)).a 1) 0 ((M1.put 2 8 (if (M1.f 24) = 0 then 0 else 1 : Int32)).a 2) 0 9)).arr 3 (gCpy (((M1.put 2 8 (if (M1.f 24) = 0 then 0 else 1 : Int32)).arr 1 (gCpy ((M1.put 2 8 (if (M1.f 24) = 0 then 0 else 1 : Int32)).a 1) 0 ((M1.put 2 8 (if (M1.f 24) = 0 then 0 else 1 : Int32)).a 2) 0 9)).a 3) 0 (((M1.put 2 8 (if (M1.f 24) = 0 then 0 else 1 : Int32)).arr 1 (gCpy ((M1.put 2 8 (if (M1.f 24) = 0 then 0 else 1 : Int32)).a 1) 0 ((M1.put 2 8 (if (M1.f 24) = 0 then 0 else 1 : Int32)).a 2) 0 9)).a 0) a1 c)).set 3 1 := ⟨_, rfl⟩
              have t7 : MX.a 1 7 = nI wd := by rw [eX, ← ew7]; rfl
              have t6 : MX.a 1 6 = nI c := by rw [eX, ← d6]; rfl
              have h3 : ∀ j, j < c → MX.a 3 j = F.2.2.getD j 0 := fun j hj => by
                rw [fl, List.getD_eq_getElem?_getD, List.getElem?_map, List.getElem?_range hj]
                have e3 : MX.a 3 j = M1.a 0 (a1 + j) := by
                  rw [eX]
                  show gCpy _ 0 _ a1 c j = _
                  unfold gCpy
                  rw [if_pos ⟨Nat.zero_le _, by omega⟩, Nat.sub_zero]
                  rfl
                rw [e3, T1.2.2.1 (a1 + j) (by omega)]
                rfl
              have hend : gRs M ((rX8_begins MX).put 4 18 (nI wd)) := ⟨by
                  show MX.f 1 = 0
                  rw [eX]; exact (KZ.1 1 (by decide) (by decide) (by decide) (by decide)).trans f1, Or.inr ⟨MX, wd, c, hw1, hw2, hc15, by rw [eX]; rfl, fun k h1 h2 h3 h20 h21 h22 h23 h24 => by rw [eX, gset_n h3]; exact (KZ.1 k h21 h22 h23 h24).trans (fB k h1 h2 h20 h21 h22 h23 h24), fun i q h1 h2 h3 => by
                    rw [eX]; exact (garr_o h3).trans ((garr_o h1).trans ((gput_o h2).trans ((KZ.2 i q h2).trans (aB i q h2)))), t6, rfl⟩⟩
              have hout : rOut t Q M ((rX8_begins MX).put 4 18 (nI wd)) (nI c) := Or.inr ⟨r1.trans z0, by rw [eR, ll], by show MX.f 3 = 1; rw [eX]; rfl, by
                rw [eR]
                refine rTold.beg (M := MX) ⟨⟨?_, ?_, ?_, ?_, ?_, ?_, by rw [ll]; exact t6, t7.trans ew.symm, ?_⟩, by rw [ll]; exact hc15, fun i hi => h3 i (by rw [ll] at hi; exact hi)⟩
                · rw [eX, ← q4]; rfl
                · rw [eX, ← q5]; rfl
                · rw [eX, ← q6]; rfl
                · rw [eX, ← q7]; rfl
                · rw [eX, ← q8]; rfl
                · rw [eX, ← q9]; rfl
                · rw [eX, ← q3]; rfl⟩
              refine g_aload_n (q := 314) C dX8_reset_313 rfl rfl ?_
              refine g_iconst (v := 1) (q := 315) C dX8_reset_314 (by decide) rfl ?_
              refine g_putfield (q := 318) C fX8_134 dX8_reset_315 rfl HL1_.1 (Nat.le_of_ble_eq_true rfl) (Or.inl rfl) rfl rfl (by intro z h; cases h) ?_
              refine gMput (j := 3) (x := 1) HL1_ rfl fun h25 HL25 fr25 => ?_
              have HX9 := HL25
              rw [← eX] at HX9
              refine g_aload_n (q := 319) C dX8_reset_318 rfl rfl ?_
              refine g_callVvp (q := 322) (As := []) C gyX8_begins gvX8_begins t_1077 (c_X8_begins_m HX9) dX8_reset_319 rfl HX9.1 rfl rfl rfl (Nat.le_of_ble_eq_true rfl) (Nat.le_of_ble_eq_true rfl) (Nat.le_of_ble_eq_true rfl) (Nat.le_of_ble_eq_true rfl) (Nat.le_of_ble_eq_true rfl) rfl (fun h26 z26 => ?_)
              obtain ⟨HL26, fr26⟩ := z26
              refine g_aload_n (q := 323) C dX8_reset_322 rfl rfl ?_
              refine g_getfield (v := .ref 127) (q := 326) C fX8_22 dX8_reset_323 rfl HL26.1 rfl ?_
              refine g_bipush (v := 18) (q := 328) C dX8_reset_326 (by decide) rfl ?_
              refine g_aload_n (q := 329) C dX8_reset_328 rfl rfl ?_
              refine g_getfield (v := .ref 124) (q := 332) C fX8_13 dX8_reset_329 rfl HL26.1 rfl ?_
              refine g_bipush (v := 7) (q := 334) C dX8_reset_332 (by decide) rfl ?_
              refine g_ialoadN (x := ((rX8_begins MX).a 1 7)) (j := 7) (q := 335) C dX8_reset_334 rfl (HL26.ar (i := 1) (n := 9) (by decide) rfl) (pk_in 7 9 (by decide)) (pk_cl 7) rfl ?_
              rw [show ((rX8_begins MX).a 1 7) = nI wd from t7]
              refine g_iastoreN (j := 18) (q := 336) C dX8_reset_335 rfl (HL26.ar (i := 4) (n := 772) (by decide) rfl) (pk_in 18 772 (by decide)) (pk_cl 18) ?_
              refine gMsto (i := 4) (j := 18) (x := (nI wd)) HL26 (by decide) rfl rfl fun h27 HL27 fr27 => ?_
              refine g_aload_n (q := 337) C dX8_reset_336 rfl rfl ?_
              refine g_getfield (v := .ref 124) (q := 340) C fX8_13 dX8_reset_337 rfl HL27.1 rfl ?_
              refine g_bipush (v := 6) (q := 342) C dX8_reset_340 (by decide) rfl ?_
              refine g_ialoadN (x := ((rX8_begins MX).a 1 6)) (j := 6) (q := 343) C dX8_reset_342 rfl (HL27.ar (i := 1) (n := 9) (by decide) rfl) (pk_in 6 9 (by decide)) (pk_cl 6) (gput_o (by decide)) ?_
              rw [show ((rX8_begins MX).a 1 6) = nI c from t6]
              exact E.1 _ _ _ _ _ _ _ dX8_reset_343 rfl rfl (Nat.le_of_ble_eq_true rfl) (Nat.le_of_ble_eq_true rfl) ⟨_, rfl, _, HL27, (gFM.trans (gFM.trans (gFM.trans fr_ fr25) fr26) fr27), hend, hout⟩
              
              
            | succ d ih =>
              intro j hj  h1 HL1_ fr_
              refine g_iload_n (q := 283) C dX8_reset_282 rfl rfl ?_
              refine g_aload_n (q := 284) C dX8_reset_283 rfl rfl ?_
              refine g_getfield (v := .ref 125) (q := 287) C fX8_16 dX8_reset_284 rfl HL1_.1 rfl ?_
              refine g_bipush (v := 6) (q := 289) C dX8_reset_287 (by decide) rfl ?_
              refine g_ialoadN (x := ((((M1.put 2 8 (if (M1.f 24) = 0 then 0 else 1 : Int32)).arr 1 (gCpy ((M1.put 2 8 (if (M1.f 24) = 0 then 0 else 1 : Int32)).a 1) 0 ((M1.put 2 8 (if (M1.f 24) = 0 then 0 else 1 : Int32)).a 2) 0 9)).arr 3 (gCpy (((M1.put 2 8 (if (M1.f 24) = 0 then 0 else 1 : Int32)).arr 1 (gCpy ((M1.put 2 8 (if (M1.f 24) = 0 then 0 else 1 : Int32)).a 1) 0 ((M1.put 2 8 (if (M1.f 24) = 0 then 0 else 1 : Int32)).a 2) 0 9)).a 3) 0 (((M1.put 2 8 (if (M1.f 24) = 0 then 0 else 1 : Int32)).arr 1 (gCpy ((M1.put 2 8 (if (M1.f 24) = 0 then 0 else 1 : Int32)).a 1) 0 ((M1.put 2 8 (if (M1.f 24) = 0 then 0 else 1 : Int32)).a 2) 0 9)).a 0) a1 j)).a 2 6)) (j := 6) (q := 290) C dX8_reset_289 rfl (HL1_.ar (i := 2) (n := 9) (by decide) rfl) (pk_in 6 9 (by decide)) (pk_cl 6) rfl ?_
              rw [show ((((M1.put 2 8 (if (M1.f 24) = 0 then 0 else 1 : Int32)).arr 1 (gCpy ((M1.put 2 8 (if (M1.f 24) = 0 then 0 else 1 : Int32)).a 1) 0 ((M1.put 2 8 (if (M1.f 24) = 0 then 0 else 1 : Int32)).a 2) 0 9)).arr 3 (gCpy (((M1.put 2 8 (if (M1.f 24) = 0 then 0 else 1 : Int32)).arr 1 (gCpy ((M1.put 2 8 (if (M1.f 24) = 0 then 0 else 1 : Int32)).a 1) 0 ((M1.put 2 8 (if (M1.f 24) = 0 then 0 else 1 : Int32)).a 2) 0 9)).a 3) 0 (((M1.put 2 8 (if (M1.f 24) = 0 then 0 else 1 : Int32)).arr 1 (gCpy ((M1.put 2 8 (if (M1.f 24) = 0 then 0 else 1 : Int32)).a 1) 0 ((M1.put 2 8 (if (M1.f 24) = 0 then 0 else 1 : Int32)).a 2) 0 9)).a 0) a1 j)).a 2 6) = nI c from ((garr_o (by decide))).trans ((show ((M1.put 2 8 (if (M1.f 24) = 0 then 0 else 1 : Int32)).arr 1 (gCpy ((M1.put 2 8 (if (M1.f 24) = 0 then 0 else 1 : Int32)).a 1) 0 ((M1.put 2 8 (if (M1.f 24) = 0 then 0 else 1 : Int32)).a 2) 0 9)).a 2 6 = M1.a 2 6 from rfl).trans d6)]
              refine g_icmp_ge_f (t := 313) (q := 293) C dX8_reset_290 (by decide) rfl (fun h => nI_ge (show j < c by omega) (by omega) h) ?_
              refine g_aload_n (q := 294) C dX8_reset_293 rfl rfl ?_
              refine g_getfield (v := .ref 126) (q := 297) C fX8_19 dX8_reset_294 rfl HL1_.1 rfl ?_
              refine g_iload_n (q := 298) C dX8_reset_297 rfl rfl ?_
              refine g_aload_n (q := 299) C dX8_reset_298 rfl rfl ?_
              refine g_getfield (v := .ref 123) (q := 302) C fX8_7 dX8_reset_299 rfl HL1_.1 rfl ?_
              refine g_iload_n (q := 303) C dX8_reset_302 rfl rfl ?_
              refine g_iload_n (q := 304) C dX8_reset_303 rfl rfl ?_
              refine g_iadd (q := 305) C dX8_reset_304 rfl ?_
              refine g_ialoadN (x := ((((M1.put 2 8 (if (M1.f 24) = 0 then 0 else 1 : Int32)).arr 1 (gCpy ((M1.put 2 8 (if (M1.f 24) = 0 then 0 else 1 : Int32)).a 1) 0 ((M1.put 2 8 (if (M1.f 24) = 0 then 0 else 1 : Int32)).a 2) 0 9)).arr 3 (gCpy (((M1.put 2 8 (if (M1.f 24) = 0 then 0 else 1 : Int32)).arr 1 (gCpy ((M1.put 2 8 (if (M1.f 24) = 0 then 0 else 1 : Int32)).a 1) 0 ((M1.put 2 8 (if (M1.f 24) = 0 then 0 else 1 : Int32)).a 2) 0 9)).a 3) 0 (((M1.put 2 8 (if (M1.f 24) = 0 then 0 else 1 : Int32)).arr 1 (gCpy ((M1.put 2 8 (if (M1.f 24) = 0 then 0 else 1 : Int32)).a 1) 0 ((M1.put 2 8 (if (M1.f 24) = 0 then 0 else 1 : Int32)).a 2) 0 9)).a 0) a1 j)).a 0 (a1 + j))) (j := (a1 + j)) (q := 306) C dX8_reset_305 rfl (HL1_.ar (i := 0) (n := 96) (by decide) rfl) (pk_in (a1 + j) 96 (by omega) (nI_add a1 j)) (pk_cl (a1 + j) (nI_add a1 j) (by omega)) rfl ?_
              refine g_iastoreN (j := j) (q := 307) C dX8_reset_306 rfl (HL1_.ar (i := 3) (n := 15) (by decide) rfl) (pk_in j 15 (by omega)) (pk_cl j rfl (by omega)) ?_
              refine gMsto (i := 3) (j := j) (x := ((((M1.put 2 8 (if (M1.f 24) = 0 then 0 else 1 : Int32)).arr 1 (gCpy ((M1.put 2 8 (if (M1.f 24) = 0 then 0 else 1 : Int32)).a 1) 0 ((M1.put 2 8 (if (M1.f 24) = 0 then 0 else 1 : Int32)).a 2) 0 9)).arr 3 (gCpy (((M1.put 2 8 (if (M1.f 24) = 0 then 0 else 1 : Int32)).arr 1 (gCpy ((M1.put 2 8 (if (M1.f 24) = 0 then 0 else 1 : Int32)).a 1) 0 ((M1.put 2 8 (if (M1.f 24) = 0 then 0 else 1 : Int32)).a 2) 0 9)).a 3) 0 (((M1.put 2 8 (if (M1.f 24) = 0 then 0 else 1 : Int32)).arr 1 (gCpy ((M1.put 2 8 (if (M1.f 24) = 0 then 0 else 1 : Int32)).a 1) 0 ((M1.put 2 8 (if (M1.f 24) = 0 then 0 else 1 : Int32)).a 2) 0 9)).a 0) a1 j)).a 0 (a1 + j))) HL1_ (by decide) rfl rfl fun h28 HL28 fr28 => ?_
              refine g_iinc (v := (nI (j + 1))) (q := 310) C dX8_reset_307 rfl (nI_1 j) (by simp only [gset]; rfl) rfl ?_
              have e9 : (((M1.put 2 8 (if (M1.f 24) = 0 then 0 else 1 : Int32)).arr 1 (gCpy ((M1.put 2 8 (if (M1.f 24) = 0 then 0 else 1 : Int32)).a 1) 0 ((M1.put 2 8 (if (M1.f 24) = 0 then 0 else 1 : Int32)).a 2) 0 9)).arr 3 (gCpy (((M1.put 2 8 (if (M1.f 24) = 0 then 0 else 1 : Int32)).arr 1 (gCpy ((M1.put 2 8 (if (M1.f 24) = 0 then 0 else 1 : Int32)).a 1) 0 ((M1.put 2 8 (if (M1.f 24) = 0 then 0 else 1 : Int32)).a 2) 0 9)).a 3) 0 (((M1.put 2 8 (if (M1.f 24) = 0 then 0 else 1 : Int32)).arr 1 (gCpy ((M1.put 2 8 (if (M1.f 24) = 0 then 0 else 1 : Int32)).a 1) 0 ((M1.put 2 8 (if (M1.f 24) = 0 then 0 else 1 : Int32)).a 2) 0 9)).a 0) a1 j)).put 3 (0 + j) ((((M1.put 2 8 (if (M1.f 24) = 0 then 0 else 1 : Int32)).arr 1 (gCpy ((M1.put 2 8 (if (M1.f 24) = 0 then 0 else 1 : Int32)).a 1) 0 ((M1.put 2 8 (if (M1.f 24) = 0 then 0 else 1 : Int32)).a 2) 0 9)).arr 3 (gCpy (((M1.put 2 8 (if (M1.f 24) = 0 then 0 else 1 : Int32)).arr 1 (gCpy ((M1.put 2 8 (if (M1.f 24) = 0 then 0 else 1 : Int32)).a 1) 0 ((M1.put 2 8 (if (M1.f 24) = 0 then 0 else 1 : Int32)).a 2) 0 9)).a 3) 0 (((M1.put 2 8 (if (M1.f 24) = 0 then 0 else 1 : Int32)).arr 1 (gCpy ((M1.put 2 8 (if (M1.f 24) = 0 then 0 else 1 : Int32)).a 1) 0 ((M1.put 2 8 (if (M1.f 24) = 0 then 0 else 1 : Int32)).a 2) 0 9)).a 0) a1 j)).a 0 (a1 + j)) = (((M1.put 2 8 (if (M1.f 24) = 0 then 0 else 1 : Int32)).arr 1 (gCpy ((M1.put 2 8 (if (M1.f 24) = 0 then 0 else 1 : Int32)).a 1) 0 ((M1.put 2 8 (if (M1.f 24) = 0 then 0 else 1 : Int32)).a 2) 0 9)).arr 3 (gCpy (((M1.put 2 8 (if (M1.f 24) = 0 then 0 else 1 : Int32)).arr 1 (gCpy ((M1.put 2 8 (if (M1.f 24) = 0 then 0 else 1 : Int32)).a 1) 0 ((M1.put 2 8 (if (M1.f 24) = 0 then 0 else 1 : Int32)).a 2) 0 9)).a 3) 0 (((M1.put 2 8 (if (M1.f 24) = 0 then 0 else 1 : Int32)).arr 1 (gCpy ((M1.put 2 8 (if (M1.f 24) = 0 then 0 else 1 : Int32)).a 1) 0 ((M1.put 2 8 (if (M1.f 24) = 0 then 0 else 1 : Int32)).a 2) 0 9)).a 0) a1 (j + 1))) := garr_cp (by show (((M1.put 2 8 (if (M1.f 24) = 0 then 0 else 1 : Int32)).arr 1 (gCpy ((M1.put 2 8 (if (M1.f 24) = 0 then 0 else 1 : Int32)).a 1) 0 ((M1.put 2 8 (if (M1.f 24) = 0 then 0 else 1 : Int32)).a 2) 0 9)).arr 3 (gCpy (((M1.put 2 8 (if (M1.f 24) = 0 then 0 else 1 : Int32)).arr 1 (gCpy ((M1.put 2 8 (if (M1.f 24) = 0 then 0 else 1 : Int32)).a 1) 0 ((M1.put 2 8 (if (M1.f 24) = 0 then 0 else 1 : Int32)).a 2) 0 9)).a 3) 0 (((M1.put 2 8 (if (M1.f 24) = 0 then 0 else 1 : Int32)).arr 1 (gCpy ((M1.put 2 8 (if (M1.f 24) = 0 then 0 else 1 : Int32)).a 1) 0 ((M1.put 2 8 (if (M1.f 24) = 0 then 0 else 1 : Int32)).a 2) 0 9)).a 0) a1 j)).a 0 _ = _; rw [(garr_o (by decide))])
              have HL9 : gMod h28 (((M1.put 2 8 (if (M1.f 24) = 0 then 0 else 1 : Int32)).arr 1 (gCpy ((M1.put 2 8 (if (M1.f 24) = 0 then 0 else 1 : Int32)).a 1) 0 ((M1.put 2 8 (if (M1.f 24) = 0 then 0 else 1 : Int32)).a 2) 0 9)).arr 3 (gCpy (((M1.put 2 8 (if (M1.f 24) = 0 then 0 else 1 : Int32)).arr 1 (gCpy ((M1.put 2 8 (if (M1.f 24) = 0 then 0 else 1 : Int32)).a 1) 0 ((M1.put 2 8 (if (M1.f 24) = 0 then 0 else 1 : Int32)).a 2) 0 9)).a 3) 0 (((M1.put 2 8 (if (M1.f 24) = 0 then 0 else 1 : Int32)).arr 1 (gCpy ((M1.put 2 8 (if (M1.f 24) = 0 then 0 else 1 : Int32)).a 1) 0 ((M1.put 2 8 (if (M1.f 24) = 0 then 0 else 1 : Int32)).a 2) 0 9)).a 0) a1 (j + 1))) := by rw [← e9, Nat.zero_add]; exact HL28
              refine g_goto (q := 282) C dX8_reset_310 (by decide) ?_
              exact ih (j + 1) (by omega)  h28 HL9 (gFM.trans fr_ fr28)
          have HL8 : gMod h1 (((M1.put 2 8 (if (M1.f 24) = 0 then 0 else 1 : Int32)).arr 1 (gCpy ((M1.put 2 8 (if (M1.f 24) = 0 then 0 else 1 : Int32)).a 1) 0 ((M1.put 2 8 (if (M1.f 24) = 0 then 0 else 1 : Int32)).a 2) 0 9)).arr 3 (gCpy (((M1.put 2 8 (if (M1.f 24) = 0 then 0 else 1 : Int32)).arr 1 (gCpy ((M1.put 2 8 (if (M1.f 24) = 0 then 0 else 1 : Int32)).a 1) 0 ((M1.put 2 8 (if (M1.f 24) = 0 then 0 else 1 : Int32)).a 2) 0 9)).a 3) 0 (((M1.put 2 8 (if (M1.f 24) = 0 then 0 else 1 : Int32)).arr 1 (gCpy ((M1.put 2 8 (if (M1.f 24) = 0 then 0 else 1 : Int32)).a 1) 0 ((M1.put 2 8 (if (M1.f 24) = 0 then 0 else 1 : Int32)).a 2) 0 9)).a 0) a1 0)) := by rw [garr_0]; exact HL1_
          exact LL24 (c - 0) 0 (by omega)  h1 HL8 fr_
          
        | succ d ih =>
          intro j hj  h1 HL1_ fr_
          refine g_iload_n (q := 257) C dX8_reset_256 rfl rfl ?_
          refine g_bipush (v := 9) (q := 259) C dX8_reset_257 (by decide) rfl ?_
          rw [show 9 = nI 9 from (rfl).trans rfl]
          refine g_icmp_ge_f (t := 280) (q := 262) C dX8_reset_259 (by decide) rfl (fun h => nI_ge (show j < 9 by omega) (by omega) h) ?_
          refine g_aload_n (q := 263) C dX8_reset_262 rfl rfl ?_
          refine g_getfield (v := .ref 124) (q := 266) C fX8_13 dX8_reset_263 rfl HL1_.1 rfl ?_
          refine g_iload_n (q := 267) C dX8_reset_266 rfl rfl ?_
          refine g_aload_n (q := 268) C dX8_reset_267 rfl rfl ?_
          refine g_getfield (v := .ref 125) (q := 271) C fX8_16 dX8_reset_268 rfl HL1_.1 rfl ?_
          refine g_iload_n (q := 272) C dX8_reset_271 rfl rfl ?_
          refine g_ialoadN (x := (((M1.put 2 8 (if (M1.f 24) = 0 then 0 else 1 : Int32)).arr 1 (gCpy ((M1.put 2 8 (if (M1.f 24) = 0 then 0 else 1 : Int32)).a 1) 0 ((M1.put 2 8 (if (M1.f 24) = 0 then 0 else 1 : Int32)).a 2) 0 j)).a 2 j)) (j := j) (q := 273) C dX8_reset_272 rfl (HL1_.ar (i := 2) (n := 9) (by decide) rfl) (pk_in j 9 (by omega)) (pk_cl j rfl (by omega)) rfl ?_
          refine g_iastoreN (j := j) (q := 274) C dX8_reset_273 rfl (HL1_.ar (i := 1) (n := 9) (by decide) rfl) (pk_in j 9 (by omega)) (pk_cl j rfl (by omega)) ?_
          refine gMsto (i := 1) (j := j) (x := (((M1.put 2 8 (if (M1.f 24) = 0 then 0 else 1 : Int32)).arr 1 (gCpy ((M1.put 2 8 (if (M1.f 24) = 0 then 0 else 1 : Int32)).a 1) 0 ((M1.put 2 8 (if (M1.f 24) = 0 then 0 else 1 : Int32)).a 2) 0 j)).a 2 j)) HL1_ (by decide) rfl rfl fun h29 HL29 fr29 => ?_
          refine g_iinc (v := (nI (j + 1))) (q := 277) C dX8_reset_274 rfl (nI_1 j) (by simp only [gset]; rfl) rfl ?_
          have e9 : ((M1.put 2 8 (if (M1.f 24) = 0 then 0 else 1 : Int32)).arr 1 (gCpy ((M1.put 2 8 (if (M1.f 24) = 0 then 0 else 1 : Int32)).a 1) 0 ((M1.put 2 8 (if (M1.f 24) = 0 then 0 else 1 : Int32)).a 2) 0 j)).put 1 (0 + j) (((M1.put 2 8 (if (M1.f 24) = 0 then 0 else 1 : Int32)).arr 1 (gCpy ((M1.put 2 8 (if (M1.f 24) = 0 then 0 else 1 : Int32)).a 1) 0 ((M1.put 2 8 (if (M1.f 24) = 0 then 0 else 1 : Int32)).a 2) 0 j)).a 2 j) = ((M1.put 2 8 (if (M1.f 24) = 0 then 0 else 1 : Int32)).arr 1 (gCpy ((M1.put 2 8 (if (M1.f 24) = 0 then 0 else 1 : Int32)).a 1) 0 ((M1.put 2 8 (if (M1.f 24) = 0 then 0 else 1 : Int32)).a 2) 0 (j + 1))) := garr_cp (by show ((M1.put 2 8 (if (M1.f 24) = 0 then 0 else 1 : Int32)).arr 1 (gCpy ((M1.put 2 8 (if (M1.f 24) = 0 then 0 else 1 : Int32)).a 1) 0 ((M1.put 2 8 (if (M1.f 24) = 0 then 0 else 1 : Int32)).a 2) 0 j)).a 2 _ = _; rw [(garr_o (by decide))]; rw [Nat.zero_add])
          have HL9 : gMod h29 ((M1.put 2 8 (if (M1.f 24) = 0 then 0 else 1 : Int32)).arr 1 (gCpy ((M1.put 2 8 (if (M1.f 24) = 0 then 0 else 1 : Int32)).a 1) 0 ((M1.put 2 8 (if (M1.f 24) = 0 then 0 else 1 : Int32)).a 2) 0 (j + 1))) := by rw [← e9, Nat.zero_add]; exact HL29
          refine g_goto (q := 256) C dX8_reset_277 (by decide) ?_
          exact ih (j + 1) (by omega)  h29 HL9 (gFM.trans fr_ fr29)
      have HL8 : gMod h22 ((M1.put 2 8 (if (M1.f 24) = 0 then 0 else 1 : Int32)).arr 1 (gCpy ((M1.put 2 8 (if (M1.f 24) = 0 then 0 else 1 : Int32)).a 1) 0 ((M1.put 2 8 (if (M1.f 24) = 0 then 0 else 1 : Int32)).a 2) 0 0)) := by rw [garr_0]; exact HL22
      exact LL23 (9 - 0) 0 (by omega)  h22 HL8 (gFM.trans frz fr22)
      
    ·
      refine g_bipush (v := (-2)) (q := 229) C dX8_reset_227 (by decide) rfl ?_
      refine g_aload_n (q := 230) C dX8_reset_229 rfl rfl ?_
      refine g_getfield (v := .int ((M1.f 22))) (q := 233) C fX8_86 dX8_reset_230 rfl HZ.1 rfl ?_
      refine g_isub (q := 234) C dX8_reset_233 rfl ?_
      have nz : ¬ F.1 = 0 := fun h => c_224 (RZ.1.1.trans h)
      exact E.1 _ _ _ _ _ _ _ dX8_reset_234 rfl rfl (Nat.le_of_ble_eq_true rfl) (Nat.le_of_ble_eq_true rfl) ⟨_, rfl, _, HZ, frz, ⟨by rw [KZ.1 1 (by decide) (by decide) (by decide) (by decide)]; exact f1, Or.inl ⟨fun k h1 h2 h20 h21 h22 h23 h24 => (KZ.1 k h21 h22 h23 h24).trans (fB k h1 h2 h20 h21 h22 h23 h24), fun i q h => (KZ.2 i q h).trans (aB i q h)⟩⟩, Or.inl ⟨by rw [r1]; exact nz, by rw [r1, ← show M1.f 22 = F.1 from RZ.1.1], (KZ.1 3 (by decide) (by decide) (by decide) (by decide)).trans (fB 3 (by decide) (by decide) (by decide) (by decide) (by decide) (by decide) (by decide)), fun i q h => (KZ.2 i q (by omega)).trans (aB i q (by omega))⟩⟩
  have J192 : ∀ (x2 : Int32) (a1 c : Nat) (k3 : Int32) (M1 : gMd) (hz : List gA), a1 ≤ t.length → c ≤ 15 → ((rGs t 4 1 (rHD Q t)).1 = 0 → (rGs t 4 1 (rHD Q t)).2.f 8 = nI a1 ∧ (gat t 1 &&& 15).toNatClampNeg = c) → gMod hz M1 → gFM hp hz → rK MB M1 → M1.a 2 6 = nI c → rM t M1 ((rC t (rH t c ((rGs t 4 1 (rHD Q t)).1, ((rGs t 4 1 (rHD Q t)).2, ([] : List Int32))))).1, (rC t (rH t c ((rGs t 4 1 (rHD Q t)).1, ((rGs t 4 1 (rHD Q t)).2, ([] : List Int32))))).2.1) → gG X 192 [some (.ref 122), some (.int x2), some (.int ((nI a1))), some (.int k3)] [] hz 0 0 := by
    intro x2 a1 c k3 M1 hz ha1 hc15 hG HZ frz KZ d6 RZ
    have T1 := TB.k KZ
    refine g_aload_n (q := 193) C dX8_reset_192 rfl rfl ?_
    refine g_getfield (v := .int ((M1.f 22))) (q := 196) C fX8_86 dX8_reset_193 rfl HZ.1 rfl ?_
    refine g_if_ne (t := 220) (q := 199) C dX8_reset_196 (by decide) rfl (fun c_196 => ?_) (fun c_196 => ?_)
    ·
      exact J220 x2 a1 c k3 _ _ ha1 hc15 hG HZ frz KZ d6 (by rw [rE0 RZ c_196]; exact RZ)
    ·
      refine g_aload_n (q := 200) C dX8_reset_199 rfl rfl ?_
      refine g_getfield (v := .int ((M1.f 21))) (q := 203) C fX8_89 dX8_reset_200 rfl HZ.1 rfl ?_
      refine g_aload_n (q := 204) C dX8_reset_203 rfl rfl ?_
      refine g_getfield (v := .int ((M1.f 20))) (q := 207) C fX8_92 dX8_reset_204 rfl HZ.1 rfl ?_
      refine g_icmp_ge (t := 220) (q := 210) C dX8_reset_207 (by decide) rfl (fun c_207 => ?_) (fun c_207 => ?_)
      ·
        exact J220 x2 a1 c k3 _ _ ha1 hc15 hG HZ frz KZ d6 (by rw [rE1 T1 RZ c_196 c_207]; exact RZ)
      ·
        refine g_aload_n (q := 211) C dX8_reset_210 rfl rfl ?_
        refine g_bipush (v := 7) (q := 213) C dX8_reset_211 (by decide) rfl ?_
        refine g_aload_n (q := 214) C dX8_reset_213 rfl rfl ?_
        refine g_getfield (v := .int ((M1.f 21))) (q := 217) C fX8_89 dX8_reset_214 rfl HZ.1 rfl ?_
        refine g_callVvp (q := 220) (As := [.int 7, .int ((M1.f 21))]) C gyX8_wrong gvX8_wrong t_1222 (c_X8_wrong_m HZ) dX8_reset_217 rfl HZ.1 rfl rfl rfl (Nat.le_of_ble_eq_true rfl) (Nat.le_of_ble_eq_true rfl) (Nat.le_of_ble_eq_true rfl) (Nat.le_of_ble_eq_true rfl) (Nat.le_of_ble_eq_true rfl) rfl (fun h30 z30 => ?_)
        obtain ⟨HL30, fr30⟩ := z30
        exact J220 x2 a1 c k3 _ _ ha1 hc15 hG HL30 (gFM.trans frz fr30) (KZ.trans rK.wr) (gWr.a.trans d6) (rE2 T1 RZ c_196 c_207)
  have LL : ∀ (x2 : Int32) (a1 c : Nat), a1 ≤ t.length → c ≤ 15 → ((rGs t 4 1 (rHD Q t)).1 = 0 → (rGs t 4 1 (rHD Q t)).2.f 8 = nI a1 ∧ (gat t 1 &&& 15).toNatClampNeg = c) → ∀ d j : Nat, j + d = c → ∀ (s : Int32 × (rq × List Int32)) (M1 : gMd) (hz : List gA), rH t d s = rH t c ((rGs t 4 1 (rHD Q t)).1, ((rGs t 4 1 (rHD Q t)).2, ([] : List Int32))) → gMod hz M1 → gFM hp hz → rK MB M1 → M1.a 2 6 = nI c → rM t M1 (s.1, s.2.1) → gG X 159 [some (.ref 122), some (.int x2), some (.int ((nI a1))), some (.int ((nI j)))] [] hz 0 0 := by
    intro x2 a1 c ha1 hc15 hG d
    induction d with
    | zero =>
      intro j hj s M1 hz hs HZ frz KZ d6 RZ
      have T1 := TB.k KZ
      obtain rfl : c = j := by omega
      have hs : s = rH t c ((rGs t 4 1 (rHD Q t)).1, ((rGs t 4 1 (rHD Q t)).2, ([] : List Int32))) := hs
      refine g_iload_n (q := 160) C dX8_reset_159 rfl rfl ?_
      refine g_aload_n (q := 161) C dX8_reset_160 rfl rfl ?_
      refine g_getfield (v := .ref 125) (q := 164) C fX8_16 dX8_reset_161 rfl HZ.1 rfl ?_
      refine g_bipush (v := 6) (q := 166) C dX8_reset_164 (by decide) rfl ?_
      refine g_ialoadN (x := (M1.a 2 6)) (j := 6) (q := 167) C dX8_reset_166 rfl (HZ.ar (i := 2) (n := 9) (by decide) rfl) (pk_in 6 9 (by decide)) (pk_cl 6) rfl ?_
      rw [show (M1.a 2 6) = nI c from d6]
      refine g_icmp_ge_t (t := 181) C dX8_reset_167 (by decide) (nI_le (Nat.le_refl _) (by omega)) ?_
      refine g_aload_n (q := 182) C dX8_reset_181 rfl rfl ?_
      refine g_getfield (v := .int ((M1.f 24))) (q := 185) C fX8_123 dX8_reset_182 rfl HZ.1 rfl ?_
      refine g_if_eq (t := 192) (q := 188) C dX8_reset_185 (by decide) rfl (fun c_185 => ?_) (fun c_185 => ?_)
      ·
        exact J192 x2 a1 c _ _ _ ha1 hc15 hG HZ frz KZ d6 (by rw [← hs, rC0 RZ c_185]; exact RZ)
      ·
        refine g_aload_n (q := 189) C dX8_reset_188 rfl rfl ?_
        refine g_callVvp (q := 192) (As := []) C gyX8_checks gvX8_checks t_1248 (c_X8_checksx_r (t := t) (r := (s.1, s.2.1)) HZ T1 RZ) dX8_reset_189 rfl HZ.1 rfl rfl rfl (Nat.le_of_ble_eq_true rfl) (Nat.le_of_ble_eq_true rfl) (Nat.le_of_ble_eq_true rfl) (Nat.le_of_ble_eq_true rfl) (Nat.le_of_ble_eq_true rfl) rfl (fun h31 z31 => ?_)
        obtain ⟨N31, HN31, fn31, K31, an31, RN31⟩ := z31
        exact J192 x2 a1 c _ _ _ ha1 hc15 hG HN31 (gFM.trans frz fn31) (KZ.trans K31) ((an31 2 6).trans d6) (by rw [← hs, rC1 RZ c_185]; exact RN31)
    | succ d ih =>
      intro j hj s M1 hz hs HZ frz KZ d6 RZ
      have T1 := TB.k KZ
      have hzn := RZ.hz T1
      refine g_iload_n (q := 160) C dX8_reset_159 rfl rfl ?_
      refine g_aload_n (q := 161) C dX8_reset_160 rfl rfl ?_
      refine g_getfield (v := .ref 125) (q := 164) C fX8_16 dX8_reset_161 rfl HZ.1 rfl ?_
      refine g_bipush (v := 6) (q := 166) C dX8_reset_164 (by decide) rfl ?_
      refine g_ialoadN (x := (M1.a 2 6)) (j := 6) (q := 167) C dX8_reset_166 rfl (HZ.ar (i := 2) (n := 9) (by decide) rfl) (pk_in 6 9 (by decide)) (pk_cl 6) rfl ?_
      rw [show (M1.a 2 6) = nI c from d6]
      refine g_icmp_ge_f (t := 181) (q := 170) C dX8_reset_167 (by decide) rfl (fun h => nI_ge (show j < c by omega) (by omega) h) ?_
      refine g_aload_n (q := 171) C dX8_reset_170 rfl rfl ?_
      refine g_callVip (q := 174) (As := []) C gyX8_byteNext gvX8_byteNext t_1218 (c_X8_byteNext_r HZ hzn) dX8_reset_171 rfl HZ.1 rfl rfl rfl (Nat.le_of_ble_eq_true rfl) (Nat.le_of_ble_eq_true rfl) (Nat.le_of_ble_eq_true rfl) (Nat.le_of_ble_eq_true rfl) (Nat.le_of_ble_eq_true rfl) rfl (fun x32 h32 z32 => ?_)
      obtain ⟨N32, HN32, fn32, bn32⟩ := z32
      refine g_pop (q := 175) C dX8_reset_174 rfl rfl ?_
      refine g_iinc (v := (nI (j + 1))) (q := 178) C dX8_reset_175 rfl (nI_1 j) (by simp only [gset]; rfl) rfl ?_
      refine g_goto (q := 159) C dX8_reset_178 (by decide) ?_
      exact ih (j + 1) (by omega) _ _ _ (rH_s.symm.trans hs) HN32 (gFM.trans frz fn32) (KZ.trans (rK.bn bn32)) ((bn32.a 2 6).trans d6) (rHst T1 RZ bn32)
  have J129 : ∀ (D0 : gMd) (hz : List gA), gMod hz D0 → gFM hp hz → D0 = nH N20 x20 → gG X 129 [some (.ref 122), some (.int 9), none, none] [] hz 0 0 := by
    intro D0 hz HZ frz eD
    refine g_aload_n (q := 130) C dX8_reset_129 rfl rfl ?_
    refine g_callVip (q := 133) (As := []) C gyX8_byteNext gvX8_byteNext t_1218 (c_X8_byteNext_r HZ (by rw [eD]; exact B.hz2 bn20)) dX8_reset_130 rfl HZ.1 rfl rfl rfl (Nat.le_of_ble_eq_true rfl) (Nat.le_of_ble_eq_true rfl) (Nat.le_of_ble_eq_true rfl) (Nat.le_of_ble_eq_true rfl) (Nat.le_of_ble_eq_true rfl) rfl (fun x33 h33 z33 => ?_)
    obtain ⟨N33, HN33, fn33, bn33⟩ := z33
    rw [eD] at bn33
    obtain ⟨RH, ex1, ex0⟩ := rHd (Q := Q) B bn20 bn33
    have KH := ((rK.bn bn20).trans (nH.k (N1 := N20) (x1 := x20))).trans (rK.bn bn33)
    refine g_istore_n (q := 134) C dX8_reset_133 (Nat.le_of_ble_eq_true rfl) (by simp only [gset]; rfl) rfl ?_
    refine g_aload_n (q := 135) C dX8_reset_134 rfl rfl ?_
    refine g_iload_n (q := 136) C dX8_reset_135 rfl rfl ?_
    refine g_iconst (v := 4) (q := 137) C dX8_reset_136 (by decide) rfl ?_
    refine g_ishr (q := 138) C dX8_reset_137 rfl ?_
    refine g_callVvp (q := 141) (As := [.int ((x33 >>> (4 &&& 31)))]) C gyX8_groupsTold gvX8_groupsTold t_1226 (c_X8_groupsToldx_r (t := t) (r := rHD Q t) HN33 (TB.k KH) RH (fun h => ⟨by rw [ex1 h, rHDq h]; rfl, rShr (by rw [ex1 h]; exact rT.by TB 1), by rw [rHDq h]; rfl, by rw [rHDq h]; rfl⟩)) dX8_reset_138 rfl HN33.1 rfl rfl rfl (Nat.le_of_ble_eq_true rfl) (Nat.le_of_ble_eq_true rfl) (Nat.le_of_ble_eq_true rfl) (Nat.le_of_ble_eq_true rfl) (Nat.le_of_ble_eq_true rfl) rfl (fun h34 z34 => ?_)
    obtain ⟨N34, HN34, fn34, K34, RG⟩ := z34
    refine g_aload_n (q := 142) C dX8_reset_141 rfl rfl ?_
    refine g_getfield (v := .ref 125) (q := 145) C fX8_16 dX8_reset_142 rfl HN34.1 rfl ?_
    refine g_bipush (v := 6) (q := 147) C dX8_reset_145 (by decide) rfl ?_
    refine g_iload_n (q := 148) C dX8_reset_147 rfl rfl ?_
    refine g_bipush (v := 15) (q := 150) C dX8_reset_148 (by decide) rfl ?_
    refine g_iand (q := 151) C dX8_reset_150 rfl ?_
    refine g_iastoreN (j := 6) (q := 152) C dX8_reset_151 rfl (HN34.ar (i := 2) (n := 9) (by decide) rfl) (pk_in 6 9 (by decide)) (pk_cl 6) ?_
    refine gMsto (i := 2) (j := 6) (x := (x33 &&& 15)) HN34 (by decide) rfl rfl fun h35 HL35 fr35 => ?_
    refine g_aload_n (q := 153) C dX8_reset_152 rfl rfl ?_
    refine g_getfield (v := .int ((N34.f 21))) (q := 156) C fX8_89 dX8_reset_153 rfl HL35.1 rfl ?_
    refine g_istore_n (q := 157) C dX8_reset_156 (Nat.le_of_ble_eq_true rfl) (by simp only [gset]; rfl) rfl ?_
    refine g_iconst (v := 0) (q := 158) C dX8_reset_157 (by decide) rfl ?_
    refine g_istore_n (q := 159) C dX8_reset_158 (Nat.le_of_ble_eq_true rfl) (by simp only [gset]; rfl) rfl ?_
    obtain ⟨c, hc15, ec⟩ := raAnd15 (a := x33)
    obtain ⟨a1, ha1, ea1⟩ := RG.1.2
    rw [show (N34.f 21) = nI a1 from ea1]
    have hG : (rGs t 4 1 (rHD Q t)).1 = 0 → (rGs t 4 1 (rHD Q t)).2.f 8 = nI a1 ∧ (gat t 1 &&& 15).toNatClampNeg = c := fun h => by
      have hh : (rHD Q t).1 = 0 := by
        by_cases n : (rHD Q t).1 = 0
        · exact n
        · rw [rGs_st n] at h; exact absurd h n
      refine ⟨(RG.2 h).1.1.symm.trans ea1, ?_⟩
      rw [← ex1 hh, ec]; exact nI_clamp (by omega)
    have R6 : rM t (N34.put 2 6 (x33 &&& 15)) ((rGs t 4 1 (rHD Q t)).1, (rGs t 4 1 (rHD Q t)).2) := ⟨RG.1, RG.2⟩
    exact LL x33 a1 c ha1 hc15 hG c 0 (by omega) ((rGs t 4 1 (rHD Q t)).1, ((rGs t 4 1 (rHD Q t)).2, ([] : List Int32))) _ _ rfl HL35 (gFM.trans (gFM.trans (gFM.trans frz fn33) fn34) fr35) ((KH.trans K34).trans rK.put) (gput_s.trans ec) R6
  refine g_aload_n (q := 95) C dX8_reset_94 rfl rfl ?_
  refine g_getfield (v := .int ((N20.f 22))) (q := 98) C fX8_86 dX8_reset_95 rfl HL21.1 rfl ?_
  refine g_if_ne (t := 129) (q := 101) C dX8_reset_98 (by decide) rfl (fun c_98 => ?_) (fun c_98 => ?_)
  ·
    have e : nH N20 x20 = (N20.put 2 0 x20) := (if_neg c_98)
    exact J129 (nH N20 x20) _ (by rw [e]; exact HL21) (gFM.trans (gFM.trans frB fn20) fr21) rfl
  ·
    refine g_aload_n (q := 102) C dX8_reset_101 rfl rfl ?_
    refine g_getfield (v := .ref 125) (q := 105) C fX8_16 dX8_reset_102 rfl HL21.1 rfl ?_
    refine g_iconst (v := 0) (q := 106) C dX8_reset_105 (by decide) rfl ?_
    refine g_ialoadN (x := x20) (j := 0) (q := 107) C dX8_reset_106 rfl (HL21.ar (i := 2) (n := 9) (by decide) rfl) (pk_in 0 9 (by decide)) (pk_cl 0) gput_s ?_
    refine g_bipush (v := 59) (q := 109) C dX8_reset_107 (by decide) rfl ?_
    refine g_icmp_eq (t := 129) (q := 112) C dX8_reset_109 (by decide) rfl (fun c_109 => ?_) (fun c_109 => ?_)
    ·
      have e : nH N20 x20 = (N20.put 2 0 x20) := ((if_pos c_98).trans (if_pos c_109))
      exact J129 (nH N20 x20) _ (by rw [e]; exact HL21) (gFM.trans (gFM.trans frB fn20) fr21) rfl
    ·
      refine g_aload_n (q := 113) C dX8_reset_112 rfl rfl ?_
      refine g_getfield (v := .ref 125) (q := 116) C fX8_16 dX8_reset_113 rfl HL21.1 rfl ?_
      refine g_iconst (v := 0) (q := 117) C dX8_reset_116 (by decide) rfl ?_
      refine g_ialoadN (x := x20) (j := 0) (q := 118) C dX8_reset_117 rfl (HL21.ar (i := 2) (n := 9) (by decide) rfl) (pk_in 0 9 (by decide)) (pk_cl 0) gput_s ?_
      refine g_bipush (v := 63) (q := 120) C dX8_reset_118 (by decide) rfl ?_
      refine g_icmp_eq (t := 129) (q := 123) C dX8_reset_120 (by decide) rfl (fun c_120 => ?_) (fun c_120 => ?_)
      ·
        have e : nH N20 x20 = (N20.put 2 0 x20) := ((if_pos c_98).trans ((if_neg c_109).trans (if_pos c_120)))
        exact J129 (nH N20 x20) _ (by rw [e]; exact HL21) (gFM.trans (gFM.trans frB fn20) fr21) rfl
      ·
        refine g_aload_n (q := 124) C dX8_reset_123 rfl rfl ?_
        refine g_iconst (v := 2) (q := 125) C dX8_reset_124 (by decide) rfl ?_
        refine g_iconst (v := 0) (q := 126) C dX8_reset_125 (by decide) rfl ?_
        refine g_callVvp (q := 129) (As := [.int 2, .int 0]) C gyX8_wrong gvX8_wrong t_1222 (c_X8_wrong_m HL21) dX8_reset_126 rfl HL21.1 rfl rfl rfl (Nat.le_of_ble_eq_true rfl) (Nat.le_of_ble_eq_true rfl) (Nat.le_of_ble_eq_true rfl) (Nat.le_of_ble_eq_true rfl) (Nat.le_of_ble_eq_true rfl) rfl (fun h36 z36 => ?_)
        obtain ⟨HL36, fr36⟩ := z36
        have e : nH N20 x20 = (rX8_wrong (N20.put 2 0 x20) 2 0) := ((if_pos c_98).trans ((if_neg c_109).trans (if_neg c_120)))
        exact J129 (nH N20 x20) _ (by rw [e]; exact HL36) (gFM.trans (gFM.trans (gFM.trans frB fn20) fr21) fr36) rfl
  
  
