/-! the reference: its constructor (by program: wip/p1/m_model.py) -/
def gS0 : Nat → Int32 := upd (upd (upd (upd (upd (upd (upd (upd (upd (upd (upd (upd (fun _ => 0) 2 32) 5 (-1)) 9 (-1)) 11 (-1)) 14 (-1)) 18 32) 21 (-1)) 25 (-1)) 27 (-1)) 30 (-1)) 418 (-1)) 428 3
theorem gset_idL {hp : List gA} {k : Nat} {e : gA} (h : hp[k]? = some e) : hp.set k e = hp := by
  apply List.ext_getElem?
  intro j
  by_cases hj : k = j
  · subst hj; rw [gset_self h, h]
  · rw [List.getElem?_set_ne hj]
set_option maxRecDepth 100000 in
set_option maxHeartbeats 4000000 in
theorem c_X8_begins {hp : List gA} {m : Nat} {taped0 thrown0 hasCard0 repeats0 logged0 logAt0 unlike0 quiet0 size0 at0 fault0 special0 hasOther0 blockMany0 cameMany0 cameHow0 hasLost0 hasSpoilt0 hasSent0 tryOf0 reason0 wouldSend0 wantedMany0 : Int32} {tapeA toldA draftA historyA sA keptA logA logBytesA unlikeFromA unlikeSideA unlikeOftenA unlikeBytesA blockA cameA infA wantedA : Nat} {f0 : Nat → Int32} (hm : hp[m]? = some (.inr (.inr (8, [.ref tapeA, .int taped0, .int thrown0, .int hasCard0, .ref toldA, .ref draftA, .ref historyA, .ref sA, .ref keptA, .int repeats0, .ref logA, .ref logBytesA, .int logged0, .int logAt0, .ref unlikeFromA, .ref unlikeSideA, .ref unlikeOftenA, .ref unlikeBytesA, .int unlike0, .int quiet0, .int size0, .int at0, .int fault0, .int special0, .int hasOther0, .ref blockA, .int blockMany0, .ref cameA, .int cameMany0, .int cameHow0, .int hasLost0, .int hasSpoilt0, .ref infA, .int hasSent0, .int tryOf0, .int reason0, .int wouldSend0, .ref wantedA, .int wantedMany0])))) (hs : hp[sA]? = some (.inl (772, f0))) : gM yX8_begins cX8_begins 2 (none) 0 0 [.ref m] (hp) (0) (0) (fun v h => v = none ∧ ∃ f1, (∀ j, j < 772 → f1 j = gS0 j) ∧ h = (hp.set sA (.inl (772, f1))).set m (.inr (.inr (8, [.ref tapeA, .int taped0, .int thrown0, .int hasCard0, .ref toldA, .ref draftA, .ref historyA, .ref sA, .ref keptA, .int repeats0, .ref logA, .ref logBytesA, .int 0, .int logAt0, .ref unlikeFromA, .ref unlikeSideA, .ref unlikeOftenA, .ref unlikeBytesA, .int 0, .int quiet0, .int size0, .int at0, .int fault0, .int special0, .int hasOther0, .ref blockA, .int blockMany0, .ref cameA, .int cameMany0, .int cameHow0, .int hasLost0, .int hasSpoilt0, .ref infA, .int hasSent0, .int tryOf0, .int reason0, .int wouldSend0, .ref wantedA, .int wantedMany0])))) := by
  have n_m_sA : m ≠ sA := gne hm hs (by intro h; cases h)
  have n_sA_m : sA ≠ m := gne hs hm (by intro h; cases h)
  refine gM_of (ls0 := [some (.ref m), none]) (by decide +kernel) (Nat.le_of_ble_eq_true rfl) rfl fun X C E => ?_
  have n_sA_m : sA ≠ m := gne hs hm (by intro h; cases h)
  have n_m_sA : m ≠ sA := Ne.symm n_sA_m
  have L2 : ∀ f : Nat → Int32, (∀ j, j < 772 → f j = 0) → gG X 22 [some (.ref m), some (.int (nI 772))] [] (hp.set sA (.inl (772, f))) 0 0 := by
    intro f hf
    refine g_iconst (v := 0) (q := 23) C dX8_begins_22 (by decide) rfl ?_
    refine g_istore_n (q := 24) C dX8_begins_23 (Nat.le_of_ble_eq_true rfl) (by simp only [gset]; rfl) rfl ?_
    refine g_iload_n (q := 25) C dX8_begins_24 rfl rfl ?_
    refine g_iconst (v := 2) (q := 26) C dX8_begins_25 (by decide) rfl ?_
    refine g_icmp_ge_f (t := 99) (q := 29) C dX8_begins_26 (by decide) rfl (by decide) ?_
    refine g_aload_n (q := 30) C dX8_begins_29 rfl rfl ?_
    refine g_getfield (q := 33) C fX8_22 dX8_begins_30 rfl (gset_other hm n_sA_m) rfl ?_
    refine g_bipush (v := 16) (q := 35) C dX8_begins_33 (by decide) rfl ?_
    refine g_iload_n (q := 36) C dX8_begins_35 rfl rfl ?_
    refine g_imul (q := 37) C dX8_begins_36 rfl ?_
    refine g_iconst (v := 2) (q := 38) C dX8_begins_37 (by decide) rfl ?_
    refine g_iadd (q := 39) C dX8_begins_38 rfl ?_
    refine g_bipush (v := 32) (q := 41) C dX8_begins_39 (by decide) rfl ?_
    refine g_iastoreN (j := 2) (q := 42) C dX8_begins_41 rfl (gset_self hs) (by unfold vp_in; decide) (by decide) ?_
    refine g_aload_n (q := 43) C dX8_begins_42 rfl rfl ?_
    refine g_getfield (q := 46) C fX8_22 dX8_begins_43 rfl (gset_other (gset_other hm n_sA_m) n_sA_m) rfl ?_
    refine g_bipush (v := 16) (q := 48) C dX8_begins_46 (by decide) rfl ?_
    refine g_iload_n (q := 49) C dX8_begins_48 rfl rfl ?_
    refine g_imul (q := 50) C dX8_begins_49 rfl ?_
    refine g_iconst (v := 5) (q := 51) C dX8_begins_50 (by decide) rfl ?_
    refine g_iadd (q := 52) C dX8_begins_51 rfl ?_
    refine g_iconst (v := (-1)) (q := 53) C dX8_begins_52 (by decide) rfl ?_
    refine g_iastoreN (j := 5) (q := 54) C dX8_begins_53 rfl (gset_self (gset_self hs)) (by unfold vp_in; decide) (by decide) ?_
    refine g_aload_n (q := 55) C dX8_begins_54 rfl rfl ?_
    refine g_getfield (q := 58) C fX8_22 dX8_begins_55 rfl (gset_other (gset_other (gset_other hm n_sA_m) n_sA_m) n_sA_m) rfl ?_
    refine g_bipush (v := 16) (q := 60) C dX8_begins_58 (by decide) rfl ?_
    refine g_iload_n (q := 61) C dX8_begins_60 rfl rfl ?_
    refine g_imul (q := 62) C dX8_begins_61 rfl ?_
    refine g_bipush (v := 9) (q := 64) C dX8_begins_62 (by decide) rfl ?_
    refine g_iadd (q := 65) C dX8_begins_64 rfl ?_
    refine g_iconst (v := (-1)) (q := 66) C dX8_begins_65 (by decide) rfl ?_
    refine g_iastoreN (j := 9) (q := 67) C dX8_begins_66 rfl (gset_self (gset_self (gset_self hs))) (by unfold vp_in; decide) (by decide) ?_
    refine g_aload_n (q := 68) C dX8_begins_67 rfl rfl ?_
    refine g_getfield (q := 71) C fX8_22 dX8_begins_68 rfl (gset_other (gset_other (gset_other (gset_other hm n_sA_m) n_sA_m) n_sA_m) n_sA_m) rfl ?_
    refine g_bipush (v := 16) (q := 73) C dX8_begins_71 (by decide) rfl ?_
    refine g_iload_n (q := 74) C dX8_begins_73 rfl rfl ?_
    refine g_imul (q := 75) C dX8_begins_74 rfl ?_
    refine g_bipush (v := 11) (q := 77) C dX8_begins_75 (by decide) rfl ?_
    refine g_iadd (q := 78) C dX8_begins_77 rfl ?_
    refine g_iconst (v := (-1)) (q := 79) C dX8_begins_78 (by decide) rfl ?_
    refine g_iastoreN (j := 11) (q := 80) C dX8_begins_79 rfl (gset_self (gset_self (gset_self (gset_self hs)))) (by unfold vp_in; decide) (by decide) ?_
    refine g_aload_n (q := 81) C dX8_begins_80 rfl rfl ?_
    refine g_getfield (q := 84) C fX8_22 dX8_begins_81 rfl (gset_other (gset_other (gset_other (gset_other (gset_other hm n_sA_m) n_sA_m) n_sA_m) n_sA_m) n_sA_m) rfl ?_
    refine g_bipush (v := 16) (q := 86) C dX8_begins_84 (by decide) rfl ?_
    refine g_iload_n (q := 87) C dX8_begins_86 rfl rfl ?_
    refine g_imul (q := 88) C dX8_begins_87 rfl ?_
    refine g_bipush (v := 14) (q := 90) C dX8_begins_88 (by decide) rfl ?_
    refine g_iadd (q := 91) C dX8_begins_90 rfl ?_
    refine g_iconst (v := (-1)) (q := 92) C dX8_begins_91 (by decide) rfl ?_
    refine g_iastoreN (j := 14) (q := 93) C dX8_begins_92 rfl (gset_self (gset_self (gset_self (gset_self (gset_self hs))))) (by unfold vp_in; decide) (by decide) ?_
    refine g_iinc (v := 1) (q := 96) C dX8_begins_93 rfl (by decide) (by simp only [gset]; rfl) rfl ?_
    refine g_goto (q := 24) C dX8_begins_96 (by decide) ?_
    refine g_iload_n (q := 25) C dX8_begins_24 rfl rfl ?_
    refine g_iconst (v := 2) (q := 26) C dX8_begins_25 (by decide) rfl ?_
    refine g_icmp_ge_f (t := 99) (q := 29) C dX8_begins_26 (by decide) rfl (by decide) ?_
    refine g_aload_n (q := 30) C dX8_begins_29 rfl rfl ?_
    refine g_getfield (q := 33) C fX8_22 dX8_begins_30 rfl (gset_other (gset_other (gset_other (gset_other (gset_other (gset_other hm n_sA_m) n_sA_m) n_sA_m) n_sA_m) n_sA_m) n_sA_m) rfl ?_
    refine g_bipush (v := 16) (q := 35) C dX8_begins_33 (by decide) rfl ?_
    refine g_iload_n (q := 36) C dX8_begins_35 rfl rfl ?_
    refine g_imul (q := 37) C dX8_begins_36 rfl ?_
    refine g_iconst (v := 2) (q := 38) C dX8_begins_37 (by decide) rfl ?_
    refine g_iadd (q := 39) C dX8_begins_38 rfl ?_
    refine g_bipush (v := 32) (q := 41) C dX8_begins_39 (by decide) rfl ?_
    refine g_iastoreN (j := 18) (q := 42) C dX8_begins_41 rfl (gset_self (gset_self (gset_self (gset_self (gset_self (gset_self hs)))))) (by unfold vp_in; decide) (by decide) ?_
    refine g_aload_n (q := 43) C dX8_begins_42 rfl rfl ?_
    refine g_getfield (q := 46) C fX8_22 dX8_begins_43 rfl (gset_other (gset_other (gset_other (gset_other (gset_other (gset_other (gset_other hm n_sA_m) n_sA_m) n_sA_m) n_sA_m) n_sA_m) n_sA_m) n_sA_m) rfl ?_
    refine g_bipush (v := 16) (q := 48) C dX8_begins_46 (by decide) rfl ?_
    refine g_iload_n (q := 49) C dX8_begins_48 rfl rfl ?_
    refine g_imul (q := 50) C dX8_begins_49 rfl ?_
    refine g_iconst (v := 5) (q := 51) C dX8_begins_50 (by decide) rfl ?_
    refine g_iadd (q := 52) C dX8_begins_51 rfl ?_
    refine g_iconst (v := (-1)) (q := 53) C dX8_begins_52 (by decide) rfl ?_
    refine g_iastoreN (j := 21) (q := 54) C dX8_begins_53 rfl (gset_self (gset_self (gset_self (gset_self (gset_self (gset_self (gset_self hs))))))) (by unfold vp_in; decide) (by decide) ?_
    refine g_aload_n (q := 55) C dX8_begins_54 rfl rfl ?_
    refine g_getfield (q := 58) C fX8_22 dX8_begins_55 rfl (gset_other (gset_other (gset_other (gset_other (gset_other (gset_other (gset_other (gset_other hm n_sA_m) n_sA_m) n_sA_m) n_sA_m) n_sA_m) n_sA_m) n_sA_m) n_sA_m) rfl ?_
    refine g_bipush (v := 16) (q := 60) C dX8_begins_58 (by decide) rfl ?_
    refine g_iload_n (q := 61) C dX8_begins_60 rfl rfl ?_
    refine g_imul (q := 62) C dX8_begins_61 rfl ?_
    refine g_bipush (v := 9) (q := 64) C dX8_begins_62 (by decide) rfl ?_
    refine g_iadd (q := 65) C dX8_begins_64 rfl ?_
    refine g_iconst (v := (-1)) (q := 66) C dX8_begins_65 (by decide) rfl ?_
    refine g_iastoreN (j := 25) (q := 67) C dX8_begins_66 rfl (gset_self (gset_self (gset_self (gset_self (gset_self (gset_self (gset_self (gset_self hs)))))))) (by unfold vp_in; decide) (by decide) ?_
    refine g_aload_n (q := 68) C dX8_begins_67 rfl rfl ?_
    refine g_getfield (q := 71) C fX8_22 dX8_begins_68 rfl (gset_other (gset_other (gset_other (gset_other (gset_other (gset_other (gset_other (gset_other (gset_other hm n_sA_m) n_sA_m) n_sA_m) n_sA_m) n_sA_m) n_sA_m) n_sA_m) n_sA_m) n_sA_m) rfl ?_
    refine g_bipush (v := 16) (q := 73) C dX8_begins_71 (by decide) rfl ?_
    refine g_iload_n (q := 74) C dX8_begins_73 rfl rfl ?_
    refine g_imul (q := 75) C dX8_begins_74 rfl ?_
    refine g_bipush (v := 11) (q := 77) C dX8_begins_75 (by decide) rfl ?_
    refine g_iadd (q := 78) C dX8_begins_77 rfl ?_
    refine g_iconst (v := (-1)) (q := 79) C dX8_begins_78 (by decide) rfl ?_
    refine g_iastoreN (j := 27) (q := 80) C dX8_begins_79 rfl (gset_self (gset_self (gset_self (gset_self (gset_self (gset_self (gset_self (gset_self (gset_self hs))))))))) (by unfold vp_in; decide) (by decide) ?_
    refine g_aload_n (q := 81) C dX8_begins_80 rfl rfl ?_
    refine g_getfield (q := 84) C fX8_22 dX8_begins_81 rfl (gset_other (gset_other (gset_other (gset_other (gset_other (gset_other (gset_other (gset_other (gset_other (gset_other hm n_sA_m) n_sA_m) n_sA_m) n_sA_m) n_sA_m) n_sA_m) n_sA_m) n_sA_m) n_sA_m) n_sA_m) rfl ?_
    refine g_bipush (v := 16) (q := 86) C dX8_begins_84 (by decide) rfl ?_
    refine g_iload_n (q := 87) C dX8_begins_86 rfl rfl ?_
    refine g_imul (q := 88) C dX8_begins_87 rfl ?_
    refine g_bipush (v := 14) (q := 90) C dX8_begins_88 (by decide) rfl ?_
    refine g_iadd (q := 91) C dX8_begins_90 rfl ?_
    refine g_iconst (v := (-1)) (q := 92) C dX8_begins_91 (by decide) rfl ?_
    refine g_iastoreN (j := 30) (q := 93) C dX8_begins_92 rfl (gset_self (gset_self (gset_self (gset_self (gset_self (gset_self (gset_self (gset_self (gset_self (gset_self hs)))))))))) (by unfold vp_in; decide) (by decide) ?_
    refine g_iinc (v := 2) (q := 96) C dX8_begins_93 rfl (by decide) (by simp only [gset]; rfl) rfl ?_
    refine g_goto (q := 24) C dX8_begins_96 (by decide) ?_
    refine g_iload_n (q := 25) C dX8_begins_24 rfl rfl ?_
    refine g_iconst (v := 2) (q := 26) C dX8_begins_25 (by decide) rfl ?_
    refine g_icmp_ge_t (t := 99) C dX8_begins_26 (by decide) (by decide) ?_
    refine g_aload_n (q := 100) C dX8_begins_99 rfl rfl ?_
    refine g_getfield (q := 103) C fX8_22 dX8_begins_100 rfl (gset_other (gset_other (gset_other (gset_other (gset_other (gset_other (gset_other (gset_other (gset_other (gset_other (gset_other hm n_sA_m) n_sA_m) n_sA_m) n_sA_m) n_sA_m) n_sA_m) n_sA_m) n_sA_m) n_sA_m) n_sA_m) n_sA_m) rfl ?_
    refine g_sipush (v := 418) (q := 106) C dX8_begins_103 (by decide) rfl ?_
    refine g_iconst (v := (-1)) (q := 107) C dX8_begins_106 (by decide) rfl ?_
    refine g_iastoreN (j := 418) (q := 108) C dX8_begins_107 rfl (gset_self (gset_self (gset_self (gset_self (gset_self (gset_self (gset_self (gset_self (gset_self (gset_self (gset_self hs))))))))))) (by unfold vp_in; decide) (by decide) ?_
    refine g_aload_n (q := 109) C dX8_begins_108 rfl rfl ?_
    refine g_getfield (q := 112) C fX8_22 dX8_begins_109 rfl (gset_other (gset_other (gset_other (gset_other (gset_other (gset_other (gset_other (gset_other (gset_other (gset_other (gset_other (gset_other hm n_sA_m) n_sA_m) n_sA_m) n_sA_m) n_sA_m) n_sA_m) n_sA_m) n_sA_m) n_sA_m) n_sA_m) n_sA_m) n_sA_m) rfl ?_
    refine g_sipush (v := 428) (q := 115) C dX8_begins_112 (by decide) rfl ?_
    refine g_iconst (v := 3) (q := 116) C dX8_begins_115 (by decide) rfl ?_
    refine g_iastoreN (j := 428) (q := 117) C dX8_begins_116 rfl (gset_self (gset_self (gset_self (gset_self (gset_self (gset_self (gset_self (gset_self (gset_self (gset_self (gset_self (gset_self hs)))))))))))) (by unfold vp_in; decide) (by decide) ?_
    refine g_aload_n (q := 118) C dX8_begins_117 rfl rfl ?_
    refine g_iconst (v := 0) (q := 119) C dX8_begins_118 (by decide) rfl ?_
    refine g_putfield (q := 122) C fX8_69 dX8_begins_119 rfl (gset_other (gset_other (gset_other (gset_other (gset_other (gset_other (gset_other (gset_other (gset_other (gset_other (gset_other (gset_other (gset_other hm n_sA_m) n_sA_m) n_sA_m) n_sA_m) n_sA_m) n_sA_m) n_sA_m) n_sA_m) n_sA_m) n_sA_m) n_sA_m) n_sA_m) n_sA_m) (Nat.le_of_ble_eq_true rfl) (Or.inl rfl) rfl rfl (by intro z h; cases h) ?_
    refine g_aload_n (q := 123) C dX8_begins_122 rfl rfl ?_
    refine g_iconst (v := 0) (q := 124) C dX8_begins_123 (by decide) rfl ?_
    refine g_putfield (q := 127) C fX8_72 dX8_begins_124 rfl (gset_self (gset_other (gset_other (gset_other (gset_other (gset_other (gset_other (gset_other (gset_other (gset_other (gset_other (gset_other (gset_other (gset_other hm n_sA_m) n_sA_m) n_sA_m) n_sA_m) n_sA_m) n_sA_m) n_sA_m) n_sA_m) n_sA_m) n_sA_m) n_sA_m) n_sA_m) n_sA_m)) (Nat.le_of_ble_eq_true rfl) (Or.inl rfl) rfl rfl (by intro z h; cases h) ?_
    refine E.2.1 _ _ _ _ _ dX8_begins_127 rfl (Nat.le_of_ble_eq_true rfl) (Nat.le_of_ble_eq_true rfl) ⟨rfl, (upd (upd (upd (upd (upd (upd (upd (upd (upd (upd (upd (upd f 2 32) 5 (-1)) 9 (-1)) 11 (-1)) 14 (-1)) 18 32) 21 (-1)) 25 (-1)) 27 (-1)) 30 (-1)) 418 (-1)) 428 3), fun j hj => ?_, ?_⟩
    rotate_left 1
    · simp only [List.set_set]
      rfl
    · simp only [gS0, upd]
      rw [hf j hj]
  have L1 : ∀ (d k : Nat) (f : Nat → Int32), k + d = 772 → (∀ j, j < k → f j = 0) → gG X 2 [some (.ref m), some (.int (nI k))] [] (hp.set sA (.inl (772, f))) 0 0 := by
    intro d
    induction d with
    | zero =>
      intro k f hk hf
      have hk2 : k = 772 := by omega
      subst hk2
      refine g_iload_n (q := 3) C dX8_begins_2 rfl rfl ?_
      refine g_sipush (v := 772) (q := 6) C dX8_begins_3 (by decide) rfl ?_
      refine g_icmp_ge_t (t := 22) C dX8_begins_6 (by decide) (by decide) ?_
      exact L2 f hf
    | succ d ih =>
      intro k f hk hf
      refine g_iload_n (q := 3) C dX8_begins_2 rfl rfl ?_
      refine g_sipush (v := 772) (q := 6) C dX8_begins_3 (by decide) rfl ?_
      refine g_icmp_ge_f (t := 22) (q := 9) C dX8_begins_6 (by decide) rfl (by show ¬ nI 772 ≤ nI k; exact nI_ge (by omega) (by omega)) ?_
      refine g_aload_n (q := 10) C dX8_begins_9 rfl rfl ?_
      refine g_getfield (q := 13) C fX8_22 dX8_begins_10 rfl (gset_other hm n_sA_m) rfl ?_
      refine g_iload_n (q := 14) C dX8_begins_13 rfl rfl ?_
      refine g_iconst (v := 0) (q := 15) C dX8_begins_14 (by decide) rfl ?_
      refine g_iastoreN (j := k) (q := 16) C dX8_begins_15 rfl (gset_self hs) (vp_inN (nI_clamp (by omega)) (nI_pos (by omega)) (by omega)) (nI_clamp (by omega)) ?_
      refine g_iinc (v := nI (k + 1)) (q := 19) C dX8_begins_16 rfl (nI_1 k) (by simp only [gset]; rfl) rfl ?_
      refine g_goto (q := 2) C dX8_begins_19 (by decide) ?_
      simp only [List.set_set]
      exact ih (k + 1) _ (by omega) (fun j hj => by unfold upd; split; rfl; exact hf j (by omega))
  refine g_iconst (v := 0) (q := 1) C dX8_begins_0 (by decide) rfl ?_
  refine g_istore_n (q := 2) C dX8_begins_1 (Nat.le_of_ble_eq_true rfl) (by simp only [gset]; rfl) rfl ?_
  have h0 := L1 772 0 f0 rfl (fun j hj => absurd hj (Nat.not_lt_zero j))
  rw [gset_idL hs] at h0
  exact h0
  
theorem dX8_init_0 : decode cX8_init 0 = .ok (.aload_n 0, 1) := by decide +kernel
theorem dX8_init_1 : decode cX8_init 1 = .ok (.invokespecial 1, 3) := by decide +kernel
theorem dX8_init_4 : decode cX8_init 4 = .ok (.aload_n 0, 1) := by decide +kernel
theorem dX8_init_5 : decode cX8_init 5 = .ok (.bipush 96, 2) := by decide +kernel
theorem dX8_init_7 : decode cX8_init 7 = .ok (.newarray .int, 2) := by decide +kernel
theorem dX8_init_9 : decode cX8_init 9 = .ok (.putfield 7, 3) := by decide +kernel
theorem dX8_init_12 : decode cX8_init 12 = .ok (.aload_n 0, 1) := by decide +kernel
theorem dX8_init_13 : decode cX8_init 13 = .ok (.bipush 9, 2) := by decide +kernel
theorem dX8_init_15 : decode cX8_init 15 = .ok (.newarray .int, 2) := by decide +kernel
theorem dX8_init_17 : decode cX8_init 17 = .ok (.putfield 13, 3) := by decide +kernel
theorem dX8_init_20 : decode cX8_init 20 = .ok (.aload_n 0, 1) := by decide +kernel
theorem dX8_init_21 : decode cX8_init 21 = .ok (.bipush 9, 2) := by decide +kernel
theorem dX8_init_23 : decode cX8_init 23 = .ok (.newarray .int, 2) := by decide +kernel
theorem dX8_init_25 : decode cX8_init 25 = .ok (.putfield 16, 3) := by decide +kernel
theorem dX8_init_28 : decode cX8_init 28 = .ok (.aload_n 0, 1) := by decide +kernel
theorem dX8_init_29 : decode cX8_init 29 = .ok (.bipush 15, 2) := by decide +kernel
theorem dX8_init_31 : decode cX8_init 31 = .ok (.newarray .int, 2) := by decide +kernel
theorem dX8_init_33 : decode cX8_init 33 = .ok (.putfield 19, 3) := by decide +kernel
theorem dX8_init_36 : decode cX8_init 36 = .ok (.aload_n 0, 1) := by decide +kernel
theorem dX8_init_37 : decode cX8_init 37 = .ok (.sipush 772, 3) := by decide +kernel
theorem dX8_init_40 : decode cX8_init 40 = .ok (.newarray .int, 2) := by decide +kernel
theorem dX8_init_42 : decode cX8_init 42 = .ok (.putfield 22, 3) := by decide +kernel
theorem dX8_init_45 : decode cX8_init 45 = .ok (.aload_n 0, 1) := by decide +kernel
theorem dX8_init_46 : decode cX8_init 46 = .ok (.sipush 772, 3) := by decide +kernel
theorem dX8_init_49 : decode cX8_init 49 = .ok (.newarray .int, 2) := by decide +kernel
theorem dX8_init_51 : decode cX8_init 51 = .ok (.putfield 25, 3) := by decide +kernel
theorem dX8_init_54 : decode cX8_init 54 = .ok (.aload_n 0, 1) := by decide +kernel
theorem dX8_init_55 : decode cX8_init 55 = .ok (.iconst 1, 1) := by decide +kernel
theorem dX8_init_56 : decode cX8_init 56 = .ok (.putfield 28, 3) := by decide +kernel
theorem dX8_init_59 : decode cX8_init 59 = .ok (.aload_n 0, 1) := by decide +kernel
theorem dX8_init_60 : decode cX8_init 60 = .ok (.sipush 180, 3) := by decide +kernel
theorem dX8_init_63 : decode cX8_init 63 = .ok (.newarray .int, 2) := by decide +kernel
theorem dX8_init_65 : decode cX8_init 65 = .ok (.putfield 32, 3) := by decide +kernel
theorem dX8_init_68 : decode cX8_init 68 = .ok (.aload_n 0, 1) := by decide +kernel
theorem dX8_init_69 : decode cX8_init 69 = .ok (.sipush 7740, 3) := by decide +kernel
theorem dX8_init_72 : decode cX8_init 72 = .ok (.newarray .int, 2) := by decide +kernel
theorem dX8_init_74 : decode cX8_init 74 = .ok (.putfield 35, 3) := by decide +kernel
theorem dX8_init_77 : decode cX8_init 77 = .ok (.aload_n 0, 1) := by decide +kernel
theorem dX8_init_78 : decode cX8_init 78 = .ok (.sipush 8193, 3) := by decide +kernel
theorem dX8_init_81 : decode cX8_init 81 = .ok (.newarray .int, 2) := by decide +kernel
theorem dX8_init_83 : decode cX8_init 83 = .ok (.putfield 38, 3) := by decide +kernel
theorem dX8_init_86 : decode cX8_init 86 = .ok (.aload_n 0, 1) := by decide +kernel
theorem dX8_init_87 : decode cX8_init 87 = .ok (.sipush 8192, 3) := by decide +kernel
theorem dX8_init_90 : decode cX8_init 90 = .ok (.newarray .int, 2) := by decide +kernel
theorem dX8_init_92 : decode cX8_init 92 = .ok (.putfield 41, 3) := by decide +kernel
theorem dX8_init_95 : decode cX8_init 95 = .ok (.aload_n 0, 1) := by decide +kernel
theorem dX8_init_96 : decode cX8_init 96 = .ok (.sipush 8192, 3) := by decide +kernel
theorem dX8_init_99 : decode cX8_init 99 = .ok (.newarray .int, 2) := by decide +kernel
theorem dX8_init_101 : decode cX8_init 101 = .ok (.putfield 44, 3) := by decide +kernel
theorem dX8_init_104 : decode cX8_init 104 = .ok (.aload_n 0, 1) := by decide +kernel
theorem dX8_init_105 : decode cX8_init 105 = .ok (.ldc 47, 2) := by decide +kernel
theorem dX8_init_107 : decode cX8_init 107 = .ok (.newarray .int, 2) := by decide +kernel
theorem dX8_init_109 : decode cX8_init 109 = .ok (.putfield 48, 3) := by decide +kernel
theorem dX8_init_112 : decode cX8_init 112 = .ok (.aload_n 0, 1) := by decide +kernel
theorem dX8_init_113 : decode cX8_init 113 = .ok (.sipush 260, 3) := by decide +kernel
theorem dX8_init_116 : decode cX8_init 116 = .ok (.newarray .int, 2) := by decide +kernel
theorem dX8_init_118 : decode cX8_init 118 = .ok (.putfield 51, 3) := by decide +kernel
theorem dX8_init_121 : decode cX8_init 121 = .ok (.aload_n 0, 1) := by decide +kernel
theorem dX8_init_122 : decode cX8_init 122 = .ok (.sipush 260, 3) := by decide +kernel
theorem dX8_init_125 : decode cX8_init 125 = .ok (.newarray .int, 2) := by decide +kernel
theorem dX8_init_127 : decode cX8_init 127 = .ok (.putfield 54, 3) := by decide +kernel
theorem dX8_init_130 : decode cX8_init 130 = .ok (.aload_n 0, 1) := by decide +kernel
theorem dX8_init_131 : decode cX8_init 131 = .ok (.sipush 256, 3) := by decide +kernel
theorem dX8_init_134 : decode cX8_init 134 = .ok (.newarray .int, 2) := by decide +kernel
theorem dX8_init_136 : decode cX8_init 136 = .ok (.putfield 57, 3) := by decide +kernel
theorem dX8_init_139 : decode cX8_init 139 = .ok (.aload_n 0, 1) := by decide +kernel
theorem dX8_init_140 : decode cX8_init 140 = .ok (.bipush 64, 2) := by decide +kernel
theorem dX8_init_142 : decode cX8_init 142 = .ok (.newarray .int, 2) := by decide +kernel
theorem dX8_init_144 : decode cX8_init 144 = .ok (.putfield 60, 3) := by decide +kernel
theorem dX8_init_147 : decode cX8_init 147 = .ok (.aload_n 0, 1) := by decide +kernel
theorem dX8_init_148 : decode cX8_init 148 = .ok (.invokevirtual 63, 3) := by decide +kernel
theorem dX8_init_151 : decode cX8_init 151 = .ok (.return_, 1) := by decide +kernel
set_option maxRecDepth 100000 in
set_option maxHeartbeats 4000000 in
theorem c_X8_init {hp : List gA} {n : Nat} (hn : hp.length = n) : gM yX8_init cX8_init 1 (none) 1 21 [.ref (n + 0)] (hp ++ [.inr (.inr (8, [.null, .int 0, .int 0, .int 0, .null, .null, .null, .null, .null, .int 0, .null, .null, .int 0, .int 0, .null, .null, .null, .null, .int 0, .int 0, .int 0, .int 0, .int 0, .int 0, .int 0, .null, .int 0, .null, .int 0, .int 0, .int 0, .int 0, .null, .int 0, .int 0, .int 0, .int 0, .null, .int 0]))]) (16) (166082) (fun v h => v = none ∧ ∃ f9, (∀ j, j < 772 → f9 j = gS0 j) ∧ h = hp ++ [.inr (.inr (8, [.ref (n + 1), .int 0, .int 0, .int 0, .ref (n + 2), .ref (n + 3), .ref (n + 4), .ref (n + 5), .ref (n + 6), .int 1, .ref (n + 7), .ref (n + 8), .int 0, .int 0, .ref (n + 9), .ref (n + 10), .ref (n + 11), .ref (n + 12), .int 0, .int 0, .int 0, .int 0, .int 0, .int 0, .int 0, .ref (n + 13), .int 0, .ref (n + 14), .int 0, .int 0, .int 0, .int 0, .ref (n + 15), .int 0, .int 0, .int 0, .int 0, .ref (n + 16), .int 0])), .inl (96, fun _ => 0), .inl (9, fun _ => 0), .inl (9, fun _ => 0), .inl (15, fun _ => 0), .inl (772, f9), .inl (772, fun _ => 0), .inl (180, fun _ => 0), .inl (7740, fun _ => 0), .inl (8193, fun _ => 0), .inl (8192, fun _ => 0), .inl (8192, fun _ => 0), .inl (131072, fun _ => 0), .inl (260, fun _ => 0), .inl (260, fun _ => 0), .inl (256, fun _ => 0), .inl (64, fun _ => 0)]) := by
  refine gM_of (ls0 := [some (.ref (n + 0))]) (by decide +kernel) (Nat.le_of_ble_eq_true rfl) rfl fun X C E => ?_
  refine g_aload_n (q := 1) C dX8_init_0 rfl rfl ?_
  refine g_objInit (q := 4) C t_1075 t_123 t_124 dX8_init_1 rfl rfl (Nat.le_of_ble_eq_true rfl) (Nat.le_of_ble_eq_true rfl) ?_
  refine g_aload_n (q := 5) C dX8_init_4 rfl rfl ?_
  refine g_bipush (v := 96) (q := 7) C dX8_init_5 (by decide) rfl ?_
  refine g_newarray (q := 9) (k := n + 1) (N := 96) C t_144 dX8_init_7 rfl (by rw [List.length_append, hn]; rfl) (by decide) (by decide +kernel) (by decide) (Nat.le_of_ble_eq_true rfl) (Nat.le_of_ble_eq_true rfl) ?_
  refine g_heap (hp2 := hp ++ [.inr (.inr (8, [.null, .int 0, .int 0, .int 0, .null, .null, .null, .null, .null, .int 0, .null, .null, .int 0, .int 0, .null, .null, .null, .null, .int 0, .int 0, .int 0, .int 0, .int 0, .int 0, .int 0, .null, .int 0, .null, .int 0, .int 0, .int 0, .int 0, .null, .int 0, .int 0, .int 0, .int 0, .null, .int 0])), .inl (96, fun _ => 0)]) (by simp only [List.append_assoc, List.cons_append, List.nil_append]) ?_
  refine g_putE (q := 12) (hp' := hp ++ [.inr (.inr (8, [.ref (n + 1), .int 0, .int 0, .int 0, .null, .null, .null, .null, .null, .int 0, .null, .null, .int 0, .int 0, .null, .null, .null, .null, .int 0, .int 0, .int 0, .int 0, .int 0, .int 0, .int 0, .null, .int 0, .null, .int 0, .int 0, .int 0, .int 0, .null, .int 0, .int 0, .int 0, .int 0, .null, .int 0])), .inl (96, fun _ => 0)]) C fX8_7 dX8_init_9 rfl (gapp_new hn rfl) (Nat.le_of_ble_eq_true rfl) (Or.inr rfl) rfl rfl (by intro z h; cases h) rfl (gapp_set hn) ?_
  refine g_aload_n (q := 13) C dX8_init_12 rfl rfl ?_
  refine g_bipush (v := 9) (q := 15) C dX8_init_13 (by decide) rfl ?_
  refine g_newarray (q := 17) (k := n + 2) (N := 9) C t_144 dX8_init_15 rfl (by rw [List.length_append, hn]; rfl) (by decide) (by decide +kernel) (by decide) (Nat.le_of_ble_eq_true rfl) (Nat.le_of_ble_eq_true rfl) ?_
  refine g_heap (hp2 := hp ++ [.inr (.inr (8, [.ref (n + 1), .int 0, .int 0, .int 0, .null, .null, .null, .null, .null, .int 0, .null, .null, .int 0, .int 0, .null, .null, .null, .null, .int 0, .int 0, .int 0, .int 0, .int 0, .int 0, .int 0, .null, .int 0, .null, .int 0, .int 0, .int 0, .int 0, .null, .int 0, .int 0, .int 0, .int 0, .null, .int 0])), .inl (96, fun _ => 0), .inl (9, fun _ => 0)]) (by simp only [List.append_assoc, List.cons_append, List.nil_append]) ?_
  refine g_putE (q := 20) (hp' := hp ++ [.inr (.inr (8, [.ref (n + 1), .int 0, .int 0, .int 0, .ref (n + 2), .null, .null, .null, .null, .int 0, .null, .null, .int 0, .int 0, .null, .null, .null, .null, .int 0, .int 0, .int 0, .int 0, .int 0, .int 0, .int 0, .null, .int 0, .null, .int 0, .int 0, .int 0, .int 0, .null, .int 0, .int 0, .int 0, .int 0, .null, .int 0])), .inl (96, fun _ => 0), .inl (9, fun _ => 0)]) C fX8_13 dX8_init_17 rfl (gapp_new hn rfl) (Nat.le_of_ble_eq_true rfl) (Or.inr rfl) rfl rfl (by intro z h; cases h) rfl (gapp_set hn) ?_
  refine g_aload_n (q := 21) C dX8_init_20 rfl rfl ?_
  refine g_bipush (v := 9) (q := 23) C dX8_init_21 (by decide) rfl ?_
  refine g_newarray (q := 25) (k := n + 3) (N := 9) C t_144 dX8_init_23 rfl (by rw [List.length_append, hn]; rfl) (by decide) (by decide +kernel) (by decide) (Nat.le_of_ble_eq_true rfl) (Nat.le_of_ble_eq_true rfl) ?_
  refine g_heap (hp2 := hp ++ [.inr (.inr (8, [.ref (n + 1), .int 0, .int 0, .int 0, .ref (n + 2), .null, .null, .null, .null, .int 0, .null, .null, .int 0, .int 0, .null, .null, .null, .null, .int 0, .int 0, .int 0, .int 0, .int 0, .int 0, .int 0, .null, .int 0, .null, .int 0, .int 0, .int 0, .int 0, .null, .int 0, .int 0, .int 0, .int 0, .null, .int 0])), .inl (96, fun _ => 0), .inl (9, fun _ => 0), .inl (9, fun _ => 0)]) (by simp only [List.append_assoc, List.cons_append, List.nil_append]) ?_
  refine g_putE (q := 28) (hp' := hp ++ [.inr (.inr (8, [.ref (n + 1), .int 0, .int 0, .int 0, .ref (n + 2), .ref (n + 3), .null, .null, .null, .int 0, .null, .null, .int 0, .int 0, .null, .null, .null, .null, .int 0, .int 0, .int 0, .int 0, .int 0, .int 0, .int 0, .null, .int 0, .null, .int 0, .int 0, .int 0, .int 0, .null, .int 0, .int 0, .int 0, .int 0, .null, .int 0])), .inl (96, fun _ => 0), .inl (9, fun _ => 0), .inl (9, fun _ => 0)]) C fX8_16 dX8_init_25 rfl (gapp_new hn rfl) (Nat.le_of_ble_eq_true rfl) (Or.inr rfl) rfl rfl (by intro z h; cases h) rfl (gapp_set hn) ?_
  refine g_aload_n (q := 29) C dX8_init_28 rfl rfl ?_
  refine g_bipush (v := 15) (q := 31) C dX8_init_29 (by decide) rfl ?_
  refine g_newarray (q := 33) (k := n + 4) (N := 15) C t_144 dX8_init_31 rfl (by rw [List.length_append, hn]; rfl) (by decide) (by decide +kernel) (by decide) (Nat.le_of_ble_eq_true rfl) (Nat.le_of_ble_eq_true rfl) ?_
  refine g_heap (hp2 := hp ++ [.inr (.inr (8, [.ref (n + 1), .int 0, .int 0, .int 0, .ref (n + 2), .ref (n + 3), .null, .null, .null, .int 0, .null, .null, .int 0, .int 0, .null, .null, .null, .null, .int 0, .int 0, .int 0, .int 0, .int 0, .int 0, .int 0, .null, .int 0, .null, .int 0, .int 0, .int 0, .int 0, .null, .int 0, .int 0, .int 0, .int 0, .null, .int 0])), .inl (96, fun _ => 0), .inl (9, fun _ => 0), .inl (9, fun _ => 0), .inl (15, fun _ => 0)]) (by simp only [List.append_assoc, List.cons_append, List.nil_append]) ?_
  refine g_putE (q := 36) (hp' := hp ++ [.inr (.inr (8, [.ref (n + 1), .int 0, .int 0, .int 0, .ref (n + 2), .ref (n + 3), .ref (n + 4), .null, .null, .int 0, .null, .null, .int 0, .int 0, .null, .null, .null, .null, .int 0, .int 0, .int 0, .int 0, .int 0, .int 0, .int 0, .null, .int 0, .null, .int 0, .int 0, .int 0, .int 0, .null, .int 0, .int 0, .int 0, .int 0, .null, .int 0])), .inl (96, fun _ => 0), .inl (9, fun _ => 0), .inl (9, fun _ => 0), .inl (15, fun _ => 0)]) C fX8_19 dX8_init_33 rfl (gapp_new hn rfl) (Nat.le_of_ble_eq_true rfl) (Or.inr rfl) rfl rfl (by intro z h; cases h) rfl (gapp_set hn) ?_
  refine g_aload_n (q := 37) C dX8_init_36 rfl rfl ?_
  refine g_sipush (v := 772) (q := 40) C dX8_init_37 (by decide) rfl ?_
  refine g_newarray (q := 42) (k := n + 5) (N := 772) C t_144 dX8_init_40 rfl (by rw [List.length_append, hn]; rfl) (by decide) (by decide +kernel) (by decide) (Nat.le_of_ble_eq_true rfl) (Nat.le_of_ble_eq_true rfl) ?_
  refine g_heap (hp2 := hp ++ [.inr (.inr (8, [.ref (n + 1), .int 0, .int 0, .int 0, .ref (n + 2), .ref (n + 3), .ref (n + 4), .null, .null, .int 0, .null, .null, .int 0, .int 0, .null, .null, .null, .null, .int 0, .int 0, .int 0, .int 0, .int 0, .int 0, .int 0, .null, .int 0, .null, .int 0, .int 0, .int 0, .int 0, .null, .int 0, .int 0, .int 0, .int 0, .null, .int 0])), .inl (96, fun _ => 0), .inl (9, fun _ => 0), .inl (9, fun _ => 0), .inl (15, fun _ => 0), .inl (772, fun _ => 0)]) (by simp only [List.append_assoc, List.cons_append, List.nil_append]) ?_
  refine g_putE (q := 45) (hp' := hp ++ [.inr (.inr (8, [.ref (n + 1), .int 0, .int 0, .int 0, .ref (n + 2), .ref (n + 3), .ref (n + 4), .ref (n + 5), .null, .int 0, .null, .null, .int 0, .int 0, .null, .null, .null, .null, .int 0, .int 0, .int 0, .int 0, .int 0, .int 0, .int 0, .null, .int 0, .null, .int 0, .int 0, .int 0, .int 0, .null, .int 0, .int 0, .int 0, .int 0, .null, .int 0])), .inl (96, fun _ => 0), .inl (9, fun _ => 0), .inl (9, fun _ => 0), .inl (15, fun _ => 0), .inl (772, fun _ => 0)]) C fX8_22 dX8_init_42 rfl (gapp_new hn rfl) (Nat.le_of_ble_eq_true rfl) (Or.inr rfl) rfl rfl (by intro z h; cases h) rfl (gapp_set hn) ?_
  refine g_aload_n (q := 46) C dX8_init_45 rfl rfl ?_
  refine g_sipush (v := 772) (q := 49) C dX8_init_46 (by decide) rfl ?_
  refine g_newarray (q := 51) (k := n + 6) (N := 772) C t_144 dX8_init_49 rfl (by rw [List.length_append, hn]; rfl) (by decide) (by decide +kernel) (by decide) (Nat.le_of_ble_eq_true rfl) (Nat.le_of_ble_eq_true rfl) ?_
  refine g_heap (hp2 := hp ++ [.inr (.inr (8, [.ref (n + 1), .int 0, .int 0, .int 0, .ref (n + 2), .ref (n + 3), .ref (n + 4), .ref (n + 5), .null, .int 0, .null, .null, .int 0, .int 0, .null, .null, .null, .null, .int 0, .int 0, .int 0, .int 0, .int 0, .int 0, .int 0, .null, .int 0, .null, .int 0, .int 0, .int 0, .int 0, .null, .int 0, .int 0, .int 0, .int 0, .null, .int 0])), .inl (96, fun _ => 0), .inl (9, fun _ => 0), .inl (9, fun _ => 0), .inl (15, fun _ => 0), .inl (772, fun _ => 0), .inl (772, fun _ => 0)]) (by simp only [List.append_assoc, List.cons_append, List.nil_append]) ?_
  refine g_putE (q := 54) (hp' := hp ++ [.inr (.inr (8, [.ref (n + 1), .int 0, .int 0, .int 0, .ref (n + 2), .ref (n + 3), .ref (n + 4), .ref (n + 5), .ref (n + 6), .int 0, .null, .null, .int 0, .int 0, .null, .null, .null, .null, .int 0, .int 0, .int 0, .int 0, .int 0, .int 0, .int 0, .null, .int 0, .null, .int 0, .int 0, .int 0, .int 0, .null, .int 0, .int 0, .int 0, .int 0, .null, .int 0])), .inl (96, fun _ => 0), .inl (9, fun _ => 0), .inl (9, fun _ => 0), .inl (15, fun _ => 0), .inl (772, fun _ => 0), .inl (772, fun _ => 0)]) C fX8_25 dX8_init_51 rfl (gapp_new hn rfl) (Nat.le_of_ble_eq_true rfl) (Or.inr rfl) rfl rfl (by intro z h; cases h) rfl (gapp_set hn) ?_
  refine g_aload_n (q := 55) C dX8_init_54 rfl rfl ?_
  refine g_iconst (v := 1) (q := 56) C dX8_init_55 (by decide) rfl ?_
  refine g_putE (q := 59) (hp' := hp ++ [.inr (.inr (8, [.ref (n + 1), .int 0, .int 0, .int 0, .ref (n + 2), .ref (n + 3), .ref (n + 4), .ref (n + 5), .ref (n + 6), .int 1, .null, .null, .int 0, .int 0, .null, .null, .null, .null, .int 0, .int 0, .int 0, .int 0, .int 0, .int 0, .int 0, .null, .int 0, .null, .int 0, .int 0, .int 0, .int 0, .null, .int 0, .int 0, .int 0, .int 0, .null, .int 0])), .inl (96, fun _ => 0), .inl (9, fun _ => 0), .inl (9, fun _ => 0), .inl (15, fun _ => 0), .inl (772, fun _ => 0), .inl (772, fun _ => 0)]) C fX8_28 dX8_init_56 rfl (gapp_new hn rfl) (Nat.le_of_ble_eq_true rfl) (Or.inl rfl) rfl rfl (by intro z h; cases h) rfl (gapp_set hn) ?_
  refine g_aload_n (q := 60) C dX8_init_59 rfl rfl ?_
  refine g_sipush (v := 180) (q := 63) C dX8_init_60 (by decide) rfl ?_
  refine g_newarray (q := 65) (k := n + 7) (N := 180) C t_144 dX8_init_63 rfl (by rw [List.length_append, hn]; rfl) (by decide) (by decide +kernel) (by decide) (Nat.le_of_ble_eq_true rfl) (Nat.le_of_ble_eq_true rfl) ?_
  refine g_heap (hp2 := hp ++ [.inr (.inr (8, [.ref (n + 1), .int 0, .int 0, .int 0, .ref (n + 2), .ref (n + 3), .ref (n + 4), .ref (n + 5), .ref (n + 6), .int 1, .null, .null, .int 0, .int 0, .null, .null, .null, .null, .int 0, .int 0, .int 0, .int 0, .int 0, .int 0, .int 0, .null, .int 0, .null, .int 0, .int 0, .int 0, .int 0, .null, .int 0, .int 0, .int 0, .int 0, .null, .int 0])), .inl (96, fun _ => 0), .inl (9, fun _ => 0), .inl (9, fun _ => 0), .inl (15, fun _ => 0), .inl (772, fun _ => 0), .inl (772, fun _ => 0), .inl (180, fun _ => 0)]) (by simp only [List.append_assoc, List.cons_append, List.nil_append]) ?_
  refine g_putE (q := 68) (hp' := hp ++ [.inr (.inr (8, [.ref (n + 1), .int 0, .int 0, .int 0, .ref (n + 2), .ref (n + 3), .ref (n + 4), .ref (n + 5), .ref (n + 6), .int 1, .ref (n + 7), .null, .int 0, .int 0, .null, .null, .null, .null, .int 0, .int 0, .int 0, .int 0, .int 0, .int 0, .int 0, .null, .int 0, .null, .int 0, .int 0, .int 0, .int 0, .null, .int 0, .int 0, .int 0, .int 0, .null, .int 0])), .inl (96, fun _ => 0), .inl (9, fun _ => 0), .inl (9, fun _ => 0), .inl (15, fun _ => 0), .inl (772, fun _ => 0), .inl (772, fun _ => 0), .inl (180, fun _ => 0)]) C fX8_32 dX8_init_65 rfl (gapp_new hn rfl) (Nat.le_of_ble_eq_true rfl) (Or.inr rfl) rfl rfl (by intro z h; cases h) rfl (gapp_set hn) ?_
  refine g_aload_n (q := 69) C dX8_init_68 rfl rfl ?_
  refine g_sipush (v := 7740) (q := 72) C dX8_init_69 (by decide) rfl ?_
  refine g_newarray (q := 74) (k := n + 8) (N := 7740) C t_144 dX8_init_72 rfl (by rw [List.length_append, hn]; rfl) (by decide) (by decide +kernel) (by decide) (Nat.le_of_ble_eq_true rfl) (Nat.le_of_ble_eq_true rfl) ?_
  refine g_heap (hp2 := hp ++ [.inr (.inr (8, [.ref (n + 1), .int 0, .int 0, .int 0, .ref (n + 2), .ref (n + 3), .ref (n + 4), .ref (n + 5), .ref (n + 6), .int 1, .ref (n + 7), .null, .int 0, .int 0, .null, .null, .null, .null, .int 0, .int 0, .int 0, .int 0, .int 0, .int 0, .int 0, .null, .int 0, .null, .int 0, .int 0, .int 0, .int 0, .null, .int 0, .int 0, .int 0, .int 0, .null, .int 0])), .inl (96, fun _ => 0), .inl (9, fun _ => 0), .inl (9, fun _ => 0), .inl (15, fun _ => 0), .inl (772, fun _ => 0), .inl (772, fun _ => 0), .inl (180, fun _ => 0), .inl (7740, fun _ => 0)]) (by simp only [List.append_assoc, List.cons_append, List.nil_append]) ?_
  refine g_putE (q := 77) (hp' := hp ++ [.inr (.inr (8, [.ref (n + 1), .int 0, .int 0, .int 0, .ref (n + 2), .ref (n + 3), .ref (n + 4), .ref (n + 5), .ref (n + 6), .int 1, .ref (n + 7), .ref (n + 8), .int 0, .int 0, .null, .null, .null, .null, .int 0, .int 0, .int 0, .int 0, .int 0, .int 0, .int 0, .null, .int 0, .null, .int 0, .int 0, .int 0, .int 0, .null, .int 0, .int 0, .int 0, .int 0, .null, .int 0])), .inl (96, fun _ => 0), .inl (9, fun _ => 0), .inl (9, fun _ => 0), .inl (15, fun _ => 0), .inl (772, fun _ => 0), .inl (772, fun _ => 0), .inl (180, fun _ => 0), .inl (7740, fun _ => 0)]) C fX8_35 dX8_init_74 rfl (gapp_new hn rfl) (Nat.le_of_ble_eq_true rfl) (Or.inr rfl) rfl rfl (by intro z h; cases h) rfl (gapp_set hn) ?_
  refine g_aload_n (q := 78) C dX8_init_77 rfl rfl ?_
  refine g_sipush (v := 8193) (q := 81) C dX8_init_78 (by decide) rfl ?_
  refine g_newarray (q := 83) (k := n + 9) (N := 8193) C t_144 dX8_init_81 rfl (by rw [List.length_append, hn]; rfl) (by decide) (by decide +kernel) (by decide) (Nat.le_of_ble_eq_true rfl) (Nat.le_of_ble_eq_true rfl) ?_
  refine g_heap (hp2 := hp ++ [.inr (.inr (8, [.ref (n + 1), .int 0, .int 0, .int 0, .ref (n + 2), .ref (n + 3), .ref (n + 4), .ref (n + 5), .ref (n + 6), .int 1, .ref (n + 7), .ref (n + 8), .int 0, .int 0, .null, .null, .null, .null, .int 0, .int 0, .int 0, .int 0, .int 0, .int 0, .int 0, .null, .int 0, .null, .int 0, .int 0, .int 0, .int 0, .null, .int 0, .int 0, .int 0, .int 0, .null, .int 0])), .inl (96, fun _ => 0), .inl (9, fun _ => 0), .inl (9, fun _ => 0), .inl (15, fun _ => 0), .inl (772, fun _ => 0), .inl (772, fun _ => 0), .inl (180, fun _ => 0), .inl (7740, fun _ => 0), .inl (8193, fun _ => 0)]) (by simp only [List.append_assoc, List.cons_append, List.nil_append]) ?_
  refine g_putE (q := 86) (hp' := hp ++ [.inr (.inr (8, [.ref (n + 1), .int 0, .int 0, .int 0, .ref (n + 2), .ref (n + 3), .ref (n + 4), .ref (n + 5), .ref (n + 6), .int 1, .ref (n + 7), .ref (n + 8), .int 0, .int 0, .ref (n + 9), .null, .null, .null, .int 0, .int 0, .int 0, .int 0, .int 0, .int 0, .int 0, .null, .int 0, .null, .int 0, .int 0, .int 0, .int 0, .null, .int 0, .int 0, .int 0, .int 0, .null, .int 0])), .inl (96, fun _ => 0), .inl (9, fun _ => 0), .inl (9, fun _ => 0), .inl (15, fun _ => 0), .inl (772, fun _ => 0), .inl (772, fun _ => 0), .inl (180, fun _ => 0), .inl (7740, fun _ => 0), .inl (8193, fun _ => 0)]) C fX8_38 dX8_init_83 rfl (gapp_new hn rfl) (Nat.le_of_ble_eq_true rfl) (Or.inr rfl) rfl rfl (by intro z h; cases h) rfl (gapp_set hn) ?_
  refine g_aload_n (q := 87) C dX8_init_86 rfl rfl ?_
  refine g_sipush (v := 8192) (q := 90) C dX8_init_87 (by decide) rfl ?_
  refine g_newarray (q := 92) (k := n + 10) (N := 8192) C t_144 dX8_init_90 rfl (by rw [List.length_append, hn]; rfl) (by decide) (by decide +kernel) (by decide) (Nat.le_of_ble_eq_true rfl) (Nat.le_of_ble_eq_true rfl) ?_
  refine g_heap (hp2 := hp ++ [.inr (.inr (8, [.ref (n + 1), .int 0, .int 0, .int 0, .ref (n + 2), .ref (n + 3), .ref (n + 4), .ref (n + 5), .ref (n + 6), .int 1, .ref (n + 7), .ref (n + 8), .int 0, .int 0, .ref (n + 9), .null, .null, .null, .int 0, .int 0, .int 0, .int 0, .int 0, .int 0, .int 0, .null, .int 0, .null, .int 0, .int 0, .int 0, .int 0, .null, .int 0, .int 0, .int 0, .int 0, .null, .int 0])), .inl (96, fun _ => 0), .inl (9, fun _ => 0), .inl (9, fun _ => 0), .inl (15, fun _ => 0), .inl (772, fun _ => 0), .inl (772, fun _ => 0), .inl (180, fun _ => 0), .inl (7740, fun _ => 0), .inl (8193, fun _ => 0), .inl (8192, fun _ => 0)]) (by simp only [List.append_assoc, List.cons_append, List.nil_append]) ?_
  refine g_putE (q := 95) (hp' := hp ++ [.inr (.inr (8, [.ref (n + 1), .int 0, .int 0, .int 0, .ref (n + 2), .ref (n + 3), .ref (n + 4), .ref (n + 5), .ref (n + 6), .int 1, .ref (n + 7), .ref (n + 8), .int 0, .int 0, .ref (n + 9), .ref (n + 10), .null, .null, .int 0, .int 0, .int 0, .int 0, .int 0, .int 0, .int 0, .null, .int 0, .null, .int 0, .int 0, .int 0, .int 0, .null, .int 0, .int 0, .int 0, .int 0, .null, .int 0])), .inl (96, fun _ => 0), .inl (9, fun _ => 0), .inl (9, fun _ => 0), .inl (15, fun _ => 0), .inl (772, fun _ => 0), .inl (772, fun _ => 0), .inl (180, fun _ => 0), .inl (7740, fun _ => 0), .inl (8193, fun _ => 0), .inl (8192, fun _ => 0)]) C fX8_41 dX8_init_92 rfl (gapp_new hn rfl) (Nat.le_of_ble_eq_true rfl) (Or.inr rfl) rfl rfl (by intro z h; cases h) rfl (gapp_set hn) ?_
  refine g_aload_n (q := 96) C dX8_init_95 rfl rfl ?_
  refine g_sipush (v := 8192) (q := 99) C dX8_init_96 (by decide) rfl ?_
  refine g_newarray (q := 101) (k := n + 11) (N := 8192) C t_144 dX8_init_99 rfl (by rw [List.length_append, hn]; rfl) (by decide) (by decide +kernel) (by decide) (Nat.le_of_ble_eq_true rfl) (Nat.le_of_ble_eq_true rfl) ?_
  refine g_heap (hp2 := hp ++ [.inr (.inr (8, [.ref (n + 1), .int 0, .int 0, .int 0, .ref (n + 2), .ref (n + 3), .ref (n + 4), .ref (n + 5), .ref (n + 6), .int 1, .ref (n + 7), .ref (n + 8), .int 0, .int 0, .ref (n + 9), .ref (n + 10), .null, .null, .int 0, .int 0, .int 0, .int 0, .int 0, .int 0, .int 0, .null, .int 0, .null, .int 0, .int 0, .int 0, .int 0, .null, .int 0, .int 0, .int 0, .int 0, .null, .int 0])), .inl (96, fun _ => 0), .inl (9, fun _ => 0), .inl (9, fun _ => 0), .inl (15, fun _ => 0), .inl (772, fun _ => 0), .inl (772, fun _ => 0), .inl (180, fun _ => 0), .inl (7740, fun _ => 0), .inl (8193, fun _ => 0), .inl (8192, fun _ => 0), .inl (8192, fun _ => 0)]) (by simp only [List.append_assoc, List.cons_append, List.nil_append]) ?_
  refine g_putE (q := 104) (hp' := hp ++ [.inr (.inr (8, [.ref (n + 1), .int 0, .int 0, .int 0, .ref (n + 2), .ref (n + 3), .ref (n + 4), .ref (n + 5), .ref (n + 6), .int 1, .ref (n + 7), .ref (n + 8), .int 0, .int 0, .ref (n + 9), .ref (n + 10), .ref (n + 11), .null, .int 0, .int 0, .int 0, .int 0, .int 0, .int 0, .int 0, .null, .int 0, .null, .int 0, .int 0, .int 0, .int 0, .null, .int 0, .int 0, .int 0, .int 0, .null, .int 0])), .inl (96, fun _ => 0), .inl (9, fun _ => 0), .inl (9, fun _ => 0), .inl (15, fun _ => 0), .inl (772, fun _ => 0), .inl (772, fun _ => 0), .inl (180, fun _ => 0), .inl (7740, fun _ => 0), .inl (8193, fun _ => 0), .inl (8192, fun _ => 0), .inl (8192, fun _ => 0)]) C fX8_44 dX8_init_101 rfl (gapp_new hn rfl) (Nat.le_of_ble_eq_true rfl) (Or.inr rfl) rfl rfl (by intro z h; cases h) rfl (gapp_set hn) ?_
  refine g_aload_n (q := 105) C dX8_init_104 rfl rfl ?_
  refine g_ldc (q := 107) C t_1076 dX8_init_105 rfl ?_
  refine g_newarray (q := 109) (k := n + 12) (N := 131072) C t_144 dX8_init_107 rfl (by rw [List.length_append, hn]; rfl) (by decide) (by decide +kernel) (by decide) (Nat.le_of_ble_eq_true rfl) (Nat.le_of_ble_eq_true rfl) ?_
  refine g_heap (hp2 := hp ++ [.inr (.inr (8, [.ref (n + 1), .int 0, .int 0, .int 0, .ref (n + 2), .ref (n + 3), .ref (n + 4), .ref (n + 5), .ref (n + 6), .int 1, .ref (n + 7), .ref (n + 8), .int 0, .int 0, .ref (n + 9), .ref (n + 10), .ref (n + 11), .null, .int 0, .int 0, .int 0, .int 0, .int 0, .int 0, .int 0, .null, .int 0, .null, .int 0, .int 0, .int 0, .int 0, .null, .int 0, .int 0, .int 0, .int 0, .null, .int 0])), .inl (96, fun _ => 0), .inl (9, fun _ => 0), .inl (9, fun _ => 0), .inl (15, fun _ => 0), .inl (772, fun _ => 0), .inl (772, fun _ => 0), .inl (180, fun _ => 0), .inl (7740, fun _ => 0), .inl (8193, fun _ => 0), .inl (8192, fun _ => 0), .inl (8192, fun _ => 0), .inl (131072, fun _ => 0)]) (by simp only [List.append_assoc, List.cons_append, List.nil_append]) ?_
  refine g_putE (q := 112) (hp' := hp ++ [.inr (.inr (8, [.ref (n + 1), .int 0, .int 0, .int 0, .ref (n + 2), .ref (n + 3), .ref (n + 4), .ref (n + 5), .ref (n + 6), .int 1, .ref (n + 7), .ref (n + 8), .int 0, .int 0, .ref (n + 9), .ref (n + 10), .ref (n + 11), .ref (n + 12), .int 0, .int 0, .int 0, .int 0, .int 0, .int 0, .int 0, .null, .int 0, .null, .int 0, .int 0, .int 0, .int 0, .null, .int 0, .int 0, .int 0, .int 0, .null, .int 0])), .inl (96, fun _ => 0), .inl (9, fun _ => 0), .inl (9, fun _ => 0), .inl (15, fun _ => 0), .inl (772, fun _ => 0), .inl (772, fun _ => 0), .inl (180, fun _ => 0), .inl (7740, fun _ => 0), .inl (8193, fun _ => 0), .inl (8192, fun _ => 0), .inl (8192, fun _ => 0), .inl (131072, fun _ => 0)]) C fX8_48 dX8_init_109 rfl (gapp_new hn rfl) (Nat.le_of_ble_eq_true rfl) (Or.inr rfl) rfl rfl (by intro z h; cases h) rfl (gapp_set hn) ?_
  refine g_aload_n (q := 113) C dX8_init_112 rfl rfl ?_
  refine g_sipush (v := 260) (q := 116) C dX8_init_113 (by decide) rfl ?_
  refine g_newarray (q := 118) (k := n + 13) (N := 260) C t_144 dX8_init_116 rfl (by rw [List.length_append, hn]; rfl) (by decide) (by decide +kernel) (by decide) (Nat.le_of_ble_eq_true rfl) (Nat.le_of_ble_eq_true rfl) ?_
  refine g_heap (hp2 := hp ++ [.inr (.inr (8, [.ref (n + 1), .int 0, .int 0, .int 0, .ref (n + 2), .ref (n + 3), .ref (n + 4), .ref (n + 5), .ref (n + 6), .int 1, .ref (n + 7), .ref (n + 8), .int 0, .int 0, .ref (n + 9), .ref (n + 10), .ref (n + 11), .ref (n + 12), .int 0, .int 0, .int 0, .int 0, .int 0, .int 0, .int 0, .null, .int 0, .null, .int 0, .int 0, .int 0, .int 0, .null, .int 0, .int 0, .int 0, .int 0, .null, .int 0])), .inl (96, fun _ => 0), .inl (9, fun _ => 0), .inl (9, fun _ => 0), .inl (15, fun _ => 0), .inl (772, fun _ => 0), .inl (772, fun _ => 0), .inl (180, fun _ => 0), .inl (7740, fun _ => 0), .inl (8193, fun _ => 0), .inl (8192, fun _ => 0), .inl (8192, fun _ => 0), .inl (131072, fun _ => 0), .inl (260, fun _ => 0)]) (by simp only [List.append_assoc, List.cons_append, List.nil_append]) ?_
  refine g_putE (q := 121) (hp' := hp ++ [.inr (.inr (8, [.ref (n + 1), .int 0, .int 0, .int 0, .ref (n + 2), .ref (n + 3), .ref (n + 4), .ref (n + 5), .ref (n + 6), .int 1, .ref (n + 7), .ref (n + 8), .int 0, .int 0, .ref (n + 9), .ref (n + 10), .ref (n + 11), .ref (n + 12), .int 0, .int 0, .int 0, .int 0, .int 0, .int 0, .int 0, .ref (n + 13), .int 0, .null, .int 0, .int 0, .int 0, .int 0, .null, .int 0, .int 0, .int 0, .int 0, .null, .int 0])), .inl (96, fun _ => 0), .inl (9, fun _ => 0), .inl (9, fun _ => 0), .inl (15, fun _ => 0), .inl (772, fun _ => 0), .inl (772, fun _ => 0), .inl (180, fun _ => 0), .inl (7740, fun _ => 0), .inl (8193, fun _ => 0), .inl (8192, fun _ => 0), .inl (8192, fun _ => 0), .inl (131072, fun _ => 0), .inl (260, fun _ => 0)]) C fX8_51 dX8_init_118 rfl (gapp_new hn rfl) (Nat.le_of_ble_eq_true rfl) (Or.inr rfl) rfl rfl (by intro z h; cases h) rfl (gapp_set hn) ?_
  refine g_aload_n (q := 122) C dX8_init_121 rfl rfl ?_
  refine g_sipush (v := 260) (q := 125) C dX8_init_122 (by decide) rfl ?_
  refine g_newarray (q := 127) (k := n + 14) (N := 260) C t_144 dX8_init_125 rfl (by rw [List.length_append, hn]; rfl) (by decide) (by decide +kernel) (by decide) (Nat.le_of_ble_eq_true rfl) (Nat.le_of_ble_eq_true rfl) ?_
  refine g_heap (hp2 := hp ++ [.inr (.inr (8, [.ref (n + 1), .int 0, .int 0, .int 0, .ref (n + 2), .ref (n + 3), .ref (n + 4), .ref (n + 5), .ref (n + 6), .int 1, .ref (n + 7), .ref (n + 8), .int 0, .int 0, .ref (n + 9), .ref (n + 10), .ref (n + 11), .ref (n + 12), .int 0, .int 0, .int 0, .int 0, .int 0, .int 0, .int 0, .ref (n + 13), .int 0, .null, .int 0, .int 0, .int 0, .int 0, .null, .int 0, .int 0, .int 0, .int 0, .null, .int 0])), .inl (96, fun _ => 0), .inl (9, fun _ => 0), .inl (9, fun _ => 0), .inl (15, fun _ => 0), .inl (772, fun _ => 0), .inl (772, fun _ => 0), .inl (180, fun _ => 0), .inl (7740, fun _ => 0), .inl (8193, fun _ => 0), .inl (8192, fun _ => 0), .inl (8192, fun _ => 0), .inl (131072, fun _ => 0), .inl (260, fun _ => 0), .inl (260, fun _ => 0)]) (by simp only [List.append_assoc, List.cons_append, List.nil_append]) ?_
  refine g_putE (q := 130) (hp' := hp ++ [.inr (.inr (8, [.ref (n + 1), .int 0, .int 0, .int 0, .ref (n + 2), .ref (n + 3), .ref (n + 4), .ref (n + 5), .ref (n + 6), .int 1, .ref (n + 7), .ref (n + 8), .int 0, .int 0, .ref (n + 9), .ref (n + 10), .ref (n + 11), .ref (n + 12), .int 0, .int 0, .int 0, .int 0, .int 0, .int 0, .int 0, .ref (n + 13), .int 0, .ref (n + 14), .int 0, .int 0, .int 0, .int 0, .null, .int 0, .int 0, .int 0, .int 0, .null, .int 0])), .inl (96, fun _ => 0), .inl (9, fun _ => 0), .inl (9, fun _ => 0), .inl (15, fun _ => 0), .inl (772, fun _ => 0), .inl (772, fun _ => 0), .inl (180, fun _ => 0), .inl (7740, fun _ => 0), .inl (8193, fun _ => 0), .inl (8192, fun _ => 0), .inl (8192, fun _ => 0), .inl (131072, fun _ => 0), .inl (260, fun _ => 0), .inl (260, fun _ => 0)]) C fX8_54 dX8_init_127 rfl (gapp_new hn rfl) (Nat.le_of_ble_eq_true rfl) (Or.inr rfl) rfl rfl (by intro z h; cases h) rfl (gapp_set hn) ?_
  refine g_aload_n (q := 131) C dX8_init_130 rfl rfl ?_
  refine g_sipush (v := 256) (q := 134) C dX8_init_131 (by decide) rfl ?_
  refine g_newarray (q := 136) (k := n + 15) (N := 256) C t_144 dX8_init_134 rfl (by rw [List.length_append, hn]; rfl) (by decide) (by decide +kernel) (by decide) (Nat.le_of_ble_eq_true rfl) (Nat.le_of_ble_eq_true rfl) ?_
  refine g_heap (hp2 := hp ++ [.inr (.inr (8, [.ref (n + 1), .int 0, .int 0, .int 0, .ref (n + 2), .ref (n + 3), .ref (n + 4), .ref (n + 5), .ref (n + 6), .int 1, .ref (n + 7), .ref (n + 8), .int 0, .int 0, .ref (n + 9), .ref (n + 10), .ref (n + 11), .ref (n + 12), .int 0, .int 0, .int 0, .int 0, .int 0, .int 0, .int 0, .ref (n + 13), .int 0, .ref (n + 14), .int 0, .int 0, .int 0, .int 0, .null, .int 0, .int 0, .int 0, .int 0, .null, .int 0])), .inl (96, fun _ => 0), .inl (9, fun _ => 0), .inl (9, fun _ => 0), .inl (15, fun _ => 0), .inl (772, fun _ => 0), .inl (772, fun _ => 0), .inl (180, fun _ => 0), .inl (7740, fun _ => 0), .inl (8193, fun _ => 0), .inl (8192, fun _ => 0), .inl (8192, fun _ => 0), .inl (131072, fun _ => 0), .inl (260, fun _ => 0), .inl (260, fun _ => 0), .inl (256, fun _ => 0)]) (by simp only [List.append_assoc, List.cons_append, List.nil_append]) ?_
  refine g_putE (q := 139) (hp' := hp ++ [.inr (.inr (8, [.ref (n + 1), .int 0, .int 0, .int 0, .ref (n + 2), .ref (n + 3), .ref (n + 4), .ref (n + 5), .ref (n + 6), .int 1, .ref (n + 7), .ref (n + 8), .int 0, .int 0, .ref (n + 9), .ref (n + 10), .ref (n + 11), .ref (n + 12), .int 0, .int 0, .int 0, .int 0, .int 0, .int 0, .int 0, .ref (n + 13), .int 0, .ref (n + 14), .int 0, .int 0, .int 0, .int 0, .ref (n + 15), .int 0, .int 0, .int 0, .int 0, .null, .int 0])), .inl (96, fun _ => 0), .inl (9, fun _ => 0), .inl (9, fun _ => 0), .inl (15, fun _ => 0), .inl (772, fun _ => 0), .inl (772, fun _ => 0), .inl (180, fun _ => 0), .inl (7740, fun _ => 0), .inl (8193, fun _ => 0), .inl (8192, fun _ => 0), .inl (8192, fun _ => 0), .inl (131072, fun _ => 0), .inl (260, fun _ => 0), .inl (260, fun _ => 0), .inl (256, fun _ => 0)]) C fX8_57 dX8_init_136 rfl (gapp_new hn rfl) (Nat.le_of_ble_eq_true rfl) (Or.inr rfl) rfl rfl (by intro z h; cases h) rfl (gapp_set hn) ?_
  refine g_aload_n (q := 140) C dX8_init_139 rfl rfl ?_
  refine g_bipush (v := 64) (q := 142) C dX8_init_140 (by decide) rfl ?_
  refine g_newarray (q := 144) (k := n + 16) (N := 64) C t_144 dX8_init_142 rfl (by rw [List.length_append, hn]; rfl) (by decide) (by decide +kernel) (by decide) (Nat.le_of_ble_eq_true rfl) (Nat.le_of_ble_eq_true rfl) ?_
  refine g_heap (hp2 := hp ++ [.inr (.inr (8, [.ref (n + 1), .int 0, .int 0, .int 0, .ref (n + 2), .ref (n + 3), .ref (n + 4), .ref (n + 5), .ref (n + 6), .int 1, .ref (n + 7), .ref (n + 8), .int 0, .int 0, .ref (n + 9), .ref (n + 10), .ref (n + 11), .ref (n + 12), .int 0, .int 0, .int 0, .int 0, .int 0, .int 0, .int 0, .ref (n + 13), .int 0, .ref (n + 14), .int 0, .int 0, .int 0, .int 0, .ref (n + 15), .int 0, .int 0, .int 0, .int 0, .null, .int 0])), .inl (96, fun _ => 0), .inl (9, fun _ => 0), .inl (9, fun _ => 0), .inl (15, fun _ => 0), .inl (772, fun _ => 0), .inl (772, fun _ => 0), .inl (180, fun _ => 0), .inl (7740, fun _ => 0), .inl (8193, fun _ => 0), .inl (8192, fun _ => 0), .inl (8192, fun _ => 0), .inl (131072, fun _ => 0), .inl (260, fun _ => 0), .inl (260, fun _ => 0), .inl (256, fun _ => 0), .inl (64, fun _ => 0)]) (by simp only [List.append_assoc, List.cons_append, List.nil_append]) ?_
  refine g_putE (q := 147) (hp' := hp ++ [.inr (.inr (8, [.ref (n + 1), .int 0, .int 0, .int 0, .ref (n + 2), .ref (n + 3), .ref (n + 4), .ref (n + 5), .ref (n + 6), .int 1, .ref (n + 7), .ref (n + 8), .int 0, .int 0, .ref (n + 9), .ref (n + 10), .ref (n + 11), .ref (n + 12), .int 0, .int 0, .int 0, .int 0, .int 0, .int 0, .int 0, .ref (n + 13), .int 0, .ref (n + 14), .int 0, .int 0, .int 0, .int 0, .ref (n + 15), .int 0, .int 0, .int 0, .int 0, .ref (n + 16), .int 0])), .inl (96, fun _ => 0), .inl (9, fun _ => 0), .inl (9, fun _ => 0), .inl (15, fun _ => 0), .inl (772, fun _ => 0), .inl (772, fun _ => 0), .inl (180, fun _ => 0), .inl (7740, fun _ => 0), .inl (8193, fun _ => 0), .inl (8192, fun _ => 0), .inl (8192, fun _ => 0), .inl (131072, fun _ => 0), .inl (260, fun _ => 0), .inl (260, fun _ => 0), .inl (256, fun _ => 0), .inl (64, fun _ => 0)]) C fX8_60 dX8_init_144 rfl (gapp_new hn rfl) (Nat.le_of_ble_eq_true rfl) (Or.inr rfl) rfl rfl (by intro z h; cases h) rfl (gapp_set hn) ?_
  refine g_aload_n (q := 148) C dX8_init_147 rfl rfl ?_
  refine g_callVvp (q := 151) (As := []) C gyX8_begins gvX8_begins t_1077 (c_X8_begins (m := n + 0) (sA := n + 5) (gapp_new hn rfl) (gapp_new hn rfl)) dX8_init_148 rfl (gapp_new hn rfl) rfl rfl rfl (Nat.le_of_ble_eq_true rfl) (Nat.le_of_ble_eq_true rfl) (Nat.le_of_ble_eq_true rfl) (Nat.le_of_ble_eq_true rfl) (Nat.le_of_ble_eq_true rfl) rfl (fun h9 z9 => ?_)
  obtain ⟨f9, e9, rfl⟩ := z9
  refine g_heap (hp2 := hp ++ [.inr (.inr (8, [.ref (n + 1), .int 0, .int 0, .int 0, .ref (n + 2), .ref (n + 3), .ref (n + 4), .ref (n + 5), .ref (n + 6), .int 1, .ref (n + 7), .ref (n + 8), .int 0, .int 0, .ref (n + 9), .ref (n + 10), .ref (n + 11), .ref (n + 12), .int 0, .int 0, .int 0, .int 0, .int 0, .int 0, .int 0, .ref (n + 13), .int 0, .ref (n + 14), .int 0, .int 0, .int 0, .int 0, .ref (n + 15), .int 0, .int 0, .int 0, .int 0, .ref (n + 16), .int 0])), .inl (96, fun _ => 0), .inl (9, fun _ => 0), .inl (9, fun _ => 0), .inl (15, fun _ => 0), .inl (772, f9), .inl (772, fun _ => 0), .inl (180, fun _ => 0), .inl (7740, fun _ => 0), .inl (8193, fun _ => 0), .inl (8192, fun _ => 0), .inl (8192, fun _ => 0), .inl (131072, fun _ => 0), .inl (260, fun _ => 0), .inl (260, fun _ => 0), .inl (256, fun _ => 0), .inl (64, fun _ => 0)]) (by rw [gapp_set hn, gapp_set hn]; rfl) ?_
  exact E.2.1 _ _ _ _ _ dX8_init_151 rfl (Nat.le_of_ble_eq_true rfl) (Nat.le_of_ble_eq_true rfl) ⟨rfl, f9, e9, rfl⟩
