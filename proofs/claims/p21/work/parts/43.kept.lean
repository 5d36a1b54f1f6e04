/-! what a half turn leaves as it was; the turn (wip/p1/m_kept.py) -/
def gKp (L L' : gLn) : Prop := L'.rd.se = L.rd.se ∧ L'.cd.se = L.cd.se ∧ L'.tr = L.tr ∧ L'.oc = L.oc ∧ L'.ca = L.ca
theorem gKp.trans {L L1 L2 : gLn} (a : gKp L L1) (b : gKp L1 L2) : gKp L L2 := ⟨b.1.trans a.1, b.2.1.trans a.2.1, b.2.2.1.trans a.2.2.1, b.2.2.2.1.trans a.2.2.2.1, b.2.2.2.2.trans a.2.2.2.2⟩
theorem gpass_se (s : gSd) : s.pass.se = s.se := by
  unfold gSd.pass
  split <;> rfl
theorem kp_finish (L : gLn) (x : Int32) : gKp L (rX2_finish L x).2 := by
  unfold rX2_finish
  repeat' split
  all_goals first
    | exact ⟨rfl, rfl, rfl, rfl, rfl⟩
    | exact ⟨gpass_se _, rfl, rfl, rfl, rfl⟩
    | exact ⟨rfl, gpass_se _, rfl, rfl, rfl⟩
theorem kp_onBroken_r (L : gLn) : gKp L (rX2_onBroken_r L).2 := by
  unfold rX2_onBroken_r
  repeat' split
  all_goals first
    | exact ⟨rfl, rfl, rfl, rfl, rfl⟩
    | exact ⟨gpass_se _, rfl, rfl, rfl, rfl⟩
    | exact ⟨rfl, gpass_se _, rfl, rfl, rfl⟩
theorem kp_refuse_r (L : gLn) : gKp L (rX2_refuse_r L).2 := by
  unfold rX2_refuse_r
  repeat' split
  all_goals first
    | exact ⟨rfl, rfl, rfl, rfl, rfl⟩
    | exact ⟨gpass_se _, rfl, rfl, rfl, rfl⟩
    | exact ⟨rfl, gpass_se _, rfl, rfl, rfl⟩
theorem kp_onI_r (L : gLn) (x : Int32) : gKp L (rX2_onI_r L x).2 := by
  unfold rX2_onI_r
  repeat' split
  all_goals first
    | exact ⟨rfl, rfl, rfl, rfl, rfl⟩
    | exact ⟨gpass_se _, rfl, rfl, rfl, rfl⟩
    | exact ⟨rfl, gpass_se _, rfl, rfl, rfl⟩
    | exact kp_finish _ _
    | exact gKp.trans ⟨rfl, rfl, rfl, rfl, rfl⟩ (kp_finish _ _)
    | exact gKp.trans ⟨gpass_se _, rfl, rfl, rfl, rfl⟩ (kp_finish _ _)
    | exact gKp.trans ⟨rfl, gpass_se _, rfl, rfl, rfl⟩ (kp_finish _ _)
    | exact kp_refuse_r _
    | exact gKp.trans ⟨rfl, rfl, rfl, rfl, rfl⟩ (kp_refuse_r _)
    | exact gKp.trans ⟨gpass_se _, rfl, rfl, rfl, rfl⟩ (kp_refuse_r _)
    | exact gKp.trans ⟨rfl, gpass_se _, rfl, rfl, rfl⟩ (kp_refuse_r _)
theorem kp_onReceipt_r (L : gLn) (x : Int32) : gKp L (rX2_onReceipt_r L x).2 := by
  unfold rX2_onReceipt_r
  repeat' split
  all_goals first
    | exact ⟨rfl, rfl, rfl, rfl, rfl⟩
    | exact ⟨gpass_se _, rfl, rfl, rfl, rfl⟩
    | exact ⟨rfl, gpass_se _, rfl, rfl, rfl⟩
theorem kp_onRequest_r (L : gLn) (x : Int32) : gKp L (rX2_onRequest_r L x).2 := by
  unfold rX2_onRequest_r
  repeat' split
  all_goals first
    | exact ⟨rfl, rfl, rfl, rfl, rfl⟩
    | exact ⟨gpass_se _, rfl, rfl, rfl, rfl⟩
    | exact ⟨rfl, gpass_se _, rfl, rfl, rfl⟩
    | exact kp_refuse_r _
    | exact gKp.trans ⟨rfl, rfl, rfl, rfl, rfl⟩ (kp_refuse_r _)
    | exact gKp.trans ⟨gpass_se _, rfl, rfl, rfl, rfl⟩ (kp_refuse_r _)
    | exact gKp.trans ⟨rfl, gpass_se _, rfl, rfl, rfl⟩ (kp_refuse_r _)
theorem kp_readerOnAnswer (L : gLn) : gKp L (rX2_readerOnAnswer L).2 := by
  unfold rX2_readerOnAnswer
  repeat' split
  all_goals first
    | exact ⟨rfl, rfl, rfl, rfl, rfl⟩
    | exact ⟨gpass_se _, rfl, rfl, rfl, rfl⟩
    | exact ⟨rfl, gpass_se _, rfl, rfl, rfl⟩
    | exact kp_finish _ _
    | exact gKp.trans ⟨rfl, rfl, rfl, rfl, rfl⟩ (kp_finish _ _)
    | exact gKp.trans ⟨gpass_se _, rfl, rfl, rfl, rfl⟩ (kp_finish _ _)
    | exact gKp.trans ⟨rfl, gpass_se _, rfl, rfl, rfl⟩ (kp_finish _ _)
theorem kp_readerKind (L : gLn) : gKp L (rX2_readerKind L).2 := by
  unfold rX2_readerKind
  have b : gKp L (L.set 8 0) := ⟨rfl, rfl, rfl, rfl, rfl⟩
  generalize L.set 8 0 = L1 at b ⊢
  refine b.trans ?_
  split
  · split
    · split
      · split
        · split
          · exact kp_onReceipt_r L1 (gat L1.ca 1)
          · have b2 : gKp L1 (L1.side 0 L1.rd.emptyCame) := ⟨rfl, rfl, rfl, rfl, rfl⟩
            exact b2.trans (kp_finish (L1.side 0 L1.rd.emptyCame) 2)
        · exact kp_onI_r L1 (gat L1.ca 1)
      · exact kp_onRequest_r L1 (gat L1.ca 1)
    · exact kp_readerOnAnswer L1
  · exact kp_onBroken_r L1
theorem kp_onBroken_c (L : gLn) : gKp L (rX2_onBroken_c L).2 := by
  unfold rX2_onBroken_c
  repeat' split
  all_goals first
    | exact ⟨rfl, rfl, rfl, rfl, rfl⟩
    | exact ⟨gpass_se _, rfl, rfl, rfl, rfl⟩
    | exact ⟨rfl, gpass_se _, rfl, rfl, rfl⟩
theorem kp_refuse_c (L : gLn) : gKp L (rX2_refuse_c L).2 := by
  unfold rX2_refuse_c
  repeat' split
  all_goals first
    | exact ⟨rfl, rfl, rfl, rfl, rfl⟩
    | exact ⟨gpass_se _, rfl, rfl, rfl, rfl⟩
    | exact ⟨rfl, gpass_se _, rfl, rfl, rfl⟩
theorem kp_putFirstByte (L : gLn) : gKp L (rX2_putFirstByte L).2 := by
  unfold rX2_putFirstByte
  repeat' split
  all_goals first
    | exact ⟨rfl, rfl, rfl, rfl, rfl⟩
    | exact ⟨gpass_se _, rfl, rfl, rfl, rfl⟩
    | exact ⟨rfl, gpass_se _, rfl, rfl, rfl⟩
theorem kp_putBehindThird (L : gLn) : gKp L (rX2_putBehindThird L).2 := by
  unfold rX2_putBehindThird
  repeat' split
  all_goals first
    | exact ⟨rfl, rfl, rfl, rfl, rfl⟩
    | exact ⟨gpass_se _, rfl, rfl, rfl, rfl⟩
    | exact ⟨rfl, gpass_se _, rfl, rfl, rfl⟩
theorem kp_putCounting (L : gLn) (x : Int32) : gKp L (rX2_putCounting L x).2 := by
  unfold rX2_putCounting
  repeat' split
  all_goals first
    | exact ⟨rfl, rfl, rfl, rfl, rfl⟩
    | exact ⟨gpass_se _, rfl, rfl, rfl, rfl⟩
    | exact ⟨rfl, gpass_se _, rfl, rfl, rfl⟩
theorem kp_onI_c (L : gLn) (x : Int32) : gKp L (rX2_onI_c L x).2 := by
  unfold rX2_onI_c
  repeat' split
  all_goals first
    | exact ⟨rfl, rfl, rfl, rfl, rfl⟩
    | exact ⟨gpass_se _, rfl, rfl, rfl, rfl⟩
    | exact ⟨rfl, gpass_se _, rfl, rfl, rfl⟩
    | exact kp_refuse_c _
    | exact gKp.trans ⟨rfl, rfl, rfl, rfl, rfl⟩ (kp_refuse_c _)
    | exact gKp.trans ⟨gpass_se _, rfl, rfl, rfl, rfl⟩ (kp_refuse_c _)
    | exact gKp.trans ⟨rfl, gpass_se _, rfl, rfl, rfl⟩ (kp_refuse_c _)
theorem kp_onReceipt_c (L : gLn) (x : Int32) : gKp L (rX2_onReceipt_c L x).2 := by
  unfold rX2_onReceipt_c
  repeat' split
  all_goals first
    | exact ⟨rfl, rfl, rfl, rfl, rfl⟩
    | exact ⟨gpass_se _, rfl, rfl, rfl, rfl⟩
    | exact ⟨rfl, gpass_se _, rfl, rfl, rfl⟩
theorem kp_onRequest_c (L : gLn) (x : Int32) : gKp L (rX2_onRequest_c L x).2 := by
  unfold rX2_onRequest_c
  repeat' split
  all_goals first
    | exact ⟨rfl, rfl, rfl, rfl, rfl⟩
    | exact ⟨gpass_se _, rfl, rfl, rfl, rfl⟩
    | exact ⟨rfl, gpass_se _, rfl, rfl, rfl⟩
    | exact kp_refuse_c _
    | exact gKp.trans ⟨rfl, rfl, rfl, rfl, rfl⟩ (kp_refuse_c _)
    | exact gKp.trans ⟨gpass_se _, rfl, rfl, rfl, rfl⟩ (kp_refuse_c _)
    | exact gKp.trans ⟨rfl, gpass_se _, rfl, rfl, rfl⟩ (kp_refuse_c _)
theorem kp_cardOnAnswer (L : gLn) : gKp L (rX2_cardOnAnswer L).2 := by
  unfold rX2_cardOnAnswer
  repeat' split
  all_goals first
    | exact ⟨rfl, rfl, rfl, rfl, rfl⟩
    | exact ⟨gpass_se _, rfl, rfl, rfl, rfl⟩
    | exact ⟨rfl, gpass_se _, rfl, rfl, rfl⟩
    | exact kp_putFirstByte _
    | exact gKp.trans ⟨rfl, rfl, rfl, rfl, rfl⟩ (kp_putFirstByte _)
    | exact gKp.trans ⟨gpass_se _, rfl, rfl, rfl, rfl⟩ (kp_putFirstByte _)
    | exact gKp.trans ⟨rfl, gpass_se _, rfl, rfl, rfl⟩ (kp_putFirstByte _)
    | exact kp_putBehindThird _
    | exact gKp.trans ⟨rfl, rfl, rfl, rfl, rfl⟩ (kp_putBehindThird _)
    | exact gKp.trans ⟨gpass_se _, rfl, rfl, rfl, rfl⟩ (kp_putBehindThird _)
    | exact gKp.trans ⟨rfl, gpass_se _, rfl, rfl, rfl⟩ (kp_putBehindThird _)
theorem kp_cardKind (L : gLn) : gKp L (rX2_cardKind L).2 := by
  unfold rX2_cardKind
  split
  · split
    · exact ⟨rfl, rfl, rfl, rfl, rfl⟩
    · split
      · split
        · exact ⟨rfl, rfl, rfl, rfl, rfl⟩
        · split
          · split
            · split
              · exact kp_onReceipt_c L (gat L.ca 1)
              · exact kp_onI_c L (gat L.ca 1)
            · exact kp_onRequest_c L (gat L.ca 1)
          · exact kp_cardOnAnswer L
      · exact kp_onBroken_c L
  · have b : gKp L (L.set 11 (L.si - 1)) := ⟨rfl, rfl, rfl, rfl, rfl⟩
    generalize L.set 11 (L.si - 1) = L1 at b ⊢
    refine b.trans ?_
    split
    · exact kp_putFirstByte L1
    · exact ⟨rfl, rfl, rfl, rfl, rfl⟩
theorem kp_doMessage (L : gLn) : gKp L (rX2_doMessage L).2 := by
  unfold rX2_doMessage
  repeat' split
  all_goals first
    | exact ⟨rfl, rfl, rfl, rfl, rfl⟩
    | exact ⟨gpass_se _, rfl, rfl, rfl, rfl⟩
    | exact ⟨rfl, gpass_se _, rfl, rfl, rfl⟩
    | exact kp_putCounting _ _
    | exact gKp.trans ⟨rfl, rfl, rfl, rfl, rfl⟩ (kp_putCounting _ _)
    | exact gKp.trans ⟨gpass_se _, rfl, rfl, rfl, rfl⟩ (kp_putCounting _ _)
    | exact gKp.trans ⟨rfl, gpass_se _, rfl, rfl, rfl⟩ (kp_putCounting _ _)
    | exact kp_putBehindThird _
    | exact gKp.trans ⟨rfl, rfl, rfl, rfl, rfl⟩ (kp_putBehindThird _)
    | exact gKp.trans ⟨gpass_se _, rfl, rfl, rfl, rfl⟩ (kp_putBehindThird _)
    | exact gKp.trans ⟨rfl, gpass_se _, rfl, rfl, rfl⟩ (kp_putBehindThird _)
theorem kp_gCk (L : gLn) : gKp L (gCk L).2 := by
  unfold gCk
  split
  · exact (kp_cardKind L).trans (kp_doMessage _)
  · exact kp_cardKind L
theorem kp_tries (L : gLn) (x : Int32) (h : ∃ t, t < 3 ∧ L.tr = nI t) : (rX2_countTries L x).2.rd.se = L.rd.se ∧ (rX2_countTries L x).2.cd.se = L.cd.se ∧ (rX2_countTries L x).2.oc = L.oc ∧ (rX2_countTries L x).2.ca = L.ca ∧ ∃ t, t < 3 ∧ (rX2_countTries L x).2.tr = nI t := by
  obtain ⟨t, ht, e⟩ := h
  unfold rX2_countTries
  have e1 : (L.set 1 (L.tr + 1)).tr = nI (t + 1) := by
    show L.tr + 1 = _
    rw [e, nI_1]
  by_cases c : L.sk = 0
  · rw [if_pos c, if_neg (c := 3 ≤ (L.set 1 0).tr) (show ¬ (3 : Int32) ≤ 0 by decide)]
    exact ⟨rfl, rfl, rfl, rfl, 0, by decide, rfl⟩
  · rw [if_neg c]
    by_cases c2 : t = 2
    · rw [if_pos (by rw [e1, c2]; decide)]
      split
      · exact ⟨rfl, rfl, rfl, rfl, 0, by decide, rfl⟩
      · exact ⟨rfl, rfl, rfl, rfl, 0, by decide, rfl⟩
    · rw [if_neg (by rw [e1]; exact nI_ge (b := 3) (by omega) (by decide))]
      exact ⟨rfl, rfl, rfl, rfl, t + 1, by omega, e1⟩
theorem kp_gRk {L : gLn} (h : ∃ t, t < 3 ∧ L.tr = nI t) (ft : L.ft = 0) : (gRk L).2.rd.se = L.rd.se ∧ (gRk L).2.cd.se = L.cd.se ∧ (gRk L).2.oc = L.oc ∧ (gRk L).2.ca = L.ca ∧ ∃ t, t < 3 ∧ (gRk L).2.tr = nI t := by
  obtain ⟨k1, k2, k3, k4, k5⟩ := kp_readerKind L
  obtain ⟨h1, h2, h3, h4, h5⟩ := kp_tries (rX2_readerKind L).2 (rX2_readerKind L).1 (by rw [k3]; exact h)
  unfold gRk
  rw [if_pos ft]
  exact ⟨h1.trans k1, h2.trans k2, h3.trans k4, h4.trans k5, h5⟩
theorem gks_se_r (L : gLn) (x : Int32) : (rX2_kindToSend_r L x).2.rd.se = L.rd.se ∧ (rX2_kindToSend_r L x).2.cd.se = L.cd.se := by
  unfold rX2_kindToSend_r
  repeat' split
  all_goals exact ⟨rfl, rfl⟩
theorem gks_se_c (L : gLn) (x : Int32) : (rX2_kindToSend_c L x).2.rd.se = L.rd.se ∧ (rX2_kindToSend_c L x).2.cd.se = L.cd.se := by
  unfold rX2_kindToSend_c
  repeat' split
  all_goals exact ⟨rfl, rfl⟩
theorem gcm_se_r (L : gLn) (x : Int32) : (rX2_compose_r L x).rd.se = L.rd.se ∧ (rX2_compose_r L x).cd.se = L.cd.se := by
  unfold rX2_compose_r
  repeat' split
  all_goals exact ⟨rfl, rfl⟩
theorem gcm_se_c (L : gLn) (x : Int32) : (rX2_compose_c L x).rd.se = L.rd.se ∧ (rX2_compose_c L x).cd.se = L.cd.se := by
  unfold rX2_compose_c
  repeat' split
  all_goals exact ⟨rfl, rfl⟩
theorem gs3_se_r (L : gLn) (x : Int32) : (gS3_r L x).rd.se = L.rd.se + 1 ∧ (gS3_r L x).cd.se = L.cd.se := by
  obtain ⟨a1, a2⟩ := gks_se_r L x
  obtain ⟨b1, b2⟩ := gcm_se_r (rX2_kindToSend_r L x).2 (rX2_kindToSend_r L x).1
  refine ⟨?_, b2.trans a2⟩
  show (rX2_compose_r (rX2_kindToSend_r L x).2 (rX2_kindToSend_r L x).1).rd.se + 1 = _
  rw [b1, a1]
theorem gs3_se_c (L : gLn) (x : Int32) : (gS3_c L x).cd.se = L.cd.se + 1 ∧ (gS3_c L x).rd.se = L.rd.se := by
  obtain ⟨a1, a2⟩ := gks_se_c L x
  obtain ⟨b1, b2⟩ := gcm_se_c (rX2_kindToSend_c L x).2 (rX2_kindToSend_c L x).1
  refine ⟨?_, b1.trans a1⟩
  show (rX2_compose_c (rX2_kindToSend_c L x).2 (rX2_kindToSend_c L x).1).cd.se + 1 = _
  rw [b2, a2]
/-- the count of wholes: kept, or one more -/
def gK0 (L L' : gLn) : Prop := L'.rd.me = L.rd.me ∧ L'.cd.me = L.cd.me
def gKm (L L' : gLn) : Prop := (L'.rd.me = L.rd.me ∨ L'.rd.me = L.rd.me + 1) ∧ (L'.cd.me = L.cd.me ∨ L'.cd.me = L.cd.me + 1)
theorem gK0.trans {L L1 L2 : gLn} (a : gK0 L L1) (b : gK0 L1 L2) : gK0 L L2 := ⟨b.1.trans a.1, b.2.trans a.2⟩
theorem gK0.up {L L1 : gLn} (a : gK0 L L1) : gKm L L1 := ⟨Or.inl a.1, Or.inl a.2⟩
theorem gK0.m {L L1 L2 : gLn} (a : gK0 L L1) (b : gKm L1 L2) : gKm L L2 := by
  obtain ⟨a1, a2⟩ := a
  unfold gKm at b ⊢
  rw [a1, a2] at b
  exact b
theorem gKm.z {L L1 L2 : gLn} (a : gKm L L1) (b : gK0 L1 L2) : gKm L L2 := by
  obtain ⟨b1, b2⟩ := b
  unfold gKm
  rw [b1, b2]
  exact a
theorem km_finish (L : gLn) (x : Int32) : gK0 L (rX2_finish L x).2 := by
  unfold rX2_finish
  repeat' split
  all_goals first
    | exact ⟨rfl, rfl⟩
    | exact ⟨gpass_me _, rfl⟩
    | exact ⟨rfl, gpass_me _⟩
theorem km_onBroken_r (L : gLn) : gK0 L (rX2_onBroken_r L).2 := by
  unfold rX2_onBroken_r
  repeat' split
  all_goals first
    | exact ⟨rfl, rfl⟩
    | exact ⟨gpass_me _, rfl⟩
    | exact ⟨rfl, gpass_me _⟩
theorem km_refuse_r (L : gLn) : gK0 L (rX2_refuse_r L).2 := by
  unfold rX2_refuse_r
  repeat' split
  all_goals first
    | exact ⟨rfl, rfl⟩
    | exact ⟨gpass_me _, rfl⟩
    | exact ⟨rfl, gpass_me _⟩
theorem km_onI_r (L : gLn) (x : Int32) : gKm L (rX2_onI_r L x).2 := by
  unfold rX2_onI_r
  repeat' split
  all_goals first
    | exact gK0.up (⟨rfl, rfl⟩)
    | exact gK0.up (⟨gpass_me _, rfl⟩)
    | exact gK0.up (⟨rfl, gpass_me _⟩)
    | exact gK0.up (km_finish _ _)
    | exact gK0.up (gK0.trans ⟨rfl, rfl⟩ (km_finish _ _))
    | exact gK0.up (gK0.trans ⟨gpass_me _, rfl⟩ (km_finish _ _))
    | exact gK0.up (gK0.trans ⟨rfl, gpass_me _⟩ (km_finish _ _))
    | exact gK0.up (km_refuse_r _)
    | exact gK0.up (gK0.trans ⟨rfl, rfl⟩ (km_refuse_r _))
    | exact gK0.up (gK0.trans ⟨gpass_me _, rfl⟩ (km_refuse_r _))
    | exact gK0.up (gK0.trans ⟨rfl, gpass_me _⟩ (km_refuse_r _))
    | exact ⟨Or.inr rfl, Or.inl rfl⟩
    | exact gKm.z ⟨Or.inr rfl, Or.inl rfl⟩ (km_finish _ _)
    | exact gKm.z ⟨Or.inr rfl, Or.inl rfl⟩ (km_refuse_r _)
    | exact ⟨Or.inr (congrArg (· + 1) (gpass_me _)), Or.inl rfl⟩
    | exact gKm.z ⟨Or.inr (congrArg (· + 1) (gpass_me _)), Or.inl rfl⟩ (km_finish _ _)
    | exact gKm.z ⟨Or.inr (congrArg (· + 1) (gpass_me _)), Or.inl rfl⟩ (km_refuse_r _)
    | exact ⟨Or.inl rfl, Or.inr rfl⟩
    | exact gKm.z ⟨Or.inl rfl, Or.inr rfl⟩ (km_finish _ _)
    | exact gKm.z ⟨Or.inl rfl, Or.inr rfl⟩ (km_refuse_r _)
    | exact ⟨Or.inl rfl, Or.inr (congrArg (· + 1) (gpass_me _))⟩
    | exact gKm.z ⟨Or.inl rfl, Or.inr (congrArg (· + 1) (gpass_me _))⟩ (km_finish _ _)
    | exact gKm.z ⟨Or.inl rfl, Or.inr (congrArg (· + 1) (gpass_me _))⟩ (km_refuse_r _)
theorem km_onReceipt_r (L : gLn) (x : Int32) : gK0 L (rX2_onReceipt_r L x).2 := by
  unfold rX2_onReceipt_r
  repeat' split
  all_goals first
    | exact ⟨rfl, rfl⟩
    | exact ⟨gpass_me _, rfl⟩
    | exact ⟨rfl, gpass_me _⟩
theorem km_onRequest_r (L : gLn) (x : Int32) : gK0 L (rX2_onRequest_r L x).2 := by
  unfold rX2_onRequest_r
  repeat' split
  all_goals first
    | exact ⟨rfl, rfl⟩
    | exact ⟨gpass_me _, rfl⟩
    | exact ⟨rfl, gpass_me _⟩
    | exact km_refuse_r _
    | exact gK0.trans ⟨rfl, rfl⟩ (km_refuse_r _)
    | exact gK0.trans ⟨gpass_me _, rfl⟩ (km_refuse_r _)
    | exact gK0.trans ⟨rfl, gpass_me _⟩ (km_refuse_r _)
theorem km_readerOnAnswer (L : gLn) : gK0 L (rX2_readerOnAnswer L).2 := by
  unfold rX2_readerOnAnswer
  repeat' split
  all_goals first
    | exact ⟨rfl, rfl⟩
    | exact ⟨gpass_me _, rfl⟩
    | exact ⟨rfl, gpass_me _⟩
    | exact km_finish _ _
    | exact gK0.trans ⟨rfl, rfl⟩ (km_finish _ _)
    | exact gK0.trans ⟨gpass_me _, rfl⟩ (km_finish _ _)
    | exact gK0.trans ⟨rfl, gpass_me _⟩ (km_finish _ _)
theorem km_readerKind (L : gLn) : gKm L (rX2_readerKind L).2 := by
  unfold rX2_readerKind
  have b : gK0 L (L.set 8 0) := ⟨rfl, rfl⟩
  generalize L.set 8 0 = L1 at b ⊢
  refine b.m ?_
  split
  · split
    · split
      · split
        · split
          · exact (km_onReceipt_r L1 (gat L1.ca 1)).up
          · have b2 : gKm L1 (L1.side 0 L1.rd.emptyCame) := ⟨Or.inr rfl, Or.inl rfl⟩
            exact b2.z (km_finish (L1.side 0 L1.rd.emptyCame) 2)
        · exact km_onI_r L1 (gat L1.ca 1)
      · exact (km_onRequest_r L1 (gat L1.ca 1)).up
    · exact (km_readerOnAnswer L1).up
  · exact (km_onBroken_r L1).up
theorem km_onBroken_c (L : gLn) : gK0 L (rX2_onBroken_c L).2 := by
  unfold rX2_onBroken_c
  repeat' split
  all_goals first
    | exact ⟨rfl, rfl⟩
    | exact ⟨gpass_me _, rfl⟩
    | exact ⟨rfl, gpass_me _⟩
theorem km_refuse_c (L : gLn) : gK0 L (rX2_refuse_c L).2 := by
  unfold rX2_refuse_c
  repeat' split
  all_goals first
    | exact ⟨rfl, rfl⟩
    | exact ⟨gpass_me _, rfl⟩
    | exact ⟨rfl, gpass_me _⟩
theorem km_putFirstByte (L : gLn) : gK0 L (rX2_putFirstByte L).2 := by
  unfold rX2_putFirstByte
  repeat' split
  all_goals first
    | exact ⟨rfl, rfl⟩
    | exact ⟨gpass_me _, rfl⟩
    | exact ⟨rfl, gpass_me _⟩
theorem km_putBehindThird (L : gLn) : gK0 L (rX2_putBehindThird L).2 := by
  unfold rX2_putBehindThird
  repeat' split
  all_goals first
    | exact ⟨rfl, rfl⟩
    | exact ⟨gpass_me _, rfl⟩
    | exact ⟨rfl, gpass_me _⟩
theorem km_putCounting (L : gLn) (x : Int32) : gK0 L (rX2_putCounting L x).2 := by
  unfold rX2_putCounting
  repeat' split
  all_goals first
    | exact ⟨rfl, rfl⟩
    | exact ⟨gpass_me _, rfl⟩
    | exact ⟨rfl, gpass_me _⟩
theorem km_onI_c (L : gLn) (x : Int32) : gKm L (rX2_onI_c L x).2 := by
  unfold rX2_onI_c
  repeat' split
  all_goals first
    | exact gK0.up (⟨rfl, rfl⟩)
    | exact gK0.up (⟨gpass_me _, rfl⟩)
    | exact gK0.up (⟨rfl, gpass_me _⟩)
    | exact gK0.up (km_refuse_c _)
    | exact gK0.up (gK0.trans ⟨rfl, rfl⟩ (km_refuse_c _))
    | exact gK0.up (gK0.trans ⟨gpass_me _, rfl⟩ (km_refuse_c _))
    | exact gK0.up (gK0.trans ⟨rfl, gpass_me _⟩ (km_refuse_c _))
    | exact ⟨Or.inr rfl, Or.inl rfl⟩
    | exact gKm.z ⟨Or.inr rfl, Or.inl rfl⟩ (km_refuse_c _)
    | exact ⟨Or.inr (congrArg (· + 1) (gpass_me _)), Or.inl rfl⟩
    | exact gKm.z ⟨Or.inr (congrArg (· + 1) (gpass_me _)), Or.inl rfl⟩ (km_refuse_c _)
    | exact ⟨Or.inl rfl, Or.inr rfl⟩
    | exact gKm.z ⟨Or.inl rfl, Or.inr rfl⟩ (km_refuse_c _)
    | exact ⟨Or.inl rfl, Or.inr (congrArg (· + 1) (gpass_me _))⟩
    | exact gKm.z ⟨Or.inl rfl, Or.inr (congrArg (· + 1) (gpass_me _))⟩ (km_refuse_c _)
theorem km_onReceipt_c (L : gLn) (x : Int32) : gK0 L (rX2_onReceipt_c L x).2 := by
  unfold rX2_onReceipt_c
  repeat' split
  all_goals first
    | exact ⟨rfl, rfl⟩
    | exact ⟨gpass_me _, rfl⟩
    | exact ⟨rfl, gpass_me _⟩
theorem km_onRequest_c (L : gLn) (x : Int32) : gK0 L (rX2_onRequest_c L x).2 := by
  unfold rX2_onRequest_c
  repeat' split
  all_goals first
    | exact ⟨rfl, rfl⟩
    | exact ⟨gpass_me _, rfl⟩
    | exact ⟨rfl, gpass_me _⟩
    | exact km_refuse_c _
    | exact gK0.trans ⟨rfl, rfl⟩ (km_refuse_c _)
    | exact gK0.trans ⟨gpass_me _, rfl⟩ (km_refuse_c _)
    | exact gK0.trans ⟨rfl, gpass_me _⟩ (km_refuse_c _)
theorem km_cardOnAnswer (L : gLn) : gK0 L (rX2_cardOnAnswer L).2 := by
  unfold rX2_cardOnAnswer
  repeat' split
  all_goals first
    | exact ⟨rfl, rfl⟩
    | exact ⟨gpass_me _, rfl⟩
    | exact ⟨rfl, gpass_me _⟩
    | exact km_putFirstByte _
    | exact gK0.trans ⟨rfl, rfl⟩ (km_putFirstByte _)
    | exact gK0.trans ⟨gpass_me _, rfl⟩ (km_putFirstByte _)
    | exact gK0.trans ⟨rfl, gpass_me _⟩ (km_putFirstByte _)
    | exact km_putBehindThird _
    | exact gK0.trans ⟨rfl, rfl⟩ (km_putBehindThird _)
    | exact gK0.trans ⟨gpass_me _, rfl⟩ (km_putBehindThird _)
    | exact gK0.trans ⟨rfl, gpass_me _⟩ (km_putBehindThird _)
theorem km_cardKind (L : gLn) : gKm L (rX2_cardKind L).2 := by
  unfold rX2_cardKind
  split
  · split
    · exact ⟨Or.inl rfl, Or.inl rfl⟩
    · split
      · split
        · exact ⟨Or.inl rfl, Or.inl rfl⟩
        · split
          · split
            · split
              · exact (km_onReceipt_c L (gat L.ca 1)).up
              · exact km_onI_c L (gat L.ca 1)
            · exact (km_onRequest_c L (gat L.ca 1)).up
          · exact (km_cardOnAnswer L).up
      · exact (km_onBroken_c L).up
  · have b : gK0 L (L.set 11 (L.si - 1)) := ⟨rfl, rfl⟩
    generalize L.set 11 (L.si - 1) = L1 at b ⊢
    refine b.m ?_
    split
    · exact (km_putFirstByte L1).up
    · exact ⟨Or.inl rfl, Or.inl rfl⟩
theorem km_doMessage (L : gLn) : gK0 L (rX2_doMessage L).2 := by
  unfold rX2_doMessage
  repeat' split
  all_goals first
    | exact ⟨rfl, rfl⟩
    | exact ⟨gpass_me _, rfl⟩
    | exact ⟨rfl, gpass_me _⟩
    | exact km_putCounting _ _
    | exact gK0.trans ⟨rfl, rfl⟩ (km_putCounting _ _)
    | exact gK0.trans ⟨gpass_me _, rfl⟩ (km_putCounting _ _)
    | exact gK0.trans ⟨rfl, gpass_me _⟩ (km_putCounting _ _)
    | exact km_putBehindThird _
    | exact gK0.trans ⟨rfl, rfl⟩ (km_putBehindThird _)
    | exact gK0.trans ⟨gpass_me _, rfl⟩ (km_putBehindThird _)
    | exact gK0.trans ⟨rfl, gpass_me _⟩ (km_putBehindThird _)
theorem km_gCk (L : gLn) : gKm L (gCk L).2 := by
  unfold gCk
  split
  · exact (km_cardKind L).z (km_doMessage _)
  · exact km_cardKind L
theorem km_tries (L : gLn) (x : Int32) : gK0 L (rX2_countTries L x).2 := by
  unfold rX2_countTries
  repeat' split
  all_goals exact ⟨rfl, rfl⟩
theorem km_gRk {L : gLn} (ft : L.ft = 0) : gKm L (gRk L).2 := by
  unfold gRk
  rw [if_pos ft]
  exact (km_readerKind L).z (km_tries _ _)
theorem gks_me_r (L : gLn) (x : Int32) : gK0 L (rX2_kindToSend_r L x).2 := by
  unfold rX2_kindToSend_r
  repeat' split
  all_goals exact ⟨rfl, rfl⟩
theorem gks_me_c (L : gLn) (x : Int32) : gK0 L (rX2_kindToSend_c L x).2 := by
  unfold rX2_kindToSend_c
  repeat' split
  all_goals exact ⟨rfl, rfl⟩
theorem gcm_me_r (L : gLn) (x : Int32) : gK0 L (rX2_compose_r L x) := by
  unfold rX2_compose_r
  repeat' split
  all_goals exact ⟨rfl, rfl⟩
theorem gcm_me_c (L : gLn) (x : Int32) : gK0 L (rX2_compose_c L x) := by
  unfold rX2_compose_c
  repeat' split
  all_goals exact ⟨rfl, rfl⟩
theorem gs3_me_r (L : gLn) (x : Int32) : gK0 L (gS3_r L x) := ((gks_me_r L x).trans (gcm_me_r _ _)).trans ⟨rfl, rfl⟩
theorem gs3_me_c (L : gLn) (x : Int32) : gK0 L (gS3_c L x) := ((gks_me_c L x).trans (gcm_me_c _ _)).trans ⟨rfl, rfl⟩
theorem gSent.me {L3 L' : gLn} {num ro : Int32} {Lt Lt' A A' m m' : Nat} {J J' : gJr} (H : gSent L3 num ro L' Lt Lt' A A' m m' J J') : gK0 L3 L' := by
  obtain ⟨y, l1, eA, eL, em, ey, e5, -⟩ := H
  rw [e5]
  exact ⟨rfl, rfl⟩
def gMe (e : Nat) (L : gLn) : Prop := (∃ a, a ≤ e ∧ L.rd.me = nI a) ∧ ∃ a, a ≤ e ∧ L.cd.me = nI a
theorem gMe.z {e : Nat} {L L1 : gLn} (H : gMe e L) (K : gK0 L L1) : gMe e L1 := ⟨by rw [K.1]; exact H.1, by rw [K.2]; exact H.2⟩
theorem gMe.le {e e2 : Nat} {L : gLn} (H : gMe e L) (h : e ≤ e2) : gMe e2 L := by
  obtain ⟨⟨a, h1, h2⟩, b, h3, h4⟩ := H
  exact ⟨⟨a, by omega, h2⟩, b, by omega, h4⟩
theorem gMe.m {e : Nat} {L L1 : gLn} (H : gMe e L) (K : gKm L L1) : gMe (e + 1) L1 := by
  obtain ⟨⟨a, h1, h2⟩, b, h3, h4⟩ := H
  refine ⟨?_, ?_⟩
  · rcases K.1 with k | k
    · exact ⟨a, by omega, k.trans h2⟩
    · exact ⟨a + 1, by omega, by rw [k, h2, nI_1]⟩
  · rcases K.2 with k | k
    · exact ⟨b, by omega, k.trans h4⟩
    · exact ⟨b + 1, by omega, by rw [k, h4, nI_1]⟩
theorem gMe.r {e : Nat} {L : gLn} (H : gMe e L) (he : e < 1000000) : ¬ L.rd.me + 1 = 0 := by
  obtain ⟨⟨a, h1, h2⟩, -⟩ := H
  rw [h2, nI_1]
  exact fun h => by have := nI_inj (a := a + 1) (b := 0) (by omega) (by decide) h; omega
theorem gMe.c {e : Nat} {L : gLn} (H : gMe e L) (he : e < 1000000) : ¬ L.cd.me + 1 = 0 := by
  obtain ⟨-, b, h1, h2⟩ := H
  rw [h2, nI_1]
  exact fun h => by have := nI_inj (a := b + 1) (b := 0) (by omega) (by decide) h; omega
theorem gTurn.me {e : Nat} {L L' : gLn} {Lt Lt' A A' m m' : Nat} {J J' : gJr} (H : gMe e (gRk L).2) (T : gTurn L Lt A m J L' Lt' A' m' J') : gMe (e + 1) L' := by
  rcases T with ⟨-, rfl, -⟩ | ⟨-, L2, Lt2, A2, m2, J2, S1, T⟩
  · exact H.le (by omega)
  · have H2 := ((H.z (gs3_me_r _ _)).z S1.me).m (km_gCk L2)
    rcases T with ⟨-, rfl, -⟩ | ⟨-, S2⟩
    · exact H2.z ⟨rfl, rfl⟩
    · exact (H2.z (gs3_me_c _ _)).z S2.me
theorem gSo.step {L3 L' : gLn} {num ro : Int32} {P : Nat → gLn → Prop} {i N Lt Lt' A A' m m' : Nat} {J J' : gJr} (S : gSo L3 ro P i) (H : gSent L3 num ro L' Lt Lt' A A' m m' J J') (V : gJv J N Lt) (hN : N + 1 ≤ 15000) :
    (∃ j, j + 6 * m' < i + 6 * m ∧ P j L') ∧ gJv J' (N + 1) Lt' ∧ Lt' ≤ Lt + 256 ∧ (A ≤ Lt → A' ≤ Lt') ∧ L'.rd.se = L3.rd.se ∧ L'.cd.se = L3.cd.se ∧ (L'.oc = 0 → 4 ≤ L'.ca.length) := by
  obtain ⟨k, q, inf, hb, wf, hl, hby, hq, rfl, ⟨j, hj, W⟩, Bk⟩ := S
  have blk := gMb_blk wf.lt hby hl
  have blk2 : gBlk L3.bl := by rw [hb]; exact blk
  have V2 := V.step hN blk2 H
  have wh := fun h => H.whole h
  have o := H.out hb wf hl hq
  have b64 := blk2.2.1
  have b4 := blk2.1
  obtain ⟨y, l1, eA, eL, em, -⟩ := H
  refine ⟨?_, V2, by omega, fun h => by omega, ?_⟩
  · rcases o with ⟨e, hm⟩ | ⟨l2, o, e, ho, hm⟩
    · exact ⟨j, by omega, by rw [e]; exact W⟩
    · obtain ⟨j2, hj2, W2⟩ := Bk l2 o ho
      exact ⟨j2, by omega, by rw [e]; exact W2⟩
  · rcases o with ⟨e, -⟩ | ⟨l2, o, e, -⟩
    · exact ⟨by rw [e]; rfl, by rw [e]; rfl, fun h => by rw [wh h]; exact b4⟩
    · exact ⟨by rw [e]; rfl, by rw [e]; rfl, fun h => by rw [wh h]; exact b4⟩
theorem gTurn.stepG {M : List Int32} {K : Int32 × Int32} {L L' : gLn} {i N Lt Lt' A A' m m' : Nat} {J J' : gJr} (RH : gRO M K i (gRk L)) (hmc : ¬ (gRk L).2.cd.me + 1 = 0) (kk : (gRk L).2.rd.se = L.rd.se ∧ (gRk L).2.cd.se = L.cd.se ∧ (gRk L).2.oc = L.oc ∧ (gRk L).2.ca = L.ca ∧ ∃ t, t < 3 ∧ (gRk L).2.tr = nI t) (T : gTurn L Lt A m J L' Lt' A' m' J') (V : gJv J N Lt) (hN : N + 2 ≤ 15000) (hA : A ≤ Lt) (hse : L.rd.se + L.cd.se = nI N) (hca : L.oc = 0 → 4 ≤ L.ca.length) :
    (gFin M K L' ∨ ∃ j, gRR M K j L' ∧ j + 6 * m' + 2 ≤ i + 6 * m) ∧ (m' ≤ m) ∧ ∃ N', N ≤ N' ∧ N' ≤ N + 2 ∧ (gFin M K L' → N' ≤ N + 2) ∧ gJv J' N' Lt' ∧ Lt' ≤ Lt + 256 * (N' - N) ∧ A' ≤ Lt' ∧ L'.rd.se + L'.cd.se = nI N' ∧ (L'.oc = 0 → 4 ≤ L'.ca.length) ∧ ∃ t, t < 3 ∧ L'.tr = nI t := by
  obtain ⟨k1, k2, k3, k4, k5⟩ := kk
  rcases T with ⟨hk, rfl, rfl, rfl, rfl, rfl⟩ | ⟨hk, L2, Lt2, A2, m2, J2, S1, T⟩
  · rcases RH with ⟨-, F⟩ | ⟨h9, -⟩
    · exact ⟨Or.inl F, Nat.le_refl _, N, Nat.le_refl _, by omega, fun _ => by omega, V, by omega, hA, by rw [k1, k2]; exact hse, by rw [k3, k4]; exact hca, k5⟩
    · exact absurd hk h9
  · rcases RH with ⟨h9, -⟩ | ⟨-, S⟩
    · exact absurd h9 hk
    · obtain ⟨⟨j, hj, CC⟩, V2, l2, A2', s1, s2, c2⟩ := S.step S1 V (by omega)
      have m12 : m2 ≤ m := by obtain ⟨y, l1, eA, eL, em, -⟩ := S1; exact em
      have hmc2 : ¬ L2.cd.me + 1 = 0 := by rw [((gs3_me_r _ _).trans S1.me).2]; exact hmc
      have CH := gChalf hmc2 CC
      obtain ⟨z1, z2, z3, z4, z5⟩ := kp_gCk L2
      obtain ⟨x1, x2⟩ := gs3_se_r (gRk L).2 (gRk L).1
      have se2 : L2.rd.se + L2.cd.se = nI (N + 1) := by
        rw [s1, s2, x1, x2, k1, k2, Int32.add_assoc, Int32.add_comm 1, ← Int32.add_assoc, hse, nI_1]
      rcases T with ⟨hk2, rfl, rfl, rfl, rfl, rfl⟩ | ⟨hk2, S2⟩
      · rcases CH with ⟨-, j2, hj2, RR⟩ | ⟨h9, -⟩
        · refine ⟨Or.inr ⟨j2, RR, by omega⟩, m12, N + 1, by omega, by omega, fun _ => by omega, V2, by omega, A2' hA, ?_, ?_, RR.1.2.2.2.2⟩
          · show (gCk L2).2.rd.se + (gCk L2).2.cd.se = _
            rw [z1, z2]; exact se2
          · exact fun h => absurd h (show ¬ (3 : Int32) = 0 by decide)
        · exact absurd hk2 h9
      · rcases CH with ⟨h9, -⟩ | ⟨-, SS⟩
        · exact absurd h9 hk2
        · obtain ⟨⟨j2, hj2, RR⟩, V3, l3, A3', s3, s4, c3⟩ := SS.step S2 V2 (by omega)
          have m23 : m' ≤ m2 := by obtain ⟨y, l1, eA, eL, em, -⟩ := S2; exact em
          obtain ⟨y1, y2⟩ := gs3_se_c (gCk L2).2 (gCk L2).1
          refine ⟨Or.inr ⟨j2, RR, by omega⟩, by omega, N + 2, by omega, by omega, fun _ => by omega, V3, by omega, A3' (A2' hA), ?_, c3, RR.1.2.2.2.2⟩
          rw [s3, s4, y1, y2, z1, z2, ← Int32.add_assoc, se2, nI_1]
