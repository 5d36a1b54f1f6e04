/-! the reference: what plans leave as it was (by program: wip/p2/m_pk.py) -/
section KF
variable {M M1 M2 : gMd}
def kF0 (M M1 : gMd) : Prop := (∀ k, ¬ k = 34 → ¬ k = 35 → M1.f k = M.f k) ∧ (∀ i q, ¬ i = 4 → ¬ i = 14 → M1.a i q = M.a i q) ∧ (∀ q, q = 17 ∨ q = 25 ∨ q = 26 ∨ q = 420 ∨ q = 423 ∨ q = 424 ∨ 428 ≤ q → M1.a 4 q = M.a 4 q)
theorem kF0.rf : kF0 M M := ⟨fun _ _ _ => rfl, fun _ _ _ _ => rfl, fun _ _ => rfl⟩
theorem kF0.tr (a : kF0 M M1) (c : kF0 M1 M2) : kF0 M M2 := ⟨fun k h1 h2 => (c.1 k h1 h2).trans (a.1 k h1 h2), fun i q h1 h2 => (c.2.1 i q h1 h2).trans (a.2.1 i q h1 h2), fun q h => (c.2.2 q h).trans (a.2.2 q h)⟩
theorem kF0.put {j : Nat} {x : Int32} (hj : ¬ (j = 17 ∨ j = 25 ∨ j = 26 ∨ j = 420 ∨ j = 423 ∨ j = 424 ∨ 428 ≤ j)) (a : kF0 M M1) : kF0 M (M1.put 4 j x) :=
  a.tr ⟨fun _ _ _ => rfl, fun i q h _ => gput_o h, fun q h => gput_n fun e => hj (e ▸ h)⟩
theorem kF0.cpy {i j n : Nat} {g : Nat → Int32} (h : 32 ≤ i ∧ i + n ≤ 420) (a : kF0 M M1) : kF0 M (M1.arr 4 (gCpy (M1.a 4) i g j n)) :=
  a.tr ⟨fun _ _ _ => rfl, fun i q h _ => garr_o h, fun q hq => garr_s.trans (gCpy_out (by omega))⟩
theorem kF0.a14 {g : Nat → Int32} (a : kF0 M M1) : kF0 M (M1.arr 14 g) := a.tr ⟨fun _ _ _ => rfl, fun i q _ h => garr_o h, fun q hq => garr_o (by decide)⟩
theorem kF0.p14 {j : Nat} {x : Int32} (a : kF0 M M1) : kF0 M (M1.put 14 j x) := a.tr ⟨fun _ _ _ => rfl, fun i q _ h => gput_o h, fun q hq => gput_o (by decide)⟩
theorem kF0.tri {x y : Int32} (a : kF0 M M1) : kF0 M (rX8_tries M1 x y) := a.tr ⟨fun k h1 h2 => (gset_n h2).trans (gset_n h1), fun _ _ _ _ => rfl, fun _ _ => rfl⟩
def kF1 (M M1 : gMd) : Prop := (∀ k, ¬ k = 34 → ¬ k = 35 → M1.f k = M.f k) ∧ (∀ i q, ¬ i = 4 → ¬ i = 14 → M1.a i q = M.a i q) ∧ (∀ q, q = 420 ∨ q = 423 ∨ q = 424 ∨ 428 ≤ q → M1.a 4 q = M.a 4 q)
theorem kF1.rf : kF1 M M := ⟨fun _ _ _ => rfl, fun _ _ _ _ => rfl, fun _ _ => rfl⟩
theorem kF1.tr (a : kF1 M M1) (c : kF1 M1 M2) : kF1 M M2 := ⟨fun k h1 h2 => (c.1 k h1 h2).trans (a.1 k h1 h2), fun i q h1 h2 => (c.2.1 i q h1 h2).trans (a.2.1 i q h1 h2), fun q h => (c.2.2 q h).trans (a.2.2 q h)⟩
theorem kF1.put {j : Nat} {x : Int32} (hj : ¬ (j = 420 ∨ j = 423 ∨ j = 424 ∨ 428 ≤ j)) (a : kF1 M M1) : kF1 M (M1.put 4 j x) :=
  a.tr ⟨fun _ _ _ => rfl, fun i q h _ => gput_o h, fun q h => gput_n fun e => hj (e ▸ h)⟩
theorem kF1.cpy {i j n : Nat} {g : Nat → Int32} (h : 32 ≤ i ∧ i + n ≤ 420) (a : kF1 M M1) : kF1 M (M1.arr 4 (gCpy (M1.a 4) i g j n)) :=
  a.tr ⟨fun _ _ _ => rfl, fun i q h _ => garr_o h, fun q hq => garr_s.trans (gCpy_out (by omega))⟩
theorem kF1.a14 {g : Nat → Int32} (a : kF1 M M1) : kF1 M (M1.arr 14 g) := a.tr ⟨fun _ _ _ => rfl, fun i q _ h => garr_o h, fun q hq => garr_o (by decide)⟩
theorem kF1.p14 {j : Nat} {x : Int32} (a : kF1 M M1) : kF1 M (M1.put 14 j x) := a.tr ⟨fun _ _ _ => rfl, fun i q _ h => gput_o h, fun q hq => gput_o (by decide)⟩
theorem kF1.tri {x y : Int32} (a : kF1 M M1) : kF1 M (rX8_tries M1 x y) := a.tr ⟨fun k h1 h2 => (gset_n h2).trans (gset_n h1), fun _ _ _ _ => rfl, fun _ _ => rfl⟩
def kH (M : gMd) : Prop := (0 ≤ M.z 8 ∧ M.z 8 ≤ 60) ∧ (0 ≤ M.z 24 ∧ M.z 24 ≤ 60) ∧ M.z 30 ≤ 60
theorem kH.cg (h : ∀ q, q = 8 ∨ q = 24 ∨ q = 30 → M1.a 4 q = M.a 4 q) (H : kH M) : kH M1 := by
  unfold kH gMd.z
  unfold kH gMd.z at H
  rw [h 8 (by omega), h 24 (by omega), h 30 (by omega)]
  exact H
theorem gt_cle {x : Int32} {b : Nat} (h : x.toInt ≤ b) : x.toNatClampNeg ≤ b := by
  show x.toInt.toNat ≤ b
  omega
theorem fR0 {y : Int32} (a : kF0 M M1) : kF0 M (pX8_sendsR_0 M1 y).1 := a
theorem fAsk0 (a : kF0 M M1) : kF0 M (pX8_sendsAsked_0 M1).1 := by
  unfold pX8_sendsAsked_0
  split
  · exact a.p14
  · exact a.p14
theorem fAsks0 {y w : Int32} (a : kF0 M M1) : kF0 M (pX8_asks_0 M1 y w).1 := by
  unfold pX8_asks_0
  exact fAsk0 ((a.put (by decide)).put (by decide))
theorem fResp0 (a : kF0 M M1) : kF0 M (pX8_responds_0 M1).1 := a.p14
theorem fPend0 (a : kF0 M M1) : kF0 M (pX8_sendsPending_0 M1).1 := a.a14
theorem fOut0 (a : kF0 M M1) : kF0 M (pX8_sendsOut_0 M1).1 := by
  unfold pX8_sendsOut_0
  exact fPend0 (((a.put (by decide)).put (by decide)).put (by decide))
theorem fThr0 (a : kF0 M M1) : kF0 M (rX8_isThrough_0 M1) := by
  unfold rX8_isThrough_0
  split
  · exact ((a.put (by decide)).put (by decide)).put (by decide)
  · exact a
theorem fGoes0 (a : kF0 M M1) : kF0 M (pX8_goesOn_0 M1).1 := by
  unfold pX8_goesOn_0
  by_cases c : M1.a 4 6 = 1
  · rw [if_pos c, if_neg (by decide)]; exact fOut0 (fThr0 a)
  · rw [if_neg c, if_pos rfl]; exact fR0 (fThr0 a)
theorem fRes0 (a : kF0 M M1) : kF0 M (rX8_resynchs_0 M1) := ((((((a.put (by decide)).put (by decide)).put (by decide)).put (by decide)).put (by decide)).put (by decide)).put (by decide)
theorem fMsg0 (h : kH M1) (a : kF0 M M1) : kF0 M (rX8_messageCame_0 M1) ∧ kH (rX8_messageCame_0 M1) := by
  have cl := gt_cle (b := 60) (show (M1.a 4 8).toInt ≤ 60 from h.1.2)
  have e8 : (rX8_messageCame_0 M1).z 8 = 0 := gz_s
  have g0 : ∀ q, q < 32 → (M1.arr 4 (gCpy (M1.a 4) 288 (M1.a 4) 160 ((M1.a 4 8).toNatClampNeg))).a 4 q = M1.a 4 q := fun q h => garr_s.trans (gCpy_out (by omega))
  refine ⟨(((a.cpy (by omega)).put (by decide)).put (by decide)).put (by decide), ?_⟩
  unfold kH
  rw [e8, show (rX8_messageCame_0 M1).z 24 = M1.z 24 from (gz_n (by decide)).trans ((gz_n (by decide)).trans ((gz_n (by decide)).trans (congrArg Int32.toInt (g0 24 (by decide))))), show (rX8_messageCame_0 M1).z 30 = M1.z 30 from (gz_n (by decide)).trans ((gz_n (by decide)).trans ((gz_n (by decide)).trans (congrArg Int32.toInt (g0 30 (by decide)))))]
  exact ⟨by omega, h.2.1, h.2.2⟩
theorem fTake0 (h : kH M1) (a : kF0 M M1) : kF0 M (rX8_takes_0 M1).2 ∧ kH (rX8_takes_0 M1).2 := by
  have hT : ∀ q, ¬ q = 0 → ¬ q = 4 → ¬ q = 5 → (rX8_isThrough_0 M1).a 4 q = M1.a 4 q := fun q h1 h2 h3 => by
    unfold rX8_isThrough_0
    split
    · exact (gput_n h3).trans ((gput_n h1).trans (gput_n h2))
    · rfl
  have cl := gt_cle (b := 60) (show (M1.a 4 8).toInt ≤ 60 from h.1.2)
  rw [← hT 8 (by decide) (by decide) (by decide)] at cl
  have key : ∀ N a' : Nat, a' ≤ 60 → kF0 M ((((rX8_isThrough_0 M1).arr 4 (gCpy ((rX8_isThrough_0 M1).a 4) (160 + a') ((rX8_isThrough_0 M1).a 13) 3 (min N (60 - a')))).put 4 8 (nI (a' + (min N (60 - a'))))).put 4 1 (1 - (((rX8_isThrough_0 M1).arr 4 (gCpy ((rX8_isThrough_0 M1).a 4) (160 + a') ((rX8_isThrough_0 M1).a 13) 3 (min N (60 - a')))).a 4 1))) ∧ kH ((((rX8_isThrough_0 M1).arr 4 (gCpy ((rX8_isThrough_0 M1).a 4) (160 + a') ((rX8_isThrough_0 M1).a 13) 3 (min N (60 - a')))).put 4 8 (nI (a' + (min N (60 - a'))))).put 4 1 (1 - (((rX8_isThrough_0 M1).arr 4 (gCpy ((rX8_isThrough_0 M1).a 4) (160 + a') ((rX8_isThrough_0 M1).a 13) 3 (min N (60 - a')))).a 4 1))) := fun N a' ha => by
    refine ⟨(((fThr0 a).cpy (by omega)).put (by decide)).put (by decide), ?_⟩
    have g0 : ∀ q, q < 32 → ¬ q = 0 → ¬ q = 4 → ¬ q = 5 → ((rX8_isThrough_0 M1).arr 4 (gCpy ((rX8_isThrough_0 M1).a 4) (160 + a') ((rX8_isThrough_0 M1).a 13) 3 (min N (60 - a')))).a 4 q = M1.a 4 q := fun q h h1 h2 h3 => (garr_s.trans (gCpy_out (by omega))).trans (hT q h1 h2 h3)
    unfold kH
    rw [show gMd.z _ 8 = _ from (gz_n (by decide)).trans gz_s, nI_toInt (by omega)]
    rw [show gMd.z _ 24 = M1.z 24 from (gz_n (by decide)).trans ((gz_n (by decide)).trans (congrArg Int32.toInt (g0 24 (by decide) (by decide) (by decide) (by decide))))]
    rw [show gMd.z _ 30 = M1.z 30 from (gz_n (by decide)).trans ((gz_n (by decide)).trans (congrArg Int32.toInt (g0 30 (by decide) (by decide) (by decide) (by decide))))]
    exact ⟨by omega, h.2.1, h.2.2⟩
  have fin := key (((rX8_isThrough_0 M1).a 13 2).toNatClampNeg) _ cl
  unfold rX8_takes_0
  by_cases c1 : (M1.a 13 1) &&& 64 = 64 * (M1.a 4 1)
  · rw [if_pos c1]
    by_cases c2 : (M1.a 4 5) < 0
    · rw [if_pos c2]; exact fin
    · rw [if_neg c2]
      by_cases c3 : (M1.a 4 6) = 1
      · rw [if_pos c3]; exact ⟨a, h⟩
      · rw [if_neg c3]; exact fin
  · rw [if_neg c1]; exact ⟨a, h⟩
theorem fR1 {y : Int32} (a : kF1 M M1) : kF1 M (pX8_sendsR_1 M1 y).1 := a
theorem fAsk1 (a : kF1 M M1) : kF1 M (pX8_sendsAsked_1 M1).1 := by
  unfold pX8_sendsAsked_1
  split
  · exact a.p14
  · exact a.p14
theorem fAsks1 {y w : Int32} (a : kF1 M M1) : kF1 M (pX8_asks_1 M1 y w).1 := by
  unfold pX8_asks_1
  exact fAsk1 ((a.put (by decide)).put (by decide))
theorem fResp1 (a : kF1 M M1) : kF1 M (pX8_responds_1 M1).1 := a.p14
theorem fPend1 (a : kF1 M M1) : kF1 M (pX8_sendsPending_1 M1).1 := a.a14
theorem fOut1 (a : kF1 M M1) : kF1 M (pX8_sendsOut_1 M1).1 := by
  unfold pX8_sendsOut_1
  exact fPend1 (((a.put (by decide)).put (by decide)).put (by decide))
theorem fThr1 (a : kF1 M M1) : kF1 M (rX8_isThrough_1 M1) := by
  unfold rX8_isThrough_1
  split
  · exact ((a.put (by decide)).put (by decide)).put (by decide)
  · exact a
theorem fGoes1 (a : kF1 M M1) : kF1 M (pX8_goesOn_1 M1).1 := by
  unfold pX8_goesOn_1
  by_cases c : M1.a 4 22 = 1
  · rw [if_pos c, if_neg (by decide)]; exact fOut1 (fThr1 a)
  · rw [if_neg c, if_pos rfl]; exact fR1 (fThr1 a)
theorem fRes1 (a : kF1 M M1) : kF1 M (rX8_resynchs_1 M1) := ((((((a.put (by decide)).put (by decide)).put (by decide)).put (by decide)).put (by decide)).put (by decide)).put (by decide)
theorem fMsg1 (h : kH M1) (a : kF1 M M1) : kF1 M (rX8_messageCame_1 M1) ∧ kH (rX8_messageCame_1 M1) := by
  have cl := gt_cle (b := 60) (show (M1.a 4 24).toInt ≤ 60 from h.2.1.2)
  have e8 : (rX8_messageCame_1 M1).z 24 = 0 := gz_s
  have g0 : ∀ q, q < 32 → (M1.arr 4 (gCpy (M1.a 4) 352 (M1.a 4) 224 ((M1.a 4 24).toNatClampNeg))).a 4 q = M1.a 4 q := fun q h => garr_s.trans (gCpy_out (by omega))
  refine ⟨(((a.cpy (by omega)).put (by decide)).put (by decide)).put (by decide), ?_⟩
  unfold kH
  rw [e8, show (rX8_messageCame_1 M1).z 8 = M1.z 8 from (gz_n (by decide)).trans ((gz_n (by decide)).trans ((gz_n (by decide)).trans (congrArg Int32.toInt (g0 8 (by decide))))), show (rX8_messageCame_1 M1).z 30 = M1.z 24 from (gz_n (by decide)).trans ((gz_n (by decide)).trans (gz_s.trans (congrArg Int32.toInt (g0 24 (by decide)))))]
  exact ⟨h.1, by omega, h.2.1.2⟩
theorem fTake1 (h : kH M1) (a : kF1 M M1) : kF1 M (rX8_takes_1 M1).2 ∧ kH (rX8_takes_1 M1).2 := by
  have hT : ∀ q, ¬ q = 16 → ¬ q = 20 → ¬ q = 21 → (rX8_isThrough_1 M1).a 4 q = M1.a 4 q := fun q h1 h2 h3 => by
    unfold rX8_isThrough_1
    split
    · exact (gput_n h3).trans ((gput_n h1).trans (gput_n h2))
    · rfl
  have cl := gt_cle (b := 60) (show (M1.a 4 24).toInt ≤ 60 from h.2.1.2)
  rw [← hT 24 (by decide) (by decide) (by decide)] at cl
  have key : ∀ N a' : Nat, a' ≤ 60 → kF1 M ((((rX8_isThrough_1 M1).arr 4 (gCpy ((rX8_isThrough_1 M1).a 4) (224 + a') ((rX8_isThrough_1 M1).a 13) 3 (min N (60 - a')))).put 4 24 (nI (a' + (min N (60 - a'))))).put 4 17 (1 - (((rX8_isThrough_1 M1).arr 4 (gCpy ((rX8_isThrough_1 M1).a 4) (224 + a') ((rX8_isThrough_1 M1).a 13) 3 (min N (60 - a')))).a 4 17))) ∧ kH ((((rX8_isThrough_1 M1).arr 4 (gCpy ((rX8_isThrough_1 M1).a 4) (224 + a') ((rX8_isThrough_1 M1).a 13) 3 (min N (60 - a')))).put 4 24 (nI (a' + (min N (60 - a'))))).put 4 17 (1 - (((rX8_isThrough_1 M1).arr 4 (gCpy ((rX8_isThrough_1 M1).a 4) (224 + a') ((rX8_isThrough_1 M1).a 13) 3 (min N (60 - a')))).a 4 17))) := fun N a' ha => by
    refine ⟨(((fThr1 a).cpy (by omega)).put (by decide)).put (by decide), ?_⟩
    have g0 : ∀ q, q < 32 → ¬ q = 16 → ¬ q = 20 → ¬ q = 21 → ((rX8_isThrough_1 M1).arr 4 (gCpy ((rX8_isThrough_1 M1).a 4) (224 + a') ((rX8_isThrough_1 M1).a 13) 3 (min N (60 - a')))).a 4 q = M1.a 4 q := fun q h h1 h2 h3 => (garr_s.trans (gCpy_out (by omega))).trans (hT q h1 h2 h3)
    unfold kH
    rw [show gMd.z _ 8 = M1.z 8 from (gz_n (by decide)).trans ((gz_n (by decide)).trans (congrArg Int32.toInt (g0 8 (by decide) (by decide) (by decide) (by decide))))]
    rw [show gMd.z _ 24 = _ from (gz_n (by decide)).trans gz_s, nI_toInt (by omega)]
    rw [show gMd.z _ 30 = M1.z 30 from (gz_n (by decide)).trans ((gz_n (by decide)).trans (congrArg Int32.toInt (g0 30 (by decide) (by decide) (by decide) (by decide))))]
    exact ⟨h.1, by omega, h.2.2⟩
  have fin := key (((rX8_isThrough_1 M1).a 13 2).toNatClampNeg) _ cl
  unfold rX8_takes_1
  by_cases c1 : (M1.a 13 1) &&& 64 = 64 * (M1.a 4 17)
  · rw [if_pos c1]
    by_cases c2 : (M1.a 4 21) < 0
    · rw [if_pos c2]; exact fin
    · rw [if_neg c2]
      by_cases c3 : (M1.a 4 22) = 1
      · rw [if_pos c3]; exact ⟨a, h⟩
      · rw [if_neg c3]; exact fin
  · rw [if_neg c1]; exact ⟨a, h⟩
theorem fCo0 {n : Int32} (hn : n.toInt ≤ 60) (a : kF1 M M1) : kF1 M (rX8_cardOut_0 M1 n) := by
  have cl := gt_cle (b := 60) hn
  exact (((a.cpy (by omega)).put (by decide)).put (by decide)).put (by decide)
theorem fSe0 {n : Int32} (hn : n.toInt ≤ 60) (a : kF1 M M1) : kF1 M (pX8_cardSends_0 M1 n).1 := fOut1 (fCo0 hn a)
theorem fCo3 {n : Int32} (hn : n.toInt ≤ 60) (a : kF1 M M1) : kF1 M (rX8_cardOut_3 M1 n) := by
  have cl := gt_cle (b := 60) hn
  exact (((a.cpy (by omega)).put (by decide)).put (by decide)).put (by decide)
theorem fSe3 {n : Int32} (hn : n.toInt ≤ 60) (a : kF1 M M1) : kF1 M (pX8_cardSends_3 M1 n).1 := fOut1 (fCo3 hn a)
theorem fWaits (h : M1.z 30 ≤ 60) (a : kF1 M M1) : kF1 M (pX8_cardWaits M1).1 := by
  unfold pX8_cardWaits
  by_cases c1 : M1.a 4 416 ≤ 0
  · rw [if_pos c1]
    by_cases c2 : M1.a 4 30 ≤ 3
    · rw [if_pos c2]; exact fSe3 (by decide) a
    · rw [if_neg c2]
      have c2' : ¬ M1.z 30 ≤ 3 := fun h => c2 (Int32.le_iff_toInt_le.mpr h)
      exact fSe3 (by rw [gt_sub (show _ ≤ M1.z 30 - 3 by omega) (show M1.z 30 - 3 < _ by omega)]; show M1.z 30 - 3 ≤ 60; omega) a
  · rw [if_neg c1]; exact fAsks1 (a.put (by decide))
theorem fAnswered (h : M1.z 30 ≤ 60) (a : kF1 M M1) : kF1 M (pX8_cardAnswered M1).1 := by
  unfold pX8_cardAnswered
  by_cases c1 : M1.a 4 25 = 3
  · rw [if_pos c1]; exact fWaits (by rw [gz_n (by decide), gz_n (by decide)]; exact h) ((a.put (by decide)).put (by decide))
  · rw [if_neg c1]
    by_cases c2 : M1.a 4 25 = 1
    · rw [if_pos c2]; exact fSe0 (by decide) (a.put (by decide))
    · rw [if_neg c2]; exact fR1 (a.put (by decide))
theorem fDoes (By : kBy M1) (h : M1.z 30 ≤ 60) (a : kF1 M M1) : kF1 M (pX8_cardDoes M1).1 := by
  obtain ⟨g10, -⟩ := kGb (k := 353) (d := 0) (j := 1) (x := rX8_gotByte_1_0 M1) By (by omega) ⟨0, by decide, rfl⟩ rfl
  unfold pX8_cardDoes
  generalize (rX8_gotByte_0_0 M1) - (rX8_gotByte_0_0 M1) / 8 * 8 = g8
  by_cases d0 : g8 = 0
  · rw [if_pos d0]; exact fSe0 h a
  rw [if_neg d0]
  by_cases d1 : g8 = 1
  · rw [if_pos d1]
    obtain ⟨⟨m, hm, em⟩, -⟩ := kMod (d := 61) (e := 60) g10 (by decide) (by decide) (by decide)
    have em' : rX8_gotByte_1_0 M1 - rX8_gotByte_1_0 M1 / 61 * 61 = nI m := em
    rw [em', nI_clamp (by omega)]
    exact fOut1 (((fCo0 (by decide) a).cpy (by omega)).put (by decide))
  rw [if_neg d1]
  by_cases d2 : g8 = 2
  · rw [if_pos d2]; exact fWaits (by rw [gz_n (by decide), gz_n (by decide)]; exact h) ((a.put (by decide)).put (by decide))
  rw [if_neg d2]
  by_cases d3 : g8 = 3
  · rw [if_pos d3]; exact fAsks1 a
  rw [if_neg d3]
  by_cases d4 : g8 = 4
  · rw [if_pos d4]; exact fAsks1 a
  rw [if_neg d4]
  by_cases d5 : g8 = 5
  · rw [if_pos d5]; exact a.put (by decide)
  rw [if_neg d5]
  exact fOut1 (((fCo0 (by decide) a).put (by decide)).put (by decide))
theorem fCard (h : kH M1) (By : kBy M1) (hT : M1.f 29 = 0 → kBy (rX8_messageCame_1 (rX8_takes_1 M1).2)) (a : kF1 M M1) : kF1 M (pX8_cardGets M1).1 := by
  unfold pX8_cardGets
  obtain ⟨t1, t2⟩ := fTake1 h a
  obtain ⟨m1, m2⟩ := fMsg1 t2 t1
  split
  · split
    · exact a
    · split
      · split
        · exact fResp1 ((fRes1 a).put (by decide))
        · split
          · split
            · split
              · split
                · exact fResp1 (a.put (by decide))
                · exact fR1 a
              · split
                · split
                  · exact fGoes1 a
                  · exact fPend1 a
                · exact fR1 a
            · split
              · exact fR1 t1
              · split
                · exact fDoes (hT ‹M1.f 29 = 0›) m2.2.2 m1
                · exact fR1 t1
          · split
            · exact fAsk1 a
            · exact fAnswered h.2.2 a
      · split
        · exact fR1 a
        · exact fAsk1 a
  · split
    · exact a.put (by decide)
    · exact fSe0 (by decide) (a.put (by decide))
theorem fDone (a : kF0 M M1) : kF0 M (rX8_done M1) := (a.put (by decide)).put (by decide)
theorem fAns (a : kF0 M M1) : kF0 M (rX8_readerAnswered M1) := by
  unfold rX8_readerAnswered
  split
  · exact fDone (a.put (by decide))
  · exact ((fRes0 (a.put (by decide))).put (by decide)).put (by decide)
theorem fOn (a : kF0 M M1) : kF0 M (pX8_triesOn M1).1 := by
  unfold pX8_triesOn
  split
  · split
    · exact ((a.put (by decide)).put (by decide)).put (by decide)
    · exact fAsks0 ((a.put (by decide)).put (by decide))
  · split
    · exact fAsk0 (a.put (by decide))
    · split
      · exact fR0 (a.put (by decide))
      · exact fPend0 (a.put (by decide))
theorem fEmp (a : kF0 M M1) : kF0 M (rX8_empties_0 M1) := (((a.put (by decide)).put (by decide)).put (by decide)).put (by decide)
theorem fAskedR (a : kF0 M M1) : kF0 M (pX8_readerAsked M1).1 := by
  unfold pX8_readerAsked
  split
  · exact fResp0 (a.put (by decide))
  · split
    · exact fResp0 ((fEmp (fThr0 a)).put (by decide))
    · split
      · exact fResp0 a
      · exact a.tri
theorem fTold (h : kH M1) (a : kF0 M M1) : kF0 M (pX8_readerTold M1).1 := by
  unfold pX8_readerTold
  split
  · refine fDone (fMsg0 ?_ (a.put (by decide))).1
    unfold kH
    rw [show (M1.put 4 8 0).z 8 = 0 from gz_s, show (M1.put 4 8 0).z 24 = M1.z 24 from gz_n (by decide), show (M1.put 4 8 0).z 30 = M1.z 30 from gz_n (by decide)]
    exact ⟨by omega, h.2⟩
  · split
    · split
      · exact fGoes0 a
      · exact a.tri
    · exact fR0 a
theorem fIf {P : gMd × Option (Int32 × Int32)} (a : kF0 M P.1) : kF0 M (if P.1.f 34 ≤ 0 then (P.1.put 4 422 0, P.2) else pX8_triesOn P.1).1 := by
  split
  · exact a.put (by decide)
  · exact fOn a
theorem fIf2 {o : Option (Int32 × Int32)} (a : kF0 M M1) : kF0 M (if M1.f 34 ≤ 0 then (M1.put 4 422 0, o) else pX8_triesOn M1).1 := by
  split
  · exact a.put (by decide)
  · exact fOn a
theorem fRead (h : kH M1) (a : kF0 M M1) : kF0 M (pX8_readerGets M1).1 := by
  have a0 : kF0 M (rX8_tries M1 0 0) := a.tri
  have h0 : kH (rX8_tries M1 0 0) := h
  unfold pX8_readerGets
  generalize rX8_tries M1 0 0 = M0 at a0 h0 ⊢
  obtain ⟨t1, t2⟩ := fTake0 h0 a0
  obtain ⟨m1, m2⟩ := fMsg0 t2 t1
  by_cases c0 : M0.f 29 = 0
  · rw [if_pos c0]
    by_cases c1 : M0.a 4 9 < 0
    · rw [if_pos c1]
      by_cases c2 : 128 ≤ M0.a 13 1
      · rw [if_pos c2]
        by_cases c3 : 192 ≤ M0.a 13 1
        · rw [if_pos c3]; exact fIf (fAskedR a0)
        · rw [if_neg c3]; exact fIf (fTold h0 a0)
      · rw [if_neg c2]
        by_cases c3 : (rX8_takes_0 M0).1 = 0
        · rw [if_pos c3]; exact fIf2 t1.tri
        · rw [if_neg c3]
          by_cases c4 : rX8_hasMoreCome (rX8_takes_0 M0).2 = 0
          · rw [if_pos c4]; exact fIf2 (fDone m1)
          · rw [if_neg c4]; exact fIf (P := pX8_sendsR_0 (rX8_takes_0 M0).2 0) (fR0 t1)
    · rw [if_neg c1]
      by_cases c2 : rX8_isResponse_0 M0 = 0
      · rw [if_pos c2]; exact fIf2 a0.tri
      · rw [if_neg c2]; exact fIf2 (fAns a0)
  · rw [if_neg c0]
    by_cases c1 : M0.a 4 9 < 0
    · rw [if_pos c1]; exact fIf2 a0.tri
    · rw [if_neg c1]; exact fIf2 a0.tri
end KF
