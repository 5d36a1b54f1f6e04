/-! Line.turn, Line.run (by program: wip/p1/m_turn.py) -/
theorem gOk.mono {J J' : gJr} {x : Int32} (h : gOk J x) (e : (J.l 1).length ≤ (J'.l 1).length) : gOk J' x := h.imp id (fun ⟨i, h1, h2⟩ => ⟨i, Nat.lt_of_lt_of_le h1 e, h2⟩)
theorem gat_app {l m : List Int32} {i : Nat} (h : i < l.length) (hl : l.length < 2 ^ 31) : gat (l ++ m) (nI i) = gat l (nI i) := by
  rw [gat_nI (by omega), gat_nI (by omega), List.getD_eq_getElem?_getD, List.getElem?_append_left h, ← List.getD_eq_getElem?_getD]
theorem gat_last {l : List Int32} {x : Int32} (hl : l.length < 2 ^ 31) : gat (l ++ [x]) (nI l.length) = x := by
  rw [gat_nI hl, List.getD_eq_getElem?_getD, List.getElem?_append_right (Nat.le_refl _), Nat.sub_self]; rfl
theorem gat_put {l : List Int32} {k i : Nat} {y : Int32} (hk : k < 2 ^ 31) (hi : i < 2 ^ 31) (hl : i < l.length) : gat (gput l (nI k) y) (nI i) = if i = k then y else gat l (nI i) := by
  rw [gat_nI hi, gat_nI hi]
  unfold gput
  rw [if_neg (nI_pos hk), nI_clamp hk]
  by_cases e : i = k
  · subst e; rw [if_pos rfl]; simp [List.getD, hl]
  · rw [if_neg e]; simp [List.getD, List.getElem?_set_ne (Ne.symm e)]
/-- what note leaves -/
theorem gnote_l (J : gJr) (x y z : Int32) : (jX1_note J x y z).l 0 = J.l 0 ∧ (jX1_note J x y z).l 1 = J.l 1 ∧ (jX1_note J x y z).l 2 = gput (J.l 2) x (gat (J.l 2) x + 1) ∧ (jX1_note J x y z).l 3 = J.l 3 ∧ (jX1_note J x y z).l 4 = J.l 4 := by
  unfold jX1_note
  repeat' split
  all_goals exact ⟨rfl, rfl, rfl, rfl, rfl⟩
theorem gl_row (J : gJr) (k j : Nat) (l : List Int32) : (J.row k l).l j = if j = k then l else J.l j := rfl
theorem gl_sne (J : gJr) (x : Int32) (j : Nat) : (J.sne x).l j = J.l j := rfl
theorem gnote_len (J : gJr) (x y z : Int32) (h6 : (J.l 6).length = (J.l 5).length) (h7 : (J.l 7).length = (J.l 5).length) : ((jX1_note J x y z).l 6).length = ((jX1_note J x y z).l 5).length ∧ ((jX1_note J x y z).l 7).length = ((jX1_note J x y z).l 5).length := by
  unfold jX1_note
  repeat' split
  all_goals simp [gl_row, gl_sne, gput_len, h6, h7]
theorem gJid.pre {J J1 : gJr} {y x : Int32} {b : List Int32} {N : Nat} (P : gJpre N J) (hN : N ≤ 15000) (hb : b.length ≤ 64) (H : gJid J J1 y b x) : gJpre (N + 1) J1 := by
  obtain ⟨p1, p2, p3, p4, p5, p6, p7, p8, p9⟩ := P
  have e5 := H.len 5 (by decide); have e6 := H.len 6 (by decide); have e7 := H.len 7 (by decide)
  have fl : ((gFill J 256).l 4).length = 256 := gFill_len p5
  rcases H with ⟨rfl, -⟩ | ⟨-, k, hk, e⟩
  · refine ⟨Nat.le_succ_of_le p1, p2, p3, p4, by omega, fun i hi => ?_, p7, p8, p9⟩
    exact gOk_fill (by omega) p5 p6
  · obtain ⟨-, f0, f1, f2, f3, f4, -⟩ := e
    have g1 : (gFill J 256).l 1 = J.l 1 := rfl
    have g0 : (gFill J 256).l 0 = J.l 0 := rfl
    have g2 : (gFill J 256).l 2 = J.l 2 := rfl
    have g3 : (gFill J 256).l 3 = J.l 3 := rfl
    rw [g1] at f1; rw [g0] at f0; rw [g2] at f2; rw [g3] at f3
    have len1 : (J1.l 1).length = (J.l 1).length + 1 := by rw [f1, List.length_append]; rfl
    have len3 : (J1.l 3).length = (J.l 3).length + 1 := by rw [f3, List.length_append]; rfl
    refine ⟨by omega, by rw [f2, List.length_append, len1]; simp; omega, by omega, by rw [f0, List.length_append, List.length_cons, len1]; omega, by rw [f4, gput_len]; omega, fun i hi => ?_, fun i hi => ?_, by rw [e5, e6]; exact p8, by rw [e5, e7]; exact p9⟩
    · rw [f4, gput_len, fl] at hi
      rw [f4, gat_put (by omega) (by omega) (by omega)]
      split
      · rw [g1]; exact Or.inr ⟨_, by rw [len1]; omega, rfl⟩
      · exact (gOk_fill hi p5 p6).mono (by omega)
    · rw [f3]
      by_cases h : i < (J.l 1).length
      · rw [gat_app (by omega) (by omega)]; exact (p7 i h).mono (by omega)
      · have : i = (J.l 3).length := by omega
        subst this
        rw [gat_last (by omega)]; exact (gOk_fill hk p5 p6).mono (by omega)
theorem gJpre.note {J : gJr} {N : Nat} (P : gJpre N J) (x y z : Int32) : gJpre N (jX1_note J x y z) := by
  obtain ⟨p1, p2, p3, p4, p5, p6, p7, p8, p9⟩ := P
  obtain ⟨e0, e1, e2, e3, e4⟩ := gnote_l J x y z
  have el := gnote_len J x y z p8 p9
  refine ⟨by rw [e1]; exact p1, by rw [e2, gput_len, e1]; exact p2, by rw [e3, e1]; exact p3, by rw [e0, e1]; exact p4, by rw [e4]; exact p5, fun i hi => ?_, fun i hi => ?_, el.1, el.2⟩
  · rw [e4] at hi ⊢; exact (p6 i hi).mono (by rw [e1]; exact Nat.le_refl _)
  · rw [e1] at hi; rw [e3]; exact (p7 i hi).mono (by rw [e1]; exact Nat.le_refl _)
theorem gSent.pre {L3 L' : gLn} {num ro : Int32} {Lt Lt' A A' m m' N : Nat} {J J' : gJr} (P : gJpre N J) (hN : N ≤ 15000) (hb : L'.bl.length ≤ 64) (H : gSent L3 num ro L' Lt Lt' A A' m m' J J') : gJpre (N + 1) J' ∧ Lt' ≤ Lt + 256 := by
  obtain ⟨y, l1, eA, eL, em, ey, e5, J1, xid, hid, rfl⟩ := H
  have e : L'.bl = L3.bl := by rw [e5]; rfl
  rw [e] at hb
  exact ⟨(hid.pre P hN hb).note _ _ _, by omega⟩
theorem gjudge {L : gLn} {y ro : Int32} (h : rX2_judge L y ro = 0) : ¬ y = 3 ∧ ¬ y = 2 ∧ ¬ y = 1 := by
  unfold rX2_judge at h
  by_cases h3 : y = 3
  · rw [if_pos h3, h3] at h; exact absurd h (by decide)
  · rw [if_neg h3] at h
    by_cases h2 : y = 2
    · rw [if_pos h2, h2] at h; exact absurd h (by decide)
    · rw [if_neg h2] at h
      refine ⟨h3, h2, fun h1 => ?_⟩
      split at h
      · first | exact absurd h (by decide) | (rw [if_pos h1] at h; exact absurd h (by decide))
      · exact absurd h (by decide)
/-- a block that comes whole is the block that was sent -/
theorem gSent.whole {L3 L' : gLn} {num ro : Int32} {Lt Lt' A A' m m' : Nat} {J J' : gJr} (H : gSent L3 num ro L' Lt Lt' A A' m m' J J') (h : L'.oc = 0) : L'.ca = L3.bl := by
  obtain ⟨y, l1, eA, eL, em, ey, e5, -⟩ := H
  rw [e5] at h ⊢
  have hj := gjudge (show rX2_judge (L3.row 1 l1) y ro = 0 from h)
  rcases ey with ⟨-, e⟩ | ⟨e, -⟩ | ⟨e | e, -⟩
  · exact e
  · exact absurd e hj.2.2
  · exact absurd e hj.2.1
  · exact absurd e hj.1
theorem gc4_r (L : gLn) (x : Int32) : 4 ≤ (rX2_compose_r L x).bl.length := by
  unfold rX2_compose_r
  repeat' split
  all_goals (first | (show 4 ≤ (List.take 64 _).length; rw [List.length_take, List.length_append, List.length_take, List.length_append]; simp; omega) | (show 4 ≤ (_ :: _ : List Int32).length; simp))
theorem gc4_c (L : gLn) (x : Int32) : 4 ≤ (rX2_compose_c L x).bl.length := by
  unfold rX2_compose_c
  repeat' split
  all_goals (first | (show 4 ≤ (List.take 64 _).length; rw [List.length_take, List.length_append, List.length_take, List.length_append]; simp; omega) | (show 4 ≤ (_ :: _ : List Int32).length; simp))
theorem gS4_r (L : gLn) (x : Int32) : 4 ≤ (gS3_r L x).bl.length := gc4_r _ _
theorem gS4_c (L : gLn) (x : Int32) : 4 ≤ (gS3_c L x).bl.length := gc4_c _ _
def gRk (L : gLn) : Int32 × gLn := if L.ft = 0 then rX2_countTries (rX2_readerKind L).2 (rX2_readerKind L).1 else rX2_firstKind L
def gCk (L : gLn) : Int32 × gLn := if (rX2_cardKind L).1 = (-4) then rX2_doMessage (rX2_cardKind L).2 else rX2_cardKind L
def gTurn (L : gLn) (Lt A m : Nat) (J : gJr) (L' : gLn) (Lt' A' m' : Nat) (J' : gJr) : Prop :=
  ((gRk L).1 = -1 ∧ L' = (gRk L).2 ∧ Lt' = Lt ∧ A' = A ∧ m' = m ∧ J' = J) ∨
  (¬ (gRk L).1 = -1 ∧ ∃ (L2 : gLn) (Lt2 A2 m2 : Nat) (J2 : gJr), gSent (gS3_r (gRk L).2 (gRk L).1) 0 (gS3_r (gRk L).2 (gRk L).1).cd.ro L2 Lt Lt2 A A2 m m2 J J2 ∧
    (((gCk L2).1 = -1 ∧ L' = (gCk L2).2.set 5 3 ∧ Lt' = Lt2 ∧ A' = A2 ∧ m' = m2 ∧ J' = J2) ∨
     (¬ (gCk L2).1 = -1 ∧ gSent (gS3_c (gCk L2).2 (gCk L2).1) 1 (gS3_c (gCk L2).2 (gCk L2).1).rd.ro L' Lt2 Lt' A2 A' m2 m' J2 J')))
theorem dX2_turn_0 : decode cX2_turn 0 = .ok (.aload_n 0, 1) := by decide +kernel
theorem dX2_turn_1 : decode cX2_turn 1 = .ok (.getfield 61, 3) := by decide +kernel
theorem dX2_turn_4 : decode cX2_turn 4 = .ok (.ifCond .eq 10, 3) := by decide +kernel
theorem dX2_turn_7 : decode cX2_turn 7 = .ok (.aload_n 0, 1) := by decide +kernel
theorem dX2_turn_8 : decode cX2_turn 8 = .ok (.invokevirtual 125, 3) := by decide +kernel
theorem dX2_turn_11 : decode cX2_turn 11 = .ok (.goto 11, 3) := by decide +kernel
theorem dX2_turn_14 : decode cX2_turn 14 = .ok (.aload_n 0, 1) := by decide +kernel
theorem dX2_turn_15 : decode cX2_turn 15 = .ok (.aload_n 0, 1) := by decide +kernel
theorem dX2_turn_16 : decode cX2_turn 16 = .ok (.invokevirtual 128, 3) := by decide +kernel
theorem dX2_turn_19 : decode cX2_turn 19 = .ok (.invokevirtual 131, 3) := by decide +kernel
theorem dX2_turn_22 : decode cX2_turn 22 = .ok (.istore_n 1, 1) := by decide +kernel
theorem dX2_turn_23 : decode cX2_turn 23 = .ok (.iload_n 1, 1) := by decide +kernel
theorem dX2_turn_24 : decode cX2_turn 24 = .ok (.iconst (-1), 1) := by decide +kernel
theorem dX2_turn_25 : decode cX2_turn 25 = .ok (.if_icmp .ne 4, 3) := by decide +kernel
theorem dX2_turn_28 : decode cX2_turn 28 = .ok (.return_, 1) := by decide +kernel
theorem dX2_turn_29 : decode cX2_turn 29 = .ok (.aload_n 0, 1) := by decide +kernel
theorem dX2_turn_30 : decode cX2_turn 30 = .ok (.aload_n 0, 1) := by decide +kernel
theorem dX2_turn_31 : decode cX2_turn 31 = .ok (.getfield 14, 3) := by decide +kernel
theorem dX2_turn_34 : decode cX2_turn 34 = .ok (.aload_n 0, 1) := by decide +kernel
theorem dX2_turn_35 : decode cX2_turn 35 = .ok (.getfield 20, 3) := by decide +kernel
theorem dX2_turn_38 : decode cX2_turn 38 = .ok (.iload_n 1, 1) := by decide +kernel
theorem dX2_turn_39 : decode cX2_turn 39 = .ok (.invokevirtual 135, 3) := by decide +kernel
theorem dX2_turn_42 : decode cX2_turn 42 = .ok (.aload_n 0, 1) := by decide +kernel
theorem dX2_turn_43 : decode cX2_turn 43 = .ok (.invokevirtual 139, 3) := by decide +kernel
theorem dX2_turn_46 : decode cX2_turn 46 = .ok (.istore_n 1, 1) := by decide +kernel
theorem dX2_turn_47 : decode cX2_turn 47 = .ok (.iload_n 1, 1) := by decide +kernel
theorem dX2_turn_48 : decode cX2_turn 48 = .ok (.bipush (-4), 2) := by decide +kernel
theorem dX2_turn_50 : decode cX2_turn 50 = .ok (.if_icmp .ne 8, 3) := by decide +kernel
theorem dX2_turn_53 : decode cX2_turn 53 = .ok (.aload_n 0, 1) := by decide +kernel
theorem dX2_turn_54 : decode cX2_turn 54 = .ok (.invokevirtual 142, 3) := by decide +kernel
theorem dX2_turn_57 : decode cX2_turn 57 = .ok (.istore_n 1, 1) := by decide +kernel
theorem dX2_turn_58 : decode cX2_turn 58 = .ok (.iload_n 1, 1) := by decide +kernel
theorem dX2_turn_59 : decode cX2_turn 59 = .ok (.iconst (-1), 1) := by decide +kernel
theorem dX2_turn_60 : decode cX2_turn 60 = .ok (.if_icmp .ne 9, 3) := by decide +kernel
theorem dX2_turn_63 : decode cX2_turn 63 = .ok (.aload_n 0, 1) := by decide +kernel
theorem dX2_turn_64 : decode cX2_turn 64 = .ok (.iconst 3, 1) := by decide +kernel
theorem dX2_turn_65 : decode cX2_turn 65 = .ok (.putfield 58, 3) := by decide +kernel
theorem dX2_turn_68 : decode cX2_turn 68 = .ok (.return_, 1) := by decide +kernel
theorem dX2_turn_69 : decode cX2_turn 69 = .ok (.aload_n 0, 1) := by decide +kernel
theorem dX2_turn_70 : decode cX2_turn 70 = .ok (.aload_n 0, 1) := by decide +kernel
theorem dX2_turn_71 : decode cX2_turn 71 = .ok (.getfield 20, 3) := by decide +kernel
theorem dX2_turn_74 : decode cX2_turn 74 = .ok (.aload_n 0, 1) := by decide +kernel
theorem dX2_turn_75 : decode cX2_turn 75 = .ok (.getfield 14, 3) := by decide +kernel
theorem dX2_turn_78 : decode cX2_turn 78 = .ok (.iload_n 1, 1) := by decide +kernel
theorem dX2_turn_79 : decode cX2_turn 79 = .ok (.invokevirtual 135, 3) := by decide +kernel
theorem dX2_turn_82 : decode cX2_turn 82 = .ok (.return_, 1) := by decide +kernel
set_option maxRecDepth 100000 in
set_option maxHeartbeats 4000000 in
theorem c_X2_turn_l {hp : List gA} {L : gLn} {J : gJr} {R Lt A m N Bc Bs : Nat} (HL : gLine hp L) (HW : gWire hp 35 (nI R) (nI Lt) (nI A) m) (HJ : gJn hp J) (B0 : gBud hp J Bc Bs) (hc : Bc ≤ 200000) (hs : Bs ≤ 1000000) (hLt : Lt ≤ 999990000) (hR : R ≤ 3) (HP : gJpre N J) (hN : N + 1 ≤ 15000) (hca : L.oc = 0 → 4 ≤ L.ca.length) : gM yX2_turn cX2_turn 2 (none) 6 179 [.ref 20] (hp) (300000 - hp.length) (7000000 - gsz hp) (fun v h => v = none ∧ (∃ (L' : gLn) (Lt' A' m' : Nat) (J' : gJr), gLine h L' ∧ gWire h 35 (nI R) (nI Lt') (nI A') m' ∧ gJn h J' ∧ gBud h J' Bc Bs ∧ gFX hp h J ∧ gAd hp J J' ∧ gTurn L Lt A m J L' Lt' A' m' J')) := by
  refine gM_ofT (ls0 := [some (.ref 20), none]) (by decide +kernel) (Nat.le_of_ble_eq_true rfl) rfl fun X C E h0 => ?_
  have bl0 := gBud.lim B0 HJ.2.2 hc hs
  have K : ∀ (hq : List gA) (q : Int32 × gLn) (cq sq : Nat), gLine hq q.2 → gFL hp hq → q = gRk L → gG X 22 [some (.ref 20), none] [.int q.1] hq cq sq := by
    intro hq q cq sq HLq fq eq
    have sq1 := gLine.same HL HLq fq
    have HWq := HW.l fq
    have HJq : gJn hq J := HJ.d (fun k hk => fq k (by omega))
    have Bq : gBud hq J Bc Bs := gBud.same B0 sq1
    have blq := gBud.lim Bq HJq.2.2 hc hs
    have F1 : gFX hp hq J := gFL.x fq sq1
    refine g_tight h0 B0.1 Bq.1 (fun tc td => ?_)
    refine g_istore_n (q := 23) C dX2_turn_22 (Nat.le_of_ble_eq_true rfl) (by simp only [gset]; rfl) rfl ?_
    refine g_iload_n (q := 24) C dX2_turn_23 rfl rfl ?_
    refine g_iconst (v := (-1)) (q := 25) C dX2_turn_24 (by decide) rfl ?_
    refine g_icmp_ne (t := 29) (q := 28) C dX2_turn_25 (by decide) rfl (fun c_25 => ?_) (fun c_25 => ?_)
    ·
      refine g_aload_n (q := 30) C dX2_turn_29 rfl rfl ?_
      refine g_aload_n (q := 31) C dX2_turn_30 rfl rfl ?_
      refine g_getfield (v := .ref 21) (q := 34) C fX2_14 dX2_turn_31 rfl HLq.1 rfl ?_
      refine g_aload_n (q := 35) C dX2_turn_34 rfl rfl ?_
      refine g_getfield (v := .ref 28) (q := 38) C fX2_20 dX2_turn_35 rfl HLq.1 rfl ?_
      refine g_iload_n (q := 39) C dX2_turn_38 rfl rfl ?_
      refine g_tight h0 B0.1 Bq.1 (fun t1a t1b => ?_)
      refine g_callVvp (q := 42) (As := [.ref 21, .ref 28, .int q.1]) C gyX2_send gvX2_send t_715 (c_X2_send_r_l (L := q.2) (N := N) HLq HWq HJq Bq hc hs (by omega) hR HP (by omega)) dX2_turn_39 rfl HLq.1 rfl rfl rfl (Nat.le_of_ble_eq_true rfl) (Nat.le_of_ble_eq_true rfl) (Nat.le_of_ble_eq_true rfl) (by show _ + _ ≤ 300000 - List.length hp; omega) (by show _ + _ ≤ 7000000 - gsz hp; omega) rfl (fun h2 z2 => ?_)
      obtain ⟨La, Lta, Aa, ma, Ja, HLa, HWa, HJa, Ba, fxa, ada, sna⟩ := z2
      obtain ⟨P2, lt2⟩ := gSent.pre HP (by omega) HLa.2.2.2.1.le.1 sna
      have bla := gBud.lim Ba HJa.2.2 hc hs
      have F2 : gFX hp h2 J := F1.trans gAd.rf fxa
      have AD2 : gAd hp J Ja := gAd.trans gAd.rf ada F1.1
      have hca2 : La.oc = 0 → 4 ≤ La.ca.length := fun h => by rw [sna.whole h]; exact gS4_r _ _
      have K2 : ∀ (hr : List gA) (q2 : Int32 × gLn) (cq sq : Nat), gLine hr q2.2 → gFL h2 hr → q2 = gCk La → gG X 58 [some (.ref 20), some (.int q2.1)] [] hr cq sq := by
        intro hr q2 cq sq HLr f_r er
        have sr1 := gLine.same HLa HLr f_r
        have HWr := HWa.l f_r
        have HJr : gJn hr Ja := HJa.d (fun k hk => f_r k (by omega))
        have Br : gBud hr Ja Bc Bs := gBud.same Ba sr1
        have blr := gBud.lim Br HJr.2.2 hc hs
        have F3 : gFX hp hr J := F2.trans AD2 (gFL.x f_r sr1)
        refine g_tight h0 B0.1 Br.1 (fun te tf => ?_)
        have ne1 : ¬ (gRk L).1 = -1 := eq ▸ c_25
        have sn1 := sna
        rw [eq] at sn1
        refine g_iload_n (q := 59) C dX2_turn_58 rfl rfl ?_
        refine g_iconst (v := (-1)) (q := 60) C dX2_turn_59 (by decide) rfl ?_
        refine g_icmp_ne (t := 69) (q := 63) C dX2_turn_60 (by decide) rfl (fun c_60 => ?_) (fun c_60 => ?_)
        ·
          refine g_aload_n (q := 70) C dX2_turn_69 rfl rfl ?_
          refine g_aload_n (q := 71) C dX2_turn_70 rfl rfl ?_
          refine g_getfield (v := .ref 28) (q := 74) C fX2_20 dX2_turn_71 rfl HLr.1 rfl ?_
          refine g_aload_n (q := 75) C dX2_turn_74 rfl rfl ?_
          refine g_getfield (v := .ref 21) (q := 78) C fX2_14 dX2_turn_75 rfl HLr.1 rfl ?_
          refine g_iload_n (q := 79) C dX2_turn_78 rfl rfl ?_
          refine g_tight h0 B0.1 Br.1 (fun t3a t3b => ?_)
          refine g_callVvp (q := 82) (As := [.ref 28, .ref 21, .int q2.1]) C gyX2_send gvX2_send t_715 (c_X2_send_c_l (L := q2.2) (N := N + 1) HLr HWr HJr Br hc hs (by omega) hR P2 (by omega)) dX2_turn_79 rfl HLr.1 rfl rfl rfl (Nat.le_of_ble_eq_true rfl) (Nat.le_of_ble_eq_true rfl) (Nat.le_of_ble_eq_true rfl) (by show _ + _ ≤ 300000 - List.length hp; omega) (by show _ + _ ≤ 7000000 - gsz hp; omega) rfl (fun h4 z4 => ?_)
          obtain ⟨Lb, Ltb, Ab, mb, Jb, HLb, HWb, HJb, Bb, fxb, adb, snb⟩ := z4
          exact E.2.1 _ _ _ _ _ dX2_turn_82 rfl (by omega) (by omega) ⟨rfl, Lb, Ltb, Ab, mb, Jb, HLb, HWb, HJb, Bb, F3.trans AD2 fxb, gAd.trans AD2 adb F3.1, Or.inr ⟨ne1, La, Lta, Aa, ma, Ja, sn1, Or.inr ⟨er ▸ c_60, by rw [← er]; exact snb⟩⟩⟩
        ·
          refine g_aload_n (q := 64) C dX2_turn_63 rfl rfl ?_
          refine g_iconst (v := 3) (q := 65) C dX2_turn_64 (by decide) rfl ?_
          refine g_putfield (q := 68) C fX2_58 dX2_turn_65 rfl HLr.1 (Nat.le_of_ble_eq_true rfl) (Or.inl rfl) rfl rfl (by intro z h; cases h) ?_
          refine gLput (k := 5) (x := 3) HLr rfl fun h5 HL5 fr5 => ?_
          have s9 := gLine.same HLr HL5 fr5
          exact E.2.1 _ _ _ _ _ dX2_turn_68 rfl (by omega) (by omega) ⟨rfl, _, Lta, Aa, ma, Ja, HL5, HWr.l fr5, HJr.d (fun k hk => fr5 k (by omega)), gBud.same Br s9, F3.trans AD2 (gFL.x fr5 s9), AD2, Or.inr ⟨ne1, La, Lta, Aa, ma, Ja, sn1, Or.inl ⟨er ▸ c_60, by rw [← er], rfl, rfl, rfl, rfl⟩⟩⟩
      refine g_aload_n (q := 43) C dX2_turn_42 rfl rfl ?_
      refine g_callVix (x := (rX2_cardKind La).1) (q := 46) (As := []) C gyX2_cardKind gvX2_cardKind t_800 (c_X2_cardKind_l HLa hca2) dX2_turn_43 rfl HLa.1 rfl rfl rfl (Nat.le_of_ble_eq_true rfl) (Nat.le_of_ble_eq_true rfl) (Nat.le_of_ble_eq_true rfl) (by show _ + _ ≤ 300000 - List.length hp; omega) (by show _ + _ ≤ 7000000 - gsz hp; omega) rfl (fun h6 z6 => ?_)
      obtain ⟨HL6, fr6⟩ := z6
      refine g_istore_n (q := 47) C dX2_turn_46 (Nat.le_of_ble_eq_true rfl) (by simp only [gset]; rfl) rfl ?_
      refine g_iload_n (q := 48) C dX2_turn_47 rfl rfl ?_
      refine g_bipush (v := (-4)) (q := 50) C dX2_turn_48 (by decide) rfl ?_
      refine g_icmp_ne (t := 58) (q := 53) C dX2_turn_50 (by decide) rfl (fun c_50 => ?_) (fun c_50 => ?_)
      ·
        exact K2 _ _ _ _ HL6 fr6 (by unfold gCk; rw [if_neg c_50])
      ·
        refine g_aload_n (q := 54) C dX2_turn_53 rfl rfl ?_
        refine g_callVix (x := (rX2_doMessage (rX2_cardKind La).2).1) (q := 57) (As := []) C gyX2_doMessage gvX2_doMessage t_816 (c_X2_doMessage_l HL6) dX2_turn_54 rfl HL6.1 rfl rfl rfl (Nat.le_of_ble_eq_true rfl) (Nat.le_of_ble_eq_true rfl) (Nat.le_of_ble_eq_true rfl) (by show _ + _ ≤ 300000 - List.length hp; omega) (by show _ + _ ≤ 7000000 - gsz hp; omega) rfl (fun h7 z7 => ?_)
        obtain ⟨HL7, fr7⟩ := z7
        refine g_istore_n (q := 58) C dX2_turn_57 (Nat.le_of_ble_eq_true rfl) (by simp only [gset]; rfl) rfl ?_
        exact K2 _ _ _ _ HL7 (gFL.trans fr6 fr7) (by unfold gCk; rw [if_pos c_50])
      
    ·
      exact E.2.1 _ _ _ _ _ dX2_turn_28 rfl (by omega) (by omega) ⟨rfl, q.2, Lt, A, m, J, HLq, HWq, HJq, Bq, F1, gAd.rf, Or.inl ⟨eq ▸ c_25, by rw [eq], rfl, rfl, rfl, rfl⟩⟩
  refine g_aload_n (q := 1) C dX2_turn_0 rfl rfl ?_
  refine g_getfield (v := .int L.ft) (q := 4) C fX2_61 dX2_turn_1 rfl HL.1 rfl ?_
  refine g_if_eq (t := 14) (q := 7) C dX2_turn_4 (by decide) rfl (fun c_4 => ?_) (fun c_4 => ?_)
  ·
    refine g_aload_n (q := 15) C dX2_turn_14 rfl rfl ?_
    refine g_aload_n (q := 16) C dX2_turn_15 rfl rfl ?_
    refine g_callVix (x := (rX2_readerKind L).1) (q := 19) (As := []) C gyX2_readerKind gvX2_readerKind t_631 (c_X2_readerKind_l HL hca) dX2_turn_16 rfl HL.1 rfl rfl rfl (Nat.le_of_ble_eq_true rfl) (Nat.le_of_ble_eq_true rfl) (Nat.le_of_ble_eq_true rfl) (by show _ + _ ≤ 300000 - List.length hp; omega) (by show _ + _ ≤ 7000000 - gsz hp; omega) rfl (fun h8 z8 => ?_)
    obtain ⟨HL8, fr8⟩ := z8
    refine g_callVix (x := (rX2_countTries (rX2_readerKind L).2 ((rX2_readerKind L).1)).1) (q := 22) (As := [.int ((rX2_readerKind L).1)]) C gyX2_countTries gvX2_countTries t_711 (c_X2_countTries_l HL8) dX2_turn_19 rfl HL8.1 rfl rfl rfl (Nat.le_of_ble_eq_true rfl) (Nat.le_of_ble_eq_true rfl) (Nat.le_of_ble_eq_true rfl) (by show _ + _ ≤ 300000 - List.length hp; omega) (by show _ + _ ≤ 7000000 - gsz hp; omega) rfl (fun h9 z9 => ?_)
    obtain ⟨HL9, fr9⟩ := z9
    exact K _ _ _ _ HL9 (gFL.trans fr8 fr9) (by unfold gRk; rw [if_pos c_4])
  ·
    refine g_aload_n (q := 8) C dX2_turn_7 rfl rfl ?_
    refine g_callVix (x := (rX2_firstKind L).1) (q := 11) (As := []) C gyX2_firstKind gvX2_firstKind t_619 (c_X2_firstKind_l HL) dX2_turn_8 rfl HL.1 rfl rfl rfl (Nat.le_of_ble_eq_true rfl) (Nat.le_of_ble_eq_true rfl) (Nat.le_of_ble_eq_true rfl) (by show _ + _ ≤ 300000 - List.length hp; omega) (by show _ + _ ≤ 7000000 - gsz hp; omega) rfl (fun h10 z10 => ?_)
    obtain ⟨HL10, fr10⟩ := z10
    refine g_goto (q := 22) C dX2_turn_11 (by decide) ?_
    exact K _ _ _ _ HL10 fr10 (by unfold gRk; rw [if_neg c_4])
