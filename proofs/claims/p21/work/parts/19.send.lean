/-! Line.send (by program: wip/p1/m_send.py) -/
def gFD (hp h : List gA) : Prop := ∀ k, (k < 20 ∨ 43 ≤ k) → h[k]? = hp[k]?
def gFX (hp h : List gA) (J : gJr) : Prop := hp.length ≤ h.length ∧ ∀ k, k < hp.length → (k < 3 ∨ 43 ≤ k) → (∀ i, i < 8 → k ≠ J.ad i) → h[k]? = hp[k]?
theorem gFX.rf {hp : List gA} {J : gJr} : gFX hp hp J := ⟨Nat.le_refl _, fun _ _ _ _ => rfl⟩
theorem gFX.trans {hp h h' : List gA} {J J' : gJr} (a : gFX hp h J) (ad : gAd hp J J') (b : gFX h h' J') : gFX hp h' J :=
  ⟨Nat.le_trans a.1 b.1, fun k hk h1 h2 => (b.2 k (Nat.lt_of_lt_of_le hk a.1) h1 (fun i hi => by
    rcases ad i hi with e | e
    · rw [e]; exact h2 i hi
    · omega)).trans (a.2 k hk h1 h2)⟩
theorem gFD.x {hp h : List gA} {J : gJr} (f : gFD hp h) (s : gSame hp h) : gFX hp h J := ⟨Nat.le_of_eq s.1.symm, fun k _ h1 _ => f k (by omega)⟩
theorem gFL.x {hp h : List gA} {J : gJr} (f : gFL hp h) (s : gSame hp h) : gFX hp h J := ⟨Nat.le_of_eq s.1.symm, fun k _ h1 _ => f k (by omega)⟩
theorem gFG.x {hp h : List gA} {J : gJr} (f : gFG hp h J) : gFX hp h J := ⟨f.1, fun k hk h1 h2 => f.2 k hk (by omega) (fun i hi => ⟨by omega, h2 i hi⟩)⟩
theorem gSide.same {hp h : List gA} {o : Nat} {num : Int32} {s s' : gSd} (H : gSide hp o num s) (H' : gSide h o num s') (k : Nat) (hk : o ≤ k ∧ k < o + 7) : ∃ e e', hp[k]? = some e ∧ h[k]? = some e' ∧ gcs e' = gcs e ∧ e' ≠ gJunk := by
  by_cases h0 : k = o
  · subst h0; exact ⟨_, _, H.1, H'.1, rfl, gJ4 (by decide)⟩
  · by_cases h1 : k = o + 1 ∨ k = o + 2
    · exact H.2.1.g.same H'.2.1.g k h1
    · by_cases h2 : k = o + 3 ∨ k = o + 4
      · exact H.2.2.1.g.same H'.2.2.1.g k h2
      · exact H.2.2.2.g.same H'.2.2.2.g k (by omega)
theorem gLine.same {hp h : List gA} {L L' : gLn} (H : gLine hp L) (H' : gLine h L') (f : gFL hp h) : gSame hp h := by
  refine gSame.of fun k => ?_
  by_cases h0 : k = 20
  · subst h0; exact Or.inr ⟨_, _, H.1, H'.1, rfl, gJ4 (by decide)⟩
  · by_cases h1 : 21 ≤ k ∧ k < 28
    · exact Or.inr (H.2.1.same H'.2.1 k h1)
    · by_cases h2 : 28 ≤ k ∧ k < 35
      · exact Or.inr (H.2.2.1.same H'.2.2.1 k h2)
      · by_cases h3 : k = 39 ∨ k = 40
        · exact Or.inr (H.2.2.2.1.g.same H'.2.2.2.1.g k h3)
        · by_cases h4 : k = 41 ∨ k = 42
          · exact Or.inr (H.2.2.2.2.g.same H'.2.2.2.2.g k h4)
          · exact Or.inl (f k (by omega))
theorem gWire.same {hp h : List gA} {w : Nat} {re le ag re' le' ag' : Int32} {m m' : Nat} (H : gWire hp w re le ag m) (H' : gWire h w re' le' ag' m') (k : Nat) (hk : w ≤ k ∧ k < w + 4) : ∃ e e', hp[k]? = some e ∧ h[k]? = some e' ∧ gcs e' = gcs e ∧ e' ≠ gJunk := by
  obtain ⟨fl, fk, fb, pk, bn, a1, a2, a3, a4, -⟩ := H
  obtain ⟨fl', fk', fb', pk', bn', b1, b2, b3, b4, -⟩ := H'
  have : k = w ∨ k = w + 1 ∨ k = w + 2 ∨ k = w + 3 := by omega
  rcases this with rfl | rfl | rfl | rfl
  · exact ⟨_, _, a1, b1, rfl, gJ4 (by decide)⟩
  · exact ⟨_, _, a2, b2, rfl, gJ2⟩
  · exact ⟨_, _, a3, b3, rfl, gJ2⟩
  · exact ⟨_, _, a4, b4, rfl, gJ2⟩
theorem gJn.d {hp h : List gA} {J : gJr} (H : gJn hp J) (f : ∀ k, (3 ≤ k ∧ k < 20 ∨ 122 ≤ k) → h[k]? = hp[k]?) : gJn h J :=
  ⟨(f 3 (by omega)).trans H.1, fun k hk => (H.2.1 k hk).kept (f _ (by omega)) (f _ (by have := H.2.2.ad hk; omega)), H.2.2⟩
theorem gWire.l {hp h : List gA} {re le ag : Int32} {m : Nat} (H : gWire hp 35 re le ag m) (f : gFL hp h) : gWire h 35 re le ag m := H.kept (fun k a b => f k (by omega))
theorem gFG.old {hp h : List gA} {J : gJr} (f : gFG hp h J) (D : gJD J) {k : Nat} (hk : 20 ≤ k ∧ k < 122) (hl : 122 ≤ hp.length) : h[k]? = hp[k]? := f.2 k (by omega) (by omega) (fun i hi => ⟨by omega, by have := D.ad hi; omega⟩)
theorem gcarry {hp h : List gA} {L : gLn} {re le ag re' le' ag' : Int32} {m m' : Nat} {l1 : List Int32} (HL : gLine hp L) (HW : gWire hp 35 re le ag m) (HW' : gWire h 35 re' le' ag' m') (HC : gRw h 41 42 64 l1) (fr : gFC hp h 35 41 42) : gLine h (L.row 1 l1) ∧ gSame hp h ∧ gFD hp h := by
  have f : ∀ k, (k < 35 ∨ 39 ≤ k) → k ≠ 41 → k ≠ 42 → h[k]? = hp[k]? := fun k h1 h2 h3 => fr k (by omega) h2 h3
  refine ⟨⟨(f 20 (by omega) (by omega) (by omega)).trans HL.1, HL.2.1.kept (fun k a b => f k (by omega) (by omega) (by omega)), HL.2.2.1.kept (fun k a b => f k (by omega) (by omega) (by omega)), HL.2.2.2.1.kept (f 39 (by omega) (by omega) (by omega)) (f 40 (by omega) (by omega) (by omega)), HC⟩, gSame.of fun k => ?_, fun k hk => f k (by omega) (by omega) (by omega)⟩
  by_cases h0 : 35 ≤ k ∧ k < 39
  · exact Or.inr (HW.same HW' k h0)
  · by_cases h1 : k = 41 ∨ k = 42
    · exact Or.inr (HL.2.2.2.2.g.same HC.g k h1)
    · exact Or.inl (f k (by omega) (by omega) (by omega))
def gJpre (N : Nat) (J : gJr) : Prop := (J.l 1).length ≤ N ∧ (J.l 2).length = (J.l 1).length ∧ (J.l 3).length = (J.l 1).length ∧ (J.l 0).length ≤ 65 * (J.l 1).length ∧ (J.l 4).length ≤ 256 ∧ (∀ i, i < (J.l 4).length → gOk J (gat (J.l 4) (nI i))) ∧ (∀ i, i < (J.l 1).length → gOk J (gat (J.l 3) (nI i))) ∧ (J.l 6).length = (J.l 5).length ∧ (J.l 7).length = (J.l 5).length
def gSent (L3 : gLn) (num ro : Int32) (L' : gLn) (Lt Lt' A A' m m' : Nat) (J J' : gJr) : Prop :=
  ∃ (y : Int32) (l1 : List Int32), (A' + Lt + L3.bl.length = A + Lt' ∧ A ≤ A') ∧ Lt' ≤ Lt + 4 * L3.bl.length ∧ m' ≤ m ∧ (y = 0 ∧ l1 = L3.bl ∨ y = 1 ∧ l1 = L3.bl ∧ m' < m ∨ (y = 2 ∨ y = 3) ∧ m' < m) ∧ L' = (L3.row 1 l1).set 5 (rX2_judge (L3.row 1 l1) y ro) ∧ ∃ (J1 : gJr) (xid : Int32), gJid J J1 num L3.bl xid ∧ J' = jX1_note J1 xid L'.oc (nI (Lt' - Lt))
/-- the latest and their like stay as they are where an id is found -/
theorem gJid.len {J J1 : gJr} {y x : Int32} {b : List Int32} (H : gJid J J1 y b x) : ∀ i, 5 ≤ i → J1.l i = J.l i := by
  intro i hi
  rcases H with ⟨e, -⟩ | ⟨-, k, -, e⟩
  · rw [e]; exact if_neg (by omega)
  · rw [e.2.2.2.2.2.2 i hi]; exact if_neg (by omega)
theorem gcl_r (L : gLn) (x : Int32) : 1 ≤ (rX2_compose_r L x).bl.length := by
  unfold rX2_compose_r
  repeat' split
  all_goals (first | (show 1 ≤ (List.take 64 _).length; rw [List.length_take, List.length_append]; simp; omega) | (show 1 ≤ (_ :: _ : List Int32).length; simp))
theorem gcl_c (L : gLn) (x : Int32) : 1 ≤ (rX2_compose_c L x).bl.length := by
  unfold rX2_compose_c
  repeat' split
  all_goals (first | (show 1 ≤ (List.take 64 _).length; rw [List.length_take, List.length_append]; simp; omega) | (show 1 ≤ (_ :: _ : List Int32).length; simp))
theorem gnote_ad (J : gJr) (x y z : Int32) : (jX1_note J x y z).2.2 = J.2.2 := by
  unfold jX1_note
  repeat' split
  all_goals rfl
def gS3_r (L : gLn) (x : Int32) : gLn := ((rX2_compose_r (rX2_kindToSend_r L x).2 (rX2_kindToSend_r L x).1).side 0 (((rX2_compose_r (rX2_kindToSend_r L x).2 (rX2_kindToSend_r L x).1).rd.set 9 (rX2_kindToSend_r L x).1).set 10 ((rX2_compose_r (rX2_kindToSend_r L x).2 (rX2_kindToSend_r L x).1).rd.se + 1)))
theorem dX2_send_0 : decode cX2_send 0 = .ok (.aload_n 1, 1) := by decide +kernel
theorem dX2_send_1 : decode cX2_send 1 = .ok (.aload_n 2, 1) := by decide +kernel
theorem dX2_send_2 : decode cX2_send 2 = .ok (.iload_n 3, 1) := by decide +kernel
theorem dX2_send_3 : decode cX2_send 3 = .ok (.invokestatic 247, 3) := by decide +kernel
theorem dX2_send_6 : decode cX2_send 6 = .ok (.istore 4, 2) := by decide +kernel
theorem dX2_send_8 : decode cX2_send 8 = .ok (.aload_n 0, 1) := by decide +kernel
theorem dX2_send_9 : decode cX2_send 9 = .ok (.aload_n 1, 1) := by decide +kernel
theorem dX2_send_10 : decode cX2_send 10 = .ok (.iload 4, 2) := by decide +kernel
theorem dX2_send_12 : decode cX2_send 12 = .ok (.invokevirtual 250, 3) := by decide +kernel
theorem dX2_send_15 : decode cX2_send 15 = .ok (.aload_n 1, 1) := by decide +kernel
theorem dX2_send_16 : decode cX2_send 16 = .ok (.iload 4, 2) := by decide +kernel
theorem dX2_send_18 : decode cX2_send 18 = .ok (.invokevirtual 254, 3) := by decide +kernel
theorem dX2_send_21 : decode cX2_send 21 = .ok (.aload_n 0, 1) := by decide +kernel
theorem dX2_send_22 : decode cX2_send 22 = .ok (.getfield 26, 3) := by decide +kernel
theorem dX2_send_25 : decode cX2_send 25 = .ok (.getfield 257, 3) := by decide +kernel
theorem dX2_send_28 : decode cX2_send 28 = .ok (.istore 5, 2) := by decide +kernel
theorem dX2_send_30 : decode cX2_send 30 = .ok (.aload_n 0, 1) := by decide +kernel
theorem dX2_send_31 : decode cX2_send 31 = .ok (.getfield 26, 3) := by decide +kernel
theorem dX2_send_34 : decode cX2_send 34 = .ok (.aload_n 0, 1) := by decide +kernel
theorem dX2_send_35 : decode cX2_send 35 = .ok (.getfield 51, 3) := by decide +kernel
theorem dX2_send_38 : decode cX2_send 38 = .ok (.aload_n 0, 1) := by decide +kernel
theorem dX2_send_39 : decode cX2_send 39 = .ok (.getfield 55, 3) := by decide +kernel
theorem dX2_send_42 : decode cX2_send 42 = .ok (.invokevirtual 260, 3) := by decide +kernel
theorem dX2_send_45 : decode cX2_send 45 = .ok (.istore 6, 2) := by decide +kernel
theorem dX2_send_47 : decode cX2_send 47 = .ok (.aload_n 0, 1) := by decide +kernel
theorem dX2_send_48 : decode cX2_send 48 = .ok (.aload_n 0, 1) := by decide +kernel
theorem dX2_send_49 : decode cX2_send 49 = .ok (.iload 6, 2) := by decide +kernel
theorem dX2_send_51 : decode cX2_send 51 = .ok (.aload_n 2, 1) := by decide +kernel
theorem dX2_send_52 : decode cX2_send 52 = .ok (.getfield 115, 3) := by decide +kernel
theorem dX2_send_55 : decode cX2_send 55 = .ok (.invokevirtual 264, 3) := by decide +kernel
theorem dX2_send_58 : decode cX2_send 58 = .ok (.putfield 58, 3) := by decide +kernel
theorem dX2_send_61 : decode cX2_send 61 = .ok (.aload_n 0, 1) := by decide +kernel
theorem dX2_send_62 : decode cX2_send 62 = .ok (.getfield 80, 3) := by decide +kernel
theorem dX2_send_65 : decode cX2_send 65 = .ok (.ifnull 39, 3) := by decide +kernel
theorem dX2_send_68 : decode cX2_send 68 = .ok (.aload_n 0, 1) := by decide +kernel
theorem dX2_send_69 : decode cX2_send 69 = .ok (.getfield 80, 3) := by decide +kernel
theorem dX2_send_72 : decode cX2_send 72 = .ok (.aload_n 0, 1) := by decide +kernel
theorem dX2_send_73 : decode cX2_send 73 = .ok (.getfield 80, 3) := by decide +kernel
theorem dX2_send_76 : decode cX2_send 76 = .ok (.aload_n 1, 1) := by decide +kernel
theorem dX2_send_77 : decode cX2_send 77 = .ok (.getfield 267, 3) := by decide +kernel
theorem dX2_send_80 : decode cX2_send 80 = .ok (.aload_n 0, 1) := by decide +kernel
theorem dX2_send_81 : decode cX2_send 81 = .ok (.getfield 51, 3) := by decide +kernel
theorem dX2_send_84 : decode cX2_send 84 = .ok (.invokevirtual 270, 3) := by decide +kernel
theorem dX2_send_87 : decode cX2_send 87 = .ok (.aload_n 0, 1) := by decide +kernel
theorem dX2_send_88 : decode cX2_send 88 = .ok (.getfield 58, 3) := by decide +kernel
theorem dX2_send_91 : decode cX2_send 91 = .ok (.aload_n 0, 1) := by decide +kernel
theorem dX2_send_92 : decode cX2_send 92 = .ok (.getfield 26, 3) := by decide +kernel
theorem dX2_send_95 : decode cX2_send 95 = .ok (.getfield 257, 3) := by decide +kernel
theorem dX2_send_98 : decode cX2_send 98 = .ok (.iload 5, 2) := by decide +kernel
theorem dX2_send_100 : decode cX2_send 100 = .ok (.isub, 1) := by decide +kernel
theorem dX2_send_101 : decode cX2_send 101 = .ok (.invokevirtual 276, 3) := by decide +kernel
theorem dX2_send_104 : decode cX2_send 104 = .ok (.return_, 1) := by decide +kernel
set_option maxRecDepth 100000 in
set_option maxHeartbeats 4000000 in
theorem c_X2_send_r_l {hp : List gA} {L : gLn} {x : Int32} {J : gJr} {R Lt A m N Bc Bs : Nat} (HL : gLine hp L) (HW : gWire hp 35 (nI R) (nI Lt) (nI A) m) (HJ : gJn hp J) (B0 : gBud hp J Bc Bs) (hc : Bc ≤ 200000) (hs : Bs ≤ 1000000) (hLt : Lt ≤ 1000000000) (hR : R ≤ 3) (HP : gJpre N J) (hN : N ≤ 15000) : gM yX2_send cX2_send 7 (none) 5 153 [.ref 20, .ref 21, .ref 28, .int x] (hp) (300000 - hp.length) (7000000 - gsz hp) (fun v h => v = none ∧ (∃ (L' : gLn) (Lt' A' m' : Nat) (J' : gJr), gLine h L' ∧ gWire h 35 (nI R) (nI Lt') (nI A') m' ∧ gJn h J' ∧ gBud h J' Bc Bs ∧ gFX hp h J ∧ gAd hp J J' ∧ gSent (gS3_r L x) 0 (gS3_r L x).cd.ro L' Lt Lt' A A' m m' J J')) := by
  refine gM_ofT (ls0 := [some (.ref 20), some (.ref 21), some (.ref 28), some (.int x), none, none, none]) (by decide +kernel) (Nat.le_of_ble_eq_true rfl) rfl fun X C E h0 => ?_
  have bl0 := gBud.lim B0 HJ.2.2 hc hs
  obtain ⟨hp1, hp2, hp3, hp4, -⟩ := id HP
  refine g_aload_n (q := 1) C dX2_send_0 rfl rfl ?_
  refine g_aload_n (q := 2) C dX2_send_1 rfl rfl ?_
  refine g_iload_n (q := 3) C dX2_send_2 rfl rfl ?_
  refine g_callSix (x := (rX2_kindToSend_r L x).1) (q := 6) (As := [.ref 21, .ref 28, .int x]) C gyX2_kindToSend t_720 t_719 (c_X2_kindToSend_r_l HL) dX2_send_3 rfl rfl rfl (Nat.le_of_ble_eq_true rfl) (Nat.le_of_ble_eq_true rfl) (Nat.le_of_ble_eq_true rfl) (by show _ + _ ≤ 300000 - List.length hp; omega) (by show _ + _ ≤ 7000000 - gsz hp; omega) rfl (fun h1 z1 => ?_)
  obtain ⟨HL1, fr1⟩ := z1
  refine g_istore (q := 8) C dX2_send_6 (Nat.le_of_ble_eq_true rfl) (by simp only [gset]; rfl) rfl ?_
  refine g_aload_n (q := 9) C dX2_send_8 rfl rfl ?_
  refine g_aload_n (q := 10) C dX2_send_9 rfl rfl ?_
  refine g_iload (q := 12) C dX2_send_10 rfl rfl ?_
  refine g_callVvp (q := 15) (As := [.ref 21, .int ((rX2_kindToSend_r L x).1)]) C gyX2_compose gvX2_compose t_729 (c_X2_compose_r_l HL1) dX2_send_12 rfl HL1.1 rfl rfl rfl (Nat.le_of_ble_eq_true rfl) (Nat.le_of_ble_eq_true rfl) (Nat.le_of_ble_eq_true rfl) (by show _ + _ ≤ 300000 - List.length hp; omega) (by show _ + _ ≤ 7000000 - gsz hp; omega) rfl (fun h2 z2 => ?_)
  obtain ⟨HL2, fr2⟩ := z2
  refine g_aload_n (q := 16) C dX2_send_15 rfl rfl ?_
  refine g_iload (q := 18) C dX2_send_16 rfl rfl ?_
  refine g_callVvp (q := 21) (As := [.int ((rX2_kindToSend_r L x).1)]) C gyX5_noteSent gvX5_noteSent t_746 (c_X5_noteSent_s HL2.2.1) dX2_send_18 rfl HL2.2.1.1 rfl rfl rfl (Nat.le_of_ble_eq_true rfl) (Nat.le_of_ble_eq_true rfl) (Nat.le_of_ble_eq_true rfl) (by show _ + _ ≤ 300000 - List.length hp; omega) (by show _ + _ ≤ 7000000 - gsz hp; omega) rfl (fun h3 z3 => ?_)
  obtain ⟨HL3, fr3⟩ := gLine.rd_ HL2 z3
  have e3 : ((rX2_compose_r (rX2_kindToSend_r L x).2 ((rX2_kindToSend_r L x).1)).side 0 (((rX2_compose_r (rX2_kindToSend_r L x).2 ((rX2_kindToSend_r L x).1)).rd.set 9 ((rX2_kindToSend_r L x).1)).set 10 ((rX2_compose_r (rX2_kindToSend_r L x).2 ((rX2_kindToSend_r L x).1)).rd.se + 1))) = gS3_r L x := rfl
  rw [e3] at HL3
  have hb1 : 1 ≤ (gS3_r L x).bl.length := gcl_r _ _
  have hb2 : (gS3_r L x).bl.length ≤ 64 := HL3.2.2.2.1.le.1
  obtain ⟨L3, hL3⟩ : ∃ L3, L3 = gS3_r L x := ⟨_, rfl⟩
  rw [← hL3] at HL3 hb1 hb2
  have fA : gFL hp h3 := (gFL.trans (gFL.trans fr1 fr2) fr3)
  have sA := gLine.same HL HL3 fA
  have HW1 := HW.l fA
  have HJ1 : gJn h3 J := HJ.d (fun k hk => fA k (by omega))
  have B1 : gBud h3 J Bc Bs := gBud.same B0 sA
  obtain ⟨fl, fk, fb, pk, bn, hw, -⟩ := id HW1
  refine g_aload_n (q := 22) C dX2_send_21 rfl rfl ?_
  refine g_getfield (v := .ref 35) (q := 25) C fX2_26 dX2_send_22 rfl HL3.1 rfl ?_
  refine g_getfield (v := .int ((nI Lt))) (q := 28) C fX2_257 dX2_send_25 rfl hw rfl ?_
  refine g_istore (q := 30) C dX2_send_28 (Nat.le_of_ble_eq_true rfl) (by simp only [gset]; rfl) rfl ?_
  refine g_aload_n (q := 31) C dX2_send_30 rfl rfl ?_
  refine g_getfield (v := .ref 35) (q := 34) C fX2_26 dX2_send_31 rfl HL3.1 rfl ?_
  refine g_aload_n (q := 35) C dX2_send_34 rfl rfl ?_
  refine g_getfield (v := .ref 39) (q := 38) C fX2_51 dX2_send_35 rfl HL3.1 rfl ?_
  refine g_aload_n (q := 39) C dX2_send_38 rfl rfl ?_
  refine g_getfield (v := .ref 41) (q := 42) C fX2_55 dX2_send_39 rfl HL3.1 rfl ?_
  refine g_callVip (q := 45) (As := [.ref 39, .ref 41]) C gyX6_carry gvX6_carry t_750 (c_X6_carry_w (L := Lt) (A := A) (H := HW1) (HB := HL3.2.2.2.1) (HC := HL3.2.2.2.2) (hln := hb2) (hl1 := hb1) (hL := by omega) (hR := hR) (d1 := by decide) (d2 := by decide) (d3 := by decide) (d4 := by decide) (e1 := by decide) (e2 := by decide) (e3 := by decide) (e4 := by decide)) dX2_send_42 rfl hw rfl rfl rfl (Nat.le_of_ble_eq_true rfl) (Nat.le_of_ble_eq_true rfl) (Nat.le_of_ble_eq_true rfl) (by show _ + _ ≤ 300000 - List.length hp; omega) (by show _ + _ ≤ 7000000 - gsz hp; omega) rfl (fun x4 h4 z4 => ?_)
  obtain ⟨Lt1, A1, m1, l1, HW2, HC2, eA, eL, em, ey, fr2⟩ := z4
  obtain ⟨HL4, s4, f4⟩ := gcarry HL3 HW1 HW2 HC2 fr2
  have HJ4 : gJn h4 J := HJ1.d (fun k hk => f4 k (by omega))
  have B4 : gBud h4 J Bc Bs := gBud.same B1 s4
  refine g_istore (q := 47) C dX2_send_45 (Nat.le_of_ble_eq_true rfl) (by simp only [gset]; rfl) rfl ?_
  refine g_aload_n (q := 48) C dX2_send_47 rfl rfl ?_
  refine g_aload_n (q := 49) C dX2_send_48 rfl rfl ?_
  refine g_iload (q := 51) C dX2_send_49 rfl rfl ?_
  refine g_aload_n (q := 52) C dX2_send_51 rfl rfl ?_
  refine g_getfield (v := .int ((L3.row 1 l1).cd.ro)) (q := 55) C fX2_115 dX2_send_52 rfl HL4.2.2.1.1 rfl ?_
  refine g_callVi (x := (rX2_judge (L3.row 1 l1) x4 ((L3.row 1 l1).cd.ro))) (q := 58) (As := [.int x4, .int ((L3.row 1 l1).cd.ro)]) C gyX2_judge gvX2_judge t_766 (c_X2_judge_l HL4) dX2_send_55 rfl HL4.1 rfl rfl rfl (Nat.le_of_ble_eq_true rfl) (Nat.le_of_ble_eq_true rfl) (Nat.le_of_ble_eq_true rfl) (by show _ + _ ≤ 300000 - List.length hp; omega) (by show _ + _ ≤ 7000000 - gsz hp; omega) rfl ?_
  refine g_putfield (q := 61) C fX2_58 dX2_send_58 rfl HL4.1 (Nat.le_of_ble_eq_true rfl) (Or.inl rfl) rfl rfl (by intro z h; cases h) ?_
  refine gLput (k := 5) (x := (rX2_judge (L3.row 1 l1) x4 ((L3.row 1 l1).cd.ro))) HL4 rfl fun h5 HL5 fr5 => ?_
  have s5 := gLine.same HL4 HL5 fr5
  have HW5 := HW2.l fr5
  have HJ5 : gJn h5 J := HJ4.d (fun k hk => fr5 k (by omega))
  have B5 : gBud h5 J Bc Bs := gBud.same B4 s5
  have F5 : gFX hp h5 J := ((gFL.x fA sA).trans gAd.rf (gFD.x f4 s4)).trans gAd.rf (gFL.x fr5 s5)
  obtain ⟨L5, hL5⟩ : ∃ L5, L5 = ((L3.row 1 l1).set 5 (rX2_judge (L3.row 1 l1) x4 ((L3.row 1 l1).cd.ro))) := ⟨_, rfl⟩
  rw [← hL5] at HL5
  have hb5 : L5.bl = L3.bl := by rw [hL5]; rfl
  have HB5 : gRw h5 39 40 64 L3.bl := hb5 ▸ HL5.2.2.2.1
  have bl5 := gBud.lim B5 HJ5.2.2 hc hs
  refine g_aload_n (q := 62) C dX2_send_61 rfl rfl ?_
  refine g_getfield (v := .ref 3) (q := 65) C fX2_80 dX2_send_62 rfl HL5.1 rfl ?_
  refine g_ifnull (q := 68) C dX2_send_65 rfl ?_
  refine g_aload_n (q := 69) C dX2_send_68 rfl rfl ?_
  refine g_getfield (v := .ref 3) (q := 72) C fX2_80 dX2_send_69 rfl HL5.1 rfl ?_
  refine g_aload_n (q := 73) C dX2_send_72 rfl rfl ?_
  refine g_getfield (v := .ref 3) (q := 76) C fX2_80 dX2_send_73 rfl HL5.1 rfl ?_
  refine g_aload_n (q := 77) C dX2_send_76 rfl rfl ?_
  refine g_getfieldW (v := .int 0) (q := 80) C fX2_267 dX2_send_77 rfl HL5.2.1.1 rfl ?_
  refine g_aload_n (q := 81) C dX2_send_80 rfl rfl ?_
  refine g_getfield (v := .ref 39) (q := 84) C fX2_51 dX2_send_81 rfl HL5.1 rfl ?_
  refine g_tight h0 B0.1 B5.1 (fun t6a t6b => ?_)
  refine g_callVip (q := 87) (As := [.int 0, .ref 39]) C gyX1_idOf gvX1_idOf t_774 (c_X1_idOf_j HJ5 B5 hc hs HB5 hb1 (by omega) (by omega) (by omega) (by omega) HP.2.2.2.2.1 HP.2.2.2.2.2.1 HP.2.2.2.2.2.2.1) dX2_send_84 rfl HJ5.1 rfl rfl rfl (Nat.le_of_ble_eq_true rfl) (Nat.le_of_ble_eq_true rfl) (Nat.le_of_ble_eq_true rfl) (by show _ + _ ≤ 300000 - List.length hp; omega) (by show _ + _ ≤ 7000000 - gsz hp; omega) rfl (fun x7 h7 z7 => ?_)
  obtain ⟨J1, HJ6, B6, fg6, ad6, hid⟩ := z7
  have old : ∀ k, (20 ≤ k ∧ k < 122) → h7[k]? = h5[k]? := fun k hk => fg6.old HJ5.2.2 hk B5.2.2.2
  have HL6 : gLine h7 L5 := HL5.kept (fun k hk => old k (by omega))
  have HW6 : gWire h7 35 (nI R) (nI Lt1) (nI A1) m1 := HW5.kept (fun k a b => old k (by omega))
  obtain ⟨fl6, fk6, fb6, pk6, bn6, hw6, -⟩ := id HW6
  have e6 := gJid.len hid
  have bl6 := gBud.lim B6 HJ6.2.2 hc hs
  refine g_aload_n (q := 88) C dX2_send_87 rfl rfl ?_
  refine g_getfield (v := .int L5.oc) (q := 91) C fX2_58 dX2_send_88 rfl HL6.1 rfl ?_
  refine g_aload_n (q := 92) C dX2_send_91 rfl rfl ?_
  refine g_getfield (v := .ref 35) (q := 95) C fX2_26 dX2_send_92 rfl HL6.1 rfl ?_
  refine g_getfield (v := .int ((nI Lt1))) (q := 98) C fX2_257 dX2_send_95 rfl hw6 rfl ?_
  refine g_iload (q := 100) C dX2_send_98 rfl rfl ?_
  refine g_isub (q := 101) C dX2_send_100 rfl ?_
  refine g_callVvp (q := 104) (As := [.int x7, .int L5.oc, .int (((nI Lt1) - (nI Lt)))]) C gyX1_note gvX1_note t_796 (c_X1_note_j HJ6 (by rw [e6 6 (by decide), e6 5 (by decide)]; exact HP.2.2.2.2.2.2.2.1) (by rw [e6 7 (by decide), e6 5 (by decide)]; exact HP.2.2.2.2.2.2.2.2)) dX2_send_101 rfl HJ6.1 rfl rfl rfl (Nat.le_of_ble_eq_true rfl) (Nat.le_of_ble_eq_true rfl) (Nat.le_of_ble_eq_true rfl) (by show _ + _ ≤ 300000 - List.length hp; omega) (by show _ + _ ≤ 7000000 - gsz hp; omega) rfl (fun h8 z8 => ?_)
  obtain ⟨HJ7, f7⟩ := z8
  have ea := gnote_ad J1 x7 L5.oc (nI Lt1 - nI Lt)
  have s7 := gJn.same HJ6 HJ7 f7 ea
  have B7 : gBud h8 (jX1_note J1 x7 L5.oc (nI Lt1 - nI Lt)) Bc Bs := gBud.same B6 s7 (congrArg Prod.snd ea)
  have old7 : ∀ k, (20 ≤ k ∧ k < 122) → h8[k]? = h7[k]? := fun k hk => f7 k (by omega) (fun i hi => ⟨by omega, by have := HJ6.2.2.ad hi; omega⟩)
  have HL7 : gLine h8 L5 := HL6.kept (fun k hk => old7 k (by omega))
  have HW7 : gWire h8 35 (nI R) (nI Lt1) (nI A1) m1 := HW6.kept (fun k a b => old7 k (by omega))
  subst hL3
  exact E.2.1 _ _ _ _ _ dX2_send_104 rfl (by omega) (by omega) ⟨rfl, L5, Lt1, A1, m1, _, HL7, HW7, HJ7, B7, (F5.trans gAd.rf (gFG.x fg6)).trans (gAd.trans gAd.rf ad6 F5.1) (gFG.x (gFJ.g f7 s7)), fun i hi => by rw [show (jX1_note J1 x7 L5.oc (nI Lt1 - nI Lt)).ad i = J1.ad i from congrFun (congrArg Prod.fst ea) i]; exact (ad6 i hi).imp id (fun h => Nat.le_trans F5.1 h), _, l1, eA, eL, em, ey, hL5, J1, _, hid, by rw [pk_sub (by omega)]⟩
def gS3_c (L : gLn) (x : Int32) : gLn := ((rX2_compose_c (rX2_kindToSend_c L x).2 (rX2_kindToSend_c L x).1).side 1 (((rX2_compose_c (rX2_kindToSend_c L x).2 (rX2_kindToSend_c L x).1).cd.set 9 (rX2_kindToSend_c L x).1).set 10 ((rX2_compose_c (rX2_kindToSend_c L x).2 (rX2_kindToSend_c L x).1).cd.se + 1)))
set_option maxRecDepth 100000 in
set_option maxHeartbeats 4000000 in
theorem c_X2_send_c_l {hp : List gA} {L : gLn} {x : Int32} {J : gJr} {R Lt A m N Bc Bs : Nat} (HL : gLine hp L) (HW : gWire hp 35 (nI R) (nI Lt) (nI A) m) (HJ : gJn hp J) (B0 : gBud hp J Bc Bs) (hc : Bc ≤ 200000) (hs : Bs ≤ 1000000) (hLt : Lt ≤ 1000000000) (hR : R ≤ 3) (HP : gJpre N J) (hN : N ≤ 15000) : gM yX2_send cX2_send 7 (none) 5 153 [.ref 20, .ref 28, .ref 21, .int x] (hp) (300000 - hp.length) (7000000 - gsz hp) (fun v h => v = none ∧ (∃ (L' : gLn) (Lt' A' m' : Nat) (J' : gJr), gLine h L' ∧ gWire h 35 (nI R) (nI Lt') (nI A') m' ∧ gJn h J' ∧ gBud h J' Bc Bs ∧ gFX hp h J ∧ gAd hp J J' ∧ gSent (gS3_c L x) 1 (gS3_c L x).rd.ro L' Lt Lt' A A' m m' J J')) := by
  refine gM_ofT (ls0 := [some (.ref 20), some (.ref 28), some (.ref 21), some (.int x), none, none, none]) (by decide +kernel) (Nat.le_of_ble_eq_true rfl) rfl fun X C E h0 => ?_
  have bl0 := gBud.lim B0 HJ.2.2 hc hs
  obtain ⟨hp1, hp2, hp3, hp4, -⟩ := id HP
  refine g_aload_n (q := 1) C dX2_send_0 rfl rfl ?_
  refine g_aload_n (q := 2) C dX2_send_1 rfl rfl ?_
  refine g_iload_n (q := 3) C dX2_send_2 rfl rfl ?_
  refine g_callSix (x := (rX2_kindToSend_c L x).1) (q := 6) (As := [.ref 28, .ref 21, .int x]) C gyX2_kindToSend t_720 t_719 (c_X2_kindToSend_c_l HL) dX2_send_3 rfl rfl rfl (Nat.le_of_ble_eq_true rfl) (Nat.le_of_ble_eq_true rfl) (Nat.le_of_ble_eq_true rfl) (by show _ + _ ≤ 300000 - List.length hp; omega) (by show _ + _ ≤ 7000000 - gsz hp; omega) rfl (fun h1 z1 => ?_)
  obtain ⟨HL1, fr1⟩ := z1
  refine g_istore (q := 8) C dX2_send_6 (Nat.le_of_ble_eq_true rfl) (by simp only [gset]; rfl) rfl ?_
  refine g_aload_n (q := 9) C dX2_send_8 rfl rfl ?_
  refine g_aload_n (q := 10) C dX2_send_9 rfl rfl ?_
  refine g_iload (q := 12) C dX2_send_10 rfl rfl ?_
  refine g_callVvp (q := 15) (As := [.ref 28, .int ((rX2_kindToSend_c L x).1)]) C gyX2_compose gvX2_compose t_729 (c_X2_compose_c_l HL1) dX2_send_12 rfl HL1.1 rfl rfl rfl (Nat.le_of_ble_eq_true rfl) (Nat.le_of_ble_eq_true rfl) (Nat.le_of_ble_eq_true rfl) (by show _ + _ ≤ 300000 - List.length hp; omega) (by show _ + _ ≤ 7000000 - gsz hp; omega) rfl (fun h2 z2 => ?_)
  obtain ⟨HL2, fr2⟩ := z2
  refine g_aload_n (q := 16) C dX2_send_15 rfl rfl ?_
  refine g_iload (q := 18) C dX2_send_16 rfl rfl ?_
  refine g_callVvp (q := 21) (As := [.int ((rX2_kindToSend_c L x).1)]) C gyX5_noteSent gvX5_noteSent t_746 (c_X5_noteSent_s HL2.2.2.1) dX2_send_18 rfl HL2.2.2.1.1 rfl rfl rfl (Nat.le_of_ble_eq_true rfl) (Nat.le_of_ble_eq_true rfl) (Nat.le_of_ble_eq_true rfl) (by show _ + _ ≤ 300000 - List.length hp; omega) (by show _ + _ ≤ 7000000 - gsz hp; omega) rfl (fun h3 z3 => ?_)
  obtain ⟨HL3, fr3⟩ := gLine.cd_ HL2 z3
  have e3 : ((rX2_compose_c (rX2_kindToSend_c L x).2 ((rX2_kindToSend_c L x).1)).side 1 (((rX2_compose_c (rX2_kindToSend_c L x).2 ((rX2_kindToSend_c L x).1)).cd.set 9 ((rX2_kindToSend_c L x).1)).set 10 ((rX2_compose_c (rX2_kindToSend_c L x).2 ((rX2_kindToSend_c L x).1)).cd.se + 1))) = gS3_c L x := rfl
  rw [e3] at HL3
  have hb1 : 1 ≤ (gS3_c L x).bl.length := gcl_c _ _
  have hb2 : (gS3_c L x).bl.length ≤ 64 := HL3.2.2.2.1.le.1
  obtain ⟨L3, hL3⟩ : ∃ L3, L3 = gS3_c L x := ⟨_, rfl⟩
  rw [← hL3] at HL3 hb1 hb2
  have fA : gFL hp h3 := (gFL.trans (gFL.trans fr1 fr2) fr3)
  have sA := gLine.same HL HL3 fA
  have HW1 := HW.l fA
  have HJ1 : gJn h3 J := HJ.d (fun k hk => fA k (by omega))
  have B1 : gBud h3 J Bc Bs := gBud.same B0 sA
  obtain ⟨fl, fk, fb, pk, bn, hw, -⟩ := id HW1
  refine g_aload_n (q := 22) C dX2_send_21 rfl rfl ?_
  refine g_getfield (v := .ref 35) (q := 25) C fX2_26 dX2_send_22 rfl HL3.1 rfl ?_
  refine g_getfield (v := .int ((nI Lt))) (q := 28) C fX2_257 dX2_send_25 rfl hw rfl ?_
  refine g_istore (q := 30) C dX2_send_28 (Nat.le_of_ble_eq_true rfl) (by simp only [gset]; rfl) rfl ?_
  refine g_aload_n (q := 31) C dX2_send_30 rfl rfl ?_
  refine g_getfield (v := .ref 35) (q := 34) C fX2_26 dX2_send_31 rfl HL3.1 rfl ?_
  refine g_aload_n (q := 35) C dX2_send_34 rfl rfl ?_
  refine g_getfield (v := .ref 39) (q := 38) C fX2_51 dX2_send_35 rfl HL3.1 rfl ?_
  refine g_aload_n (q := 39) C dX2_send_38 rfl rfl ?_
  refine g_getfield (v := .ref 41) (q := 42) C fX2_55 dX2_send_39 rfl HL3.1 rfl ?_
  refine g_callVip (q := 45) (As := [.ref 39, .ref 41]) C gyX6_carry gvX6_carry t_750 (c_X6_carry_w (L := Lt) (A := A) (H := HW1) (HB := HL3.2.2.2.1) (HC := HL3.2.2.2.2) (hln := hb2) (hl1 := hb1) (hL := by omega) (hR := hR) (d1 := by decide) (d2 := by decide) (d3 := by decide) (d4 := by decide) (e1 := by decide) (e2 := by decide) (e3 := by decide) (e4 := by decide)) dX2_send_42 rfl hw rfl rfl rfl (Nat.le_of_ble_eq_true rfl) (Nat.le_of_ble_eq_true rfl) (Nat.le_of_ble_eq_true rfl) (by show _ + _ ≤ 300000 - List.length hp; omega) (by show _ + _ ≤ 7000000 - gsz hp; omega) rfl (fun x4 h4 z4 => ?_)
  obtain ⟨Lt1, A1, m1, l1, HW2, HC2, eA, eL, em, ey, fr2⟩ := z4
  obtain ⟨HL4, s4, f4⟩ := gcarry HL3 HW1 HW2 HC2 fr2
  have HJ4 : gJn h4 J := HJ1.d (fun k hk => f4 k (by omega))
  have B4 : gBud h4 J Bc Bs := gBud.same B1 s4
  refine g_istore (q := 47) C dX2_send_45 (Nat.le_of_ble_eq_true rfl) (by simp only [gset]; rfl) rfl ?_
  refine g_aload_n (q := 48) C dX2_send_47 rfl rfl ?_
  refine g_aload_n (q := 49) C dX2_send_48 rfl rfl ?_
  refine g_iload (q := 51) C dX2_send_49 rfl rfl ?_
  refine g_aload_n (q := 52) C dX2_send_51 rfl rfl ?_
  refine g_getfield (v := .int ((L3.row 1 l1).rd.ro)) (q := 55) C fX2_115 dX2_send_52 rfl HL4.2.1.1 rfl ?_
  refine g_callVi (x := (rX2_judge (L3.row 1 l1) x4 ((L3.row 1 l1).rd.ro))) (q := 58) (As := [.int x4, .int ((L3.row 1 l1).rd.ro)]) C gyX2_judge gvX2_judge t_766 (c_X2_judge_l HL4) dX2_send_55 rfl HL4.1 rfl rfl rfl (Nat.le_of_ble_eq_true rfl) (Nat.le_of_ble_eq_true rfl) (Nat.le_of_ble_eq_true rfl) (by show _ + _ ≤ 300000 - List.length hp; omega) (by show _ + _ ≤ 7000000 - gsz hp; omega) rfl ?_
  refine g_putfield (q := 61) C fX2_58 dX2_send_58 rfl HL4.1 (Nat.le_of_ble_eq_true rfl) (Or.inl rfl) rfl rfl (by intro z h; cases h) ?_
  refine gLput (k := 5) (x := (rX2_judge (L3.row 1 l1) x4 ((L3.row 1 l1).rd.ro))) HL4 rfl fun h5 HL5 fr5 => ?_
  have s5 := gLine.same HL4 HL5 fr5
  have HW5 := HW2.l fr5
  have HJ5 : gJn h5 J := HJ4.d (fun k hk => fr5 k (by omega))
  have B5 : gBud h5 J Bc Bs := gBud.same B4 s5
  have F5 : gFX hp h5 J := ((gFL.x fA sA).trans gAd.rf (gFD.x f4 s4)).trans gAd.rf (gFL.x fr5 s5)
  obtain ⟨L5, hL5⟩ : ∃ L5, L5 = ((L3.row 1 l1).set 5 (rX2_judge (L3.row 1 l1) x4 ((L3.row 1 l1).rd.ro))) := ⟨_, rfl⟩
  rw [← hL5] at HL5
  have hb5 : L5.bl = L3.bl := by rw [hL5]; rfl
  have HB5 : gRw h5 39 40 64 L3.bl := hb5 ▸ HL5.2.2.2.1
  have bl5 := gBud.lim B5 HJ5.2.2 hc hs
  refine g_aload_n (q := 62) C dX2_send_61 rfl rfl ?_
  refine g_getfield (v := .ref 3) (q := 65) C fX2_80 dX2_send_62 rfl HL5.1 rfl ?_
  refine g_ifnull (q := 68) C dX2_send_65 rfl ?_
  refine g_aload_n (q := 69) C dX2_send_68 rfl rfl ?_
  refine g_getfield (v := .ref 3) (q := 72) C fX2_80 dX2_send_69 rfl HL5.1 rfl ?_
  refine g_aload_n (q := 73) C dX2_send_72 rfl rfl ?_
  refine g_getfield (v := .ref 3) (q := 76) C fX2_80 dX2_send_73 rfl HL5.1 rfl ?_
  refine g_aload_n (q := 77) C dX2_send_76 rfl rfl ?_
  refine g_getfieldW (v := .int 1) (q := 80) C fX2_267 dX2_send_77 rfl HL5.2.2.1.1 rfl ?_
  refine g_aload_n (q := 81) C dX2_send_80 rfl rfl ?_
  refine g_getfield (v := .ref 39) (q := 84) C fX2_51 dX2_send_81 rfl HL5.1 rfl ?_
  refine g_tight h0 B0.1 B5.1 (fun t6a t6b => ?_)
  refine g_callVip (q := 87) (As := [.int 1, .ref 39]) C gyX1_idOf gvX1_idOf t_774 (c_X1_idOf_j HJ5 B5 hc hs HB5 hb1 (by omega) (by omega) (by omega) (by omega) HP.2.2.2.2.1 HP.2.2.2.2.2.1 HP.2.2.2.2.2.2.1) dX2_send_84 rfl HJ5.1 rfl rfl rfl (Nat.le_of_ble_eq_true rfl) (Nat.le_of_ble_eq_true rfl) (Nat.le_of_ble_eq_true rfl) (by show _ + _ ≤ 300000 - List.length hp; omega) (by show _ + _ ≤ 7000000 - gsz hp; omega) rfl (fun x7 h7 z7 => ?_)
  obtain ⟨J1, HJ6, B6, fg6, ad6, hid⟩ := z7
  have old : ∀ k, (20 ≤ k ∧ k < 122) → h7[k]? = h5[k]? := fun k hk => fg6.old HJ5.2.2 hk B5.2.2.2
  have HL6 : gLine h7 L5 := HL5.kept (fun k hk => old k (by omega))
  have HW6 : gWire h7 35 (nI R) (nI Lt1) (nI A1) m1 := HW5.kept (fun k a b => old k (by omega))
  obtain ⟨fl6, fk6, fb6, pk6, bn6, hw6, -⟩ := id HW6
  have e6 := gJid.len hid
  have bl6 := gBud.lim B6 HJ6.2.2 hc hs
  refine g_aload_n (q := 88) C dX2_send_87 rfl rfl ?_
  refine g_getfield (v := .int L5.oc) (q := 91) C fX2_58 dX2_send_88 rfl HL6.1 rfl ?_
  refine g_aload_n (q := 92) C dX2_send_91 rfl rfl ?_
  refine g_getfield (v := .ref 35) (q := 95) C fX2_26 dX2_send_92 rfl HL6.1 rfl ?_
  refine g_getfield (v := .int ((nI Lt1))) (q := 98) C fX2_257 dX2_send_95 rfl hw6 rfl ?_
  refine g_iload (q := 100) C dX2_send_98 rfl rfl ?_
  refine g_isub (q := 101) C dX2_send_100 rfl ?_
  refine g_callVvp (q := 104) (As := [.int x7, .int L5.oc, .int (((nI Lt1) - (nI Lt)))]) C gyX1_note gvX1_note t_796 (c_X1_note_j HJ6 (by rw [e6 6 (by decide), e6 5 (by decide)]; exact HP.2.2.2.2.2.2.2.1) (by rw [e6 7 (by decide), e6 5 (by decide)]; exact HP.2.2.2.2.2.2.2.2)) dX2_send_101 rfl HJ6.1 rfl rfl rfl (Nat.le_of_ble_eq_true rfl) (Nat.le_of_ble_eq_true rfl) (Nat.le_of_ble_eq_true rfl) (by show _ + _ ≤ 300000 - List.length hp; omega) (by show _ + _ ≤ 7000000 - gsz hp; omega) rfl (fun h8 z8 => ?_)
  obtain ⟨HJ7, f7⟩ := z8
  have ea := gnote_ad J1 x7 L5.oc (nI Lt1 - nI Lt)
  have s7 := gJn.same HJ6 HJ7 f7 ea
  have B7 : gBud h8 (jX1_note J1 x7 L5.oc (nI Lt1 - nI Lt)) Bc Bs := gBud.same B6 s7 (congrArg Prod.snd ea)
  have old7 : ∀ k, (20 ≤ k ∧ k < 122) → h8[k]? = h7[k]? := fun k hk => f7 k (by omega) (fun i hi => ⟨by omega, by have := HJ6.2.2.ad hi; omega⟩)
  have HL7 : gLine h8 L5 := HL6.kept (fun k hk => old7 k (by omega))
  have HW7 : gWire h8 35 (nI R) (nI Lt1) (nI A1) m1 := HW6.kept (fun k a b => old7 k (by omega))
  subst hL3
  exact E.2.1 _ _ _ _ _ dX2_send_104 rfl (by omega) (by omega) ⟨rfl, L5, Lt1, A1, m1, _, HL7, HW7, HJ7, B7, (F5.trans gAd.rf (gFG.x fg6)).trans (gAd.trans gAd.rf ad6 F5.1) (gFG.x (gFJ.g f7 s7)), fun i hi => by rw [show (jX1_note J1 x7 L5.oc (nI Lt1 - nI Lt)).ad i = J1.ad i from congrFun (congrArg Prod.fst ea) i]; exact (ad6 i hi).imp id (fun h => Nat.le_trans F5.1 h), _, l1, eA, eL, em, ey, hL5, J1, _, hid, by rw [pk_sub (by omega)]⟩
