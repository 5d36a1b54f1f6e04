/-! Journal.idOf (by program: wip/p1/m_journal2.py) -/
def gOk (J : gJr) (x : Int32) : Prop := x = -1 ∨ ∃ i, i < (J.l 1).length ∧ x = nI i
def gFill (J : gJr) (j : Nat) : gJr := J.row 4 (J.l 4 ++ List.replicate (j - (J.l 4).length) (-1))
def gJid (J J' : gJr) (y : Int32) (b : List Int32) (x : Int32) : Prop :=
  (J' = gFill J 256 ∧ gOk J x ∧ ¬ x = -1 ∧ gat (J.l 0) (gat (J.l 1) x) = y ∧ ∀ i, i < b.length → gat (J.l 0) (gat (J.l 1) x + 1 + nI i) = gat b (nI i)) ∨
  (x = nI (J.l 1).length ∧ ∃ k, k < 256 ∧ gJadd (gFill J 256) J' y b (nI k))
theorem gFill_s {J : gJr} {j : Nat} (h : (J.l 4).length ≤ j) : (gFill J j).row 4 ((gFill J j).l 4 ++ [-1]) = gFill J (j + 1) := by
  unfold gFill
  rw [gJr.row_row]
  show J.row 4 ((J.l 4 ++ List.replicate (j - (J.l 4).length) (-1)) ++ [-1]) = _
  rw [List.append_assoc, ← List.replicate_succ', show j - (J.l 4).length + 1 = j + 1 - (J.l 4).length by omega]
theorem gFill_0 {J : gJr} : gFill J (J.l 4).length = J := by
  unfold gFill
  rw [Nat.sub_self, List.replicate_zero, List.append_nil]
  exact Prod.ext (funext fun j => by show (if j = 4 then J.1 4 else J.1 j) = J.1 j; split <;> simp [*]) rfl
theorem gFill_len {J : gJr} {j : Nat} (h : (J.l 4).length ≤ j) : ((gFill J j).l 4).length = j := by
  show (J.l 4 ++ List.replicate (j - (J.l 4).length) (-1)).length = j
  rw [List.length_append, List.length_replicate]; omega
theorem gat_nI {l : List Int32} {i : Nat} (h : i < 2 ^ 31) : gat l (nI i) = l.getD i 0 := by
  unfold gat; rw [if_neg (nI_pos h), nI_clamp h]
theorem gOk_fill {J : gJr} {k : Nat} (h : k < 256) (h4 : (J.l 4).length ≤ 256) (hch : ∀ i, i < (J.l 4).length → gOk J (gat (J.l 4) (nI i))) : gOk J (gat ((gFill J 256).l 4) (nI k)) := by
  rw [gat_nI (by omega)]
  show gOk J ((J.l 4 ++ List.replicate (256 - (J.l 4).length) (-1)).getD k 0)
  by_cases hk : k < (J.l 4).length
  · have := hch k hk
    rw [gat_nI (by omega)] at this
    rwa [List.getD_eq_getElem?_getD, List.getElem?_append_left hk, ← List.getD_eq_getElem?_getD]
  · rw [List.getD_eq_getElem?_getD, List.getElem?_append_right (by omega), List.getElem?_replicate, if_pos (by omega)]
    exact Or.inl rfl
theorem dX1_idOf_0 : decode cX1_idOf 0 = .ok (.aload_n 0, 1) := by decide +kernel
theorem dX1_idOf_1 : decode cX1_idOf 1 = .ok (.getfield 31, 3) := by decide +kernel
theorem dX1_idOf_4 : decode cX1_idOf 4 = .ok (.invokevirtual 51, 3) := by decide +kernel
theorem dX1_idOf_7 : decode cX1_idOf 7 = .ok (.istore_n 3, 1) := by decide +kernel
theorem dX1_idOf_8 : decode cX1_idOf 8 = .ok (.iload_n 3, 1) := by decide +kernel
theorem dX1_idOf_9 : decode cX1_idOf 9 = .ok (.sipush 256, 3) := by decide +kernel
theorem dX1_idOf_12 : decode cX1_idOf 12 = .ok (.if_icmp .ge 17, 3) := by decide +kernel
theorem dX1_idOf_15 : decode cX1_idOf 15 = .ok (.aload_n 0, 1) := by decide +kernel
theorem dX1_idOf_16 : decode cX1_idOf 16 = .ok (.getfield 31, 3) := by decide +kernel
theorem dX1_idOf_19 : decode cX1_idOf 19 = .ok (.iconst (-1), 1) := by decide +kernel
theorem dX1_idOf_20 : decode cX1_idOf 20 = .ok (.invokevirtual 62, 3) := by decide +kernel
theorem dX1_idOf_23 : decode cX1_idOf 23 = .ok (.iinc 3 1, 3) := by decide +kernel
theorem dX1_idOf_26 : decode cX1_idOf 26 = .ok (.goto (-18), 3) := by decide +kernel
theorem dX1_idOf_29 : decode cX1_idOf 29 = .ok (.iload_n 1, 1) := by decide +kernel
theorem dX1_idOf_30 : decode cX1_idOf 30 = .ok (.aload_n 2, 1) := by decide +kernel
theorem dX1_idOf_31 : decode cX1_idOf 31 = .ok (.invokestatic 65, 3) := by decide +kernel
theorem dX1_idOf_34 : decode cX1_idOf 34 = .ok (.istore_n 3, 1) := by decide +kernel
theorem dX1_idOf_35 : decode cX1_idOf 35 = .ok (.aload_n 0, 1) := by decide +kernel
theorem dX1_idOf_36 : decode cX1_idOf 36 = .ok (.getfield 31, 3) := by decide +kernel
theorem dX1_idOf_39 : decode cX1_idOf 39 = .ok (.iload_n 3, 1) := by decide +kernel
theorem dX1_idOf_40 : decode cX1_idOf 40 = .ok (.invokevirtual 55, 3) := by decide +kernel
theorem dX1_idOf_43 : decode cX1_idOf 43 = .ok (.istore 4, 2) := by decide +kernel
theorem dX1_idOf_45 : decode cX1_idOf 45 = .ok (.iconst 0, 1) := by decide +kernel
theorem dX1_idOf_46 : decode cX1_idOf 46 = .ok (.istore 5, 2) := by decide +kernel
theorem dX1_idOf_48 : decode cX1_idOf 48 = .ok (.iload 5, 2) := by decide +kernel
theorem dX1_idOf_50 : decode cX1_idOf 50 = .ok (.aload_n 0, 1) := by decide +kernel
theorem dX1_idOf_51 : decode cX1_idOf 51 = .ok (.getfield 22, 3) := by decide +kernel
theorem dX1_idOf_54 : decode cX1_idOf 54 = .ok (.invokevirtual 51, 3) := by decide +kernel
theorem dX1_idOf_57 : decode cX1_idOf 57 = .ok (.if_icmp .ge 40, 3) := by decide +kernel
theorem dX1_idOf_60 : decode cX1_idOf 60 = .ok (.iload 4, 2) := by decide +kernel
theorem dX1_idOf_62 : decode cX1_idOf 62 = .ok (.iconst (-1), 1) := by decide +kernel
theorem dX1_idOf_63 : decode cX1_idOf 63 = .ok (.if_icmp .eq 34, 3) := by decide +kernel
theorem dX1_idOf_66 : decode cX1_idOf 66 = .ok (.aload_n 0, 1) := by decide +kernel
theorem dX1_idOf_67 : decode cX1_idOf 67 = .ok (.iload 4, 2) := by decide +kernel
theorem dX1_idOf_69 : decode cX1_idOf 69 = .ok (.iload_n 1, 1) := by decide +kernel
theorem dX1_idOf_70 : decode cX1_idOf 70 = .ok (.aload_n 2, 1) := by decide +kernel
theorem dX1_idOf_71 : decode cX1_idOf 71 = .ok (.invokevirtual 69, 3) := by decide +kernel
theorem dX1_idOf_74 : decode cX1_idOf 74 = .ok (.ifCond .eq 6, 3) := by decide +kernel
theorem dX1_idOf_77 : decode cX1_idOf 77 = .ok (.iload 4, 2) := by decide +kernel
theorem dX1_idOf_79 : decode cX1_idOf 79 = .ok (.ireturn, 1) := by decide +kernel
theorem dX1_idOf_80 : decode cX1_idOf 80 = .ok (.aload_n 0, 1) := by decide +kernel
theorem dX1_idOf_81 : decode cX1_idOf 81 = .ok (.getfield 28, 3) := by decide +kernel
theorem dX1_idOf_84 : decode cX1_idOf 84 = .ok (.iload 4, 2) := by decide +kernel
theorem dX1_idOf_86 : decode cX1_idOf 86 = .ok (.invokevirtual 55, 3) := by decide +kernel
theorem dX1_idOf_89 : decode cX1_idOf 89 = .ok (.istore 4, 2) := by decide +kernel
theorem dX1_idOf_91 : decode cX1_idOf 91 = .ok (.iinc 5 1, 3) := by decide +kernel
theorem dX1_idOf_94 : decode cX1_idOf 94 = .ok (.goto (-46), 3) := by decide +kernel
theorem dX1_idOf_97 : decode cX1_idOf 97 = .ok (.aload_n 0, 1) := by decide +kernel
theorem dX1_idOf_98 : decode cX1_idOf 98 = .ok (.iload_n 1, 1) := by decide +kernel
theorem dX1_idOf_99 : decode cX1_idOf 99 = .ok (.aload_n 2, 1) := by decide +kernel
theorem dX1_idOf_100 : decode cX1_idOf 100 = .ok (.iload_n 3, 1) := by decide +kernel
theorem dX1_idOf_101 : decode cX1_idOf 101 = .ok (.invokevirtual 73, 3) := by decide +kernel
theorem dX1_idOf_104 : decode cX1_idOf 104 = .ok (.ireturn, 1) := by decide +kernel
set_option maxRecDepth 100000 in
set_option maxHeartbeats 4000000 in
theorem c_X1_idOf_j {hp : List gA} {J : gJr} {y : Int32} {b : List Int32} {Bc Bs : Nat} (HJ : gJn hp J) (B0 : gBud hp J Bc Bs) (hc : Bc ≤ 200000) (hs : Bs ≤ 1000000) (HB : gRw hp 39 40 64 b) (hb1 : 1 ≤ b.length) (hl1 : (J.l 1).length < 65536) (hl2 : (J.l 2).length < 65536) (hl3 : (J.l 3).length < 65536) (hlb : (J.l 0).length + b.length + 1 < 1048576) (h4 : (J.l 4).length ≤ 256) (hch : ∀ i, i < (J.l 4).length → gOk J (gat (J.l 4) (nI i))) (hfo : ∀ i, i < (J.l 1).length → gOk J (gat (J.l 3) (nI i))) : gM yX1_idOf cX1_idOf 6 ((some .int)) 4 128 [.ref 3, .int y, .ref 39] (hp) (300000 - hp.length) (7000000 - gsz hp) (fun v h => ∃ z, v = some (.int z) ∧ ∃ J', gJn h J' ∧ gBud h J' Bc Bs ∧ gFG hp h J ∧ gAd hp J J' ∧ gJid J J' y b z) := by
  refine gM_ofT (ls0 := [some (.ref 3), some (.int y), some (.ref 39), none, none, none]) (by decide +kernel) (Nat.le_of_ble_eq_true rfl) rfl fun X C E h0 => ?_
  have bl0 := gBud.lim B0 HJ.2.2 hc hs
  refine g_aload_n (q := 1) C dX1_idOf_0 rfl rfl ?_
  refine g_getfield (v := .ref 12) (q := 4) C fX1_31 dX1_idOf_1 rfl HJ.1 rfl ?_
  refine g_callVi (x := (nI (J.l 4).length)) (q := 7) (As := []) C gyX4_size gvX4_size t_778 (c_X4_size (gRg.obj HJ.r4)) dX1_idOf_4 rfl (gRg.obj HJ.r4) rfl rfl rfl (Nat.le_of_ble_eq_true rfl) (Nat.le_of_ble_eq_true rfl) (Nat.le_of_ble_eq_true rfl) (by show _ + _ ≤ 300000 - List.length hp; omega) (by show _ + _ ≤ 7000000 - gsz hp; omega) rfl ?_
  refine g_istore_n (q := 8) C dX1_idOf_7 (Nat.le_of_ble_eq_true rfl) (by simp only [gset]; rfl) rfl ?_
  have LL : ∀ d j : Nat, j + d = 256 → (J.l 4).length ≤ j → ∀ (hq : List gA) (cq sq : Nat), gJn hq (gFill J j) → gBud hq (gFill J j) Bc Bs → gFG hp hq J → gAd hp J (gFill J j) → gG X 8 [some (.ref 3), some (.int y), some (.ref 39), some (.int (nI j)), none, none] [] hq cq sq := by
    intro d
    induction d with
    | zero =>
      intro j hj hjl hq cq sq HJ1 B1 F1 A1
      obtain rfl : j = 256 := by omega
      have HB1 := gFG.row F1 HJ.2.2 HB (by decide) (by decide)
      have blq := gBud.lim B1 HJ1.2.2 hc hs
      refine g_tight h0 B0.1 B1.1 (fun ta tb => ?_)
      refine g_iload_n (q := 9) C dX1_idOf_8 rfl rfl ?_
      refine g_sipush (v := 256) (q := 12) C dX1_idOf_9 (by decide) rfl ?_
      refine g_icmp_ge_t (t := 29) C dX1_idOf_12 (by decide) (nI_le (Nat.le_refl 256) (by decide)) ?_
      refine g_iload_n (q := 30) C dX1_idOf_29 rfl rfl ?_
      refine g_aload_n (q := 31) C dX1_idOf_30 rfl rfl ?_
      refine g_callSip (q := 34) (As := [.int y, .ref 39]) C gyX1_chainOf t_781 t_780 (c_X1_chainOf_j HB1 hb1) dX1_idOf_31 rfl rfl rfl (Nat.le_of_ble_eq_true rfl) (Nat.le_of_ble_eq_true rfl) (Nat.le_of_ble_eq_true rfl) (by show _ + _ ≤ 300000 - List.length hp; omega) (by show _ + _ ≤ 7000000 - gsz hp; omega) rfl (fun x1 h1 z1 => ?_)
      obtain ⟨⟨kc, hkc, ekc⟩, eh⟩ := z1
      rw [eh, ekc]
      refine g_istore_n (q := 35) C dX1_idOf_34 (Nat.le_of_ble_eq_true rfl) (by simp only [gset]; rfl) rfl ?_
      refine g_aload_n (q := 36) C dX1_idOf_35 rfl rfl ?_
      refine g_getfield (v := .ref 12) (q := 39) C fX1_31 dX1_idOf_36 rfl HJ1.1 rfl ?_
      refine g_iload_n (q := 40) C dX1_idOf_39 rfl rfl ?_
      refine g_callVi (x := (gat ((gFill J 256).l 4) (nI kc))) (q := 43) (As := [.int ((nI kc))]) C gyX4_at gvX4_at t_783 (c_X4_at_g HJ1.r4) dX1_idOf_40 rfl (gRg.obj HJ1.r4) rfl rfl rfl (Nat.le_of_ble_eq_true rfl) (Nat.le_of_ble_eq_true rfl) (Nat.le_of_ble_eq_true rfl) (by show _ + _ ≤ 300000 - List.length hp; omega) (by show _ + _ ≤ 7000000 - gsz hp; omega) rfl ?_
      refine g_istore (q := 45) C dX1_idOf_43 (Nat.le_of_ble_eq_true rfl) (by simp only [gset]; rfl) rfl ?_
      refine g_iconst (v := 0) (q := 46) C dX1_idOf_45 (by decide) rfl ?_
      refine g_istore (q := 48) C dX1_idOf_46 (Nat.le_of_ble_eq_true rfl) (by simp only [gset]; rfl) rfl ?_
      have hk1 : (J.l 1).length < 65536 := hl1
      have K : ∀ (id : Int32) (j cq sq : Nat), gG X 97 [some (.ref 3), some (.int y), some (.ref 39), some (.int (nI kc)), some (.int id), some (.int (nI j))] [] hq cq sq := by
        intro id j cq sq
        refine g_tight h0 B0.1 B1.1 (fun tc td => ?_)
        refine g_aload_n (q := 98) C dX1_idOf_97 rfl rfl ?_
        refine g_iload_n (q := 99) C dX1_idOf_98 rfl rfl ?_
        refine g_aload_n (q := 100) C dX1_idOf_99 rfl rfl ?_
        refine g_iload_n (q := 101) C dX1_idOf_100 rfl rfl ?_
        refine g_tight h0 B0.1 B1.1 (fun t2a t2b => ?_)
        refine g_callVip (q := 104) (As := [.int y, .ref 39, .int ((nI kc))]) C gyX1_addUnlike gvX1_addUnlike t_788 (c_X1_addUnlike_j HJ1 B1 hc hs HB1 hl1 hl2 hl3 hlb) dX1_idOf_101 rfl HJ1.1 rfl rfl rfl (Nat.le_of_ble_eq_true rfl) (Nat.le_of_ble_eq_true rfl) (Nat.le_of_ble_eq_true rfl) (by show _ + _ ≤ 300000 - List.length hp; omega) (by show _ + _ ≤ 7000000 - gsz hp; omega) rfl (fun x3 h3 z3 => ?_)
        obtain ⟨ez, J2, HJ2, B2, F2, A2, ad2⟩ := z3
        exact E.1 _ _ _ _ _ _ _ dX1_idOf_104 rfl rfl (by omega) (by omega) ⟨_, rfl, J2, HJ2, B2, gFG.trans F1 A1 F2, gAd.trans A1 A2 F1.1, Or.inr ⟨ez, kc, hkc, ad2⟩⟩
      have LL2 : ∀ d j : Nat, j + d = (J.l 1).length → ∀ (id : Int32) (cq sq : Nat), gOk J id → gG X 48 [some (.ref 3), some (.int y), some (.ref 39), some (.int (nI kc)), some (.int id), some (.int (nI j))] [] hq cq sq := by
        intro d
        induction d with
        | zero =>
          intro j hj id cq sq hid
          obtain rfl : j = (J.l 1).length := by omega
          refine g_tight h0 B0.1 B1.1 (fun tc td => ?_)
          refine g_iload (q := 50) C dX1_idOf_48 rfl rfl ?_
          refine g_aload_n (q := 51) C dX1_idOf_50 rfl rfl ?_
          refine g_getfield (v := .ref 6) (q := 54) C fX1_22 dX1_idOf_51 rfl HJ1.1 rfl ?_
          refine g_callVi (x := (nI ((gFill J 256).l 1).length)) (q := 57) (As := []) C gyX4_size gvX4_size t_778 (c_X4_size (gRg.obj HJ1.r1)) dX1_idOf_54 rfl (gRg.obj HJ1.r1) rfl rfl rfl (Nat.le_of_ble_eq_true rfl) (Nat.le_of_ble_eq_true rfl) (Nat.le_of_ble_eq_true rfl) (by show _ + _ ≤ 300000 - List.length hp; omega) (by show _ + _ ≤ 7000000 - gsz hp; omega) rfl ?_
          refine g_icmp_ge_t (t := 97) C dX1_idOf_57 (by decide) (nI_le (Nat.le_refl (J.l 1).length) (by omega)) ?_
          exact K id _ _ _
        | succ d ih =>
          intro j hj id cq sq hid
          refine g_tight h0 B0.1 B1.1 (fun tc td => ?_)
          refine g_iload (q := 50) C dX1_idOf_48 rfl rfl ?_
          refine g_aload_n (q := 51) C dX1_idOf_50 rfl rfl ?_
          refine g_getfield (v := .ref 6) (q := 54) C fX1_22 dX1_idOf_51 rfl HJ1.1 rfl ?_
          refine g_callVi (x := (nI ((gFill J 256).l 1).length)) (q := 57) (As := []) C gyX4_size gvX4_size t_778 (c_X4_size (gRg.obj HJ1.r1)) dX1_idOf_54 rfl (gRg.obj HJ1.r1) rfl rfl rfl (Nat.le_of_ble_eq_true rfl) (Nat.le_of_ble_eq_true rfl) (Nat.le_of_ble_eq_true rfl) (by show _ + _ ≤ 300000 - List.length hp; omega) (by show _ + _ ≤ 7000000 - gsz hp; omega) rfl ?_
          refine g_icmp_ge_f (t := 97) (q := 60) C dX1_idOf_57 (by decide) rfl (fun h => nI_ge (show j < (J.l 1).length by omega) (by omega) h) ?_
          refine g_iload (q := 62) C dX1_idOf_60 rfl rfl ?_
          refine g_iconst (v := (-1)) (q := 63) C dX1_idOf_62 (by decide) rfl ?_
          refine g_icmp_eq (t := 97) (q := 66) C dX1_idOf_63 (by decide) rfl (fun c_63 => ?_) (fun c_63 => ?_)
          ·
            exact K id _ _ _
          ·
            refine g_aload_n (q := 67) C dX1_idOf_66 rfl rfl ?_
            refine g_iload (q := 69) C dX1_idOf_67 rfl rfl ?_
            refine g_iload_n (q := 70) C dX1_idOf_69 rfl rfl ?_
            refine g_aload_n (q := 71) C dX1_idOf_70 rfl rfl ?_
            refine g_callVip (q := 74) (As := [.int id, .int y, .ref 39]) C gyX1_isBlock gvX1_isBlock t_784 (c_X1_isBlock_j HJ1 HB1) dX1_idOf_71 rfl HJ1.1 rfl rfl rfl (Nat.le_of_ble_eq_true rfl) (Nat.le_of_ble_eq_true rfl) (Nat.le_of_ble_eq_true rfl) (by show _ + _ ≤ 300000 - List.length hp; omega) (by show _ + _ ≤ 7000000 - gsz hp; omega) rfl (fun x4 h4 z4 => ?_)
            obtain ⟨hz, eh⟩ := z4
            rw [eh]
            refine g_if_eq (t := 80) (q := 77) C dX1_idOf_74 (by decide) rfl (fun c_74 => ?_) (fun c_74 => ?_)
            ·
              refine g_aload_n (q := 81) C dX1_idOf_80 rfl rfl ?_
              refine g_getfield (v := .ref 10) (q := 84) C fX1_28 dX1_idOf_81 rfl HJ1.1 rfl ?_
              refine g_iload (q := 86) C dX1_idOf_84 rfl rfl ?_
              refine g_callVi (x := (gat ((gFill J 256).l 3) id)) (q := 89) (As := [.int id]) C gyX4_at gvX4_at t_783 (c_X4_at_g HJ1.r3) dX1_idOf_86 rfl (gRg.obj HJ1.r3) rfl rfl rfl (Nat.le_of_ble_eq_true rfl) (Nat.le_of_ble_eq_true rfl) (Nat.le_of_ble_eq_true rfl) (by show _ + _ ≤ 300000 - List.length hp; omega) (by show _ + _ ≤ 7000000 - gsz hp; omega) rfl ?_
              refine g_istore (q := 91) C dX1_idOf_89 (Nat.le_of_ble_eq_true rfl) (by simp only [gset]; rfl) rfl ?_
              refine g_iinc (v := (nI (j + 1))) (q := 94) C dX1_idOf_91 rfl (nI_1 j) (by simp only [gset]; rfl) rfl ?_
              refine g_goto (q := 48) C dX1_idOf_94 (by decide) ?_
              exact ih (j + 1) (by omega) _ _ _ (hid.elim (fun h => absurd h c_63) (fun ⟨i, h1, h2⟩ => by rw [h2]; exact hfo i h1))
            ·
              refine g_iload (q := 79) C dX1_idOf_77 rfl rfl ?_
              exact E.1 _ _ _ _ _ _ _ dX1_idOf_79 rfl rfl (by omega) (by omega) ⟨_, rfl, _, HJ1, B1, F1, A1, Or.inl ⟨rfl, hid, c_63, (hz.resolve_left c_74).2.1, (hz.resolve_left c_74).2.2⟩⟩
      exact LL2 (J.l 1).length 0 (by omega) _ _ _ (gOk_fill hkc h4 hch)
    | succ d ih =>
      intro j hj hjl hq cq sq HJ1 B1 F1 A1
      have HB1 := gFG.row F1 HJ.2.2 HB (by decide) (by decide)
      have blq := gBud.lim B1 HJ1.2.2 hc hs
      refine g_tight h0 B0.1 B1.1 (fun ta tb => ?_)
      refine g_iload_n (q := 9) C dX1_idOf_8 rfl rfl ?_
      refine g_sipush (v := 256) (q := 12) C dX1_idOf_9 (by decide) rfl ?_
      refine g_icmp_ge_f (t := 29) (q := 15) C dX1_idOf_12 (by decide) rfl (fun h => nI_ge (show j < 256 by omega) (by decide) h) ?_
      refine g_aload_n (q := 16) C dX1_idOf_15 rfl rfl ?_
      refine g_getfield (v := .ref 12) (q := 19) C fX1_31 dX1_idOf_16 rfl HJ1.1 rfl ?_
      refine g_iconst (v := (-1)) (q := 20) C dX1_idOf_19 (by decide) rfl ?_
      refine g_callVvp (q := 23) (As := [.int ((-1))]) C gyX4_add gvX4_add t_779 (c_X4_add_n HJ1.r4 (show ((gFill J j).l 4).length < gmo 4 ∧ ((gFill J j).l 4).length < (gFill J j).sz 4 ∧ gmo 4 ≤ 1048576 from by rw [gFill_len hjl, (HJ1.2.2.1 4 (by decide)).2.2.2.1 (by decide), gmo4]; omega)) dX1_idOf_20 rfl (gRg.obj HJ1.r4) rfl rfl rfl (Nat.le_of_ble_eq_true rfl) (Nat.le_of_ble_eq_true rfl) (Nat.le_of_ble_eq_true rfl) (by show _ + _ ≤ 300000 - List.length hp; omega) (by show _ + _ ≤ 7000000 - gsz hp; omega) rfl (fun h5 z5 => ?_)
      obtain ⟨HL5, fr5⟩ := gJn.row (k := 4) HJ1 (by decide) z5
      have sm5 := gJn.same HJ1 HL5 fr5 rfl
      have B5 : gBud h5 ((gFill J j).row 4 (((gFill J j).l 4) ++ [(-1)])) Bc Bs := gBud.same B1 sm5
      have FG5 := gFG.trans F1 A1 (gFJ.g fr5 sm5)
      have AD5 : gAd hp J ((gFill J j).row 4 (((gFill J j).l 4) ++ [(-1)])) := A1
      have bl5 := gBud.lim B5 HL5.2.2 hc hs
      have HB5 := gFG.row FG5 HJ.2.2 HB (by decide) (by decide)
      refine g_iinc (v := (nI (j + 1))) (q := 26) C dX1_idOf_23 rfl (nI_1 j) (by simp only [gset]; rfl) rfl ?_
      replace HL5 : gJn h5 (gFill J (j + 1)) := by rw [← gFill_s hjl]; exact HL5
      replace B5 : gBud h5 (gFill J (j + 1)) Bc Bs := by rw [← gFill_s hjl]; exact B5
      replace AD5 : gAd hp J (gFill J (j + 1)) := by rw [← gFill_s hjl]; exact AD5
      refine g_goto (q := 8) C dX1_idOf_26 (by decide) ?_
      exact ih (j + 1) (by omega) (by omega) _ _ _ HL5 B5 FG5 AD5
  exact LL (256 - (J.l 4).length) (J.l 4).length (by omega) (Nat.le_refl _) hp _ _ (by rw [gFill_0]; exact HJ) (by rw [gFill_0]; exact B0) gFG.rf (by rw [gFill_0]; exact gAd.rf)
