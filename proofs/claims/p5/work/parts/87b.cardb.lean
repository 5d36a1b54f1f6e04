section TQ
variable {T : tyT} {R : Nat} {J : Nat → Prop} {Bc Bs : Nat} {M : gMd} {z : Nat → Nat} {hp h : List gA} {k a : Nat}
/-- which reset answer is in force, which is spare -/
def tyTw (T : tyT) : Prop := (T.fo = 116 ∧ T.sp = 119) ∨ (T.fo = 119 ∧ T.sp = 116)
theorem gRw.uniq {r a n : Nat} {l l' : List Int32} (H : gRw hp r a n l) (H' : gRw hp r a n l') : l = l' := by
  obtain ⟨f, h1, h2, h3, h4, h5⟩ := H
  obtain ⟨f', h1', h2', h3', h4', h5'⟩ := H'
  have e1 := Option.some.inj (h1.symm.trans h1')
  have e2 := Option.some.inj (h2.symm.trans h2')
  have el : l.length = l'.length := by
    have := (Prod.mk.inj (Sum.inr.inj (Sum.inr.inj e1))).2
    have := (List.cons.inj (List.cons.inj this).2).1
    exact nI_inj (by omega) (by omega) (Value.int.inj this)
  have ef : f = f' := (Prod.mk.inj (Sum.inl.inj e2)).2
  subst ef
  refine List.ext_getElem? fun i => ?_
  by_cases c : i < l.length
  · have a1 := h5 i c
    have a2 := h5' i (by omega)
    rw [List.getElem?_eq_getElem c, List.getElem?_eq_getElem (by omega)]
    rw [List.getD_eq_getElem?_getD, List.getElem?_eq_getElem c] at a1
    rw [List.getD_eq_getElem?_getD, List.getElem?_eq_getElem (by omega)] at a2
    exact congrArg some (a1.symm.trans a2)
  · rw [List.getElem?_eq_none (by omega), List.getElem?_eq_none (by omega)]
/-- a reset answer's record -/
theorem tyRq (H : tyS T R J Bc Bs M z hp) (hk : tyK a = (9, 0)) : ∃ (Q : rq) (l : List Int32), rqH hp a Q l ∧ rB6 Q ∧ (a = T.fo → (∀ k, k < 7 → Q.f k = T.q.f k) ∧ l = T.hi) := by
  obtain ⟨x0, x1, x2, x3, x4, x5, x6, x8, x9, x10, o, b, w⟩ := tyG3x H hk
  have k1 : tyK (a + 1) = (1, 15) := tyF3_7 hk
  obtain ⟨l, g, w2⟩ := tyRow H k1
  refine ⟨fun k => [x0, x1, x2, x3, x4, x5, x6, 0, x8, x9, x10].getD k 0, l, ⟨o, g⟩, b, fun e => ⟨fun k hk => ?_, w2.2 (by rw [e])⟩⟩
  obtain ⟨w0, w1, w2, w3, w4, w5, w6⟩ := w e
  have : k = 0 ∨ k = 1 ∨ k = 2 ∨ k = 3 ∨ k = 4 ∨ k = 5 ∨ k = 6 := by omega
  rcases this with rfl | rfl | rfl | rfl | rfl | rfl | rfl
  · exact w0
  · exact w1
  · exact w2
  · exact w3
  · exact w4
  · exact w5
  · exact w6
theorem rqF.sz {Q Q' : rq} {l l' : List Int32} (H : rqH hp a Q l) (H' : rqH h a Q' l') (F : rqF a hp h) : gsz h = gsz hp ∧ ∀ J, gJk J hp → gJk J h := by
  obtain ⟨o, f, p1, p2, -⟩ := H
  obtain ⟨o', f', p1', p2', -⟩ := H'
  have em : h.map gcs = hp.map gcs := by
    refine List.ext_getElem? fun i => ?_
    rw [List.getElem?_map, List.getElem?_map]
    by_cases e1 : i = a
    · subst e1; rw [o, o']; rfl
    · by_cases e2 : i = a + 1
      · subst e2; rw [p1, p1']; rfl
      · by_cases e3 : i = a + 2
        · subst e3; rw [p2, p2']; rfl
        · rw [F.2 i e1 e2 e3]
  have nj : ∀ (e e' : gA), e ≠ gJunk → e' ≠ gJunk → ∀ J i, gJk J hp → hp[i]? = some e → h[i]? = some e' → (h[i]? = some gJunk ↔ J i) := fun e e' n n' J i HJ h1 h2 => by
    rw [h2]
    refine ⟨fun q => absurd (Option.some.inj q) n', fun q => ?_⟩
    have := (HJ i).mpr q
    rw [h1] at this
    exact absurd (Option.some.inj this) n
  refine ⟨by unfold gsz; rw [em], fun J HJ i => ?_⟩
  by_cases e1 : i = a
  · subst e1; exact nj _ _ (gJ4 (by decide)) (gJ4 (by decide)) J _ HJ o o'
  · by_cases e2 : i = a + 1
    · subst e2; exact nj _ _ (gJ4 (by decide)) (gJ4 (by decide)) J _ HJ p1 p1'
    · by_cases e3 : i = a + 2
      · subst e3; exact nj _ _ gJ2 gJ2 J _ HJ p2 p2'
      · rw [F.2 i e1 e2 e3]; exact HJ i
/-- the spare reset answer is read into -/
theorem tyS.spare {Q : rq} {l : List Int32} (H : tyS T R J Bc Bs M z hp) (hk : tyK a = (9, 0)) (na : ¬ a = T.fo) (HQ : rqH h a Q l) (F : rqF a hp h) (hb : rB6 Q) : tyS T R J Bc Bs M z h := by
  have lt := tyK_lt hk (by decide)
  have kt : (tyK a).1 = 9 := by rw [hk]
  have k1 : tyK (a + 1) = (1, 15) := tyF3_7 hk
  have k2 : tyK (a + 2) = (2, 15) := (by decide +kernel : ∀ k : Fin 122, tyK k.1 = (9, 0) → tyK (k.1 + 2) = (2, 15)) ⟨a, lt⟩ hk
  have l1 := tyK_lt k1 (by decide)
  have l2 := tyK_lt k2 (by decide)
  have fo := tyFo H
  have ak : a = 116 ∨ a = 119 := (by decide +kernel : ∀ k : Fin 122, tyK k.1 = (9, 0) → k.1 = 116 ∨ k.1 = 119) ⟨a, lt⟩ hk
  obtain ⟨Q0, l0, H0, -, -⟩ := tyRq H hk
  obtain ⟨b1, b2, b3, b4, b5⟩ := H.2.2.2.2
  have sz := rqF.sz H0 HQ F
  obtain ⟨o, g⟩ := HQ
  refine H.mk (P := fun q => q = a ∨ q = a + 1 ∨ q = a + 2) (fun q _ c => F.2 q (fun e => c (Or.inl e)) (fun e => c (Or.inr (Or.inl e))) (fun e => c (Or.inr (Or.inr e)))) (fun q c => by have c' : q = a ∨ q = a + 1 ∨ q = a + 2 := c; omega) (fun q _ _ _ => rfl) (fun q a2 l2 m' c4 c g w => Or.inr fun e => ?_) (fun q hq c1 c e => ?_) (fun q c hq => ?_) (sz.2 J H.2.2.2.1) ⟨by rw [F.1]; exact b1, by rw [F.1]; exact b2, by rw [sz.1]; exact b3, b4, b5⟩
  · have hq : q < 122 := by
      by_cases c : q < 122
      · exact c
      · have : tyK q = (99, 0) := by
          unfold tyK
          rw [List.getD_eq_getElem?_getD, List.getElem?_eq_none (by show tyKs.length ≤ q; have : tyKs.length = 122 := rfl; omega)]; rfl
        rw [this] at c4; cases c4
    have d : q = 4 ∨ q = 6 ∨ q = 8 ∨ q = 10 := tyK4 ⟨q, hq⟩ c4
    have e' : a2 = a ∨ a2 = a + 1 ∨ a2 = a + 2 := e
    omega
  · have e' : q + 1 = a ∨ q + 1 = a + 1 ∨ q + 1 = a + 2 := e
    have c' : ¬ (q = a ∨ q = a + 1 ∨ q = a + 2) := c
    have t2 := (tyRow2 ⟨q, hq⟩ (Or.inl c1)).1
    have : q + 1 = a := by omega
    rw [this, kt] at t2
    omega
  · have c' : q = a ∨ q = a + 1 ∨ q = a + 2 := c
    rcases c' with c' | c' | c'
    · subst c'
      refine ⟨_, o, gJ4 (by decide), ?_⟩
      unfold tyOk
      rw [if_neg (by rw [kt]; decide), if_neg (by rw [kt]; decide), if_neg (by rw [kt]; decide), if_neg (by rw [kt]; decide), if_neg (by rw [kt]; decide), if_neg (by rw [kt]; decide), if_neg (by rw [kt]; decide), if_neg (by rw [kt]; decide), if_neg (by rw [kt]; decide), if_pos kt]
      exact ⟨_, _, _, _, _, _, _, _, _, _, rfl, hb, fun e => absurd e na⟩
    · subst c'
      have e1 : (tyK (a + 1)).1 = 1 := by rw [k1]
      have e2 : (tyK (a + 1)).2 = 15 := by rw [k1]
      refine ⟨_, g.obj, gJ4 (by decide), ?_⟩
      unfold tyOk
      rw [if_neg (by rw [e1]; decide), if_pos e1, e2]
      exact ⟨l, g, fun e => absurd e (by omega), fun e => absurd e (by omega)⟩
    · subst c'
      have e1 : (tyK (a + 2)).1 = 2 := by rw [k2]
      have e2 : (tyK (a + 2)).2 = 15 := by rw [k2]
      obtain ⟨f, -, q2, -⟩ := g
      refine ⟨_, q2, gJ2, ?_⟩
      unfold tyOk
      rw [if_neg (by rw [e1]; decide), if_neg (by rw [e1]; decide), if_pos e1, e2]
      exact ⟨f, rfl⟩
/-- the link's own cell is written: another reset answer in force, another spare, a card -/
theorem tyS.card {x6 y6 : Int32} {q4 q5 p4 p5 : Nat} {Q : rq} {l : List Int32} {T' : tyT} (H : tyS T R J Bc Bs M z hp) (e1 : T'.tp = T.tp) (c : x6 = T'.ci ∧ q4 = T'.fo ∧ q5 = T'.sp) (b6 : x6 = 0 ∨ x6 = 1) (b4 : q4 = 116 ∨ q4 = 119) (b5 : q5 = 116 ∨ q5 = 119) (HQ : rqH hp q4 Q l) (hq : ∀ k, k < 7 → Q.f k = T'.q.f k) (hl : l = T'.hi)
    (he : hp[0]? = some (.inr (.inr (7, [.ref 1, .ref 3, .ref 20, .ref 43, .ref p4, .ref p5, .int y6])))) : tyS T' R J Bc Bs M z (hp.set 0 (.inr (.inr (7, [.ref 1, .ref 3, .ref 20, .ref 43, .ref q4, .ref q5, .int x6])))) := by
  obtain ⟨a1, a2, a3, a4, a5⟩ := H.2.2.2.2
  have f : ∀ q, q ≠ 0 → (hp.set 0 (.inr (.inr (7, [.ref 1, .ref 3, .ref 20, .ref 43, .ref q4, .ref q5, .int x6]))))[q]? = hp[q]? := fun q c => List.getElem?_set_ne (Ne.symm c)
  obtain ⟨HQo, HQr⟩ := HQ
  refine ⟨fun k hk => ?_, ⟨(f 122 (by decide)).trans H.2.1.1, fun i hi => (f (123 + i) (by omega)).trans (H.2.1.2 i hi)⟩, ?_, H.2.2.2.1.one he (gJ4 (by decide)) (gJ4 (by decide)), by rw [List.length_set]; exact a1, by rw [List.length_set]; exact a2, Nat.le_trans (Nat.le_of_eq (gsz_set he (by rfl))) a3, a4, a5⟩
  · by_cases c1 : k = 0
    · subst c1
      refine ⟨_, gset_self he, gJ4 (by decide), ?_⟩
      have t0 : (tyK 0).1 = 0 := rfl
      unfold tyOk
      rw [if_pos t0]
      exact ⟨x6, q4, q5, rfl, b6, b4, b5, c⟩
    · obtain ⟨e, he2, hne, ok⟩ := H.1 k hk
      refine ⟨e, (f k c1).trans he2, hne, ?_⟩
      by_cases t1 : (tyK k).1 = 1
      · unfold tyOk at ok ⊢
        rw [if_neg (by rw [t1]; decide), if_pos t1] at ok ⊢
        obtain ⟨l9, g9, w⟩ := ok
        refine ⟨l9, g9.kept (f k c1) (f (k + 1) (by omega)), fun e => (w.1 e).trans e1.symm, fun e => ?_⟩
        have ek : k = q4 + 1 := by rw [e, c.2.1]
        subst ek
        have em : (tyK (q4 + 1)).2 = 15 := by rcases b4 with b | b <;> rw [b] <;> rfl
        rw [em] at g9
        rw [← hl]; exact g9.uniq HQr
      · by_cases t4 : (tyK k).1 = 4
        · unfold tyOk at ok ⊢
          rw [if_neg (by rw [t4]; decide), if_neg (by rw [t4]; decide), if_neg (by rw [t4]; decide), if_neg (by rw [t4]; decide), if_pos t4] at ok ⊢
          obtain ⟨a, l9, g9, w1, w2, w3⟩ := ok
          have d : k = 4 ∨ k = 6 ∨ k = 8 ∨ k = 10 := tyK4 ⟨k, hk⟩ t4
          exact ⟨a, l9, g9.kept (f k c1) (f a (by omega)), w1, w2, w3⟩
        · have t0 : ¬ (tyK k).1 = 0 := fun e0 => by
            have := (by decide +kernel : ∀ k : Fin 122, (tyK k.1).1 = 0 → k.1 = 0) ⟨k, hk⟩ e0
            exact c1 this
          by_cases t9 : (tyK k).1 = 9
          · unfold tyOk at ok ⊢
            rw [if_neg (by rw [t9]; decide), if_neg (by rw [t9]; decide), if_neg (by rw [t9]; decide), if_neg (by rw [t9]; decide), if_neg (by rw [t9]; decide), if_neg (by rw [t9]; decide), if_neg (by rw [t9]; decide), if_neg (by rw [t9]; decide), if_neg (by rw [t9]; decide), if_pos t9] at ok ⊢
            obtain ⟨x0, x1, x2, x3, x4, x5, x6', x8, x9, x10, rfl, w1, w2⟩ := ok
            refine ⟨x0, x1, x2, x3, x4, x5, x6', x8, x9, x10, rfl, w1, fun e => ?_⟩
            have ek : k = q4 := by rw [e, c.2.1]
            subst ek
            have eo := Option.some.inj (he2.symm.trans HQo)
            have ev := (Prod.mk.inj (Sum.inr.inj (Sum.inr.inj eo))).2
            simp only [List.cons.injEq, Value.int.injEq, and_true, true_and] at ev
            obtain ⟨v0, v1, v2, v3, v4, v5, v6, -⟩ := ev
            exact ⟨v0.trans (hq 0 (by decide)), v1.trans (hq 1 (by decide)), v2.trans (hq 2 (by decide)), v3.trans (hq 3 (by decide)), v4.trans (hq 4 (by decide)), v5.trans (hq 5 (by decide)), v6.trans (hq 6 (by decide))⟩
          · unfold tyOk at ok ⊢
            simp only [if_neg t0, if_neg t1, if_neg t4, if_neg t9] at ok ⊢
            exact ok
  · obtain ⟨f9, e9⟩ := H.2.2.1
    exact ⟨f9, (f 139 (by decide)).trans e9⟩
end TQ
def fB (a : Int64) (s : Int32) : Int32 := ((a.toUInt64 >>> (s.toInt64.toUInt64 &&& Int64.toUInt64 63)).toInt64).toInt32 &&& 255
def f8 (l : List Int32) (a : Int64) : List Int32 := (((((((l ++ [fB a 56]) ++ [fB a 48]) ++ [fB a 40]) ++ [fB a 32]) ++ [fB a 24]) ++ [fB a 16]) ++ [fB a 8]) ++ [fB a 0]
theorem f8_len {l : List Int32} {a : Int64} : (f8 l a).length = l.length + 8 := by
  unfold f8
  simp only [List.length_append, List.length_singleton] <;> omega

set_option maxRecDepth 100000 in
set_option maxHeartbeats 4000000 in
theorem tX7_feedEight {T : tyT} {R : Nat} {J : Nat → Prop} {Bc Bs : Nat} {M : gMd} {z : Nat → Nat} {hp : List gA} {a0 : Int64} (H : tyS T R J Bc Bs M z hp) (hL : T.tp.length + 8 ≤ 96) : gM yX7_feedEight cX7_feedEight 4 (none) 3 103 [.ref 0, .long a0] (hp) (0) (0) (fun v h => v = none ∧ tyS (T.stp (f8 T.tp a0)) R J Bc Bs M z h) := by
  refine gM_of (ls0 := [some (.ref 0), some (.long a0), none, none]) (by decide +kernel) (Nat.le_of_ble_eq_true rfl) rfl fun X C E => ?_
  refine g_bipush (v := 56) (q := 2) C dX7_feedEight_0 (by decide) rfl ?_
  refine g_istore_n (q := 3) C dX7_feedEight_2 (Nat.le_of_ble_eq_true rfl) (by simp only [gset]; rfl) rfl ?_
  obtain ⟨T0, hT0⟩ : ∃ T0, T0 = T := ⟨_, rfl⟩
  have H0 : tyS T0 R J Bc Bs M z hp := by rw [hT0]; exact H
  have n0 : T0.tp.length = T.tp.length + 0 := by rw [hT0]; rfl
  refine g_iload_n (q := 4) C dX7_feedEight_3 rfl rfl ?_
  refine g_if_lt_f (t := 28) (q := 7) C dX7_feedEight_4 (by decide) rfl (by decide) ?_
  refine g_aload_n (q := 8) C dX7_feedEight_7 rfl rfl ?_
  obtain ⟨x6_0, q4_0, q5_0, o0, -, -, -⟩ := tyG7 H0 (rfl : tyK 0 = (0, 0))
  refine g_getfield (v := .ref 1) (q := 11) C fX7_14 dX7_feedEight_8 rfl o0 rfl ?_
  refine g_lload_n (q := 12) C dX7_feedEight_11 rfl rfl ?_
  refine g_iload_n (q := 13) C dX7_feedEight_12 rfl rfl ?_
  refine g_lushr (q := 14) C dX7_feedEight_13 rfl ?_
  refine g_l2i (q := 15) C dX7_feedEight_14 rfl ?_
  refine g_sipush (v := 255) (q := 18) C dX7_feedEight_15 (by decide) rfl ?_
  refine g_iand (q := 19) C dX7_feedEight_18 rfl ?_
  obtain ⟨l0, g0, -⟩ := tyRow H0 (rfl : tyK 1 = (1, 96))
  refine g_callVvp (q := 22) (As := [.int (fB a0 56)]) C gyX4_add gvX4_add t_471 (tX4_add_T H0 (by omega)) dX7_feedEight_19 rfl g0.obj rfl rfl rfl (Nat.le_of_ble_eq_true rfl) (Nat.le_of_ble_eq_true rfl) (Nat.le_of_ble_eq_true rfl) (Nat.le_of_ble_eq_true rfl) (Nat.le_of_ble_eq_true rfl) rfl (fun h0 q0 => ?_)
  obtain ⟨T1, hT1, H1⟩ : ∃ T', T' = T0.stp (T0.tp ++ [fB a0 56]) ∧ tyS T' R J Bc Bs M z h0 := ⟨_, rfl, q0⟩
  have n1 : T1.tp.length = T.tp.length + 1 := by rw [hT1]; show (T0.tp ++ [fB a0 56]).length = _; rw [List.length_append, n0]; rfl
  refine g_iinc (v := 48) (q := 25) C dX7_feedEight_22 rfl (by decide) (by simp only [gset]; rfl) rfl ?_
  refine g_goto (q := 3) C dX7_feedEight_25 (by decide) ?_
  refine g_iload_n (q := 4) C dX7_feedEight_3 rfl rfl ?_
  refine g_if_lt_f (t := 28) (q := 7) C dX7_feedEight_4 (by decide) rfl (by decide) ?_
  refine g_aload_n (q := 8) C dX7_feedEight_7 rfl rfl ?_
  obtain ⟨x6_1, q4_1, q5_1, o1, -, -, -⟩ := tyG7 H1 (rfl : tyK 0 = (0, 0))
  refine g_getfield (v := .ref 1) (q := 11) C fX7_14 dX7_feedEight_8 rfl o1 rfl ?_
  refine g_lload_n (q := 12) C dX7_feedEight_11 rfl rfl ?_
  refine g_iload_n (q := 13) C dX7_feedEight_12 rfl rfl ?_
  refine g_lushr (q := 14) C dX7_feedEight_13 rfl ?_
  refine g_l2i (q := 15) C dX7_feedEight_14 rfl ?_
  refine g_sipush (v := 255) (q := 18) C dX7_feedEight_15 (by decide) rfl ?_
  refine g_iand (q := 19) C dX7_feedEight_18 rfl ?_
  obtain ⟨l1, g1, -⟩ := tyRow H1 (rfl : tyK 1 = (1, 96))
  refine g_callVvp (q := 22) (As := [.int (fB a0 48)]) C gyX4_add gvX4_add t_471 (tX4_add_T H1 (by omega)) dX7_feedEight_19 rfl g1.obj rfl rfl rfl (Nat.le_of_ble_eq_true rfl) (Nat.le_of_ble_eq_true rfl) (Nat.le_of_ble_eq_true rfl) (Nat.le_of_ble_eq_true rfl) (Nat.le_of_ble_eq_true rfl) rfl (fun h1 q1 => ?_)
  obtain ⟨T2, hT2, H2⟩ : ∃ T', T' = T1.stp (T1.tp ++ [fB a0 48]) ∧ tyS T' R J Bc Bs M z h1 := ⟨_, rfl, q1⟩
  have n2 : T2.tp.length = T.tp.length + 2 := by rw [hT2]; show (T1.tp ++ [fB a0 48]).length = _; rw [List.length_append, n1]; rfl
  refine g_iinc (v := 40) (q := 25) C dX7_feedEight_22 rfl (by decide) (by simp only [gset]; rfl) rfl ?_
  refine g_goto (q := 3) C dX7_feedEight_25 (by decide) ?_
  refine g_iload_n (q := 4) C dX7_feedEight_3 rfl rfl ?_
  refine g_if_lt_f (t := 28) (q := 7) C dX7_feedEight_4 (by decide) rfl (by decide) ?_
  refine g_aload_n (q := 8) C dX7_feedEight_7 rfl rfl ?_
  obtain ⟨x6_2, q4_2, q5_2, o2, -, -, -⟩ := tyG7 H2 (rfl : tyK 0 = (0, 0))
  refine g_getfield (v := .ref 1) (q := 11) C fX7_14 dX7_feedEight_8 rfl o2 rfl ?_
  refine g_lload_n (q := 12) C dX7_feedEight_11 rfl rfl ?_
  refine g_iload_n (q := 13) C dX7_feedEight_12 rfl rfl ?_
  refine g_lushr (q := 14) C dX7_feedEight_13 rfl ?_
  refine g_l2i (q := 15) C dX7_feedEight_14 rfl ?_
  refine g_sipush (v := 255) (q := 18) C dX7_feedEight_15 (by decide) rfl ?_
  refine g_iand (q := 19) C dX7_feedEight_18 rfl ?_
  obtain ⟨l2, g2, -⟩ := tyRow H2 (rfl : tyK 1 = (1, 96))
  refine g_callVvp (q := 22) (As := [.int (fB a0 40)]) C gyX4_add gvX4_add t_471 (tX4_add_T H2 (by omega)) dX7_feedEight_19 rfl g2.obj rfl rfl rfl (Nat.le_of_ble_eq_true rfl) (Nat.le_of_ble_eq_true rfl) (Nat.le_of_ble_eq_true rfl) (Nat.le_of_ble_eq_true rfl) (Nat.le_of_ble_eq_true rfl) rfl (fun h2 q2 => ?_)
  obtain ⟨T3, hT3, H3⟩ : ∃ T', T' = T2.stp (T2.tp ++ [fB a0 40]) ∧ tyS T' R J Bc Bs M z h2 := ⟨_, rfl, q2⟩
  have n3 : T3.tp.length = T.tp.length + 3 := by rw [hT3]; show (T2.tp ++ [fB a0 40]).length = _; rw [List.length_append, n2]; rfl
  refine g_iinc (v := 32) (q := 25) C dX7_feedEight_22 rfl (by decide) (by simp only [gset]; rfl) rfl ?_
  refine g_goto (q := 3) C dX7_feedEight_25 (by decide) ?_
  refine g_iload_n (q := 4) C dX7_feedEight_3 rfl rfl ?_
  refine g_if_lt_f (t := 28) (q := 7) C dX7_feedEight_4 (by decide) rfl (by decide) ?_
  refine g_aload_n (q := 8) C dX7_feedEight_7 rfl rfl ?_
  obtain ⟨x6_3, q4_3, q5_3, o3, -, -, -⟩ := tyG7 H3 (rfl : tyK 0 = (0, 0))
  refine g_getfield (v := .ref 1) (q := 11) C fX7_14 dX7_feedEight_8 rfl o3 rfl ?_
  refine g_lload_n (q := 12) C dX7_feedEight_11 rfl rfl ?_
  refine g_iload_n (q := 13) C dX7_feedEight_12 rfl rfl ?_
  refine g_lushr (q := 14) C dX7_feedEight_13 rfl ?_
  refine g_l2i (q := 15) C dX7_feedEight_14 rfl ?_
  refine g_sipush (v := 255) (q := 18) C dX7_feedEight_15 (by decide) rfl ?_
  refine g_iand (q := 19) C dX7_feedEight_18 rfl ?_
  obtain ⟨l3, g3, -⟩ := tyRow H3 (rfl : tyK 1 = (1, 96))
  refine g_callVvp (q := 22) (As := [.int (fB a0 32)]) C gyX4_add gvX4_add t_471 (tX4_add_T H3 (by omega)) dX7_feedEight_19 rfl g3.obj rfl rfl rfl (Nat.le_of_ble_eq_true rfl) (Nat.le_of_ble_eq_true rfl) (Nat.le_of_ble_eq_true rfl) (Nat.le_of_ble_eq_true rfl) (Nat.le_of_ble_eq_true rfl) rfl (fun h3 q3 => ?_)
  obtain ⟨T4, hT4, H4⟩ : ∃ T', T' = T3.stp (T3.tp ++ [fB a0 32]) ∧ tyS T' R J Bc Bs M z h3 := ⟨_, rfl, q3⟩
  have n4 : T4.tp.length = T.tp.length + 4 := by rw [hT4]; show (T3.tp ++ [fB a0 32]).length = _; rw [List.length_append, n3]; rfl
  refine g_iinc (v := 24) (q := 25) C dX7_feedEight_22 rfl (by decide) (by simp only [gset]; rfl) rfl ?_
  refine g_goto (q := 3) C dX7_feedEight_25 (by decide) ?_
  refine g_iload_n (q := 4) C dX7_feedEight_3 rfl rfl ?_
  refine g_if_lt_f (t := 28) (q := 7) C dX7_feedEight_4 (by decide) rfl (by decide) ?_
  refine g_aload_n (q := 8) C dX7_feedEight_7 rfl rfl ?_
  obtain ⟨x6_4, q4_4, q5_4, o4, -, -, -⟩ := tyG7 H4 (rfl : tyK 0 = (0, 0))
  refine g_getfield (v := .ref 1) (q := 11) C fX7_14 dX7_feedEight_8 rfl o4 rfl ?_
  refine g_lload_n (q := 12) C dX7_feedEight_11 rfl rfl ?_
  refine g_iload_n (q := 13) C dX7_feedEight_12 rfl rfl ?_
  refine g_lushr (q := 14) C dX7_feedEight_13 rfl ?_
  refine g_l2i (q := 15) C dX7_feedEight_14 rfl ?_
  refine g_sipush (v := 255) (q := 18) C dX7_feedEight_15 (by decide) rfl ?_
  refine g_iand (q := 19) C dX7_feedEight_18 rfl ?_
  obtain ⟨l4, g4, -⟩ := tyRow H4 (rfl : tyK 1 = (1, 96))
  refine g_callVvp (q := 22) (As := [.int (fB a0 24)]) C gyX4_add gvX4_add t_471 (tX4_add_T H4 (by omega)) dX7_feedEight_19 rfl g4.obj rfl rfl rfl (Nat.le_of_ble_eq_true rfl) (Nat.le_of_ble_eq_true rfl) (Nat.le_of_ble_eq_true rfl) (Nat.le_of_ble_eq_true rfl) (Nat.le_of_ble_eq_true rfl) rfl (fun h4 q4 => ?_)
  obtain ⟨T5, hT5, H5⟩ : ∃ T', T' = T4.stp (T4.tp ++ [fB a0 24]) ∧ tyS T' R J Bc Bs M z h4 := ⟨_, rfl, q4⟩
  have n5 : T5.tp.length = T.tp.length + 5 := by rw [hT5]; show (T4.tp ++ [fB a0 24]).length = _; rw [List.length_append, n4]; rfl
  refine g_iinc (v := 16) (q := 25) C dX7_feedEight_22 rfl (by decide) (by simp only [gset]; rfl) rfl ?_
  refine g_goto (q := 3) C dX7_feedEight_25 (by decide) ?_
  refine g_iload_n (q := 4) C dX7_feedEight_3 rfl rfl ?_
  refine g_if_lt_f (t := 28) (q := 7) C dX7_feedEight_4 (by decide) rfl (by decide) ?_
  refine g_aload_n (q := 8) C dX7_feedEight_7 rfl rfl ?_
  obtain ⟨x6_5, q4_5, q5_5, o5, -, -, -⟩ := tyG7 H5 (rfl : tyK 0 = (0, 0))
  refine g_getfield (v := .ref 1) (q := 11) C fX7_14 dX7_feedEight_8 rfl o5 rfl ?_
  refine g_lload_n (q := 12) C dX7_feedEight_11 rfl rfl ?_
  refine g_iload_n (q := 13) C dX7_feedEight_12 rfl rfl ?_
  refine g_lushr (q := 14) C dX7_feedEight_13 rfl ?_
  refine g_l2i (q := 15) C dX7_feedEight_14 rfl ?_
  refine g_sipush (v := 255) (q := 18) C dX7_feedEight_15 (by decide) rfl ?_
  refine g_iand (q := 19) C dX7_feedEight_18 rfl ?_
  obtain ⟨l5, g5, -⟩ := tyRow H5 (rfl : tyK 1 = (1, 96))
  refine g_callVvp (q := 22) (As := [.int (fB a0 16)]) C gyX4_add gvX4_add t_471 (tX4_add_T H5 (by omega)) dX7_feedEight_19 rfl g5.obj rfl rfl rfl (Nat.le_of_ble_eq_true rfl) (Nat.le_of_ble_eq_true rfl) (Nat.le_of_ble_eq_true rfl) (Nat.le_of_ble_eq_true rfl) (Nat.le_of_ble_eq_true rfl) rfl (fun h5 q5 => ?_)
  obtain ⟨T6, hT6, H6⟩ : ∃ T', T' = T5.stp (T5.tp ++ [fB a0 16]) ∧ tyS T' R J Bc Bs M z h5 := ⟨_, rfl, q5⟩
  have n6 : T6.tp.length = T.tp.length + 6 := by rw [hT6]; show (T5.tp ++ [fB a0 16]).length = _; rw [List.length_append, n5]; rfl
  refine g_iinc (v := 8) (q := 25) C dX7_feedEight_22 rfl (by decide) (by simp only [gset]; rfl) rfl ?_
  refine g_goto (q := 3) C dX7_feedEight_25 (by decide) ?_
  refine g_iload_n (q := 4) C dX7_feedEight_3 rfl rfl ?_
  refine g_if_lt_f (t := 28) (q := 7) C dX7_feedEight_4 (by decide) rfl (by decide) ?_
  refine g_aload_n (q := 8) C dX7_feedEight_7 rfl rfl ?_
  obtain ⟨x6_6, q4_6, q5_6, o6, -, -, -⟩ := tyG7 H6 (rfl : tyK 0 = (0, 0))
  refine g_getfield (v := .ref 1) (q := 11) C fX7_14 dX7_feedEight_8 rfl o6 rfl ?_
  refine g_lload_n (q := 12) C dX7_feedEight_11 rfl rfl ?_
  refine g_iload_n (q := 13) C dX7_feedEight_12 rfl rfl ?_
  refine g_lushr (q := 14) C dX7_feedEight_13 rfl ?_
  refine g_l2i (q := 15) C dX7_feedEight_14 rfl ?_
  refine g_sipush (v := 255) (q := 18) C dX7_feedEight_15 (by decide) rfl ?_
  refine g_iand (q := 19) C dX7_feedEight_18 rfl ?_
  obtain ⟨l6, g6, -⟩ := tyRow H6 (rfl : tyK 1 = (1, 96))
  refine g_callVvp (q := 22) (As := [.int (fB a0 8)]) C gyX4_add gvX4_add t_471 (tX4_add_T H6 (by omega)) dX7_feedEight_19 rfl g6.obj rfl rfl rfl (Nat.le_of_ble_eq_true rfl) (Nat.le_of_ble_eq_true rfl) (Nat.le_of_ble_eq_true rfl) (Nat.le_of_ble_eq_true rfl) (Nat.le_of_ble_eq_true rfl) rfl (fun h6 q6 => ?_)
  obtain ⟨T7, hT7, H7⟩ : ∃ T', T' = T6.stp (T6.tp ++ [fB a0 8]) ∧ tyS T' R J Bc Bs M z h6 := ⟨_, rfl, q6⟩
  have n7 : T7.tp.length = T.tp.length + 7 := by rw [hT7]; show (T6.tp ++ [fB a0 8]).length = _; rw [List.length_append, n6]; rfl
  refine g_iinc (v := 0) (q := 25) C dX7_feedEight_22 rfl (by decide) (by simp only [gset]; rfl) rfl ?_
  refine g_goto (q := 3) C dX7_feedEight_25 (by decide) ?_
  refine g_iload_n (q := 4) C dX7_feedEight_3 rfl rfl ?_
  refine g_if_lt_f (t := 28) (q := 7) C dX7_feedEight_4 (by decide) rfl (by decide) ?_
  refine g_aload_n (q := 8) C dX7_feedEight_7 rfl rfl ?_
  obtain ⟨x6_7, q4_7, q5_7, o7, -, -, -⟩ := tyG7 H7 (rfl : tyK 0 = (0, 0))
  refine g_getfield (v := .ref 1) (q := 11) C fX7_14 dX7_feedEight_8 rfl o7 rfl ?_
  refine g_lload_n (q := 12) C dX7_feedEight_11 rfl rfl ?_
  refine g_iload_n (q := 13) C dX7_feedEight_12 rfl rfl ?_
  refine g_lushr (q := 14) C dX7_feedEight_13 rfl ?_
  refine g_l2i (q := 15) C dX7_feedEight_14 rfl ?_
  refine g_sipush (v := 255) (q := 18) C dX7_feedEight_15 (by decide) rfl ?_
  refine g_iand (q := 19) C dX7_feedEight_18 rfl ?_
  obtain ⟨l7, g7, -⟩ := tyRow H7 (rfl : tyK 1 = (1, 96))
  refine g_callVvp (q := 22) (As := [.int (fB a0 0)]) C gyX4_add gvX4_add t_471 (tX4_add_T H7 (by omega)) dX7_feedEight_19 rfl g7.obj rfl rfl rfl (Nat.le_of_ble_eq_true rfl) (Nat.le_of_ble_eq_true rfl) (Nat.le_of_ble_eq_true rfl) (Nat.le_of_ble_eq_true rfl) (Nat.le_of_ble_eq_true rfl) rfl (fun h7 q7 => ?_)
  obtain ⟨T8, hT8, H8⟩ : ∃ T', T' = T7.stp (T7.tp ++ [fB a0 0]) ∧ tyS T' R J Bc Bs M z h7 := ⟨_, rfl, q7⟩
  have n8 : T8.tp.length = T.tp.length + 8 := by rw [hT8]; show (T7.tp ++ [fB a0 0]).length = _; rw [List.length_append, n7]; rfl
  refine g_iinc (v := (-8)) (q := 25) C dX7_feedEight_22 rfl (by decide) (by simp only [gset]; rfl) rfl ?_
  refine g_goto (q := 3) C dX7_feedEight_25 (by decide) ?_
  refine g_iload_n (q := 4) C dX7_feedEight_3 rfl rfl ?_
  refine g_if_lt_t (t := 28) C dX7_feedEight_4 (by decide) (by decide) ?_
  have e : T8 = T.stp (f8 T.tp a0) := by rw [hT8, hT7, hT6, hT5, hT4, hT3, hT2, hT1, hT0]; rfl
  exact E.2.1 _ _ _ _ _ dX7_feedEight_28 rfl (Nat.le_of_ble_eq_true rfl) (Nat.le_of_ble_eq_true rfl) ⟨rfl, by rw [← e]; exact H8⟩
