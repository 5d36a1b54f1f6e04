/-! THE TAPE'S CALLS, RESET, ANSWER, HISTORICAL, EXACTLY (by program: wip/p4/m_card.py) -/
theorem dX7_feedEight_0 : decode cX7_feedEight 0 = .ok (.bipush 56, 2) := by decide +kernel
theorem dX7_feedEight_2 : decode cX7_feedEight 2 = .ok (.istore_n 3, 1) := by decide +kernel
theorem dX7_feedEight_3 : decode cX7_feedEight 3 = .ok (.iload_n 3, 1) := by decide +kernel
theorem dX7_feedEight_4 : decode cX7_feedEight 4 = .ok (.ifCond .lt 24, 3) := by decide +kernel
theorem dX7_feedEight_7 : decode cX7_feedEight 7 = .ok (.aload_n 0, 1) := by decide +kernel
theorem dX7_feedEight_8 : decode cX7_feedEight 8 = .ok (.getfield 14, 3) := by decide +kernel
theorem dX7_feedEight_11 : decode cX7_feedEight 11 = .ok (.lload_n 1, 1) := by decide +kernel
theorem dX7_feedEight_12 : decode cX7_feedEight 12 = .ok (.iload_n 3, 1) := by decide +kernel
theorem dX7_feedEight_13 : decode cX7_feedEight 13 = .ok (.lushr, 1) := by decide +kernel
theorem dX7_feedEight_14 : decode cX7_feedEight 14 = .ok (.l2i, 1) := by decide +kernel
theorem dX7_feedEight_15 : decode cX7_feedEight 15 = .ok (.sipush 255, 3) := by decide +kernel
theorem dX7_feedEight_18 : decode cX7_feedEight 18 = .ok (.iand, 1) := by decide +kernel
theorem dX7_feedEight_19 : decode cX7_feedEight 19 = .ok (.invokevirtual 63, 3) := by decide +kernel
theorem dX7_feedEight_22 : decode cX7_feedEight 22 = .ok (.iinc 3 (-8), 3) := by decide +kernel
theorem dX7_feedEight_25 : decode cX7_feedEight 25 = .ok (.goto (-22), 3) := by decide +kernel
theorem dX7_feedEight_28 : decode cX7_feedEight 28 = .ok (.return_, 1) := by decide +kernel
theorem dX7_feed_0 : decode cX7_feed 0 = .ok (.aload_n 0, 1) := by decide +kernel
theorem dX7_feed_1 : decode cX7_feed 1 = .ok (.getfield 14, 3) := by decide +kernel
theorem dX7_feed_4 : decode cX7_feed 4 = .ok (.invokevirtual 55, 3) := by decide +kernel
theorem dX7_feed_7 : decode cX7_feed 7 = .ok (.bipush 16, 2) := by decide +kernel
theorem dX7_feed_9 : decode cX7_feed 9 = .ok (.iadd, 1) := by decide +kernel
theorem dX7_feed_10 : decode cX7_feed 10 = .ok (.bipush 96, 2) := by decide +kernel
theorem dX7_feed_12 : decode cX7_feed 12 = .ok (.if_icmp .le 5, 3) := by decide +kernel
theorem dX7_feed_15 : decode cX7_feed 15 = .ok (.iconst (-1), 1) := by decide +kernel
theorem dX7_feed_16 : decode cX7_feed 16 = .ok (.ireturn, 1) := by decide +kernel
theorem dX7_feed_17 : decode cX7_feed 17 = .ok (.aload_n 0, 1) := by decide +kernel
theorem dX7_feed_18 : decode cX7_feed 18 = .ok (.lload_n 1, 1) := by decide +kernel
theorem dX7_feed_19 : decode cX7_feed 19 = .ok (.invokevirtual 59, 3) := by decide +kernel
theorem dX7_feed_22 : decode cX7_feed 22 = .ok (.aload_n 0, 1) := by decide +kernel
theorem dX7_feed_23 : decode cX7_feed 23 = .ok (.lload_n 3, 1) := by decide +kernel
theorem dX7_feed_24 : decode cX7_feed 24 = .ok (.invokevirtual 59, 3) := by decide +kernel
theorem dX7_feed_27 : decode cX7_feed 27 = .ok (.aload_n 0, 1) := by decide +kernel
theorem dX7_feed_28 : decode cX7_feed 28 = .ok (.getfield 14, 3) := by decide +kernel
theorem dX7_feed_31 : decode cX7_feed 31 = .ok (.invokevirtual 55, 3) := by decide +kernel
theorem dX7_feed_34 : decode cX7_feed 34 = .ok (.ireturn, 1) := by decide +kernel
theorem dX7_end_0 : decode cX7_end 0 = .ok (.iload_n 1, 1) := by decide +kernel
theorem dX7_end_1 : decode cX7_end 1 = .ok (.ifCond .lt 14, 3) := by decide +kernel
theorem dX7_end_4 : decode cX7_end 4 = .ok (.iload_n 1, 1) := by decide +kernel
theorem dX7_end_5 : decode cX7_end 5 = .ok (.aload_n 0, 1) := by decide +kernel
theorem dX7_end_6 : decode cX7_end 6 = .ok (.getfield 14, 3) := by decide +kernel
theorem dX7_end_9 : decode cX7_end 9 = .ok (.invokevirtual 55, 3) := by decide +kernel
theorem dX7_end_12 : decode cX7_end 12 = .ok (.if_icmp .le 5, 3) := by decide +kernel
theorem dX7_end_15 : decode cX7_end 15 = .ok (.iconst (-1), 1) := by decide +kernel
theorem dX7_end_16 : decode cX7_end 16 = .ok (.ireturn, 1) := by decide +kernel
theorem dX7_end_17 : decode cX7_end 17 = .ok (.aload_n 0, 1) := by decide +kernel
theorem dX7_end_18 : decode cX7_end 18 = .ok (.getfield 14, 3) := by decide +kernel
theorem dX7_end_21 : decode cX7_end 21 = .ok (.iload_n 1, 1) := by decide +kernel
theorem dX7_end_22 : decode cX7_end 22 = .ok (.invokevirtual 67, 3) := by decide +kernel
theorem dX7_end_25 : decode cX7_end 25 = .ok (.iload_n 1, 1) := by decide +kernel
theorem dX7_end_26 : decode cX7_end 26 = .ok (.ireturn, 1) := by decide +kernel
theorem dX7_reset_0 : decode cX7_reset 0 = .ok (.aload_n 0, 1) := by decide +kernel
theorem dX7_reset_1 : decode cX7_reset 1 = .ok (.getfield 48, 3) := by decide +kernel
theorem dX7_reset_4 : decode cX7_reset 4 = .ok (.aload_n 0, 1) := by decide +kernel
theorem dX7_reset_5 : decode cX7_reset 5 = .ok (.getfield 14, 3) := by decide +kernel
theorem dX7_reset_8 : decode cX7_reset 8 = .ok (.invokevirtual 70, 3) := by decide +kernel
theorem dX7_reset_11 : decode cX7_reset 11 = .ok (.istore_n 1, 1) := by decide +kernel
theorem dX7_reset_12 : decode cX7_reset 12 = .ok (.aload_n 0, 1) := by decide +kernel
theorem dX7_reset_13 : decode cX7_reset 13 = .ok (.getfield 14, 3) := by decide +kernel
theorem dX7_reset_16 : decode cX7_reset 16 = .ok (.iconst 0, 1) := by decide +kernel
theorem dX7_reset_17 : decode cX7_reset 17 = .ok (.invokevirtual 67, 3) := by decide +kernel
theorem dX7_reset_20 : decode cX7_reset 20 = .ok (.iload_n 1, 1) := by decide +kernel
theorem dX7_reset_21 : decode cX7_reset 21 = .ok (.ifCond .eq 8, 3) := by decide +kernel
theorem dX7_reset_24 : decode cX7_reset 24 = .ok (.bipush (-2), 2) := by decide +kernel
theorem dX7_reset_26 : decode cX7_reset 26 = .ok (.iload_n 1, 1) := by decide +kernel
theorem dX7_reset_27 : decode cX7_reset 27 = .ok (.isub, 1) := by decide +kernel
theorem dX7_reset_28 : decode cX7_reset 28 = .ok (.ireturn, 1) := by decide +kernel
theorem dX7_reset_29 : decode cX7_reset 29 = .ok (.aload_n 0, 1) := by decide +kernel
theorem dX7_reset_30 : decode cX7_reset 30 = .ok (.getfield 44, 3) := by decide +kernel
theorem dX7_reset_33 : decode cX7_reset 33 = .ok (.astore_n 2, 1) := by decide +kernel
theorem dX7_reset_34 : decode cX7_reset 34 = .ok (.aload_n 0, 1) := by decide +kernel
theorem dX7_reset_35 : decode cX7_reset 35 = .ok (.aload_n 0, 1) := by decide +kernel
theorem dX7_reset_36 : decode cX7_reset 36 = .ok (.getfield 48, 3) := by decide +kernel
theorem dX7_reset_39 : decode cX7_reset 39 = .ok (.putfield 44, 3) := by decide +kernel
theorem dX7_reset_42 : decode cX7_reset 42 = .ok (.aload_n 0, 1) := by decide +kernel
theorem dX7_reset_43 : decode cX7_reset 43 = .ok (.aload_n 2, 1) := by decide +kernel
theorem dX7_reset_44 : decode cX7_reset 44 = .ok (.putfield 48, 3) := by decide +kernel
theorem dX7_reset_47 : decode cX7_reset 47 = .ok (.aload_n 0, 1) := by decide +kernel
theorem dX7_reset_48 : decode cX7_reset 48 = .ok (.iconst 1, 1) := by decide +kernel
theorem dX7_reset_49 : decode cX7_reset 49 = .ok (.putfield 51, 3) := by decide +kernel
theorem dX7_reset_52 : decode cX7_reset 52 = .ok (.aload_n 0, 1) := by decide +kernel
theorem dX7_reset_53 : decode cX7_reset 53 = .ok (.getfield 21, 3) := by decide +kernel
theorem dX7_reset_56 : decode cX7_reset 56 = .ok (.invokevirtual 74, 3) := by decide +kernel
theorem dX7_reset_59 : decode cX7_reset 59 = .ok (.aload_n 0, 1) := by decide +kernel
theorem dX7_reset_60 : decode cX7_reset 60 = .ok (.getfield 30, 3) := by decide +kernel
theorem dX7_reset_63 : decode cX7_reset 63 = .ok (.aload_n 0, 1) := by decide +kernel
theorem dX7_reset_64 : decode cX7_reset 64 = .ok (.getfield 44, 3) := by decide +kernel
theorem dX7_reset_67 : decode cX7_reset 67 = .ok (.invokevirtual 77, 3) := by decide +kernel
theorem dX7_reset_70 : decode cX7_reset 70 = .ok (.invokevirtual 80, 3) := by decide +kernel
theorem dX7_reset_73 : decode cX7_reset 73 = .ok (.aload_n 0, 1) := by decide +kernel
theorem dX7_reset_74 : decode cX7_reset 74 = .ok (.getfield 37, 3) := by decide +kernel
theorem dX7_reset_77 : decode cX7_reset 77 = .ok (.invokevirtual 83, 3) := by decide +kernel
theorem dX7_reset_80 : decode cX7_reset 80 = .ok (.aload_n 0, 1) := by decide +kernel
theorem dX7_reset_81 : decode cX7_reset 81 = .ok (.getfield 44, 3) := by decide +kernel
theorem dX7_reset_84 : decode cX7_reset 84 = .ok (.invokevirtual 86, 3) := by decide +kernel
theorem dX7_reset_87 : decode cX7_reset 87 = .ok (.ireturn, 1) := by decide +kernel
theorem dX7_message_0 : decode cX7_message 0 = .ok (.iconst (-1), 1) := by decide +kernel
theorem dX7_message_1 : decode cX7_message 1 = .ok (.istore_n 1, 1) := by decide +kernel
theorem dX7_message_2 : decode cX7_message 2 = .ok (.aload_n 0, 1) := by decide +kernel
theorem dX7_message_3 : decode cX7_message 3 = .ok (.invokevirtual 96, 3) := by decide +kernel
theorem dX7_message_6 : decode cX7_message 6 = .ok (.ifCond .eq 41, 3) := by decide +kernel
theorem dX7_message_9 : decode cX7_message 9 = .ok (.aload_n 0, 1) := by decide +kernel
theorem dX7_message_10 : decode cX7_message 10 = .ok (.getfield 14, 3) := by decide +kernel
theorem dX7_message_13 : decode cX7_message 13 = .ok (.invokevirtual 55, 3) := by decide +kernel
theorem dX7_message_16 : decode cX7_message 16 = .ok (.bipush 60, 2) := by decide +kernel
theorem dX7_message_18 : decode cX7_message 18 = .ok (.if_icmp .gt 29, 3) := by decide +kernel
theorem dX7_message_21 : decode cX7_message 21 = .ok (.aload_n 0, 1) := by decide +kernel
theorem dX7_message_22 : decode cX7_message 22 = .ok (.getfield 30, 3) := by decide +kernel
theorem dX7_message_25 : decode cX7_message 25 = .ok (.aload_n 0, 1) := by decide +kernel
theorem dX7_message_26 : decode cX7_message 26 = .ok (.getfield 14, 3) := by decide +kernel
theorem dX7_message_29 : decode cX7_message 29 = .ok (.invokevirtual 100, 3) := by decide +kernel
theorem dX7_message_32 : decode cX7_message 32 = .ok (.aload_n 0, 1) := by decide +kernel
theorem dX7_message_33 : decode cX7_message 33 = .ok (.getfield 37, 3) := by decide +kernel
theorem dX7_message_36 : decode cX7_message 36 = .ok (.invokevirtual 83, 3) := by decide +kernel
theorem dX7_message_39 : decode cX7_message 39 = .ok (.aload_n 0, 1) := by decide +kernel
theorem dX7_message_40 : decode cX7_message 40 = .ok (.getfield 30, 3) := by decide +kernel
theorem dX7_message_43 : decode cX7_message 43 = .ok (.invokevirtual 104, 3) := by decide +kernel
theorem dX7_message_46 : decode cX7_message 46 = .ok (.istore_n 1, 1) := by decide +kernel
theorem dX7_message_47 : decode cX7_message 47 = .ok (.aload_n 0, 1) := by decide +kernel
theorem dX7_message_48 : decode cX7_message 48 = .ok (.getfield 14, 3) := by decide +kernel
theorem dX7_message_51 : decode cX7_message 51 = .ok (.iconst 0, 1) := by decide +kernel
theorem dX7_message_52 : decode cX7_message 52 = .ok (.invokevirtual 67, 3) := by decide +kernel
theorem dX7_message_55 : decode cX7_message 55 = .ok (.iload_n 1, 1) := by decide +kernel
theorem dX7_message_56 : decode cX7_message 56 = .ok (.ireturn, 1) := by decide +kernel
theorem dX7_answer_0 : decode cX7_answer 0 = .ok (.aload_n 0, 1) := by decide +kernel
theorem dX7_answer_1 : decode cX7_answer 1 = .ok (.getfield 51, 3) := by decide +kernel
theorem dX7_answer_4 : decode cX7_answer 4 = .ok (.ifCond .eq 14, 3) := by decide +kernel
theorem dX7_answer_7 : decode cX7_answer 7 = .ok (.aload_n 0, 1) := by decide +kernel
theorem dX7_answer_8 : decode cX7_answer 8 = .ok (.getfield 44, 3) := by decide +kernel
theorem dX7_answer_11 : decode cX7_answer 11 = .ok (.iload_n 1, 1) := by decide +kernel
theorem dX7_answer_12 : decode cX7_answer 12 = .ok (.invokevirtual 89, 3) := by decide +kernel
theorem dX7_answer_15 : decode cX7_answer 15 = .ok (.goto 4, 3) := by decide +kernel
theorem dX7_answer_18 : decode cX7_answer 18 = .ok (.iconst (-1), 1) := by decide +kernel
theorem dX7_answer_19 : decode cX7_answer 19 = .ok (.ireturn, 1) := by decide +kernel
theorem dX7_historical_0 : decode cX7_historical 0 = .ok (.aload_n 0, 1) := by decide +kernel
theorem dX7_historical_1 : decode cX7_historical 1 = .ok (.getfield 51, 3) := by decide +kernel
theorem dX7_historical_4 : decode cX7_historical 4 = .ok (.ifCond .eq 18, 3) := by decide +kernel
theorem dX7_historical_7 : decode cX7_historical 7 = .ok (.iload_n 1, 1) := by decide +kernel
theorem dX7_historical_8 : decode cX7_historical 8 = .ok (.ifCond .lt 14, 3) := by decide +kernel
theorem dX7_historical_11 : decode cX7_historical 11 = .ok (.iload_n 1, 1) := by decide +kernel
theorem dX7_historical_12 : decode cX7_historical 12 = .ok (.aload_n 0, 1) := by decide +kernel
theorem dX7_historical_13 : decode cX7_historical 13 = .ok (.getfield 44, 3) := by decide +kernel
theorem dX7_historical_16 : decode cX7_historical 16 = .ok (.invokevirtual 86, 3) := by decide +kernel
theorem dX7_historical_19 : decode cX7_historical 19 = .ok (.if_icmp .lt 5, 3) := by decide +kernel
theorem dX7_historical_22 : decode cX7_historical 22 = .ok (.iconst (-1), 1) := by decide +kernel
theorem dX7_historical_23 : decode cX7_historical 23 = .ok (.ireturn, 1) := by decide +kernel
theorem dX7_historical_24 : decode cX7_historical 24 = .ok (.aload_n 0, 1) := by decide +kernel
theorem dX7_historical_25 : decode cX7_historical 25 = .ok (.getfield 44, 3) := by decide +kernel
theorem dX7_historical_28 : decode cX7_historical 28 = .ok (.iload_n 1, 1) := by decide +kernel
theorem dX7_historical_29 : decode cX7_historical 29 = .ok (.invokevirtual 93, 3) := by decide +kernel
theorem dX7_historical_32 : decode cX7_historical 32 = .ok (.ireturn, 1) := by decide +kernel
section TQ
variable {T : tyT} {R : Nat} {J : Nat → Prop} {Bc Bs : Nat} {M : gMd} {z : Nat → Nat} {hp h : List gA} {k a : Nat}
/-- which reset answer is in force, which is spare -/
def tyTw (T : tyT) : Prop := (T.fo = 116 ∧ T.sp = 119) ∨ (T.fo = 119 ∧ T.sp = 116)
theorem gRw.uniq {r a n : Nat} {l l' : List Int32} (H : gRw hp r a n l) (H' : gRw hp r a n l') : l = l' := by
  obtain ⟨f, h1, h2, h3, h4, h5⟩ := H
  obtain ⟨f', h1', h2', h3', h4', h5'⟩ := H'
  have e1 := Option.some.inj (h1.symm.trans h1')
  have e2 := Option.some.inj (h2.symm.trans h2')
  have el : l.length = l'.length := by
    have := (Prod.mk.inj (Sum.inr.inj (Sum.inr.inj e1))).2
    have := (List.cons.inj (List.cons.inj this).2).1
    exact nI_inj (by omega) (by omega) (Value.int.inj this)
  have ef : f = f' := (Prod.mk.inj (Sum.inl.inj e2)).2
  subst ef
  refine List.ext_getElem? fun i => ?_
  by_cases c : i < l.length
  · have a1 := h5 i c
    have a2 := h5' i (by omega)
    rw [List.getElem?_eq_getElem c, List.getElem?_eq_getElem (by omega)]
    rw [List.getD_eq_getElem?_getD, List.getElem?_eq_getElem c] at a1
    rw [List.getD_eq_getElem?_getD, List.getElem?_eq_getElem (by omega)] at a2
    exact congrArg some (a1.symm.trans a2)
  · rw [List.getElem?_eq_none (by omega), List.getElem?_eq_none (by omega)]
/-- a reset answer's record -/
theorem tyRq (H : tyS T R J Bc Bs M z hp) (hk : tyK a = (9, 0)) : ∃ (Q : rq) (l : List Int32), rqH hp a Q l ∧ rB6 Q ∧ (a = T.fo → (∀ k, k < 7 → Q.f k = T.q.f k) ∧ l = T.hi) := by
  obtain ⟨x0, x1, x2, x3, x4, x5, x6, x8, x9, x10, o, b, w⟩ := tyG3x H hk
  have k1 : tyK (a + 1) = (1, 15) := tyF3_7 hk
  obtain ⟨l, g, w2⟩ := tyRow H k1
  refine ⟨fun k => [x0, x1, x2, x3, x4, x5, x6, 0, x8, x9, x10].getD k 0, l, ⟨o, g⟩, b, fun e => ⟨fun k hk => ?_, w2.2 (by rw [e])⟩⟩
  obtain ⟨w0, w1, w2, w3, w4, w5, w6⟩ := w e
  have : k = 0 ∨ k = 1 ∨ k = 2 ∨ k = 3 ∨ k = 4 ∨ k = 5 ∨ k = 6 := by omega
  rcases this with rfl | rfl | rfl | rfl | rfl | rfl | rfl
  · exact w0
  · exact w1
  · exact w2
  · exact w3
  · exact w4
  · exact w5
  · exact w6
theorem rqF.sz {Q Q' : rq} {l l' : List Int32} (H : rqH hp a Q l) (H' : rqH h a Q' l') (F : rqF a hp h) : gsz h = gsz hp ∧ ∀ J, gJk J hp → gJk J h := by
  obtain ⟨o, f, p1, p2, -⟩ := H
  obtain ⟨o', f', p1', p2', -⟩ := H'
  have em : h.map gcs = hp.map gcs := by
    refine List.ext_getElem? fun i => ?_
    rw [List.getElem?_map, List.getElem?_map]
    by_cases e1 : i = a
    · subst e1; rw [o, o']; rfl
    · by_cases e2 : i = a + 1
      · subst e2; rw [p1, p1']; rfl
      · by_cases e3 : i = a + 2
        · subst e3; rw [p2, p2']; rfl
        · rw [F.2 i e1 e2 e3]
  have nj : ∀ (e e' : gA), e ≠ gJunk → e' ≠ gJunk → ∀ J i, gJk J hp → hp[i]? = some e → h[i]? = some e' → (h[i]? = some gJunk ↔ J i) := fun e e' n n' J i HJ h1 h2 => by
    rw [h2]
    refine ⟨fun q => absurd (Option.some.inj q) n', fun q => ?_⟩
    have := (HJ i).mpr q
    rw [h1] at this
    exact absurd (Option.some.inj this) n
  refine ⟨by unfold gsz; rw [em], fun J HJ i => ?_⟩
  by_cases e1 : i = a
  · subst e1; exact nj _ _ (gJ4 (by decide)) (gJ4 (by decide)) J _ HJ o o'
  · by_cases e2 : i = a + 1
    · subst e2; exact nj _ _ (gJ4 (by decide)) (gJ4 (by decide)) J _ HJ p1 p1'
    · by_cases e3 : i = a + 2
      · subst e3; exact nj _ _ gJ2 gJ2 J _ HJ p2 p2'
      · rw [F.2 i e1 e2 e3]; exact HJ i
/-- the spare reset answer is read into -/
theorem tyS.rq {Q : rq} {l : List Int32} (H : tyS T R J Bc Bs M z hp) (hk : tyK a = (9, 0)) (na : ¬ a = T.fo) (HQ : rqH h a Q l) (F : rqF a hp h) (hb : rB6 Q) : tyS T R J Bc Bs M z h := by
  have lt := tyK_lt hk (by decide)
  have kt : (tyK a).1 = 9 := by rw [hk]
  have k1 : tyK (a + 1) = (1, 15) := tyF3_7 hk
  have k2 : tyK (a + 2) = (2, 15) := (by decide +kernel : ∀ k : Fin 122, tyK k.1 = (9, 0) → tyK (k.1 + 2) = (2, 15)) ⟨a, lt⟩ hk
  have l1 := tyK_lt k1 (by decide)
  have l2 := tyK_lt k2 (by decide)
  have fo := tyFo H
  have ak : a = 116 ∨ a = 119 := (by decide +kernel : ∀ k : Fin 122, tyK k.1 = (9, 0) → k.1 = 116 ∨ k.1 = 119) ⟨a, lt⟩ hk
  obtain ⟨Q0, l0, H0, -, -⟩ := tyRq H hk
  obtain ⟨b1, b2, b3, b4, b5⟩ := H.2.2.2.2
  have sz := rqF.sz H0 HQ F
  obtain ⟨o, g⟩ := HQ
  refine H.mk (P := fun q => q = a ∨ q = a + 1 ∨ q = a + 2) (fun q _ c => F.2 q (fun e => c (Or.inl e)) (fun e => c (Or.inr (Or.inl e))) (fun e => c (Or.inr (Or.inr e)))) (fun q c => by have c' : q = a ∨ q = a + 1 ∨ q = a + 2 := c; omega) (fun q _ _ _ => rfl) (fun q a2 l2 m' c4 c g w => Or.inr fun e => ?_) (fun q hq c1 c e => ?_) (fun q c hq => ?_) (sz.2 J H.2.2.2.1) ⟨by rw [F.1]; exact b1, by rw [F.1]; exact b2, by rw [sz.1]; exact b3, b4, b5⟩
  · have hq : q < 122 := by
      by_cases c : q < 122
      · exact c
      · have : tyK q = (99, 0) := by
          unfold tyK
          rw [List.getD_eq_getElem?_getD, List.getElem?_eq_none (by show tyKs.length ≤ q; have : tyKs.length = 122 := rfl; omega)]; rfl
        rw [this] at c4; cases c4
    have d : q = 4 ∨ q = 6 ∨ q = 8 ∨ q = 10 := tyK4 ⟨q, hq⟩ c4
    have e' : a2 = a ∨ a2 = a + 1 ∨ a2 = a + 2 := e
    omega
  · have e' : q + 1 = a ∨ q + 1 = a + 1 ∨ q + 1 = a + 2 := e
    have c' : ¬ (q = a ∨ q = a + 1 ∨ q = a + 2) := c
    have t2 := (tyRow2 ⟨q, hq⟩ (Or.inl c1)).1
    have : q + 1 = a := by omega
    rw [this, kt] at t2
    omega
  · have c' : q = a ∨ q = a + 1 ∨ q = a + 2 := c
    rcases c' with c' | c' | c'
    · subst c'
      refine ⟨_, o, gJ4 (by decide), ?_⟩
      unfold tyOk
      rw [if_neg (by rw [kt]; decide), if_neg (by rw [kt]; decide), if_neg (by rw [kt]; decide), if_neg (by rw [kt]; decide), if_neg (by rw [kt]; decide), if_neg (by rw [kt]; decide), if_neg (by rw [kt]; decide), if_neg (by rw [kt]; decide), if_neg (by rw [kt]; decide), if_pos kt]
      exact ⟨_, _, _, _, _, _, _, _, _, _, rfl, hb, fun e => absurd e na⟩
    · subst c'
      have e1 : (tyK (a + 1)).1 = 1 := by rw [k1]
      have e2 : (tyK (a + 1)).2 = 15 := by rw [k1]
      refine ⟨_, g.obj, gJ4 (by decide), ?_⟩
      unfold tyOk
      rw [if_neg (by rw [e1]; decide), if_pos e1, e2]
      exact ⟨l, g, fun e => absurd e (by omega), fun e => absurd e (by omega)⟩
    · subst c'
      have e1 : (tyK (a + 2)).1 = 2 := by rw [k2]
      have e2 : (tyK (a + 2)).2 = 15 := by rw [k2]
      obtain ⟨f, -, q2, -⟩ := g
      refine ⟨_, q2, gJ2, ?_⟩
      unfold tyOk
      rw [if_neg (by rw [e1]; decide), if_neg (by rw [e1]; decide), if_pos e1, e2]
      exact ⟨f, rfl⟩
/-- the link's own cell is written: another reset answer in force, another spare, a card -/
theorem tyS.card {x6 y6 : Int32} {q4 q5 p4 p5 : Nat} {Q : rq} {l : List Int32} {T' : tyT} (H : tyS T R J Bc Bs M z hp) (e1 : T'.tp = T.tp) (c : x6 = T'.ci ∧ q4 = T'.fo ∧ q5 = T'.sp) (b6 : x6 = 0 ∨ x6 = 1) (b4 : q4 = 116 ∨ q4 = 119) (b5 : q5 = 116 ∨ q5 = 119) (HQ : rqH hp q4 Q l) (hq : ∀ k, k < 7 → Q.f k = T'.q.f k) (hl : l = T'.hi)
    (he : hp[0]? = some (.inr (.inr (7, [.ref 1, .ref 3, .ref 20, .ref 43, .ref p4, .ref p5, .int y6])))) : tyS T' R J Bc Bs M z (hp.set 0 (.inr (.inr (7, [.ref 1, .ref 3, .ref 20, .ref 43, .ref q4, .ref q5, .int x6])))) := by
  obtain ⟨a1, a2, a3, a4, a5⟩ := H.2.2.2.2
  have f : ∀ q, q ≠ 0 → (hp.set 0 (.inr (.inr (7, [.ref 1, .ref 3, .ref 20, .ref 43, .ref q4, .ref q5, .int x6]))))[q]? = hp[q]? := fun q c => List.getElem?_set_ne (Ne.symm c)
  obtain ⟨HQo, HQr⟩ := HQ
  refine ⟨fun k hk => ?_, ⟨(f 122 (by decide)).trans H.2.1.1, fun i hi => (f (123 + i) (by omega)).trans (H.2.1.2 i hi)⟩, ?_, H.2.2.2.1.one he (gJ4 (by decide)) (gJ4 (by decide)), by rw [List.length_set]; exact a1, by rw [List.length_set]; exact a2, Nat.le_trans (Nat.le_of_eq (gsz_set he (by rfl))) a3, a4, a5⟩
  · by_cases c1 : k = 0
    · subst c1
      refine ⟨_, gset_self he, gJ4 (by decide), ?_⟩
      have t0 : (tyK 0).1 = 0 := rfl
      unfold tyOk
      rw [if_pos t0]
      exact ⟨x6, q4, q5, rfl, b6, b4, b5, c⟩
    · obtain ⟨e, he2, hne, ok⟩ := H.1 k hk
      refine ⟨e, (f k c1).trans he2, hne, ?_⟩
      by_cases t1 : (tyK k).1 = 1
      · unfold tyOk at ok ⊢
        rw [if_neg (by rw [t1]; decide), if_pos t1] at ok ⊢
        obtain ⟨l9, g9, w⟩ := ok
        refine ⟨l9, g9.kept (f k c1) (f (k + 1) (by omega)), fun e => (w.1 e).trans e1.symm, fun e => ?_⟩
        have ek : k = q4 + 1 := by rw [e, c.2.1]
        subst ek
        have em : (tyK (q4 + 1)).2 = 15 := by rcases b4 with b | b <;> rw [b] <;> rfl
        rw [em] at g9
        rw [← hl]; exact g9.uniq HQr
      · by_cases t4 : (tyK k).1 = 4
        · unfold tyOk at ok ⊢
          rw [if_neg (by rw [t4]; decide), if_neg (by rw [t4]; decide), if_neg (by rw [t4]; decide), if_neg (by rw [t4]; decide), if_pos t4] at ok ⊢
          obtain ⟨a, l9, g9, w1, w2, w3⟩ := ok
          have d : k = 4 ∨ k = 6 ∨ k = 8 ∨ k = 10 := tyK4 ⟨k, hk⟩ t4
          exact ⟨a, l9, g9.kept (f k c1) (f a (by omega)), w1, w2, w3⟩
        · have t0 : ¬ (tyK k).1 = 0 := fun e0 => by
            have := (by decide +kernel : ∀ k : Fin 122, (tyK k.1).1 = 0 → k.1 = 0) ⟨k, hk⟩ e0
            exact c1 this
          by_cases t9 : (tyK k).1 = 9
          · unfold tyOk at ok ⊢
            rw [if_neg (by rw [t9]; decide), if_neg (by rw [t9]; decide), if_neg (by rw [t9]; decide), if_neg (by rw [t9]; decide), if_neg (by rw [t9]; decide), if_neg (by rw [t9]; decide), if_neg (by rw [t9]; decide), if_neg (by rw [t9]; decide), if_neg (by rw [t9]; decide), if_pos t9] at ok ⊢
            obtain ⟨x0, x1, x2, x3, x4, x5, x6', x8, x9, x10, rfl, w1, w2⟩ := ok
            refine ⟨x0, x1, x2, x3, x4, x5, x6', x8, x9, x10, rfl, w1, fun e => ?_⟩
            have ek : k = q4 := by rw [e, c.2.1]
            subst ek
            have eo := Option.some.inj (he2.symm.trans HQo)
            have ev := (Prod.mk.inj (Sum.inr.inj (Sum.inr.inj eo))).2
            simp only [List.cons.injEq, Value.int.injEq, and_true, true_and] at ev
            obtain ⟨v0, v1, v2, v3, v4, v5, v6, -⟩ := ev
            exact ⟨v0.trans (hq 0 (by decide)), v1.trans (hq 1 (by decide)), v2.trans (hq 2 (by decide)), v3.trans (hq 3 (by decide)), v4.trans (hq 4 (by decide)), v5.trans (hq 5 (by decide)), v6.trans (hq 6 (by decide))⟩
          · unfold tyOk at ok ⊢
            simp only [if_neg t0, if_neg t1, if_neg t4, if_neg t9] at ok ⊢
            exact ok
  · obtain ⟨f9, e9⟩ := H.2.2.1
    exact ⟨f9, (f 139 (by decide)).trans e9⟩
end TQ
def fB (a : Int64) (s : Int32) : Int32 := ((a.toUInt64 >>> (s.toInt64.toUInt64 &&& Int64.toUInt64 63)).toInt64).toInt32 &&& 255
def f8 (l : List Int32) (a : Int64) : List Int32 := (((((((l ++ [fB a 56]) ++ [fB a 48]) ++ [fB a 40]) ++ [fB a 32]) ++ [fB a 24]) ++ [fB a 16]) ++ [fB a 8]) ++ [fB a 0]
theorem f8_len {l : List Int32} {a : Int64} : (f8 l a).length = l.length + 8 := by
  unfold f8
  simp only [List.length_append, List.length_singleton]

set_option maxRecDepth 100000 in
set_option maxHeartbeats 4000000 in
theorem tX7_feedEight {T : tyT} {R : Nat} {J : Nat → Prop} {Bc Bs : Nat} {M : gMd} {z : Nat → Nat} {hp : List gA} {a0 : Int64} (H : tyS T R J Bc Bs M z hp) (hL : T.tp.length + 8 ≤ 96) : gM yX7_feedEight cX7_feedEight 4 (none) 3 103 [.ref 0, .long a0] (hp) (0) (0) (fun v h => v = none ∧ tyS (T.stp (f8 T.tp a0)) R J Bc Bs M z h) := by
  refine gM_of (ls0 := [some (.ref 0), some (.long a0), none, none]) (by decide +kernel) (Nat.le_of_ble_eq_true rfl) rfl fun X C E => ?_
  refine g_bipush (v := 56) (q := 2) C dX7_feedEight_0 (by decide) rfl ?_
  refine g_istore_n (q := 3) C dX7_feedEight_2 (Nat.le_of_ble_eq_true rfl) (by simp only [gset]; rfl) rfl ?_
  obtain ⟨T0, hT0⟩ : ∃ T0, T0 = T := ⟨_, rfl⟩
  have H0 : tyS T0 R J Bc Bs M z hp := by rw [hT0]; exact H
  have n0 : T0.tp.length = T.tp.length + 0 := by rw [hT0]; rfl
  refine g_iload_n (q := 4) C dX7_feedEight_3 rfl rfl ?_
  refine g_if_lt_f (t := 28) (q := 7) C dX7_feedEight_4 (by decide) rfl (by decide) ?_
  refine g_aload_n (q := 8) C dX7_feedEight_7 rfl rfl ?_
  obtain ⟨x6_0, q4_0, q5_0, o0, -, -, -⟩ := tyG7 H0 (rfl : tyK 0 = (0, 0))
  refine g_getfield (v := .ref 1) (q := 11) C fX7_14 dX7_feedEight_8 rfl o0 rfl ?_
  refine g_lload_n (q := 12) C dX7_feedEight_11 rfl rfl ?_
  refine g_iload_n (q := 13) C dX7_feedEight_12 rfl rfl ?_
  refine g_lushr (q := 14) C dX7_feedEight_13 rfl ?_
  refine g_l2i (q := 15) C dX7_feedEight_14 rfl ?_
  refine g_sipush (v := 255) (q := 18) C dX7_feedEight_15 (by decide) rfl ?_
  refine g_iand (q := 19) C dX7_feedEight_18 rfl ?_
  obtain ⟨l0, g0, -⟩ := tyRow H0 (rfl : tyK 1 = (1, 96))
  refine g_callVvp (q := 22) (As := [.int (fB a0 56)]) C gyX4_add gvX4_add t_471 (tX4_add_T H0 (by omega)) dX7_feedEight_19 rfl g0.obj rfl rfl rfl (Nat.le_of_ble_eq_true rfl) (Nat.le_of_ble_eq_true rfl) (Nat.le_of_ble_eq_true rfl) (Nat.le_of_ble_eq_true rfl) (Nat.le_of_ble_eq_true rfl) rfl (fun h0 q0 => ?_)
  obtain ⟨T1, hT1, H1⟩ : ∃ T', T' = T0.stp (T0.tp ++ [fB a0 56]) ∧ tyS T' R J Bc Bs M z h0 := ⟨_, rfl, q0⟩
  have n1 : T1.tp.length = T.tp.length + 1 := by rw [hT1]; show (T0.tp ++ [fB a0 56]).length = _; rw [List.length_append, n0]; rfl
  refine g_iinc (v := 48) (q := 25) C dX7_feedEight_22 rfl (by decide) (by simp only [gset]; rfl) rfl ?_
  refine g_goto (q := 3) C dX7_feedEight_25 (by decide) ?_
  refine g_iload_n (q := 4) C dX7_feedEight_3 rfl rfl ?_
  refine g_if_lt_f (t := 28) (q := 7) C dX7_feedEight_4 (by decide) rfl (by decide) ?_
  refine g_aload_n (q := 8) C dX7_feedEight_7 rfl rfl ?_
  obtain ⟨x6_1, q4_1, q5_1, o1, -, -, -⟩ := tyG7 H1 (rfl : tyK 0 = (0, 0))
  refine g_getfield (v := .ref 1) (q := 11) C fX7_14 dX7_feedEight_8 rfl o1 rfl ?_
  refine g_lload_n (q := 12) C dX7_feedEight_11 rfl rfl ?_
  refine g_iload_n (q := 13) C dX7_feedEight_12 rfl rfl ?_
  refine g_lushr (q := 14) C dX7_feedEight_13 rfl ?_
  refine g_l2i (q := 15) C dX7_feedEight_14 rfl ?_
  refine g_sipush (v := 255) (q := 18) C dX7_feedEight_15 (by decide) rfl ?_
  refine g_iand (q := 19) C dX7_feedEight_18 rfl ?_
  obtain ⟨l1, g1, -⟩ := tyRow H1 (rfl : tyK 1 = (1, 96))
  refine g_callVvp (q := 22) (As := [.int (fB a0 48)]) C gyX4_add gvX4_add t_471 (tX4_add_T H1 (by omega)) dX7_feedEight_19 rfl g1.obj rfl rfl rfl (Nat.le_of_ble_eq_true rfl) (Nat.le_of_ble_eq_true rfl) (Nat.le_of_ble_eq_true rfl) (Nat.le_of_ble_eq_true rfl) (Nat.le_of_ble_eq_true rfl) rfl (fun h1 q1 => ?_)
  obtain ⟨T2, hT2, H2⟩ : ∃ T', T' = T1.stp (T1.tp ++ [fB a0 48]) ∧ tyS T' R J Bc Bs M z h1 := ⟨_, rfl, q1⟩
  have n2 : T2.tp.length = T.tp.length + 2 := by rw [hT2]; show (T1.tp ++ [fB a0 48]).length = _; rw [List.length_append, n1]; rfl
  refine g_iinc (v := 40) (q := 25) C dX7_feedEight_22 rfl (by decide) (by simp only [gset]; rfl) rfl ?_
  refine g_goto (q := 3) C dX7_feedEight_25 (by decide) ?_
  refine g_iload_n (q := 4) C dX7_feedEight_3 rfl rfl ?_
  refine g_if_lt_f (t := 28) (q := 7) C dX7_feedEight_4 (by decide) rfl (by decide) ?_
  refine g_aload_n (q := 8) C dX7_feedEight_7 rfl rfl ?_
  obtain ⟨x6_2, q4_2, q5_2, o2, -, -, -⟩ := tyG7 H2 (rfl : tyK 0 = (0, 0))
  refine g_getfield (v := .ref 1) (q := 11) C fX7_14 dX7_feedEight_8 rfl o2 rfl ?_
  refine g_lload_n (q := 12) C dX7_feedEight_11 rfl rfl ?_
  refine g_iload_n (q := 13) C dX7_feedEight_12 rfl rfl ?_
  refine g_lushr (q := 14) C dX7_feedEight_13 rfl ?_
  refine g_l2i (q := 15) C dX7_feedEight_14 rfl ?_
  refine g_sipush (v := 255) (q := 18) C dX7_feedEight_15 (by decide) rfl ?_
  refine g_iand (q := 19) C dX7_feedEight_18 rfl ?_
  obtain ⟨l2, g2, -⟩ := tyRow H2 (rfl : tyK 1 = (1, 96))
  refine g_callVvp (q := 22) (As := [.int (fB a0 40)]) C gyX4_add gvX4_add t_471 (tX4_add_T H2 (by omega)) dX7_feedEight_19 rfl g2.obj rfl rfl rfl (Nat.le_of_ble_eq_true rfl) (Nat.le_of_ble_eq_true rfl) (Nat.le_of_ble_eq_true rfl) (Nat.le_of_ble_eq_true rfl) (Nat.le_of_ble_eq_true rfl) rfl (fun h2 q2 => ?_)
  obtain ⟨T3, hT3, H3⟩ : ∃ T', T' = T2.stp (T2.tp ++ [fB a0 40]) ∧ tyS T' R J Bc Bs M z h2 := ⟨_, rfl, q2⟩
  have n3 : T3.tp.length = T.tp.length + 3 := by rw [hT3]; show (T2.tp ++ [fB a0 40]).length = _; rw [List.length_append, n2]; rfl
  refine g_iinc (v := 32) (q := 25) C dX7_feedEight_22 rfl (by decide) (by simp only [gset]; rfl) rfl ?_
  refine g_goto (q := 3) C dX7_feedEight_25 (by decide) ?_
  refine g_iload_n (q := 4) C dX7_feedEight_3 rfl rfl ?_
  refine g_if_lt_f (t := 28) (q := 7) C dX7_feedEight_4 (by decide) rfl (by decide) ?_
  refine g_aload_n (q := 8) C dX7_feedEight_7 rfl rfl ?_
  obtain ⟨x6_3, q4_3, q5_3, o3, -, -, -⟩ := tyG7 H3 (rfl : tyK 0 = (0, 0))
  refine g_getfield (v := .ref 1) (q := 11) C fX7_14 dX7_feedEight_8 rfl o3 rfl ?_
  refine g_lload_n (q := 12) C dX7_feedEight_11 rfl rfl ?_
  refine g_iload_n (q := 13) C dX7_feedEight_12 rfl rfl ?_
  refine g_lushr (q := 14) C dX7_feedEight_13 rfl ?_
  refine g_l2i (q := 15) C dX7_feedEight_14 rfl ?_
  refine g_sipush (v := 255) (q := 18) C dX7_feedEight_15 (by decide) rfl ?_
  refine g_iand (q := 19) C dX7_feedEight_18 rfl ?_
  obtain ⟨l3, g3, -⟩ := tyRow H3 (rfl : tyK 1 = (1, 96))
  refine g_callVvp (q := 22) (As := [.int (fB a0 32)]) C gyX4_add gvX4_add t_471 (tX4_add_T H3 (by omega)) dX7_feedEight_19 rfl g3.obj rfl rfl rfl (Nat.le_of_ble_eq_true rfl) (Nat.le_of_ble_eq_true rfl) (Nat.le_of_ble_eq_true rfl) (Nat.le_of_ble_eq_true rfl) (Nat.le_of_ble_eq_true rfl) rfl (fun h3 q3 => ?_)
  obtain ⟨T4, hT4, H4⟩ : ∃ T', T' = T3.stp (T3.tp ++ [fB a0 32]) ∧ tyS T' R J Bc Bs M z h3 := ⟨_, rfl, q3⟩
  have n4 : T4.tp.length = T.tp.length + 4 := by rw [hT4]; show (T3.tp ++ [fB a0 32]).length = _; rw [List.length_append, n3]; rfl
  refine g_iinc (v := 24) (q := 25) C dX7_feedEight_22 rfl (by decide) (by simp only [gset]; rfl) rfl ?_
  refine g_goto (q := 3) C dX7_feedEight_25 (by decide) ?_
  refine g_iload_n (q := 4) C dX7_feedEight_3 rfl rfl ?_
  refine g_if_lt_f (t := 28) (q := 7) C dX7_feedEight_4 (by decide) rfl (by decide) ?_
  refine g_aload_n (q := 8) C dX7_feedEight_7 rfl rfl ?_
  obtain ⟨x6_4, q4_4, q5_4, o4, -, -, -⟩ := tyG7 H4 (rfl : tyK 0 = (0, 0))
  refine g_getfield (v := .ref 1) (q := 11) C fX7_14 dX7_feedEight_8 rfl o4 rfl ?_
  refine g_lload_n (q := 12) C dX7_feedEight_11 rfl rfl ?_
  refine g_iload_n (q := 13) C dX7_feedEight_12 rfl rfl ?_
  refine g_lushr (q := 14) C dX7_feedEight_13 rfl ?_
  refine g_l2i (q := 15) C dX7_feedEight_14 rfl ?_
  refine g_sipush (v := 255) (q := 18) C dX7_feedEight_15 (by decide) rfl ?_
  refine g_iand (q := 19) C dX7_feedEight_18 rfl ?_
  obtain ⟨l4, g4, -⟩ := tyRow H4 (rfl : tyK 1 = (1, 96))
  refine g_callVvp (q := 22) (As := [.int (fB a0 24)]) C gyX4_add gvX4_add t_471 (tX4_add_T H4 (by omega)) dX7_feedEight_19 rfl g4.obj rfl rfl rfl (Nat.le_of_ble_eq_true rfl) (Nat.le_of_ble_eq_true rfl) (Nat.le_of_ble_eq_true rfl) (Nat.le_of_ble_eq_true rfl) (Nat.le_of_ble_eq_true rfl) rfl (fun h4 q4 => ?_)
  obtain ⟨T5, hT5, H5⟩ : ∃ T', T' = T4.stp (T4.tp ++ [fB a0 24]) ∧ tyS T' R J Bc Bs M z h4 := ⟨_, rfl, q4⟩
  have n5 : T5.tp.length = T.tp.length + 5 := by rw [hT5]; show (T4.tp ++ [fB a0 24]).length = _; rw [List.length_append, n4]; rfl
  refine g_iinc (v := 16) (q := 25) C dX7_feedEight_22 rfl (by decide) (by simp only [gset]; rfl) rfl ?_
  refine g_goto (q := 3) C dX7_feedEight_25 (by decide) ?_
  refine g_iload_n (q := 4) C dX7_feedEight_3 rfl rfl ?_
  refine g_if_lt_f (t := 28) (q := 7) C dX7_feedEight_4 (by decide) rfl (by decide) ?_
  refine g_aload_n (q := 8) C dX7_feedEight_7 rfl rfl ?_
  obtain ⟨x6_5, q4_5, q5_5, o5, -, -, -⟩ := tyG7 H5 (rfl : tyK 0 = (0, 0))
  refine g_getfield (v := .ref 1) (q := 11) C fX7_14 dX7_feedEight_8 rfl o5 rfl ?_
  refine g_lload_n (q := 12) C dX7_feedEight_11 rfl rfl ?_
  refine g_iload_n (q := 13) C dX7_feedEight_12 rfl rfl ?_
  refine g_lushr (q := 14) C dX7_feedEight_13 rfl ?_
  refine g_l2i (q := 15) C dX7_feedEight_14 rfl ?_
  refine g_sipush (v := 255) (q := 18) C dX7_feedEight_15 (by decide) rfl ?_
  refine g_iand (q := 19) C dX7_feedEight_18 rfl ?_
  obtain ⟨l5, g5, -⟩ := tyRow H5 (rfl : tyK 1 = (1, 96))
  refine g_callVvp (q := 22) (As := [.int (fB a0 16)]) C gyX4_add gvX4_add t_471 (tX4_add_T H5 (by omega)) dX7_feedEight_19 rfl g5.obj rfl rfl rfl (Nat.le_of_ble_eq_true rfl) (Nat.le_of_ble_eq_true rfl) (Nat.le_of_ble_eq_true rfl) (Nat.le_of_ble_eq_true rfl) (Nat.le_of_ble_eq_true rfl) rfl (fun h5 q5 => ?_)
  obtain ⟨T6, hT6, H6⟩ : ∃ T', T' = T5.stp (T5.tp ++ [fB a0 16]) ∧ tyS T' R J Bc Bs M z h5 := ⟨_, rfl, q5⟩
  have n6 : T6.tp.length = T.tp.length + 6 := by rw [hT6]; show (T5.tp ++ [fB a0 16]).length = _; rw [List.length_append, n5]; rfl
  refine g_iinc (v := 8) (q := 25) C dX7_feedEight_22 rfl (by decide) (by simp only [gset]; rfl) rfl ?_
  refine g_goto (q := 3) C dX7_feedEight_25 (by decide) ?_
  refine g_iload_n (q := 4) C dX7_feedEight_3 rfl rfl ?_
  refine g_if_lt_f (t := 28) (q := 7) C dX7_feedEight_4 (by decide) rfl (by decide) ?_
  refine g_aload_n (q := 8) C dX7_feedEight_7 rfl rfl ?_
  obtain ⟨x6_6, q4_6, q5_6, o6, -, -, -⟩ := tyG7 H6 (rfl : tyK 0 = (0, 0))
  refine g_getfield (v := .ref 1) (q := 11) C fX7_14 dX7_feedEight_8 rfl o6 rfl ?_
  refine g_lload_n (q := 12) C dX7_feedEight_11 rfl rfl ?_
  refine g_iload_n (q := 13) C dX7_feedEight_12 rfl rfl ?_
  refine g_lushr (q := 14) C dX7_feedEight_13 rfl ?_
  refine g_l2i (q := 15) C dX7_feedEight_14 rfl ?_
  refine g_sipush (v := 255) (q := 18) C dX7_feedEight_15 (by decide) rfl ?_
  refine g_iand (q := 19) C dX7_feedEight_18 rfl ?_
  obtain ⟨l6, g6, -⟩ := tyRow H6 (rfl : tyK 1 = (1, 96))
  refine g_callVvp (q := 22) (As := [.int (fB a0 8)]) C gyX4_add gvX4_add t_471 (tX4_add_T H6 (by omega)) dX7_feedEight_19 rfl g6.obj rfl rfl rfl (Nat.le_of_ble_eq_true rfl) (Nat.le_of_ble_eq_true rfl) (Nat.le_of_ble_eq_true rfl) (Nat.le_of_ble_eq_true rfl) (Nat.le_of_ble_eq_true rfl) rfl (fun h6 q6 => ?_)
  obtain ⟨T7, hT7, H7⟩ : ∃ T', T' = T6.stp (T6.tp ++ [fB a0 8]) ∧ tyS T' R J Bc Bs M z h6 := ⟨_, rfl, q6⟩
  have n7 : T7.tp.length = T.tp.length + 7 := by rw [hT7]; show (T6.tp ++ [fB a0 8]).length = _; rw [List.length_append, n6]; rfl
  refine g_iinc (v := 0) (q := 25) C dX7_feedEight_22 rfl (by decide) (by simp only [gset]; rfl) rfl ?_
  refine g_goto (q := 3) C dX7_feedEight_25 (by decide) ?_
  refine g_iload_n (q := 4) C dX7_feedEight_3 rfl rfl ?_
  refine g_if_lt_f (t := 28) (q := 7) C dX7_feedEight_4 (by decide) rfl (by decide) ?_
  refine g_aload_n (q := 8) C dX7_feedEight_7 rfl rfl ?_
  obtain ⟨x6_7, q4_7, q5_7, o7, -, -, -⟩ := tyG7 H7 (rfl : tyK 0 = (0, 0))
  refine g_getfield (v := .ref 1) (q := 11) C fX7_14 dX7_feedEight_8 rfl o7 rfl ?_
  refine g_lload_n (q := 12) C dX7_feedEight_11 rfl rfl ?_
  refine g_iload_n (q := 13) C dX7_feedEight_12 rfl rfl ?_
  refine g_lushr (q := 14) C dX7_feedEight_13 rfl ?_
  refine g_l2i (q := 15) C dX7_feedEight_14 rfl ?_
  refine g_sipush (v := 255) (q := 18) C dX7_feedEight_15 (by decide) rfl ?_
  refine g_iand (q := 19) C dX7_feedEight_18 rfl ?_
  obtain ⟨l7, g7, -⟩ := tyRow H7 (rfl : tyK 1 = (1, 96))
  refine g_callVvp (q := 22) (As := [.int (fB a0 0)]) C gyX4_add gvX4_add t_471 (tX4_add_T H7 (by omega)) dX7_feedEight_19 rfl g7.obj rfl rfl rfl (Nat.le_of_ble_eq_true rfl) (Nat.le_of_ble_eq_true rfl) (Nat.le_of_ble_eq_true rfl) (Nat.le_of_ble_eq_true rfl) (Nat.le_of_ble_eq_true rfl) rfl (fun h7 q7 => ?_)
  obtain ⟨T8, hT8, H8⟩ : ∃ T', T' = T7.stp (T7.tp ++ [fB a0 0]) ∧ tyS T' R J Bc Bs M z h7 := ⟨_, rfl, q7⟩
  have n8 : T8.tp.length = T.tp.length + 8 := by rw [hT8]; show (T7.tp ++ [fB a0 0]).length = _; rw [List.length_append, n7]; rfl
  refine g_iinc (v := (-8)) (q := 25) C dX7_feedEight_22 rfl (by decide) (by simp only [gset]; rfl) rfl ?_
  refine g_goto (q := 3) C dX7_feedEight_25 (by decide) ?_
  refine g_iload_n (q := 4) C dX7_feedEight_3 rfl rfl ?_
  refine g_if_lt_t (t := 28) C dX7_feedEight_4 (by decide) (by decide) ?_
  have e : T8 = T.stp (f8 T.tp a0) := by rw [hT8, hT7, hT6, hT5, hT4, hT3, hT2, hT1, hT0]; rfl
  exact E.2.1 _ _ _ _ _ dX7_feedEight_28 rfl (Nat.le_of_ble_eq_true rfl) (Nat.le_of_ble_eq_true rfl) ⟨rfl, by rw [← e]; exact H8⟩
theorem tyFd {T : Nat} (h : T ≤ 96) : nI T + 16 ≤ 96 ↔ T + 16 ≤ 96 := by
  have e : nI T + 16 = nI (T + 16) := by
    have e16 : (16 : Int32) = nI 16 := by decide
    rw [e16, ← nI_add]
  rw [e, Int32.le_iff_toInt_le, nI_toInt (by omega), show (96 : Int32).toInt = 96 from by decide]
  omega
set_option maxRecDepth 100000 in
set_option maxHeartbeats 4000000 in
theorem tX7_feed {T : tyT} {R : Nat} {J : Nat → Prop} {Bc Bs : Nat} {M : gMd} {z : Nat → Nat} {hp : List gA} {a0 : Int64} {a1 : Int64}  (H : tyS T R J Bc Bs M z hp)  : gM yX7_feed cX7_feed 5 ((some .int)) 4 126 [.ref 0, .long a0, .long a1] (hp) (0) (0) (fun v h => ∃ x, v = some (.int x) ∧ ((96 < T.tp.length + 16 ∧ x = -1 ∧ tyS T R J Bc Bs M z h) ∨ (¬ 96 < T.tp.length + 16 ∧ x = nI (T.tp.length + 16) ∧ tyS (T.stp (f8 (f8 T.tp a0) a1)) R J Bc Bs M z h))) := by
  refine gM_of (ls0 := [some (.ref 0), some (.long a0), none, some (.long a1), none]) (by decide +kernel) (Nat.le_of_ble_eq_true rfl) rfl fun X C E => ?_
  refine g_aload_n (q := 1) C dX7_feed_0 rfl rfl ?_
  obtain ⟨x6_1, q4_1, q5_1, o1, e1_0, e1_1, e1_2⟩ := tyG7 H (rfl : tyK 0 = (0, 0))
  refine g_getfield (v := .ref 1) (q := 4) C fX7_14 dX7_feed_1 rfl o1 rfl ?_
  obtain ⟨l2, g2, -⟩ := tyRow H (rfl : tyK 1 = (1, 96))
  refine g_callVip (q := 7) (As := []) C gyX4_size gvX4_size t_463 (tX4_size_T H) dX7_feed_4 rfl g2.obj rfl rfl rfl (Nat.le_of_ble_eq_true rfl) (Nat.le_of_ble_eq_true rfl) (Nat.le_of_ble_eq_true rfl) (Nat.le_of_ble_eq_true rfl) (Nat.le_of_ble_eq_true rfl) rfl (fun x3 h3 q3 => ?_)
  obtain ⟨e3, q3⟩ := q3
  subst q3
  refine g_bipush (v := 16) (q := 9) C dX7_feed_7 (by decide) rfl ?_
  refine g_iadd (q := 10) C dX7_feed_9 rfl ?_
  refine g_bipush (v := 96) (q := 12) C dX7_feed_10 (by decide) rfl ?_
  refine g_icmp_le (t := 17) (q := 15) C dX7_feed_12 (by decide) rfl (fun c_12 => ?_) (fun c_12 => ?_)
  ·
    have h96 := tyTle H
    rw [e3, tyFd h96] at c_12
    refine g_aload_n (q := 18) C dX7_feed_17 rfl rfl ?_
    refine g_lload_n (q := 19) C dX7_feed_18 rfl rfl ?_
    refine g_callVvp (q := 22) (As := [.long a0]) C gyX7_feedEight gvX7_feedEight t_467 (tX7_feedEight H (by omega)) dX7_feed_19 rfl o1 rfl rfl rfl (Nat.le_of_ble_eq_true rfl) (Nat.le_of_ble_eq_true rfl) (Nat.le_of_ble_eq_true rfl) (Nat.le_of_ble_eq_true rfl) (Nat.le_of_ble_eq_true rfl) rfl (fun h4 q4 => ?_)
    have H4 := q4
    refine g_aload_n (q := 23) C dX7_feed_22 rfl rfl ?_
    refine g_lload_n (q := 24) C dX7_feed_23 rfl rfl ?_
    obtain ⟨x6_5, q4_5, q5_5, o5, e5_0, e5_1, e5_2⟩ := tyG7 H4 (rfl : tyK 0 = (0, 0))
    refine g_callVvp (q := 27) (As := [.long a1]) C gyX7_feedEight gvX7_feedEight t_467 (tX7_feedEight H4 (by show (f8 T.tp a0).length + 8 ≤ 96; rw [f8_len]; omega)) dX7_feed_24 rfl o5 rfl rfl rfl (Nat.le_of_ble_eq_true rfl) (Nat.le_of_ble_eq_true rfl) (Nat.le_of_ble_eq_true rfl) (Nat.le_of_ble_eq_true rfl) (Nat.le_of_ble_eq_true rfl) rfl (fun h6 q6 => ?_)
    have H6 := q6
    refine g_aload_n (q := 28) C dX7_feed_27 rfl rfl ?_
    obtain ⟨x6_7, q4_7, q5_7, o7, e7_0, e7_1, e7_2⟩ := tyG7 H6 (rfl : tyK 0 = (0, 0))
    refine g_getfield (v := .ref 1) (q := 31) C fX7_14 dX7_feed_28 rfl o7 rfl ?_
    obtain ⟨l8, g8, -⟩ := tyRow H6 (rfl : tyK 1 = (1, 96))
    refine g_callVip (q := 34) (As := []) C gyX4_size gvX4_size t_463 (tX4_size_T H6) dX7_feed_31 rfl g8.obj rfl rfl rfl (Nat.le_of_ble_eq_true rfl) (Nat.le_of_ble_eq_true rfl) (Nat.le_of_ble_eq_true rfl) (Nat.le_of_ble_eq_true rfl) (Nat.le_of_ble_eq_true rfl) rfl (fun x9 h9 q9 => ?_)
    obtain ⟨e9, q9⟩ := q9
    subst q9
    exact E.1 _ _ _ _ _ _ _ dX7_feed_34 rfl rfl (Nat.le_of_ble_eq_true rfl) (Nat.le_of_ble_eq_true rfl) ⟨_, rfl, Or.inr ⟨by omega, (by rw [e9]; show nI (f8 (f8 T.tp a0) a1).length = _; rw [f8_len, f8_len]), H6⟩⟩
  ·
    have h96 := tyTle H
    rw [e3, tyFd h96] at c_12
    refine g_iconst (v := (-1)) (q := 16) C dX7_feed_15 (by decide) rfl ?_
    exact E.1 _ _ _ _ _ _ _ dX7_feed_16 rfl rfl (Nat.le_of_ble_eq_true rfl) (Nat.le_of_ble_eq_true rfl) ⟨_, rfl, Or.inl ⟨by omega, rfl, H⟩⟩

set_option maxRecDepth 100000 in
set_option maxHeartbeats 4000000 in
theorem tX7_end {T : tyT} {R : Nat} {J : Nat → Prop} {Bc Bs : Nat} {M : gMd} {z : Nat → Nat} {hp : List gA} {a0 : Int32}  (H : tyS T R J Bc Bs M z hp)  : gM yX7_end cX7_end 2 ((some .int)) 2 42 [.ref 0, .int a0] (hp) (0) (0) (fun v h => ∃ x, v = some (.int x) ∧ (((a0 < 0 ∨ nI T.tp.length < a0) ∧ x = -1 ∧ tyS T R J Bc Bs M z h) ∨ (∃ m, m ≤ T.tp.length ∧ a0 = nI m ∧ x = nI m ∧ tyS (T.stp (T.tp.take m)) R J Bc Bs M z h))) := by
  refine gM_of (ls0 := [some (.ref 0), some (.int a0)]) (by decide +kernel) (Nat.le_of_ble_eq_true rfl) rfl fun X C E => ?_
  refine g_iload_n (q := 1) C dX7_end_0 rfl rfl ?_
  refine g_if_lt (t := 15) (q := 4) C dX7_end_1 (by decide) rfl (fun c_1 => ?_) (fun c_1 => ?_)
  ·
    refine g_iconst (v := (-1)) (q := 16) C dX7_end_15 (by decide) rfl ?_
    exact E.1 _ _ _ _ _ _ _ dX7_end_16 rfl rfl (Nat.le_of_ble_eq_true rfl) (Nat.le_of_ble_eq_true rfl) ⟨_, rfl, Or.inl ⟨Or.inl c_1, rfl, H⟩⟩
  ·
    refine g_iload_n (q := 5) C dX7_end_4 rfl rfl ?_
    refine g_aload_n (q := 6) C dX7_end_5 rfl rfl ?_
    obtain ⟨x6_1, q4_1, q5_1, o1, e1_0, e1_1, e1_2⟩ := tyG7 H (rfl : tyK 0 = (0, 0))
    refine g_getfield (v := .ref 1) (q := 9) C fX7_14 dX7_end_6 rfl o1 rfl ?_
    obtain ⟨l2, g2, -⟩ := tyRow H (rfl : tyK 1 = (1, 96))
    refine g_callVip (q := 12) (As := []) C gyX4_size gvX4_size t_463 (tX4_size_T H) dX7_end_9 rfl g2.obj rfl rfl rfl (Nat.le_of_ble_eq_true rfl) (Nat.le_of_ble_eq_true rfl) (Nat.le_of_ble_eq_true rfl) (Nat.le_of_ble_eq_true rfl) (Nat.le_of_ble_eq_true rfl) rfl (fun x3 h3 q3 => ?_)
    obtain ⟨e3, q3⟩ := q3
    subst q3
    refine g_icmp_le (t := 17) (q := 15) C dX7_end_12 (by decide) rfl (fun c_12 => ?_) (fun c_12 => ?_)
    ·
      have h96 := tyTle H
      have hg := gcl c_1
      rw [e3, Int32.le_iff_toInt_le, nI_toInt (by omega)] at c_12
      have hm1 : a0.toNatClampNeg ≤ T.tp.length := by omega
      have hm2 : a0 = nI a0.toNatClampNeg := Int32.toInt_inj.mp (by rw [nI_toInt (by omega)]; exact hg.symm)
      have kq : gM yX4_keep cX4_keep 2 (none) 1 21 [.ref 1, .int a0] hp 0 0 (fun v h => v = none ∧ tyS (T.stp (T.tp.take a0.toNatClampNeg)) R J Bc Bs M z h) := by
        have q := tX4_keep_T (n := a0.toNatClampNeg) H (by omega)
        rw [← hm2] at q
        exact q
      refine g_aload_n (q := 18) C dX7_end_17 rfl rfl ?_
      refine g_getfield (v := .ref 1) (q := 21) C fX7_14 dX7_end_18 rfl o1 rfl ?_
      refine g_iload_n (q := 22) C dX7_end_21 rfl rfl ?_
      refine g_callVvp (q := 25) (As := [.int a0]) C gyX4_keep gvX4_keep t_496 (kq) dX7_end_22 rfl g2.obj rfl rfl rfl (Nat.le_of_ble_eq_true rfl) (Nat.le_of_ble_eq_true rfl) (Nat.le_of_ble_eq_true rfl) (Nat.le_of_ble_eq_true rfl) (Nat.le_of_ble_eq_true rfl) rfl (fun h4 q4 => ?_)
      have H4 := q4
      refine g_iload_n (q := 26) C dX7_end_25 rfl rfl ?_
      exact E.1 _ _ _ _ _ _ _ dX7_end_26 rfl rfl (Nat.le_of_ble_eq_true rfl) (Nat.le_of_ble_eq_true rfl) ⟨_, rfl, Or.inr ⟨a0.toNatClampNeg, hm1, hm2, hm2, H4⟩⟩
    ·
      refine g_iconst (v := (-1)) (q := 16) C dX7_end_15 (by decide) rfl ?_
      exact E.1 _ _ _ _ _ _ _ dX7_end_16 rfl rfl (Nat.le_of_ble_eq_true rfl) (Nat.le_of_ble_eq_true rfl) ⟨_, rfl, Or.inl ⟨Or.inr (by rw [← e3, Int32.lt_iff_toInt_lt]; rw [Int32.le_iff_toInt_le] at c_12; omega), rfl, H⟩⟩

set_option maxRecDepth 100000 in
set_option maxHeartbeats 4000000 in
theorem tX7_message {T : tyT} {R : Nat} {J : Nat → Prop} {Bc Bs : Nat} {M : gMd} {z : Nat → Nat} {hp : List gA}  (H : tyS T R J Bc Bs M z hp)  : gM yX7_message cX7_message 2 ((some .int)) 3 103 [.ref 0] (hp) (0) (0) (fun v h => ∃ x, v = some (.int x) ∧ tyS (T.stp []) R J Bc Bs M z h) := by
  refine gM_of (ls0 := [some (.ref 0), none]) (by decide +kernel) (Nat.le_of_ble_eq_true rfl) rfl fun X C E => ?_
  have J_47 : ∀ (y47_1 : Int32) (hJ47 : List gA), tyS T R J Bc Bs M z hJ47 → gG X 47 [some (.ref 0), some (.int y47_1)] [] hJ47 0 0 := by
    intro y47_1 hJ47 HJ47
    refine g_aload_n (q := 48) C dX7_message_47 rfl rfl ?_
    obtain ⟨x6_1, q4_1, q5_1, o1, e1_0, e1_1, e1_2⟩ := tyG7 HJ47 (rfl : tyK 0 = (0, 0))
    refine g_getfield (v := .ref 1) (q := 51) C fX7_14 dX7_message_48 rfl o1 rfl ?_
    refine g_iconst (v := 0) (q := 52) C dX7_message_51 (by decide) rfl ?_
    obtain ⟨l2, g2, -⟩ := tyRow HJ47 (rfl : tyK 1 = (1, 96))
    refine g_callVvp (q := 55) (As := [.int 0]) C gyX4_keep gvX4_keep t_496 (tX4_keep_T (n := 0) HJ47 (by omega)) dX7_message_52 rfl g2.obj rfl rfl rfl (Nat.le_of_ble_eq_true rfl) (Nat.le_of_ble_eq_true rfl) (Nat.le_of_ble_eq_true rfl) (Nat.le_of_ble_eq_true rfl) (Nat.le_of_ble_eq_true rfl) rfl (fun h3 q3 => ?_)
    have H3 := q3
    refine g_iload_n (q := 56) C dX7_message_55 rfl rfl ?_
    exact E.1 _ _ _ _ _ _ _ dX7_message_56 rfl rfl (Nat.le_of_ble_eq_true rfl) (Nat.le_of_ble_eq_true rfl) ⟨_, rfl, H3⟩
  refine g_iconst (v := (-1)) (q := 1) C dX7_message_0 (by decide) rfl ?_
  refine g_istore_n (q := 2) C dX7_message_1 (Nat.le_of_ble_eq_true rfl) (by simp only [gset]; rfl) rfl ?_
  refine g_aload_n (q := 3) C dX7_message_2 rfl rfl ?_
  obtain ⟨x6_4, q4_4, q5_4, o4, e4_0, e4_1, e4_2⟩ := tyG7 H (rfl : tyK 0 = (0, 0))
  refine g_callVip (q := 6) (As := []) C gyX7_mayStart gvX7_mayStart t_618 (tX7_mayStart H) dX7_message_3 rfl o4 rfl rfl rfl (Nat.le_of_ble_eq_true rfl) (Nat.le_of_ble_eq_true rfl) (Nat.le_of_ble_eq_true rfl) (Nat.le_of_ble_eq_true rfl) (Nat.le_of_ble_eq_true rfl) rfl (fun x5 h5 q5 => ?_)
  obtain ⟨b5, H5⟩ := q5
  refine g_if_eq (t := 47) (q := 9) C dX7_message_6 (by decide) rfl (fun c_6 => ?_) (fun c_6 => ?_)
  ·
    exact J_47 _ _  H5
  ·
    refine g_aload_n (q := 10) C dX7_message_9 rfl rfl ?_
    obtain ⟨x6_6, q4_6, q5_6, o6, e6_0, e6_1, e6_2⟩ := tyG7 H5 (rfl : tyK 0 = (0, 0))
    refine g_getfield (v := .ref 1) (q := 13) C fX7_14 dX7_message_10 rfl o6 rfl ?_
    obtain ⟨l7, g7, -⟩ := tyRow H5 (rfl : tyK 1 = (1, 96))
    refine g_callVip (q := 16) (As := []) C gyX4_size gvX4_size t_463 (tX4_size_T H5) dX7_message_13 rfl g7.obj rfl rfl rfl (Nat.le_of_ble_eq_true rfl) (Nat.le_of_ble_eq_true rfl) (Nat.le_of_ble_eq_true rfl) (Nat.le_of_ble_eq_true rfl) (Nat.le_of_ble_eq_true rfl) rfl (fun x8 h8 q8 => ?_)
    obtain ⟨e8, q8⟩ := q8
    subst q8
    refine g_bipush (v := 60) (q := 18) C dX7_message_16 (by decide) rfl ?_
    refine g_icmp_gt (t := 47) (q := 21) C dX7_message_18 (by decide) rfl (fun c_18 => ?_) (fun c_18 => ?_)
    ·
      exact J_47 _ _  H5
    ·
      refine g_aload_n (q := 22) C dX7_message_21 rfl rfl ?_
      refine g_getfield (v := .ref 20) (q := 25) C fX7_30 dX7_message_22 rfl o6 rfl ?_
      refine g_aload_n (q := 26) C dX7_message_25 rfl rfl ?_
      refine g_getfield (v := .ref 1) (q := 29) C fX7_14 dX7_message_26 rfl o6 rfl ?_
      obtain ⟨x3_9, x4_9, x5_9, x6_9, x7_9, x11_9, x12_9, x13_9, x14_9, x15_9, x16_9, x17_9, jv_9, o9, e9_0, e9_1, e9_2, e9_3⟩ := tyG2 H5 (rfl : tyK 20 = (7, 0))
      refine g_callVvp (q := 32) (As := [.ref 1]) C gyX2_startMessage gvX2_startMessage t_622 (tX2_startMessage H5 (rfl : tyK 20 = (7, 0)) (rfl : tyK 1 = (1, 96))) dX7_message_29 rfl o9 rfl rfl rfl (Nat.le_of_ble_eq_true rfl) (Nat.le_of_ble_eq_true rfl) (Nat.le_of_ble_eq_true rfl) (Nat.le_of_ble_eq_true rfl) (Nat.le_of_ble_eq_true rfl) rfl (fun h10 q10 => ?_)
      have H10 := q10
      refine g_aload_n (q := 33) C dX7_message_32 rfl rfl ?_
      obtain ⟨x6_11, q4_11, q5_11, o11, e11_0, e11_1, e11_2⟩ := tyG7 H10 (rfl : tyK 0 = (0, 0))
      refine g_getfield (v := .ref 43) (q := 36) C fX7_37 dX7_message_33 rfl o11 rfl ?_
      obtain ⟨x3_12, o12, e12_0⟩ := tyG0 H10 (rfl : tyK 43 = (8, 0))
      refine g_callVvp (q := 39) (As := []) C gyX0_forget gvX0_forget t_587 (tX0_forget H10) dX7_message_36 rfl o12 rfl rfl rfl (Nat.le_of_ble_eq_true rfl) (Nat.le_of_ble_eq_true rfl) (Nat.le_of_ble_eq_true rfl) (Nat.le_of_ble_eq_true rfl) (Nat.le_of_ble_eq_true rfl) rfl (fun h13 q13 => ?_)
      have H13 := q13
      refine g_aload_n (q := 40) C dX7_message_39 rfl rfl ?_
      obtain ⟨x6_14, q4_14, q5_14, o14, e14_0, e14_1, e14_2⟩ := tyG7 H13 (rfl : tyK 0 = (0, 0))
      refine g_getfield (v := .ref 20) (q := 43) C fX7_30 dX7_message_40 rfl o14 rfl ?_
      obtain ⟨x3_15, x4_15, x5_15, x6_15, x7_15, x11_15, x12_15, x13_15, x14_15, x15_15, x16_15, x17_15, jv_15, o15, e15_0, e15_1, e15_2, e15_3⟩ := tyG2 H13 (rfl : tyK 20 = (7, 0))
      refine g_callVip (q := 46) (As := []) C gyX2_blocksAhead gvX2_blocksAhead t_635 (tX2_blocksAhead H13 (rfl : tyK 20 = (7, 0))) dX7_message_43 rfl o15 rfl rfl rfl (Nat.le_of_ble_eq_true rfl) (Nat.le_of_ble_eq_true rfl) (Nat.le_of_ble_eq_true rfl) (Nat.le_of_ble_eq_true rfl) (Nat.le_of_ble_eq_true rfl) rfl (fun x16 h16 q16 => ?_)
      have H16 := q16
      refine g_istore_n (q := 47) C dX7_message_46 (Nat.le_of_ble_eq_true rfl) (by simp only [gset]; rfl) rfl ?_
      exact J_47 _ _  H16

set_option maxRecDepth 100000 in
set_option maxHeartbeats 4000000 in
theorem tX7_answer {T : tyT} {R : Nat} {J : Nat → Prop} {Bc Bs : Nat} {M : gMd} {z : Nat → Nat} {hp : List gA} {a0 : Int32}  (H : tyS T R J Bc Bs M z hp)  : gM yX7_answer cX7_answer 2 ((some .int)) 2 42 [.ref 0, .int a0] (hp) (0) (0) (fun v h => v = some (.int (if T.ci = 0 then -1 else rX3_tell T.q T.hi a0)) ∧ tyS T R J Bc Bs M z h) := by
  refine gM_of (ls0 := [some (.ref 0), some (.int a0)]) (by decide +kernel) (Nat.le_of_ble_eq_true rfl) rfl fun X C E => ?_
  refine g_aload_n (q := 1) C dX7_answer_0 rfl rfl ?_
  obtain ⟨x6_1, q4_1, q5_1, o1, e1_0, e1_1, e1_2, ec, ef, -⟩ := tyG7x H (rfl : tyK 0 = (0, 0))
  refine g_getfield (v := .int x6_1) (q := 4) C fX7_51 dX7_answer_1 rfl o1 rfl ?_
  refine g_if_eq (t := 18) (q := 7) C dX7_answer_4 (by decide) rfl (fun c_4 => ?_) (fun c_4 => ?_)
  ·
    refine g_iconst (v := (-1)) (q := 19) C dX7_answer_18 (by decide) rfl ?_
    exact E.1 _ _ _ _ _ _ _ dX7_answer_19 rfl rfl (Nat.le_of_ble_eq_true rfl) (Nat.le_of_ble_eq_true rfl) ⟨by rw [if_pos (ec.symm.trans c_4)], H⟩
  ·
    refine g_aload_n (q := 8) C dX7_answer_7 rfl rfl ?_
    refine g_getfield (v := .ref q4_1) (q := 11) C fX7_44 dX7_answer_8 rfl o1 rfl ?_
    refine g_iload_n (q := 12) C dX7_answer_11 rfl rfl ?_
    obtain ⟨Q, l, HQ, -, w⟩ := tyRq H (tyQ e1_1)
    obtain ⟨w1, w2⟩ := w ef
    have et : rX3_tell Q l a0 = rX3_tell T.q T.hi a0 := by
      unfold rX3_tell
      rw [w1 0 (by decide), w1 1 (by decide), w1 2 (by decide), w1 3 (by decide), w1 4 (by decide), w1 5 (by decide), w1 6 (by decide), w2]
    have kq : gM yX3_tell cX3_tell 2 ((some .int)) 1 21 [.ref q4_1, .int a0] hp 0 0 (fun v h => v = some (.int (rX3_tell Q l a0)) ∧ h = hp) := by
      rcases e1_1 with rfl | rfl
      · exact c_X3_tell_116 HQ
      · exact c_X3_tell_119 HQ
    refine g_callVi (q := 15) (As := [.int a0]) C gyX3_tell gvX3_tell t_602 kq dX7_answer_12 rfl HQ.1 rfl rfl rfl (Nat.le_of_ble_eq_true rfl) (Nat.le_of_ble_eq_true rfl) (Nat.le_of_ble_eq_true rfl) (Nat.le_of_ble_eq_true rfl) (Nat.le_of_ble_eq_true rfl) rfl ?_
    refine g_goto (q := 19) C dX7_answer_15 (by decide) ?_
    exact E.1 _ _ _ _ _ _ _ dX7_answer_19 rfl rfl (Nat.le_of_ble_eq_true rfl) (Nat.le_of_ble_eq_true rfl) ⟨by rw [if_neg (fun e => c_4 (ec.trans e)), et], H⟩

set_option maxRecDepth 100000 in
set_option maxHeartbeats 4000000 in
theorem tX7_historical {T : tyT} {R : Nat} {J : Nat → Prop} {Bc Bs : Nat} {M : gMd} {z : Nat → Nat} {hp : List gA} {a0 : Int32}  (H : tyS T R J Bc Bs M z hp)  : gM yX7_historical cX7_historical 2 ((some .int)) 2 42 [.ref 0, .int a0] (hp) (0) (0) (fun v h => v = some (.int (if T.ci = 0 then -1 else if a0 < 0 then -1 else if a0 < nI T.hi.length then gat T.hi a0 else -1)) ∧ tyS T R J Bc Bs M z h) := by
  refine gM_of (ls0 := [some (.ref 0), some (.int a0)]) (by decide +kernel) (Nat.le_of_ble_eq_true rfl) rfl fun X C E => ?_
  have J_22 : ∀ (y22_1 : Int32) (hJ22 : List gA), tyS T R J Bc Bs M z hJ22 → (if T.ci = 0 then -1 else if a0 < 0 then -1 else if a0 < nI T.hi.length then gat T.hi a0 else -1) = -1 → gG X 22 [some (.ref 0), some (.int y22_1)] [] hJ22 0 0 := by
    intro y22_1 hJ22 HJ22 eN
    refine g_iconst (v := (-1)) (q := 23) C dX7_historical_22 (by decide) rfl ?_
    exact E.1 _ _ _ _ _ _ _ dX7_historical_23 rfl rfl (Nat.le_of_ble_eq_true rfl) (Nat.le_of_ble_eq_true rfl) ⟨by rw [eN], HJ22⟩
  refine g_aload_n (q := 1) C dX7_historical_0 rfl rfl ?_
  obtain ⟨x6_1, q4_1, q5_1, o1, e1_0, e1_1, e1_2, ec, ef, -⟩ := tyG7x H (rfl : tyK 0 = (0, 0))
  refine g_getfield (v := .int x6_1) (q := 4) C fX7_51 dX7_historical_1 rfl o1 rfl ?_
  refine g_if_eq (t := 22) (q := 7) C dX7_historical_4 (by decide) rfl (fun c_4 => ?_) (fun c_4 => ?_)
  ·
    exact J_22 _ _ H (if_pos (ec.symm.trans c_4))
  ·
    refine g_iload_n (q := 8) C dX7_historical_7 rfl rfl ?_
    refine g_if_lt (t := 22) (q := 11) C dX7_historical_8 (by decide) rfl (fun c_8 => ?_) (fun c_8 => ?_)
    ·
      exact J_22 _ _ H ((if_neg (fun e => c_4 (ec.trans e))).trans (if_pos c_8))
    ·
      refine g_iload_n (q := 12) C dX7_historical_11 rfl rfl ?_
      refine g_aload_n (q := 13) C dX7_historical_12 rfl rfl ?_
      refine g_getfield (v := .ref q4_1) (q := 16) C fX7_44 dX7_historical_13 rfl o1 rfl ?_
      obtain ⟨Q, l, HQ, -, w⟩ := tyRq H (tyQ e1_1)
      obtain ⟨w1, w2⟩ := w ef
      have kb : gM yX3_historicalBytes cX3_historicalBytes 1 ((some .int)) 1 20 [.ref q4_1] hp 0 0 (fun v h => v = some (.int (nI l.length)) ∧ h = hp) := by
        rcases e1_1 with rfl | rfl
        · exact c_X3_historicalBytes_116 HQ
        · exact c_X3_historicalBytes_119 HQ
      have ky : gM yX3_historicalByte cX3_historicalByte 2 ((some .int)) 1 21 [.ref q4_1, .int a0] hp 0 0 (fun v h => v = some (.int (gat l a0)) ∧ h = hp) := by
        rcases e1_1 with rfl | rfl
        · exact c_X3_historicalByte_116 HQ
        · exact c_X3_historicalByte_119 HQ
      refine g_callVi (q := 19) (As := []) C gyX3_historicalBytes gvX3_historicalBytes t_594 kb dX7_historical_16 rfl HQ.1 rfl rfl rfl (Nat.le_of_ble_eq_true rfl) (Nat.le_of_ble_eq_true rfl) (Nat.le_of_ble_eq_true rfl) (Nat.le_of_ble_eq_true rfl) (Nat.le_of_ble_eq_true rfl) rfl ?_
      refine g_icmp_lt (t := 24) (q := 22) C dX7_historical_19 (by decide) rfl (fun c_19 => ?_) (fun c_19 => ?_)
      · refine g_aload_n (q := 25) C dX7_historical_24 rfl rfl ?_
        refine g_getfield (v := .ref q4_1) (q := 28) C fX7_44 dX7_historical_25 rfl o1 rfl ?_
        refine g_iload_n (q := 29) C dX7_historical_28 rfl rfl ?_
        refine g_callVi (q := 32) (As := [.int a0]) C gyX3_historicalByte gvX3_historicalByte t_610 ky dX7_historical_29 rfl HQ.1 rfl rfl rfl (Nat.le_of_ble_eq_true rfl) (Nat.le_of_ble_eq_true rfl) (Nat.le_of_ble_eq_true rfl) (Nat.le_of_ble_eq_true rfl) (Nat.le_of_ble_eq_true rfl) rfl ?_
        exact E.1 _ _ _ _ _ _ _ dX7_historical_32 rfl rfl (Nat.le_of_ble_eq_true rfl) (Nat.le_of_ble_eq_true rfl) ⟨by rw [if_neg (fun e => c_4 (ec.trans e)), if_neg c_8, ← w2, if_pos c_19], H⟩
      · exact J_22 _ _ H ((if_neg (fun e => c_4 (ec.trans e))).trans ((if_neg c_8).trans (if_neg (by rw [← w2]; exact c_19))))

set_option maxRecDepth 100000 in
set_option maxHeartbeats 4000000 in
theorem tX7_reset_a {T : tyT} {R : Nat} {J : Nat → Prop} {Bc Bs : Nat} {M : gMd} {z : Nat → Nat} {hp : List gA} (H : tyS T R J Bc Bs M z hp) (hfo : T.fo = 116) (hsp : T.sp = 119) : gM yX7_reset cX7_reset 3 ((some .int)) 5 149 [.ref 0] (hp) (0) (0) (fun v h => ∃ x, v = some (.int x) ∧ ∃ Q : rq, (¬ (rRd Q T.tp).1 = 0 ∧ x = -2 - (rRd Q T.tp).1 ∧ tyS (T.stp []) R J Bc Bs M z h) ∨ ((rRd Q T.tp).1 = 0 ∧ x = nI (rRd Q T.tp).2.2.length ∧ tyS (([], ((119, (116, 1)), ((rRd Q T.tp).2.1, (rRd Q T.tp).2.2))) : tyT) R J Bc Bs M z h)) := by
  refine gM_of (ls0 := [some (.ref 0), none, none]) (by decide +kernel) (Nat.le_of_ble_eq_true rfl) rfl fun X C E => ?_
  refine g_aload_n (q := 1) C dX7_reset_0 rfl rfl ?_
  obtain ⟨x6_1, q4_1, q5_1, o1, e1_0, -, -, ec, ef, es⟩ := tyG7x H (rfl : tyK 0 = (0, 0))
  obtain rfl : q4_1 = 116 := ef.trans hfo
  obtain rfl : q5_1 = 119 := es.trans hsp
  refine g_getfield (v := .ref 119) (q := 4) C fX7_48 dX7_reset_1 rfl o1 rfl ?_
  refine g_aload_n (q := 5) C dX7_reset_4 rfl rfl ?_
  refine g_getfield (v := .ref 1) (q := 8) C fX7_14 dX7_reset_5 rfl o1 rfl ?_
  obtain ⟨Q, l, HQ, -, -⟩ := tyRq H (rfl : tyK 119 = (9, 0))
  obtain ⟨lt, gt, wt⟩ := tyRow H (rfl : tyK 1 = (1, 96))
  obtain rfl : lt = T.tp := wt.1 rfl
  refine g_callVix (x := (rRd Q T.tp).1) (q := 11) (As := [.ref 1]) C gyX3_read gvX3_read t_504 (c_X3_read_119 HQ gt) dX7_reset_8 rfl HQ.1 rfl rfl rfl (Nat.le_of_ble_eq_true rfl) (Nat.le_of_ble_eq_true rfl) (Nat.le_of_ble_eq_true rfl) (Nat.le_of_ble_eq_true rfl) (Nat.le_of_ble_eq_true rfl) rfl (fun h3 q3 => ?_)
  obtain ⟨HQ3, F3⟩ := q3
  have H3 : tyS T R J Bc Bs M z h3 := H.rq (rfl : tyK 119 = (9, 0)) (by rw [hfo]; decide) HQ3 F3 rRd6
  refine g_istore_n (q := 12) C dX7_reset_11 (Nat.le_of_ble_eq_true rfl) (by simp only [gset]; rfl) rfl ?_
  refine g_aload_n (q := 13) C dX7_reset_12 rfl rfl ?_
  obtain ⟨x6_4, q4_4, q5_4, o4, -, -, -⟩ := tyG7 H3 (rfl : tyK 0 = (0, 0))
  refine g_getfield (v := .ref 1) (q := 16) C fX7_14 dX7_reset_13 rfl o4 rfl ?_
  refine g_iconst (v := 0) (q := 17) C dX7_reset_16 (by decide) rfl ?_
  obtain ⟨l5, g5, -⟩ := tyRow H3 (rfl : tyK 1 = (1, 96))
  have kk : gM yX4_keep cX4_keep 2 (none) 1 21 [.ref 1, .int 0] h3 0 0 (fun v h => v = none ∧ (tyS (T.stp []) R J Bc Bs M z h ∧ rqH h 119 (rRd Q T.tp).2.1 (rRd Q T.tp).2.2)) :=
    (c_X4_keep_w (k := 0) g5 (by decide)).mp fun v h q => by
      obtain ⟨rfl, q1, q2⟩ := q
      rw [List.take_zero] at q1
      exact ⟨rfl, H3.tape q1 q2, (q2 119 (by decide) (by decide)).trans HQ3.1, HQ3.2.kept (q2 _ (by decide) (by decide)) (q2 _ (by decide) (by decide))⟩
  refine g_callVvp (q := 20) (As := [.int 0]) C gyX4_keep gvX4_keep t_496 kk dX7_reset_17 rfl g5.obj rfl rfl rfl (Nat.le_of_ble_eq_true rfl) (Nat.le_of_ble_eq_true rfl) (Nat.le_of_ble_eq_true rfl) (Nat.le_of_ble_eq_true rfl) (Nat.le_of_ble_eq_true rfl) rfl (fun h6 q6 => ?_)
  obtain ⟨H6, HQ6⟩ := q6
  refine g_iload_n (q := 21) C dX7_reset_20 rfl rfl ?_
  refine g_if_eq (t := 29) (q := 24) C dX7_reset_21 (by decide) rfl (fun c_21 => ?_) (fun c_21 => ?_)
  · refine g_aload_n (q := 30) C dX7_reset_29 rfl rfl ?_
    obtain ⟨x6_7, q4_7, q5_7, o7, e7_0, -, -, ec7, ef7, es7⟩ := tyG7x H6 (rfl : tyK 0 = (0, 0))
    obtain rfl : q4_7 = 116 := ef7.trans hfo
    obtain rfl : q5_7 = 119 := es7.trans hsp
    refine g_getfield (v := .ref 116) (q := 33) C fX7_44 dX7_reset_30 rfl o7 rfl ?_
    refine g_astore_n (q := 34) C dX7_reset_33 (Nat.le_of_ble_eq_true rfl) (by simp only [gset]; rfl) rfl ?_
    refine g_aload_n (q := 35) C dX7_reset_34 rfl rfl ?_
    refine g_aload_n (q := 36) C dX7_reset_35 rfl rfl ?_
    refine g_getfield (v := .ref 119) (q := 39) C fX7_48 dX7_reset_36 rfl o7 rfl ?_
    refine g_putfield (q := 42) C fX7_44 dX7_reset_39 rfl o7 (Nat.le_of_ble_eq_true rfl) (Or.inl rfl) rfl rfl (by intro z h; cases h) ?_
    obtain ⟨h8, H8, o8, HQ8, k8⟩ : ∃ h8, tyS (([], ((119, (119, x6_7)), ((rRd Q T.tp).2.1, (rRd Q T.tp).2.2))) : tyT) R J Bc Bs M z h8 ∧ h8[0]? = some (.inr (.inr (7, [.ref 1, .ref 3, .ref 20, .ref 43, .ref 119, .ref 119, .int x6_7]))) ∧ rqH h8 119 (rRd Q T.tp).2.1 (rRd Q T.tp).2.2 ∧ h8 = h6.set 0 (.inr (.inr (7, [.ref 1, .ref 3, .ref 20, .ref 43, .ref 119, .ref 119, .int x6_7]))) :=
      ⟨_, H6.card (T' := (([], ((119, (119, x6_7)), ((rRd Q T.tp).2.1, (rRd Q T.tp).2.2))) : tyT)) rfl ⟨rfl, rfl, rfl⟩ e7_0 (by decide) (by decide) HQ6 (fun _ _ => rfl) rfl o7, gset_self o7, ⟨(List.getElem?_set_ne (by decide)).trans HQ6.1, HQ6.2.kept (List.getElem?_set_ne (by decide)) (List.getElem?_set_ne (by decide))⟩, rfl⟩
    refine g_heap (hp2 := h8) k8.symm ?_
    refine g_aload_n (q := 43) C dX7_reset_42 rfl rfl ?_
    refine g_aload_n (q := 44) C dX7_reset_43 rfl rfl ?_
    refine g_putfield (q := 47) C fX7_48 dX7_reset_44 rfl o8 (Nat.le_of_ble_eq_true rfl) (Or.inl rfl) rfl rfl (by intro z h; cases h) ?_
    obtain ⟨h10, H10, o10, HQ10, k10⟩ : ∃ h10, tyS (([], ((119, (116, x6_7)), ((rRd Q T.tp).2.1, (rRd Q T.tp).2.2))) : tyT) R J Bc Bs M z h10 ∧ h10[0]? = some (.inr (.inr (7, [.ref 1, .ref 3, .ref 20, .ref 43, .ref 119, .ref 116, .int x6_7]))) ∧ rqH h10 119 (rRd Q T.tp).2.1 (rRd Q T.tp).2.2 ∧ h10 = h8.set 0 (.inr (.inr (7, [.ref 1, .ref 3, .ref 20, .ref 43, .ref 119, .ref 116, .int x6_7]))) :=
      ⟨_, H8.card (T' := (([], ((119, (116, x6_7)), ((rRd Q T.tp).2.1, (rRd Q T.tp).2.2))) : tyT)) rfl ⟨rfl, rfl, rfl⟩ e7_0 (by decide) (by decide) HQ8 (fun _ _ => rfl) rfl o8, gset_self o8, ⟨(List.getElem?_set_ne (by decide)).trans HQ8.1, HQ8.2.kept (List.getElem?_set_ne (by decide)) (List.getElem?_set_ne (by decide))⟩, rfl⟩
    refine g_heap (hp2 := h10) k10.symm ?_
    refine g_aload_n (q := 48) C dX7_reset_47 rfl rfl ?_
    refine g_iconst (v := 1) (q := 49) C dX7_reset_48 (by decide) rfl ?_
    refine g_putfield (q := 52) C fX7_51 dX7_reset_49 rfl o10 (Nat.le_of_ble_eq_true rfl) (Or.inl rfl) (tyNar (Or.inr rfl)) (tyFit (Or.inr rfl)) (by intro z h; cases h) ?_
    obtain ⟨h12, H12, k12⟩ : ∃ h12, tyS (([], ((119, (116, 1)), ((rRd Q T.tp).2.1, (rRd Q T.tp).2.2))) : tyT) R J Bc Bs M z h12 ∧ h12 = h10.set 0 (.inr (.inr (7, [.ref 1, .ref 3, .ref 20, .ref 43, .ref 119, .ref 116, .int 1]))) :=
      ⟨_, H10.card (T' := (([], ((119, (116, 1)), ((rRd Q T.tp).2.1, (rRd Q T.tp).2.2))) : tyT)) rfl ⟨rfl, rfl, rfl⟩ (Or.inr rfl) (by decide) (by decide) HQ10 (fun _ _ => rfl) rfl o10, rfl⟩
    refine g_heap (hp2 := h12) k12.symm ?_
    refine g_aload_n (q := 53) C dX7_reset_52 rfl rfl ?_
    obtain ⟨x6_13, q4_13, q5_13, o13, -, -, -⟩ := tyG7 H12 (rfl : tyK 0 = (0, 0))
    refine g_getfield (v := .ref 3) (q := 56) C fX7_21 dX7_reset_53 rfl o13 rfl ?_
    obtain ⟨x8_14, o14⟩ := tyG1 H12 (rfl : tyK 3 = (3, 0))
    refine g_callVvp (q := 59) (As := []) C gyX1_forgetAll gvX1_forgetAll t_560 (tX1_forgetAll H12) dX7_reset_56 rfl o14 rfl rfl rfl (Nat.le_of_ble_eq_true rfl) (Nat.le_of_ble_eq_true rfl) (Nat.le_of_ble_eq_true rfl) (Nat.le_of_ble_eq_true rfl) (Nat.le_of_ble_eq_true rfl) rfl (fun h15 H15 => ?_)
    refine g_aload_n (q := 60) C dX7_reset_59 rfl rfl ?_
    obtain ⟨x6_16, q4_16, q5_16, o16, -, -, -, -, ef16, -⟩ := tyG7x H15 (rfl : tyK 0 = (0, 0))
    obtain rfl : q4_16 = 119 := ef16
    refine g_getfield (v := .ref 20) (q := 63) C fX7_30 dX7_reset_60 rfl o16 rfl ?_
    refine g_aload_n (q := 64) C dX7_reset_63 rfl rfl ?_
    refine g_getfield (v := .ref 119) (q := 67) C fX7_44 dX7_reset_64 rfl o16 rfl ?_
    obtain ⟨Q17, l17, HQ17, -, -⟩ := tyRq H15 (rfl : tyK 119 = (9, 0))
    refine g_callVi (q := 70) (As := []) C gyX3_cardRoom gvX3_cardRoom t_565 (c_X3_cardRoom_119 HQ17) dX7_reset_67 rfl HQ17.1 rfl rfl rfl (Nat.le_of_ble_eq_true rfl) (Nat.le_of_ble_eq_true rfl) (Nat.le_of_ble_eq_true rfl) (Nat.le_of_ble_eq_true rfl) (Nat.le_of_ble_eq_true rfl) rfl ?_
    obtain ⟨x3_19, x4_19, x5_19, x6_19, x7_19, x11_19, x12_19, x13_19, x14_19, x15_19, x16_19, x17_19, jv_19, o19, -, -, -, -⟩ := tyG2 H15 (rfl : tyK 20 = (7, 0))
    refine g_callVvp (q := 73) (As := [.int _]) C gyX2_restart gvX2_restart t_569 (tX2_restart H15 (rfl : tyK 20 = (7, 0))) dX7_reset_70 rfl o19 rfl rfl rfl (Nat.le_of_ble_eq_true rfl) (Nat.le_of_ble_eq_true rfl) (Nat.le_of_ble_eq_true rfl) (Nat.le_of_ble_eq_true rfl) (Nat.le_of_ble_eq_true rfl) rfl (fun h20 H20 => ?_)
    refine g_aload_n (q := 74) C dX7_reset_73 rfl rfl ?_
    obtain ⟨x6_21, q4_21, q5_21, o21, -, -, -⟩ := tyG7 H20 (rfl : tyK 0 = (0, 0))
    refine g_getfield (v := .ref 43) (q := 77) C fX7_37 dX7_reset_74 rfl o21 rfl ?_
    obtain ⟨x3_22, o22, -⟩ := tyG0 H20 (rfl : tyK 43 = (8, 0))
    refine g_callVvp (q := 80) (As := []) C gyX0_forget gvX0_forget t_587 (tX0_forget H20) dX7_reset_77 rfl o22 rfl rfl rfl (Nat.le_of_ble_eq_true rfl) (Nat.le_of_ble_eq_true rfl) (Nat.le_of_ble_eq_true rfl) (Nat.le_of_ble_eq_true rfl) (Nat.le_of_ble_eq_true rfl) rfl (fun h23 H23 => ?_)
    refine g_aload_n (q := 81) C dX7_reset_80 rfl rfl ?_
    obtain ⟨x6_24, q4_24, q5_24, o24, -, -, -, -, ef24, -⟩ := tyG7x H23 (rfl : tyK 0 = (0, 0))
    obtain rfl : q4_24 = 119 := ef24
    refine g_getfield (v := .ref 119) (q := 84) C fX7_44 dX7_reset_81 rfl o24 rfl ?_
    obtain ⟨Q25, l25, HQ25, -, w25⟩ := tyRq H23 (rfl : tyK 119 = (9, 0))
    refine g_callVi (q := 87) (As := []) C gyX3_historicalBytes gvX3_historicalBytes t_594 (c_X3_historicalBytes_119 HQ25) dX7_reset_84 rfl HQ25.1 rfl rfl rfl (Nat.le_of_ble_eq_true rfl) (Nat.le_of_ble_eq_true rfl) (Nat.le_of_ble_eq_true rfl) (Nat.le_of_ble_eq_true rfl) (Nat.le_of_ble_eq_true rfl) rfl ?_
    exact E.1 _ _ _ _ _ _ _ dX7_reset_87 rfl rfl (Nat.le_of_ble_eq_true rfl) (Nat.le_of_ble_eq_true rfl) ⟨_, rfl, Q, Or.inr ⟨c_21, by rw [(w25 rfl).2]; rfl, H23⟩⟩
  · refine g_bipush (v := (-2)) (q := 26) C dX7_reset_24 (by decide) rfl ?_
    refine g_iload_n (q := 27) C dX7_reset_26 rfl rfl ?_
    refine g_isub (q := 28) C dX7_reset_27 rfl ?_
    exact E.1 _ _ _ _ _ _ _ dX7_reset_28 rfl rfl (Nat.le_of_ble_eq_true rfl) (Nat.le_of_ble_eq_true rfl) ⟨_, rfl, Q, Or.inl ⟨c_21, rfl, H6⟩⟩
set_option maxRecDepth 100000 in
set_option maxHeartbeats 4000000 in
theorem tX7_reset_b {T : tyT} {R : Nat} {J : Nat → Prop} {Bc Bs : Nat} {M : gMd} {z : Nat → Nat} {hp : List gA} (H : tyS T R J Bc Bs M z hp) (hfo : T.fo = 119) (hsp : T.sp = 116) : gM yX7_reset cX7_reset 3 ((some .int)) 5 149 [.ref 0] (hp) (0) (0) (fun v h => ∃ x, v = some (.int x) ∧ ∃ Q : rq, (¬ (rRd Q T.tp).1 = 0 ∧ x = -2 - (rRd Q T.tp).1 ∧ tyS (T.stp []) R J Bc Bs M z h) ∨ ((rRd Q T.tp).1 = 0 ∧ x = nI (rRd Q T.tp).2.2.length ∧ tyS (([], ((116, (119, 1)), ((rRd Q T.tp).2.1, (rRd Q T.tp).2.2))) : tyT) R J Bc Bs M z h)) := by
  refine gM_of (ls0 := [some (.ref 0), none, none]) (by decide +kernel) (Nat.le_of_ble_eq_true rfl) rfl fun X C E => ?_
  refine g_aload_n (q := 1) C dX7_reset_0 rfl rfl ?_
  obtain ⟨x6_1, q4_1, q5_1, o1, e1_0, -, -, ec, ef, es⟩ := tyG7x H (rfl : tyK 0 = (0, 0))
  obtain rfl : q4_1 = 119 := ef.trans hfo
  obtain rfl : q5_1 = 116 := es.trans hsp
  refine g_getfield (v := .ref 116) (q := 4) C fX7_48 dX7_reset_1 rfl o1 rfl ?_
  refine g_aload_n (q := 5) C dX7_reset_4 rfl rfl ?_
  refine g_getfield (v := .ref 1) (q := 8) C fX7_14 dX7_reset_5 rfl o1 rfl ?_
  obtain ⟨Q, l, HQ, -, -⟩ := tyRq H (rfl : tyK 116 = (9, 0))
  obtain ⟨lt, gt, wt⟩ := tyRow H (rfl : tyK 1 = (1, 96))
  obtain rfl : lt = T.tp := wt.1 rfl
  refine g_callVix (x := (rRd Q T.tp).1) (q := 11) (As := [.ref 1]) C gyX3_read gvX3_read t_504 (c_X3_read_116 HQ gt) dX7_reset_8 rfl HQ.1 rfl rfl rfl (Nat.le_of_ble_eq_true rfl) (Nat.le_of_ble_eq_true rfl) (Nat.le_of_ble_eq_true rfl) (Nat.le_of_ble_eq_true rfl) (Nat.le_of_ble_eq_true rfl) rfl (fun h3 q3 => ?_)
  obtain ⟨HQ3, F3⟩ := q3
  have H3 : tyS T R J Bc Bs M z h3 := H.rq (rfl : tyK 116 = (9, 0)) (by rw [hfo]; decide) HQ3 F3 rRd6
  refine g_istore_n (q := 12) C dX7_reset_11 (Nat.le_of_ble_eq_true rfl) (by simp only [gset]; rfl) rfl ?_
  refine g_aload_n (q := 13) C dX7_reset_12 rfl rfl ?_
  obtain ⟨x6_4, q4_4, q5_4, o4, -, -, -⟩ := tyG7 H3 (rfl : tyK 0 = (0, 0))
  refine g_getfield (v := .ref 1) (q := 16) C fX7_14 dX7_reset_13 rfl o4 rfl ?_
  refine g_iconst (v := 0) (q := 17) C dX7_reset_16 (by decide) rfl ?_
  obtain ⟨l5, g5, -⟩ := tyRow H3 (rfl : tyK 1 = (1, 96))
  have kk : gM yX4_keep cX4_keep 2 (none) 1 21 [.ref 1, .int 0] h3 0 0 (fun v h => v = none ∧ (tyS (T.stp []) R J Bc Bs M z h ∧ rqH h 116 (rRd Q T.tp).2.1 (rRd Q T.tp).2.2)) :=
    (c_X4_keep_w (k := 0) g5 (by decide)).mp fun v h q => by
      obtain ⟨rfl, q1, q2⟩ := q
      rw [List.take_zero] at q1
      exact ⟨rfl, H3.tape q1 q2, (q2 116 (by decide) (by decide)).trans HQ3.1, HQ3.2.kept (q2 _ (by decide) (by decide)) (q2 _ (by decide) (by decide))⟩
  refine g_callVvp (q := 20) (As := [.int 0]) C gyX4_keep gvX4_keep t_496 kk dX7_reset_17 rfl g5.obj rfl rfl rfl (Nat.le_of_ble_eq_true rfl) (Nat.le_of_ble_eq_true rfl) (Nat.le_of_ble_eq_true rfl) (Nat.le_of_ble_eq_true rfl) (Nat.le_of_ble_eq_true rfl) rfl (fun h6 q6 => ?_)
  obtain ⟨H6, HQ6⟩ := q6
  refine g_iload_n (q := 21) C dX7_reset_20 rfl rfl ?_
  refine g_if_eq (t := 29) (q := 24) C dX7_reset_21 (by decide) rfl (fun c_21 => ?_) (fun c_21 => ?_)
  · refine g_aload_n (q := 30) C dX7_reset_29 rfl rfl ?_
    obtain ⟨x6_7, q4_7, q5_7, o7, e7_0, -, -, ec7, ef7, es7⟩ := tyG7x H6 (rfl : tyK 0 = (0, 0))
    obtain rfl : q4_7 = 119 := ef7.trans hfo
    obtain rfl : q5_7 = 116 := es7.trans hsp
    refine g_getfield (v := .ref 119) (q := 33) C fX7_44 dX7_reset_30 rfl o7 rfl ?_
    refine g_astore_n (q := 34) C dX7_reset_33 (Nat.le_of_ble_eq_true rfl) (by simp only [gset]; rfl) rfl ?_
    refine g_aload_n (q := 35) C dX7_reset_34 rfl rfl ?_
    refine g_aload_n (q := 36) C dX7_reset_35 rfl rfl ?_
    refine g_getfield (v := .ref 116) (q := 39) C fX7_48 dX7_reset_36 rfl o7 rfl ?_
    refine g_putfield (q := 42) C fX7_44 dX7_reset_39 rfl o7 (Nat.le_of_ble_eq_true rfl) (Or.inl rfl) rfl rfl (by intro z h; cases h) ?_
    obtain ⟨h8, H8, o8, HQ8, k8⟩ : ∃ h8, tyS (([], ((116, (116, x6_7)), ((rRd Q T.tp).2.1, (rRd Q T.tp).2.2))) : tyT) R J Bc Bs M z h8 ∧ h8[0]? = some (.inr (.inr (7, [.ref 1, .ref 3, .ref 20, .ref 43, .ref 116, .ref 116, .int x6_7]))) ∧ rqH h8 116 (rRd Q T.tp).2.1 (rRd Q T.tp).2.2 ∧ h8 = h6.set 0 (.inr (.inr (7, [.ref 1, .ref 3, .ref 20, .ref 43, .ref 116, .ref 116, .int x6_7]))) :=
      ⟨_, H6.card (T' := (([], ((116, (116, x6_7)), ((rRd Q T.tp).2.1, (rRd Q T.tp).2.2))) : tyT)) rfl ⟨rfl, rfl, rfl⟩ e7_0 (by decide) (by decide) HQ6 (fun _ _ => rfl) rfl o7, gset_self o7, ⟨(List.getElem?_set_ne (by decide)).trans HQ6.1, HQ6.2.kept (List.getElem?_set_ne (by decide)) (List.getElem?_set_ne (by decide))⟩, rfl⟩
    refine g_heap (hp2 := h8) k8.symm ?_
    refine g_aload_n (q := 43) C dX7_reset_42 rfl rfl ?_
    refine g_aload_n (q := 44) C dX7_reset_43 rfl rfl ?_
    refine g_putfield (q := 47) C fX7_48 dX7_reset_44 rfl o8 (Nat.le_of_ble_eq_true rfl) (Or.inl rfl) rfl rfl (by intro z h; cases h) ?_
    obtain ⟨h10, H10, o10, HQ10, k10⟩ : ∃ h10, tyS (([], ((116, (119, x6_7)), ((rRd Q T.tp).2.1, (rRd Q T.tp).2.2))) : tyT) R J Bc Bs M z h10 ∧ h10[0]? = some (.inr (.inr (7, [.ref 1, .ref 3, .ref 20, .ref 43, .ref 116, .ref 119, .int x6_7]))) ∧ rqH h10 116 (rRd Q T.tp).2.1 (rRd Q T.tp).2.2 ∧ h10 = h8.set 0 (.inr (.inr (7, [.ref 1, .ref 3, .ref 20, .ref 43, .ref 116, .ref 119, .int x6_7]))) :=
      ⟨_, H8.card (T' := (([], ((116, (119, x6_7)), ((rRd Q T.tp).2.1, (rRd Q T.tp).2.2))) : tyT)) rfl ⟨rfl, rfl, rfl⟩ e7_0 (by decide) (by decide) HQ8 (fun _ _ => rfl) rfl o8, gset_self o8, ⟨(List.getElem?_set_ne (by decide)).trans HQ8.1, HQ8.2.kept (List.getElem?_set_ne (by decide)) (List.getElem?_set_ne (by decide))⟩, rfl⟩
    refine g_heap (hp2 := h10) k10.symm ?_
    refine g_aload_n (q := 48) C dX7_reset_47 rfl rfl ?_
    refine g_iconst (v := 1) (q := 49) C dX7_reset_48 (by decide) rfl ?_
    refine g_putfield (q := 52) C fX7_51 dX7_reset_49 rfl o10 (Nat.le_of_ble_eq_true rfl) (Or.inl rfl) (tyNar (Or.inr rfl)) (tyFit (Or.inr rfl)) (by intro z h; cases h) ?_
    obtain ⟨h12, H12, k12⟩ : ∃ h12, tyS (([], ((116, (119, 1)), ((rRd Q T.tp).2.1, (rRd Q T.tp).2.2))) : tyT) R J Bc Bs M z h12 ∧ h12 = h10.set 0 (.inr (.inr (7, [.ref 1, .ref 3, .ref 20, .ref 43, .ref 116, .ref 119, .int 1]))) :=
      ⟨_, H10.card (T' := (([], ((116, (119, 1)), ((rRd Q T.tp).2.1, (rRd Q T.tp).2.2))) : tyT)) rfl ⟨rfl, rfl, rfl⟩ (Or.inr rfl) (by decide) (by decide) HQ10 (fun _ _ => rfl) rfl o10, rfl⟩
    refine g_heap (hp2 := h12) k12.symm ?_
    refine g_aload_n (q := 53) C dX7_reset_52 rfl rfl ?_
    obtain ⟨x6_13, q4_13, q5_13, o13, -, -, -⟩ := tyG7 H12 (rfl : tyK 0 = (0, 0))
    refine g_getfield (v := .ref 3) (q := 56) C fX7_21 dX7_reset_53 rfl o13 rfl ?_
    obtain ⟨x8_14, o14⟩ := tyG1 H12 (rfl : tyK 3 = (3, 0))
    refine g_callVvp (q := 59) (As := []) C gyX1_forgetAll gvX1_forgetAll t_560 (tX1_forgetAll H12) dX7_reset_56 rfl o14 rfl rfl rfl (Nat.le_of_ble_eq_true rfl) (Nat.le_of_ble_eq_true rfl) (Nat.le_of_ble_eq_true rfl) (Nat.le_of_ble_eq_true rfl) (Nat.le_of_ble_eq_true rfl) rfl (fun h15 H15 => ?_)
    refine g_aload_n (q := 60) C dX7_reset_59 rfl rfl ?_
    obtain ⟨x6_16, q4_16, q5_16, o16, -, -, -, -, ef16, -⟩ := tyG7x H15 (rfl : tyK 0 = (0, 0))
    obtain rfl : q4_16 = 116 := ef16
    refine g_getfield (v := .ref 20) (q := 63) C fX7_30 dX7_reset_60 rfl o16 rfl ?_
    refine g_aload_n (q := 64) C dX7_reset_63 rfl rfl ?_
    refine g_getfield (v := .ref 116) (q := 67) C fX7_44 dX7_reset_64 rfl o16 rfl ?_
    obtain ⟨Q17, l17, HQ17, -, -⟩ := tyRq H15 (rfl : tyK 116 = (9, 0))
    refine g_callVi (q := 70) (As := []) C gyX3_cardRoom gvX3_cardRoom t_565 (c_X3_cardRoom_116 HQ17) dX7_reset_67 rfl HQ17.1 rfl rfl rfl (Nat.le_of_ble_eq_true rfl) (Nat.le_of_ble_eq_true rfl) (Nat.le_of_ble_eq_true rfl) (Nat.le_of_ble_eq_true rfl) (Nat.le_of_ble_eq_true rfl) rfl ?_
    obtain ⟨x3_19, x4_19, x5_19, x6_19, x7_19, x11_19, x12_19, x13_19, x14_19, x15_19, x16_19, x17_19, jv_19, o19, -, -, -, -⟩ := tyG2 H15 (rfl : tyK 20 = (7, 0))
    refine g_callVvp (q := 73) (As := [.int _]) C gyX2_restart gvX2_restart t_569 (tX2_restart H15 (rfl : tyK 20 = (7, 0))) dX7_reset_70 rfl o19 rfl rfl rfl (Nat.le_of_ble_eq_true rfl) (Nat.le_of_ble_eq_true rfl) (Nat.le_of_ble_eq_true rfl) (Nat.le_of_ble_eq_true rfl) (Nat.le_of_ble_eq_true rfl) rfl (fun h20 H20 => ?_)
    refine g_aload_n (q := 74) C dX7_reset_73 rfl rfl ?_
    obtain ⟨x6_21, q4_21, q5_21, o21, -, -, -⟩ := tyG7 H20 (rfl : tyK 0 = (0, 0))
    refine g_getfield (v := .ref 43) (q := 77) C fX7_37 dX7_reset_74 rfl o21 rfl ?_
    obtain ⟨x3_22, o22, -⟩ := tyG0 H20 (rfl : tyK 43 = (8, 0))
    refine g_callVvp (q := 80) (As := []) C gyX0_forget gvX0_forget t_587 (tX0_forget H20) dX7_reset_77 rfl o22 rfl rfl rfl (Nat.le_of_ble_eq_true rfl) (Nat.le_of_ble_eq_true rfl) (Nat.le_of_ble_eq_true rfl) (Nat.le_of_ble_eq_true rfl) (Nat.le_of_ble_eq_true rfl) rfl (fun h23 H23 => ?_)
    refine g_aload_n (q := 81) C dX7_reset_80 rfl rfl ?_
    obtain ⟨x6_24, q4_24, q5_24, o24, -, -, -, -, ef24, -⟩ := tyG7x H23 (rfl : tyK 0 = (0, 0))
    obtain rfl : q4_24 = 116 := ef24
    refine g_getfield (v := .ref 116) (q := 84) C fX7_44 dX7_reset_81 rfl o24 rfl ?_
    obtain ⟨Q25, l25, HQ25, -, w25⟩ := tyRq H23 (rfl : tyK 116 = (9, 0))
    refine g_callVi (q := 87) (As := []) C gyX3_historicalBytes gvX3_historicalBytes t_594 (c_X3_historicalBytes_116 HQ25) dX7_reset_84 rfl HQ25.1 rfl rfl rfl (Nat.le_of_ble_eq_true rfl) (Nat.le_of_ble_eq_true rfl) (Nat.le_of_ble_eq_true rfl) (Nat.le_of_ble_eq_true rfl) (Nat.le_of_ble_eq_true rfl) rfl ?_
    exact E.1 _ _ _ _ _ _ _ dX7_reset_87 rfl rfl (Nat.le_of_ble_eq_true rfl) (Nat.le_of_ble_eq_true rfl) ⟨_, rfl, Q, Or.inr ⟨c_21, by rw [(w25 rfl).2]; rfl, H23⟩⟩
  · refine g_bipush (v := (-2)) (q := 26) C dX7_reset_24 (by decide) rfl ?_
    refine g_iload_n (q := 27) C dX7_reset_26 rfl rfl ?_
    refine g_isub (q := 28) C dX7_reset_27 rfl ?_
    exact E.1 _ _ _ _ _ _ _ dX7_reset_28 rfl rfl (Nat.le_of_ble_eq_true rfl) (Nat.le_of_ble_eq_true rfl) ⟨_, rfl, Q, Or.inl ⟨c_21, rfl, H6⟩⟩
