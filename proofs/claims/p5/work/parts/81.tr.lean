/-! ROWS BY SHAPE (by program: wip/p2t/m_tr.py) -/
theorem gRgSame {hp h : List gA} {r a n mo : Nat} {l l' : List Int32} (g0 : gRg hp r a n mo l) (g : gRg h r a n mo l') (f : gFr hp h r a) : h.length = hp.length ∧ gsz h = gsz hp ∧ ∀ J, gJk J hp → gJk J h := by
  obtain ⟨F0, a1, a2, -⟩ := g0
  obtain ⟨F, c1, c2, -⟩ := g
  have el : h.length = hp.length := by
    have key : ∀ i, i < hp.length ↔ i < h.length := fun i => by
      by_cases e1 : i = r
      · subst e1
        exact ⟨fun _ => (List.getElem?_eq_some_iff.mp c1).1, fun _ => (List.getElem?_eq_some_iff.mp a1).1⟩
      · by_cases e2 : i = a
        · subst e2
          exact ⟨fun _ => (List.getElem?_eq_some_iff.mp c2).1, fun _ => (List.getElem?_eq_some_iff.mp a2).1⟩
        · have e := f i e1 e2
          constructor
          · intro hi
            rw [List.getElem?_eq_getElem hi] at e
            exact (List.getElem?_eq_some_iff.mp e).1
          · intro hi
            rw [List.getElem?_eq_getElem hi] at e
            exact (List.getElem?_eq_some_iff.mp e.symm).1
    have k1 := key hp.length
    have k2 := key h.length
    omega
  have em : h.map gcs = hp.map gcs := by
    refine List.ext_getElem? fun i => ?_
    rw [List.getElem?_map, List.getElem?_map]
    by_cases e1 : i = r
    · subst e1; rw [c1, a1]; rfl
    · by_cases e2 : i = a
      · subst e2; rw [c2, a2]; rfl
      · rw [f i e1 e2]
  refine ⟨el, by unfold gsz; rw [em], fun J H i => ?_⟩
  by_cases e1 : i = r
  · subst e1
    rw [c1]
    refine ⟨fun q => absurd (Option.some.inj q) (gJ4 (by decide)), fun q => ?_⟩
    have := (H i).mpr q
    rw [a1] at this
    exact absurd (Option.some.inj this) (gJ4 (by decide))
  · by_cases e2 : i = a
    · subst e2
      rw [c2]
      refine ⟨fun q => absurd (Option.some.inj q) gJ2, fun q => ?_⟩
      have := (H i).mpr q
      rw [a2] at this
      exact absurd (Option.some.inj this) gJ2
    · rw [f i e1 e2]; exact H i
section TR
variable {T : tyT} {R : Nat} {J : Nat → Prop} {Bc Bs : Nat} {M : gMd} {z : Nat → Nat} {hp : List gA} {k m : Nat}
theorem tyN1 (hk : tyK k = (1, m)) (hm : ¬ (m = 96 ∨ m = 15)) : ¬ k = 1 := fun e => by
  subst e
  have e1 : tyK 1 = (1, 96) := rfl
  rw [e1] at hk
  cases hk
  exact hm (Or.inl rfl)
theorem tyFo (H : tyS T R J Bc Bs M z hp) : T.fo = 116 ∨ T.fo = 119 := by
  obtain ⟨x6, q4, q5, -, -, b1, -, -, e, -⟩ := tyG7x H (rfl : tyK 0 = (0, 0))
  rw [← e]; exact b1
theorem tyN2 (H : tyS T R J Bc Bs M z hp) (hk : tyK k = (1, m)) (hm : ¬ (m = 96 ∨ m = 15)) : ¬ k = T.fo + 1 := fun e => by
  have e1 : tyK (T.fo + 1) = (1, 15) := by
    rcases tyFo H with c | c <;> rw [c] <;> rfl
  rw [e, e1] at hk
  cases hk
  exact hm (Or.inr rfl)
theorem gRg.w {r a n : Nat} {l : List Int32} (H : gRg hp r a n n l) (hn : n ≤ 1000000) : gRw hp r a n l := by
  obtain ⟨f, a1, a2, a3, a4, a5⟩ := H
  exact ⟨f, a1, a2, a3, hn, a5⟩
theorem gRg.sh {r a n mo len : Nat} {f : Nat → Int32} (h1 : hp[r]? = some (.inr (.inr (4, [.ref a, .int (nI len), .int (nI mo)])))) (h2 : hp[a]? = some (.inl (n, f))) (h3 : len ≤ n) (h4 : n ≤ 1048576) : ∃ l, gRg hp r a n mo l := by
  refine ⟨(List.range len).map f, f, ?_, h2, ?_, h4, fun j hj => ?_⟩
  · rw [List.length_map, List.length_range]; exact h1
  · rw [List.length_map, List.length_range]; exact h3
  · rw [List.length_map, List.length_range] at hj
    rw [List.getD_eq_getElem?_getD, List.getElem?_map, List.getElem?_range hj]; rfl
theorem tyK4 : ∀ k : Fin 122, (tyK k.1).1 = 4 → k.1 = 4 ∨ k.1 = 6 ∨ k.1 = 8 ∨ k.1 = 10 := by decide +kernel
theorem tyK4' (hk : (tyK k).1 = 4) : k < 122 := by
  by_cases c : k < 122
  · exact c
  · have : tyK k = (99, 0) := by
      unfold tyK
      rw [List.getD_eq_getElem?_getD, List.getElem?_eq_none (by show tyKs.length ≤ k; have : tyKs.length = 122 := rfl; omega)]; rfl
    rw [this] at hk; cases hk
/-- a growing row, written by its own methods, its array as large as before -/
theorem tyS.rowg {h : List gA} {a : Nat} {l l' : List Int32} (H : tyS T R J Bc Bs M z hp) (hk : tyK k = (4, m)) (g0 : gRg hp k a (z k) m l) (w : a = k + 1 ∨ 140 ≤ a) (g : gRg h k a (z k) m l') (f : gFr hp h k a) : tyS T R J Bc Bs M z h := by
  have lt := tyK_lt hk (by decide)
  have kt : (tyK k).1 = 4 := by rw [hk]
  have km : (tyK k).2 = m := by rw [hk]
  have r2 := tyRow2 ⟨k, lt⟩ (Or.inr kt)
  obtain ⟨a0, l0, -, w0, w1, w2⟩ := tyRowg H hk
  obtain ⟨b1, b2, b3, b4, b5⟩ := H.2.2.2.2
  have sm := gRgSame g0 g f
  obtain ⟨F0, p1, p2, p3, p4, p5⟩ := g0
  have g1 := g
  obtain ⟨F, q1, q2, q3, q4, q5⟩ := g
  refine H.mk (P := fun q => q = k ∨ q = a) (fun q _ c => f q (fun e => c (Or.inl e)) (fun e => c (Or.inr e))) (fun q c => ?_) (fun q _ _ _ => rfl) (fun q a2 l2 m2 c4 c g2 w3 => ?_) (fun q hq c1 c e => ?_) (fun q c hq => ?_) (sm.2.2 J H.2.2.2.1) ⟨by rw [sm.1]; exact b1, by rw [sm.1]; exact b2, by rw [sm.2.1]; exact b3, b4, b5⟩
  · have c' : q = k ∨ q = a := c
    have r3 : k + 1 < 122 := r2.2
    omega
  · have cq : ¬ q = k := fun e => c (Or.inl e)
    have ca : ¬ q = a := fun e => c (Or.inr e)
    by_cases e2 : a2 = a
    · left
      obtain ⟨F2, s1, s2, s3, s4, s5⟩ := g2
      rw [e2] at s1 s2
      rw [p2] at s2
      have en : z q = z k := (congrArg Prod.fst (Sum.inl.inj (Option.some.inj s2))).symm
      rw [en] at s3 s4 ⊢
      rw [e2]
      exact gRg.sh ((f q cq ca).trans s1) q2 s3 s4
    · right
      intro e
      have e' : a2 = k ∨ a2 = a := e
      rcases e' with e' | e'
      · obtain ⟨F2, s1, s2, -⟩ := g2
        rw [e'] at s2
        rw [p1] at s2
        cases (Option.some.inj s2)
      · exact e2 e'
  · have r4 := tyRow2 ⟨q, hq⟩ (Or.inl c1)
    have e' : q + 1 = k ∨ q + 1 = a := e
    rcases e' with e' | e'
    · have := r4.1
      rw [e', kt] at this; omega
    · have r5 : q + 1 < 122 := r4.2
      rcases w with w | w
      · have : q = k := by omega
        exact c (Or.inl this)
      · omega
  · have c' : q = k ∨ q = a := c
    rcases c' with c' | c'
    · subst c'
      refine ⟨_, g1.obj, gJ4 (by decide), ?_⟩
      unfold tyOk
      rw [if_neg (by rw [kt]; decide), if_neg (by rw [kt]; decide), if_neg (by rw [kt]; decide), if_neg (by rw [kt]; decide), if_pos kt, km]
      exact ⟨a, l', g1, w, w1, w2⟩
    · subst c'
      have ea : q = k + 1 := by omega
      obtain ⟨e0, t0, -, ok0⟩ := H.1 q hq
      have k2 : (tyK q).1 = 2 := by rw [ea]; exact r2.1
      refine ⟨_, q2, gJ2, ?_⟩
      unfold tyOk at ok0 ⊢
      rw [if_neg (by rw [k2]; decide), if_neg (by rw [k2]; decide), if_pos k2] at ok0 ⊢
      obtain ⟨f0, rfl⟩ := ok0
      rw [p2] at t0
      have em : z k = (tyK q).2 := congrArg Prod.fst (Sum.inl.inj (Option.some.inj t0))
      rw [← em]
      exact ⟨F, rfl⟩
/-- a growing row whose array was taken anew -/
theorem tyS.grown {h : List gA} {l' : List Int32} (H : tyS T R J Bc Bs M z hp) (hk : tyK k = (4, m)) (hz : z k < m) (g : gRg h k hp.length (min m (2 * z k)) m l') (hl : h.length = hp.length + 1) (hs : gsz h = gsz hp + min m (2 * z k)) (f : ∀ q, q ≠ k → q < hp.length → h[q]? = hp[q]?) : ∃ z', tyS T R J Bc Bs M z' h := by
  have lt := tyK_lt hk (by decide)
  have kt : (tyK k).1 = 4 := by rw [hk]
  have km : (tyK k).2 = m := by rw [hk]
  obtain ⟨a0, l0, g0, w0, w1, j, w2⟩ := tyRowg H hk
  obtain ⟨b1, b2, b3, b4, b5⟩ := H.2.2.2.2
  obtain ⟨i, rfl⟩ : ∃ i, j = i + 1 := by
    cases j with
    | zero => rw [Nat.pow_zero, Nat.mul_one] at w2; omega
    | succ i => exact ⟨i, rfl⟩
  have w3 : 2 * z k * 2 ^ i = m := by rw [← w2, Nat.pow_succ, Nat.mul_comm 2 (z k), Nat.mul_assoc, Nat.mul_comm 2]
  have w4 : min m (2 * z k) = 2 * z k := Nat.min_eq_right (by
    have : 1 ≤ 2 ^ i := Nat.one_le_two_pow
    calc 2 * z k = 2 * z k * 1 := (Nat.mul_one _).symm
      _ ≤ 2 * z k * 2 ^ i := Nat.mul_le_mul_left _ this
      _ = m := w3)
  rw [w4] at g hs
  have g1 := g
  obtain ⟨F, q1, q2, q3, q4, q5⟩ := g
  refine ⟨fun q => if q = k then 2 * z k else z q, H.mk (P := fun q => q = k) (fun q hq c => f q c hq) (fun q c => by have c' : q = k := c; omega) (fun q _ _ c => if_neg c) (fun q a2 l2 m2 c4 c g2 w3 => ?_) (fun q hq c1 c e => ?_) (fun q c hq => ?_) (fun i => ?_) ?_⟩
  · by_cases e2 : a2 = k
    · obtain ⟨F2, s1, s2, -⟩ := g2
      rw [e2, g0.obj] at s2
      cases (Option.some.inj s2)
    · exact Or.inr e2
  · have r4 := (tyRow2 ⟨q, hq⟩ (Or.inl c1)).1
    have e' : q + 1 = k := e
    rw [e', kt] at r4; omega
  · have c' : q = k := c
    subst c'
    refine ⟨_, g1.obj, gJ4 (by decide), ?_⟩
    unfold tyOk
    rw [if_neg (by rw [kt]; decide), if_neg (by rw [kt]; decide), if_neg (by rw [kt]; decide), if_neg (by rw [kt]; decide), if_pos kt, km]
    have ez : (fun q' : Nat => if q' = q then 2 * z q else z q') q = 2 * z q := if_pos rfl
    refine ⟨hp.length, l', ?_, Or.inr b1, ?_, i, ?_⟩
    · rw [ez]; exact g1
    · rw [ez]; omega
    · rw [ez]; exact w3
  · by_cases e1 : i = k
    · subst e1
      rw [q1]
      refine ⟨fun t => absurd (Option.some.inj t) (gJ4 (by decide)), fun t => ?_⟩
      have := (H.2.2.2.1 i).mpr t
      rw [g0.obj] at this
      exact absurd (Option.some.inj this) (gJ4 (by decide))
    · by_cases e2 : i < hp.length
      · rw [f i e1 e2]; exact H.2.2.2.1 i
      · have n2 : hp[i]? = none := List.getElem?_eq_none (by omega)
        have nj : ¬ J i := fun t => by
          have := (H.2.2.2.1 i).mpr t
          rw [n2] at this; cases this
        refine ⟨fun t => ?_, fun t => absurd t nj⟩
        by_cases e3 : i = hp.length
        · subst e3
          rw [q2] at t
          exact absurd (Option.some.inj t) gJ2
        · rw [List.getElem?_eq_none (by omega)] at t; cases t
  · have d := tyK4 ⟨k, lt⟩ kt
    have d' : k = 4 ∨ k = 6 ∨ k = 8 ∨ k = 10 := d
    rcases d' with rfl | rfl | rfl | rfl <;> simp only [if_true, if_false, reduceIte, show ¬ (4:Nat) = 6 by decide, show ¬ (4:Nat) = 8 by decide, show ¬ (4:Nat) = 10 by decide, show ¬ (6:Nat) = 4 by decide, show ¬ (6:Nat) = 8 by decide, show ¬ (6:Nat) = 10 by decide, show ¬ (8:Nat) = 4 by decide, show ¬ (8:Nat) = 6 by decide, show ¬ (8:Nat) = 10 by decide, show ¬ (10:Nat) = 4 by decide, show ¬ (10:Nat) = 6 by decide, show ¬ (10:Nat) = 8 by decide] <;> omega
/-- the tape's row is written: its length is the list's -/
theorem tyS.tape {h : List gA} {l' : List Int32} (H : tyS T R J Bc Bs M z hp) (g : gRw h 1 2 96 l') (f : gFr hp h 1 2) : tyS (T.stp l') R J Bc Bs M z h := by
  obtain ⟨l0, g0, -⟩ := tyRow H (k := 1) (m := 96) rfl
  have fo := tyFo H
  obtain ⟨b1, b2, b3, b4, b5⟩ := H.2.2.2.2
  have sm := gRwSame g0 g f
  refine ⟨fun k hk => ?_, ⟨(f 122 (by decide) (by decide)).trans H.2.1.1, fun i hi => (f (123 + i) (by omega) (by omega)).trans (H.2.1.2 i hi)⟩, ?_, sm.2.2 J H.2.2.2.1, by rw [sm.1]; exact b1, by rw [sm.1]; exact b2, by rw [sm.2.1]; exact b3, b4, b5⟩
  · by_cases c1 : k = 1
    · subst c1
      refine ⟨_, g.obj, gJ4 (by decide), ?_⟩
      have e1 : (tyK 1).1 = 1 := rfl
      unfold tyOk
      rw [if_neg (by rw [e1]; decide), if_pos e1]
      exact ⟨l', g, fun _ => rfl, fun e => absurd e (by show ¬ 1 = T.fo + 1; omega)⟩
    · by_cases c2 : k = 2
      · subst c2
        obtain ⟨F, -, q2, -⟩ := g
        have e1 : (tyK 2).1 = 2 := rfl
        refine ⟨_, q2, gJ2, ?_⟩
        unfold tyOk
        rw [if_neg (by rw [e1]; decide), if_neg (by rw [e1]; decide), if_pos e1]
        exact ⟨F, rfl⟩
      · obtain ⟨e, he, hne, ok⟩ := H.1 k hk
        refine ⟨e, (f k c1 c2).trans he, hne, ?_⟩
        by_cases t1 : (tyK k).1 = 1
        · have r4 := tyRow2 ⟨k, hk⟩ (Or.inl t1)
          unfold tyOk at ok ⊢
          rw [if_neg (by rw [t1]; decide), if_pos t1] at ok ⊢
          obtain ⟨l, g9, w⟩ := ok
          have n1 : k + 1 ≠ 1 := fun e => by
            have : k = 0 := by omega
            subst this
            exact absurd t1 (by decide)
          exact ⟨l, g9.kept (f k c1 c2) (f (k + 1) n1 (by omega)), fun e => absurd e c1, w.2⟩
        · by_cases t4 : (tyK k).1 = 4
          · unfold tyOk at ok ⊢
            rw [if_neg (by rw [t4]; decide), if_neg (by rw [t4]; decide), if_neg (by rw [t4]; decide), if_neg (by rw [t4]; decide), if_pos t4] at ok ⊢
            obtain ⟨a, l, g9, w1, w2, w3⟩ := ok
            have d : k = 4 ∨ k = 6 ∨ k = 8 ∨ k = 10 := tyK4 ⟨k, hk⟩ t4
            exact ⟨a, l, g9.kept (f k c1 c2) (f a (by omega) (by omega)), w1, w2, w3⟩
          · unfold tyOk at ok ⊢
            rw [if_neg t1, if_neg t4] at ok ⊢
            exact ok
  · obtain ⟨f9, e9⟩ := H.2.2.1
    exact ⟨f9, (f 139 (by decide) (by decide)).trans e9⟩
theorem tyTle (H : tyS T R J Bc Bs M z hp) : T.tp.length ≤ 96 := by
  obtain ⟨l, g, e⟩ := tyRow H (k := 1) (m := 96) rfl
  have := g.le
  rw [← e.1 rfl]; exact this.1
theorem tyS.rep {R' : Nat} {x1 x2 x6 x7 x8 x9 y0 : Int32} (H : tyS T R J Bc Bs M z hp) (he : hp[35]? = some (.inr (.inr (6, [.int y0, .int x1, .int x2, .ref (35 + 1), .ref (35 + 2), .ref (35 + 3), .int x6, .int x7, .int x8, .int x9])))) : tyS T R' J Bc Bs M z (hp.set 35 (.inr (.inr (6, [.int (nI R'), .int x1, .int x2, .ref (35 + 1), .ref (35 + 2), .ref (35 + 3), .int x6, .int x7, .int x8, .int x9])))) := by
  obtain ⟨b1, b2, b3, b4, b5⟩ := H.2.2.2.2
  have f : ∀ q, q ≠ 35 → (hp.set 35 (.inr (.inr (6, [.int (nI R'), .int x1, .int x2, .ref (35 + 1), .ref (35 + 2), .ref (35 + 3), .int x6, .int x7, .int x8, .int x9]))))[q]? = hp[q]? := fun q c => List.getElem?_set_ne (Ne.symm c)
  refine ⟨fun k hk => ?_, ⟨(f 122 (by decide)).trans H.2.1.1, fun i hi => (f (123 + i) (by omega)).trans (H.2.1.2 i hi)⟩, ?_, H.2.2.2.1.one he (gJ4 (by decide)) (gJ4 (by decide)), by rw [List.length_set]; exact b1, by rw [List.length_set]; exact b2, Nat.le_trans (Nat.le_of_eq (gsz_set he (by rfl))) b3, b4, b5⟩
  · by_cases c1 : k = 35
    · subst c1
      refine ⟨_, gset_self he, gJ4 (by decide), ?_⟩
      have e1 : (tyK 35).1 = 6 := rfl
      unfold tyOk
      rw [if_neg (by rw [e1]; decide), if_neg (by rw [e1]; decide), if_neg (by rw [e1]; decide), if_neg (by rw [e1]; decide), if_neg (by rw [e1]; decide), if_neg (by rw [e1]; decide), if_pos e1]
      exact ⟨nI R', x1, x2, x6, x7, x8, x9, rfl, fun _ => rfl⟩
    · obtain ⟨e, he2, hne, ok⟩ := H.1 k hk
      refine ⟨e, (f k c1).trans he2, hne, ?_⟩
      by_cases t1 : (tyK k).1 = 1
      · have r4 := tyRow2 ⟨k, hk⟩ (Or.inl t1)
        have n1 : k + 1 ≠ 35 := fun e => by
          have : k = 34 := by omega
          subst this
          exact absurd t1 (by decide)
        unfold tyOk at ok ⊢
        rw [if_neg (by rw [t1]; decide), if_pos t1] at ok ⊢
        obtain ⟨l, g9, w⟩ := ok
        exact ⟨l, g9.kept (f k c1) (f (k + 1) n1), w⟩
      · by_cases t4 : (tyK k).1 = 4
        · unfold tyOk at ok ⊢
          rw [if_neg (by rw [t4]; decide), if_neg (by rw [t4]; decide), if_neg (by rw [t4]; decide), if_neg (by rw [t4]; decide), if_pos t4] at ok ⊢
          obtain ⟨a, l, g9, w1, w2, w3⟩ := ok
          have d : k = 4 ∨ k = 6 ∨ k = 8 ∨ k = 10 := tyK4 ⟨k, hk⟩ t4
          exact ⟨a, l, g9.kept (f k c1) (f a (by omega)), w1, w2, w3⟩
        · unfold tyOk at ok ⊢
          rw [if_neg t1, if_neg t4] at ok ⊢
          by_cases t6 : (tyK k).1 = 6
          · rw [if_neg (by rw [t6]; decide), if_neg (by rw [t6]; decide), if_neg (by rw [t6]; decide), if_neg (by rw [t6]; decide), if_pos t6] at ok ⊢
            obtain ⟨y0, y1, y2, y6, y7, y8, y9, ee, w⟩ := ok
            exact ⟨y0, y1, y2, y6, y7, y8, y9, ee, fun e => absurd e c1⟩
          · simp only [if_neg t6] at ok ⊢
            exact ok
  · obtain ⟨f9, e9⟩ := H.2.2.1
    exact ⟨f9, (f 139 (by decide)).trans e9⟩
theorem tX4_size (H : tyS T R J Bc Bs M z hp) (hk : tyK k = (1, m)) : gM yX4_size cX4_size 1 ((some .int)) 0 0 [.ref k] (hp) (0) (0) (fun v h => ∃ x, v = some (.int x) ∧ hp = h) := by
  obtain ⟨l, g, -⟩ := tyRow H hk
  exact (c_X4_size g.obj).mp fun v h q => by obtain ⟨rfl, rfl⟩ := q; exact ⟨_, rfl, rfl⟩
theorem tX4_at {x : Int32} (H : tyS T R J Bc Bs M z hp) (hk : tyK k = (1, m)) : gM yX4_at cX4_at 2 ((some .int)) 0 0 [.ref k, .int x] (hp) (0) (0) (fun v h => ∃ x, v = some (.int x) ∧ hp = h) := by
  obtain ⟨l, g, -⟩ := tyRow H hk
  exact (c_X4_at_w g).mp fun v h q => by obtain ⟨rfl, rfl⟩ := q; exact ⟨_, rfl, rfl⟩
theorem tX4_size_g (H : tyS T R J Bc Bs M z hp) (hk : tyK k = (4, m)) : gM yX4_size cX4_size 1 ((some .int)) 0 0 [.ref k] (hp) (0) (0) (fun v h => ∃ x, v = some (.int x) ∧ hp = h) := by
  obtain ⟨a, l, g, -⟩ := tyRowg H hk
  exact (c_X4_size g.obj).mp fun v h q => by obtain ⟨rfl, rfl⟩ := q; exact ⟨_, rfl, rfl⟩
theorem tX4_at_g {x : Int32} (H : tyS T R J Bc Bs M z hp) (hk : tyK k = (4, m)) : gM yX4_at cX4_at 2 ((some .int)) 0 0 [.ref k, .int x] (hp) (0) (0) (fun v h => ∃ x, v = some (.int x) ∧ hp = h) := by
  obtain ⟨a, l, g, -⟩ := tyRowg H hk
  exact (c_X4_at_g g).mp fun v h q => by obtain ⟨rfl, rfl⟩ := q; exact ⟨_, rfl, rfl⟩
theorem tX4_size_T (H : tyS T R J Bc Bs M z hp) : gM yX4_size cX4_size 1 ((some .int)) 0 0 [.ref 1] (hp) (0) (0) (fun v h => ∃ x, v = some (.int x) ∧ (x = nI T.tp.length ∧ hp = h)) := by
  obtain ⟨l, g, e⟩ := tyRow H (k := 1) (m := 96) rfl
  exact (c_X4_size g.obj).mp fun v h q => by obtain ⟨rfl, rfl⟩ := q; exact ⟨_, rfl, by rw [e.1 rfl], rfl⟩
theorem tX4_add {x : Int32} (H : tyS T R J Bc Bs M z hp) (hk : tyK k = (1, m)) (hm : ¬ (m = 96 ∨ m = 15)) : gM yX4_add cX4_add 2 (none) 2 82 [.ref k, .int x] (hp) (0) (0) (fun v h => v = none ∧ tyS T R J Bc Bs M z h) := by
  obtain ⟨l, g, -⟩ := tyRow H hk
  exact (c_X4_add_a g).mp fun v h q => by obtain ⟨rfl, q1, q2⟩ := q; exact ⟨rfl, H.row hk q1 q2 ⟨fun e => absurd e (tyN1 hk hm), fun e => absurd e (tyN2 H hk hm)⟩⟩
theorem tX4_add_T {x : Int32} (H : tyS T R J Bc Bs M z hp) (hl : T.tp.length < 96) : gM yX4_add cX4_add 2 (none) 2 82 [.ref 1, .int x] (hp) (0) (0) (fun v h => v = none ∧ tyS (T.stp (T.tp ++ [x])) R J Bc Bs M z h) := by
  obtain ⟨l, g, e⟩ := tyRow H (k := 1) (m := 96) rfl
  have e1 : l = T.tp := e.1 rfl
  subst e1
  exact (c_X4_add_w g hl).mp fun v h q => by obtain ⟨rfl, q1, q2⟩ := q; exact ⟨rfl, H.tape q1 q2⟩
theorem gkx {x : Int32} {n : Nat} (hn : n < 2 ^ 31) : ∃ q, q ≤ n ∧ gmax 0 (gmin x (nI n)) = nI q := by
  by_cases c : x < 0
  · refine ⟨0, Nat.zero_le _, ?_⟩
    have e : gmin x (nI n) = x := by
      unfold gmin
      rw [if_neg]
      rw [Int32.lt_iff_toInt_lt, nI_toInt hn]
      rw [Int32.lt_iff_toInt_lt, Int32.toInt_zero] at c
      omega
    rw [e]
    unfold gmax
    rw [if_neg]
    · rfl
    · rw [Int32.lt_iff_toInt_lt] at c ⊢
      omega
  · have hx := gcl c
    have h2 : x.toNatClampNeg < 2 ^ 31 := by
      have : x.toInt < 2147483648 := Int32.toInt_lt x
      omega
    have ex : x = nI x.toNatClampNeg := by
      apply Int32.toInt_inj.mp
      rw [nI_toInt h2]; exact hx.symm
    refine ⟨min x.toNatClampNeg n, Nat.min_le_right _ _, ?_⟩
    rw [← gkp h2 hn, ← ex]
theorem gRw_keep {r a n q : Nat} {l : List Int32} (g : gRw hp r a n l) (hq : q ≤ l.length) : gRw (hp.set r (.inr (.inr (4, [.ref a, .int (nI q), .int (nI n)])))) r a n (l.take q) ∧ gFr hp (hp.set r (.inr (.inr (4, [.ref a, .int (nI q), .int (nI n)])))) r a := by
  obtain ⟨f, hr, ha, h3, h4, hf⟩ := g
  have hra : r ≠ a := gne hr ha (by intro h; cases h)
  refine ⟨⟨f, ?_, gset_other ha hra, by rw [List.length_take]; omega, h4, g_take hf⟩, fun k h1 h2 => List.getElem?_set_ne (Ne.symm h1)⟩
  rw [gset_self hr, List.length_take, Nat.min_eq_left hq]
theorem gRg_keep {r a n mo q : Nat} {l : List Int32} (g : gRg hp r a n mo l) (hq : q ≤ l.length) : gRg (hp.set r (.inr (.inr (4, [.ref a, .int (nI q), .int (nI mo)])))) r a n mo (l.take q) ∧ gFr hp (hp.set r (.inr (.inr (4, [.ref a, .int (nI q), .int (nI mo)])))) r a := by
  obtain ⟨f, hr, ha, h3, h4, hf⟩ := g
  have hra : r ≠ a := gne hr ha (by intro h; cases h)
  refine ⟨⟨f, ?_, gset_other ha hra, by rw [List.length_take]; omega, h4, g_take hf⟩, fun k h1 h2 => List.getElem?_set_ne (Ne.symm h1)⟩
  rw [gset_self hr, List.length_take, Nat.min_eq_left hq]
theorem tX4_keep {x : Int32} (H : tyS T R J Bc Bs M z hp) (hk : tyK k = (1, m)) (hm : ¬ (m = 96 ∨ m = 15)) : gM yX4_keep cX4_keep 2 (none) 1 21 [.ref k, .int x] (hp) (0) (0) (fun v h => v = none ∧ tyS T R J Bc Bs M z h) := by
  obtain ⟨l, g, -⟩ := tyRow H hk
  obtain ⟨q, hq, e⟩ := gkx (x := x) (n := l.length) (by have := g.le; omega)
  exact (c_X4_keep g.obj).mp fun v h p => by
    obtain ⟨rfl, rfl⟩ := p
    rw [e]
    exact ⟨rfl, H.row hk (gRw_keep g hq).1 (gRw_keep g hq).2 ⟨fun e => absurd e (tyN1 hk hm), fun e => absurd e (tyN2 H hk hm)⟩⟩
theorem tX4_keep_g {x : Int32} (H : tyS T R J Bc Bs M z hp) (hk : tyK k = (4, m)) : gM yX4_keep cX4_keep 2 (none) 1 21 [.ref k, .int x] (hp) (0) (0) (fun v h => v = none ∧ tyS T R J Bc Bs M z h) := by
  obtain ⟨a, l, g, w, -⟩ := tyRowg H hk
  obtain ⟨q, hq, e⟩ := gkx (x := x) (n := l.length) (by have := g.le; omega)
  exact (c_X4_keep g.obj).mp fun v h p => by
    obtain ⟨rfl, rfl⟩ := p
    rw [e]
    exact ⟨rfl, H.rowg hk g w (gRg_keep g hq).1 (gRg_keep g hq).2⟩
theorem tX4_keep_T {n : Nat} (H : tyS T R J Bc Bs M z hp) (hn : n < 2 ^ 31) : gM yX4_keep cX4_keep 2 (none) 1 21 [.ref 1, .int (nI n)] (hp) (0) (0) (fun v h => v = none ∧ tyS (T.stp (T.tp.take n)) R J Bc Bs M z h) := by
  obtain ⟨l, g, e⟩ := tyRow H (k := 1) (m := 96) rfl
  have e1 : l = T.tp := e.1 rfl
  subst e1
  exact (c_X4_keep_w g hn).mp fun v h q => by obtain ⟨rfl, q1, q2⟩ := q; exact ⟨rfl, H.tape q1 q2⟩
theorem tX4_put {x y : Int32} (H : tyS T R J Bc Bs M z hp) (hk : tyK k = (1, m)) (hm : ¬ (m = 96 ∨ m = 15)) : gM yX4_put cX4_put 3 (none) 0 0 [.ref k, .int x, .int y] (hp) (0) (0) (fun v h => v = none ∧ tyS T R J Bc Bs M z h) := by
  obtain ⟨l, g, -⟩ := tyRow H hk
  exact (c_X4_put_g g.g).mp fun v h q => by obtain ⟨rfl, q1, q2⟩ := q; exact ⟨rfl, H.row hk (q1.w g.le.2) q2 ⟨fun e => absurd e (tyN1 hk hm), fun e => absurd e (tyN2 H hk hm)⟩⟩
theorem tX4_put_g {x y : Int32} (H : tyS T R J Bc Bs M z hp) (hk : tyK k = (4, m)) : gM yX4_put cX4_put 3 (none) 0 0 [.ref k, .int x, .int y] (hp) (0) (0) (fun v h => v = none ∧ tyS T R J Bc Bs M z h) := by
  obtain ⟨a, l, g, w, -⟩ := tyRowg H hk
  exact (c_X4_put_g g).mp fun v h q => by obtain ⟨rfl, q1, q2⟩ := q; exact ⟨rfl, H.rowg hk g w q1 q2⟩
theorem tX4_xor (H : tyS T R J Bc Bs M z hp) (hk : tyK k = (1, m)) : gM yX4_xor cX4_xor 4 ((some .int)) 1 21 [.ref k, .int 0] (hp) (0) (0) (fun v h => ∃ x, v = some (.int x) ∧ hp = h) := by
  obtain ⟨l, g, -⟩ := tyRow H hk
  exact (c_X4_xor_w g).mp fun v h q => by obtain ⟨rfl, rfl⟩ := q; exact ⟨_, rfl, rfl⟩
set_option maxRecDepth 100000 in
theorem c_X4_add_gf {r a n mo : Nat} {l : List Int32} {x : Int32} {mc ms : Nat} (H : gRg hp r a n mo l) (hx : ¬ l.length < mo) (hmo : mo ≤ 1048576) : gM yX4_add cX4_add 2 (none) 2 82 [.ref r, .int x] (hp) (mc) (ms) (fun v h => v = none ∧ h = hp) := by
  obtain ⟨f, hr, ha, hle, hn, hf⟩ := H
  have hlt : l.length < 2 ^ 31 := by omega
  refine gM_of (ls0 := [some (.ref r), some (.int x)]) (by decide +kernel) (Nat.le_of_ble_eq_true rfl) rfl fun X C E => ?_
  refine g_aload_n (q := 1) C dX4_add_0 rfl rfl ?_
  refine g_getfield (q := 4) C fX4_7 dX4_add_1 rfl hr rfl ?_
  refine g_aload_n (q := 5) C dX4_add_4 rfl rfl ?_
  refine g_getfield (q := 8) C fX4_23 dX4_add_5 rfl hr rfl ?_
  refine g_icmp_lt_f (t := 12) (q := 11) C dX4_add_8 (by decide) rfl (nI_nlt (Nat.not_lt.mp hx) hlt) ?_
  exact E.2.1 _ _ _ _ _ dX4_add_11 rfl (Nat.zero_le _) (Nat.zero_le _) ⟨rfl, rfl⟩
theorem tX4_add_g {x : Int32} (H : tyS T R J Bc Bs M z hp) (hk : tyK k = (4, m)) (hm : m ≤ 1048576) : gM yX4_add cX4_add 2 (none) 2 82 [.ref k, .int x] (hp) (300000 - hp.length) (7000000 - gsz hp) (fun v h => v = none ∧ ∃ z', tyS T R J Bc Bs M z' h) := by
  obtain ⟨a, l, g, w, w1, j, w2⟩ := tyRowg H hk
  have lm := H.lim
  by_cases c : l.length < m
  · refine (c_X4_add_g g c hm (by omega) (fun _ => by omega) (fun _ => ?_)).mp fun v h q => ?_
    · have : min m (2 * z k) ≤ m := Nat.min_le_left _ _
      omega
    · obtain ⟨rfl, a', n', q1, q2⟩ := q
      refine ⟨rfl, ?_⟩
      rcases q2 with ⟨rfl, rfl, -, -, q3⟩ | ⟨rfl, rfl, q0, q3, q4, q5⟩
      · exact ⟨z, H.rowg hk g w q1 q3⟩
      · exact H.grown hk (by omega) q1 q3 q4 q5
  · exact (c_X4_add_gf g c hm).mp fun v h q => by obtain ⟨rfl, rfl⟩ := q; exact ⟨rfl, z, H⟩
end TR
