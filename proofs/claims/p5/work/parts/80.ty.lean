/-! THE CLASS BY SHAPE ALONE: the kinds of its cells, the picture (by program: wip/p2t/m_ty.py) -/
theorem gRwSame {hp h : List gA} {r a n : Nat} {l l' : List Int32} (g0 : gRw hp r a n l) (g : gRw h r a n l') (f : gFr hp h r a) : h.length = hp.length ∧ gsz h = gsz hp ∧ ∀ J, gJk J hp → gJk J h := by
  obtain ⟨F0, a1, a2, -⟩ := g0
  obtain ⟨F, c1, c2, -⟩ := g
  have el : h.length = hp.length := by
    have key : ∀ i, i < hp.length ↔ i < h.length := fun i => by
      by_cases e1 : i = r
      · subst e1
        exact ⟨fun _ => (List.getElem?_eq_some_iff.mp c1).1, fun _ => (List.getElem?_eq_some_iff.mp a1).1⟩
      · by_cases e2 : i = a
        · subst e2
          exact ⟨fun _ => (List.getElem?_eq_some_iff.mp c2).1, fun _ => (List.getElem?_eq_some_iff.mp a2).1⟩
        · have e := f i e1 e2
          constructor
          · intro hi
            rw [List.getElem?_eq_getElem hi] at e
            exact (List.getElem?_eq_some_iff.mp e).1
          · intro hi
            rw [List.getElem?_eq_getElem hi] at e
            exact (List.getElem?_eq_some_iff.mp e.symm).1
    have k1 := key hp.length
    have k2 := key h.length
    omega
  have em : h.map gcs = hp.map gcs := by
    refine List.ext_getElem? fun i => ?_
    rw [List.getElem?_map, List.getElem?_map]
    by_cases e1 : i = r
    · subst e1; rw [c1, a1]; rfl
    · by_cases e2 : i = a
      · subst e2; rw [c2, a2]; rfl
      · rw [f i e1 e2]
  refine ⟨el, by unfold gsz; rw [em], fun J H i => ?_⟩
  by_cases e1 : i = r
  · subst e1
    rw [c1]
    refine ⟨fun q => absurd (Option.some.inj q) (gJ4 (by decide)), fun q => ?_⟩
    have := (H i).mpr q
    rw [a1] at this
    exact absurd (Option.some.inj this) (gJ4 (by decide))
  · by_cases e2 : i = a
    · subst e2
      rw [c2]
      refine ⟨fun q => absurd (Option.some.inj q) gJ2, fun q => ?_⟩
      have := (H i).mpr q
      rw [a2] at this
      exact absurd (Option.some.inj this) gJ2
    · rw [f i e1 e2]; exact H i
def tyKs : List (Nat × Nat) := [(0, 0), (1, 96), (2, 96), (3, 0), (4, 1048576), (2, 256), (4, 65536), (2, 32), (4, 65536), (2, 32), (4, 65536), (2, 32), (1, 256), (2, 256), (1, 30), (2, 30), (1, 30), (2, 30), (1, 30), (2, 30), (7, 0), (5, 0), (1, 60), (2, 60), (1, 60), (2, 60), (1, 60), (2, 60), (5, 0), (1, 60), (2, 60), (1, 60), (2, 60), (1, 60), (2, 60), (6, 0), (2, 24), (2, 24), (2, 24), (1, 64), (2, 64), (1, 64), (2, 64), (8, 0), (7, 0), (5, 0), (1, 60), (2, 60), (1, 60), (2, 60), (1, 60), (2, 60), (5, 0), (1, 60), (2, 60), (1, 60), (2, 60), (1, 60), (2, 60), (6, 0), (2, 24), (2, 24), (2, 24), (1, 64), (2, 64), (1, 64), (2, 64), (7, 0), (5, 0), (1, 60), (2, 60), (1, 60), (2, 60), (1, 60), (2, 60), (5, 0), (1, 60), (2, 60), (1, 60), (2, 60), (1, 60), (2, 60), (6, 0), (2, 24), (2, 24), (2, 24), (1, 64), (2, 64), (1, 64), (2, 64), (7, 0), (5, 0), (1, 60), (2, 60), (1, 60), (2, 60), (1, 60), (2, 60), (5, 0), (1, 60), (2, 60), (1, 60), (2, 60), (1, 60), (2, 60), (6, 0), (2, 24), (2, 24), (2, 24), (1, 64), (2, 64), (1, 64), (2, 64), (2, 4), (2, 4), (2, 4), (9, 0), (1, 15), (2, 15), (9, 0), (1, 15), (2, 15)]
def tyK (k : Nat) : Nat × Nat := tyKs.getD k (99, 0)
theorem tyK_lt {k t m : Nat} (h : tyK k = (t, m)) (ht : t < 99) : k < 122 := by
  by_cases c : k < 122
  · exact c
  · have e : tyK k = (99, 0) := by
      unfold tyK
      rw [List.getD_eq_getElem?_getD, List.getElem?_eq_none (by show tyKs.length ≤ k; have : tyKs.length = 122 := rfl; omega)]; rfl
    rw [e] at h
    have := congrArg Prod.fst h
    have : 99 = t := this
    omega
/-- what is told of the class: the tape; which reset answer is in force, which is spare, whether a card is there; the answer in force: its ints by field, its historical bytes -/
def tyT : Type := List Int32 × ((Nat × (Nat × Int32)) × (rq × List Int32))
def tyT.tp (T : tyT) : List Int32 := T.1
def tyT.fo (T : tyT) : Nat := T.2.1.1
def tyT.sp (T : tyT) : Nat := T.2.1.2.1
def tyT.ci (T : tyT) : Int32 := T.2.1.2.2
def tyT.q (T : tyT) : rq := T.2.2.1
def tyT.hi (T : tyT) : List Int32 := T.2.2.2
def tyT.stp (T : tyT) (l : List Int32) : tyT := (l, T.2)
/-- what a cell of the class holds, by its kind -/
def tyOk (T : tyT) (R : Nat) (z : Nat → Nat) (hp : List gA) (k : Nat) (e : gA) : Prop :=
  if (tyK k).1 = 0 then ∃ x6 : Int32, ∃ q4 q5 : Nat, e = .inr (.inr (7, [.ref 1, .ref 3, .ref 20, .ref 43, .ref q4, .ref q5, .int x6])) ∧ (x6 = 0 ∨ x6 = 1) ∧ (q4 = 116 ∨ q4 = 119) ∧ (q5 = 116 ∨ q5 = 119) ∧ (x6 = T.ci ∧ q4 = T.fo ∧ q5 = T.sp)
  else if (tyK k).1 = 1 then ∃ l, gRw hp k (k + 1) (tyK k).2 l ∧ ((k = 1 → l = T.tp) ∧ (k = T.fo + 1 → l = T.hi))
  else if (tyK k).1 = 2 then ∃ f, e = .inl ((tyK k).2, f)
  else if (tyK k).1 = 3 then ∃ x8 : Int32, e = .inr (.inr (1, [.ref 4, .ref 6, .ref 8, .ref 10, .ref 12, .ref 14, .ref 16, .ref 18, .int x8]))
  else if (tyK k).1 = 4 then ∃ a l, gRg hp k a (z k) (tyK k).2 l ∧ (a = k + 1 ∨ 140 ≤ a) ∧ 32 ≤ z k ∧ ∃ j, z k * 2 ^ j = (tyK k).2
  else if (tyK k).1 = 5 then ∃ x0 x1 x2 x3 x4 x5 x6 x7 x11 x12 x13 x14 : Int32, e = .inr (.inr (5, [.int x0, .int x1, .int x2, .int x3, .int x4, .int x5, .int x6, .int x7, .ref (k + 1), .ref (k + 3), .ref (k + 5), .int x11, .int x12, .int x13, .int x14])) ∧ (x12 = 0 ∨ x12 = 1)
  else if (tyK k).1 = 6 then ∃ x0 x1 x2 x6 x7 x8 x9 : Int32, e = .inr (.inr (6, [.int x0, .int x1, .int x2, .ref (k + 1), .ref (k + 2), .ref (k + 3), .int x6, .int x7, .int x8, .int x9])) ∧ (k = 35 → x0 = nI R)
  else if (tyK k).1 = 7 then ∃ x3 x4 x5 x6 x7 x11 x12 x13 x14 x15 x16 x17 : Int32, ∃ jv : Value, e = .inr (.inr (2, [.ref (k + 1), .ref (k + 8), .ref (k + 15), .int x3, .int x4, .int x5, .int x6, .int x7, .ref (k + 19), .ref (k + 21), jv, .int x11, .int x12, .int x13, .int x14, .int x15, .int x16, .int x17])) ∧ (x12 = 0 ∨ x12 = 1) ∧ (x14 = 0 ∨ x14 = 1) ∧ (x15 = 0 ∨ x15 = 1) ∧ ((k = 20 ∧ jv = .ref 3) ∨ (¬ k = 20 ∧ jv = .null))
  else if (tyK k).1 = 8 then ∃ x3 : Int32, e = .inr (.inr (0, [.ref 44, .ref 67, .ref 90, .int x3, .ref 113, .ref 114, .ref 115])) ∧ (x3 = 0 ∨ x3 = 1)
  else if (tyK k).1 = 9 then ∃ x0 x1 x2 x3 x4 x5 x6 x8 x9 x10 : Int32, e = .inr (.inr (3, [.int x0, .int x1, .int x2, .int x3, .int x4, .int x5, .int x6, .ref (k + 1), .int x8, .int x9, .int x10])) ∧ (x6 = 0 ∨ x6 = 1) ∧ (k = T.fo → x0 = T.q.f 0 ∧ x1 = T.q.f 1 ∧ x2 = T.q.f 2 ∧ x3 = T.q.f 3 ∧ x4 = T.q.f 4 ∧ x5 = T.q.f 5 ∧ x6 = T.q.f 6)
  else False
/-- the class's world beside the reference's: T bytes on the tape, REPEATS R, junk at J, the growing rows' sizes z -/
def tyS (T : tyT) (R : Nat) (J : Nat → Prop) (Bc Bs : Nat) (M : gMd) (z : Nat → Nat) (hp : List gA) : Prop :=
  (∀ k, k < 122 → ∃ e, hp[k]? = some e ∧ e ≠ gJunk ∧ tyOk T R z hp k e) ∧ gMod hp M ∧ (∃ f, hp[139]? = some (.inr (.inl (1, f)))) ∧ gJk J hp ∧ (140 ≤ hp.length ∧ hp.length ≤ Bc + (z 4 / 32 + z 6 / 32 + z 8 / 32 + z 10 / 32) ∧ gsz hp ≤ Bs + 2 * (z 4 + z 6 + z 8 + z 10) ∧ Bc ≤ 200000 ∧ Bs ≤ 1000000)
section TY
variable {T : tyT} {R : Nat} {J : Nat → Prop} {Bc Bs : Nat} {M : gMd} {z : Nat → Nat} {hp h : List gA} {k : Nat}
theorem tyS.ok (H : tyS T R J Bc Bs M z hp) {t m : Nat} (hk : tyK k = (t, m)) (ht : t < 99) : ∃ e, hp[k]? = some e ∧ e ≠ gJunk ∧ tyOk T R z hp k e := H.1 k (tyK_lt hk ht)
theorem tyG7 (H : tyS T R J Bc Bs M z hp) (hk : tyK k = (0, 0)) : ∃ x6 : Int32, ∃ q4 q5 : Nat, hp[k]? = some (.inr (.inr (7, [.ref 1, .ref 3, .ref 20, .ref 43, .ref q4, .ref q5, .int x6]))) ∧ (x6 = 0 ∨ x6 = 1) ∧ (q4 = 116 ∨ q4 = 119) ∧ (q5 = 116 ∨ q5 = 119) := by
  obtain ⟨e, he, -, ok⟩ := H.ok hk (by decide)
  have e1 : (tyK k).1 = 0 := by rw [hk]
  unfold tyOk at ok
  rw [if_pos e1] at ok
  obtain ⟨x6, q4, q5, rfl, b0, b1, b2, -⟩ := ok
  exact ⟨x6, q4, q5, he, b0, b1, b2⟩
theorem tyG7x (H : tyS T R J Bc Bs M z hp) (hk : tyK k = (0, 0)) : ∃ x6 : Int32, ∃ q4 q5 : Nat, hp[k]? = some (.inr (.inr (7, [.ref 1, .ref 3, .ref 20, .ref 43, .ref q4, .ref q5, .int x6]))) ∧ (x6 = 0 ∨ x6 = 1) ∧ (q4 = 116 ∨ q4 = 119) ∧ (q5 = 116 ∨ q5 = 119) ∧ (x6 = T.ci ∧ q4 = T.fo ∧ q5 = T.sp) := by
  obtain ⟨e, he, -, ok⟩ := H.ok hk (by decide)
  have e1 : (tyK k).1 = 0 := by rw [hk]
  unfold tyOk at ok
  rw [if_pos e1] at ok
  obtain ⟨x6, q4, q5, rfl, b0, b1, b2⟩ := ok
  exact ⟨x6, q4, q5, he, b0, b1, b2⟩
theorem tyG1 (H : tyS T R J Bc Bs M z hp) (hk : tyK k = (3, 0)) : ∃ x8 : Int32, hp[k]? = some (.inr (.inr (1, [.ref 4, .ref 6, .ref 8, .ref 10, .ref 12, .ref 14, .ref 16, .ref 18, .int x8]))) := by
  obtain ⟨e, he, -, ok⟩ := H.ok hk (by decide)
  have e1 : (tyK k).1 = 3 := by rw [hk]
  unfold tyOk at ok
  rw [if_neg (by rw [e1]; decide), if_neg (by rw [e1]; decide), if_neg (by rw [e1]; decide), if_pos e1] at ok
  obtain ⟨x8, rfl⟩ := ok
  exact ⟨x8, he⟩
theorem tyG5 (H : tyS T R J Bc Bs M z hp) (hk : tyK k = (5, 0)) : ∃ x0 x1 x2 x3 x4 x5 x6 x7 x11 x12 x13 x14 : Int32, hp[k]? = some (.inr (.inr (5, [.int x0, .int x1, .int x2, .int x3, .int x4, .int x5, .int x6, .int x7, .ref (k + 1), .ref (k + 3), .ref (k + 5), .int x11, .int x12, .int x13, .int x14]))) ∧ (x12 = 0 ∨ x12 = 1) := by
  obtain ⟨e, he, -, ok⟩ := H.ok hk (by decide)
  have e1 : (tyK k).1 = 5 := by rw [hk]
  unfold tyOk at ok
  rw [if_neg (by rw [e1]; decide), if_neg (by rw [e1]; decide), if_neg (by rw [e1]; decide), if_neg (by rw [e1]; decide), if_neg (by rw [e1]; decide), if_pos e1] at ok
  obtain ⟨x0, x1, x2, x3, x4, x5, x6, x7, x11, x12, x13, x14, rfl, b0⟩ := ok
  exact ⟨x0, x1, x2, x3, x4, x5, x6, x7, x11, x12, x13, x14, he, b0⟩
theorem tyG6 (H : tyS T R J Bc Bs M z hp) (hk : tyK k = (6, 0)) : ∃ x0 x1 x2 x6 x7 x8 x9 : Int32, hp[k]? = some (.inr (.inr (6, [.int x0, .int x1, .int x2, .ref (k + 1), .ref (k + 2), .ref (k + 3), .int x6, .int x7, .int x8, .int x9]))) ∧ (k = 35 → x0 = nI R) := by
  obtain ⟨e, he, -, ok⟩ := H.ok hk (by decide)
  have e1 : (tyK k).1 = 6 := by rw [hk]
  unfold tyOk at ok
  rw [if_neg (by rw [e1]; decide), if_neg (by rw [e1]; decide), if_neg (by rw [e1]; decide), if_neg (by rw [e1]; decide), if_neg (by rw [e1]; decide), if_neg (by rw [e1]; decide), if_pos e1] at ok
  obtain ⟨x0, x1, x2, x6, x7, x8, x9, rfl, b0⟩ := ok
  exact ⟨x0, x1, x2, x6, x7, x8, x9, he, b0⟩
theorem tyG2 (H : tyS T R J Bc Bs M z hp) (hk : tyK k = (7, 0)) : ∃ x3 x4 x5 x6 x7 x11 x12 x13 x14 x15 x16 x17 : Int32, ∃ jv : Value, hp[k]? = some (.inr (.inr (2, [.ref (k + 1), .ref (k + 8), .ref (k + 15), .int x3, .int x4, .int x5, .int x6, .int x7, .ref (k + 19), .ref (k + 21), jv, .int x11, .int x12, .int x13, .int x14, .int x15, .int x16, .int x17]))) ∧ (x12 = 0 ∨ x12 = 1) ∧ (x14 = 0 ∨ x14 = 1) ∧ (x15 = 0 ∨ x15 = 1) ∧ ((k = 20 ∧ jv = .ref 3) ∨ (¬ k = 20 ∧ jv = .null)) := by
  obtain ⟨e, he, -, ok⟩ := H.ok hk (by decide)
  have e1 : (tyK k).1 = 7 := by rw [hk]
  unfold tyOk at ok
  rw [if_neg (by rw [e1]; decide), if_neg (by rw [e1]; decide), if_neg (by rw [e1]; decide), if_neg (by rw [e1]; decide), if_neg (by rw [e1]; decide), if_neg (by rw [e1]; decide), if_neg (by rw [e1]; decide), if_pos e1] at ok
  obtain ⟨x3, x4, x5, x6, x7, x11, x12, x13, x14, x15, x16, x17, jv, rfl, b0, b1, b2, b3⟩ := ok
  exact ⟨x3, x4, x5, x6, x7, x11, x12, x13, x14, x15, x16, x17, jv, he, b0, b1, b2, b3⟩
theorem tyG0 (H : tyS T R J Bc Bs M z hp) (hk : tyK k = (8, 0)) : ∃ x3 : Int32, hp[k]? = some (.inr (.inr (0, [.ref 44, .ref 67, .ref 90, .int x3, .ref 113, .ref 114, .ref 115]))) ∧ (x3 = 0 ∨ x3 = 1) := by
  obtain ⟨e, he, -, ok⟩ := H.ok hk (by decide)
  have e1 : (tyK k).1 = 8 := by rw [hk]
  unfold tyOk at ok
  rw [if_neg (by rw [e1]; decide), if_neg (by rw [e1]; decide), if_neg (by rw [e1]; decide), if_neg (by rw [e1]; decide), if_neg (by rw [e1]; decide), if_neg (by rw [e1]; decide), if_neg (by rw [e1]; decide), if_neg (by rw [e1]; decide), if_pos e1] at ok
  obtain ⟨x3, rfl, b0⟩ := ok
  exact ⟨x3, he, b0⟩
theorem tyG3 (H : tyS T R J Bc Bs M z hp) (hk : tyK k = (9, 0)) : ∃ x0 x1 x2 x3 x4 x5 x6 x8 x9 x10 : Int32, hp[k]? = some (.inr (.inr (3, [.int x0, .int x1, .int x2, .int x3, .int x4, .int x5, .int x6, .ref (k + 1), .int x8, .int x9, .int x10]))) ∧ (x6 = 0 ∨ x6 = 1) := by
  obtain ⟨e, he, -, ok⟩ := H.ok hk (by decide)
  have e1 : (tyK k).1 = 9 := by rw [hk]
  unfold tyOk at ok
  rw [if_neg (by rw [e1]; decide), if_neg (by rw [e1]; decide), if_neg (by rw [e1]; decide), if_neg (by rw [e1]; decide), if_neg (by rw [e1]; decide), if_neg (by rw [e1]; decide), if_neg (by rw [e1]; decide), if_neg (by rw [e1]; decide), if_neg (by rw [e1]; decide), if_pos e1] at ok
  obtain ⟨x0, x1, x2, x3, x4, x5, x6, x8, x9, x10, rfl, b0, -⟩ := ok
  exact ⟨x0, x1, x2, x3, x4, x5, x6, x8, x9, x10, he, b0⟩
theorem tyG3x (H : tyS T R J Bc Bs M z hp) (hk : tyK k = (9, 0)) : ∃ x0 x1 x2 x3 x4 x5 x6 x8 x9 x10 : Int32, hp[k]? = some (.inr (.inr (3, [.int x0, .int x1, .int x2, .int x3, .int x4, .int x5, .int x6, .ref (k + 1), .int x8, .int x9, .int x10]))) ∧ (x6 = 0 ∨ x6 = 1) ∧ (k = T.fo → x0 = T.q.f 0 ∧ x1 = T.q.f 1 ∧ x2 = T.q.f 2 ∧ x3 = T.q.f 3 ∧ x4 = T.q.f 4 ∧ x5 = T.q.f 5 ∧ x6 = T.q.f 6) := by
  obtain ⟨e, he, -, ok⟩ := H.ok hk (by decide)
  have e1 : (tyK k).1 = 9 := by rw [hk]
  unfold tyOk at ok
  rw [if_neg (by rw [e1]; decide), if_neg (by rw [e1]; decide), if_neg (by rw [e1]; decide), if_neg (by rw [e1]; decide), if_neg (by rw [e1]; decide), if_neg (by rw [e1]; decide), if_neg (by rw [e1]; decide), if_neg (by rw [e1]; decide), if_neg (by rw [e1]; decide), if_pos e1] at ok
  obtain ⟨x0, x1, x2, x3, x4, x5, x6, x8, x9, x10, rfl, b0⟩ := ok
  exact ⟨x0, x1, x2, x3, x4, x5, x6, x8, x9, x10, he, b0⟩
theorem tyRow {m : Nat} (H : tyS T R J Bc Bs M z hp) (hk : tyK k = (1, m)) : ∃ l, gRw hp k (k + 1) m l ∧ ((k = 1 → l = T.tp) ∧ (k = T.fo + 1 → l = T.hi)) := by
  obtain ⟨e, he, -, ok⟩ := H.ok hk (by decide)
  have e1 : (tyK k).1 = 1 := by rw [hk]
  have e2 : (tyK k).2 = m := by rw [hk]
  unfold tyOk at ok
  rw [if_neg (by rw [e1]; decide), if_pos e1, e2] at ok
  exact ok
theorem tyArr {m : Nat} (H : tyS T R J Bc Bs M z hp) (hk : tyK k = (2, m)) : ∃ f, hp[k]? = some (.inl (m, f)) := by
  obtain ⟨e, he, -, ok⟩ := H.ok hk (by decide)
  have e1 : (tyK k).1 = 2 := by rw [hk]
  have e2 : (tyK k).2 = m := by rw [hk]
  unfold tyOk at ok
  rw [if_neg (by rw [e1]; decide), if_neg (by rw [e1]; decide), if_pos e1, e2] at ok
  obtain ⟨f, rfl⟩ := ok
  exact ⟨f, he⟩
theorem tyRowg {m : Nat} (H : tyS T R J Bc Bs M z hp) (hk : tyK k = (4, m)) : ∃ a l, gRg hp k a (z k) m l ∧ (a = k + 1 ∨ 140 ≤ a) ∧ 32 ≤ z k ∧ ∃ j, z k * 2 ^ j = m := by
  obtain ⟨e, he, -, ok⟩ := H.ok hk (by decide)
  have e1 : (tyK k).1 = 4 := by rw [hk]
  have e2 : (tyK k).2 = m := by rw [hk]
  unfold tyOk at ok
  rw [if_neg (by rw [e1]; decide), if_neg (by rw [e1]; decide), if_neg (by rw [e1]; decide), if_neg (by rw [e1]; decide), if_pos e1, e2] at ok
  exact ok
theorem tyRow2 : ∀ k : Fin 122, (tyK k.1).1 = 1 ∨ (tyK k.1).1 = 4 → (tyK (k.1 + 1)).1 = 2 ∧ k.1 + 1 < 122 := by decide +kernel
/-- all kinds but rows speak of their own cell alone -/
theorem tyOk.mv {e : gA} (h1 : ¬ (tyK k).1 = 1) (h4 : ¬ (tyK k).1 = 4) (H : tyOk T R z hp k e) {z' : Nat → Nat} : tyOk T R z' h k e := by
  unfold tyOk at H ⊢
  rw [if_neg h1, if_neg h4] at H ⊢
  exact H
/-- the world behind a step: cells that changed are named by P -/
theorem tyS.mk {P : Nat → Prop} {z' : Nat → Nat} {Bc' Bs' : Nat} (H : tyS T R J Bc Bs M z hp) (hf : ∀ k, k < hp.length → ¬ P k → h[k]? = hp[k]?) (hP : ∀ k, P k → k < 122 ∨ 140 ≤ k)
    (hz : ∀ k, k < 122 → (tyK k).1 = 4 → ¬ P k → z' k = z k) (hg : ∀ k a l m, (tyK k).1 = 4 → ¬ P k → gRg hp k a (z k) m l → (a = k + 1 ∨ 140 ≤ a) → (∃ l', gRg h k a (z k) m l') ∨ ¬ P a)
    (hr : ∀ k, k < 122 → (tyK k).1 = 1 → ¬ P k → ¬ P (k + 1)) (hn : ∀ k, P k → k < 122 → ∃ e, h[k]? = some e ∧ e ≠ gJunk ∧ tyOk T R z' h k e) (hj : gJk J h) (hb : 140 ≤ h.length ∧ h.length ≤ Bc' + (z' 4 / 32 + z' 6 / 32 + z' 8 / 32 + z' 10 / 32) ∧ gsz h ≤ Bs' + 2 * (z' 4 + z' 6 + z' 8 + z' 10) ∧ Bc' ≤ 200000 ∧ Bs' ≤ 1000000) : tyS T R J Bc' Bs' M z' h := by
  have hl := H.2.2.2.2.1
  refine ⟨fun k hk => ?_, ⟨?_, fun i hi => ?_⟩, ?_, hj, hb⟩
  · by_cases c : P k
    · exact hn k c hk
    · obtain ⟨e, he, hne, ok⟩ := H.1 k hk
      refine ⟨e, (hf k (by omega) c).trans he, hne, ?_⟩
      by_cases c1 : (tyK k).1 = 1
      · unfold tyOk at ok ⊢
        rw [if_neg (by rw [c1]; decide), if_pos c1] at ok ⊢
        obtain ⟨l, g, w⟩ := ok
        have := (tyRow2 ⟨k, hk⟩ (Or.inl c1)).2
        exact ⟨l, g.kept (hf k (by omega) c) (hf (k + 1) (by omega) (hr k hk c1 c)), w⟩
      · by_cases c4 : (tyK k).1 = 4
        · unfold tyOk at ok ⊢
          rw [if_neg (by rw [c4]; decide), if_neg (by rw [c4]; decide), if_neg (by rw [c4]; decide), if_neg (by rw [c4]; decide), if_pos c4] at ok ⊢
          obtain ⟨a, l, g, w1, w2, w3⟩ := ok
          rw [hz k hk c4 c]
          rcases hg k a l _ c4 c g w1 with ⟨l', g'⟩ | na
          · exact ⟨a, l', g', w1, w2, w3⟩
          · exact ⟨a, l, g.kept (hf k (by omega) c) (hf a g.lt.2 na), w1, w2, w3⟩
        · exact tyOk.mv c1 c4 ok
  · have n : ¬ P 122 := fun c => by have := hP _ c; omega
    exact (hf 122 (by omega) n).trans H.2.1.1
  · have n : ¬ P (123 + i) := fun c => by have := hP _ c; omega
    exact (hf (123 + i) (by omega) n).trans (H.2.1.2 i hi)
  · have n : ¬ P 139 := fun c => by have := hP _ c; omega
    obtain ⟨f, e⟩ := H.2.2.1
    exact ⟨f, (hf 139 (by omega) n).trans e⟩
theorem gJk.one {J : Nat → Prop} {e e0 : gA} (H : gJk J hp) (he0 : hp[k]? = some e0) (h0 : e0 ≠ gJunk) (he : e ≠ gJunk) : gJk J (hp.set k e) := fun i => by
  by_cases c : i = k
  · subst c
    rw [gset_self he0]
    constructor
    · intro q; exact absurd (Option.some.inj q) he
    · intro q
      have := (H i).mpr q
      rw [he0] at this
      exact absurd (Option.some.inj this) h0
  · rw [List.getElem?_set_ne (Ne.symm c)]; exact H i
/-- an object's cell is written -/
theorem tyS.obj {t m : Nat} {e e0 : gA} (H : tyS T R J Bc Bs M z hp) (hk : tyK k = (t, m)) (ht : t < 99) (t1 : ¬ t = 1) (t2 : ¬ t = 2) (t4 : ¬ t = 4) (he0 : hp[k]? = some e0) (h0 : e0 ≠ gJunk) (hs : gcs e = gcs e0) (he : e ≠ gJunk) (ok : tyOk T R z (hp.set k e) k e) : tyS T R J Bc Bs M z (hp.set k e) := by
  have lt := tyK_lt hk ht
  have kt : (tyK k).1 = t := by rw [hk]
  obtain ⟨b1, b2, b3, b4, b5⟩ := H.2.2.2.2
  refine H.mk (P := fun q => q = k) (fun q _ c => List.getElem?_set_ne (Ne.symm c)) (fun q c => by omega) (fun q _ _ _ => rfl) (fun q a l m' c4 c g w => Or.inr fun e => ?_) (fun q hq c1 c e => ?_) (fun q c _ => ?_) (H.2.2.2.1.one he0 h0 he) ⟨by rw [List.length_set]; exact b1, by rw [List.length_set]; exact b2, by rw [gsz_set he0 hs]; exact b3, b4, b5⟩
  · have hq : q < 122 := by
      by_cases c : q < 122
      · exact c
      · have : tyK q = (99, 0) := by
          unfold tyK
          rw [List.getD_eq_getElem?_getD, List.getElem?_eq_none (by show tyKs.length ≤ q; have : tyKs.length = 122 := rfl; omega)]; rfl
        rw [this] at c4; cases c4
    have := tyRow2 ⟨q, hq⟩ (Or.inr c4)
    rcases w with w | w
    · rw [← w, e, kt] at this; omega
    · omega
  · have := tyRow2 ⟨q, hq⟩ (Or.inl c1)
    rw [e, kt] at this; omega
  · subst c
    exact ⟨e, gset_self he0, he, ok⟩
/-- an array that is no row's is written -/
theorem tyS.arr {m : Nat} {f g : Nat → Int32} (H : tyS T R J Bc Bs M z hp) (hk : tyK k = (2, m)) (hno : ∀ q, q < 122 → (tyK q).1 = 1 ∨ (tyK q).1 = 4 → ¬ q + 1 = k) (he0 : hp[k]? = some (.inl (m, f))) : tyS T R J Bc Bs M z (hp.set k (.inl (m, g))) := by
  have lt := tyK_lt hk (by decide)
  have kt : (tyK k).1 = 2 := by rw [hk]
  have km : (tyK k).2 = m := by rw [hk]
  obtain ⟨b1, b2, b3, b4, b5⟩ := H.2.2.2.2
  refine H.mk (P := fun q => q = k) (fun q _ c => List.getElem?_set_ne (Ne.symm c)) (fun q c => by omega) (fun q _ _ _ => rfl) (fun q a l m' c4 c g w => Or.inr fun e => ?_) (fun q hq c1 c e => hno q hq (Or.inl c1) e) (fun q c _ => ?_) (H.2.2.2.1.one he0 gJ2 gJ2) ⟨by rw [List.length_set]; exact b1, by rw [List.length_set]; exact b2, by rw [show gsz (hp.set k (.inl (m, g))) = gsz hp from gsz_set he0 rfl]; exact b3, b4, b5⟩
  · have hq : q < 122 := by
      by_cases c : q < 122
      · exact c
      · have : tyK q = (99, 0) := by
          unfold tyK
          rw [List.getD_eq_getElem?_getD, List.getElem?_eq_none (by show tyKs.length ≤ q; have : tyKs.length = 122 := rfl; omega)]; rfl
        rw [this] at c4; cases c4
    rcases w with w | w
    · exact hno q hq (Or.inr c4) (w ▸ e)
    · omega
  · subst c
    refine ⟨_, gset_self he0, gJ2, ?_⟩
    unfold tyOk
    rw [if_neg (by rw [kt]; decide), if_neg (by rw [kt]; decide), if_pos kt, km]
    exact ⟨g, rfl⟩
/-- a row of fixed size, written by its own methods -/
theorem tyS.row {m : Nat} {l' : List Int32} (H : tyS T R J Bc Bs M z hp) (hk : tyK k = (1, m)) (g : gRw h k (k + 1) m l') (f : gFr hp h k (k + 1)) (hT : (k = 1 → l' = T.tp) ∧ (k = T.fo + 1 → l' = T.hi)) : tyS T R J Bc Bs M z h := by
  have lt := tyK_lt hk (by decide)
  have kt : (tyK k).1 = 1 := by rw [hk]
  have km : (tyK k).2 = m := by rw [hk]
  have r2 := tyRow2 ⟨k, lt⟩ (Or.inl kt)
  obtain ⟨l0, g0, -⟩ := tyRow H hk
  obtain ⟨b1, b2, b3, b4, b5⟩ := H.2.2.2.2
  have sm := gRwSame g0 g f
  refine H.mk (P := fun q => q = k ∨ q = k + 1) (fun q _ c => f q (fun e => c (Or.inl e)) (fun e => c (Or.inr e))) (fun q c => by have c' : q = k ∨ q = k + 1 := c; have r3 : k + 1 < 122 := r2.2; omega) (fun q _ _ _ => rfl) (fun q a l m' c4 c g w => Or.inr fun e => ?_) (fun q hq c1 c e => ?_) (fun q c hq => ?_) (sm.2.2 J H.2.2.2.1) ⟨by rw [sm.1]; exact b1, by rw [sm.1]; exact b2, by rw [sm.2.1]; exact b3, b4, b5⟩
  · have hq : q < 122 := by
      by_cases c : q < 122
      · exact c
      · have : tyK q = (99, 0) := by
          unfold tyK
          rw [List.getD_eq_getElem?_getD, List.getElem?_eq_none (by show tyKs.length ≤ q; have : tyKs.length = 122 := rfl; omega)]; rfl
        rw [this] at c4; cases c4
    have := (tyRow2 ⟨q, hq⟩ (Or.inr c4)).1
    rcases w with w | w
    · rcases e with e | e
      · rw [← w, e, kt] at this; omega
      · have : q = k := by omega
        exact c (Or.inl this)
    · omega
  · have := (tyRow2 ⟨q, hq⟩ (Or.inl c1)).1
    rcases e with e | e
    · rw [e, kt] at this; omega
    · exact c (Or.inl (by omega))
  · rcases c with c | c
    · subst c
      refine ⟨_, g.obj, gJ4 (by decide), ?_⟩
      unfold tyOk
      rw [if_neg (by rw [kt]; decide), if_pos kt, km]
      exact ⟨l', g, hT⟩
    · subst c
      have k2 : (tyK (k + 1)).1 = 2 := r2.1
      obtain ⟨e0, q0, -, ok0⟩ := H.1 (k + 1) hq
      obtain ⟨F0, -, q0', -⟩ := g0
      obtain ⟨F, -, q1, -⟩ := g
      refine ⟨_, q1, gJ2, ?_⟩
      unfold tyOk at ok0 ⊢
      rw [if_neg (by rw [k2]; decide), if_neg (by rw [k2]; decide), if_pos k2] at ok0 ⊢
      obtain ⟨f0, rfl⟩ := ok0
      rw [q0'] at q0
      have em : m = (tyK (k + 1)).2 := by
        have := Option.some.inj q0
        cases this; rfl
      rw [← em]
      exact ⟨F, rfl⟩
theorem tyP1 {X : gX} {pc cl sl : Nat} {ls : List (Option Value)} {st : List Value} {e : gA} {x8 : Int32} (H : tyS T R J Bc Bs M z hp) (hk : tyK k = (3, 0)) (he : e = .inr (.inr (1, [.ref 4, .ref 6, .ref 8, .ref 10, .ref 12, .ref 14, .ref 16, .ref 18, .int x8])))  (kk : ∀ h, h.length = hp.length → gsz h = gsz hp → tyS T R J Bc Bs M z h → gG X pc ls st h cl sl) : gG X pc ls st (hp.set k e) cl sl := by
  subst he
  obtain ⟨e0, q0, n0, ok⟩ := H.ok hk (by decide)
  have e1 : (tyK k).1 = 3 := by rw [hk]
  unfold tyOk at ok
  rw [if_neg (by rw [e1]; decide), if_neg (by rw [e1]; decide), if_neg (by rw [e1]; decide), if_pos e1] at ok
  obtain ⟨_, rfl⟩ := ok
  refine kk _ List.length_set (gsz_set q0 rfl) (H.obj hk (by decide) (by decide) (by decide) (by decide) q0 n0 rfl (gJ4 (by decide)) ?_)
  unfold tyOk
  rw [if_neg (by rw [e1]; decide), if_neg (by rw [e1]; decide), if_neg (by rw [e1]; decide), if_pos e1]
  exact ⟨x8, rfl⟩
theorem tyP5 {X : gX} {pc cl sl : Nat} {ls : List (Option Value)} {st : List Value} {e : gA} {x0 x1 x2 x3 x4 x5 x6 x7 x11 x12 x13 x14 : Int32} (H : tyS T R J Bc Bs M z hp) (hk : tyK k = (5, 0)) (he : e = .inr (.inr (5, [.int x0, .int x1, .int x2, .int x3, .int x4, .int x5, .int x6, .int x7, .ref (k + 1), .ref (k + 3), .ref (k + 5), .int x11, .int x12, .int x13, .int x14]))) (b0 : (x12 = 0 ∨ x12 = 1)) (kk : ∀ h, h.length = hp.length → gsz h = gsz hp → tyS T R J Bc Bs M z h → gG X pc ls st h cl sl) : gG X pc ls st (hp.set k e) cl sl := by
  subst he
  obtain ⟨e0, q0, n0, ok⟩ := H.ok hk (by decide)
  have e1 : (tyK k).1 = 5 := by rw [hk]
  unfold tyOk at ok
  rw [if_neg (by rw [e1]; decide), if_neg (by rw [e1]; decide), if_neg (by rw [e1]; decide), if_neg (by rw [e1]; decide), if_neg (by rw [e1]; decide), if_pos e1] at ok
  obtain ⟨_, _, _, _, _, _, _, _, _, _, _, _, rfl, -⟩ := ok
  refine kk _ List.length_set (gsz_set q0 rfl) (H.obj hk (by decide) (by decide) (by decide) (by decide) q0 n0 rfl (gJ4 (by decide)) ?_)
  unfold tyOk
  rw [if_neg (by rw [e1]; decide), if_neg (by rw [e1]; decide), if_neg (by rw [e1]; decide), if_neg (by rw [e1]; decide), if_neg (by rw [e1]; decide), if_pos e1]
  exact ⟨x0, x1, x2, x3, x4, x5, x6, x7, x11, x12, x13, x14, rfl, b0⟩
theorem tyP6 {X : gX} {pc cl sl : Nat} {ls : List (Option Value)} {st : List Value} {e : gA} {x0 x1 x2 x6 x7 x8 x9 : Int32} (H : tyS T R J Bc Bs M z hp) (hk : tyK k = (6, 0)) (he : e = .inr (.inr (6, [.int x0, .int x1, .int x2, .ref (k + 1), .ref (k + 2), .ref (k + 3), .int x6, .int x7, .int x8, .int x9]))) (b0 : (k = 35 → x0 = nI R)) (kk : ∀ h, h.length = hp.length → gsz h = gsz hp → tyS T R J Bc Bs M z h → gG X pc ls st h cl sl) : gG X pc ls st (hp.set k e) cl sl := by
  subst he
  obtain ⟨e0, q0, n0, ok⟩ := H.ok hk (by decide)
  have e1 : (tyK k).1 = 6 := by rw [hk]
  unfold tyOk at ok
  rw [if_neg (by rw [e1]; decide), if_neg (by rw [e1]; decide), if_neg (by rw [e1]; decide), if_neg (by rw [e1]; decide), if_neg (by rw [e1]; decide), if_neg (by rw [e1]; decide), if_pos e1] at ok
  obtain ⟨_, _, _, _, _, _, _, rfl, -⟩ := ok
  refine kk _ List.length_set (gsz_set q0 rfl) (H.obj hk (by decide) (by decide) (by decide) (by decide) q0 n0 rfl (gJ4 (by decide)) ?_)
  unfold tyOk
  rw [if_neg (by rw [e1]; decide), if_neg (by rw [e1]; decide), if_neg (by rw [e1]; decide), if_neg (by rw [e1]; decide), if_neg (by rw [e1]; decide), if_neg (by rw [e1]; decide), if_pos e1]
  exact ⟨x0, x1, x2, x6, x7, x8, x9, rfl, b0⟩
theorem tyP2 {X : gX} {pc cl sl : Nat} {ls : List (Option Value)} {st : List Value} {e : gA} {x3 x4 x5 x6 x7 x11 x12 x13 x14 x15 x16 x17 : Int32} {jv : Value} (H : tyS T R J Bc Bs M z hp) (hk : tyK k = (7, 0)) (he : e = .inr (.inr (2, [.ref (k + 1), .ref (k + 8), .ref (k + 15), .int x3, .int x4, .int x5, .int x6, .int x7, .ref (k + 19), .ref (k + 21), jv, .int x11, .int x12, .int x13, .int x14, .int x15, .int x16, .int x17]))) (b0 : (x12 = 0 ∨ x12 = 1)) (b1 : (x14 = 0 ∨ x14 = 1)) (b2 : (x15 = 0 ∨ x15 = 1)) (b3 : ((k = 20 ∧ jv = .ref 3) ∨ (¬ k = 20 ∧ jv = .null))) (kk : ∀ h, h.length = hp.length → gsz h = gsz hp → tyS T R J Bc Bs M z h → gG X pc ls st h cl sl) : gG X pc ls st (hp.set k e) cl sl := by
  subst he
  obtain ⟨e0, q0, n0, ok⟩ := H.ok hk (by decide)
  have e1 : (tyK k).1 = 7 := by rw [hk]
  unfold tyOk at ok
  rw [if_neg (by rw [e1]; decide), if_neg (by rw [e1]; decide), if_neg (by rw [e1]; decide), if_neg (by rw [e1]; decide), if_neg (by rw [e1]; decide), if_neg (by rw [e1]; decide), if_neg (by rw [e1]; decide), if_pos e1] at ok
  obtain ⟨_, _, _, _, _, _, _, _, _, _, _, _, _, rfl, -⟩ := ok
  refine kk _ List.length_set (gsz_set q0 rfl) (H.obj hk (by decide) (by decide) (by decide) (by decide) q0 n0 rfl (gJ4 (by decide)) ?_)
  unfold tyOk
  rw [if_neg (by rw [e1]; decide), if_neg (by rw [e1]; decide), if_neg (by rw [e1]; decide), if_neg (by rw [e1]; decide), if_neg (by rw [e1]; decide), if_neg (by rw [e1]; decide), if_neg (by rw [e1]; decide), if_pos e1]
  exact ⟨x3, x4, x5, x6, x7, x11, x12, x13, x14, x15, x16, x17, jv, rfl, b0, b1, b2, b3⟩
theorem tyP0 {X : gX} {pc cl sl : Nat} {ls : List (Option Value)} {st : List Value} {e : gA} {x3 : Int32} (H : tyS T R J Bc Bs M z hp) (hk : tyK k = (8, 0)) (he : e = .inr (.inr (0, [.ref 44, .ref 67, .ref 90, .int x3, .ref 113, .ref 114, .ref 115]))) (b0 : (x3 = 0 ∨ x3 = 1)) (kk : ∀ h, h.length = hp.length → gsz h = gsz hp → tyS T R J Bc Bs M z h → gG X pc ls st h cl sl) : gG X pc ls st (hp.set k e) cl sl := by
  subst he
  obtain ⟨e0, q0, n0, ok⟩ := H.ok hk (by decide)
  have e1 : (tyK k).1 = 8 := by rw [hk]
  unfold tyOk at ok
  rw [if_neg (by rw [e1]; decide), if_neg (by rw [e1]; decide), if_neg (by rw [e1]; decide), if_neg (by rw [e1]; decide), if_neg (by rw [e1]; decide), if_neg (by rw [e1]; decide), if_neg (by rw [e1]; decide), if_neg (by rw [e1]; decide), if_pos e1] at ok
  obtain ⟨_, rfl, -⟩ := ok
  refine kk _ List.length_set (gsz_set q0 rfl) (H.obj hk (by decide) (by decide) (by decide) (by decide) q0 n0 rfl (gJ4 (by decide)) ?_)
  unfold tyOk
  rw [if_neg (by rw [e1]; decide), if_neg (by rw [e1]; decide), if_neg (by rw [e1]; decide), if_neg (by rw [e1]; decide), if_neg (by rw [e1]; decide), if_neg (by rw [e1]; decide), if_neg (by rw [e1]; decide), if_neg (by rw [e1]; decide), if_pos e1]
  exact ⟨x3, rfl, b0⟩
theorem tyF5_8 {k : Nat} (h : tyK k = (5, 0)) : tyK (k + 1) = (1, 60) := (by decide +kernel : ∀ k : Fin 122, tyK k.1 = (5, 0) → tyK (k.1 + 1) = (1, 60)) ⟨k, tyK_lt h (by decide)⟩ h
theorem tyF5_9 {k : Nat} (h : tyK k = (5, 0)) : tyK (k + 3) = (1, 60) := (by decide +kernel : ∀ k : Fin 122, tyK k.1 = (5, 0) → tyK (k.1 + 3) = (1, 60)) ⟨k, tyK_lt h (by decide)⟩ h
theorem tyF5_10 {k : Nat} (h : tyK k = (5, 0)) : tyK (k + 5) = (1, 60) := (by decide +kernel : ∀ k : Fin 122, tyK k.1 = (5, 0) → tyK (k.1 + 5) = (1, 60)) ⟨k, tyK_lt h (by decide)⟩ h
theorem tyF6_3 {k : Nat} (h : tyK k = (6, 0)) : tyK (k + 1) = (2, 24) := (by decide +kernel : ∀ k : Fin 122, tyK k.1 = (6, 0) → tyK (k.1 + 1) = (2, 24)) ⟨k, tyK_lt h (by decide)⟩ h
theorem tyF6_4 {k : Nat} (h : tyK k = (6, 0)) : tyK (k + 2) = (2, 24) := (by decide +kernel : ∀ k : Fin 122, tyK k.1 = (6, 0) → tyK (k.1 + 2) = (2, 24)) ⟨k, tyK_lt h (by decide)⟩ h
theorem tyF6_5 {k : Nat} (h : tyK k = (6, 0)) : tyK (k + 3) = (2, 24) := (by decide +kernel : ∀ k : Fin 122, tyK k.1 = (6, 0) → tyK (k.1 + 3) = (2, 24)) ⟨k, tyK_lt h (by decide)⟩ h
theorem tyF2_0 {k : Nat} (h : tyK k = (7, 0)) : tyK (k + 1) = (5, 0) := (by decide +kernel : ∀ k : Fin 122, tyK k.1 = (7, 0) → tyK (k.1 + 1) = (5, 0)) ⟨k, tyK_lt h (by decide)⟩ h
theorem tyF2_1 {k : Nat} (h : tyK k = (7, 0)) : tyK (k + 8) = (5, 0) := (by decide +kernel : ∀ k : Fin 122, tyK k.1 = (7, 0) → tyK (k.1 + 8) = (5, 0)) ⟨k, tyK_lt h (by decide)⟩ h
theorem tyF2_2 {k : Nat} (h : tyK k = (7, 0)) : tyK (k + 15) = (6, 0) := (by decide +kernel : ∀ k : Fin 122, tyK k.1 = (7, 0) → tyK (k.1 + 15) = (6, 0)) ⟨k, tyK_lt h (by decide)⟩ h
theorem tyF2_8 {k : Nat} (h : tyK k = (7, 0)) : tyK (k + 19) = (1, 64) := (by decide +kernel : ∀ k : Fin 122, tyK k.1 = (7, 0) → tyK (k.1 + 19) = (1, 64)) ⟨k, tyK_lt h (by decide)⟩ h
theorem tyF2_9 {k : Nat} (h : tyK k = (7, 0)) : tyK (k + 21) = (1, 64) := (by decide +kernel : ∀ k : Fin 122, tyK k.1 = (7, 0) → tyK (k.1 + 21) = (1, 64)) ⟨k, tyK_lt h (by decide)⟩ h
theorem tyF3_7 {k : Nat} (h : tyK k = (9, 0)) : tyK (k + 1) = (1, 15) := (by decide +kernel : ∀ k : Fin 122, tyK k.1 = (9, 0) → tyK (k.1 + 1) = (1, 15)) ⟨k, tyK_lt h (by decide)⟩ h
theorem tyQ {q : Nat} (h : q = 116 ∨ q = 119) : tyK q = (9, 0) := by
  rcases h with rfl | rfl <;> rfl
theorem tyWn {k i : Nat} (h : tyK k = (6, 0)) (hi : i < 3) : ∀ q, q < 122 → (tyK q).1 = 1 ∨ (tyK q).1 = 4 → ¬ q + 1 = k + 1 + i := fun q hq c e => by
  have n : ∀ k : Fin 122, tyK k.1 = (6, 0) → ¬ ((tyK k.1).1 = 1 ∨ (tyK k.1).1 = 4) ∧ ¬ ((tyK (k.1 + 1)).1 = 1 ∨ (tyK (k.1 + 1)).1 = 4) ∧ ¬ ((tyK (k.1 + 2)).1 = 1 ∨ (tyK (k.1 + 2)).1 = 4) := by decide +kernel
  obtain ⟨n0, n1, n2⟩ := n ⟨k, tyK_lt h (by decide)⟩ h
  have : i = 0 ∨ i = 1 ∨ i = 2 := by omega
  rcases this with rfl | rfl | rfl
  · have e' : q = k := by omega
    subst e'; exact n0 c
  · have e' : q = k + 1 := by omega
    subst e'; exact n1 c
  · have e' : q = k + 2 := by omega
    subst e'; exact n2 c
theorem tyNar {x : Int32} (h : x = 0 ∨ x = 1) : narrow .boolean (.int x) = .int x := by rcases h with rfl | rfl <;> rfl
theorem tyFit {x : Int32} (h : x = 0 ∨ x = 1) : fits .boolean (.int x) = true := by rcases h with rfl | rfl <;> rfl
theorem tyS.lim (H : tyS T R J Bc Bs M z hp) : hp.length + 1 ≤ 300000 ∧ gsz hp + 1048576 ≤ 7000000 := by
  obtain ⟨b1, b2, b3, b4, b5⟩ := H.2.2.2.2
  have q : ∀ k m, tyK k = (4, m) → m ≤ 1048576 → z k ≤ m := fun k m hk _ => by
    obtain ⟨a, l, g, -, -, j, e⟩ := tyRowg H hk
    have : 1 ≤ 2 ^ j := Nat.one_le_two_pow
    calc z k = z k * 1 := (Nat.mul_one _).symm
      _ ≤ z k * 2 ^ j := Nat.mul_le_mul_left _ this
      _ = m := e
  have q4 := q 4 1048576 rfl (by decide)
  have q6 := q 6 65536 rfl (by decide)
  have q8 := q 8 65536 rfl (by decide)
  have q10 := q 10 65536 rfl (by decide)
  omega
theorem tyUp {i b : Int32} {d : Nat} (hd : (2147483647 - i.toInt).toNat = d) (h : i < b) : (2147483647 - (i + 1).toInt).toNat < d := by
  rw [Int32.lt_iff_toInt_lt] at h
  have l : b.toInt < 2147483648 := Int32.toInt_lt b
  have l0 : -2147483648 ≤ i.toInt := Int32.le_toInt i
  have o1 : (1 : Int32).toInt = 1 := by decide
  rw [gt_add (by rw [o1]; omega) (by rw [o1]; omega), o1]
  omega
theorem tyDn {i : Int32} {d : Nat} (hd : i.toInt.toNat = d) (h : 0 < i) : (i + (-1)).toInt.toNat < d := by
  rw [Int32.lt_iff_toInt_lt, Int32.toInt_zero] at h
  have l : i.toInt < 2147483648 := Int32.toInt_lt i
  have o1 : (-1 : Int32).toInt = -1 := by decide
  rw [gt_add (by rw [o1]; omega) (by rw [o1]; omega), o1]
  omega
end TY
