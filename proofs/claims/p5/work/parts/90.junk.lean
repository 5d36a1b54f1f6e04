/-! JUNK BEHIND THE WORLD (by hand) -/
section TJ
variable {T : tyT} {R : Nat} {J : Nat → Prop} {Bc Bs : Nat} {M : gMd} {z : Nat → Nat} {hp h : List gA}
theorem tyS.junk1 (H : tyS T R J Bc Bs M z hp) (hb : Bc + 1 ≤ 200000) (hs : Bs + 6 ≤ 1000000) : tyS T R (fun i => J i ∨ i = hp.length) (Bc + 1) (Bs + 6) M z (hp ++ [gJunk]) := by
  obtain ⟨b1, b2, b3, b4, b5⟩ := H.2.2.2.2
  have f : ∀ q, q < hp.length → (hp ++ [gJunk])[q]? = hp[q]? := fun q hq => List.getElem?_append_left hq
  have el : (hp ++ [gJunk]).length = hp.length + 1 := by rw [List.length_append]; rfl
  have es : gsz (hp ++ [gJunk]) = gsz hp + 6 := gsz_app
  refine ⟨fun k hk => ?_, ⟨(f 122 (by omega)).trans H.2.1.1, fun i hi => (f (123 + i) (by omega)).trans (H.2.1.2 i hi)⟩, ?_, fun i => ?_, by omega, by omega, by omega, hb, hs⟩
  · obtain ⟨e, he, hne, ok⟩ := H.1 k hk
    refine ⟨e, (f k (by omega)).trans he, hne, ?_⟩
    by_cases t1 : (tyK k).1 = 1
    · have r4 : k + 1 < 122 := (tyRow2 ⟨k, hk⟩ (Or.inl t1)).2
      unfold tyOk at ok ⊢
      rw [if_neg (by rw [t1]; decide), if_pos t1] at ok ⊢
      obtain ⟨l, g9, w⟩ := ok
      exact ⟨l, g9.kept (f k (by omega)) (f (k + 1) (by omega)), w⟩
    · by_cases t4 : (tyK k).1 = 4
      · unfold tyOk at ok ⊢
        rw [if_neg (by rw [t4]; decide), if_neg (by rw [t4]; decide), if_neg (by rw [t4]; decide), if_neg (by rw [t4]; decide), if_pos t4] at ok ⊢
        obtain ⟨a, l, g9, w1, w2, w3⟩ := ok
        exact ⟨a, l, g9.kept (f k (by omega)) (f a g9.lt.2), w1, w2, w3⟩
      · exact tyOk.mv t1 t4 ok
  · obtain ⟨f9, e9⟩ := H.2.2.1
    exact ⟨f9, (f 139 (by omega)).trans e9⟩
  · by_cases c : i < hp.length
    · rw [f i c]
      exact ⟨fun q => Or.inl ((H.2.2.2.1 i).mp q), fun q => (H.2.2.2.1 i).mpr (q.elim (fun q => q) (fun q => absurd c (by omega)))⟩
    · by_cases c2 : i = hp.length
      · subst c2
        refine ⟨fun _ => Or.inr rfl, fun _ => ?_⟩
        rw [List.getElem?_append_right (Nat.le_refl _), Nat.sub_self]; rfl
      · have n1 : (hp ++ [gJunk])[i]? = none := List.getElem?_eq_none (by omega)
        have n2 : hp[i]? = none := List.getElem?_eq_none (by omega)
        rw [n1]
        refine ⟨fun q => (by cases q), fun q => ?_⟩
        rcases q with q | q
        · have := (H.2.2.2.1 i).mpr q
          rw [n2] at this; cases this
        · exact absurd q c2
theorem tyS.junk (H : tyS T R J Bc Bs M z hp) : ∀ j : Nat, Bc + j ≤ 200000 → Bs + 6 * j ≤ 1000000 → ∃ J', tyS T R J' (Bc + j) (Bs + 6 * j) M z (hp ++ List.replicate j gJunk)
  | 0, _, _ => ⟨J, by rw [List.replicate_zero, List.append_nil]; exact H⟩
  | j + 1, h1, h2 => by
    obtain ⟨J', H'⟩ := H.junk j (by omega) (by omega)
    have e : Bs + 6 * (j + 1) = Bs + 6 * j + 6 := by omega
    rw [List.replicate_succ', ← List.append_assoc, e]
    exact ⟨_, H'.junk1 (by omega) (by omega)⟩
end TJ
