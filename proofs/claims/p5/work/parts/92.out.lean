/-! THE LAW'S ARRAY OF ONE LONG IS WRITTEN (by hand) -/
section TO
variable {T : tyT} {R : Nat} {J : Nat → Prop} {Bc Bs : Nat} {M : gMd} {z : Nat → Nat} {hp h : List gA}
theorem tyS.out {g : Nat → Int64} (H : tyS T R J Bc Bs M z hp) : tyS T R J Bc Bs M z (hp.set 139 (.inr (.inl (1, g)))) := by
  obtain ⟨b1, b2, b3, b4, b5⟩ := H.2.2.2.2
  obtain ⟨f9, e9⟩ := H.2.2.1
  have f : ∀ q, q ≠ 139 → (hp.set 139 (.inr (.inl (1, g))))[q]? = hp[q]? := fun q c => List.getElem?_set_ne (Ne.symm c)
  refine ⟨fun k hk => ?_, ⟨(f 122 (by decide)).trans H.2.1.1, fun i hi => (f (123 + i) (by omega)).trans (H.2.1.2 i hi)⟩, ⟨g, gset_self e9⟩, H.2.2.2.1.one e9 gJ3 gJ3, by rw [List.length_set]; exact b1, by rw [List.length_set]; exact b2, Nat.le_trans (Nat.le_of_eq (gsz_set e9 (by rfl))) b3, b4, b5⟩
  obtain ⟨e, he, hne, ok⟩ := H.1 k hk
  refine ⟨e, (f k (by omega)).trans he, hne, ?_⟩
  by_cases t1 : (tyK k).1 = 1
  · have r4 : k + 1 < 122 := (tyRow2 ⟨k, hk⟩ (Or.inl t1)).2
    unfold tyOk at ok ⊢
    rw [if_neg (by rw [t1]; decide), if_pos t1] at ok ⊢
    obtain ⟨l, g9, w⟩ := ok
    exact ⟨l, g9.kept (f k (by omega)) (f (k + 1) (by omega)), w⟩
  · by_cases t4 : (tyK k).1 = 4
    · unfold tyOk at ok ⊢
      rw [if_neg (by rw [t4]; decide), if_neg (by rw [t4]; decide), if_neg (by rw [t4]; decide), if_neg (by rw [t4]; decide), if_pos t4] at ok ⊢
      obtain ⟨a, l, g9, w1, w2, w3⟩ := ok
      have d : k = 4 ∨ k = 6 ∨ k = 8 ∨ k = 10 := tyK4 ⟨k, hk⟩ t4
      exact ⟨a, l, g9.kept (f k (by omega)) (f a (fun e => by
        subst e
        obtain ⟨F, -, q2, -⟩ := g9
        rw [e9] at q2
        cases (Option.some.inj q2))), w1, w2, w3⟩
    · exact tyOk.mv t1 t4 ok
end TO
