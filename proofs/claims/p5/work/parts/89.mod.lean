/-! THE PICTURE BESIDE THE REFERENCE'S STEP; JUNK (by hand) -/
section TM
variable {T : tyT} {R : Nat} {J : Nat → Prop} {Bc Bs : Nat} {M : gMd} {z : Nat → Nat} {hp h : List gA}
theorem tyS.mod {M' : gMd} (H : tyS T R J Bc Bs M z hp) (HM : gMod h M') (F : gFM hp h) : tyS T R J Bc Bs M' z h := by
  have hl := F.1
  obtain ⟨b1, b2, b3, b4, b5⟩ := H.2.2.2.2
  have em : h.map gcs = hp.map gcs := by
    refine List.ext_getElem? fun i => ?_
    rw [List.getElem?_map, List.getElem?_map]
    by_cases c : i < 122 ∨ 139 ≤ i
    · rw [F.2 i c]
    · by_cases c2 : i = 122
      · subst c2; rw [HM.1, H.2.1.1]; rfl
      · obtain ⟨j, rfl⟩ : ∃ j, i = 123 + j := ⟨i - 123, by omega⟩
        rw [HM.2 j (by omega), H.2.1.2 j (by omega)]; rfl
  have es : gsz h = gsz hp := by unfold gsz; rw [em]
  refine ⟨fun k hk => ?_, HM, ?_, fun i => ?_, by rw [hl]; exact b1, by rw [hl]; exact b2, by rw [es]; exact b3, b4, b5⟩
  · obtain ⟨e, he, hne, ok⟩ := H.1 k hk
    refine ⟨e, (F.2 k (Or.inl hk)).trans he, hne, ?_⟩
    by_cases t1 : (tyK k).1 = 1
    · have r4 := tyRow2 ⟨k, hk⟩ (Or.inl t1)
      unfold tyOk at ok ⊢
      rw [if_neg (by rw [t1]; decide), if_pos t1] at ok ⊢
      obtain ⟨l, g9, w⟩ := ok
      exact ⟨l, g9.kept (F.2 k (Or.inl hk)) (F.2 (k + 1) (Or.inl r4.2)), w⟩
    · by_cases t4 : (tyK k).1 = 4
      · unfold tyOk at ok ⊢
        rw [if_neg (by rw [t4]; decide), if_neg (by rw [t4]; decide), if_neg (by rw [t4]; decide), if_neg (by rw [t4]; decide), if_pos t4] at ok ⊢
        obtain ⟨a, l, g9, w1, w2, w3⟩ := ok
        have d : k = 4 ∨ k = 6 ∨ k = 8 ∨ k = 10 := tyK4 ⟨k, hk⟩ t4
        exact ⟨a, l, g9.kept (F.2 k (Or.inl hk)) (F.2 a (by omega)), w1, w2, w3⟩
      · exact tyOk.mv t1 t4 ok
  · obtain ⟨f9, e9⟩ := H.2.2.1
    exact ⟨f9, (F.2 139 (by omega)).trans e9⟩
  · by_cases c : i < 122 ∨ 139 ≤ i
    · rw [F.2 i c]; exact H.2.2.2.1 i
    · have nn : h[i]? ≠ some gJunk ∧ hp[i]? ≠ some gJunk := by
        by_cases c2 : i = 122
        · subst c2
          rw [HM.1, H.2.1.1]
          exact ⟨fun q => absurd (Option.some.inj q) (gJ4 (by decide)), fun q => absurd (Option.some.inj q) (gJ4 (by decide))⟩
        · obtain ⟨j, rfl⟩ : ∃ j, i = 123 + j := ⟨i - 123, by omega⟩
          rw [HM.2 j (by omega), H.2.1.2 j (by omega)]
          exact ⟨fun q => absurd (Option.some.inj q) gJ2, fun q => absurd (Option.some.inj q) gJ2⟩
      exact ⟨fun q => absurd q nn.1, fun q => absurd ((H.2.2.2.1 i).mpr q) nn.2⟩
end TM
