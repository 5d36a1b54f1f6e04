/-! the whole object; what changes one piece (by program: wip/p1/m_world.py) -/
def gFo (hp : List gA) : Prop := hp[43]? = some (.inr (.inr (0, [.ref 44, .ref 67, .ref 90, .int 0, .ref 113, .ref 114, .ref 115]))) ∧ ∃ f, hp[113]? = some (.inl (4, f))
def gWo (hp : List gA) (fi sp : Nat) (ci : Int32) (T : List Int32) (L : gLn) (R Lt A m : Nat) (J : gJr) (q1 q2 : gRs) (Bc Bs : Nat) : Prop :=
  hp[0]? = some (gCo fi sp ci) ∧ gRw hp 1 2 96 T ∧ gFo hp ∧ gLine hp L ∧ gWire hp 35 (nI R) (nI Lt) (nI A) m ∧ gJn hp J ∧ gBud hp J Bc Bs ∧ gRs_ hp 116 q1 ∧ gRs_ hp 119 q2
/-- what lies beside the object is as it was -/
def gFO (hp h : List gA) (J J' : gJr) : Prop := hp.length ≤ h.length ∧ (∀ k, k < hp.length → 122 ≤ k → (∀ i, i < 8 → k ≠ J.ad i) → h[k]? = hp[k]?) ∧ gAd hp J J'
theorem gFO.rf {hp : List gA} {J : gJr} : gFO hp hp J J := ⟨Nat.le_refl _, fun _ _ _ _ => rfl, gAd.rf⟩
theorem gFO.trans {hp h h' : List gA} {J J1 J2 : gJr} (a : gFO hp h J J1) (b : gFO h h' J1 J2) : gFO hp h' J J2 :=
  ⟨Nat.le_trans a.1 b.1, fun k hk h1 h2 => (b.2.1 k (Nat.lt_of_lt_of_le hk a.1) h1 (fun i hi => by
    rcases a.2.2 i hi with e | e
    · rw [e]; exact h2 i hi
    · omega)).trans (a.2.1 k hk h1 h2), gAd.trans a.2.2 b.2.2 a.1⟩
theorem gFo.kept {hp h : List gA} (H : gFo hp) (f : ∀ k, 43 ≤ k → k < 116 → h[k]? = hp[k]?) : gFo h := ⟨(f 43 (by omega) (by omega)).trans H.1, H.2.elim (fun g e => ⟨g, (f 113 (by omega) (by omega)).trans e⟩)⟩
theorem gRs_.kept {hp h : List gA} {o : Nat} {q : gRs} (H : gRs_ hp o q) (f : ∀ k, o ≤ k → k < o + 3 → h[k]? = hp[k]?) : gRs_ h o q := ⟨(f o (by omega) (by omega)).trans H.1, H.2.kept (f _ (by omega) (by omega)) (f _ (by omega) (by omega))⟩
theorem gRs_.same {hp h : List gA} {o : Nat} {q q' : gRs} (H : gRs_ hp o q) (H' : gRs_ h o q') (k : Nat) (hk : o ≤ k ∧ k < o + 3) : ∃ e e', hp[k]? = some e ∧ h[k]? = some e' ∧ gcs e' = gcs e ∧ e' ≠ gJunk := by
  by_cases h0 : k = o
  · subst h0; exact ⟨_, _, H.1, H'.1, rfl, gJ4 (by decide)⟩
  · exact H.2.g.same H'.2.g k (by omega)
theorem gWo.c {hp : List gA} {fi sp : Nat} {ci : Int32} {T : List Int32} {L : gLn} {R Lt A m : Nat} {J : gJr} {q1 q2 : gRs} {Bc Bs : Nat} (H : gWo hp fi sp ci T L R Lt A m J q1 q2 Bc Bs) : hp[0]? = some (gCo fi sp ci) := H.1
theorem gWo.t {hp : List gA} {fi sp : Nat} {ci : Int32} {T : List Int32} {L : gLn} {R Lt A m : Nat} {J : gJr} {q1 q2 : gRs} {Bc Bs : Nat} (H : gWo hp fi sp ci T L R Lt A m J q1 q2 Bc Bs) : gRw hp 1 2 96 T := H.2.1
theorem gWo.f {hp : List gA} {fi sp : Nat} {ci : Int32} {T : List Int32} {L : gLn} {R Lt A m : Nat} {J : gJr} {q1 q2 : gRs} {Bc Bs : Nat} (H : gWo hp fi sp ci T L R Lt A m J q1 q2 Bc Bs) : gFo hp := H.2.2.1
theorem gWo.l {hp : List gA} {fi sp : Nat} {ci : Int32} {T : List Int32} {L : gLn} {R Lt A m : Nat} {J : gJr} {q1 q2 : gRs} {Bc Bs : Nat} (H : gWo hp fi sp ci T L R Lt A m J q1 q2 Bc Bs) : gLine hp L := H.2.2.2.1
theorem gWo.w {hp : List gA} {fi sp : Nat} {ci : Int32} {T : List Int32} {L : gLn} {R Lt A m : Nat} {J : gJr} {q1 q2 : gRs} {Bc Bs : Nat} (H : gWo hp fi sp ci T L R Lt A m J q1 q2 Bc Bs) : gWire hp 35 (nI R) (nI Lt) (nI A) m := H.2.2.2.2.1
theorem gWo.j {hp : List gA} {fi sp : Nat} {ci : Int32} {T : List Int32} {L : gLn} {R Lt A m : Nat} {J : gJr} {q1 q2 : gRs} {Bc Bs : Nat} (H : gWo hp fi sp ci T L R Lt A m J q1 q2 Bc Bs) : gJn hp J := H.2.2.2.2.2.1
theorem gWo.b {hp : List gA} {fi sp : Nat} {ci : Int32} {T : List Int32} {L : gLn} {R Lt A m : Nat} {J : gJr} {q1 q2 : gRs} {Bc Bs : Nat} (H : gWo hp fi sp ci T L R Lt A m J q1 q2 Bc Bs) : gBud hp J Bc Bs := H.2.2.2.2.2.2.1
theorem gWo.qa {hp : List gA} {fi sp : Nat} {ci : Int32} {T : List Int32} {L : gLn} {R Lt A m : Nat} {J : gJr} {q1 q2 : gRs} {Bc Bs : Nat} (H : gWo hp fi sp ci T L R Lt A m J q1 q2 Bc Bs) : gRs_ hp 116 q1 := H.2.2.2.2.2.2.2.1
theorem gWo.qb {hp : List gA} {fi sp : Nat} {ci : Int32} {T : List Int32} {L : gLn} {R Lt A m : Nat} {J : gJr} {q1 q2 : gRs} {Bc Bs : Nat} (H : gWo hp fi sp ci T L R Lt A m J q1 q2 Bc Bs) : gRs_ hp 119 q2 := H.2.2.2.2.2.2.2.2
/-- nothing but the tape -/
theorem gWo.tape {hp h : List gA} {fi sp : Nat} {ci : Int32} {T : List Int32} {L : gLn} {R Lt A m : Nat} {J : gJr} {q1 q2 : gRs} {Bc Bs : Nat} {T' : List Int32} (H : gWo hp fi sp ci T L R Lt A m J q1 q2 Bc Bs) (z : gRw h 1 2 96 T' ∧ gFr hp h 1 2) : gWo h fi sp ci T' L R Lt A m J q1 q2 Bc Bs ∧ gFO hp h J J := by
  obtain ⟨z1, z2⟩ := z
  have f : ∀ k, (k < 1 ∨ 3 ≤ k) → h[k]? = hp[k]? := fun k hk => z2 k (by omega) (by omega)
  have sm : gSame hp h := gSame.of fun k => by
    by_cases hk : k = 1 ∨ k = 2
    · exact Or.inr (H.t.g.same z1.g k hk)
    · exact Or.inl (z2 k (by omega) (by omega))
  exact ⟨⟨(f 0 (by omega)).trans H.c, z1, H.f.kept (fun k _ _ => f k (by omega)), H.l.kept (fun k _ => f k (by omega)), H.w.kept (fun k _ _ => f k (by omega)), H.j.d (fun k _ => f k (by omega)), gBud.same H.b sm, H.qa.kept (fun k _ _ => f k (by omega)), H.qb.kept (fun k _ _ => f k (by omega))⟩, Nat.le_of_eq sm.1.symm, fun k _ _ _ => f k (by omega), gAd.rf⟩
theorem gWo.fore {hp h : List gA} {fi sp : Nat} {ci : Int32} {T : List Int32} {L : gLn} {R Lt A m : Nat} {J : gJr} {q1 q2 : gRs} {Bc Bs : Nat} (H : gWo hp fi sp ci T L R Lt A m J q1 q2 Bc Bs) (z : gFo h ∧ ∀ k, k ≠ 43 → k ≠ 113 → h[k]? = hp[k]?) : gWo h fi sp ci T L R Lt A m J q1 q2 Bc Bs ∧ gFO hp h J J := by
  obtain ⟨z1, f⟩ := z
  have sm : gSame hp h := gSame.of fun k => by
    by_cases h1 : k = 43
    · subst h1; exact Or.inr ⟨_, _, H.f.1, z1.1, rfl, gJ4 (by decide)⟩
    · by_cases h2 : k = 113
      · subst h2; exact H.f.2.elim (fun g e => z1.2.elim (fun g' e' => Or.inr ⟨_, _, e, e', rfl, gJ2⟩))
      · exact Or.inl (f k h1 h2)
  exact ⟨⟨(f 0 (by omega) (by omega)).trans H.c, H.t.kept (f _ (by omega) (by omega)) (f _ (by omega) (by omega)), z1, H.l.kept (fun k _ => f k (by omega) (by omega)), H.w.kept (fun k _ _ => f k (by omega) (by omega)), H.j.d (fun k _ => f k (by omega) (by omega)), gBud.same H.b sm, H.qa.kept (fun k _ _ => f k (by omega) (by omega)), H.qb.kept (fun k _ _ => f k (by omega) (by omega))⟩, Nat.le_of_eq sm.1.symm, fun k _ _ _ => f k (by omega) (by omega), gAd.rf⟩
theorem gWo.line {hp h : List gA} {fi sp : Nat} {ci : Int32} {T : List Int32} {L : gLn} {R Lt A m : Nat} {J : gJr} {q1 q2 : gRs} {Bc Bs : Nat} {L' : gLn} (H : gWo hp fi sp ci T L R Lt A m J q1 q2 Bc Bs) (z : gLine h L' ∧ gFL hp h) : gWo h fi sp ci T L' R Lt A m J q1 q2 Bc Bs ∧ gFO hp h J J := by
  obtain ⟨z1, f⟩ := z
  have sm := gLine.same H.l z1 f
  exact ⟨⟨(f 0 (by omega)).trans H.c, H.t.kept (f _ (by omega)) (f _ (by omega)), H.f.kept (fun k _ _ => f k (by omega)), z1, H.w.l f, H.j.d (fun k _ => f k (by omega)), gBud.same H.b sm, H.qa.kept (fun k _ _ => f k (by omega)), H.qb.kept (fun k _ _ => f k (by omega))⟩, Nat.le_of_eq sm.1.symm, fun k _ _ _ => f k (by omega), gAd.rf⟩
theorem gWo.wire {hp h : List gA} {fi sp : Nat} {ci : Int32} {T : List Int32} {L : gLn} {R Lt A m : Nat} {J : gJr} {q1 q2 : gRs} {Bc Bs : Nat} {R' Lt' A' m' : Nat} (H : gWo hp fi sp ci T L R Lt A m J q1 q2 Bc Bs) (z : gWire h 35 (nI R') (nI Lt') (nI A') m' ∧ gFW hp h 35) : gWo h fi sp ci T L R' Lt' A' m' J q1 q2 Bc Bs ∧ gFO hp h J J := by
  obtain ⟨z1, f⟩ := z
  have sm : gSame hp h := gSame.of fun k => by
    by_cases h1 : 35 ≤ k ∧ k < 39
    · exact Or.inr (H.w.same z1 k h1)
    · exact Or.inl (f k (by omega))
  exact ⟨⟨(f 0 (by omega)).trans H.c, H.t.kept (f _ (by omega)) (f _ (by omega)), H.f.kept (fun k _ _ => f k (by omega)), H.l.kept (fun k _ => f k (by omega)), z1, H.j.d (fun k _ => f k (by omega)), gBud.same H.b sm, H.qa.kept (fun k _ _ => f k (by omega)), H.qb.kept (fun k _ _ => f k (by omega))⟩, Nat.le_of_eq sm.1.symm, fun k _ _ _ => f k (by omega), gAd.rf⟩
theorem gWo.jrn {hp h : List gA} {fi sp : Nat} {ci : Int32} {T : List Int32} {L : gLn} {R Lt A m : Nat} {J : gJr} {q1 q2 : gRs} {Bc Bs : Nat} {J' : gJr} (H : gWo hp fi sp ci T L R Lt A m J q1 q2 Bc Bs) (z : gJn h J' ∧ gFJ hp h J) (e : J'.2.2 = J.2.2) : gWo h fi sp ci T L R Lt A m J' q1 q2 Bc Bs ∧ gFO hp h J J' := by
  obtain ⟨z1, z2⟩ := z
  have sm := gJn.same H.j z1 z2 e
  have f : ∀ k, (k < 3 ∨ 20 ≤ k ∧ k < 122) → h[k]? = hp[k]? := fun k hk => z2 k (by omega) (fun i hi => ⟨by omega, by have := H.j.2.2.ad hi; omega⟩)
  exact ⟨⟨(f 0 (by omega)).trans H.c, H.t.kept (f _ (by omega)) (f _ (by omega)), H.f.kept (fun k _ _ => f k (by omega)), H.l.kept (fun k _ => f k (by omega)), H.w.kept (fun k _ _ => f k (by omega)), z1, gBud.same H.b sm (congrArg Prod.snd e), H.qa.kept (fun k _ _ => f k (by omega)), H.qb.kept (fun k _ _ => f k (by omega))⟩, Nat.le_of_eq sm.1.symm, fun k _ h1 h2 => z2 k (by omega) (fun i hi => ⟨by omega, h2 i hi⟩), fun i _ => Or.inl (congrFun (congrArg Prod.fst e) i)⟩
theorem gWo.grow {hp h : List gA} {fi sp : Nat} {ci : Int32} {T : List Int32} {L : gLn} {R Lt A m : Nat} {J : gJr} {q1 q2 : gRs} {Bc Bs : Nat} {L' : gLn} {Lt' A' m' : Nat} {J' : gJr} (H : gWo hp fi sp ci T L R Lt A m J q1 q2 Bc Bs) (zl : gLine h L') (zw : gWire h 35 (nI R) (nI Lt') (nI A') m') (zj : gJn h J') (zb : gBud h J' Bc Bs) (zf : gFX hp h J) (za : gAd hp J J') : gWo h fi sp ci T L' R Lt' A' m' J' q1 q2 Bc Bs ∧ gFO hp h J J' := by
  have hl := H.b.2.2.2
  have f : ∀ k, (k < 3 ∨ 43 ≤ k ∧ k < 122) → h[k]? = hp[k]? := fun k hk => zf.2 k (by omega) (by omega) (fun i hi => by have := H.j.2.2.ad hi; omega)
  exact ⟨⟨(f 0 (by omega)).trans H.c, H.t.kept (f _ (by omega)) (f _ (by omega)), H.f.kept (fun k _ _ => f k (by omega)), zl, zw, zj, zb, H.qa.kept (fun k _ _ => f k (by omega)), H.qb.kept (fun k _ _ => f k (by omega))⟩, zf.1, fun k hk h1 h2 => zf.2 k hk (by omega) h2, za⟩
theorem gWo.cell {hp : List gA} {fi sp : Nat} {ci : Int32} {T : List Int32} {L : gLn} {R Lt A m : Nat} {J : gJr} {q1 q2 : gRs} {Bc Bs : Nat} {fi' sp' : Nat} {ci' : Int32} (H : gWo hp fi sp ci T L R Lt A m J q1 q2 Bc Bs) : gWo (hp.set 0 (gCo fi' sp' ci')) fi' sp' ci' T L R Lt A m J q1 q2 Bc Bs ∧ gFO hp (hp.set 0 (gCo fi' sp' ci')) J J := by
  have f : ∀ k, 1 ≤ k → (hp.set 0 (gCo fi' sp' ci'))[k]? = hp[k]? := fun k hk => List.getElem?_set_ne (by omega)
  have sm : gSame hp (hp.set 0 (gCo fi' sp' ci')) := gSame.of fun k => by
    by_cases h1 : k = 0
    · subst h1; exact Or.inr ⟨_, _, H.c, gset_self H.c, rfl, gJ4 (by decide)⟩
    · exact Or.inl (f k (by omega))
  exact ⟨⟨gset_self H.c, H.t.kept (f _ (by omega)) (f _ (by omega)), H.f.kept (fun k _ _ => f k (by omega)), H.l.kept (fun k _ => f k (by omega)), H.w.kept (fun k _ _ => f k (by omega)), H.j.d (fun k _ => f k (by omega)), gBud.same H.b sm, H.qa.kept (fun k _ _ => f k (by omega)), H.qb.kept (fun k _ _ => f k (by omega))⟩, Nat.le_of_eq sm.1.symm, fun k _ _ _ => f k (by omega), gAd.rf⟩
theorem gWo.spare {hp h : List gA} {fi sp : Nat} {ci : Int32} {T : List Int32} {L : gLn} {R Lt A m : Nat} {J : gJr} {q1 q2 : gRs} {Bc Bs : Nat} {q2' : gRs} (H : gWo hp fi sp ci T L R Lt A m J q1 q2 Bc Bs) (z : gRs_ h 119 q2' ∧ ∀ k, (k < 119 ∨ 122 ≤ k) → h[k]? = hp[k]?) : gWo h fi sp ci T L R Lt A m J q1 q2' Bc Bs ∧ gFO hp h J J := by
  obtain ⟨z1, f⟩ := z
  have sm : gSame hp h := gSame.of fun k => by
    by_cases h1 : 119 ≤ k ∧ k < 122
    · exact Or.inr (H.qb.same z1 k h1)
    · exact Or.inl (f k (by omega))
  exact ⟨⟨(f 0 (by omega)).trans H.c, H.t.kept (f _ (by omega)) (f _ (by omega)), H.f.kept (fun k _ _ => f k (by omega)), H.l.kept (fun k _ => f k (by omega)), H.w.kept (fun k _ _ => f k (by omega)), H.j.d (fun k hk => f k (by omega)), gBud.same H.b sm, H.qa.kept (fun k _ _ => f k (by omega)), z1⟩, Nat.le_of_eq sm.1.symm, fun k _ hk _ => f k (by omega), gAd.rf⟩
