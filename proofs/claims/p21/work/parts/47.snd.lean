/-! what sound wants, out of the law's invariants (wip/p1/m_snd.py) -/
theorem gLkr.T {L : gLn} {n w v t : Nat} (B : gSB L.rd n w 32 t) (h : gLkr L n v t) : gSdT L.rd := by
  rcases h with ⟨h, -⟩ | ⟨p, P, -⟩
  · exact gSdT.mk0 B h
  · exact gSdT.mk1 B P
theorem gRR.T {M : List Int32} {K : Int32 × Int32} {i : Nat} {L : gLn} (G : gRR M K i L) : gSdT L.rd ∧ gSdT L.cd := by
  obtain ⟨-, (⟨n, w, t, p, mo, n', q, t', H, -⟩ | ⟨n, w, t, p, n', q, t', H, -⟩) | ⟨n, w, t, w', n', q, t', H, -⟩ | (⟨n, w, t, w', n', q, t', p, mo, H, -⟩ | ⟨n, w, t, w', n', q, t', p, H, -⟩) | ⟨n, w, n', q, t', H, -⟩ | ⟨s, H, -⟩⟩ := G
  · obtain ⟨a1, a2, a3, a4, a5, a6, a7, a8, -⟩ := H
    exact ⟨gSdT.mk1 a1 a2, a8.T a6⟩
  · obtain ⟨a1, a2, a3, a4, a5, a6, a7, a8, -⟩ := H
    exact ⟨gSdT.mk1 a1 a2, gSdT.mk0 a6 a8⟩
  · obtain ⟨a1, a2, a3, a4, a5, a6, -⟩ := H
    exact ⟨a3.T a1, gSdT.mk0 a2 a6⟩
  · obtain ⟨a1, a2, a3, a4, -⟩ := H
    exact ⟨a3.T a1, gSdT.mk1 a2 a4⟩
  · obtain ⟨a1, a2, pe, a3, a4, -⟩ := H
    exact ⟨gSdT.mk0 a1 pe, gSdT.mk1 a2 a4⟩
  · obtain ⟨a1, a2, a3, a4, a5, -⟩ := H
    exact ⟨gSdT.mk0 a1 a2, gSdT.mk0 a4 a5⟩
  · obtain ⟨⟨n, w, t, a1, a2⟩, a3, -⟩ := H
    exact ⟨⟨n, w, 32, t, a1, a2⟩, a3⟩
theorem gR0.T {M : List Int32} {K : Int32 × Int32} {i : Nat} {L : gLn} (G : gR0 M K i L) : gSdT L.rd ∧ gSdT L.cd := by
  obtain ⟨n, w, n', q, t', b1, b2, b3, b4, b5, a1, a3, Q, a12, a13, a7, a6, a8, hi, pe⟩ := G
  exact ⟨gSdT.mk0 a1 pe, a8.T a6⟩
def gSnd (L : gLn) (Lt A : Nat) (J : gJr) : Prop := ∃ N, gJv J N Lt ∧ N ≤ 15000 ∧ Lt ≤ 1000000000 ∧ L.rd.se + L.cd.se = nI N ∧ A ≤ Lt ∧ (∃ k, k < 3 ∧ L.tr = nI k) ∧ gSOk L.rd ∧ gSOk L.cd
theorem gIv.snd {M : List Int32} {K : Int32 × Int32} {B C D E k : Nat} {L : gLn} {Lt A m : Nat} {J : gJr} (H : gIv M K B C D E k L Lt A m J) (hC : C ≤ 14900) : gSnd L Lt A J := by
  obtain ⟨N, V, l, a, s, c, t, n, F⟩ := H
  have T : gSdT L.rd ∧ gSdT L.cd := by
    rcases F with F | ⟨i, G | G, -⟩
    · exact F.1.T
    · exact G.T
    · exact G.T
  exact ⟨N, V, by omega, by omega, s, a, t, T.1.sok, T.2.sok⟩
theorem gIq.snd {x : Nat} {K : Int32 × Int32} {B C D k : Nat} {L : gLn} {Lt A m : Nat} {J : gJr} (H : gIq x K B C D k L Lt A m J) (hC : C ≤ 14900) : gSnd L Lt A J := by
  obtain ⟨N, V, l, a, s, c, t, n, F⟩ := H
  have T : gSdT L.rd ∧ gSdT L.cd := by
    rcases F with F | ⟨i, ⟨-, b, G, -⟩ | G, -⟩
    · exact ⟨F.1, F.2.1⟩
    · exact ⟨G.1, G.2.1⟩
    · exact ⟨G.2.2.2.2.2.1, G.2.2.2.2.2.2.1⟩
  exact ⟨N, V, by omega, by omega, s, a, t, T.1.sok, T.2.sok⟩
