/-! the law's invariants begun and ended (wip/p1/m_start.py) -/
/-- what holds between two rounds -/
def gBs (N : Nat) (L : gLn) (Lt A : Nat) (J : gJr) : Prop := gJv J N Lt ∧ Lt ≤ 256 * N ∧ A ≤ Lt ∧ L.rd.se + L.cd.se = nI N ∧ (L.oc = 0 → 4 ≤ L.ca.length) ∧ ∃ t, t < 3 ∧ L.tr = nI t
theorem gBs.iv {M : List Int32} {L : gLn} {N Lt A m C D : Nat} {J : gJr} (H : gBs N L Lt A J) (R : gRdy L) (hl : M.length ≤ 60) (hb : gByt M) (hC : N + 280 + 6 * m ≤ C) (hD : 280 + 6 * m ≤ D) : gIv M (L.td, L.tg) C D 0 (rX2_startMessage L M) Lt A m J := by
  obtain ⟨h1, h2, h3, h4, h5, h6⟩ := H
  exact ⟨N, h1, h2, h3, h4, h5, h6, by omega, Or.inr ⟨280, Or.inr (R.start hl hb), by omega, by omega⟩⟩
theorem gBs.iq {x : Nat} {L : gLn} {N Lt A m C D : Nat} {J : gJr} (H : gBs N L Lt A J) (R : gRdy L) (hC : N + 30 + 6 * m ≤ C) (hD : 30 + 6 * m ≤ D) : gIq x (L.td, L.tg) C D 0 (rX2_startRoom L (nI x)) Lt A m J := by
  obtain ⟨h1, h2, h3, h4, h5, h6⟩ := H
  exact ⟨N, h1, h2, h3, h4, h5, h6, by omega, Or.inr ⟨30, Or.inr R.room, by omega, by omega⟩⟩
theorem gIv.bs {M : List Int32} {K : Int32 × Int32} {C D k : Nat} {L : gLn} {Lt A m : Nat} {J : gJr} (H : gIv M K C D k L Lt A m J) : ∃ N, N ≤ C + 2 ∧ gBs N L Lt A J := by
  obtain ⟨N, h1, h2, h3, h4, h5, h6, h7, -⟩ := H
  exact ⟨N, h7, h1, h2, h3, h4, h5, h6⟩
