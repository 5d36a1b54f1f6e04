/-! the law's invariants begun and ended (wip/p1/m_start.py) -/
/-- what holds between two rounds -/
def gBs (N : Nat) (L : gLn) (Lt A : Nat) (J : gJr) : Prop := gJv J N Lt ∧ Lt ≤ 256 * N ∧ A ≤ Lt ∧ L.rd.se + L.cd.se = nI N ∧ (L.oc = 0 → 4 ≤ L.ca.length) ∧ ∃ t, t < 3 ∧ L.tr = nI t
theorem gBs.iv {M : List Int32} {L : gLn} {N Lt A m C D E : Nat} {J : gJr} (H : gBs N L Lt A J) (R : gRdy L) (hm : gMe E L) (hl : M.length ≤ 60) (hb : gByt M) (hC : N + 280 + 6 * m ≤ C) (hD : 280 + 6 * m ≤ D) : gIv M (L.td, L.tg) N C D E 0 (rX2_startMessage L M) Lt A m J := by
  obtain ⟨h1, h2, h3, h4, h5, h6⟩ := H
  exact ⟨N, h1, h2, h3, h4, h5, h6, by omega, Or.inr ⟨280, Or.inr (R.start hl hb), by omega, by omega, hm.z ⟨rfl, rfl⟩⟩⟩
theorem gBs.iq {x : Nat} {L : gLn} {N Lt A m C D : Nat} {J : gJr} (H : gBs N L Lt A J) (R : gRdy L) (hC : N + 30 + 6 * m ≤ C) (hD : 30 + 6 * m ≤ D) : gIq x (L.td, L.tg) N C D 0 (rX2_startRoom L (nI x)) Lt A m J := by
  obtain ⟨h1, h2, h3, h4, h5, h6⟩ := H
  exact ⟨N, h1, h2, h3, h4, h5, h6, by omega, Or.inr ⟨30, Or.inr R.room, by omega, by omega⟩⟩
theorem gIv.bs {M : List Int32} {K : Int32 × Int32} {B C D E k : Nat} {L : gLn} {Lt A m : Nat} {J : gJr} (H : gIv M K B C D E k L Lt A m J) : (∃ N, N ≤ C + 2 ∧ gBs N L Lt A J) ∧ (¬ L.st = 1 → gMe (E + D + 2) L) := by
  obtain ⟨N, h1, h2, h3, h4, h5, h6, h7, h8⟩ := H
  refine ⟨⟨N, h7.2, h1, h2, h3, h4, h5, h6⟩, fun h => ?_⟩
  rcases h8 with F | ⟨i, G | ⟨n, w, n9, q, t9, b1, b2, -⟩, -⟩
  · exact F.2
  · exact absurd G.1.2.1 h
  · exact absurd b2 h
theorem gIv.at {M : List Int32} {K : Int32 × Int32} {B C D E k : Nat} {L : gLn} {Lt A m : Nat} {J : gJr} (H : gIv M K B C D E k L Lt A m J) : ∃ N, L.rd.se + L.cd.se = nI N ∧ B ≤ N ∧ N ≤ C + 2 ∧ gIv M K N C D E k L Lt A m J := by
  obtain ⟨N, h1, h2, h3, h4, h5, h6, h7, h8⟩ := H
  exact ⟨N, h4, h7.1, h7.2, N, h1, h2, h3, h4, h5, h6, ⟨Nat.le_refl _, h7.2⟩, h8⟩
theorem gIq.at {x : Nat} {K : Int32 × Int32} {B C D k : Nat} {L : gLn} {Lt A m : Nat} {J : gJr} (H : gIq x K B C D k L Lt A m J) : ∃ N, L.rd.se + L.cd.se = nI N ∧ B ≤ N ∧ N ≤ C + 2 ∧ gIq x K N C D k L Lt A m J := by
  obtain ⟨N, h1, h2, h3, h4, h5, h6, h7, h8⟩ := H
  exact ⟨N, h4, h7.1, h7.2, N, h1, h2, h3, h4, h5, h6, ⟨Nat.le_refl _, h7.2⟩, h8⟩
/-- what step answers is not negative -/
theorem gZnn {L L' : gLn} {N N' : Nat} (h : L.rd.se + L.cd.se = nI N) (h2 : L'.rd.se + L'.cd.se = nI N') (hN : N ≤ N') (hb : N' < 2 ^ 31) : ¬ rX2_blocksSent L' - rX2_blocksSent L < 0 := by
  unfold rX2_blocksSent
  rw [h, h2, pk_sub hN]
  exact nI_pos (by omega)
