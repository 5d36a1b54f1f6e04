/-! the law's step, room: invariant (wip/p1/m_inv2.py) -/
theorem gTurn.stepQ {x : Nat} {K : Int32 × Int32} {L L' : gLn} {i N Lt Lt' A A' m m' : Nat} {J J' : gJr} (hx1 : 1 ≤ x) (hx2 : x ≤ 254) (RH : gROQ x K i (gRk L)) (kk : (gRk L).2.rd.se = L.rd.se ∧ (gRk L).2.cd.se = L.cd.se ∧ (gRk L).2.oc = L.oc ∧ (gRk L).2.ca = L.ca ∧ ∃ t, t < 3 ∧ (gRk L).2.tr = nI t) (T : gTurn L Lt A m J L' Lt' A' m' J') (V : gJv J N Lt) (hN : N + 2 ≤ 15000) (hA : A ≤ Lt) (hse : L.rd.se + L.cd.se = nI N) (hca : L.oc = 0 → 4 ≤ L.ca.length) :
    (gFinQ x K L' ∨ ∃ j, gRQ x K j L' ∧ j + 6 * m' + 2 ≤ i + 6 * m) ∧ (m' ≤ m) ∧ ∃ N', N ≤ N' ∧ N' ≤ N + 2 ∧ (gFinQ x K L' → N' ≤ N + 2) ∧ gJv J' N' Lt' ∧ Lt' ≤ Lt + 256 * (N' - N) ∧ A' ≤ Lt' ∧ L'.rd.se + L'.cd.se = nI N' ∧ (L'.oc = 0 → 4 ≤ L'.ca.length) ∧ ∃ t, t < 3 ∧ L'.tr = nI t := by
  obtain ⟨k1, k2, k3, k4, k5⟩ := kk
  rcases T with ⟨hk, rfl, rfl, rfl, rfl, rfl⟩ | ⟨hk, L2, Lt2, A2, m2, J2, S1, T⟩
  · rcases RH with ⟨-, F⟩ | ⟨h9, -⟩
    · exact ⟨Or.inl F, Nat.le_refl _, N, Nat.le_refl _, by omega, fun _ => by omega, V, by omega, hA, by rw [k1, k2]; exact hse, by rw [k3, k4]; exact hca, k5⟩
    · exact absurd hk h9
  · rcases RH with ⟨h9, -⟩ | ⟨-, S⟩
    · exact absurd h9 hk
    · obtain ⟨⟨j, hj, CC⟩, V2, l2, A2', s1, s2, c2⟩ := S.step S1 V (by omega)
      have m12 : m2 ≤ m := by obtain ⟨y, l1, eA, eL, em, -⟩ := S1; exact em
      have CH := gCQhalf hx1 hx2 CC
      obtain ⟨z1, z2, z3, z4, z5⟩ := kp_gCk L2
      obtain ⟨x1, x2⟩ := gs3_se_r (gRk L).2 (gRk L).1
      have se2 : L2.rd.se + L2.cd.se = nI (N + 1) := by
        rw [s1, s2, x1, x2, k1, k2, Int32.add_assoc, Int32.add_comm 1, ← Int32.add_assoc, hse, nI_1]
      rcases T with ⟨hk2, rfl, rfl, rfl, rfl, rfl⟩ | ⟨hk2, S2⟩
      · rcases CH with ⟨-, j2, hj2, RR⟩ | ⟨h9, -⟩
        · refine ⟨Or.inr ⟨j2, RR, by omega⟩, m12, N + 1, by omega, by omega, fun _ => by omega, V2, by omega, A2' hA, ?_, ?_, RR.1.2.2.2.2⟩
          · show (gCk L2).2.rd.se + (gCk L2).2.cd.se = _
            rw [z1, z2]; exact se2
          · exact fun h => absurd h (show ¬ (3 : Int32) = 0 by decide)
        · exact absurd hk2 h9
      · rcases CH with ⟨h9, -⟩ | ⟨-, SS⟩
        · exact absurd h9 hk2
        · obtain ⟨⟨j2, hj2, RR⟩, V3, l3, A3', s3, s4, c3⟩ := SS.step S2 V2 (by omega)
          have m23 : m' ≤ m2 := by obtain ⟨y, l1, eA, eL, em, -⟩ := S2; exact em
          obtain ⟨y1, y2⟩ := gs3_se_c (gCk L2).2 (gCk L2).1
          refine ⟨Or.inr ⟨j2, RR, by omega⟩, by omega, N + 2, by omega, by omega, fun _ => by omega, V3, by omega, A3' (A2' hA), ?_, c3, RR.1.2.2.2.2⟩
          rw [s3, s4, y1, y2, z1, z2, ← Int32.add_assoc, se2, nI_1]
/-- room() begun, no turn yet -/
def gR9 (x : Nat) (K : Int32 × Int32) (i : Nat) (L : gLn) : Prop := ¬ L.ft = 0 ∧ L.st = 1 ∧ L.td = K.1 ∧ L.tg = K.2 ∧ L.rw = nI x ∧ gSdT L.rd ∧ gSdT L.cd ∧ L.cd.ask = -1 ∧ L.si ≤ 0 ∧ 30 ≤ i
theorem gfk9 {L : gLn} {x : Nat} (hx : x ≤ 254) (ft : ¬ L.ft = 0) (rw9 : L.rw = nI x) : gRk L = (193, ((L.set 6 0).set 1 0).side 0 ((L.rd.set 4 1).set 5 (nI x))) := by
  unfold gRk
  rw [if_neg ft, ← rw9]
  exact if_neg (c := L.rw = -1) (by rw [rw9]; exact nI_ne1 (by omega))
theorem gRst9 {x : Nat} {K : Int32 × Int32} {i : Nat} {L : gLn} (hx1 : 1 ≤ x) (hx2 : x ≤ 254) (G : gR9 x K i L) : gROQ x K i (gRk L) := by
  obtain ⟨b1, b2, b3, b4, b5, p1, p2, p3, p4, hi⟩ := G
  rw [gfk9 hx2 b1 b5]
  exact Or.inr ⟨show ¬ (193 : Int32) = -1 by decide, gAskQ hx1 hx2 ⟨rfl, b2, b3, b4, 0, by decide, rfl⟩ ⟨(p1.set (k := 4) (by decide) (by decide) (by decide)).set (k := 5) (by decide) (by decide) (by decide), p2, p3, p4, Or.inl ⟨rfl, rfl, rfl⟩⟩ (by omega)⟩
def gIq (x : Nat) (K : Int32 × Int32) (B C D : Nat) (k : Nat) (L : gLn) (Lt A m : Nat) (J : gJr) : Prop :=
  ∃ N, gJv J N Lt ∧ Lt ≤ 256 * N ∧ A ≤ Lt ∧ L.rd.se + L.cd.se = nI N ∧ (L.oc = 0 → 4 ≤ L.ca.length) ∧ (∃ t, t < 3 ∧ L.tr = nI t) ∧ (B ≤ N ∧ N ≤ C + 2) ∧
    ((gFinQ x K L) ∨ ∃ i, (gRQ x K i L ∨ gR9 x K i L) ∧ N + i + 6 * m ≤ C ∧ 2 * k + i + 6 * m ≤ D)
theorem gIq.pre {x : Nat} {K : Int32 × Int32} {B C D k : Nat} {L : gLn} {Lt A m : Nat} {J : gJr} (H : gIq x K B C D k L Lt A m J) (hC : C ≤ 14900) : Lt ≤ 999990000 ∧ ∃ N, N + 1 ≤ 15000 ∧ gJpre N J ∧ (L.oc = 0 → 4 ≤ L.ca.length) := by
  obtain ⟨N, ⟨E, T, V⟩, l, a, s, c, t, n, -⟩ := H
  exact ⟨by omega, N, by omega, V.1, c⟩
theorem gFinQ.st {x : Nat} {K : Int32 × Int32} {L : gLn} (F : gFinQ x K L) : ¬ L.st = 1 := by
  obtain ⟨-, -, ⟨h, -⟩ | ⟨h, -⟩ | h⟩ := F <;> rw [h] <;> decide
theorem gIq.step {x : Nat} {K : Int32 × Int32} {B C D k : Nat} {L L2 : gLn} {Lt A m Lt2 A2 m2 : Nat} {J J2 : gJr} (hx1 : 1 ≤ x) (hx2 : x ≤ 254) (H : gIq x K B C D k L Lt A m J) (hC : C ≤ 14900) (hst : L.st = 1) (T : gTurn L Lt A m J L2 Lt2 A2 m2 J2) : gIq x K B C D (k + 1) L2 Lt2 A2 m2 J2 := by
  obtain ⟨N, V, l, a, s, c, t, n, F | ⟨i, G, z1, z2⟩⟩ := H
  · exact absurd hst F.st
  · have X : gROQ x K i (gRk L) ∧ ((gRk L).2.rd.se = L.rd.se ∧ (gRk L).2.cd.se = L.cd.se ∧ (gRk L).2.oc = L.oc ∧ (gRk L).2.ca = L.ca ∧ ∃ t, t < 3 ∧ (gRk L).2.tr = nI t) := by
      rcases G with G | G
      · exact ⟨gRQhalf hx1 hx2 G, kp_gRk G.1.2.2.2.2 G.1.1⟩
      · refine ⟨gRst9 hx1 hx2 G, ?_⟩
        rw [gfk9 hx2 G.1 G.2.2.2.2.1]
        exact ⟨rfl, rfl, rfl, rfl, 0, by decide, rfl⟩
    obtain ⟨F, hm, N2, n1, n2, -, V2, l2, a2, s2, c2, t2⟩ := gTurn.stepQ hx1 hx2 X.1 X.2 T V (by omega) a s c
    rcases F with F | ⟨j, R, hj⟩
    · exact ⟨N2, V2, by omega, a2, s2, c2, t2, by omega, Or.inl F⟩
    · exact ⟨N2, V2, by omega, a2, s2, c2, t2, by omega, Or.inr ⟨j, Or.inl R, by omega, by omega⟩⟩
theorem gIq.fin {x : Nat} {K : Int32 × Int32} {B C D k : Nat} {L : gLn} {Lt A m : Nat} {J : gJr} (H : gIq x K B C D k L Lt A m J) (h : ¬ L.st = 1 ∨ D < 2 * k) : gFinQ x K L := by
  obtain ⟨N, V, l, a, s, c, t, n, F | ⟨i, G, z1, z2⟩⟩ := H
  · exact F
  · rcases h with h | h
    · rcases G with G | ⟨b1, b2, -⟩
      · exact absurd G.1.2.1 h
      · exact absurd b2 h
    · omega
/-- from the end of a message: what the sides are -/
theorem gLkc.TT {L : gLn} (H : gRdy L) : gSdT L.rd ∧ gSdT L.cd := by
  obtain ⟨h1, h2, h3, h4, h5, h6, n, w, t, n', q, t', a1, a2, a3⟩ := H
  exact ⟨gSdT.mk0 a1 h6, a3.T a2⟩
theorem gFin.T {M : List Int32} {K : Int32 × Int32} {L : gLn} (F : gFin M K L) : gSdT L.rd ∧ gSdT L.cd := by
  rcases F with ⟨-, -, -, -, -, h⟩ | ⟨-, -, -, h, -⟩ | ⟨-, h⟩
  · exact gLkc.TT h
  · exact gLkc.TT h
  · exact h
/-- a message begun on a line that is ready -/
theorem gRdy.start {M : List Int32} {L : gLn} (H : gRdy L) (hl : M.length ≤ 60) (hb : gByt M) : gR0 M (L.td, L.tg) 280 (rX2_startMessage L M) := by
  obtain ⟨h1, h2, h3, h4, h5, h6, n, w, t, n', q, t', a1, a2, a3⟩ := H
  have ne : ¬ (rX2_startMessage L M).ft = 0 := show ¬ (1 : Int32) = 0 by decide
  exact ⟨n, w, n', q, t', ne, rfl, rfl, rfl, rfl, a1.new hl hb, rfl, ⟨h1, rfl, h4⟩, h2, h3, h5, a2, a3, Nat.le_refl _, h6⟩
theorem gRdy.room {x : Nat} {L : gLn} (H : gRdy L) : gR9 x (L.td, L.tg) 30 (rX2_startRoom L (nI x)) := by
  have T := gLkc.TT H
  obtain ⟨h1, h2, h3, h4, h5, h6, -⟩ := H
  have ne : ¬ (rX2_startRoom L (nI x)).ft = 0 := show ¬ (1 : Int32) = 0 by decide
  exact ⟨ne, rfl, rfl, rfl, rfl, T.1, T.2, h2, h3, Nat.le_refl _⟩
