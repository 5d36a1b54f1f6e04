/-! the law's step: message begun, invariant (wip/p1/m_inv.py) -/
/-- a message begun, no turn yet -/
def gR0 (M : List Int32) (K : Int32 × Int32) (i : Nat) (L : gLn) : Prop :=
  ∃ n w n' q t', ¬ L.ft = 0 ∧ L.st = 1 ∧ L.td = K.1 ∧ L.tg = K.2 ∧ L.rw = -1 ∧ gSB L.rd n w 32 0 ∧ L.rd.out = M ∧ gQt L ∧ L.cd.ask = -1 ∧ L.si ≤ 0 ∧ L.cd.inn = [] ∧ gSB L.cd n' n q t' ∧ gLkc L n' w t' ∧ 280 ≤ i ∧ L.rd.pe = -1
theorem gfk {L : gLn} (ft : ¬ L.ft = 0) (rw9 : L.rw = -1) : gRk L = (-2, (L.set 6 0).set 1 0) := by
  unfold gRk
  rw [if_neg ft]
  exact if_pos (c := L.rw = -1) rw9
theorem gRst0 {M : List Int32} {K : Int32 × Int32} {i : Nat} {L : gLn} (G : gR0 M K i L) : gRO M K i (gRk L) := by
  obtain ⟨n, w, n', q, t', b1, b2, b3, b4, b5, a1, a3, ⟨a9, a10, a11⟩, a12, a13, a7, a6, a8, hi, -⟩ := G
  have hq := a6.1.2.2.2.1
  have hM : M.length ≤ 60 := by rw [← a3]; exact a1.1.2.2.2.2.2.1
  rw [gfk b1 b5]
  refine Or.inr ⟨show ¬ (-2 : Int32) = -1 by decide, ?_⟩
  refine gfirst_r (L := (L.set 6 0).set 1 0) (a1.th0) hq a6.2.2.2.2.1 a3 rfl rfl fun s2 E1 E2 e3 e4 e5 e6 e9 => ?_
  have core : ∀ (b l1 : List Int32) (oo kk : Int32), gP1n M (((gSn_r (((L.set 6 0).set 1 0).side 0 s2) kk b).row 1 l1).set 5 oo) n w 0 (min (M.length - 0) q) (if M.length - 0 ≤ q then 0 else 1) n' q t' :=
    fun b l1 oo kk => ⟨E1, E2, e3, rfl, rfl, a6, a7, a8, ⟨e5.trans a9, a10, e4.trans a11⟩, a12, a13⟩
  have B : ∀ (b l1 : List Int32) (oo kk : Int32), gB0 K (((gSn_r (((L.set 6 0).set 1 0).side 0 s2) kk b).row 1 l1).set 5 oo) := fun _ _ _ _ => ⟨rfl, b2, b3, b4, 0, by decide, rfl⟩
  exact ⟨⟨152 + 2 * (M.length - 0), by omega, B _ _ _ _, Or.inl (Or.inl ⟨_, _, _, _, _, _, _, _, core _ _ _ _, Or.inl ⟨⟨rfl, rfl⟩, Nat.le_refl _⟩⟩)⟩,
    fun l1 oo ho => ⟨156 + 2 * (M.length - 0), by omega, B _ _ _ _, Or.inl (Or.inl ⟨_, _, _, _, _, _, _, _, core _ _ _ _, Or.inr (Or.inr ⟨ho, Nat.le_refl _⟩)⟩)⟩⟩
def gIv (M : List Int32) (K : Int32 × Int32) (B C D E : Nat) (k : Nat) (L : gLn) (Lt A m : Nat) (J : gJr) : Prop :=
  ∃ N, gJv J N Lt ∧ Lt ≤ 256 * N ∧ A ≤ Lt ∧ L.rd.se + L.cd.se = nI N ∧ (L.oc = 0 → 4 ≤ L.ca.length) ∧ (∃ t, t < 3 ∧ L.tr = nI t) ∧ (B ≤ N ∧ N ≤ C + 2) ∧
    ((gFin M K L ∧ gMe (E + D + 2) L) ∨ ∃ i, (gRR M K i L ∨ gR0 M K i L) ∧ N + i + 6 * m ≤ C ∧ 2 * k + i + 6 * m ≤ D ∧ gMe (E + 2 * k) L)
theorem gIv.pre {M : List Int32} {K : Int32 × Int32} {B C D E k : Nat} {L : gLn} {Lt A m : Nat} {J : gJr} (H : gIv M K B C D E k L Lt A m J) (hC : C ≤ 14900) : Lt ≤ 999990000 ∧ ∃ N, N + 1 ≤ 15000 ∧ gJpre N J ∧ (L.oc = 0 → 4 ≤ L.ca.length) := by
  obtain ⟨N, ⟨E9, T, V⟩, l, a, s, c, t, n, -⟩ := H
  exact ⟨by omega, N, by omega, V.1, c⟩
theorem gFin.st {M : List Int32} {K : Int32 × Int32} {L : gLn} (F : gFin M K L) : ¬ L.st = 1 := by
  rcases F with ⟨h, -⟩ | ⟨h, -⟩ | ⟨h, -⟩ <;> rw [h] <;> decide
theorem gIv.step {M : List Int32} {K : Int32 × Int32} {B C D E k : Nat} {L L2 : gLn} {Lt A m Lt2 A2 m2 : Nat} {J J2 : gJr} (H : gIv M K B C D E k L Lt A m J) (hC : C ≤ 14900) (hDE : E + D ≤ 900000) (hE : (gExp M).length ≤ 60) (hst : L.st = 1) (T : gTurn L Lt A m J L2 Lt2 A2 m2 J2) : gIv M K B C D E (k + 1) L2 Lt2 A2 m2 J2 := by
  obtain ⟨N, V, l, a, s, c, t, n, F | ⟨i, G, z1, z2, z3⟩⟩ := H
  · exact absurd hst F.1.st
  · have X : (gRO M K i (gRk L) ∧ gMe (E + 2 * k + 1) (gRk L).2) ∧ ((gRk L).2.rd.se = L.rd.se ∧ (gRk L).2.cd.se = L.cd.se ∧ (gRk L).2.oc = L.oc ∧ (gRk L).2.ca = L.ca ∧ ∃ t, t < 3 ∧ (gRk L).2.tr = nI t) := by
      rcases G with G | G
      · exact ⟨⟨gRhalf (z3.r (by omega)) hE G, z3.m (km_gRk G.1.1)⟩, kp_gRk G.1.2.2.2.2 G.1.1⟩
      · have G0 := G
        obtain ⟨n, w, n', q, t', b1, b2, b3, b4, b5, -⟩ := G
        refine ⟨⟨gRst0 G0, ?_⟩, ?_⟩
        · rw [gfk b1 b5]
          exact (z3.z ⟨rfl, rfl⟩).le (by omega)
        rw [gfk b1 b5]
        exact ⟨rfl, rfl, rfl, rfl, 0, by decide, rfl⟩
    obtain ⟨F, hm, N2, n1, n2, -, V2, l2, a2, s2, c2, t2⟩ := gTurn.stepG X.1.1 (X.1.2.c (by omega)) X.2 T V (by omega) a s c
    have mm := gTurn.me X.1.2 T
    rcases F with F | ⟨j, R, hj⟩
    · exact ⟨N2, V2, by omega, a2, s2, c2, t2, by omega, Or.inl ⟨F, mm.le (by omega)⟩⟩
    · exact ⟨N2, V2, by omega, a2, s2, c2, t2, by omega, Or.inr ⟨j, Or.inl R, by omega, by omega, mm.le (by omega)⟩⟩
theorem gIv.fin {M : List Int32} {K : Int32 × Int32} {B C D E k : Nat} {L : gLn} {Lt A m : Nat} {J : gJr} (H : gIv M K B C D E k L Lt A m J) (h : ¬ L.st = 1 ∨ D < 2 * k) : gFin M K L := by
  obtain ⟨N, V, l, a, s, c, t, n, F | ⟨i, G, z1, z2, -⟩⟩ := H
  · exact F.1
  · rcases h with h | h
    · rcases G with G | ⟨n, w, n', q, t', b1, b2, -⟩
      · exact absurd G.1.2.1 h
      · exact absurd b2 h
    · omega
