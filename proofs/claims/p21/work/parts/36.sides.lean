/-! the sides' fields, and what is sent (wip/p1/m_sides.py) -/
def gSB (s : gSd) (n w r t : Nat) : Prop :=
  (n ≤ 1 ∧ w ≤ 1 ∧ 1 ≤ r ∧ r ≤ 254 ∧ t ≤ s.out.length ∧ s.out.length ≤ 60 ∧ s.got.length ≤ 60 ∧ s.inn.length ≤ 60) ∧ (gByt s.out ∧ gByt s.got ∧ gByt s.inn) ∧ s.nx = nI n ∧ s.wa = nI w ∧ s.ro = nI r ∧ s.th = nI t
def gSP (s : gSd) (t p mo : Nat) : Prop := s.pe = nI p ∧ s.pm = nI mo ∧ mo ≤ 1 ∧ t + p ≤ s.out.length
def gSdT (s : gSd) : Prop := ∃ n w r t, gSB s n w r t ∧ (s.pe = -1 ∨ ∃ p mo, gSP s t p mo)
theorem nI_ne1 {p : Nat} (h : p < 2 ^ 31) : ¬ nI p = -1 := fun e => nI_pos h (by rw [e]; decide)
theorem nI_ne2 {p : Nat} (h : p < 2 ^ 31) : ¬ nI p = -2 := fun e => nI_pos h (by rw [e]; decide)
theorem nI_ne3 {p : Nat} (h : p < 2 ^ 31) : ¬ nI p = -3 := fun e => nI_pos h (by rw [e]; decide)
theorem gSP.ne {s : gSd} {n w r t p mo : Nat} (B : gSB s n w r t) (P : gSP s t p mo) : ¬ s.pe = -1 := by
  obtain ⟨⟨-, -, -, -, -, b6, -⟩, -⟩ := B
  obtain ⟨e, -, -, e4⟩ := P
  rw [e]; exact nI_ne1 (by omega)
theorem gSB.set {s : gSd} {n w r t k : Nat} {x : Int32} (B : gSB s n w r t) (hk : 4 ≤ k) : gSB (s.set k x) n w r t := by
  obtain ⟨b1, b2, e0, e1, e2, e3⟩ := B
  exact ⟨b1, b2, (if_neg (show ¬ 0 = k by omega)).trans e0, (if_neg (show ¬ 1 = k by omega)).trans e1, (if_neg (show ¬ 2 = k by omega)).trans e2, (if_neg (show ¬ 3 = k by omega)).trans e3⟩
theorem gSB.room {s : gSd} {n w r t q : Nat} (B : gSB s n w r t) (h1 : 1 ≤ q) (h2 : q ≤ 254) : gSB (s.set 2 (nI q)) n w q t := by
  obtain ⟨⟨a1, a2, a3, a4, a5⟩, b2, e0, e1, e2, e3⟩ := B
  exact ⟨⟨a1, a2, h1, h2, a5⟩, b2, e0, e1, rfl, e3⟩
theorem gSP.set {s : gSd} {t p mo k : Nat} {x : Int32} (P : gSP s t p mo) (hk : ¬ k = 7) (h8 : ¬ k = 8) : gSP (s.set k x) t p mo := by
  obtain ⟨e1, e2, e3, e4⟩ := P
  exact ⟨(if_neg (show ¬ 7 = k by omega)).trans e1, (if_neg (show ¬ 8 = k by omega)).trans e2, e3, e4⟩
theorem gpass {s : gSd} {n w r t p mo : Nat} (B : gSB s n w r t) (P : gSP s t p mo) : s.pass = (((s.set 3 (nI (t + p))).set 7 (-1)).set 0 (nI (1 - n))) := by
  have h := gSP.ne B P
  obtain ⟨⟨a1, -⟩, -, e0, -, -, e3⟩ := B
  unfold gSd.pass
  rw [if_neg h, e3, P.1, e0, nI_add, show (1 : Int32) = nI 1 from rfl, pk_sub a1]
theorem gSB.pass {s : gSd} {n w r t p mo : Nat} (B : gSB s n w r t) (P : gSP s t p mo) : gSB s.pass (1 - n) w r (t + p) := by
  rw [gpass B P]
  obtain ⟨⟨a1, a2, a3, a4, a5, a6⟩, b2, e0, e1, e2, e3⟩ := B
  exact ⟨⟨by omega, a2, a3, a4, P.2.2.2, a6⟩, b2, rfl, e1, e2, rfl⟩
theorem gpass_pe (s : gSd) : s.pass.pe = -1 := by
  unfold gSd.pass
  by_cases h : s.pe = -1
  · rw [if_pos h]; exact h
  · rw [if_neg h]; rfl
theorem gpass0 {s : gSd} (h : s.pe = -1) : s.pass = s := if_pos h
theorem gcutS {s : gSd} {n w r t q : Nat} (B : gSB s n w r t) (hq : q ≤ 254) : s.cut (nI q) = (s.set 7 (nI (min (s.out.length - t) q))).set 8 (nI (if s.out.length - t ≤ q then 0 else 1)) := by
  obtain ⟨⟨a1, a2, a3, a4, a5, a6, -⟩, -, -, -, -, e3⟩ := B
  have l : s.left = nI (s.out.length - t) := by
    unfold gSd.left
    rw [e3, pk_sub a5, gmx (by omega)]
  unfold gSd.cut
  rw [l, gmn (by omega) (by omega)]
  by_cases c : s.out.length - t ≤ q
  · rw [if_pos c, if_pos (nI_le (by omega) (by omega))]; rfl
  · rw [if_neg c, if_neg (nI_ge (by omega) (by omega))]; rfl
theorem gSB.cut {s : gSd} {n w r t q : Nat} (B : gSB s n w r t) (hq : q ≤ 254) : gSB (s.cut (nI q)) n w r t ∧ gSP (s.cut (nI q)) t (min (s.out.length - t) q) (if s.out.length - t ≤ q then 0 else 1) := by
  rw [gcutS B hq]
  refine ⟨(B.set (by decide)).set (by decide), rfl, rfl, by split <;> omega, ?_⟩
  obtain ⟨⟨a1, a2, a3, a4, a5, a6, -⟩, -⟩ := B
  show t + min (s.out.length - t) q ≤ s.out.length
  omega
theorem gSB.new {s : gSd} {n w r t : Nat} {l : List Int32} (B : gSB s n w r t) (hl : l.length ≤ 60) (hb : gByt l) : gSB ((s.row 0 l).set 3 0) n w r 0 := by
  obtain ⟨⟨a1, a2, a3, a4, a5, a6, a7⟩, ⟨-, b2⟩, e0, e1, e2, e3⟩ := B
  exact ⟨⟨a1, a2, a3, a4, Nat.zero_le _, hl, a7⟩, ⟨hb, b2⟩, e0, e1, e2, rfl⟩
theorem gSB.th0 {s : gSd} {n w r t : Nat} (B : gSB s n w r t) : gSB (s.set 3 0) n w r 0 := by
  obtain ⟨⟨a1, a2, a3, a4, a5, a6⟩, b2, e0, e1, e2, e3⟩ := B
  exact ⟨⟨a1, a2, a3, a4, Nat.zero_le _, a6⟩, b2, e0, e1, e2, rfl⟩
theorem gtake {s : gSd} {k : Int32} {inf : List Int32} (hl : s.inn.length + inf.length ≤ 60) : s.take (gMb k inf) = (s.row 2 (s.inn ++ inf)).set 1 (1 - s.wa) := by
  unfold gSd.take
  rw [gMb_inf, List.take_of_length_le (by rw [List.length_append]; exact hl)]
theorem gSB.take {s : gSd} {n w r t : Nat} {k : Int32} {inf : List Int32} (B : gSB s n w r t) (hb : gByt inf) (hl : s.inn.length + inf.length ≤ 60) : gSB (s.take (gMb k inf)) n (1 - w) r t := by
  rw [gtake hl]
  obtain ⟨⟨a1, a2, a3, a4, a5, a6, a7, a8⟩, ⟨b1, b2, b3⟩, e0, e1, e2, e3⟩ := B
  refine ⟨⟨a1, by omega, a3, a4, a5, a6, a7, ?_⟩, ⟨b1, b2, gByt_app b3 hb⟩, e0, ?_, e2, e3⟩
  · show (s.inn ++ inf).length ≤ 60
    rw [List.length_append]; exact hl
  · show 1 - s.wa = _
    rw [e1, show (1 : Int32) = nI 1 from rfl, pk_sub a2]
theorem gSB.whole {s : gSd} {n w r t : Nat} (B : gSB s n w r t) : gSB s.whole n w r t := by
  obtain ⟨⟨a1, a2, a3, a4, a5, a6, a7, a8⟩, ⟨b1, b2, b3⟩, e0, e1, e2, e3⟩ := B
  exact ⟨⟨a1, a2, a3, a4, a5, a6, a8, Nat.zero_le _⟩, ⟨b1, b3, gByt_nil⟩, e0, e1, e2, e3⟩
theorem gSB.emptyCame {s : gSd} {n w r t : Nat} (B : gSB s n w r t) : gSB s.emptyCame n w r t := by
  obtain ⟨⟨a1, a2, a3, a4, a5, a6, a7, a8⟩, ⟨b1, b2, b3⟩, e0, e1, e2, e3⟩ := B
  exact ⟨⟨a1, a2, a3, a4, a5, a6, Nat.zero_le _, a8⟩, ⟨b1, gByt_nil, b3⟩, e0, e1, e2, e3⟩
theorem gSB.void {s : gSd} {n w r t : Nat} (B : gSB s n w r t) : gSB (((s.row 0 []).set 3 0).row 2 []) n w r 0 := by
  obtain ⟨⟨a1, a2, a3, a4, a5, a6, a7, a8⟩, ⟨b1, b2, b3⟩, e0, e1, e2, e3⟩ := B
  exact ⟨⟨a1, a2, a3, a4, Nat.zero_le _, Nat.zero_le _, a7, Nat.zero_le _⟩, ⟨gByt_nil, b2, gByt_nil⟩, e0, e1, e2, rfl⟩
theorem gSB.empt {s : gSd} {n w r t : Nat} (B : gSB s n w r t) : gSB s.empt 0 0 r 0 := by
  obtain ⟨⟨a1, a2, a3, a4, a5, a6, a7, a8⟩, ⟨b1, b2, b3⟩, e0, e1, e2, e3⟩ := B
  exact ⟨⟨Nat.zero_le _, Nat.zero_le _, a3, a4, Nat.zero_le _, Nat.zero_le _, a7, Nat.zero_le _⟩, ⟨gByt_nil, b2, gByt_nil⟩, rfl, rfl, e2, rfl⟩
theorem gSdT.mk0 {s : gSd} {n w r t : Nat} (B : gSB s n w r t) (h : s.pe = -1) : gSdT s := ⟨n, w, r, t, B, Or.inl h⟩
theorem gSdT.mk1 {s : gSd} {n w r t p mo : Nat} (B : gSB s n w r t) (P : gSP s t p mo) : gSdT s := ⟨n, w, r, t, B, Or.inr ⟨p, mo, P⟩⟩
theorem gSdT.set {s : gSd} {k : Nat} {x : Int32} (T : gSdT s) (hk : 4 ≤ k) (h7 : ¬ k = 7) (h8 : ¬ k = 8) : gSdT (s.set k x) := by
  obtain ⟨n, w, r, t, B, h | ⟨p, mo, P⟩⟩ := T
  · exact gSdT.mk0 (B.set hk) ((if_neg (show ¬ 7 = k by omega)).trans h)
  · exact gSdT.mk1 (B.set hk) (P.set h7 h8)
theorem gSdT.pass {s : gSd} (T : gSdT s) : gSdT s.pass := by
  obtain ⟨n, w, r, t, B, h | ⟨p, mo, P⟩⟩ := T
  · rw [gpass0 h]; exact gSdT.mk0 B h
  · exact gSdT.mk0 (B.pass P) (gpass_pe s)
theorem gSdT.brk {s : gSd} (T : gSdT s) : gSdT s.brk := by
  obtain ⟨n, w, r, t, B, h⟩ := T.pass
  exact gSdT.mk0 B.void (gpass_pe s)
theorem gSdT.sok {s : gSd} (T : gSdT s) : gSOk s := by
  obtain ⟨n, w, r, t, ⟨⟨a1, a2, a3, a4, a5, a6, -⟩, -, e0, e1, e2, e3⟩, -⟩ := T
  exact ⟨by rw [e3]; exact nI_le a5 (by omega), r, a3, a4, e2⟩
theorem gpk {s : gSd} {n w r t p mo : Nat} (B : gSB s n w r t) (P : gSP s t p mo) : s.pk = nI (64 * n + 32 * mo) := by
  obtain ⟨⟨a1, -⟩, -, e0, -⟩ := B
  obtain ⟨-, e, h, -⟩ := P
  unfold gSd.pk
  rw [e0, e]
  have : (n = 0 ∨ n = 1) ∧ (mo = 0 ∨ mo = 1) := by omega
  rcases this with ⟨rfl | rfl, rfl | rfl⟩ <;> decide
def gSn_r (L : gLn) (k : Int32) (b : List Int32) : gLn := (L.row 0 b).side 0 ((L.rd.set 9 k).set 10 (L.rd.se + 1))
theorem gks_r {L : gLn} {k : Nat} (h : k < 2 ^ 31) : rX2_kindToSend_r L (nI k) = (nI k, L) :=
  (if_neg (nI_ne2 h)).trans ((if_neg (nI_ne2 h)).trans (if_neg (nI_ne3 h)))
theorem gs3_r {L : gLn} {k : Nat} {b : List Int32} (h : k < 2 ^ 31) (e : rX2_compose_r L (nI k) = L.row 0 b) : gS3_r L (nI k) = gSn_r L (nI k) b := by
  unfold gS3_r
  rw [gks_r h, e]
  rfl
theorem gs3R_r {L : gLn} {k : Int32} {w : Nat} (hk : gKR k w) (hw : w ≤ 1) : gS3_r L k = gSn_r L k (gMb k []) := by
  obtain ⟨s, hs, rfl⟩ := hk
  refine gs3_r (by omega) (gcmpR_r ?_ ?_)
  · have : (w = 0 ∨ w = 1) ∧ (s = 0 ∨ s = 1 ∨ s = 2) := by omega
    rcases this with ⟨rfl | rfl, rfl | rfl | rfl⟩ <;> decide
  · have : (w = 0 ∨ w = 1) ∧ (s = 0 ∨ s = 1 ∨ s = 2) := by omega
    rcases this with ⟨rfl | rfl, rfl | rfl | rfl⟩ <;> decide
theorem gs3E_r {L : gLn} {k : Nat} (hk : k = 192 ∨ k = 224 ∨ k = 194 ∨ k = 226) : gS3_r L (nI k) = gSn_r L (nI k) (gMb (nI k) []) :=
  gs3_r (by omega) (gcmpR_r (by rcases hk with rfl | rfl | rfl | rfl <;> decide) (by rcases hk with rfl | rfl | rfl | rfl <;> decide))
theorem gs3S_r {L : gLn} {k : Nat} (hk : k = 193 ∨ k = 195) : gS3_r L (nI k) = gSn_r L (nI k) (gMb (nI k) [L.rd.ai]) :=
  gs3_r (by omega) (gcmpS_r (by rcases hk with rfl | rfl <;> decide) (by rcases hk with rfl | rfl <;> decide) (by rcases hk with rfl | rfl <;> decide))
theorem gs3A_r {L : gLn} {k : Nat} (hk : k = 225 ∨ k = 227) : gS3_r L (nI k) = gSn_r L (nI k) (gMb (nI k) [gat L.ca 3]) :=
  gs3_r (by omega) (gcmpA_r (by rcases hk with rfl | rfl <;> decide) (by rcases hk with rfl | rfl <;> decide))
theorem gs3I_r {L : gLn} {n w r t p mo : Nat} (B : gSB L.rd n w r t) (P : gSP L.rd t p mo) : gS3_r L (nI (64 * n + 32 * mo)) = gSn_r L (nI (64 * n + 32 * mo)) (gMb (nI (64 * n + 32 * mo)) ((L.rd.out.drop t).take p)) := by
  obtain ⟨⟨a1, a2, a3, a4, a5, a6, -⟩, -, e0, e1, e2, e3⟩ := B
  have := P.2.2.1
  refine gs3_r (by omega) (gcmpI_r ?_ e3 P.1 P.2.2.2 a6)
  exact nI_lt (show 64 * n + 32 * mo < 128 by omega) (by decide)
theorem gs3n_r {L : gLn} {n w r t q : Nat} (B : gSB L.rd n w r t) (hq : q ≤ 254) (eq : L.cd.ro = nI q) : gS3_r L (-3) = gS3_r (L.side 0 (L.rd.cut (nI q))) (nI (64 * n + 32 * (if L.rd.out.length - t ≤ q then 0 else 1))) := by
  have C := B.cut hq
  have e := gpk C.1 C.2
  have k1 : rX2_kindToSend_r L (-3) = ((L.rd.cut (nI q)).pk, L.side 0 (L.rd.cut (nI q))) := by
    rw [← eq]
    exact (if_neg (by decide)).trans ((if_neg (by decide)).trans (if_pos rfl))
  unfold gS3_r
  have lt : 64 * n + 32 * (if L.rd.out.length - t ≤ q then 0 else 1) < 2 ^ 31 := by
    have := B.1.1
    split <;> omega
  rw [k1, gks_r lt, e]
theorem gs3f_r {L : gLn} {n w r q : Nat} (B : gSB (L.rd.set 3 0) n w r 0) (hq : q ≤ 254) (eq : L.cd.ro = nI q) : gS3_r L (-2) = gS3_r (L.side 0 ((L.rd.set 3 0).cut (nI q))) (nI (64 * n + 32 * (if L.rd.out.length ≤ q then 0 else 1))) := by
  have C := B.cut hq
  have e : ((L.rd.set 3 0).cut (nI q)).pk = nI (64 * n + 32 * (if L.rd.out.length ≤ q then 0 else 1)) := gpk C.1 C.2
  have k1 : rX2_kindToSend_r L (-2) = (((L.rd.set 3 0).cut (nI q)).pk, (L.side 0 (L.rd.set 3 0)).side 0 ((L.rd.set 3 0).cut (nI q))) := by
    rw [← eq]
    exact (if_pos rfl).trans (if_pos rfl)
  unfold gS3_r
  have lt : 64 * n + 32 * (if L.rd.out.length ≤ q then 0 else 1) < 2 ^ 31 := by
    have := B.1.1
    split <;> omega
  rw [k1, gks_r lt, e, gLn.side_side]
def gSn_c (L : gLn) (k : Int32) (b : List Int32) : gLn := (L.row 0 b).side 1 ((L.cd.set 9 k).set 10 (L.cd.se + 1))
theorem gks_c {L : gLn} {k : Nat} (h : k < 2 ^ 31) : rX2_kindToSend_c L (nI k) = (nI k, L) :=
  (if_neg (nI_ne2 h)).trans ((if_neg (nI_ne2 h)).trans (if_neg (nI_ne3 h)))
theorem gs3_c {L : gLn} {k : Nat} {b : List Int32} (h : k < 2 ^ 31) (e : rX2_compose_c L (nI k) = L.row 0 b) : gS3_c L (nI k) = gSn_c L (nI k) b := by
  unfold gS3_c
  rw [gks_c h, e]
  rfl
theorem gs3R_c {L : gLn} {k : Int32} {w : Nat} (hk : gKR k w) (hw : w ≤ 1) : gS3_c L k = gSn_c L k (gMb k []) := by
  obtain ⟨s, hs, rfl⟩ := hk
  refine gs3_c (by omega) (gcmpR_c ?_ ?_)
  · have : (w = 0 ∨ w = 1) ∧ (s = 0 ∨ s = 1 ∨ s = 2) := by omega
    rcases this with ⟨rfl | rfl, rfl | rfl | rfl⟩ <;> decide
  · have : (w = 0 ∨ w = 1) ∧ (s = 0 ∨ s = 1 ∨ s = 2) := by omega
    rcases this with ⟨rfl | rfl, rfl | rfl | rfl⟩ <;> decide
theorem gs3E_c {L : gLn} {k : Nat} (hk : k = 192 ∨ k = 224 ∨ k = 194 ∨ k = 226) : gS3_c L (nI k) = gSn_c L (nI k) (gMb (nI k) []) :=
  gs3_c (by omega) (gcmpR_c (by rcases hk with rfl | rfl | rfl | rfl <;> decide) (by rcases hk with rfl | rfl | rfl | rfl <;> decide))
theorem gs3S_c {L : gLn} {k : Nat} (hk : k = 193 ∨ k = 195) : gS3_c L (nI k) = gSn_c L (nI k) (gMb (nI k) [L.cd.ai]) :=
  gs3_c (by omega) (gcmpS_c (by rcases hk with rfl | rfl <;> decide) (by rcases hk with rfl | rfl <;> decide) (by rcases hk with rfl | rfl <;> decide))
theorem gs3A_c {L : gLn} {k : Nat} (hk : k = 225 ∨ k = 227) : gS3_c L (nI k) = gSn_c L (nI k) (gMb (nI k) [gat L.ca 3]) :=
  gs3_c (by omega) (gcmpA_c (by rcases hk with rfl | rfl <;> decide) (by rcases hk with rfl | rfl <;> decide))
theorem gs3I_c {L : gLn} {n w r t p mo : Nat} (B : gSB L.cd n w r t) (P : gSP L.cd t p mo) : gS3_c L (nI (64 * n + 32 * mo)) = gSn_c L (nI (64 * n + 32 * mo)) (gMb (nI (64 * n + 32 * mo)) ((L.cd.out.drop t).take p)) := by
  obtain ⟨⟨a1, a2, a3, a4, a5, a6, -⟩, -, e0, e1, e2, e3⟩ := B
  have := P.2.2.1
  refine gs3_c (by omega) (gcmpI_c ?_ e3 P.1 P.2.2.2 a6)
  exact nI_lt (show 64 * n + 32 * mo < 128 by omega) (by decide)
theorem gs3n_c {L : gLn} {n w r t q : Nat} (B : gSB L.cd n w r t) (hq : q ≤ 254) (eq : L.rd.ro = nI q) : gS3_c L (-3) = gS3_c (L.side 1 (L.cd.cut (nI q))) (nI (64 * n + 32 * (if L.cd.out.length - t ≤ q then 0 else 1))) := by
  have C := B.cut hq
  have e := gpk C.1 C.2
  have k1 : rX2_kindToSend_c L (-3) = ((L.cd.cut (nI q)).pk, L.side 1 (L.cd.cut (nI q))) := by
    rw [← eq]
    exact (if_neg (by decide)).trans ((if_neg (by decide)).trans (if_pos rfl))
  unfold gS3_c
  have lt : 64 * n + 32 * (if L.cd.out.length - t ≤ q then 0 else 1) < 2 ^ 31 := by
    have := B.1.1
    split <;> omega
  rw [k1, gks_c lt, e]
theorem gs3f_c {L : gLn} {n w r q : Nat} (B : gSB (L.cd.set 3 0) n w r 0) (hq : q ≤ 254) (eq : L.rd.ro = nI q) : gS3_c L (-2) = gS3_c (L.side 1 ((L.cd.set 3 0).cut (nI q))) (nI (64 * n + 32 * (if L.cd.out.length ≤ q then 0 else 1))) := by
  have C := B.cut hq
  have e : ((L.cd.set 3 0).cut (nI q)).pk = nI (64 * n + 32 * (if L.cd.out.length ≤ q then 0 else 1)) := gpk C.1 C.2
  have k1 : rX2_kindToSend_c L (-2) = (((L.cd.set 3 0).cut (nI q)).pk, (L.side 1 (L.cd.set 3 0)).side 1 ((L.cd.set 3 0).cut (nI q))) := by
    rw [← eq]
    exact (if_pos rfl).trans (if_pos rfl)
  unfold gS3_c
  have lt : 64 * n + 32 * (if L.cd.out.length ≤ q then 0 else 1) < 2 ^ 31 := by
    have := B.1.1
    split <;> omega
  rw [k1, gks_c lt, e, gLn.side_side]
