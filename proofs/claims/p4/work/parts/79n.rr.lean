/-! THE REFERENCE'S RESET, WHOLE AND EXACT (by program: wip/p4/m_rr.py) -/
section RR
variable {t : List Int32} {M M' N1 N2 MB : gMd} {r : Int32 × rq} {s : Int32 × (rq × List Int32)} {x x1 x2 : Int32} {q Q : rq}
/-- the reset answer's head in the class's words -/
abbrev rHD (Q : rq) (t : List Int32) : Int32 × rq := rX3_readHead (rX3_clear Q) t
theorem rHDq (h : (rHD Q t).1 = 0) : rHD Q t = (0, ((((rX3_clear Q).set 0 (gat t 0)).set 9 ((gat t 1) >>> (4 &&& 31))).set 8 2)) := by
  have k1 : ¬ (8 * 0 + 1 : Int32) = 0 := by decide
  have k2 : ¬ (8 * 1 + 1 : Int32) = 0 := by decide
  have k3 : ¬ (8 * 0 + 2 : Int32) = 0 := by decide
  revert h
  unfold rHD rX3_readHead
  repeat' split
  all_goals first | (intro h; exact absurd h k1) | (intro h; exact absurd h k2) | (intro h; exact absurd h k3) | (intro _; rfl)
/-- what the start leaves -/
def rMB (t : List Int32) (MB : gMd) : Prop := rT t MB ∧ MB.f 21 = 0 ∧ MB.f 22 = 0 ∧ MB.f 23 = 0 ∧ MB.f 24 = 0 ∧ MB.a 2 1 = 372 ∧ MB.a 2 2 = 1 ∧ MB.a 2 3 = 0 ∧ MB.a 2 4 = 0 ∧ MB.a 2 5 = 0 ∧ MB.a 2 7 = 32
def nH (N1 : gMd) (x1 : Int32) : gMd := (if (N1.f 22) = 0 then (if x1 = 59 then (N1.put 2 0 x1) else (if x1 = 63 then (N1.put 2 0 x1) else (rX8_wrong (N1.put 2 0 x1) 2 0))) else (N1.put 2 0 x1))
theorem nH.k : rK N1 (nH N1 x1) := by
  unfold nH
  repeat' split
  all_goals first | exact rK.put | exact rK.put.trans rK.wr
theorem nH.f21 : (nH N1 x1).f 21 = N1.f 21 := by
  unfold nH
  repeat' split
  all_goals first | rfl | exact (rWr.f (by decide)).trans rfl
theorem rMB.hz (B : rMB t MB) : ∃ z, z ≤ 96 ∧ MB.f 20 = nI z ∧ ∃ a, a ≤ z ∧ MB.f 21 = nI a := ⟨_, B.1.2.1, B.1.1, 0, Nat.zero_le _, B.2.1⟩
theorem rMB.hz2 (B : rMB t MB) (b1 : gBn MB N1 x1) : ∃ z, z ≤ 96 ∧ (nH N1 x1).f 20 = nI z ∧ ∃ a, a ≤ z ∧ (nH N1 x1).f 21 = nI a := by
  have hat : rAt t MB := ⟨0, Nat.zero_le _, B.2.1⟩
  obtain ⟨a, ha, ea⟩ := hat.bn B.1 b1
  exact ⟨_, B.1.2.1, (nH.k.1 20 (by decide) (by decide) (by decide) (by decide)).trans ((B.1.k (rK.bn b1)).1), a, ha, nH.f21.trans ea⟩
theorem rHd (B : rMB t MB) (b1 : gBn MB N1 x1) (b2 : gBn (nH N1 x1) N2 x2) : rM t N2 (rHD Q t) ∧ ((rHD Q t).1 = 0 → x2 = gat t 1) ∧ (¬ (rHD Q t).1 = 0 → x2 = 0) := by
  obtain ⟨T, f21, f22, f23, f24, d1, d2, d3, d4, d5, d7⟩ := B
  have hl := T.2.1
  have k1 : ¬ (8 * 0 + 1 : Int32) = 0 := by decide
  have k2 : ¬ (8 * 1 + 1 : Int32) = 0 := by decide
  have k3 : ¬ (8 * 0 + 2 : Int32) = 0 := by decide
  have hat : rAt t MB := ⟨0, Nat.zero_le _, f21⟩
  have T1 : rT t (nH N1 x1) := (T.k (rK.bn b1)).k nH.k
  have hat1 : rAt t (nH N1 x1) := by
    obtain ⟨a, ha, ea⟩ := hat.bn T b1
    exact ⟨a, ha, nH.f21.trans ea⟩
  have hat2 := hat1.bn T1 b2
  have stick : ¬ (nH N1 x1).f 22 = 0 → N2 = nH N1 x1 ∧ x2 = 0 := fun n => by
    rcases b2 with ⟨-, e1, e2⟩ | ⟨c, -⟩ | ⟨c, -⟩
    · exact ⟨e1, e2⟩
    · exact absurd c n
    · exact absurd c n
  rcases b1 with ⟨c, -⟩ | ⟨-, e, e1, e2⟩ | ⟨-, a, z, ea, ez, h1, h2, e1, e2⟩
  · exact absurd f22 c
  · -- nothing at all
    have l0 : t.length = 0 := nI_inj (by omega) (by decide) (T.1.symm.trans (e.symm.trans f21))
    have eh : rHD Q t = (8 * 0 + 1, rX3_clear Q) := if_pos (by rw [l0]; rfl)
    have n22 : N1.f 22 = 8 * 0 + 1 := by rw [e1, rW22 f22, T.1, l0]; rfl
    have nh : nH N1 x1 = N1.put 2 0 x1 := if_neg (by rw [n22]; exact k1)
    have h22 : (nH N1 x1).f 22 = 8 * 0 + 1 := by rw [nh]; exact n22
    obtain ⟨s1, s2⟩ := stick (by rw [h22]; exact k1)
    rw [eh]
    exact ⟨⟨⟨by rw [s1]; exact h22, hat2⟩, fun h => absurd h k1⟩, fun h => absurd h k1, fun _ => s2⟩
  · have a0 : a = 0 := nI_inj (by omega) (by decide) (ea.symm.trans f21)
    subst a0
    have zl : z = t.length := nI_inj (by omega) (by omega) (ez.symm.trans T.1)
    have l0 : ¬ nI t.length = 0 := fun e => by have := nI_inj (by omega) (by decide) (show nI t.length = nI 0 from e); omega
    have ex1 : x1 = gat t 0 := by rw [e2, show gat t 0 = t.getD 0 0 from gat_nI (n := 0) (by decide)]; exact T.2.2.1 0 (by omega)
    have n22 : N1.f 22 = 0 := by rw [e1]; exact f22
    by_cases ts : gat t 0 = 59 ∨ gat t 0 = 63
    · have nh : nH N1 x1 = N1.put 2 0 x1 := by
        unfold nH
        rw [if_pos n22, ex1]
        rcases ts with c | c
        · rw [if_pos c]
        · by_cases d : gat t 0 = 59
          · rw [if_pos d]
          · rw [if_neg d, if_pos c]
      have h22 : (nH N1 x1).f 22 = 0 := by rw [nh]; exact n22
      have h21 : (nH N1 x1).f 21 = nI 1 := by rw [nH.f21, e1]; exact gset_s
      rcases b2 with ⟨c, -⟩ | ⟨-, e3, e4, e5⟩ | ⟨-, a, z', ea', ez', h1', h2', e3, e4⟩
      · exact absurd h22 c
      · have l1 : t.length = 1 := nI_inj (by omega) (by decide) (T1.1.symm.trans (e3.symm.trans h21))
        have n1 : nI t.length = 1 := by rw [l1]; rfl
        have eh : ∃ q, rHD Q t = (8 * 1 + 1, q) := by
          unfold rHD rX3_readHead
          rw [if_neg l0]
          by_cases d : gat t 0 = 59
          · rw [if_pos d, if_pos n1]; exact ⟨_, rfl⟩
          · rw [if_neg d, if_pos (ts.resolve_left d), if_pos n1]; exact ⟨_, rfl⟩
        obtain ⟨q', eh⟩ := eh
        have m22 : N2.f 22 = 8 * 1 + 1 := by rw [e4, rW22 h22, T1.1, n1]
        rw [eh]
        exact ⟨⟨⟨m22, hat2⟩, fun h => absurd h k2⟩, fun h => absurd h k2, fun _ => e5⟩
      · have a1 : a = 1 := nI_inj (by omega) (by decide) (ea'.symm.trans h21)
        subst a1
        have zl' : z' = t.length := nI_inj (by omega) (by omega) (ez'.symm.trans T1.1)
        have n1 : ¬ nI t.length = 1 := fun e => by have := nI_inj (by omega) (by decide) (show nI t.length = nI 1 from e); omega
        have eh : rHD Q t = (0, ((((rX3_clear Q).set 0 (gat t 0)).set 9 ((gat t 1) >>> (4 &&& 31))).set 8 2)) := by
          unfold rHD rX3_readHead
          rw [if_neg l0]
          by_cases d : gat t 0 = 59
          · rw [if_pos d, if_neg n1]
          · rw [if_neg d, if_pos (ts.resolve_left d), if_neg n1]
        have ex2 : x2 = gat t 1 := by rw [e4, show gat t 1 = t.getD 1 0 from gat_nI (n := 1) (by decide)]; exact T1.2.2.1 1 (by omega)
        rw [eh]
        refine ⟨⟨⟨by rw [e3]; exact h22, hat2⟩, fun _ => ⟨?_, 2, by omega, rfl⟩⟩, fun _ => ex2, fun h => absurd rfl h⟩
        rw [e3, nh, e1, ex1]
        exact ⟨rfl, f23, f24, rfl, d1.trans (by decide +kernel), d2.trans (by decide +kernel), d3, d4, d5, d7⟩
    · have nh : nH N1 x1 = rX8_wrong (N1.put 2 0 x1) 2 0 := by
        unfold nH
        rw [if_pos n22, ex1, if_neg (fun e => ts (Or.inl e)), if_neg (fun e => ts (Or.inr e))]
      have h22 : (nH N1 x1).f 22 = 8 * 0 + 2 := by rw [nh]; exact rW22 (M := N1.put 2 0 x1) n22
      obtain ⟨s1, s2⟩ := stick (by rw [h22]; exact k3)
      have eh : ∃ q, rHD Q t = (8 * 0 + 2, q) := by
        unfold rHD rX3_readHead
        rw [if_neg l0, if_neg (fun e => ts (Or.inl e)), if_neg (fun e => ts (Or.inr e))]; exact ⟨_, rfl⟩
      obtain ⟨q', eh⟩ := eh
      rw [eh]
      exact ⟨⟨⟨by rw [s1]; exact h22, hat2⟩, fun h => absurd h k3⟩, fun h => absurd h k3, fun _ => s2⟩
/-- historical bytes, one by one -/
def rHs (t : List Int32) (s : Int32 × (rq × List Int32)) : Int32 × (rq × List Int32) :=
  if s.1 = 0 then (if nI t.length ≤ s.2.1.f 8 then (8 * s.2.1.f 8 + 1, s.2) else (0, (s.2.1.set 8 (s.2.1.f 8 + 1), s.2.2 ++ [gat t (s.2.1.f 8)]))) else s
theorem rH_s {n : Nat} : rH t (n + 1) s = rH t n (rHs t s) := by
  have n1 : ¬ (8 * s.2.1.f 8 + 1 : Int32) = 0 := gx8 (c := 1) (by decide) (by decide)
  unfold rHs
  by_cases c : s.1 = 0
  · rw [if_pos c]
    by_cases d : nI t.length ≤ s.2.1.f 8
    · rw [if_pos d, rH_st n1]; exact (if_pos c).trans (if_pos d)
    · rw [if_neg d]; exact (if_pos c).trans (if_neg d)
  · rw [if_neg c, rH_st c, rH_st c]
theorem rHst (T : rT t M) (H : rM t M (s.1, s.2.1)) (h : gBn M M' x) : rM t M' ((rHs t s).1, (rHs t s).2.1) := by
  have hl := T.2.1
  have hat := H.1.2.bn T h
  have n1 : ¬ (8 * s.2.1.f 8 + 1 : Int32) = 0 := gx8 (c := 1) (by decide) (by decide)
  rcases rBn T H h with ⟨c1, e, -⟩ | ⟨c1, c2, e, -⟩ | ⟨c1, c2, e, -, -⟩
  · have e2 : rHs t s = s := if_neg c1
    rw [e2, e]; exact H
  · have e2 : rHs t s = (8 * s.2.1.f 8 + 1, s.2) := (if_pos c1).trans (if_pos c2)
    rw [e2]; exact ⟨⟨e, hat⟩, fun h => absurd h n1⟩
  · have e2 : rHs t s = (0, (s.2.1.set 8 (s.2.1.f 8 + 1), s.2.2 ++ [gat t (s.2.1.f 8)])) := (if_pos c1).trans (if_neg c2)
    obtain ⟨Qq, p, hp, ep⟩ := H.2 c1
    have ep' : s.2.1.f 8 = nI p := ep
    have lt : p < t.length := by
      by_cases lt : p < t.length
      · exact lt
      · exact absurd (show nI t.length ≤ s.2.1.f 8 by rw [ep']; exact nI_le (by omega) (by omega)) c2
    rw [e2]
    exact ⟨⟨by rw [e]; exact H.1.1.trans c1, hat⟩, fun _ => ⟨by rw [e]; exact Qq.at, p + 1, lt, by rw [rq.set_s, ep']; exact nI_1 p⟩⟩
/-- what n historical bytes are -/
theorem rH_l {l : List Int32} : ∀ {n p : Nat} {q : rq} {l : List Int32}, t.length ≤ 96 → q.f 8 = nI p → p ≤ t.length → (rH t n (0, (q, l))).1 = 0 → p + n ≤ t.length ∧ (rH t n (0, (q, l))).2.2 = l ++ (List.range n).map (fun i => t.getD (p + i) 0) ∧ (rH t n (0, (q, l))).2.1 = (if n = 0 then q else q.set 8 (nI (p + n)))
  | 0, p, q, l, hl, e, hp, _ => ⟨hp, by rw [List.range_zero, List.map_nil, List.append_nil]; rfl, rfl⟩
  | n + 1, p, q, l, hl, e, hp, h => by
    have lt : p < t.length := by
      by_cases lt : p < t.length
      · exact lt
      · exfalso
        rw [rH_s] at h
        have e2 : rHs t (0, (q, l)) = (8 * q.f 8 + 1, (q, l)) := (if_pos rfl).trans (if_pos (by rw [e]; exact nI_le (by omega) (by omega)))
        have n1 : ¬ (8 * q.f 8 + 1 : Int32) = 0 := gx8 (c := 1) (by decide) (by decide)
        rw [e2, rH_st n1] at h
        exact n1 h
    have e2 : rH t (n + 1) (0, (q, l)) = rH t n (0, (q.set 8 (q.f 8 + 1), l ++ [gat t (q.f 8)])) := (if_pos rfl).trans (if_neg (by rw [e]; exact nI_ge lt (by omega)))
    rw [e2] at h ⊢
    have e8 : (q.set 8 (q.f 8 + 1)).f 8 = nI (p + 1) := by rw [rq.set_s, e, nI_1]
    obtain ⟨h1, h2, h3⟩ := rH_l (l := l) (n := n) (p := p + 1) hl e8 (by omega) h
    refine ⟨by omega, ?_, ?_⟩
    · rw [h2, e, gat_nI (by omega), List.append_assoc, List.range_succ_eq_map, List.map_cons, List.map_map]
      congr 1
      show _ :: _ = _ :: _
      congr 1
      refine List.map_congr_left fun i _ => ?_
      show t.getD (p + 1 + i) 0 = t.getD (p + (i + 1)) 0
      rw [show p + 1 + i = p + (i + 1) by omega]
    · rw [h3, if_neg (by omega)]
      by_cases c : n = 0
      · rw [if_pos c, c, e, nI_1]
      · rw [if_neg c]
        funext k
        show (if k = 8 then nI (p + 1 + n) else if k = 8 then q.f 8 + 1 else q k) = if k = 8 then nI (p + (n + 1)) else q k
        by_cases d : k = 8
        · rw [if_pos d, if_pos d]; congr 1; omega
        · rw [if_neg d, if_neg d, if_neg d]
/-- the check, where it is wanted or not -/
theorem rC0 (H : rM t M (s.1, s.2.1)) (h : M.f 24 = 0) : rC t s = s := by
  by_cases c : s.1 = 0
  · exact (if_pos c).trans (if_pos ((H.2 c).1.2.2.1.symm.trans h))
  · exact rC_st c
theorem rC1 (H : rM t M (s.1, s.2.1)) (h : ¬ M.f 24 = 0) : rC t s = ((rCb t (s.1, s.2.1)).1, ((rCb t (s.1, s.2.1)).2, s.2.2)) := by
  by_cases c : s.1 = 0
  · have n6 : ¬ s.2.1.f 6 = 0 := fun e => h ((H.2 c).1.2.2.1.trans e)
    have e1 : rC t s = (if nI t.length ≤ s.2.1.f 8 then (8 * s.2.1.f 8 + 1, s.2) else if rXo t (s.2.1.f 8).toNatClampNeg = 0 then (0, (s.2.1.set 8 (s.2.1.f 8 + 1), s.2.2)) else (8 * s.2.1.f 8 + 6, s.2)) := (if_pos c).trans (if_neg n6)
    have e2 : rCb t (s.1, s.2.1) = (if nI t.length ≤ s.2.1.f 8 then (8 * s.2.1.f 8 + 1, s.2.1) else if rXo t (s.2.1.f 8).toNatClampNeg = 0 then (0, s.2.1.set 8 (s.2.1.f 8 + 1)) else (8 * s.2.1.f 8 + 6, s.2.1)) := if_pos c
    rw [e1, e2]
    repeat' split
    all_goals rfl
  · have e2 : rCb t (s.1, s.2.1) = (s.1, s.2.1) := if_neg c
    rw [rC_st c, e2]
/-- bytes behind the end -/
theorem rE0 (H : rM t M (s.1, s.2.1)) (h : ¬ M.f 22 = 0) : rE t s = s := rE_st (fun c => h (H.1.1.trans c))
theorem rE1 (T : rT t M) (H : rM t M (s.1, s.2.1)) (h : M.f 22 = 0) (c : M.f 20 ≤ M.f 21) : rE t s = s := by
  have c0 : s.1 = 0 := H.1.1.symm.trans h
  refine (if_pos c0).trans (if_pos ?_)
  rw [← T.1, ← show M.f 21 = s.2.1.f 8 from (H.2 c0).1.1]; exact c
theorem rE2 (T : rT t M) (H : rM t M (s.1, s.2.1)) (h : M.f 22 = 0) (c : ¬ M.f 20 ≤ M.f 21) : rM t (rX8_wrong M 7 (M.f 21)) ((rE t s).1, (rE t s).2.1) := by
  have c0 : s.1 = 0 := H.1.1.symm.trans h
  have e8 : M.f 21 = s.2.1.f 8 := (H.2 c0).1.1
  have e : rE t s = (8 * s.2.1.f 8 + 7, s.2) := (if_pos c0).trans (if_neg (by rw [← T.1, ← e8]; exact c))
  rw [e]
  obtain ⟨a, ha, ea⟩ := H.1.2
  exact ⟨⟨by rw [rW22 h, e8], a, ha, (rWr.f (by decide)).trans ea⟩, fun h => absurd h (gx8 (c := 7) (by decide) (by decide))⟩
/-- the whole, in one line -/
theorem rRdG {n : Nat} (hn : (rGs t 4 1 (rHD Q t)).1 = 0 → (gat t 1 &&& 15).toNatClampNeg = n) {F : Int32 × (rq × List Int32)} (hF : rE t (rC t (rH t n ((rGs t 4 1 (rHD Q t)).1, ((rGs t 4 1 (rHD Q t)).2, [])))) = F) : (rRd Q t).1 = F.1 ∧ (F.1 = 0 → rRd Q t = F) := by
  by_cases c : (rHD Q t).1 = 0
  · have e0 : rHD Q t = (0, (rHD Q t).2) := by rw [← c]
    have eG : rGs t 4 1 (rHD Q t) = rGs t 4 1 (0, (rHD Q t).2) := by rw [← e0]
    by_cases d : (rGs t 4 1 (0, (rHD Q t).2)).1 = 0
    · have e : rRd Q t = F := by
        rw [← hF, eG, d, ← hn (by rw [eG]; exact d)]
        exact (if_pos c).trans (if_pos d)
      exact ⟨by rw [e], fun _ => e⟩
    · have e : rRd Q t = ((rGs t 4 1 (0, (rHD Q t).2)).1, ((rGs t 4 1 (0, (rHD Q t).2)).2, [])) := (if_pos c).trans (if_neg d)
      rw [eG, rH_st d, rC_st d, rE_st d] at hF
      rw [e, ← hF]
      exact ⟨rfl, fun _ => rfl⟩
  · have e : rRd Q t = ((rHD Q t).1, ((rHD Q t).2, [])) := if_neg c
    rw [rGs_st c, rH_st c, rC_st c, rE_st c] at hF
    rw [e, ← hF]
    exact ⟨rfl, fun _ => rfl⟩
/-- the room is 1 to 255 -/
def rR5 (q : rq) : Prop := ∃ w, 1 ≤ w ∧ w < 256 ∧ q.f 5 = nI w
theorem rGb5 {y w : Int32} {j : Int32} (hw : gIr w 255) (H : rR5 q) (h : (rX3_readGroupByte q y j w).1 = 0) : rR5 (rX3_readGroupByte q y j w).2 := by
  have kt : (rX3_readTd q y w).2.f 5 = q.f 5 := by
    by_cases c : tdG y w
    · rw [rTdG c]
      unfold tdQ
      repeat' split
      all_goals rfl
    · rw [rTdB c]; rfl
  obtain ⟨v, v1, v2, v3⟩ := H
  obtain ⟨b, hb, rfl⟩ := hw
  revert h
  unfold rX3_readGroupByte
  by_cases a : j = 3
  · rw [if_pos a]; exact fun _ => ⟨v, v1, v2, kt.trans v3⟩
  · rw [if_neg a]
    by_cases a1 : y = 1
    · rw [if_pos a1]
      intro _
      refine ⟨v, v1, v2, Eq.trans ?_ v3⟩
      unfold rX3_readFirstGroup
      repeat' split
      all_goals rfl
    · rw [if_neg a1]
      by_cases a2 : y = q.f 10
      · rw [if_pos a2]
        unfold rX3_readLinkGroup
        have n5 : ¬ (5 : Int32) = 0 := by decide
        by_cases d : j = 0
        · rw [if_pos d]
          by_cases d1 : nI b < 1
          · rw [if_pos d1]; exact fun h => absurd h n5
          · rw [if_neg d1]
            by_cases d2 : nI b ≤ 254
            · rw [if_pos d2]
              intro _
              refine ⟨b, ?_, by omega, rfl⟩
              have : ¬ b = 0 := fun e => d1 (by rw [e]; decide)
              omega
            · rw [if_neg d2]; exact fun h => absurd h n5
        · rw [if_neg d]
          intro _
          refine ⟨v, v1, v2, Eq.trans ?_ v3⟩
          repeat' split
          all_goals rfl
      · rw [if_neg a2]; exact fun _ => ⟨v, v1, v2, v3⟩
theorem rL_5 {g here : Int32} {k : Nat} (hb : ∀ x, gIr (gat t x) 255) (H : r.1 = 0 → rR5 r.2) (h : (rL t g here k r).1 = 0) : rR5 (rL t g here k r).2 := by
  have h0 := rL_0 h
  revert h
  unfold rL
  rw [if_pos h0]
  by_cases a : (here >>> (nI k &&& 31)) &&& 1 = 0
  · rw [if_pos a]; exact fun _ => H h0
  · rw [if_neg a]
    by_cases b : nI t.length ≤ r.2.f 8
    · rw [if_pos b]; exact fun h => absurd h (gx8 (c := 1) (by decide) (by decide))
    · rw [if_neg b]
      by_cases c : (rX3_readGroupByte r.2 g (nI k) (gat t (r.2.f 8))).1 = 0
      · rw [if_pos c]
        intro _
        obtain ⟨w, w1, w2, w3⟩ := rGb5 (hb _) (H h0) c
        exact ⟨w, w1, w2, (rq.set_n (by decide)).trans w3⟩
      · rw [if_neg c]; exact fun h => absurd h (rGbx c)
theorem rGs_5 (hb : ∀ x, gIr (gat t x) 255) : ∀ {n g : Nat} {r : Int32 × rq}, (r.1 = 0 → rR5 r.2) → (rGs t n g r).1 = 0 → rR5 (rGs t n g r).2
  | 0, _, _, H => H
  | n + 1, g, r, H => by
    unfold rGs
    by_cases c : r.1 = 0
    · rw [if_pos c]
      by_cases d : r.2.f 9 = 0
      · rw [if_pos d]; exact H
      · rw [if_neg d]
        exact rGs_5 hb (rL_5 hb (rL_5 hb (rL_5 hb (rL_5 hb fun _ => by
          obtain ⟨w, w1, w2, w3⟩ := H c
          exact ⟨w, w1, w2, (rq.set_n (by decide)).trans ((rq.set_n (by decide)).trans w3)⟩))))
    · rw [if_neg c]; exact H
theorem rT.by (T : rT t M) : ∀ x, gIr (gat t x) 255 := fun x => by
  have hl := T.2.1
  have z : gIr 0 255 := ⟨0, by decide, rfl⟩
  by_cases c : x < 0
  · rw [gat_neg c]; exact z
  · by_cases d : nI t.length ≤ x
    · rw [gat_out d (by omega)]; exact z
    · have lt := gat_in c d (by omega)
      unfold gat
      rw [if_neg c, ← T.2.2.1 _ lt]
      exact T.2.2.2 _
/-- what the reference tells of a card whose reset answer is q, l -/
def rTold (M : gMd) (q : rq) (l : List Int32) : Prop := (M.a 1 0 = q.f 0 ∧ M.a 1 1 = rX3_clockOf (q.f 1) ∧ M.a 1 2 = rX3_divisorOf (q.f 1) ∧ M.a 1 3 = q.f 2 ∧ M.a 1 4 = q.f 3 ∧ M.a 1 5 = q.f 4 ∧ M.a 1 6 = nI l.length ∧ M.a 1 7 = q.f 5 ∧ M.a 1 8 = (if q.f 6 = 0 then 0 else 1)) ∧ l.length ≤ 15 ∧ ∀ i, i < l.length → M.a 3 i = l.getD i 0
/-- how a reset ends: by the class's words -/
def rOut (t : List Int32) (Q : rq) (M M' : gMd) (x : Int32) : Prop :=
  (¬ (rRd Q t).1 = 0 ∧ x = -2 - (rRd Q t).1 ∧ M'.f 3 = M.f 3 ∧ ∀ i q, i = 1 ∨ i = 3 → M'.a i q = M.a i q) ∨ ((rRd Q t).1 = 0 ∧ x = nI (rRd Q t).2.2.length ∧ M'.f 3 = 1 ∧ rTold M' (rRd Q t).2.1 (rRd Q t).2.2)
theorem rTold.beg {w : Int32} {l : List Int32} (H : rTold M q l) : rTold ((rX8_begins M).put 4 18 w) q l := H
end RR
/-- what stands when no fault came behind the historical bytes -/
theorem rFinQ {t : List Int32} {s : Int32 × (rq × List Int32)} (h : s.1 = 0) (z : (rE t (rC t s)).1 = 0) : (∀ k, ¬ k = 8 → (rE t (rC t s)).2.1.f k = s.2.1.f k) ∧ (rE t (rC t s)).2.2 = s.2.2 := by
  have hc : (rC t s).1 = 0 → (∀ k, ¬ k = 8 → (rC t s).2.1.f k = s.2.1.f k) ∧ (rC t s).2.2 = s.2.2 := by
    unfold rC
    rw [if_pos h]
    by_cases a : s.2.1.f 6 = 0
    · rw [if_pos a]; exact fun _ => ⟨fun _ _ => rfl, rfl⟩
    · rw [if_neg a]
      by_cases b : nI t.length ≤ s.2.1.f 8
      · rw [if_pos b]; exact fun _ => ⟨fun _ _ => rfl, rfl⟩
      · rw [if_neg b]
        by_cases c : rXo t (s.2.1.f 8).toNatClampNeg = 0
        · rw [if_pos c]; exact fun _ => ⟨fun k hk => rq.set_n hk, rfl⟩
        · rw [if_neg c]; exact fun _ => ⟨fun _ _ => rfl, rfl⟩
  by_cases c : (rC t s).1 = 0
  · have e := hc c
    revert z
    unfold rE
    rw [if_pos c]
    by_cases d : nI t.length ≤ (rC t s).2.1.f 8
    · rw [if_pos d]; exact fun _ => e
    · rw [if_neg d]; exact fun _ => e
  · rw [rE_st c] at z
    exact absurd z c
set_option maxRecDepth 100000 in
set_option maxHeartbeats 4000000 in
theorem c_X8_resetx_r {hp : List gA} {M : gMd} {t : List Int32} {Q : rq} (HM : gMod hp M) (ht : M.f 1 = nI t.length) (hl : t.length ≤ 96) (hc : ∀ q, q < t.length → M.a 0 q = t.getD q 0) (hb : ∀ q, gIr (M.a 0 q) 255) : gM yX8_reset cX8_reset 4 ((some .int)) 5 111 [.ref 122] (hp) (0) (0) (fun v h => ∃ x, v = some (.int x) ∧ ∃ M', gMod h M' ∧ gFM hp h ∧ gRs M M' ∧ rOut t Q M M' x) := by
  refine gM_of (ls0 := [some (.ref 122), none, none, none]) (by decide +kernel) (Nat.le_of_ble_eq_true rfl) rfl fun X C E => ?_
  have T0 : ∀ N : gMd, N.f 20 = M.f 1 → (∀ q, N.a 0 q = M.a 0 q) → rT t N := fun N e1 e2 => ⟨e1.trans ht, hl, fun q hq => (e2 q).trans (hc q hq), fun q => by rw [e2 q]; exact hb q⟩
  refine g_aload_n (q := 1) C dX8_reset_0 rfl rfl ?_
  refine g_iconst (v := 0) (q := 2) C dX8_reset_1 (by decide) rfl ?_
  refine g_putfield (q := 5) C fX8_66 dX8_reset_2 rfl HM.1 (Nat.le_of_ble_eq_true rfl) (Or.inl rfl) rfl rfl (by intro z h; cases h) ?_
  refine gMput (j := 2) (x := 0) HM rfl fun h1 HL1 fr1 => ?_
  refine g_aload_n (q := 6) C dX8_reset_5 rfl rfl ?_
  refine g_aload_n (q := 7) C dX8_reset_6 rfl rfl ?_
  refine g_getfield (v := .int ((M.f 1))) (q := 10) C fX8_75 dX8_reset_7 rfl HL1.1 rfl ?_
  refine g_putfield (q := 13) C fX8_92 dX8_reset_10 rfl HL1.1 (Nat.le_of_ble_eq_true rfl) (Or.inl rfl) rfl rfl (by intro z h; cases h) ?_
  refine gMput (j := 20) (x := (M.f 1)) HL1 rfl fun h2 HL2 fr2 => ?_
  refine g_aload_n (q := 14) C dX8_reset_13 rfl rfl ?_
  refine g_iconst (v := 0) (q := 15) C dX8_reset_14 (by decide) rfl ?_
  refine g_putfield (q := 18) C fX8_75 dX8_reset_15 rfl HL2.1 (Nat.le_of_ble_eq_true rfl) (Or.inl rfl) rfl rfl (by intro z h; cases h) ?_
  refine gMput (j := 1) (x := 0) HL2 rfl fun h3 HL3 fr3 => ?_
  refine g_aload_n (q := 19) C dX8_reset_18 rfl rfl ?_
  refine g_iconst (v := 0) (q := 20) C dX8_reset_19 (by decide) rfl ?_
  refine g_putfield (q := 23) C fX8_89 dX8_reset_20 rfl HL3.1 (Nat.le_of_ble_eq_true rfl) (Or.inl rfl) rfl rfl (by intro z h; cases h) ?_
  refine gMput (j := 21) (x := 0) HL3 rfl fun h4 HL4 fr4 => ?_
  refine g_aload_n (q := 24) C dX8_reset_23 rfl rfl ?_
  refine g_iconst (v := 0) (q := 25) C dX8_reset_24 (by decide) rfl ?_
  refine g_putfield (q := 28) C fX8_86 dX8_reset_25 rfl HL4.1 (Nat.le_of_ble_eq_true rfl) (Or.inl rfl) rfl rfl (by intro z h; cases h) ?_
  refine gMput (j := 22) (x := 0) HL4 rfl fun h5 HL5 fr5 => ?_
  refine g_aload_n (q := 29) C dX8_reset_28 rfl rfl ?_
  refine g_iconst (v := 0) (q := 30) C dX8_reset_29 (by decide) rfl ?_
  refine g_putfield (q := 33) C fX8_113 dX8_reset_30 rfl HL5.1 (Nat.le_of_ble_eq_true rfl) (Or.inl rfl) rfl rfl (by intro z h; cases h) ?_
  refine gMput (j := 23) (x := 0) HL5 rfl fun h6 HL6 fr6 => ?_
  refine g_aload_n (q := 34) C dX8_reset_33 rfl rfl ?_
  refine g_iconst (v := 0) (q := 35) C dX8_reset_34 (by decide) rfl ?_
  refine g_putfield (q := 38) C fX8_123 dX8_reset_35 rfl HL6.1 (Nat.le_of_ble_eq_true rfl) (Or.inl rfl) rfl rfl (by intro z h; cases h) ?_
  refine gMput (j := 24) (x := 0) HL6 rfl fun h7 HL7 fr7 => ?_
  refine g_iconst (v := 0) (q := 39) C dX8_reset_38 (by decide) rfl ?_
  refine g_istore_n (q := 40) C dX8_reset_39 (Nat.le_of_ble_eq_true rfl) (by simp only [gset]; rfl) rfl ?_
  refine g_iload_n (q := 41) C dX8_reset_40 rfl rfl ?_
  refine g_bipush (v := 9) (q := 43) C dX8_reset_41 (by decide) rfl ?_
  refine g_icmp_ge_f (t := 59) (q := 46) C dX8_reset_43 (by decide) rfl (by decide) ?_
  refine g_aload_n (q := 47) C dX8_reset_46 rfl rfl ?_
  refine g_getfield (v := .ref 125) (q := 50) C fX8_16 dX8_reset_47 rfl HL7.1 rfl ?_
  refine g_iload_n (q := 51) C dX8_reset_50 rfl rfl ?_
  refine g_iconst (v := 0) (q := 52) C dX8_reset_51 (by decide) rfl ?_
  refine g_iastoreN (j := 0) (q := 53) C dX8_reset_52 rfl (HL7.ar (i := 2) (n := 9) (by decide) rfl) (pk_in 0 9 (by decide)) (pk_cl 0) ?_
  refine gMsto (i := 2) (j := 0) (x := 0) HL7 (by decide) rfl rfl fun h8 HL8 fr8 => ?_
  refine g_iinc (v := 1) (q := 56) C dX8_reset_53 rfl (by decide) (by simp only [gset]; rfl) rfl ?_
  refine g_goto (q := 40) C dX8_reset_56 (by decide) ?_
  refine g_iload_n (q := 41) C dX8_reset_40 rfl rfl ?_
  refine g_bipush (v := 9) (q := 43) C dX8_reset_41 (by decide) rfl ?_
  refine g_icmp_ge_f (t := 59) (q := 46) C dX8_reset_43 (by decide) rfl (by decide) ?_
  refine g_aload_n (q := 47) C dX8_reset_46 rfl rfl ?_
  refine g_getfield (v := .ref 125) (q := 50) C fX8_16 dX8_reset_47 rfl HL8.1 rfl ?_
  refine g_iload_n (q := 51) C dX8_reset_50 rfl rfl ?_
  refine g_iconst (v := 0) (q := 52) C dX8_reset_51 (by decide) rfl ?_
  refine g_iastoreN (j := 1) (q := 53) C dX8_reset_52 rfl (HL8.ar (i := 2) (n := 9) (by decide) rfl) (pk_in 1 9 (by decide)) (pk_cl 1) ?_
  refine gMsto (i := 2) (j := 1) (x := 0) HL8 (by decide) rfl rfl fun h9 HL9 fr9 => ?_
  refine g_iinc (v := 2) (q := 56) C dX8_reset_53 rfl (by decide) (by simp only [gset]; rfl) rfl ?_
  refine g_goto (q := 40) C dX8_reset_56 (by decide) ?_
  refine g_iload_n (q := 41) C dX8_reset_40 rfl rfl ?_
  refine g_bipush (v := 9) (q := 43) C dX8_reset_41 (by decide) rfl ?_
  refine g_icmp_ge_f (t := 59) (q := 46) C dX8_reset_43 (by decide) rfl (by decide) ?_
  refine g_aload_n (q := 47) C dX8_reset_46 rfl rfl ?_
  refine g_getfield (v := .ref 125) (q := 50) C fX8_16 dX8_reset_47 rfl HL9.1 rfl ?_
  refine g_iload_n (q := 51) C dX8_reset_50 rfl rfl ?_
  refine g_iconst (v := 0) (q := 52) C dX8_reset_51 (by decide) rfl ?_
  refine g_iastoreN (j := 2) (q := 53) C dX8_reset_52 rfl (HL9.ar (i := 2) (n := 9) (by decide) rfl) (pk_in 2 9 (by decide)) (pk_cl 2) ?_
  refine gMsto (i := 2) (j := 2) (x := 0) HL9 (by decide) rfl rfl fun h10 HL10 fr10 => ?_
  refine g_iinc (v := 3) (q := 56) C dX8_reset_53 rfl (by decide) (by simp only [gset]; rfl) rfl ?_
  refine g_goto (q := 40) C dX8_reset_56 (by decide) ?_
  refine g_iload_n (q := 41) C dX8_reset_40 rfl rfl ?_
  refine g_bipush (v := 9) (q := 43) C dX8_reset_41 (by decide) rfl ?_
  refine g_icmp_ge_f (t := 59) (q := 46) C dX8_reset_43 (by decide) rfl (by decide) ?_
  refine g_aload_n (q := 47) C dX8_reset_46 rfl rfl ?_
  refine g_getfield (v := .ref 125) (q := 50) C fX8_16 dX8_reset_47 rfl HL10.1 rfl ?_
  refine g_iload_n (q := 51) C dX8_reset_50 rfl rfl ?_
  refine g_iconst (v := 0) (q := 52) C dX8_reset_51 (by decide) rfl ?_
  refine g_iastoreN (j := 3) (q := 53) C dX8_reset_52 rfl (HL10.ar (i := 2) (n := 9) (by decide) rfl) (pk_in 3 9 (by decide)) (pk_cl 3) ?_
  refine gMsto (i := 2) (j := 3) (x := 0) HL10 (by decide) rfl rfl fun h11 HL11 fr11 => ?_
  refine g_iinc (v := 4) (q := 56) C dX8_reset_53 rfl (by decide) (by simp only [gset]; rfl) rfl ?_
  refine g_goto (q := 40) C dX8_reset_56 (by decide) ?_
  refine g_iload_n (q := 41) C dX8_reset_40 rfl rfl ?_
  refine g_bipush (v := 9) (q := 43) C dX8_reset_41 (by decide) rfl ?_
  refine g_icmp_ge_f (t := 59) (q := 46) C dX8_reset_43 (by decide) rfl (by decide) ?_
  refine g_aload_n (q := 47) C dX8_reset_46 rfl rfl ?_
  refine g_getfield (v := .ref 125) (q := 50) C fX8_16 dX8_reset_47 rfl HL11.1 rfl ?_
  refine g_iload_n (q := 51) C dX8_reset_50 rfl rfl ?_
  refine g_iconst (v := 0) (q := 52) C dX8_reset_51 (by decide) rfl ?_
  refine g_iastoreN (j := 4) (q := 53) C dX8_reset_52 rfl (HL11.ar (i := 2) (n := 9) (by decide) rfl) (pk_in 4 9 (by decide)) (pk_cl 4) ?_
  refine gMsto (i := 2) (j := 4) (x := 0) HL11 (by decide) rfl rfl fun h12 HL12 fr12 => ?_
  refine g_iinc (v := 5) (q := 56) C dX8_reset_53 rfl (by decide) (by simp only [gset]; rfl) rfl ?_
  refine g_goto (q := 40) C dX8_reset_56 (by decide) ?_
  refine g_iload_n (q := 41) C dX8_reset_40 rfl rfl ?_
  refine g_bipush (v := 9) (q := 43) C dX8_reset_41 (by decide) rfl ?_
  refine g_icmp_ge_f (t := 59) (q := 46) C dX8_reset_43 (by decide) rfl (by decide) ?_
  refine g_aload_n (q := 47) C dX8_reset_46 rfl rfl ?_
  refine g_getfield (v := .ref 125) (q := 50) C fX8_16 dX8_reset_47 rfl HL12.1 rfl ?_
  refine g_iload_n (q := 51) C dX8_reset_50 rfl rfl ?_
  refine g_iconst (v := 0) (q := 52) C dX8_reset_51 (by decide) rfl ?_
  refine g_iastoreN (j := 5) (q := 53) C dX8_reset_52 rfl (HL12.ar (i := 2) (n := 9) (by decide) rfl) (pk_in 5 9 (by decide)) (pk_cl 5) ?_
  refine gMsto (i := 2) (j := 5) (x := 0) HL12 (by decide) rfl rfl fun h13 HL13 fr13 => ?_
  refine g_iinc (v := 6) (q := 56) C dX8_reset_53 rfl (by decide) (by simp only [gset]; rfl) rfl ?_
  refine g_goto (q := 40) C dX8_reset_56 (by decide) ?_
  refine g_iload_n (q := 41) C dX8_reset_40 rfl rfl ?_
  refine g_bipush (v := 9) (q := 43) C dX8_reset_41 (by decide) rfl ?_
  refine g_icmp_ge_f (t := 59) (q := 46) C dX8_reset_43 (by decide) rfl (by decide) ?_
  refine g_aload_n (q := 47) C dX8_reset_46 rfl rfl ?_
  refine g_getfield (v := .ref 125) (q := 50) C fX8_16 dX8_reset_47 rfl HL13.1 rfl ?_
  refine g_iload_n (q := 51) C dX8_reset_50 rfl rfl ?_
  refine g_iconst (v := 0) (q := 52) C dX8_reset_51 (by decide) rfl ?_
  refine g_iastoreN (j := 6) (q := 53) C dX8_reset_52 rfl (HL13.ar (i := 2) (n := 9) (by decide) rfl) (pk_in 6 9 (by decide)) (pk_cl 6) ?_
  refine gMsto (i := 2) (j := 6) (x := 0) HL13 (by decide) rfl rfl fun h14 HL14 fr14 => ?_
  refine g_iinc (v := 7) (q := 56) C dX8_reset_53 rfl (by decide) (by simp only [gset]; rfl) rfl ?_
  refine g_goto (q := 40) C dX8_reset_56 (by decide) ?_
  refine g_iload_n (q := 41) C dX8_reset_40 rfl rfl ?_
  refine g_bipush (v := 9) (q := 43) C dX8_reset_41 (by decide) rfl ?_
  refine g_icmp_ge_f (t := 59) (q := 46) C dX8_reset_43 (by decide) rfl (by decide) ?_
  refine g_aload_n (q := 47) C dX8_reset_46 rfl rfl ?_
  refine g_getfield (v := .ref 125) (q := 50) C fX8_16 dX8_reset_47 rfl HL14.1 rfl ?_
  refine g_iload_n (q := 51) C dX8_reset_50 rfl rfl ?_
  refine g_iconst (v := 0) (q := 52) C dX8_reset_51 (by decide) rfl ?_
  refine g_iastoreN (j := 7) (q := 53) C dX8_reset_52 rfl (HL14.ar (i := 2) (n := 9) (by decide) rfl) (pk_in 7 9 (by decide)) (pk_cl 7) ?_
  refine gMsto (i := 2) (j := 7) (x := 0) HL14 (by decide) rfl rfl fun h15 HL15 fr15 => ?_
  refine g_iinc (v := 8) (q := 56) C dX8_reset_53 rfl (by decide) (by simp only [gset]; rfl) rfl ?_
  refine g_goto (q := 40) C dX8_reset_56 (by decide) ?_
  refine g_iload_n (q := 41) C dX8_reset_40 rfl rfl ?_
  refine g_bipush (v := 9) (q := 43) C dX8_reset_41 (by decide) rfl ?_
  refine g_icmp_ge_f (t := 59) (q := 46) C dX8_reset_43 (by decide) rfl (by decide) ?_
  refine g_aload_n (q := 47) C dX8_reset_46 rfl rfl ?_
  refine g_getfield (v := .ref 125) (q := 50) C fX8_16 dX8_reset_47 rfl HL15.1 rfl ?_
  refine g_iload_n (q := 51) C dX8_reset_50 rfl rfl ?_
  refine g_iconst (v := 0) (q := 52) C dX8_reset_51 (by decide) rfl ?_
  refine g_iastoreN (j := 8) (q := 53) C dX8_reset_52 rfl (HL15.ar (i := 2) (n := 9) (by decide) rfl) (pk_in 8 9 (by decide)) (pk_cl 8) ?_
  refine gMsto (i := 2) (j := 8) (x := 0) HL15 (by decide) rfl rfl fun h16 HL16 fr16 => ?_
  refine g_iinc (v := 9) (q := 56) C dX8_reset_53 rfl (by decide) (by simp only [gset]; rfl) rfl ?_
  refine g_goto (q := 40) C dX8_reset_56 (by decide) ?_
  refine g_iload_n (q := 41) C dX8_reset_40 rfl rfl ?_
  refine g_bipush (v := 9) (q := 43) C dX8_reset_41 (by decide) rfl ?_
  refine g_icmp_ge_t (t := 59) C dX8_reset_43 (by decide) (by decide) ?_
  refine g_aload_n (q := 60) C dX8_reset_59 rfl rfl ?_
  refine g_getfield (v := .ref 125) (q := 63) C fX8_16 dX8_reset_60 rfl HL16.1 rfl ?_
  refine g_iconst (v := 1) (q := 64) C dX8_reset_63 (by decide) rfl ?_
  refine g_sipush (v := 372) (q := 67) C dX8_reset_64 (by decide) rfl ?_
  refine g_iastoreN (j := 1) (q := 68) C dX8_reset_67 rfl (HL16.ar (i := 2) (n := 9) (by decide) rfl) (pk_in 1 9 (by decide)) (pk_cl 1) ?_
  refine gMsto (i := 2) (j := 1) (x := 372) HL16 (by decide) rfl rfl fun h17 HL17 fr17 => ?_
  refine g_aload_n (q := 69) C dX8_reset_68 rfl rfl ?_
  refine g_getfield (v := .ref 125) (q := 72) C fX8_16 dX8_reset_69 rfl HL17.1 rfl ?_
  refine g_iconst (v := 2) (q := 73) C dX8_reset_72 (by decide) rfl ?_
  refine g_iconst (v := 1) (q := 74) C dX8_reset_73 (by decide) rfl ?_
  refine g_iastoreN (j := 2) (q := 75) C dX8_reset_74 rfl (HL17.ar (i := 2) (n := 9) (by decide) rfl) (pk_in 2 9 (by decide)) (pk_cl 2) ?_
  refine gMsto (i := 2) (j := 2) (x := 1) HL17 (by decide) rfl rfl fun h18 HL18 fr18 => ?_
  refine g_aload_n (q := 76) C dX8_reset_75 rfl rfl ?_
  refine g_getfield (v := .ref 125) (q := 79) C fX8_16 dX8_reset_76 rfl HL18.1 rfl ?_
  refine g_bipush (v := 7) (q := 81) C dX8_reset_79 (by decide) rfl ?_
  refine g_bipush (v := 32) (q := 83) C dX8_reset_81 (by decide) rfl ?_
  refine g_iastoreN (j := 7) (q := 84) C dX8_reset_83 rfl (HL18.ar (i := 2) (n := 9) (by decide) rfl) (pk_in 7 9 (by decide)) (pk_cl 7) ?_
  refine gMsto (i := 2) (j := 7) (x := 32) HL18 (by decide) rfl rfl fun h19 HL19 fr19 => ?_
  obtain ⟨MB, eB⟩ : ∃ MB, MB = (((((((((((((((((((M.set 2 0).set 20 (M.f 1)).set 1 0).set 21 0).set 22 0).set 23 0).set 24 0).put 2 0 0).put 2 1 0).put 2 2 0).put 2 3 0).put 2 4 0).put 2 5 0).put 2 6 0).put 2 7 0).put 2 8 0).put 2 1 372).put 2 2 1).put 2 7 32) := ⟨_, rfl⟩
  have HB9 : gMod h19 MB := by rw [eB]; exact HL19
  have frB : gFM hp h19 := (gFM.trans (gFM.trans (gFM.trans (gFM.trans (gFM.trans (gFM.trans (gFM.trans (gFM.trans (gFM.trans (gFM.trans (gFM.trans (gFM.trans (gFM.trans (gFM.trans (gFM.trans (gFM.trans (gFM.trans (gFM.trans fr1 fr2) fr3) fr4) fr5) fr6) fr7) fr8) fr9) fr10) fr11) fr12) fr13) fr14) fr15) fr16) fr17) fr18) fr19)
  have fB : ∀ k, ¬ k = 1 → ¬ k = 2 → ¬ k = 20 → ¬ k = 21 → ¬ k = 22 → ¬ k = 23 → ¬ k = 24 → MB.f k = M.f k := fun k h1 h2 h20 h21 h22 h23 h24 => by rw [eB]; simp only [gput_f]; rw [gset_n h24, gset_n h23, gset_n h22, gset_n h21, gset_n h1, gset_n h20, gset_n h2]
  have aB : ∀ i q, ¬ i = 2 → MB.a i q = M.a i q := fun i q h => by rw [eB]; simp only [gput_o h, gset_a]
  have f1 : MB.f 1 = 0 := by rw [eB]; exact (gput_f.trans (gput_f.trans (gput_f.trans (gput_f.trans (gput_f.trans (gput_f.trans (gput_f.trans (gput_f.trans (gput_f.trans (gput_f.trans (gput_f.trans (gput_f.trans ((gset_n (by decide)).trans ((gset_n (by decide)).trans ((gset_n (by decide)).trans ((gset_n (by decide)).trans gset_s))))))))))))))))
  have f20 : MB.f 20 = (M.f 1) := by rw [eB]; exact (gput_f.trans (gput_f.trans (gput_f.trans (gput_f.trans (gput_f.trans (gput_f.trans (gput_f.trans (gput_f.trans (gput_f.trans (gput_f.trans (gput_f.trans (gput_f.trans ((gset_n (by decide)).trans ((gset_n (by decide)).trans ((gset_n (by decide)).trans ((gset_n (by decide)).trans ((gset_n (by decide)).trans gset_s)))))))))))))))))
  have f21 : MB.f 21 = 0 := by rw [eB]; exact (gput_f.trans (gput_f.trans (gput_f.trans (gput_f.trans (gput_f.trans (gput_f.trans (gput_f.trans (gput_f.trans (gput_f.trans (gput_f.trans (gput_f.trans (gput_f.trans ((gset_n (by decide)).trans ((gset_n (by decide)).trans ((gset_n (by decide)).trans gset_s)))))))))))))))
  have f22 : MB.f 22 = 0 := by rw [eB]; exact (gput_f.trans (gput_f.trans (gput_f.trans (gput_f.trans (gput_f.trans (gput_f.trans (gput_f.trans (gput_f.trans (gput_f.trans (gput_f.trans (gput_f.trans (gput_f.trans ((gset_n (by decide)).trans ((gset_n (by decide)).trans gset_s))))))))))))))
  have f23 : MB.f 23 = 0 := by rw [eB]; exact (gput_f.trans (gput_f.trans (gput_f.trans (gput_f.trans (gput_f.trans (gput_f.trans (gput_f.trans (gput_f.trans (gput_f.trans (gput_f.trans (gput_f.trans (gput_f.trans ((gset_n (by decide)).trans gset_s)))))))))))))
  have f24 : MB.f 24 = 0 := by rw [eB]; exact (gput_f.trans (gput_f.trans (gput_f.trans (gput_f.trans (gput_f.trans (gput_f.trans (gput_f.trans (gput_f.trans (gput_f.trans (gput_f.trans (gput_f.trans (gput_f.trans gset_s))))))))))))
  have d1 : MB.a 2 1 = 372 := by rw [eB]; exact ((gput_n (by decide)).trans ((gput_n (by decide)).trans gput_s))
  have d2 : MB.a 2 2 = 1 := by rw [eB]; exact ((gput_n (by decide)).trans gput_s)
  have d3 : MB.a 2 3 = 0 := by rw [eB]; exact ((gput_n (by decide)).trans ((gput_n (by decide)).trans ((gput_n (by decide)).trans ((gput_n (by decide)).trans ((gput_n (by decide)).trans ((gput_n (by decide)).trans ((gput_n (by decide)).trans ((gput_n (by decide)).trans gput_s))))))))
  have d4 : MB.a 2 4 = 0 := by rw [eB]; exact ((gput_n (by decide)).trans ((gput_n (by decide)).trans ((gput_n (by decide)).trans ((gput_n (by decide)).trans ((gput_n (by decide)).trans ((gput_n (by decide)).trans ((gput_n (by decide)).trans gput_s)))))))
  have d5 : MB.a 2 5 = 0 := by rw [eB]; exact ((gput_n (by decide)).trans ((gput_n (by decide)).trans ((gput_n (by decide)).trans ((gput_n (by decide)).trans ((gput_n (by decide)).trans ((gput_n (by decide)).trans gput_s))))))
  have d7 : MB.a 2 7 = 32 := by rw [eB]; exact gput_s
  have TB : rT t MB := T0 MB f20 (fun q => aB 0 q (by decide))
  have B : rMB t MB := ⟨TB, f21, f22, f23, f24, d1, d2, d3, d4, d5, d7⟩
  refine g_aload_n (q := 85) C dX8_reset_84 rfl rfl ?_
  refine g_getfield (v := .ref 125) (q := 88) C fX8_16 dX8_reset_85 rfl HB9.1 rfl ?_
  refine g_iconst (v := 0) (q := 89) C dX8_reset_88 (by decide) rfl ?_
  refine g_aload_n (q := 90) C dX8_reset_89 rfl rfl ?_
  refine g_callVip (q := 93) (As := []) C gyX8_byteNext gvX8_byteNext t_1218 (c_X8_byteNext_r HB9 B.hz) dX8_reset_90 rfl HB9.1 rfl rfl rfl (Nat.le_of_ble_eq_true rfl) (Nat.le_of_ble_eq_true rfl) (Nat.le_of_ble_eq_true rfl) (Nat.le_of_ble_eq_true rfl) (Nat.le_of_ble_eq_true rfl) rfl (fun x20 h20 z20 => ?_)
  obtain ⟨N20, HN20, fn20, bn20⟩ := z20
  refine g_iastoreN (j := 0) (q := 94) C dX8_reset_93 rfl (HN20.ar (i := 2) (n := 9) (by decide) rfl) (pk_in 0 9 (by decide)) (pk_cl 0) ?_
  refine gMsto (i := 2) (j := 0) (x := x20) HN20 (by decide) rfl rfl fun h21 HL21 fr21 => ?_
  have frX : gFM hp h21 := (gFM.trans (gFM.trans frB fn20) fr21)
  have J220 : ∀ (x2 : Int32) (a1 c : Nat) (k3 : Int32) (M1 : gMd) (hz : List gA), a1 ≤ t.length → c ≤ 15 → ((rGs t 4 1 (rHD Q t)).1 = 0 → (rGs t 4 1 (rHD Q t)).2.f 8 = nI a1 ∧ (gat t 1 &&& 15).toNatClampNeg = c) → gMod hz M1 → gFM hp hz → rK MB M1 → M1.a 2 6 = nI c → rM t M1 ((rE t (rC t (rH t c ((rGs t 4 1 (rHD Q t)).1, ((rGs t 4 1 (rHD Q t)).2, []))))).1, (rE t (rC t (rH t c ((rGs t 4 1 (rHD Q t)).1, ((rGs t 4 1 (rHD Q t)).2, []))))).2.1) → gG X 220 [some (.ref 122), some (.int x2), some (.int ((nI a1))), some (.int k3)] [] hz 0 0 := by
    intro x2 a1 c k3 M1 hz ha1 hc15 hG HZ frz KZ d6 RZ
    have T1 := TB.k KZ
    obtain ⟨F, hF⟩ : ∃ F, rE t (rC t (rH t c ((rGs t 4 1 (rHD Q t)).1, ((rGs t 4 1 (rHD Q t)).2, [])))) = F := ⟨_, rfl⟩
    obtain ⟨r1, r2⟩ := rRdG (fun h => (hG h).2) hF
    rw [hF] at RZ
    refine g_aload_n (q := 221) C dX8_reset_220 rfl rfl ?_
    refine g_getfield (v := .int ((M1.f 22))) (q := 224) C fX8_86 dX8_reset_221 rfl HZ.1 rfl ?_
    refine g_if_eq (t := 235) (q := 227) C dX8_reset_224 (by decide) rfl (fun c_224 => ?_) (fun c_224 => ?_)
    ·
      refine g_aload_n (q := 236) C dX8_reset_235 rfl rfl ?_
      refine g_getfield (v := .ref 125) (q := 239) C fX8_16 dX8_reset_236 rfl HZ.1 rfl ?_
      refine g_bipush (v := 8) (q := 241) C dX8_reset_239 (by decide) rfl ?_
      refine g_aload_n (q := 242) C dX8_reset_241 rfl rfl ?_
      refine g_getfield (v := .int ((M1.f 24))) (q := 245) C fX8_123 dX8_reset_242 rfl HZ.1 rfl ?_
      suffices K245 : gG X 253 [some (.ref 122), some (.int x2), some (.int ((nI a1))), some (.int k3)] [.int (if (M1.f 24) = 0 then 0 else 1 : Int32), .int 8, .ref 125] hz 0 0 by
        refine g_if_eq (t := 252) (q := 248) C dX8_reset_245 (by decide) rfl (fun c_245 => ?_) (fun c_245 => ?_)
        · refine g_iconst (v := 0) (q := 253) C dX8_reset_252 (by decide) rfl ?_
          rw [if_pos c_245] at K245
          exact K245
        · refine g_iconst (v := 1) (q := 249) C dX8_reset_248 (by decide) rfl ?_
          refine g_goto (q := 253) C dX8_reset_249 (by decide) ?_
          rw [if_neg c_245] at K245
          exact K245
      refine g_iastoreN (j := 8) (q := 254) C dX8_reset_253 rfl (HZ.ar (i := 2) (n := 9) (by decide) rfl) (pk_in 8 9 (by decide)) (pk_cl 8) ?_
      refine gMsto (i := 2) (j := 8) (x := (if (M1.f 24) = 0 then 0 else 1 : Int32)) HZ (by decide) rfl rfl fun h22 HL22 fr22 => ?_
      refine g_iconst (v := 0) (q := 255) C dX8_reset_254 (by decide) rfl ?_
      refine g_istore_n (q := 256) C dX8_reset_255 (Nat.le_of_ble_eq_true rfl) (by simp only [gset]; rfl) rfl ?_
      have z0 : F.1 = 0 := RZ.1.1.symm.trans c_224
      have eR := r2 z0
      have g0 : (rGs t 4 1 (rHD Q t)).1 = 0 := by
        by_cases n : (rGs t 4 1 (rHD Q t)).1 = 0
        · exact n
        · have n0 : ¬ (((rGs t 4 1 (rHD Q t)).1, ((rGs t 4 1 (rHD Q t)).2, []))).1 = 0 := n
          rw [rH_st n0, rC_st n0, rE_st n0] at hF
          exact absurd (by rw [← hF] at z0; exact z0) n
      obtain ⟨g8, gc⟩ := hG g0
      have hs : ∀ (s : Int32 × (rq × List Int32)), ¬ s.1 = 0 → ¬ (rE t (rC t s)).1 = 0 := fun s n => by rw [rC_st n, rE_st n]; exact n
      have eS : ((rGs t 4 1 (rHD Q t)).1, ((rGs t 4 1 (rHD Q t)).2, [])) = (0, ((rGs t 4 1 (rHD Q t)).2, [])) := by rw [g0]
      have h0 : (rH t c (0, ((rGs t 4 1 (rHD Q t)).2, []))).1 = 0 := by
        by_cases n : (rH t c (0, ((rGs t 4 1 (rHD Q t)).2, []))).1 = 0
        · exact n
        · have := hs _ n
          rw [← eS, hF] at this
          exact absurd z0 this
      obtain ⟨p5, pl, pq⟩ := rH_l (l := []) hl g8 ha1 h0
      have p6 : a1 + c ≤ 96 := by omega
      have eF := rFinQ (t := t) (s := rH t c (0, ((rGs t 4 1 (rHD Q t)).2, []))) h0 (by rw [← eS]; rw [hF]; exact z0)
      rw [← eS, hF] at eF
      have fl : F.2.2 = (List.range c).map (fun i => t.getD (a1 + i) 0) := by rw [eF.2, pl, List.nil_append]
      have fq : ∀ k, ¬ k = 8 → F.2.1.f k = (rGs t 4 1 (rHD Q t)).2.f k := fun k hk => by
        rw [eF.1 k hk, pq]
        by_cases n : c = 0
        · rw [if_pos n]
        · rw [if_neg n]; exact rq.set_n hk
      have ll : F.2.2.length = c := by rw [fl, List.length_map, List.length_range]
      obtain ⟨wd, hw1, hw2, ew⟩ := rGs_5 (t := t) (rT.by TB) (n := 4) (g := 1) (r := rHD Q t) (fun h => by rw [rHDq h]; exact ⟨32, by decide, by decide, rfl⟩) g0
      have ew : F.2.1.f 5 = nI wd := (fq 5 (by decide)).trans ew
      obtain ⟨q1, q2, q3, q4, q5, q6, q7, q8, q9, q10⟩ := (RZ.2 z0).1
      have ew7 : M1.a 2 7 = nI wd := q10.trans ew
      have LL23 : ∀ d j : Nat, j + d = 9 → ∀  (h1 : List gA), gMod h1 ((M1.put 2 8 (if (M1.f 24) = 0 then 0 else 1 : Int32)).arr 1 (gCpy ((M1.put 2 8 (if (M1.f 24) = 0 then 0 else 1 : Int32)).a 1) 0 ((M1.put 2 8 (if (M1.f 24) = 0 then 0 else 1 : Int32)).a 2) 0 j)) → gFM hp h1 → gG X 256 [some (.ref 122), some (.int x2), some (.int ((nI a1))), some (.int ((nI j)))] [] h1 0 0 := by
        intro d
        induction d with
        | zero =>
          intro j hj  h1 HL1_ fr_
          obtain rfl : 9 = j := by omega
          refine g_iload_n (q := 257) C dX8_reset_256 rfl rfl ?_
          refine g_bipush (v := 9) (q := 259) C dX8_reset_257 (by decide) rfl ?_
          rw [show 9 = nI 9 from (rfl).trans rfl]
          refine g_icmp_ge_t (t := 280) C dX8_reset_259 (by decide) (nI_le (Nat.le_refl _) (by omega)) ?_
          refine g_iconst (v := 0) (q := 281) C dX8_reset_280 (by decide) rfl ?_
          refine g_istore_n (q := 282) C dX8_reset_281 (Nat.le_of_ble_eq_true rfl) (by simp only [gset]; rfl) rfl ?_
          have LL24 : ∀ d j : Nat, j + d = c → ∀  (h1 : List gA), gMod h1 (((M1.put 2 8 (if (M1.f 24) = 0 then 0 else 1 : Int32)).arr 1 (gCpy ((M1.put 2 8 (if (M1.f 24) = 0 then 0 else 1 : Int32)).a 1) 0 ((M1.put 2 8 (if (M1.f 24) = 0 then 0 else 1 : Int32)).a 2) 0 9)).arr 3 (gCpy (((M1.put 2 8 (if (M1.f 24) = 0 then 0 else 1 : Int32)).arr 1 (gCpy ((M1.put 2 8 (if (M1.f 24) = 0 then 0 else 1 : Int32)).a 1) 0 ((M1.put 2 8 (if (M1.f 24) = 0 then 0 else 1 : Int32)).a 2) 0 9)).a 3) 0 (((M1.put 2 8 (if (M1.f 24) = 0 then 0 else 1 : Int32)).arr 1 (gCpy ((M1.put 2 8 (if (M1.f 24) = 0 then 0 else 1 : Int32)).a 1) 0 ((M1.put 2 8 (if (M1.f 24) = 0 then 0 else 1 : Int32)).a 2) 0 9)).a 0) a1 j)) → gFM hp h1 → gG X 282 [some (.ref 122), some (.int x2), some (.int ((nI a1))), some (.int ((nI j)))] [] h1 0 0 := by
            intro d
            induction d with
            | zero =>
              intro j hj  h1 HL1_ fr_
              obtain rfl : c = j := by omega
              refine g_iload_n (q := 283) C dX8_reset_282 rfl rfl ?_
              refine g_aload_n (q := 284) C dX8_reset_283 rfl rfl ?_
              refine g_getfield (v := .ref 125) (q := 287) C fX8_16 dX8_reset_284 rfl HL1_.1 rfl ?_
              refine g_bipush (v := 6) (q := 289) C dX8_reset_287 (by decide) rfl ?_
              refine g_ialoadN (x := ((((M1.put 2 8 (if (M1.f 24) = 0 then 0 else 1 : Int32)).arr 1 (gCpy ((M1.put 2 8 (if (M1.f 24) = 0 then 0 else 1 : Int32)).a 1) 0 ((M1.put 2 8 (if (M1.f 24) = 0 then 0 else 1 : Int32)).a 2) 0 9)).arr 3 (gCpy (((M1.put 2 8 (if (M1.f 24) = 0 then 0 else 1 : Int32)).arr 1 (gCpy ((M1.put 2 8 (if (M1.f 24) = 0 then 0 else 1 : Int32)).a 1) 0 ((M1.put 2 8 (if (M1.f 24) = 0 then 0 else 1 : Int32)).a 2) 0 9)).a 3) 0 (((M1.put 2 8 (if (M1.f 24) = 0 then 0 else 1 : Int32)).arr 1 (gCpy ((M1.put 2 8 (if (M1.f 24) = 0 then 0 else 1 : Int32)).a 1) 0 ((M1.put 2 8 (if (M1.f 24) = 0 then 0 else 1 : Int32)).a 2) 0 9)).a 0) a1 c)).a 2 6)) (j := 6) (q := 290) C dX8_reset_289 rfl (HL1_.ar (i := 2) (n := 9) (by decide) rfl) (pk_in 6 9 (by decide)) (pk_cl 6) rfl ?_
              rw [show ((((M1.put 2 8 (if (M1.f 24) = 0 then 0 else 1 : Int32)).arr 1 (gCpy ((M1.put 2 8 (if (M1.f 24) = 0 then 0 else 1 : Int32)).a 1) 0 ((M1.put 2 8 (if (M1.f 24) = 0 then 0 else 1 : Int32)).a 2) 0 9)).arr 3 (gCpy (((M1.put 2 8 (if (M1.f 24) = 0 then 0 else 1 : Int32)).arr 1 (gCpy ((M1.put 2 8 (if (M1.f 24) = 0 then 0 else 1 : Int32)).a 1) 0 ((M1.put 2 8 (if (M1.f 24) = 0 then 0 else 1 : Int32)).a 2) 0 9)).a 3) 0 (((M1.put 2 8 (if (M1.f 24) = 0 then 0 else 1 : Int32)).arr 1 (gCpy ((M1.put 2 8 (if (M1.f 24) = 0 then 0 else 1 : Int32)).a 1) 0 ((M1.put 2 8 (if (M1.f 24) = 0 then 0 else 1 : Int32)).a 2) 0 9)).a 0) a1 c)).a 2 6) = nI c from ((garr_o (by decide))).trans ((show ((M1.put 2 8 (if (M1.f 24) = 0 then 0 else 1 : Int32)).arr 1 (gCpy ((M1.put 2 8 (if (M1.f 24) = 0 then 0 else 1 : Int32)).a 1) 0 ((M1.put 2 8 (if (M1.f 24) = 0 then 0 else 1 : Int32)).a 2) 0 9)).a 2 6 = M1.a 2 6 from rfl).trans d6)]
              refine g_icmp_ge_t (t := 313) C dX8_reset_290 (by decide) (nI_le (Nat.le_refl _) (by omega)) ?_
              obtain ⟨MX, eX⟩ : ∃ MX, MX = (((M1.put 2 8 (if (M1.f 24) = 0 then 0 else 1 : Int32)).arr 1 (gCpy ((M1.put 2 8 (if (M1.f 24) = 0 then 0 else 1 : Int32)).a 1) 0 ((M1.put 2 8 (if (M1.f 24) = 0 then 0 else 1 : Int32)).a 2) 0 9)).arr 3 (gCpy (((M1.put 2 8 (if (M1.f 24) = 0 then 0 else 1 : Int32)).arr 1 (gCpy ((M1.put 2 8 (if (M1.f 24) = 0 then 0 else 1 : Int32)).a 1) 0 ((M1.put 2 8 (if (M1.f 24) = 0 then 0 else 1 : Int32)).a 2) 0 9)).a 3) 0 (((M1.put 2 8 (if (M1.f 24) = 0 then 0 else 1 : Int32)).arr 1 (gCpy ((M1.put 2 8 (if (M1.f 24) = 0 then 0 else 1 : Int32)).a 1) 0 ((M1.put 2 8 (if (M1.f 24) = 0 then 0 else 1 : Int32)).a 2) 0 9)).a 0) a1 c)).set 3 1 := ⟨_, rfl⟩
              have t7 : MX.a 1 7 = nI wd := by rw [eX, ← ew7]; rfl
              have t6 : MX.a 1 6 = nI c := by rw [eX, ← d6]; rfl
              have h3 : ∀ j, j < c → MX.a 3 j = F.2.2.getD j 0 := fun j hj => by
                rw [fl, List.getD_eq_getElem?_getD, List.getElem?_map, List.getElem?_range hj]
                have e3 : MX.a 3 j = M1.a 0 (a1 + j) := by
                  rw [eX]
                  show gCpy _ 0 _ a1 c j = _
                  unfold gCpy
                  rw [if_pos ⟨Nat.zero_le _, by omega⟩, Nat.sub_zero]
                  rfl
                rw [e3, T1.2.2.1 (a1 + j) (by omega)]
                rfl
              have hend : gRs M ((rX8_begins MX).put 4 18 (nI wd)) := ⟨by
                  show MX.f 1 = 0
                  rw [eX]; exact (KZ.1 1 (by decide) (by decide) (by decide) (by decide)).trans f1, Or.inr ⟨MX, wd, c, hw1, hw2, hc15, by rw [eX]; rfl, fun k h1 h2 h3 h20 h21 h22 h23 h24 => by rw [eX, gset_n h3]; exact (KZ.1 k h21 h22 h23 h24).trans (fB k h1 h2 h20 h21 h22 h23 h24), fun i q h1 h2 h3 => by
                    rw [eX]; exact (garr_o h3).trans ((garr_o h1).trans ((gput_o h2).trans ((KZ.2 i q h2).trans (aB i q h2)))), t6, rfl⟩⟩
              have hout : rOut t Q M ((rX8_begins MX).put 4 18 (nI wd)) (nI c) := Or.inr ⟨r1.trans z0, by rw [eR, ll], by show MX.f 3 = 1; rw [eX]; rfl, by
                rw [eR]
                refine rTold.beg (M := MX) ⟨⟨?_, ?_, ?_, ?_, ?_, ?_, by rw [ll]; exact t6, t7.trans ew.symm, ?_⟩, by rw [ll]; exact hc15, fun i hi => h3 i (by rw [ll] at hi; exact hi)⟩
                · rw [eX, ← q4]; rfl
                · rw [eX, ← q5]; rfl
                · rw [eX, ← q6]; rfl
                · rw [eX, ← q7]; rfl
                · rw [eX, ← q8]; rfl
                · rw [eX, ← q9]; rfl
                · rw [eX, ← q3]; rfl⟩
              refine g_aload_n (q := 314) C dX8_reset_313 rfl rfl ?_
              refine g_iconst (v := 1) (q := 315) C dX8_reset_314 (by decide) rfl ?_
              refine g_putfield (q := 318) C fX8_134 dX8_reset_315 rfl HL1_.1 (Nat.le_of_ble_eq_true rfl) (Or.inl rfl) rfl rfl (by intro z h; cases h) ?_
              refine gMput (j := 3) (x := 1) HL1_ rfl fun h25 HL25 fr25 => ?_
              have HX9 := HL25
              rw [← eX] at HX9
              refine g_aload_n (q := 319) C dX8_reset_318 rfl rfl ?_
              refine g_callVvp (q := 322) (As := []) C gyX8_begins gvX8_begins t_1077 (c_X8_begins_m HX9) dX8_reset_319 rfl HX9.1 rfl rfl rfl (Nat.le_of_ble_eq_true rfl) (Nat.le_of_ble_eq_true rfl) (Nat.le_of_ble_eq_true rfl) (Nat.le_of_ble_eq_true rfl) (Nat.le_of_ble_eq_true rfl) rfl (fun h26 z26 => ?_)
              obtain ⟨HL26, fr26⟩ := z26
              refine g_aload_n (q := 323) C dX8_reset_322 rfl rfl ?_
              refine g_getfield (v := .ref 127) (q := 326) C fX8_22 dX8_reset_323 rfl HL26.1 rfl ?_
              refine g_bipush (v := 18) (q := 328) C dX8_reset_326 (by decide) rfl ?_
              refine g_aload_n (q := 329) C dX8_reset_328 rfl rfl ?_
              refine g_getfield (v := .ref 124) (q := 332) C fX8_13 dX8_reset_329 rfl HL26.1 rfl ?_
              refine g_bipush (v := 7) (q := 334) C dX8_reset_332 (by decide) rfl ?_
              refine g_ialoadN (x := ((rX8_begins MX).a 1 7)) (j := 7) (q := 335) C dX8_reset_334 rfl (HL26.ar (i := 1) (n := 9) (by decide) rfl) (pk_in 7 9 (by decide)) (pk_cl 7) rfl ?_
              rw [show ((rX8_begins MX).a 1 7) = nI wd from t7]
              refine g_iastoreN (j := 18) (q := 336) C dX8_reset_335 rfl (HL26.ar (i := 4) (n := 772) (by decide) rfl) (pk_in 18 772 (by decide)) (pk_cl 18) ?_
              refine gMsto (i := 4) (j := 18) (x := (nI wd)) HL26 (by decide) rfl rfl fun h27 HL27 fr27 => ?_
              refine g_aload_n (q := 337) C dX8_reset_336 rfl rfl ?_
              refine g_getfield (v := .ref 124) (q := 340) C fX8_13 dX8_reset_337 rfl HL27.1 rfl ?_
              refine g_bipush (v := 6) (q := 342) C dX8_reset_340 (by decide) rfl ?_
              refine g_ialoadN (x := ((rX8_begins MX).a 1 6)) (j := 6) (q := 343) C dX8_reset_342 rfl (HL27.ar (i := 1) (n := 9) (by decide) rfl) (pk_in 6 9 (by decide)) (pk_cl 6) (gput_o (by decide)) ?_
              rw [show ((rX8_begins MX).a 1 6) = nI c from t6]
              exact E.1 _ _ _ _ _ _ _ dX8_reset_343 rfl rfl (Nat.le_of_ble_eq_true rfl) (Nat.le_of_ble_eq_true rfl) ⟨_, rfl, _, HL27, (gFM.trans (gFM.trans (gFM.trans fr_ fr25) fr26) fr27), hend, hout⟩
              
              
            | succ d ih =>
              intro j hj  h1 HL1_ fr_
              refine g_iload_n (q := 283) C dX8_reset_282 rfl rfl ?_
              refine g_aload_n (q := 284) C dX8_reset_283 rfl rfl ?_
              refine g_getfield (v := .ref 125) (q := 287) C fX8_16 dX8_reset_284 rfl HL1_.1 rfl ?_
              refine g_bipush (v := 6) (q := 289) C dX8_reset_287 (by decide) rfl ?_
              refine g_ialoadN (x := ((((M1.put 2 8 (if (M1.f 24) = 0 then 0 else 1 : Int32)).arr 1 (gCpy ((M1.put 2 8 (if (M1.f 24) = 0 then 0 else 1 : Int32)).a 1) 0 ((M1.put 2 8 (if (M1.f 24) = 0 then 0 else 1 : Int32)).a 2) 0 9)).arr 3 (gCpy (((M1.put 2 8 (if (M1.f 24) = 0 then 0 else 1 : Int32)).arr 1 (gCpy ((M1.put 2 8 (if (M1.f 24) = 0 then 0 else 1 : Int32)).a 1) 0 ((M1.put 2 8 (if (M1.f 24) = 0 then 0 else 1 : Int32)).a 2) 0 9)).a 3) 0 (((M1.put 2 8 (if (M1.f 24) = 0 then 0 else 1 : Int32)).arr 1 (gCpy ((M1.put 2 8 (if (M1.f 24) = 0 then 0 else 1 : Int32)).a 1) 0 ((M1.put 2 8 (if (M1.f 24) = 0 then 0 else 1 : Int32)).a 2) 0 9)).a 0) a1 j)).a 2 6)) (j := 6) (q := 290) C dX8_reset_289 rfl (HL1_.ar (i := 2) (n := 9) (by decide) rfl) (pk_in 6 9 (by decide)) (pk_cl 6) rfl ?_
              rw [show ((((M1.put 2 8 (if (M1.f 24) = 0 then 0 else 1 : Int32)).arr 1 (gCpy ((M1.put 2 8 (if (M1.f 24) = 0 then 0 else 1 : Int32)).a 1) 0 ((M1.put 2 8 (if (M1.f 24) = 0 then 0 else 1 : Int32)).a 2) 0 9)).arr 3 (gCpy (((M1.put 2 8 (if (M1.f 24) = 0 then 0 else 1 : Int32)).arr 1 (gCpy ((M1.put 2 8 (if (M1.f 24) = 0 then 0 else 1 : Int32)).a 1) 0 ((M1.put 2 8 (if (M1.f 24) = 0 then 0 else 1 : Int32)).a 2) 0 9)).a 3) 0 (((M1.put 2 8 (if (M1.f 24) = 0 then 0 else 1 : Int32)).arr 1 (gCpy ((M1.put 2 8 (if (M1.f 24) = 0 then 0 else 1 : Int32)).a 1) 0 ((M1.put 2 8 (if (M1.f 24) = 0 then 0 else 1 : Int32)).a 2) 0 9)).a 0) a1 j)).a 2 6) = nI c from ((garr_o (by decide))).trans ((show ((M1.put 2 8 (if (M1.f 24) = 0 then 0 else 1 : Int32)).arr 1 (gCpy ((M1.put 2 8 (if (M1.f 24) = 0 then 0 else 1 : Int32)).a 1) 0 ((M1.put 2 8 (if (M1.f 24) = 0 then 0 else 1 : Int32)).a 2) 0 9)).a 2 6 = M1.a 2 6 from rfl).trans d6)]
              refine g_icmp_ge_f (t := 313) (q := 293) C dX8_reset_290 (by decide) rfl (fun h => nI_ge (show j < c by omega) (by omega) h) ?_
              refine g_aload_n (q := 294) C dX8_reset_293 rfl rfl ?_
              refine g_getfield (v := .ref 126) (q := 297) C fX8_19 dX8_reset_294 rfl HL1_.1 rfl ?_
              refine g_iload_n (q := 298) C dX8_reset_297 rfl rfl ?_
              refine g_aload_n (q := 299) C dX8_reset_298 rfl rfl ?_
              refine g_getfield (v := .ref 123) (q := 302) C fX8_7 dX8_reset_299 rfl HL1_.1 rfl ?_
              refine g_iload_n (q := 303) C dX8_reset_302 rfl rfl ?_
              refine g_iload_n (q := 304) C dX8_reset_303 rfl rfl ?_
              refine g_iadd (q := 305) C dX8_reset_304 rfl ?_
              refine g_ialoadN (x := ((((M1.put 2 8 (if (M1.f 24) = 0 then 0 else 1 : Int32)).arr 1 (gCpy ((M1.put 2 8 (if (M1.f 24) = 0 then 0 else 1 : Int32)).a 1) 0 ((M1.put 2 8 (if (M1.f 24) = 0 then 0 else 1 : Int32)).a 2) 0 9)).arr 3 (gCpy (((M1.put 2 8 (if (M1.f 24) = 0 then 0 else 1 : Int32)).arr 1 (gCpy ((M1.put 2 8 (if (M1.f 24) = 0 then 0 else 1 : Int32)).a 1) 0 ((M1.put 2 8 (if (M1.f 24) = 0 then 0 else 1 : Int32)).a 2) 0 9)).a 3) 0 (((M1.put 2 8 (if (M1.f 24) = 0 then 0 else 1 : Int32)).arr 1 (gCpy ((M1.put 2 8 (if (M1.f 24) = 0 then 0 else 1 : Int32)).a 1) 0 ((M1.put 2 8 (if (M1.f 24) = 0 then 0 else 1 : Int32)).a 2) 0 9)).a 0) a1 j)).a 0 (a1 + j))) (j := (a1 + j)) (q := 306) C dX8_reset_305 rfl (HL1_.ar (i := 0) (n := 96) (by decide) rfl) (pk_in (a1 + j) 96 (by omega) (nI_add a1 j)) (pk_cl (a1 + j) (nI_add a1 j) (by omega)) rfl ?_
              refine g_iastoreN (j := j) (q := 307) C dX8_reset_306 rfl (HL1_.ar (i := 3) (n := 15) (by decide) rfl) (pk_in j 15 (by omega)) (pk_cl j rfl (by omega)) ?_
              refine gMsto (i := 3) (j := j) (x := ((((M1.put 2 8 (if (M1.f 24) = 0 then 0 else 1 : Int32)).arr 1 (gCpy ((M1.put 2 8 (if (M1.f 24) = 0 then 0 else 1 : Int32)).a 1) 0 ((M1.put 2 8 (if (M1.f 24) = 0 then 0 else 1 : Int32)).a 2) 0 9)).arr 3 (gCpy (((M1.put 2 8 (if (M1.f 24) = 0 then 0 else 1 : Int32)).arr 1 (gCpy ((M1.put 2 8 (if (M1.f 24) = 0 then 0 else 1 : Int32)).a 1) 0 ((M1.put 2 8 (if (M1.f 24) = 0 then 0 else 1 : Int32)).a 2) 0 9)).a 3) 0 (((M1.put 2 8 (if (M1.f 24) = 0 then 0 else 1 : Int32)).arr 1 (gCpy ((M1.put 2 8 (if (M1.f 24) = 0 then 0 else 1 : Int32)).a 1) 0 ((M1.put 2 8 (if (M1.f 24) = 0 then 0 else 1 : Int32)).a 2) 0 9)).a 0) a1 j)).a 0 (a1 + j))) HL1_ (by decide) rfl rfl fun h28 HL28 fr28 => ?_
              refine g_iinc (v := (nI (j + 1))) (q := 310) C dX8_reset_307 rfl (nI_1 j) (by simp only [gset]; rfl) rfl ?_
              have e9 : (((M1.put 2 8 (if (M1.f 24) = 0 then 0 else 1 : Int32)).arr 1 (gCpy ((M1.put 2 8 (if (M1.f 24) = 0 then 0 else 1 : Int32)).a 1) 0 ((M1.put 2 8 (if (M1.f 24) = 0 then 0 else 1 : Int32)).a 2) 0 9)).arr 3 (gCpy (((M1.put 2 8 (if (M1.f 24) = 0 then 0 else 1 : Int32)).arr 1 (gCpy ((M1.put 2 8 (if (M1.f 24) = 0 then 0 else 1 : Int32)).a 1) 0 ((M1.put 2 8 (if (M1.f 24) = 0 then 0 else 1 : Int32)).a 2) 0 9)).a 3) 0 (((M1.put 2 8 (if (M1.f 24) = 0 then 0 else 1 : Int32)).arr 1 (gCpy ((M1.put 2 8 (if (M1.f 24) = 0 then 0 else 1 : Int32)).a 1) 0 ((M1.put 2 8 (if (M1.f 24) = 0 then 0 else 1 : Int32)).a 2) 0 9)).a 0) a1 j)).put 3 (0 + j) ((((M1.put 2 8 (if (M1.f 24) = 0 then 0 else 1 : Int32)).arr 1 (gCpy ((M1.put 2 8 (if (M1.f 24) = 0 then 0 else 1 : Int32)).a 1) 0 ((M1.put 2 8 (if (M1.f 24) = 0 then 0 else 1 : Int32)).a 2) 0 9)).arr 3 (gCpy (((M1.put 2 8 (if (M1.f 24) = 0 then 0 else 1 : Int32)).arr 1 (gCpy ((M1.put 2 8 (if (M1.f 24) = 0 then 0 else 1 : Int32)).a 1) 0 ((M1.put 2 8 (if (M1.f 24) = 0 then 0 else 1 : Int32)).a 2) 0 9)).a 3) 0 (((M1.put 2 8 (if (M1.f 24) = 0 then 0 else 1 : Int32)).arr 1 (gCpy ((M1.put 2 8 (if (M1.f 24) = 0 then 0 else 1 : Int32)).a 1) 0 ((M1.put 2 8 (if (M1.f 24) = 0 then 0 else 1 : Int32)).a 2) 0 9)).a 0) a1 j)).a 0 (a1 + j)) = (((M1.put 2 8 (if (M1.f 24) = 0 then 0 else 1 : Int32)).arr 1 (gCpy ((M1.put 2 8 (if (M1.f 24) = 0 then 0 else 1 : Int32)).a 1) 0 ((M1.put 2 8 (if (M1.f 24) = 0 then 0 else 1 : Int32)).a 2) 0 9)).arr 3 (gCpy (((M1.put 2 8 (if (M1.f 24) = 0 then 0 else 1 : Int32)).arr 1 (gCpy ((M1.put 2 8 (if (M1.f 24) = 0 then 0 else 1 : Int32)).a 1) 0 ((M1.put 2 8 (if (M1.f 24) = 0 then 0 else 1 : Int32)).a 2) 0 9)).a 3) 0 (((M1.put 2 8 (if (M1.f 24) = 0 then 0 else 1 : Int32)).arr 1 (gCpy ((M1.put 2 8 (if (M1.f 24) = 0 then 0 else 1 : Int32)).a 1) 0 ((M1.put 2 8 (if (M1.f 24) = 0 then 0 else 1 : Int32)).a 2) 0 9)).a 0) a1 (j + 1))) := garr_cp (by show (((M1.put 2 8 (if (M1.f 24) = 0 then 0 else 1 : Int32)).arr 1 (gCpy ((M1.put 2 8 (if (M1.f 24) = 0 then 0 else 1 : Int32)).a 1) 0 ((M1.put 2 8 (if (M1.f 24) = 0 then 0 else 1 : Int32)).a 2) 0 9)).arr 3 (gCpy (((M1.put 2 8 (if (M1.f 24) = 0 then 0 else 1 : Int32)).arr 1 (gCpy ((M1.put 2 8 (if (M1.f 24) = 0 then 0 else 1 : Int32)).a 1) 0 ((M1.put 2 8 (if (M1.f 24) = 0 then 0 else 1 : Int32)).a 2) 0 9)).a 3) 0 (((M1.put 2 8 (if (M1.f 24) = 0 then 0 else 1 : Int32)).arr 1 (gCpy ((M1.put 2 8 (if (M1.f 24) = 0 then 0 else 1 : Int32)).a 1) 0 ((M1.put 2 8 (if (M1.f 24) = 0 then 0 else 1 : Int32)).a 2) 0 9)).a 0) a1 j)).a 0 _ = _; rw [(garr_o (by decide))])
              have HL9 : gMod h28 (((M1.put 2 8 (if (M1.f 24) = 0 then 0 else 1 : Int32)).arr 1 (gCpy ((M1.put 2 8 (if (M1.f 24) = 0 then 0 else 1 : Int32)).a 1) 0 ((M1.put 2 8 (if (M1.f 24) = 0 then 0 else 1 : Int32)).a 2) 0 9)).arr 3 (gCpy (((M1.put 2 8 (if (M1.f 24) = 0 then 0 else 1 : Int32)).arr 1 (gCpy ((M1.put 2 8 (if (M1.f 24) = 0 then 0 else 1 : Int32)).a 1) 0 ((M1.put 2 8 (if (M1.f 24) = 0 then 0 else 1 : Int32)).a 2) 0 9)).a 3) 0 (((M1.put 2 8 (if (M1.f 24) = 0 then 0 else 1 : Int32)).arr 1 (gCpy ((M1.put 2 8 (if (M1.f 24) = 0 then 0 else 1 : Int32)).a 1) 0 ((M1.put 2 8 (if (M1.f 24) = 0 then 0 else 1 : Int32)).a 2) 0 9)).a 0) a1 (j + 1))) := by rw [← e9, Nat.zero_add]; exact HL28
              refine g_goto (q := 282) C dX8_reset_310 (by decide) ?_
              exact ih (j + 1) (by omega)  h28 HL9 (gFM.trans fr_ fr28)
          have HL8 : gMod h1 (((M1.put 2 8 (if (M1.f 24) = 0 then 0 else 1 : Int32)).arr 1 (gCpy ((M1.put 2 8 (if (M1.f 24) = 0 then 0 else 1 : Int32)).a 1) 0 ((M1.put 2 8 (if (M1.f 24) = 0 then 0 else 1 : Int32)).a 2) 0 9)).arr 3 (gCpy (((M1.put 2 8 (if (M1.f 24) = 0 then 0 else 1 : Int32)).arr 1 (gCpy ((M1.put 2 8 (if (M1.f 24) = 0 then 0 else 1 : Int32)).a 1) 0 ((M1.put 2 8 (if (M1.f 24) = 0 then 0 else 1 : Int32)).a 2) 0 9)).a 3) 0 (((M1.put 2 8 (if (M1.f 24) = 0 then 0 else 1 : Int32)).arr 1 (gCpy ((M1.put 2 8 (if (M1.f 24) = 0 then 0 else 1 : Int32)).a 1) 0 ((M1.put 2 8 (if (M1.f 24) = 0 then 0 else 1 : Int32)).a 2) 0 9)).a 0) a1 0)) := by rw [garr_0]; exact HL1_
          exact LL24 (c - 0) 0 (by omega)  h1 HL8 fr_
          
        | succ d ih =>
          intro j hj  h1 HL1_ fr_
          refine g_iload_n (q := 257) C dX8_reset_256 rfl rfl ?_
          refine g_bipush (v := 9) (q := 259) C dX8_reset_257 (by decide) rfl ?_
          rw [show 9 = nI 9 from (rfl).trans rfl]
          refine g_icmp_ge_f (t := 280) (q := 262) C dX8_reset_259 (by decide) rfl (fun h => nI_ge (show j < 9 by omega) (by omega) h) ?_
          refine g_aload_n (q := 263) C dX8_reset_262 rfl rfl ?_
          refine g_getfield (v := .ref 124) (q := 266) C fX8_13 dX8_reset_263 rfl HL1_.1 rfl ?_
          refine g_iload_n (q := 267) C dX8_reset_266 rfl rfl ?_
          refine g_aload_n (q := 268) C dX8_reset_267 rfl rfl ?_
          refine g_getfield (v := .ref 125) (q := 271) C fX8_16 dX8_reset_268 rfl HL1_.1 rfl ?_
          refine g_iload_n (q := 272) C dX8_reset_271 rfl rfl ?_
          refine g_ialoadN (x := (((M1.put 2 8 (if (M1.f 24) = 0 then 0 else 1 : Int32)).arr 1 (gCpy ((M1.put 2 8 (if (M1.f 24) = 0 then 0 else 1 : Int32)).a 1) 0 ((M1.put 2 8 (if (M1.f 24) = 0 then 0 else 1 : Int32)).a 2) 0 j)).a 2 j)) (j := j) (q := 273) C dX8_reset_272 rfl (HL1_.ar (i := 2) (n := 9) (by decide) rfl) (pk_in j 9 (by omega)) (pk_cl j rfl (by omega)) rfl ?_
          refine g_iastoreN (j := j) (q := 274) C dX8_reset_273 rfl (HL1_.ar (i := 1) (n := 9) (by decide) rfl) (pk_in j 9 (by omega)) (pk_cl j rfl (by omega)) ?_
          refine gMsto (i := 1) (j := j) (x := (((M1.put 2 8 (if (M1.f 24) = 0 then 0 else 1 : Int32)).arr 1 (gCpy ((M1.put 2 8 (if (M1.f 24) = 0 then 0 else 1 : Int32)).a 1) 0 ((M1.put 2 8 (if (M1.f 24) = 0 then 0 else 1 : Int32)).a 2) 0 j)).a 2 j)) HL1_ (by decide) rfl rfl fun h29 HL29 fr29 => ?_
          refine g_iinc (v := (nI (j + 1))) (q := 277) C dX8_reset_274 rfl (nI_1 j) (by simp only [gset]; rfl) rfl ?_
          have e9 : ((M1.put 2 8 (if (M1.f 24) = 0 then 0 else 1 : Int32)).arr 1 (gCpy ((M1.put 2 8 (if (M1.f 24) = 0 then 0 else 1 : Int32)).a 1) 0 ((M1.put 2 8 (if (M1.f 24) = 0 then 0 else 1 : Int32)).a 2) 0 j)).put 1 (0 + j) (((M1.put 2 8 (if (M1.f 24) = 0 then 0 else 1 : Int32)).arr 1 (gCpy ((M1.put 2 8 (if (M1.f 24) = 0 then 0 else 1 : Int32)).a 1) 0 ((M1.put 2 8 (if (M1.f 24) = 0 then 0 else 1 : Int32)).a 2) 0 j)).a 2 j) = ((M1.put 2 8 (if (M1.f 24) = 0 then 0 else 1 : Int32)).arr 1 (gCpy ((M1.put 2 8 (if (M1.f 24) = 0 then 0 else 1 : Int32)).a 1) 0 ((M1.put 2 8 (if (M1.f 24) = 0 then 0 else 1 : Int32)).a 2) 0 (j + 1))) := garr_cp (by show ((M1.put 2 8 (if (M1.f 24) = 0 then 0 else 1 : Int32)).arr 1 (gCpy ((M1.put 2 8 (if (M1.f 24) = 0 then 0 else 1 : Int32)).a 1) 0 ((M1.put 2 8 (if (M1.f 24) = 0 then 0 else 1 : Int32)).a 2) 0 j)).a 2 _ = _; rw [(garr_o (by decide))]; rw [Nat.zero_add])
          have HL9 : gMod h29 ((M1.put 2 8 (if (M1.f 24) = 0 then 0 else 1 : Int32)).arr 1 (gCpy ((M1.put 2 8 (if (M1.f 24) = 0 then 0 else 1 : Int32)).a 1) 0 ((M1.put 2 8 (if (M1.f 24) = 0 then 0 else 1 : Int32)).a 2) 0 (j + 1))) := by rw [← e9, Nat.zero_add]; exact HL29
          refine g_goto (q := 256) C dX8_reset_277 (by decide) ?_
          exact ih (j + 1) (by omega)  h29 HL9 (gFM.trans fr_ fr29)
      have HL8 : gMod h22 ((M1.put 2 8 (if (M1.f 24) = 0 then 0 else 1 : Int32)).arr 1 (gCpy ((M1.put 2 8 (if (M1.f 24) = 0 then 0 else 1 : Int32)).a 1) 0 ((M1.put 2 8 (if (M1.f 24) = 0 then 0 else 1 : Int32)).a 2) 0 0)) := by rw [garr_0]; exact HL22
      exact LL23 (9 - 0) 0 (by omega)  h22 HL8 (gFM.trans frz fr22)
      
    ·
      refine g_bipush (v := (-2)) (q := 229) C dX8_reset_227 (by decide) rfl ?_
      refine g_aload_n (q := 230) C dX8_reset_229 rfl rfl ?_
      refine g_getfield (v := .int ((M1.f 22))) (q := 233) C fX8_86 dX8_reset_230 rfl HZ.1 rfl ?_
      refine g_isub (q := 234) C dX8_reset_233 rfl ?_
      have nz : ¬ F.1 = 0 := fun h => c_224 (RZ.1.1.trans h)
      exact E.1 _ _ _ _ _ _ _ dX8_reset_234 rfl rfl (Nat.le_of_ble_eq_true rfl) (Nat.le_of_ble_eq_true rfl) ⟨_, rfl, _, HZ, frz, ⟨by rw [KZ.1 1 (by decide) (by decide) (by decide) (by decide)]; exact f1, Or.inl ⟨fun k h1 h2 h20 h21 h22 h23 h24 => (KZ.1 k h21 h22 h23 h24).trans (fB k h1 h2 h20 h21 h22 h23 h24), fun i q h => (KZ.2 i q h).trans (aB i q h)⟩⟩, Or.inl ⟨by rw [r1]; exact nz, by rw [r1, ← show M1.f 22 = F.1 from RZ.1.1], (KZ.1 3 (by decide) (by decide) (by decide) (by decide)).trans (fB 3 (by decide) (by decide) (by decide) (by decide) (by decide) (by decide) (by decide)), fun i q h => (KZ.2 i q (by omega)).trans (aB i q (by omega))⟩⟩
  have J192 : ∀ (x2 : Int32) (a1 c : Nat) (k3 : Int32) (M1 : gMd) (hz : List gA), a1 ≤ t.length → c ≤ 15 → ((rGs t 4 1 (rHD Q t)).1 = 0 → (rGs t 4 1 (rHD Q t)).2.f 8 = nI a1 ∧ (gat t 1 &&& 15).toNatClampNeg = c) → gMod hz M1 → gFM hp hz → rK MB M1 → M1.a 2 6 = nI c → rM t M1 ((rC t (rH t c ((rGs t 4 1 (rHD Q t)).1, ((rGs t 4 1 (rHD Q t)).2, [])))).1, (rC t (rH t c ((rGs t 4 1 (rHD Q t)).1, ((rGs t 4 1 (rHD Q t)).2, [])))).2.1) → gG X 192 [some (.ref 122), some (.int x2), some (.int ((nI a1))), some (.int k3)] [] hz 0 0 := by
    intro x2 a1 c k3 M1 hz ha1 hc15 hG HZ frz KZ d6 RZ
    have T1 := TB.k KZ
    refine g_aload_n (q := 193) C dX8_reset_192 rfl rfl ?_
    refine g_getfield (v := .int ((M1.f 22))) (q := 196) C fX8_86 dX8_reset_193 rfl HZ.1 rfl ?_
    refine g_if_ne (t := 220) (q := 199) C dX8_reset_196 (by decide) rfl (fun c_196 => ?_) (fun c_196 => ?_)
    ·
      exact J220 x2 a1 c k3 _ _ ha1 hc15 hG HZ frz KZ d6 (by rw [rE0 RZ c_196]; exact RZ)
    ·
      refine g_aload_n (q := 200) C dX8_reset_199 rfl rfl ?_
      refine g_getfield (v := .int ((M1.f 21))) (q := 203) C fX8_89 dX8_reset_200 rfl HZ.1 rfl ?_
      refine g_aload_n (q := 204) C dX8_reset_203 rfl rfl ?_
      refine g_getfield (v := .int ((M1.f 20))) (q := 207) C fX8_92 dX8_reset_204 rfl HZ.1 rfl ?_
      refine g_icmp_ge (t := 220) (q := 210) C dX8_reset_207 (by decide) rfl (fun c_207 => ?_) (fun c_207 => ?_)
      ·
        exact J220 x2 a1 c k3 _ _ ha1 hc15 hG HZ frz KZ d6 (by rw [rE1 T1 RZ c_196 c_207]; exact RZ)
      ·
        refine g_aload_n (q := 211) C dX8_reset_210 rfl rfl ?_
        refine g_bipush (v := 7) (q := 213) C dX8_reset_211 (by decide) rfl ?_
        refine g_aload_n (q := 214) C dX8_reset_213 rfl rfl ?_
        refine g_getfield (v := .int ((M1.f 21))) (q := 217) C fX8_89 dX8_reset_214 rfl HZ.1 rfl ?_
        refine g_callVvp (q := 220) (As := [.int 7, .int ((M1.f 21))]) C gyX8_wrong gvX8_wrong t_1222 (c_X8_wrong_m HZ) dX8_reset_217 rfl HZ.1 rfl rfl rfl (Nat.le_of_ble_eq_true rfl) (Nat.le_of_ble_eq_true rfl) (Nat.le_of_ble_eq_true rfl) (Nat.le_of_ble_eq_true rfl) (Nat.le_of_ble_eq_true rfl) rfl (fun h30 z30 => ?_)
        obtain ⟨HL30, fr30⟩ := z30
        exact J220 x2 a1 c k3 _ _ ha1 hc15 hG HL30 (gFM.trans frz fr30) (KZ.trans rK.wr) (gWr.a.trans d6) (rE2 T1 RZ c_196 c_207)
  have LL : ∀ (x2 : Int32) (a1 c : Nat), a1 ≤ t.length → c ≤ 15 → ((rGs t 4 1 (rHD Q t)).1 = 0 → (rGs t 4 1 (rHD Q t)).2.f 8 = nI a1 ∧ (gat t 1 &&& 15).toNatClampNeg = c) → ∀ d j : Nat, j + d = c → ∀ (s : Int32 × (rq × List Int32)) (M1 : gMd) (hz : List gA), rH t d s = rH t c ((rGs t 4 1 (rHD Q t)).1, ((rGs t 4 1 (rHD Q t)).2, [])) → gMod hz M1 → gFM hp hz → rK MB M1 → M1.a 2 6 = nI c → rM t M1 (s.1, s.2.1) → gG X 159 [some (.ref 122), some (.int x2), some (.int ((nI a1))), some (.int ((nI j)))] [] hz 0 0 := by
    intro x2 a1 c ha1 hc15 hG d
    induction d with
    | zero =>
      intro j hj s M1 hz hs HZ frz KZ d6 RZ
      have T1 := TB.k KZ
      obtain rfl : c = j := by omega
      have hs : s = rH t c ((rGs t 4 1 (rHD Q t)).1, ((rGs t 4 1 (rHD Q t)).2, [])) := hs
      refine g_iload_n (q := 160) C dX8_reset_159 rfl rfl ?_
      refine g_aload_n (q := 161) C dX8_reset_160 rfl rfl ?_
      refine g_getfield (v := .ref 125) (q := 164) C fX8_16 dX8_reset_161 rfl HZ.1 rfl ?_
      refine g_bipush (v := 6) (q := 166) C dX8_reset_164 (by decide) rfl ?_
      refine g_ialoadN (x := (M1.a 2 6)) (j := 6) (q := 167) C dX8_reset_166 rfl (HZ.ar (i := 2) (n := 9) (by decide) rfl) (pk_in 6 9 (by decide)) (pk_cl 6) rfl ?_
      rw [show (M1.a 2 6) = nI c from d6]
      refine g_icmp_ge_t (t := 181) C dX8_reset_167 (by decide) (nI_le (Nat.le_refl _) (by omega)) ?_
      refine g_aload_n (q := 182) C dX8_reset_181 rfl rfl ?_
      refine g_getfield (v := .int ((M1.f 24))) (q := 185) C fX8_123 dX8_reset_182 rfl HZ.1 rfl ?_
      refine g_if_eq (t := 192) (q := 188) C dX8_reset_185 (by decide) rfl (fun c_185 => ?_) (fun c_185 => ?_)
      ·
        exact J192 x2 a1 c _ _ _ ha1 hc15 hG HZ frz KZ d6 (by rw [← hs, rC0 RZ c_185]; exact RZ)
      ·
        refine g_aload_n (q := 189) C dX8_reset_188 rfl rfl ?_
        refine g_callVvp (q := 192) (As := []) C gyX8_checks gvX8_checks t_1248 (c_X8_checksx_r (t := t) (r := (s.1, s.2.1)) HZ T1 RZ) dX8_reset_189 rfl HZ.1 rfl rfl rfl (Nat.le_of_ble_eq_true rfl) (Nat.le_of_ble_eq_true rfl) (Nat.le_of_ble_eq_true rfl) (Nat.le_of_ble_eq_true rfl) (Nat.le_of_ble_eq_true rfl) rfl (fun h31 z31 => ?_)
        obtain ⟨N31, HN31, fn31, K31, an31, RN31⟩ := z31
        exact J192 x2 a1 c _ _ _ ha1 hc15 hG HN31 (gFM.trans frz fn31) (KZ.trans K31) ((an31 2 6).trans d6) (by rw [← hs, rC1 RZ c_185]; exact RN31)
    | succ d ih =>
      intro j hj s M1 hz hs HZ frz KZ d6 RZ
      have T1 := TB.k KZ
      have hzn := RZ.hz T1
      refine g_iload_n (q := 160) C dX8_reset_159 rfl rfl ?_
      refine g_aload_n (q := 161) C dX8_reset_160 rfl rfl ?_
      refine g_getfield (v := .ref 125) (q := 164) C fX8_16 dX8_reset_161 rfl HZ.1 rfl ?_
      refine g_bipush (v := 6) (q := 166) C dX8_reset_164 (by decide) rfl ?_
      refine g_ialoadN (x := (M1.a 2 6)) (j := 6) (q := 167) C dX8_reset_166 rfl (HZ.ar (i := 2) (n := 9) (by decide) rfl) (pk_in 6 9 (by decide)) (pk_cl 6) rfl ?_
      rw [show (M1.a 2 6) = nI c from d6]
      refine g_icmp_ge_f (t := 181) (q := 170) C dX8_reset_167 (by decide) rfl (fun h => nI_ge (show j < c by omega) (by omega) h) ?_
      refine g_aload_n (q := 171) C dX8_reset_170 rfl rfl ?_
      refine g_callVip (q := 174) (As := []) C gyX8_byteNext gvX8_byteNext t_1218 (c_X8_byteNext_r HZ hzn) dX8_reset_171 rfl HZ.1 rfl rfl rfl (Nat.le_of_ble_eq_true rfl) (Nat.le_of_ble_eq_true rfl) (Nat.le_of_ble_eq_true rfl) (Nat.le_of_ble_eq_true rfl) (Nat.le_of_ble_eq_true rfl) rfl (fun x32 h32 z32 => ?_)
      obtain ⟨N32, HN32, fn32, bn32⟩ := z32
      refine g_pop (q := 175) C dX8_reset_174 rfl rfl ?_
      refine g_iinc (v := (nI (j + 1))) (q := 178) C dX8_reset_175 rfl (nI_1 j) (by simp only [gset]; rfl) rfl ?_
      refine g_goto (q := 159) C dX8_reset_178 (by decide) ?_
      exact ih (j + 1) (by omega) _ _ _ (rH_s.symm.trans hs) HN32 (gFM.trans frz fn32) (KZ.trans (rK.bn bn32)) ((bn32.a 2 6).trans d6) (rHst T1 RZ bn32)
  have J129 : ∀ (D0 : gMd) (hz : List gA), gMod hz D0 → gFM hp hz → D0 = nH N20 x20 → gG X 129 [some (.ref 122), some (.int 9), none, none] [] hz 0 0 := by
    intro D0 hz HZ frz eD
    refine g_aload_n (q := 130) C dX8_reset_129 rfl rfl ?_
    refine g_callVip (q := 133) (As := []) C gyX8_byteNext gvX8_byteNext t_1218 (c_X8_byteNext_r HZ (by rw [eD]; exact B.hz2 bn20)) dX8_reset_130 rfl HZ.1 rfl rfl rfl (Nat.le_of_ble_eq_true rfl) (Nat.le_of_ble_eq_true rfl) (Nat.le_of_ble_eq_true rfl) (Nat.le_of_ble_eq_true rfl) (Nat.le_of_ble_eq_true rfl) rfl (fun x33 h33 z33 => ?_)
    obtain ⟨N33, HN33, fn33, bn33⟩ := z33
    rw [eD] at bn33
    obtain ⟨RH, ex1, ex0⟩ := rHd (Q := Q) B bn20 bn33
    have KH := ((rK.bn bn20).trans (nH.k (N1 := N20) (x1 := x20))).trans (rK.bn bn33)
    refine g_istore_n (q := 134) C dX8_reset_133 (Nat.le_of_ble_eq_true rfl) (by simp only [gset]; rfl) rfl ?_
    refine g_aload_n (q := 135) C dX8_reset_134 rfl rfl ?_
    refine g_iload_n (q := 136) C dX8_reset_135 rfl rfl ?_
    refine g_iconst (v := 4) (q := 137) C dX8_reset_136 (by decide) rfl ?_
    refine g_ishr (q := 138) C dX8_reset_137 rfl ?_
    refine g_callVvp (q := 141) (As := [.int ((x33 >>> (4 &&& 31)))]) C gyX8_groupsTold gvX8_groupsTold t_1226 (c_X8_groupsToldx_r (t := t) (r := rHD Q t) HN33 (TB.k KH) RH (fun h => ⟨by rw [ex1 h, rHDq h]; rfl, rShr (by rw [ex1 h]; exact rT.by TB 1), by rw [rHDq h]; rfl, by rw [rHDq h]; rfl⟩)) dX8_reset_138 rfl HN33.1 rfl rfl rfl (Nat.le_of_ble_eq_true rfl) (Nat.le_of_ble_eq_true rfl) (Nat.le_of_ble_eq_true rfl) (Nat.le_of_ble_eq_true rfl) (Nat.le_of_ble_eq_true rfl) rfl (fun h34 z34 => ?_)
    obtain ⟨N34, HN34, fn34, K34, RG⟩ := z34
    refine g_aload_n (q := 142) C dX8_reset_141 rfl rfl ?_
    refine g_getfield (v := .ref 125) (q := 145) C fX8_16 dX8_reset_142 rfl HN34.1 rfl ?_
    refine g_bipush (v := 6) (q := 147) C dX8_reset_145 (by decide) rfl ?_
    refine g_iload_n (q := 148) C dX8_reset_147 rfl rfl ?_
    refine g_bipush (v := 15) (q := 150) C dX8_reset_148 (by decide) rfl ?_
    refine g_iand (q := 151) C dX8_reset_150 rfl ?_
    refine g_iastoreN (j := 6) (q := 152) C dX8_reset_151 rfl (HN34.ar (i := 2) (n := 9) (by decide) rfl) (pk_in 6 9 (by decide)) (pk_cl 6) ?_
    refine gMsto (i := 2) (j := 6) (x := (x33 &&& 15)) HN34 (by decide) rfl rfl fun h35 HL35 fr35 => ?_
    refine g_aload_n (q := 153) C dX8_reset_152 rfl rfl ?_
    refine g_getfield (v := .int ((N34.f 21))) (q := 156) C fX8_89 dX8_reset_153 rfl HL35.1 rfl ?_
    refine g_istore_n (q := 157) C dX8_reset_156 (Nat.le_of_ble_eq_true rfl) (by simp only [gset]; rfl) rfl ?_
    refine g_iconst (v := 0) (q := 158) C dX8_reset_157 (by decide) rfl ?_
    refine g_istore_n (q := 159) C dX8_reset_158 (Nat.le_of_ble_eq_true rfl) (by simp only [gset]; rfl) rfl ?_
    obtain ⟨c, hc15, ec⟩ := raAnd15 (a := x33)
    obtain ⟨a1, ha1, ea1⟩ := RG.1.2
    rw [show (N34.f 21) = nI a1 from ea1]
    have hG : (rGs t 4 1 (rHD Q t)).1 = 0 → (rGs t 4 1 (rHD Q t)).2.f 8 = nI a1 ∧ (gat t 1 &&& 15).toNatClampNeg = c := fun h => by
      have hh : (rHD Q t).1 = 0 := by
        by_cases n : (rHD Q t).1 = 0
        · exact n
        · rw [rGs_st n] at h; exact absurd h n
      refine ⟨(RG.2 h).1.1.symm.trans ea1, ?_⟩
      rw [← ex1 hh, ec]; exact nI_clamp (by omega)
    have R6 : rM t (N34.put 2 6 (x33 &&& 15)) ((rGs t 4 1 (rHD Q t)).1, (rGs t 4 1 (rHD Q t)).2) := ⟨RG.1, RG.2⟩
    exact LL x33 a1 c ha1 hc15 hG c 0 (by omega) ((rGs t 4 1 (rHD Q t)).1, ((rGs t 4 1 (rHD Q t)).2, [])) _ _ rfl HL35 (gFM.trans (gFM.trans (gFM.trans frz fn33) fn34) fr35) ((KH.trans K34).trans rK.put) (gput_s.trans ec) R6
  refine g_aload_n (q := 95) C dX8_reset_94 rfl rfl ?_
  refine g_getfield (v := .int ((N20.f 22))) (q := 98) C fX8_86 dX8_reset_95 rfl HL21.1 rfl ?_
  refine g_if_ne (t := 129) (q := 101) C dX8_reset_98 (by decide) rfl (fun c_98 => ?_) (fun c_98 => ?_)
  ·
    have e : nH N20 x20 = (N20.put 2 0 x20) := (if_neg c_98)
    exact J129 (nH N20 x20) _ (by rw [e]; exact HL21) (gFM.trans (gFM.trans frB fn20) fr21) rfl
  ·
    refine g_aload_n (q := 102) C dX8_reset_101 rfl rfl ?_
    refine g_getfield (v := .ref 125) (q := 105) C fX8_16 dX8_reset_102 rfl HL21.1 rfl ?_
    refine g_iconst (v := 0) (q := 106) C dX8_reset_105 (by decide) rfl ?_
    refine g_ialoadN (x := x20) (j := 0) (q := 107) C dX8_reset_106 rfl (HL21.ar (i := 2) (n := 9) (by decide) rfl) (pk_in 0 9 (by decide)) (pk_cl 0) gput_s ?_
    refine g_bipush (v := 59) (q := 109) C dX8_reset_107 (by decide) rfl ?_
    refine g_icmp_eq (t := 129) (q := 112) C dX8_reset_109 (by decide) rfl (fun c_109 => ?_) (fun c_109 => ?_)
    ·
      have e : nH N20 x20 = (N20.put 2 0 x20) := ((if_pos c_98).trans (if_pos c_109))
      exact J129 (nH N20 x20) _ (by rw [e]; exact HL21) (gFM.trans (gFM.trans frB fn20) fr21) rfl
    ·
      refine g_aload_n (q := 113) C dX8_reset_112 rfl rfl ?_
      refine g_getfield (v := .ref 125) (q := 116) C fX8_16 dX8_reset_113 rfl HL21.1 rfl ?_
      refine g_iconst (v := 0) (q := 117) C dX8_reset_116 (by decide) rfl ?_
      refine g_ialoadN (x := x20) (j := 0) (q := 118) C dX8_reset_117 rfl (HL21.ar (i := 2) (n := 9) (by decide) rfl) (pk_in 0 9 (by decide)) (pk_cl 0) gput_s ?_
      refine g_bipush (v := 63) (q := 120) C dX8_reset_118 (by decide) rfl ?_
      refine g_icmp_eq (t := 129) (q := 123) C dX8_reset_120 (by decide) rfl (fun c_120 => ?_) (fun c_120 => ?_)
      ·
        have e : nH N20 x20 = (N20.put 2 0 x20) := ((if_pos c_98).trans ((if_neg c_109).trans (if_pos c_120)))
        exact J129 (nH N20 x20) _ (by rw [e]; exact HL21) (gFM.trans (gFM.trans frB fn20) fr21) rfl
      ·
        refine g_aload_n (q := 124) C dX8_reset_123 rfl rfl ?_
        refine g_iconst (v := 2) (q := 125) C dX8_reset_124 (by decide) rfl ?_
        refine g_iconst (v := 0) (q := 126) C dX8_reset_125 (by decide) rfl ?_
        refine g_callVvp (q := 129) (As := [.int 2, .int 0]) C gyX8_wrong gvX8_wrong t_1222 (c_X8_wrong_m HL21) dX8_reset_126 rfl HL21.1 rfl rfl rfl (Nat.le_of_ble_eq_true rfl) (Nat.le_of_ble_eq_true rfl) (Nat.le_of_ble_eq_true rfl) (Nat.le_of_ble_eq_true rfl) (Nat.le_of_ble_eq_true rfl) rfl (fun h36 z36 => ?_)
        obtain ⟨HL36, fr36⟩ := z36
        have e : nH N20 x20 = (rX8_wrong (N20.put 2 0 x20) 2 0) := ((if_pos c_98).trans ((if_neg c_109).trans (if_neg c_120)))
        exact J129 (nH N20 x20) _ (by rw [e]; exact HL36) (gFM.trans (gFM.trans (gFM.trans frB fn20) fr21) fr36) rfl
  
  
