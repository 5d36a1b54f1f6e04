/-! THE REFERENCE'S RESET, WHOLE AND EXACT (by program: wip/p4/m_rr.py) -/
section RR
variable {t : List Int32} {M M' N1 N2 MB : gMd} {r : Int32 × rq} {s : Int32 × (rq × List Int32)} {x x1 x2 : Int32} {q Q : rq}
/-- the reset answer's head in the class's words -/
abbrev rHD (Q : rq) (t : List Int32) : Int32 × rq := rX3_readHead (rX3_clear Q) t
theorem rHDq (h : (rHD Q t).1 = 0) : rHD Q t = ((0 : Int32), ((((rX3_clear Q).set 0 (gat t 0)).set 9 ((gat t 1) >>> (4 &&& 31))).set 8 2)) := by
  have k1 : ¬ (8 * 0 + 1 : Int32) = 0 := by decide
  have k2 : ¬ (8 * 1 + 1 : Int32) = 0 := by decide
  have k3 : ¬ (8 * 0 + 2 : Int32) = 0 := by decide
  revert h
  unfold rHD rX3_readHead
  repeat' split
  all_goals first | (intro h; exact absurd h k1) | (intro h; exact absurd h k2) | (intro h; exact absurd h k3) | (intro _; rfl)
/-- what the start leaves -/
def rMB (t : List Int32) (MB : gMd) : Prop := rT t MB ∧ MB.f 21 = 0 ∧ MB.f 22 = 0 ∧ MB.f 23 = 0 ∧ MB.f 24 = 0 ∧ MB.a 2 1 = 372 ∧ MB.a 2 2 = 1 ∧ MB.a 2 3 = 0 ∧ MB.a 2 4 = 0 ∧ MB.a 2 5 = 0 ∧ MB.a 2 7 = 32
def nH (N1 : gMd) (x1 : Int32) : gMd := (if (N1.f 22) = 0 then (if x1 = 59 then (N1.put 2 0 x1) else (if x1 = 63 then (N1.put 2 0 x1) else (rX8_wrong (N1.put 2 0 x1) 2 0))) else (N1.put 2 0 x1))
theorem nH.k : rK N1 (nH N1 x1) := by
  unfold nH
  repeat' split
  all_goals first | exact rK.put | exact rK.put.trans rK.wr
theorem nH.f21 : (nH N1 x1).f 21 = N1.f 21 := by
  unfold nH
  repeat' split
  all_goals first | rfl | exact (rWr.f (by decide)).trans rfl
theorem rMB.hz (B : rMB t MB) : ∃ z, z ≤ 96 ∧ MB.f 20 = nI z ∧ ∃ a, a ≤ z ∧ MB.f 21 = nI a := ⟨_, B.1.2.1, B.1.1, 0, Nat.zero_le _, B.2.1⟩
theorem rMB.hz2 (B : rMB t MB) (b1 : gBn MB N1 x1) : ∃ z, z ≤ 96 ∧ (nH N1 x1).f 20 = nI z ∧ ∃ a, a ≤ z ∧ (nH N1 x1).f 21 = nI a := by
  have hat : rAt t MB := ⟨0, Nat.zero_le _, B.2.1⟩
  obtain ⟨a, ha, ea⟩ := hat.bn B.1 b1
  exact ⟨_, B.1.2.1, (nH.k.1 20 (by decide) (by decide) (by decide) (by decide)).trans ((B.1.k (rK.bn b1)).1), a, ha, nH.f21.trans ea⟩
theorem rHd (B : rMB t MB) (b1 : gBn MB N1 x1) (b2 : gBn (nH N1 x1) N2 x2) : rM t N2 (rHD Q t) ∧ ((rHD Q t).1 = 0 → x2 = gat t 1) ∧ (¬ (rHD Q t).1 = 0 → x2 = 0) := by
  obtain ⟨T, f21, f22, f23, f24, d1, d2, d3, d4, d5, d7⟩ := B
  have hl := T.2.1
  have k1 : ¬ (8 * 0 + 1 : Int32) = 0 := by decide
  have k2 : ¬ (8 * 1 + 1 : Int32) = 0 := by decide
  have k3 : ¬ (8 * 0 + 2 : Int32) = 0 := by decide
  have hat : rAt t MB := ⟨0, Nat.zero_le _, f21⟩
  have T1 : rT t (nH N1 x1) := (T.k (rK.bn b1)).k nH.k
  have hat1 : rAt t (nH N1 x1) := by
    obtain ⟨a, ha, ea⟩ := hat.bn T b1
    exact ⟨a, ha, nH.f21.trans ea⟩
  have hat2 := hat1.bn T1 b2
  have stick : ¬ (nH N1 x1).f 22 = 0 → N2 = nH N1 x1 ∧ x2 = 0 := fun n => by
    rcases b2 with ⟨-, e1, e2⟩ | ⟨c, -⟩ | ⟨c, -⟩
    · exact ⟨e1, e2⟩
    · exact absurd c n
    · exact absurd c n
  rcases b1 with ⟨c, -⟩ | ⟨-, e, e1, e2⟩ | ⟨-, a, z, ea, ez, h1, h2, e1, e2⟩
  · exact absurd f22 c
  · -- nothing at all
    have l0 : t.length = 0 := nI_inj (by omega) (by decide) (T.1.symm.trans (e.symm.trans f21))
    have eh : rHD Q t = ((8 * 0 + 1 : Int32), rX3_clear Q) := if_pos (by rw [l0]; rfl)
    have n22 : N1.f 22 = 8 * 0 + 1 := by rw [e1, rW22 f22, T.1, l0]; rfl
    have nh : nH N1 x1 = N1.put 2 0 x1 := if_neg (by rw [n22]; exact k1)
    have h22 : (nH N1 x1).f 22 = 8 * 0 + 1 := by rw [nh]; exact n22
    obtain ⟨s1, s2⟩ := stick (by rw [h22]; exact k1)
    rw [eh]
    exact ⟨⟨⟨by rw [s1]; exact h22, hat2⟩, fun h => absurd h k1⟩, fun h => absurd h k1, fun _ => s2⟩
  · have a0 : a = 0 := nI_inj (by omega) (by decide) (ea.symm.trans f21)
    subst a0
    have zl : z = t.length := nI_inj (by omega) (by omega) (ez.symm.trans T.1)
    have l0 : ¬ nI t.length = 0 := fun e => by have := nI_inj (by omega) (by decide) (show nI t.length = nI 0 from e); omega
    have ex1 : x1 = gat t 0 := by rw [e2, show gat t 0 = t.getD 0 0 from gat_nI (n := 0) (by decide)]; exact T.2.2.1 0 (by omega)
    have n22 : N1.f 22 = 0 := by rw [e1]; exact f22
    by_cases ts : gat t 0 = 59 ∨ gat t 0 = 63
    · have nh : nH N1 x1 = N1.put 2 0 x1 := by
        unfold nH
        rw [if_pos n22, ex1]
        rcases ts with c | c
        · rw [if_pos c]
        · by_cases d : gat t 0 = 59
          · rw [if_pos d]
          · rw [if_neg d, if_pos c]
      have h22 : (nH N1 x1).f 22 = 0 := by rw [nh]; exact n22
      have h21 : (nH N1 x1).f 21 = nI 1 := by rw [nH.f21, e1]; exact gset_s
      rcases b2 with ⟨c, -⟩ | ⟨-, e3, e4, e5⟩ | ⟨-, a, z', ea', ez', h1', h2', e3, e4⟩
      · exact absurd h22 c
      · have l1 : t.length = 1 := nI_inj (by omega) (by decide) (T1.1.symm.trans (e3.symm.trans h21))
        have n1 : nI t.length = 1 := by rw [l1]; rfl
        have eh : ∃ q, rHD Q t = ((8 * 1 + 1 : Int32), q) := by
          unfold rHD rX3_readHead
          rw [if_neg l0]
          by_cases d : gat t 0 = 59
          · rw [if_pos d, if_pos n1]; exact ⟨_, rfl⟩
          · rw [if_neg d, if_pos (ts.resolve_left d), if_pos n1]; exact ⟨_, rfl⟩
        obtain ⟨q', eh⟩ := eh
        have m22 : N2.f 22 = 8 * 1 + 1 := by rw [e4, rW22 h22, T1.1, n1]
        rw [eh]
        exact ⟨⟨⟨m22, hat2⟩, fun h => absurd h k2⟩, fun h => absurd h k2, fun _ => e5⟩
      · have a1 : a = 1 := nI_inj (by omega) (by decide) (ea'.symm.trans h21)
        subst a1
        have zl' : z' = t.length := nI_inj (by omega) (by omega) (ez'.symm.trans T1.1)
        have n1 : ¬ nI t.length = 1 := fun e => by have := nI_inj (by omega) (by decide) (show nI t.length = nI 1 from e); omega
        have eh : rHD Q t = ((0 : Int32), ((((rX3_clear Q).set 0 (gat t 0)).set 9 ((gat t 1) >>> (4 &&& 31))).set 8 2)) := by
          unfold rHD rX3_readHead
          rw [if_neg l0]
          by_cases d : gat t 0 = 59
          · rw [if_pos d, if_neg n1]
          · rw [if_neg d, if_pos (ts.resolve_left d), if_neg n1]
        have ex2 : x2 = gat t 1 := by rw [e4, show gat t 1 = t.getD 1 0 from gat_nI (n := 1) (by decide)]; exact T1.2.2.1 1 (by omega)
        rw [eh]
        refine ⟨⟨⟨by rw [e3]; exact h22, hat2⟩, fun _ => ⟨?_, 2, by omega, rfl⟩⟩, fun _ => ex2, fun h => absurd rfl h⟩
        rw [e3, nh, e1, ex1]
        exact ⟨rfl, f23, f24, rfl, d1.trans (show (372 : Int32) = rX3_clockOf 17 by decide +kernel), d2.trans (show (1 : Int32) = rX3_divisorOf 17 by decide +kernel), d3, d4, d5, d7⟩
    · have nh : nH N1 x1 = rX8_wrong (N1.put 2 0 x1) 2 0 := by
        unfold nH
        rw [if_pos n22, ex1, if_neg (fun e => ts (Or.inl e)), if_neg (fun e => ts (Or.inr e))]
      have h22 : (nH N1 x1).f 22 = 8 * 0 + 2 := by rw [nh]; exact rW22 (M := N1.put 2 0 x1) n22
      obtain ⟨s1, s2⟩ := stick (by rw [h22]; exact k3)
      have eh : ∃ q, rHD Q t = ((8 * 0 + 2 : Int32), q) := by
        unfold rHD rX3_readHead
        rw [if_neg l0, if_neg (fun e => ts (Or.inl e)), if_neg (fun e => ts (Or.inr e))]; exact ⟨_, rfl⟩
      obtain ⟨q', eh⟩ := eh
      rw [eh]
      exact ⟨⟨⟨by rw [s1]; exact h22, hat2⟩, fun h => absurd h k3⟩, fun h => absurd h k3, fun _ => s2⟩
/-- historical bytes, one by one -/
def rHs (t : List Int32) (s : Int32 × (rq × List Int32)) : Int32 × (rq × List Int32) :=
  if s.1 = 0 then (if nI t.length ≤ s.2.1.f 8 then (8 * s.2.1.f 8 + 1, s.2) else (0, (s.2.1.set 8 (s.2.1.f 8 + 1), s.2.2 ++ [gat t (s.2.1.f 8)]))) else s
theorem rH_s {n : Nat} : rH t (n + 1) s = rH t n (rHs t s) := by
  have n1 : ¬ (8 * s.2.1.f 8 + 1 : Int32) = 0 := gx8 (c := 1) (by decide) (by decide)
  unfold rHs
  by_cases c : s.1 = 0
  · rw [if_pos c]
    by_cases d : nI t.length ≤ s.2.1.f 8
    · rw [if_pos d, rH_st (s := (8 * s.2.1.f 8 + 1, s.2)) n1]; exact (if_pos c).trans (if_pos d)
    · rw [if_neg d]; exact (if_pos c).trans (if_neg d)
  · rw [if_neg c, rH_st c, rH_st c]
theorem rHst (T : rT t M) (H : rM t M (s.1, s.2.1)) (h : gBn M M' x) : rM t M' ((rHs t s).1, (rHs t s).2.1) := by
  have hl := T.2.1
  have hat := H.1.2.bn T h
  have n1 : ¬ (8 * s.2.1.f 8 + 1 : Int32) = 0 := gx8 (c := 1) (by decide) (by decide)
  rcases rBn T H h with ⟨c1, e, -⟩ | ⟨c1, c2, e, -⟩ | ⟨c1, c2, e, -, -⟩
  · have e2 : rHs t s = s := if_neg c1
    rw [e2, e]; exact H
  · have e2 : rHs t s = (8 * s.2.1.f 8 + 1, s.2) := (if_pos c1).trans (if_pos c2)
    rw [e2]; exact ⟨⟨e, hat⟩, fun h => absurd h n1⟩
  · have e2 : rHs t s = ((0 : Int32), (s.2.1.set 8 (s.2.1.f 8 + 1), s.2.2 ++ [gat t (s.2.1.f 8)])) := (if_pos c1).trans (if_neg c2)
    obtain ⟨Qq, p, hp, ep⟩ := H.2 c1
    have ep' : s.2.1.f 8 = nI p := ep
    have lt : p < t.length := by
      by_cases lt : p < t.length
      · exact lt
      · exact absurd (show nI t.length ≤ s.2.1.f 8 by rw [ep']; exact nI_le (by omega) (by omega)) c2
    rw [e2]
    exact ⟨⟨by rw [e]; exact H.1.1.trans c1, hat⟩, fun _ => ⟨by rw [e]; exact Qq.at, p + 1, lt, by rw [rq.set_s, ep']; exact nI_1 p⟩⟩
/-- what n historical bytes are -/
theorem rH_l : ∀ {n p : Nat} {q : rq} {l : List Int32}, t.length ≤ 96 → q.f 8 = nI p → p ≤ t.length → (rH t n (0, (q, l))).1 = 0 → p + n ≤ t.length ∧ (rH t n (0, (q, l))).2.2 = l ++ (List.range n).map (fun i => t.getD (p + i) 0) ∧ (rH t n (0, (q, l))).2.1 = (if n = 0 then q else q.set 8 (nI (p + n)))
  | 0, p, q, l, hl, e, hp, _ => ⟨hp, by rw [List.range_zero, List.map_nil, List.append_nil]; rfl, rfl⟩
  | n + 1, p, q, l, hl, e, hp, h => by
    have lt : p < t.length := by
      by_cases lt : p < t.length
      · exact lt
      · exfalso
        rw [rH_s] at h
        have e2 : rHs t (0, (q, l)) = (8 * q.f 8 + 1, (q, l)) := (if_pos rfl).trans (if_pos (by rw [e]; exact nI_le (by omega) (by omega)))
        have n1 : ¬ (8 * q.f 8 + 1 : Int32) = 0 := gx8 (c := 1) (by decide) (by decide)
        rw [e2, rH_st n1] at h
        exact n1 h
    have e2 : rH t (n + 1) (0, (q, l)) = rH t n (0, (q.set 8 (q.f 8 + 1), l ++ [gat t (q.f 8)])) := (if_pos rfl).trans (if_neg (by rw [e]; exact nI_ge lt (by omega)))
    rw [e2] at h ⊢
    have e8 : (q.set 8 (q.f 8 + 1)).f 8 = nI (p + 1) := by rw [rq.set_s, e, nI_1]
    obtain ⟨h1, h2, h3⟩ := rH_l (n := n) (p := p + 1) hl e8 (by omega) h
    refine ⟨by omega, ?_, ?_⟩
    · rw [h2, e, gat_nI (by omega), List.append_assoc, List.range_succ_eq_map, List.map_cons, List.map_map]
      congr 1
      show _ :: _ = _ :: _
      congr 1
      refine List.map_congr_left fun i _ => ?_
      show t.getD (p + 1 + i) 0 = t.getD (p + (i + 1)) 0
      rw [show p + 1 + i = p + (i + 1) by omega]
    · rw [h3, if_neg (show ¬ n + 1 = 0 by omega)]
      by_cases c : n = 0
      · rw [if_pos c, c, e, nI_1]
      · rw [if_neg c]
        funext k
        show (if k = 8 then nI (p + 1 + n) else if k = 8 then q.f 8 + 1 else q k) = if k = 8 then nI (p + (n + 1)) else q k
        by_cases d : k = 8
        · rw [if_pos d, if_pos d]; congr 1; omega
        · rw [if_neg d, if_neg d, if_neg d]
/-- the check, where it is wanted or not -/
theorem rC0 (H : rM t M (s.1, s.2.1)) (h : M.f 24 = 0) : rC t s = s := by
  by_cases c : s.1 = 0
  · exact (if_pos c).trans (if_pos ((H.2 c).1.2.2.1.symm.trans h))
  · exact rC_st c
theorem rC1 (H : rM t M (s.1, s.2.1)) (h : ¬ M.f 24 = 0) : rC t s = ((rCb t (s.1, s.2.1)).1, ((rCb t (s.1, s.2.1)).2, s.2.2)) := by
  by_cases c : s.1 = 0
  · have n6 : ¬ s.2.1.f 6 = 0 := fun e => h ((H.2 c).1.2.2.1.trans e)
    have e1 : rC t s = (if nI t.length ≤ s.2.1.f 8 then (8 * s.2.1.f 8 + 1, s.2) else if rXo t (s.2.1.f 8).toNatClampNeg = 0 then (0, (s.2.1.set 8 (s.2.1.f 8 + 1), s.2.2)) else (8 * s.2.1.f 8 + 6, s.2)) := (if_pos c).trans (if_neg n6)
    have e2 : rCb t (s.1, s.2.1) = (if nI t.length ≤ s.2.1.f 8 then (8 * s.2.1.f 8 + 1, s.2.1) else if rXo t (s.2.1.f 8).toNatClampNeg = 0 then (0, s.2.1.set 8 (s.2.1.f 8 + 1)) else (8 * s.2.1.f 8 + 6, s.2.1)) := if_pos c
    rw [e1, e2]
    repeat' split
    all_goals rfl
  · have e2 : rCb t (s.1, s.2.1) = (s.1, s.2.1) := if_neg c
    rw [rC_st c, e2]
/-- bytes behind the end -/
theorem rE0 (H : rM t M (s.1, s.2.1)) (h : ¬ M.f 22 = 0) : rE t s = s := rE_st (fun c => h (H.1.1.trans c))
theorem rE1 (T : rT t M) (H : rM t M (s.1, s.2.1)) (h : M.f 22 = 0) (c : M.f 20 ≤ M.f 21) : rE t s = s := by
  have c0 : s.1 = 0 := H.1.1.symm.trans h
  refine (if_pos c0).trans (if_pos ?_)
  rw [← T.1, ← show M.f 21 = s.2.1.f 8 from (H.2 c0).1.1]; exact c
theorem rE2 (T : rT t M) (H : rM t M (s.1, s.2.1)) (h : M.f 22 = 0) (c : ¬ M.f 20 ≤ M.f 21) : rM t (rX8_wrong M 7 (M.f 21)) ((rE t s).1, (rE t s).2.1) := by
  have c0 : s.1 = 0 := H.1.1.symm.trans h
  have e8 : M.f 21 = s.2.1.f 8 := (H.2 c0).1.1
  have e : rE t s = (8 * s.2.1.f 8 + 7, s.2) := (if_pos c0).trans (if_neg (by rw [← T.1, ← e8]; exact c))
  rw [e]
  obtain ⟨a, ha, ea⟩ := H.1.2
  exact ⟨⟨by rw [rW22 h, e8], a, ha, (rWr.f (by decide)).trans ea⟩, fun h => absurd h (gx8 (c := 7) (by decide) (by decide))⟩
/-- the whole, in one line -/
theorem rRdG {n : Nat} (hn : (rGs t 4 1 (rHD Q t)).1 = 0 → (gat t 1 &&& 15).toNatClampNeg = n) {F : Int32 × (rq × List Int32)} (hF : rE t (rC t (rH t n ((rGs t 4 1 (rHD Q t)).1, ((rGs t 4 1 (rHD Q t)).2, [])))) = F) : (rRd Q t).1 = F.1 ∧ (F.1 = 0 → rRd Q t = F) := by
  by_cases c : (rHD Q t).1 = 0
  · have e0 : rHD Q t = ((0 : Int32), (rHD Q t).2) := by rw [← c]
    have eG : rGs t 4 1 (rHD Q t) = rGs t 4 1 (0, (rHD Q t).2) := by rw [← e0]
    by_cases d : (rGs t 4 1 (0, (rHD Q t).2)).1 = 0
    · have e : rRd Q t = F := by
        rw [← hF, eG, d, ← hn (by rw [eG]; exact d)]
        exact (if_pos c).trans (if_pos d)
      exact ⟨by rw [e], fun _ => e⟩
    · have e : rRd Q t = ((rGs t 4 1 (0, (rHD Q t).2)).1, ((rGs t 4 1 (0, (rHD Q t).2)).2, [])) := (if_pos c).trans (if_neg d)
      rw [eG, rH_st d, rC_st d, rE_st d] at hF
      rw [e, ← hF]
      exact ⟨rfl, fun _ => rfl⟩
  · have e : rRd Q t = ((rHD Q t).1, ((rHD Q t).2, [])) := if_neg c
    rw [rGs_st c, rH_st c, rC_st c, rE_st c] at hF
    rw [e, ← hF]
    exact ⟨rfl, fun _ => rfl⟩
/-- the room is 1 to 255 -/
def rR5 (q : rq) : Prop := ∃ w, 1 ≤ w ∧ w < 256 ∧ q.f 5 = nI w
theorem rGb5 {y w : Int32} {j : Int32} (hw : gIr w 255) (H : rR5 q) (h : (rX3_readGroupByte q y j w).1 = 0) : rR5 (rX3_readGroupByte q y j w).2 := by
  have kt : (rX3_readTd q y w).2.f 5 = q.f 5 := by
    by_cases c : tdG y w
    · rw [rTdG c]
      unfold tdQ
      repeat' split
      all_goals rfl
    · rw [rTdB c]; rfl
  obtain ⟨v, v1, v2, v3⟩ := H
  obtain ⟨b, hb, rfl⟩ := hw
  revert h
  unfold rX3_readGroupByte
  by_cases a : j = 3
  · rw [if_pos a]; exact fun _ => ⟨v, v1, v2, kt.trans v3⟩
  · rw [if_neg a]
    by_cases a1 : y = 1
    · rw [if_pos a1]
      intro _
      refine ⟨v, v1, v2, Eq.trans ?_ v3⟩
      unfold rX3_readFirstGroup
      repeat' split
      all_goals rfl
    · rw [if_neg a1]
      by_cases a2 : y = q.f 10
      · rw [if_pos a2]
        unfold rX3_readLinkGroup
        have n5 : ¬ (5 : Int32) = 0 := by decide
        by_cases d : j = 0
        · rw [if_pos d]
          by_cases d1 : nI b < 1
          · rw [if_pos d1]; exact fun h => absurd h n5
          · rw [if_neg d1]
            by_cases d2 : nI b ≤ 254
            · rw [if_pos d2]
              intro _
              refine ⟨b, ?_, by omega, rfl⟩
              have : ¬ b = 0 := fun e => d1 (by rw [e]; decide)
              omega
            · rw [if_neg d2]; exact fun h => absurd h n5
        · rw [if_neg d]
          intro _
          refine ⟨v, v1, v2, Eq.trans ?_ v3⟩
          repeat' split
          all_goals rfl
      · rw [if_neg a2]; exact fun _ => ⟨v, v1, v2, v3⟩
theorem rL_5 {g here : Int32} {k : Nat} (hb : ∀ x, gIr (gat t x) 255) (H : r.1 = 0 → rR5 r.2) (h : (rL t g here k r).1 = 0) : rR5 (rL t g here k r).2 := by
  have h0 := rL_0 h
  revert h
  unfold rL
  rw [if_pos h0]
  by_cases a : (here >>> (nI k &&& 31)) &&& 1 = 0
  · rw [if_pos a]; exact fun _ => H h0
  · rw [if_neg a]
    by_cases b : nI t.length ≤ r.2.f 8
    · rw [if_pos b]; exact fun h => absurd h (gx8 (c := 1) (by decide) (by decide))
    · rw [if_neg b]
      by_cases c : (rX3_readGroupByte r.2 g (nI k) (gat t (r.2.f 8))).1 = 0
      · rw [if_pos c]
        intro _
        obtain ⟨w, w1, w2, w3⟩ := rGb5 (hb _) (H h0) c
        exact ⟨w, w1, w2, (rq.set_n (by decide)).trans w3⟩
      · rw [if_neg c]; exact fun h => absurd h (rGbx c)
theorem rGs_5 (hb : ∀ x, gIr (gat t x) 255) : ∀ {n g : Nat} {r : Int32 × rq}, (r.1 = 0 → rR5 r.2) → (rGs t n g r).1 = 0 → rR5 (rGs t n g r).2
  | 0, _, _, H => H
  | n + 1, g, r, H => by
    unfold rGs
    by_cases c : r.1 = 0
    · rw [if_pos c]
      by_cases d : r.2.f 9 = 0
      · rw [if_pos d]; exact H
      · rw [if_neg d]
        exact rGs_5 hb (rL_5 hb (rL_5 hb (rL_5 hb (rL_5 hb fun _ => by
          obtain ⟨w, w1, w2, w3⟩ := H c
          exact ⟨w, w1, w2, (rq.set_n (by decide)).trans ((rq.set_n (by decide)).trans w3)⟩))))
    · rw [if_neg c]; exact H
theorem rT.by (T : rT t M) : ∀ x, gIr (gat t x) 255 := fun x => by
  have hl := T.2.1
  have z : gIr 0 255 := ⟨0, by decide, rfl⟩
  by_cases c : x < 0
  · rw [gat_neg c]; exact z
  · by_cases d : nI t.length ≤ x
    · rw [gat_out d (by omega)]; exact z
    · have lt := gat_in c d (by omega)
      unfold gat
      rw [if_neg c, ← T.2.2.1 _ lt]
      exact T.2.2.2 _
/-- what the reference tells of a card whose reset answer is q, l -/
def rTold (M : gMd) (q : rq) (l : List Int32) : Prop := (M.a 1 0 = q.f 0 ∧ M.a 1 1 = rX3_clockOf (q.f 1) ∧ M.a 1 2 = rX3_divisorOf (q.f 1) ∧ M.a 1 3 = q.f 2 ∧ M.a 1 4 = q.f 3 ∧ M.a 1 5 = q.f 4 ∧ M.a 1 6 = nI l.length ∧ M.a 1 7 = q.f 5 ∧ M.a 1 8 = (if q.f 6 = 0 then 0 else 1)) ∧ l.length ≤ 15 ∧ ∀ i, i < l.length → M.a 3 i = l.getD i 0
/-- how a reset ends: by the class's words -/
def rOut (t : List Int32) (Q : rq) (M M' : gMd) (x : Int32) : Prop :=
  (¬ (rRd Q t).1 = 0 ∧ x = -2 - (rRd Q t).1 ∧ M'.f 3 = M.f 3 ∧ ∀ i q, i = 1 ∨ i = 3 → M'.a i q = M.a i q) ∨ ((rRd Q t).1 = 0 ∧ x = nI (rRd Q t).2.2.length ∧ M'.f 3 = 1 ∧ rTold M' (rRd Q t).2.1 (rRd Q t).2.2)
theorem rTold.beg {w : Int32} {l : List Int32} (H : rTold M q l) : rTold ((rX8_begins M).put 4 18 w) q l := H
end RR
