/-! THE REFERENCE'S RESET BESIDE THE CLASS'S RECORD (by program: wip/p4/m_rm.py) -/
theorem gat_nI {l : List Int32} {n : Nat} (h : n < 2 ^ 31) : gat l (nI n) = l.getD n 0 := by
  unfold gat
  rw [if_neg (nI_pos h), nI_clamp h]
/-- the tape t that both read -/
def rT (t : List Int32) (M : gMd) : Prop := M.f 20 = nI t.length ∧ t.length ≤ 96 ∧ (∀ q, q < t.length → M.a 0 q = t.getD q 0) ∧ ∀ q, gIr (M.a 0 q) 255
/-- what the reference holds where the class's record is q -/
def rQ (M : gMd) (q : rq) : Prop := M.f 21 = q.f 8 ∧ M.f 23 = q.f 10 ∧ M.f 24 = q.f 6 ∧ M.a 2 0 = q.f 0 ∧ M.a 2 1 = rX3_clockOf (q.f 1) ∧ M.a 2 2 = rX3_divisorOf (q.f 1) ∧ M.a 2 3 = q.f 2 ∧ M.a 2 4 = q.f 3 ∧ M.a 2 5 = q.f 4 ∧ M.a 2 7 = q.f 5
def rAt (t : List Int32) (M : gMd) : Prop := ∃ a, a ≤ t.length ∧ M.f 21 = nI a
def rM (t : List Int32) (M : gMd) (r : Int32 × rq) : Prop := (M.f 22 = r.1 ∧ rAt t M) ∧ (r.1 = 0 → rQ M r.2 ∧ rP t r.2)
/-- nothing else changed -/
def rK (M M' : gMd) : Prop := (∀ k, ¬ k = 21 → ¬ k = 22 → ¬ k = 23 → ¬ k = 24 → M'.f k = M.f k) ∧ ∀ i q, ¬ i = 2 → M'.a i q = M.a i q
section RM
variable {t : List Int32} {M M' M1 E : gMd} {r : Int32 × rq} {x g : Int32} {q : rq}
theorem rK.rf : rK M M := ⟨fun _ _ _ _ _ => rfl, fun _ _ _ => rfl⟩
theorem rK.trans {M2 : gMd} (a : rK M M1) (b : rK M1 M2) : rK M M2 := ⟨fun k h1 h2 h3 h4 => (b.1 k h1 h2 h3 h4).trans (a.1 k h1 h2 h3 h4), fun i q h => (b.2 i q h).trans (a.2 i q h)⟩
theorem rK.wr {y z : Int32} : rK M (rX8_wrong M y z) := by
  unfold rX8_wrong
  by_cases c : M.f 22 = 0
  · rw [if_pos c]; exact ⟨fun k _ h _ _ => gset_n h, fun _ _ _ => rfl⟩
  · rw [if_neg c]; exact rK.rf
theorem rK.set {j : Nat} {y : Int32} (h : j = 21 ∨ j = 22 ∨ j = 23 ∨ j = 24) : rK M (M.set j y) := ⟨fun k h1 h2 h3 h4 => gset_n (by omega), fun _ _ _ => rfl⟩
theorem rK.put {j : Nat} {y : Int32} : rK M (M.put 2 j y) := ⟨fun _ _ _ _ _ => rfl, fun i q h => gput_o h⟩
theorem rK.bn (h : gBn M M' x) : rK M M' := by
  rcases h with ⟨-, rfl, -⟩ | ⟨-, -, rfl, -⟩ | ⟨-, a, z, -, -, -, -, rfl, -⟩
  · exact rK.rf
  · exact rK.wr
  · exact rK.set (Or.inl rfl)
theorem rT.k (T : rT t M) (K : rK M M') : rT t M' := ⟨(K.1 20 (by decide) (by decide) (by decide) (by decide)).trans T.1, T.2.1, fun q hq => (K.2 0 q (by decide)).trans (T.2.2.1 q hq), fun q => by rw [K.2 0 q (by decide)]; exact T.2.2.2 q⟩
theorem rWr0 {y z : Int32} (h : M.f 22 = 0) : rX8_wrong M y z = M.set 22 (8 * z + y) := if_pos h
theorem rQ.at {y : Int32} (H : rQ M q) : rQ (M.set 21 y) (q.set 8 y) := by
  obtain ⟨a1, a2, a3, a4, a5, a6, a7, a8, a9, a10⟩ := H
  exact ⟨rfl, a2, a3, a4, a5, a6, a7, a8, a9, a10⟩
theorem rWr.f {k : Nat} {y z : Int32} (h : ¬ k = 22) : (rX8_wrong M y z).f k = M.f k := by
  unfold rX8_wrong
  by_cases c : M.f 22 = 0
  · rw [if_pos c]; exact gset_n h
  · rw [if_neg c]
theorem rM.hz (T : rT t M) (H : rM t M r) : ∃ z, z ≤ 96 ∧ M.f 20 = nI z ∧ ∃ a, a ≤ z ∧ M.f 21 = nI a := ⟨_, T.2.1, T.1, H.1.2⟩
theorem rAt.bn (H : rAt t M) (T : rT t M) (h : gBn M M' x) : rAt t M' := by
  have hl := T.2.1
  rcases h with ⟨-, rfl, -⟩ | ⟨-, -, rfl, -⟩ | ⟨-, a, z, ea, ez, h1, h2, rfl, -⟩
  · exact H
  · obtain ⟨a, ha, ea⟩ := H
    exact ⟨a, ha, (rWr.f (by decide)).trans ea⟩
  · have : z = t.length := nI_inj (by omega) (by omega) (ez.symm.trans T.1)
    exact ⟨a + 1, by omega, gset_s⟩
theorem rBn (T : rT t M) (H : rM t M r) (h : gBn M M' x) : (¬ r.1 = 0 ∧ M' = M ∧ x = 0) ∨ (r.1 = 0 ∧ nI t.length ≤ r.2.f 8 ∧ M'.f 22 = 8 * r.2.f 8 + 1 ∧ x = 0) ∨ (r.1 = 0 ∧ ¬ nI t.length ≤ r.2.f 8 ∧ M' = M.set 21 (r.2.f 8 + 1) ∧ x = gat t (r.2.f 8) ∧ gIr x 255) := by
  have hl := T.2.1
  rcases h with ⟨c, e1, e2⟩ | ⟨c, e, e1, e2⟩ | ⟨c, a, z, ea, ez, h1, h2, e1, e2⟩
  · exact Or.inl ⟨by rw [← H.1.1]; exact c, e1, e2⟩
  · have c' : r.1 = 0 := by rw [← H.1.1]; exact c
    have Q := (H.2 c').1
    have e8 : r.2.f 8 = M.f 20 := Q.1.symm.trans e
    refine Or.inr (Or.inl ⟨c', by rw [e8, T.1]; exact Int32.le_refl _, ?_, e2⟩)
    rw [e1, rWr0 c, gset_s, e8]
  · have c' : r.1 = 0 := by rw [← H.1.1]; exact c
    have Q := (H.2 c').1
    have e8 : r.2.f 8 = nI a := Q.1.symm.trans ea
    have ezl : z = t.length := nI_inj (by omega) (by omega) (ez.symm.trans T.1)
    refine Or.inr (Or.inr ⟨c', ?_, ?_, ?_, ?_⟩)
    · rw [e8]; exact nI_ge (by omega) (by omega)
    · rw [e1, e8, nI_1]
    · rw [e2, e8, gat_nI (by omega)]; exact T.2.2.1 a (by omega)
    · rw [e2]; exact T.2.2.2 a
def rLb (t : List Int32) (g : Int32) (k : Nat) (r : Int32 × rq) : Int32 × rq :=
  if r.1 = 0 then (if nI t.length ≤ r.2.f 8 then (8 * r.2.f 8 + 1, r.2) else if (rX3_readGroupByte r.2 g (nI k) (gat t (r.2.f 8))).1 = 0 then (0, (rX3_readGroupByte r.2 g (nI k) (gat t (r.2.f 8))).2.set 8 ((rX3_readGroupByte r.2 g (nI k) (gat t (r.2.f 8))).2.f 8 + 1)) else (8 * (rX3_readGroupByte r.2 g (nI k) (gat t (r.2.f 8))).2.f 8 + (rX3_readGroupByte r.2 g (nI k) (gat t (r.2.f 8))).1, (rX3_readGroupByte r.2 g (nI k) (gat t (r.2.f 8))).2)) else r
theorem rL_1 {here : Int32} {k : Nat} (h : (here >>> (nI k &&& 31)) &&& 1 = 0) : rL t g here k r = r := by
  unfold rL
  by_cases c : r.1 = 0
  · rw [if_pos c, if_pos h]
  · rw [if_neg c]
theorem rL_b {here : Int32} {k : Nat} (h : ¬ (here >>> (nI k &&& 31)) &&& 1 = 0) : rL t g here k r = rLb t g k r := by
  unfold rL rLb
  by_cases c : r.1 = 0
  · rw [if_pos c, if_pos c, if_neg h]
  · rw [if_neg c, if_neg c]
theorem rFin {k : Nat} (T : rT t M) (H : rM t M r) (h : gBn M M' x) (e21 : E.f 21 = M'.f 21) (e0 : ¬ M'.f 22 = 0 → E.f 22 = M'.f 22) (e1 : r.1 = 0 → rQ M r.2 → M' = M.set 21 (r.2.f 8 + 1) → M'.f 22 = 0 → gIr x 255 → (¬ (rX3_readGroupByte r.2 g (nI k) x).1 = 0 → E.f 22 = 8 * r.2.f 8 + (rX3_readGroupByte r.2 g (nI k) x).1) ∧ ((rX3_readGroupByte r.2 g (nI k) x).1 = 0 → E.f 22 = 0 ∧ rQ E ((rX3_readGroupByte r.2 g (nI k) x).2.set 8 (r.2.f 8 + 1)))) : rM t E (rLb t g k r) := by
  have hl := T.2.1
  have hat : rAt t E := by
    obtain ⟨a, ha, ea⟩ := H.1.2.bn T h
    exact ⟨a, ha, e21.trans ea⟩
  rcases rBn T H h with ⟨c, e2, e3⟩ | ⟨c, c1, c2, e3⟩ | ⟨c, c1, c2, ex, hx⟩
  · have n : ¬ M'.f 22 = 0 := by rw [e2, H.1.1]; exact c
    have e : rLb t g k r = r := if_neg c
    rw [e]
    exact ⟨⟨(e0 n).trans (by rw [e2]; exact H.1.1), hat⟩, fun h => absurd h c⟩
  · have n1 : ¬ (8 * r.2.f 8 + 1 : Int32) = 0 := gx8 (c := 1) (by decide) (by decide)
    have n : ¬ M'.f 22 = 0 := by rw [c2]; exact n1
    have e : rLb t g k r = (8 * r.2.f 8 + 1, r.2) := (if_pos c).trans (if_pos c1)
    rw [e]
    exact ⟨⟨(e0 n).trans c2, hat⟩, fun h => absurd h n1⟩
  · obtain ⟨Q, p, hp, ep⟩ := H.2 c
    have f0 : M'.f 22 = 0 := by rw [c2]; exact H.1.1.trans c
    obtain ⟨k1, k2⟩ := e1 c Q c2 f0 hx
    have lt : p < t.length := by
      by_cases lt : p < t.length
      · exact lt
      · exact absurd (show nI t.length ≤ r.2.f 8 by rw [ep]; exact nI_le (by omega) (by omega)) c1
    rw [ex] at k1 k2
    by_cases c3 : (rX3_readGroupByte r.2 g (nI k) (gat t (r.2.f 8))).1 = 0
    · have e : rLb t g k r = ((0 : Int32), (rX3_readGroupByte r.2 g (nI k) (gat t (r.2.f 8))).2.set 8 (r.2.f 8 + 1)) := (if_pos c).trans ((if_neg c1).trans ((if_pos c3).trans (by rw [rGb8])))
      rw [e]
      exact ⟨⟨(k2 c3).1, hat⟩, fun _ => ⟨(k2 c3).2, p + 1, lt, by rw [rq.set_s, ep]; exact nI_1 p⟩⟩
    · have e : rLb t g k r = (8 * r.2.f 8 + (rX3_readGroupByte r.2 g (nI k) (gat t (r.2.f 8))).1, (rX3_readGroupByte r.2 g (nI k) (gat t (r.2.f 8))).2) := (if_pos c).trans ((if_neg c1).trans ((if_neg c3).trans (by rw [rGb8])))
      rw [e]
      exact ⟨⟨k1 c3, hat⟩, fun h => absurd h (rGbx c3)⟩
/-- a byte that is read and told of no more -/
theorem rS1 {k : Nat} (T : rT t M) (H : rM t M r) (h : gBn M M' x) (hw : r.1 = 0 → ∀ x, rX3_readGroupByte r.2 g (nI k) x = ((0 : Int32), r.2)) : rM t M' (rLb t g k r) :=
  rFin (E := M') T H h rfl (fun _ => rfl) fun c Q e f _ => by
    rw [hw c]
    exact ⟨fun n => absurd rfl n, fun _ => ⟨f, by rw [e]; exact Q.at⟩⟩
theorem rA1 {y : Int32} : y + 1 - 1 = y := by rw [Int32.add_sub_cancel]
theorem rGb_0 : rX3_readGroupByte q g (nI 0) x = if g = 1 then (if rX3_clockOf x = 0 then (4, q.set 1 x) else if rX3_divisorOf x = 0 then (4, q.set 1 x) else (0, q.set 1 x)) else if g = q.f 10 then (if x < 1 then (5, q.set 5 x) else if x ≤ 254 then (0, q.set 5 x) else (5, q.set 5 x)) else (0, q) := by
  have h3 : ¬ nI 0 = 3 := by decide
  have h0 : nI 0 = 0 := rfl
  unfold rX3_readGroupByte
  rw [if_neg h3]
  by_cases a : g = 1
  · rw [if_pos a, if_pos a]; unfold rX3_readFirstGroup; rw [if_pos h0]
  · rw [if_neg a, if_neg a]
    by_cases b : g = q.f 10
    · rw [if_pos b, if_pos b]; unfold rX3_readLinkGroup; rw [if_pos h0]
    · rw [if_neg b, if_neg b]
theorem rGb_1 : rX3_readGroupByte q g (nI 1) x = if g = 1 then (0, q) else if g = q.f 10 then (if x >>> (4 &&& 31) ≤ 9 then (0, q) else (5, q)) else (0, q) := by
  have h3 : ¬ nI 1 = 3 := by decide
  have h0 : ¬ nI 1 = 0 := by decide
  have h2 : ¬ nI 1 = 2 := by decide
  have h1 : nI 1 = 1 := rfl
  unfold rX3_readGroupByte
  rw [if_neg h3]
  by_cases a : g = 1
  · rw [if_pos a, if_pos a]; unfold rX3_readFirstGroup; rw [if_neg h0, if_neg h2]
  · rw [if_neg a, if_neg a]
    by_cases b : g = q.f 10
    · rw [if_pos b, if_pos b]; unfold rX3_readLinkGroup; rw [if_neg h0, if_pos h1]
    · rw [if_neg b, if_neg b]
theorem rGb_2 : rX3_readGroupByte q g (nI 2) x = if g = 1 then (0, q.set 2 x) else if g = q.f 10 then (if x = 0 then (0, q) else (5, q)) else (0, q) := by
  have h3 : ¬ nI 2 = 3 := by decide
  have h0 : ¬ nI 2 = 0 := by decide
  have h2 : nI 2 = 2 := rfl
  have h1 : ¬ nI 2 = 1 := by decide
  unfold rX3_readGroupByte
  rw [if_neg h3]
  by_cases a : g = 1
  · rw [if_pos a, if_pos a]; unfold rX3_readFirstGroup; rw [if_neg h0, if_pos h2]
  · rw [if_neg a, if_neg a]
    by_cases b : g = q.f 10
    · rw [if_pos b, if_pos b]; unfold rX3_readLinkGroup; rw [if_neg h0, if_neg h1]
    · rw [if_neg b, if_neg b]
theorem rGb_3 : rX3_readGroupByte q g (nI 3) x = rX3_readTd q g x := if_pos rfl
end RM
def rX8_clocks_x  (y : Int32) : Int32 := (if y = 0 then 372 else (if y = 1 then 372 else (if y = 2 then 558 else (if y = 3 then 744 else (if y = 4 then 1116 else (if y = 5 then 1488 else (if y = 6 then 1860 else (if y = 7 then 0 else (if y = 8 then 0 else (if y = 9 then 512 else (if y = 10 then 768 else (if y = 11 then 1024 else (if y = 12 then 1536 else (if y = 13 then 2048 else 0))))))))))))))
set_option maxRecDepth 100000 in
set_option maxHeartbeats 4000000 in
theorem c_X8_clocks_x_m {hp : List gA}  {y : Int32}   : gM yX8_clocks cX8_clocks 1 ((some .int)) 0 0 [.int y] (hp) (0) (0) (fun v h => v = some (.int (rX8_clocks_x y)) ∧ h = hp) := by
  refine gM_of (ls0 := [some (.int y)]) (by decide +kernel) (Nat.le_of_ble_eq_true rfl) rfl fun X C E => ?_
  refine g_iload_n (q := 1) C dX8_clocks_0 rfl rfl ?_
  by_cases c_1_0 : y = 0
  ·
    refine g_tableE (v := 0) (off := 71) (t := 72) C dX8_clocks_1 c_1_0 (by decide) (by decide) (by decide) (by decide) ?_
    refine g_sipush (v := 372) (q := 75) C dX8_clocks_72 (by decide) rfl ?_
    have e : rX8_clocks_x y = (372) := (if_pos c_1_0)
    exact E.1 _ _ _ _ _ _ _ dX8_clocks_75 rfl rfl (Nat.le_of_ble_eq_true rfl) (Nat.le_of_ble_eq_true rfl) ⟨by rw [e], rfl⟩
  by_cases c_1_1 : y = 1
  ·
    refine g_tableE (v := 1) (off := 71) (t := 72) C dX8_clocks_1 c_1_1 (by decide) (by decide) (by decide) (by decide) ?_
    refine g_sipush (v := 372) (q := 75) C dX8_clocks_72 (by decide) rfl ?_
    have e : rX8_clocks_x y = (372) := ((if_neg c_1_0).trans (if_pos c_1_1))
    exact E.1 _ _ _ _ _ _ _ dX8_clocks_75 rfl rfl (Nat.le_of_ble_eq_true rfl) (Nat.le_of_ble_eq_true rfl) ⟨by rw [e], rfl⟩
  by_cases c_1_2 : y = 2
  ·
    refine g_tableE (v := 2) (off := 75) (t := 76) C dX8_clocks_1 c_1_2 (by decide) (by decide) (by decide) (by decide) ?_
    refine g_sipush (v := 558) (q := 79) C dX8_clocks_76 (by decide) rfl ?_
    have e : rX8_clocks_x y = (558) := ((if_neg c_1_0).trans ((if_neg c_1_1).trans (if_pos c_1_2)))
    exact E.1 _ _ _ _ _ _ _ dX8_clocks_79 rfl rfl (Nat.le_of_ble_eq_true rfl) (Nat.le_of_ble_eq_true rfl) ⟨by rw [e], rfl⟩
  by_cases c_1_3 : y = 3
  ·
    refine g_tableE (v := 3) (off := 79) (t := 80) C dX8_clocks_1 c_1_3 (by decide) (by decide) (by decide) (by decide) ?_
    refine g_sipush (v := 744) (q := 83) C dX8_clocks_80 (by decide) rfl ?_
    have e : rX8_clocks_x y = (744) := ((if_neg c_1_0).trans ((if_neg c_1_1).trans ((if_neg c_1_2).trans (if_pos c_1_3))))
    exact E.1 _ _ _ _ _ _ _ dX8_clocks_83 rfl rfl (Nat.le_of_ble_eq_true rfl) (Nat.le_of_ble_eq_true rfl) ⟨by rw [e], rfl⟩
  by_cases c_1_4 : y = 4
  ·
    refine g_tableE (v := 4) (off := 83) (t := 84) C dX8_clocks_1 c_1_4 (by decide) (by decide) (by decide) (by decide) ?_
    refine g_sipush (v := 1116) (q := 87) C dX8_clocks_84 (by decide) rfl ?_
    have e : rX8_clocks_x y = (1116) := ((if_neg c_1_0).trans ((if_neg c_1_1).trans ((if_neg c_1_2).trans ((if_neg c_1_3).trans (if_pos c_1_4)))))
    exact E.1 _ _ _ _ _ _ _ dX8_clocks_87 rfl rfl (Nat.le_of_ble_eq_true rfl) (Nat.le_of_ble_eq_true rfl) ⟨by rw [e], rfl⟩
  by_cases c_1_5 : y = 5
  ·
    refine g_tableE (v := 5) (off := 87) (t := 88) C dX8_clocks_1 c_1_5 (by decide) (by decide) (by decide) (by decide) ?_
    refine g_sipush (v := 1488) (q := 91) C dX8_clocks_88 (by decide) rfl ?_
    have e : rX8_clocks_x y = (1488) := ((if_neg c_1_0).trans ((if_neg c_1_1).trans ((if_neg c_1_2).trans ((if_neg c_1_3).trans ((if_neg c_1_4).trans (if_pos c_1_5))))))
    exact E.1 _ _ _ _ _ _ _ dX8_clocks_91 rfl rfl (Nat.le_of_ble_eq_true rfl) (Nat.le_of_ble_eq_true rfl) ⟨by rw [e], rfl⟩
  by_cases c_1_6 : y = 6
  ·
    refine g_tableE (v := 6) (off := 91) (t := 92) C dX8_clocks_1 c_1_6 (by decide) (by decide) (by decide) (by decide) ?_
    refine g_sipush (v := 1860) (q := 95) C dX8_clocks_92 (by decide) rfl ?_
    have e : rX8_clocks_x y = (1860) := ((if_neg c_1_0).trans ((if_neg c_1_1).trans ((if_neg c_1_2).trans ((if_neg c_1_3).trans ((if_neg c_1_4).trans ((if_neg c_1_5).trans (if_pos c_1_6)))))))
    exact E.1 _ _ _ _ _ _ _ dX8_clocks_95 rfl rfl (Nat.le_of_ble_eq_true rfl) (Nat.le_of_ble_eq_true rfl) ⟨by rw [e], rfl⟩
  by_cases c_1_7 : y = 7
  ·
    refine g_tableE (v := 7) (off := 115) (t := 116) C dX8_clocks_1 c_1_7 (by decide) (by decide) (by decide) (by decide) ?_
    refine g_iconst (v := 0) (q := 117) C dX8_clocks_116 (by decide) rfl ?_
    have e : rX8_clocks_x y = (0) := ((if_neg c_1_0).trans ((if_neg c_1_1).trans ((if_neg c_1_2).trans ((if_neg c_1_3).trans ((if_neg c_1_4).trans ((if_neg c_1_5).trans ((if_neg c_1_6).trans (if_pos c_1_7))))))))
    exact E.1 _ _ _ _ _ _ _ dX8_clocks_117 rfl rfl (Nat.le_of_ble_eq_true rfl) (Nat.le_of_ble_eq_true rfl) ⟨by rw [e], rfl⟩
  by_cases c_1_8 : y = 8
  ·
    refine g_tableE (v := 8) (off := 115) (t := 116) C dX8_clocks_1 c_1_8 (by decide) (by decide) (by decide) (by decide) ?_
    refine g_iconst (v := 0) (q := 117) C dX8_clocks_116 (by decide) rfl ?_
    have e : rX8_clocks_x y = (0) := ((if_neg c_1_0).trans ((if_neg c_1_1).trans ((if_neg c_1_2).trans ((if_neg c_1_3).trans ((if_neg c_1_4).trans ((if_neg c_1_5).trans ((if_neg c_1_6).trans ((if_neg c_1_7).trans (if_pos c_1_8)))))))))
    exact E.1 _ _ _ _ _ _ _ dX8_clocks_117 rfl rfl (Nat.le_of_ble_eq_true rfl) (Nat.le_of_ble_eq_true rfl) ⟨by rw [e], rfl⟩
  by_cases c_1_9 : y = 9
  ·
    refine g_tableE (v := 9) (off := 95) (t := 96) C dX8_clocks_1 c_1_9 (by decide) (by decide) (by decide) (by decide) ?_
    refine g_sipush (v := 512) (q := 99) C dX8_clocks_96 (by decide) rfl ?_
    have e : rX8_clocks_x y = (512) := ((if_neg c_1_0).trans ((if_neg c_1_1).trans ((if_neg c_1_2).trans ((if_neg c_1_3).trans ((if_neg c_1_4).trans ((if_neg c_1_5).trans ((if_neg c_1_6).trans ((if_neg c_1_7).trans ((if_neg c_1_8).trans (if_pos c_1_9))))))))))
    exact E.1 _ _ _ _ _ _ _ dX8_clocks_99 rfl rfl (Nat.le_of_ble_eq_true rfl) (Nat.le_of_ble_eq_true rfl) ⟨by rw [e], rfl⟩
  by_cases c_1_10 : y = 10
  ·
    refine g_tableE (v := 10) (off := 99) (t := 100) C dX8_clocks_1 c_1_10 (by decide) (by decide) (by decide) (by decide) ?_
    refine g_sipush (v := 768) (q := 103) C dX8_clocks_100 (by decide) rfl ?_
    have e : rX8_clocks_x y = (768) := ((if_neg c_1_0).trans ((if_neg c_1_1).trans ((if_neg c_1_2).trans ((if_neg c_1_3).trans ((if_neg c_1_4).trans ((if_neg c_1_5).trans ((if_neg c_1_6).trans ((if_neg c_1_7).trans ((if_neg c_1_8).trans ((if_neg c_1_9).trans (if_pos c_1_10)))))))))))
    exact E.1 _ _ _ _ _ _ _ dX8_clocks_103 rfl rfl (Nat.le_of_ble_eq_true rfl) (Nat.le_of_ble_eq_true rfl) ⟨by rw [e], rfl⟩
  by_cases c_1_11 : y = 11
  ·
    refine g_tableE (v := 11) (off := 103) (t := 104) C dX8_clocks_1 c_1_11 (by decide) (by decide) (by decide) (by decide) ?_
    refine g_sipush (v := 1024) (q := 107) C dX8_clocks_104 (by decide) rfl ?_
    have e : rX8_clocks_x y = (1024) := ((if_neg c_1_0).trans ((if_neg c_1_1).trans ((if_neg c_1_2).trans ((if_neg c_1_3).trans ((if_neg c_1_4).trans ((if_neg c_1_5).trans ((if_neg c_1_6).trans ((if_neg c_1_7).trans ((if_neg c_1_8).trans ((if_neg c_1_9).trans ((if_neg c_1_10).trans (if_pos c_1_11))))))))))))
    exact E.1 _ _ _ _ _ _ _ dX8_clocks_107 rfl rfl (Nat.le_of_ble_eq_true rfl) (Nat.le_of_ble_eq_true rfl) ⟨by rw [e], rfl⟩
  by_cases c_1_12 : y = 12
  ·
    refine g_tableE (v := 12) (off := 107) (t := 108) C dX8_clocks_1 c_1_12 (by decide) (by decide) (by decide) (by decide) ?_
    refine g_sipush (v := 1536) (q := 111) C dX8_clocks_108 (by decide) rfl ?_
    have e : rX8_clocks_x y = (1536) := ((if_neg c_1_0).trans ((if_neg c_1_1).trans ((if_neg c_1_2).trans ((if_neg c_1_3).trans ((if_neg c_1_4).trans ((if_neg c_1_5).trans ((if_neg c_1_6).trans ((if_neg c_1_7).trans ((if_neg c_1_8).trans ((if_neg c_1_9).trans ((if_neg c_1_10).trans ((if_neg c_1_11).trans (if_pos c_1_12)))))))))))))
    exact E.1 _ _ _ _ _ _ _ dX8_clocks_111 rfl rfl (Nat.le_of_ble_eq_true rfl) (Nat.le_of_ble_eq_true rfl) ⟨by rw [e], rfl⟩
  by_cases c_1_13 : y = 13
  ·
    refine g_tableE (v := 13) (off := 111) (t := 112) C dX8_clocks_1 c_1_13 (by decide) (by decide) (by decide) (by decide) ?_
    refine g_sipush (v := 2048) (q := 115) C dX8_clocks_112 (by decide) rfl ?_
    have e : rX8_clocks_x y = (2048) := ((if_neg c_1_0).trans ((if_neg c_1_1).trans ((if_neg c_1_2).trans ((if_neg c_1_3).trans ((if_neg c_1_4).trans ((if_neg c_1_5).trans ((if_neg c_1_6).trans ((if_neg c_1_7).trans ((if_neg c_1_8).trans ((if_neg c_1_9).trans ((if_neg c_1_10).trans ((if_neg c_1_11).trans ((if_neg c_1_12).trans (if_pos c_1_13))))))))))))))
    exact E.1 _ _ _ _ _ _ _ dX8_clocks_115 rfl rfl (Nat.le_of_ble_eq_true rfl) (Nat.le_of_ble_eq_true rfl) ⟨by rw [e], rfl⟩
  refine g_tableOut (t := 116) C dX8_clocks_1 (gOut14 c_1_0 c_1_1 c_1_2 c_1_3 c_1_4 c_1_5 c_1_6 c_1_7 c_1_8 c_1_9 c_1_10 c_1_11 c_1_12 c_1_13) (by decide) ?_
  refine g_iconst (v := 0) (q := 117) C dX8_clocks_116 (by decide) rfl ?_
  have e : rX8_clocks_x y = (0) := ((if_neg c_1_0).trans ((if_neg c_1_1).trans ((if_neg c_1_2).trans ((if_neg c_1_3).trans ((if_neg c_1_4).trans ((if_neg c_1_5).trans ((if_neg c_1_6).trans ((if_neg c_1_7).trans ((if_neg c_1_8).trans ((if_neg c_1_9).trans ((if_neg c_1_10).trans ((if_neg c_1_11).trans ((if_neg c_1_12).trans (if_neg c_1_13))))))))))))))
  exact E.1 _ _ _ _ _ _ _ dX8_clocks_117 rfl rfl (Nat.le_of_ble_eq_true rfl) (Nat.le_of_ble_eq_true rfl) ⟨by rw [e], rfl⟩
def rX8_bits_x  (y : Int32) : Int32 := (if (rX8_within y 1 7) = 0 then (if y = 8 then 12 else (if y = 9 then 20 else 0 : Int32)) else (1 <<< ((y - 1) &&& 31)))
set_option maxRecDepth 100000 in
set_option maxHeartbeats 4000000 in
theorem c_X8_bits_x_m {hp : List gA}  {y : Int32}   : gM yX8_bits cX8_bits 1 ((some .int)) 1 22 [.int y] (hp) (0) (0) (fun v h => v = some (.int (rX8_bits_x y)) ∧ h = hp) := by
  refine gM_of (ls0 := [some (.int y)]) (by decide +kernel) (Nat.le_of_ble_eq_true rfl) rfl fun X C E => ?_
  refine g_iload_n (q := 1) C dX8_bits_0 rfl rfl ?_
  refine g_iconst (v := 1) (q := 2) C dX8_bits_1 (by decide) rfl ?_
  refine g_bipush (v := 7) (q := 4) C dX8_bits_2 (by decide) rfl ?_
  refine g_callSi (x := (rX8_within y 1 7)) (q := 7) (As := [.int y, .int 1, .int 7]) C gyX8_within t_1212 t_1211 (c_X8_within_m) dX8_bits_4 rfl rfl rfl (Nat.le_of_ble_eq_true rfl) (Nat.le_of_ble_eq_true rfl) (Nat.le_of_ble_eq_true rfl) (Nat.le_of_ble_eq_true rfl) (Nat.le_of_ble_eq_true rfl) rfl ?_
  refine g_if_eq (t := 16) (q := 10) C dX8_bits_7 (by decide) rfl (fun c_7 => ?_) (fun c_7 => ?_)
  ·
    refine g_iload_n (q := 17) C dX8_bits_16 rfl rfl ?_
    refine g_bipush (v := 8) (q := 19) C dX8_bits_17 (by decide) rfl ?_
    refine g_icmp_ne (t := 27) (q := 22) C dX8_bits_19 (by decide) rfl (fun c_19 => ?_) (fun c_19 => ?_)
    ·
      refine g_iload_n (q := 28) C dX8_bits_27 rfl rfl ?_
      refine g_bipush (v := 9) (q := 30) C dX8_bits_28 (by decide) rfl ?_
      suffices K30 : gG X 39 [some (.int y)] [.int (if y = 9 then 20 else 0 : Int32)] hp 0 0 by
        refine g_icmp_ne (t := 38) (q := 33) C dX8_bits_30 (by decide) rfl (fun c_30 => ?_) (fun c_30 => ?_)
        · refine g_iconst (v := 0) (q := 39) C dX8_bits_38 (by decide) rfl ?_
          rw [if_neg c_30] at K30
          exact K30
        · refine g_bipush (v := 20) (q := 35) C dX8_bits_33 (by decide) rfl ?_
          refine g_goto (q := 39) C dX8_bits_35 (by decide) ?_
          rw [if_pos c_30] at K30
          exact K30
      have e : rX8_bits_x y = ((if y = 9 then 20 else 0 : Int32)) := ((if_pos c_7).trans (if_neg c_19))
      exact E.1 _ _ _ _ _ _ _ dX8_bits_39 rfl rfl (Nat.le_of_ble_eq_true rfl) (Nat.le_of_ble_eq_true rfl) ⟨by rw [e], rfl⟩
    ·
      refine g_bipush (v := 12) (q := 24) C dX8_bits_22 (by decide) rfl ?_
      refine g_goto (q := 39) C dX8_bits_24 (by decide) ?_
      have e : rX8_bits_x y = (12) := ((if_pos c_7).trans (if_pos c_19))
      exact E.1 _ _ _ _ _ _ _ dX8_bits_39 rfl rfl (Nat.le_of_ble_eq_true rfl) (Nat.le_of_ble_eq_true rfl) ⟨by rw [e], rfl⟩
  ·
    refine g_iconst (v := 1) (q := 11) C dX8_bits_10 (by decide) rfl ?_
    refine g_iload_n (q := 12) C dX8_bits_11 rfl rfl ?_
    refine g_iconst (v := 1) (q := 13) C dX8_bits_12 (by decide) rfl ?_
    refine g_isub (q := 14) C dX8_bits_13 rfl ?_
    refine g_ishl (q := 15) C dX8_bits_14 rfl ?_
    have e : rX8_bits_x y = ((1 <<< ((y - 1) &&& 31))) := (if_neg c_7)
    exact E.1 _ _ _ _ _ _ _ dX8_bits_15 rfl rfl (Nat.le_of_ble_eq_true rfl) (Nat.le_of_ble_eq_true rfl) ⟨by rw [e], rfl⟩
