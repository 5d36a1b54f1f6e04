/-! THE REFERENCE'S RESET BESIDE THE CLASS'S RECORD (by program: wip/p4/m_rm.py) -/
theorem gat_nI {l : List Int32} {n : Nat} (h : n < 2 ^ 31) : gat l (nI n) = l.getD n 0 := by
  unfold gat
  rw [if_neg (nI_pos h), nI_clamp h]
/-- the tape t that both read -/
def rT (t : List Int32) (M : gMd) : Prop := M.f 20 = nI t.length ∧ t.length ≤ 96 ∧ (∀ q, q < t.length → M.a 0 q = t.getD q 0) ∧ ∀ q, gIr (M.a 0 q) 255
/-- what the reference holds where the class's record is q -/
def rQ (M : gMd) (q : rq) : Prop := M.f 21 = q.f 8 ∧ M.f 23 = q.f 10 ∧ M.f 24 = q.f 6 ∧ M.a 2 0 = q.f 0 ∧ M.a 2 1 = rX3_clockOf (q.f 1) ∧ M.a 2 2 = rX3_divisorOf (q.f 1) ∧ M.a 2 3 = q.f 2 ∧ M.a 2 4 = q.f 3 ∧ M.a 2 5 = q.f 4 ∧ M.a 2 7 = q.f 5
def rAt (t : List Int32) (M : gMd) : Prop := ∃ a, a ≤ t.length ∧ M.f 21 = nI a
def rM (t : List Int32) (M : gMd) (r : Int32 × rq) : Prop := (M.f 22 = r.1 ∧ rAt t M) ∧ (r.1 = 0 → rQ M r.2 ∧ rP t r.2)
/-- nothing else changed -/
def rK (M M' : gMd) : Prop := (∀ k, ¬ k = 21 → ¬ k = 22 → ¬ k = 23 → ¬ k = 24 → M'.f k = M.f k) ∧ ∀ i q, ¬ i = 2 → M'.a i q = M.a i q
section RM
variable {t : List Int32} {M M' M1 E : gMd} {r : Int32 × rq} {x g : Int32} {q : rq}
theorem rK.rf : rK M M := ⟨fun _ _ _ _ _ => rfl, fun _ _ _ => rfl⟩
theorem rK.trans {M2 : gMd} (a : rK M M1) (b : rK M1 M2) : rK M M2 := ⟨fun k h1 h2 h3 h4 => (b.1 k h1 h2 h3 h4).trans (a.1 k h1 h2 h3 h4), fun i q h => (b.2 i q h).trans (a.2 i q h)⟩
theorem rK.wr {y z : Int32} : rK M (rX8_wrong M y z) := by
  unfold rX8_wrong
  by_cases c : M.f 22 = 0
  · rw [if_pos c]; exact ⟨fun k _ h _ _ => gset_n h, fun _ _ _ => rfl⟩
  · rw [if_neg c]; exact rK.rf
theorem rK.set {j : Nat} {y : Int32} (h : j = 21 ∨ j = 22 ∨ j = 23 ∨ j = 24) : rK M (M.set j y) := ⟨fun k h1 h2 h3 h4 => gset_n (by omega), fun _ _ _ => rfl⟩
theorem rK.put {j : Nat} {y : Int32} : rK M (M.put 2 j y) := ⟨fun _ _ _ _ _ => rfl, fun i q h => gput_o h⟩
theorem rK.bn (h : gBn M M' x) : rK M M' := by
  rcases h with ⟨-, rfl, -⟩ | ⟨-, -, rfl, -⟩ | ⟨-, a, z, -, -, -, -, rfl, -⟩
  · exact rK.rf
  · exact rK.wr
  · exact rK.set (Or.inl rfl)
theorem rT.k (T : rT t M) (K : rK M M') : rT t M' := ⟨(K.1 20 (by decide) (by decide) (by decide) (by decide)).trans T.1, T.2.1, fun q hq => (K.2 0 q (by decide)).trans (T.2.2.1 q hq), fun q => by rw [K.2 0 q (by decide)]; exact T.2.2.2 q⟩
theorem rWr0 {y z : Int32} (h : M.f 22 = 0) : rX8_wrong M y z = M.set 22 (8 * z + y) := if_pos h
theorem rQ.at {y : Int32} (H : rQ M q) : rQ (M.set 21 y) (q.set 8 y) := by
  obtain ⟨a1, a2, a3, a4, a5, a6, a7, a8, a9, a10⟩ := H
  exact ⟨rfl, a2, a3, a4, a5, a6, a7, a8, a9, a10⟩
theorem rWr.f {k : Nat} {y z : Int32} (h : ¬ k = 22) : (rX8_wrong M y z).f k = M.f k := by
  unfold rX8_wrong
  by_cases c : M.f 22 = 0
  · rw [if_pos c]; exact gset_n h
  · rw [if_neg c]
theorem rM.hz (T : rT t M) (H : rM t M r) : ∃ z, z ≤ 96 ∧ M.f 20 = nI z ∧ ∃ a, a ≤ z ∧ M.f 21 = nI a := ⟨_, T.2.1, T.1, H.1.2⟩
theorem rAt.bn (H : rAt t M) (T : rT t M) (h : gBn M M' x) : rAt t M' := by
  have hl := T.2.1
  rcases h with ⟨-, rfl, -⟩ | ⟨-, -, rfl, -⟩ | ⟨-, a, z, ea, ez, h1, h2, rfl, -⟩
  · exact H
  · obtain ⟨a, ha, ea⟩ := H
    exact ⟨a, ha, (rWr.f (by decide)).trans ea⟩
  · have : z = t.length := nI_inj (by omega) (by omega) (ez.symm.trans T.1)
    exact ⟨a + 1, by omega, gset_s⟩
theorem rBn (T : rT t M) (H : rM t M r) (h : gBn M M' x) : (¬ r.1 = 0 ∧ M' = M ∧ x = 0) ∨ (r.1 = 0 ∧ nI t.length ≤ r.2.f 8 ∧ M'.f 22 = 8 * r.2.f 8 + 1 ∧ x = 0) ∨ (r.1 = 0 ∧ ¬ nI t.length ≤ r.2.f 8 ∧ M' = M.set 21 (r.2.f 8 + 1) ∧ x = gat t (r.2.f 8) ∧ gIr x 255) := by
  have hl := T.2.1
  rcases h with ⟨c, e1, e2⟩ | ⟨c, e, e1, e2⟩ | ⟨c, a, z, ea, ez, h1, h2, e1, e2⟩
  · exact Or.inl ⟨by rw [← H.1.1]; exact c, e1, e2⟩
  · have c' : r.1 = 0 := by rw [← H.1.1]; exact c
    have Q := (H.2 c').1
    have e8 : r.2.f 8 = M.f 20 := Q.1.symm.trans e
    refine Or.inr (Or.inl ⟨c', by rw [e8, T.1]; exact Int32.le_refl _, ?_, e2⟩)
    rw [e1, rWr0 c, gset_s, e8]
  · have c' : r.1 = 0 := by rw [← H.1.1]; exact c
    have Q := (H.2 c').1
    have e8 : r.2.f 8 = nI a := Q.1.symm.trans ea
    have ezl : z = t.length := nI_inj (by omega) (by omega) (ez.symm.trans T.1)
    refine Or.inr (Or.inr ⟨c', ?_, ?_, ?_, ?_⟩)
    · rw [e8]; exact nI_ge (by omega) (by omega)
    · rw [e1, e8, nI_1]
    · rw [e2, e8, gat_nI (by omega)]; exact T.2.2.1 a (by omega)
    · rw [e2]; exact T.2.2.2 a
def rLb (t : List Int32) (g : Int32) (k : Nat) (r : Int32 × rq) : Int32 × rq :=
  if r.1 = 0 then (if nI t.length ≤ r.2.f 8 then (8 * r.2.f 8 + 1, r.2) else if (rX3_readGroupByte r.2 g (nI k) (gat t (r.2.f 8))).1 = 0 then (0, (rX3_readGroupByte r.2 g (nI k) (gat t (r.2.f 8))).2.set 8 ((rX3_readGroupByte r.2 g (nI k) (gat t (r.2.f 8))).2.f 8 + 1)) else (8 * (rX3_readGroupByte r.2 g (nI k) (gat t (r.2.f 8))).2.f 8 + (rX3_readGroupByte r.2 g (nI k) (gat t (r.2.f 8))).1, (rX3_readGroupByte r.2 g (nI k) (gat t (r.2.f 8))).2)) else r
theorem rL_1 {here : Int32} {k : Nat} (h : (here >>> (nI k &&& 31)) &&& 1 = 0) : rL t g here k r = r := by
  unfold rL
  by_cases c : r.1 = 0
  · rw [if_pos c, if_pos h]
  · rw [if_neg c]
theorem rL_b {here : Int32} {k : Nat} (h : ¬ (here >>> (nI k &&& 31)) &&& 1 = 0) : rL t g here k r = rLb t g k r := by
  unfold rL rLb
  by_cases c : r.1 = 0
  · rw [if_pos c, if_pos c, if_neg h]
  · rw [if_neg c, if_neg c]
theorem rFin {k : Nat} (T : rT t M) (H : rM t M r) (h : gBn M M' x) (e21 : E.f 21 = M'.f 21) (e0 : ¬ M'.f 22 = 0 → E.f 22 = M'.f 22) (e1 : r.1 = 0 → rQ M r.2 → M' = M.set 21 (r.2.f 8 + 1) → M'.f 22 = 0 → gIr x 255 → (¬ (rX3_readGroupByte r.2 g (nI k) x).1 = 0 → E.f 22 = 8 * r.2.f 8 + (rX3_readGroupByte r.2 g (nI k) x).1) ∧ ((rX3_readGroupByte r.2 g (nI k) x).1 = 0 → E.f 22 = 0 ∧ rQ E ((rX3_readGroupByte r.2 g (nI k) x).2.set 8 (r.2.f 8 + 1)))) : rM t E (rLb t g k r) := by
  have hl := T.2.1
  have hat : rAt t E := by
    obtain ⟨a, ha, ea⟩ := H.1.2.bn T h
    exact ⟨a, ha, e21.trans ea⟩
  rcases rBn T H h with ⟨c, e2, e3⟩ | ⟨c, c1, c2, e3⟩ | ⟨c, c1, c2, ex, hx⟩
  · have n : ¬ M'.f 22 = 0 := by rw [e2, H.1.1]; exact c
    have e : rLb t g k r = r := if_neg c
    rw [e]
    exact ⟨⟨(e0 n).trans (by rw [e2]; exact H.1.1), hat⟩, fun h => absurd h c⟩
  · have n1 : ¬ (8 * r.2.f 8 + 1 : Int32) = 0 := gx8 (c := 1) (by decide) (by decide)
    have n : ¬ M'.f 22 = 0 := by rw [c2]; exact n1
    have e : rLb t g k r = (8 * r.2.f 8 + 1, r.2) := (if_pos c).trans (if_pos c1)
    rw [e]
    exact ⟨⟨(e0 n).trans c2, hat⟩, fun h => absurd h n1⟩
  · obtain ⟨Q, p, hp, ep⟩ := H.2 c
    have f0 : M'.f 22 = 0 := by rw [c2]; exact H.1.1.trans c
    obtain ⟨k1, k2⟩ := e1 c Q c2 f0 hx
    have lt : p < t.length := by
      by_cases lt : p < t.length
      · exact lt
      · exact absurd (by rw [ep]; exact nI_le (by omega) (by omega)) c1
    rw [ex] at k1 k2
    by_cases c3 : (rX3_readGroupByte r.2 g (nI k) (gat t (r.2.f 8))).1 = 0
    · have e : rLb t g k r = (0, (rX3_readGroupByte r.2 g (nI k) (gat t (r.2.f 8))).2.set 8 (r.2.f 8 + 1)) := (if_pos c).trans ((if_neg c1).trans ((if_pos c3).trans (by rw [rGb8])))
      rw [e]
      exact ⟨⟨(k2 c3).1, hat⟩, fun _ => ⟨(k2 c3).2, p + 1, lt, by rw [rq.set_s, ep]; exact nI_1 p⟩⟩
    · have e : rLb t g k r = (8 * r.2.f 8 + (rX3_readGroupByte r.2 g (nI k) (gat t (r.2.f 8))).1, (rX3_readGroupByte r.2 g (nI k) (gat t (r.2.f 8))).2) := (if_pos c).trans ((if_neg c1).trans ((if_neg c3).trans (by rw [rGb8])))
      rw [e]
      exact ⟨⟨k1 c3, hat⟩, fun h => absurd h (rGbx c3)⟩
/-- a byte that is read and told of no more -/
theorem rS1 {k : Nat} (T : rT t M) (H : rM t M r) (h : gBn M M' x) (hw : r.1 = 0 → ∀ x, rX3_readGroupByte r.2 g (nI k) x = (0, r.2)) : rM t M' (rLb t g k r) :=
  rFin (E := M') T H h rfl (fun _ => rfl) fun c Q e f _ => by
    rw [hw c]
    exact ⟨fun n => absurd rfl n, fun _ => ⟨f, by rw [e]; exact Q.at⟩⟩
theorem rA1 {y : Int32} : y + 1 - 1 = y := by rw [Int32.add_sub_cancel]
theorem rGb_0 : rX3_readGroupByte q g (nI 0) x = if g = 1 then (if rX3_clockOf x = 0 then (4, q.set 1 x) else if rX3_divisorOf x = 0 then (4, q.set 1 x) else (0, q.set 1 x)) else if g = q.f 10 then (if x < 1 then (5, q.set 5 x) else if x ≤ 254 then (0, q.set 5 x) else (5, q.set 5 x)) else (0, q) := by
  have h3 : ¬ nI 0 = 3 := by decide
  have h0 : nI 0 = 0 := rfl
  unfold rX3_readGroupByte
  rw [if_neg h3]
  by_cases a : g = 1
  · rw [if_pos a, if_pos a]; unfold rX3_readFirstGroup; rw [if_pos h0]
  · rw [if_neg a, if_neg a]
    by_cases b : g = q.f 10
    · rw [if_pos b, if_pos b]; unfold rX3_readLinkGroup; rw [if_pos h0]
    · rw [if_neg b, if_neg b]
theorem rGb_1 : rX3_readGroupByte q g (nI 1) x = if g = 1 then (0, q) else if g = q.f 10 then (if x >>> (4 &&& 31) ≤ 9 then (0, q) else (5, q)) else (0, q) := by
  have h3 : ¬ nI 1 = 3 := by decide
  have h0 : ¬ nI 1 = 0 := by decide
  have h2 : ¬ nI 1 = 2 := by decide
  have h1 : nI 1 = 1 := rfl
  unfold rX3_readGroupByte
  rw [if_neg h3]
  by_cases a : g = 1
  · rw [if_pos a, if_pos a]; unfold rX3_readFirstGroup; rw [if_neg h0, if_neg h2]
  · rw [if_neg a, if_neg a]
    by_cases b : g = q.f 10
    · rw [if_pos b, if_pos b]; unfold rX3_readLinkGroup; rw [if_neg h0, if_pos h1]
    · rw [if_neg b, if_neg b]
theorem rGb_2 : rX3_readGroupByte q g (nI 2) x = if g = 1 then (0, q.set 2 x) else if g = q.f 10 then (if x = 0 then (0, q) else (5, q)) else (0, q) := by
  have h3 : ¬ nI 2 = 3 := by decide
  have h0 : ¬ nI 2 = 0 := by decide
  have h2 : nI 2 = 2 := rfl
  have h1 : ¬ nI 2 = 1 := by decide
  unfold rX3_readGroupByte
  rw [if_neg h3]
  by_cases a : g = 1
  · rw [if_pos a, if_pos a]; unfold rX3_readFirstGroup; rw [if_neg h0, if_pos h2]
  · rw [if_neg a, if_neg a]
    by_cases b : g = q.f 10
    · rw [if_pos b, if_pos b]; unfold rX3_readLinkGroup; rw [if_neg h0, if_neg h1]
    · rw [if_neg b, if_neg b]
theorem rGb_3 : rX3_readGroupByte q g (nI 3) x = rX3_readTd q g x := if_pos rfl
end RM
def rX8_clocks_x  (y : Int32) : Int32 := (if y = 0 then 372 else (if y = 1 then 372 else (if y = 2 then 558 else (if y = 3 then 744 else (if y = 4 then 1116 else (if y = 5 then 1488 else (if y = 6 then 1860 else (if y = 7 then 0 else (if y = 8 then 0 else (if y = 9 then 512 else (if y = 10 then 768 else (if y = 11 then 1024 else (if y = 12 then 1536 else (if y = 13 then 2048 else 0))))))))))))))
set_option maxRecDepth 100000 in
set_option maxHeartbeats 4000000 in
theorem c_X8_clocks_x_m {hp : List gA}  {y : Int32}   : gM yX8_clocks cX8_clocks 1 ((some .int)) 0 0 [.int y] (hp) (0) (0) (fun v h => v = some (.int (rX8_clocks_x y)) ∧ h = hp) := by
  refine gM_of (ls0 := [some (.int y)]) (by decide +kernel) (Nat.le_of_ble_eq_true rfl) rfl fun X C E => ?_
  refine g_iload_n (q := 1) C dX8_clocks_0 rfl rfl ?_
  by_cases c_1_0 : y = 0
  ·
    refine g_tableE (v := 0) (off := 71) (t := 72) C dX8_clocks_1 c_1_0 (by decide) (by decide) (by decide) (by decide) ?_
    refine g_sipush (v := 372) (q := 75) C dX8_clocks_72 (by decide) rfl ?_
    have e : rX8_clocks_x y = (372) := (if_pos c_1_0)
    exact E.1 _ _ _ _ _ _ _ dX8_clocks_75 rfl rfl (Nat.le_of_ble_eq_true rfl) (Nat.le_of_ble_eq_true rfl) ⟨by rw [e], rfl⟩
  by_cases c_1_1 : y = 1
  ·
    refine g_tableE (v := 1) (off := 71) (t := 72) C dX8_clocks_1 c_1_1 (by decide) (by decide) (by decide) (by decide) ?_
    refine g_sipush (v := 372) (q := 75) C dX8_clocks_72 (by decide) rfl ?_
    have e : rX8_clocks_x y = (372) := ((if_neg c_1_0).trans (if_pos c_1_1))
    exact E.1 _ _ _ _ _ _ _ dX8_clocks_75 rfl rfl (Nat.le_of_ble_eq_true rfl) (Nat.le_of_ble_eq_true rfl) ⟨by rw [e], rfl⟩
  by_cases c_1_2 : y = 2
  ·
    refine g_tableE (v := 2) (off := 75) (t := 76) C dX8_clocks_1 c_1_2 (by decide) (by decide) (by decide) (by decide) ?_
    refine g_sipush (v := 558) (q := 79) C dX8_clocks_76 (by decide) rfl ?_
    have e : rX8_clocks_x y = (558) := ((if_neg c_1_0).trans ((if_neg c_1_1).trans (if_pos c_1_2)))
    exact E.1 _ _ _ _ _ _ _ dX8_clocks_79 rfl rfl (Nat.le_of_ble_eq_true rfl) (Nat.le_of_ble_eq_true rfl) ⟨by rw [e], rfl⟩
  by_cases c_1_3 : y = 3
  ·
    refine g_tableE (v := 3) (off := 79) (t := 80) C dX8_clocks_1 c_1_3 (by decide) (by decide) (by decide) (by decide) ?_
    refine g_sipush (v := 744) (q := 83) C dX8_clocks_80 (by decide) rfl ?_
    have e : rX8_clocks_x y = (744) := ((if_neg c_1_0).trans ((if_neg c_1_1).trans ((if_neg c_1_2).trans (if_pos c_1_3))))
    exact E.1 _ _ _ _ _ _ _ dX8_clocks_83 rfl rfl (Nat.le_of_ble_eq_true rfl) (Nat.le_of_ble_eq_true rfl) ⟨by rw [e], rfl⟩
  by_cases c_1_4 : y = 4
  ·
    refine g_tableE (v := 4) (off := 83) (t := 84) C dX8_clocks_1 c_1_4 (by decide) (by decide) (by decide) (by decide) ?_
    refine g_sipush (v := 1116) (q := 87) C dX8_clocks_84 (by decide) rfl ?_
    have e : rX8_clocks_x y = (1116) := ((if_neg c_1_0).trans ((if_neg c_1_1).trans ((if_neg c_1_2).trans ((if_neg c_1_3).trans (if_pos c_1_4)))))
    exact E.1 _ _ _ _ _ _ _ dX8_clocks_87 rfl rfl (Nat.le_of_ble_eq_true rfl) (Nat.le_of_ble_eq_true rfl) ⟨by rw [e], rfl⟩
  by_cases c_1_5 : y = 5
  ·
    refine g_tableE (v := 5) (off := 87) (t := 88) C dX8_clocks_1 c_1_5 (by decide) (by decide) (by decide) (by decide) ?_
    refine g_sipush (v := 1488) (q := 91) C dX8_clocks_88 (by decide) rfl ?_
    have e : rX8_clocks_x y = (1488) := ((if_neg c_1_0).trans ((if_neg c_1_1).trans ((if_neg c_1_2).trans ((if_neg c_1_3).trans ((if_neg c_1_4).trans (if_pos c_1_5))))))
    exact E.1 _ _ _ _ _ _ _ dX8_clocks_91 rfl rfl (Nat.le_of_ble_eq_true rfl) (Nat.le_of_ble_eq_true rfl) ⟨by rw [e], rfl⟩
  by_cases c_1_6 : y = 6
  ·
    refine g_tableE (v := 6) (off := 91) (t := 92) C dX8_clocks_1 c_1_6 (by decide) (by decide) (by decide) (by decide) ?_
    refine g_sipush (v := 1860) (q := 95) C dX8_clocks_92 (by decide) rfl ?_
    have e : rX8_clocks_x y = (1860) := ((if_neg c_1_0).trans ((if_neg c_1_1).trans ((if_neg c_1_2).trans ((if_neg c_1_3).trans ((if_neg c_1_4).trans ((if_neg c_1_5).trans (if_pos c_1_6)))))))
    exact E.1 _ _ _ _ _ _ _ dX8_clocks_95 rfl rfl (Nat.le_of_ble_eq_true rfl) (Nat.le_of_ble_eq_true rfl) ⟨by rw [e], rfl⟩
  by_cases c_1_7 : y = 7
  ·
    refine g_tableE (v := 7) (off := 115) (t := 116) C dX8_clocks_1 c_1_7 (by decide) (by decide) (by decide) (by decide) ?_
    refine g_iconst (v := 0) (q := 117) C dX8_clocks_116 (by decide) rfl ?_
    have e : rX8_clocks_x y = (0) := ((if_neg c_1_0).trans ((if_neg c_1_1).trans ((if_neg c_1_2).trans ((if_neg c_1_3).trans ((if_neg c_1_4).trans ((if_neg c_1_5).trans ((if_neg c_1_6).trans (if_pos c_1_7))))))))
    exact E.1 _ _ _ _ _ _ _ dX8_clocks_117 rfl rfl (Nat.le_of_ble_eq_true rfl) (Nat.le_of_ble_eq_true rfl) ⟨by rw [e], rfl⟩
  by_cases c_1_8 : y = 8
  ·
    refine g_tableE (v := 8) (off := 115) (t := 116) C dX8_clocks_1 c_1_8 (by decide) (by decide) (by decide) (by decide) ?_
    refine g_iconst (v := 0) (q := 117) C dX8_clocks_116 (by decide) rfl ?_
    have e : rX8_clocks_x y = (0) := ((if_neg c_1_0).trans ((if_neg c_1_1).trans ((if_neg c_1_2).trans ((if_neg c_1_3).trans ((if_neg c_1_4).trans ((if_neg c_1_5).trans ((if_neg c_1_6).trans ((if_neg c_1_7).trans (if_pos c_1_8)))))))))
    exact E.1 _ _ _ _ _ _ _ dX8_clocks_117 rfl rfl (Nat.le_of_ble_eq_true rfl) (Nat.le_of_ble_eq_true rfl) ⟨by rw [e], rfl⟩
  by_cases c_1_9 : y = 9
  ·
    refine g_tableE (v := 9) (off := 95) (t := 96) C dX8_clocks_1 c_1_9 (by decide) (by decide) (by decide) (by decide) ?_
    refine g_sipush (v := 512) (q := 99) C dX8_clocks_96 (by decide) rfl ?_
    have e : rX8_clocks_x y = (512) := ((if_neg c_1_0).trans ((if_neg c_1_1).trans ((if_neg c_1_2).trans ((if_neg c_1_3).trans ((if_neg c_1_4).trans ((if_neg c_1_5).trans ((if_neg c_1_6).trans ((if_neg c_1_7).trans ((if_neg c_1_8).trans (if_pos c_1_9))))))))))
    exact E.1 _ _ _ _ _ _ _ dX8_clocks_99 rfl rfl (Nat.le_of_ble_eq_true rfl) (Nat.le_of_ble_eq_true rfl) ⟨by rw [e], rfl⟩
  by_cases c_1_10 : y = 10
  ·
    refine g_tableE (v := 10) (off := 99) (t := 100) C dX8_clocks_1 c_1_10 (by decide) (by decide) (by decide) (by decide) ?_
    refine g_sipush (v := 768) (q := 103) C dX8_clocks_100 (by decide) rfl ?_
    have e : rX8_clocks_x y = (768) := ((if_neg c_1_0).trans ((if_neg c_1_1).trans ((if_neg c_1_2).trans ((if_neg c_1_3).trans ((if_neg c_1_4).trans ((if_neg c_1_5).trans ((if_neg c_1_6).trans ((if_neg c_1_7).trans ((if_neg c_1_8).trans ((if_neg c_1_9).trans (if_pos c_1_10)))))))))))
    exact E.1 _ _ _ _ _ _ _ dX8_clocks_103 rfl rfl (Nat.le_of_ble_eq_true rfl) (Nat.le_of_ble_eq_true rfl) ⟨by rw [e], rfl⟩
  by_cases c_1_11 : y = 11
  ·
    refine g_tableE (v := 11) (off := 103) (t := 104) C dX8_clocks_1 c_1_11 (by decide) (by decide) (by decide) (by decide) ?_
    refine g_sipush (v := 1024) (q := 107) C dX8_clocks_104 (by decide) rfl ?_
    have e : rX8_clocks_x y = (1024) := ((if_neg c_1_0).trans ((if_neg c_1_1).trans ((if_neg c_1_2).trans ((if_neg c_1_3).trans ((if_neg c_1_4).trans ((if_neg c_1_5).trans ((if_neg c_1_6).trans ((if_neg c_1_7).trans ((if_neg c_1_8).trans ((if_neg c_1_9).trans ((if_neg c_1_10).trans (if_pos c_1_11))))))))))))
    exact E.1 _ _ _ _ _ _ _ dX8_clocks_107 rfl rfl (Nat.le_of_ble_eq_true rfl) (Nat.le_of_ble_eq_true rfl) ⟨by rw [e], rfl⟩
  by_cases c_1_12 : y = 12
  ·
    refine g_tableE (v := 12) (off := 107) (t := 108) C dX8_clocks_1 c_1_12 (by decide) (by decide) (by decide) (by decide) ?_
    refine g_sipush (v := 1536) (q := 111) C dX8_clocks_108 (by decide) rfl ?_
    have e : rX8_clocks_x y = (1536) := ((if_neg c_1_0).trans ((if_neg c_1_1).trans ((if_neg c_1_2).trans ((if_neg c_1_3).trans ((if_neg c_1_4).trans ((if_neg c_1_5).trans ((if_neg c_1_6).trans ((if_neg c_1_7).trans ((if_neg c_1_8).trans ((if_neg c_1_9).trans ((if_neg c_1_10).trans ((if_neg c_1_11).trans (if_pos c_1_12)))))))))))))
    exact E.1 _ _ _ _ _ _ _ dX8_clocks_111 rfl rfl (Nat.le_of_ble_eq_true rfl) (Nat.le_of_ble_eq_true rfl) ⟨by rw [e], rfl⟩
  by_cases c_1_13 : y = 13
  ·
    refine g_tableE (v := 13) (off := 111) (t := 112) C dX8_clocks_1 c_1_13 (by decide) (by decide) (by decide) (by decide) ?_
    refine g_sipush (v := 2048) (q := 115) C dX8_clocks_112 (by decide) rfl ?_
    have e : rX8_clocks_x y = (2048) := ((if_neg c_1_0).trans ((if_neg c_1_1).trans ((if_neg c_1_2).trans ((if_neg c_1_3).trans ((if_neg c_1_4).trans ((if_neg c_1_5).trans ((if_neg c_1_6).trans ((if_neg c_1_7).trans ((if_neg c_1_8).trans ((if_neg c_1_9).trans ((if_neg c_1_10).trans ((if_neg c_1_11).trans ((if_neg c_1_12).trans (if_pos c_1_13))))))))))))))
    exact E.1 _ _ _ _ _ _ _ dX8_clocks_115 rfl rfl (Nat.le_of_ble_eq_true rfl) (Nat.le_of_ble_eq_true rfl) ⟨by rw [e], rfl⟩
  refine g_tableOut (t := 116) C dX8_clocks_1 (gOut14 c_1_0 c_1_1 c_1_2 c_1_3 c_1_4 c_1_5 c_1_6 c_1_7 c_1_8 c_1_9 c_1_10 c_1_11 c_1_12 c_1_13) (by decide) ?_
  refine g_iconst (v := 0) (q := 117) C dX8_clocks_116 (by decide) rfl ?_
  have e : rX8_clocks_x y = (0) := ((if_neg c_1_0).trans ((if_neg c_1_1).trans ((if_neg c_1_2).trans ((if_neg c_1_3).trans ((if_neg c_1_4).trans ((if_neg c_1_5).trans ((if_neg c_1_6).trans ((if_neg c_1_7).trans ((if_neg c_1_8).trans ((if_neg c_1_9).trans ((if_neg c_1_10).trans ((if_neg c_1_11).trans ((if_neg c_1_12).trans (if_neg c_1_13))))))))))))))
  exact E.1 _ _ _ _ _ _ _ dX8_clocks_117 rfl rfl (Nat.le_of_ble_eq_true rfl) (Nat.le_of_ble_eq_true rfl) ⟨by rw [e], rfl⟩
def rX8_bits_x  (y : Int32) : Int32 := (if (rX8_within y 1 7) = 0 then (if y = 8 then 12 else (if y = 9 then 20 else 0 : Int32)) else (1 <<< ((y - 1) &&& 31)))
set_option maxRecDepth 100000 in
set_option maxHeartbeats 4000000 in
theorem c_X8_bits_x_m {hp : List gA}  {y : Int32}   : gM yX8_bits cX8_bits 1 ((some .int)) 1 22 [.int y] (hp) (0) (0) (fun v h => v = some (.int (rX8_bits_x y)) ∧ h = hp) := by
  refine gM_of (ls0 := [some (.int y)]) (by decide +kernel) (Nat.le_of_ble_eq_true rfl) rfl fun X C E => ?_
  refine g_iload_n (q := 1) C dX8_bits_0 rfl rfl ?_
  refine g_iconst (v := 1) (q := 2) C dX8_bits_1 (by decide) rfl ?_
  refine g_bipush (v := 7) (q := 4) C dX8_bits_2 (by decide) rfl ?_
  refine g_callSi (x := (rX8_within y 1 7)) (q := 7) (As := [.int y, .int 1, .int 7]) C gyX8_within t_1212 t_1211 (c_X8_within_m) dX8_bits_4 rfl rfl rfl (Nat.le_of_ble_eq_true rfl) (Nat.le_of_ble_eq_true rfl) (Nat.le_of_ble_eq_true rfl) (Nat.le_of_ble_eq_true rfl) (Nat.le_of_ble_eq_true rfl) rfl ?_
  refine g_if_eq (t := 16) (q := 10) C dX8_bits_7 (by decide) rfl (fun c_7 => ?_) (fun c_7 => ?_)
  ·
    refine g_iload_n (q := 17) C dX8_bits_16 rfl rfl ?_
    refine g_bipush (v := 8) (q := 19) C dX8_bits_17 (by decide) rfl ?_
    refine g_icmp_ne (t := 27) (q := 22) C dX8_bits_19 (by decide) rfl (fun c_19 => ?_) (fun c_19 => ?_)
    ·
      refine g_iload_n (q := 28) C dX8_bits_27 rfl rfl ?_
      refine g_bipush (v := 9) (q := 30) C dX8_bits_28 (by decide) rfl ?_
      suffices K30 : gG X 39 [some (.int y)] [.int (if y = 9 then 20 else 0 : Int32)] hp 0 0 by
        refine g_icmp_ne (t := 38) (q := 33) C dX8_bits_30 (by decide) rfl (fun c_30 => ?_) (fun c_30 => ?_)
        · refine g_iconst (v := 0) (q := 39) C dX8_bits_38 (by decide) rfl ?_
          rw [if_neg c_30] at K30
          exact K30
        · refine g_bipush (v := 20) (q := 35) C dX8_bits_33 (by decide) rfl ?_
          refine g_goto (q := 39) C dX8_bits_35 (by decide) ?_
          rw [if_pos c_30] at K30
          exact K30
      have e : rX8_bits_x y = ((if y = 9 then 20 else 0 : Int32)) := ((if_pos c_7).trans (if_neg c_19))
      exact E.1 _ _ _ _ _ _ _ dX8_bits_39 rfl rfl (Nat.le_of_ble_eq_true rfl) (Nat.le_of_ble_eq_true rfl) ⟨by rw [e], rfl⟩
    ·
      refine g_bipush (v := 12) (q := 24) C dX8_bits_22 (by decide) rfl ?_
      refine g_goto (q := 39) C dX8_bits_24 (by decide) ?_
      have e : rX8_bits_x y = (12) := ((if_pos c_7).trans (if_pos c_19))
      exact E.1 _ _ _ _ _ _ _ dX8_bits_39 rfl rfl (Nat.le_of_ble_eq_true rfl) (Nat.le_of_ble_eq_true rfl) ⟨by rw [e], rfl⟩
  ·
    refine g_iconst (v := 1) (q := 11) C dX8_bits_10 (by decide) rfl ?_
    refine g_iload_n (q := 12) C dX8_bits_11 rfl rfl ?_
    refine g_iconst (v := 1) (q := 13) C dX8_bits_12 (by decide) rfl ?_
    refine g_isub (q := 14) C dX8_bits_13 rfl ?_
    refine g_ishl (q := 15) C dX8_bits_14 rfl ?_
    have e : rX8_bits_x y = ((1 <<< ((y - 1) &&& 31))) := (if_neg c_7)
    exact E.1 _ _ _ _ _ _ _ dX8_bits_15 rfl rfl (Nat.le_of_ble_eq_true rfl) (Nat.le_of_ble_eq_true rfl) ⟨by rw [e], rfl⟩
theorem rClk : ∀ {x : Int32}, gIr x 255 → rX8_clocks_x (x >>> (4 &&& 31)) = rX3_clockOf x := fun {x} h => by
  obtain ⟨b, hb, rfl⟩ := h
  exact (by decide +kernel : ∀ b : Fin 256, rX8_clocks_x (nI b.1 >>> (4 &&& 31)) = rX3_clockOf (nI b.1)) ⟨b, by omega⟩
theorem rBit : ∀ {x : Int32}, gIr x 255 → rX8_bits_x (x &&& 15) = rX3_divisorOf x := fun {x} h => by
  obtain ⟨b, hb, rfl⟩ := h
  exact (by decide +kernel : ∀ b : Fin 256, rX8_bits_x (nI b.1 &&& 15) = rX3_divisorOf (nI b.1)) ⟨b, by omega⟩
def nF (N1 : gMd) (x1 : Int32) : gMd := (if (N1.f 22) = 0 then (if (rX8_clocks_x (x1 >>> (4 &&& 31))) = 0 then (rX8_wrong ((N1.put 2 1 (rX8_clocks_x (x1 >>> (4 &&& 31)))).put 2 2 (rX8_bits_x (x1 &&& 15))) 4 ((N1.f 21) - 1)) else (if (rX8_bits_x (x1 &&& 15)) = 0 then (rX8_wrong ((N1.put 2 1 (rX8_clocks_x (x1 >>> (4 &&& 31)))).put 2 2 (rX8_bits_x (x1 &&& 15))) 4 ((N1.f 21) - 1)) else ((N1.put 2 1 (rX8_clocks_x (x1 >>> (4 &&& 31)))).put 2 2 (rX8_bits_x (x1 &&& 15))))) else N1)
set_option maxRecDepth 100000 in
set_option maxHeartbeats 4000000 in
theorem c_X8_factorx_r {hp : List gA} {M : gMd}  (HM : gMod hp M) (hz : ∃ z, z ≤ 96 ∧ M.f 20 = nI z ∧ ∃ a, a ≤ z ∧ M.f 21 = nI a) : gM yX8_factor cX8_factor 2 (none) 2 42 [.ref 122] (hp) (0) (0) (fun v h => v = none ∧ ∃ M' x, gBn M M' x ∧ gMod h (nF M' x) ∧ gFM hp h) := by
  refine gM_of (ls0 := [some (.ref 122), none]) (by decide +kernel) (Nat.le_of_ble_eq_true rfl) rfl fun X C E => ?_
  refine g_aload_n (q := 1) C dX8_factor_0 rfl rfl ?_
  refine g_callVip (q := 4) (As := []) C gyX8_byteNext gvX8_byteNext t_1218 (c_X8_byteNext_r HM hz) dX8_factor_1 rfl HM.1 rfl rfl rfl (Nat.le_of_ble_eq_true rfl) (Nat.le_of_ble_eq_true rfl) (Nat.le_of_ble_eq_true rfl) (Nat.le_of_ble_eq_true rfl) (Nat.le_of_ble_eq_true rfl) rfl (fun x1 h1 z1 => ?_)
  obtain ⟨N1, HN1, fn1, bn1⟩ := z1
  refine g_istore_n (q := 5) C dX8_factor_4 (Nat.le_of_ble_eq_true rfl) (by simp only [gset]; rfl) rfl ?_
  refine g_aload_n (q := 6) C dX8_factor_5 rfl rfl ?_
  refine g_getfield (v := .int ((N1.f 22))) (q := 9) C fX8_86 dX8_factor_6 rfl HN1.1 rfl ?_
  refine g_if_eq (t := 13) (q := 12) C dX8_factor_9 (by decide) rfl (fun c_9 => ?_) (fun c_9 => ?_)
  ·
    refine g_aload_n (q := 14) C dX8_factor_13 rfl rfl ?_
    refine g_getfield (v := .ref 125) (q := 17) C fX8_16 dX8_factor_14 rfl HN1.1 rfl ?_
    refine g_iconst (v := 1) (q := 18) C dX8_factor_17 (by decide) rfl ?_
    refine g_iload_n (q := 19) C dX8_factor_18 rfl rfl ?_
    refine g_iconst (v := 4) (q := 20) C dX8_factor_19 (by decide) rfl ?_
    refine g_ishr (q := 21) C dX8_factor_20 rfl ?_
    refine g_callSi (x := (rX8_clocks_x (x1 >>> (4 &&& 31)))) (q := 24) (As := [.int ((x1 >>> (4 &&& 31)))]) C gyX8_clocks t_1239 t_1238 (c_X8_clocks_x_m) dX8_factor_21 rfl rfl rfl (Nat.le_of_ble_eq_true rfl) (Nat.le_of_ble_eq_true rfl) (Nat.le_of_ble_eq_true rfl) (Nat.le_of_ble_eq_true rfl) (Nat.le_of_ble_eq_true rfl) rfl ?_
    refine g_iastoreN (j := 1) (q := 25) C dX8_factor_24 rfl (HN1.ar (i := 2) (n := 9) (by decide) rfl) (pk_in 1 9 (by decide)) (pk_cl 1) ?_
    refine gMsto (i := 2) (j := 1) (x := (rX8_clocks_x (x1 >>> (4 &&& 31)))) HN1 (by decide) rfl rfl fun h2 HL2 fr2 => ?_
    refine g_aload_n (q := 26) C dX8_factor_25 rfl rfl ?_
    refine g_getfield (v := .ref 125) (q := 29) C fX8_16 dX8_factor_26 rfl HL2.1 rfl ?_
    refine g_iconst (v := 2) (q := 30) C dX8_factor_29 (by decide) rfl ?_
    refine g_iload_n (q := 31) C dX8_factor_30 rfl rfl ?_
    refine g_bipush (v := 15) (q := 33) C dX8_factor_31 (by decide) rfl ?_
    refine g_iand (q := 34) C dX8_factor_33 rfl ?_
    refine g_callSi (x := (rX8_bits_x (x1 &&& 15))) (q := 37) (As := [.int ((x1 &&& 15))]) C gyX8_bits t_1242 t_1241 (c_X8_bits_x_m) dX8_factor_34 rfl rfl rfl (Nat.le_of_ble_eq_true rfl) (Nat.le_of_ble_eq_true rfl) (Nat.le_of_ble_eq_true rfl) (Nat.le_of_ble_eq_true rfl) (Nat.le_of_ble_eq_true rfl) rfl ?_
    refine g_iastoreN (j := 2) (q := 38) C dX8_factor_37 rfl (HL2.ar (i := 2) (n := 9) (by decide) rfl) (pk_in 2 9 (by decide)) (pk_cl 2) ?_
    refine gMsto (i := 2) (j := 2) (x := (rX8_bits_x (x1 &&& 15))) HL2 (by decide) rfl rfl fun h3 HL3 fr3 => ?_
    refine g_aload_n (q := 39) C dX8_factor_38 rfl rfl ?_
    refine g_getfield (v := .ref 125) (q := 42) C fX8_16 dX8_factor_39 rfl HL3.1 rfl ?_
    refine g_iconst (v := 1) (q := 43) C dX8_factor_42 (by decide) rfl ?_
    refine g_ialoadN (x := (rX8_clocks_x (x1 >>> (4 &&& 31)))) (j := 1) (q := 44) C dX8_factor_43 rfl (HL3.ar (i := 2) (n := 9) (by decide) rfl) (pk_in 1 9 (by decide)) (pk_cl 1) ((gput_n (by decide)).trans gput_s) ?_
    refine g_if_eq (t := 56) (q := 47) C dX8_factor_44 (by decide) rfl (fun c_44 => ?_) (fun c_44 => ?_)
    ·
      refine g_aload_n (q := 57) C dX8_factor_56 rfl rfl ?_
      refine g_iconst (v := 4) (q := 58) C dX8_factor_57 (by decide) rfl ?_
      refine g_aload_n (q := 59) C dX8_factor_58 rfl rfl ?_
      refine g_getfield (v := .int ((N1.f 21))) (q := 62) C fX8_89 dX8_factor_59 rfl HL3.1 rfl ?_
      refine g_iconst (v := 1) (q := 63) C dX8_factor_62 (by decide) rfl ?_
      refine g_isub (q := 64) C dX8_factor_63 rfl ?_
      refine g_callVvp (q := 67) (As := [.int 4, .int (((N1.f 21) - 1))]) C gyX8_wrong gvX8_wrong t_1222 (c_X8_wrong_m HL3) dX8_factor_64 rfl HL3.1 rfl rfl rfl (Nat.le_of_ble_eq_true rfl) (Nat.le_of_ble_eq_true rfl) (Nat.le_of_ble_eq_true rfl) (Nat.le_of_ble_eq_true rfl) (Nat.le_of_ble_eq_true rfl) rfl (fun h4 z4 => ?_)
      obtain ⟨HL4, fr4⟩ := z4
      have e : nF N1 x1 = (rX8_wrong ((N1.put 2 1 (rX8_clocks_x (x1 >>> (4 &&& 31)))).put 2 2 (rX8_bits_x (x1 &&& 15))) 4 ((N1.f 21) - 1)) := ((if_pos c_9).trans (if_pos c_44))
      exact E.2.1 _ _ _ _ _ dX8_factor_67 rfl (Nat.le_of_ble_eq_true rfl) (Nat.le_of_ble_eq_true rfl) ⟨rfl, N1, x1, bn1, by rw [e]; exact HL4, (gFM.trans (gFM.trans (gFM.trans fn1 fr2) fr3) fr4)⟩
    ·
      refine g_aload_n (q := 48) C dX8_factor_47 rfl rfl ?_
      refine g_getfield (v := .ref 125) (q := 51) C fX8_16 dX8_factor_48 rfl HL3.1 rfl ?_
      refine g_iconst (v := 2) (q := 52) C dX8_factor_51 (by decide) rfl ?_
      refine g_ialoadN (x := (rX8_bits_x (x1 &&& 15))) (j := 2) (q := 53) C dX8_factor_52 rfl (HL3.ar (i := 2) (n := 9) (by decide) rfl) (pk_in 2 9 (by decide)) (pk_cl 2) gput_s ?_
      refine g_if_ne (t := 67) (q := 56) C dX8_factor_53 (by decide) rfl (fun c_53 => ?_) (fun c_53 => ?_)
      ·
        have e : nF N1 x1 = ((N1.put 2 1 (rX8_clocks_x (x1 >>> (4 &&& 31)))).put 2 2 (rX8_bits_x (x1 &&& 15))) := ((if_pos c_9).trans ((if_neg c_44).trans (if_neg c_53)))
        exact E.2.1 _ _ _ _ _ dX8_factor_67 rfl (Nat.le_of_ble_eq_true rfl) (Nat.le_of_ble_eq_true rfl) ⟨rfl, N1, x1, bn1, by rw [e]; exact HL3, (gFM.trans (gFM.trans fn1 fr2) fr3)⟩
      ·
        refine g_aload_n (q := 57) C dX8_factor_56 rfl rfl ?_
        refine g_iconst (v := 4) (q := 58) C dX8_factor_57 (by decide) rfl ?_
        refine g_aload_n (q := 59) C dX8_factor_58 rfl rfl ?_
        refine g_getfield (v := .int ((N1.f 21))) (q := 62) C fX8_89 dX8_factor_59 rfl HL3.1 rfl ?_
        refine g_iconst (v := 1) (q := 63) C dX8_factor_62 (by decide) rfl ?_
        refine g_isub (q := 64) C dX8_factor_63 rfl ?_
        refine g_callVvp (q := 67) (As := [.int 4, .int (((N1.f 21) - 1))]) C gyX8_wrong gvX8_wrong t_1222 (c_X8_wrong_m HL3) dX8_factor_64 rfl HL3.1 rfl rfl rfl (Nat.le_of_ble_eq_true rfl) (Nat.le_of_ble_eq_true rfl) (Nat.le_of_ble_eq_true rfl) (Nat.le_of_ble_eq_true rfl) (Nat.le_of_ble_eq_true rfl) rfl (fun h5 z5 => ?_)
        obtain ⟨HL5, fr5⟩ := z5
        have e : nF N1 x1 = (rX8_wrong ((N1.put 2 1 (rX8_clocks_x (x1 >>> (4 &&& 31)))).put 2 2 (rX8_bits_x (x1 &&& 15))) 4 ((N1.f 21) - 1)) := ((if_pos c_9).trans ((if_neg c_44).trans (if_pos c_53)))
        exact E.2.1 _ _ _ _ _ dX8_factor_67 rfl (Nat.le_of_ble_eq_true rfl) (Nat.le_of_ble_eq_true rfl) ⟨rfl, N1, x1, bn1, by rw [e]; exact HL5, (gFM.trans (gFM.trans (gFM.trans fn1 fr2) fr3) fr5)⟩
  ·
    have e : nF N1 x1 = N1 := (if_neg c_9)
    exact E.2.1 _ _ _ _ _ dX8_factor_12 rfl (Nat.le_of_ble_eq_true rfl) (Nat.le_of_ble_eq_true rfl) ⟨rfl, N1, x1, bn1, by rw [e]; exact HN1, fn1⟩
def nW (N1 : gMd) (x1 : Int32) : gMd := (if (N1.f 22) = 0 then (if (rX8_within x1 1 254) = 0 then ((rX8_wrong N1 5 ((N1.f 21) - 1)).put 2 7 x1) else (N1.put 2 7 x1)) else (N1.put 2 7 x1))
set_option maxRecDepth 100000 in
set_option maxHeartbeats 4000000 in
theorem c_X8_windowx_r {hp : List gA} {M : gMd}  (HM : gMod hp M) (hz : ∃ z, z ≤ 96 ∧ M.f 20 = nI z ∧ ∃ a, a ≤ z ∧ M.f 21 = nI a) : gM yX8_window cX8_window 2 (none) 2 42 [.ref 122] (hp) (0) (0) (fun v h => v = none ∧ ∃ M' x, gBn M M' x ∧ gMod h (nW M' x) ∧ gFM hp h) := by
  refine gM_of (ls0 := [some (.ref 122), none]) (by decide +kernel) (Nat.le_of_ble_eq_true rfl) rfl fun X C E => ?_
  refine g_aload_n (q := 1) C dX8_window_0 rfl rfl ?_
  refine g_callVip (q := 4) (As := []) C gyX8_byteNext gvX8_byteNext t_1218 (c_X8_byteNext_r HM hz) dX8_window_1 rfl HM.1 rfl rfl rfl (Nat.le_of_ble_eq_true rfl) (Nat.le_of_ble_eq_true rfl) (Nat.le_of_ble_eq_true rfl) (Nat.le_of_ble_eq_true rfl) (Nat.le_of_ble_eq_true rfl) rfl (fun x1 h1 z1 => ?_)
  obtain ⟨N1, HN1, fn1, bn1⟩ := z1
  refine g_istore_n (q := 5) C dX8_window_4 (Nat.le_of_ble_eq_true rfl) (by simp only [gset]; rfl) rfl ?_
  refine g_aload_n (q := 6) C dX8_window_5 rfl rfl ?_
  refine g_getfield (v := .int ((N1.f 22))) (q := 9) C fX8_86 dX8_window_6 rfl HN1.1 rfl ?_
  refine g_if_ne (t := 34) (q := 12) C dX8_window_9 (by decide) rfl (fun c_9 => ?_) (fun c_9 => ?_)
  ·
    refine g_aload_n (q := 35) C dX8_window_34 rfl rfl ?_
    refine g_getfield (v := .ref 125) (q := 38) C fX8_16 dX8_window_35 rfl HN1.1 rfl ?_
    refine g_bipush (v := 7) (q := 40) C dX8_window_38 (by decide) rfl ?_
    refine g_iload_n (q := 41) C dX8_window_40 rfl rfl ?_
    refine g_iastoreN (j := 7) (q := 42) C dX8_window_41 rfl (HN1.ar (i := 2) (n := 9) (by decide) rfl) (pk_in 7 9 (by decide)) (pk_cl 7) ?_
    refine gMsto (i := 2) (j := 7) (x := x1) HN1 (by decide) rfl rfl fun h2 HL2 fr2 => ?_
    have e : nW N1 x1 = (N1.put 2 7 x1) := (if_neg c_9)
    exact E.2.1 _ _ _ _ _ dX8_window_42 rfl (Nat.le_of_ble_eq_true rfl) (Nat.le_of_ble_eq_true rfl) ⟨rfl, N1, x1, bn1, by rw [e]; exact HL2, (gFM.trans fn1 fr2)⟩
  ·
    refine g_iload_n (q := 13) C dX8_window_12 rfl rfl ?_
    refine g_iconst (v := 1) (q := 14) C dX8_window_13 (by decide) rfl ?_
    refine g_sipush (v := 254) (q := 17) C dX8_window_14 (by decide) rfl ?_
    refine g_callSi (x := (rX8_within x1 1 254)) (q := 20) (As := [.int x1, .int 1, .int 254]) C gyX8_within t_1212 t_1211 (c_X8_within_m) dX8_window_17 rfl rfl rfl (Nat.le_of_ble_eq_true rfl) (Nat.le_of_ble_eq_true rfl) (Nat.le_of_ble_eq_true rfl) (Nat.le_of_ble_eq_true rfl) (Nat.le_of_ble_eq_true rfl) rfl ?_
    refine g_if_ne (t := 34) (q := 23) C dX8_window_20 (by decide) rfl (fun c_20 => ?_) (fun c_20 => ?_)
    ·
      refine g_aload_n (q := 35) C dX8_window_34 rfl rfl ?_
      refine g_getfield (v := .ref 125) (q := 38) C fX8_16 dX8_window_35 rfl HN1.1 rfl ?_
      refine g_bipush (v := 7) (q := 40) C dX8_window_38 (by decide) rfl ?_
      refine g_iload_n (q := 41) C dX8_window_40 rfl rfl ?_
      refine g_iastoreN (j := 7) (q := 42) C dX8_window_41 rfl (HN1.ar (i := 2) (n := 9) (by decide) rfl) (pk_in 7 9 (by decide)) (pk_cl 7) ?_
      refine gMsto (i := 2) (j := 7) (x := x1) HN1 (by decide) rfl rfl fun h3 HL3 fr3 => ?_
      have e : nW N1 x1 = (N1.put 2 7 x1) := ((if_pos c_9).trans (if_neg c_20))
      exact E.2.1 _ _ _ _ _ dX8_window_42 rfl (Nat.le_of_ble_eq_true rfl) (Nat.le_of_ble_eq_true rfl) ⟨rfl, N1, x1, bn1, by rw [e]; exact HL3, (gFM.trans fn1 fr3)⟩
    ·
      refine g_aload_n (q := 24) C dX8_window_23 rfl rfl ?_
      refine g_iconst (v := 5) (q := 25) C dX8_window_24 (by decide) rfl ?_
      refine g_aload_n (q := 26) C dX8_window_25 rfl rfl ?_
      refine g_getfield (v := .int ((N1.f 21))) (q := 29) C fX8_89 dX8_window_26 rfl HN1.1 rfl ?_
      refine g_iconst (v := 1) (q := 30) C dX8_window_29 (by decide) rfl ?_
      refine g_isub (q := 31) C dX8_window_30 rfl ?_
      refine g_callVvp (q := 34) (As := [.int 5, .int (((N1.f 21) - 1))]) C gyX8_wrong gvX8_wrong t_1222 (c_X8_wrong_m HN1) dX8_window_31 rfl HN1.1 rfl rfl rfl (Nat.le_of_ble_eq_true rfl) (Nat.le_of_ble_eq_true rfl) (Nat.le_of_ble_eq_true rfl) (Nat.le_of_ble_eq_true rfl) (Nat.le_of_ble_eq_true rfl) rfl (fun h4 z4 => ?_)
      obtain ⟨HL4, fr4⟩ := z4
      refine g_aload_n (q := 35) C dX8_window_34 rfl rfl ?_
      refine g_getfield (v := .ref 125) (q := 38) C fX8_16 dX8_window_35 rfl HL4.1 rfl ?_
      refine g_bipush (v := 7) (q := 40) C dX8_window_38 (by decide) rfl ?_
      refine g_iload_n (q := 41) C dX8_window_40 rfl rfl ?_
      refine g_iastoreN (j := 7) (q := 42) C dX8_window_41 rfl (HL4.ar (i := 2) (n := 9) (by decide) rfl) (pk_in 7 9 (by decide)) (pk_cl 7) ?_
      refine gMsto (i := 2) (j := 7) (x := x1) HL4 (by decide) rfl rfl fun h5 HL5 fr5 => ?_
      have e : nW N1 x1 = ((rX8_wrong N1 5 ((N1.f 21) - 1)).put 2 7 x1) := ((if_pos c_9).trans (if_pos c_20))
      exact E.2.1 _ _ _ _ _ dX8_window_42 rfl (Nat.le_of_ble_eq_true rfl) (Nat.le_of_ble_eq_true rfl) ⟨rfl, N1, x1, bn1, by rw [e]; exact HL5, (gFM.trans (gFM.trans fn1 fr4) fr5)⟩
def nL1 (N1 : gMd) (y x1 : Int32) : gMd := (if (N1.f 22) = 0 then (if y = (N1.f 23) then (if (x1 >>> (4 &&& 31)) ≤ 9 then N1 else (rX8_wrong N1 5 ((N1.f 21) - 1))) else N1) else N1)
def nL2 (N1 : gMd) (y x1 : Int32) : gMd := (if y = 1 then (if (N1.f 22) = 0 then (if y = (N1.f 23) then (if x1 = 0 then (N1.put 2 3 x1) else (rX8_wrong (N1.put 2 3 x1) 5 ((N1.f 21) - 1))) else (N1.put 2 3 x1)) else (N1.put 2 3 x1)) else (if (N1.f 22) = 0 then (if y = (N1.f 23) then (if x1 = 0 then N1 else (rX8_wrong N1 5 ((N1.f 21) - 1))) else N1) else N1))
theorem rB0 {z : Int32} (h : gIr z 15) (c : ¬ z &&& 1 = 0) : ¬ (z >>> (nI 0 &&& 31)) &&& 1 = 0 := by
  obtain ⟨b, hb, rfl⟩ := h
  exact (by decide +kernel : ∀ b : Fin 16, ¬ nI b.1 &&& 1 = 0 → ¬ (nI b.1 >>> (nI 0 &&& 31)) &&& 1 = 0) ⟨b, by omega⟩ c
theorem rB0n {z : Int32} (h : gIr z 15) (c : z &&& 1 = 0) : (z >>> (nI 0 &&& 31)) &&& 1 = 0 := by
  obtain ⟨b, hb, rfl⟩ := h
  exact (by decide +kernel : ∀ b : Fin 16, nI b.1 &&& 1 = 0 → (nI b.1 >>> (nI 0 &&& 31)) &&& 1 = 0) ⟨b, by omega⟩ c
theorem rB1 {z : Int32} (h : gIr z 15) (c : ¬ z &&& 2 = 0) : ¬ (z >>> (nI 1 &&& 31)) &&& 1 = 0 := by
  obtain ⟨b, hb, rfl⟩ := h
  exact (by decide +kernel : ∀ b : Fin 16, ¬ nI b.1 &&& 2 = 0 → ¬ (nI b.1 >>> (nI 1 &&& 31)) &&& 1 = 0) ⟨b, by omega⟩ c
theorem rB1n {z : Int32} (h : gIr z 15) (c : z &&& 2 = 0) : (z >>> (nI 1 &&& 31)) &&& 1 = 0 := by
  obtain ⟨b, hb, rfl⟩ := h
  exact (by decide +kernel : ∀ b : Fin 16, nI b.1 &&& 2 = 0 → (nI b.1 >>> (nI 1 &&& 31)) &&& 1 = 0) ⟨b, by omega⟩ c
theorem rB2 {z : Int32} (h : gIr z 15) (c : ¬ z &&& 4 = 0) : ¬ (z >>> (nI 2 &&& 31)) &&& 1 = 0 := by
  obtain ⟨b, hb, rfl⟩ := h
  exact (by decide +kernel : ∀ b : Fin 16, ¬ nI b.1 &&& 4 = 0 → ¬ (nI b.1 >>> (nI 2 &&& 31)) &&& 1 = 0) ⟨b, by omega⟩ c
theorem rB2n {z : Int32} (h : gIr z 15) (c : z &&& 4 = 0) : (z >>> (nI 2 &&& 31)) &&& 1 = 0 := by
  obtain ⟨b, hb, rfl⟩ := h
  exact (by decide +kernel : ∀ b : Fin 16, nI b.1 &&& 4 = 0 → (nI b.1 >>> (nI 2 &&& 31)) &&& 1 = 0) ⟨b, by omega⟩ c
theorem rB3 {z : Int32} (h : gIr z 15) (c : ¬ z &&& 8 = 0) : ¬ (z >>> (nI 3 &&& 31)) &&& 1 = 0 := by
  obtain ⟨b, hb, rfl⟩ := h
  exact (by decide +kernel : ∀ b : Fin 16, ¬ nI b.1 &&& 8 = 0 → ¬ (nI b.1 >>> (nI 3 &&& 31)) &&& 1 = 0) ⟨b, by omega⟩ c
theorem rB3n {z : Int32} (h : gIr z 15) (c : z &&& 8 = 0) : (z >>> (nI 3 &&& 31)) &&& 1 = 0 := by
  obtain ⟨b, hb, rfl⟩ := h
  exact (by decide +kernel : ∀ b : Fin 16, nI b.1 &&& 8 = 0 → (nI b.1 >>> (nI 3 &&& 31)) &&& 1 = 0) ⟨b, by omega⟩ c
section RM2
variable {t : List Int32} {M M' M1 E : gMd} {r : Int32 × rq} {x g y z : Int32} {q : rq}
theorem rL_0 {here : Int32} {k : Nat} (h : (rL t g here k r).1 = 0) : r.1 = 0 := by
  by_cases c : r.1 = 0
  · exact c
  · rw [rL_st c] at h; exact absurd h c
theorem rL_10 {here : Int32} {k : Nat} (hk : k < 3) (h : (rL t g here k r).1 = 0) : (rL t g here k r).2.f 10 = r.2.f 10 := by
  have h0 := rL_0 h
  have key : ∀ x, (rX3_readGroupByte r.2 g (nI k) x).2.f 10 = r.2.f 10 := fun x => by
    have : k = 0 ∨ k = 1 ∨ k = 2 := by omega
    rcases this with rfl | rfl | rfl
    · rw [rGb_0]; repeat' split
      all_goals rfl
    · rw [rGb_1]; repeat' split
      all_goals rfl
    · rw [rGb_2]; repeat' split
      all_goals rfl
  unfold rL
  rw [if_pos h0]
  repeat' split
  all_goals first | rfl | exact key _
theorem nL1.k : rK M (nL1 M y x) := by
  unfold nL1
  repeat' split
  all_goals first | exact rK.wr | exact rK.rf
theorem nL2.k : rK M (nL2 M y x) := by
  unfold nL2
  repeat' split
  all_goals first | exact rK.put.trans rK.wr | exact rK.wr | exact rK.put | exact rK.rf
theorem nF.k : rK M (nF M x) := by
  unfold nF
  repeat' split
  all_goals first | exact (rK.put.trans rK.put).trans rK.wr | exact rK.put.trans rK.put | exact rK.rf
theorem nW.k : rK M (nW M x) := by
  unfold nW
  repeat' split
  all_goals first | exact rK.wr.trans rK.put | exact rK.put | exact rK.rf
theorem nL1.f21 : (nL1 M y x).f 21 = M.f 21 := by
  unfold nL1
  repeat' split
  all_goals first | exact rWr.f (by decide) | rfl
theorem nL2.f21 : (nL2 M y x).f 21 = M.f 21 := by
  unfold nL2
  repeat' split
  all_goals first | rfl | exact rWr.f (by decide) | exact (rWr.f (by decide)).trans rfl
theorem nF.f21 : (nF M x).f 21 = M.f 21 := by
  unfold nF
  repeat' split
  all_goals first | rfl | exact rWr.f (by decide) | exact (rWr.f (by decide)).trans rfl
theorem nW.f21 : (nW M x).f 21 = M.f 21 := by
  unfold nW
  repeat' split
  all_goals first | rfl | exact (show _ = _ from rWr.f (by decide))
theorem rW22 {a b : Int32} (h : M.f 22 = 0) : (rX8_wrong M a b).f 22 = 8 * b + a := by rw [rWr0 h]; exact gset_s
theorem n0_4 : ¬ (4 : Int32) = 0 := by decide
theorem n0_5 : ¬ (5 : Int32) = 0 := by decide
theorem rl1 (T : rT t M) (H : rM t M r) (h : gBn M M' x) (hg : g = 1 → r.1 = 0 → r.2.f 10 = 0) : rM t (nL1 M' g x) (rLb t g 1 r) := by
  refine rFin T H h nL1.f21 (fun c => by unfold nL1; rw [if_neg c]) fun c Q e f _ => ?_
  have e23 : M'.f 23 = r.2.f 10 := by rw [e]; exact Q.2.1
  have e21 : M'.f 21 - 1 = r.2.f 8 := by rw [e]; show r.2.f 8 + 1 - 1 = _; exact rA1
  have QA : rQ M' (r.2.set 8 (r.2.f 8 + 1)) := by rw [e]; exact Q.at
  rw [rGb_1]
  unfold nL1
  rw [if_pos f]
  by_cases a : g = 1
  · have n : ¬ g = M'.f 23 := fun e9 => by rw [e23, hg a c, a] at e9; exact absurd e9 (by decide)
    rw [if_pos a, if_neg n]
    exact ⟨fun n => absurd rfl n, fun _ => ⟨f, QA⟩⟩
  · rw [if_neg a]
    by_cases b : g = r.2.f 10
    · rw [if_pos b, if_pos (b.trans e23.symm)]
      by_cases d : x >>> (4 &&& 31) ≤ 9
      · rw [if_pos d, if_pos d]; exact ⟨fun n => absurd rfl n, fun _ => ⟨f, QA⟩⟩
      · rw [if_neg d, if_neg d]; exact ⟨fun _ => by rw [rW22 f, e21], fun h => absurd h n0_5⟩
    · rw [if_neg b, if_neg (fun e9 => b (e9.trans e23))]
      exact ⟨fun n => absurd rfl n, fun _ => ⟨f, QA⟩⟩
theorem rl2 (T : rT t M) (H : rM t M r) (h : gBn M M' x) (hg : g = 1 → r.1 = 0 → r.2.f 10 = 0) : rM t (nL2 M' g x) (rLb t g 2 r) := by
  refine rFin T H h nL2.f21 (fun c => ?_) fun c Q e f _ => ?_
  · unfold nL2
    by_cases a : g = 1
    · rw [if_pos a, if_neg c]; rfl
    · rw [if_neg a, if_neg c]
  have e23 : M'.f 23 = r.2.f 10 := by rw [e]; exact Q.2.1
  have e21 : M'.f 21 - 1 = r.2.f 8 := by rw [e]; show r.2.f 8 + 1 - 1 = _; exact rA1
  have QA : rQ M' (r.2.set 8 (r.2.f 8 + 1)) := by rw [e]; exact Q.at
  rw [rGb_2]
  unfold nL2
  by_cases a : g = 1
  · have n : ¬ g = M'.f 23 := fun e9 => by rw [e23, hg a c, a] at e9; exact absurd e9 (by decide)
    rw [if_pos a, if_pos a, if_pos f, if_neg n]
    refine ⟨fun n => absurd rfl n, fun _ => ⟨f, ?_⟩⟩
    obtain ⟨a1, a2, a3, a4, a5, a6, a7, a8, a9, a10⟩ := QA
    exact ⟨a1, a2, a3, a4, a5, a6, rfl, a8, a9, a10⟩
  · rw [if_neg a, if_neg a, if_pos f]
    by_cases b : g = r.2.f 10
    · rw [if_pos b, if_pos (b.trans e23.symm)]
      by_cases d : x = 0
      · rw [if_pos d, if_pos d]; exact ⟨fun n => absurd rfl n, fun _ => ⟨f, QA⟩⟩
      · rw [if_neg d, if_neg d]; exact ⟨fun _ => by rw [rW22 f, e21], fun h => absurd h n0_5⟩
    · rw [if_neg b, if_neg (fun e9 => b (e9.trans e23))]
      exact ⟨fun n => absurd rfl n, fun _ => ⟨f, QA⟩⟩
theorem rl0f (T : rT t M) (H : rM t M r) (h : gBn M M' x) (hy : g = 1) : rM t (nF M' x) (rLb t g 0 r) := by
  refine rFin T H h nF.f21 (fun c => by unfold nF; rw [if_neg c]) fun c Q e f hx => ?_
  have e21 : M'.f 21 - 1 = r.2.f 8 := by rw [e]; show r.2.f 8 + 1 - 1 = _; exact rA1
  have QA : rQ M' (r.2.set 8 (r.2.f 8 + 1)) := by rw [e]; exact Q.at
  rw [rGb_0, if_pos hy]
  unfold nF
  rw [if_pos f, rClk hx, rBit hx]
  by_cases a : rX3_clockOf x = 0
  · rw [if_pos a, if_pos a]
    exact ⟨fun _ => by rw [rW22 (M := (M'.put 2 1 _).put 2 2 _) f, e21], fun h => absurd h n0_4⟩
  · rw [if_neg a, if_neg a]
    by_cases b : rX3_divisorOf x = 0
    · rw [if_pos b, if_pos b]
      exact ⟨fun _ => by rw [rW22 (M := (M'.put 2 1 _).put 2 2 _) f, e21], fun h => absurd h n0_4⟩
    · rw [if_neg b, if_neg b]
      refine ⟨fun n => absurd rfl n, fun _ => ⟨f, ?_⟩⟩
      obtain ⟨a1, a2, a3, a4, a5, a6, a7, a8, a9, a10⟩ := QA
      exact ⟨a1, a2, a3, a4, rfl, rfl, a7, a8, a9, a10⟩
theorem rWin (h : gIr x 255) : (rX8_within x 1 254 = 0 → x < 1 ∨ ¬ x ≤ 254) ∧ (¬ rX8_within x 1 254 = 0 → ¬ x < 1 ∧ x ≤ 254) := by
  obtain ⟨b, hb, rfl⟩ := h
  exact (by decide +kernel : ∀ b : Fin 256, (rX8_within (nI b.1) 1 254 = 0 → nI b.1 < 1 ∨ ¬ nI b.1 ≤ 254) ∧ (¬ rX8_within (nI b.1) 1 254 = 0 → ¬ nI b.1 < 1 ∧ nI b.1 ≤ 254)) ⟨b, by omega⟩
theorem rl0w (T : rT t M) (H : rM t M r) (h : gBn M M' x) (hy : ¬ g = 1) (hg : r.1 = 0 → g = r.2.f 10) : rM t (nW M' x) (rLb t g 0 r) := by
  refine rFin T H h nW.f21 (fun c => by unfold nW; rw [if_neg c]; rfl) fun c Q e f hx => ?_
  have e21 : M'.f 21 - 1 = r.2.f 8 := by rw [e]; show r.2.f 8 + 1 - 1 = _; exact rA1
  have QA : rQ M' (r.2.set 8 (r.2.f 8 + 1)) := by rw [e]; exact Q.at
  rw [rGb_0, if_neg hy, if_pos (hg c)]
  unfold nW
  rw [if_pos f]
  by_cases a : rX8_within x 1 254 = 0
  · rw [if_pos a]
    have w := (rWin hx).1 a
    have er : (if x < 1 then (5, r.2.set 5 x) else if x ≤ 254 then (0, r.2.set 5 x) else (5, r.2.set 5 x) : Int32 × rq) = (5, r.2.set 5 x) := by
      by_cases b : x < 1
      · rw [if_pos b]
      · rw [if_neg b, if_neg (w.resolve_left b)]
    rw [er]
    refine ⟨fun _ => ?_, fun h => absurd h n0_5⟩
    show (rX8_wrong M' 5 (M'.f 21 - 1)).f 22 = _
    rw [rW22 f, e21]
  · rw [if_neg a]
    have w := (rWin hx).2 a
    rw [if_neg w.1, if_pos w.2]
    refine ⟨fun n => absurd rfl n, fun _ => ⟨f, ?_⟩⟩
    obtain ⟨a1, a2, a3, a4, a5, a6, a7, a8, a9, a10⟩ := QA
    exact ⟨a1, a2, a3, a4, a5, a6, a7, a8, a9, rfl⟩
theorem rl0n (T : rT t M) (H : rM t M r) (h : gBn M M' x) (hy : ¬ g = 1) (hg : r.1 = 0 → ¬ g = r.2.f 10) : rM t M' (rLb t g 0 r) :=
  rS1 T H h fun c x => by rw [rGb_0, if_neg hy, if_neg (hg c)]
end RM2
set_option maxRecDepth 100000 in
set_option maxHeartbeats 4000000 in
theorem c_X8_groupToldx_r {hp : List gA} {M : gMd} {y z : Int32} {t : List Int32} {r : Int32 × rq} (HM : gMod hp M) (T : rT t M) (RZ : rM t M r) (hz15 : gIr z 15) (hg10 : y = 1 → r.1 = 0 → r.2.f 10 = 0) : gM yX8_groupTold cX8_groupTold 4 ((some .int)) 3 63 [.ref 122, .int y, .int z] (hp) (0) (0) (fun v h => ∃ x, v = some (.int x) ∧ ∃ M' M3, gMod h M' ∧ gFM hp h ∧ rK M M' ∧ rM t M3 (rL t y z 2 (rL t y z 1 (rL t y z 0 r))) ∧ ((z &&& 8 = 0 ∧ x = -1 ∧ M' = M3) ∨ (¬ z &&& 8 = 0 ∧ gBn M3 M' x))) := by
  refine gM_of (ls0 := [some (.ref 122), some (.int y), some (.int z), none]) (by decide +kernel) (Nat.le_of_ble_eq_true rfl) rfl fun X C E => ?_
  have J136 : ∀ (M1 : gMd) (x3 : Option Value) (hz : List gA), gMod hz M1 → gFM hp hz → rK M M1 → rM t M1 (rL t y z 2 (rL t y z 1 (rL t y z 0 r))) → (y = 1 → ((rL t y z 2 (rL t y z 1 (rL t y z 0 r)))).1 = 0 → ((rL t y z 2 (rL t y z 1 (rL t y z 0 r)))).2.f 10 = 0) → gG X 136 [some (.ref 122), some (.int y), some (.int z), x3] [] hz 0 0 := by
    intro M1 x3 hz0 HZ frz KZ RZ hg10
    have T1 := T.k KZ
    have hz := RZ.hz T1
    refine g_iload_n (q := 137) C dX8_groupTold_136 rfl rfl ?_
    refine g_bipush (v := 8) (q := 139) C dX8_groupTold_137 (by decide) rfl ?_
    refine g_iand (q := 140) C dX8_groupTold_139 rfl ?_
    refine g_if_eq (t := 150) (q := 143) C dX8_groupTold_140 (by decide) rfl (fun c_140 => ?_) (fun c_140 => ?_)
    ·
      refine g_iconst (v := (-1)) (q := 151) C dX8_groupTold_150 (by decide) rfl ?_
      exact E.1 _ _ _ _ _ _ _ dX8_groupTold_151 rfl rfl (Nat.le_of_ble_eq_true rfl) (Nat.le_of_ble_eq_true rfl) ⟨_, rfl, M1, M1, HZ, frz, KZ, RZ, Or.inl ⟨c_140, rfl, rfl⟩⟩
    ·
      refine g_aload_n (q := 144) C dX8_groupTold_143 rfl rfl ?_
      refine g_callVip (q := 147) (As := []) C gyX8_byteNext gvX8_byteNext t_1218 (c_X8_byteNext_r HZ hz) dX8_groupTold_144 rfl HZ.1 rfl rfl rfl (Nat.le_of_ble_eq_true rfl) (Nat.le_of_ble_eq_true rfl) (Nat.le_of_ble_eq_true rfl) (Nat.le_of_ble_eq_true rfl) (Nat.le_of_ble_eq_true rfl) rfl (fun x1 h1 z1 => ?_)
      obtain ⟨N1, HN1, fn1, bn1⟩ := z1
      refine g_goto (q := 151) C dX8_groupTold_147 (by decide) ?_
      exact E.1 _ _ _ _ _ _ _ dX8_groupTold_151 rfl rfl (Nat.le_of_ble_eq_true rfl) (Nat.le_of_ble_eq_true rfl) ⟨_, rfl, N1, M1, HN1, (gFM.trans frz fn1), (KZ.trans (rK.bn bn1)), RZ, Or.inr ⟨c_140, bn1⟩⟩
  have J83 : ∀ (M1 : gMd) (x3 : Option Value) (hz : List gA), gMod hz M1 → gFM hp hz → rK M M1 → rM t M1 (rL t y z 1 (rL t y z 0 r)) → (y = 1 → ((rL t y z 1 (rL t y z 0 r))).1 = 0 → ((rL t y z 1 (rL t y z 0 r))).2.f 10 = 0) → gG X 83 [some (.ref 122), some (.int y), some (.int z), x3] [] hz 0 0 := by
    intro M1 x3 hz0 HZ frz KZ RZ hg10
    have T1 := T.k KZ
    have hz := RZ.hz T1
    refine g_iload_n (q := 84) C dX8_groupTold_83 rfl rfl ?_
    refine g_iconst (v := 4) (q := 85) C dX8_groupTold_84 (by decide) rfl ?_
    refine g_iand (q := 86) C dX8_groupTold_85 rfl ?_
    refine g_if_eq (t := 136) (q := 89) C dX8_groupTold_86 (by decide) rfl (fun c_86 => ?_) (fun c_86 => ?_)
    ·
      exact J136 M1 _ _ HZ frz KZ (by rw [rL_1 (rB2n hz15 c_86)]; exact RZ) (fun a b => (rL_10 (by decide) b).trans (hg10 a (rL_0 b)))
    ·
      refine g_aload_n (q := 90) C dX8_groupTold_89 rfl rfl ?_
      refine g_callVip (q := 93) (As := []) C gyX8_byteNext gvX8_byteNext t_1218 (c_X8_byteNext_r HZ hz) dX8_groupTold_90 rfl HZ.1 rfl rfl rfl (Nat.le_of_ble_eq_true rfl) (Nat.le_of_ble_eq_true rfl) (Nat.le_of_ble_eq_true rfl) (Nat.le_of_ble_eq_true rfl) (Nat.le_of_ble_eq_true rfl) rfl (fun x2 h2 z2 => ?_)
      obtain ⟨N2, HN2, fn2, bn2⟩ := z2
      refine g_istore_n (q := 94) C dX8_groupTold_93 (Nat.le_of_ble_eq_true rfl) (by simp only [gset]; rfl) rfl ?_
      refine g_iload_n (q := 95) C dX8_groupTold_94 rfl rfl ?_
      refine g_iconst (v := 1) (q := 96) C dX8_groupTold_95 (by decide) rfl ?_
      refine g_icmp_ne (t := 106) (q := 99) C dX8_groupTold_96 (by decide) rfl (fun c_96 => ?_) (fun c_96 => ?_)
      ·
        refine g_aload_n (q := 107) C dX8_groupTold_106 rfl rfl ?_
        refine g_getfield (v := .int ((N2.f 22))) (q := 110) C fX8_86 dX8_groupTold_107 rfl HN2.1 rfl ?_
        refine g_if_ne (t := 136) (q := 113) C dX8_groupTold_110 (by decide) rfl (fun c_110 => ?_) (fun c_110 => ?_)
        ·
          have e : nL2 N2 y x2 = N2 := ((if_neg c_96).trans (if_neg c_110))
          exact J136 (nL2 N2 y x2) _ _ (by rw [e]; exact HN2) (gFM.trans frz fn2) ((KZ.trans (rK.bn bn2)).trans nL2.k) (by rw [rL_b (rB2 hz15 c_86)]; exact rl2 T1 RZ bn2 hg10) (fun a b => (rL_10 (by decide) b).trans (hg10 a (rL_0 b)))
        ·
          refine g_iload_n (q := 114) C dX8_groupTold_113 rfl rfl ?_
          refine g_aload_n (q := 115) C dX8_groupTold_114 rfl rfl ?_
          refine g_getfield (v := .int ((N2.f 23))) (q := 118) C fX8_113 dX8_groupTold_115 rfl HN2.1 rfl ?_
          refine g_icmp_ne (t := 136) (q := 121) C dX8_groupTold_118 (by decide) rfl (fun c_118 => ?_) (fun c_118 => ?_)
          ·
            have e : nL2 N2 y x2 = N2 := ((if_neg c_96).trans ((if_pos c_110).trans (if_neg c_118)))
            exact J136 (nL2 N2 y x2) _ _ (by rw [e]; exact HN2) (gFM.trans frz fn2) ((KZ.trans (rK.bn bn2)).trans nL2.k) (by rw [rL_b (rB2 hz15 c_86)]; exact rl2 T1 RZ bn2 hg10) (fun a b => (rL_10 (by decide) b).trans (hg10 a (rL_0 b)))
          ·
            refine g_iload_n (q := 122) C dX8_groupTold_121 rfl rfl ?_
            refine g_if_eq (t := 136) (q := 125) C dX8_groupTold_122 (by decide) rfl (fun c_122 => ?_) (fun c_122 => ?_)
            ·
              have e : nL2 N2 y x2 = N2 := ((if_neg c_96).trans ((if_pos c_110).trans ((if_pos c_118).trans (if_pos c_122))))
              exact J136 (nL2 N2 y x2) _ _ (by rw [e]; exact HN2) (gFM.trans frz fn2) ((KZ.trans (rK.bn bn2)).trans nL2.k) (by rw [rL_b (rB2 hz15 c_86)]; exact rl2 T1 RZ bn2 hg10) (fun a b => (rL_10 (by decide) b).trans (hg10 a (rL_0 b)))
            ·
              refine g_aload_n (q := 126) C dX8_groupTold_125 rfl rfl ?_
              refine g_iconst (v := 5) (q := 127) C dX8_groupTold_126 (by decide) rfl ?_
              refine g_aload_n (q := 128) C dX8_groupTold_127 rfl rfl ?_
              refine g_getfield (v := .int ((N2.f 21))) (q := 131) C fX8_89 dX8_groupTold_128 rfl HN2.1 rfl ?_
              refine g_iconst (v := 1) (q := 132) C dX8_groupTold_131 (by decide) rfl ?_
              refine g_isub (q := 133) C dX8_groupTold_132 rfl ?_
              refine g_callVvp (q := 136) (As := [.int 5, .int (((N2.f 21) - 1))]) C gyX8_wrong gvX8_wrong t_1222 (c_X8_wrong_m HN2) dX8_groupTold_133 rfl HN2.1 rfl rfl rfl (Nat.le_of_ble_eq_true rfl) (Nat.le_of_ble_eq_true rfl) (Nat.le_of_ble_eq_true rfl) (Nat.le_of_ble_eq_true rfl) (Nat.le_of_ble_eq_true rfl) rfl (fun h3 z3 => ?_)
              obtain ⟨HL3, fr3⟩ := z3
              have e : nL2 N2 y x2 = (rX8_wrong N2 5 ((N2.f 21) - 1)) := ((if_neg c_96).trans ((if_pos c_110).trans ((if_pos c_118).trans (if_neg c_122))))
              exact J136 (nL2 N2 y x2) _ _ (by rw [e]; exact HL3) (gFM.trans (gFM.trans frz fn2) fr3) ((KZ.trans (rK.bn bn2)).trans nL2.k) (by rw [rL_b (rB2 hz15 c_86)]; exact rl2 T1 RZ bn2 hg10) (fun a b => (rL_10 (by decide) b).trans (hg10 a (rL_0 b)))
      ·
        refine g_aload_n (q := 100) C dX8_groupTold_99 rfl rfl ?_
        refine g_getfield (v := .ref 125) (q := 103) C fX8_16 dX8_groupTold_100 rfl HN2.1 rfl ?_
        refine g_iconst (v := 3) (q := 104) C dX8_groupTold_103 (by decide) rfl ?_
        refine g_iload_n (q := 105) C dX8_groupTold_104 rfl rfl ?_
        refine g_iastoreN (j := 3) (q := 106) C dX8_groupTold_105 rfl (HN2.ar (i := 2) (n := 9) (by decide) rfl) (pk_in 3 9 (by decide)) (pk_cl 3) ?_
        refine gMsto (i := 2) (j := 3) (x := x2) HN2 (by decide) rfl rfl fun h4 HL4 fr4 => ?_
        refine g_aload_n (q := 107) C dX8_groupTold_106 rfl rfl ?_
        refine g_getfield (v := .int ((N2.f 22))) (q := 110) C fX8_86 dX8_groupTold_107 rfl HL4.1 rfl ?_
        refine g_if_ne (t := 136) (q := 113) C dX8_groupTold_110 (by decide) rfl (fun c_110 => ?_) (fun c_110 => ?_)
        ·
          have e : nL2 N2 y x2 = (N2.put 2 3 x2) := ((if_pos c_96).trans (if_neg c_110))
          exact J136 (nL2 N2 y x2) _ _ (by rw [e]; exact HL4) (gFM.trans (gFM.trans frz fn2) fr4) ((KZ.trans (rK.bn bn2)).trans nL2.k) (by rw [rL_b (rB2 hz15 c_86)]; exact rl2 T1 RZ bn2 hg10) (fun a b => (rL_10 (by decide) b).trans (hg10 a (rL_0 b)))
        ·
          refine g_iload_n (q := 114) C dX8_groupTold_113 rfl rfl ?_
          refine g_aload_n (q := 115) C dX8_groupTold_114 rfl rfl ?_
          refine g_getfield (v := .int ((N2.f 23))) (q := 118) C fX8_113 dX8_groupTold_115 rfl HL4.1 rfl ?_
          refine g_icmp_ne (t := 136) (q := 121) C dX8_groupTold_118 (by decide) rfl (fun c_118 => ?_) (fun c_118 => ?_)
          ·
            have e : nL2 N2 y x2 = (N2.put 2 3 x2) := ((if_pos c_96).trans ((if_pos c_110).trans (if_neg c_118)))
            exact J136 (nL2 N2 y x2) _ _ (by rw [e]; exact HL4) (gFM.trans (gFM.trans frz fn2) fr4) ((KZ.trans (rK.bn bn2)).trans nL2.k) (by rw [rL_b (rB2 hz15 c_86)]; exact rl2 T1 RZ bn2 hg10) (fun a b => (rL_10 (by decide) b).trans (hg10 a (rL_0 b)))
          ·
            refine g_iload_n (q := 122) C dX8_groupTold_121 rfl rfl ?_
            refine g_if_eq (t := 136) (q := 125) C dX8_groupTold_122 (by decide) rfl (fun c_122 => ?_) (fun c_122 => ?_)
            ·
              have e : nL2 N2 y x2 = (N2.put 2 3 x2) := ((if_pos c_96).trans ((if_pos c_110).trans ((if_pos c_118).trans (if_pos c_122))))
              exact J136 (nL2 N2 y x2) _ _ (by rw [e]; exact HL4) (gFM.trans (gFM.trans frz fn2) fr4) ((KZ.trans (rK.bn bn2)).trans nL2.k) (by rw [rL_b (rB2 hz15 c_86)]; exact rl2 T1 RZ bn2 hg10) (fun a b => (rL_10 (by decide) b).trans (hg10 a (rL_0 b)))
            ·
              refine g_aload_n (q := 126) C dX8_groupTold_125 rfl rfl ?_
              refine g_iconst (v := 5) (q := 127) C dX8_groupTold_126 (by decide) rfl ?_
              refine g_aload_n (q := 128) C dX8_groupTold_127 rfl rfl ?_
              refine g_getfield (v := .int ((N2.f 21))) (q := 131) C fX8_89 dX8_groupTold_128 rfl HL4.1 rfl ?_
              refine g_iconst (v := 1) (q := 132) C dX8_groupTold_131 (by decide) rfl ?_
              refine g_isub (q := 133) C dX8_groupTold_132 rfl ?_
              refine g_callVvp (q := 136) (As := [.int 5, .int (((N2.f 21) - 1))]) C gyX8_wrong gvX8_wrong t_1222 (c_X8_wrong_m HL4) dX8_groupTold_133 rfl HL4.1 rfl rfl rfl (Nat.le_of_ble_eq_true rfl) (Nat.le_of_ble_eq_true rfl) (Nat.le_of_ble_eq_true rfl) (Nat.le_of_ble_eq_true rfl) (Nat.le_of_ble_eq_true rfl) rfl (fun h5 z5 => ?_)
              obtain ⟨HL5, fr5⟩ := z5
              have e : nL2 N2 y x2 = (rX8_wrong (N2.put 2 3 x2) 5 ((N2.f 21) - 1)) := ((if_pos c_96).trans ((if_pos c_110).trans ((if_pos c_118).trans (if_neg c_122))))
              exact J136 (nL2 N2 y x2) _ _ (by rw [e]; exact HL5) (gFM.trans (gFM.trans (gFM.trans frz fn2) fr4) fr5) ((KZ.trans (rK.bn bn2)).trans nL2.k) (by rw [rL_b (rB2 hz15 c_86)]; exact rl2 T1 RZ bn2 hg10) (fun a b => (rL_10 (by decide) b).trans (hg10 a (rL_0 b)))
      
  have J38 : ∀ (M1 : gMd) (x3 : Option Value) (hz : List gA), gMod hz M1 → gFM hp hz → rK M M1 → rM t M1 (rL t y z 0 r) → (y = 1 → ((rL t y z 0 r)).1 = 0 → ((rL t y z 0 r)).2.f 10 = 0) → gG X 38 [some (.ref 122), some (.int y), some (.int z), x3] [] hz 0 0 := by
    intro M1 x3 hz0 HZ frz KZ RZ hg10
    have T1 := T.k KZ
    have hz := RZ.hz T1
    refine g_iload_n (q := 39) C dX8_groupTold_38 rfl rfl ?_
    refine g_iconst (v := 2) (q := 40) C dX8_groupTold_39 (by decide) rfl ?_
    refine g_iand (q := 41) C dX8_groupTold_40 rfl ?_
    refine g_if_eq (t := 83) (q := 44) C dX8_groupTold_41 (by decide) rfl (fun c_41 => ?_) (fun c_41 => ?_)
    ·
      exact J83 M1 _ _ HZ frz KZ (by rw [rL_1 (rB1n hz15 c_41)]; exact RZ) (fun a b => (rL_10 (by decide) b).trans (hg10 a (rL_0 b)))
    ·
      refine g_aload_n (q := 45) C dX8_groupTold_44 rfl rfl ?_
      refine g_callVip (q := 48) (As := []) C gyX8_byteNext gvX8_byteNext t_1218 (c_X8_byteNext_r HZ hz) dX8_groupTold_45 rfl HZ.1 rfl rfl rfl (Nat.le_of_ble_eq_true rfl) (Nat.le_of_ble_eq_true rfl) (Nat.le_of_ble_eq_true rfl) (Nat.le_of_ble_eq_true rfl) (Nat.le_of_ble_eq_true rfl) rfl (fun x6 h6 z6 => ?_)
      obtain ⟨N6, HN6, fn6, bn6⟩ := z6
      refine g_istore_n (q := 49) C dX8_groupTold_48 (Nat.le_of_ble_eq_true rfl) (by simp only [gset]; rfl) rfl ?_
      refine g_aload_n (q := 50) C dX8_groupTold_49 rfl rfl ?_
      refine g_getfield (v := .int ((N6.f 22))) (q := 53) C fX8_86 dX8_groupTold_50 rfl HN6.1 rfl ?_
      refine g_if_ne (t := 83) (q := 56) C dX8_groupTold_53 (by decide) rfl (fun c_53 => ?_) (fun c_53 => ?_)
      ·
        have e : nL1 N6 y x6 = N6 := (if_neg c_53)
        exact J83 (nL1 N6 y x6) _ _ (by rw [e]; exact HN6) (gFM.trans frz fn6) ((KZ.trans (rK.bn bn6)).trans nL1.k) (by rw [rL_b (rB1 hz15 c_41)]; exact rl1 T1 RZ bn6 hg10) (fun a b => (rL_10 (by decide) b).trans (hg10 a (rL_0 b)))
      ·
        refine g_iload_n (q := 57) C dX8_groupTold_56 rfl rfl ?_
        refine g_aload_n (q := 58) C dX8_groupTold_57 rfl rfl ?_
        refine g_getfield (v := .int ((N6.f 23))) (q := 61) C fX8_113 dX8_groupTold_58 rfl HN6.1 rfl ?_
        refine g_icmp_ne (t := 83) (q := 64) C dX8_groupTold_61 (by decide) rfl (fun c_61 => ?_) (fun c_61 => ?_)
        ·
          have e : nL1 N6 y x6 = N6 := ((if_pos c_53).trans (if_neg c_61))
          exact J83 (nL1 N6 y x6) _ _ (by rw [e]; exact HN6) (gFM.trans frz fn6) ((KZ.trans (rK.bn bn6)).trans nL1.k) (by rw [rL_b (rB1 hz15 c_41)]; exact rl1 T1 RZ bn6 hg10) (fun a b => (rL_10 (by decide) b).trans (hg10 a (rL_0 b)))
        ·
          refine g_iload_n (q := 65) C dX8_groupTold_64 rfl rfl ?_
          refine g_iconst (v := 4) (q := 66) C dX8_groupTold_65 (by decide) rfl ?_
          refine g_ishr (q := 67) C dX8_groupTold_66 rfl ?_
          refine g_bipush (v := 9) (q := 69) C dX8_groupTold_67 (by decide) rfl ?_
          refine g_icmp_le (t := 83) (q := 72) C dX8_groupTold_69 (by decide) rfl (fun c_69 => ?_) (fun c_69 => ?_)
          ·
            have e : nL1 N6 y x6 = N6 := ((if_pos c_53).trans ((if_pos c_61).trans (if_pos c_69)))
            exact J83 (nL1 N6 y x6) _ _ (by rw [e]; exact HN6) (gFM.trans frz fn6) ((KZ.trans (rK.bn bn6)).trans nL1.k) (by rw [rL_b (rB1 hz15 c_41)]; exact rl1 T1 RZ bn6 hg10) (fun a b => (rL_10 (by decide) b).trans (hg10 a (rL_0 b)))
          ·
            refine g_aload_n (q := 73) C dX8_groupTold_72 rfl rfl ?_
            refine g_iconst (v := 5) (q := 74) C dX8_groupTold_73 (by decide) rfl ?_
            refine g_aload_n (q := 75) C dX8_groupTold_74 rfl rfl ?_
            refine g_getfield (v := .int ((N6.f 21))) (q := 78) C fX8_89 dX8_groupTold_75 rfl HN6.1 rfl ?_
            refine g_iconst (v := 1) (q := 79) C dX8_groupTold_78 (by decide) rfl ?_
            refine g_isub (q := 80) C dX8_groupTold_79 rfl ?_
            refine g_callVvp (q := 83) (As := [.int 5, .int (((N6.f 21) - 1))]) C gyX8_wrong gvX8_wrong t_1222 (c_X8_wrong_m HN6) dX8_groupTold_80 rfl HN6.1 rfl rfl rfl (Nat.le_of_ble_eq_true rfl) (Nat.le_of_ble_eq_true rfl) (Nat.le_of_ble_eq_true rfl) (Nat.le_of_ble_eq_true rfl) (Nat.le_of_ble_eq_true rfl) rfl (fun h7 z7 => ?_)
            obtain ⟨HL7, fr7⟩ := z7
            have e : nL1 N6 y x6 = (rX8_wrong N6 5 ((N6.f 21) - 1)) := ((if_pos c_53).trans ((if_pos c_61).trans (if_neg c_69)))
            exact J83 (nL1 N6 y x6) _ _ (by rw [e]; exact HL7) (gFM.trans (gFM.trans frz fn6) fr7) ((KZ.trans (rK.bn bn6)).trans nL1.k) (by rw [rL_b (rB1 hz15 c_41)]; exact rl1 T1 RZ bn6 hg10) (fun a b => (rL_10 (by decide) b).trans (hg10 a (rL_0 b)))
      
  have hz := RZ.hz T
  have RZ9 : r.1 = 0 → M.f 23 = r.2.f 10 := fun h => (RZ.2 h).1.2.1
  refine g_iload_n (q := 1) C dX8_groupTold_0 rfl rfl ?_
  refine g_iconst (v := 1) (q := 2) C dX8_groupTold_1 (by decide) rfl ?_
  refine g_iand (q := 3) C dX8_groupTold_2 rfl ?_
  refine g_if_eq (t := 38) (q := 6) C dX8_groupTold_3 (by decide) rfl (fun c_3 => ?_) (fun c_3 => ?_)
  ·
    exact J38 M _ _ HM gFM.rf rK.rf (by rw [rL_1 (rB0n hz15 c_3)]; exact RZ) (fun a b => (rL_10 (by decide) b).trans (hg10 a (rL_0 b)))
  ·
    refine g_iload_n (q := 7) C dX8_groupTold_6 rfl rfl ?_
    refine g_iconst (v := 1) (q := 8) C dX8_groupTold_7 (by decide) rfl ?_
    refine g_icmp_ne (t := 18) (q := 11) C dX8_groupTold_8 (by decide) rfl (fun c_8 => ?_) (fun c_8 => ?_)
    ·
      refine g_iload_n (q := 19) C dX8_groupTold_18 rfl rfl ?_
      refine g_aload_n (q := 20) C dX8_groupTold_19 rfl rfl ?_
      refine g_getfield (v := .int ((M.f 23))) (q := 23) C fX8_113 dX8_groupTold_20 rfl HM.1 rfl ?_
      refine g_icmp_ne (t := 33) (q := 26) C dX8_groupTold_23 (by decide) rfl (fun c_23 => ?_) (fun c_23 => ?_)
      ·
        refine g_aload_n (q := 34) C dX8_groupTold_33 rfl rfl ?_
        refine g_callVip (q := 37) (As := []) C gyX8_byteNext gvX8_byteNext t_1218 (c_X8_byteNext_r HM hz) dX8_groupTold_34 rfl HM.1 rfl rfl rfl (Nat.le_of_ble_eq_true rfl) (Nat.le_of_ble_eq_true rfl) (Nat.le_of_ble_eq_true rfl) (Nat.le_of_ble_eq_true rfl) (Nat.le_of_ble_eq_true rfl) rfl (fun x8 h8 z8 => ?_)
        obtain ⟨N8, HN8, fn8, bn8⟩ := z8
        refine g_pop (q := 38) C dX8_groupTold_37 rfl rfl ?_
        exact J38 _ _ _ HN8 fn8 (rK.bn bn8) (by rw [rL_b (rB0 hz15 c_3)]; exact rl0n T RZ bn8 c_8 (fun b0 e => c_23 (e.trans (RZ9 b0).symm))) (fun a b => (rL_10 (by decide) b).trans (hg10 a (rL_0 b)))
      ·
        refine g_aload_n (q := 27) C dX8_groupTold_26 rfl rfl ?_
        refine g_callVvp (q := 30) (As := []) C gyX8_window gvX8_window t_1244 (c_X8_windowx_r HM hz) dX8_groupTold_27 rfl HM.1 rfl rfl rfl (Nat.le_of_ble_eq_true rfl) (Nat.le_of_ble_eq_true rfl) (Nat.le_of_ble_eq_true rfl) (Nat.le_of_ble_eq_true rfl) (Nat.le_of_ble_eq_true rfl) rfl (fun h9 z9 => ?_)
        obtain ⟨N9, x9, bn9, HN9, fn9⟩ := z9
        refine g_goto (q := 38) C dX8_groupTold_30 (by decide) ?_
        exact J38 _ _ _ HN9 fn9 ((rK.bn bn9).trans nW.k) (by rw [rL_b (rB0 hz15 c_3)]; exact rl0w T RZ bn9 c_8 (fun b0 => c_23.trans (RZ9 b0))) (fun a b => (rL_10 (by decide) b).trans (hg10 a (rL_0 b)))
    ·
      refine g_aload_n (q := 12) C dX8_groupTold_11 rfl rfl ?_
      refine g_callVvp (q := 15) (As := []) C gyX8_factor gvX8_factor t_1234 (c_X8_factorx_r HM hz) dX8_groupTold_12 rfl HM.1 rfl rfl rfl (Nat.le_of_ble_eq_true rfl) (Nat.le_of_ble_eq_true rfl) (Nat.le_of_ble_eq_true rfl) (Nat.le_of_ble_eq_true rfl) (Nat.le_of_ble_eq_true rfl) rfl (fun h10 z10 => ?_)
      obtain ⟨N10, x10, bn10, HN10, fn10⟩ := z10
      refine g_goto (q := 38) C dX8_groupTold_15 (by decide) ?_
      exact J38 _ _ _ HN10 fn10 ((rK.bn bn10).trans nF.k) (by rw [rL_b (rB0 hz15 c_3)]; exact rl0f T RZ bn10 c_8) (fun a b => (rL_10 (by decide) b).trans (hg10 a (rL_0 b)))
def nA (N1 : gMd) (y x1 : Int32) : gMd := (if (x1 &&& 15) = 0 then (if y = 4 then (if (x1 >>> (4 &&& 31)) = 0 then N1 else (rX8_wrong N1 3 ((N1.f 21) - 1))) else N1) else (if (x1 &&& 15) = 1 then (if y = 4 then (if (x1 >>> (4 &&& 31)) = 0 then N1 else (rX8_wrong N1 3 ((N1.f 21) - 1))) else N1) else (if (x1 &&& 15) = 15 then (if y = 4 then (if (x1 >>> (4 &&& 31)) = 0 then N1 else (rX8_wrong N1 3 ((N1.f 21) - 1))) else N1) else (rX8_wrong N1 3 ((N1.f 21) - 1)))))
def nB (N1 : gMd) (y x1 : Int32) : gMd := (if y = 1 then (N1.put 2 4 (x1 &&& 15)) else N1)
def nC (N1 : gMd) (y x1 : Int32) : gMd := (if (x1 &&& 15) = 0 then N1 else (N1.set 24 1))
def nD (N1 : gMd) (y x1 : Int32) : gMd := (if (x1 &&& 15) = 1 then (if y ≤ 1 then N1 else (if (N1.f 23) = 0 then (N1.set 23 (y + 1)) else N1)) else N1)
/-- what a TD byte makes of the class's record -/
def tdQ (q : rq) (y z : Int32) : rq :=
  if z &&& 15 = 0 then (if y = 1 then (q.set 9 (z >>> (4 &&& 31))).set 3 (z &&& 15) else q.set 9 (z >>> (4 &&& 31)))
  else if y = 1 then ((q.set 9 (z >>> (4 &&& 31))).set 3 (z &&& 15)).set 6 1
  else if z &&& 15 = 1 then (if q.f 10 = 0 then ((q.set 9 (z >>> (4 &&& 31))).set 10 (y + 1)).set 6 1 else (q.set 9 (z >>> (4 &&& 31))).set 6 1)
  else (q.set 9 (z >>> (4 &&& 31))).set 6 1
def tdG (y z : Int32) : Prop := (z &&& 15 = 0 ∨ z &&& 15 = 1 ∨ z &&& 15 = 15) ∧ (y = 4 → z >>> (4 &&& 31) = 0)
section RM3
variable {t : List Int32} {M M' M1 E : gMd} {r : Int32 × rq} {x y z : Int32} {q : rq} {g : Nat}
theorem rTdG (h : tdG y z) : rX3_readTd q y z = (0, tdQ q y z) := by
  obtain ⟨h1, h2⟩ := h
  unfold rX3_readTd tdQ
  revert h1 h2
  generalize z &&& 15 = p
  generalize z >>> (4 &&& 31) = w
  intro h1 h2
  have n1 : ¬ (1 : Int32) = 0 := by decide
  have n15 : ¬ (15 : Int32) = 0 := by decide
  have m15 : ¬ (15 : Int32) = 1 := by decide
  have n4 : ¬ (4 : Int32) = 1 := by decide
  rcases h1 with rfl | rfl | rfl
  · by_cases a : y = 4
    · have b := h2 a
      subst a
      simp only [b, if_true, if_false, n4, reduceIte]
    · by_cases c : y = 1
      · simp only [a, c, if_true, if_false, reduceIte]
        try (subst c; simp only [show ¬ (1 : Int32) = 4 by decide, if_false, reduceIte])
      · simp only [a, c, if_false, reduceIte, show ¬ (0 : Int32) = 1 by decide]
  · by_cases a : y = 4
    · have b := h2 a
      subst a
      simp only [b, if_true, if_false, n4, n1, reduceIte]
    · by_cases c : y = 1
      · subst c
        simp only [show ¬ (1 : Int32) = 4 by decide, n1, if_true, if_false, reduceIte]
      · simp only [a, c, n1, if_true, if_false, reduceIte]
  · by_cases a : y = 4
    · have b := h2 a
      subst a
      simp only [b, if_true, if_false, n4, n15, m15, reduceIte]
    · by_cases c : y = 1
      · subst c
        simp only [show ¬ (1 : Int32) = 4 by decide, n15, m15, if_true, if_false, reduceIte]
      · simp only [a, c, n15, m15, if_true, if_false, reduceIte]
theorem rTdB (h : ¬ tdG y z) : rX3_readTd q y z = (3, q.set 9 (z >>> (4 &&& 31))) := by
  unfold rX3_readTd
  unfold tdG at h
  revert h
  generalize z &&& 15 = p
  generalize z >>> (4 &&& 31) = w
  intro h
  by_cases a : p = 0
  · have b : y = 4 ∧ ¬ w = 0 := Classical.byContradiction fun n => h ⟨Or.inl a, fun e => Classical.byContradiction fun c => n ⟨e, c⟩⟩
    rw [if_pos a, if_pos b.1, if_neg b.2]
  · rw [if_neg a]
    by_cases a1 : p = 1
    · have b : y = 4 ∧ ¬ w = 0 := Classical.byContradiction fun n => h ⟨Or.inr (Or.inl a1), fun e => Classical.byContradiction fun c => n ⟨e, c⟩⟩
      rw [if_pos a1, if_pos b.1, if_neg b.2]
    · rw [if_neg a1]
      by_cases a2 : p = 15
      · have b : y = 4 ∧ ¬ w = 0 := Classical.byContradiction fun n => h ⟨Or.inr (Or.inr a2), fun e => Classical.byContradiction fun c => n ⟨e, c⟩⟩
        rw [if_pos a2, if_pos b.1, if_neg b.2]
      · rw [if_neg a2]
theorem nAG (h : tdG y x) : nA M y x = M := by
  unfold nA
  obtain ⟨h1, h2⟩ := h
  have k : (if y = 4 then (if x >>> (4 &&& 31) = 0 then M else rX8_wrong M 3 (M.f 21 - 1)) else M) = M := by
    by_cases a : y = 4
    · rw [if_pos a, if_pos (h2 a)]
    · rw [if_neg a]
  repeat' split
  all_goals first | rfl | (simp_all; done) | skip
theorem nAB (h : ¬ tdG y x) : nA M y x = rX8_wrong M 3 (M.f 21 - 1) := by
  unfold nA
  unfold tdG at h
  repeat' split
  all_goals first | rfl | (exfalso; simp_all; done) | skip
theorem nA.k : rK M (nA M y x) := by
  unfold nA
  repeat' split
  all_goals first | exact rK.wr | exact rK.rf
theorem nB.k : rK M (nB M y x) := by
  unfold nB
  repeat' split
  all_goals first | exact rK.put | exact rK.rf
theorem nC.k : rK M (nC M y x) := by
  unfold nC
  repeat' split
  all_goals first | exact rK.rf | exact rK.set (by omega)
theorem nD.k : rK M (nD M y x) := by
  unfold nD
  repeat' split
  all_goals first | exact rK.rf | exact rK.set (by omega)
theorem nB.f {k : Nat} : (nB M y x).f k = M.f k := by
  unfold nB
  repeat' split
  all_goals rfl
theorem nC.f {k : Nat} (h : ¬ k = 24) : (nC M y x).f k = M.f k := by
  unfold nC
  repeat' split
  all_goals first | rfl | exact gset_n h
theorem nD.f {k : Nat} (h : ¬ k = 23) : (nD M y x).f k = M.f k := by
  unfold nD
  repeat' split
  all_goals first | rfl | exact gset_n h
theorem rLe0 {w : Int32} (h : gIr w 15) (c : w ≤ 0) : w = 0 := by
  obtain ⟨b, hb, rfl⟩ := h
  exact (by decide +kernel : ∀ b : Fin 16, nI b.1 ≤ 0 → nI b.1 = 0) ⟨b, by omega⟩ c
theorem rGe0 {w : Int32} (h : gIr w 255) : 0 ≤ w := by
  obtain ⟨b, hb, rfl⟩ := h
  exact nI_pos' (by omega)
theorem rGs_0 {n : Nat} (h : r.2.f 9 = 0) : rGs t n g r = r := by
  cases n with
  | zero => rfl
  | succ n =>
    unfold rGs
    by_cases c : r.1 = 0
    · rw [if_pos c, if_pos h]
    · rw [if_neg c]
theorem rM.grp {v : Int32} (H : rM t M r) (h : r.1 = 0) (e : v = nI g) : rM t (M.put 2 5 v) (0, (r.2.set 4 (nI g)).set 9 0) := by
  obtain ⟨⟨h1, h2⟩, h3⟩ := H
  obtain ⟨⟨a1, a2, a3, a4, a5, a6, a7, a8, a9, a10⟩, p, hp, ep⟩ := h3 h
  exact ⟨⟨h1.trans h, h2⟩, fun _ => ⟨⟨a1, a2, a3, a4, a5, a6, a7, a8, by subst e; rfl, a10⟩, p, hp, ep⟩⟩
theorem rGp (h1 : 1 ≤ g) (Q : rQ M q) (e : q.f 4 = nI (g - 1)) : M.a 2 5 + 1 = nI g := by
  rw [Q.2.2.2.2.2.2.2.2.1, e, nI_1]
  congr 1
  omega
theorem rBx (T : rT t M) (H : rM t M r) (h : gBn M M' x) : gIr x 255 := by
  rcases rBn T H h with ⟨-, -, e⟩ | ⟨-, -, -, e⟩ | ⟨-, -, -, -, e⟩
  · exact ⟨0, by decide, e⟩
  · exact ⟨0, by decide, e⟩
  · exact e
theorem rT.bk (h : gBn M M' x) (T : rT t M') : rT t M := by
  have K := rK.bn h
  exact ⟨(K.1 20 (by decide) (by decide) (by decide) (by decide)).symm.trans T.1, T.2.1, fun q hq => (K.2 0 q (by decide)).symm.trans (T.2.2.1 q hq), fun q => by rw [← K.2 0 q (by decide)]; exact T.2.2.2 q⟩
theorem rShr {w : Int32} (h : gIr w 255) : gIr (w >>> (4 &&& 31)) 15 := by
  obtain ⟨b, hb, rfl⟩ := h
  have key : ∀ b : Fin 256, nI b.1 >>> (4 &&& 31) = nI (b.1 / 16) := by decide +kernel
  exact ⟨b / 16, by omega, key ⟨b, by omega⟩⟩
theorem rL_4 {k : Nat} {a here : Int32} (h : (rL t a here k r).1 = 0) : (rL t a here k r).2.f 4 = r.2.f 4 := by
  have h0 := rL_0 h
  have kt : ∀ a z, (rX3_readTd r.2 a z).2.f 4 = r.2.f 4 := fun a z => by
    by_cases c : tdG a z
    · rw [rTdG c]
      unfold tdQ
      repeat' split
      all_goals rfl
    · rw [rTdB c]; rfl
  have key : ∀ j x, (rX3_readGroupByte r.2 a j x).2.f 4 = r.2.f 4 := fun j x => by
    unfold rX3_readGroupByte
    repeat' split
    all_goals first | exact kt _ _ | (unfold rX3_readFirstGroup; repeat' split) | (unfold rX3_readLinkGroup; repeat' split) | rfl
    all_goals rfl
  unfold rL
  rw [if_pos h0]
  repeat' split
  all_goals first | rfl | exact key _ _
theorem rL_9 {k : Nat} {a here : Int32} (hk : k < 3) (h : (rL t a here k r).1 = 0) : (rL t a here k r).2.f 9 = r.2.f 9 := by
  have h0 := rL_0 h
  have key : ∀ x, (rX3_readGroupByte r.2 a (nI k) x).2.f 9 = r.2.f 9 := fun x => by
    have : k = 0 ∨ k = 1 ∨ k = 2 := by omega
    rcases this with rfl | rfl | rfl
    · rw [rGb_0]; repeat' split
      all_goals rfl
    · rw [rGb_1]; repeat' split
      all_goals rfl
    · rw [rGb_2]; repeat' split
      all_goals rfl
  unfold rL
  rw [if_pos h0]
  repeat' split
  all_goals first | rfl | exact key _
/-- the TD letter, come whole -/
theorem rL3_e {here : Int32} (b8 : ¬ here &&& 8 = 0) (hw : gIr here 15) (h : (rL t y here 3 r).1 = 0) : r.1 = 0 ∧ ¬ nI t.length ≤ r.2.f 8 ∧ (rX3_readTd r.2 y (gat t (r.2.f 8))).1 = 0 ∧ rL t y here 3 r = (0, (rX3_readTd r.2 y (gat t (r.2.f 8))).2.set 8 ((rX3_readTd r.2 y (gat t (r.2.f 8))).2.f 8 + 1)) := by
  have h0 := rL_0 h
  rw [rL_b (rB3 hw b8)] at h ⊢
  unfold rLb at h ⊢
  rw [if_pos h0, rGb_3] at h ⊢
  by_cases c : nI t.length ≤ r.2.f 8
  · rw [if_pos c] at h; exact absurd h (gx8 (c := 1) (by decide) (by decide))
  · rw [if_neg c] at h ⊢
    by_cases d : (rX3_readTd r.2 y (gat t (r.2.f 8))).1 = 0
    · rw [if_pos d]; exact ⟨h0, c, d, rfl⟩
    · rw [if_neg d] at h
      exact absurd h (by
        have := rGbx (q := r.2) (y := y) (z := nI 3) (w := gat t (r.2.f 8)) (x := (rX3_readTd r.2 y (gat t (r.2.f 8))).2.f 8)
        rw [rGb_3] at this
        exact this d)
theorem rL3_9 {here : Int32} (b8 : ¬ here &&& 8 = 0) (hw : gIr here 15) (bn : gBn M M' x) (T : rT t M) (H : rM t M r) (h : (rL t y here 3 r).1 = 0) : (rL t y here 3 r).2.f 9 = x >>> (4 &&& 31) := by
  obtain ⟨h0, c, d, e⟩ := rL3_e b8 hw h
  have ex : x = gat t (r.2.f 8) := by
    rcases rBn T H bn with ⟨n, -⟩ | ⟨-, n, -⟩ | ⟨-, -, -, e, -⟩
    · exact absurd h0 n
    · exact absurd n c
    · exact e
  rw [e, ex]
  by_cases G : tdG y (gat t (r.2.f 8))
  · rw [rTdG G]
    unfold tdQ
    repeat' split
    all_goals rfl
  · rw [rTdB G] at d; exact absurd d (by decide)
theorem rL3_0 {here : Int32} (hy : y = 4) (b8 : ¬ here &&& 8 = 0) (hw : gIr here 15) (bn : gBn M M' x) (T : rT t M) (H : rM t M r) (h : (rL t y here 3 r).1 = 0) : x >>> (4 &&& 31) = 0 := by
  obtain ⟨h0, c, d, e⟩ := rL3_e b8 hw h
  have ex : x = gat t (r.2.f 8) := by
    rcases rBn T H bn with ⟨n, -⟩ | ⟨-, n, -⟩ | ⟨-, -, -, e, -⟩
    · exact absurd h0 n
    · exact absurd n c
    · exact e
  rw [ex]
  by_cases G : tdG y (gat t (r.2.f 8))
  · exact G.2 hy
  · rw [rTdB G] at d; exact absurd d (by decide)
theorem rG1 (h : 1 ≤ g ∧ g ≤ 4) (e : nI g = 1) : g = 1 := nI_inj (by omega) (by decide) e
theorem rl3 (h1 : 1 ≤ g) (h4 : g ≤ 4) (T : rT t M) (H : rM t M r) (h : gBn M M' x) : rM t (nD (nC (nB (nA M' (nI g) x) (nI g) x) (nI g) x) (nI g) x) (rLb t (nI g) 3 r) := by
  have c21 : (nD (nC (nB (nA M' (nI g) x) (nI g) x) (nI g) x) (nI g) x).f 21 = (nA M' (nI g) x).f 21 := (nD.f (by decide)).trans ((nC.f (by decide)).trans nB.f)
  have c22 : (nD (nC (nB (nA M' (nI g) x) (nI g) x) (nI g) x) (nI g) x).f 22 = (nA M' (nI g) x).f 22 := (nD.f (by decide)).trans ((nC.f (by decide)).trans nB.f)
  have a21 : (nA M' (nI g) x).f 21 = M'.f 21 := by
    by_cases G : tdG (nI g) x
    · rw [nAG G]
    · rw [nAB G]; exact rWr.f (by decide)
  refine rFin T H h (c21.trans a21) (fun c => c22.trans ?_) fun c Q e f hx => ?_
  · by_cases G : tdG (nI g) x
    · rw [nAG G]
    · rw [nAB G]; unfold rX8_wrong; rw [if_neg c]
  have e21 : M'.f 21 - 1 = r.2.f 8 := by rw [e]; show r.2.f 8 + 1 - 1 = _; exact rA1
  have QA : rQ M' (r.2.set 8 (r.2.f 8 + 1)) := by rw [e]; exact Q.at
  rw [rGb_3]
  by_cases G : tdG (nI g) x
  · rw [rTdG G]
    refine ⟨fun n => absurd rfl n, fun _ => ⟨by rw [c22, nAG G]; exact f, ?_⟩⟩
    rw [nAG G]
    obtain ⟨a1, a2, a3, a4, a5, a6, a7, a8, a9, a10⟩ := QA
    have a2' : M'.f 23 = r.2.f 10 := a2
    by_cases y1 : nI g = 1
    · have yl : nI g ≤ 1 := by rw [y1]; exact Int32.le_refl _
      have eB : nB M' (nI g) x = M'.put 2 4 (x &&& 15) := if_pos y1
      rw [eB]
      by_cases p0 : x &&& 15 = 0
      · have eC : ∀ N, nC N (nI g) x = N := fun N => if_pos p0
        have eD : ∀ N, nD N (nI g) x = N := fun N => by
          unfold nD
          rw [if_neg (by rw [p0]; decide)]
        have eT : tdQ r.2 (nI g) x = (r.2.set 9 (x >>> (4 &&& 31))).set 3 (x &&& 15) := (if_pos p0).trans (if_pos y1)
        rw [eC, eD, eT]
        exact ⟨a1, a2, a3, a4, a5, a6, a7, rfl, a9, a10⟩
      · have eC : ∀ N, nC N (nI g) x = N.set 24 1 := fun N => if_neg p0
        have eD : ∀ N, nD N (nI g) x = N := fun N => by
          unfold nD
          by_cases p1 : x &&& 15 = 1
          · rw [if_pos p1, if_pos yl]
          · rw [if_neg p1]
        have eT : tdQ r.2 (nI g) x = ((r.2.set 9 (x >>> (4 &&& 31))).set 3 (x &&& 15)).set 6 1 := (if_neg p0).trans (if_pos y1)
        rw [eC, eD, eT]
        exact ⟨a1, a2, rfl, a4, a5, a6, a7, rfl, a9, a10⟩
    · have yl : ¬ nI g ≤ 1 := fun e9 => y1 (by
        have : ¬ 1 < g := fun l => nI_ge (a := 1) l (by omega) e9
        have : g = 1 := by omega
        rw [this]; rfl)
      have eB : nB M' (nI g) x = M' := if_neg y1
      rw [eB]
      by_cases p0 : x &&& 15 = 0
      · have eC : ∀ N, nC N (nI g) x = N := fun N => if_pos p0
        have eD : ∀ N, nD N (nI g) x = N := fun N => by
          unfold nD
          rw [if_neg (by rw [p0]; decide)]
        have eT : tdQ r.2 (nI g) x = r.2.set 9 (x >>> (4 &&& 31)) := (if_pos p0).trans (if_neg y1)
        rw [eC, eD, eT]
        exact ⟨a1, a2, a3, a4, a5, a6, a7, a8, a9, a10⟩
      · have eC : ∀ N, nC N (nI g) x = N.set 24 1 := fun N => if_neg p0
        rw [eC]
        by_cases p1 : x &&& 15 = 1
        · by_cases s0 : r.2.f 10 = 0
          · have eD : nD (M'.set 24 1) (nI g) x = (M'.set 24 1).set 23 (nI g + 1) := by
              unfold nD
              rw [if_pos p1, if_neg yl, if_pos (show (M'.set 24 1).f 23 = 0 from a2'.trans s0)]
            have eT : tdQ r.2 (nI g) x = ((r.2.set 9 (x >>> (4 &&& 31))).set 10 (nI g + 1)).set 6 1 := (if_neg p0).trans ((if_neg y1).trans ((if_pos p1).trans (if_pos s0)))
            rw [eD, eT]
            exact ⟨a1, rfl, rfl, a4, a5, a6, a7, a8, a9, a10⟩
          · have eD : nD (M'.set 24 1) (nI g) x = M'.set 24 1 := by
              unfold nD
              rw [if_pos p1, if_neg yl, if_neg (show ¬ (M'.set 24 1).f 23 = 0 from fun e9 => s0 (a2'.symm.trans e9))]
            have eT : tdQ r.2 (nI g) x = (r.2.set 9 (x >>> (4 &&& 31))).set 6 1 := (if_neg p0).trans ((if_neg y1).trans ((if_pos p1).trans (if_neg s0)))
            rw [eD, eT]
            exact ⟨a1, a2, rfl, a4, a5, a6, a7, a8, a9, a10⟩
        · have eD : nD (M'.set 24 1) (nI g) x = M'.set 24 1 := by
            unfold nD
            rw [if_neg p1]
          have eT : tdQ r.2 (nI g) x = (r.2.set 9 (x >>> (4 &&& 31))).set 6 1 := (if_neg p0).trans ((if_neg y1).trans (if_neg p1))
          rw [eD, eT]
          exact ⟨a1, a2, rfl, a4, a5, a6, a7, a8, a9, a10⟩
  · rw [rTdB G]
    refine ⟨fun _ => ?_, fun h => absurd h (by decide)⟩
    rw [c22, nAB G, rW22 f, e21]
end RM3
set_option maxRecDepth 100000 in
set_option maxHeartbeats 4000000 in
theorem c_X8_groupsToldx_r {hp : List gA} {M : gMd} {y : Int32} {t : List Int32} {r : Int32 × rq} (HM : gMod hp M) (T : rT t M) (RZ : rM t M r) (hy : r.1 = 0 → y = r.2.f 9 ∧ gIr y 15 ∧ r.2.f 10 = 0 ∧ r.2.f 4 = 0) : gM yX8_groupsTold cX8_groupsTold 6 (none) 4 86 [.ref 122, .int y] (hp) (0) (0) (fun v h => v = none ∧ ∃ M', gMod h M' ∧ gFM hp h ∧ rK M M' ∧ rM t M' (rGs t 4 1 r)) := by
  refine gM_of (ls0 := [some (.ref 122), some (.int y), none, none, none, none]) (by decide +kernel) (Nat.le_of_ble_eq_true rfl) rfl fun X C E => ?_
  refine g_iload_n (q := 1) C dX8_groupsTold_0 rfl rfl ?_
  refine g_istore_n (q := 2) C dX8_groupsTold_1 (Nat.le_of_ble_eq_true rfl) (by simp only [gset]; rfl) rfl ?_
  refine g_iconst (v := 1) (q := 3) C dX8_groupsTold_2 (by decide) rfl ?_
  refine g_istore_n (q := 4) C dX8_groupsTold_3 (Nat.le_of_ble_eq_true rfl) (by simp only [gset]; rfl) rfl ?_
  obtain ⟨F, hF⟩ : ∃ F, rGs t 4 1 r = F := ⟨_, rfl⟩
  have LL : ∀ (n g : Nat) (w : Int32) (M1 : gMd) (R1 : Int32 × rq) (x4 x5 : Option Value) (hz0 : List gA), n + g = 5 → 1 ≤ g → gMod hz0 M1 → gFM hp hz0 → rK M M1 → rM t M1 R1 → rGs t n g R1 = F → (R1.1 = 0 → w = R1.2.f 9 ∧ gIr w 15 ∧ (g = 1 → R1.2.f 10 = 0) ∧ R1.2.f 4 = nI (g - 1) ∧ (g = 5 → w = 0)) → gG X 4 [some (.ref 122), some (.int y), some (.int w), some (.int ((nI g))), x4, x5] [] hz0 0 0 := by
    intro n
    induction n with
    | zero =>
      intro g w M1 R1 x4 x5 hz0 hg hg1 HZ frz KZ RZ hr hw
      have T1 := T.k KZ
      refine g_aload_n (q := 5) C dX8_groupsTold_4 rfl rfl ?_
      refine g_getfield (v := .int ((M1.f 22))) (q := 8) C fX8_86 dX8_groupsTold_5 rfl HZ.1 rfl ?_
      refine g_if_ne (t := 153) (q := 11) C dX8_groupsTold_8 (by decide) rfl (fun c_8 => ?_) (fun c_8 => ?_)
      ·
        have r0 : ¬ R1.1 = 0 := fun h => c_8 (RZ.1.1.trans h)
        have e : rGs t 0 g R1 = R1 := rGs_st r0
        exact E.2.1 _ _ _ _ _ dX8_groupsTold_153 rfl (Nat.le_of_ble_eq_true rfl) (Nat.le_of_ble_eq_true rfl) ⟨rfl, _, HZ, frz, KZ, by rw [hF, ← hr, e]; exact RZ⟩
      ·
        refine g_iload_n (q := 12) C dX8_groupsTold_11 rfl rfl ?_
        refine g_if_le (t := 153) (q := 15) C dX8_groupsTold_12 (by decide) rfl (fun c_12 => ?_) (fun c_12 => ?_)
        ·
          have r0 : R1.1 = 0 := RZ.1.1.symm.trans c_8
          obtain ⟨w1, w2, w3, w4, w5⟩ := hw r0
          have w0 : R1.2.f 9 = 0 := by rw [← w1]; exact rLe0 w2 c_12
          have e : rGs t 0 g R1 = R1 := rfl
          exact E.2.1 _ _ _ _ _ dX8_groupsTold_153 rfl (Nat.le_of_ble_eq_true rfl) (Nat.le_of_ble_eq_true rfl) ⟨rfl, _, HZ, frz, KZ, by rw [hF, ← hr, e]; exact RZ⟩
        ·
          exfalso
          have r0 : R1.1 = 0 := RZ.1.1.symm.trans c_8
          exact c_12 (by rw [(hw r0).2.2.2.2 (by omega)]; exact Int32.le_refl _)
    | succ n ih =>
      intro g w M1 R1 x4 x5 hz0 hg hg1 HZ frz KZ RZ hr hw
      have T1 := T.k KZ
      refine g_aload_n (q := 5) C dX8_groupsTold_4 rfl rfl ?_
      refine g_getfield (v := .int ((M1.f 22))) (q := 8) C fX8_86 dX8_groupsTold_5 rfl HZ.1 rfl ?_
      refine g_if_ne (t := 153) (q := 11) C dX8_groupsTold_8 (by decide) rfl (fun c_8 => ?_) (fun c_8 => ?_)
      ·
        have r0 : ¬ R1.1 = 0 := fun h => c_8 (RZ.1.1.trans h)
        have e : rGs t (n + 1) g R1 = R1 := rGs_st r0
        exact E.2.1 _ _ _ _ _ dX8_groupsTold_153 rfl (Nat.le_of_ble_eq_true rfl) (Nat.le_of_ble_eq_true rfl) ⟨rfl, _, HZ, frz, KZ, by rw [hF, ← hr, e]; exact RZ⟩
      ·
        refine g_iload_n (q := 12) C dX8_groupsTold_11 rfl rfl ?_
        refine g_if_le (t := 153) (q := 15) C dX8_groupsTold_12 (by decide) rfl (fun c_12 => ?_) (fun c_12 => ?_)
        ·
          have r0 : R1.1 = 0 := RZ.1.1.symm.trans c_8
          obtain ⟨w1, w2, w3, w4, w5⟩ := hw r0
          have w0 : R1.2.f 9 = 0 := by rw [← w1]; exact rLe0 w2 c_12
          have e : rGs t (n + 1) g R1 = R1 := (if_pos r0).trans (if_pos w0)
          exact E.2.1 _ _ _ _ _ dX8_groupsTold_153 rfl (Nat.le_of_ble_eq_true rfl) (Nat.le_of_ble_eq_true rfl) ⟨rfl, _, HZ, frz, KZ, by rw [hF, ← hr, e]; exact RZ⟩
        ·
          have r0 : R1.1 = 0 := RZ.1.1.symm.trans c_8
          obtain ⟨w1, w2, w3, w4, w5⟩ := hw r0
          have w0 : ¬ R1.2.f 9 = 0 := fun h => c_12 (by rw [w1, h]; exact Int32.le_refl _)
          have eG : rGs t (n + 1) g R1 = rGs t n (g + 1) (rL t (nI g) w 3 (rL t (nI g) w 2 (rL t (nI g) w 1 (rL t (nI g) w 0 (0, (R1.2.set 4 (nI g)).set 9 0))))) := by rw [w1]; exact (if_pos r0).trans (if_neg w0)
          rw [eG] at hr
          refine g_aload_n (q := 16) C dX8_groupsTold_15 rfl rfl ?_
          refine g_getfield (v := .ref 125) (q := 19) C fX8_16 dX8_groupsTold_16 rfl HZ.1 rfl ?_
          refine g_iconst (v := 5) (q := 20) C dX8_groupsTold_19 (by decide) rfl ?_
          refine g_dup2 (q := 21) C dX8_groupsTold_20 rfl rfl rfl ?_
          refine g_ialoadN (x := (M1.a 2 5)) (j := 5) (q := 22) C dX8_groupsTold_21 rfl (HZ.ar (i := 2) (n := 9) (by decide) rfl) (pk_in 5 9 (by decide)) (pk_cl 5) rfl ?_
          refine g_iconst (v := 1) (q := 23) C dX8_groupsTold_22 (by decide) rfl ?_
          refine g_iadd (q := 24) C dX8_groupsTold_23 rfl ?_
          refine g_iastoreN (j := 5) (q := 25) C dX8_groupsTold_24 rfl (HZ.ar (i := 2) (n := 9) (by decide) rfl) (pk_in 5 9 (by decide)) (pk_cl 5) ?_
          refine gMsto (i := 2) (j := 5) (x := ((M1.a 2 5) + 1)) HZ (by decide) rfl rfl fun h1 HL1 fr1 => ?_
          refine g_aload_n (q := 26) C dX8_groupsTold_25 rfl rfl ?_
          refine g_iload_n (q := 27) C dX8_groupsTold_26 rfl rfl ?_
          refine g_iload_n (q := 28) C dX8_groupsTold_27 rfl rfl ?_
          refine g_callVip (q := 31) (As := [.int ((nI g)), .int w]) C gyX8_groupTold gvX8_groupTold t_1230 (c_X8_groupToldx_r (t := t) (r := (0, (R1.2.set 4 (nI g)).set 9 0)) HL1 (T1.k rK.put) (rM.grp RZ r0 (rGp hg1 (RZ.2 r0).1 w4)) w2 (fun a _ => w3 (rG1 ⟨hg1, by omega⟩ a))) dX8_groupsTold_28 rfl HL1.1 rfl rfl rfl (Nat.le_of_ble_eq_true rfl) (Nat.le_of_ble_eq_true rfl) (Nat.le_of_ble_eq_true rfl) (Nat.le_of_ble_eq_true rfl) (Nat.le_of_ble_eq_true rfl) rfl (fun x2 h2 z2 => ?_)
          obtain ⟨N2, M3, HN2, fn2, K2, RZ3, X2⟩ := z2
          refine g_istore (q := 33) C dX8_groupsTold_31 (Nat.le_of_ble_eq_true rfl) (by simp only [gset]; rfl) rfl ?_
          obtain ⟨R3, e3⟩ : ∃ R3, R3 = (rL t (nI g) w 2 (rL t (nI g) w 1 (rL t (nI g) w 0 (0, (R1.2.set 4 (nI g)).set 9 0)))) := ⟨_, rfl⟩
          rw [← e3] at hr RZ3
          have T3 : rT t M3 := by
            rcases X2 with ⟨-, -, e⟩ | ⟨-, b⟩
            · rw [← e]; exact (T1.k rK.put).k K2
            · exact (rT.bk b ((T1.k rK.put).k K2))
          have f9 : R3.1 = 0 → R3.2.f 9 = 0 := fun h => by
            rw [e3] at h ⊢
            rw [rL_9 (by decide) h, rL_9 (by decide) (rL_0 h), rL_9 (by decide) (rL_0 (rL_0 h))]; rfl
          have f4 : R3.1 = 0 → R3.2.f 4 = nI g := fun h => by
            rw [e3] at h ⊢
            rw [rL_4 h, rL_4 (rL_0 h), rL_4 (rL_0 (rL_0 h))]; rfl
          refine g_aload_n (q := 34) C dX8_groupsTold_33 rfl rfl ?_
          refine g_getfield (v := .int ((N2.f 22))) (q := 37) C fX8_86 dX8_groupsTold_34 rfl HN2.1 rfl ?_
          refine g_if_ne (t := 45) (q := 40) C dX8_groupsTold_37 (by decide) rfl (fun c_37 => ?_) (fun c_37 => ?_)
          ·
            have RN : rM t N2 (rL t (nI g) w 3 R3) := by
              rcases X2 with ⟨b8, -, eN⟩ | ⟨b8, bn⟩
              · rw [rL_1 (rB3n w2 b8), eN]; exact RZ3
              · rw [rL_b (rB3 w2 b8)]; exact rFin T3 RZ3 bn rfl (fun _ => rfl) (fun _ _ _ f _ => absurd f c_37)
            have ns : ¬ (rL t (nI g) w 3 R3).1 = 0 := fun h => c_37 (RN.1.1.trans h)
            exact E.2.1 _ _ _ _ _ dX8_groupsTold_45 rfl (Nat.le_of_ble_eq_true rfl) (Nat.le_of_ble_eq_true rfl) ⟨rfl, _, HN2, (gFM.trans (gFM.trans frz fr1) fn2), (KZ.trans rK.put).trans K2, by rw [hF, ← hr, rGs_st ns]; exact RN⟩
          ·
            refine g_iload (q := 42) C dX8_groupsTold_40 rfl rfl ?_
            refine g_if_ge (t := 46) (q := 45) C dX8_groupsTold_42 (by decide) rfl (fun c_42 => ?_) (fun c_42 => ?_)
            ·
              obtain ⟨b8, bn⟩ : ¬ w &&& 8 = 0 ∧ gBn M3 N2 x2 := by
                rcases X2 with ⟨-, e, -⟩ | h
                · rw [e] at c_42; exact absurd c_42 (by decide)
                · exact h
              have J142 : ∀ (D0 : gMd) (h0z : List gA), gMod h0z D0 → gFM hp h0z → D0 = nD (nC (nB (nA N2 (nI g) x2) (nI g) x2) (nI g) x2) (nI g) x2 → gG X 142 [some (.ref 122), some (.int y), some (.int w), some (.int ((nI g))), some (.int x2), some (.int ((x2 &&& 15)))] [] h0z 0 0 := by
                intro D0 h0z H0 fr0 eD
                have RN : rM t D0 (rL t (nI g) w 3 R3) := by rw [eD, rL_b (rB3 w2 b8)]; exact rl3 (by omega) (by omega) T3 RZ3 bn
                have KN : rK M D0 := by rw [eD]; exact ((((((KZ.trans rK.put).trans K2).trans nA.k).trans nB.k).trans nC.k).trans nD.k)
                refine g_iload (q := 144) C dX8_groupsTold_142 rfl rfl ?_
                refine g_iconst (v := 4) (q := 145) C dX8_groupsTold_144 (by decide) rfl ?_
                refine g_ishr (q := 146) C dX8_groupsTold_145 rfl ?_
                refine g_istore_n (q := 147) C dX8_groupsTold_146 (Nat.le_of_ble_eq_true rfl) (by simp only [gset]; rfl) rfl ?_
                refine g_iinc (v := (nI (g + 1))) (q := 150) C dX8_groupsTold_147 rfl (nI_1 g) (by simp only [gset]; rfl) rfl ?_
                refine g_goto (q := 4) C dX8_groupsTold_150 (by decide) ?_
                exact ih (g + 1) _ D0 _ _ _ _ (by omega) (by omega) H0 fr0 KN RN hr (fun h => ⟨(rL3_9 b8 w2 bn T3 RZ3 h).symm, rShr (rBx T3 RZ3 bn), fun e => absurd e (by omega), by rw [rL_4 h, f4 (rL_0 h)]; rfl, fun e => by rw [rL3_9 b8 w2 bn T3 RZ3 h]; exact rL3_0 (by rw [show g = 4 by omega]; rfl) b8 w2 bn T3 RZ3 h⟩)
              have J117 : ∀ (D0 : gMd) (h0z : List gA), gMod h0z D0 → gFM hp h0z → D0 = nC (nB (nA N2 (nI g) x2) (nI g) x2) (nI g) x2 → gG X 117 [some (.ref 122), some (.int y), some (.int w), some (.int ((nI g))), some (.int x2), some (.int ((x2 &&& 15)))] [] h0z 0 0 := by
                intro D0 h0z H0 fr0 eD
                refine g_iload (q := 119) C dX8_groupsTold_117 rfl rfl ?_
                refine g_iconst (v := 1) (q := 120) C dX8_groupsTold_119 (by decide) rfl ?_
                refine g_icmp_ne (t := 142) (q := 123) C dX8_groupsTold_120 (by decide) rfl (fun c_120 => ?_) (fun c_120 => ?_)
                ·
                  have e : nD D0 (nI g) x2 = D0 := (if_neg c_120)
                  exact J142 (nD D0 (nI g) x2) _ (by rw [e]; exact H0) fr0 (by rw [eD])
                ·
                  refine g_iload_n (q := 124) C dX8_groupsTold_123 rfl rfl ?_
                  refine g_iconst (v := 1) (q := 125) C dX8_groupsTold_124 (by decide) rfl ?_
                  refine g_icmp_le (t := 142) (q := 128) C dX8_groupsTold_125 (by decide) rfl (fun c_125 => ?_) (fun c_125 => ?_)
                  ·
                    have e : nD D0 (nI g) x2 = D0 := ((if_pos c_120).trans (if_pos c_125))
                    exact J142 (nD D0 (nI g) x2) _ (by rw [e]; exact H0) fr0 (by rw [eD])
                  ·
                    refine g_aload_n (q := 129) C dX8_groupsTold_128 rfl rfl ?_
                    refine g_getfield (v := .int ((D0.f 23))) (q := 132) C fX8_113 dX8_groupsTold_129 rfl H0.1 rfl ?_
                    refine g_if_ne (t := 142) (q := 135) C dX8_groupsTold_132 (by decide) rfl (fun c_132 => ?_) (fun c_132 => ?_)
                    ·
                      have e : nD D0 (nI g) x2 = D0 := ((if_pos c_120).trans ((if_neg c_125).trans (if_neg c_132)))
                      exact J142 (nD D0 (nI g) x2) _ (by rw [e]; exact H0) fr0 (by rw [eD])
                    ·
                      refine g_aload_n (q := 136) C dX8_groupsTold_135 rfl rfl ?_
                      refine g_iload_n (q := 137) C dX8_groupsTold_136 rfl rfl ?_
                      refine g_iconst (v := 1) (q := 138) C dX8_groupsTold_137 (by decide) rfl ?_
                      refine g_iadd (q := 139) C dX8_groupsTold_138 rfl ?_
                      refine g_putfield (q := 142) C fX8_113 dX8_groupsTold_139 rfl H0.1 (Nat.le_of_ble_eq_true rfl) (Or.inl rfl) rfl rfl (by intro z h; cases h) ?_
                      refine gMput (j := 23) (x := ((nI g) + 1)) H0 rfl fun h3 HL3 fr3 => ?_
                      have e : nD D0 (nI g) x2 = (D0.set 23 ((nI g) + 1)) := ((if_pos c_120).trans ((if_neg c_125).trans (if_pos c_132)))
                      exact J142 (nD D0 (nI g) x2) _ (by rw [e]; exact HL3) (gFM.trans fr0 fr3) (by rw [eD])
              have J107 : ∀ (D0 : gMd) (h0z : List gA), gMod h0z D0 → gFM hp h0z → D0 = nB (nA N2 (nI g) x2) (nI g) x2 → gG X 107 [some (.ref 122), some (.int y), some (.int w), some (.int ((nI g))), some (.int x2), some (.int ((x2 &&& 15)))] [] h0z 0 0 := by
                intro D0 h0z H0 fr0 eD
                refine g_iload (q := 109) C dX8_groupsTold_107 rfl rfl ?_
                refine g_if_eq (t := 117) (q := 112) C dX8_groupsTold_109 (by decide) rfl (fun c_109 => ?_) (fun c_109 => ?_)
                ·
                  have e : nC D0 (nI g) x2 = D0 := (if_pos c_109)
                  exact J117 (nC D0 (nI g) x2) _ (by rw [e]; exact H0) fr0 (by rw [eD])
                ·
                  refine g_aload_n (q := 113) C dX8_groupsTold_112 rfl rfl ?_
                  refine g_iconst (v := 1) (q := 114) C dX8_groupsTold_113 (by decide) rfl ?_
                  refine g_putfield (q := 117) C fX8_123 dX8_groupsTold_114 rfl H0.1 (Nat.le_of_ble_eq_true rfl) (Or.inl rfl) rfl rfl (by intro z h; cases h) ?_
                  refine gMput (j := 24) (x := 1) H0 rfl fun h4 HL4 fr4 => ?_
                  have e : nC D0 (nI g) x2 = (D0.set 24 1) := (if_neg c_109)
                  exact J117 (nC D0 (nI g) x2) _ (by rw [e]; exact HL4) (gFM.trans fr0 fr4) (by rw [eD])
              have J94 : ∀ (D0 : gMd) (h0z : List gA), gMod h0z D0 → gFM hp h0z → D0 = nA N2 (nI g) x2 → gG X 94 [some (.ref 122), some (.int y), some (.int w), some (.int ((nI g))), some (.int x2), some (.int ((x2 &&& 15)))] [] h0z 0 0 := by
                intro D0 h0z H0 fr0 eD
                refine g_iload_n (q := 95) C dX8_groupsTold_94 rfl rfl ?_
                refine g_iconst (v := 1) (q := 96) C dX8_groupsTold_95 (by decide) rfl ?_
                refine g_icmp_ne (t := 107) (q := 99) C dX8_groupsTold_96 (by decide) rfl (fun c_96 => ?_) (fun c_96 => ?_)
                ·
                  have e : nB D0 (nI g) x2 = D0 := (if_neg c_96)
                  exact J107 (nB D0 (nI g) x2) _ (by rw [e]; exact H0) fr0 (by rw [eD])
                ·
                  refine g_aload_n (q := 100) C dX8_groupsTold_99 rfl rfl ?_
                  refine g_getfield (v := .ref 125) (q := 103) C fX8_16 dX8_groupsTold_100 rfl H0.1 rfl ?_
                  refine g_iconst (v := 4) (q := 104) C dX8_groupsTold_103 (by decide) rfl ?_
                  refine g_iload (q := 106) C dX8_groupsTold_104 rfl rfl ?_
                  refine g_iastoreN (j := 4) (q := 107) C dX8_groupsTold_106 rfl (H0.ar (i := 2) (n := 9) (by decide) rfl) (pk_in 4 9 (by decide)) (pk_cl 4) ?_
                  refine gMsto (i := 2) (j := 4) (x := (x2 &&& 15)) H0 (by decide) rfl rfl fun h5 HL5 fr5 => ?_
                  have e : nB D0 (nI g) x2 = (D0.put 2 4 (x2 &&& 15)) := (if_pos c_96)
                  exact J107 (nB D0 (nI g) x2) _ (by rw [e]; exact HL5) (gFM.trans fr0 fr5) (by rw [eD])
              refine g_iload (q := 48) C dX8_groupsTold_46 rfl rfl ?_
              refine g_bipush (v := 15) (q := 50) C dX8_groupsTold_48 (by decide) rfl ?_
              refine g_iand (q := 51) C dX8_groupsTold_50 rfl ?_
              refine g_istore (q := 53) C dX8_groupsTold_51 (Nat.le_of_ble_eq_true rfl) (by simp only [gset]; rfl) rfl ?_
              refine g_iload (q := 55) C dX8_groupsTold_53 rfl rfl ?_
              refine g_if_eq (t := 71) (q := 58) C dX8_groupsTold_55 (by decide) rfl (fun c_55 => ?_) (fun c_55 => ?_)
              ·
                refine g_iload_n (q := 72) C dX8_groupsTold_71 rfl rfl ?_
                refine g_iconst (v := 4) (q := 73) C dX8_groupsTold_72 (by decide) rfl ?_
                refine g_icmp_ne (t := 94) (q := 76) C dX8_groupsTold_73 (by decide) rfl (fun c_73 => ?_) (fun c_73 => ?_)
                ·
                  have e : nA N2 (nI g) x2 = N2 := ((if_pos c_55).trans (if_neg c_73))
                  exact J94 (nA N2 (nI g) x2) _ (by rw [e]; exact HN2) (gFM.trans (gFM.trans frz fr1) fn2) rfl
                ·
                  refine g_iload (q := 78) C dX8_groupsTold_76 rfl rfl ?_
                  refine g_iconst (v := 4) (q := 79) C dX8_groupsTold_78 (by decide) rfl ?_
                  refine g_ishr (q := 80) C dX8_groupsTold_79 rfl ?_
                  refine g_if_eq (t := 94) (q := 83) C dX8_groupsTold_80 (by decide) rfl (fun c_80 => ?_) (fun c_80 => ?_)
                  ·
                    have e : nA N2 (nI g) x2 = N2 := ((if_pos c_55).trans ((if_pos c_73).trans (if_pos c_80)))
                    exact J94 (nA N2 (nI g) x2) _ (by rw [e]; exact HN2) (gFM.trans (gFM.trans frz fr1) fn2) rfl
                  ·
                    refine g_aload_n (q := 84) C dX8_groupsTold_83 rfl rfl ?_
                    refine g_iconst (v := 3) (q := 85) C dX8_groupsTold_84 (by decide) rfl ?_
                    refine g_aload_n (q := 86) C dX8_groupsTold_85 rfl rfl ?_
                    refine g_getfield (v := .int ((N2.f 21))) (q := 89) C fX8_89 dX8_groupsTold_86 rfl HN2.1 rfl ?_
                    refine g_iconst (v := 1) (q := 90) C dX8_groupsTold_89 (by decide) rfl ?_
                    refine g_isub (q := 91) C dX8_groupsTold_90 rfl ?_
                    refine g_callVvp (q := 94) (As := [.int 3, .int (((N2.f 21) - 1))]) C gyX8_wrong gvX8_wrong t_1222 (c_X8_wrong_m HN2) dX8_groupsTold_91 rfl HN2.1 rfl rfl rfl (Nat.le_of_ble_eq_true rfl) (Nat.le_of_ble_eq_true rfl) (Nat.le_of_ble_eq_true rfl) (Nat.le_of_ble_eq_true rfl) (Nat.le_of_ble_eq_true rfl) rfl (fun h6 z6 => ?_)
                    obtain ⟨HL6, fr6⟩ := z6
                    have e : nA N2 (nI g) x2 = (rX8_wrong N2 3 ((N2.f 21) - 1)) := ((if_pos c_55).trans ((if_pos c_73).trans (if_neg c_80)))
                    exact J94 (nA N2 (nI g) x2) _ (by rw [e]; exact HL6) (gFM.trans (gFM.trans (gFM.trans frz fr1) fn2) fr6) rfl
              ·
                refine g_iload (q := 60) C dX8_groupsTold_58 rfl rfl ?_
                refine g_iconst (v := 1) (q := 61) C dX8_groupsTold_60 (by decide) rfl ?_
                refine g_icmp_eq (t := 71) (q := 64) C dX8_groupsTold_61 (by decide) rfl (fun c_61 => ?_) (fun c_61 => ?_)
                ·
                  refine g_iload_n (q := 72) C dX8_groupsTold_71 rfl rfl ?_
                  refine g_iconst (v := 4) (q := 73) C dX8_groupsTold_72 (by decide) rfl ?_
                  refine g_icmp_ne (t := 94) (q := 76) C dX8_groupsTold_73 (by decide) rfl (fun c_73 => ?_) (fun c_73 => ?_)
                  ·
                    have e : nA N2 (nI g) x2 = N2 := ((if_neg c_55).trans ((if_pos c_61).trans (if_neg c_73)))
                    exact J94 (nA N2 (nI g) x2) _ (by rw [e]; exact HN2) (gFM.trans (gFM.trans frz fr1) fn2) rfl
                  ·
                    refine g_iload (q := 78) C dX8_groupsTold_76 rfl rfl ?_
                    refine g_iconst (v := 4) (q := 79) C dX8_groupsTold_78 (by decide) rfl ?_
                    refine g_ishr (q := 80) C dX8_groupsTold_79 rfl ?_
                    refine g_if_eq (t := 94) (q := 83) C dX8_groupsTold_80 (by decide) rfl (fun c_80 => ?_) (fun c_80 => ?_)
                    ·
                      have e : nA N2 (nI g) x2 = N2 := ((if_neg c_55).trans ((if_pos c_61).trans ((if_pos c_73).trans (if_pos c_80))))
                      exact J94 (nA N2 (nI g) x2) _ (by rw [e]; exact HN2) (gFM.trans (gFM.trans frz fr1) fn2) rfl
                    ·
                      refine g_aload_n (q := 84) C dX8_groupsTold_83 rfl rfl ?_
                      refine g_iconst (v := 3) (q := 85) C dX8_groupsTold_84 (by decide) rfl ?_
                      refine g_aload_n (q := 86) C dX8_groupsTold_85 rfl rfl ?_
                      refine g_getfield (v := .int ((N2.f 21))) (q := 89) C fX8_89 dX8_groupsTold_86 rfl HN2.1 rfl ?_
                      refine g_iconst (v := 1) (q := 90) C dX8_groupsTold_89 (by decide) rfl ?_
                      refine g_isub (q := 91) C dX8_groupsTold_90 rfl ?_
                      refine g_callVvp (q := 94) (As := [.int 3, .int (((N2.f 21) - 1))]) C gyX8_wrong gvX8_wrong t_1222 (c_X8_wrong_m HN2) dX8_groupsTold_91 rfl HN2.1 rfl rfl rfl (Nat.le_of_ble_eq_true rfl) (Nat.le_of_ble_eq_true rfl) (Nat.le_of_ble_eq_true rfl) (Nat.le_of_ble_eq_true rfl) (Nat.le_of_ble_eq_true rfl) rfl (fun h7 z7 => ?_)
                      obtain ⟨HL7, fr7⟩ := z7
                      have e : nA N2 (nI g) x2 = (rX8_wrong N2 3 ((N2.f 21) - 1)) := ((if_neg c_55).trans ((if_pos c_61).trans ((if_pos c_73).trans (if_neg c_80))))
                      exact J94 (nA N2 (nI g) x2) _ (by rw [e]; exact HL7) (gFM.trans (gFM.trans (gFM.trans frz fr1) fn2) fr7) rfl
                ·
                  refine g_iload (q := 66) C dX8_groupsTold_64 rfl rfl ?_
                  refine g_bipush (v := 15) (q := 68) C dX8_groupsTold_66 (by decide) rfl ?_
                  refine g_icmp_ne (t := 83) (q := 71) C dX8_groupsTold_68 (by decide) rfl (fun c_68 => ?_) (fun c_68 => ?_)
                  ·
                    refine g_aload_n (q := 84) C dX8_groupsTold_83 rfl rfl ?_
                    refine g_iconst (v := 3) (q := 85) C dX8_groupsTold_84 (by decide) rfl ?_
                    refine g_aload_n (q := 86) C dX8_groupsTold_85 rfl rfl ?_
                    refine g_getfield (v := .int ((N2.f 21))) (q := 89) C fX8_89 dX8_groupsTold_86 rfl HN2.1 rfl ?_
                    refine g_iconst (v := 1) (q := 90) C dX8_groupsTold_89 (by decide) rfl ?_
                    refine g_isub (q := 91) C dX8_groupsTold_90 rfl ?_
                    refine g_callVvp (q := 94) (As := [.int 3, .int (((N2.f 21) - 1))]) C gyX8_wrong gvX8_wrong t_1222 (c_X8_wrong_m HN2) dX8_groupsTold_91 rfl HN2.1 rfl rfl rfl (Nat.le_of_ble_eq_true rfl) (Nat.le_of_ble_eq_true rfl) (Nat.le_of_ble_eq_true rfl) (Nat.le_of_ble_eq_true rfl) (Nat.le_of_ble_eq_true rfl) rfl (fun h8 z8 => ?_)
                    obtain ⟨HL8, fr8⟩ := z8
                    have e : nA N2 (nI g) x2 = (rX8_wrong N2 3 ((N2.f 21) - 1)) := ((if_neg c_55).trans ((if_neg c_61).trans (if_neg c_68)))
                    exact J94 (nA N2 (nI g) x2) _ (by rw [e]; exact HL8) (gFM.trans (gFM.trans (gFM.trans frz fr1) fn2) fr8) rfl
                  ·
                    refine g_iload_n (q := 72) C dX8_groupsTold_71 rfl rfl ?_
                    refine g_iconst (v := 4) (q := 73) C dX8_groupsTold_72 (by decide) rfl ?_
                    refine g_icmp_ne (t := 94) (q := 76) C dX8_groupsTold_73 (by decide) rfl (fun c_73 => ?_) (fun c_73 => ?_)
                    ·
                      have e : nA N2 (nI g) x2 = N2 := ((if_neg c_55).trans ((if_neg c_61).trans ((if_pos c_68).trans (if_neg c_73))))
                      exact J94 (nA N2 (nI g) x2) _ (by rw [e]; exact HN2) (gFM.trans (gFM.trans frz fr1) fn2) rfl
                    ·
                      refine g_iload (q := 78) C dX8_groupsTold_76 rfl rfl ?_
                      refine g_iconst (v := 4) (q := 79) C dX8_groupsTold_78 (by decide) rfl ?_
                      refine g_ishr (q := 80) C dX8_groupsTold_79 rfl ?_
                      refine g_if_eq (t := 94) (q := 83) C dX8_groupsTold_80 (by decide) rfl (fun c_80 => ?_) (fun c_80 => ?_)
                      ·
                        have e : nA N2 (nI g) x2 = N2 := ((if_neg c_55).trans ((if_neg c_61).trans ((if_pos c_68).trans ((if_pos c_73).trans (if_pos c_80)))))
                        exact J94 (nA N2 (nI g) x2) _ (by rw [e]; exact HN2) (gFM.trans (gFM.trans frz fr1) fn2) rfl
                      ·
                        refine g_aload_n (q := 84) C dX8_groupsTold_83 rfl rfl ?_
                        refine g_iconst (v := 3) (q := 85) C dX8_groupsTold_84 (by decide) rfl ?_
                        refine g_aload_n (q := 86) C dX8_groupsTold_85 rfl rfl ?_
                        refine g_getfield (v := .int ((N2.f 21))) (q := 89) C fX8_89 dX8_groupsTold_86 rfl HN2.1 rfl ?_
                        refine g_iconst (v := 1) (q := 90) C dX8_groupsTold_89 (by decide) rfl ?_
                        refine g_isub (q := 91) C dX8_groupsTold_90 rfl ?_
                        refine g_callVvp (q := 94) (As := [.int 3, .int (((N2.f 21) - 1))]) C gyX8_wrong gvX8_wrong t_1222 (c_X8_wrong_m HN2) dX8_groupsTold_91 rfl HN2.1 rfl rfl rfl (Nat.le_of_ble_eq_true rfl) (Nat.le_of_ble_eq_true rfl) (Nat.le_of_ble_eq_true rfl) (Nat.le_of_ble_eq_true rfl) (Nat.le_of_ble_eq_true rfl) rfl (fun h9 z9 => ?_)
                        obtain ⟨HL9, fr9⟩ := z9
                        have e : nA N2 (nI g) x2 = (rX8_wrong N2 3 ((N2.f 21) - 1)) := ((if_neg c_55).trans ((if_neg c_61).trans ((if_pos c_68).trans ((if_pos c_73).trans (if_neg c_80)))))
                        exact J94 (nA N2 (nI g) x2) _ (by rw [e]; exact HL9) (gFM.trans (gFM.trans (gFM.trans frz fr1) fn2) fr9) rfl
              
            ·
              rcases X2 with ⟨b8, -, eN⟩ | ⟨b8, bn⟩
              · have r3 : R3.1 = 0 := by rw [← RZ3.1.1, ← eN]; exact c_37
                have e : rL t (nI g) w 3 R3 = R3 := rL_1 (rB3n w2 b8)
                have e2 : rGs t n (g + 1) R3 = R3 := rGs_0 (f9 r3)
                exact E.2.1 _ _ _ _ _ dX8_groupsTold_45 rfl (Nat.le_of_ble_eq_true rfl) (Nat.le_of_ble_eq_true rfl) ⟨rfl, _, HN2, (gFM.trans (gFM.trans frz fr1) fn2), (KZ.trans rK.put).trans K2, by rw [hF, ← hr, e, e2, eN]; exact RZ3⟩
              · exact absurd (rBx T3 RZ3 bn) (fun h => c_42 (rGe0 h))
          
  exact LL 4 1 y M r _ _ hp rfl (by decide) HM gFM.rf rK.rf RZ hF (fun h => ⟨(hy h).1, (hy h).2.1, fun _ => (hy h).2.2.1, (hy h).2.2.2, fun e => absurd e (by decide)⟩)
  
def rCb (t : List Int32) (r : Int32 × rq) : Int32 × rq :=
  if r.1 = 0 then (if nI t.length ≤ r.2.f 8 then (8 * r.2.f 8 + 1, r.2) else if rXo t (r.2.f 8).toNatClampNeg = 0 then (0, r.2.set 8 (r.2.f 8 + 1)) else (8 * r.2.f 8 + 6, r.2)) else r
section RM4
variable {t : List Int32} {M M' : gMd} {r : Int32 × rq} {x : Int32}
theorem rck1 (T : rT t M) (H : rM t M r) (h : gBn M M' x) (c : ¬ M'.f 22 = 0) : rM t M' (rCb t r) := by
  have hat := H.1.2.bn T h
  rcases rBn T H h with ⟨c1, e, -⟩ | ⟨c1, c2, e, -⟩ | ⟨c1, c2, e, -, -⟩
  · have e2 : rCb t r = r := if_neg c1
    rw [e2, e]; exact H
  · have e2 : rCb t r = (8 * r.2.f 8 + 1, r.2) := (if_pos c1).trans (if_pos c2)
    rw [e2]; exact ⟨⟨e, hat⟩, fun h => absurd h (gx8 (c := 1) (by decide) (by decide))⟩
  · exact absurd (by rw [e]; exact H.1.1.trans c1) c
theorem rck2 (T : rT t M) (H : rM t M r) (h : gBn M M' x) (c : M'.f 22 = 0) : ∃ p, p < t.length ∧ M'.f 21 = nI (p + 1) ∧ (rXo t p = 0 → rM t M' (rCb t r)) ∧ (¬ rXo t p = 0 → rM t (rX8_wrong M' 6 (M'.f 21 - 1)) (rCb t r)) := by
  have hl := T.2.1
  have hat := H.1.2.bn T h
  rcases rBn T H h with ⟨c1, e, -⟩ | ⟨c1, c2, e, -⟩ | ⟨c1, c2, e, -, -⟩
  · exact absurd (H.1.1.symm.trans (by rw [← e]; exact c)) c1
  · exact absurd (e.symm.trans c) (gx8 (c := 1) (by decide) (by decide))
  · obtain ⟨Q, p, hp, ep⟩ := H.2 c1
    have lt : p < t.length := by
      by_cases lt : p < t.length
      · exact lt
      · exact absurd (by rw [ep]; exact nI_le (by omega) (by omega)) c2
    have e21 : M'.f 21 = nI (p + 1) := by rw [e, ep, nI_1]; exact gset_s
    have ec : (r.2.f 8).toNatClampNeg = p := by rw [ep]; exact nI_clamp (by omega)
    refine ⟨p, lt, e21, fun d => ?_, fun d => ?_⟩
    · have e2 : rCb t r = (0, r.2.set 8 (r.2.f 8 + 1)) := (if_pos c1).trans ((if_neg c2).trans (if_pos (by rw [ec]; exact d)))
      rw [e2]
      exact ⟨⟨c, hat⟩, fun _ => ⟨by rw [e]; exact Q.at, p + 1, lt, by rw [rq.set_s, ep]; exact nI_1 p⟩⟩
    · have e2 : rCb t r = (8 * r.2.f 8 + 6, r.2) := (if_pos c1).trans ((if_neg c2).trans (if_neg (by rw [ec]; exact d)))
      rw [e2]
      refine ⟨⟨?_, ?_⟩, fun h => absurd h (gx8 (c := 6) (by decide) (by decide))⟩
      · rw [rW22 c, e21, ep, ← nI_1, rA1]
      · obtain ⟨a, ha, ea⟩ := hat
        exact ⟨a, ha, (rWr.f (by decide)).trans ea⟩
end RM4
set_option maxRecDepth 100000 in
set_option maxHeartbeats 4000000 in
theorem c_X8_checksx_r {hp : List gA} {M : gMd} {t : List Int32} {r : Int32 × rq} (HM : gMod hp M) (T : rT t M) (RZ : rM t M r) : gM yX8_checks cX8_checks 3 (none) 2 42 [.ref 122] (hp) (0) (0) (fun v h => v = none ∧ ∃ M', gMod h M' ∧ gFM hp h ∧ rK M M' ∧ (∀ i q, M'.a i q = M.a i q) ∧ rM t M' (rCb t r)) := by
  refine gM_of (ls0 := [some (.ref 122), none, none]) (by decide +kernel) (Nat.le_of_ble_eq_true rfl) rfl fun X C E => ?_
  have hz := RZ.hz T
  refine g_aload_n (q := 1) C dX8_checks_0 rfl rfl ?_
  refine g_callVip (q := 4) (As := []) C gyX8_byteNext gvX8_byteNext t_1218 (c_X8_byteNext_r HM hz) dX8_checks_1 rfl HM.1 rfl rfl rfl (Nat.le_of_ble_eq_true rfl) (Nat.le_of_ble_eq_true rfl) (Nat.le_of_ble_eq_true rfl) (Nat.le_of_ble_eq_true rfl) (Nat.le_of_ble_eq_true rfl) rfl (fun x1 h1 z1 => ?_)
  obtain ⟨N1, HN1, fn1, bn1⟩ := z1
  refine g_pop (q := 5) C dX8_checks_4 rfl rfl ?_
  refine g_aload_n (q := 6) C dX8_checks_5 rfl rfl ?_
  refine g_getfield (v := .int ((N1.f 22))) (q := 9) C fX8_86 dX8_checks_6 rfl HN1.1 rfl ?_
  refine g_if_eq (t := 13) (q := 12) C dX8_checks_9 (by decide) rfl (fun c_9 => ?_) (fun c_9 => ?_)
  ·
    refine g_iconst (v := 0) (q := 14) C dX8_checks_13 (by decide) rfl ?_
    refine g_istore_n (q := 15) C dX8_checks_14 (Nat.le_of_ble_eq_true rfl) (by simp only [gset]; rfl) rfl ?_
    refine g_iconst (v := 1) (q := 16) C dX8_checks_15 (by decide) rfl ?_
    refine g_istore_n (q := 17) C dX8_checks_16 (Nat.le_of_ble_eq_true rfl) (by simp only [gset]; rfl) rfl ?_
    have hl := T.2.1
    obtain ⟨p, lt, e21, k1, k2⟩ := rck2 T RZ bn1 c_9
    have ea : ∀ j, j < t.length → N1.a 0 j = gat t (nI j) := fun j hj => by rw [gat_nI (by omega), bn1.a]; exact T.2.2.1 j hj
    have LL : ∀ d j : Nat, j + d = p → gG X 17 [some (.ref 122), some (.int ((rXo t j))), some (.int ((nI (j + 1))))] [] h1 0 0 := by
      intro d
      induction d with
      | zero =>
        intro j hj
        obtain rfl : p = j := by omega
        refine g_iload_n (q := 18) C dX8_checks_17 rfl rfl ?_
        refine g_aload_n (q := 19) C dX8_checks_18 rfl rfl ?_
        refine g_getfield (v := .int ((N1.f 21))) (q := 22) C fX8_89 dX8_checks_19 rfl HN1.1 rfl ?_
        rw [show (N1.f 21) = nI (p + 1) from e21]
        refine g_icmp_ge_t (t := 40) C dX8_checks_22 (by decide) (nI_le (Nat.le_refl _) (by omega)) ?_
        refine g_iload_n (q := 41) C dX8_checks_40 rfl rfl ?_
        refine g_if_eq (t := 56) (q := 44) C dX8_checks_41 (by decide) rfl (fun c_41 => ?_) (fun c_41 => ?_)
        ·
          exact E.2.1 _ _ _ _ _ dX8_checks_56 rfl (Nat.le_of_ble_eq_true rfl) (Nat.le_of_ble_eq_true rfl) ⟨rfl, _, HN1, fn1, rK.bn bn1, bn1.a, k1 c_41⟩
        ·
          refine g_aload_n (q := 45) C dX8_checks_44 rfl rfl ?_
          refine g_bipush (v := 6) (q := 47) C dX8_checks_45 (by decide) rfl ?_
          refine g_aload_n (q := 48) C dX8_checks_47 rfl rfl ?_
          refine g_getfield (v := .int ((N1.f 21))) (q := 51) C fX8_89 dX8_checks_48 rfl HN1.1 rfl ?_
          refine g_iconst (v := 1) (q := 52) C dX8_checks_51 (by decide) rfl ?_
          refine g_isub (q := 53) C dX8_checks_52 rfl ?_
          refine g_callVvp (q := 56) (As := [.int 6, .int (((N1.f 21) - 1))]) C gyX8_wrong gvX8_wrong t_1222 (c_X8_wrong_m HN1) dX8_checks_53 rfl HN1.1 rfl rfl rfl (Nat.le_of_ble_eq_true rfl) (Nat.le_of_ble_eq_true rfl) (Nat.le_of_ble_eq_true rfl) (Nat.le_of_ble_eq_true rfl) (Nat.le_of_ble_eq_true rfl) rfl (fun h2 z2 => ?_)
          obtain ⟨HL2, fr2⟩ := z2
          exact E.2.1 _ _ _ _ _ dX8_checks_56 rfl (Nat.le_of_ble_eq_true rfl) (Nat.le_of_ble_eq_true rfl) ⟨rfl, _, HL2, (gFM.trans fn1 fr2), (rK.bn bn1).trans rK.wr, fun i q => gWr.a.trans (bn1.a i q), k2 c_41⟩
      | succ d ih =>
        intro j hj
        refine g_iload_n (q := 18) C dX8_checks_17 rfl rfl ?_
        refine g_aload_n (q := 19) C dX8_checks_18 rfl rfl ?_
        refine g_getfield (v := .int ((N1.f 21))) (q := 22) C fX8_89 dX8_checks_19 rfl HN1.1 rfl ?_
        rw [show (N1.f 21) = nI (p + 1) from e21]
        refine g_icmp_ge_f (t := 40) (q := 25) C dX8_checks_22 (by decide) rfl (fun h => nI_ge (show j + 1 < p + 1 by omega) (by omega) h) ?_
        refine g_iload_n (q := 26) C dX8_checks_25 rfl rfl ?_
        refine g_aload_n (q := 27) C dX8_checks_26 rfl rfl ?_
        refine g_getfield (v := .ref 123) (q := 30) C fX8_7 dX8_checks_27 rfl HN1.1 rfl ?_
        refine g_iload_n (q := 31) C dX8_checks_30 rfl rfl ?_
        refine g_ialoadN (x := (N1.a 0 (j + 1))) (j := (j + 1)) (q := 32) C dX8_checks_31 rfl (HN1.ar (i := 0) (n := 96) (by decide) rfl) (pk_in (j + 1) 96 (by omega)) (pk_cl (j + 1) rfl (by omega)) rfl ?_
        refine g_ixor (q := 33) C dX8_checks_32 rfl ?_
        refine g_istore_n (q := 34) C dX8_checks_33 (Nat.le_of_ble_eq_true rfl) (by simp only [gset]; rfl) rfl ?_
        refine g_iinc (v := (nI (j + 1 + 1))) (q := 37) C dX8_checks_34 rfl (nI_1 (j + 1)) (by simp only [gset]; rfl) rfl ?_
        have ex : ((rXo t j) ^^^ (N1.a 0 (j + 1))) = rXo t (j + 1) := by rw [ea (j + 1) (by omega)]; rfl
        rw [ex]
        refine g_goto (q := 17) C dX8_checks_37 (by decide) ?_
        exact ih (j + 1) (by omega)
    exact LL p 0 (by omega)
    
  ·
    exact E.2.1 _ _ _ _ _ dX8_checks_12 rfl (Nat.le_of_ble_eq_true rfl) (Nat.le_of_ble_eq_true rfl) ⟨rfl, _, HN1, fn1, rK.bn bn1, bn1.a, rck1 T RZ bn1 c_9⟩
