/-! Journal (by program: wip/p1/m_journal.py) -/
def gmo (k : Nat) : Nat := if k = 0 then 1048576 else if k < 4 then 65536 else if k = 4 then 256 else 30
/-- the journal: rows (bytes, starts, times, following, chains, latest, outcomes, took), newest, the rows' arrays, their sizes -/
def gJr : Type := (Nat → List Int32) × (Int32 × ((Nat → Nat) × (Nat → Nat)))
def gJr.l (J : gJr) (k : Nat) : List Int32 := J.1 k
def gJr.ne (J : gJr) : Int32 := J.2.1
def gJr.ad (J : gJr) (k : Nat) : Nat := J.2.2.1 k
def gJr.sz (J : gJr) (k : Nat) : Nat := J.2.2.2 k
def gJr.row (J : gJr) (k : Nat) (l : List Int32) : gJr := (fun j => if j = k then l else J.1 j, J.2)
def gJr.sne (J : gJr) (x : Int32) : gJr := (J.1, (x, J.2.2))
def gJr.mv (J : gJr) (k a n : Nat) : gJr := (J.1, (J.2.1, (fun j => if j = k then a else J.2.2.1 j, fun j => if j = k then n else J.2.2.2 j)))
def gJC (J : gJr) : gA := .inr (.inr (1, [.ref 4, .ref 6, .ref 8, .ref 10, .ref 12, .ref 14, .ref 16, .ref 18, .int J.ne]))
def gJD (J : gJr) : Prop := (∀ k, k < 8 → (J.ad k = 5 + 2 * k ∨ (k < 4 ∧ 122 ≤ J.ad k)) ∧ J.sz k ≤ gmo k ∧ 30 ≤ J.sz k ∧ (4 ≤ k → J.sz k = gmo k) ∧ (k < 4 → 32 ∣ J.sz k ∧ 32 ≤ J.sz k)) ∧ ∀ k, k < 8 → ∀ j, j < 8 → k ≠ j → J.ad k ≠ J.ad j
def gJn (hp : List gA) (J : gJr) : Prop := hp[3]? = some (gJC J) ∧ (∀ k, k < 8 → gRg hp (4 + 2 * k) (J.ad k) (J.sz k) (gmo k) (J.l k)) ∧ gJD J
/-- nothing but the journal's cells is another -/
def gFJ (hp h : List gA) (J : gJr) : Prop := ∀ k, k ≠ 3 → (∀ i, i < 8 → k ≠ 4 + 2 * i ∧ k ≠ J.ad i) → h[k]? = hp[k]?
theorem gFJ.rf {hp : List gA} {J : gJr} : gFJ hp hp J := fun _ _ _ => rfl
theorem gFJ.trans {hp h h' : List gA} {J J' : gJr} (a : gFJ hp h J) (b : gFJ h h' J') (e : J'.2.2.1 = J.2.2.1 := by rfl) : gFJ hp h' J := fun k h1 h2 => (b k h1 (fun i hi => ⟨(h2 i hi).1, by show k ≠ J'.2.2.1 i; rw [e]; exact (h2 i hi).2⟩)).trans (a k h1 h2)
theorem gJD.ad {J : gJr} (D : gJD J) {k : Nat} (hk : k < 8) : J.ad k = 5 + 2 * k ∨ 122 ≤ J.ad k := ((D.1 k hk).1).elim Or.inl (fun h => Or.inr h.2)
theorem gmo0 : gmo 0 = 1048576 := by unfold gmo; rw [if_pos rfl]
theorem gmo1 : gmo 1 = 65536 := by unfold gmo; rw [if_neg (by decide), if_pos (by decide)]
theorem gmo2 : gmo 2 = 65536 := by unfold gmo; rw [if_neg (by decide), if_pos (by decide)]
theorem gmo3 : gmo 3 = 65536 := by unfold gmo; rw [if_neg (by decide), if_pos (by decide)]
theorem gmo4 : gmo 4 = 256 := by unfold gmo; rw [if_neg (by decide), if_neg (by decide), if_pos (by decide)]
theorem gmo5 : gmo 5 = 30 := by unfold gmo; rw [if_neg (by decide), if_neg (by decide), if_neg (by decide)]
theorem gmo6 : gmo 6 = 30 := by unfold gmo; rw [if_neg (by decide), if_neg (by decide), if_neg (by decide)]
theorem gmo7 : gmo 7 = 30 := by unfold gmo; rw [if_neg (by decide), if_neg (by decide), if_neg (by decide)]
theorem gmo_le {k : Nat} : gmo k ≤ 1048576 := by unfold gmo; split; omega; split; omega; split <;> omega
theorem gJn.r0 {hp : List gA} {J : gJr} (H : gJn hp J) : gRg hp 4 (J.ad 0) (J.sz 0) (gmo 0) (J.l 0) := H.2.1 0 (by decide)
theorem gJn.r1 {hp : List gA} {J : gJr} (H : gJn hp J) : gRg hp 6 (J.ad 1) (J.sz 1) (gmo 1) (J.l 1) := H.2.1 1 (by decide)
theorem gJn.r2 {hp : List gA} {J : gJr} (H : gJn hp J) : gRg hp 8 (J.ad 2) (J.sz 2) (gmo 2) (J.l 2) := H.2.1 2 (by decide)
theorem gJn.r3 {hp : List gA} {J : gJr} (H : gJn hp J) : gRg hp 10 (J.ad 3) (J.sz 3) (gmo 3) (J.l 3) := H.2.1 3 (by decide)
theorem gJn.r4 {hp : List gA} {J : gJr} (H : gJn hp J) : gRg hp 12 (J.ad 4) (J.sz 4) (gmo 4) (J.l 4) := H.2.1 4 (by decide)
theorem gJn.r5 {hp : List gA} {J : gJr} (H : gJn hp J) : gRg hp 14 (J.ad 5) (J.sz 5) (gmo 5) (J.l 5) := H.2.1 5 (by decide)
theorem gJn.r6 {hp : List gA} {J : gJr} (H : gJn hp J) : gRg hp 16 (J.ad 6) (J.sz 6) (gmo 6) (J.l 6) := H.2.1 6 (by decide)
theorem gJn.r7 {hp : List gA} {J : gJr} (H : gJn hp J) : gRg hp 18 (J.ad 7) (J.sz 7) (gmo 7) (J.l 7) := H.2.1 7 (by decide)
/-- a row of the journal was written, its array the same -/
theorem gJn.row {hp h : List gA} {J : gJr} {k r a n mo : Nat} {l : List Int32} (H : gJn hp J) (hk : k < 8) (z : gRg h r a n mo l ∧ gFr hp h r a) (er : r = 4 + 2 * k := by rfl) (ea : a = J.ad k := by rfl) (en : n = J.sz k := by rfl) (em : mo = gmo k := by exact rfl) : gJn h (J.row k l) ∧ gFJ hp h J := by
  subst er; subst ea; subst en; subst em
  have A : ∀ j, j < 8 → J.ad j = 5 + 2 * j ∨ 122 ≤ J.ad j := fun j hj => H.2.2.ad hj
  refine ⟨⟨(z.2 3 (by omega) (by have := A _ hk; omega)).trans H.1, fun j hj => ?_, H.2.2⟩, fun q h1 h2 => z.2 q (h2 k hk).1 (h2 k hk).2⟩
  show gRg h (4 + 2 * j) (J.ad j) (J.sz j) (gmo j) (if j = k then l else J.1 j)
  by_cases e : j = k
  · subst e; rw [if_pos rfl]; exact z.1
  · rw [if_neg e]
    exact (H.2.1 j hj).kept (z.2 _ (by omega) (by have := A _ hk; omega)) (z.2 _ (by have := A _ hj; omega) (H.2.2.2 j hj k hk e))
/-- cells of the same sizes -/
def gSame (hp h : List gA) : Prop := h.length = hp.length ∧ gsz h = gsz hp ∧ (gNJ hp → gNJ h)
theorem gSame.rf {hp : List gA} : gSame hp hp := ⟨rfl, rfl, id⟩
theorem gSame.trans {a b c : List gA} (x : gSame a b) (y : gSame b c) : gSame a c := ⟨y.1.trans x.1, y.2.1.trans x.2.1, fun h => y.2.2 (x.2.2 h)⟩
theorem gSame.of {hp h : List gA} (H : ∀ k : Nat, (h[k]? = hp[k]?) ∨ ∃ e e', hp[k]? = some e ∧ h[k]? = some e' ∧ gcs e' = gcs e ∧ e' ≠ gJunk) : gSame hp h := by
  have hl : h.length = hp.length := by
    rcases Nat.lt_trichotomy h.length hp.length with c | c | c
    · rcases H h.length with e | ⟨_, _, -, e, -⟩
      · rw [List.getElem?_eq_none (Nat.le_refl _), List.getElem?_eq_getElem c] at e; cases e
      · rw [List.getElem?_eq_none (Nat.le_refl _)] at e; cases e
    · exact c
    · rcases H hp.length with e | ⟨_, _, e, -, -⟩
      · rw [List.getElem?_eq_none (Nat.le_refl hp.length), List.getElem?_eq_getElem c] at e; cases e
      · rw [List.getElem?_eq_none (Nat.le_refl _)] at e; cases e
  refine ⟨hl, ?_, fun nj k e he => ?_⟩
  · unfold gsz
    congr 1
    refine List.ext_getElem? fun i => ?_
    rw [List.getElem?_map, List.getElem?_map]
    rcases H i with e | ⟨e, e', e1, e2, e3, -⟩
    · rw [e]
    · rw [e1, e2]; exact congrArg some e3
  · rcases H k with e1 | ⟨e0, e', e1, e2, -, e4⟩
    · rw [e1] at he; exact nj k e he
    · rw [e2] at he; cases he; exact e4
theorem gRg.same {hp h : List gA} {r a n mo : Nat} {l l' : List Int32} (H : gRg hp r a n mo l) (H' : gRg h r a n mo l') (k : Nat) (hk : k = r ∨ k = a) : ∃ e e', hp[k]? = some e ∧ h[k]? = some e' ∧ gcs e' = gcs e ∧ e' ≠ gJunk := by
  obtain ⟨f, a1, a2, -⟩ := H
  obtain ⟨f', b1, b2, -⟩ := H'
  rcases hk with rfl | rfl
  · exact ⟨_, _, a1, b1, rfl, gJ4 (by decide)⟩
  · exact ⟨_, _, a2, b2, rfl, gJ2⟩
theorem gJn.same {hp h : List gA} {J J' : gJr} (H : gJn hp J) (H' : gJn h J') (f : gFJ hp h J) (ea : J'.2.2 = J.2.2) : gSame hp h := by
  refine gSame.of fun k => ?_
  by_cases h3 : k = 3
  · subst h3; exact Or.inr ⟨_, _, H.1, H'.1, rfl, gJ4 (by decide)⟩
  · by_cases h4 : ∃ i, i < 8 ∧ (k = 4 + 2 * i ∨ k = J.ad i)
    · obtain ⟨i, hi, hk⟩ := h4
      have z := H'.2.1 i hi
      rw [show J'.ad i = J.ad i by show J'.2.2.1 i = J.2.2.1 i; rw [ea], show J'.sz i = J.sz i by show J'.2.2.2 i = J.2.2.2 i; rw [ea]] at z
      exact Or.inr ((H.2.1 i hi).same z k hk)
    · exact Or.inl (f k h3 (fun i hi => ⟨fun e => h4 ⟨i, hi, Or.inl e⟩, fun e => h4 ⟨i, hi, Or.inr e⟩⟩))
theorem gJr.row_row {J : gJr} {k : Nat} {s t : List Int32} : (J.row k s).row k t = J.row k t := Prod.ext (funext fun j => by show (if j = k then t else if j = k then s else _) = if j = k then t else _; split <;> rfl) rfl
theorem gJn.cell {hp : List gA} {J : gJr} {x : Int32} (H : gJn hp J) : gJn (hp.set 3 (gJC (J.sne x))) (J.sne x) ∧ gFJ hp (hp.set 3 (gJC (J.sne x))) J := by
  have A : ∀ j, j < 8 → J.ad j = 5 + 2 * j ∨ 122 ≤ J.ad j := fun j hj => H.2.2.ad hj
  have f : ∀ j, j ≠ 3 → (hp.set 3 (gJC (J.sne x)))[j]? = hp[j]? := fun j hj => List.getElem?_set_ne (Ne.symm hj)
  exact ⟨⟨gset_self H.1, fun j hj => (H.2.1 j hj).kept (f _ (by omega)) (f _ (by have := A _ hj; omega)), H.2.2⟩, fun k h1 h2 => f k h1⟩
theorem gJput {X : gX} {q : Nat} {ls : List (Option Value)} {st : List Value} {hp : List gA} {cl sl : Nat} {J : gJr} {e : gA} {x : Int32} (H : gJn hp J) (he : e = gJC (J.sne x)) (kk : ∀ h, gJn h (J.sne x) → gFJ hp h J → gG X q ls st h cl sl) : gG X q ls st (hp.set 3 e) cl sl := by
  subst he
  exact kk _ H.cell.1 H.cell.2

set_option maxRecDepth 100000 in
set_option maxHeartbeats 4000000 in
theorem c_X4_add_n {hp : List gA} {r a n mo : Nat} {l : List Int32} {x : Int32} (H : gRg hp r a n mo l) (hh : l.length < mo ∧ l.length < n ∧ mo ≤ 1048576) : gM yX4_add cX4_add 2 (none) 2 82 [.ref r, .int x] (hp) (0) (0) (fun v h => v = none ∧ (gRg h r a n mo (l ++ [x]) ∧ gFr hp h r a)) := by
  obtain ⟨f, hr, ha, hle, hn, hf⟩ := H
  have hlt : l.length < 2 ^ 31 := by omega
  have hnt : n < 2 ^ 31 := by omega
  have hx := hh.1
  have hx2 := hh.2.1
  have hmo := hh.2.2
  have hra : r ≠ a := gne hr ha (by intro h; cases h)
  refine gM_of (ls0 := [some (.ref r), some (.int x)]) (by decide +kernel) (Nat.le_of_ble_eq_true rfl) rfl fun X C E => ?_
  refine g_aload_n (q := 1) C dX4_add_0 rfl rfl ?_
  refine g_getfield (q := 4) C fX4_7 dX4_add_1 rfl hr rfl ?_
  refine g_aload_n (q := 5) C dX4_add_4 rfl rfl ?_
  refine g_getfield (q := 8) C fX4_23 dX4_add_5 rfl hr rfl ?_
  refine g_icmp_lt_t (t := 12) C dX4_add_8 (by decide) (nI_lt hx (by omega)) ?_
  refine g_aload_n (q := 13) C dX4_add_12 rfl rfl ?_
  refine g_getfield (q := 16) C fX4_7 dX4_add_13 rfl hr rfl ?_
  refine g_aload_n (q := 17) C dX4_add_16 rfl rfl ?_
  refine g_getfield (q := 20) C fX4_19 dX4_add_17 rfl hr rfl ?_
  refine g_arraylength (q := 21) C dX4_add_20 rfl ha rfl ?_
  refine g_icmp_lt_t (t := 53) C dX4_add_21 (by decide) (nI_lt hx2 hnt) ?_
  refine g_aload_n (q := 54) C dX4_add_53 rfl rfl ?_
  refine g_getfield (q := 57) C fX4_7 dX4_add_54 rfl hr rfl ?_
  refine g_if_lt_f (t := 92) (q := 60) C dX4_add_57 (by decide) rfl (nI_pos hlt) ?_
  refine g_aload_n (q := 61) C dX4_add_60 rfl rfl ?_
  refine g_getfield (q := 64) C fX4_7 dX4_add_61 rfl hr rfl ?_
  refine g_aload_n (q := 65) C dX4_add_64 rfl rfl ?_
  refine g_getfield (q := 68) C fX4_19 dX4_add_65 rfl hr rfl ?_
  refine g_arraylength (q := 69) C dX4_add_68 rfl ha rfl ?_
  refine g_icmp_ge_f (t := 92) (q := 72) C dX4_add_69 (by decide) rfl (fun h => nI_ge hx2 hnt h) ?_
  refine g_aload_n (q := 73) C dX4_add_72 rfl rfl ?_
  refine g_getfield (q := 76) C fX4_19 dX4_add_73 rfl hr rfl ?_
  refine g_aload_n (q := 77) C dX4_add_76 rfl rfl ?_
  refine g_getfield (q := 80) C fX4_7 dX4_add_77 rfl hr rfl ?_
  refine g_iload_n (q := 81) C dX4_add_80 rfl rfl ?_
  refine g_iastoreN (j := l.length) (q := 82) C dX4_add_81 rfl ha (pk_in l.length n hx2) (pk_cl l.length) ?_
  refine g_aload_n (q := 83) C dX4_add_82 rfl rfl ?_
  refine g_dup (q := 84) C dX4_add_83 rfl rfl ?_
  refine g_getfield (q := 87) C fX4_7 dX4_add_84 rfl (gset_other hr (Ne.symm hra)) rfl ?_
  refine g_iconst (v := 1) (q := 88) C dX4_add_87 (by decide) rfl ?_
  refine g_iadd (q := 89) C dX4_add_88 rfl ?_
  refine g_putfield (q := 92) C fX4_7 dX4_add_89 rfl (gset_other hr (Ne.symm hra)) (Nat.le_of_ble_eq_true rfl) (Or.inl rfl) rfl rfl (by intro z h; cases h) ?_
  exact E.2.1 _ _ _ _ _ dX4_add_92 rfl (Nat.le_of_ble_eq_true rfl) (Nat.le_of_ble_eq_true rfl) ⟨rfl, ⟨upd f l.length x, by rw [gset_self (gset_other hr (Ne.symm hra))]; simp [nI_succ], by rw [List.getElem?_set_ne hra]; exact gset_self ha, by simp; omega, hn, g_app hf⟩, fun k h1 h2 => by rw [List.getElem?_set_ne (Ne.symm h1), List.getElem?_set_ne (Ne.symm h2)]⟩
set_option maxRecDepth 100000 in
set_option maxHeartbeats 4000000 in
theorem c_X4_keep0_g {hp : List gA} {r a n mo : Nat} {l : List Int32} (H : gRg hp r a n mo l) : gM yX4_keep cX4_keep 2 (none) 1 21 [.ref r, .int 0] (hp) (0) (0) (fun v h => v = none ∧ (gRg h r a n mo [] ∧ gFr hp h r a)) := by
  obtain ⟨f, hr, ha, hle, hn, hf⟩ := H
  have hlt : l.length < 2 ^ 31 := by omega
  have hnt : n < 2 ^ 31 := by omega
  have hra : r ≠ a := gne hr ha (by intro h; cases h)
  have hkk : gmax 0 (gmin 0 (nI l.length)) = 0 := (gkp (k := 0) (by decide) hlt).trans (by rw [Nat.zero_min]; rfl)
  refine gM_of (ls0 := [some (.ref r), some (.int 0)]) (by decide +kernel) (Nat.le_of_ble_eq_true rfl) rfl fun X C E => ?_
  refine g_aload_n (q := 1) C dX4_keep_0 rfl rfl ?_
  refine g_iconst (v := 0) (q := 2) C dX4_keep_1 (by decide) rfl ?_
  refine g_iload_n (q := 3) C dX4_keep_2 rfl rfl ?_
  refine g_aload_n (q := 4) C dX4_keep_3 rfl rfl ?_
  refine g_getfield (q := 7) C fX4_7 dX4_keep_4 rfl hr rfl ?_
  refine g_callSi (q := 10) (As := [.int 0, .int ((nI l.length))]) C gyJ9_min_7cf53 t_411 t_410 (c_J9_min_7cf53) dX4_keep_7 rfl rfl rfl (Nat.le_of_ble_eq_true rfl) (Nat.le_of_ble_eq_true rfl) (Nat.le_of_ble_eq_true rfl) (Nat.le_of_ble_eq_true rfl) (Nat.le_of_ble_eq_true rfl) rfl ?_
  refine g_callSi (q := 13) (As := [.int 0, .int _]) C gyJ9_max_7cf53 t_72 t_71 (c_J9_max_7cf53) dX4_keep_10 rfl rfl rfl (Nat.le_of_ble_eq_true rfl) (Nat.le_of_ble_eq_true rfl) (Nat.le_of_ble_eq_true rfl) (Nat.le_of_ble_eq_true rfl) (Nat.le_of_ble_eq_true rfl) rfl ?_
  refine g_putfield (q := 16) C fX4_7 dX4_keep_13 rfl hr (Nat.le_of_ble_eq_true rfl) (Or.inl rfl) rfl rfl (by intro z h; cases h) ?_
  exact E.2.1 _ _ _ _ _ dX4_keep_16 rfl (Nat.le_of_ble_eq_true rfl) (Nat.le_of_ble_eq_true rfl) ⟨rfl, ⟨f, by rw [gset_self hr, hkk]; rfl, gset_other ha hra, Nat.zero_le _, hn, fun j hj => absurd hj (Nat.not_lt_zero _)⟩, fun k h1 h2 => List.getElem?_set_ne (Ne.symm h1)⟩
def jX1_placeOf (J : gJr) (x : Int32) : Int32 := (if 0 ≤ (J.ne - x) then (J.ne - x) else ((J.ne - x) + 30))
theorem dX1_placeOf_0 : decode cX1_placeOf 0 = .ok (.aload_n 0, 1) := by decide +kernel
theorem dX1_placeOf_1 : decode cX1_placeOf 1 = .ok (.getfield 43, 3) := by decide +kernel
theorem dX1_placeOf_4 : decode cX1_placeOf 4 = .ok (.iload_n 1, 1) := by decide +kernel
theorem dX1_placeOf_5 : decode cX1_placeOf 5 = .ok (.isub, 1) := by decide +kernel
theorem dX1_placeOf_6 : decode cX1_placeOf 6 = .ok (.istore_n 2, 1) := by decide +kernel
theorem dX1_placeOf_7 : decode cX1_placeOf 7 = .ok (.iload_n 2, 1) := by decide +kernel
theorem dX1_placeOf_8 : decode cX1_placeOf 8 = .ok (.ifCond .ge 10, 3) := by decide +kernel
theorem dX1_placeOf_11 : decode cX1_placeOf 11 = .ok (.iload_n 2, 1) := by decide +kernel
theorem dX1_placeOf_12 : decode cX1_placeOf 12 = .ok (.bipush 30, 2) := by decide +kernel
theorem dX1_placeOf_14 : decode cX1_placeOf 14 = .ok (.iadd, 1) := by decide +kernel
theorem dX1_placeOf_15 : decode cX1_placeOf 15 = .ok (.goto 4, 3) := by decide +kernel
theorem dX1_placeOf_18 : decode cX1_placeOf 18 = .ok (.iload_n 2, 1) := by decide +kernel
theorem dX1_placeOf_19 : decode cX1_placeOf 19 = .ok (.ireturn, 1) := by decide +kernel
set_option maxRecDepth 100000 in
set_option maxHeartbeats 4000000 in
theorem c_X1_placeOf_j {hp : List gA} {J : gJr} {x : Int32}  (HJ : gJn hp J)  : gM yX1_placeOf cX1_placeOf 3 ((some .int)) 0 0 [.ref 3, .int x] (hp) (0) (0) (fun v h => v = some (.int (jX1_placeOf J x)) ∧ h = hp) := by
  refine gM_of (ls0 := [some (.ref 3), some (.int x), none]) (by decide +kernel) (Nat.le_of_ble_eq_true rfl) rfl fun X C E => ?_
  refine g_aload_n (q := 1) C dX1_placeOf_0 rfl rfl ?_
  refine g_getfield (v := .int J.ne) (q := 4) C fX1_43 dX1_placeOf_1 rfl HJ.1 rfl ?_
  refine g_iload_n (q := 5) C dX1_placeOf_4 rfl rfl ?_
  refine g_isub (q := 6) C dX1_placeOf_5 rfl ?_
  refine g_istore_n (q := 7) C dX1_placeOf_6 (Nat.le_of_ble_eq_true rfl) (by simp only [gset]; rfl) rfl ?_
  refine g_iload_n (q := 8) C dX1_placeOf_7 rfl rfl ?_
  refine g_if_ge (t := 18) (q := 11) C dX1_placeOf_8 (by decide) rfl (fun c_8 => ?_) (fun c_8 => ?_)
  ·
    refine g_iload_n (q := 19) C dX1_placeOf_18 rfl rfl ?_
    have e : jX1_placeOf J x = ((J.ne - x)) := (if_pos c_8)
    exact E.1 _ _ _ _ _ _ _ dX1_placeOf_19 rfl rfl (Nat.le_of_ble_eq_true rfl) (Nat.le_of_ble_eq_true rfl) ⟨by rw [e], rfl⟩
  ·
    refine g_iload_n (q := 12) C dX1_placeOf_11 rfl rfl ?_
    refine g_bipush (v := 30) (q := 14) C dX1_placeOf_12 (by decide) rfl ?_
    refine g_iadd (q := 15) C dX1_placeOf_14 rfl ?_
    refine g_goto (q := 19) C dX1_placeOf_15 (by decide) ?_
    have e : jX1_placeOf J x = (((J.ne - x) + 30)) := (if_neg c_8)
    exact E.1 _ _ _ _ _ _ _ dX1_placeOf_19 rfl rfl (Nat.le_of_ble_eq_true rfl) (Nat.le_of_ble_eq_true rfl) ⟨by rw [e], rfl⟩
def jX1_unlike (J : gJr) : Int32 := (nI (J.l 1).length)
theorem dX1_unlike_0 : decode cX1_unlike 0 = .ok (.aload_n 0, 1) := by decide +kernel
theorem dX1_unlike_1 : decode cX1_unlike 1 = .ok (.getfield 22, 3) := by decide +kernel
theorem dX1_unlike_4 : decode cX1_unlike 4 = .ok (.invokevirtual 51, 3) := by decide +kernel
theorem dX1_unlike_7 : decode cX1_unlike 7 = .ok (.ireturn, 1) := by decide +kernel
set_option maxRecDepth 100000 in
set_option maxHeartbeats 4000000 in
theorem c_X1_unlike_j {hp : List gA} {J : gJr}  (HJ : gJn hp J)  : gM yX1_unlike cX1_unlike 1 ((some .int)) 1 20 [.ref 3] (hp) (0) (0) (fun v h => v = some (.int (jX1_unlike J)) ∧ h = hp) := by
  refine gM_of (ls0 := [some (.ref 3)]) (by decide +kernel) (Nat.le_of_ble_eq_true rfl) rfl fun X C E => ?_
  refine g_aload_n (q := 1) C dX1_unlike_0 rfl rfl ?_
  refine g_getfield (v := .ref 6) (q := 4) C fX1_22 dX1_unlike_1 rfl HJ.1 rfl ?_
  refine g_callVi (x := (nI (J.l 1).length)) (q := 7) (As := []) C gyX4_size gvX4_size t_778 (c_X4_size (gRg.obj HJ.r1)) dX1_unlike_4 rfl (gRg.obj HJ.r1) rfl rfl rfl (Nat.le_of_ble_eq_true rfl) (Nat.le_of_ble_eq_true rfl) (Nat.le_of_ble_eq_true rfl) (Nat.le_of_ble_eq_true rfl) (Nat.le_of_ble_eq_true rfl) rfl ?_
  have e : jX1_unlike J = ((nI (J.l 1).length)) := rfl
  exact E.1 _ _ _ _ _ _ _ dX1_unlike_7 rfl rfl (Nat.le_of_ble_eq_true rfl) (Nat.le_of_ble_eq_true rfl) ⟨by rw [e], rfl⟩
def jX1_kept (J : gJr) : Int32 := (nI (J.l 5).length)
theorem dX1_kept_0 : decode cX1_kept 0 = .ok (.aload_n 0, 1) := by decide +kernel
theorem dX1_kept_1 : decode cX1_kept 1 = .ok (.getfield 34, 3) := by decide +kernel
theorem dX1_kept_4 : decode cX1_kept 4 = .ok (.invokevirtual 51, 3) := by decide +kernel
theorem dX1_kept_7 : decode cX1_kept 7 = .ok (.ireturn, 1) := by decide +kernel
set_option maxRecDepth 100000 in
set_option maxHeartbeats 4000000 in
theorem c_X1_kept_j {hp : List gA} {J : gJr}  (HJ : gJn hp J)  : gM yX1_kept cX1_kept 1 ((some .int)) 1 20 [.ref 3] (hp) (0) (0) (fun v h => v = some (.int (jX1_kept J)) ∧ h = hp) := by
  refine gM_of (ls0 := [some (.ref 3)]) (by decide +kernel) (Nat.le_of_ble_eq_true rfl) rfl fun X C E => ?_
  refine g_aload_n (q := 1) C dX1_kept_0 rfl rfl ?_
  refine g_getfield (v := .ref 14) (q := 4) C fX1_34 dX1_kept_1 rfl HJ.1 rfl ?_
  refine g_callVi (x := (nI (J.l 5).length)) (q := 7) (As := []) C gyX4_size gvX4_size t_778 (c_X4_size (gRg.obj HJ.r5)) dX1_kept_4 rfl (gRg.obj HJ.r5) rfl rfl rfl (Nat.le_of_ble_eq_true rfl) (Nat.le_of_ble_eq_true rfl) (Nat.le_of_ble_eq_true rfl) (Nat.le_of_ble_eq_true rfl) (Nat.le_of_ble_eq_true rfl) rfl ?_
  have e : jX1_kept J = ((nI (J.l 5).length)) := rfl
  exact E.1 _ _ _ _ _ _ _ dX1_kept_7 rfl rfl (Nat.le_of_ble_eq_true rfl) (Nat.le_of_ble_eq_true rfl) ⟨by rw [e], rfl⟩
def jX1_tell (J : gJr) (x : Int32) (y : Int32) : Int32 := (if y = 0 then (gat (J.l 0) (gat (J.l 1) (gat (J.l 5) (jX1_placeOf J x)))) else (if y = 1 then (gat (J.l 0) ((gat (J.l 1) (gat (J.l 5) (jX1_placeOf J x))) + 2)) else (if y = 2 then (gat (J.l 0) ((gat (J.l 1) (gat (J.l 5) (jX1_placeOf J x))) + 3)) else (if y = 3 then (gat (J.l 6) (jX1_placeOf J x)) else (if y = 4 then (gat (J.l 7) (jX1_placeOf J x)) else (gat (J.l 2) (gat (J.l 5) (jX1_placeOf J x))))))))
theorem dX1_tell_0 : decode cX1_tell 0 = .ok (.aload_n 0, 1) := by decide +kernel
theorem dX1_tell_1 : decode cX1_tell 1 = .ok (.iload_n 1, 1) := by decide +kernel
theorem dX1_tell_2 : decode cX1_tell 2 = .ok (.invokevirtual 77, 3) := by decide +kernel
theorem dX1_tell_5 : decode cX1_tell 5 = .ok (.istore_n 3, 1) := by decide +kernel
theorem dX1_tell_6 : decode cX1_tell 6 = .ok (.aload_n 0, 1) := by decide +kernel
theorem dX1_tell_7 : decode cX1_tell 7 = .ok (.getfield 34, 3) := by decide +kernel
theorem dX1_tell_10 : decode cX1_tell 10 = .ok (.iload_n 3, 1) := by decide +kernel
theorem dX1_tell_11 : decode cX1_tell 11 = .ok (.invokevirtual 55, 3) := by decide +kernel
theorem dX1_tell_14 : decode cX1_tell 14 = .ok (.istore 4, 2) := by decide +kernel
theorem dX1_tell_16 : decode cX1_tell 16 = .ok (.aload_n 0, 1) := by decide +kernel
theorem dX1_tell_17 : decode cX1_tell 17 = .ok (.getfield 22, 3) := by decide +kernel
theorem dX1_tell_20 : decode cX1_tell 20 = .ok (.iload 4, 2) := by decide +kernel
theorem dX1_tell_22 : decode cX1_tell 22 = .ok (.invokevirtual 55, 3) := by decide +kernel
theorem dX1_tell_25 : decode cX1_tell 25 = .ok (.istore 5, 2) := by decide +kernel
theorem dX1_tell_27 : decode cX1_tell 27 = .ok (.iload_n 2, 1) := by decide +kernel
theorem dX1_tell_28 : decode cX1_tell 28 = .ok (.tableswitch 88 0 4 #[36, 46, 58, 70, 79], 36) := by decide +kernel
theorem dX1_tell_64 : decode cX1_tell 64 = .ok (.aload_n 0, 1) := by decide +kernel
theorem dX1_tell_65 : decode cX1_tell 65 = .ok (.getfield 17, 3) := by decide +kernel
theorem dX1_tell_68 : decode cX1_tell 68 = .ok (.iload 5, 2) := by decide +kernel
theorem dX1_tell_70 : decode cX1_tell 70 = .ok (.invokevirtual 55, 3) := by decide +kernel
theorem dX1_tell_73 : decode cX1_tell 73 = .ok (.ireturn, 1) := by decide +kernel
theorem dX1_tell_74 : decode cX1_tell 74 = .ok (.aload_n 0, 1) := by decide +kernel
theorem dX1_tell_75 : decode cX1_tell 75 = .ok (.getfield 17, 3) := by decide +kernel
theorem dX1_tell_78 : decode cX1_tell 78 = .ok (.iload 5, 2) := by decide +kernel
theorem dX1_tell_80 : decode cX1_tell 80 = .ok (.iconst 2, 1) := by decide +kernel
theorem dX1_tell_81 : decode cX1_tell 81 = .ok (.iadd, 1) := by decide +kernel
theorem dX1_tell_82 : decode cX1_tell 82 = .ok (.invokevirtual 55, 3) := by decide +kernel
theorem dX1_tell_85 : decode cX1_tell 85 = .ok (.ireturn, 1) := by decide +kernel
theorem dX1_tell_86 : decode cX1_tell 86 = .ok (.aload_n 0, 1) := by decide +kernel
theorem dX1_tell_87 : decode cX1_tell 87 = .ok (.getfield 17, 3) := by decide +kernel
theorem dX1_tell_90 : decode cX1_tell 90 = .ok (.iload 5, 2) := by decide +kernel
theorem dX1_tell_92 : decode cX1_tell 92 = .ok (.iconst 3, 1) := by decide +kernel
theorem dX1_tell_93 : decode cX1_tell 93 = .ok (.iadd, 1) := by decide +kernel
theorem dX1_tell_94 : decode cX1_tell 94 = .ok (.invokevirtual 55, 3) := by decide +kernel
theorem dX1_tell_97 : decode cX1_tell 97 = .ok (.ireturn, 1) := by decide +kernel
theorem dX1_tell_98 : decode cX1_tell 98 = .ok (.aload_n 0, 1) := by decide +kernel
theorem dX1_tell_99 : decode cX1_tell 99 = .ok (.getfield 37, 3) := by decide +kernel
theorem dX1_tell_102 : decode cX1_tell 102 = .ok (.iload_n 3, 1) := by decide +kernel
theorem dX1_tell_103 : decode cX1_tell 103 = .ok (.invokevirtual 55, 3) := by decide +kernel
theorem dX1_tell_106 : decode cX1_tell 106 = .ok (.ireturn, 1) := by decide +kernel
theorem dX1_tell_107 : decode cX1_tell 107 = .ok (.aload_n 0, 1) := by decide +kernel
theorem dX1_tell_108 : decode cX1_tell 108 = .ok (.getfield 40, 3) := by decide +kernel
theorem dX1_tell_111 : decode cX1_tell 111 = .ok (.iload_n 3, 1) := by decide +kernel
theorem dX1_tell_112 : decode cX1_tell 112 = .ok (.invokevirtual 55, 3) := by decide +kernel
theorem dX1_tell_115 : decode cX1_tell 115 = .ok (.ireturn, 1) := by decide +kernel
theorem dX1_tell_116 : decode cX1_tell 116 = .ok (.aload_n 0, 1) := by decide +kernel
theorem dX1_tell_117 : decode cX1_tell 117 = .ok (.getfield 25, 3) := by decide +kernel
theorem dX1_tell_120 : decode cX1_tell 120 = .ok (.iload 4, 2) := by decide +kernel
theorem dX1_tell_122 : decode cX1_tell 122 = .ok (.invokevirtual 55, 3) := by decide +kernel
theorem dX1_tell_125 : decode cX1_tell 125 = .ok (.ireturn, 1) := by decide +kernel
set_option maxRecDepth 100000 in
set_option maxHeartbeats 4000000 in
theorem c_X1_tell_j {hp : List gA} {J : gJr} {x : Int32} {y : Int32}  (HJ : gJn hp J)  : gM yX1_tell cX1_tell 6 ((some .int)) 1 22 [.ref 3, .int x, .int y] (hp) (0) (0) (fun v h => v = some (.int (jX1_tell J x y)) ∧ h = hp) := by
  refine gM_of (ls0 := [some (.ref 3), some (.int x), some (.int y), none, none, none]) (by decide +kernel) (Nat.le_of_ble_eq_true rfl) rfl fun X C E => ?_
  refine g_aload_n (q := 1) C dX1_tell_0 rfl rfl ?_
  refine g_iload_n (q := 2) C dX1_tell_1 rfl rfl ?_
  refine g_callVi (x := (jX1_placeOf J x)) (q := 5) (As := [.int x]) C gyX1_placeOf gvX1_placeOf t_904 (c_X1_placeOf_j HJ) dX1_tell_2 rfl HJ.1 rfl rfl rfl (Nat.le_of_ble_eq_true rfl) (Nat.le_of_ble_eq_true rfl) (Nat.le_of_ble_eq_true rfl) (Nat.le_of_ble_eq_true rfl) (Nat.le_of_ble_eq_true rfl) rfl ?_
  refine g_istore_n (q := 6) C dX1_tell_5 (Nat.le_of_ble_eq_true rfl) (by simp only [gset]; rfl) rfl ?_
  refine g_aload_n (q := 7) C dX1_tell_6 rfl rfl ?_
  refine g_getfield (v := .ref 14) (q := 10) C fX1_34 dX1_tell_7 rfl HJ.1 rfl ?_
  refine g_iload_n (q := 11) C dX1_tell_10 rfl rfl ?_
  refine g_callVi (x := (gat (J.l 5) (jX1_placeOf J x))) (q := 14) (As := [.int ((jX1_placeOf J x))]) C gyX4_at gvX4_at t_783 (c_X4_at_g HJ.r5) dX1_tell_11 rfl (gRg.obj HJ.r5) rfl rfl rfl (Nat.le_of_ble_eq_true rfl) (Nat.le_of_ble_eq_true rfl) (Nat.le_of_ble_eq_true rfl) (Nat.le_of_ble_eq_true rfl) (Nat.le_of_ble_eq_true rfl) rfl ?_
  refine g_istore (q := 16) C dX1_tell_14 (Nat.le_of_ble_eq_true rfl) (by simp only [gset]; rfl) rfl ?_
  refine g_aload_n (q := 17) C dX1_tell_16 rfl rfl ?_
  refine g_getfield (v := .ref 6) (q := 20) C fX1_22 dX1_tell_17 rfl HJ.1 rfl ?_
  refine g_iload (q := 22) C dX1_tell_20 rfl rfl ?_
  refine g_callVi (x := (gat (J.l 1) (gat (J.l 5) (jX1_placeOf J x)))) (q := 25) (As := [.int ((gat (J.l 5) (jX1_placeOf J x)))]) C gyX4_at gvX4_at t_783 (c_X4_at_g HJ.r1) dX1_tell_22 rfl (gRg.obj HJ.r1) rfl rfl rfl (Nat.le_of_ble_eq_true rfl) (Nat.le_of_ble_eq_true rfl) (Nat.le_of_ble_eq_true rfl) (Nat.le_of_ble_eq_true rfl) (Nat.le_of_ble_eq_true rfl) rfl ?_
  refine g_istore (q := 27) C dX1_tell_25 (Nat.le_of_ble_eq_true rfl) (by simp only [gset]; rfl) rfl ?_
  refine g_iload_n (q := 28) C dX1_tell_27 rfl rfl ?_
  by_cases c_28_0 : y = 0
  ·
    refine g_tableE (v := 0) (off := 36) (t := 64) C dX1_tell_28 c_28_0 (by decide) (by decide) (by decide) (by decide) ?_
    refine g_aload_n (q := 65) C dX1_tell_64 rfl rfl ?_
    refine g_getfield (v := .ref 4) (q := 68) C fX1_17 dX1_tell_65 rfl HJ.1 rfl ?_
    refine g_iload (q := 70) C dX1_tell_68 rfl rfl ?_
    refine g_callVi (x := (gat (J.l 0) (gat (J.l 1) (gat (J.l 5) (jX1_placeOf J x))))) (q := 73) (As := [.int ((gat (J.l 1) (gat (J.l 5) (jX1_placeOf J x))))]) C gyX4_at gvX4_at t_783 (c_X4_at_g HJ.r0) dX1_tell_70 rfl (gRg.obj HJ.r0) rfl rfl rfl (Nat.le_of_ble_eq_true rfl) (Nat.le_of_ble_eq_true rfl) (Nat.le_of_ble_eq_true rfl) (Nat.le_of_ble_eq_true rfl) (Nat.le_of_ble_eq_true rfl) rfl ?_
    have e : jX1_tell J x y = ((gat (J.l 0) (gat (J.l 1) (gat (J.l 5) (jX1_placeOf J x))))) := (if_pos c_28_0)
    exact E.1 _ _ _ _ _ _ _ dX1_tell_73 rfl rfl (Nat.le_of_ble_eq_true rfl) (Nat.le_of_ble_eq_true rfl) ⟨by rw [e], rfl⟩
  by_cases c_28_1 : y = 1
  ·
    refine g_tableE (v := 1) (off := 46) (t := 74) C dX1_tell_28 c_28_1 (by decide) (by decide) (by decide) (by decide) ?_
    refine g_aload_n (q := 75) C dX1_tell_74 rfl rfl ?_
    refine g_getfield (v := .ref 4) (q := 78) C fX1_17 dX1_tell_75 rfl HJ.1 rfl ?_
    refine g_iload (q := 80) C dX1_tell_78 rfl rfl ?_
    refine g_iconst (v := 2) (q := 81) C dX1_tell_80 (by decide) rfl ?_
    refine g_iadd (q := 82) C dX1_tell_81 rfl ?_
    refine g_callVi (x := (gat (J.l 0) ((gat (J.l 1) (gat (J.l 5) (jX1_placeOf J x))) + 2))) (q := 85) (As := [.int (((gat (J.l 1) (gat (J.l 5) (jX1_placeOf J x))) + 2))]) C gyX4_at gvX4_at t_783 (c_X4_at_g HJ.r0) dX1_tell_82 rfl (gRg.obj HJ.r0) rfl rfl rfl (Nat.le_of_ble_eq_true rfl) (Nat.le_of_ble_eq_true rfl) (Nat.le_of_ble_eq_true rfl) (Nat.le_of_ble_eq_true rfl) (Nat.le_of_ble_eq_true rfl) rfl ?_
    have e : jX1_tell J x y = ((gat (J.l 0) ((gat (J.l 1) (gat (J.l 5) (jX1_placeOf J x))) + 2))) := ((if_neg c_28_0).trans (if_pos c_28_1))
    exact E.1 _ _ _ _ _ _ _ dX1_tell_85 rfl rfl (Nat.le_of_ble_eq_true rfl) (Nat.le_of_ble_eq_true rfl) ⟨by rw [e], rfl⟩
  by_cases c_28_2 : y = 2
  ·
    refine g_tableE (v := 2) (off := 58) (t := 86) C dX1_tell_28 c_28_2 (by decide) (by decide) (by decide) (by decide) ?_
    refine g_aload_n (q := 87) C dX1_tell_86 rfl rfl ?_
    refine g_getfield (v := .ref 4) (q := 90) C fX1_17 dX1_tell_87 rfl HJ.1 rfl ?_
    refine g_iload (q := 92) C dX1_tell_90 rfl rfl ?_
    refine g_iconst (v := 3) (q := 93) C dX1_tell_92 (by decide) rfl ?_
    refine g_iadd (q := 94) C dX1_tell_93 rfl ?_
    refine g_callVi (x := (gat (J.l 0) ((gat (J.l 1) (gat (J.l 5) (jX1_placeOf J x))) + 3))) (q := 97) (As := [.int (((gat (J.l 1) (gat (J.l 5) (jX1_placeOf J x))) + 3))]) C gyX4_at gvX4_at t_783 (c_X4_at_g HJ.r0) dX1_tell_94 rfl (gRg.obj HJ.r0) rfl rfl rfl (Nat.le_of_ble_eq_true rfl) (Nat.le_of_ble_eq_true rfl) (Nat.le_of_ble_eq_true rfl) (Nat.le_of_ble_eq_true rfl) (Nat.le_of_ble_eq_true rfl) rfl ?_
    have e : jX1_tell J x y = ((gat (J.l 0) ((gat (J.l 1) (gat (J.l 5) (jX1_placeOf J x))) + 3))) := ((if_neg c_28_0).trans ((if_neg c_28_1).trans (if_pos c_28_2)))
    exact E.1 _ _ _ _ _ _ _ dX1_tell_97 rfl rfl (Nat.le_of_ble_eq_true rfl) (Nat.le_of_ble_eq_true rfl) ⟨by rw [e], rfl⟩
  by_cases c_28_3 : y = 3
  ·
    refine g_tableE (v := 3) (off := 70) (t := 98) C dX1_tell_28 c_28_3 (by decide) (by decide) (by decide) (by decide) ?_
    refine g_aload_n (q := 99) C dX1_tell_98 rfl rfl ?_
    refine g_getfield (v := .ref 16) (q := 102) C fX1_37 dX1_tell_99 rfl HJ.1 rfl ?_
    refine g_iload_n (q := 103) C dX1_tell_102 rfl rfl ?_
    refine g_callVi (x := (gat (J.l 6) (jX1_placeOf J x))) (q := 106) (As := [.int ((jX1_placeOf J x))]) C gyX4_at gvX4_at t_783 (c_X4_at_g HJ.r6) dX1_tell_103 rfl (gRg.obj HJ.r6) rfl rfl rfl (Nat.le_of_ble_eq_true rfl) (Nat.le_of_ble_eq_true rfl) (Nat.le_of_ble_eq_true rfl) (Nat.le_of_ble_eq_true rfl) (Nat.le_of_ble_eq_true rfl) rfl ?_
    have e : jX1_tell J x y = ((gat (J.l 6) (jX1_placeOf J x))) := ((if_neg c_28_0).trans ((if_neg c_28_1).trans ((if_neg c_28_2).trans (if_pos c_28_3))))
    exact E.1 _ _ _ _ _ _ _ dX1_tell_106 rfl rfl (Nat.le_of_ble_eq_true rfl) (Nat.le_of_ble_eq_true rfl) ⟨by rw [e], rfl⟩
  by_cases c_28_4 : y = 4
  ·
    refine g_tableE (v := 4) (off := 79) (t := 107) C dX1_tell_28 c_28_4 (by decide) (by decide) (by decide) (by decide) ?_
    refine g_aload_n (q := 108) C dX1_tell_107 rfl rfl ?_
    refine g_getfield (v := .ref 18) (q := 111) C fX1_40 dX1_tell_108 rfl HJ.1 rfl ?_
    refine g_iload_n (q := 112) C dX1_tell_111 rfl rfl ?_
    refine g_callVi (x := (gat (J.l 7) (jX1_placeOf J x))) (q := 115) (As := [.int ((jX1_placeOf J x))]) C gyX4_at gvX4_at t_783 (c_X4_at_g HJ.r7) dX1_tell_112 rfl (gRg.obj HJ.r7) rfl rfl rfl (Nat.le_of_ble_eq_true rfl) (Nat.le_of_ble_eq_true rfl) (Nat.le_of_ble_eq_true rfl) (Nat.le_of_ble_eq_true rfl) (Nat.le_of_ble_eq_true rfl) rfl ?_
    have e : jX1_tell J x y = ((gat (J.l 7) (jX1_placeOf J x))) := ((if_neg c_28_0).trans ((if_neg c_28_1).trans ((if_neg c_28_2).trans ((if_neg c_28_3).trans (if_pos c_28_4)))))
    exact E.1 _ _ _ _ _ _ _ dX1_tell_115 rfl rfl (Nat.le_of_ble_eq_true rfl) (Nat.le_of_ble_eq_true rfl) ⟨by rw [e], rfl⟩
  refine g_tableOut (t := 116) C dX1_tell_28 (gOut5 c_28_0 c_28_1 c_28_2 c_28_3 c_28_4) (by decide) ?_
  refine g_aload_n (q := 117) C dX1_tell_116 rfl rfl ?_
  refine g_getfield (v := .ref 8) (q := 120) C fX1_25 dX1_tell_117 rfl HJ.1 rfl ?_
  refine g_iload (q := 122) C dX1_tell_120 rfl rfl ?_
  refine g_callVi (x := (gat (J.l 2) (gat (J.l 5) (jX1_placeOf J x)))) (q := 125) (As := [.int ((gat (J.l 5) (jX1_placeOf J x)))]) C gyX4_at gvX4_at t_783 (c_X4_at_g HJ.r2) dX1_tell_122 rfl (gRg.obj HJ.r2) rfl rfl rfl (Nat.le_of_ble_eq_true rfl) (Nat.le_of_ble_eq_true rfl) (Nat.le_of_ble_eq_true rfl) (Nat.le_of_ble_eq_true rfl) (Nat.le_of_ble_eq_true rfl) rfl ?_
  have e : jX1_tell J x y = ((gat (J.l 2) (gat (J.l 5) (jX1_placeOf J x)))) := ((if_neg c_28_0).trans ((if_neg c_28_1).trans ((if_neg c_28_2).trans ((if_neg c_28_3).trans (if_neg c_28_4)))))
  exact E.1 _ _ _ _ _ _ _ dX1_tell_125 rfl rfl (Nat.le_of_ble_eq_true rfl) (Nat.le_of_ble_eq_true rfl) ⟨by rw [e], rfl⟩
def jX1_byteAt (J : gJr) (x : Int32) (y : Int32) : Int32 := (if y < 0 then (-1) else (if y < ((gat (J.l 0) ((gat (J.l 1) (gat (J.l 5) (jX1_placeOf J x))) + 3)) + 4) then (gat (J.l 0) (((gat (J.l 1) (gat (J.l 5) (jX1_placeOf J x))) + 1) + y)) else (-1)))
theorem dX1_byteAt_0 : decode cX1_byteAt 0 = .ok (.aload_n 0, 1) := by decide +kernel
theorem dX1_byteAt_1 : decode cX1_byteAt 1 = .ok (.getfield 22, 3) := by decide +kernel
theorem dX1_byteAt_4 : decode cX1_byteAt 4 = .ok (.aload_n 0, 1) := by decide +kernel
theorem dX1_byteAt_5 : decode cX1_byteAt 5 = .ok (.getfield 34, 3) := by decide +kernel
theorem dX1_byteAt_8 : decode cX1_byteAt 8 = .ok (.aload_n 0, 1) := by decide +kernel
theorem dX1_byteAt_9 : decode cX1_byteAt 9 = .ok (.iload_n 1, 1) := by decide +kernel
theorem dX1_byteAt_10 : decode cX1_byteAt 10 = .ok (.invokevirtual 77, 3) := by decide +kernel
theorem dX1_byteAt_13 : decode cX1_byteAt 13 = .ok (.invokevirtual 55, 3) := by decide +kernel
theorem dX1_byteAt_16 : decode cX1_byteAt 16 = .ok (.invokevirtual 55, 3) := by decide +kernel
theorem dX1_byteAt_19 : decode cX1_byteAt 19 = .ok (.istore_n 3, 1) := by decide +kernel
theorem dX1_byteAt_20 : decode cX1_byteAt 20 = .ok (.iload_n 2, 1) := by decide +kernel
theorem dX1_byteAt_21 : decode cX1_byteAt 21 = .ok (.ifCond .lt 19, 3) := by decide +kernel
theorem dX1_byteAt_24 : decode cX1_byteAt 24 = .ok (.iload_n 2, 1) := by decide +kernel
theorem dX1_byteAt_25 : decode cX1_byteAt 25 = .ok (.aload_n 0, 1) := by decide +kernel
theorem dX1_byteAt_26 : decode cX1_byteAt 26 = .ok (.getfield 17, 3) := by decide +kernel
theorem dX1_byteAt_29 : decode cX1_byteAt 29 = .ok (.iload_n 3, 1) := by decide +kernel
theorem dX1_byteAt_30 : decode cX1_byteAt 30 = .ok (.iconst 3, 1) := by decide +kernel
theorem dX1_byteAt_31 : decode cX1_byteAt 31 = .ok (.iadd, 1) := by decide +kernel
theorem dX1_byteAt_32 : decode cX1_byteAt 32 = .ok (.invokevirtual 55, 3) := by decide +kernel
theorem dX1_byteAt_35 : decode cX1_byteAt 35 = .ok (.iconst 4, 1) := by decide +kernel
theorem dX1_byteAt_36 : decode cX1_byteAt 36 = .ok (.iadd, 1) := by decide +kernel
theorem dX1_byteAt_37 : decode cX1_byteAt 37 = .ok (.if_icmp .lt 5, 3) := by decide +kernel
theorem dX1_byteAt_40 : decode cX1_byteAt 40 = .ok (.iconst (-1), 1) := by decide +kernel
theorem dX1_byteAt_41 : decode cX1_byteAt 41 = .ok (.ireturn, 1) := by decide +kernel
theorem dX1_byteAt_42 : decode cX1_byteAt 42 = .ok (.aload_n 0, 1) := by decide +kernel
theorem dX1_byteAt_43 : decode cX1_byteAt 43 = .ok (.getfield 17, 3) := by decide +kernel
theorem dX1_byteAt_46 : decode cX1_byteAt 46 = .ok (.iload_n 3, 1) := by decide +kernel
theorem dX1_byteAt_47 : decode cX1_byteAt 47 = .ok (.iconst 1, 1) := by decide +kernel
theorem dX1_byteAt_48 : decode cX1_byteAt 48 = .ok (.iadd, 1) := by decide +kernel
theorem dX1_byteAt_49 : decode cX1_byteAt 49 = .ok (.iload_n 2, 1) := by decide +kernel
theorem dX1_byteAt_50 : decode cX1_byteAt 50 = .ok (.iadd, 1) := by decide +kernel
theorem dX1_byteAt_51 : decode cX1_byteAt 51 = .ok (.invokevirtual 55, 3) := by decide +kernel
theorem dX1_byteAt_54 : decode cX1_byteAt 54 = .ok (.ireturn, 1) := by decide +kernel
set_option maxRecDepth 100000 in
set_option maxHeartbeats 4000000 in
theorem c_X1_byteAt_j {hp : List gA} {J : gJr} {x : Int32} {y : Int32}  (HJ : gJn hp J)  : gM yX1_byteAt cX1_byteAt 4 ((some .int)) 1 22 [.ref 3, .int x, .int y] (hp) (0) (0) (fun v h => v = some (.int (jX1_byteAt J x y)) ∧ h = hp) := by
  refine gM_of (ls0 := [some (.ref 3), some (.int x), some (.int y), none]) (by decide +kernel) (Nat.le_of_ble_eq_true rfl) rfl fun X C E => ?_
  refine g_aload_n (q := 1) C dX1_byteAt_0 rfl rfl ?_
  refine g_getfield (v := .ref 6) (q := 4) C fX1_22 dX1_byteAt_1 rfl HJ.1 rfl ?_
  refine g_aload_n (q := 5) C dX1_byteAt_4 rfl rfl ?_
  refine g_getfield (v := .ref 14) (q := 8) C fX1_34 dX1_byteAt_5 rfl HJ.1 rfl ?_
  refine g_aload_n (q := 9) C dX1_byteAt_8 rfl rfl ?_
  refine g_iload_n (q := 10) C dX1_byteAt_9 rfl rfl ?_
  refine g_callVi (x := (jX1_placeOf J x)) (q := 13) (As := [.int x]) C gyX1_placeOf gvX1_placeOf t_904 (c_X1_placeOf_j HJ) dX1_byteAt_10 rfl HJ.1 rfl rfl rfl (Nat.le_of_ble_eq_true rfl) (Nat.le_of_ble_eq_true rfl) (Nat.le_of_ble_eq_true rfl) (Nat.le_of_ble_eq_true rfl) (Nat.le_of_ble_eq_true rfl) rfl ?_
  refine g_callVi (x := (gat (J.l 5) (jX1_placeOf J x))) (q := 16) (As := [.int ((jX1_placeOf J x))]) C gyX4_at gvX4_at t_783 (c_X4_at_g HJ.r5) dX1_byteAt_13 rfl (gRg.obj HJ.r5) rfl rfl rfl (Nat.le_of_ble_eq_true rfl) (Nat.le_of_ble_eq_true rfl) (Nat.le_of_ble_eq_true rfl) (Nat.le_of_ble_eq_true rfl) (Nat.le_of_ble_eq_true rfl) rfl ?_
  refine g_callVi (x := (gat (J.l 1) (gat (J.l 5) (jX1_placeOf J x)))) (q := 19) (As := [.int ((gat (J.l 5) (jX1_placeOf J x)))]) C gyX4_at gvX4_at t_783 (c_X4_at_g HJ.r1) dX1_byteAt_16 rfl (gRg.obj HJ.r1) rfl rfl rfl (Nat.le_of_ble_eq_true rfl) (Nat.le_of_ble_eq_true rfl) (Nat.le_of_ble_eq_true rfl) (Nat.le_of_ble_eq_true rfl) (Nat.le_of_ble_eq_true rfl) rfl ?_
  refine g_istore_n (q := 20) C dX1_byteAt_19 (Nat.le_of_ble_eq_true rfl) (by simp only [gset]; rfl) rfl ?_
  refine g_iload_n (q := 21) C dX1_byteAt_20 rfl rfl ?_
  refine g_if_lt (t := 40) (q := 24) C dX1_byteAt_21 (by decide) rfl (fun c_21 => ?_) (fun c_21 => ?_)
  ·
    refine g_iconst (v := (-1)) (q := 41) C dX1_byteAt_40 (by decide) rfl ?_
    have e : jX1_byteAt J x y = ((-1)) := (if_pos c_21)
    exact E.1 _ _ _ _ _ _ _ dX1_byteAt_41 rfl rfl (Nat.le_of_ble_eq_true rfl) (Nat.le_of_ble_eq_true rfl) ⟨by rw [e], rfl⟩
  ·
    refine g_iload_n (q := 25) C dX1_byteAt_24 rfl rfl ?_
    refine g_aload_n (q := 26) C dX1_byteAt_25 rfl rfl ?_
    refine g_getfield (v := .ref 4) (q := 29) C fX1_17 dX1_byteAt_26 rfl HJ.1 rfl ?_
    refine g_iload_n (q := 30) C dX1_byteAt_29 rfl rfl ?_
    refine g_iconst (v := 3) (q := 31) C dX1_byteAt_30 (by decide) rfl ?_
    refine g_iadd (q := 32) C dX1_byteAt_31 rfl ?_
    refine g_callVi (x := (gat (J.l 0) ((gat (J.l 1) (gat (J.l 5) (jX1_placeOf J x))) + 3))) (q := 35) (As := [.int (((gat (J.l 1) (gat (J.l 5) (jX1_placeOf J x))) + 3))]) C gyX4_at gvX4_at t_783 (c_X4_at_g HJ.r0) dX1_byteAt_32 rfl (gRg.obj HJ.r0) rfl rfl rfl (Nat.le_of_ble_eq_true rfl) (Nat.le_of_ble_eq_true rfl) (Nat.le_of_ble_eq_true rfl) (Nat.le_of_ble_eq_true rfl) (Nat.le_of_ble_eq_true rfl) rfl ?_
    refine g_iconst (v := 4) (q := 36) C dX1_byteAt_35 (by decide) rfl ?_
    refine g_iadd (q := 37) C dX1_byteAt_36 rfl ?_
    refine g_icmp_lt (t := 42) (q := 40) C dX1_byteAt_37 (by decide) rfl (fun c_37 => ?_) (fun c_37 => ?_)
    ·
      refine g_aload_n (q := 43) C dX1_byteAt_42 rfl rfl ?_
      refine g_getfield (v := .ref 4) (q := 46) C fX1_17 dX1_byteAt_43 rfl HJ.1 rfl ?_
      refine g_iload_n (q := 47) C dX1_byteAt_46 rfl rfl ?_
      refine g_iconst (v := 1) (q := 48) C dX1_byteAt_47 (by decide) rfl ?_
      refine g_iadd (q := 49) C dX1_byteAt_48 rfl ?_
      refine g_iload_n (q := 50) C dX1_byteAt_49 rfl rfl ?_
      refine g_iadd (q := 51) C dX1_byteAt_50 rfl ?_
      refine g_callVi (x := (gat (J.l 0) (((gat (J.l 1) (gat (J.l 5) (jX1_placeOf J x))) + 1) + y))) (q := 54) (As := [.int ((((gat (J.l 1) (gat (J.l 5) (jX1_placeOf J x))) + 1) + y))]) C gyX4_at gvX4_at t_783 (c_X4_at_g HJ.r0) dX1_byteAt_51 rfl (gRg.obj HJ.r0) rfl rfl rfl (Nat.le_of_ble_eq_true rfl) (Nat.le_of_ble_eq_true rfl) (Nat.le_of_ble_eq_true rfl) (Nat.le_of_ble_eq_true rfl) (Nat.le_of_ble_eq_true rfl) rfl ?_
      have e : jX1_byteAt J x y = ((gat (J.l 0) (((gat (J.l 1) (gat (J.l 5) (jX1_placeOf J x))) + 1) + y))) := ((if_neg c_21).trans (if_pos c_37))
      exact E.1 _ _ _ _ _ _ _ dX1_byteAt_54 rfl rfl (Nat.le_of_ble_eq_true rfl) (Nat.le_of_ble_eq_true rfl) ⟨by rw [e], rfl⟩
    ·
      refine g_iconst (v := (-1)) (q := 41) C dX1_byteAt_40 (by decide) rfl ?_
      have e : jX1_byteAt J x y = ((-1)) := ((if_neg c_21).trans (if_neg c_37))
      exact E.1 _ _ _ _ _ _ _ dX1_byteAt_41 rfl rfl (Nat.le_of_ble_eq_true rfl) (Nat.le_of_ble_eq_true rfl) ⟨by rw [e], rfl⟩
def jX1_forgetAll (J : gJr) : gJr := (((((((((J.row 0 []).row 1 []).row 2 []).row 3 []).row 4 []).row 5 []).row 6 []).row 7 []).sne (-1))
theorem dX1_forgetAll_0 : decode cX1_forgetAll 0 = .ok (.aload_n 0, 1) := by decide +kernel
theorem dX1_forgetAll_1 : decode cX1_forgetAll 1 = .ok (.getfield 17, 3) := by decide +kernel
theorem dX1_forgetAll_4 : decode cX1_forgetAll 4 = .ok (.iconst 0, 1) := by decide +kernel
theorem dX1_forgetAll_5 : decode cX1_forgetAll 5 = .ok (.invokevirtual 47, 3) := by decide +kernel
theorem dX1_forgetAll_8 : decode cX1_forgetAll 8 = .ok (.aload_n 0, 1) := by decide +kernel
theorem dX1_forgetAll_9 : decode cX1_forgetAll 9 = .ok (.getfield 22, 3) := by decide +kernel
theorem dX1_forgetAll_12 : decode cX1_forgetAll 12 = .ok (.iconst 0, 1) := by decide +kernel
theorem dX1_forgetAll_13 : decode cX1_forgetAll 13 = .ok (.invokevirtual 47, 3) := by decide +kernel
theorem dX1_forgetAll_16 : decode cX1_forgetAll 16 = .ok (.aload_n 0, 1) := by decide +kernel
theorem dX1_forgetAll_17 : decode cX1_forgetAll 17 = .ok (.getfield 25, 3) := by decide +kernel
theorem dX1_forgetAll_20 : decode cX1_forgetAll 20 = .ok (.iconst 0, 1) := by decide +kernel
theorem dX1_forgetAll_21 : decode cX1_forgetAll 21 = .ok (.invokevirtual 47, 3) := by decide +kernel
theorem dX1_forgetAll_24 : decode cX1_forgetAll 24 = .ok (.aload_n 0, 1) := by decide +kernel
theorem dX1_forgetAll_25 : decode cX1_forgetAll 25 = .ok (.getfield 28, 3) := by decide +kernel
theorem dX1_forgetAll_28 : decode cX1_forgetAll 28 = .ok (.iconst 0, 1) := by decide +kernel
theorem dX1_forgetAll_29 : decode cX1_forgetAll 29 = .ok (.invokevirtual 47, 3) := by decide +kernel
theorem dX1_forgetAll_32 : decode cX1_forgetAll 32 = .ok (.aload_n 0, 1) := by decide +kernel
theorem dX1_forgetAll_33 : decode cX1_forgetAll 33 = .ok (.getfield 31, 3) := by decide +kernel
theorem dX1_forgetAll_36 : decode cX1_forgetAll 36 = .ok (.iconst 0, 1) := by decide +kernel
theorem dX1_forgetAll_37 : decode cX1_forgetAll 37 = .ok (.invokevirtual 47, 3) := by decide +kernel
theorem dX1_forgetAll_40 : decode cX1_forgetAll 40 = .ok (.aload_n 0, 1) := by decide +kernel
theorem dX1_forgetAll_41 : decode cX1_forgetAll 41 = .ok (.getfield 34, 3) := by decide +kernel
theorem dX1_forgetAll_44 : decode cX1_forgetAll 44 = .ok (.iconst 0, 1) := by decide +kernel
theorem dX1_forgetAll_45 : decode cX1_forgetAll 45 = .ok (.invokevirtual 47, 3) := by decide +kernel
theorem dX1_forgetAll_48 : decode cX1_forgetAll 48 = .ok (.aload_n 0, 1) := by decide +kernel
theorem dX1_forgetAll_49 : decode cX1_forgetAll 49 = .ok (.getfield 37, 3) := by decide +kernel
theorem dX1_forgetAll_52 : decode cX1_forgetAll 52 = .ok (.iconst 0, 1) := by decide +kernel
theorem dX1_forgetAll_53 : decode cX1_forgetAll 53 = .ok (.invokevirtual 47, 3) := by decide +kernel
theorem dX1_forgetAll_56 : decode cX1_forgetAll 56 = .ok (.aload_n 0, 1) := by decide +kernel
theorem dX1_forgetAll_57 : decode cX1_forgetAll 57 = .ok (.getfield 40, 3) := by decide +kernel
theorem dX1_forgetAll_60 : decode cX1_forgetAll 60 = .ok (.iconst 0, 1) := by decide +kernel
theorem dX1_forgetAll_61 : decode cX1_forgetAll 61 = .ok (.invokevirtual 47, 3) := by decide +kernel
theorem dX1_forgetAll_64 : decode cX1_forgetAll 64 = .ok (.aload_n 0, 1) := by decide +kernel
theorem dX1_forgetAll_65 : decode cX1_forgetAll 65 = .ok (.iconst (-1), 1) := by decide +kernel
theorem dX1_forgetAll_66 : decode cX1_forgetAll 66 = .ok (.putfield 43, 3) := by decide +kernel
theorem dX1_forgetAll_69 : decode cX1_forgetAll 69 = .ok (.return_, 1) := by decide +kernel
set_option maxRecDepth 100000 in
set_option maxHeartbeats 4000000 in
theorem c_X1_forgetAll_j {hp : List gA} {J : gJr}  (HJ : gJn hp J)  : gM yX1_forgetAll cX1_forgetAll 1 (none) 2 42 [.ref 3] (hp) (0) (0) (fun v h => v = none ∧ (gJn h (jX1_forgetAll J) ∧ gFJ hp h J)) := by
  refine gM_of (ls0 := [some (.ref 3)]) (by decide +kernel) (Nat.le_of_ble_eq_true rfl) rfl fun X C E => ?_
  refine g_aload_n (q := 1) C dX1_forgetAll_0 rfl rfl ?_
  refine g_getfield (v := .ref 4) (q := 4) C fX1_17 dX1_forgetAll_1 rfl HJ.1 rfl ?_
  refine g_iconst (v := 0) (q := 5) C dX1_forgetAll_4 (by decide) rfl ?_
  refine g_callVvp (q := 8) (As := [.int 0]) C gyX4_keep gvX4_keep t_485 (c_X4_keep0_g HJ.r0) dX1_forgetAll_5 rfl (gRg.obj HJ.r0) rfl rfl rfl (Nat.le_of_ble_eq_true rfl) (Nat.le_of_ble_eq_true rfl) (Nat.le_of_ble_eq_true rfl) (Nat.le_of_ble_eq_true rfl) (Nat.le_of_ble_eq_true rfl) rfl (fun h1 z1 => ?_)
  obtain ⟨HL1, fr1⟩ := gJn.row (k := 0) HJ (by decide) z1
  refine g_aload_n (q := 9) C dX1_forgetAll_8 rfl rfl ?_
  refine g_getfield (v := .ref 6) (q := 12) C fX1_22 dX1_forgetAll_9 rfl HL1.1 rfl ?_
  refine g_iconst (v := 0) (q := 13) C dX1_forgetAll_12 (by decide) rfl ?_
  refine g_callVvp (q := 16) (As := [.int 0]) C gyX4_keep gvX4_keep t_485 (c_X4_keep0_g HL1.r1) dX1_forgetAll_13 rfl (gRg.obj HL1.r1) rfl rfl rfl (Nat.le_of_ble_eq_true rfl) (Nat.le_of_ble_eq_true rfl) (Nat.le_of_ble_eq_true rfl) (Nat.le_of_ble_eq_true rfl) (Nat.le_of_ble_eq_true rfl) rfl (fun h2 z2 => ?_)
  obtain ⟨HL2, fr2⟩ := gJn.row (k := 1) HL1 (by decide) z2
  refine g_aload_n (q := 17) C dX1_forgetAll_16 rfl rfl ?_
  refine g_getfield (v := .ref 8) (q := 20) C fX1_25 dX1_forgetAll_17 rfl HL2.1 rfl ?_
  refine g_iconst (v := 0) (q := 21) C dX1_forgetAll_20 (by decide) rfl ?_
  refine g_callVvp (q := 24) (As := [.int 0]) C gyX4_keep gvX4_keep t_485 (c_X4_keep0_g HL2.r2) dX1_forgetAll_21 rfl (gRg.obj HL2.r2) rfl rfl rfl (Nat.le_of_ble_eq_true rfl) (Nat.le_of_ble_eq_true rfl) (Nat.le_of_ble_eq_true rfl) (Nat.le_of_ble_eq_true rfl) (Nat.le_of_ble_eq_true rfl) rfl (fun h3 z3 => ?_)
  obtain ⟨HL3, fr3⟩ := gJn.row (k := 2) HL2 (by decide) z3
  refine g_aload_n (q := 25) C dX1_forgetAll_24 rfl rfl ?_
  refine g_getfield (v := .ref 10) (q := 28) C fX1_28 dX1_forgetAll_25 rfl HL3.1 rfl ?_
  refine g_iconst (v := 0) (q := 29) C dX1_forgetAll_28 (by decide) rfl ?_
  refine g_callVvp (q := 32) (As := [.int 0]) C gyX4_keep gvX4_keep t_485 (c_X4_keep0_g HL3.r3) dX1_forgetAll_29 rfl (gRg.obj HL3.r3) rfl rfl rfl (Nat.le_of_ble_eq_true rfl) (Nat.le_of_ble_eq_true rfl) (Nat.le_of_ble_eq_true rfl) (Nat.le_of_ble_eq_true rfl) (Nat.le_of_ble_eq_true rfl) rfl (fun h4 z4 => ?_)
  obtain ⟨HL4, fr4⟩ := gJn.row (k := 3) HL3 (by decide) z4
  refine g_aload_n (q := 33) C dX1_forgetAll_32 rfl rfl ?_
  refine g_getfield (v := .ref 12) (q := 36) C fX1_31 dX1_forgetAll_33 rfl HL4.1 rfl ?_
  refine g_iconst (v := 0) (q := 37) C dX1_forgetAll_36 (by decide) rfl ?_
  refine g_callVvp (q := 40) (As := [.int 0]) C gyX4_keep gvX4_keep t_485 (c_X4_keep0_g HL4.r4) dX1_forgetAll_37 rfl (gRg.obj HL4.r4) rfl rfl rfl (Nat.le_of_ble_eq_true rfl) (Nat.le_of_ble_eq_true rfl) (Nat.le_of_ble_eq_true rfl) (Nat.le_of_ble_eq_true rfl) (Nat.le_of_ble_eq_true rfl) rfl (fun h5 z5 => ?_)
  obtain ⟨HL5, fr5⟩ := gJn.row (k := 4) HL4 (by decide) z5
  refine g_aload_n (q := 41) C dX1_forgetAll_40 rfl rfl ?_
  refine g_getfield (v := .ref 14) (q := 44) C fX1_34 dX1_forgetAll_41 rfl HL5.1 rfl ?_
  refine g_iconst (v := 0) (q := 45) C dX1_forgetAll_44 (by decide) rfl ?_
  refine g_callVvp (q := 48) (As := [.int 0]) C gyX4_keep gvX4_keep t_485 (c_X4_keep0_g HL5.r5) dX1_forgetAll_45 rfl (gRg.obj HL5.r5) rfl rfl rfl (Nat.le_of_ble_eq_true rfl) (Nat.le_of_ble_eq_true rfl) (Nat.le_of_ble_eq_true rfl) (Nat.le_of_ble_eq_true rfl) (Nat.le_of_ble_eq_true rfl) rfl (fun h6 z6 => ?_)
  obtain ⟨HL6, fr6⟩ := gJn.row (k := 5) HL5 (by decide) z6
  refine g_aload_n (q := 49) C dX1_forgetAll_48 rfl rfl ?_
  refine g_getfield (v := .ref 16) (q := 52) C fX1_37 dX1_forgetAll_49 rfl HL6.1 rfl ?_
  refine g_iconst (v := 0) (q := 53) C dX1_forgetAll_52 (by decide) rfl ?_
  refine g_callVvp (q := 56) (As := [.int 0]) C gyX4_keep gvX4_keep t_485 (c_X4_keep0_g HL6.r6) dX1_forgetAll_53 rfl (gRg.obj HL6.r6) rfl rfl rfl (Nat.le_of_ble_eq_true rfl) (Nat.le_of_ble_eq_true rfl) (Nat.le_of_ble_eq_true rfl) (Nat.le_of_ble_eq_true rfl) (Nat.le_of_ble_eq_true rfl) rfl (fun h7 z7 => ?_)
  obtain ⟨HL7, fr7⟩ := gJn.row (k := 6) HL6 (by decide) z7
  refine g_aload_n (q := 57) C dX1_forgetAll_56 rfl rfl ?_
  refine g_getfield (v := .ref 18) (q := 60) C fX1_40 dX1_forgetAll_57 rfl HL7.1 rfl ?_
  refine g_iconst (v := 0) (q := 61) C dX1_forgetAll_60 (by decide) rfl ?_
  refine g_callVvp (q := 64) (As := [.int 0]) C gyX4_keep gvX4_keep t_485 (c_X4_keep0_g HL7.r7) dX1_forgetAll_61 rfl (gRg.obj HL7.r7) rfl rfl rfl (Nat.le_of_ble_eq_true rfl) (Nat.le_of_ble_eq_true rfl) (Nat.le_of_ble_eq_true rfl) (Nat.le_of_ble_eq_true rfl) (Nat.le_of_ble_eq_true rfl) rfl (fun h8 z8 => ?_)
  obtain ⟨HL8, fr8⟩ := gJn.row (k := 7) HL7 (by decide) z8
  refine g_aload_n (q := 65) C dX1_forgetAll_64 rfl rfl ?_
  refine g_iconst (v := (-1)) (q := 66) C dX1_forgetAll_65 (by decide) rfl ?_
  refine g_putfield (q := 69) C fX1_43 dX1_forgetAll_66 rfl HL8.1 (Nat.le_of_ble_eq_true rfl) (Or.inl rfl) rfl rfl (by intro z h; cases h) ?_
  refine gJput (x := (-1)) HL8 rfl fun h9 HL9 fr9 => ?_
  have e : jX1_forgetAll J = (((((((((J.row 0 []).row 1 []).row 2 []).row 3 []).row 4 []).row 5 []).row 6 []).row 7 []).sne (-1)) := rfl
  exact E.2.1 _ _ _ _ _ dX1_forgetAll_69 rfl (Nat.le_of_ble_eq_true rfl) (Nat.le_of_ble_eq_true rfl) ⟨rfl, by rw [e]; exact ⟨HL9, (gFJ.trans (gFJ.trans (gFJ.trans (gFJ.trans (gFJ.trans (gFJ.trans (gFJ.trans (gFJ.trans fr1 fr2) fr3) fr4) fr5) fr6) fr7) fr8) fr9)⟩⟩
theorem grm {n m s mo : Nat} (c : ¬ (30 : Int32) ≤ nI n) (hn : n ≤ 1048576) (e : m = n) (hs : 30 ≤ s) (hmo : mo = 30) : m < mo ∧ m < s ∧ mo ≤ 1048576 := by
  rw [Int32.le_iff_toInt_le, nI_toInt (by omega), show (30 : Int32).toInt = 30 from by decide] at c
  omega
def jX1_note (J : gJr) (x : Int32) (y : Int32) (z : Int32) : gJr := (if 30 ≤ ((J.row 2 (gput (J.l 2) x ((gat (J.l 2) x) + 1))).ne + 1) then (if 30 ≤ (nI (((J.row 2 (gput (J.l 2) x ((gat (J.l 2) x) + 1))).sne 0).l 5).length) then (((((J.row 2 (gput (J.l 2) x ((gat (J.l 2) x) + 1))).sne 0).row 5 (gput (((J.row 2 (gput (J.l 2) x ((gat (J.l 2) x) + 1))).sne 0).l 5) (((J.row 2 (gput (J.l 2) x ((gat (J.l 2) x) + 1))).sne 0).ne) x)).row 6 (gput ((((J.row 2 (gput (J.l 2) x ((gat (J.l 2) x) + 1))).sne 0).row 5 (gput (((J.row 2 (gput (J.l 2) x ((gat (J.l 2) x) + 1))).sne 0).l 5) (((J.row 2 (gput (J.l 2) x ((gat (J.l 2) x) + 1))).sne 0).ne) x)).l 6) ((((J.row 2 (gput (J.l 2) x ((gat (J.l 2) x) + 1))).sne 0).row 5 (gput (((J.row 2 (gput (J.l 2) x ((gat (J.l 2) x) + 1))).sne 0).l 5) (((J.row 2 (gput (J.l 2) x ((gat (J.l 2) x) + 1))).sne 0).ne) x)).ne) y)).row 7 (gput (((((J.row 2 (gput (J.l 2) x ((gat (J.l 2) x) + 1))).sne 0).row 5 (gput (((J.row 2 (gput (J.l 2) x ((gat (J.l 2) x) + 1))).sne 0).l 5) (((J.row 2 (gput (J.l 2) x ((gat (J.l 2) x) + 1))).sne 0).ne) x)).row 6 (gput ((((J.row 2 (gput (J.l 2) x ((gat (J.l 2) x) + 1))).sne 0).row 5 (gput (((J.row 2 (gput (J.l 2) x ((gat (J.l 2) x) + 1))).sne 0).l 5) (((J.row 2 (gput (J.l 2) x ((gat (J.l 2) x) + 1))).sne 0).ne) x)).l 6) ((((J.row 2 (gput (J.l 2) x ((gat (J.l 2) x) + 1))).sne 0).row 5 (gput (((J.row 2 (gput (J.l 2) x ((gat (J.l 2) x) + 1))).sne 0).l 5) (((J.row 2 (gput (J.l 2) x ((gat (J.l 2) x) + 1))).sne 0).ne) x)).ne) y)).l 7) (((((J.row 2 (gput (J.l 2) x ((gat (J.l 2) x) + 1))).sne 0).row 5 (gput (((J.row 2 (gput (J.l 2) x ((gat (J.l 2) x) + 1))).sne 0).l 5) (((J.row 2 (gput (J.l 2) x ((gat (J.l 2) x) + 1))).sne 0).ne) x)).row 6 (gput ((((J.row 2 (gput (J.l 2) x ((gat (J.l 2) x) + 1))).sne 0).row 5 (gput (((J.row 2 (gput (J.l 2) x ((gat (J.l 2) x) + 1))).sne 0).l 5) (((J.row 2 (gput (J.l 2) x ((gat (J.l 2) x) + 1))).sne 0).ne) x)).l 6) ((((J.row 2 (gput (J.l 2) x ((gat (J.l 2) x) + 1))).sne 0).row 5 (gput (((J.row 2 (gput (J.l 2) x ((gat (J.l 2) x) + 1))).sne 0).l 5) (((J.row 2 (gput (J.l 2) x ((gat (J.l 2) x) + 1))).sne 0).ne) x)).ne) y)).ne) z)) else (((((J.row 2 (gput (J.l 2) x ((gat (J.l 2) x) + 1))).sne 0).row 5 ((((J.row 2 (gput (J.l 2) x ((gat (J.l 2) x) + 1))).sne 0).l 5) ++ [x])).row 6 (((((J.row 2 (gput (J.l 2) x ((gat (J.l 2) x) + 1))).sne 0).row 5 ((((J.row 2 (gput (J.l 2) x ((gat (J.l 2) x) + 1))).sne 0).l 5) ++ [x])).l 6) ++ [y])).row 7 ((((((J.row 2 (gput (J.l 2) x ((gat (J.l 2) x) + 1))).sne 0).row 5 ((((J.row 2 (gput (J.l 2) x ((gat (J.l 2) x) + 1))).sne 0).l 5) ++ [x])).row 6 (((((J.row 2 (gput (J.l 2) x ((gat (J.l 2) x) + 1))).sne 0).row 5 ((((J.row 2 (gput (J.l 2) x ((gat (J.l 2) x) + 1))).sne 0).l 5) ++ [x])).l 6) ++ [y])).l 7) ++ [z]))) else (if 30 ≤ (nI (((J.row 2 (gput (J.l 2) x ((gat (J.l 2) x) + 1))).sne ((J.row 2 (gput (J.l 2) x ((gat (J.l 2) x) + 1))).ne + 1)).l 5).length) then (((((J.row 2 (gput (J.l 2) x ((gat (J.l 2) x) + 1))).sne ((J.row 2 (gput (J.l 2) x ((gat (J.l 2) x) + 1))).ne + 1)).row 5 (gput (((J.row 2 (gput (J.l 2) x ((gat (J.l 2) x) + 1))).sne ((J.row 2 (gput (J.l 2) x ((gat (J.l 2) x) + 1))).ne + 1)).l 5) (((J.row 2 (gput (J.l 2) x ((gat (J.l 2) x) + 1))).sne ((J.row 2 (gput (J.l 2) x ((gat (J.l 2) x) + 1))).ne + 1)).ne) x)).row 6 (gput ((((J.row 2 (gput (J.l 2) x ((gat (J.l 2) x) + 1))).sne ((J.row 2 (gput (J.l 2) x ((gat (J.l 2) x) + 1))).ne + 1)).row 5 (gput (((J.row 2 (gput (J.l 2) x ((gat (J.l 2) x) + 1))).sne ((J.row 2 (gput (J.l 2) x ((gat (J.l 2) x) + 1))).ne + 1)).l 5) (((J.row 2 (gput (J.l 2) x ((gat (J.l 2) x) + 1))).sne ((J.row 2 (gput (J.l 2) x ((gat (J.l 2) x) + 1))).ne + 1)).ne) x)).l 6) ((((J.row 2 (gput (J.l 2) x ((gat (J.l 2) x) + 1))).sne ((J.row 2 (gput (J.l 2) x ((gat (J.l 2) x) + 1))).ne + 1)).row 5 (gput (((J.row 2 (gput (J.l 2) x ((gat (J.l 2) x) + 1))).sne ((J.row 2 (gput (J.l 2) x ((gat (J.l 2) x) + 1))).ne + 1)).l 5) (((J.row 2 (gput (J.l 2) x ((gat (J.l 2) x) + 1))).sne ((J.row 2 (gput (J.l 2) x ((gat (J.l 2) x) + 1))).ne + 1)).ne) x)).ne) y)).row 7 (gput (((((J.row 2 (gput (J.l 2) x ((gat (J.l 2) x) + 1))).sne ((J.row 2 (gput (J.l 2) x ((gat (J.l 2) x) + 1))).ne + 1)).row 5 (gput (((J.row 2 (gput (J.l 2) x ((gat (J.l 2) x) + 1))).sne ((J.row 2 (gput (J.l 2) x ((gat (J.l 2) x) + 1))).ne + 1)).l 5) (((J.row 2 (gput (J.l 2) x ((gat (J.l 2) x) + 1))).sne ((J.row 2 (gput (J.l 2) x ((gat (J.l 2) x) + 1))).ne + 1)).ne) x)).row 6 (gput ((((J.row 2 (gput (J.l 2) x ((gat (J.l 2) x) + 1))).sne ((J.row 2 (gput (J.l 2) x ((gat (J.l 2) x) + 1))).ne + 1)).row 5 (gput (((J.row 2 (gput (J.l 2) x ((gat (J.l 2) x) + 1))).sne ((J.row 2 (gput (J.l 2) x ((gat (J.l 2) x) + 1))).ne + 1)).l 5) (((J.row 2 (gput (J.l 2) x ((gat (J.l 2) x) + 1))).sne ((J.row 2 (gput (J.l 2) x ((gat (J.l 2) x) + 1))).ne + 1)).ne) x)).l 6) ((((J.row 2 (gput (J.l 2) x ((gat (J.l 2) x) + 1))).sne ((J.row 2 (gput (J.l 2) x ((gat (J.l 2) x) + 1))).ne + 1)).row 5 (gput (((J.row 2 (gput (J.l 2) x ((gat (J.l 2) x) + 1))).sne ((J.row 2 (gput (J.l 2) x ((gat (J.l 2) x) + 1))).ne + 1)).l 5) (((J.row 2 (gput (J.l 2) x ((gat (J.l 2) x) + 1))).sne ((J.row 2 (gput (J.l 2) x ((gat (J.l 2) x) + 1))).ne + 1)).ne) x)).ne) y)).l 7) (((((J.row 2 (gput (J.l 2) x ((gat (J.l 2) x) + 1))).sne ((J.row 2 (gput (J.l 2) x ((gat (J.l 2) x) + 1))).ne + 1)).row 5 (gput (((J.row 2 (gput (J.l 2) x ((gat (J.l 2) x) + 1))).sne ((J.row 2 (gput (J.l 2) x ((gat (J.l 2) x) + 1))).ne + 1)).l 5) (((J.row 2 (gput (J.l 2) x ((gat (J.l 2) x) + 1))).sne ((J.row 2 (gput (J.l 2) x ((gat (J.l 2) x) + 1))).ne + 1)).ne) x)).row 6 (gput ((((J.row 2 (gput (J.l 2) x ((gat (J.l 2) x) + 1))).sne ((J.row 2 (gput (J.l 2) x ((gat (J.l 2) x) + 1))).ne + 1)).row 5 (gput (((J.row 2 (gput (J.l 2) x ((gat (J.l 2) x) + 1))).sne ((J.row 2 (gput (J.l 2) x ((gat (J.l 2) x) + 1))).ne + 1)).l 5) (((J.row 2 (gput (J.l 2) x ((gat (J.l 2) x) + 1))).sne ((J.row 2 (gput (J.l 2) x ((gat (J.l 2) x) + 1))).ne + 1)).ne) x)).l 6) ((((J.row 2 (gput (J.l 2) x ((gat (J.l 2) x) + 1))).sne ((J.row 2 (gput (J.l 2) x ((gat (J.l 2) x) + 1))).ne + 1)).row 5 (gput (((J.row 2 (gput (J.l 2) x ((gat (J.l 2) x) + 1))).sne ((J.row 2 (gput (J.l 2) x ((gat (J.l 2) x) + 1))).ne + 1)).l 5) (((J.row 2 (gput (J.l 2) x ((gat (J.l 2) x) + 1))).sne ((J.row 2 (gput (J.l 2) x ((gat (J.l 2) x) + 1))).ne + 1)).ne) x)).ne) y)).ne) z)) else (((((J.row 2 (gput (J.l 2) x ((gat (J.l 2) x) + 1))).sne ((J.row 2 (gput (J.l 2) x ((gat (J.l 2) x) + 1))).ne + 1)).row 5 ((((J.row 2 (gput (J.l 2) x ((gat (J.l 2) x) + 1))).sne ((J.row 2 (gput (J.l 2) x ((gat (J.l 2) x) + 1))).ne + 1)).l 5) ++ [x])).row 6 (((((J.row 2 (gput (J.l 2) x ((gat (J.l 2) x) + 1))).sne ((J.row 2 (gput (J.l 2) x ((gat (J.l 2) x) + 1))).ne + 1)).row 5 ((((J.row 2 (gput (J.l 2) x ((gat (J.l 2) x) + 1))).sne ((J.row 2 (gput (J.l 2) x ((gat (J.l 2) x) + 1))).ne + 1)).l 5) ++ [x])).l 6) ++ [y])).row 7 ((((((J.row 2 (gput (J.l 2) x ((gat (J.l 2) x) + 1))).sne ((J.row 2 (gput (J.l 2) x ((gat (J.l 2) x) + 1))).ne + 1)).row 5 ((((J.row 2 (gput (J.l 2) x ((gat (J.l 2) x) + 1))).sne ((J.row 2 (gput (J.l 2) x ((gat (J.l 2) x) + 1))).ne + 1)).l 5) ++ [x])).row 6 (((((J.row 2 (gput (J.l 2) x ((gat (J.l 2) x) + 1))).sne ((J.row 2 (gput (J.l 2) x ((gat (J.l 2) x) + 1))).ne + 1)).row 5 ((((J.row 2 (gput (J.l 2) x ((gat (J.l 2) x) + 1))).sne ((J.row 2 (gput (J.l 2) x ((gat (J.l 2) x) + 1))).ne + 1)).l 5) ++ [x])).l 6) ++ [y])).l 7) ++ [z]))))
theorem dX1_note_0 : decode cX1_note 0 = .ok (.aload_n 0, 1) := by decide +kernel
theorem dX1_note_1 : decode cX1_note 1 = .ok (.getfield 25, 3) := by decide +kernel
theorem dX1_note_4 : decode cX1_note 4 = .ok (.iload_n 1, 1) := by decide +kernel
theorem dX1_note_5 : decode cX1_note 5 = .ok (.aload_n 0, 1) := by decide +kernel
theorem dX1_note_6 : decode cX1_note 6 = .ok (.getfield 25, 3) := by decide +kernel
theorem dX1_note_9 : decode cX1_note 9 = .ok (.iload_n 1, 1) := by decide +kernel
theorem dX1_note_10 : decode cX1_note 10 = .ok (.invokevirtual 55, 3) := by decide +kernel
theorem dX1_note_13 : decode cX1_note 13 = .ok (.iconst 1, 1) := by decide +kernel
theorem dX1_note_14 : decode cX1_note 14 = .ok (.iadd, 1) := by decide +kernel
theorem dX1_note_15 : decode cX1_note 15 = .ok (.invokevirtual 59, 3) := by decide +kernel
theorem dX1_note_18 : decode cX1_note 18 = .ok (.aload_n 0, 1) := by decide +kernel
theorem dX1_note_19 : decode cX1_note 19 = .ok (.aload_n 0, 1) := by decide +kernel
theorem dX1_note_20 : decode cX1_note 20 = .ok (.getfield 43, 3) := by decide +kernel
theorem dX1_note_23 : decode cX1_note 23 = .ok (.iconst 1, 1) := by decide +kernel
theorem dX1_note_24 : decode cX1_note 24 = .ok (.iadd, 1) := by decide +kernel
theorem dX1_note_25 : decode cX1_note 25 = .ok (.bipush 30, 2) := by decide +kernel
theorem dX1_note_27 : decode cX1_note 27 = .ok (.if_icmp .ge 12, 3) := by decide +kernel
theorem dX1_note_30 : decode cX1_note 30 = .ok (.aload_n 0, 1) := by decide +kernel
theorem dX1_note_31 : decode cX1_note 31 = .ok (.getfield 43, 3) := by decide +kernel
theorem dX1_note_34 : decode cX1_note 34 = .ok (.iconst 1, 1) := by decide +kernel
theorem dX1_note_35 : decode cX1_note 35 = .ok (.iadd, 1) := by decide +kernel
theorem dX1_note_36 : decode cX1_note 36 = .ok (.goto 4, 3) := by decide +kernel
theorem dX1_note_39 : decode cX1_note 39 = .ok (.iconst 0, 1) := by decide +kernel
theorem dX1_note_40 : decode cX1_note 40 = .ok (.putfield 43, 3) := by decide +kernel
theorem dX1_note_43 : decode cX1_note 43 = .ok (.aload_n 0, 1) := by decide +kernel
theorem dX1_note_44 : decode cX1_note 44 = .ok (.getfield 34, 3) := by decide +kernel
theorem dX1_note_47 : decode cX1_note 47 = .ok (.invokevirtual 51, 3) := by decide +kernel
theorem dX1_note_50 : decode cX1_note 50 = .ok (.bipush 30, 2) := by decide +kernel
theorem dX1_note_52 : decode cX1_note 52 = .ok (.if_icmp .ge 30, 3) := by decide +kernel
theorem dX1_note_55 : decode cX1_note 55 = .ok (.aload_n 0, 1) := by decide +kernel
theorem dX1_note_56 : decode cX1_note 56 = .ok (.getfield 34, 3) := by decide +kernel
theorem dX1_note_59 : decode cX1_note 59 = .ok (.iload_n 1, 1) := by decide +kernel
theorem dX1_note_60 : decode cX1_note 60 = .ok (.invokevirtual 62, 3) := by decide +kernel
theorem dX1_note_63 : decode cX1_note 63 = .ok (.aload_n 0, 1) := by decide +kernel
theorem dX1_note_64 : decode cX1_note 64 = .ok (.getfield 37, 3) := by decide +kernel
theorem dX1_note_67 : decode cX1_note 67 = .ok (.iload_n 2, 1) := by decide +kernel
theorem dX1_note_68 : decode cX1_note 68 = .ok (.invokevirtual 62, 3) := by decide +kernel
theorem dX1_note_71 : decode cX1_note 71 = .ok (.aload_n 0, 1) := by decide +kernel
theorem dX1_note_72 : decode cX1_note 72 = .ok (.getfield 40, 3) := by decide +kernel
theorem dX1_note_75 : decode cX1_note 75 = .ok (.iload_n 3, 1) := by decide +kernel
theorem dX1_note_76 : decode cX1_note 76 = .ok (.invokevirtual 62, 3) := by decide +kernel
theorem dX1_note_79 : decode cX1_note 79 = .ok (.goto 39, 3) := by decide +kernel
theorem dX1_note_82 : decode cX1_note 82 = .ok (.aload_n 0, 1) := by decide +kernel
theorem dX1_note_83 : decode cX1_note 83 = .ok (.getfield 34, 3) := by decide +kernel
theorem dX1_note_86 : decode cX1_note 86 = .ok (.aload_n 0, 1) := by decide +kernel
theorem dX1_note_87 : decode cX1_note 87 = .ok (.getfield 43, 3) := by decide +kernel
theorem dX1_note_90 : decode cX1_note 90 = .ok (.iload_n 1, 1) := by decide +kernel
theorem dX1_note_91 : decode cX1_note 91 = .ok (.invokevirtual 59, 3) := by decide +kernel
theorem dX1_note_94 : decode cX1_note 94 = .ok (.aload_n 0, 1) := by decide +kernel
theorem dX1_note_95 : decode cX1_note 95 = .ok (.getfield 37, 3) := by decide +kernel
theorem dX1_note_98 : decode cX1_note 98 = .ok (.aload_n 0, 1) := by decide +kernel
theorem dX1_note_99 : decode cX1_note 99 = .ok (.getfield 43, 3) := by decide +kernel
theorem dX1_note_102 : decode cX1_note 102 = .ok (.iload_n 2, 1) := by decide +kernel
theorem dX1_note_103 : decode cX1_note 103 = .ok (.invokevirtual 59, 3) := by decide +kernel
theorem dX1_note_106 : decode cX1_note 106 = .ok (.aload_n 0, 1) := by decide +kernel
theorem dX1_note_107 : decode cX1_note 107 = .ok (.getfield 40, 3) := by decide +kernel
theorem dX1_note_110 : decode cX1_note 110 = .ok (.aload_n 0, 1) := by decide +kernel
theorem dX1_note_111 : decode cX1_note 111 = .ok (.getfield 43, 3) := by decide +kernel
theorem dX1_note_114 : decode cX1_note 114 = .ok (.iload_n 3, 1) := by decide +kernel
theorem dX1_note_115 : decode cX1_note 115 = .ok (.invokevirtual 59, 3) := by decide +kernel
theorem dX1_note_118 : decode cX1_note 118 = .ok (.return_, 1) := by decide +kernel
set_option maxRecDepth 100000 in
set_option maxHeartbeats 4000000 in
theorem c_X1_note_j {hp : List gA} {J : gJr} {x : Int32} {y : Int32} {z : Int32}  (HJ : gJn hp J) (e56 : (J.l 6).length = (J.l 5).length) (e57 : (J.l 7).length = (J.l 5).length) : gM yX1_note cX1_note 4 (none) 3 103 [.ref 3, .int x, .int y, .int z] (hp) (0) (0) (fun v h => v = none ∧ (gJn h (jX1_note J x y z) ∧ gFJ hp h J)) := by
  refine gM_of (ls0 := [some (.ref 3), some (.int x), some (.int y), some (.int z)]) (by decide +kernel) (Nat.le_of_ble_eq_true rfl) rfl fun X C E => ?_
  refine g_aload_n (q := 1) C dX1_note_0 rfl rfl ?_
  refine g_getfield (v := .ref 8) (q := 4) C fX1_25 dX1_note_1 rfl HJ.1 rfl ?_
  refine g_iload_n (q := 5) C dX1_note_4 rfl rfl ?_
  refine g_aload_n (q := 6) C dX1_note_5 rfl rfl ?_
  refine g_getfield (v := .ref 8) (q := 9) C fX1_25 dX1_note_6 rfl HJ.1 rfl ?_
  refine g_iload_n (q := 10) C dX1_note_9 rfl rfl ?_
  refine g_callVi (x := (gat (J.l 2) x)) (q := 13) (As := [.int x]) C gyX4_at gvX4_at t_783 (c_X4_at_g HJ.r2) dX1_note_10 rfl (gRg.obj HJ.r2) rfl rfl rfl (Nat.le_of_ble_eq_true rfl) (Nat.le_of_ble_eq_true rfl) (Nat.le_of_ble_eq_true rfl) (Nat.le_of_ble_eq_true rfl) (Nat.le_of_ble_eq_true rfl) rfl ?_
  refine g_iconst (v := 1) (q := 14) C dX1_note_13 (by decide) rfl ?_
  refine g_iadd (q := 15) C dX1_note_14 rfl ?_
  refine g_callVvp (q := 18) (As := [.int x, .int (((gat (J.l 2) x) + 1))]) C gyX4_put gvX4_put t_792 (c_X4_put_g HJ.r2) dX1_note_15 rfl (gRg.obj HJ.r2) rfl rfl rfl (Nat.le_of_ble_eq_true rfl) (Nat.le_of_ble_eq_true rfl) (Nat.le_of_ble_eq_true rfl) (Nat.le_of_ble_eq_true rfl) (Nat.le_of_ble_eq_true rfl) rfl (fun h1 z1 => ?_)
  obtain ⟨HL1, fr1⟩ := gJn.row (k := 2) HJ (by decide) z1
  refine g_aload_n (q := 19) C dX1_note_18 rfl rfl ?_
  refine g_aload_n (q := 20) C dX1_note_19 rfl rfl ?_
  refine g_getfield (v := .int ((J.row 2 (gput (J.l 2) x ((gat (J.l 2) x) + 1))).ne)) (q := 23) C fX1_43 dX1_note_20 rfl HL1.1 rfl ?_
  refine g_iconst (v := 1) (q := 24) C dX1_note_23 (by decide) rfl ?_
  refine g_iadd (q := 25) C dX1_note_24 rfl ?_
  refine g_bipush (v := 30) (q := 27) C dX1_note_25 (by decide) rfl ?_
  refine g_icmp_ge (t := 39) (q := 30) C dX1_note_27 (by decide) rfl (fun c_27 => ?_) (fun c_27 => ?_)
  ·
    refine g_iconst (v := 0) (q := 40) C dX1_note_39 (by decide) rfl ?_
    refine g_putfield (q := 43) C fX1_43 dX1_note_40 rfl HL1.1 (Nat.le_of_ble_eq_true rfl) (Or.inl rfl) rfl rfl (by intro z h; cases h) ?_
    refine gJput (x := 0) HL1 rfl fun h2 HL2 fr2 => ?_
    refine g_aload_n (q := 44) C dX1_note_43 rfl rfl ?_
    refine g_getfield (v := .ref 14) (q := 47) C fX1_34 dX1_note_44 rfl HL2.1 rfl ?_
    refine g_callVi (x := (nI (((J.row 2 (gput (J.l 2) x ((gat (J.l 2) x) + 1))).sne 0).l 5).length)) (q := 50) (As := []) C gyX4_size gvX4_size t_778 (c_X4_size (gRg.obj HL2.r5)) dX1_note_47 rfl (gRg.obj HL2.r5) rfl rfl rfl (Nat.le_of_ble_eq_true rfl) (Nat.le_of_ble_eq_true rfl) (Nat.le_of_ble_eq_true rfl) (Nat.le_of_ble_eq_true rfl) (Nat.le_of_ble_eq_true rfl) rfl ?_
    refine g_bipush (v := 30) (q := 52) C dX1_note_50 (by decide) rfl ?_
    refine g_icmp_ge (t := 82) (q := 55) C dX1_note_52 (by decide) rfl (fun c_52 => ?_) (fun c_52 => ?_)
    ·
      refine g_aload_n (q := 83) C dX1_note_82 rfl rfl ?_
      refine g_getfield (v := .ref 14) (q := 86) C fX1_34 dX1_note_83 rfl HL2.1 rfl ?_
      refine g_aload_n (q := 87) C dX1_note_86 rfl rfl ?_
      refine g_getfield (v := .int (((J.row 2 (gput (J.l 2) x ((gat (J.l 2) x) + 1))).sne 0).ne)) (q := 90) C fX1_43 dX1_note_87 rfl HL2.1 rfl ?_
      refine g_iload_n (q := 91) C dX1_note_90 rfl rfl ?_
      refine g_callVvp (q := 94) (As := [.int (((J.row 2 (gput (J.l 2) x ((gat (J.l 2) x) + 1))).sne 0).ne), .int x]) C gyX4_put gvX4_put t_792 (c_X4_put_g HL2.r5) dX1_note_91 rfl (gRg.obj HL2.r5) rfl rfl rfl (Nat.le_of_ble_eq_true rfl) (Nat.le_of_ble_eq_true rfl) (Nat.le_of_ble_eq_true rfl) (Nat.le_of_ble_eq_true rfl) (Nat.le_of_ble_eq_true rfl) rfl (fun h3 z3 => ?_)
      obtain ⟨HL3, fr3⟩ := gJn.row (k := 5) HL2 (by decide) z3
      refine g_aload_n (q := 95) C dX1_note_94 rfl rfl ?_
      refine g_getfield (v := .ref 16) (q := 98) C fX1_37 dX1_note_95 rfl HL3.1 rfl ?_
      refine g_aload_n (q := 99) C dX1_note_98 rfl rfl ?_
      refine g_getfield (v := .int ((((J.row 2 (gput (J.l 2) x ((gat (J.l 2) x) + 1))).sne 0).row 5 (gput (((J.row 2 (gput (J.l 2) x ((gat (J.l 2) x) + 1))).sne 0).l 5) (((J.row 2 (gput (J.l 2) x ((gat (J.l 2) x) + 1))).sne 0).ne) x)).ne)) (q := 102) C fX1_43 dX1_note_99 rfl HL3.1 rfl ?_
      refine g_iload_n (q := 103) C dX1_note_102 rfl rfl ?_
      refine g_callVvp (q := 106) (As := [.int ((((J.row 2 (gput (J.l 2) x ((gat (J.l 2) x) + 1))).sne 0).row 5 (gput (((J.row 2 (gput (J.l 2) x ((gat (J.l 2) x) + 1))).sne 0).l 5) (((J.row 2 (gput (J.l 2) x ((gat (J.l 2) x) + 1))).sne 0).ne) x)).ne), .int y]) C gyX4_put gvX4_put t_792 (c_X4_put_g HL3.r6) dX1_note_103 rfl (gRg.obj HL3.r6) rfl rfl rfl (Nat.le_of_ble_eq_true rfl) (Nat.le_of_ble_eq_true rfl) (Nat.le_of_ble_eq_true rfl) (Nat.le_of_ble_eq_true rfl) (Nat.le_of_ble_eq_true rfl) rfl (fun h4 z4 => ?_)
      obtain ⟨HL4, fr4⟩ := gJn.row (k := 6) HL3 (by decide) z4
      refine g_aload_n (q := 107) C dX1_note_106 rfl rfl ?_
      refine g_getfield (v := .ref 18) (q := 110) C fX1_40 dX1_note_107 rfl HL4.1 rfl ?_
      refine g_aload_n (q := 111) C dX1_note_110 rfl rfl ?_
      refine g_getfield (v := .int (((((J.row 2 (gput (J.l 2) x ((gat (J.l 2) x) + 1))).sne 0).row 5 (gput (((J.row 2 (gput (J.l 2) x ((gat (J.l 2) x) + 1))).sne 0).l 5) (((J.row 2 (gput (J.l 2) x ((gat (J.l 2) x) + 1))).sne 0).ne) x)).row 6 (gput ((((J.row 2 (gput (J.l 2) x ((gat (J.l 2) x) + 1))).sne 0).row 5 (gput (((J.row 2 (gput (J.l 2) x ((gat (J.l 2) x) + 1))).sne 0).l 5) (((J.row 2 (gput (J.l 2) x ((gat (J.l 2) x) + 1))).sne 0).ne) x)).l 6) ((((J.row 2 (gput (J.l 2) x ((gat (J.l 2) x) + 1))).sne 0).row 5 (gput (((J.row 2 (gput (J.l 2) x ((gat (J.l 2) x) + 1))).sne 0).l 5) (((J.row 2 (gput (J.l 2) x ((gat (J.l 2) x) + 1))).sne 0).ne) x)).ne) y)).ne)) (q := 114) C fX1_43 dX1_note_111 rfl HL4.1 rfl ?_
      refine g_iload_n (q := 115) C dX1_note_114 rfl rfl ?_
      refine g_callVvp (q := 118) (As := [.int (((((J.row 2 (gput (J.l 2) x ((gat (J.l 2) x) + 1))).sne 0).row 5 (gput (((J.row 2 (gput (J.l 2) x ((gat (J.l 2) x) + 1))).sne 0).l 5) (((J.row 2 (gput (J.l 2) x ((gat (J.l 2) x) + 1))).sne 0).ne) x)).row 6 (gput ((((J.row 2 (gput (J.l 2) x ((gat (J.l 2) x) + 1))).sne 0).row 5 (gput (((J.row 2 (gput (J.l 2) x ((gat (J.l 2) x) + 1))).sne 0).l 5) (((J.row 2 (gput (J.l 2) x ((gat (J.l 2) x) + 1))).sne 0).ne) x)).l 6) ((((J.row 2 (gput (J.l 2) x ((gat (J.l 2) x) + 1))).sne 0).row 5 (gput (((J.row 2 (gput (J.l 2) x ((gat (J.l 2) x) + 1))).sne 0).l 5) (((J.row 2 (gput (J.l 2) x ((gat (J.l 2) x) + 1))).sne 0).ne) x)).ne) y)).ne), .int z]) C gyX4_put gvX4_put t_792 (c_X4_put_g HL4.r7) dX1_note_115 rfl (gRg.obj HL4.r7) rfl rfl rfl (Nat.le_of_ble_eq_true rfl) (Nat.le_of_ble_eq_true rfl) (Nat.le_of_ble_eq_true rfl) (Nat.le_of_ble_eq_true rfl) (Nat.le_of_ble_eq_true rfl) rfl (fun h5 z5 => ?_)
      obtain ⟨HL5, fr5⟩ := gJn.row (k := 7) HL4 (by decide) z5
      have e : jX1_note J x y z = (((((J.row 2 (gput (J.l 2) x ((gat (J.l 2) x) + 1))).sne 0).row 5 (gput (((J.row 2 (gput (J.l 2) x ((gat (J.l 2) x) + 1))).sne 0).l 5) (((J.row 2 (gput (J.l 2) x ((gat (J.l 2) x) + 1))).sne 0).ne) x)).row 6 (gput ((((J.row 2 (gput (J.l 2) x ((gat (J.l 2) x) + 1))).sne 0).row 5 (gput (((J.row 2 (gput (J.l 2) x ((gat (J.l 2) x) + 1))).sne 0).l 5) (((J.row 2 (gput (J.l 2) x ((gat (J.l 2) x) + 1))).sne 0).ne) x)).l 6) ((((J.row 2 (gput (J.l 2) x ((gat (J.l 2) x) + 1))).sne 0).row 5 (gput (((J.row 2 (gput (J.l 2) x ((gat (J.l 2) x) + 1))).sne 0).l 5) (((J.row 2 (gput (J.l 2) x ((gat (J.l 2) x) + 1))).sne 0).ne) x)).ne) y)).row 7 (gput (((((J.row 2 (gput (J.l 2) x ((gat (J.l 2) x) + 1))).sne 0).row 5 (gput (((J.row 2 (gput (J.l 2) x ((gat (J.l 2) x) + 1))).sne 0).l 5) (((J.row 2 (gput (J.l 2) x ((gat (J.l 2) x) + 1))).sne 0).ne) x)).row 6 (gput ((((J.row 2 (gput (J.l 2) x ((gat (J.l 2) x) + 1))).sne 0).row 5 (gput (((J.row 2 (gput (J.l 2) x ((gat (J.l 2) x) + 1))).sne 0).l 5) (((J.row 2 (gput (J.l 2) x ((gat (J.l 2) x) + 1))).sne 0).ne) x)).l 6) ((((J.row 2 (gput (J.l 2) x ((gat (J.l 2) x) + 1))).sne 0).row 5 (gput (((J.row 2 (gput (J.l 2) x ((gat (J.l 2) x) + 1))).sne 0).l 5) (((J.row 2 (gput (J.l 2) x ((gat (J.l 2) x) + 1))).sne 0).ne) x)).ne) y)).l 7) (((((J.row 2 (gput (J.l 2) x ((gat (J.l 2) x) + 1))).sne 0).row 5 (gput (((J.row 2 (gput (J.l 2) x ((gat (J.l 2) x) + 1))).sne 0).l 5) (((J.row 2 (gput (J.l 2) x ((gat (J.l 2) x) + 1))).sne 0).ne) x)).row 6 (gput ((((J.row 2 (gput (J.l 2) x ((gat (J.l 2) x) + 1))).sne 0).row 5 (gput (((J.row 2 (gput (J.l 2) x ((gat (J.l 2) x) + 1))).sne 0).l 5) (((J.row 2 (gput (J.l 2) x ((gat (J.l 2) x) + 1))).sne 0).ne) x)).l 6) ((((J.row 2 (gput (J.l 2) x ((gat (J.l 2) x) + 1))).sne 0).row 5 (gput (((J.row 2 (gput (J.l 2) x ((gat (J.l 2) x) + 1))).sne 0).l 5) (((J.row 2 (gput (J.l 2) x ((gat (J.l 2) x) + 1))).sne 0).ne) x)).ne) y)).ne) z)) := ((if_pos c_27).trans (if_pos c_52))
      exact E.2.1 _ _ _ _ _ dX1_note_118 rfl (Nat.le_of_ble_eq_true rfl) (Nat.le_of_ble_eq_true rfl) ⟨rfl, by rw [e]; exact ⟨HL5, (gFJ.trans (gFJ.trans (gFJ.trans (gFJ.trans fr1 fr2) fr3) fr4) fr5)⟩⟩
    ·
      refine g_aload_n (q := 56) C dX1_note_55 rfl rfl ?_
      refine g_getfield (v := .ref 14) (q := 59) C fX1_34 dX1_note_56 rfl HL2.1 rfl ?_
      refine g_iload_n (q := 60) C dX1_note_59 rfl rfl ?_
      refine g_callVvp (q := 63) (As := [.int x]) C gyX4_add gvX4_add t_779 (c_X4_add_n HL2.r5 (grm (n := (J.l 5).length) c_52 (by have := HJ.r5.le; omega) (show (J.l 5).length = _ from rfl) (HJ.2.2.1 5 (by decide)).2.2.1 gmo5)) dX1_note_60 rfl (gRg.obj HL2.r5) rfl rfl rfl (Nat.le_of_ble_eq_true rfl) (Nat.le_of_ble_eq_true rfl) (Nat.le_of_ble_eq_true rfl) (Nat.le_of_ble_eq_true rfl) (Nat.le_of_ble_eq_true rfl) rfl (fun h6 z6 => ?_)
      obtain ⟨HL6, fr6⟩ := gJn.row (k := 5) HL2 (by decide) z6
      refine g_aload_n (q := 64) C dX1_note_63 rfl rfl ?_
      refine g_getfield (v := .ref 16) (q := 67) C fX1_37 dX1_note_64 rfl HL6.1 rfl ?_
      refine g_iload_n (q := 68) C dX1_note_67 rfl rfl ?_
      refine g_callVvp (q := 71) (As := [.int y]) C gyX4_add gvX4_add t_779 (c_X4_add_n HL6.r6 (grm (n := (J.l 5).length) c_52 (by have := HJ.r5.le; omega) (show (J.l 6).length = _ from e56) (HJ.2.2.1 6 (by decide)).2.2.1 gmo6)) dX1_note_68 rfl (gRg.obj HL6.r6) rfl rfl rfl (Nat.le_of_ble_eq_true rfl) (Nat.le_of_ble_eq_true rfl) (Nat.le_of_ble_eq_true rfl) (Nat.le_of_ble_eq_true rfl) (Nat.le_of_ble_eq_true rfl) rfl (fun h7 z7 => ?_)
      obtain ⟨HL7, fr7⟩ := gJn.row (k := 6) HL6 (by decide) z7
      refine g_aload_n (q := 72) C dX1_note_71 rfl rfl ?_
      refine g_getfield (v := .ref 18) (q := 75) C fX1_40 dX1_note_72 rfl HL7.1 rfl ?_
      refine g_iload_n (q := 76) C dX1_note_75 rfl rfl ?_
      refine g_callVvp (q := 79) (As := [.int z]) C gyX4_add gvX4_add t_779 (c_X4_add_n HL7.r7 (grm (n := (J.l 5).length) c_52 (by have := HJ.r5.le; omega) (show (J.l 7).length = _ from e57) (HJ.2.2.1 7 (by decide)).2.2.1 gmo7)) dX1_note_76 rfl (gRg.obj HL7.r7) rfl rfl rfl (Nat.le_of_ble_eq_true rfl) (Nat.le_of_ble_eq_true rfl) (Nat.le_of_ble_eq_true rfl) (Nat.le_of_ble_eq_true rfl) (Nat.le_of_ble_eq_true rfl) rfl (fun h8 z8 => ?_)
      obtain ⟨HL8, fr8⟩ := gJn.row (k := 7) HL7 (by decide) z8
      refine g_goto (q := 118) C dX1_note_79 (by decide) ?_
      have e : jX1_note J x y z = (((((J.row 2 (gput (J.l 2) x ((gat (J.l 2) x) + 1))).sne 0).row 5 ((((J.row 2 (gput (J.l 2) x ((gat (J.l 2) x) + 1))).sne 0).l 5) ++ [x])).row 6 (((((J.row 2 (gput (J.l 2) x ((gat (J.l 2) x) + 1))).sne 0).row 5 ((((J.row 2 (gput (J.l 2) x ((gat (J.l 2) x) + 1))).sne 0).l 5) ++ [x])).l 6) ++ [y])).row 7 ((((((J.row 2 (gput (J.l 2) x ((gat (J.l 2) x) + 1))).sne 0).row 5 ((((J.row 2 (gput (J.l 2) x ((gat (J.l 2) x) + 1))).sne 0).l 5) ++ [x])).row 6 (((((J.row 2 (gput (J.l 2) x ((gat (J.l 2) x) + 1))).sne 0).row 5 ((((J.row 2 (gput (J.l 2) x ((gat (J.l 2) x) + 1))).sne 0).l 5) ++ [x])).l 6) ++ [y])).l 7) ++ [z])) := ((if_pos c_27).trans (if_neg c_52))
      exact E.2.1 _ _ _ _ _ dX1_note_118 rfl (Nat.le_of_ble_eq_true rfl) (Nat.le_of_ble_eq_true rfl) ⟨rfl, by rw [e]; exact ⟨HL8, (gFJ.trans (gFJ.trans (gFJ.trans (gFJ.trans fr1 fr2) fr6) fr7) fr8)⟩⟩
  ·
    refine g_aload_n (q := 31) C dX1_note_30 rfl rfl ?_
    refine g_getfield (v := .int ((J.row 2 (gput (J.l 2) x ((gat (J.l 2) x) + 1))).ne)) (q := 34) C fX1_43 dX1_note_31 rfl HL1.1 rfl ?_
    refine g_iconst (v := 1) (q := 35) C dX1_note_34 (by decide) rfl ?_
    refine g_iadd (q := 36) C dX1_note_35 rfl ?_
    refine g_goto (q := 40) C dX1_note_36 (by decide) ?_
    refine g_putfield (q := 43) C fX1_43 dX1_note_40 rfl HL1.1 (Nat.le_of_ble_eq_true rfl) (Or.inl rfl) rfl rfl (by intro z h; cases h) ?_
    refine gJput (x := ((J.row 2 (gput (J.l 2) x ((gat (J.l 2) x) + 1))).ne + 1)) HL1 rfl fun h9 HL9 fr9 => ?_
    refine g_aload_n (q := 44) C dX1_note_43 rfl rfl ?_
    refine g_getfield (v := .ref 14) (q := 47) C fX1_34 dX1_note_44 rfl HL9.1 rfl ?_
    refine g_callVi (x := (nI (((J.row 2 (gput (J.l 2) x ((gat (J.l 2) x) + 1))).sne ((J.row 2 (gput (J.l 2) x ((gat (J.l 2) x) + 1))).ne + 1)).l 5).length)) (q := 50) (As := []) C gyX4_size gvX4_size t_778 (c_X4_size (gRg.obj HL9.r5)) dX1_note_47 rfl (gRg.obj HL9.r5) rfl rfl rfl (Nat.le_of_ble_eq_true rfl) (Nat.le_of_ble_eq_true rfl) (Nat.le_of_ble_eq_true rfl) (Nat.le_of_ble_eq_true rfl) (Nat.le_of_ble_eq_true rfl) rfl ?_
    refine g_bipush (v := 30) (q := 52) C dX1_note_50 (by decide) rfl ?_
    refine g_icmp_ge (t := 82) (q := 55) C dX1_note_52 (by decide) rfl (fun c_52 => ?_) (fun c_52 => ?_)
    ·
      refine g_aload_n (q := 83) C dX1_note_82 rfl rfl ?_
      refine g_getfield (v := .ref 14) (q := 86) C fX1_34 dX1_note_83 rfl HL9.1 rfl ?_
      refine g_aload_n (q := 87) C dX1_note_86 rfl rfl ?_
      refine g_getfield (v := .int (((J.row 2 (gput (J.l 2) x ((gat (J.l 2) x) + 1))).sne ((J.row 2 (gput (J.l 2) x ((gat (J.l 2) x) + 1))).ne + 1)).ne)) (q := 90) C fX1_43 dX1_note_87 rfl HL9.1 rfl ?_
      refine g_iload_n (q := 91) C dX1_note_90 rfl rfl ?_
      refine g_callVvp (q := 94) (As := [.int (((J.row 2 (gput (J.l 2) x ((gat (J.l 2) x) + 1))).sne ((J.row 2 (gput (J.l 2) x ((gat (J.l 2) x) + 1))).ne + 1)).ne), .int x]) C gyX4_put gvX4_put t_792 (c_X4_put_g HL9.r5) dX1_note_91 rfl (gRg.obj HL9.r5) rfl rfl rfl (Nat.le_of_ble_eq_true rfl) (Nat.le_of_ble_eq_true rfl) (Nat.le_of_ble_eq_true rfl) (Nat.le_of_ble_eq_true rfl) (Nat.le_of_ble_eq_true rfl) rfl (fun h10 z10 => ?_)
      obtain ⟨HL10, fr10⟩ := gJn.row (k := 5) HL9 (by decide) z10
      refine g_aload_n (q := 95) C dX1_note_94 rfl rfl ?_
      refine g_getfield (v := .ref 16) (q := 98) C fX1_37 dX1_note_95 rfl HL10.1 rfl ?_
      refine g_aload_n (q := 99) C dX1_note_98 rfl rfl ?_
      refine g_getfield (v := .int ((((J.row 2 (gput (J.l 2) x ((gat (J.l 2) x) + 1))).sne ((J.row 2 (gput (J.l 2) x ((gat (J.l 2) x) + 1))).ne + 1)).row 5 (gput (((J.row 2 (gput (J.l 2) x ((gat (J.l 2) x) + 1))).sne ((J.row 2 (gput (J.l 2) x ((gat (J.l 2) x) + 1))).ne + 1)).l 5) (((J.row 2 (gput (J.l 2) x ((gat (J.l 2) x) + 1))).sne ((J.row 2 (gput (J.l 2) x ((gat (J.l 2) x) + 1))).ne + 1)).ne) x)).ne)) (q := 102) C fX1_43 dX1_note_99 rfl HL10.1 rfl ?_
      refine g_iload_n (q := 103) C dX1_note_102 rfl rfl ?_
      refine g_callVvp (q := 106) (As := [.int ((((J.row 2 (gput (J.l 2) x ((gat (J.l 2) x) + 1))).sne ((J.row 2 (gput (J.l 2) x ((gat (J.l 2) x) + 1))).ne + 1)).row 5 (gput (((J.row 2 (gput (J.l 2) x ((gat (J.l 2) x) + 1))).sne ((J.row 2 (gput (J.l 2) x ((gat (J.l 2) x) + 1))).ne + 1)).l 5) (((J.row 2 (gput (J.l 2) x ((gat (J.l 2) x) + 1))).sne ((J.row 2 (gput (J.l 2) x ((gat (J.l 2) x) + 1))).ne + 1)).ne) x)).ne), .int y]) C gyX4_put gvX4_put t_792 (c_X4_put_g HL10.r6) dX1_note_103 rfl (gRg.obj HL10.r6) rfl rfl rfl (Nat.le_of_ble_eq_true rfl) (Nat.le_of_ble_eq_true rfl) (Nat.le_of_ble_eq_true rfl) (Nat.le_of_ble_eq_true rfl) (Nat.le_of_ble_eq_true rfl) rfl (fun h11 z11 => ?_)
      obtain ⟨HL11, fr11⟩ := gJn.row (k := 6) HL10 (by decide) z11
      refine g_aload_n (q := 107) C dX1_note_106 rfl rfl ?_
      refine g_getfield (v := .ref 18) (q := 110) C fX1_40 dX1_note_107 rfl HL11.1 rfl ?_
      refine g_aload_n (q := 111) C dX1_note_110 rfl rfl ?_
      refine g_getfield (v := .int (((((J.row 2 (gput (J.l 2) x ((gat (J.l 2) x) + 1))).sne ((J.row 2 (gput (J.l 2) x ((gat (J.l 2) x) + 1))).ne + 1)).row 5 (gput (((J.row 2 (gput (J.l 2) x ((gat (J.l 2) x) + 1))).sne ((J.row 2 (gput (J.l 2) x ((gat (J.l 2) x) + 1))).ne + 1)).l 5) (((J.row 2 (gput (J.l 2) x ((gat (J.l 2) x) + 1))).sne ((J.row 2 (gput (J.l 2) x ((gat (J.l 2) x) + 1))).ne + 1)).ne) x)).row 6 (gput ((((J.row 2 (gput (J.l 2) x ((gat (J.l 2) x) + 1))).sne ((J.row 2 (gput (J.l 2) x ((gat (J.l 2) x) + 1))).ne + 1)).row 5 (gput (((J.row 2 (gput (J.l 2) x ((gat (J.l 2) x) + 1))).sne ((J.row 2 (gput (J.l 2) x ((gat (J.l 2) x) + 1))).ne + 1)).l 5) (((J.row 2 (gput (J.l 2) x ((gat (J.l 2) x) + 1))).sne ((J.row 2 (gput (J.l 2) x ((gat (J.l 2) x) + 1))).ne + 1)).ne) x)).l 6) ((((J.row 2 (gput (J.l 2) x ((gat (J.l 2) x) + 1))).sne ((J.row 2 (gput (J.l 2) x ((gat (J.l 2) x) + 1))).ne + 1)).row 5 (gput (((J.row 2 (gput (J.l 2) x ((gat (J.l 2) x) + 1))).sne ((J.row 2 (gput (J.l 2) x ((gat (J.l 2) x) + 1))).ne + 1)).l 5) (((J.row 2 (gput (J.l 2) x ((gat (J.l 2) x) + 1))).sne ((J.row 2 (gput (J.l 2) x ((gat (J.l 2) x) + 1))).ne + 1)).ne) x)).ne) y)).ne)) (q := 114) C fX1_43 dX1_note_111 rfl HL11.1 rfl ?_
      refine g_iload_n (q := 115) C dX1_note_114 rfl rfl ?_
      refine g_callVvp (q := 118) (As := [.int (((((J.row 2 (gput (J.l 2) x ((gat (J.l 2) x) + 1))).sne ((J.row 2 (gput (J.l 2) x ((gat (J.l 2) x) + 1))).ne + 1)).row 5 (gput (((J.row 2 (gput (J.l 2) x ((gat (J.l 2) x) + 1))).sne ((J.row 2 (gput (J.l 2) x ((gat (J.l 2) x) + 1))).ne + 1)).l 5) (((J.row 2 (gput (J.l 2) x ((gat (J.l 2) x) + 1))).sne ((J.row 2 (gput (J.l 2) x ((gat (J.l 2) x) + 1))).ne + 1)).ne) x)).row 6 (gput ((((J.row 2 (gput (J.l 2) x ((gat (J.l 2) x) + 1))).sne ((J.row 2 (gput (J.l 2) x ((gat (J.l 2) x) + 1))).ne + 1)).row 5 (gput (((J.row 2 (gput (J.l 2) x ((gat (J.l 2) x) + 1))).sne ((J.row 2 (gput (J.l 2) x ((gat (J.l 2) x) + 1))).ne + 1)).l 5) (((J.row 2 (gput (J.l 2) x ((gat (J.l 2) x) + 1))).sne ((J.row 2 (gput (J.l 2) x ((gat (J.l 2) x) + 1))).ne + 1)).ne) x)).l 6) ((((J.row 2 (gput (J.l 2) x ((gat (J.l 2) x) + 1))).sne ((J.row 2 (gput (J.l 2) x ((gat (J.l 2) x) + 1))).ne + 1)).row 5 (gput (((J.row 2 (gput (J.l 2) x ((gat (J.l 2) x) + 1))).sne ((J.row 2 (gput (J.l 2) x ((gat (J.l 2) x) + 1))).ne + 1)).l 5) (((J.row 2 (gput (J.l 2) x ((gat (J.l 2) x) + 1))).sne ((J.row 2 (gput (J.l 2) x ((gat (J.l 2) x) + 1))).ne + 1)).ne) x)).ne) y)).ne), .int z]) C gyX4_put gvX4_put t_792 (c_X4_put_g HL11.r7) dX1_note_115 rfl (gRg.obj HL11.r7) rfl rfl rfl (Nat.le_of_ble_eq_true rfl) (Nat.le_of_ble_eq_true rfl) (Nat.le_of_ble_eq_true rfl) (Nat.le_of_ble_eq_true rfl) (Nat.le_of_ble_eq_true rfl) rfl (fun h12 z12 => ?_)
      obtain ⟨HL12, fr12⟩ := gJn.row (k := 7) HL11 (by decide) z12
      have e : jX1_note J x y z = (((((J.row 2 (gput (J.l 2) x ((gat (J.l 2) x) + 1))).sne ((J.row 2 (gput (J.l 2) x ((gat (J.l 2) x) + 1))).ne + 1)).row 5 (gput (((J.row 2 (gput (J.l 2) x ((gat (J.l 2) x) + 1))).sne ((J.row 2 (gput (J.l 2) x ((gat (J.l 2) x) + 1))).ne + 1)).l 5) (((J.row 2 (gput (J.l 2) x ((gat (J.l 2) x) + 1))).sne ((J.row 2 (gput (J.l 2) x ((gat (J.l 2) x) + 1))).ne + 1)).ne) x)).row 6 (gput ((((J.row 2 (gput (J.l 2) x ((gat (J.l 2) x) + 1))).sne ((J.row 2 (gput (J.l 2) x ((gat (J.l 2) x) + 1))).ne + 1)).row 5 (gput (((J.row 2 (gput (J.l 2) x ((gat (J.l 2) x) + 1))).sne ((J.row 2 (gput (J.l 2) x ((gat (J.l 2) x) + 1))).ne + 1)).l 5) (((J.row 2 (gput (J.l 2) x ((gat (J.l 2) x) + 1))).sne ((J.row 2 (gput (J.l 2) x ((gat (J.l 2) x) + 1))).ne + 1)).ne) x)).l 6) ((((J.row 2 (gput (J.l 2) x ((gat (J.l 2) x) + 1))).sne ((J.row 2 (gput (J.l 2) x ((gat (J.l 2) x) + 1))).ne + 1)).row 5 (gput (((J.row 2 (gput (J.l 2) x ((gat (J.l 2) x) + 1))).sne ((J.row 2 (gput (J.l 2) x ((gat (J.l 2) x) + 1))).ne + 1)).l 5) (((J.row 2 (gput (J.l 2) x ((gat (J.l 2) x) + 1))).sne ((J.row 2 (gput (J.l 2) x ((gat (J.l 2) x) + 1))).ne + 1)).ne) x)).ne) y)).row 7 (gput (((((J.row 2 (gput (J.l 2) x ((gat (J.l 2) x) + 1))).sne ((J.row 2 (gput (J.l 2) x ((gat (J.l 2) x) + 1))).ne + 1)).row 5 (gput (((J.row 2 (gput (J.l 2) x ((gat (J.l 2) x) + 1))).sne ((J.row 2 (gput (J.l 2) x ((gat (J.l 2) x) + 1))).ne + 1)).l 5) (((J.row 2 (gput (J.l 2) x ((gat (J.l 2) x) + 1))).sne ((J.row 2 (gput (J.l 2) x ((gat (J.l 2) x) + 1))).ne + 1)).ne) x)).row 6 (gput ((((J.row 2 (gput (J.l 2) x ((gat (J.l 2) x) + 1))).sne ((J.row 2 (gput (J.l 2) x ((gat (J.l 2) x) + 1))).ne + 1)).row 5 (gput (((J.row 2 (gput (J.l 2) x ((gat (J.l 2) x) + 1))).sne ((J.row 2 (gput (J.l 2) x ((gat (J.l 2) x) + 1))).ne + 1)).l 5) (((J.row 2 (gput (J.l 2) x ((gat (J.l 2) x) + 1))).sne ((J.row 2 (gput (J.l 2) x ((gat (J.l 2) x) + 1))).ne + 1)).ne) x)).l 6) ((((J.row 2 (gput (J.l 2) x ((gat (J.l 2) x) + 1))).sne ((J.row 2 (gput (J.l 2) x ((gat (J.l 2) x) + 1))).ne + 1)).row 5 (gput (((J.row 2 (gput (J.l 2) x ((gat (J.l 2) x) + 1))).sne ((J.row 2 (gput (J.l 2) x ((gat (J.l 2) x) + 1))).ne + 1)).l 5) (((J.row 2 (gput (J.l 2) x ((gat (J.l 2) x) + 1))).sne ((J.row 2 (gput (J.l 2) x ((gat (J.l 2) x) + 1))).ne + 1)).ne) x)).ne) y)).l 7) (((((J.row 2 (gput (J.l 2) x ((gat (J.l 2) x) + 1))).sne ((J.row 2 (gput (J.l 2) x ((gat (J.l 2) x) + 1))).ne + 1)).row 5 (gput (((J.row 2 (gput (J.l 2) x ((gat (J.l 2) x) + 1))).sne ((J.row 2 (gput (J.l 2) x ((gat (J.l 2) x) + 1))).ne + 1)).l 5) (((J.row 2 (gput (J.l 2) x ((gat (J.l 2) x) + 1))).sne ((J.row 2 (gput (J.l 2) x ((gat (J.l 2) x) + 1))).ne + 1)).ne) x)).row 6 (gput ((((J.row 2 (gput (J.l 2) x ((gat (J.l 2) x) + 1))).sne ((J.row 2 (gput (J.l 2) x ((gat (J.l 2) x) + 1))).ne + 1)).row 5 (gput (((J.row 2 (gput (J.l 2) x ((gat (J.l 2) x) + 1))).sne ((J.row 2 (gput (J.l 2) x ((gat (J.l 2) x) + 1))).ne + 1)).l 5) (((J.row 2 (gput (J.l 2) x ((gat (J.l 2) x) + 1))).sne ((J.row 2 (gput (J.l 2) x ((gat (J.l 2) x) + 1))).ne + 1)).ne) x)).l 6) ((((J.row 2 (gput (J.l 2) x ((gat (J.l 2) x) + 1))).sne ((J.row 2 (gput (J.l 2) x ((gat (J.l 2) x) + 1))).ne + 1)).row 5 (gput (((J.row 2 (gput (J.l 2) x ((gat (J.l 2) x) + 1))).sne ((J.row 2 (gput (J.l 2) x ((gat (J.l 2) x) + 1))).ne + 1)).l 5) (((J.row 2 (gput (J.l 2) x ((gat (J.l 2) x) + 1))).sne ((J.row 2 (gput (J.l 2) x ((gat (J.l 2) x) + 1))).ne + 1)).ne) x)).ne) y)).ne) z)) := ((if_neg c_27).trans (if_pos c_52))
      exact E.2.1 _ _ _ _ _ dX1_note_118 rfl (Nat.le_of_ble_eq_true rfl) (Nat.le_of_ble_eq_true rfl) ⟨rfl, by rw [e]; exact ⟨HL12, (gFJ.trans (gFJ.trans (gFJ.trans (gFJ.trans fr1 fr9) fr10) fr11) fr12)⟩⟩
    ·
      refine g_aload_n (q := 56) C dX1_note_55 rfl rfl ?_
      refine g_getfield (v := .ref 14) (q := 59) C fX1_34 dX1_note_56 rfl HL9.1 rfl ?_
      refine g_iload_n (q := 60) C dX1_note_59 rfl rfl ?_
      refine g_callVvp (q := 63) (As := [.int x]) C gyX4_add gvX4_add t_779 (c_X4_add_n HL9.r5 (grm (n := (J.l 5).length) c_52 (by have := HJ.r5.le; omega) (show (J.l 5).length = _ from rfl) (HJ.2.2.1 5 (by decide)).2.2.1 gmo5)) dX1_note_60 rfl (gRg.obj HL9.r5) rfl rfl rfl (Nat.le_of_ble_eq_true rfl) (Nat.le_of_ble_eq_true rfl) (Nat.le_of_ble_eq_true rfl) (Nat.le_of_ble_eq_true rfl) (Nat.le_of_ble_eq_true rfl) rfl (fun h13 z13 => ?_)
      obtain ⟨HL13, fr13⟩ := gJn.row (k := 5) HL9 (by decide) z13
      refine g_aload_n (q := 64) C dX1_note_63 rfl rfl ?_
      refine g_getfield (v := .ref 16) (q := 67) C fX1_37 dX1_note_64 rfl HL13.1 rfl ?_
      refine g_iload_n (q := 68) C dX1_note_67 rfl rfl ?_
      refine g_callVvp (q := 71) (As := [.int y]) C gyX4_add gvX4_add t_779 (c_X4_add_n HL13.r6 (grm (n := (J.l 5).length) c_52 (by have := HJ.r5.le; omega) (show (J.l 6).length = _ from e56) (HJ.2.2.1 6 (by decide)).2.2.1 gmo6)) dX1_note_68 rfl (gRg.obj HL13.r6) rfl rfl rfl (Nat.le_of_ble_eq_true rfl) (Nat.le_of_ble_eq_true rfl) (Nat.le_of_ble_eq_true rfl) (Nat.le_of_ble_eq_true rfl) (Nat.le_of_ble_eq_true rfl) rfl (fun h14 z14 => ?_)
      obtain ⟨HL14, fr14⟩ := gJn.row (k := 6) HL13 (by decide) z14
      refine g_aload_n (q := 72) C dX1_note_71 rfl rfl ?_
      refine g_getfield (v := .ref 18) (q := 75) C fX1_40 dX1_note_72 rfl HL14.1 rfl ?_
      refine g_iload_n (q := 76) C dX1_note_75 rfl rfl ?_
      refine g_callVvp (q := 79) (As := [.int z]) C gyX4_add gvX4_add t_779 (c_X4_add_n HL14.r7 (grm (n := (J.l 5).length) c_52 (by have := HJ.r5.le; omega) (show (J.l 7).length = _ from e57) (HJ.2.2.1 7 (by decide)).2.2.1 gmo7)) dX1_note_76 rfl (gRg.obj HL14.r7) rfl rfl rfl (Nat.le_of_ble_eq_true rfl) (Nat.le_of_ble_eq_true rfl) (Nat.le_of_ble_eq_true rfl) (Nat.le_of_ble_eq_true rfl) (Nat.le_of_ble_eq_true rfl) rfl (fun h15 z15 => ?_)
      obtain ⟨HL15, fr15⟩ := gJn.row (k := 7) HL14 (by decide) z15
      refine g_goto (q := 118) C dX1_note_79 (by decide) ?_
      have e : jX1_note J x y z = (((((J.row 2 (gput (J.l 2) x ((gat (J.l 2) x) + 1))).sne ((J.row 2 (gput (J.l 2) x ((gat (J.l 2) x) + 1))).ne + 1)).row 5 ((((J.row 2 (gput (J.l 2) x ((gat (J.l 2) x) + 1))).sne ((J.row 2 (gput (J.l 2) x ((gat (J.l 2) x) + 1))).ne + 1)).l 5) ++ [x])).row 6 (((((J.row 2 (gput (J.l 2) x ((gat (J.l 2) x) + 1))).sne ((J.row 2 (gput (J.l 2) x ((gat (J.l 2) x) + 1))).ne + 1)).row 5 ((((J.row 2 (gput (J.l 2) x ((gat (J.l 2) x) + 1))).sne ((J.row 2 (gput (J.l 2) x ((gat (J.l 2) x) + 1))).ne + 1)).l 5) ++ [x])).l 6) ++ [y])).row 7 ((((((J.row 2 (gput (J.l 2) x ((gat (J.l 2) x) + 1))).sne ((J.row 2 (gput (J.l 2) x ((gat (J.l 2) x) + 1))).ne + 1)).row 5 ((((J.row 2 (gput (J.l 2) x ((gat (J.l 2) x) + 1))).sne ((J.row 2 (gput (J.l 2) x ((gat (J.l 2) x) + 1))).ne + 1)).l 5) ++ [x])).row 6 (((((J.row 2 (gput (J.l 2) x ((gat (J.l 2) x) + 1))).sne ((J.row 2 (gput (J.l 2) x ((gat (J.l 2) x) + 1))).ne + 1)).row 5 ((((J.row 2 (gput (J.l 2) x ((gat (J.l 2) x) + 1))).sne ((J.row 2 (gput (J.l 2) x ((gat (J.l 2) x) + 1))).ne + 1)).l 5) ++ [x])).l 6) ++ [y])).l 7) ++ [z])) := ((if_neg c_27).trans (if_neg c_52))
      exact E.2.1 _ _ _ _ _ dX1_note_118 rfl (Nat.le_of_ble_eq_true rfl) (Nat.le_of_ble_eq_true rfl) ⟨rfl, by rw [e]; exact ⟨HL15, (gFJ.trans (gFJ.trans (gFJ.trans (gFJ.trans fr1 fr9) fr13) fr14) fr15)⟩⟩
theorem gand255 (y : Int32) : ∃ k, k < 256 ∧ y &&& 255 = nI k := by
  refine ⟨(y &&& 255).toBitVec.toNat, ?_, ?_⟩
  · rw [show (y &&& 255).toBitVec = y.toBitVec &&& (255 : Int32).toBitVec from rfl, BitVec.toNat_and]
    exact Nat.and_lt_two_pow (n := 8) _ (by decide)
  · apply Int32.toBitVec_inj.mp
    show _ = BitVec.ofNat 32 _
    apply BitVec.eq_of_toNat_eq
    simp
theorem dX1_chainOf_0 : decode cX1_chainOf 0 = .ok (.iload_n 0, 1) := by decide +kernel
theorem dX1_chainOf_1 : decode cX1_chainOf 1 = .ok (.istore_n 2, 1) := by decide +kernel
theorem dX1_chainOf_2 : decode cX1_chainOf 2 = .ok (.iconst 1, 1) := by decide +kernel
theorem dX1_chainOf_3 : decode cX1_chainOf 3 = .ok (.istore_n 3, 1) := by decide +kernel
theorem dX1_chainOf_4 : decode cX1_chainOf 4 = .ok (.iload_n 3, 1) := by decide +kernel
theorem dX1_chainOf_5 : decode cX1_chainOf 5 = .ok (.aload_n 1, 1) := by decide +kernel
theorem dX1_chainOf_6 : decode cX1_chainOf 6 = .ok (.invokevirtual 51, 3) := by decide +kernel
theorem dX1_chainOf_9 : decode cX1_chainOf 9 = .ok (.if_icmp .ge 20, 3) := by decide +kernel
theorem dX1_chainOf_12 : decode cX1_chainOf 12 = .ok (.bipush 31, 2) := by decide +kernel
theorem dX1_chainOf_14 : decode cX1_chainOf 14 = .ok (.iload_n 2, 1) := by decide +kernel
theorem dX1_chainOf_15 : decode cX1_chainOf 15 = .ok (.imul, 1) := by decide +kernel
theorem dX1_chainOf_16 : decode cX1_chainOf 16 = .ok (.aload_n 1, 1) := by decide +kernel
theorem dX1_chainOf_17 : decode cX1_chainOf 17 = .ok (.iload_n 3, 1) := by decide +kernel
theorem dX1_chainOf_18 : decode cX1_chainOf 18 = .ok (.invokevirtual 55, 3) := by decide +kernel
theorem dX1_chainOf_21 : decode cX1_chainOf 21 = .ok (.iadd, 1) := by decide +kernel
theorem dX1_chainOf_22 : decode cX1_chainOf 22 = .ok (.istore_n 2, 1) := by decide +kernel
theorem dX1_chainOf_23 : decode cX1_chainOf 23 = .ok (.iinc 3 1, 3) := by decide +kernel
theorem dX1_chainOf_26 : decode cX1_chainOf 26 = .ok (.goto (-22), 3) := by decide +kernel
theorem dX1_chainOf_29 : decode cX1_chainOf 29 = .ok (.iload_n 2, 1) := by decide +kernel
theorem dX1_chainOf_30 : decode cX1_chainOf 30 = .ok (.iload_n 2, 1) := by decide +kernel
theorem dX1_chainOf_31 : decode cX1_chainOf 31 = .ok (.bipush 8, 2) := by decide +kernel
theorem dX1_chainOf_33 : decode cX1_chainOf 33 = .ok (.iushr, 1) := by decide +kernel
theorem dX1_chainOf_34 : decode cX1_chainOf 34 = .ok (.ixor, 1) := by decide +kernel
theorem dX1_chainOf_35 : decode cX1_chainOf 35 = .ok (.sipush 255, 3) := by decide +kernel
theorem dX1_chainOf_38 : decode cX1_chainOf 38 = .ok (.iand, 1) := by decide +kernel
theorem dX1_chainOf_39 : decode cX1_chainOf 39 = .ok (.ireturn, 1) := by decide +kernel
set_option maxRecDepth 100000 in
set_option maxHeartbeats 4000000 in
theorem c_X1_chainOf_j {hp : List gA}  {x : Int32} {b : List Int32} (HB : gRw hp 39 40 64 b) (hb1 : 1 ≤ b.length) : gM yX1_chainOf cX1_chainOf 4 ((some .int)) 1 21 [.int x, .ref 39] (hp) (0) (0) (fun v h => ∃ y, v = some (.int y) ∧ ((∃ k, k < 256 ∧ y = nI k) ∧ h = hp)) := by
  refine gM_of (ls0 := [some (.int x), some (.ref 39), none, none]) (by decide +kernel) (Nat.le_of_ble_eq_true rfl) rfl fun X C E => ?_
  have hlt : b.length < 2 ^ 31 := by have := HB.le; omega
  have LL : ∀ d j : Nat, j + d = b.length → ∀ m : Int32, gG X 4 [some (.int x), some (.ref 39), some (.int m), some (.int (nI j))] [] hp 0 0 := by
    intro d
    induction d with
    | zero =>
      intro j hj m
      obtain rfl : j = b.length := by omega
      refine g_iload_n (q := 5) C dX1_chainOf_4 rfl rfl ?_
      refine g_aload_n (q := 6) C dX1_chainOf_5 rfl rfl ?_
      refine g_callVi (x := (nI b.length)) (q := 9) (As := []) C gyX4_size gvX4_size t_778 (c_X4_size (gRw.obj HB)) dX1_chainOf_6 rfl (gRw.obj HB) rfl rfl rfl (Nat.le_of_ble_eq_true rfl) (Nat.le_of_ble_eq_true rfl) (Nat.le_of_ble_eq_true rfl) (Nat.le_of_ble_eq_true rfl) (Nat.le_of_ble_eq_true rfl) rfl ?_
      refine g_icmp_ge_t (t := 29) C dX1_chainOf_9 (by decide) (nI_le (Nat.le_refl _) hlt) ?_
      refine g_iload_n (q := 30) C dX1_chainOf_29 rfl rfl ?_
      refine g_iload_n (q := 31) C dX1_chainOf_30 rfl rfl ?_
      refine g_bipush (v := 8) (q := 33) C dX1_chainOf_31 (by decide) rfl ?_
      refine g_iushr (q := 34) C dX1_chainOf_33 rfl ?_
      refine g_ixor (q := 35) C dX1_chainOf_34 rfl ?_
      refine g_sipush (v := 255) (q := 38) C dX1_chainOf_35 (by decide) rfl ?_
      refine g_iand (q := 39) C dX1_chainOf_38 rfl ?_
      exact E.1 _ _ _ _ _ _ _ dX1_chainOf_39 rfl rfl (Nat.le_of_ble_eq_true rfl) (Nat.le_of_ble_eq_true rfl) ⟨_, rfl, gand255 _, rfl⟩
    | succ d ih =>
      intro j hj m
      refine g_iload_n (q := 5) C dX1_chainOf_4 rfl rfl ?_
      refine g_aload_n (q := 6) C dX1_chainOf_5 rfl rfl ?_
      refine g_callVi (x := (nI b.length)) (q := 9) (As := []) C gyX4_size gvX4_size t_778 (c_X4_size (gRw.obj HB)) dX1_chainOf_6 rfl (gRw.obj HB) rfl rfl rfl (Nat.le_of_ble_eq_true rfl) (Nat.le_of_ble_eq_true rfl) (Nat.le_of_ble_eq_true rfl) (Nat.le_of_ble_eq_true rfl) (Nat.le_of_ble_eq_true rfl) rfl ?_
      refine g_icmp_ge_f (t := 29) (q := 12) C dX1_chainOf_9 (by decide) rfl (fun h => nI_ge (show j < b.length by omega) hlt h) ?_
      refine g_bipush (v := 31) (q := 14) C dX1_chainOf_12 (by decide) rfl ?_
      refine g_iload_n (q := 15) C dX1_chainOf_14 rfl rfl ?_
      refine g_imul (q := 16) C dX1_chainOf_15 rfl ?_
      refine g_aload_n (q := 17) C dX1_chainOf_16 rfl rfl ?_
      refine g_iload_n (q := 18) C dX1_chainOf_17 rfl rfl ?_
      refine g_callVi (x := (gat b (nI j))) (q := 21) (As := [.int ((nI j))]) C gyX4_at gvX4_at t_783 (c_X4_at_w HB) dX1_chainOf_18 rfl (gRw.obj HB) rfl rfl rfl (Nat.le_of_ble_eq_true rfl) (Nat.le_of_ble_eq_true rfl) (Nat.le_of_ble_eq_true rfl) (Nat.le_of_ble_eq_true rfl) (Nat.le_of_ble_eq_true rfl) rfl ?_
      refine g_iadd (q := 22) C dX1_chainOf_21 rfl ?_
      refine g_istore_n (q := 23) C dX1_chainOf_22 (Nat.le_of_ble_eq_true rfl) (by simp only [gset]; rfl) rfl ?_
      refine g_iinc (v := (nI (j + 1))) (q := 26) C dX1_chainOf_23 rfl (nI_1 j) (by simp only [gset]; rfl) rfl ?_
      refine g_goto (q := 4) C dX1_chainOf_26 (by decide) ?_
      exact ih (j + 1) (by omega) _
  refine g_iload_n (q := 1) C dX1_chainOf_0 rfl rfl ?_
  refine g_istore_n (q := 2) C dX1_chainOf_1 (Nat.le_of_ble_eq_true rfl) (by simp only [gset]; rfl) rfl ?_
  refine g_iconst (v := 1) (q := 3) C dX1_chainOf_2 (by decide) rfl ?_
  refine g_istore_n (q := 4) C dX1_chainOf_3 (Nat.le_of_ble_eq_true rfl) (by simp only [gset]; rfl) rfl ?_
  exact LL (b.length - 1) 1 (by omega) x
theorem dX1_isBlock_0 : decode cX1_isBlock 0 = .ok (.aload_n 0, 1) := by decide +kernel
theorem dX1_isBlock_1 : decode cX1_isBlock 1 = .ok (.getfield 22, 3) := by decide +kernel
theorem dX1_isBlock_4 : decode cX1_isBlock 4 = .ok (.iload_n 1, 1) := by decide +kernel
theorem dX1_isBlock_5 : decode cX1_isBlock 5 = .ok (.invokevirtual 55, 3) := by decide +kernel
theorem dX1_isBlock_8 : decode cX1_isBlock 8 = .ok (.istore 4, 2) := by decide +kernel
theorem dX1_isBlock_10 : decode cX1_isBlock 10 = .ok (.aload_n 0, 1) := by decide +kernel
theorem dX1_isBlock_11 : decode cX1_isBlock 11 = .ok (.getfield 17, 3) := by decide +kernel
theorem dX1_isBlock_14 : decode cX1_isBlock 14 = .ok (.iload 4, 2) := by decide +kernel
theorem dX1_isBlock_16 : decode cX1_isBlock 16 = .ok (.invokevirtual 55, 3) := by decide +kernel
theorem dX1_isBlock_19 : decode cX1_isBlock 19 = .ok (.iload_n 2, 1) := by decide +kernel
theorem dX1_isBlock_20 : decode cX1_isBlock 20 = .ok (.if_icmp .eq 5, 3) := by decide +kernel
theorem dX1_isBlock_23 : decode cX1_isBlock 23 = .ok (.iconst 0, 1) := by decide +kernel
theorem dX1_isBlock_24 : decode cX1_isBlock 24 = .ok (.ireturn, 1) := by decide +kernel
theorem dX1_isBlock_25 : decode cX1_isBlock 25 = .ok (.iconst 0, 1) := by decide +kernel
theorem dX1_isBlock_26 : decode cX1_isBlock 26 = .ok (.istore 5, 2) := by decide +kernel
theorem dX1_isBlock_28 : decode cX1_isBlock 28 = .ok (.iload 5, 2) := by decide +kernel
theorem dX1_isBlock_30 : decode cX1_isBlock 30 = .ok (.aload_n 3, 1) := by decide +kernel
theorem dX1_isBlock_31 : decode cX1_isBlock 31 = .ok (.invokevirtual 51, 3) := by decide +kernel
theorem dX1_isBlock_34 : decode cX1_isBlock 34 = .ok (.if_icmp .ge 34, 3) := by decide +kernel
theorem dX1_isBlock_37 : decode cX1_isBlock 37 = .ok (.aload_n 0, 1) := by decide +kernel
theorem dX1_isBlock_38 : decode cX1_isBlock 38 = .ok (.getfield 17, 3) := by decide +kernel
theorem dX1_isBlock_41 : decode cX1_isBlock 41 = .ok (.iload 4, 2) := by decide +kernel
theorem dX1_isBlock_43 : decode cX1_isBlock 43 = .ok (.iconst 1, 1) := by decide +kernel
theorem dX1_isBlock_44 : decode cX1_isBlock 44 = .ok (.iadd, 1) := by decide +kernel
theorem dX1_isBlock_45 : decode cX1_isBlock 45 = .ok (.iload 5, 2) := by decide +kernel
theorem dX1_isBlock_47 : decode cX1_isBlock 47 = .ok (.iadd, 1) := by decide +kernel
theorem dX1_isBlock_48 : decode cX1_isBlock 48 = .ok (.invokevirtual 55, 3) := by decide +kernel
theorem dX1_isBlock_51 : decode cX1_isBlock 51 = .ok (.aload_n 3, 1) := by decide +kernel
theorem dX1_isBlock_52 : decode cX1_isBlock 52 = .ok (.iload 5, 2) := by decide +kernel
theorem dX1_isBlock_54 : decode cX1_isBlock 54 = .ok (.invokevirtual 55, 3) := by decide +kernel
theorem dX1_isBlock_57 : decode cX1_isBlock 57 = .ok (.if_icmp .eq 5, 3) := by decide +kernel
theorem dX1_isBlock_60 : decode cX1_isBlock 60 = .ok (.iconst 0, 1) := by decide +kernel
theorem dX1_isBlock_61 : decode cX1_isBlock 61 = .ok (.ireturn, 1) := by decide +kernel
theorem dX1_isBlock_62 : decode cX1_isBlock 62 = .ok (.iinc 5 1, 3) := by decide +kernel
theorem dX1_isBlock_65 : decode cX1_isBlock 65 = .ok (.goto (-37), 3) := by decide +kernel
theorem dX1_isBlock_68 : decode cX1_isBlock 68 = .ok (.iconst 1, 1) := by decide +kernel
theorem dX1_isBlock_69 : decode cX1_isBlock 69 = .ok (.ireturn, 1) := by decide +kernel
set_option maxRecDepth 100000 in
set_option maxHeartbeats 4000000 in
theorem c_X1_isBlock_j {hp : List gA} {J : gJr} {x : Int32} {y : Int32} {b : List Int32} (HJ : gJn hp J) (HB : gRw hp 39 40 64 b) : gM yX1_isBlock cX1_isBlock 6 ((some .boolean)) 1 21 [.ref 3, .int x, .int y, .ref 39] (hp) (0) (0) (fun v h => ∃ z, v = some (.int z) ∧ ((z = 0 ∨ (z = 1 ∧ gat (J.l 0) (gat (J.l 1) x) = y ∧ ∀ i, i < b.length → gat (J.l 0) (gat (J.l 1) x + 1 + nI i) = gat b (nI i))) ∧ h = hp)) := by
  refine gM_of (ls0 := [some (.ref 3), some (.int x), some (.int y), some (.ref 39), none, none]) (by decide +kernel) (Nat.le_of_ble_eq_true rfl) rfl fun X C E => ?_
  refine g_aload_n (q := 1) C dX1_isBlock_0 rfl rfl ?_
  refine g_getfield (v := .ref 6) (q := 4) C fX1_22 dX1_isBlock_1 rfl HJ.1 rfl ?_
  refine g_iload_n (q := 5) C dX1_isBlock_4 rfl rfl ?_
  refine g_callVi (x := (gat (J.l 1) x)) (q := 8) (As := [.int x]) C gyX4_at gvX4_at t_783 (c_X4_at_g HJ.r1) dX1_isBlock_5 rfl (gRg.obj HJ.r1) rfl rfl rfl (Nat.le_of_ble_eq_true rfl) (Nat.le_of_ble_eq_true rfl) (Nat.le_of_ble_eq_true rfl) (Nat.le_of_ble_eq_true rfl) (Nat.le_of_ble_eq_true rfl) rfl ?_
  refine g_istore (q := 10) C dX1_isBlock_8 (Nat.le_of_ble_eq_true rfl) (by simp only [gset]; rfl) rfl ?_
  refine g_aload_n (q := 11) C dX1_isBlock_10 rfl rfl ?_
  refine g_getfield (v := .ref 4) (q := 14) C fX1_17 dX1_isBlock_11 rfl HJ.1 rfl ?_
  refine g_iload (q := 16) C dX1_isBlock_14 rfl rfl ?_
  refine g_callVi (x := (gat (J.l 0) (gat (J.l 1) x))) (q := 19) (As := [.int ((gat (J.l 1) x))]) C gyX4_at gvX4_at t_783 (c_X4_at_g HJ.r0) dX1_isBlock_16 rfl (gRg.obj HJ.r0) rfl rfl rfl (Nat.le_of_ble_eq_true rfl) (Nat.le_of_ble_eq_true rfl) (Nat.le_of_ble_eq_true rfl) (Nat.le_of_ble_eq_true rfl) (Nat.le_of_ble_eq_true rfl) rfl ?_
  refine g_iload_n (q := 20) C dX1_isBlock_19 rfl rfl ?_
  refine g_icmp_eq (t := 25) (q := 23) C dX1_isBlock_20 (by decide) rfl (fun c_20 => ?_) (fun c_20 => ?_)
  ·
    refine g_iconst (v := 0) (q := 26) C dX1_isBlock_25 (by decide) rfl ?_
    refine g_istore (q := 28) C dX1_isBlock_26 (Nat.le_of_ble_eq_true rfl) (by simp only [gset]; rfl) rfl ?_
    have hlt : b.length < 2 ^ 31 := by have := HB.le; omega
    have LL : ∀ d j : Nat, j + d = b.length → (∀ i, i < j → gat (J.l 0) ((gat (J.l 1) x) + 1 + nI i) = gat b (nI i)) → gG X 28 [some (.ref 3), some (.int x), some (.int y), some (.ref 39), some (.int (gat (J.l 1) x)), some (.int (nI j))] [] hp 0 0 := by
      intro d
      induction d with
      | zero =>
        intro j hj hm
        obtain rfl : j = b.length := by omega
        refine g_iload (q := 30) C dX1_isBlock_28 rfl rfl ?_
        refine g_aload_n (q := 31) C dX1_isBlock_30 rfl rfl ?_
        refine g_callVi (x := (nI b.length)) (q := 34) (As := []) C gyX4_size gvX4_size t_778 (c_X4_size (gRw.obj HB)) dX1_isBlock_31 rfl (gRw.obj HB) rfl rfl rfl (Nat.le_of_ble_eq_true rfl) (Nat.le_of_ble_eq_true rfl) (Nat.le_of_ble_eq_true rfl) (Nat.le_of_ble_eq_true rfl) (Nat.le_of_ble_eq_true rfl) rfl ?_
        refine g_icmp_ge_t (t := 68) C dX1_isBlock_34 (by decide) (nI_le (Nat.le_refl _) hlt) ?_
        refine g_iconst (v := 1) (q := 69) C dX1_isBlock_68 (by decide) rfl ?_
        exact E.1 _ _ _ _ _ _ _ dX1_isBlock_69 rfl rfl (Nat.le_of_ble_eq_true rfl) (Nat.le_of_ble_eq_true rfl) ⟨_, rfl, Or.inr ⟨rfl, c_20, hm⟩, rfl⟩
      | succ d ih =>
        intro j hj hm
        refine g_iload (q := 30) C dX1_isBlock_28 rfl rfl ?_
        refine g_aload_n (q := 31) C dX1_isBlock_30 rfl rfl ?_
        refine g_callVi (x := (nI b.length)) (q := 34) (As := []) C gyX4_size gvX4_size t_778 (c_X4_size (gRw.obj HB)) dX1_isBlock_31 rfl (gRw.obj HB) rfl rfl rfl (Nat.le_of_ble_eq_true rfl) (Nat.le_of_ble_eq_true rfl) (Nat.le_of_ble_eq_true rfl) (Nat.le_of_ble_eq_true rfl) (Nat.le_of_ble_eq_true rfl) rfl ?_
        refine g_icmp_ge_f (t := 68) (q := 37) C dX1_isBlock_34 (by decide) rfl (fun h => nI_ge (show j < b.length by omega) hlt h) ?_
        refine g_aload_n (q := 38) C dX1_isBlock_37 rfl rfl ?_
        refine g_getfield (v := .ref 4) (q := 41) C fX1_17 dX1_isBlock_38 rfl HJ.1 rfl ?_
        refine g_iload (q := 43) C dX1_isBlock_41 rfl rfl ?_
        refine g_iconst (v := 1) (q := 44) C dX1_isBlock_43 (by decide) rfl ?_
        refine g_iadd (q := 45) C dX1_isBlock_44 rfl ?_
        refine g_iload (q := 47) C dX1_isBlock_45 rfl rfl ?_
        refine g_iadd (q := 48) C dX1_isBlock_47 rfl ?_
        refine g_callVi (x := (gat (J.l 0) (((gat (J.l 1) x) + 1) + (nI j)))) (q := 51) (As := [.int ((((gat (J.l 1) x) + 1) + (nI j)))]) C gyX4_at gvX4_at t_783 (c_X4_at_g HJ.r0) dX1_isBlock_48 rfl (gRg.obj HJ.r0) rfl rfl rfl (Nat.le_of_ble_eq_true rfl) (Nat.le_of_ble_eq_true rfl) (Nat.le_of_ble_eq_true rfl) (Nat.le_of_ble_eq_true rfl) (Nat.le_of_ble_eq_true rfl) rfl ?_
        refine g_aload_n (q := 52) C dX1_isBlock_51 rfl rfl ?_
        refine g_iload (q := 54) C dX1_isBlock_52 rfl rfl ?_
        refine g_callVi (x := (gat b (nI j))) (q := 57) (As := [.int ((nI j))]) C gyX4_at gvX4_at t_783 (c_X4_at_w HB) dX1_isBlock_54 rfl (gRw.obj HB) rfl rfl rfl (Nat.le_of_ble_eq_true rfl) (Nat.le_of_ble_eq_true rfl) (Nat.le_of_ble_eq_true rfl) (Nat.le_of_ble_eq_true rfl) (Nat.le_of_ble_eq_true rfl) rfl ?_
        refine g_icmp_eq (t := 62) (q := 60) C dX1_isBlock_57 (by decide) rfl (fun c_57 => ?_) (fun c_57 => ?_)
        ·
          refine g_iinc (v := (nI (j + 1))) (q := 65) C dX1_isBlock_62 rfl (nI_1 j) (by simp only [gset]; rfl) rfl ?_
          refine g_goto (q := 28) C dX1_isBlock_65 (by decide) ?_
          exact ih (j + 1) (by omega) (fun i hi => (Nat.lt_succ_iff_lt_or_eq.mp hi).elim (hm i) (fun e => e ▸ c_57))
        ·
          refine g_iconst (v := 0) (q := 61) C dX1_isBlock_60 (by decide) rfl ?_
          exact E.1 _ _ _ _ _ _ _ dX1_isBlock_61 rfl rfl (Nat.le_of_ble_eq_true rfl) (Nat.le_of_ble_eq_true rfl) ⟨_, rfl, Or.inl rfl, rfl⟩
    exact LL b.length 0 (by omega) (fun i hi => absurd hi (Nat.not_lt_zero _))
  ·
    refine g_iconst (v := 0) (q := 24) C dX1_isBlock_23 (by decide) rfl ?_
    exact E.1 _ _ _ _ _ _ _ dX1_isBlock_24 rfl rfl (Nat.le_of_ble_eq_true rfl) (Nat.le_of_ble_eq_true rfl) ⟨_, rfl, Or.inl rfl, rfl⟩
/-! growth -/
def gph (k n : Nat) : Nat := 2 * n + (if n = gmo k then gmo k else 0)
def gBud (hp : List gA) (J : gJr) (Bc Bs : Nat) : Prop := gNJ hp ∧ hp.length ≤ Bc + (J.sz 0 / 32 + J.sz 1 / 32 + J.sz 2 / 32 + J.sz 3 / 32) ∧ gsz hp ≤ Bs + (gph 0 (J.sz 0) + gph 1 (J.sz 1) + gph 2 (J.sz 2) + gph 3 (J.sz 3)) ∧ 122 ≤ hp.length
theorem gph_le {k n : Nat} (h : n ≤ gmo k) : gph k n ≤ 3 * gmo k := by unfold gph; split <;> omega
theorem gBud.lim {hp : List gA} {J : gJr} {Bc Bs : Nat} (B : gBud hp J Bc Bs) (D : gJD J) (hc : Bc ≤ 200000) (hs : Bs ≤ 1000000) : hp.length + 1 ≤ 300000 ∧ gsz hp + 1048576 ≤ 7000000 := by
  obtain ⟨-, b1, b2, -⟩ := B
  have d0 := (D.1 0 (by decide)).2.1; have d1 := (D.1 1 (by decide)).2.1; have d2 := (D.1 2 (by decide)).2.1; have d3 := (D.1 3 (by decide)).2.1
  have p0 := gph_le d0; have p1 := gph_le d1; have p2 := gph_le d2; have p3 := gph_le d3
  have e0 := gmo0
  have e1 := gmo1
  have e2 := gmo2
  have e3 := gmo3
  omega
theorem gBud.same {hp h : List gA} {J J' : gJr} {Bc Bs : Nat} (B : gBud hp J Bc Bs) (S : gSame hp h) (e : J'.2.2.2 = J.2.2.2 := by rfl) : gBud h J' Bc Bs := by
  have e1 : ∀ k, J'.sz k = J.sz k := fun k => congrFun e k
  refine ⟨S.2.2 B.1, ?_, ?_, ?_⟩
  · rw [S.1, e1, e1, e1, e1]; exact B.2.1
  · rw [S.2.1, e1, e1, e1, e1]; exact B.2.2.1
  · rw [S.1]; exact B.2.2.2
def gFG (hp h : List gA) (J : gJr) : Prop := hp.length ≤ h.length ∧ ∀ k, k < hp.length → k ≠ 3 → (∀ i, i < 8 → k ≠ 4 + 2 * i ∧ k ≠ J.ad i) → h[k]? = hp[k]?
def gAd (hp : List gA) (J J' : gJr) : Prop := ∀ i, i < 8 → J'.ad i = J.ad i ∨ hp.length ≤ J'.ad i
theorem gFG.rf {hp : List gA} {J : gJr} : gFG hp hp J := ⟨Nat.le_refl _, fun _ _ _ _ => rfl⟩
theorem gAd.rf {hp : List gA} {J : gJr} : gAd hp J J := fun _ _ => Or.inl rfl
theorem gFJ.g {hp h : List gA} {J : gJr} (f : gFJ hp h J) (s : gSame hp h) : gFG hp h J := ⟨Nat.le_of_eq s.1.symm, fun k _ h1 h2 => f k h1 h2⟩
theorem gAd.trans {hp h : List gA} {J J' J2 : gJr} (a : gAd hp J J') (b : gAd h J' J2) (hl : hp.length ≤ h.length) : gAd hp J J2 := fun i hi => by
  rcases b i hi with e | e
  · rw [e]; exact a i hi
  · exact Or.inr (Nat.le_trans hl e)
theorem gFG.trans {hp h h' : List gA} {J J' : gJr} (a : gFG hp h J) (ad : gAd hp J J') (b : gFG h h' J') : gFG hp h' J :=
  ⟨Nat.le_trans a.1 b.1, fun k hk h1 h2 => (b.2 k (Nat.lt_of_lt_of_le hk a.1) h1 (fun i hi => ⟨(h2 i hi).1, by
    rcases ad i hi with e | e
    · rw [e]; exact (h2 i hi).2
    · omega⟩)).trans (a.2 k hk h1 h2)⟩
/-- a row beside the journal, old enough -/
theorem gFG.row {hp h : List gA} {J : gJr} {r a n : Nat} {l : List Int32} (f : gFG hp h J) (D : gJD J) (H : gRw hp r a n l) (hr : 20 ≤ r ∧ r < 122) (ha : 20 ≤ a ∧ a < 122) : gRw h r a n l := by
  obtain ⟨g, a1, a2, a3⟩ := H
  have l1 := (List.getElem?_eq_some_iff.mp a1).1
  have l2 := (List.getElem?_eq_some_iff.mp a2).1
  exact ⟨g, (f.2 r l1 (by omega) (fun i hi => ⟨by omega, by have := D.ad hi; omega⟩)).trans a1, (f.2 a l2 (by omega) (fun i hi => ⟨by omega, by have := D.ad hi; omega⟩)).trans a2, a3⟩
theorem gJr.mv_self {J : gJr} {k : Nat} : J.mv k (J.ad k) (J.sz k) = J := Prod.ext rfl (Prod.ext rfl (Prod.ext (funext fun j => by show (if j = k then J.2.2.1 k else J.2.2.1 j) = J.2.2.1 j; split <;> simp [*]) (funext fun j => by show (if j = k then J.2.2.2 k else J.2.2.2 j) = J.2.2.2 j; split <;> simp [*])))
theorem gJgrow {hp h : List gA} {J : gJr} {k r : Nat} {x : Int32} {Bc Bs : Nat} (HJ : gJn hp J) (B : gBud hp J Bc Bs) (hk : k < 4) (er : r = 4 + 2 * k) (hx : (J.l k).length < gmo k)
    (z : ∃ a' n' : Nat, gRg h r a' n' (gmo k) (J.l k ++ [x]) ∧ ((a' = J.ad k ∧ n' = J.sz k ∧ h.length = hp.length ∧ gsz h = gsz hp) ∨ (a' = hp.length ∧ n' = min (gmo k) (2 * J.sz k) ∧ (J.l k).length = J.sz k ∧ h.length = hp.length + 1 ∧ gsz h = gsz hp + n')) ∧ (∀ q, q ≠ r → q ≠ J.ad k → q < hp.length → h[q]? = hp[q]?) ∧ (gNJ hp → gNJ h)) :
    ∃ a n : Nat, gJn h ((J.mv k a n).row k (J.l k ++ [x])) ∧ gBud h ((J.mv k a n).row k (J.l k ++ [x])) Bc Bs ∧ gFG hp h J ∧ gAd hp J ((J.mv k a n).row k (J.l k ++ [x])) := by
  subst er
  obtain ⟨a', n', z1, z2, z3, z4⟩ := z
  have hk8 : k < 8 := by omega
  have A : ∀ j, j < 8 → J.ad j = 5 + 2 * j ∨ 122 ≤ J.ad j := fun j hj => HJ.2.2.ad hj
  have Ak := A _ hk8
  have R := HJ.2.1
  have l3 := (List.getElem?_eq_some_iff.mp HJ.1).1
  rcases z2 with ⟨rfl, rfl, e3, e4⟩ | ⟨e1, e2, e3, e4, e5⟩
  · refine ⟨J.ad k, J.sz k, ?_⟩
    rw [gJr.mv_self]
    refine ⟨⟨(z3 3 (by omega) (by omega) l3).trans HJ.1, fun j hj => ?_, HJ.2.2⟩, ⟨z4 B.1, by rw [e3]; exact B.2.1, by rw [e4]; exact B.2.2.1, by rw [e3]; exact B.2.2.2⟩, ⟨by omega, fun q hq h1 h2 => z3 q (h2 k hk8).1 (h2 k hk8).2 hq⟩, gAd.rf⟩
    show gRg h (4 + 2 * j) (J.ad j) (J.sz j) (gmo j) (if j = k then J.l k ++ [x] else J.1 j)
    by_cases e : j = k
    · subst e; rw [if_pos rfl]; exact z1
    · rw [if_neg e]
      have lj := (R j hj).lt
      exact (R j hj).kept (z3 _ (by omega) (by omega) lj.1) (z3 _ (by have := A _ hj; omega) (HJ.2.2.2 j hj k hk8 e) lj.2)
  · have Dk := HJ.2.2.1 k hk8
    have hn : J.sz k < gmo k := by omega
    have h32 := Dk.2.2.2.2 hk
    have hmo : 32 ∣ gmo k ∧ 32 ≤ gmo k := by
      have : k = 0 ∨ k = 1 ∨ k = 2 ∨ k = 3 := by omega
      rcases this with rfl | rfl | rfl | rfl
      · rw [gmo0]; omega
      · rw [gmo1]; omega
      · rw [gmo2]; omega
      · rw [gmo3]; omega
    have hB := B.2.2.2
    refine ⟨a', n', ⟨(z3 3 (by omega) (by omega) l3).trans HJ.1, fun j hj => ?_, fun j hj => ?_, fun i hi j hj hij => ?_⟩, ⟨z4 B.1, ?_, ?_, by omega⟩, ⟨by omega, fun q hq h1 h2 => z3 q (h2 k hk8).1 (h2 k hk8).2 hq⟩, fun i hi => ?_⟩
    · show gRg h (4 + 2 * j) (if j = k then a' else J.2.2.1 j) (if j = k then n' else J.2.2.2 j) (gmo j) (if j = k then J.l k ++ [x] else J.1 j)
      by_cases e : j = k
      · subst e; rw [if_pos rfl, if_pos rfl, if_pos rfl]; exact z1
      · rw [if_neg e, if_neg e, if_neg e]
        have lj := (R j hj).lt
        exact (R j hj).kept (z3 _ (by omega) (by omega) lj.1) (z3 _ (by have := A _ hj; omega) (HJ.2.2.2 j hj k hk8 e) lj.2)
    · show ((if j = k then a' else J.2.2.1 j) = 5 + 2 * j ∨ (j < 4 ∧ 122 ≤ (if j = k then a' else J.2.2.1 j))) ∧ (if j = k then n' else J.2.2.2 j) ≤ gmo j ∧ 30 ≤ (if j = k then n' else J.2.2.2 j) ∧ (4 ≤ j → (if j = k then n' else J.2.2.2 j) = gmo j) ∧ (j < 4 → 32 ∣ (if j = k then n' else J.2.2.2 j) ∧ 32 ≤ (if j = k then n' else J.2.2.2 j))
      by_cases e : j = k
      · subst e; rw [if_pos rfl, if_pos rfl]
        refine ⟨Or.inr ⟨hk, by omega⟩, by omega, by omega, fun h => by omega, fun _ => by omega⟩
      · rw [if_neg e, if_neg e]; exact HJ.2.2.1 j hj
    · show (if i = k then a' else J.2.2.1 i) ≠ (if j = k then a' else J.2.2.1 j)
      have li := (R i hi).lt.2
      have lj := (R j hj).lt.2
      have li2 : J.2.2.1 i < hp.length := li
      have lj2 : J.2.2.1 j < hp.length := lj
      by_cases e : i = k
      · rw [if_pos e, if_neg (by omega)]; omega
      · by_cases e' : j = k
        · rw [if_neg e, if_pos e']; omega
        · rw [if_neg e, if_neg e']; exact HJ.2.2.2 i hi j hj hij
    · have g := B.2.1
      have : k = 0 ∨ k = 1 ∨ k = 2 ∨ k = 3 := by omega
      have d : n' / 32 ≥ J.sz k / 32 + 1 := by omega
      rcases this with rfl | rfl | rfl | rfl
      · show h.length ≤ Bc + (n' / 32 + J.sz 1 / 32 + J.sz 2 / 32 + J.sz 3 / 32); omega
      · show h.length ≤ Bc + (J.sz 0 / 32 + n' / 32 + J.sz 2 / 32 + J.sz 3 / 32); omega
      · show h.length ≤ Bc + (J.sz 0 / 32 + J.sz 1 / 32 + n' / 32 + J.sz 3 / 32); omega
      · show h.length ≤ Bc + (J.sz 0 / 32 + J.sz 1 / 32 + J.sz 2 / 32 + n' / 32); omega
    · have g := B.2.2.1
      have d : gph k (J.sz k) + n' ≤ gph k n' := by
        unfold gph
        rw [if_neg (by omega)]
        split <;> omega
      have : k = 0 ∨ k = 1 ∨ k = 2 ∨ k = 3 := by omega
      rcases this with rfl | rfl | rfl | rfl
      · show gsz h ≤ Bs + (gph 0 n' + gph 1 (J.sz 1) + gph 2 (J.sz 2) + gph 3 (J.sz 3)); omega
      · show gsz h ≤ Bs + (gph 0 (J.sz 0) + gph 1 n' + gph 2 (J.sz 2) + gph 3 (J.sz 3)); omega
      · show gsz h ≤ Bs + (gph 0 (J.sz 0) + gph 1 (J.sz 1) + gph 2 n' + gph 3 (J.sz 3)); omega
      · show gsz h ≤ Bs + (gph 0 (J.sz 0) + gph 1 (J.sz 1) + gph 2 (J.sz 2) + gph 3 n'); omega
    · show (if i = k then a' else J.2.2.1 i) = J.2.2.1 i ∨ hp.length ≤ (if i = k then a' else J.2.2.1 i)
      by_cases e : i = k
      · rw [if_pos e]; exact Or.inr (by omega)
      · rw [if_neg e]; exact Or.inl rfl
def gJadd (J J' : gJr) (y : Int32) (b : List Int32) (c : Int32) : Prop := J'.ne = J.ne ∧ J'.l 0 = J.l 0 ++ y :: b ∧ J'.l 1 = J.l 1 ++ [nI (J.l 0).length] ∧ J'.l 2 = J.l 2 ++ [0] ∧ J'.l 3 = J.l 3 ++ [gat (J.l 4) c] ∧ J'.l 4 = gput (J.l 4) c (nI (J.l 1).length) ∧ ∀ i, 5 ≤ i → J'.l i = J.l i
theorem gjrest {J : gJr} {i a0 n0 a1 n1 a2 n2 a3 n3 : Nat} {l0 l1 l2 l3 l4 : List Int32} (hi : 5 ≤ i) : (((((((((J.mv 1 a1 n1).row 1 l1).mv 2 a2 n2).row 2 l2).mv 3 a3 n3).row 3 l3).row 4 l4).mv 0 a0 n0).row 0 l0).l i = J.l i := by
  show (if i = 0 then l0 else if i = 4 then l4 else if i = 3 then l3 else if i = 2 then l2 else if i = 1 then l1 else J.1 i) = J.1 i
  rw [if_neg (by omega), if_neg (by omega), if_neg (by omega), if_neg (by omega), if_neg (by omega)]
theorem dX1_addUnlike_0 : decode cX1_addUnlike 0 = .ok (.aload_n 0, 1) := by decide +kernel
theorem dX1_addUnlike_1 : decode cX1_addUnlike 1 = .ok (.getfield 22, 3) := by decide +kernel
theorem dX1_addUnlike_4 : decode cX1_addUnlike 4 = .ok (.invokevirtual 51, 3) := by decide +kernel
theorem dX1_addUnlike_7 : decode cX1_addUnlike 7 = .ok (.istore 4, 2) := by decide +kernel
theorem dX1_addUnlike_9 : decode cX1_addUnlike 9 = .ok (.iload 4, 2) := by decide +kernel
theorem dX1_addUnlike_11 : decode cX1_addUnlike 11 = .ok (.ldc 21, 2) := by decide +kernel
theorem dX1_addUnlike_13 : decode cX1_addUnlike 13 = .ok (.if_icmp .ge 20, 3) := by decide +kernel
theorem dX1_addUnlike_16 : decode cX1_addUnlike 16 = .ok (.aload_n 0, 1) := by decide +kernel
theorem dX1_addUnlike_17 : decode cX1_addUnlike 17 = .ok (.getfield 17, 3) := by decide +kernel
theorem dX1_addUnlike_20 : decode cX1_addUnlike 20 = .ok (.invokevirtual 51, 3) := by decide +kernel
theorem dX1_addUnlike_23 : decode cX1_addUnlike 23 = .ok (.aload_n 2, 1) := by decide +kernel
theorem dX1_addUnlike_24 : decode cX1_addUnlike 24 = .ok (.invokevirtual 51, 3) := by decide +kernel
theorem dX1_addUnlike_27 : decode cX1_addUnlike 27 = .ok (.iadd, 1) := by decide +kernel
theorem dX1_addUnlike_28 : decode cX1_addUnlike 28 = .ok (.ldc 13, 2) := by decide +kernel
theorem dX1_addUnlike_30 : decode cX1_addUnlike 30 = .ok (.if_icmp .lt 5, 3) := by decide +kernel
theorem dX1_addUnlike_35 : decode cX1_addUnlike 35 = .ok (.aload_n 0, 1) := by decide +kernel
theorem dX1_addUnlike_36 : decode cX1_addUnlike 36 = .ok (.getfield 22, 3) := by decide +kernel
theorem dX1_addUnlike_39 : decode cX1_addUnlike 39 = .ok (.aload_n 0, 1) := by decide +kernel
theorem dX1_addUnlike_40 : decode cX1_addUnlike 40 = .ok (.getfield 17, 3) := by decide +kernel
theorem dX1_addUnlike_43 : decode cX1_addUnlike 43 = .ok (.invokevirtual 51, 3) := by decide +kernel
theorem dX1_addUnlike_46 : decode cX1_addUnlike 46 = .ok (.invokevirtual 62, 3) := by decide +kernel
theorem dX1_addUnlike_49 : decode cX1_addUnlike 49 = .ok (.aload_n 0, 1) := by decide +kernel
theorem dX1_addUnlike_50 : decode cX1_addUnlike 50 = .ok (.getfield 25, 3) := by decide +kernel
theorem dX1_addUnlike_53 : decode cX1_addUnlike 53 = .ok (.iconst 0, 1) := by decide +kernel
theorem dX1_addUnlike_54 : decode cX1_addUnlike 54 = .ok (.invokevirtual 62, 3) := by decide +kernel
theorem dX1_addUnlike_57 : decode cX1_addUnlike 57 = .ok (.aload_n 0, 1) := by decide +kernel
theorem dX1_addUnlike_58 : decode cX1_addUnlike 58 = .ok (.getfield 28, 3) := by decide +kernel
theorem dX1_addUnlike_61 : decode cX1_addUnlike 61 = .ok (.aload_n 0, 1) := by decide +kernel
theorem dX1_addUnlike_62 : decode cX1_addUnlike 62 = .ok (.getfield 31, 3) := by decide +kernel
theorem dX1_addUnlike_65 : decode cX1_addUnlike 65 = .ok (.iload_n 3, 1) := by decide +kernel
theorem dX1_addUnlike_66 : decode cX1_addUnlike 66 = .ok (.invokevirtual 55, 3) := by decide +kernel
theorem dX1_addUnlike_69 : decode cX1_addUnlike 69 = .ok (.invokevirtual 62, 3) := by decide +kernel
theorem dX1_addUnlike_72 : decode cX1_addUnlike 72 = .ok (.aload_n 0, 1) := by decide +kernel
theorem dX1_addUnlike_73 : decode cX1_addUnlike 73 = .ok (.getfield 31, 3) := by decide +kernel
theorem dX1_addUnlike_76 : decode cX1_addUnlike 76 = .ok (.iload_n 3, 1) := by decide +kernel
theorem dX1_addUnlike_77 : decode cX1_addUnlike 77 = .ok (.iload 4, 2) := by decide +kernel
theorem dX1_addUnlike_79 : decode cX1_addUnlike 79 = .ok (.invokevirtual 59, 3) := by decide +kernel
theorem dX1_addUnlike_82 : decode cX1_addUnlike 82 = .ok (.aload_n 0, 1) := by decide +kernel
theorem dX1_addUnlike_83 : decode cX1_addUnlike 83 = .ok (.getfield 17, 3) := by decide +kernel
theorem dX1_addUnlike_86 : decode cX1_addUnlike 86 = .ok (.iload_n 1, 1) := by decide +kernel
theorem dX1_addUnlike_87 : decode cX1_addUnlike 87 = .ok (.invokevirtual 62, 3) := by decide +kernel
theorem dX1_addUnlike_90 : decode cX1_addUnlike 90 = .ok (.iconst 0, 1) := by decide +kernel
theorem dX1_addUnlike_91 : decode cX1_addUnlike 91 = .ok (.istore 5, 2) := by decide +kernel
theorem dX1_addUnlike_93 : decode cX1_addUnlike 93 = .ok (.iload 5, 2) := by decide +kernel
theorem dX1_addUnlike_95 : decode cX1_addUnlike 95 = .ok (.aload_n 2, 1) := by decide +kernel
theorem dX1_addUnlike_96 : decode cX1_addUnlike 96 = .ok (.invokevirtual 51, 3) := by decide +kernel
theorem dX1_addUnlike_99 : decode cX1_addUnlike 99 = .ok (.if_icmp .ge 22, 3) := by decide +kernel
theorem dX1_addUnlike_102 : decode cX1_addUnlike 102 = .ok (.aload_n 0, 1) := by decide +kernel
theorem dX1_addUnlike_103 : decode cX1_addUnlike 103 = .ok (.getfield 17, 3) := by decide +kernel
theorem dX1_addUnlike_106 : decode cX1_addUnlike 106 = .ok (.aload_n 2, 1) := by decide +kernel
theorem dX1_addUnlike_107 : decode cX1_addUnlike 107 = .ok (.iload 5, 2) := by decide +kernel
theorem dX1_addUnlike_109 : decode cX1_addUnlike 109 = .ok (.invokevirtual 55, 3) := by decide +kernel
theorem dX1_addUnlike_112 : decode cX1_addUnlike 112 = .ok (.invokevirtual 62, 3) := by decide +kernel
theorem dX1_addUnlike_115 : decode cX1_addUnlike 115 = .ok (.iinc 5 1, 3) := by decide +kernel
theorem dX1_addUnlike_118 : decode cX1_addUnlike 118 = .ok (.goto (-25), 3) := by decide +kernel
theorem dX1_addUnlike_121 : decode cX1_addUnlike 121 = .ok (.iload 4, 2) := by decide +kernel
theorem dX1_addUnlike_123 : decode cX1_addUnlike 123 = .ok (.ireturn, 1) := by decide +kernel
set_option maxRecDepth 100000 in
set_option maxHeartbeats 4000000 in
theorem c_X1_addUnlike_j {hp : List gA} {J : gJr} {y : Int32} {w : Int32} {b : List Int32} {Bc Bs : Nat} (HJ : gJn hp J) (B0 : gBud hp J Bc Bs) (hc : Bc ≤ 200000) (hs : Bs ≤ 1000000) (HB : gRw hp 39 40 64 b) (hl1 : (J.l 1).length < 65536) (hl2 : (J.l 2).length < 65536) (hl3 : (J.l 3).length < 65536) (hlb : (J.l 0).length + b.length + 1 < 1048576) : gM yX1_addUnlike cX1_addUnlike 6 ((some .int)) 3 103 [.ref 3, .int y, .ref 39, .int w] (hp) (300000 - hp.length) (7000000 - gsz hp) (fun v h => ∃ z, v = some (.int z) ∧ (z = nI (J.l 1).length ∧ ∃ J', gJn h J' ∧ gBud h J' Bc Bs ∧ gFG hp h J ∧ gAd hp J J' ∧ gJadd J J' y b w)) := by
  refine gM_ofT (ls0 := [some (.ref 3), some (.int y), some (.ref 39), some (.int w), none, none]) (by decide +kernel) (Nat.le_of_ble_eq_true rfl) rfl fun X C E h0 => ?_
  have hblt : b.length < 2 ^ 31 := by have := HB.le; omega
  have hl0 : (J.l 0).length < 1048576 := by omega
  have bl0 := gBud.lim B0 HJ.2.2 hc hs
  refine g_aload_n (q := 1) C dX1_addUnlike_0 rfl rfl ?_
  refine g_getfield (v := .ref 6) (q := 4) C fX1_22 dX1_addUnlike_1 rfl HJ.1 rfl ?_
  refine g_callVi (x := (nI (J.l 1).length)) (q := 7) (As := []) C gyX4_size gvX4_size t_778 (c_X4_size (gRg.obj HJ.r1)) dX1_addUnlike_4 rfl (gRg.obj HJ.r1) rfl rfl rfl (Nat.le_of_ble_eq_true rfl) (Nat.le_of_ble_eq_true rfl) (Nat.le_of_ble_eq_true rfl) (by show _ + _ ≤ 300000 - List.length hp; omega) (by show _ + _ ≤ 7000000 - gsz hp; omega) rfl ?_
  refine g_istore (q := 9) C dX1_addUnlike_7 (Nat.le_of_ble_eq_true rfl) (by simp only [gset]; rfl) rfl ?_
  refine g_iload (q := 11) C dX1_addUnlike_9 rfl rfl ?_
  refine g_ldc (q := 13) C t_94 dX1_addUnlike_11 rfl ?_
  refine g_icmp_ge_f (t := 33) (q := 16) C dX1_addUnlike_13 (by decide) rfl (fun h => nI_ge (show (J.l 1).length < 65536 by omega) (by decide) h) ?_
  refine g_aload_n (q := 17) C dX1_addUnlike_16 rfl rfl ?_
  refine g_getfield (v := .ref 4) (q := 20) C fX1_17 dX1_addUnlike_17 rfl HJ.1 rfl ?_
  refine g_callVi (x := (nI (J.l 0).length)) (q := 23) (As := []) C gyX4_size gvX4_size t_778 (c_X4_size (gRg.obj HJ.r0)) dX1_addUnlike_20 rfl (gRg.obj HJ.r0) rfl rfl rfl (Nat.le_of_ble_eq_true rfl) (Nat.le_of_ble_eq_true rfl) (Nat.le_of_ble_eq_true rfl) (by show _ + _ ≤ 300000 - List.length hp; omega) (by show _ + _ ≤ 7000000 - gsz hp; omega) rfl ?_
  refine g_aload_n (q := 24) C dX1_addUnlike_23 rfl rfl ?_
  refine g_callVi (x := (nI b.length)) (q := 27) (As := []) C gyX4_size gvX4_size t_778 (c_X4_size (gRw.obj HB)) dX1_addUnlike_24 rfl (gRw.obj HB) rfl rfl rfl (Nat.le_of_ble_eq_true rfl) (Nat.le_of_ble_eq_true rfl) (Nat.le_of_ble_eq_true rfl) (by show _ + _ ≤ 300000 - List.length hp; omega) (by show _ + _ ≤ 7000000 - gsz hp; omega) rfl ?_
  refine g_iadd (q := 28) C dX1_addUnlike_27 rfl ?_
  refine g_ldc (q := 30) C t_92 dX1_addUnlike_28 rfl ?_
  refine g_icmp_lt_t (t := 35) C dX1_addUnlike_30 (by decide) (by rw [nI_add]; exact nI_lt (show (J.l 0).length + b.length < 1048576 by omega) (by decide)) ?_
  refine g_aload_n (q := 36) C dX1_addUnlike_35 rfl rfl ?_
  refine g_getfield (v := .ref 6) (q := 39) C fX1_22 dX1_addUnlike_36 rfl HJ.1 rfl ?_
  refine g_aload_n (q := 40) C dX1_addUnlike_39 rfl rfl ?_
  refine g_getfield (v := .ref 4) (q := 43) C fX1_17 dX1_addUnlike_40 rfl HJ.1 rfl ?_
  refine g_callVi (x := (nI (J.l 0).length)) (q := 46) (As := []) C gyX4_size gvX4_size t_778 (c_X4_size (gRg.obj HJ.r0)) dX1_addUnlike_43 rfl (gRg.obj HJ.r0) rfl rfl rfl (Nat.le_of_ble_eq_true rfl) (Nat.le_of_ble_eq_true rfl) (Nat.le_of_ble_eq_true rfl) (by show _ + _ ≤ 300000 - List.length hp; omega) (by show _ + _ ≤ 7000000 - gsz hp; omega) rfl ?_
  refine g_tight h0 B0.1 B0.1 (fun t1a t1b => ?_)
  refine g_callVvp (q := 49) (As := [.int ((nI (J.l 0).length))]) C gyX4_add gvX4_add t_779 (c_X4_add_g (mc := 300000 - hp.length) (ms := 7000000 - gsz hp) HJ.r1 (show (J.l 1).length < gmo 1 from by rw [gmo1]; exact hl1) gmo_le (by have := (HJ.2.2.1 1 (by decide)).2.2.1; omega) (fun _ => by omega) (fun _ => by have := gmo_le (k := 1); omega)) dX1_addUnlike_46 rfl (gRg.obj HJ.r1) rfl rfl rfl (Nat.le_of_ble_eq_true rfl) (Nat.le_of_ble_eq_true rfl) (Nat.le_of_ble_eq_true rfl) (by show _ + _ ≤ 300000 - List.length hp; omega) (by show _ + _ ≤ 7000000 - gsz hp; omega) rfl (fun h2 z2 => ?_)
  obtain ⟨a2, n2, HL2, B2, fg2, ad2⟩ := gJgrow (k := 1) HJ B0 (by decide) rfl (show (J.l 1).length < gmo 1 from by rw [gmo1]; exact hl1) z2
  have FG2 := gFG.trans (gFG.rf (J := J)) (gAd.rf) fg2
  have AD2 := gAd.trans (gAd.rf) ad2 (gFG.rf (J := J)).1
  have bl2 := gBud.lim B2 HL2.2.2 hc hs
  have HB2 := gFG.row FG2 HJ.2.2 HB (by decide) (by decide)
  refine g_aload_n (q := 50) C dX1_addUnlike_49 rfl rfl ?_
  refine g_getfield (v := .ref 8) (q := 53) C fX1_25 dX1_addUnlike_50 rfl HL2.1 rfl ?_
  refine g_iconst (v := 0) (q := 54) C dX1_addUnlike_53 (by decide) rfl ?_
  refine g_tight h0 B0.1 B2.1 (fun t3a t3b => ?_)
  refine g_callVvp (q := 57) (As := [.int 0]) C gyX4_add gvX4_add t_779 (c_X4_add_g (mc := 300000 - h2.length) (ms := 7000000 - gsz h2) HL2.r2 (show (((J.mv 1 a2 n2).row 1 ((J.l 1) ++ [(nI (J.l 0).length)])).l 2).length < gmo 2 from by rw [gmo2]; exact hl2) gmo_le (by have := (HL2.2.2.1 2 (by decide)).2.2.1; omega) (fun _ => by omega) (fun _ => by have := gmo_le (k := 2); omega)) dX1_addUnlike_54 rfl (gRg.obj HL2.r2) rfl rfl rfl (Nat.le_of_ble_eq_true rfl) (Nat.le_of_ble_eq_true rfl) (Nat.le_of_ble_eq_true rfl) (by show _ + _ ≤ 300000 - List.length hp; omega) (by show _ + _ ≤ 7000000 - gsz hp; omega) rfl (fun h4 z4 => ?_)
  obtain ⟨a4, n4, HL4, B4, fg4, ad4⟩ := gJgrow (k := 2) HL2 B2 (by decide) rfl (show (((J.mv 1 a2 n2).row 1 ((J.l 1) ++ [(nI (J.l 0).length)])).l 2).length < gmo 2 from by rw [gmo2]; exact hl2) z4
  have FG4 := gFG.trans FG2 AD2 fg4
  have AD4 := gAd.trans AD2 ad4 FG2.1
  have bl4 := gBud.lim B4 HL4.2.2 hc hs
  have HB4 := gFG.row FG4 HJ.2.2 HB (by decide) (by decide)
  refine g_aload_n (q := 58) C dX1_addUnlike_57 rfl rfl ?_
  refine g_getfield (v := .ref 10) (q := 61) C fX1_28 dX1_addUnlike_58 rfl HL4.1 rfl ?_
  refine g_aload_n (q := 62) C dX1_addUnlike_61 rfl rfl ?_
  refine g_getfield (v := .ref 12) (q := 65) C fX1_31 dX1_addUnlike_62 rfl HL4.1 rfl ?_
  refine g_iload_n (q := 66) C dX1_addUnlike_65 rfl rfl ?_
  refine g_callVi (x := (gat (((((J.mv 1 a2 n2).row 1 ((J.l 1) ++ [(nI (J.l 0).length)])).mv 2 a4 n4).row 2 ((((J.mv 1 a2 n2).row 1 ((J.l 1) ++ [(nI (J.l 0).length)])).l 2) ++ [0])).l 4) w)) (q := 69) (As := [.int w]) C gyX4_at gvX4_at t_783 (c_X4_at_g HL4.r4) dX1_addUnlike_66 rfl (gRg.obj HL4.r4) rfl rfl rfl (Nat.le_of_ble_eq_true rfl) (Nat.le_of_ble_eq_true rfl) (Nat.le_of_ble_eq_true rfl) (by show _ + _ ≤ 300000 - List.length hp; omega) (by show _ + _ ≤ 7000000 - gsz hp; omega) rfl ?_
  refine g_tight h0 B0.1 B4.1 (fun t5a t5b => ?_)
  refine g_callVvp (q := 72) (As := [.int ((gat (((((J.mv 1 a2 n2).row 1 ((J.l 1) ++ [(nI (J.l 0).length)])).mv 2 a4 n4).row 2 ((((J.mv 1 a2 n2).row 1 ((J.l 1) ++ [(nI (J.l 0).length)])).l 2) ++ [0])).l 4) w))]) C gyX4_add gvX4_add t_779 (c_X4_add_g (mc := 300000 - h4.length) (ms := 7000000 - gsz h4) HL4.r3 (show (((((J.mv 1 a2 n2).row 1 ((J.l 1) ++ [(nI (J.l 0).length)])).mv 2 a4 n4).row 2 ((((J.mv 1 a2 n2).row 1 ((J.l 1) ++ [(nI (J.l 0).length)])).l 2) ++ [0])).l 3).length < gmo 3 from by rw [gmo3]; exact hl3) gmo_le (by have := (HL4.2.2.1 3 (by decide)).2.2.1; omega) (fun _ => by omega) (fun _ => by have := gmo_le (k := 3); omega)) dX1_addUnlike_69 rfl (gRg.obj HL4.r3) rfl rfl rfl (Nat.le_of_ble_eq_true rfl) (Nat.le_of_ble_eq_true rfl) (Nat.le_of_ble_eq_true rfl) (by show _ + _ ≤ 300000 - List.length hp; omega) (by show _ + _ ≤ 7000000 - gsz hp; omega) rfl (fun h6 z6 => ?_)
  obtain ⟨a6, n6, HL6, B6, fg6, ad6⟩ := gJgrow (k := 3) HL4 B4 (by decide) rfl (show (((((J.mv 1 a2 n2).row 1 ((J.l 1) ++ [(nI (J.l 0).length)])).mv 2 a4 n4).row 2 ((((J.mv 1 a2 n2).row 1 ((J.l 1) ++ [(nI (J.l 0).length)])).l 2) ++ [0])).l 3).length < gmo 3 from by rw [gmo3]; exact hl3) z6
  have FG6 := gFG.trans FG4 AD4 fg6
  have AD6 := gAd.trans AD4 ad6 FG4.1
  have bl6 := gBud.lim B6 HL6.2.2 hc hs
  have HB6 := gFG.row FG6 HJ.2.2 HB (by decide) (by decide)
  refine g_aload_n (q := 73) C dX1_addUnlike_72 rfl rfl ?_
  refine g_getfield (v := .ref 12) (q := 76) C fX1_31 dX1_addUnlike_73 rfl HL6.1 rfl ?_
  refine g_iload_n (q := 77) C dX1_addUnlike_76 rfl rfl ?_
  refine g_iload (q := 79) C dX1_addUnlike_77 rfl rfl ?_
  refine g_callVvp (q := 82) (As := [.int w, .int ((nI (J.l 1).length))]) C gyX4_put gvX4_put t_792 (c_X4_put_g HL6.r4) dX1_addUnlike_79 rfl (gRg.obj HL6.r4) rfl rfl rfl (Nat.le_of_ble_eq_true rfl) (Nat.le_of_ble_eq_true rfl) (Nat.le_of_ble_eq_true rfl) (by show _ + _ ≤ 300000 - List.length hp; omega) (by show _ + _ ≤ 7000000 - gsz hp; omega) rfl (fun h7 z7 => ?_)
  obtain ⟨HL7, fr7⟩ := gJn.row (k := 4) HL6 (by decide) z7
  have sm7 := gJn.same HL6 HL7 fr7 rfl
  have B7 : gBud h7 (((((((J.mv 1 a2 n2).row 1 ((J.l 1) ++ [(nI (J.l 0).length)])).mv 2 a4 n4).row 2 ((((J.mv 1 a2 n2).row 1 ((J.l 1) ++ [(nI (J.l 0).length)])).l 2) ++ [0])).mv 3 a6 n6).row 3 ((((((J.mv 1 a2 n2).row 1 ((J.l 1) ++ [(nI (J.l 0).length)])).mv 2 a4 n4).row 2 ((((J.mv 1 a2 n2).row 1 ((J.l 1) ++ [(nI (J.l 0).length)])).l 2) ++ [0])).l 3) ++ [(gat (((((J.mv 1 a2 n2).row 1 ((J.l 1) ++ [(nI (J.l 0).length)])).mv 2 a4 n4).row 2 ((((J.mv 1 a2 n2).row 1 ((J.l 1) ++ [(nI (J.l 0).length)])).l 2) ++ [0])).l 4) w)])).row 4 (gput (((((((J.mv 1 a2 n2).row 1 ((J.l 1) ++ [(nI (J.l 0).length)])).mv 2 a4 n4).row 2 ((((J.mv 1 a2 n2).row 1 ((J.l 1) ++ [(nI (J.l 0).length)])).l 2) ++ [0])).mv 3 a6 n6).row 3 ((((((J.mv 1 a2 n2).row 1 ((J.l 1) ++ [(nI (J.l 0).length)])).mv 2 a4 n4).row 2 ((((J.mv 1 a2 n2).row 1 ((J.l 1) ++ [(nI (J.l 0).length)])).l 2) ++ [0])).l 3) ++ [(gat (((((J.mv 1 a2 n2).row 1 ((J.l 1) ++ [(nI (J.l 0).length)])).mv 2 a4 n4).row 2 ((((J.mv 1 a2 n2).row 1 ((J.l 1) ++ [(nI (J.l 0).length)])).l 2) ++ [0])).l 4) w)])).l 4) w (nI (J.l 1).length))) Bc Bs := gBud.same B6 sm7
  have FG7 := gFG.trans FG6 AD6 (gFJ.g fr7 sm7)
  have AD7 : gAd hp J (((((((J.mv 1 a2 n2).row 1 ((J.l 1) ++ [(nI (J.l 0).length)])).mv 2 a4 n4).row 2 ((((J.mv 1 a2 n2).row 1 ((J.l 1) ++ [(nI (J.l 0).length)])).l 2) ++ [0])).mv 3 a6 n6).row 3 ((((((J.mv 1 a2 n2).row 1 ((J.l 1) ++ [(nI (J.l 0).length)])).mv 2 a4 n4).row 2 ((((J.mv 1 a2 n2).row 1 ((J.l 1) ++ [(nI (J.l 0).length)])).l 2) ++ [0])).l 3) ++ [(gat (((((J.mv 1 a2 n2).row 1 ((J.l 1) ++ [(nI (J.l 0).length)])).mv 2 a4 n4).row 2 ((((J.mv 1 a2 n2).row 1 ((J.l 1) ++ [(nI (J.l 0).length)])).l 2) ++ [0])).l 4) w)])).row 4 (gput (((((((J.mv 1 a2 n2).row 1 ((J.l 1) ++ [(nI (J.l 0).length)])).mv 2 a4 n4).row 2 ((((J.mv 1 a2 n2).row 1 ((J.l 1) ++ [(nI (J.l 0).length)])).l 2) ++ [0])).mv 3 a6 n6).row 3 ((((((J.mv 1 a2 n2).row 1 ((J.l 1) ++ [(nI (J.l 0).length)])).mv 2 a4 n4).row 2 ((((J.mv 1 a2 n2).row 1 ((J.l 1) ++ [(nI (J.l 0).length)])).l 2) ++ [0])).l 3) ++ [(gat (((((J.mv 1 a2 n2).row 1 ((J.l 1) ++ [(nI (J.l 0).length)])).mv 2 a4 n4).row 2 ((((J.mv 1 a2 n2).row 1 ((J.l 1) ++ [(nI (J.l 0).length)])).l 2) ++ [0])).l 4) w)])).l 4) w (nI (J.l 1).length))) := AD6
  have bl7 := gBud.lim B7 HL7.2.2 hc hs
  have HB7 := gFG.row FG7 HJ.2.2 HB (by decide) (by decide)
  refine g_aload_n (q := 83) C dX1_addUnlike_82 rfl rfl ?_
  refine g_getfield (v := .ref 4) (q := 86) C fX1_17 dX1_addUnlike_83 rfl HL7.1 rfl ?_
  refine g_iload_n (q := 87) C dX1_addUnlike_86 rfl rfl ?_
  refine g_tight h0 B0.1 B7.1 (fun t8a t8b => ?_)
  refine g_callVvp (q := 90) (As := [.int y]) C gyX4_add gvX4_add t_779 (c_X4_add_g (mc := 300000 - h7.length) (ms := 7000000 - gsz h7) HL7.r0 (show ((((((((J.mv 1 a2 n2).row 1 ((J.l 1) ++ [(nI (J.l 0).length)])).mv 2 a4 n4).row 2 ((((J.mv 1 a2 n2).row 1 ((J.l 1) ++ [(nI (J.l 0).length)])).l 2) ++ [0])).mv 3 a6 n6).row 3 ((((((J.mv 1 a2 n2).row 1 ((J.l 1) ++ [(nI (J.l 0).length)])).mv 2 a4 n4).row 2 ((((J.mv 1 a2 n2).row 1 ((J.l 1) ++ [(nI (J.l 0).length)])).l 2) ++ [0])).l 3) ++ [(gat (((((J.mv 1 a2 n2).row 1 ((J.l 1) ++ [(nI (J.l 0).length)])).mv 2 a4 n4).row 2 ((((J.mv 1 a2 n2).row 1 ((J.l 1) ++ [(nI (J.l 0).length)])).l 2) ++ [0])).l 4) w)])).row 4 (gput (((((((J.mv 1 a2 n2).row 1 ((J.l 1) ++ [(nI (J.l 0).length)])).mv 2 a4 n4).row 2 ((((J.mv 1 a2 n2).row 1 ((J.l 1) ++ [(nI (J.l 0).length)])).l 2) ++ [0])).mv 3 a6 n6).row 3 ((((((J.mv 1 a2 n2).row 1 ((J.l 1) ++ [(nI (J.l 0).length)])).mv 2 a4 n4).row 2 ((((J.mv 1 a2 n2).row 1 ((J.l 1) ++ [(nI (J.l 0).length)])).l 2) ++ [0])).l 3) ++ [(gat (((((J.mv 1 a2 n2).row 1 ((J.l 1) ++ [(nI (J.l 0).length)])).mv 2 a4 n4).row 2 ((((J.mv 1 a2 n2).row 1 ((J.l 1) ++ [(nI (J.l 0).length)])).l 2) ++ [0])).l 4) w)])).l 4) w (nI (J.l 1).length))).l 0).length < gmo 0 from by rw [gmo0]; exact hl0) gmo_le (by have := (HL7.2.2.1 0 (by decide)).2.2.1; omega) (fun _ => by omega) (fun _ => by have := gmo_le (k := 0); omega)) dX1_addUnlike_87 rfl (gRg.obj HL7.r0) rfl rfl rfl (Nat.le_of_ble_eq_true rfl) (Nat.le_of_ble_eq_true rfl) (Nat.le_of_ble_eq_true rfl) (by show _ + _ ≤ 300000 - List.length hp; omega) (by show _ + _ ≤ 7000000 - gsz hp; omega) rfl (fun h9 z9 => ?_)
  obtain ⟨a9, n9, HL9, B9, fg9, ad9⟩ := gJgrow (k := 0) HL7 B7 (by decide) rfl (show ((((((((J.mv 1 a2 n2).row 1 ((J.l 1) ++ [(nI (J.l 0).length)])).mv 2 a4 n4).row 2 ((((J.mv 1 a2 n2).row 1 ((J.l 1) ++ [(nI (J.l 0).length)])).l 2) ++ [0])).mv 3 a6 n6).row 3 ((((((J.mv 1 a2 n2).row 1 ((J.l 1) ++ [(nI (J.l 0).length)])).mv 2 a4 n4).row 2 ((((J.mv 1 a2 n2).row 1 ((J.l 1) ++ [(nI (J.l 0).length)])).l 2) ++ [0])).l 3) ++ [(gat (((((J.mv 1 a2 n2).row 1 ((J.l 1) ++ [(nI (J.l 0).length)])).mv 2 a4 n4).row 2 ((((J.mv 1 a2 n2).row 1 ((J.l 1) ++ [(nI (J.l 0).length)])).l 2) ++ [0])).l 4) w)])).row 4 (gput (((((((J.mv 1 a2 n2).row 1 ((J.l 1) ++ [(nI (J.l 0).length)])).mv 2 a4 n4).row 2 ((((J.mv 1 a2 n2).row 1 ((J.l 1) ++ [(nI (J.l 0).length)])).l 2) ++ [0])).mv 3 a6 n6).row 3 ((((((J.mv 1 a2 n2).row 1 ((J.l 1) ++ [(nI (J.l 0).length)])).mv 2 a4 n4).row 2 ((((J.mv 1 a2 n2).row 1 ((J.l 1) ++ [(nI (J.l 0).length)])).l 2) ++ [0])).l 3) ++ [(gat (((((J.mv 1 a2 n2).row 1 ((J.l 1) ++ [(nI (J.l 0).length)])).mv 2 a4 n4).row 2 ((((J.mv 1 a2 n2).row 1 ((J.l 1) ++ [(nI (J.l 0).length)])).l 2) ++ [0])).l 4) w)])).l 4) w (nI (J.l 1).length))).l 0).length < gmo 0 from by rw [gmo0]; exact hl0) z9
  have FG9 := gFG.trans FG7 AD7 fg9
  have AD9 := gAd.trans AD7 ad9 FG7.1
  have bl9 := gBud.lim B9 HL9.2.2 hc hs
  have HB9 := gFG.row FG9 HJ.2.2 HB (by decide) (by decide)
  refine g_iconst (v := 0) (q := 91) C dX1_addUnlike_90 (by decide) rfl ?_
  refine g_istore (q := 93) C dX1_addUnlike_91 (Nat.le_of_ble_eq_true rfl) (by simp only [gset]; rfl) rfl ?_
  have LL : ∀ d j : Nat, j + d = b.length → ∀ (hq : List gA) (J1 : gJr) (cq sq : Nat), gJn hq J1 → gBud hq J1 Bc Bs → gFG hp hq J → gAd hp J J1 → J1.l 0 = J.l 0 ++ y :: b.take j → (∀ i, i ≠ 0 → J1.l i = (((((((((J.mv 1 a2 n2).row 1 ((J.l 1) ++ [(nI (J.l 0).length)])).mv 2 a4 n4).row 2 ((((J.mv 1 a2 n2).row 1 ((J.l 1) ++ [(nI (J.l 0).length)])).l 2) ++ [0])).mv 3 a6 n6).row 3 ((((((J.mv 1 a2 n2).row 1 ((J.l 1) ++ [(nI (J.l 0).length)])).mv 2 a4 n4).row 2 ((((J.mv 1 a2 n2).row 1 ((J.l 1) ++ [(nI (J.l 0).length)])).l 2) ++ [0])).l 3) ++ [(gat (((((J.mv 1 a2 n2).row 1 ((J.l 1) ++ [(nI (J.l 0).length)])).mv 2 a4 n4).row 2 ((((J.mv 1 a2 n2).row 1 ((J.l 1) ++ [(nI (J.l 0).length)])).l 2) ++ [0])).l 4) w)])).row 4 (gput (((((((J.mv 1 a2 n2).row 1 ((J.l 1) ++ [(nI (J.l 0).length)])).mv 2 a4 n4).row 2 ((((J.mv 1 a2 n2).row 1 ((J.l 1) ++ [(nI (J.l 0).length)])).l 2) ++ [0])).mv 3 a6 n6).row 3 ((((((J.mv 1 a2 n2).row 1 ((J.l 1) ++ [(nI (J.l 0).length)])).mv 2 a4 n4).row 2 ((((J.mv 1 a2 n2).row 1 ((J.l 1) ++ [(nI (J.l 0).length)])).l 2) ++ [0])).l 3) ++ [(gat (((((J.mv 1 a2 n2).row 1 ((J.l 1) ++ [(nI (J.l 0).length)])).mv 2 a4 n4).row 2 ((((J.mv 1 a2 n2).row 1 ((J.l 1) ++ [(nI (J.l 0).length)])).l 2) ++ [0])).l 4) w)])).l 4) w (nI (J.l 1).length))).mv 0 a9 n9).row 0 (((((((((J.mv 1 a2 n2).row 1 ((J.l 1) ++ [(nI (J.l 0).length)])).mv 2 a4 n4).row 2 ((((J.mv 1 a2 n2).row 1 ((J.l 1) ++ [(nI (J.l 0).length)])).l 2) ++ [0])).mv 3 a6 n6).row 3 ((((((J.mv 1 a2 n2).row 1 ((J.l 1) ++ [(nI (J.l 0).length)])).mv 2 a4 n4).row 2 ((((J.mv 1 a2 n2).row 1 ((J.l 1) ++ [(nI (J.l 0).length)])).l 2) ++ [0])).l 3) ++ [(gat (((((J.mv 1 a2 n2).row 1 ((J.l 1) ++ [(nI (J.l 0).length)])).mv 2 a4 n4).row 2 ((((J.mv 1 a2 n2).row 1 ((J.l 1) ++ [(nI (J.l 0).length)])).l 2) ++ [0])).l 4) w)])).row 4 (gput (((((((J.mv 1 a2 n2).row 1 ((J.l 1) ++ [(nI (J.l 0).length)])).mv 2 a4 n4).row 2 ((((J.mv 1 a2 n2).row 1 ((J.l 1) ++ [(nI (J.l 0).length)])).l 2) ++ [0])).mv 3 a6 n6).row 3 ((((((J.mv 1 a2 n2).row 1 ((J.l 1) ++ [(nI (J.l 0).length)])).mv 2 a4 n4).row 2 ((((J.mv 1 a2 n2).row 1 ((J.l 1) ++ [(nI (J.l 0).length)])).l 2) ++ [0])).l 3) ++ [(gat (((((J.mv 1 a2 n2).row 1 ((J.l 1) ++ [(nI (J.l 0).length)])).mv 2 a4 n4).row 2 ((((J.mv 1 a2 n2).row 1 ((J.l 1) ++ [(nI (J.l 0).length)])).l 2) ++ [0])).l 4) w)])).l 4) w (nI (J.l 1).length))).l 0) ++ [y])).l i) → J1.ne = J.ne → gG X 93 [some (.ref 3), some (.int y), some (.ref 39), some (.int w), some (.int (nI (J.l 1).length)), some (.int (nI j))] [] hq cq sq := by
    intro d
    induction d with
    | zero =>
      intro j hj hq J1 cq sq HJ1 B1 F1 A1 e0 er en
      obtain rfl : j = b.length := by omega
      have HB1 := gFG.row F1 HJ.2.2 HB (by decide) (by decide)
      have blq := gBud.lim B1 HJ1.2.2 hc hs
      rw [List.take_length] at e0
      refine g_tight h0 B0.1 B1.1 (fun ta tb => ?_)
      refine g_iload (q := 95) C dX1_addUnlike_93 rfl rfl ?_
      refine g_aload_n (q := 96) C dX1_addUnlike_95 rfl rfl ?_
      refine g_callVi (x := (nI b.length)) (q := 99) (As := []) C gyX4_size gvX4_size t_778 (c_X4_size (gRw.obj HB1)) dX1_addUnlike_96 rfl (gRw.obj HB1) rfl rfl rfl (Nat.le_of_ble_eq_true rfl) (Nat.le_of_ble_eq_true rfl) (Nat.le_of_ble_eq_true rfl) (by show _ + _ ≤ 300000 - List.length hp; omega) (by show _ + _ ≤ 7000000 - gsz hp; omega) rfl ?_
      refine g_icmp_ge_t (t := 121) C dX1_addUnlike_99 (by decide) (nI_le (Nat.le_refl _) hblt) ?_
      refine g_iload (q := 123) C dX1_addUnlike_121 rfl rfl ?_
      exact E.1 _ _ _ _ _ _ _ dX1_addUnlike_123 rfl rfl (by omega) (by omega) ⟨_, rfl, rfl, J1, HJ1, B1, F1, A1, en, e0, (er 1 (by decide)).trans rfl, (er 2 (by decide)).trans rfl, (er 3 (by decide)).trans rfl, (er 4 (by decide)).trans rfl, fun i hi => (er i (by omega)).trans (gjrest hi)⟩
    | succ d ih =>
      intro j hj hq J1 cq sq HJ1 B1 F1 A1 e0 er en
      have HB1 := gFG.row F1 HJ.2.2 HB (by decide) (by decide)
      have blq := gBud.lim B1 HJ1.2.2 hc hs
      have hx0 : (J1.l 0).length < 1048576 := by rw [e0, List.length_append, List.length_cons, List.length_take]; omega
      refine g_tight h0 B0.1 B1.1 (fun ta tb => ?_)
      refine g_iload (q := 95) C dX1_addUnlike_93 rfl rfl ?_
      refine g_aload_n (q := 96) C dX1_addUnlike_95 rfl rfl ?_
      refine g_callVi (x := (nI b.length)) (q := 99) (As := []) C gyX4_size gvX4_size t_778 (c_X4_size (gRw.obj HB1)) dX1_addUnlike_96 rfl (gRw.obj HB1) rfl rfl rfl (Nat.le_of_ble_eq_true rfl) (Nat.le_of_ble_eq_true rfl) (Nat.le_of_ble_eq_true rfl) (by show _ + _ ≤ 300000 - List.length hp; omega) (by show _ + _ ≤ 7000000 - gsz hp; omega) rfl ?_
      refine g_icmp_ge_f (t := 121) (q := 102) C dX1_addUnlike_99 (by decide) rfl (fun h => nI_ge (show j < b.length by omega) hblt h) ?_
      refine g_aload_n (q := 103) C dX1_addUnlike_102 rfl rfl ?_
      refine g_getfield (v := .ref 4) (q := 106) C fX1_17 dX1_addUnlike_103 rfl HJ1.1 rfl ?_
      refine g_aload_n (q := 107) C dX1_addUnlike_106 rfl rfl ?_
      refine g_iload (q := 109) C dX1_addUnlike_107 rfl rfl ?_
      refine g_callVi (x := (gat b (nI j))) (q := 112) (As := [.int ((nI j))]) C gyX4_at gvX4_at t_783 (c_X4_at_w HB1) dX1_addUnlike_109 rfl (gRw.obj HB1) rfl rfl rfl (Nat.le_of_ble_eq_true rfl) (Nat.le_of_ble_eq_true rfl) (Nat.le_of_ble_eq_true rfl) (by show _ + _ ≤ 300000 - List.length hp; omega) (by show _ + _ ≤ 7000000 - gsz hp; omega) rfl ?_
      refine g_tight h0 B0.1 B1.1 (fun t10a t10b => ?_)
      refine g_callVvp (q := 115) (As := [.int ((gat b (nI j)))]) C gyX4_add gvX4_add t_779 (c_X4_add_g (mc := 300000 - hq.length) (ms := 7000000 - gsz hq) HJ1.r0 (show (J1.l 0).length < gmo 0 from by rw [gmo0]; exact hx0) gmo_le (by have := (HJ1.2.2.1 0 (by decide)).2.2.1; omega) (fun _ => by omega) (fun _ => by have := gmo_le (k := 0); omega)) dX1_addUnlike_112 rfl (gRg.obj HJ1.r0) rfl rfl rfl (Nat.le_of_ble_eq_true rfl) (Nat.le_of_ble_eq_true rfl) (Nat.le_of_ble_eq_true rfl) (by show _ + _ ≤ 300000 - List.length hp; omega) (by show _ + _ ≤ 7000000 - gsz hp; omega) rfl (fun h11 z11 => ?_)
      obtain ⟨a11, n11, HL11, B11, fg11, ad11⟩ := gJgrow (k := 0) HJ1 B1 (by decide) rfl (show (J1.l 0).length < gmo 0 from by rw [gmo0]; exact hx0) z11
      have FG11 := gFG.trans F1 A1 fg11
      have AD11 := gAd.trans A1 ad11 F1.1
      have bl11 := gBud.lim B11 HL11.2.2 hc hs
      have HB11 := gFG.row FG11 HJ.2.2 HB (by decide) (by decide)
      refine g_iinc (v := (nI (j + 1))) (q := 118) C dX1_addUnlike_115 rfl (nI_1 j) (by simp only [gset]; rfl) rfl ?_
      refine g_goto (q := 93) C dX1_addUnlike_118 (by decide) ?_
      exact ih (j + 1) (by omega) _ _ _ _ HL11 B11 FG11 AD11 (by show J1.l 0 ++ [gat b (nI j)] = _; rw [e0, List.append_assoc, List.cons_append, gtake1 (by omega) hblt]) (fun i hi => (if_neg hi).trans (er i hi)) en
  exact LL b.length 0 (by omega) _ _ _ _ HL9 B9 FG9 AD9 rfl (fun i hi => rfl) rfl
