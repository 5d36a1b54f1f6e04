/-! the reference: a turn under the invariant: a send (by program: wip/p2/m_pl.py) -/
def kQe (M : gMd) (E : List (Int32 × List Int32)) : Int32 × List Int32 → Prop := fun e => ¬ M.f 19 = 0 ∨ e ∈ E
theorem gEn_mem {E : List (Int32 × List Int32)} {i : Nat} (h : i < E.length) : gEn E i ∈ E := by
  have hg : gEn E i = E[i]'h := by
    unfold gEn
    rw [List.getD_eq_getElem?_getD, List.getElem?_eq_getElem h]; rfl
  rw [hg]; exact List.getElem_mem _
theorem gEn_not {E : List (Int32 × List Int32)} {e : Int32 × List Int32} (h : ∀ k, k < E.length → ¬ gEn E k = e) : ¬ e ∈ E := fun m => by
  obtain ⟨i, hi, ei⟩ := List.getElem_of_mem m
  refine h i hi ?_
  unfold gEn
  rw [List.getD_eq_getElem?_getD, List.getElem?_eq_getElem hi]; exact ei
theorem kSent {P1 M' : gMd} {sd k N l : Nat} {E E' : List (Int32 × List Int32)} {c sp : Int} {sh : Int32} (S : gSn P1 sd (nI k) N l E M' E' sh) (hsd : sd < 2) (hK : kKk k N) (hN : N ≤ 60) (hf : ∀ q, q < N → gIr (P1.a 14 q) 255) (hc0 : 0 ≤ c)
    (hq : kQe P1 E (kB sd (nI k) N (P1.a 14)) ∨ (kSp k N (P1.a 14 0).toInt : Int) ≤ c) (hU : gUn P1 E ∧ gLg P1) (hE : E.Nodup ∧ ∀ e, e ∈ E → kCn e) (hsp : (P1.f 19 = 0 ∧ sp = kSt E) ∨ (¬ P1.f 19 = 0 ∧ sp = 0)) :
    M'.f 19 = P1.f 19 ∧ (gUn M' E' ∧ gLg M') ∧ (E'.Nodup ∧ ∀ e, e ∈ E' → kCn e) ∧ (¬ P1.f 19 = 0 → E' = E) ∧ (∃ sp' : Int, ((M'.f 19 = 0 ∧ sp' = kSt E') ∨ (¬ M'.f 19 = 0 ∧ sp' = 0)) ∧ sp' ≤ sp + c) ∧ (∀ e, kQe P1 E e → kQe M' E' e) ∧ kQe M' E' (kB sd (nI k) N (P1.a 14)) := by
  obtain ⟨s1, s2, s3, s4, s5, s6, s7, s8, s9⟩ := S
  have e19 : M'.f 19 = P1.f 19 := s1 19 (by decide) (by decide) (by decide) (by decide) (by decide) (by decide) (by decide) (by decide) (by decide)
  rcases s9 with ⟨q1, q2, q3, q4, q5, q6⟩ | ⟨q1, u1, u2, ⟨id, hid, eid⟩, u4⟩
  · have n' : ¬ M'.f 19 = 0 := by rw [e19]; exact q1
    subst q2
    obtain ⟨⟨v1, v2, v3, v4, v5, v6⟩, lg⟩ := hU
    refine ⟨e19, ⟨⟨by rw [q5]; exact v1, fun i hi => by rw [q6 8 i (by decide) (by decide) (by decide)]; exact v2 i hi, fun i hi => by rw [q6 9 i (by decide) (by decide) (by decide)]; exact v3 i hi, fun i k hi hk => by rw [q6 11 _ (by decide) (by decide) (by decide)]; exact v4 i k hi hk, v5, v6⟩, lg.kept q3 q4 fun q => q6 6 q (by decide) (by decide) (by decide)⟩, hE, fun _ => rfl, ⟨0, Or.inr ⟨n', rfl⟩, ?_⟩, fun e _ => Or.inl n', Or.inl n'⟩
    rcases hsp with ⟨a, -⟩ | ⟨-, a⟩
    · exact absurd a q1
    · omega
  · have n' : M'.f 19 = 0 := by rw [e19]; exact q1
    have eb : (nI sd, (List.range (N + 4)).map (gBv (nI k) N (P1.a 14))) = kB sd (nI k) N (P1.a 14) := rfl
    rw [eb] at eid u4
    have mem : kB sd (nI k) N (P1.a 14) ∈ E' := by rw [← eid]; exact gEn_mem hid
    have hsp' : sp = kSt E := by
      rcases hsp with ⟨-, a⟩ | ⟨a, -⟩
      · exact a
      · exact absurd q1 a
    rcases u4 with rfl | ⟨hn, rfl⟩
    · exact ⟨e19, ⟨u1, u2⟩, hE, fun h => absurd q1 h, ⟨kSt E', Or.inl ⟨n', rfl⟩, by omega⟩, fun e he => Or.inr (he.resolve_left fun h => h q1), Or.inr mem⟩
    · have nm := gEn_not hn
      refine ⟨e19, ⟨u1, u2⟩, ⟨List.nodup_append.mpr ⟨hE.1, List.nodup_cons.mpr ⟨List.not_mem_nil, List.nodup_nil⟩, fun x hx y hy => ?_⟩, fun e he => ?_⟩, fun h => absurd q1 h, ⟨kSt (E ++ [kB sd (nI k) N (P1.a 14)]), Or.inl ⟨n', rfl⟩, ?_⟩, fun e he => Or.inr (List.mem_append_left _ (he.resolve_left fun h => h q1)), Or.inr mem⟩
      · intro exy
        rw [List.mem_singleton] at hy
        exact nm (by rw [← hy, ← exy]; exact hx)
      · rcases List.mem_append.mp he with h | h
        · exact hE.2 e h
        · rw [List.mem_singleton] at h
          exact ⟨sd, k, N, P1.a 14, hsd, hN, hK, fun h1 => hf 0 (by omega), h⟩
      · have kt : (nI k).toInt = (k : Int) := by
          refine nI_toInt ?_
          rcases hK with ⟨-, hk⟩ | ⟨-, hk⟩ | ⟨-, hk⟩ <;> simp at hk <;> omega
        rw [kSt_app, kSe_B, kt, hsp']
        rcases hq with h | h
        · exact absurd (h.resolve_left fun h => h q1) nm
        · omega
theorem gTk_cg {s s' : Nat → Int32} (h423 : s' 423 = s 423) (h430 : s' 430 = s 430) (hn : (s 430).toNatClampNeg ≤ 25) (h : ∀ q, 431 ≤ q → q < 512 → s' q = s q) : gTk s' = gTk s := by
  unfold gTk
  rw [h423, h430]
  exact gcn_congr fun k hk => h _ (by omega) (by omega)
/-- what lies between two turns -/
def kBd (M : gMd) (tc : Int) : Prop := 0 ≤ tc ∧ gIr (M.a 4 428) 3 ∧ gIr (M.a 4 429) 64 ∧ (M.a 4 419 = 1 → M.a 4 420 = 0 → M.a 4 428 = 0 → ∃ g N : Nat, M.a 4 513 = nI g ∧ g < 256 ∧ M.a 4 514 = nI N ∧ N ≤ 60 ∧ M.a 4 429 = nI (N + 4) ∧ (∀ q, q < N + 4 → gIr (M.a 4 (512 + q)) 255) ∧ kShx (M.a 4 515) g N ∧ (kGd M g (fun _ => M.a 4 515) ∨ 10718 ≤ tc))
theorem kI.p420 {M : gMd} {Q : Int32 × List Int32 → Prop} {kr kc cr rr rc wc : Int} (H : kI M Q kr kc cr rr rc wc) : kI (M.put 4 420 0) Q kr kc cr rr rc wc := by
  have A : ∀ q, ¬ q = 420 → (M.put 4 420 0).a 4 q = M.a 4 q := fun q h => gput_n h
  have z : (M.put 4 420 0).z 420 = 0 := gz_s
  obtain ⟨x1, x2, x3, x4, x5, x6, x7, x8⟩ := H.2.2.2.1
  obtain ⟨y1, y2, y3⟩ := H.2.2.2.2.1
  obtain ⟨v1, v2, v3⟩ := H.2.2.2.2.2.1
  generalize M.put 4 420 0 = M' at A z ⊢
  have Z : ∀ q, ¬ q = 420 → M'.z q = M.z q := fun q h => congrArg Int32.toInt (A q h)
  have X : kX M' := by
    unfold kX
    rw [z, Z 5 (by decide), Z 9 (by decide), Z 25 (by decide), Z 416 (by decide), Z 417 (by decide), Z 418 (by decide), Z 419 (by decide), A 417 (by decide), A 26 (by decide)]
    exact ⟨x1, x2, x3, x4, by omega, ⟨fun p => absurd rfl p, x6.2⟩, fun p => ⟨rfl, (x7 p).2⟩, x8⟩
  have C : kCr M' cr := by
    unfold kCr
    rw [z, Z 0 (by decide), Z 3 (by decide), Z 5 (by decide), Z 6 (by decide), Z 9 (by decide), Z 17 (by decide), Z 24 (by decide)]
    exact ⟨y1, y2, fun p => y3 (Or.inr (p.resolve_left (by decide)))⟩
  have W : kRr M' Q rr := by
    unfold kRr
    rw [z, Z 9 (by decide), A 10 (by decide)]
    exact ⟨v1, ⟨fun p => absurd p (by decide), fun p => absurd p (by decide)⟩, v3⟩
  exact ⟨H.1.cg fun q hq => A q (by omega), H.2.1.cg fun q hq => A q (by omega), H.2.2.1.cg fun q h1 h2 => A q (by omega), X, C, W, H.2.2.2.2.2.2.1.cg fun q hq => A q (by omega), H.2.2.2.2.2.2.2.cg fun q hq => A q (by omega)⟩
theorem kBr29 {X : gMd} : (rX8_bringsCame X).f 29 = X.a 4 428 := by
  show ((X.set 29 (X.a 4 428)).set 28 (X.a 4 429)).f 29 = _
  rw [gset_n (show ¬ (29 : Nat) = 28 by decide), gset_s]
theorem kBrf {X : gMd} {k : Nat} (h1 : ¬ k = 28) (h2 : ¬ k = 29) : (rX8_bringsCame X).f k = X.f k := by
  show ((X.set 29 (X.a 4 428)).set 28 (X.a 4 429)).f k = _
  rw [gset_n h1, gset_n h2]
theorem kSt33 {X : gMd} : ((X.set 33 0).put 4 420 0).f 33 = 0 := by
  show (X.set 33 0).f 33 = 0
  rw [gset_s]
/-- what the reader's plan leaves -/
def kFd (M M1 : gMd) : Prop := (∀ k, ¬ k = 28 → ¬ k = 29 → ¬ k = 33 → ¬ k = 34 → ¬ k = 35 → M1.f k = M.f k) ∧ M1.f 33 = 0 ∧ (∀ i q, ¬ i = 4 → ¬ i = 13 → ¬ i = 14 → M1.a i q = M.a i q) ∧ (∀ q, q = 17 ∨ q = 25 ∨ q = 26 ∨ q = 423 ∨ q = 424 ∨ 428 ≤ q → M1.a 4 q = M.a 4 q) ∧ M1.a 4 420 = 0
theorem kI.kH {M : gMd} {Q : Int32 × List Int32 → Prop} {kr kc cr rr rc wc : Int} (H : kI M Q kr kc cr rr rc wc) : kH M := by
  obtain ⟨a1, a2, a3, a4, a5, a6, a7, a8, a9, a10, a11, a12, a13⟩ := H.1
  obtain ⟨b1, b2, b3, b4, b5, b6, b7, b8, b9, b10, b11, b12, b13⟩ := H.2.1
  exact ⟨a7, b7, b10.2⟩
theorem kRd {M : gMd} {Q : Int32 × List Int32 → Prop} {kr kc cr rr rc wc tc b : Int} (H : kI M Q kr kc cr rr rc wc) (hB : kBd M tc) (h419 : M.z 419 = 1) (hb : kr + kc + cr + rr + rc + wc + tc + 52 ≤ b) : kP0 Q b (pX8_rd M) ∧ (∀ l E, kK M l E → oX8_rd M l E) ∧ kFd M (pX8_rd M).1 := by
  obtain ⟨t0, hB1, hB2, hB3⟩ := hB
  have I : kI ((M.set 33 0).put 4 420 0) Q kr kc cr rr rc wc := (H.cg (M' := M.set 33 0) fun q _ _ _ _ _ _ _ => rfl).p420
  have K : ∀ l E, kK M l E → kK ((M.set 33 0).put 4 420 0) l E := fun l E K => (K.set (by decide)).put (by decide) (by decide)
  have F : ∀ P : gMd, kF0 ((M.set 33 0).put 4 420 0) P → kFd M P := fun P f =>
    ⟨fun k _ _ h3 h4 h5 => (f.1 k h4 h5).trans (gset_n h3), (f.1 33 (by decide) (by decide)).trans kSt33, fun i q h1 _ h3 => (f.2.1 i q h1 h3).trans (gput_o h1), fun q h => (f.2.2 q (by omega)).trans (gput_n (by omega)), (f.2.2 420 (by decide)).trans gput_s⟩
  have y419 : ((M.set 33 0).put 4 420 0).z 419 = 1 := (gz_n (by decide)).trans h419
  have y420 : ((M.set 33 0).put 4 420 0).z 420 = 0 := gz_s
  obtain ⟨x1, x2, x3, x4, x5, x6, x7, x8⟩ := H.2.2.2.1
  obtain ⟨y1, y2, y3⟩ := H.2.2.2.2.1
  obtain ⟨v1, v2, v3⟩ := H.2.2.2.2.2.1
  have d9 := H.1.2.2.2.2.2.2.2.2.1
  have KB : ∀ l E, kK M l E → kK (rX8_bringsCame ((M.set 33 0).put 4 420 0)) l E := fun l E k => (((K l E k).set (by decide)).set (by decide)).arro (by decide)
  have eB : rX8_bringsCame ((M.set 33 0).put 4 420 0) = ((((M.set 33 0).put 4 420 0).set 29 (((M.set 33 0).put 4 420 0).a 4 428)).set 28 (((M.set 33 0).put 4 420 0).a 4 429)).arr 13 (gCpy (((M.set 33 0).put 4 420 0).a 13) 0 (((M.set 33 0).put 4 420 0).a 4) 512 ((((M.set 33 0).put 4 420 0).a 4 429).toNatClampNeg)) := rfl
  have e428 : ((M.set 33 0).put 4 420 0).a 4 428 = M.a 4 428 := gput_n (by decide)
  have e429 : ((M.set 33 0).put 4 420 0).a 4 429 = M.a 4 429 := gput_n (by decide)
  have eA : ∀ q, ¬ q = 420 → ((M.set 33 0).put 4 420 0).a 4 q = M.a 4 q := fun q h => gput_n h
  unfold pX8_rd oX8_rd
  by_cases c1 : M.a 4 420 = 1
  · rw [if_pos c1]
    have c1' : M.z 420 = 1 := by show (M.a 4 420).toInt = 1; rw [c1]; decide
    have p := x6.1 (by omega)
    have e3 : ((M.set 33 0).put 4 420 0).z 3 = M.z 3 := gz_n (by decide)
    have e4 : ((M.set 33 0).put 4 420 0).z 4 = M.z 4 := gz_n (by decide)
    have e9 : ((M.set 33 0).put 4 420 0).z 9 = M.z 9 := gz_n (by decide)
    have d4 := H.1.2.2.2.1
    have rr1 := v2.2 c1'
    have I2 : kI ((M.set 33 0).put 4 420 0) Q (kr + 174 * (M.z 3 - M.z 4)) kc cr (rr - 174 * (M.z 3 - M.z 4)) rc wc := ⟨I.1.up (by omega), I.2.1, I.2.2.1, I.2.2.2.1, I.2.2.2.2.1, ⟨by omega, ⟨fun q => by omega, fun q => by omega⟩, fun q => by
      rw [e9] at q
      omega⟩, I.2.2.2.2.2.2.1, I.2.2.2.2.2.2.2⟩
    have kr0 := H.1.2.2.2.2.2.2.2.2.2.2.2.2.1
    have P := kP0.out (b := b) I2 ((gz_n (by decide)).trans p.1) (by rw [e3, e4]; omega) ((gz_n (by decide)).trans p.2) y420 (by rw [e3]; exact y3 (Or.inl c1')) (by omega)
    exact ⟨P.1, fun l E k => by rw [if_pos c1]; exact P.2 l E (K l E k), F _ (fOut0 kF0.rf)⟩
  · rw [if_neg c1]
    by_cases c2 : M.a 4 420 = 2
    · rw [if_pos c2]
      have c2' : M.z 420 = 2 := by show (M.a 4 420).toInt = 2; rw [c2]; decide
      have p := x6.1 (by omega)
      have := v2.1 c2'
      have P := kP0.asks (b := b) (v := 1) (c := 400) (rr' := 400) (y := 1) (w := M.a 4 10) I rfl (by decide) d9 y420 y419 (fun _ => (gz_n (by decide)).trans p.1) (by decide) (by decide) (fun _ => Int.ofNat_le.mpr (kSp_S (by decide))) (fun _ => by decide) (by omega)
      exact ⟨P.1, fun l E k => by rw [if_neg c1, if_pos c2]; exact P.2 l E (K l E k), F _ (fAsks0 kF0.rf)⟩
    · rw [if_neg c2]
      have IB : kI (rX8_bringsCame ((M.set 33 0).put 4 420 0)) Q kr kc cr rr rc wc := I.cg fun q _ _ _ _ _ _ _ => rfl
      have f29 : (rX8_bringsCame ((M.set 33 0).put 4 420 0)).f 29 = M.a 4 428 := by
        rw [kBr29, e428]
      have key := kRead (b := b) (tc := tc) IB y420 y419 (by rw [f29]; exact hB1) t0 (fun h0 => by
        rw [f29] at h0
        obtain ⟨g, N, g1, g2, g3, g4, g5, g6, g7, g8⟩ := hB3 (gt_eq (k := 1) h419) (gt_eq (k := 0) (show M.z 420 = 0 by
          have n1 : ¬ M.z 420 = 1 := fun h => c1 (gt_eq (k := 1) h)
          have n2 : ¬ M.z 420 = 2 := fun h => c2 (gt_eq (k := 2) h)
          omega)) h0
        have cl : (((M.set 33 0).put 4 420 0).a 4 429).toNatClampNeg = N + 4 := by rw [e429, g5, nI_clamp (by omega)]
        have a13 : ∀ q, q < N + 4 → (rX8_bringsCame ((M.set 33 0).put 4 420 0)).a 13 q = M.a 4 (512 + q) := fun q hq => by
          rw [eB, garr_s, cl]
          have := gCpy_in (f := ((M.set 33 0).put 4 420 0).a 13) (i := 0) (g := ((M.set 33 0).put 4 420 0).a 4) (j := 512) (n := N + 4) (k := q) hq
          rw [Nat.zero_add] at this
          exact this.trans (eA _ (by omega))
        refine ⟨g, N, (a13 1 (by omega)).trans g1, g2, (a13 2 (by omega)).trans g3, g4, fun q hq => by rw [a13 q hq]; exact g6 q hq, ?_, ?_⟩
        · unfold kSh
          rw [a13 3 (by omega)]; exact g7
        · rw [a13 3 (by omega)]; exact g8) hb
      refine ⟨key.1, fun l E k => by rw [if_neg c1, if_neg c2]; exact ⟨hB2, key.2 l E (KB l E k)⟩, ?_⟩
      have fr := fRead IB.kH (kF0.rf (M := rX8_bringsCame ((M.set 33 0).put 4 420 0)))
      refine ⟨fun k h1 h2 h3 h4 h5 => (fr.1 k h4 h5).trans ?_, (fr.1 33 (by decide) (by decide)).trans ?_, fun i q h1 h2 h3 => (fr.2.1 i q h1 h3).trans ?_, fun q h => (fr.2.2 q (by omega)).trans ?_, (fr.2.2 420 (by decide)).trans ?_⟩
      · exact (kBrf h1 h2).trans (gset_n h3)
      · exact (kBrf (by decide) (by decide)).trans kSt33
      · exact (garr_o h2).trans (gput_o h1)
      · exact eA q (by omega)
      · show ((M.set 33 0).put 4 420 0).a 4 420 = 0
        exact gput_s
