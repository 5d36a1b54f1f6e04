/-! the blocks that are sent, what comes of them (wip/p1/m_blocks.py) -/
def gMb0 (k : Int32) (inf : List Int32) : List Int32 := [0, k, nI inf.length] ++ inf
def gMb (k : Int32) (inf : List Int32) : List Int32 := gMb0 k inf ++ [(gMb0 k inf).foldl (· ^^^ ·) 0]
theorem gMb_len (k : Int32) (inf : List Int32) : (gMb k inf).length = inf.length + 4 := by unfold gMb gMb0; simp
theorem gMb_k (k : Int32) (inf : List Int32) : (gMb k inf).getD 1 0 = k := rfl
theorem gMb_l (k : Int32) (inf : List Int32) : (gMb k inf).getD 2 0 = nI inf.length := rfl
theorem gMb_inf (k : Int32) (inf : List Int32) : gInf (gMb k inf) ((gMb k inf).length - 1) = inf := by
  unfold gInf
  rw [gMb_len]
  show (((inf : List Int32) ++ [_])).take (inf.length + 4 - 1 - 3) = inf
  rw [show inf.length + 4 - 1 - 3 = inf.length by omega, List.take_left]
theorem gMb_3 (k b : Int32) : (gMb k [b]).getD 3 0 = b := rfl
theorem gbx {a b : Nat} (ha : a < 256) (hb : b < 256) : ∃ c, c < 256 ∧ nI a ^^^ nI b = nI c := by
  have : ∀ a, a < 256 → ∀ b, b < 256 → (nI a ^^^ nI b) = nI (a ^^^ b) := by
    intro a ha b hb
    apply Int32.toBitVec_inj.mp
    apply BitVec.eq_of_toNat_eq
    show (BitVec.ofNat 32 a ^^^ BitVec.ofNat 32 b).toNat = (BitVec.ofNat 32 (a ^^^ b)).toNat
    have hx : a ^^^ b < 2 ^ 8 := Nat.xor_lt_two_pow ha hb
    rw [BitVec.toNat_xor, BitVec.toNat_ofNat, BitVec.toNat_ofNat, BitVec.toNat_ofNat, Nat.mod_eq_of_lt (show a < 2 ^ 32 by omega), Nat.mod_eq_of_lt (show b < 2 ^ 32 by omega), Nat.mod_eq_of_lt (by omega)]
  exact ⟨a ^^^ b, Nat.xor_lt_two_pow (n := 8) ha hb, this a ha b hb⟩
theorem gfold_b : ∀ (l : List Int32) (x : Int32), gByt l → (∃ b, b < 256 ∧ x = nI b) → ∃ b, b < 256 ∧ l.foldl (· ^^^ ·) x = nI b
  | [], x, _, h => h
  | y :: l, x, hl, ⟨a, ha, ea⟩ => by
    obtain ⟨b, hb, eb⟩ := hl y List.mem_cons_self
    obtain ⟨c, hc, ec⟩ := gbx ha hb
    exact gfold_b l (x ^^^ y) (fun z hz => hl z (List.mem_cons_of_mem _ hz)) ⟨c, hc, by rw [ea, eb, ec]⟩
theorem gByt_app {a b : List Int32} (ha : gByt a) (hb : gByt b) : gByt (a ++ b) := fun x hx => (List.mem_append.mp hx).elim (ha x) (hb x)
theorem gByt_1 {b : Nat} (h : b < 256) : gByt [nI b] := fun x hx => ⟨b, h, List.mem_singleton.mp hx⟩
theorem gByt_nil : gByt [] := fun x hx => by cases hx
theorem gByt_take {l : List Int32} {n : Nat} (h : gByt l) : gByt (l.take n) := fun x hx => h x (List.mem_of_mem_take hx)
theorem gByt_drop {l : List Int32} {n : Nat} (h : gByt l) : gByt (l.drop n) := fun x hx => h x (List.mem_of_mem_drop hx)
theorem gByt_at {l : List Int32} (h : gByt l) (k : Nat) : ∃ b, b < 256 ∧ l.getD k 0 = nI b := by
  rw [List.getD_eq_getElem?_getD]
  cases e : l[k]? with
  | none => exact ⟨0, by decide, rfl⟩
  | some x => exact h x (List.mem_of_getElem? e)
theorem gMb_byt {k : Nat} {inf : List Int32} (hk : k < 256) (hi : gByt inf) (hl : inf.length ≤ 60) : gByt (gMb (nI k) inf) := by
  have h0 : gByt (gMb0 (nI k) inf) := by
    unfold gMb0
    refine gByt_app (fun x hx => ?_) hi
    simp only [List.mem_cons, List.not_mem_nil, or_false] at hx
    rcases hx with rfl | rfl | rfl
    · exact ⟨0, by decide, rfl⟩
    · exact ⟨k, hk, rfl⟩
    · exact ⟨inf.length, by omega, rfl⟩
  obtain ⟨c, hc, ec⟩ := gfold_b _ 0 h0 ⟨0, by decide, rfl⟩
  unfold gMb
  rw [ec]
  exact gByt_app h0 (gByt_1 hc)
theorem gMb_x (k : Int32) (inf : List Int32) : gxs (gMb k inf) (gMb k inf).length = 0 := by
  rw [gxs_all]
  unfold gMb
  rw [List.foldl_append]
  exact Int32.xor_self
theorem gMb_blk {k : Nat} {inf : List Int32} (hk : k < 256) (hi : gByt inf) (hl : inf.length ≤ 60) : gBlk (gMb (nI k) inf) :=
  ⟨by rw [gMb_len]; omega, by rw [gMb_len]; omega, gMb_byt hk hi hl, rfl, by rw [gMb_len, Nat.add_sub_cancel]; rfl, gMb_x _ _⟩
/-- compose: by the kind -/
theorem gcmpR_r {L : gLn} {x : Int32} (h1 : 128 ≤ x) (h3 : rX2_hasInf x = 0) : rX2_compose_r L x = L.row 0 (gMb x []) := by
  unfold rX2_compose_r
  by_cases h : x < 224
  · exact (if_pos h).trans ((if_pos h1).trans (if_pos h3))
  · exact (if_neg h).trans (if_pos h3)
theorem gcmpR_c {L : gLn} {x : Int32} (h1 : 128 ≤ x) (h3 : rX2_hasInf x = 0) : rX2_compose_c L x = L.row 0 (gMb x []) := by
  unfold rX2_compose_c
  by_cases h : x < 224
  · exact (if_pos h).trans ((if_pos h1).trans (if_pos h3))
  · exact (if_neg h).trans (if_pos h3)
theorem gcmpS_r {L : gLn} {x : Int32} (h : x < 224) (h1 : 128 ≤ x) (h3 : ¬ rX2_hasInf x = 0) : rX2_compose_r L x = L.row 0 (gMb x [L.rd.ai]) := (if_pos h).trans ((if_pos h1).trans (if_neg h3))
theorem gcmpS_c {L : gLn} {x : Int32} (h : x < 224) (h1 : 128 ≤ x) (h3 : ¬ rX2_hasInf x = 0) : rX2_compose_c L x = L.row 0 (gMb x [L.cd.ai]) := (if_pos h).trans ((if_pos h1).trans (if_neg h3))
theorem gcmpA_r {L : gLn} {x : Int32} (h : ¬ x < 224) (h3 : ¬ rX2_hasInf x = 0) : rX2_compose_r L x = L.row 0 (gMb x [gat L.ca 3]) := (if_neg h).trans (if_neg h3)
theorem gcmpA_c {L : gLn} {x : Int32} (h : ¬ x < 224) (h3 : ¬ rX2_hasInf x = 0) : rX2_compose_c L x = L.row 0 (gMb x [gat L.ca 3]) := (if_neg h).trans (if_neg h3)
theorem gCh_eq {s : gSd} {t p : Nat} (ht : s.th = nI t) (h : t + p ≤ s.out.length) (hl : s.out.length ≤ 60) : gCh s p = (s.out.drop t).take p := by
  unfold gCh
  refine List.ext_getElem? fun i => ?_
  rw [List.getElem?_map, List.getElem?_take]
  by_cases hi : i < p
  · rw [List.getElem?_range hi, if_pos hi, List.getElem?_drop, List.getElem?_eq_getElem (by omega)]
    show some (gat s.out (s.th + nI i)) = _
    rw [ht, nI_add, gat_nI (by omega), List.getD_eq_getElem?_getD, List.getElem?_eq_getElem (by omega)]; rfl
  · rw [if_neg hi, List.getElem?_eq_none (by rw [List.length_range]; omega)]; rfl
theorem gcmpI {s : gSd} {x : Int32} {t p : Nat} (ht : s.th = nI t) (hp : s.pe = nI p) (h : t + p ≤ s.out.length) (hl : s.out.length ≤ 60) : ((([0, x, gmax 0 s.pe] ++ gCh s (gmax 0 s.pe).toNatClampNeg).take 64) ++ [(gxs (([0, x, gmax 0 s.pe] ++ gCh s (gmax 0 s.pe).toNatClampNeg).take 64) (([0, x, gmax 0 s.pe] ++ gCh s (gmax 0 s.pe).toNatClampNeg).take 64).length)]).take 64 = gMb x ((s.out.drop t).take p) := by
  have il : ((s.out.drop t).take p).length = p := by rw [List.length_take, List.length_drop]; omega
  have e : [0, x, gmax 0 s.pe] ++ gCh s (gmax 0 s.pe).toNatClampNeg = gMb0 x ((s.out.drop t).take p) := by
    rw [hp, gmx (by omega), nI_clamp (by omega), gCh_eq ht h hl]
    unfold gMb0
    rw [il]
  have l0 : (gMb0 x ((s.out.drop t).take p)).length = p + 3 := by unfold gMb0; rw [List.length_append, il]; simp; omega
  rw [e, show (gMb0 x ((s.out.drop t).take p)).take 64 = gMb0 x ((s.out.drop t).take p) from List.take_of_length_le (by omega), gxs_all]
  exact List.take_of_length_le (by rw [List.length_append, l0]; show p + 3 + 1 ≤ 64; omega)
theorem gcmpI_r {L : gLn} {x : Int32} {t p : Nat} (hx : x < 128) (ht : L.rd.th = nI t) (hp : L.rd.pe = nI p) (h : t + p ≤ L.rd.out.length) (hl : L.rd.out.length ≤ 60) : rX2_compose_r L x = L.row 0 (gMb x ((L.rd.out.drop t).take p)) := by
  have h2 : x < 224 := by rw [Int32.lt_iff_toInt_lt] at hx ⊢; rw [show (128 : Int32).toInt = 128 from by decide] at hx; rw [show (224 : Int32).toInt = 224 from by decide]; omega
  have h3 : ¬ 128 ≤ x := by rw [Int32.lt_iff_toInt_lt] at hx; rw [Int32.le_iff_toInt_le]; omega
  exact (if_pos h2).trans ((if_neg h3).trans (congrArg (L.row 0) (gcmpI ht hp h hl)))
theorem gcmpI_c {L : gLn} {x : Int32} {t p : Nat} (hx : x < 128) (ht : L.cd.th = nI t) (hp : L.cd.pe = nI p) (h : t + p ≤ L.cd.out.length) (hl : L.cd.out.length ≤ 60) : rX2_compose_c L x = L.row 0 (gMb x ((L.cd.out.drop t).take p)) := by
  have h2 : x < 224 := by rw [Int32.lt_iff_toInt_lt] at hx ⊢; rw [show (128 : Int32).toInt = 128 from by decide] at hx; rw [show (224 : Int32).toInt = 224 from by decide]; omega
  have h3 : ¬ 128 ≤ x := by rw [Int32.lt_iff_toInt_lt] at hx; rw [Int32.le_iff_toInt_le]; omega
  exact (if_pos h2).trans ((if_neg h3).trans (congrArg (L.row 0) (gcmpI ht hp h hl)))
/-- a block whose shape is told -/
def gWf (k : Nat) (inf : List Int32) (r : Nat) : Prop :=
  (∃ w mo, w ≤ 1 ∧ mo ≤ 1 ∧ k = 64 * w + 32 * mo ∧ inf.length ≤ r) ∨ (∃ w s, w ≤ 1 ∧ s ≤ 2 ∧ k = 128 + 16 * w + s ∧ inf = []) ∨ ((k = 192 ∨ k = 224 ∨ k = 194 ∨ k = 226) ∧ inf = []) ∨
  ((k = 193 ∨ k = 225) ∧ ∃ b, 1 ≤ b ∧ b ≤ 254 ∧ inf = [nI b]) ∨ ((k = 195 ∨ k = 227) ∧ ∃ b, b < 256 ∧ inf = [nI b])
theorem gWf.lt {k r : Nat} {inf : List Int32} (h : gWf k inf r) : k < 256 := by
  rcases h with ⟨w, mo, h1, h2, rfl, -⟩ | ⟨w, s, h1, h2, rfl, -⟩ | ⟨h, -⟩ | ⟨h, -⟩ | ⟨h, -⟩ <;> omega
theorem gWf.wf {k r : Nat} {inf : List Int32} (h : gWf k inf r) (hl : inf.length ≤ 60) (hr : r ≤ 254) {L : gLn} (hc : L.ca = gMb (nI k) inf) : rX2_isWellFormed L (nI k) (nI inf.length) (nI r) = 1 := by
  have c0 : gat L.ca 0 = 0 := by rw [hc]; rfl
  unfold rX2_isWellFormed
  rw [if_pos c0]
  rcases h with ⟨w, mo, h1, h2, rfl, h3⟩ | ⟨w, s, h1, h2, rfl, rfl⟩ | ⟨h, rfl⟩ | ⟨h, b, h1, h2, rfl⟩ | ⟨h, b, h1, rfl⟩
  · have : (w = 0 ∨ w = 1) ∧ (mo = 0 ∨ mo = 1) := by omega
    have hlt : ¬ nI r < nI inf.length := nI_nlt h3 (by omega)
    rcases this with ⟨rfl | rfl, rfl | rfl⟩
    · exact (if_neg (by decide)).trans ((if_pos (by decide)).trans (if_neg hlt))
    · exact (if_neg (by decide)).trans ((if_pos (by decide)).trans (if_neg hlt))
    · exact (if_neg (by decide)).trans ((if_pos (by decide)).trans (if_neg hlt))
    · exact (if_neg (by decide)).trans ((if_pos (by decide)).trans (if_neg hlt))
  · have : (w = 0 ∨ w = 1) ∧ (s = 0 ∨ s = 1 ∨ s = 2) := by omega
    rcases this with ⟨rfl | rfl, rfl | rfl | rfl⟩
    · exact (if_pos (by decide)).trans ((if_neg (by decide)).trans ((if_pos (by decide)).trans ((if_neg (by decide)).trans (if_pos rfl))))
    · exact (if_pos (by decide)).trans ((if_neg (by decide)).trans ((if_pos (by decide)).trans ((if_neg (by decide)).trans (if_pos rfl))))
    · exact (if_pos (by decide)).trans ((if_neg (by decide)).trans ((if_pos (by decide)).trans ((if_neg (by decide)).trans (if_pos rfl))))
    · exact (if_pos (by decide)).trans ((if_neg (by decide)).trans ((if_pos (by decide)).trans ((if_neg (by decide)).trans (if_pos rfl))))
    · exact (if_pos (by decide)).trans ((if_neg (by decide)).trans ((if_pos (by decide)).trans ((if_neg (by decide)).trans (if_pos rfl))))
    · exact (if_pos (by decide)).trans ((if_neg (by decide)).trans ((if_pos (by decide)).trans ((if_neg (by decide)).trans (if_pos rfl))))
  · rcases h with rfl | rfl | rfl | rfl
    · exact (if_pos (by decide)).trans ((if_pos (by decide)).trans ((if_neg (by decide)).trans ((if_pos (by decide)).trans ((if_pos rfl).trans (if_neg (by decide))))))
    · exact (if_pos (by decide)).trans ((if_pos (by decide)).trans ((if_neg (by decide)).trans ((if_pos (by decide)).trans ((if_pos rfl).trans (if_neg (by decide))))))
    · exact (if_pos (by decide)).trans ((if_pos (by decide)).trans ((if_neg (by decide)).trans ((if_pos (by decide)).trans ((if_pos rfl).trans (if_neg (by decide))))))
    · exact (if_pos (by decide)).trans ((if_pos (by decide)).trans ((if_neg (by decide)).trans ((if_pos (by decide)).trans ((if_pos rfl).trans (if_neg (by decide))))))
  · have e3 : gat L.ca 3 = nI b := by rw [hc]; rfl
    have g1 : ¬ gat L.ca 3 < 1 := by rw [e3]; exact nI_nlt (b := 1) h1 (by omega)
    have g2 : ¬ 254 < gat L.ca 3 := by rw [e3]; exact nI_nlt (a := 254) h2 (by decide)
    rcases h with rfl | rfl
    · exact (if_pos (by decide)).trans ((if_pos (by decide)).trans ((if_neg (by decide)).trans ((if_neg (by decide)).trans ((if_pos rfl).trans ((if_pos (by decide)).trans ((if_neg g1).trans (if_neg g2)))))))
    · exact (if_pos (by decide)).trans ((if_pos (by decide)).trans ((if_neg (by decide)).trans ((if_neg (by decide)).trans ((if_pos rfl).trans ((if_pos (by decide)).trans ((if_neg g1).trans (if_neg g2)))))))
  · rcases h with rfl | rfl
    · exact (if_pos (by decide)).trans ((if_pos (by decide)).trans ((if_neg (by decide)).trans ((if_neg (by decide)).trans ((if_pos rfl).trans (if_neg (by decide))))))
    · exact (if_pos (by decide)).trans ((if_pos (by decide)).trans ((if_neg (by decide)).trans ((if_neg (by decide)).trans ((if_pos rfl).trans (if_neg (by decide))))))
theorem gjudge0 {k r : Nat} {inf : List Int32} (h : gWf k inf r) (hl : inf.length ≤ 60) (hr : r ≤ 254) {L : gLn} (hc : L.ca = gMb (nI k) inf) : rX2_judge L 0 (nI r) = 0 := by
  unfold rX2_judge
  rw [if_neg (by decide), if_neg (by decide), if_pos (by rw [hc, gMb_len, show gat (gMb (nI k) inf) 2 = nI inf.length from rfl, show (4 : Int32) = nI 4 from rfl, nI_add]), if_neg (by decide), if_pos (by rw [hc]; exact gMb_x _ _)]
  rw [show gat L.ca 1 = nI k from by rw [hc]; rfl, show gat L.ca 2 = nI inf.length from by rw [hc]; rfl, h.wf hl hr hc]
  exact if_neg (by decide)
/-- what comes of a block of a good shape: itself, whole; or it costs a fault -/
theorem gSent.out {L3 L' : gLn} {num : Int32} {k r Lt Lt' A A' m m' : Nat} {inf : List Int32} {J J' : gJr} (H : gSent L3 num (nI r) L' Lt Lt' A A' m m' J J') (hb : L3.bl = gMb (nI k) inf) (h : gWf k inf r) (hl : inf.length ≤ 60) (hr : r ≤ 254) :
    (L' = (L3.row 1 (gMb (nI k) inf)).set 5 0 ∧ m' ≤ m) ∨ (∃ l1 o, L' = (L3.row 1 l1).set 5 o ∧ (o = 1 ∨ o = 2 ∨ o = 3) ∧ m' < m) := by
  obtain ⟨y, l1, eA, eL, em, ey, e5, -⟩ := H
  rcases ey with ⟨rfl, e⟩ | ⟨rfl, e, hm⟩ | ⟨hy, hm⟩
  · left
    rw [hb] at e
    subst e
    rw [e5, gjudge0 h hl hr (L := L3.row 1 (gMb (nI k) inf)) rfl]
    exact ⟨rfl, em⟩
  · right
    refine ⟨l1, _, e5, ?_, hm⟩
    unfold rX2_judge
    rw [if_neg (by decide), if_neg (by decide)]
    split
    · rw [if_pos rfl]; exact Or.inl rfl
    · exact Or.inr (Or.inl rfl)
  · right
    refine ⟨l1, _, e5, ?_, hm⟩
    unfold rX2_judge
    rcases hy with rfl | rfl
    · rw [if_neg (by decide), if_pos rfl]; exact Or.inr (Or.inl rfl)
    · rw [if_pos rfl]; exact Or.inr (Or.inr rfl)
