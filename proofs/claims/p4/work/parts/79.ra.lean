/-! THE CLASS'S RESET ANSWER, READ EXACTLY (by program: wip/p4/m_ra.py) -/
theorem raAnd15 {a : Int32} : ∃ n : Nat, n ≤ 15 ∧ (a &&& 15) = nI n := by
  have e1 : (a &&& 15).toBitVec.toNat ≤ 15 := by
    rw [Int32.toBitVec_and, BitVec.toNat_and]
    exact Nat.and_le_right
  refine ⟨(a &&& 15).toBitVec.toNat, e1, ?_⟩
  apply Int32.toInt_inj.mp
  rw [nI_toInt (by omega)]
  exact BitVec.toInt_eq_toNat_of_lt (by omega)
theorem gx8 {x : Int32} {c : Nat} (h : 0 < c) (h2 : c < 8) : ¬ (8 * x + nI c : Int32) = 0 := by
  intro e
  have h1 := congrArg (fun z : Int32 => z.toBitVec.toNat) e
  have h3 : (8 * x + nI c : Int32).toBitVec = 8#32 * x.toBitVec + BitVec.ofNat 32 c := rfl
  simp only [h3, BitVec.toNat_add, BitVec.toNat_mul, BitVec.toNat_ofNat] at h1
  have h4 : (0 : Int32).toBitVec.toNat = 0 := rfl
  omega
/-- the reset answer's ints by field: 0 TS, 1 factor, 2 guard, 3 protocol, 4 groups, 5 room, 6 checked, 8 place, 9 told, 10 link group -/
def rq : Type := Nat → Int32
def rq.f (q : rq) (k : Nat) : Int32 := q k
def rq.set (q : rq) (k : Nat) (x : Int32) : rq := fun j => if j = k then x else q j
theorem rq.set_s {q : rq} {k : Nat} {x : Int32} : (q.set k x).f k = x := if_pos rfl
theorem rq.set_n {q : rq} {k j : Nat} {x : Int32} (h : ¬ j = k) : (q.set k x).f j = q.f j := if_neg h
def rqC (a : Nat) (q : rq) : gA := .inr (.inr (3, [.int (q.f 0), .int (q.f 1), .int (q.f 2), .int (q.f 3), .int (q.f 4), .int (q.f 5), .int (q.f 6), .ref (a + 1), .int (q.f 8), .int (q.f 9), .int (q.f 10)]))
def rqH (hp : List gA) (a : Nat) (q : rq) (l : List Int32) : Prop := hp[a]? = some (rqC a q) ∧ gRw hp (a + 1) (a + 2) 15 l
def rqF (a : Nat) (hp h : List gA) : Prop := h.length = hp.length ∧ ∀ k, ¬ k = a → ¬ k = a + 1 → ¬ k = a + 2 → h[k]? = hp[k]?
theorem rqF.rf {a : Nat} {hp : List gA} : rqF a hp hp := ⟨rfl, fun _ _ _ _ => rfl⟩
theorem rqF.trans {a : Nat} {hp h h' : List gA} (x : rqF a hp h) (y : rqF a h h') : rqF a hp h' := ⟨y.1.trans x.1, fun k h1 h2 h3 => (y.2 k h1 h2 h3).trans (x.2 k h1 h2 h3)⟩
theorem rqput {X : gX} {pc cl sl : Nat} {ls : List (Option Value)} {st : List Value} {hp : List gA} {a j : Nat} {q : rq} {l : List Int32} {x : Int32} {e : gA} (H : rqH hp a q l) (he : e = rqC a (q.set j x)) (kk : ∀ h, rqH h a (q.set j x) l → rqF a hp h → gG X pc ls st h cl sl) : gG X pc ls st (hp.set a e) cl sl := by
  subst he
  have f : ∀ k, ¬ k = a → (hp.set a (rqC a (q.set j x)))[k]? = hp[k]? := fun k hk => List.getElem?_set_ne (Ne.symm hk)
  exact kk _ ⟨gset_self H.1, H.2.kept (f _ (by omega)) (f _ (by omega))⟩ ⟨List.length_set, fun k h1 _ _ => f k h1⟩
theorem raLen {hp h : List gA} {r a : Nat} {x : gA} {y : gA} (h1 : hp[r]? = some x) (h2 : hp[a]? = some y) {x' y' : gA} (h3 : h[r]? = some x') (h4 : h[a]? = some y') (f : gFr hp h r a) : h.length = hp.length := by
  have key : ∀ i, i < hp.length ↔ i < h.length := fun i => by
    by_cases e1 : i = r
    · subst e1
      exact ⟨fun _ => (List.getElem?_eq_some_iff.mp h3).1, fun _ => (List.getElem?_eq_some_iff.mp h1).1⟩
    · by_cases e2 : i = a
      · subst e2
        exact ⟨fun _ => (List.getElem?_eq_some_iff.mp h4).1, fun _ => (List.getElem?_eq_some_iff.mp h2).1⟩
      · have e := f i e1 e2
        constructor
        · intro hi
          rw [List.getElem?_eq_getElem hi] at e
          exact (List.getElem?_eq_some_iff.mp e).1
        · intro hi
          rw [List.getElem?_eq_getElem hi] at e
          exact (List.getElem?_eq_some_iff.mp e.symm).1
  have k1 := key hp.length
  have k2 := key h.length
  omega
/-- the row of history is written -/
theorem rqrow {hp h : List gA} {a : Nat} {q : rq} {l l' : List Int32} (H : rqH hp a q l) (z : gRw h (a + 1) (a + 2) 15 l' ∧ gFr hp h (a + 1) (a + 2)) : rqH h a q l' ∧ rqF a hp h := by
  obtain ⟨F0, p1, p2, -⟩ := H.2
  obtain ⟨g, f⟩ := z
  obtain ⟨F, q1, q2, q3⟩ := g
  exact ⟨⟨(f a (by omega) (by omega)).trans H.1, F, q1, q2, q3⟩, raLen p1 p2 q1 q2 f, fun k _ h2 h3 => f k h2 h3⟩
theorem gRw.ra {hp h : List gA} {a : Nat} {t : List Int32} (H : gRw hp 1 2 96 t) (ha : 3 < a) (f : rqF a hp h) : gRw h 1 2 96 t := H.kept (f.2 1 (by omega) (by omega) (by omega)) (f.2 2 (by omega) (by omega) (by omega))
def raCl : List Int32 := [372, 372, 558, 744, 1116, 1488, 1860, 0, 0, 512, 768, 1024, 1536, 2048, 0, 0]
def raDv : List Int32 := [0, 1, 2, 4, 8, 16, 32, 64, 12, 20, 0, 0, 0, 0, 0, 0]
def rX3_clockOf (x : Int32) : Int32 := if x >>> (4 &&& 31) < 0 then 0 else if nI 16 ≤ x >>> (4 &&& 31) then 0 else raCl.getD (x >>> (4 &&& 31)).toNatClampNeg 0
def rX3_divisorOf (x : Int32) : Int32 := if nI 16 ≤ x &&& 15 then 0 else raDv.getD (x &&& 15).toNatClampNeg 0
theorem raTl {x : Int32} (h0 : ¬ x < 0) (h : ¬ nI 16 ≤ x) : x.toNatClampNeg < 16 := by
  have e := gcl h0
  rw [Int32.le_iff_toInt_le] at h
  have : (nI 16).toInt = 16 := by decide
  omega
theorem dX3_clockOf_0 : decode cX3_clockOf 0 = .ok (.iload_n 0, 1) := by decide +kernel
theorem dX3_clockOf_1 : decode cX3_clockOf 1 = .ok (.iconst 4, 1) := by decide +kernel
theorem dX3_clockOf_2 : decode cX3_clockOf 2 = .ok (.ishr, 1) := by decide +kernel
theorem dX3_clockOf_3 : decode cX3_clockOf 3 = .ok (.istore_n 1, 1) := by decide +kernel
theorem dX3_clockOf_4 : decode cX3_clockOf 4 = .ok (.iload_n 1, 1) := by decide +kernel
theorem dX3_clockOf_5 : decode cX3_clockOf 5 = .ok (.ifCond .lt 19, 3) := by decide +kernel
theorem dX3_clockOf_8 : decode cX3_clockOf 8 = .ok (.iload_n 1, 1) := by decide +kernel
theorem dX3_clockOf_9 : decode cX3_clockOf 9 = .ok (.getstatic 104, 3) := by decide +kernel
theorem dX3_clockOf_12 : decode cX3_clockOf 12 = .ok (.arraylength, 1) := by decide +kernel
theorem dX3_clockOf_13 : decode cX3_clockOf 13 = .ok (.if_icmp .ge 11, 3) := by decide +kernel
theorem dX3_clockOf_16 : decode cX3_clockOf 16 = .ok (.getstatic 104, 3) := by decide +kernel
theorem dX3_clockOf_19 : decode cX3_clockOf 19 = .ok (.iload_n 1, 1) := by decide +kernel
theorem dX3_clockOf_20 : decode cX3_clockOf 20 = .ok (.iaload, 1) := by decide +kernel
theorem dX3_clockOf_21 : decode cX3_clockOf 21 = .ok (.goto 4, 3) := by decide +kernel
theorem dX3_clockOf_24 : decode cX3_clockOf 24 = .ok (.iconst 0, 1) := by decide +kernel
theorem dX3_clockOf_25 : decode cX3_clockOf 25 = .ok (.ireturn, 1) := by decide +kernel
theorem dX3_divisorOf_0 : decode cX3_divisorOf 0 = .ok (.iload_n 0, 1) := by decide +kernel
theorem dX3_divisorOf_1 : decode cX3_divisorOf 1 = .ok (.bipush 15, 2) := by decide +kernel
theorem dX3_divisorOf_3 : decode cX3_divisorOf 3 = .ok (.iand, 1) := by decide +kernel
theorem dX3_divisorOf_4 : decode cX3_divisorOf 4 = .ok (.istore_n 1, 1) := by decide +kernel
theorem dX3_divisorOf_5 : decode cX3_divisorOf 5 = .ok (.iload_n 1, 1) := by decide +kernel
theorem dX3_divisorOf_6 : decode cX3_divisorOf 6 = .ok (.getstatic 108, 3) := by decide +kernel
theorem dX3_divisorOf_9 : decode cX3_divisorOf 9 = .ok (.arraylength, 1) := by decide +kernel
theorem dX3_divisorOf_10 : decode cX3_divisorOf 10 = .ok (.if_icmp .ge 11, 3) := by decide +kernel
theorem dX3_divisorOf_13 : decode cX3_divisorOf 13 = .ok (.getstatic 108, 3) := by decide +kernel
theorem dX3_divisorOf_16 : decode cX3_divisorOf 16 = .ok (.iload_n 1, 1) := by decide +kernel
theorem dX3_divisorOf_17 : decode cX3_divisorOf 17 = .ok (.iaload, 1) := by decide +kernel
theorem dX3_divisorOf_18 : decode cX3_divisorOf 18 = .ok (.goto 4, 3) := by decide +kernel
theorem dX3_divisorOf_21 : decode cX3_divisorOf 21 = .ok (.iconst 0, 1) := by decide +kernel
theorem dX3_divisorOf_22 : decode cX3_divisorOf 22 = .ok (.ireturn, 1) := by decide +kernel
theorem dX3_faultAt_0 : decode cX3_faultAt 0 = .ok (.bipush 8, 2) := by decide +kernel
theorem dX3_faultAt_2 : decode cX3_faultAt 2 = .ok (.iload_n 0, 1) := by decide +kernel
theorem dX3_faultAt_3 : decode cX3_faultAt 3 = .ok (.imul, 1) := by decide +kernel
theorem dX3_faultAt_4 : decode cX3_faultAt 4 = .ok (.iload_n 1, 1) := by decide +kernel
theorem dX3_faultAt_5 : decode cX3_faultAt 5 = .ok (.iadd, 1) := by decide +kernel
theorem dX3_faultAt_6 : decode cX3_faultAt 6 = .ok (.ireturn, 1) := by decide +kernel
theorem raWC : Cond.fieldLink RX3 104 "CardLink$ResetAnswer" "CLOCKS" "[I" ∈ gW := gW_of (List.mem_of_getElem? (i := 544) (by decide +kernel)) rfl
theorem raWD : Cond.fieldLink RX3 108 "CardLink$ResetAnswer" "DIVISORS" "[I" ∈ gW := gW_of (List.mem_of_getElem? (i := 549) (by decide +kernel)) rfl
set_option maxRecDepth 100000 in
set_option maxHeartbeats 4000000 in
theorem c_X3_clockOf_x {hp : List gA} {y : Int32} : gM yX3_clockOf cX3_clockOf 2 ((some .int)) 0 0 [.int y] (hp) (0) (0) (fun v h => v = some (.int (rX3_clockOf y)) ∧ h = hp) := by
  refine gM_of (ls0 := [some (.int y), none]) (by decide +kernel) (Nat.le_of_ble_eq_true rfl) rfl fun X C E => ?_
  refine g_iload_n (q := 1) C dX3_clockOf_0 rfl rfl ?_
  refine g_iconst (v := 4) (q := 2) C dX3_clockOf_1 (by decide) rfl ?_
  refine g_ishr (q := 3) C dX3_clockOf_2 rfl ?_
  refine g_istore_n (q := 4) C dX3_clockOf_3 (Nat.le_of_ble_eq_true rfl) (by simp only [gset]; rfl) rfl ?_
  refine g_iload_n (q := 5) C dX3_clockOf_4 rfl rfl ?_
  refine g_if_lt (t := 24) (q := 8) C dX3_clockOf_5 (by decide) rfl (fun c_5 => ?_) (fun c_5 => ?_)
  · refine g_iconst (v := 0) (q := 25) C dX3_clockOf_24 (by decide) rfl ?_
    exact E.1 _ _ _ _ _ _ _ dX3_clockOf_25 rfl rfl (Nat.le_of_ble_eq_true rfl) (Nat.le_of_ble_eq_true rfl) ⟨by unfold rX3_clockOf; rw [if_pos c_5], rfl⟩
  · refine g_iload_n (q := 9) C dX3_clockOf_8 rfl rfl ?_
    refine g_tablen (z := ("CardLink$ResetAnswer", "CLOCKS", raCl)) C (List.mem_cons_of_mem _ List.mem_cons_self) raWC dX3_clockOf_9 dX3_clockOf_12 rfl ?_
    refine g_icmp_ge (t := 24) (q := 16) C dX3_clockOf_13 (by decide) rfl (fun c_13 => ?_) (fun c_13 => ?_)
    · refine g_iconst (v := 0) (q := 25) C dX3_clockOf_24 (by decide) rfl ?_
      exact E.1 _ _ _ _ _ _ _ dX3_clockOf_25 rfl rfl (Nat.le_of_ble_eq_true rfl) (Nat.le_of_ble_eq_true rfl) ⟨by unfold rX3_clockOf; rw [if_neg c_5, if_pos c_13], rfl⟩
    · refine g_tabld (z := ("CardLink$ResetAnswer", "CLOCKS", raCl)) (i := 1) (q := 21) C (List.mem_cons_of_mem _ List.mem_cons_self) raWC dX3_clockOf_16 dX3_clockOf_19 dX3_clockOf_20 rfl rfl rfl c_5 (raTl c_5 c_13) rfl ?_
      refine g_goto (q := 25) C dX3_clockOf_21 (by decide) ?_
      exact E.1 _ _ _ _ _ _ _ dX3_clockOf_25 rfl rfl (Nat.le_of_ble_eq_true rfl) (Nat.le_of_ble_eq_true rfl) ⟨by unfold rX3_clockOf; rw [if_neg c_5, if_neg c_13], rfl⟩
set_option maxRecDepth 100000 in
set_option maxHeartbeats 4000000 in
theorem c_X3_divisorOf_x {hp : List gA} {y : Int32} : gM yX3_divisorOf cX3_divisorOf 2 ((some .int)) 0 0 [.int y] (hp) (0) (0) (fun v h => v = some (.int (rX3_divisorOf y)) ∧ h = hp) := by
  obtain ⟨n, hn, en⟩ := raAnd15 (a := y)
  have n0 : ¬ (y &&& 15) < 0 := by rw [en]; exact nI_pos (by omega)
  refine gM_of (ls0 := [some (.int y), none]) (by decide +kernel) (Nat.le_of_ble_eq_true rfl) rfl fun X C E => ?_
  refine g_iload_n (q := 1) C dX3_divisorOf_0 rfl rfl ?_
  refine g_bipush (v := 15) (q := 3) C dX3_divisorOf_1 (by decide) rfl ?_
  refine g_iand (q := 4) C dX3_divisorOf_3 rfl ?_
  refine g_istore_n (q := 5) C dX3_divisorOf_4 (Nat.le_of_ble_eq_true rfl) (by simp only [gset]; rfl) rfl ?_
  refine g_iload_n (q := 6) C dX3_divisorOf_5 rfl rfl ?_
  refine g_tablen (z := ("CardLink$ResetAnswer", "DIVISORS", raDv)) C (List.mem_cons_of_mem _ (List.mem_cons_of_mem _ List.mem_cons_self)) raWD dX3_divisorOf_6 dX3_divisorOf_9 rfl ?_
  refine g_icmp_ge (t := 21) (q := 13) C dX3_divisorOf_10 (by decide) rfl (fun c_10 => ?_) (fun c_10 => ?_)
  · refine g_iconst (v := 0) (q := 22) C dX3_divisorOf_21 (by decide) rfl ?_
    exact E.1 _ _ _ _ _ _ _ dX3_divisorOf_22 rfl rfl (Nat.le_of_ble_eq_true rfl) (Nat.le_of_ble_eq_true rfl) ⟨by unfold rX3_divisorOf; rw [if_pos c_10], rfl⟩
  · refine g_tabld (z := ("CardLink$ResetAnswer", "DIVISORS", raDv)) (i := 1) (q := 18) C (List.mem_cons_of_mem _ (List.mem_cons_of_mem _ List.mem_cons_self)) raWD dX3_divisorOf_13 dX3_divisorOf_16 dX3_divisorOf_17 rfl rfl rfl n0 (raTl n0 c_10) rfl ?_
    refine g_goto (q := 22) C dX3_divisorOf_18 (by decide) ?_
    exact E.1 _ _ _ _ _ _ _ dX3_divisorOf_22 rfl rfl (Nat.le_of_ble_eq_true rfl) (Nat.le_of_ble_eq_true rfl) ⟨by unfold rX3_divisorOf; rw [if_neg c_10], rfl⟩
theorem c_X3_faultAt_x {hp : List gA} {y z : Int32} : gM yX3_faultAt cX3_faultAt 2 ((some .int)) 0 0 [.int y, .int z] (hp) (0) (0) (fun v h => v = some (.int (8 * y + z)) ∧ h = hp) := by
  refine gM_of (ls0 := [some (.int y), some (.int z)]) (by decide +kernel) (Nat.le_of_ble_eq_true rfl) rfl fun X C E => ?_
  refine g_bipush (v := 8) (q := 2) C dX3_faultAt_0 (by decide) rfl ?_
  refine g_iload_n (q := 3) C dX3_faultAt_2 rfl rfl ?_
  refine g_imul (q := 4) C dX3_faultAt_3 rfl ?_
  refine g_iload_n (q := 5) C dX3_faultAt_4 rfl rfl ?_
  refine g_iadd (q := 6) C dX3_faultAt_5 rfl ?_
  exact E.1 _ _ _ _ _ _ _ dX3_faultAt_6 rfl rfl (Nat.le_of_ble_eq_true rfl) (Nat.le_of_ble_eq_true rfl) ⟨rfl, rfl⟩
theorem c_X4_keep0 {hp : List gA} {r a n : Nat} {l : List Int32} (H : gRw hp r a n l) : gM yX4_keep cX4_keep 2 (none) 1 21 [.ref r, .int 0] (hp) (0) (0) (fun v h => v = none ∧ (gRw h r a n [] ∧ gFr hp h r a)) := by
  have k := c_X4_keep_w (k := 0) H (by decide)
  rw [List.take_zero] at k
  exact k
def rX3_clear (q : rq) : rq := (((((((q.set 1 17).set 2 0).set 3 0).set 4 0).set 5 32).set 6 0).set 10 0)
theorem dX3_clear_0 : decode cX3_clear 0 = .ok (.aload_n 0, 1) := by decide +kernel
theorem dX3_clear_1 : decode cX3_clear 1 = .ok (.bipush 17, 2) := by decide +kernel
theorem dX3_clear_3 : decode cX3_clear 3 = .ok (.putfield 38, 3) := by decide +kernel
theorem dX3_clear_6 : decode cX3_clear 6 = .ok (.aload_n 0, 1) := by decide +kernel
theorem dX3_clear_7 : decode cX3_clear 7 = .ok (.iconst 0, 1) := by decide +kernel
theorem dX3_clear_8 : decode cX3_clear 8 = .ok (.putfield 42, 3) := by decide +kernel
theorem dX3_clear_11 : decode cX3_clear 11 = .ok (.aload_n 0, 1) := by decide +kernel
theorem dX3_clear_12 : decode cX3_clear 12 = .ok (.iconst 0, 1) := by decide +kernel
theorem dX3_clear_13 : decode cX3_clear 13 = .ok (.putfield 45, 3) := by decide +kernel
theorem dX3_clear_16 : decode cX3_clear 16 = .ok (.aload_n 0, 1) := by decide +kernel
theorem dX3_clear_17 : decode cX3_clear 17 = .ok (.iconst 0, 1) := by decide +kernel
theorem dX3_clear_18 : decode cX3_clear 18 = .ok (.putfield 48, 3) := by decide +kernel
theorem dX3_clear_21 : decode cX3_clear 21 = .ok (.aload_n 0, 1) := by decide +kernel
theorem dX3_clear_22 : decode cX3_clear 22 = .ok (.bipush 32, 2) := by decide +kernel
theorem dX3_clear_24 : decode cX3_clear 24 = .ok (.putfield 51, 3) := by decide +kernel
theorem dX3_clear_27 : decode cX3_clear 27 = .ok (.aload_n 0, 1) := by decide +kernel
theorem dX3_clear_28 : decode cX3_clear 28 = .ok (.iconst 0, 1) := by decide +kernel
theorem dX3_clear_29 : decode cX3_clear 29 = .ok (.putfield 54, 3) := by decide +kernel
theorem dX3_clear_32 : decode cX3_clear 32 = .ok (.aload_n 0, 1) := by decide +kernel
theorem dX3_clear_33 : decode cX3_clear 33 = .ok (.getfield 14, 3) := by decide +kernel
theorem dX3_clear_36 : decode cX3_clear 36 = .ok (.iconst 0, 1) := by decide +kernel
theorem dX3_clear_37 : decode cX3_clear 37 = .ok (.invokevirtual 58, 3) := by decide +kernel
theorem dX3_clear_40 : decode cX3_clear 40 = .ok (.aload_n 0, 1) := by decide +kernel
theorem dX3_clear_41 : decode cX3_clear 41 = .ok (.iconst 0, 1) := by decide +kernel
theorem dX3_clear_42 : decode cX3_clear 42 = .ok (.putfield 62, 3) := by decide +kernel
theorem dX3_clear_45 : decode cX3_clear 45 = .ok (.return_, 1) := by decide +kernel
set_option maxRecDepth 100000 in
set_option maxHeartbeats 4000000 in
theorem c_X3_clear_116 {hp : List gA} {q : rq} {l : List Int32} (HQ : rqH hp 116 q l) : gM yX3_clear cX3_clear 1 (none) 2 42 [.ref 116] (hp) (0) (0) (fun v h => v = none ∧ (rqH h 116 (rX3_clear q) [] ∧ rqF 116 hp h)) := by
  refine gM_of (ls0 := [some (.ref 116)]) (by decide +kernel) (Nat.le_of_ble_eq_true rfl) rfl fun X C E => ?_
  refine g_aload_n (q := 1) C dX3_clear_0 rfl rfl ?_
  refine g_bipush (v := 17) (q := 3) C dX3_clear_1 (by decide) rfl ?_
  refine g_putfield (q := 6) C fX3_38 dX3_clear_3 rfl HQ.1 (Nat.le_of_ble_eq_true rfl) (Or.inl rfl) rfl rfl (by intro z h; cases h) ?_
  refine rqput (j := 1) (x := 17) HQ rfl fun h1 HQ1 fq1 => ?_
  refine g_aload_n (q := 7) C dX3_clear_6 rfl rfl ?_
  refine g_iconst (v := 0) (q := 8) C dX3_clear_7 (by decide) rfl ?_
  refine g_putfield (q := 11) C fX3_42 dX3_clear_8 rfl HQ1.1 (Nat.le_of_ble_eq_true rfl) (Or.inl rfl) rfl rfl (by intro z h; cases h) ?_
  refine rqput (j := 2) (x := 0) HQ1 rfl fun h2 HQ2 fq2 => ?_
  refine g_aload_n (q := 12) C dX3_clear_11 rfl rfl ?_
  refine g_iconst (v := 0) (q := 13) C dX3_clear_12 (by decide) rfl ?_
  refine g_putfield (q := 16) C fX3_45 dX3_clear_13 rfl HQ2.1 (Nat.le_of_ble_eq_true rfl) (Or.inl rfl) rfl rfl (by intro z h; cases h) ?_
  refine rqput (j := 3) (x := 0) HQ2 rfl fun h3 HQ3 fq3 => ?_
  refine g_aload_n (q := 17) C dX3_clear_16 rfl rfl ?_
  refine g_iconst (v := 0) (q := 18) C dX3_clear_17 (by decide) rfl ?_
  refine g_putfield (q := 21) C fX3_48 dX3_clear_18 rfl HQ3.1 (Nat.le_of_ble_eq_true rfl) (Or.inl rfl) rfl rfl (by intro z h; cases h) ?_
  refine rqput (j := 4) (x := 0) HQ3 rfl fun h4 HQ4 fq4 => ?_
  refine g_aload_n (q := 22) C dX3_clear_21 rfl rfl ?_
  refine g_bipush (v := 32) (q := 24) C dX3_clear_22 (by decide) rfl ?_
  refine g_putfield (q := 27) C fX3_51 dX3_clear_24 rfl HQ4.1 (Nat.le_of_ble_eq_true rfl) (Or.inl rfl) rfl rfl (by intro z h; cases h) ?_
  refine rqput (j := 5) (x := 32) HQ4 rfl fun h5 HQ5 fq5 => ?_
  refine g_aload_n (q := 28) C dX3_clear_27 rfl rfl ?_
  refine g_iconst (v := 0) (q := 29) C dX3_clear_28 (by decide) rfl ?_
  refine g_putfield (q := 32) C fX3_54 dX3_clear_29 rfl HQ5.1 (Nat.le_of_ble_eq_true rfl) (Or.inl rfl) rfl rfl (by intro z h; cases h) ?_
  refine rqput (j := 6) (x := 0) HQ5 rfl fun h6 HQ6 fq6 => ?_
  refine g_aload_n (q := 33) C dX3_clear_32 rfl rfl ?_
  refine g_getfield (v := .ref 117) (q := 36) C fX3_14 dX3_clear_33 rfl HQ6.1 rfl ?_
  refine g_iconst (v := 0) (q := 37) C dX3_clear_36 (by decide) rfl ?_
  refine g_callVvp (q := 40) (As := [.int 0]) C gyX4_keep gvX4_keep t_512 (c_X4_keep0 HQ6.2) dX3_clear_37 rfl (gRw.obj HQ6.2) rfl rfl rfl (Nat.le_of_ble_eq_true rfl) (Nat.le_of_ble_eq_true rfl) (Nat.le_of_ble_eq_true rfl) (Nat.le_of_ble_eq_true rfl) (Nat.le_of_ble_eq_true rfl) rfl (fun h7 z7 => ?_)
  obtain ⟨HQ7, fq7⟩ := rqrow HQ6 z7
  refine g_aload_n (q := 41) C dX3_clear_40 rfl rfl ?_
  refine g_iconst (v := 0) (q := 42) C dX3_clear_41 (by decide) rfl ?_
  refine g_putfield (q := 45) C fX3_62 dX3_clear_42 rfl HQ7.1 (Nat.le_of_ble_eq_true rfl) (Or.inl rfl) rfl rfl (by intro z h; cases h) ?_
  refine rqput (j := 10) (x := 0) HQ7 rfl fun h8 HQ8 fq8 => ?_
  have e : rX3_clear q = (((((((q.set 1 17).set 2 0).set 3 0).set 4 0).set 5 32).set 6 0).set 10 0) := rfl
  exact E.2.1 _ _ _ _ _ dX3_clear_45 rfl (Nat.le_of_ble_eq_true rfl) (Nat.le_of_ble_eq_true rfl) ⟨rfl, by rw [e]; exact ⟨HQ8, (rqF.trans (rqF.trans (rqF.trans (rqF.trans (rqF.trans (rqF.trans (rqF.trans fq1 fq2) fq3) fq4) fq5) fq6) fq7) fq8)⟩⟩
def rX3_readHead (q : rq) (t : List Int32) : Int32 × rq := (if (nI t.length) = 0 then ((8 * 0 + 1), q) else (if (gat t 0) = 59 then (if (nI t.length) = 1 then ((8 * 1 + 1), (q.set 0 (gat t 0))) else (0, (((q.set 0 (gat t 0)).set 9 ((gat t 1) >>> (4 &&& 31))).set 8 2))) else (if (gat t 0) = 63 then (if (nI t.length) = 1 then ((8 * 1 + 1), (q.set 0 (gat t 0))) else (0, (((q.set 0 (gat t 0)).set 9 ((gat t 1) >>> (4 &&& 31))).set 8 2))) else ((8 * 0 + 2), (q.set 0 (gat t 0))))))
theorem dX3_readHead_0 : decode cX3_readHead 0 = .ok (.aload_n 1, 1) := by decide +kernel
theorem dX3_readHead_1 : decode cX3_readHead 1 = .ok (.invokevirtual 65, 3) := by decide +kernel
theorem dX3_readHead_4 : decode cX3_readHead 4 = .ok (.ifCond .ne 9, 3) := by decide +kernel
theorem dX3_readHead_7 : decode cX3_readHead 7 = .ok (.iconst 0, 1) := by decide +kernel
theorem dX3_readHead_8 : decode cX3_readHead 8 = .ok (.iconst 1, 1) := by decide +kernel
theorem dX3_readHead_9 : decode cX3_readHead 9 = .ok (.invokestatic 69, 3) := by decide +kernel
theorem dX3_readHead_12 : decode cX3_readHead 12 = .ok (.ireturn, 1) := by decide +kernel
theorem dX3_readHead_13 : decode cX3_readHead 13 = .ok (.aload_n 0, 1) := by decide +kernel
theorem dX3_readHead_14 : decode cX3_readHead 14 = .ok (.aload_n 1, 1) := by decide +kernel
theorem dX3_readHead_15 : decode cX3_readHead 15 = .ok (.iconst 0, 1) := by decide +kernel
theorem dX3_readHead_16 : decode cX3_readHead 16 = .ok (.invokevirtual 30, 3) := by decide +kernel
theorem dX3_readHead_19 : decode cX3_readHead 19 = .ok (.putfield 73, 3) := by decide +kernel
theorem dX3_readHead_22 : decode cX3_readHead 22 = .ok (.aload_n 0, 1) := by decide +kernel
theorem dX3_readHead_23 : decode cX3_readHead 23 = .ok (.getfield 73, 3) := by decide +kernel
theorem dX3_readHead_26 : decode cX3_readHead 26 = .ok (.bipush 59, 2) := by decide +kernel
theorem dX3_readHead_28 : decode cX3_readHead 28 = .ok (.if_icmp .eq 18, 3) := by decide +kernel
theorem dX3_readHead_31 : decode cX3_readHead 31 = .ok (.aload_n 0, 1) := by decide +kernel
theorem dX3_readHead_32 : decode cX3_readHead 32 = .ok (.getfield 73, 3) := by decide +kernel
theorem dX3_readHead_35 : decode cX3_readHead 35 = .ok (.bipush 63, 2) := by decide +kernel
theorem dX3_readHead_37 : decode cX3_readHead 37 = .ok (.if_icmp .eq 9, 3) := by decide +kernel
theorem dX3_readHead_40 : decode cX3_readHead 40 = .ok (.iconst 0, 1) := by decide +kernel
theorem dX3_readHead_41 : decode cX3_readHead 41 = .ok (.iconst 2, 1) := by decide +kernel
theorem dX3_readHead_42 : decode cX3_readHead 42 = .ok (.invokestatic 69, 3) := by decide +kernel
theorem dX3_readHead_45 : decode cX3_readHead 45 = .ok (.ireturn, 1) := by decide +kernel
theorem dX3_readHead_46 : decode cX3_readHead 46 = .ok (.aload_n 1, 1) := by decide +kernel
theorem dX3_readHead_47 : decode cX3_readHead 47 = .ok (.invokevirtual 65, 3) := by decide +kernel
theorem dX3_readHead_50 : decode cX3_readHead 50 = .ok (.iconst 1, 1) := by decide +kernel
theorem dX3_readHead_51 : decode cX3_readHead 51 = .ok (.if_icmp .ne 9, 3) := by decide +kernel
theorem dX3_readHead_54 : decode cX3_readHead 54 = .ok (.iconst 1, 1) := by decide +kernel
theorem dX3_readHead_55 : decode cX3_readHead 55 = .ok (.iconst 1, 1) := by decide +kernel
theorem dX3_readHead_56 : decode cX3_readHead 56 = .ok (.invokestatic 69, 3) := by decide +kernel
theorem dX3_readHead_59 : decode cX3_readHead 59 = .ok (.ireturn, 1) := by decide +kernel
theorem dX3_readHead_60 : decode cX3_readHead 60 = .ok (.aload_n 0, 1) := by decide +kernel
theorem dX3_readHead_61 : decode cX3_readHead 61 = .ok (.aload_n 1, 1) := by decide +kernel
theorem dX3_readHead_62 : decode cX3_readHead 62 = .ok (.iconst 1, 1) := by decide +kernel
theorem dX3_readHead_63 : decode cX3_readHead 63 = .ok (.invokevirtual 30, 3) := by decide +kernel
theorem dX3_readHead_66 : decode cX3_readHead 66 = .ok (.iconst 4, 1) := by decide +kernel
theorem dX3_readHead_67 : decode cX3_readHead 67 = .ok (.ishr, 1) := by decide +kernel
theorem dX3_readHead_68 : decode cX3_readHead 68 = .ok (.putfield 76, 3) := by decide +kernel
theorem dX3_readHead_71 : decode cX3_readHead 71 = .ok (.aload_n 0, 1) := by decide +kernel
theorem dX3_readHead_72 : decode cX3_readHead 72 = .ok (.iconst 2, 1) := by decide +kernel
theorem dX3_readHead_73 : decode cX3_readHead 73 = .ok (.putfield 79, 3) := by decide +kernel
theorem dX3_readHead_76 : decode cX3_readHead 76 = .ok (.iconst 0, 1) := by decide +kernel
theorem dX3_readHead_77 : decode cX3_readHead 77 = .ok (.ireturn, 1) := by decide +kernel
set_option maxRecDepth 100000 in
set_option maxHeartbeats 4000000 in
theorem c_X3_readHead_116 {hp : List gA} {q : rq} {l t : List Int32} (HQ : rqH hp 116 q l) (HT : gRw hp 1 2 96 t) : gM yX3_readHead cX3_readHead 2 ((some .int)) 1 21 [.ref 116, .ref 1] (hp) (0) (0) (fun v h => v = some (.int (rX3_readHead q t).1) ∧ (rqH h 116 (rX3_readHead q t).2 l ∧ rqF 116 hp h)) := by
  refine gM_of (ls0 := [some (.ref 116), some (.ref 1)]) (by decide +kernel) (Nat.le_of_ble_eq_true rfl) rfl fun X C E => ?_
  refine g_aload_n (q := 1) C dX3_readHead_0 rfl rfl ?_
  refine g_callVi (x := (nI t.length)) (q := 4) (As := []) C gyX4_size gvX4_size t_517 (c_X4_size (gRw.obj HT)) dX3_readHead_1 rfl (gRw.obj HT) rfl rfl rfl (Nat.le_of_ble_eq_true rfl) (Nat.le_of_ble_eq_true rfl) (Nat.le_of_ble_eq_true rfl) (Nat.le_of_ble_eq_true rfl) (Nat.le_of_ble_eq_true rfl) rfl ?_
  refine g_if_ne (t := 13) (q := 7) C dX3_readHead_4 (by decide) rfl (fun c_4 => ?_) (fun c_4 => ?_)
  ·
    refine g_aload_n (q := 14) C dX3_readHead_13 rfl rfl ?_
    refine g_aload_n (q := 15) C dX3_readHead_14 rfl rfl ?_
    refine g_iconst (v := 0) (q := 16) C dX3_readHead_15 (by decide) rfl ?_
    refine g_callVi (x := (gat t 0)) (q := 19) (As := [.int 0]) C gyX4_at gvX4_at t_521 (c_X4_at_w HT) dX3_readHead_16 rfl (gRw.obj HT) rfl rfl rfl (Nat.le_of_ble_eq_true rfl) (Nat.le_of_ble_eq_true rfl) (Nat.le_of_ble_eq_true rfl) (Nat.le_of_ble_eq_true rfl) (Nat.le_of_ble_eq_true rfl) rfl ?_
    refine g_putfield (q := 22) C fX3_73 dX3_readHead_19 rfl HQ.1 (Nat.le_of_ble_eq_true rfl) (Or.inl rfl) rfl rfl (by intro z h; cases h) ?_
    refine rqput (j := 0) (x := (gat t 0)) HQ rfl fun h1 HQ1 fq1 => ?_
    have HT1 := gRw.ra HT (by decide) fq1
    refine g_aload_n (q := 23) C dX3_readHead_22 rfl rfl ?_
    refine g_getfield (v := .int ((gat t 0))) (q := 26) C fX3_73 dX3_readHead_23 rfl HQ1.1 rfl ?_
    refine g_bipush (v := 59) (q := 28) C dX3_readHead_26 (by decide) rfl ?_
    refine g_icmp_eq (t := 46) (q := 31) C dX3_readHead_28 (by decide) rfl (fun c_28 => ?_) (fun c_28 => ?_)
    ·
      refine g_aload_n (q := 47) C dX3_readHead_46 rfl rfl ?_
      refine g_callVi (x := (nI t.length)) (q := 50) (As := []) C gyX4_size gvX4_size t_517 (c_X4_size (gRw.obj HT1)) dX3_readHead_47 rfl (gRw.obj HT1) rfl rfl rfl (Nat.le_of_ble_eq_true rfl) (Nat.le_of_ble_eq_true rfl) (Nat.le_of_ble_eq_true rfl) (Nat.le_of_ble_eq_true rfl) (Nat.le_of_ble_eq_true rfl) rfl ?_
      refine g_iconst (v := 1) (q := 51) C dX3_readHead_50 (by decide) rfl ?_
      refine g_icmp_ne (t := 60) (q := 54) C dX3_readHead_51 (by decide) rfl (fun c_51 => ?_) (fun c_51 => ?_)
      ·
        refine g_aload_n (q := 61) C dX3_readHead_60 rfl rfl ?_
        refine g_aload_n (q := 62) C dX3_readHead_61 rfl rfl ?_
        refine g_iconst (v := 1) (q := 63) C dX3_readHead_62 (by decide) rfl ?_
        refine g_callVi (x := (gat t 1)) (q := 66) (As := [.int 1]) C gyX4_at gvX4_at t_521 (c_X4_at_w HT1) dX3_readHead_63 rfl (gRw.obj HT1) rfl rfl rfl (Nat.le_of_ble_eq_true rfl) (Nat.le_of_ble_eq_true rfl) (Nat.le_of_ble_eq_true rfl) (Nat.le_of_ble_eq_true rfl) (Nat.le_of_ble_eq_true rfl) rfl ?_
        refine g_iconst (v := 4) (q := 67) C dX3_readHead_66 (by decide) rfl ?_
        refine g_ishr (q := 68) C dX3_readHead_67 rfl ?_
        refine g_putfield (q := 71) C fX3_76 dX3_readHead_68 rfl HQ1.1 (Nat.le_of_ble_eq_true rfl) (Or.inl rfl) rfl rfl (by intro z h; cases h) ?_
        refine rqput (j := 9) (x := ((gat t 1) >>> (4 &&& 31))) HQ1 rfl fun h2 HQ2 fq2 => ?_
        have HT2 := gRw.ra HT1 (by decide) fq2
        refine g_aload_n (q := 72) C dX3_readHead_71 rfl rfl ?_
        refine g_iconst (v := 2) (q := 73) C dX3_readHead_72 (by decide) rfl ?_
        refine g_putfield (q := 76) C fX3_79 dX3_readHead_73 rfl HQ2.1 (Nat.le_of_ble_eq_true rfl) (Or.inl rfl) rfl rfl (by intro z h; cases h) ?_
        refine rqput (j := 8) (x := 2) HQ2 rfl fun h3 HQ3 fq3 => ?_
        have HT3 := gRw.ra HT2 (by decide) fq3
        refine g_iconst (v := 0) (q := 77) C dX3_readHead_76 (by decide) rfl ?_
        have e : rX3_readHead q t = (0, (((q.set 0 (gat t 0)).set 9 ((gat t 1) >>> (4 &&& 31))).set 8 2)) := ((if_neg c_4).trans ((if_pos c_28).trans (if_neg c_51)))
        exact E.1 _ _ _ _ _ _ _ dX3_readHead_77 rfl rfl (Nat.le_of_ble_eq_true rfl) (Nat.le_of_ble_eq_true rfl) ⟨by rw [e], by rw [e]; exact ⟨HQ3, (rqF.trans (rqF.trans fq1 fq2) fq3)⟩⟩
      ·
        refine g_iconst (v := 1) (q := 55) C dX3_readHead_54 (by decide) rfl ?_
        refine g_iconst (v := 1) (q := 56) C dX3_readHead_55 (by decide) rfl ?_
        refine g_callSi (x := (8 * 1 + 1)) (q := 59) (As := [.int 1, .int 1]) C gyX3_faultAt t_519 t_518 (c_X3_faultAt_x) dX3_readHead_56 rfl rfl rfl (Nat.le_of_ble_eq_true rfl) (Nat.le_of_ble_eq_true rfl) (Nat.le_of_ble_eq_true rfl) (Nat.le_of_ble_eq_true rfl) (Nat.le_of_ble_eq_true rfl) rfl ?_
        have e : rX3_readHead q t = ((8 * 1 + 1), (q.set 0 (gat t 0))) := ((if_neg c_4).trans ((if_pos c_28).trans (if_pos c_51)))
        exact E.1 _ _ _ _ _ _ _ dX3_readHead_59 rfl rfl (Nat.le_of_ble_eq_true rfl) (Nat.le_of_ble_eq_true rfl) ⟨by rw [e], by rw [e]; exact ⟨HQ1, fq1⟩⟩
    ·
      refine g_aload_n (q := 32) C dX3_readHead_31 rfl rfl ?_
      refine g_getfield (v := .int ((gat t 0))) (q := 35) C fX3_73 dX3_readHead_32 rfl HQ1.1 rfl ?_
      refine g_bipush (v := 63) (q := 37) C dX3_readHead_35 (by decide) rfl ?_
      refine g_icmp_eq (t := 46) (q := 40) C dX3_readHead_37 (by decide) rfl (fun c_37 => ?_) (fun c_37 => ?_)
      ·
        refine g_aload_n (q := 47) C dX3_readHead_46 rfl rfl ?_
        refine g_callVi (x := (nI t.length)) (q := 50) (As := []) C gyX4_size gvX4_size t_517 (c_X4_size (gRw.obj HT1)) dX3_readHead_47 rfl (gRw.obj HT1) rfl rfl rfl (Nat.le_of_ble_eq_true rfl) (Nat.le_of_ble_eq_true rfl) (Nat.le_of_ble_eq_true rfl) (Nat.le_of_ble_eq_true rfl) (Nat.le_of_ble_eq_true rfl) rfl ?_
        refine g_iconst (v := 1) (q := 51) C dX3_readHead_50 (by decide) rfl ?_
        refine g_icmp_ne (t := 60) (q := 54) C dX3_readHead_51 (by decide) rfl (fun c_51 => ?_) (fun c_51 => ?_)
        ·
          refine g_aload_n (q := 61) C dX3_readHead_60 rfl rfl ?_
          refine g_aload_n (q := 62) C dX3_readHead_61 rfl rfl ?_
          refine g_iconst (v := 1) (q := 63) C dX3_readHead_62 (by decide) rfl ?_
          refine g_callVi (x := (gat t 1)) (q := 66) (As := [.int 1]) C gyX4_at gvX4_at t_521 (c_X4_at_w HT1) dX3_readHead_63 rfl (gRw.obj HT1) rfl rfl rfl (Nat.le_of_ble_eq_true rfl) (Nat.le_of_ble_eq_true rfl) (Nat.le_of_ble_eq_true rfl) (Nat.le_of_ble_eq_true rfl) (Nat.le_of_ble_eq_true rfl) rfl ?_
          refine g_iconst (v := 4) (q := 67) C dX3_readHead_66 (by decide) rfl ?_
          refine g_ishr (q := 68) C dX3_readHead_67 rfl ?_
          refine g_putfield (q := 71) C fX3_76 dX3_readHead_68 rfl HQ1.1 (Nat.le_of_ble_eq_true rfl) (Or.inl rfl) rfl rfl (by intro z h; cases h) ?_
          refine rqput (j := 9) (x := ((gat t 1) >>> (4 &&& 31))) HQ1 rfl fun h4 HQ4 fq4 => ?_
          have HT4 := gRw.ra HT1 (by decide) fq4
          refine g_aload_n (q := 72) C dX3_readHead_71 rfl rfl ?_
          refine g_iconst (v := 2) (q := 73) C dX3_readHead_72 (by decide) rfl ?_
          refine g_putfield (q := 76) C fX3_79 dX3_readHead_73 rfl HQ4.1 (Nat.le_of_ble_eq_true rfl) (Or.inl rfl) rfl rfl (by intro z h; cases h) ?_
          refine rqput (j := 8) (x := 2) HQ4 rfl fun h5 HQ5 fq5 => ?_
          have HT5 := gRw.ra HT4 (by decide) fq5
          refine g_iconst (v := 0) (q := 77) C dX3_readHead_76 (by decide) rfl ?_
          have e : rX3_readHead q t = (0, (((q.set 0 (gat t 0)).set 9 ((gat t 1) >>> (4 &&& 31))).set 8 2)) := ((if_neg c_4).trans ((if_neg c_28).trans ((if_pos c_37).trans (if_neg c_51))))
          exact E.1 _ _ _ _ _ _ _ dX3_readHead_77 rfl rfl (Nat.le_of_ble_eq_true rfl) (Nat.le_of_ble_eq_true rfl) ⟨by rw [e], by rw [e]; exact ⟨HQ5, (rqF.trans (rqF.trans fq1 fq4) fq5)⟩⟩
        ·
          refine g_iconst (v := 1) (q := 55) C dX3_readHead_54 (by decide) rfl ?_
          refine g_iconst (v := 1) (q := 56) C dX3_readHead_55 (by decide) rfl ?_
          refine g_callSi (x := (8 * 1 + 1)) (q := 59) (As := [.int 1, .int 1]) C gyX3_faultAt t_519 t_518 (c_X3_faultAt_x) dX3_readHead_56 rfl rfl rfl (Nat.le_of_ble_eq_true rfl) (Nat.le_of_ble_eq_true rfl) (Nat.le_of_ble_eq_true rfl) (Nat.le_of_ble_eq_true rfl) (Nat.le_of_ble_eq_true rfl) rfl ?_
          have e : rX3_readHead q t = ((8 * 1 + 1), (q.set 0 (gat t 0))) := ((if_neg c_4).trans ((if_neg c_28).trans ((if_pos c_37).trans (if_pos c_51))))
          exact E.1 _ _ _ _ _ _ _ dX3_readHead_59 rfl rfl (Nat.le_of_ble_eq_true rfl) (Nat.le_of_ble_eq_true rfl) ⟨by rw [e], by rw [e]; exact ⟨HQ1, fq1⟩⟩
      ·
        refine g_iconst (v := 0) (q := 41) C dX3_readHead_40 (by decide) rfl ?_
        refine g_iconst (v := 2) (q := 42) C dX3_readHead_41 (by decide) rfl ?_
        refine g_callSi (x := (8 * 0 + 2)) (q := 45) (As := [.int 0, .int 2]) C gyX3_faultAt t_519 t_518 (c_X3_faultAt_x) dX3_readHead_42 rfl rfl rfl (Nat.le_of_ble_eq_true rfl) (Nat.le_of_ble_eq_true rfl) (Nat.le_of_ble_eq_true rfl) (Nat.le_of_ble_eq_true rfl) (Nat.le_of_ble_eq_true rfl) rfl ?_
        have e : rX3_readHead q t = ((8 * 0 + 2), (q.set 0 (gat t 0))) := ((if_neg c_4).trans ((if_neg c_28).trans (if_neg c_37)))
        exact E.1 _ _ _ _ _ _ _ dX3_readHead_45 rfl rfl (Nat.le_of_ble_eq_true rfl) (Nat.le_of_ble_eq_true rfl) ⟨by rw [e], by rw [e]; exact ⟨HQ1, fq1⟩⟩
  ·
    refine g_iconst (v := 0) (q := 8) C dX3_readHead_7 (by decide) rfl ?_
    refine g_iconst (v := 1) (q := 9) C dX3_readHead_8 (by decide) rfl ?_
    refine g_callSi (x := (8 * 0 + 1)) (q := 12) (As := [.int 0, .int 1]) C gyX3_faultAt t_519 t_518 (c_X3_faultAt_x) dX3_readHead_9 rfl rfl rfl (Nat.le_of_ble_eq_true rfl) (Nat.le_of_ble_eq_true rfl) (Nat.le_of_ble_eq_true rfl) (Nat.le_of_ble_eq_true rfl) (Nat.le_of_ble_eq_true rfl) rfl ?_
    have e : rX3_readHead q t = ((8 * 0 + 1), q) := (if_pos c_4)
    exact E.1 _ _ _ _ _ _ _ dX3_readHead_12 rfl rfl (Nat.le_of_ble_eq_true rfl) (Nat.le_of_ble_eq_true rfl) ⟨by rw [e], by rw [e]; exact ⟨HQ, rqF.rf⟩⟩
def rX3_readTd (q : rq) (y : Int32) (z : Int32) : Int32 × rq := (if (z &&& 15) = 0 then (if y = 4 then (if (z >>> (4 &&& 31)) = 0 then (if y = 1 then (if (z &&& 15) = 0 then (0, ((q.set 9 (z >>> (4 &&& 31))).set 3 (z &&& 15))) else (0, (((q.set 9 (z >>> (4 &&& 31))).set 3 (z &&& 15)).set 6 1))) else (if (z &&& 15) = 1 then (if (q.f 10) = 0 then (if (z &&& 15) = 0 then (0, ((q.set 9 (z >>> (4 &&& 31))).set 10 (y + 1))) else (0, (((q.set 9 (z >>> (4 &&& 31))).set 10 (y + 1)).set 6 1))) else (if (z &&& 15) = 0 then (0, (q.set 9 (z >>> (4 &&& 31)))) else (0, ((q.set 9 (z >>> (4 &&& 31))).set 6 1)))) else (if (z &&& 15) = 0 then (0, (q.set 9 (z >>> (4 &&& 31)))) else (0, ((q.set 9 (z >>> (4 &&& 31))).set 6 1))))) else (3, (q.set 9 (z >>> (4 &&& 31))))) else (if y = 1 then (if (z &&& 15) = 0 then (0, ((q.set 9 (z >>> (4 &&& 31))).set 3 (z &&& 15))) else (0, (((q.set 9 (z >>> (4 &&& 31))).set 3 (z &&& 15)).set 6 1))) else (if (z &&& 15) = 1 then (if (q.f 10) = 0 then (if (z &&& 15) = 0 then (0, ((q.set 9 (z >>> (4 &&& 31))).set 10 (y + 1))) else (0, (((q.set 9 (z >>> (4 &&& 31))).set 10 (y + 1)).set 6 1))) else (if (z &&& 15) = 0 then (0, (q.set 9 (z >>> (4 &&& 31)))) else (0, ((q.set 9 (z >>> (4 &&& 31))).set 6 1)))) else (if (z &&& 15) = 0 then (0, (q.set 9 (z >>> (4 &&& 31)))) else (0, ((q.set 9 (z >>> (4 &&& 31))).set 6 1)))))) else (if (z &&& 15) = 1 then (if y = 4 then (if (z >>> (4 &&& 31)) = 0 then (if y = 1 then (if (z &&& 15) = 0 then (0, ((q.set 9 (z >>> (4 &&& 31))).set 3 (z &&& 15))) else (0, (((q.set 9 (z >>> (4 &&& 31))).set 3 (z &&& 15)).set 6 1))) else (if (z &&& 15) = 1 then (if (q.f 10) = 0 then (if (z &&& 15) = 0 then (0, ((q.set 9 (z >>> (4 &&& 31))).set 10 (y + 1))) else (0, (((q.set 9 (z >>> (4 &&& 31))).set 10 (y + 1)).set 6 1))) else (if (z &&& 15) = 0 then (0, (q.set 9 (z >>> (4 &&& 31)))) else (0, ((q.set 9 (z >>> (4 &&& 31))).set 6 1)))) else (if (z &&& 15) = 0 then (0, (q.set 9 (z >>> (4 &&& 31)))) else (0, ((q.set 9 (z >>> (4 &&& 31))).set 6 1))))) else (3, (q.set 9 (z >>> (4 &&& 31))))) else (if y = 1 then (if (z &&& 15) = 0 then (0, ((q.set 9 (z >>> (4 &&& 31))).set 3 (z &&& 15))) else (0, (((q.set 9 (z >>> (4 &&& 31))).set 3 (z &&& 15)).set 6 1))) else (if (z &&& 15) = 1 then (if (q.f 10) = 0 then (if (z &&& 15) = 0 then (0, ((q.set 9 (z >>> (4 &&& 31))).set 10 (y + 1))) else (0, (((q.set 9 (z >>> (4 &&& 31))).set 10 (y + 1)).set 6 1))) else (if (z &&& 15) = 0 then (0, (q.set 9 (z >>> (4 &&& 31)))) else (0, ((q.set 9 (z >>> (4 &&& 31))).set 6 1)))) else (if (z &&& 15) = 0 then (0, (q.set 9 (z >>> (4 &&& 31)))) else (0, ((q.set 9 (z >>> (4 &&& 31))).set 6 1)))))) else (if (z &&& 15) = 15 then (if y = 4 then (if (z >>> (4 &&& 31)) = 0 then (if y = 1 then (if (z &&& 15) = 0 then (0, ((q.set 9 (z >>> (4 &&& 31))).set 3 (z &&& 15))) else (0, (((q.set 9 (z >>> (4 &&& 31))).set 3 (z &&& 15)).set 6 1))) else (if (z &&& 15) = 1 then (if (q.f 10) = 0 then (if (z &&& 15) = 0 then (0, ((q.set 9 (z >>> (4 &&& 31))).set 10 (y + 1))) else (0, (((q.set 9 (z >>> (4 &&& 31))).set 10 (y + 1)).set 6 1))) else (if (z &&& 15) = 0 then (0, (q.set 9 (z >>> (4 &&& 31)))) else (0, ((q.set 9 (z >>> (4 &&& 31))).set 6 1)))) else (if (z &&& 15) = 0 then (0, (q.set 9 (z >>> (4 &&& 31)))) else (0, ((q.set 9 (z >>> (4 &&& 31))).set 6 1))))) else (3, (q.set 9 (z >>> (4 &&& 31))))) else (if y = 1 then (if (z &&& 15) = 0 then (0, ((q.set 9 (z >>> (4 &&& 31))).set 3 (z &&& 15))) else (0, (((q.set 9 (z >>> (4 &&& 31))).set 3 (z &&& 15)).set 6 1))) else (if (z &&& 15) = 1 then (if (q.f 10) = 0 then (if (z &&& 15) = 0 then (0, ((q.set 9 (z >>> (4 &&& 31))).set 10 (y + 1))) else (0, (((q.set 9 (z >>> (4 &&& 31))).set 10 (y + 1)).set 6 1))) else (if (z &&& 15) = 0 then (0, (q.set 9 (z >>> (4 &&& 31)))) else (0, ((q.set 9 (z >>> (4 &&& 31))).set 6 1)))) else (if (z &&& 15) = 0 then (0, (q.set 9 (z >>> (4 &&& 31)))) else (0, ((q.set 9 (z >>> (4 &&& 31))).set 6 1)))))) else (3, (q.set 9 (z >>> (4 &&& 31)))))))
theorem dX3_readTd_0 : decode cX3_readTd 0 = .ok (.iload_n 2, 1) := by decide +kernel
theorem dX3_readTd_1 : decode cX3_readTd 1 = .ok (.bipush 15, 2) := by decide +kernel
theorem dX3_readTd_3 : decode cX3_readTd 3 = .ok (.iand, 1) := by decide +kernel
theorem dX3_readTd_4 : decode cX3_readTd 4 = .ok (.istore_n 3, 1) := by decide +kernel
theorem dX3_readTd_5 : decode cX3_readTd 5 = .ok (.aload_n 0, 1) := by decide +kernel
theorem dX3_readTd_6 : decode cX3_readTd 6 = .ok (.iload_n 2, 1) := by decide +kernel
theorem dX3_readTd_7 : decode cX3_readTd 7 = .ok (.iconst 4, 1) := by decide +kernel
theorem dX3_readTd_8 : decode cX3_readTd 8 = .ok (.ishr, 1) := by decide +kernel
theorem dX3_readTd_9 : decode cX3_readTd 9 = .ok (.putfield 76, 3) := by decide +kernel
theorem dX3_readTd_12 : decode cX3_readTd 12 = .ok (.iload_n 3, 1) := by decide +kernel
theorem dX3_readTd_13 : decode cX3_readTd 13 = .ok (.ifCond .eq 14, 3) := by decide +kernel
theorem dX3_readTd_16 : decode cX3_readTd 16 = .ok (.iload_n 3, 1) := by decide +kernel
theorem dX3_readTd_17 : decode cX3_readTd 17 = .ok (.iconst 1, 1) := by decide +kernel
theorem dX3_readTd_18 : decode cX3_readTd 18 = .ok (.if_icmp .eq 9, 3) := by decide +kernel
theorem dX3_readTd_21 : decode cX3_readTd 21 = .ok (.iload_n 3, 1) := by decide +kernel
theorem dX3_readTd_22 : decode cX3_readTd 22 = .ok (.bipush 15, 2) := by decide +kernel
theorem dX3_readTd_24 : decode cX3_readTd 24 = .ok (.if_icmp .ne 15, 3) := by decide +kernel
theorem dX3_readTd_27 : decode cX3_readTd 27 = .ok (.iload_n 1, 1) := by decide +kernel
theorem dX3_readTd_28 : decode cX3_readTd 28 = .ok (.iconst 4, 1) := by decide +kernel
theorem dX3_readTd_29 : decode cX3_readTd 29 = .ok (.if_icmp .ne 12, 3) := by decide +kernel
theorem dX3_readTd_32 : decode cX3_readTd 32 = .ok (.aload_n 0, 1) := by decide +kernel
theorem dX3_readTd_33 : decode cX3_readTd 33 = .ok (.getfield 76, 3) := by decide +kernel
theorem dX3_readTd_36 : decode cX3_readTd 36 = .ok (.ifCond .eq 5, 3) := by decide +kernel
theorem dX3_readTd_39 : decode cX3_readTd 39 = .ok (.iconst 3, 1) := by decide +kernel
theorem dX3_readTd_40 : decode cX3_readTd 40 = .ok (.ireturn, 1) := by decide +kernel
theorem dX3_readTd_41 : decode cX3_readTd 41 = .ok (.iload_n 1, 1) := by decide +kernel
theorem dX3_readTd_42 : decode cX3_readTd 42 = .ok (.iconst 1, 1) := by decide +kernel
theorem dX3_readTd_43 : decode cX3_readTd 43 = .ok (.if_icmp .ne 11, 3) := by decide +kernel
theorem dX3_readTd_46 : decode cX3_readTd 46 = .ok (.aload_n 0, 1) := by decide +kernel
theorem dX3_readTd_47 : decode cX3_readTd 47 = .ok (.iload_n 3, 1) := by decide +kernel
theorem dX3_readTd_48 : decode cX3_readTd 48 = .ok (.putfield 45, 3) := by decide +kernel
theorem dX3_readTd_51 : decode cX3_readTd 51 = .ok (.goto 22, 3) := by decide +kernel
theorem dX3_readTd_54 : decode cX3_readTd 54 = .ok (.iload_n 3, 1) := by decide +kernel
theorem dX3_readTd_55 : decode cX3_readTd 55 = .ok (.iconst 1, 1) := by decide +kernel
theorem dX3_readTd_56 : decode cX3_readTd 56 = .ok (.if_icmp .ne 17, 3) := by decide +kernel
theorem dX3_readTd_59 : decode cX3_readTd 59 = .ok (.aload_n 0, 1) := by decide +kernel
theorem dX3_readTd_60 : decode cX3_readTd 60 = .ok (.getfield 62, 3) := by decide +kernel
theorem dX3_readTd_63 : decode cX3_readTd 63 = .ok (.ifCond .ne 10, 3) := by decide +kernel
theorem dX3_readTd_66 : decode cX3_readTd 66 = .ok (.aload_n 0, 1) := by decide +kernel
theorem dX3_readTd_67 : decode cX3_readTd 67 = .ok (.iload_n 1, 1) := by decide +kernel
theorem dX3_readTd_68 : decode cX3_readTd 68 = .ok (.iconst 1, 1) := by decide +kernel
theorem dX3_readTd_69 : decode cX3_readTd 69 = .ok (.iadd, 1) := by decide +kernel
theorem dX3_readTd_70 : decode cX3_readTd 70 = .ok (.putfield 62, 3) := by decide +kernel
theorem dX3_readTd_73 : decode cX3_readTd 73 = .ok (.iload_n 3, 1) := by decide +kernel
theorem dX3_readTd_74 : decode cX3_readTd 74 = .ok (.ifCond .eq 8, 3) := by decide +kernel
theorem dX3_readTd_77 : decode cX3_readTd 77 = .ok (.aload_n 0, 1) := by decide +kernel
theorem dX3_readTd_78 : decode cX3_readTd 78 = .ok (.iconst 1, 1) := by decide +kernel
theorem dX3_readTd_79 : decode cX3_readTd 79 = .ok (.putfield 54, 3) := by decide +kernel
theorem dX3_readTd_82 : decode cX3_readTd 82 = .ok (.iconst 0, 1) := by decide +kernel
theorem dX3_readTd_83 : decode cX3_readTd 83 = .ok (.ireturn, 1) := by decide +kernel
set_option maxRecDepth 100000 in
set_option maxHeartbeats 4000000 in
theorem c_X3_readTd_116 {hp : List gA} {q : rq} {l : List Int32} {y : Int32} {z : Int32} (HQ : rqH hp 116 q l) : gM yX3_readTd cX3_readTd 4 ((some .int)) 0 0 [.ref 116, .int y, .int z] (hp) (0) (0) (fun v h => v = some (.int (rX3_readTd q y z).1) ∧ (rqH h 116 (rX3_readTd q y z).2 l ∧ rqF 116 hp h)) := by
  refine gM_of (ls0 := [some (.ref 116), some (.int y), some (.int z), none]) (by decide +kernel) (Nat.le_of_ble_eq_true rfl) rfl fun X C E => ?_
  refine g_iload_n (q := 1) C dX3_readTd_0 rfl rfl ?_
  refine g_bipush (v := 15) (q := 3) C dX3_readTd_1 (by decide) rfl ?_
  refine g_iand (q := 4) C dX3_readTd_3 rfl ?_
  refine g_istore_n (q := 5) C dX3_readTd_4 (Nat.le_of_ble_eq_true rfl) (by simp only [gset]; rfl) rfl ?_
  refine g_aload_n (q := 6) C dX3_readTd_5 rfl rfl ?_
  refine g_iload_n (q := 7) C dX3_readTd_6 rfl rfl ?_
  refine g_iconst (v := 4) (q := 8) C dX3_readTd_7 (by decide) rfl ?_
  refine g_ishr (q := 9) C dX3_readTd_8 rfl ?_
  refine g_putfield (q := 12) C fX3_76 dX3_readTd_9 rfl HQ.1 (Nat.le_of_ble_eq_true rfl) (Or.inl rfl) rfl rfl (by intro z h; cases h) ?_
  refine rqput (j := 9) (x := (z >>> (4 &&& 31))) HQ rfl fun h1 HQ1 fq1 => ?_
  refine g_iload_n (q := 13) C dX3_readTd_12 rfl rfl ?_
  refine g_if_eq (t := 27) (q := 16) C dX3_readTd_13 (by decide) rfl (fun c_13 => ?_) (fun c_13 => ?_)
  ·
    refine g_iload_n (q := 28) C dX3_readTd_27 rfl rfl ?_
    refine g_iconst (v := 4) (q := 29) C dX3_readTd_28 (by decide) rfl ?_
    refine g_icmp_ne (t := 41) (q := 32) C dX3_readTd_29 (by decide) rfl (fun c_29 => ?_) (fun c_29 => ?_)
    ·
      refine g_iload_n (q := 42) C dX3_readTd_41 rfl rfl ?_
      refine g_iconst (v := 1) (q := 43) C dX3_readTd_42 (by decide) rfl ?_
      refine g_icmp_ne (t := 54) (q := 46) C dX3_readTd_43 (by decide) rfl (fun c_43 => ?_) (fun c_43 => ?_)
      ·
        refine g_iload_n (q := 55) C dX3_readTd_54 rfl rfl ?_
        refine g_iconst (v := 1) (q := 56) C dX3_readTd_55 (by decide) rfl ?_
        refine g_icmp_ne (t := 73) (q := 59) C dX3_readTd_56 (by decide) rfl (fun c_56 => ?_) (fun c_56 => ?_)
        ·
          refine g_iload_n (q := 74) C dX3_readTd_73 rfl rfl ?_
          refine g_if_eq (t := 82) (q := 77) C dX3_readTd_74 (by decide) rfl (fun c_74 => ?_) (fun c_74 => ?_)
          ·
            refine g_iconst (v := 0) (q := 83) C dX3_readTd_82 (by decide) rfl ?_
            have e : rX3_readTd q y z = (0, (q.set 9 (z >>> (4 &&& 31)))) := ((if_pos c_13).trans ((if_neg c_29).trans ((if_neg c_43).trans ((if_neg c_56).trans (if_pos c_74)))))
            exact E.1 _ _ _ _ _ _ _ dX3_readTd_83 rfl rfl (Nat.le_of_ble_eq_true rfl) (Nat.le_of_ble_eq_true rfl) ⟨by rw [e], by rw [e]; exact ⟨HQ1, fq1⟩⟩
          ·
            refine g_aload_n (q := 78) C dX3_readTd_77 rfl rfl ?_
            refine g_iconst (v := 1) (q := 79) C dX3_readTd_78 (by decide) rfl ?_
            refine g_putfield (q := 82) C fX3_54 dX3_readTd_79 rfl HQ1.1 (Nat.le_of_ble_eq_true rfl) (Or.inl rfl) rfl rfl (by intro z h; cases h) ?_
            refine rqput (j := 6) (x := 1) HQ1 rfl fun h2 HQ2 fq2 => ?_
            refine g_iconst (v := 0) (q := 83) C dX3_readTd_82 (by decide) rfl ?_
            have e : rX3_readTd q y z = (0, ((q.set 9 (z >>> (4 &&& 31))).set 6 1)) := ((if_pos c_13).trans ((if_neg c_29).trans ((if_neg c_43).trans ((if_neg c_56).trans (if_neg c_74)))))
            exact E.1 _ _ _ _ _ _ _ dX3_readTd_83 rfl rfl (Nat.le_of_ble_eq_true rfl) (Nat.le_of_ble_eq_true rfl) ⟨by rw [e], by rw [e]; exact ⟨HQ2, (rqF.trans fq1 fq2)⟩⟩
        ·
          refine g_aload_n (q := 60) C dX3_readTd_59 rfl rfl ?_
          refine g_getfield (v := .int ((q.f 10))) (q := 63) C fX3_62 dX3_readTd_60 rfl HQ1.1 rfl ?_
          refine g_if_ne (t := 73) (q := 66) C dX3_readTd_63 (by decide) rfl (fun c_63 => ?_) (fun c_63 => ?_)
          ·
            refine g_iload_n (q := 74) C dX3_readTd_73 rfl rfl ?_
            refine g_if_eq (t := 82) (q := 77) C dX3_readTd_74 (by decide) rfl (fun c_74 => ?_) (fun c_74 => ?_)
            ·
              refine g_iconst (v := 0) (q := 83) C dX3_readTd_82 (by decide) rfl ?_
              have e : rX3_readTd q y z = (0, (q.set 9 (z >>> (4 &&& 31)))) := ((if_pos c_13).trans ((if_neg c_29).trans ((if_neg c_43).trans ((if_pos c_56).trans ((if_neg c_63).trans (if_pos c_74))))))
              exact E.1 _ _ _ _ _ _ _ dX3_readTd_83 rfl rfl (Nat.le_of_ble_eq_true rfl) (Nat.le_of_ble_eq_true rfl) ⟨by rw [e], by rw [e]; exact ⟨HQ1, fq1⟩⟩
            ·
              refine g_aload_n (q := 78) C dX3_readTd_77 rfl rfl ?_
              refine g_iconst (v := 1) (q := 79) C dX3_readTd_78 (by decide) rfl ?_
              refine g_putfield (q := 82) C fX3_54 dX3_readTd_79 rfl HQ1.1 (Nat.le_of_ble_eq_true rfl) (Or.inl rfl) rfl rfl (by intro z h; cases h) ?_
              refine rqput (j := 6) (x := 1) HQ1 rfl fun h3 HQ3 fq3 => ?_
              refine g_iconst (v := 0) (q := 83) C dX3_readTd_82 (by decide) rfl ?_
              have e : rX3_readTd q y z = (0, ((q.set 9 (z >>> (4 &&& 31))).set 6 1)) := ((if_pos c_13).trans ((if_neg c_29).trans ((if_neg c_43).trans ((if_pos c_56).trans ((if_neg c_63).trans (if_neg c_74))))))
              exact E.1 _ _ _ _ _ _ _ dX3_readTd_83 rfl rfl (Nat.le_of_ble_eq_true rfl) (Nat.le_of_ble_eq_true rfl) ⟨by rw [e], by rw [e]; exact ⟨HQ3, (rqF.trans fq1 fq3)⟩⟩
          ·
            refine g_aload_n (q := 67) C dX3_readTd_66 rfl rfl ?_
            refine g_iload_n (q := 68) C dX3_readTd_67 rfl rfl ?_
            refine g_iconst (v := 1) (q := 69) C dX3_readTd_68 (by decide) rfl ?_
            refine g_iadd (q := 70) C dX3_readTd_69 rfl ?_
            refine g_putfield (q := 73) C fX3_62 dX3_readTd_70 rfl HQ1.1 (Nat.le_of_ble_eq_true rfl) (Or.inl rfl) rfl rfl (by intro z h; cases h) ?_
            refine rqput (j := 10) (x := (y + 1)) HQ1 rfl fun h4 HQ4 fq4 => ?_
            refine g_iload_n (q := 74) C dX3_readTd_73 rfl rfl ?_
            refine g_if_eq (t := 82) (q := 77) C dX3_readTd_74 (by decide) rfl (fun c_74 => ?_) (fun c_74 => ?_)
            ·
              refine g_iconst (v := 0) (q := 83) C dX3_readTd_82 (by decide) rfl ?_
              have e : rX3_readTd q y z = (0, ((q.set 9 (z >>> (4 &&& 31))).set 10 (y + 1))) := ((if_pos c_13).trans ((if_neg c_29).trans ((if_neg c_43).trans ((if_pos c_56).trans ((if_pos c_63).trans (if_pos c_74))))))
              exact E.1 _ _ _ _ _ _ _ dX3_readTd_83 rfl rfl (Nat.le_of_ble_eq_true rfl) (Nat.le_of_ble_eq_true rfl) ⟨by rw [e], by rw [e]; exact ⟨HQ4, (rqF.trans fq1 fq4)⟩⟩
            ·
              refine g_aload_n (q := 78) C dX3_readTd_77 rfl rfl ?_
              refine g_iconst (v := 1) (q := 79) C dX3_readTd_78 (by decide) rfl ?_
              refine g_putfield (q := 82) C fX3_54 dX3_readTd_79 rfl HQ4.1 (Nat.le_of_ble_eq_true rfl) (Or.inl rfl) rfl rfl (by intro z h; cases h) ?_
              refine rqput (j := 6) (x := 1) HQ4 rfl fun h5 HQ5 fq5 => ?_
              refine g_iconst (v := 0) (q := 83) C dX3_readTd_82 (by decide) rfl ?_
              have e : rX3_readTd q y z = (0, (((q.set 9 (z >>> (4 &&& 31))).set 10 (y + 1)).set 6 1)) := ((if_pos c_13).trans ((if_neg c_29).trans ((if_neg c_43).trans ((if_pos c_56).trans ((if_pos c_63).trans (if_neg c_74))))))
              exact E.1 _ _ _ _ _ _ _ dX3_readTd_83 rfl rfl (Nat.le_of_ble_eq_true rfl) (Nat.le_of_ble_eq_true rfl) ⟨by rw [e], by rw [e]; exact ⟨HQ5, (rqF.trans (rqF.trans fq1 fq4) fq5)⟩⟩
      ·
        refine g_aload_n (q := 47) C dX3_readTd_46 rfl rfl ?_
        refine g_iload_n (q := 48) C dX3_readTd_47 rfl rfl ?_
        refine g_putfield (q := 51) C fX3_45 dX3_readTd_48 rfl HQ1.1 (Nat.le_of_ble_eq_true rfl) (Or.inl rfl) rfl rfl (by intro z h; cases h) ?_
        refine rqput (j := 3) (x := (z &&& 15)) HQ1 rfl fun h6 HQ6 fq6 => ?_
        refine g_goto (q := 73) C dX3_readTd_51 (by decide) ?_
        refine g_iload_n (q := 74) C dX3_readTd_73 rfl rfl ?_
        refine g_if_eq (t := 82) (q := 77) C dX3_readTd_74 (by decide) rfl (fun c_74 => ?_) (fun c_74 => ?_)
        ·
          refine g_iconst (v := 0) (q := 83) C dX3_readTd_82 (by decide) rfl ?_
          have e : rX3_readTd q y z = (0, ((q.set 9 (z >>> (4 &&& 31))).set 3 (z &&& 15))) := ((if_pos c_13).trans ((if_neg c_29).trans ((if_pos c_43).trans (if_pos c_74))))
          exact E.1 _ _ _ _ _ _ _ dX3_readTd_83 rfl rfl (Nat.le_of_ble_eq_true rfl) (Nat.le_of_ble_eq_true rfl) ⟨by rw [e], by rw [e]; exact ⟨HQ6, (rqF.trans fq1 fq6)⟩⟩
        ·
          refine g_aload_n (q := 78) C dX3_readTd_77 rfl rfl ?_
          refine g_iconst (v := 1) (q := 79) C dX3_readTd_78 (by decide) rfl ?_
          refine g_putfield (q := 82) C fX3_54 dX3_readTd_79 rfl HQ6.1 (Nat.le_of_ble_eq_true rfl) (Or.inl rfl) rfl rfl (by intro z h; cases h) ?_
          refine rqput (j := 6) (x := 1) HQ6 rfl fun h7 HQ7 fq7 => ?_
          refine g_iconst (v := 0) (q := 83) C dX3_readTd_82 (by decide) rfl ?_
          have e : rX3_readTd q y z = (0, (((q.set 9 (z >>> (4 &&& 31))).set 3 (z &&& 15)).set 6 1)) := ((if_pos c_13).trans ((if_neg c_29).trans ((if_pos c_43).trans (if_neg c_74))))
          exact E.1 _ _ _ _ _ _ _ dX3_readTd_83 rfl rfl (Nat.le_of_ble_eq_true rfl) (Nat.le_of_ble_eq_true rfl) ⟨by rw [e], by rw [e]; exact ⟨HQ7, (rqF.trans (rqF.trans fq1 fq6) fq7)⟩⟩
    ·
      refine g_aload_n (q := 33) C dX3_readTd_32 rfl rfl ?_
      refine g_getfield (v := .int ((z >>> (4 &&& 31)))) (q := 36) C fX3_76 dX3_readTd_33 rfl HQ1.1 rfl ?_
      refine g_if_eq (t := 41) (q := 39) C dX3_readTd_36 (by decide) rfl (fun c_36 => ?_) (fun c_36 => ?_)
      ·
        refine g_iload_n (q := 42) C dX3_readTd_41 rfl rfl ?_
        refine g_iconst (v := 1) (q := 43) C dX3_readTd_42 (by decide) rfl ?_
        refine g_icmp_ne (t := 54) (q := 46) C dX3_readTd_43 (by decide) rfl (fun c_43 => ?_) (fun c_43 => ?_)
        ·
          refine g_iload_n (q := 55) C dX3_readTd_54 rfl rfl ?_
          refine g_iconst (v := 1) (q := 56) C dX3_readTd_55 (by decide) rfl ?_
          refine g_icmp_ne (t := 73) (q := 59) C dX3_readTd_56 (by decide) rfl (fun c_56 => ?_) (fun c_56 => ?_)
          ·
            refine g_iload_n (q := 74) C dX3_readTd_73 rfl rfl ?_
            refine g_if_eq (t := 82) (q := 77) C dX3_readTd_74 (by decide) rfl (fun c_74 => ?_) (fun c_74 => ?_)
            ·
              refine g_iconst (v := 0) (q := 83) C dX3_readTd_82 (by decide) rfl ?_
              have e : rX3_readTd q y z = (0, (q.set 9 (z >>> (4 &&& 31)))) := ((if_pos c_13).trans ((if_pos c_29).trans ((if_pos c_36).trans ((if_neg c_43).trans ((if_neg c_56).trans (if_pos c_74))))))
              exact E.1 _ _ _ _ _ _ _ dX3_readTd_83 rfl rfl (Nat.le_of_ble_eq_true rfl) (Nat.le_of_ble_eq_true rfl) ⟨by rw [e], by rw [e]; exact ⟨HQ1, fq1⟩⟩
            ·
              refine g_aload_n (q := 78) C dX3_readTd_77 rfl rfl ?_
              refine g_iconst (v := 1) (q := 79) C dX3_readTd_78 (by decide) rfl ?_
              refine g_putfield (q := 82) C fX3_54 dX3_readTd_79 rfl HQ1.1 (Nat.le_of_ble_eq_true rfl) (Or.inl rfl) rfl rfl (by intro z h; cases h) ?_
              refine rqput (j := 6) (x := 1) HQ1 rfl fun h8 HQ8 fq8 => ?_
              refine g_iconst (v := 0) (q := 83) C dX3_readTd_82 (by decide) rfl ?_
              have e : rX3_readTd q y z = (0, ((q.set 9 (z >>> (4 &&& 31))).set 6 1)) := ((if_pos c_13).trans ((if_pos c_29).trans ((if_pos c_36).trans ((if_neg c_43).trans ((if_neg c_56).trans (if_neg c_74))))))
              exact E.1 _ _ _ _ _ _ _ dX3_readTd_83 rfl rfl (Nat.le_of_ble_eq_true rfl) (Nat.le_of_ble_eq_true rfl) ⟨by rw [e], by rw [e]; exact ⟨HQ8, (rqF.trans fq1 fq8)⟩⟩
          ·
            refine g_aload_n (q := 60) C dX3_readTd_59 rfl rfl ?_
            refine g_getfield (v := .int ((q.f 10))) (q := 63) C fX3_62 dX3_readTd_60 rfl HQ1.1 rfl ?_
            refine g_if_ne (t := 73) (q := 66) C dX3_readTd_63 (by decide) rfl (fun c_63 => ?_) (fun c_63 => ?_)
            ·
              refine g_iload_n (q := 74) C dX3_readTd_73 rfl rfl ?_
              refine g_if_eq (t := 82) (q := 77) C dX3_readTd_74 (by decide) rfl (fun c_74 => ?_) (fun c_74 => ?_)
              ·
                refine g_iconst (v := 0) (q := 83) C dX3_readTd_82 (by decide) rfl ?_
                have e : rX3_readTd q y z = (0, (q.set 9 (z >>> (4 &&& 31)))) := ((if_pos c_13).trans ((if_pos c_29).trans ((if_pos c_36).trans ((if_neg c_43).trans ((if_pos c_56).trans ((if_neg c_63).trans (if_pos c_74)))))))
                exact E.1 _ _ _ _ _ _ _ dX3_readTd_83 rfl rfl (Nat.le_of_ble_eq_true rfl) (Nat.le_of_ble_eq_true rfl) ⟨by rw [e], by rw [e]; exact ⟨HQ1, fq1⟩⟩
              ·
                refine g_aload_n (q := 78) C dX3_readTd_77 rfl rfl ?_
                refine g_iconst (v := 1) (q := 79) C dX3_readTd_78 (by decide) rfl ?_
                refine g_putfield (q := 82) C fX3_54 dX3_readTd_79 rfl HQ1.1 (Nat.le_of_ble_eq_true rfl) (Or.inl rfl) rfl rfl (by intro z h; cases h) ?_
                refine rqput (j := 6) (x := 1) HQ1 rfl fun h9 HQ9 fq9 => ?_
                refine g_iconst (v := 0) (q := 83) C dX3_readTd_82 (by decide) rfl ?_
                have e : rX3_readTd q y z = (0, ((q.set 9 (z >>> (4 &&& 31))).set 6 1)) := ((if_pos c_13).trans ((if_pos c_29).trans ((if_pos c_36).trans ((if_neg c_43).trans ((if_pos c_56).trans ((if_neg c_63).trans (if_neg c_74)))))))
                exact E.1 _ _ _ _ _ _ _ dX3_readTd_83 rfl rfl (Nat.le_of_ble_eq_true rfl) (Nat.le_of_ble_eq_true rfl) ⟨by rw [e], by rw [e]; exact ⟨HQ9, (rqF.trans fq1 fq9)⟩⟩
            ·
              refine g_aload_n (q := 67) C dX3_readTd_66 rfl rfl ?_
              refine g_iload_n (q := 68) C dX3_readTd_67 rfl rfl ?_
              refine g_iconst (v := 1) (q := 69) C dX3_readTd_68 (by decide) rfl ?_
              refine g_iadd (q := 70) C dX3_readTd_69 rfl ?_
              refine g_putfield (q := 73) C fX3_62 dX3_readTd_70 rfl HQ1.1 (Nat.le_of_ble_eq_true rfl) (Or.inl rfl) rfl rfl (by intro z h; cases h) ?_
              refine rqput (j := 10) (x := (y + 1)) HQ1 rfl fun h10 HQ10 fq10 => ?_
              refine g_iload_n (q := 74) C dX3_readTd_73 rfl rfl ?_
              refine g_if_eq (t := 82) (q := 77) C dX3_readTd_74 (by decide) rfl (fun c_74 => ?_) (fun c_74 => ?_)
              ·
                refine g_iconst (v := 0) (q := 83) C dX3_readTd_82 (by decide) rfl ?_
                have e : rX3_readTd q y z = (0, ((q.set 9 (z >>> (4 &&& 31))).set 10 (y + 1))) := ((if_pos c_13).trans ((if_pos c_29).trans ((if_pos c_36).trans ((if_neg c_43).trans ((if_pos c_56).trans ((if_pos c_63).trans (if_pos c_74)))))))
                exact E.1 _ _ _ _ _ _ _ dX3_readTd_83 rfl rfl (Nat.le_of_ble_eq_true rfl) (Nat.le_of_ble_eq_true rfl) ⟨by rw [e], by rw [e]; exact ⟨HQ10, (rqF.trans fq1 fq10)⟩⟩
              ·
                refine g_aload_n (q := 78) C dX3_readTd_77 rfl rfl ?_
                refine g_iconst (v := 1) (q := 79) C dX3_readTd_78 (by decide) rfl ?_
                refine g_putfield (q := 82) C fX3_54 dX3_readTd_79 rfl HQ10.1 (Nat.le_of_ble_eq_true rfl) (Or.inl rfl) rfl rfl (by intro z h; cases h) ?_
                refine rqput (j := 6) (x := 1) HQ10 rfl fun h11 HQ11 fq11 => ?_
                refine g_iconst (v := 0) (q := 83) C dX3_readTd_82 (by decide) rfl ?_
                have e : rX3_readTd q y z = (0, (((q.set 9 (z >>> (4 &&& 31))).set 10 (y + 1)).set 6 1)) := ((if_pos c_13).trans ((if_pos c_29).trans ((if_pos c_36).trans ((if_neg c_43).trans ((if_pos c_56).trans ((if_pos c_63).trans (if_neg c_74)))))))
                exact E.1 _ _ _ _ _ _ _ dX3_readTd_83 rfl rfl (Nat.le_of_ble_eq_true rfl) (Nat.le_of_ble_eq_true rfl) ⟨by rw [e], by rw [e]; exact ⟨HQ11, (rqF.trans (rqF.trans fq1 fq10) fq11)⟩⟩
        ·
          refine g_aload_n (q := 47) C dX3_readTd_46 rfl rfl ?_
          refine g_iload_n (q := 48) C dX3_readTd_47 rfl rfl ?_
          refine g_putfield (q := 51) C fX3_45 dX3_readTd_48 rfl HQ1.1 (Nat.le_of_ble_eq_true rfl) (Or.inl rfl) rfl rfl (by intro z h; cases h) ?_
          refine rqput (j := 3) (x := (z &&& 15)) HQ1 rfl fun h12 HQ12 fq12 => ?_
          refine g_goto (q := 73) C dX3_readTd_51 (by decide) ?_
          refine g_iload_n (q := 74) C dX3_readTd_73 rfl rfl ?_
          refine g_if_eq (t := 82) (q := 77) C dX3_readTd_74 (by decide) rfl (fun c_74 => ?_) (fun c_74 => ?_)
          ·
            refine g_iconst (v := 0) (q := 83) C dX3_readTd_82 (by decide) rfl ?_
            have e : rX3_readTd q y z = (0, ((q.set 9 (z >>> (4 &&& 31))).set 3 (z &&& 15))) := ((if_pos c_13).trans ((if_pos c_29).trans ((if_pos c_36).trans ((if_pos c_43).trans (if_pos c_74)))))
            exact E.1 _ _ _ _ _ _ _ dX3_readTd_83 rfl rfl (Nat.le_of_ble_eq_true rfl) (Nat.le_of_ble_eq_true rfl) ⟨by rw [e], by rw [e]; exact ⟨HQ12, (rqF.trans fq1 fq12)⟩⟩
          ·
            refine g_aload_n (q := 78) C dX3_readTd_77 rfl rfl ?_
            refine g_iconst (v := 1) (q := 79) C dX3_readTd_78 (by decide) rfl ?_
            refine g_putfield (q := 82) C fX3_54 dX3_readTd_79 rfl HQ12.1 (Nat.le_of_ble_eq_true rfl) (Or.inl rfl) rfl rfl (by intro z h; cases h) ?_
            refine rqput (j := 6) (x := 1) HQ12 rfl fun h13 HQ13 fq13 => ?_
            refine g_iconst (v := 0) (q := 83) C dX3_readTd_82 (by decide) rfl ?_
            have e : rX3_readTd q y z = (0, (((q.set 9 (z >>> (4 &&& 31))).set 3 (z &&& 15)).set 6 1)) := ((if_pos c_13).trans ((if_pos c_29).trans ((if_pos c_36).trans ((if_pos c_43).trans (if_neg c_74)))))
            exact E.1 _ _ _ _ _ _ _ dX3_readTd_83 rfl rfl (Nat.le_of_ble_eq_true rfl) (Nat.le_of_ble_eq_true rfl) ⟨by rw [e], by rw [e]; exact ⟨HQ13, (rqF.trans (rqF.trans fq1 fq12) fq13)⟩⟩
      ·
        refine g_iconst (v := 3) (q := 40) C dX3_readTd_39 (by decide) rfl ?_
        have e : rX3_readTd q y z = (3, (q.set 9 (z >>> (4 &&& 31)))) := ((if_pos c_13).trans ((if_pos c_29).trans (if_neg c_36)))
        exact E.1 _ _ _ _ _ _ _ dX3_readTd_40 rfl rfl (Nat.le_of_ble_eq_true rfl) (Nat.le_of_ble_eq_true rfl) ⟨by rw [e], by rw [e]; exact ⟨HQ1, fq1⟩⟩
  ·
    refine g_iload_n (q := 17) C dX3_readTd_16 rfl rfl ?_
    refine g_iconst (v := 1) (q := 18) C dX3_readTd_17 (by decide) rfl ?_
    refine g_icmp_eq (t := 27) (q := 21) C dX3_readTd_18 (by decide) rfl (fun c_18 => ?_) (fun c_18 => ?_)
    ·
      refine g_iload_n (q := 28) C dX3_readTd_27 rfl rfl ?_
      refine g_iconst (v := 4) (q := 29) C dX3_readTd_28 (by decide) rfl ?_
      refine g_icmp_ne (t := 41) (q := 32) C dX3_readTd_29 (by decide) rfl (fun c_29 => ?_) (fun c_29 => ?_)
      ·
        refine g_iload_n (q := 42) C dX3_readTd_41 rfl rfl ?_
        refine g_iconst (v := 1) (q := 43) C dX3_readTd_42 (by decide) rfl ?_
        refine g_icmp_ne (t := 54) (q := 46) C dX3_readTd_43 (by decide) rfl (fun c_43 => ?_) (fun c_43 => ?_)
        ·
          refine g_iload_n (q := 55) C dX3_readTd_54 rfl rfl ?_
          refine g_iconst (v := 1) (q := 56) C dX3_readTd_55 (by decide) rfl ?_
          refine g_icmp_ne (t := 73) (q := 59) C dX3_readTd_56 (by decide) rfl (fun c_56 => ?_) (fun c_56 => ?_)
          ·
            refine g_iload_n (q := 74) C dX3_readTd_73 rfl rfl ?_
            refine g_if_eq (t := 82) (q := 77) C dX3_readTd_74 (by decide) rfl (fun c_74 => ?_) (fun c_74 => ?_)
            ·
              refine g_iconst (v := 0) (q := 83) C dX3_readTd_82 (by decide) rfl ?_
              have e : rX3_readTd q y z = (0, (q.set 9 (z >>> (4 &&& 31)))) := ((if_neg c_13).trans ((if_pos c_18).trans ((if_neg c_29).trans ((if_neg c_43).trans ((if_neg c_56).trans (if_pos c_74))))))
              exact E.1 _ _ _ _ _ _ _ dX3_readTd_83 rfl rfl (Nat.le_of_ble_eq_true rfl) (Nat.le_of_ble_eq_true rfl) ⟨by rw [e], by rw [e]; exact ⟨HQ1, fq1⟩⟩
            ·
              refine g_aload_n (q := 78) C dX3_readTd_77 rfl rfl ?_
              refine g_iconst (v := 1) (q := 79) C dX3_readTd_78 (by decide) rfl ?_
              refine g_putfield (q := 82) C fX3_54 dX3_readTd_79 rfl HQ1.1 (Nat.le_of_ble_eq_true rfl) (Or.inl rfl) rfl rfl (by intro z h; cases h) ?_
              refine rqput (j := 6) (x := 1) HQ1 rfl fun h14 HQ14 fq14 => ?_
              refine g_iconst (v := 0) (q := 83) C dX3_readTd_82 (by decide) rfl ?_
              have e : rX3_readTd q y z = (0, ((q.set 9 (z >>> (4 &&& 31))).set 6 1)) := ((if_neg c_13).trans ((if_pos c_18).trans ((if_neg c_29).trans ((if_neg c_43).trans ((if_neg c_56).trans (if_neg c_74))))))
              exact E.1 _ _ _ _ _ _ _ dX3_readTd_83 rfl rfl (Nat.le_of_ble_eq_true rfl) (Nat.le_of_ble_eq_true rfl) ⟨by rw [e], by rw [e]; exact ⟨HQ14, (rqF.trans fq1 fq14)⟩⟩
          ·
            refine g_aload_n (q := 60) C dX3_readTd_59 rfl rfl ?_
            refine g_getfield (v := .int ((q.f 10))) (q := 63) C fX3_62 dX3_readTd_60 rfl HQ1.1 rfl ?_
            refine g_if_ne (t := 73) (q := 66) C dX3_readTd_63 (by decide) rfl (fun c_63 => ?_) (fun c_63 => ?_)
            ·
              refine g_iload_n (q := 74) C dX3_readTd_73 rfl rfl ?_
              refine g_if_eq (t := 82) (q := 77) C dX3_readTd_74 (by decide) rfl (fun c_74 => ?_) (fun c_74 => ?_)
              ·
                refine g_iconst (v := 0) (q := 83) C dX3_readTd_82 (by decide) rfl ?_
                have e : rX3_readTd q y z = (0, (q.set 9 (z >>> (4 &&& 31)))) := ((if_neg c_13).trans ((if_pos c_18).trans ((if_neg c_29).trans ((if_neg c_43).trans ((if_pos c_56).trans ((if_neg c_63).trans (if_pos c_74)))))))
                exact E.1 _ _ _ _ _ _ _ dX3_readTd_83 rfl rfl (Nat.le_of_ble_eq_true rfl) (Nat.le_of_ble_eq_true rfl) ⟨by rw [e], by rw [e]; exact ⟨HQ1, fq1⟩⟩
              ·
                refine g_aload_n (q := 78) C dX3_readTd_77 rfl rfl ?_
                refine g_iconst (v := 1) (q := 79) C dX3_readTd_78 (by decide) rfl ?_
                refine g_putfield (q := 82) C fX3_54 dX3_readTd_79 rfl HQ1.1 (Nat.le_of_ble_eq_true rfl) (Or.inl rfl) rfl rfl (by intro z h; cases h) ?_
                refine rqput (j := 6) (x := 1) HQ1 rfl fun h15 HQ15 fq15 => ?_
                refine g_iconst (v := 0) (q := 83) C dX3_readTd_82 (by decide) rfl ?_
                have e : rX3_readTd q y z = (0, ((q.set 9 (z >>> (4 &&& 31))).set 6 1)) := ((if_neg c_13).trans ((if_pos c_18).trans ((if_neg c_29).trans ((if_neg c_43).trans ((if_pos c_56).trans ((if_neg c_63).trans (if_neg c_74)))))))
                exact E.1 _ _ _ _ _ _ _ dX3_readTd_83 rfl rfl (Nat.le_of_ble_eq_true rfl) (Nat.le_of_ble_eq_true rfl) ⟨by rw [e], by rw [e]; exact ⟨HQ15, (rqF.trans fq1 fq15)⟩⟩
            ·
              refine g_aload_n (q := 67) C dX3_readTd_66 rfl rfl ?_
              refine g_iload_n (q := 68) C dX3_readTd_67 rfl rfl ?_
              refine g_iconst (v := 1) (q := 69) C dX3_readTd_68 (by decide) rfl ?_
              refine g_iadd (q := 70) C dX3_readTd_69 rfl ?_
              refine g_putfield (q := 73) C fX3_62 dX3_readTd_70 rfl HQ1.1 (Nat.le_of_ble_eq_true rfl) (Or.inl rfl) rfl rfl (by intro z h; cases h) ?_
              refine rqput (j := 10) (x := (y + 1)) HQ1 rfl fun h16 HQ16 fq16 => ?_
              refine g_iload_n (q := 74) C dX3_readTd_73 rfl rfl ?_
              refine g_if_eq (t := 82) (q := 77) C dX3_readTd_74 (by decide) rfl (fun c_74 => ?_) (fun c_74 => ?_)
              ·
                refine g_iconst (v := 0) (q := 83) C dX3_readTd_82 (by decide) rfl ?_
                have e : rX3_readTd q y z = (0, ((q.set 9 (z >>> (4 &&& 31))).set 10 (y + 1))) := ((if_neg c_13).trans ((if_pos c_18).trans ((if_neg c_29).trans ((if_neg c_43).trans ((if_pos c_56).trans ((if_pos c_63).trans (if_pos c_74)))))))
                exact E.1 _ _ _ _ _ _ _ dX3_readTd_83 rfl rfl (Nat.le_of_ble_eq_true rfl) (Nat.le_of_ble_eq_true rfl) ⟨by rw [e], by rw [e]; exact ⟨HQ16, (rqF.trans fq1 fq16)⟩⟩
              ·
                refine g_aload_n (q := 78) C dX3_readTd_77 rfl rfl ?_
                refine g_iconst (v := 1) (q := 79) C dX3_readTd_78 (by decide) rfl ?_
                refine g_putfield (q := 82) C fX3_54 dX3_readTd_79 rfl HQ16.1 (Nat.le_of_ble_eq_true rfl) (Or.inl rfl) rfl rfl (by intro z h; cases h) ?_
                refine rqput (j := 6) (x := 1) HQ16 rfl fun h17 HQ17 fq17 => ?_
                refine g_iconst (v := 0) (q := 83) C dX3_readTd_82 (by decide) rfl ?_
                have e : rX3_readTd q y z = (0, (((q.set 9 (z >>> (4 &&& 31))).set 10 (y + 1)).set 6 1)) := ((if_neg c_13).trans ((if_pos c_18).trans ((if_neg c_29).trans ((if_neg c_43).trans ((if_pos c_56).trans ((if_pos c_63).trans (if_neg c_74)))))))
                exact E.1 _ _ _ _ _ _ _ dX3_readTd_83 rfl rfl (Nat.le_of_ble_eq_true rfl) (Nat.le_of_ble_eq_true rfl) ⟨by rw [e], by rw [e]; exact ⟨HQ17, (rqF.trans (rqF.trans fq1 fq16) fq17)⟩⟩
        ·
          refine g_aload_n (q := 47) C dX3_readTd_46 rfl rfl ?_
          refine g_iload_n (q := 48) C dX3_readTd_47 rfl rfl ?_
          refine g_putfield (q := 51) C fX3_45 dX3_readTd_48 rfl HQ1.1 (Nat.le_of_ble_eq_true rfl) (Or.inl rfl) rfl rfl (by intro z h; cases h) ?_
          refine rqput (j := 3) (x := (z &&& 15)) HQ1 rfl fun h18 HQ18 fq18 => ?_
          refine g_goto (q := 73) C dX3_readTd_51 (by decide) ?_
          refine g_iload_n (q := 74) C dX3_readTd_73 rfl rfl ?_
          refine g_if_eq (t := 82) (q := 77) C dX3_readTd_74 (by decide) rfl (fun c_74 => ?_) (fun c_74 => ?_)
          ·
            refine g_iconst (v := 0) (q := 83) C dX3_readTd_82 (by decide) rfl ?_
            have e : rX3_readTd q y z = (0, ((q.set 9 (z >>> (4 &&& 31))).set 3 (z &&& 15))) := ((if_neg c_13).trans ((if_pos c_18).trans ((if_neg c_29).trans ((if_pos c_43).trans (if_pos c_74)))))
            exact E.1 _ _ _ _ _ _ _ dX3_readTd_83 rfl rfl (Nat.le_of_ble_eq_true rfl) (Nat.le_of_ble_eq_true rfl) ⟨by rw [e], by rw [e]; exact ⟨HQ18, (rqF.trans fq1 fq18)⟩⟩
          ·
            refine g_aload_n (q := 78) C dX3_readTd_77 rfl rfl ?_
            refine g_iconst (v := 1) (q := 79) C dX3_readTd_78 (by decide) rfl ?_
            refine g_putfield (q := 82) C fX3_54 dX3_readTd_79 rfl HQ18.1 (Nat.le_of_ble_eq_true rfl) (Or.inl rfl) rfl rfl (by intro z h; cases h) ?_
            refine rqput (j := 6) (x := 1) HQ18 rfl fun h19 HQ19 fq19 => ?_
            refine g_iconst (v := 0) (q := 83) C dX3_readTd_82 (by decide) rfl ?_
            have e : rX3_readTd q y z = (0, (((q.set 9 (z >>> (4 &&& 31))).set 3 (z &&& 15)).set 6 1)) := ((if_neg c_13).trans ((if_pos c_18).trans ((if_neg c_29).trans ((if_pos c_43).trans (if_neg c_74)))))
            exact E.1 _ _ _ _ _ _ _ dX3_readTd_83 rfl rfl (Nat.le_of_ble_eq_true rfl) (Nat.le_of_ble_eq_true rfl) ⟨by rw [e], by rw [e]; exact ⟨HQ19, (rqF.trans (rqF.trans fq1 fq18) fq19)⟩⟩
      ·
        refine g_aload_n (q := 33) C dX3_readTd_32 rfl rfl ?_
        refine g_getfield (v := .int ((z >>> (4 &&& 31)))) (q := 36) C fX3_76 dX3_readTd_33 rfl HQ1.1 rfl ?_
        refine g_if_eq (t := 41) (q := 39) C dX3_readTd_36 (by decide) rfl (fun c_36 => ?_) (fun c_36 => ?_)
        ·
          refine g_iload_n (q := 42) C dX3_readTd_41 rfl rfl ?_
          refine g_iconst (v := 1) (q := 43) C dX3_readTd_42 (by decide) rfl ?_
          refine g_icmp_ne (t := 54) (q := 46) C dX3_readTd_43 (by decide) rfl (fun c_43 => ?_) (fun c_43 => ?_)
          ·
            refine g_iload_n (q := 55) C dX3_readTd_54 rfl rfl ?_
            refine g_iconst (v := 1) (q := 56) C dX3_readTd_55 (by decide) rfl ?_
            refine g_icmp_ne (t := 73) (q := 59) C dX3_readTd_56 (by decide) rfl (fun c_56 => ?_) (fun c_56 => ?_)
            ·
              refine g_iload_n (q := 74) C dX3_readTd_73 rfl rfl ?_
              refine g_if_eq (t := 82) (q := 77) C dX3_readTd_74 (by decide) rfl (fun c_74 => ?_) (fun c_74 => ?_)
              ·
                refine g_iconst (v := 0) (q := 83) C dX3_readTd_82 (by decide) rfl ?_
                have e : rX3_readTd q y z = (0, (q.set 9 (z >>> (4 &&& 31)))) := ((if_neg c_13).trans ((if_pos c_18).trans ((if_pos c_29).trans ((if_pos c_36).trans ((if_neg c_43).trans ((if_neg c_56).trans (if_pos c_74)))))))
                exact E.1 _ _ _ _ _ _ _ dX3_readTd_83 rfl rfl (Nat.le_of_ble_eq_true rfl) (Nat.le_of_ble_eq_true rfl) ⟨by rw [e], by rw [e]; exact ⟨HQ1, fq1⟩⟩
              ·
                refine g_aload_n (q := 78) C dX3_readTd_77 rfl rfl ?_
                refine g_iconst (v := 1) (q := 79) C dX3_readTd_78 (by decide) rfl ?_
                refine g_putfield (q := 82) C fX3_54 dX3_readTd_79 rfl HQ1.1 (Nat.le_of_ble_eq_true rfl) (Or.inl rfl) rfl rfl (by intro z h; cases h) ?_
                refine rqput (j := 6) (x := 1) HQ1 rfl fun h20 HQ20 fq20 => ?_
                refine g_iconst (v := 0) (q := 83) C dX3_readTd_82 (by decide) rfl ?_
                have e : rX3_readTd q y z = (0, ((q.set 9 (z >>> (4 &&& 31))).set 6 1)) := ((if_neg c_13).trans ((if_pos c_18).trans ((if_pos c_29).trans ((if_pos c_36).trans ((if_neg c_43).trans ((if_neg c_56).trans (if_neg c_74)))))))
                exact E.1 _ _ _ _ _ _ _ dX3_readTd_83 rfl rfl (Nat.le_of_ble_eq_true rfl) (Nat.le_of_ble_eq_true rfl) ⟨by rw [e], by rw [e]; exact ⟨HQ20, (rqF.trans fq1 fq20)⟩⟩
            ·
              refine g_aload_n (q := 60) C dX3_readTd_59 rfl rfl ?_
              refine g_getfield (v := .int ((q.f 10))) (q := 63) C fX3_62 dX3_readTd_60 rfl HQ1.1 rfl ?_
              refine g_if_ne (t := 73) (q := 66) C dX3_readTd_63 (by decide) rfl (fun c_63 => ?_) (fun c_63 => ?_)
              ·
                refine g_iload_n (q := 74) C dX3_readTd_73 rfl rfl ?_
                refine g_if_eq (t := 82) (q := 77) C dX3_readTd_74 (by decide) rfl (fun c_74 => ?_) (fun c_74 => ?_)
                ·
                  refine g_iconst (v := 0) (q := 83) C dX3_readTd_82 (by decide) rfl ?_
                  have e : rX3_readTd q y z = (0, (q.set 9 (z >>> (4 &&& 31)))) := ((if_neg c_13).trans ((if_pos c_18).trans ((if_pos c_29).trans ((if_pos c_36).trans ((if_neg c_43).trans ((if_pos c_56).trans ((if_neg c_63).trans (if_pos c_74))))))))
                  exact E.1 _ _ _ _ _ _ _ dX3_readTd_83 rfl rfl (Nat.le_of_ble_eq_true rfl) (Nat.le_of_ble_eq_true rfl) ⟨by rw [e], by rw [e]; exact ⟨HQ1, fq1⟩⟩
                ·
                  refine g_aload_n (q := 78) C dX3_readTd_77 rfl rfl ?_
                  refine g_iconst (v := 1) (q := 79) C dX3_readTd_78 (by decide) rfl ?_
                  refine g_putfield (q := 82) C fX3_54 dX3_readTd_79 rfl HQ1.1 (Nat.le_of_ble_eq_true rfl) (Or.inl rfl) rfl rfl (by intro z h; cases h) ?_
                  refine rqput (j := 6) (x := 1) HQ1 rfl fun h21 HQ21 fq21 => ?_
                  refine g_iconst (v := 0) (q := 83) C dX3_readTd_82 (by decide) rfl ?_
                  have e : rX3_readTd q y z = (0, ((q.set 9 (z >>> (4 &&& 31))).set 6 1)) := ((if_neg c_13).trans ((if_pos c_18).trans ((if_pos c_29).trans ((if_pos c_36).trans ((if_neg c_43).trans ((if_pos c_56).trans ((if_neg c_63).trans (if_neg c_74))))))))
                  exact E.1 _ _ _ _ _ _ _ dX3_readTd_83 rfl rfl (Nat.le_of_ble_eq_true rfl) (Nat.le_of_ble_eq_true rfl) ⟨by rw [e], by rw [e]; exact ⟨HQ21, (rqF.trans fq1 fq21)⟩⟩
              ·
                refine g_aload_n (q := 67) C dX3_readTd_66 rfl rfl ?_
                refine g_iload_n (q := 68) C dX3_readTd_67 rfl rfl ?_
                refine g_iconst (v := 1) (q := 69) C dX3_readTd_68 (by decide) rfl ?_
                refine g_iadd (q := 70) C dX3_readTd_69 rfl ?_
                refine g_putfield (q := 73) C fX3_62 dX3_readTd_70 rfl HQ1.1 (Nat.le_of_ble_eq_true rfl) (Or.inl rfl) rfl rfl (by intro z h; cases h) ?_
                refine rqput (j := 10) (x := (y + 1)) HQ1 rfl fun h22 HQ22 fq22 => ?_
                refine g_iload_n (q := 74) C dX3_readTd_73 rfl rfl ?_
                refine g_if_eq (t := 82) (q := 77) C dX3_readTd_74 (by decide) rfl (fun c_74 => ?_) (fun c_74 => ?_)
                ·
                  refine g_iconst (v := 0) (q := 83) C dX3_readTd_82 (by decide) rfl ?_
                  have e : rX3_readTd q y z = (0, ((q.set 9 (z >>> (4 &&& 31))).set 10 (y + 1))) := ((if_neg c_13).trans ((if_pos c_18).trans ((if_pos c_29).trans ((if_pos c_36).trans ((if_neg c_43).trans ((if_pos c_56).trans ((if_pos c_63).trans (if_pos c_74))))))))
                  exact E.1 _ _ _ _ _ _ _ dX3_readTd_83 rfl rfl (Nat.le_of_ble_eq_true rfl) (Nat.le_of_ble_eq_true rfl) ⟨by rw [e], by rw [e]; exact ⟨HQ22, (rqF.trans fq1 fq22)⟩⟩
                ·
                  refine g_aload_n (q := 78) C dX3_readTd_77 rfl rfl ?_
                  refine g_iconst (v := 1) (q := 79) C dX3_readTd_78 (by decide) rfl ?_
                  refine g_putfield (q := 82) C fX3_54 dX3_readTd_79 rfl HQ22.1 (Nat.le_of_ble_eq_true rfl) (Or.inl rfl) rfl rfl (by intro z h; cases h) ?_
                  refine rqput (j := 6) (x := 1) HQ22 rfl fun h23 HQ23 fq23 => ?_
                  refine g_iconst (v := 0) (q := 83) C dX3_readTd_82 (by decide) rfl ?_
                  have e : rX3_readTd q y z = (0, (((q.set 9 (z >>> (4 &&& 31))).set 10 (y + 1)).set 6 1)) := ((if_neg c_13).trans ((if_pos c_18).trans ((if_pos c_29).trans ((if_pos c_36).trans ((if_neg c_43).trans ((if_pos c_56).trans ((if_pos c_63).trans (if_neg c_74))))))))
                  exact E.1 _ _ _ _ _ _ _ dX3_readTd_83 rfl rfl (Nat.le_of_ble_eq_true rfl) (Nat.le_of_ble_eq_true rfl) ⟨by rw [e], by rw [e]; exact ⟨HQ23, (rqF.trans (rqF.trans fq1 fq22) fq23)⟩⟩
          ·
            refine g_aload_n (q := 47) C dX3_readTd_46 rfl rfl ?_
            refine g_iload_n (q := 48) C dX3_readTd_47 rfl rfl ?_
            refine g_putfield (q := 51) C fX3_45 dX3_readTd_48 rfl HQ1.1 (Nat.le_of_ble_eq_true rfl) (Or.inl rfl) rfl rfl (by intro z h; cases h) ?_
            refine rqput (j := 3) (x := (z &&& 15)) HQ1 rfl fun h24 HQ24 fq24 => ?_
            refine g_goto (q := 73) C dX3_readTd_51 (by decide) ?_
            refine g_iload_n (q := 74) C dX3_readTd_73 rfl rfl ?_
            refine g_if_eq (t := 82) (q := 77) C dX3_readTd_74 (by decide) rfl (fun c_74 => ?_) (fun c_74 => ?_)
            ·
              refine g_iconst (v := 0) (q := 83) C dX3_readTd_82 (by decide) rfl ?_
              have e : rX3_readTd q y z = (0, ((q.set 9 (z >>> (4 &&& 31))).set 3 (z &&& 15))) := ((if_neg c_13).trans ((if_pos c_18).trans ((if_pos c_29).trans ((if_pos c_36).trans ((if_pos c_43).trans (if_pos c_74))))))
              exact E.1 _ _ _ _ _ _ _ dX3_readTd_83 rfl rfl (Nat.le_of_ble_eq_true rfl) (Nat.le_of_ble_eq_true rfl) ⟨by rw [e], by rw [e]; exact ⟨HQ24, (rqF.trans fq1 fq24)⟩⟩
            ·
              refine g_aload_n (q := 78) C dX3_readTd_77 rfl rfl ?_
              refine g_iconst (v := 1) (q := 79) C dX3_readTd_78 (by decide) rfl ?_
              refine g_putfield (q := 82) C fX3_54 dX3_readTd_79 rfl HQ24.1 (Nat.le_of_ble_eq_true rfl) (Or.inl rfl) rfl rfl (by intro z h; cases h) ?_
              refine rqput (j := 6) (x := 1) HQ24 rfl fun h25 HQ25 fq25 => ?_
              refine g_iconst (v := 0) (q := 83) C dX3_readTd_82 (by decide) rfl ?_
              have e : rX3_readTd q y z = (0, (((q.set 9 (z >>> (4 &&& 31))).set 3 (z &&& 15)).set 6 1)) := ((if_neg c_13).trans ((if_pos c_18).trans ((if_pos c_29).trans ((if_pos c_36).trans ((if_pos c_43).trans (if_neg c_74))))))
              exact E.1 _ _ _ _ _ _ _ dX3_readTd_83 rfl rfl (Nat.le_of_ble_eq_true rfl) (Nat.le_of_ble_eq_true rfl) ⟨by rw [e], by rw [e]; exact ⟨HQ25, (rqF.trans (rqF.trans fq1 fq24) fq25)⟩⟩
        ·
          refine g_iconst (v := 3) (q := 40) C dX3_readTd_39 (by decide) rfl ?_
          have e : rX3_readTd q y z = (3, (q.set 9 (z >>> (4 &&& 31)))) := ((if_neg c_13).trans ((if_pos c_18).trans ((if_pos c_29).trans (if_neg c_36))))
          exact E.1 _ _ _ _ _ _ _ dX3_readTd_40 rfl rfl (Nat.le_of_ble_eq_true rfl) (Nat.le_of_ble_eq_true rfl) ⟨by rw [e], by rw [e]; exact ⟨HQ1, fq1⟩⟩
    ·
      refine g_iload_n (q := 22) C dX3_readTd_21 rfl rfl ?_
      refine g_bipush (v := 15) (q := 24) C dX3_readTd_22 (by decide) rfl ?_
      refine g_icmp_ne (t := 39) (q := 27) C dX3_readTd_24 (by decide) rfl (fun c_24 => ?_) (fun c_24 => ?_)
      ·
        refine g_iconst (v := 3) (q := 40) C dX3_readTd_39 (by decide) rfl ?_
        have e : rX3_readTd q y z = (3, (q.set 9 (z >>> (4 &&& 31)))) := ((if_neg c_13).trans ((if_neg c_18).trans (if_neg c_24)))
        exact E.1 _ _ _ _ _ _ _ dX3_readTd_40 rfl rfl (Nat.le_of_ble_eq_true rfl) (Nat.le_of_ble_eq_true rfl) ⟨by rw [e], by rw [e]; exact ⟨HQ1, fq1⟩⟩
      ·
        refine g_iload_n (q := 28) C dX3_readTd_27 rfl rfl ?_
        refine g_iconst (v := 4) (q := 29) C dX3_readTd_28 (by decide) rfl ?_
        refine g_icmp_ne (t := 41) (q := 32) C dX3_readTd_29 (by decide) rfl (fun c_29 => ?_) (fun c_29 => ?_)
        ·
          refine g_iload_n (q := 42) C dX3_readTd_41 rfl rfl ?_
          refine g_iconst (v := 1) (q := 43) C dX3_readTd_42 (by decide) rfl ?_
          refine g_icmp_ne (t := 54) (q := 46) C dX3_readTd_43 (by decide) rfl (fun c_43 => ?_) (fun c_43 => ?_)
          ·
            refine g_iload_n (q := 55) C dX3_readTd_54 rfl rfl ?_
            refine g_iconst (v := 1) (q := 56) C dX3_readTd_55 (by decide) rfl ?_
            refine g_icmp_ne (t := 73) (q := 59) C dX3_readTd_56 (by decide) rfl (fun c_56 => ?_) (fun c_56 => ?_)
            ·
              refine g_iload_n (q := 74) C dX3_readTd_73 rfl rfl ?_
              refine g_if_eq (t := 82) (q := 77) C dX3_readTd_74 (by decide) rfl (fun c_74 => ?_) (fun c_74 => ?_)
              ·
                refine g_iconst (v := 0) (q := 83) C dX3_readTd_82 (by decide) rfl ?_
                have e : rX3_readTd q y z = (0, (q.set 9 (z >>> (4 &&& 31)))) := ((if_neg c_13).trans ((if_neg c_18).trans ((if_pos c_24).trans ((if_neg c_29).trans ((if_neg c_43).trans ((if_neg c_56).trans (if_pos c_74)))))))
                exact E.1 _ _ _ _ _ _ _ dX3_readTd_83 rfl rfl (Nat.le_of_ble_eq_true rfl) (Nat.le_of_ble_eq_true rfl) ⟨by rw [e], by rw [e]; exact ⟨HQ1, fq1⟩⟩
              ·
                refine g_aload_n (q := 78) C dX3_readTd_77 rfl rfl ?_
                refine g_iconst (v := 1) (q := 79) C dX3_readTd_78 (by decide) rfl ?_
                refine g_putfield (q := 82) C fX3_54 dX3_readTd_79 rfl HQ1.1 (Nat.le_of_ble_eq_true rfl) (Or.inl rfl) rfl rfl (by intro z h; cases h) ?_
                refine rqput (j := 6) (x := 1) HQ1 rfl fun h26 HQ26 fq26 => ?_
                refine g_iconst (v := 0) (q := 83) C dX3_readTd_82 (by decide) rfl ?_
                have e : rX3_readTd q y z = (0, ((q.set 9 (z >>> (4 &&& 31))).set 6 1)) := ((if_neg c_13).trans ((if_neg c_18).trans ((if_pos c_24).trans ((if_neg c_29).trans ((if_neg c_43).trans ((if_neg c_56).trans (if_neg c_74)))))))
                exact E.1 _ _ _ _ _ _ _ dX3_readTd_83 rfl rfl (Nat.le_of_ble_eq_true rfl) (Nat.le_of_ble_eq_true rfl) ⟨by rw [e], by rw [e]; exact ⟨HQ26, (rqF.trans fq1 fq26)⟩⟩
            ·
              refine g_aload_n (q := 60) C dX3_readTd_59 rfl rfl ?_
              refine g_getfield (v := .int ((q.f 10))) (q := 63) C fX3_62 dX3_readTd_60 rfl HQ1.1 rfl ?_
              refine g_if_ne (t := 73) (q := 66) C dX3_readTd_63 (by decide) rfl (fun c_63 => ?_) (fun c_63 => ?_)
              ·
                refine g_iload_n (q := 74) C dX3_readTd_73 rfl rfl ?_
                refine g_if_eq (t := 82) (q := 77) C dX3_readTd_74 (by decide) rfl (fun c_74 => ?_) (fun c_74 => ?_)
                ·
                  refine g_iconst (v := 0) (q := 83) C dX3_readTd_82 (by decide) rfl ?_
                  have e : rX3_readTd q y z = (0, (q.set 9 (z >>> (4 &&& 31)))) := ((if_neg c_13).trans ((if_neg c_18).trans ((if_pos c_24).trans ((if_neg c_29).trans ((if_neg c_43).trans ((if_pos c_56).trans ((if_neg c_63).trans (if_pos c_74))))))))
                  exact E.1 _ _ _ _ _ _ _ dX3_readTd_83 rfl rfl (Nat.le_of_ble_eq_true rfl) (Nat.le_of_ble_eq_true rfl) ⟨by rw [e], by rw [e]; exact ⟨HQ1, fq1⟩⟩
                ·
                  refine g_aload_n (q := 78) C dX3_readTd_77 rfl rfl ?_
                  refine g_iconst (v := 1) (q := 79) C dX3_readTd_78 (by decide) rfl ?_
                  refine g_putfield (q := 82) C fX3_54 dX3_readTd_79 rfl HQ1.1 (Nat.le_of_ble_eq_true rfl) (Or.inl rfl) rfl rfl (by intro z h; cases h) ?_
                  refine rqput (j := 6) (x := 1) HQ1 rfl fun h27 HQ27 fq27 => ?_
                  refine g_iconst (v := 0) (q := 83) C dX3_readTd_82 (by decide) rfl ?_
                  have e : rX3_readTd q y z = (0, ((q.set 9 (z >>> (4 &&& 31))).set 6 1)) := ((if_neg c_13).trans ((if_neg c_18).trans ((if_pos c_24).trans ((if_neg c_29).trans ((if_neg c_43).trans ((if_pos c_56).trans ((if_neg c_63).trans (if_neg c_74))))))))
                  exact E.1 _ _ _ _ _ _ _ dX3_readTd_83 rfl rfl (Nat.le_of_ble_eq_true rfl) (Nat.le_of_ble_eq_true rfl) ⟨by rw [e], by rw [e]; exact ⟨HQ27, (rqF.trans fq1 fq27)⟩⟩
              ·
                refine g_aload_n (q := 67) C dX3_readTd_66 rfl rfl ?_
                refine g_iload_n (q := 68) C dX3_readTd_67 rfl rfl ?_
                refine g_iconst (v := 1) (q := 69) C dX3_readTd_68 (by decide) rfl ?_
                refine g_iadd (q := 70) C dX3_readTd_69 rfl ?_
                refine g_putfield (q := 73) C fX3_62 dX3_readTd_70 rfl HQ1.1 (Nat.le_of_ble_eq_true rfl) (Or.inl rfl) rfl rfl (by intro z h; cases h) ?_
                refine rqput (j := 10) (x := (y + 1)) HQ1 rfl fun h28 HQ28 fq28 => ?_
                refine g_iload_n (q := 74) C dX3_readTd_73 rfl rfl ?_
                refine g_if_eq (t := 82) (q := 77) C dX3_readTd_74 (by decide) rfl (fun c_74 => ?_) (fun c_74 => ?_)
                ·
                  refine g_iconst (v := 0) (q := 83) C dX3_readTd_82 (by decide) rfl ?_
                  have e : rX3_readTd q y z = (0, ((q.set 9 (z >>> (4 &&& 31))).set 10 (y + 1))) := ((if_neg c_13).trans ((if_neg c_18).trans ((if_pos c_24).trans ((if_neg c_29).trans ((if_neg c_43).trans ((if_pos c_56).trans ((if_pos c_63).trans (if_pos c_74))))))))
                  exact E.1 _ _ _ _ _ _ _ dX3_readTd_83 rfl rfl (Nat.le_of_ble_eq_true rfl) (Nat.le_of_ble_eq_true rfl) ⟨by rw [e], by rw [e]; exact ⟨HQ28, (rqF.trans fq1 fq28)⟩⟩
                ·
                  refine g_aload_n (q := 78) C dX3_readTd_77 rfl rfl ?_
                  refine g_iconst (v := 1) (q := 79) C dX3_readTd_78 (by decide) rfl ?_
                  refine g_putfield (q := 82) C fX3_54 dX3_readTd_79 rfl HQ28.1 (Nat.le_of_ble_eq_true rfl) (Or.inl rfl) rfl rfl (by intro z h; cases h) ?_
                  refine rqput (j := 6) (x := 1) HQ28 rfl fun h29 HQ29 fq29 => ?_
                  refine g_iconst (v := 0) (q := 83) C dX3_readTd_82 (by decide) rfl ?_
                  have e : rX3_readTd q y z = (0, (((q.set 9 (z >>> (4 &&& 31))).set 10 (y + 1)).set 6 1)) := ((if_neg c_13).trans ((if_neg c_18).trans ((if_pos c_24).trans ((if_neg c_29).trans ((if_neg c_43).trans ((if_pos c_56).trans ((if_pos c_63).trans (if_neg c_74))))))))
                  exact E.1 _ _ _ _ _ _ _ dX3_readTd_83 rfl rfl (Nat.le_of_ble_eq_true rfl) (Nat.le_of_ble_eq_true rfl) ⟨by rw [e], by rw [e]; exact ⟨HQ29, (rqF.trans (rqF.trans fq1 fq28) fq29)⟩⟩
          ·
            refine g_aload_n (q := 47) C dX3_readTd_46 rfl rfl ?_
            refine g_iload_n (q := 48) C dX3_readTd_47 rfl rfl ?_
            refine g_putfield (q := 51) C fX3_45 dX3_readTd_48 rfl HQ1.1 (Nat.le_of_ble_eq_true rfl) (Or.inl rfl) rfl rfl (by intro z h; cases h) ?_
            refine rqput (j := 3) (x := (z &&& 15)) HQ1 rfl fun h30 HQ30 fq30 => ?_
            refine g_goto (q := 73) C dX3_readTd_51 (by decide) ?_
            refine g_iload_n (q := 74) C dX3_readTd_73 rfl rfl ?_
            refine g_if_eq (t := 82) (q := 77) C dX3_readTd_74 (by decide) rfl (fun c_74 => ?_) (fun c_74 => ?_)
            ·
              refine g_iconst (v := 0) (q := 83) C dX3_readTd_82 (by decide) rfl ?_
              have e : rX3_readTd q y z = (0, ((q.set 9 (z >>> (4 &&& 31))).set 3 (z &&& 15))) := ((if_neg c_13).trans ((if_neg c_18).trans ((if_pos c_24).trans ((if_neg c_29).trans ((if_pos c_43).trans (if_pos c_74))))))
              exact E.1 _ _ _ _ _ _ _ dX3_readTd_83 rfl rfl (Nat.le_of_ble_eq_true rfl) (Nat.le_of_ble_eq_true rfl) ⟨by rw [e], by rw [e]; exact ⟨HQ30, (rqF.trans fq1 fq30)⟩⟩
            ·
              refine g_aload_n (q := 78) C dX3_readTd_77 rfl rfl ?_
              refine g_iconst (v := 1) (q := 79) C dX3_readTd_78 (by decide) rfl ?_
              refine g_putfield (q := 82) C fX3_54 dX3_readTd_79 rfl HQ30.1 (Nat.le_of_ble_eq_true rfl) (Or.inl rfl) rfl rfl (by intro z h; cases h) ?_
              refine rqput (j := 6) (x := 1) HQ30 rfl fun h31 HQ31 fq31 => ?_
              refine g_iconst (v := 0) (q := 83) C dX3_readTd_82 (by decide) rfl ?_
              have e : rX3_readTd q y z = (0, (((q.set 9 (z >>> (4 &&& 31))).set 3 (z &&& 15)).set 6 1)) := ((if_neg c_13).trans ((if_neg c_18).trans ((if_pos c_24).trans ((if_neg c_29).trans ((if_pos c_43).trans (if_neg c_74))))))
              exact E.1 _ _ _ _ _ _ _ dX3_readTd_83 rfl rfl (Nat.le_of_ble_eq_true rfl) (Nat.le_of_ble_eq_true rfl) ⟨by rw [e], by rw [e]; exact ⟨HQ31, (rqF.trans (rqF.trans fq1 fq30) fq31)⟩⟩
        ·
          refine g_aload_n (q := 33) C dX3_readTd_32 rfl rfl ?_
          refine g_getfield (v := .int ((z >>> (4 &&& 31)))) (q := 36) C fX3_76 dX3_readTd_33 rfl HQ1.1 rfl ?_
          refine g_if_eq (t := 41) (q := 39) C dX3_readTd_36 (by decide) rfl (fun c_36 => ?_) (fun c_36 => ?_)
          ·
            refine g_iload_n (q := 42) C dX3_readTd_41 rfl rfl ?_
            refine g_iconst (v := 1) (q := 43) C dX3_readTd_42 (by decide) rfl ?_
            refine g_icmp_ne (t := 54) (q := 46) C dX3_readTd_43 (by decide) rfl (fun c_43 => ?_) (fun c_43 => ?_)
            ·
              refine g_iload_n (q := 55) C dX3_readTd_54 rfl rfl ?_
              refine g_iconst (v := 1) (q := 56) C dX3_readTd_55 (by decide) rfl ?_
              refine g_icmp_ne (t := 73) (q := 59) C dX3_readTd_56 (by decide) rfl (fun c_56 => ?_) (fun c_56 => ?_)
              ·
                refine g_iload_n (q := 74) C dX3_readTd_73 rfl rfl ?_
                refine g_if_eq (t := 82) (q := 77) C dX3_readTd_74 (by decide) rfl (fun c_74 => ?_) (fun c_74 => ?_)
                ·
                  refine g_iconst (v := 0) (q := 83) C dX3_readTd_82 (by decide) rfl ?_
                  have e : rX3_readTd q y z = (0, (q.set 9 (z >>> (4 &&& 31)))) := ((if_neg c_13).trans ((if_neg c_18).trans ((if_pos c_24).trans ((if_pos c_29).trans ((if_pos c_36).trans ((if_neg c_43).trans ((if_neg c_56).trans (if_pos c_74))))))))
                  exact E.1 _ _ _ _ _ _ _ dX3_readTd_83 rfl rfl (Nat.le_of_ble_eq_true rfl) (Nat.le_of_ble_eq_true rfl) ⟨by rw [e], by rw [e]; exact ⟨HQ1, fq1⟩⟩
                ·
                  refine g_aload_n (q := 78) C dX3_readTd_77 rfl rfl ?_
                  refine g_iconst (v := 1) (q := 79) C dX3_readTd_78 (by decide) rfl ?_
                  refine g_putfield (q := 82) C fX3_54 dX3_readTd_79 rfl HQ1.1 (Nat.le_of_ble_eq_true rfl) (Or.inl rfl) rfl rfl (by intro z h; cases h) ?_
                  refine rqput (j := 6) (x := 1) HQ1 rfl fun h32 HQ32 fq32 => ?_
                  refine g_iconst (v := 0) (q := 83) C dX3_readTd_82 (by decide) rfl ?_
                  have e : rX3_readTd q y z = (0, ((q.set 9 (z >>> (4 &&& 31))).set 6 1)) := ((if_neg c_13).trans ((if_neg c_18).trans ((if_pos c_24).trans ((if_pos c_29).trans ((if_pos c_36).trans ((if_neg c_43).trans ((if_neg c_56).trans (if_neg c_74))))))))
                  exact E.1 _ _ _ _ _ _ _ dX3_readTd_83 rfl rfl (Nat.le_of_ble_eq_true rfl) (Nat.le_of_ble_eq_true rfl) ⟨by rw [e], by rw [e]; exact ⟨HQ32, (rqF.trans fq1 fq32)⟩⟩
              ·
                refine g_aload_n (q := 60) C dX3_readTd_59 rfl rfl ?_
                refine g_getfield (v := .int ((q.f 10))) (q := 63) C fX3_62 dX3_readTd_60 rfl HQ1.1 rfl ?_
                refine g_if_ne (t := 73) (q := 66) C dX3_readTd_63 (by decide) rfl (fun c_63 => ?_) (fun c_63 => ?_)
                ·
                  refine g_iload_n (q := 74) C dX3_readTd_73 rfl rfl ?_
                  refine g_if_eq (t := 82) (q := 77) C dX3_readTd_74 (by decide) rfl (fun c_74 => ?_) (fun c_74 => ?_)
                  ·
                    refine g_iconst (v := 0) (q := 83) C dX3_readTd_82 (by decide) rfl ?_
                    have e : rX3_readTd q y z = (0, (q.set 9 (z >>> (4 &&& 31)))) := ((if_neg c_13).trans ((if_neg c_18).trans ((if_pos c_24).trans ((if_pos c_29).trans ((if_pos c_36).trans ((if_neg c_43).trans ((if_pos c_56).trans ((if_neg c_63).trans (if_pos c_74)))))))))
                    exact E.1 _ _ _ _ _ _ _ dX3_readTd_83 rfl rfl (Nat.le_of_ble_eq_true rfl) (Nat.le_of_ble_eq_true rfl) ⟨by rw [e], by rw [e]; exact ⟨HQ1, fq1⟩⟩
                  ·
                    refine g_aload_n (q := 78) C dX3_readTd_77 rfl rfl ?_
                    refine g_iconst (v := 1) (q := 79) C dX3_readTd_78 (by decide) rfl ?_
                    refine g_putfield (q := 82) C fX3_54 dX3_readTd_79 rfl HQ1.1 (Nat.le_of_ble_eq_true rfl) (Or.inl rfl) rfl rfl (by intro z h; cases h) ?_
                    refine rqput (j := 6) (x := 1) HQ1 rfl fun h33 HQ33 fq33 => ?_
                    refine g_iconst (v := 0) (q := 83) C dX3_readTd_82 (by decide) rfl ?_
                    have e : rX3_readTd q y z = (0, ((q.set 9 (z >>> (4 &&& 31))).set 6 1)) := ((if_neg c_13).trans ((if_neg c_18).trans ((if_pos c_24).trans ((if_pos c_29).trans ((if_pos c_36).trans ((if_neg c_43).trans ((if_pos c_56).trans ((if_neg c_63).trans (if_neg c_74)))))))))
                    exact E.1 _ _ _ _ _ _ _ dX3_readTd_83 rfl rfl (Nat.le_of_ble_eq_true rfl) (Nat.le_of_ble_eq_true rfl) ⟨by rw [e], by rw [e]; exact ⟨HQ33, (rqF.trans fq1 fq33)⟩⟩
                ·
                  refine g_aload_n (q := 67) C dX3_readTd_66 rfl rfl ?_
                  refine g_iload_n (q := 68) C dX3_readTd_67 rfl rfl ?_
                  refine g_iconst (v := 1) (q := 69) C dX3_readTd_68 (by decide) rfl ?_
                  refine g_iadd (q := 70) C dX3_readTd_69 rfl ?_
                  refine g_putfield (q := 73) C fX3_62 dX3_readTd_70 rfl HQ1.1 (Nat.le_of_ble_eq_true rfl) (Or.inl rfl) rfl rfl (by intro z h; cases h) ?_
                  refine rqput (j := 10) (x := (y + 1)) HQ1 rfl fun h34 HQ34 fq34 => ?_
                  refine g_iload_n (q := 74) C dX3_readTd_73 rfl rfl ?_
                  refine g_if_eq (t := 82) (q := 77) C dX3_readTd_74 (by decide) rfl (fun c_74 => ?_) (fun c_74 => ?_)
                  ·
                    refine g_iconst (v := 0) (q := 83) C dX3_readTd_82 (by decide) rfl ?_
                    have e : rX3_readTd q y z = (0, ((q.set 9 (z >>> (4 &&& 31))).set 10 (y + 1))) := ((if_neg c_13).trans ((if_neg c_18).trans ((if_pos c_24).trans ((if_pos c_29).trans ((if_pos c_36).trans ((if_neg c_43).trans ((if_pos c_56).trans ((if_pos c_63).trans (if_pos c_74)))))))))
                    exact E.1 _ _ _ _ _ _ _ dX3_readTd_83 rfl rfl (Nat.le_of_ble_eq_true rfl) (Nat.le_of_ble_eq_true rfl) ⟨by rw [e], by rw [e]; exact ⟨HQ34, (rqF.trans fq1 fq34)⟩⟩
                  ·
                    refine g_aload_n (q := 78) C dX3_readTd_77 rfl rfl ?_
                    refine g_iconst (v := 1) (q := 79) C dX3_readTd_78 (by decide) rfl ?_
                    refine g_putfield (q := 82) C fX3_54 dX3_readTd_79 rfl HQ34.1 (Nat.le_of_ble_eq_true rfl) (Or.inl rfl) rfl rfl (by intro z h; cases h) ?_
                    refine rqput (j := 6) (x := 1) HQ34 rfl fun h35 HQ35 fq35 => ?_
                    refine g_iconst (v := 0) (q := 83) C dX3_readTd_82 (by decide) rfl ?_
                    have e : rX3_readTd q y z = (0, (((q.set 9 (z >>> (4 &&& 31))).set 10 (y + 1)).set 6 1)) := ((if_neg c_13).trans ((if_neg c_18).trans ((if_pos c_24).trans ((if_pos c_29).trans ((if_pos c_36).trans ((if_neg c_43).trans ((if_pos c_56).trans ((if_pos c_63).trans (if_neg c_74)))))))))
                    exact E.1 _ _ _ _ _ _ _ dX3_readTd_83 rfl rfl (Nat.le_of_ble_eq_true rfl) (Nat.le_of_ble_eq_true rfl) ⟨by rw [e], by rw [e]; exact ⟨HQ35, (rqF.trans (rqF.trans fq1 fq34) fq35)⟩⟩
            ·
              refine g_aload_n (q := 47) C dX3_readTd_46 rfl rfl ?_
              refine g_iload_n (q := 48) C dX3_readTd_47 rfl rfl ?_
              refine g_putfield (q := 51) C fX3_45 dX3_readTd_48 rfl HQ1.1 (Nat.le_of_ble_eq_true rfl) (Or.inl rfl) rfl rfl (by intro z h; cases h) ?_
              refine rqput (j := 3) (x := (z &&& 15)) HQ1 rfl fun h36 HQ36 fq36 => ?_
              refine g_goto (q := 73) C dX3_readTd_51 (by decide) ?_
              refine g_iload_n (q := 74) C dX3_readTd_73 rfl rfl ?_
              refine g_if_eq (t := 82) (q := 77) C dX3_readTd_74 (by decide) rfl (fun c_74 => ?_) (fun c_74 => ?_)
              ·
                refine g_iconst (v := 0) (q := 83) C dX3_readTd_82 (by decide) rfl ?_
                have e : rX3_readTd q y z = (0, ((q.set 9 (z >>> (4 &&& 31))).set 3 (z &&& 15))) := ((if_neg c_13).trans ((if_neg c_18).trans ((if_pos c_24).trans ((if_pos c_29).trans ((if_pos c_36).trans ((if_pos c_43).trans (if_pos c_74)))))))
                exact E.1 _ _ _ _ _ _ _ dX3_readTd_83 rfl rfl (Nat.le_of_ble_eq_true rfl) (Nat.le_of_ble_eq_true rfl) ⟨by rw [e], by rw [e]; exact ⟨HQ36, (rqF.trans fq1 fq36)⟩⟩
              ·
                refine g_aload_n (q := 78) C dX3_readTd_77 rfl rfl ?_
                refine g_iconst (v := 1) (q := 79) C dX3_readTd_78 (by decide) rfl ?_
                refine g_putfield (q := 82) C fX3_54 dX3_readTd_79 rfl HQ36.1 (Nat.le_of_ble_eq_true rfl) (Or.inl rfl) rfl rfl (by intro z h; cases h) ?_
                refine rqput (j := 6) (x := 1) HQ36 rfl fun h37 HQ37 fq37 => ?_
                refine g_iconst (v := 0) (q := 83) C dX3_readTd_82 (by decide) rfl ?_
                have e : rX3_readTd q y z = (0, (((q.set 9 (z >>> (4 &&& 31))).set 3 (z &&& 15)).set 6 1)) := ((if_neg c_13).trans ((if_neg c_18).trans ((if_pos c_24).trans ((if_pos c_29).trans ((if_pos c_36).trans ((if_pos c_43).trans (if_neg c_74)))))))
                exact E.1 _ _ _ _ _ _ _ dX3_readTd_83 rfl rfl (Nat.le_of_ble_eq_true rfl) (Nat.le_of_ble_eq_true rfl) ⟨by rw [e], by rw [e]; exact ⟨HQ37, (rqF.trans (rqF.trans fq1 fq36) fq37)⟩⟩
          ·
            refine g_iconst (v := 3) (q := 40) C dX3_readTd_39 (by decide) rfl ?_
            have e : rX3_readTd q y z = (3, (q.set 9 (z >>> (4 &&& 31)))) := ((if_neg c_13).trans ((if_neg c_18).trans ((if_pos c_24).trans ((if_pos c_29).trans (if_neg c_36)))))
            exact E.1 _ _ _ _ _ _ _ dX3_readTd_40 rfl rfl (Nat.le_of_ble_eq_true rfl) (Nat.le_of_ble_eq_true rfl) ⟨by rw [e], by rw [e]; exact ⟨HQ1, fq1⟩⟩
def rX3_readLinkGroup (q : rq) (y : Int32) (z : Int32) : Int32 × rq := (if y = 0 then (if z < 1 then (5, (q.set 5 z)) else (if z ≤ 254 then (0, (q.set 5 z)) else (5, (q.set 5 z)))) else (if y = 1 then (if (z >>> (4 &&& 31)) ≤ 9 then (0, q) else (5, q)) else (if z = 0 then (0, q) else (5, q))))
theorem dX3_readLinkGroup_0 : decode cX3_readLinkGroup 0 = .ok (.iload_n 1, 1) := by decide +kernel
theorem dX3_readLinkGroup_1 : decode cX3_readLinkGroup 1 = .ok (.ifCond .ne 26, 3) := by decide +kernel
theorem dX3_readLinkGroup_4 : decode cX3_readLinkGroup 4 = .ok (.aload_n 0, 1) := by decide +kernel
theorem dX3_readLinkGroup_5 : decode cX3_readLinkGroup 5 = .ok (.iload_n 2, 1) := by decide +kernel
theorem dX3_readLinkGroup_6 : decode cX3_readLinkGroup 6 = .ok (.putfield 51, 3) := by decide +kernel
theorem dX3_readLinkGroup_9 : decode cX3_readLinkGroup 9 = .ok (.iload_n 2, 1) := by decide +kernel
theorem dX3_readLinkGroup_10 : decode cX3_readLinkGroup 10 = .ok (.iconst 1, 1) := by decide +kernel
theorem dX3_readLinkGroup_11 : decode cX3_readLinkGroup 11 = .ok (.if_icmp .lt 10, 3) := by decide +kernel
theorem dX3_readLinkGroup_14 : decode cX3_readLinkGroup 14 = .ok (.iload_n 2, 1) := by decide +kernel
theorem dX3_readLinkGroup_15 : decode cX3_readLinkGroup 15 = .ok (.sipush 254, 3) := by decide +kernel
theorem dX3_readLinkGroup_18 : decode cX3_readLinkGroup 18 = .ok (.if_icmp .le 7, 3) := by decide +kernel
theorem dX3_readLinkGroup_21 : decode cX3_readLinkGroup 21 = .ok (.iconst 5, 1) := by decide +kernel
theorem dX3_readLinkGroup_22 : decode cX3_readLinkGroup 22 = .ok (.goto 4, 3) := by decide +kernel
theorem dX3_readLinkGroup_25 : decode cX3_readLinkGroup 25 = .ok (.iconst 0, 1) := by decide +kernel
theorem dX3_readLinkGroup_26 : decode cX3_readLinkGroup 26 = .ok (.ireturn, 1) := by decide +kernel
theorem dX3_readLinkGroup_27 : decode cX3_readLinkGroup 27 = .ok (.iload_n 1, 1) := by decide +kernel
theorem dX3_readLinkGroup_28 : decode cX3_readLinkGroup 28 = .ok (.iconst 1, 1) := by decide +kernel
theorem dX3_readLinkGroup_29 : decode cX3_readLinkGroup 29 = .ok (.if_icmp .ne 17, 3) := by decide +kernel
theorem dX3_readLinkGroup_32 : decode cX3_readLinkGroup 32 = .ok (.iload_n 2, 1) := by decide +kernel
theorem dX3_readLinkGroup_33 : decode cX3_readLinkGroup 33 = .ok (.iconst 4, 1) := by decide +kernel
theorem dX3_readLinkGroup_34 : decode cX3_readLinkGroup 34 = .ok (.ishr, 1) := by decide +kernel
theorem dX3_readLinkGroup_35 : decode cX3_readLinkGroup 35 = .ok (.bipush 9, 2) := by decide +kernel
theorem dX3_readLinkGroup_37 : decode cX3_readLinkGroup 37 = .ok (.if_icmp .le 7, 3) := by decide +kernel
theorem dX3_readLinkGroup_40 : decode cX3_readLinkGroup 40 = .ok (.iconst 5, 1) := by decide +kernel
theorem dX3_readLinkGroup_41 : decode cX3_readLinkGroup 41 = .ok (.goto 4, 3) := by decide +kernel
theorem dX3_readLinkGroup_44 : decode cX3_readLinkGroup 44 = .ok (.iconst 0, 1) := by decide +kernel
theorem dX3_readLinkGroup_45 : decode cX3_readLinkGroup 45 = .ok (.ireturn, 1) := by decide +kernel
theorem dX3_readLinkGroup_46 : decode cX3_readLinkGroup 46 = .ok (.iload_n 2, 1) := by decide +kernel
theorem dX3_readLinkGroup_47 : decode cX3_readLinkGroup 47 = .ok (.ifCond .eq 7, 3) := by decide +kernel
theorem dX3_readLinkGroup_50 : decode cX3_readLinkGroup 50 = .ok (.iconst 5, 1) := by decide +kernel
theorem dX3_readLinkGroup_51 : decode cX3_readLinkGroup 51 = .ok (.goto 4, 3) := by decide +kernel
theorem dX3_readLinkGroup_54 : decode cX3_readLinkGroup 54 = .ok (.iconst 0, 1) := by decide +kernel
theorem dX3_readLinkGroup_55 : decode cX3_readLinkGroup 55 = .ok (.ireturn, 1) := by decide +kernel
set_option maxRecDepth 100000 in
set_option maxHeartbeats 4000000 in
theorem c_X3_readLinkGroup_116 {hp : List gA} {q : rq} {l : List Int32} {y : Int32} {z : Int32} (HQ : rqH hp 116 q l) : gM yX3_readLinkGroup cX3_readLinkGroup 3 ((some .int)) 0 0 [.ref 116, .int y, .int z] (hp) (0) (0) (fun v h => v = some (.int (rX3_readLinkGroup q y z).1) ∧ (rqH h 116 (rX3_readLinkGroup q y z).2 l ∧ rqF 116 hp h)) := by
  refine gM_of (ls0 := [some (.ref 116), some (.int y), some (.int z)]) (by decide +kernel) (Nat.le_of_ble_eq_true rfl) rfl fun X C E => ?_
  refine g_iload_n (q := 1) C dX3_readLinkGroup_0 rfl rfl ?_
  refine g_if_ne (t := 27) (q := 4) C dX3_readLinkGroup_1 (by decide) rfl (fun c_1 => ?_) (fun c_1 => ?_)
  ·
    refine g_iload_n (q := 28) C dX3_readLinkGroup_27 rfl rfl ?_
    refine g_iconst (v := 1) (q := 29) C dX3_readLinkGroup_28 (by decide) rfl ?_
    refine g_icmp_ne (t := 46) (q := 32) C dX3_readLinkGroup_29 (by decide) rfl (fun c_29 => ?_) (fun c_29 => ?_)
    ·
      refine g_iload_n (q := 47) C dX3_readLinkGroup_46 rfl rfl ?_
      refine g_if_eq (t := 54) (q := 50) C dX3_readLinkGroup_47 (by decide) rfl (fun c_47 => ?_) (fun c_47 => ?_)
      ·
        refine g_iconst (v := 0) (q := 55) C dX3_readLinkGroup_54 (by decide) rfl ?_
        have e : rX3_readLinkGroup q y z = (0, q) := ((if_neg c_1).trans ((if_neg c_29).trans (if_pos c_47)))
        exact E.1 _ _ _ _ _ _ _ dX3_readLinkGroup_55 rfl rfl (Nat.le_of_ble_eq_true rfl) (Nat.le_of_ble_eq_true rfl) ⟨by rw [e], by rw [e]; exact ⟨HQ, rqF.rf⟩⟩
      ·
        refine g_iconst (v := 5) (q := 51) C dX3_readLinkGroup_50 (by decide) rfl ?_
        refine g_goto (q := 55) C dX3_readLinkGroup_51 (by decide) ?_
        have e : rX3_readLinkGroup q y z = (5, q) := ((if_neg c_1).trans ((if_neg c_29).trans (if_neg c_47)))
        exact E.1 _ _ _ _ _ _ _ dX3_readLinkGroup_55 rfl rfl (Nat.le_of_ble_eq_true rfl) (Nat.le_of_ble_eq_true rfl) ⟨by rw [e], by rw [e]; exact ⟨HQ, rqF.rf⟩⟩
    ·
      refine g_iload_n (q := 33) C dX3_readLinkGroup_32 rfl rfl ?_
      refine g_iconst (v := 4) (q := 34) C dX3_readLinkGroup_33 (by decide) rfl ?_
      refine g_ishr (q := 35) C dX3_readLinkGroup_34 rfl ?_
      refine g_bipush (v := 9) (q := 37) C dX3_readLinkGroup_35 (by decide) rfl ?_
      refine g_icmp_le (t := 44) (q := 40) C dX3_readLinkGroup_37 (by decide) rfl (fun c_37 => ?_) (fun c_37 => ?_)
      ·
        refine g_iconst (v := 0) (q := 45) C dX3_readLinkGroup_44 (by decide) rfl ?_
        have e : rX3_readLinkGroup q y z = (0, q) := ((if_neg c_1).trans ((if_pos c_29).trans (if_pos c_37)))
        exact E.1 _ _ _ _ _ _ _ dX3_readLinkGroup_45 rfl rfl (Nat.le_of_ble_eq_true rfl) (Nat.le_of_ble_eq_true rfl) ⟨by rw [e], by rw [e]; exact ⟨HQ, rqF.rf⟩⟩
      ·
        refine g_iconst (v := 5) (q := 41) C dX3_readLinkGroup_40 (by decide) rfl ?_
        refine g_goto (q := 45) C dX3_readLinkGroup_41 (by decide) ?_
        have e : rX3_readLinkGroup q y z = (5, q) := ((if_neg c_1).trans ((if_pos c_29).trans (if_neg c_37)))
        exact E.1 _ _ _ _ _ _ _ dX3_readLinkGroup_45 rfl rfl (Nat.le_of_ble_eq_true rfl) (Nat.le_of_ble_eq_true rfl) ⟨by rw [e], by rw [e]; exact ⟨HQ, rqF.rf⟩⟩
  ·
    refine g_aload_n (q := 5) C dX3_readLinkGroup_4 rfl rfl ?_
    refine g_iload_n (q := 6) C dX3_readLinkGroup_5 rfl rfl ?_
    refine g_putfield (q := 9) C fX3_51 dX3_readLinkGroup_6 rfl HQ.1 (Nat.le_of_ble_eq_true rfl) (Or.inl rfl) rfl rfl (by intro z h; cases h) ?_
    refine rqput (j := 5) (x := z) HQ rfl fun h1 HQ1 fq1 => ?_
    refine g_iload_n (q := 10) C dX3_readLinkGroup_9 rfl rfl ?_
    refine g_iconst (v := 1) (q := 11) C dX3_readLinkGroup_10 (by decide) rfl ?_
    refine g_icmp_lt (t := 21) (q := 14) C dX3_readLinkGroup_11 (by decide) rfl (fun c_11 => ?_) (fun c_11 => ?_)
    ·
      refine g_iconst (v := 5) (q := 22) C dX3_readLinkGroup_21 (by decide) rfl ?_
      refine g_goto (q := 26) C dX3_readLinkGroup_22 (by decide) ?_
      have e : rX3_readLinkGroup q y z = (5, (q.set 5 z)) := ((if_pos c_1).trans (if_pos c_11))
      exact E.1 _ _ _ _ _ _ _ dX3_readLinkGroup_26 rfl rfl (Nat.le_of_ble_eq_true rfl) (Nat.le_of_ble_eq_true rfl) ⟨by rw [e], by rw [e]; exact ⟨HQ1, fq1⟩⟩
    ·
      refine g_iload_n (q := 15) C dX3_readLinkGroup_14 rfl rfl ?_
      refine g_sipush (v := 254) (q := 18) C dX3_readLinkGroup_15 (by decide) rfl ?_
      refine g_icmp_le (t := 25) (q := 21) C dX3_readLinkGroup_18 (by decide) rfl (fun c_18 => ?_) (fun c_18 => ?_)
      ·
        refine g_iconst (v := 0) (q := 26) C dX3_readLinkGroup_25 (by decide) rfl ?_
        have e : rX3_readLinkGroup q y z = (0, (q.set 5 z)) := ((if_pos c_1).trans ((if_neg c_11).trans (if_pos c_18)))
        exact E.1 _ _ _ _ _ _ _ dX3_readLinkGroup_26 rfl rfl (Nat.le_of_ble_eq_true rfl) (Nat.le_of_ble_eq_true rfl) ⟨by rw [e], by rw [e]; exact ⟨HQ1, fq1⟩⟩
      ·
        refine g_iconst (v := 5) (q := 22) C dX3_readLinkGroup_21 (by decide) rfl ?_
        refine g_goto (q := 26) C dX3_readLinkGroup_22 (by decide) ?_
        have e : rX3_readLinkGroup q y z = (5, (q.set 5 z)) := ((if_pos c_1).trans ((if_neg c_11).trans (if_neg c_18)))
        exact E.1 _ _ _ _ _ _ _ dX3_readLinkGroup_26 rfl rfl (Nat.le_of_ble_eq_true rfl) (Nat.le_of_ble_eq_true rfl) ⟨by rw [e], by rw [e]; exact ⟨HQ1, fq1⟩⟩
def rX3_readFirstGroup (q : rq) (y : Int32) (z : Int32) : Int32 × rq := (if y = 0 then (if (rX3_clockOf z) = 0 then (4, (q.set 1 z)) else (if (rX3_divisorOf z) = 0 then (4, (q.set 1 z)) else (0, (q.set 1 z)))) else (if y = 2 then (0, (q.set 2 z)) else (0, q)))
theorem dX3_readFirstGroup_0 : decode cX3_readFirstGroup 0 = .ok (.iload_n 1, 1) := by decide +kernel
theorem dX3_readFirstGroup_1 : decode cX3_readFirstGroup 1 = .ok (.ifCond .ne 28, 3) := by decide +kernel
theorem dX3_readFirstGroup_4 : decode cX3_readFirstGroup 4 = .ok (.aload_n 0, 1) := by decide +kernel
theorem dX3_readFirstGroup_5 : decode cX3_readFirstGroup 5 = .ok (.iload_n 2, 1) := by decide +kernel
theorem dX3_readFirstGroup_6 : decode cX3_readFirstGroup 6 = .ok (.putfield 38, 3) := by decide +kernel
theorem dX3_readFirstGroup_9 : decode cX3_readFirstGroup 9 = .ok (.iload_n 2, 1) := by decide +kernel
theorem dX3_readFirstGroup_10 : decode cX3_readFirstGroup 10 = .ok (.invokestatic 95, 3) := by decide +kernel
theorem dX3_readFirstGroup_13 : decode cX3_readFirstGroup 13 = .ok (.ifCond .eq 10, 3) := by decide +kernel
theorem dX3_readFirstGroup_16 : decode cX3_readFirstGroup 16 = .ok (.iload_n 2, 1) := by decide +kernel
theorem dX3_readFirstGroup_17 : decode cX3_readFirstGroup 17 = .ok (.invokestatic 98, 3) := by decide +kernel
theorem dX3_readFirstGroup_20 : decode cX3_readFirstGroup 20 = .ok (.ifCond .ne 7, 3) := by decide +kernel
theorem dX3_readFirstGroup_23 : decode cX3_readFirstGroup 23 = .ok (.iconst 4, 1) := by decide +kernel
theorem dX3_readFirstGroup_24 : decode cX3_readFirstGroup 24 = .ok (.goto 4, 3) := by decide +kernel
theorem dX3_readFirstGroup_27 : decode cX3_readFirstGroup 27 = .ok (.iconst 0, 1) := by decide +kernel
theorem dX3_readFirstGroup_28 : decode cX3_readFirstGroup 28 = .ok (.ireturn, 1) := by decide +kernel
theorem dX3_readFirstGroup_29 : decode cX3_readFirstGroup 29 = .ok (.iload_n 1, 1) := by decide +kernel
theorem dX3_readFirstGroup_30 : decode cX3_readFirstGroup 30 = .ok (.iconst 2, 1) := by decide +kernel
theorem dX3_readFirstGroup_31 : decode cX3_readFirstGroup 31 = .ok (.if_icmp .ne 8, 3) := by decide +kernel
theorem dX3_readFirstGroup_34 : decode cX3_readFirstGroup 34 = .ok (.aload_n 0, 1) := by decide +kernel
theorem dX3_readFirstGroup_35 : decode cX3_readFirstGroup 35 = .ok (.iload_n 2, 1) := by decide +kernel
theorem dX3_readFirstGroup_36 : decode cX3_readFirstGroup 36 = .ok (.putfield 42, 3) := by decide +kernel
theorem dX3_readFirstGroup_39 : decode cX3_readFirstGroup 39 = .ok (.iconst 0, 1) := by decide +kernel
theorem dX3_readFirstGroup_40 : decode cX3_readFirstGroup 40 = .ok (.ireturn, 1) := by decide +kernel
set_option maxRecDepth 100000 in
set_option maxHeartbeats 4000000 in
theorem c_X3_readFirstGroup_116 {hp : List gA} {q : rq} {l : List Int32} {y : Int32} {z : Int32} (HQ : rqH hp 116 q l) : gM yX3_readFirstGroup cX3_readFirstGroup 3 ((some .int)) 1 21 [.ref 116, .int y, .int z] (hp) (0) (0) (fun v h => v = some (.int (rX3_readFirstGroup q y z).1) ∧ (rqH h 116 (rX3_readFirstGroup q y z).2 l ∧ rqF 116 hp h)) := by
  refine gM_of (ls0 := [some (.ref 116), some (.int y), some (.int z)]) (by decide +kernel) (Nat.le_of_ble_eq_true rfl) rfl fun X C E => ?_
  refine g_iload_n (q := 1) C dX3_readFirstGroup_0 rfl rfl ?_
  refine g_if_ne (t := 29) (q := 4) C dX3_readFirstGroup_1 (by decide) rfl (fun c_1 => ?_) (fun c_1 => ?_)
  ·
    refine g_iload_n (q := 30) C dX3_readFirstGroup_29 rfl rfl ?_
    refine g_iconst (v := 2) (q := 31) C dX3_readFirstGroup_30 (by decide) rfl ?_
    refine g_icmp_ne (t := 39) (q := 34) C dX3_readFirstGroup_31 (by decide) rfl (fun c_31 => ?_) (fun c_31 => ?_)
    ·
      refine g_iconst (v := 0) (q := 40) C dX3_readFirstGroup_39 (by decide) rfl ?_
      have e : rX3_readFirstGroup q y z = (0, q) := ((if_neg c_1).trans (if_neg c_31))
      exact E.1 _ _ _ _ _ _ _ dX3_readFirstGroup_40 rfl rfl (Nat.le_of_ble_eq_true rfl) (Nat.le_of_ble_eq_true rfl) ⟨by rw [e], by rw [e]; exact ⟨HQ, rqF.rf⟩⟩
    ·
      refine g_aload_n (q := 35) C dX3_readFirstGroup_34 rfl rfl ?_
      refine g_iload_n (q := 36) C dX3_readFirstGroup_35 rfl rfl ?_
      refine g_putfield (q := 39) C fX3_42 dX3_readFirstGroup_36 rfl HQ.1 (Nat.le_of_ble_eq_true rfl) (Or.inl rfl) rfl rfl (by intro z h; cases h) ?_
      refine rqput (j := 2) (x := z) HQ rfl fun h1 HQ1 fq1 => ?_
      refine g_iconst (v := 0) (q := 40) C dX3_readFirstGroup_39 (by decide) rfl ?_
      have e : rX3_readFirstGroup q y z = (0, (q.set 2 z)) := ((if_neg c_1).trans (if_pos c_31))
      exact E.1 _ _ _ _ _ _ _ dX3_readFirstGroup_40 rfl rfl (Nat.le_of_ble_eq_true rfl) (Nat.le_of_ble_eq_true rfl) ⟨by rw [e], by rw [e]; exact ⟨HQ1, fq1⟩⟩
  ·
    refine g_aload_n (q := 5) C dX3_readFirstGroup_4 rfl rfl ?_
    refine g_iload_n (q := 6) C dX3_readFirstGroup_5 rfl rfl ?_
    refine g_putfield (q := 9) C fX3_38 dX3_readFirstGroup_6 rfl HQ.1 (Nat.le_of_ble_eq_true rfl) (Or.inl rfl) rfl rfl (by intro z h; cases h) ?_
    refine rqput (j := 1) (x := z) HQ rfl fun h2 HQ2 fq2 => ?_
    refine g_iload_n (q := 10) C dX3_readFirstGroup_9 rfl rfl ?_
    refine g_callSi (x := (rX3_clockOf z)) (q := 13) (As := [.int z]) C gyX3_clockOf t_542 t_541 (c_X3_clockOf_x) dX3_readFirstGroup_10 rfl rfl rfl (Nat.le_of_ble_eq_true rfl) (Nat.le_of_ble_eq_true rfl) (Nat.le_of_ble_eq_true rfl) (Nat.le_of_ble_eq_true rfl) (Nat.le_of_ble_eq_true rfl) rfl ?_
    refine g_if_eq (t := 23) (q := 16) C dX3_readFirstGroup_13 (by decide) rfl (fun c_13 => ?_) (fun c_13 => ?_)
    ·
      refine g_iconst (v := 4) (q := 24) C dX3_readFirstGroup_23 (by decide) rfl ?_
      refine g_goto (q := 28) C dX3_readFirstGroup_24 (by decide) ?_
      have e : rX3_readFirstGroup q y z = (4, (q.set 1 z)) := ((if_pos c_1).trans (if_pos c_13))
      exact E.1 _ _ _ _ _ _ _ dX3_readFirstGroup_28 rfl rfl (Nat.le_of_ble_eq_true rfl) (Nat.le_of_ble_eq_true rfl) ⟨by rw [e], by rw [e]; exact ⟨HQ2, fq2⟩⟩
    ·
      refine g_iload_n (q := 17) C dX3_readFirstGroup_16 rfl rfl ?_
      refine g_callSi (x := (rX3_divisorOf z)) (q := 20) (As := [.int z]) C gyX3_divisorOf t_547 t_546 (c_X3_divisorOf_x) dX3_readFirstGroup_17 rfl rfl rfl (Nat.le_of_ble_eq_true rfl) (Nat.le_of_ble_eq_true rfl) (Nat.le_of_ble_eq_true rfl) (Nat.le_of_ble_eq_true rfl) (Nat.le_of_ble_eq_true rfl) rfl ?_
      refine g_if_ne (t := 27) (q := 23) C dX3_readFirstGroup_20 (by decide) rfl (fun c_20 => ?_) (fun c_20 => ?_)
      ·
        refine g_iconst (v := 0) (q := 28) C dX3_readFirstGroup_27 (by decide) rfl ?_
        have e : rX3_readFirstGroup q y z = (0, (q.set 1 z)) := ((if_pos c_1).trans ((if_neg c_13).trans (if_neg c_20)))
        exact E.1 _ _ _ _ _ _ _ dX3_readFirstGroup_28 rfl rfl (Nat.le_of_ble_eq_true rfl) (Nat.le_of_ble_eq_true rfl) ⟨by rw [e], by rw [e]; exact ⟨HQ2, fq2⟩⟩
      ·
        refine g_iconst (v := 4) (q := 24) C dX3_readFirstGroup_23 (by decide) rfl ?_
        refine g_goto (q := 28) C dX3_readFirstGroup_24 (by decide) ?_
        have e : rX3_readFirstGroup q y z = (4, (q.set 1 z)) := ((if_pos c_1).trans ((if_neg c_13).trans (if_pos c_20)))
        exact E.1 _ _ _ _ _ _ _ dX3_readFirstGroup_28 rfl rfl (Nat.le_of_ble_eq_true rfl) (Nat.le_of_ble_eq_true rfl) ⟨by rw [e], by rw [e]; exact ⟨HQ2, fq2⟩⟩
def rX3_readGroupByte (q : rq) (y : Int32) (z : Int32) (w : Int32) : Int32 × rq := (if z = 3 then (rX3_readTd q y w) else (if y = 1 then (rX3_readFirstGroup q z w) else (if y = (q.f 10) then (rX3_readLinkGroup q z w) else (0, q))))
theorem dX3_readGroupByte_0 : decode cX3_readGroupByte 0 = .ok (.iload_n 2, 1) := by decide +kernel
theorem dX3_readGroupByte_1 : decode cX3_readGroupByte 1 = .ok (.iconst 3, 1) := by decide +kernel
theorem dX3_readGroupByte_2 : decode cX3_readGroupByte 2 = .ok (.if_icmp .ne 10, 3) := by decide +kernel
theorem dX3_readGroupByte_5 : decode cX3_readGroupByte 5 = .ok (.aload_n 0, 1) := by decide +kernel
theorem dX3_readGroupByte_6 : decode cX3_readGroupByte 6 = .ok (.iload_n 1, 1) := by decide +kernel
theorem dX3_readGroupByte_7 : decode cX3_readGroupByte 7 = .ok (.iload_n 3, 1) := by decide +kernel
theorem dX3_readGroupByte_8 : decode cX3_readGroupByte 8 = .ok (.invokevirtual 86, 3) := by decide +kernel
theorem dX3_readGroupByte_11 : decode cX3_readGroupByte 11 = .ok (.ireturn, 1) := by decide +kernel
theorem dX3_readGroupByte_12 : decode cX3_readGroupByte 12 = .ok (.iload_n 1, 1) := by decide +kernel
theorem dX3_readGroupByte_13 : decode cX3_readGroupByte 13 = .ok (.iconst 1, 1) := by decide +kernel
theorem dX3_readGroupByte_14 : decode cX3_readGroupByte 14 = .ok (.if_icmp .ne 10, 3) := by decide +kernel
theorem dX3_readGroupByte_17 : decode cX3_readGroupByte 17 = .ok (.aload_n 0, 1) := by decide +kernel
theorem dX3_readGroupByte_18 : decode cX3_readGroupByte 18 = .ok (.iload_n 2, 1) := by decide +kernel
theorem dX3_readGroupByte_19 : decode cX3_readGroupByte 19 = .ok (.iload_n 3, 1) := by decide +kernel
theorem dX3_readGroupByte_20 : decode cX3_readGroupByte 20 = .ok (.invokevirtual 89, 3) := by decide +kernel
theorem dX3_readGroupByte_23 : decode cX3_readGroupByte 23 = .ok (.ireturn, 1) := by decide +kernel
theorem dX3_readGroupByte_24 : decode cX3_readGroupByte 24 = .ok (.iload_n 1, 1) := by decide +kernel
theorem dX3_readGroupByte_25 : decode cX3_readGroupByte 25 = .ok (.aload_n 0, 1) := by decide +kernel
theorem dX3_readGroupByte_26 : decode cX3_readGroupByte 26 = .ok (.getfield 62, 3) := by decide +kernel
theorem dX3_readGroupByte_29 : decode cX3_readGroupByte 29 = .ok (.if_icmp .ne 12, 3) := by decide +kernel
theorem dX3_readGroupByte_32 : decode cX3_readGroupByte 32 = .ok (.aload_n 0, 1) := by decide +kernel
theorem dX3_readGroupByte_33 : decode cX3_readGroupByte 33 = .ok (.iload_n 2, 1) := by decide +kernel
theorem dX3_readGroupByte_34 : decode cX3_readGroupByte 34 = .ok (.iload_n 3, 1) := by decide +kernel
theorem dX3_readGroupByte_35 : decode cX3_readGroupByte 35 = .ok (.invokevirtual 92, 3) := by decide +kernel
theorem dX3_readGroupByte_38 : decode cX3_readGroupByte 38 = .ok (.goto 4, 3) := by decide +kernel
theorem dX3_readGroupByte_41 : decode cX3_readGroupByte 41 = .ok (.iconst 0, 1) := by decide +kernel
theorem dX3_readGroupByte_42 : decode cX3_readGroupByte 42 = .ok (.ireturn, 1) := by decide +kernel
set_option maxRecDepth 100000 in
set_option maxHeartbeats 4000000 in
theorem c_X3_readGroupByte_116 {hp : List gA} {q : rq} {l : List Int32} {y : Int32} {z : Int32} {w : Int32} (HQ : rqH hp 116 q l) : gM yX3_readGroupByte cX3_readGroupByte 4 ((some .int)) 2 43 [.ref 116, .int y, .int z, .int w] (hp) (0) (0) (fun v h => v = some (.int (rX3_readGroupByte q y z w).1) ∧ (rqH h 116 (rX3_readGroupByte q y z w).2 l ∧ rqF 116 hp h)) := by
  refine gM_of (ls0 := [some (.ref 116), some (.int y), some (.int z), some (.int w)]) (by decide +kernel) (Nat.le_of_ble_eq_true rfl) rfl fun X C E => ?_
  refine g_iload_n (q := 1) C dX3_readGroupByte_0 rfl rfl ?_
  refine g_iconst (v := 3) (q := 2) C dX3_readGroupByte_1 (by decide) rfl ?_
  refine g_icmp_ne (t := 12) (q := 5) C dX3_readGroupByte_2 (by decide) rfl (fun c_2 => ?_) (fun c_2 => ?_)
  ·
    refine g_iload_n (q := 13) C dX3_readGroupByte_12 rfl rfl ?_
    refine g_iconst (v := 1) (q := 14) C dX3_readGroupByte_13 (by decide) rfl ?_
    refine g_icmp_ne (t := 24) (q := 17) C dX3_readGroupByte_14 (by decide) rfl (fun c_14 => ?_) (fun c_14 => ?_)
    ·
      refine g_iload_n (q := 25) C dX3_readGroupByte_24 rfl rfl ?_
      refine g_aload_n (q := 26) C dX3_readGroupByte_25 rfl rfl ?_
      refine g_getfield (v := .int ((q.f 10))) (q := 29) C fX3_62 dX3_readGroupByte_26 rfl HQ.1 rfl ?_
      refine g_icmp_ne (t := 41) (q := 32) C dX3_readGroupByte_29 (by decide) rfl (fun c_29 => ?_) (fun c_29 => ?_)
      ·
        refine g_iconst (v := 0) (q := 42) C dX3_readGroupByte_41 (by decide) rfl ?_
        have e : rX3_readGroupByte q y z w = (0, q) := ((if_neg c_2).trans ((if_neg c_14).trans (if_neg c_29)))
        exact E.1 _ _ _ _ _ _ _ dX3_readGroupByte_42 rfl rfl (Nat.le_of_ble_eq_true rfl) (Nat.le_of_ble_eq_true rfl) ⟨by rw [e], by rw [e]; exact ⟨HQ, rqF.rf⟩⟩
      ·
        refine g_aload_n (q := 33) C dX3_readGroupByte_32 rfl rfl ?_
        refine g_iload_n (q := 34) C dX3_readGroupByte_33 rfl rfl ?_
        refine g_iload_n (q := 35) C dX3_readGroupByte_34 rfl rfl ?_
        refine g_callVix (x := (rX3_readLinkGroup q z w).1) (q := 38) (As := [.int z, .int w]) C gyX3_readLinkGroup gvX3_readLinkGroup t_551 (c_X3_readLinkGroup_116 HQ) dX3_readGroupByte_35 rfl HQ.1 rfl rfl rfl (Nat.le_of_ble_eq_true rfl) (Nat.le_of_ble_eq_true rfl) (Nat.le_of_ble_eq_true rfl) (Nat.le_of_ble_eq_true rfl) (Nat.le_of_ble_eq_true rfl) rfl (fun h1 z1 => ?_)
        obtain ⟨HQ1, fq1⟩ := z1
        refine g_goto (q := 42) C dX3_readGroupByte_38 (by decide) ?_
        have e : rX3_readGroupByte q y z w = (rX3_readLinkGroup q z w) := ((if_neg c_2).trans ((if_neg c_14).trans (if_pos c_29)))
        exact E.1 _ _ _ _ _ _ _ dX3_readGroupByte_42 rfl rfl (Nat.le_of_ble_eq_true rfl) (Nat.le_of_ble_eq_true rfl) ⟨by rw [e], by rw [e]; exact ⟨HQ1, fq1⟩⟩
    ·
      refine g_aload_n (q := 18) C dX3_readGroupByte_17 rfl rfl ?_
      refine g_iload_n (q := 19) C dX3_readGroupByte_18 rfl rfl ?_
      refine g_iload_n (q := 20) C dX3_readGroupByte_19 rfl rfl ?_
      refine g_callVix (x := (rX3_readFirstGroup q z w).1) (q := 23) (As := [.int z, .int w]) C gyX3_readFirstGroup gvX3_readFirstGroup t_537 (c_X3_readFirstGroup_116 HQ) dX3_readGroupByte_20 rfl HQ.1 rfl rfl rfl (Nat.le_of_ble_eq_true rfl) (Nat.le_of_ble_eq_true rfl) (Nat.le_of_ble_eq_true rfl) (Nat.le_of_ble_eq_true rfl) (Nat.le_of_ble_eq_true rfl) rfl (fun h2 z2 => ?_)
      obtain ⟨HQ2, fq2⟩ := z2
      have e : rX3_readGroupByte q y z w = (rX3_readFirstGroup q z w) := ((if_neg c_2).trans (if_pos c_14))
      exact E.1 _ _ _ _ _ _ _ dX3_readGroupByte_23 rfl rfl (Nat.le_of_ble_eq_true rfl) (Nat.le_of_ble_eq_true rfl) ⟨by rw [e], by rw [e]; exact ⟨HQ2, fq2⟩⟩
  ·
    refine g_aload_n (q := 6) C dX3_readGroupByte_5 rfl rfl ?_
    refine g_iload_n (q := 7) C dX3_readGroupByte_6 rfl rfl ?_
    refine g_iload_n (q := 8) C dX3_readGroupByte_7 rfl rfl ?_
    refine g_callVix (x := (rX3_readTd q y w).1) (q := 11) (As := [.int y, .int w]) C gyX3_readTd gvX3_readTd t_533 (c_X3_readTd_116 HQ) dX3_readGroupByte_8 rfl HQ.1 rfl rfl rfl (Nat.le_of_ble_eq_true rfl) (Nat.le_of_ble_eq_true rfl) (Nat.le_of_ble_eq_true rfl) (Nat.le_of_ble_eq_true rfl) (Nat.le_of_ble_eq_true rfl) rfl (fun h3 z3 => ?_)
    obtain ⟨HQ3, fq3⟩ := z3
    have e : rX3_readGroupByte q y z w = (rX3_readTd q y w) := (if_pos c_2)
    exact E.1 _ _ _ _ _ _ _ dX3_readGroupByte_11 rfl rfl (Nat.le_of_ble_eq_true rfl) (Nat.le_of_ble_eq_true rfl) ⟨by rw [e], by rw [e]; exact ⟨HQ3, fq3⟩⟩
/-- a letter of a group; a fault stands -/
def rL (t : List Int32) (g here : Int32) (k : Nat) (r : Int32 × rq) : Int32 × rq :=
  if r.1 = 0 then (if (here >>> (nI k &&& 31)) &&& 1 = 0 then r else if nI t.length ≤ r.2.f 8 then (8 * r.2.f 8 + 1, r.2) else if (rX3_readGroupByte r.2 g (nI k) (gat t (r.2.f 8))).1 = 0 then (0, (rX3_readGroupByte r.2 g (nI k) (gat t (r.2.f 8))).2.set 8 ((rX3_readGroupByte r.2 g (nI k) (gat t (r.2.f 8))).2.f 8 + 1)) else (8 * (rX3_readGroupByte r.2 g (nI k) (gat t (r.2.f 8))).2.f 8 + (rX3_readGroupByte r.2 g (nI k) (gat t (r.2.f 8))).1, (rX3_readGroupByte r.2 g (nI k) (gat t (r.2.f 8))).2)) else r
/-- the groups: n of them at most, from the g-th -/
def rGs (t : List Int32) : Nat → Nat → Int32 × rq → Int32 × rq
  | 0, _, r => r
  | n + 1, g, r => if r.1 = 0 then (if r.2.f 9 = 0 then r else rGs t n (g + 1) (rL t (nI g) (r.2.f 9) 3 (rL t (nI g) (r.2.f 9) 2 (rL t (nI g) (r.2.f 9) 1 (rL t (nI g) (r.2.f 9) 0 (0, (r.2.set 4 (nI g)).set 9 0)))))) else r
theorem rL_st {t : List Int32} {g here : Int32} {k : Nat} {r : Int32 × rq} (h : ¬ r.1 = 0) : rL t g here k r = r := if_neg h
theorem rGs_st {t : List Int32} : ∀ {n g : Nat} {r : Int32 × rq}, ¬ r.1 = 0 → rGs t n g r = r
  | 0, _, _, _ => rfl
  | _ + 1, _, _, h => if_neg h
theorem ra9 {q : rq} {x : Int32} {j : Nat} (h : ¬ j = 8) : (q.set j x).f 8 = q.f 8 := rq.set_n (fun e => h e.symm)
theorem rTd8 {q : rq} {y z : Int32} : (rX3_readTd q y z).2.f 8 = q.f 8 := by
  unfold rX3_readTd
  repeat' split
  all_goals rfl
theorem rTd1 {q : rq} {y z : Int32} : (rX3_readTd q y z).1 = 0 ∨ (rX3_readTd q y z).1 = nI 3 := by
  unfold rX3_readTd
  repeat' split
  all_goals first | exact Or.inl rfl | exact Or.inr rfl
theorem rLk8 {q : rq} {y z : Int32} : (rX3_readLinkGroup q y z).2.f 8 = q.f 8 := by
  unfold rX3_readLinkGroup
  repeat' split
  all_goals rfl
theorem rLk1 {q : rq} {y z : Int32} : (rX3_readLinkGroup q y z).1 = 0 ∨ (rX3_readLinkGroup q y z).1 = nI 5 := by
  unfold rX3_readLinkGroup
  repeat' split
  all_goals first | exact Or.inl rfl | exact Or.inr rfl
theorem rFg8 {q : rq} {y z : Int32} : (rX3_readFirstGroup q y z).2.f 8 = q.f 8 := by
  unfold rX3_readFirstGroup
  repeat' split
  all_goals rfl
theorem rFg1 {q : rq} {y z : Int32} : (rX3_readFirstGroup q y z).1 = 0 ∨ (rX3_readFirstGroup q y z).1 = nI 4 := by
  unfold rX3_readFirstGroup
  repeat' split
  all_goals first | exact Or.inl rfl | exact Or.inr rfl
theorem rGb8 {q : rq} {y z w : Int32} : (rX3_readGroupByte q y z w).2.f 8 = q.f 8 := by
  unfold rX3_readGroupByte
  repeat' split
  all_goals first | exact rTd8 | exact rFg8 | exact rLk8 | rfl
theorem rGb1 {q : rq} {y z w : Int32} : (rX3_readGroupByte q y z w).1 = 0 ∨ ∃ c, 0 < c ∧ c < 8 ∧ (rX3_readGroupByte q y z w).1 = nI c := by
  have a : ∀ {x : Int32} (c : Nat), 0 < c → c < 8 → x = 0 ∨ x = nI c → x = 0 ∨ ∃ c, 0 < c ∧ c < 8 ∧ x = nI c := fun c h1 h2 h => h.imp id fun e => ⟨c, h1, h2, e⟩
  unfold rX3_readGroupByte
  repeat' split
  all_goals first | exact a 3 (by decide) (by decide) rTd1 | exact a 4 (by decide) (by decide) rFg1 | exact a 5 (by decide) (by decide) rLk1 | exact Or.inl rfl
theorem rGbx {q : rq} {y z w x : Int32} (h : ¬ (rX3_readGroupByte q y z w).1 = 0) : ¬ 8 * x + (rX3_readGroupByte q y z w).1 = 0 := by
  rcases rGb1 (q := q) (y := y) (z := z) (w := w) with e | ⟨c, h1, h2, e⟩
  · exact absurd e h
  · rw [e]; exact gx8 h1 h2
/-- the place stands within the tape -/
def rP (t : List Int32) (q : rq) : Prop := ∃ p, p ≤ t.length ∧ q.f 8 = nI p
theorem rL_P {t : List Int32} {g here : Int32} {k : Nat} {r : Int32 × rq} (ht : t.length ≤ 96) (H : r.1 = 0 → rP t r.2) : (rL t g here k r).1 = 0 → rP t (rL t g here k r).2 := by
  unfold rL
  by_cases c : r.1 = 0
  · obtain ⟨p, hp, e⟩ := H c
    rw [if_pos c]
    by_cases c1 : (here >>> (nI k &&& 31)) &&& 1 = 0
    · rw [if_pos c1]; exact fun _ => ⟨p, hp, e⟩
    · rw [if_neg c1]
      by_cases c2 : nI t.length ≤ r.2.f 8
      · rw [if_pos c2]
        exact fun h => absurd h (gx8 (c := 1) (by decide) (by decide))
      · rw [if_neg c2]
        have lt : p < t.length := by
          by_cases lt : p < t.length
          · exact lt
          · exact absurd (by rw [e]; exact nI_le (by omega) (by omega)) c2
        by_cases c3 : (rX3_readGroupByte r.2 g (nI k) (gat t (r.2.f 8))).1 = 0
        · rw [if_pos c3]
          exact fun _ => ⟨p + 1, lt, by rw [rq.set_s, rGb8, e]; exact nI_1 p⟩
        · rw [if_neg c3]
          exact fun h => absurd h (rGbx c3)
  · rw [if_neg c]; exact H
theorem rGs_P {t : List Int32} (ht : t.length ≤ 96) : ∀ {n g : Nat} {r : Int32 × rq}, (r.1 = 0 → rP t r.2) → (rGs t n g r).1 = 0 → rP t (rGs t n g r).2
  | 0, _, _, H => H
  | n + 1, g, r, H => by
    unfold rGs
    by_cases c : r.1 = 0
    · rw [if_pos c]
      by_cases c1 : r.2.f 9 = 0
      · rw [if_pos c1]; exact H
      · rw [if_neg c1]
        exact rGs_P ht (rL_P ht (rL_P ht (rL_P ht (rL_P ht fun _ => by
          obtain ⟨p, hp, e⟩ := H c
          exact ⟨p, hp, by rw [ra9 (by decide), ra9 (by decide)]; exact e⟩))))
    · rw [if_neg c]; exact H
theorem dX3_readGroups_0 : decode cX3_readGroups 0 = .ok (.iconst 1, 1) := by decide +kernel
theorem dX3_readGroups_1 : decode cX3_readGroups 1 = .ok (.istore_n 2, 1) := by decide +kernel
theorem dX3_readGroups_2 : decode cX3_readGroups 2 = .ok (.iload_n 2, 1) := by decide +kernel
theorem dX3_readGroups_3 : decode cX3_readGroups 3 = .ok (.iconst 4, 1) := by decide +kernel
theorem dX3_readGroups_4 : decode cX3_readGroups 4 = .ok (.if_icmp .gt 120, 3) := by decide +kernel
theorem dX3_readGroups_7 : decode cX3_readGroups 7 = .ok (.aload_n 0, 1) := by decide +kernel
theorem dX3_readGroups_8 : decode cX3_readGroups 8 = .ok (.getfield 76, 3) := by decide +kernel
theorem dX3_readGroups_11 : decode cX3_readGroups 11 = .ok (.ifCond .eq 113, 3) := by decide +kernel
theorem dX3_readGroups_14 : decode cX3_readGroups 14 = .ok (.aload_n 0, 1) := by decide +kernel
theorem dX3_readGroups_15 : decode cX3_readGroups 15 = .ok (.iload_n 2, 1) := by decide +kernel
theorem dX3_readGroups_16 : decode cX3_readGroups 16 = .ok (.putfield 48, 3) := by decide +kernel
theorem dX3_readGroups_19 : decode cX3_readGroups 19 = .ok (.aload_n 0, 1) := by decide +kernel
theorem dX3_readGroups_20 : decode cX3_readGroups 20 = .ok (.getfield 76, 3) := by decide +kernel
theorem dX3_readGroups_23 : decode cX3_readGroups 23 = .ok (.istore_n 3, 1) := by decide +kernel
theorem dX3_readGroups_24 : decode cX3_readGroups 24 = .ok (.aload_n 0, 1) := by decide +kernel
theorem dX3_readGroups_25 : decode cX3_readGroups 25 = .ok (.iconst 0, 1) := by decide +kernel
theorem dX3_readGroups_26 : decode cX3_readGroups 26 = .ok (.putfield 76, 3) := by decide +kernel
theorem dX3_readGroups_29 : decode cX3_readGroups 29 = .ok (.iconst 0, 1) := by decide +kernel
theorem dX3_readGroups_30 : decode cX3_readGroups 30 = .ok (.istore 4, 2) := by decide +kernel
theorem dX3_readGroups_32 : decode cX3_readGroups 32 = .ok (.iload 4, 2) := by decide +kernel
theorem dX3_readGroups_34 : decode cX3_readGroups 34 = .ok (.iconst 4, 1) := by decide +kernel
theorem dX3_readGroups_35 : decode cX3_readGroups 35 = .ok (.if_icmp .ge 83, 3) := by decide +kernel
theorem dX3_readGroups_38 : decode cX3_readGroups 38 = .ok (.iload_n 3, 1) := by decide +kernel
theorem dX3_readGroups_39 : decode cX3_readGroups 39 = .ok (.iload 4, 2) := by decide +kernel
theorem dX3_readGroups_41 : decode cX3_readGroups 41 = .ok (.ishr, 1) := by decide +kernel
theorem dX3_readGroups_42 : decode cX3_readGroups 42 = .ok (.iconst 1, 1) := by decide +kernel
theorem dX3_readGroups_43 : decode cX3_readGroups 43 = .ok (.iand, 1) := by decide +kernel
theorem dX3_readGroups_44 : decode cX3_readGroups 44 = .ok (.ifCond .ne 6, 3) := by decide +kernel
theorem dX3_readGroups_47 : decode cX3_readGroups 47 = .ok (.goto 65, 3) := by decide +kernel
theorem dX3_readGroups_50 : decode cX3_readGroups 50 = .ok (.aload_n 0, 1) := by decide +kernel
theorem dX3_readGroups_51 : decode cX3_readGroups 51 = .ok (.getfield 79, 3) := by decide +kernel
theorem dX3_readGroups_54 : decode cX3_readGroups 54 = .ok (.aload_n 1, 1) := by decide +kernel
theorem dX3_readGroups_55 : decode cX3_readGroups 55 = .ok (.invokevirtual 65, 3) := by decide +kernel
theorem dX3_readGroups_58 : decode cX3_readGroups 58 = .ok (.if_icmp .lt 12, 3) := by decide +kernel
theorem dX3_readGroups_61 : decode cX3_readGroups 61 = .ok (.aload_n 0, 1) := by decide +kernel
theorem dX3_readGroups_62 : decode cX3_readGroups 62 = .ok (.getfield 79, 3) := by decide +kernel
theorem dX3_readGroups_65 : decode cX3_readGroups 65 = .ok (.iconst 1, 1) := by decide +kernel
theorem dX3_readGroups_66 : decode cX3_readGroups 66 = .ok (.invokestatic 69, 3) := by decide +kernel
theorem dX3_readGroups_69 : decode cX3_readGroups 69 = .ok (.ireturn, 1) := by decide +kernel
theorem dX3_readGroups_70 : decode cX3_readGroups 70 = .ok (.aload_n 0, 1) := by decide +kernel
theorem dX3_readGroups_71 : decode cX3_readGroups 71 = .ok (.iload_n 2, 1) := by decide +kernel
theorem dX3_readGroups_72 : decode cX3_readGroups 72 = .ok (.iload 4, 2) := by decide +kernel
theorem dX3_readGroups_74 : decode cX3_readGroups 74 = .ok (.aload_n 1, 1) := by decide +kernel
theorem dX3_readGroups_75 : decode cX3_readGroups 75 = .ok (.aload_n 0, 1) := by decide +kernel
theorem dX3_readGroups_76 : decode cX3_readGroups 76 = .ok (.getfield 79, 3) := by decide +kernel
theorem dX3_readGroups_79 : decode cX3_readGroups 79 = .ok (.invokevirtual 30, 3) := by decide +kernel
theorem dX3_readGroups_82 : decode cX3_readGroups 82 = .ok (.invokevirtual 82, 3) := by decide +kernel
theorem dX3_readGroups_85 : decode cX3_readGroups 85 = .ok (.istore 5, 2) := by decide +kernel
theorem dX3_readGroups_87 : decode cX3_readGroups 87 = .ok (.iload 5, 2) := by decide +kernel
theorem dX3_readGroups_89 : decode cX3_readGroups 89 = .ok (.ifCond .eq 13, 3) := by decide +kernel
theorem dX3_readGroups_92 : decode cX3_readGroups 92 = .ok (.aload_n 0, 1) := by decide +kernel
theorem dX3_readGroups_93 : decode cX3_readGroups 93 = .ok (.getfield 79, 3) := by decide +kernel
theorem dX3_readGroups_96 : decode cX3_readGroups 96 = .ok (.iload 5, 2) := by decide +kernel
theorem dX3_readGroups_98 : decode cX3_readGroups 98 = .ok (.invokestatic 69, 3) := by decide +kernel
theorem dX3_readGroups_101 : decode cX3_readGroups 101 = .ok (.ireturn, 1) := by decide +kernel
theorem dX3_readGroups_102 : decode cX3_readGroups 102 = .ok (.aload_n 0, 1) := by decide +kernel
theorem dX3_readGroups_103 : decode cX3_readGroups 103 = .ok (.dup, 1) := by decide +kernel
theorem dX3_readGroups_104 : decode cX3_readGroups 104 = .ok (.getfield 79, 3) := by decide +kernel
theorem dX3_readGroups_107 : decode cX3_readGroups 107 = .ok (.iconst 1, 1) := by decide +kernel
theorem dX3_readGroups_108 : decode cX3_readGroups 108 = .ok (.iadd, 1) := by decide +kernel
theorem dX3_readGroups_109 : decode cX3_readGroups 109 = .ok (.putfield 79, 3) := by decide +kernel
theorem dX3_readGroups_112 : decode cX3_readGroups 112 = .ok (.iinc 4 1, 3) := by decide +kernel
theorem dX3_readGroups_115 : decode cX3_readGroups 115 = .ok (.goto (-83), 3) := by decide +kernel
theorem dX3_readGroups_118 : decode cX3_readGroups 118 = .ok (.iinc 2 1, 3) := by decide +kernel
theorem dX3_readGroups_121 : decode cX3_readGroups 121 = .ok (.goto (-119), 3) := by decide +kernel
theorem dX3_readGroups_124 : decode cX3_readGroups 124 = .ok (.iconst 0, 1) := by decide +kernel
theorem dX3_readGroups_125 : decode cX3_readGroups 125 = .ok (.ireturn, 1) := by decide +kernel
theorem nI_le4 {g : Nat} (h : g < 5) : ¬ (4 : Int32) < nI g := by
  rw [Int32.lt_iff_toInt_lt, nI_toInt (by omega)]
  have : (4 : Int32).toInt = 4 := by decide
  omega
set_option maxRecDepth 100000 in
set_option maxHeartbeats 4000000 in
theorem c_X3_readGroups_116 {hp : List gA} {q : rq} {l t : List Int32} (HQ : rqH hp 116 q l) (HT : gRw hp 1 2 96 t) : gM yX3_readGroups cX3_readGroups 6 ((some .int)) 3 66 [.ref 116, .ref 1] (hp) (0) (0) (fun v h => v = some (.int (rGs t 4 1 (0, q)).1) ∧ (rqH h 116 (rGs t 4 1 (0, q)).2 l ∧ rqF 116 hp h)) := by
  refine gM_of (ls0 := [some (.ref 116), some (.ref 1), none, none, none, none]) (by decide +kernel) (Nat.le_of_ble_eq_true rfl) rfl fun X C E => ?_
  have ht := (gRw.le HT).1
  obtain ⟨F, hF⟩ : ∃ F, rGs t 4 1 (0, q) = F := ⟨_, rfl⟩
  have K : ∀ (n g : Nat) (q1 : rq) (ha : List gA) (x3 x4 x5 : Option Value), n + g = 5 → 1 ≤ g → rqH ha 116 q1 l → gRw ha 1 2 96 t → rqF 116 hp ha → rGs t n g (0, q1) = F → gG X 2 [some (.ref 116), some (.ref 1), some (.int ((nI g))), x3, x4, x5] [] ha 0 0 := by
    intro n
    induction n with
    | zero =>
      intro g q1 ha x3 x4 x5 hg hg1 HQa HTa fqa hr
      obtain rfl : g = 5 := by omega
      have hr : (0, q1) = F := hr
      refine g_iload_n (q := 3) C dX3_readGroups_2 rfl rfl ?_
      refine g_iconst (v := 4) (q := 4) C dX3_readGroups_3 (by decide) rfl ?_
      refine g_icmp_gt_t (t := 124) C dX3_readGroups_4 (by decide) (by decide) ?_
      refine g_iconst (v := 0) (q := 125) C dX3_readGroups_124 (by decide) rfl ?_
      exact E.1 _ _ _ _ _ _ _ dX3_readGroups_125 rfl rfl (Nat.le_of_ble_eq_true rfl) (Nat.le_of_ble_eq_true rfl) ⟨by rw [hF, ← hr], by rw [hF, ← hr]; exact ⟨HQa, fqa⟩⟩
    | succ n ih =>
      intro g q1 ha x3 x4 x5 hg hg1 HQa HTa fqa hr
      have J4 : ∀ (q2 : rq) (hb : List gA) (x5 : Option Value), rqH hb 116 q2 l → gRw hb 1 2 96 t → rqF 116 hp hb → rGs t n (g + 1) (0, q2) = F → gG X 32 [some (.ref 116), some (.ref 1), some (.int ((nI g))), some (.int ((q1.f 9))), some (.int 4), x5] [] hb 0 0 := by
        intro q2 hb x5 HQb HTb fqb hr2
        refine g_iload (q := 34) C dX3_readGroups_32 rfl rfl ?_
        refine g_iconst (v := 4) (q := 35) C dX3_readGroups_34 (by decide) rfl ?_
        refine g_icmp_ge_t (t := 118) C dX3_readGroups_35 (by decide) (by decide) ?_
        refine g_iinc (v := (nI (g + 1))) (q := 121) C dX3_readGroups_118 rfl (nI_1 g) (by simp only [gset]; rfl) rfl ?_
        refine g_goto (q := 2) C dX3_readGroups_121 (by decide) ?_
        exact ih (g + 1) q2 hb _ _ _ (by omega) (by omega) HQb HTb fqb hr2
      have J3 : ∀ (q2 : rq) (hb : List gA) (x5 : Option Value), rqH hb 116 q2 l → gRw hb 1 2 96 t → rqF 116 hp hb → rGs t n (g + 1) (rL t (nI g) (q1.f 9) 3 (0, q2)) = F → gG X 32 [some (.ref 116), some (.ref 1), some (.int ((nI g))), some (.int ((q1.f 9))), some (.int 3), x5] [] hb 0 0 := by
        intro q2 hb x5 HQb HTb fqb hr2
        refine g_iload (q := 34) C dX3_readGroups_32 rfl rfl ?_
        refine g_iconst (v := 4) (q := 35) C dX3_readGroups_34 (by decide) rfl ?_
        refine g_icmp_ge_f (t := 118) (q := 38) C dX3_readGroups_35 (by decide) rfl (by decide) ?_
        refine g_iload_n (q := 39) C dX3_readGroups_38 rfl rfl ?_
        refine g_iload (q := 41) C dX3_readGroups_39 rfl rfl ?_
        refine g_ishr (q := 42) C dX3_readGroups_41 rfl ?_
        refine g_iconst (v := 1) (q := 43) C dX3_readGroups_42 (by decide) rfl ?_
        refine g_iand (q := 44) C dX3_readGroups_43 rfl ?_
        refine g_if_ne (t := 50) (q := 47) C dX3_readGroups_44 (by decide) rfl (fun c_44 => ?_) (fun c_44 => ?_)
        ·
          refine g_aload_n (q := 51) C dX3_readGroups_50 rfl rfl ?_
          refine g_getfield (v := .int ((q2.f 8))) (q := 54) C fX3_79 dX3_readGroups_51 rfl HQb.1 rfl ?_
          refine g_aload_n (q := 55) C dX3_readGroups_54 rfl rfl ?_
          refine g_callVi (x := (nI t.length)) (q := 58) (As := []) C gyX4_size gvX4_size t_517 (c_X4_size (gRw.obj HTb)) dX3_readGroups_55 rfl (gRw.obj HTb) rfl rfl rfl (Nat.le_of_ble_eq_true rfl) (Nat.le_of_ble_eq_true rfl) (Nat.le_of_ble_eq_true rfl) (Nat.le_of_ble_eq_true rfl) (Nat.le_of_ble_eq_true rfl) rfl ?_
          refine g_icmp_lt (t := 70) (q := 61) C dX3_readGroups_58 (by decide) rfl (fun c_58 => ?_) (fun c_58 => ?_)
          ·
            refine g_aload_n (q := 71) C dX3_readGroups_70 rfl rfl ?_
            refine g_iload_n (q := 72) C dX3_readGroups_71 rfl rfl ?_
            refine g_iload (q := 74) C dX3_readGroups_72 rfl rfl ?_
            refine g_aload_n (q := 75) C dX3_readGroups_74 rfl rfl ?_
            refine g_aload_n (q := 76) C dX3_readGroups_75 rfl rfl ?_
            refine g_getfield (v := .int ((q2.f 8))) (q := 79) C fX3_79 dX3_readGroups_76 rfl HQb.1 rfl ?_
            refine g_callVi (x := (gat t (q2.f 8))) (q := 82) (As := [.int ((q2.f 8))]) C gyX4_at gvX4_at t_521 (c_X4_at_w HTb) dX3_readGroups_79 rfl (gRw.obj HTb) rfl rfl rfl (Nat.le_of_ble_eq_true rfl) (Nat.le_of_ble_eq_true rfl) (Nat.le_of_ble_eq_true rfl) (Nat.le_of_ble_eq_true rfl) (Nat.le_of_ble_eq_true rfl) rfl ?_
            refine g_callVix (x := (rX3_readGroupByte q2 (nI g) 3 (gat t (q2.f 8))).1) (q := 85) (As := [.int ((nI g)), .int 3, .int ((gat t (q2.f 8)))]) C gyX3_readGroupByte gvX3_readGroupByte t_529 (c_X3_readGroupByte_116 HQb) dX3_readGroups_82 rfl HQb.1 rfl rfl rfl (Nat.le_of_ble_eq_true rfl) (Nat.le_of_ble_eq_true rfl) (Nat.le_of_ble_eq_true rfl) (Nat.le_of_ble_eq_true rfl) (Nat.le_of_ble_eq_true rfl) rfl (fun h1 z1 => ?_)
            obtain ⟨HQ1, fq1⟩ := z1
            have HT1 := gRw.ra HTb (by decide) fq1
            refine g_istore (q := 87) C dX3_readGroups_85 (Nat.le_of_ble_eq_true rfl) (by simp only [gset]; rfl) rfl ?_
            refine g_iload (q := 89) C dX3_readGroups_87 rfl rfl ?_
            refine g_if_eq (t := 102) (q := 92) C dX3_readGroups_89 (by decide) rfl (fun c_89 => ?_) (fun c_89 => ?_)
            ·
              refine g_aload_n (q := 103) C dX3_readGroups_102 rfl rfl ?_
              refine g_dup (q := 104) C dX3_readGroups_103 rfl rfl ?_
              refine g_getfield (v := .int ((((rX3_readGroupByte q2 (nI g) 3 (gat t (q2.f 8))).2).f 8))) (q := 107) C fX3_79 dX3_readGroups_104 rfl HQ1.1 rfl ?_
              refine g_iconst (v := 1) (q := 108) C dX3_readGroups_107 (by decide) rfl ?_
              refine g_iadd (q := 109) C dX3_readGroups_108 rfl ?_
              refine g_putfield (q := 112) C fX3_79 dX3_readGroups_109 rfl HQ1.1 (Nat.le_of_ble_eq_true rfl) (Or.inl rfl) rfl rfl (by intro z h; cases h) ?_
              refine rqput (j := 8) (x := ((((rX3_readGroupByte q2 (nI g) 3 (gat t (q2.f 8))).2).f 8) + 1)) HQ1 rfl fun h2 HQ2 fq2 => ?_
              have HT2 := gRw.ra HT1 (by decide) fq2
              refine g_iinc (v := 4) (q := 115) C dX3_readGroups_112 rfl (by decide) (by simp only [gset]; rfl) rfl ?_
              refine g_goto (q := 32) C dX3_readGroups_115 (by decide) ?_
              exact J4 _ _ _ HQ2 HT2 (rqF.trans (rqF.trans fqb fq1) fq2) (by rw [← hr2, show rL t (nI g) (q1.f 9) 3 (0, q2) = (0, ((rX3_readGroupByte q2 (nI g) 3 (gat t (q2.f 8))).2.set 8 ((rX3_readGroupByte q2 (nI g) 3 (gat t (q2.f 8))).2.f 8 + 1))) from (if_pos rfl).trans ((if_neg c_44).trans ((if_neg (by rw [Int32.not_le]; exact c_58)).trans (if_pos c_89)))])
            ·
              refine g_aload_n (q := 93) C dX3_readGroups_92 rfl rfl ?_
              refine g_getfield (v := .int ((((rX3_readGroupByte q2 (nI g) 3 (gat t (q2.f 8))).2).f 8))) (q := 96) C fX3_79 dX3_readGroups_93 rfl HQ1.1 rfl ?_
              refine g_iload (q := 98) C dX3_readGroups_96 rfl rfl ?_
              refine g_callSi (x := (8 * (((rX3_readGroupByte q2 (nI g) 3 (gat t (q2.f 8))).2).f 8) + (rX3_readGroupByte q2 (nI g) 3 (gat t (q2.f 8))).1)) (q := 101) (As := [.int ((((rX3_readGroupByte q2 (nI g) 3 (gat t (q2.f 8))).2).f 8)), .int ((rX3_readGroupByte q2 (nI g) 3 (gat t (q2.f 8))).1)]) C gyX3_faultAt t_519 t_518 (c_X3_faultAt_x) dX3_readGroups_98 rfl rfl rfl (Nat.le_of_ble_eq_true rfl) (Nat.le_of_ble_eq_true rfl) (Nat.le_of_ble_eq_true rfl) (Nat.le_of_ble_eq_true rfl) (Nat.le_of_ble_eq_true rfl) rfl ?_
              have hst : ¬ (((8 * (rX3_readGroupByte q2 (nI g) 3 (gat t (q2.f 8))).2.f 8 + (rX3_readGroupByte q2 (nI g) 3 (gat t (q2.f 8))).1, (rX3_readGroupByte q2 (nI g) 3 (gat t (q2.f 8))).2) : Int32 × rq)).1 = 0 := rGbx c_89
              have e : rL t (nI g) (q1.f 9) 3 (0, q2) = (8 * (rX3_readGroupByte q2 (nI g) 3 (gat t (q2.f 8))).2.f 8 + (rX3_readGroupByte q2 (nI g) 3 (gat t (q2.f 8))).1, (rX3_readGroupByte q2 (nI g) 3 (gat t (q2.f 8))).2) := (if_pos rfl).trans ((if_neg c_44).trans ((if_neg (by rw [Int32.not_le]; exact c_58)).trans (if_neg c_89)))
              rw [e, rGs_st hst] at hr2
              exact E.1 _ _ _ _ _ _ _ dX3_readGroups_101 rfl rfl (Nat.le_of_ble_eq_true rfl) (Nat.le_of_ble_eq_true rfl) ⟨by rw [hF, ← hr2], by rw [hF, ← hr2]; exact ⟨HQ1, (rqF.trans fqb fq1)⟩⟩
          ·
            refine g_aload_n (q := 62) C dX3_readGroups_61 rfl rfl ?_
            refine g_getfield (v := .int ((q2.f 8))) (q := 65) C fX3_79 dX3_readGroups_62 rfl HQb.1 rfl ?_
            refine g_iconst (v := 1) (q := 66) C dX3_readGroups_65 (by decide) rfl ?_
            refine g_callSi (x := (8 * (q2.f 8) + 1)) (q := 69) (As := [.int ((q2.f 8)), .int 1]) C gyX3_faultAt t_519 t_518 (c_X3_faultAt_x) dX3_readGroups_66 rfl rfl rfl (Nat.le_of_ble_eq_true rfl) (Nat.le_of_ble_eq_true rfl) (Nat.le_of_ble_eq_true rfl) (Nat.le_of_ble_eq_true rfl) (Nat.le_of_ble_eq_true rfl) rfl ?_
            have hst : ¬ (((8 * q2.f 8 + 1, q2) : Int32 × rq)).1 = 0 := gx8 (c := 1) (by decide) (by decide)
            have e : rL t (nI g) (q1.f 9) 3 (0, q2) = (8 * q2.f 8 + 1, q2) := (if_pos rfl).trans ((if_neg c_44).trans (if_pos (Int32.not_lt.mp c_58)))
            rw [e, rGs_st hst] at hr2
            exact E.1 _ _ _ _ _ _ _ dX3_readGroups_69 rfl rfl (Nat.le_of_ble_eq_true rfl) (Nat.le_of_ble_eq_true rfl) ⟨by rw [hF, ← hr2], by rw [hF, ← hr2]; exact ⟨HQb, fqb⟩⟩
        ·
          refine g_goto (q := 112) C dX3_readGroups_47 (by decide) ?_
          refine g_iinc (v := 4) (q := 115) C dX3_readGroups_112 rfl (by decide) (by simp only [gset]; rfl) rfl ?_
          refine g_goto (q := 32) C dX3_readGroups_115 (by decide) ?_
          exact J4 _ _ _ HQb HTb fqb (by rw [← hr2, show rL t (nI g) (q1.f 9) 3 (0, q2) = (0, q2) from (if_pos rfl).trans (if_pos (c_44))])
      have J2 : ∀ (q2 : rq) (hb : List gA) (x5 : Option Value), rqH hb 116 q2 l → gRw hb 1 2 96 t → rqF 116 hp hb → rGs t n (g + 1) (rL t (nI g) (q1.f 9) 3 (rL t (nI g) (q1.f 9) 2 (0, q2))) = F → gG X 32 [some (.ref 116), some (.ref 1), some (.int ((nI g))), some (.int ((q1.f 9))), some (.int 2), x5] [] hb 0 0 := by
        intro q2 hb x5 HQb HTb fqb hr2
        refine g_iload (q := 34) C dX3_readGroups_32 rfl rfl ?_
        refine g_iconst (v := 4) (q := 35) C dX3_readGroups_34 (by decide) rfl ?_
        refine g_icmp_ge_f (t := 118) (q := 38) C dX3_readGroups_35 (by decide) rfl (by decide) ?_
        refine g_iload_n (q := 39) C dX3_readGroups_38 rfl rfl ?_
        refine g_iload (q := 41) C dX3_readGroups_39 rfl rfl ?_
        refine g_ishr (q := 42) C dX3_readGroups_41 rfl ?_
        refine g_iconst (v := 1) (q := 43) C dX3_readGroups_42 (by decide) rfl ?_
        refine g_iand (q := 44) C dX3_readGroups_43 rfl ?_
        refine g_if_ne (t := 50) (q := 47) C dX3_readGroups_44 (by decide) rfl (fun c_44 => ?_) (fun c_44 => ?_)
        ·
          refine g_aload_n (q := 51) C dX3_readGroups_50 rfl rfl ?_
          refine g_getfield (v := .int ((q2.f 8))) (q := 54) C fX3_79 dX3_readGroups_51 rfl HQb.1 rfl ?_
          refine g_aload_n (q := 55) C dX3_readGroups_54 rfl rfl ?_
          refine g_callVi (x := (nI t.length)) (q := 58) (As := []) C gyX4_size gvX4_size t_517 (c_X4_size (gRw.obj HTb)) dX3_readGroups_55 rfl (gRw.obj HTb) rfl rfl rfl (Nat.le_of_ble_eq_true rfl) (Nat.le_of_ble_eq_true rfl) (Nat.le_of_ble_eq_true rfl) (Nat.le_of_ble_eq_true rfl) (Nat.le_of_ble_eq_true rfl) rfl ?_
          refine g_icmp_lt (t := 70) (q := 61) C dX3_readGroups_58 (by decide) rfl (fun c_58 => ?_) (fun c_58 => ?_)
          ·
            refine g_aload_n (q := 71) C dX3_readGroups_70 rfl rfl ?_
            refine g_iload_n (q := 72) C dX3_readGroups_71 rfl rfl ?_
            refine g_iload (q := 74) C dX3_readGroups_72 rfl rfl ?_
            refine g_aload_n (q := 75) C dX3_readGroups_74 rfl rfl ?_
            refine g_aload_n (q := 76) C dX3_readGroups_75 rfl rfl ?_
            refine g_getfield (v := .int ((q2.f 8))) (q := 79) C fX3_79 dX3_readGroups_76 rfl HQb.1 rfl ?_
            refine g_callVi (x := (gat t (q2.f 8))) (q := 82) (As := [.int ((q2.f 8))]) C gyX4_at gvX4_at t_521 (c_X4_at_w HTb) dX3_readGroups_79 rfl (gRw.obj HTb) rfl rfl rfl (Nat.le_of_ble_eq_true rfl) (Nat.le_of_ble_eq_true rfl) (Nat.le_of_ble_eq_true rfl) (Nat.le_of_ble_eq_true rfl) (Nat.le_of_ble_eq_true rfl) rfl ?_
            refine g_callVix (x := (rX3_readGroupByte q2 (nI g) 2 (gat t (q2.f 8))).1) (q := 85) (As := [.int ((nI g)), .int 2, .int ((gat t (q2.f 8)))]) C gyX3_readGroupByte gvX3_readGroupByte t_529 (c_X3_readGroupByte_116 HQb) dX3_readGroups_82 rfl HQb.1 rfl rfl rfl (Nat.le_of_ble_eq_true rfl) (Nat.le_of_ble_eq_true rfl) (Nat.le_of_ble_eq_true rfl) (Nat.le_of_ble_eq_true rfl) (Nat.le_of_ble_eq_true rfl) rfl (fun h3 z3 => ?_)
            obtain ⟨HQ3, fq3⟩ := z3
            have HT3 := gRw.ra HTb (by decide) fq3
            refine g_istore (q := 87) C dX3_readGroups_85 (Nat.le_of_ble_eq_true rfl) (by simp only [gset]; rfl) rfl ?_
            refine g_iload (q := 89) C dX3_readGroups_87 rfl rfl ?_
            refine g_if_eq (t := 102) (q := 92) C dX3_readGroups_89 (by decide) rfl (fun c_89 => ?_) (fun c_89 => ?_)
            ·
              refine g_aload_n (q := 103) C dX3_readGroups_102 rfl rfl ?_
              refine g_dup (q := 104) C dX3_readGroups_103 rfl rfl ?_
              refine g_getfield (v := .int ((((rX3_readGroupByte q2 (nI g) 2 (gat t (q2.f 8))).2).f 8))) (q := 107) C fX3_79 dX3_readGroups_104 rfl HQ3.1 rfl ?_
              refine g_iconst (v := 1) (q := 108) C dX3_readGroups_107 (by decide) rfl ?_
              refine g_iadd (q := 109) C dX3_readGroups_108 rfl ?_
              refine g_putfield (q := 112) C fX3_79 dX3_readGroups_109 rfl HQ3.1 (Nat.le_of_ble_eq_true rfl) (Or.inl rfl) rfl rfl (by intro z h; cases h) ?_
              refine rqput (j := 8) (x := ((((rX3_readGroupByte q2 (nI g) 2 (gat t (q2.f 8))).2).f 8) + 1)) HQ3 rfl fun h4 HQ4 fq4 => ?_
              have HT4 := gRw.ra HT3 (by decide) fq4
              refine g_iinc (v := 3) (q := 115) C dX3_readGroups_112 rfl (by decide) (by simp only [gset]; rfl) rfl ?_
              refine g_goto (q := 32) C dX3_readGroups_115 (by decide) ?_
              exact J3 _ _ _ HQ4 HT4 (rqF.trans (rqF.trans fqb fq3) fq4) (by rw [← hr2, show rL t (nI g) (q1.f 9) 2 (0, q2) = (0, ((rX3_readGroupByte q2 (nI g) 2 (gat t (q2.f 8))).2.set 8 ((rX3_readGroupByte q2 (nI g) 2 (gat t (q2.f 8))).2.f 8 + 1))) from (if_pos rfl).trans ((if_neg c_44).trans ((if_neg (by rw [Int32.not_le]; exact c_58)).trans (if_pos c_89)))])
            ·
              refine g_aload_n (q := 93) C dX3_readGroups_92 rfl rfl ?_
              refine g_getfield (v := .int ((((rX3_readGroupByte q2 (nI g) 2 (gat t (q2.f 8))).2).f 8))) (q := 96) C fX3_79 dX3_readGroups_93 rfl HQ3.1 rfl ?_
              refine g_iload (q := 98) C dX3_readGroups_96 rfl rfl ?_
              refine g_callSi (x := (8 * (((rX3_readGroupByte q2 (nI g) 2 (gat t (q2.f 8))).2).f 8) + (rX3_readGroupByte q2 (nI g) 2 (gat t (q2.f 8))).1)) (q := 101) (As := [.int ((((rX3_readGroupByte q2 (nI g) 2 (gat t (q2.f 8))).2).f 8)), .int ((rX3_readGroupByte q2 (nI g) 2 (gat t (q2.f 8))).1)]) C gyX3_faultAt t_519 t_518 (c_X3_faultAt_x) dX3_readGroups_98 rfl rfl rfl (Nat.le_of_ble_eq_true rfl) (Nat.le_of_ble_eq_true rfl) (Nat.le_of_ble_eq_true rfl) (Nat.le_of_ble_eq_true rfl) (Nat.le_of_ble_eq_true rfl) rfl ?_
              have hst : ¬ (((8 * (rX3_readGroupByte q2 (nI g) 2 (gat t (q2.f 8))).2.f 8 + (rX3_readGroupByte q2 (nI g) 2 (gat t (q2.f 8))).1, (rX3_readGroupByte q2 (nI g) 2 (gat t (q2.f 8))).2) : Int32 × rq)).1 = 0 := rGbx c_89
              have e : rL t (nI g) (q1.f 9) 2 (0, q2) = (8 * (rX3_readGroupByte q2 (nI g) 2 (gat t (q2.f 8))).2.f 8 + (rX3_readGroupByte q2 (nI g) 2 (gat t (q2.f 8))).1, (rX3_readGroupByte q2 (nI g) 2 (gat t (q2.f 8))).2) := (if_pos rfl).trans ((if_neg c_44).trans ((if_neg (by rw [Int32.not_le]; exact c_58)).trans (if_neg c_89)))
              rw [e, rL_st (k := 3) hst, rGs_st hst] at hr2
              exact E.1 _ _ _ _ _ _ _ dX3_readGroups_101 rfl rfl (Nat.le_of_ble_eq_true rfl) (Nat.le_of_ble_eq_true rfl) ⟨by rw [hF, ← hr2], by rw [hF, ← hr2]; exact ⟨HQ3, (rqF.trans fqb fq3)⟩⟩
          ·
            refine g_aload_n (q := 62) C dX3_readGroups_61 rfl rfl ?_
            refine g_getfield (v := .int ((q2.f 8))) (q := 65) C fX3_79 dX3_readGroups_62 rfl HQb.1 rfl ?_
            refine g_iconst (v := 1) (q := 66) C dX3_readGroups_65 (by decide) rfl ?_
            refine g_callSi (x := (8 * (q2.f 8) + 1)) (q := 69) (As := [.int ((q2.f 8)), .int 1]) C gyX3_faultAt t_519 t_518 (c_X3_faultAt_x) dX3_readGroups_66 rfl rfl rfl (Nat.le_of_ble_eq_true rfl) (Nat.le_of_ble_eq_true rfl) (Nat.le_of_ble_eq_true rfl) (Nat.le_of_ble_eq_true rfl) (Nat.le_of_ble_eq_true rfl) rfl ?_
            have hst : ¬ (((8 * q2.f 8 + 1, q2) : Int32 × rq)).1 = 0 := gx8 (c := 1) (by decide) (by decide)
            have e : rL t (nI g) (q1.f 9) 2 (0, q2) = (8 * q2.f 8 + 1, q2) := (if_pos rfl).trans ((if_neg c_44).trans (if_pos (Int32.not_lt.mp c_58)))
            rw [e, rL_st (k := 3) hst, rGs_st hst] at hr2
            exact E.1 _ _ _ _ _ _ _ dX3_readGroups_69 rfl rfl (Nat.le_of_ble_eq_true rfl) (Nat.le_of_ble_eq_true rfl) ⟨by rw [hF, ← hr2], by rw [hF, ← hr2]; exact ⟨HQb, fqb⟩⟩
        ·
          refine g_goto (q := 112) C dX3_readGroups_47 (by decide) ?_
          refine g_iinc (v := 3) (q := 115) C dX3_readGroups_112 rfl (by decide) (by simp only [gset]; rfl) rfl ?_
          refine g_goto (q := 32) C dX3_readGroups_115 (by decide) ?_
          exact J3 _ _ _ HQb HTb fqb (by rw [← hr2, show rL t (nI g) (q1.f 9) 2 (0, q2) = (0, q2) from (if_pos rfl).trans (if_pos (c_44))])
      have J1 : ∀ (q2 : rq) (hb : List gA) (x5 : Option Value), rqH hb 116 q2 l → gRw hb 1 2 96 t → rqF 116 hp hb → rGs t n (g + 1) (rL t (nI g) (q1.f 9) 3 (rL t (nI g) (q1.f 9) 2 (rL t (nI g) (q1.f 9) 1 (0, q2)))) = F → gG X 32 [some (.ref 116), some (.ref 1), some (.int ((nI g))), some (.int ((q1.f 9))), some (.int 1), x5] [] hb 0 0 := by
        intro q2 hb x5 HQb HTb fqb hr2
        refine g_iload (q := 34) C dX3_readGroups_32 rfl rfl ?_
        refine g_iconst (v := 4) (q := 35) C dX3_readGroups_34 (by decide) rfl ?_
        refine g_icmp_ge_f (t := 118) (q := 38) C dX3_readGroups_35 (by decide) rfl (by decide) ?_
        refine g_iload_n (q := 39) C dX3_readGroups_38 rfl rfl ?_
        refine g_iload (q := 41) C dX3_readGroups_39 rfl rfl ?_
        refine g_ishr (q := 42) C dX3_readGroups_41 rfl ?_
        refine g_iconst (v := 1) (q := 43) C dX3_readGroups_42 (by decide) rfl ?_
        refine g_iand (q := 44) C dX3_readGroups_43 rfl ?_
        refine g_if_ne (t := 50) (q := 47) C dX3_readGroups_44 (by decide) rfl (fun c_44 => ?_) (fun c_44 => ?_)
        ·
          refine g_aload_n (q := 51) C dX3_readGroups_50 rfl rfl ?_
          refine g_getfield (v := .int ((q2.f 8))) (q := 54) C fX3_79 dX3_readGroups_51 rfl HQb.1 rfl ?_
          refine g_aload_n (q := 55) C dX3_readGroups_54 rfl rfl ?_
          refine g_callVi (x := (nI t.length)) (q := 58) (As := []) C gyX4_size gvX4_size t_517 (c_X4_size (gRw.obj HTb)) dX3_readGroups_55 rfl (gRw.obj HTb) rfl rfl rfl (Nat.le_of_ble_eq_true rfl) (Nat.le_of_ble_eq_true rfl) (Nat.le_of_ble_eq_true rfl) (Nat.le_of_ble_eq_true rfl) (Nat.le_of_ble_eq_true rfl) rfl ?_
          refine g_icmp_lt (t := 70) (q := 61) C dX3_readGroups_58 (by decide) rfl (fun c_58 => ?_) (fun c_58 => ?_)
          ·
            refine g_aload_n (q := 71) C dX3_readGroups_70 rfl rfl ?_
            refine g_iload_n (q := 72) C dX3_readGroups_71 rfl rfl ?_
            refine g_iload (q := 74) C dX3_readGroups_72 rfl rfl ?_
            refine g_aload_n (q := 75) C dX3_readGroups_74 rfl rfl ?_
            refine g_aload_n (q := 76) C dX3_readGroups_75 rfl rfl ?_
            refine g_getfield (v := .int ((q2.f 8))) (q := 79) C fX3_79 dX3_readGroups_76 rfl HQb.1 rfl ?_
            refine g_callVi (x := (gat t (q2.f 8))) (q := 82) (As := [.int ((q2.f 8))]) C gyX4_at gvX4_at t_521 (c_X4_at_w HTb) dX3_readGroups_79 rfl (gRw.obj HTb) rfl rfl rfl (Nat.le_of_ble_eq_true rfl) (Nat.le_of_ble_eq_true rfl) (Nat.le_of_ble_eq_true rfl) (Nat.le_of_ble_eq_true rfl) (Nat.le_of_ble_eq_true rfl) rfl ?_
            refine g_callVix (x := (rX3_readGroupByte q2 (nI g) 1 (gat t (q2.f 8))).1) (q := 85) (As := [.int ((nI g)), .int 1, .int ((gat t (q2.f 8)))]) C gyX3_readGroupByte gvX3_readGroupByte t_529 (c_X3_readGroupByte_116 HQb) dX3_readGroups_82 rfl HQb.1 rfl rfl rfl (Nat.le_of_ble_eq_true rfl) (Nat.le_of_ble_eq_true rfl) (Nat.le_of_ble_eq_true rfl) (Nat.le_of_ble_eq_true rfl) (Nat.le_of_ble_eq_true rfl) rfl (fun h5 z5 => ?_)
            obtain ⟨HQ5, fq5⟩ := z5
            have HT5 := gRw.ra HTb (by decide) fq5
            refine g_istore (q := 87) C dX3_readGroups_85 (Nat.le_of_ble_eq_true rfl) (by simp only [gset]; rfl) rfl ?_
            refine g_iload (q := 89) C dX3_readGroups_87 rfl rfl ?_
            refine g_if_eq (t := 102) (q := 92) C dX3_readGroups_89 (by decide) rfl (fun c_89 => ?_) (fun c_89 => ?_)
            ·
              refine g_aload_n (q := 103) C dX3_readGroups_102 rfl rfl ?_
              refine g_dup (q := 104) C dX3_readGroups_103 rfl rfl ?_
              refine g_getfield (v := .int ((((rX3_readGroupByte q2 (nI g) 1 (gat t (q2.f 8))).2).f 8))) (q := 107) C fX3_79 dX3_readGroups_104 rfl HQ5.1 rfl ?_
              refine g_iconst (v := 1) (q := 108) C dX3_readGroups_107 (by decide) rfl ?_
              refine g_iadd (q := 109) C dX3_readGroups_108 rfl ?_
              refine g_putfield (q := 112) C fX3_79 dX3_readGroups_109 rfl HQ5.1 (Nat.le_of_ble_eq_true rfl) (Or.inl rfl) rfl rfl (by intro z h; cases h) ?_
              refine rqput (j := 8) (x := ((((rX3_readGroupByte q2 (nI g) 1 (gat t (q2.f 8))).2).f 8) + 1)) HQ5 rfl fun h6 HQ6 fq6 => ?_
              have HT6 := gRw.ra HT5 (by decide) fq6
              refine g_iinc (v := 2) (q := 115) C dX3_readGroups_112 rfl (by decide) (by simp only [gset]; rfl) rfl ?_
              refine g_goto (q := 32) C dX3_readGroups_115 (by decide) ?_
              exact J2 _ _ _ HQ6 HT6 (rqF.trans (rqF.trans fqb fq5) fq6) (by rw [← hr2, show rL t (nI g) (q1.f 9) 1 (0, q2) = (0, ((rX3_readGroupByte q2 (nI g) 1 (gat t (q2.f 8))).2.set 8 ((rX3_readGroupByte q2 (nI g) 1 (gat t (q2.f 8))).2.f 8 + 1))) from (if_pos rfl).trans ((if_neg c_44).trans ((if_neg (by rw [Int32.not_le]; exact c_58)).trans (if_pos c_89)))])
            ·
              refine g_aload_n (q := 93) C dX3_readGroups_92 rfl rfl ?_
              refine g_getfield (v := .int ((((rX3_readGroupByte q2 (nI g) 1 (gat t (q2.f 8))).2).f 8))) (q := 96) C fX3_79 dX3_readGroups_93 rfl HQ5.1 rfl ?_
              refine g_iload (q := 98) C dX3_readGroups_96 rfl rfl ?_
              refine g_callSi (x := (8 * (((rX3_readGroupByte q2 (nI g) 1 (gat t (q2.f 8))).2).f 8) + (rX3_readGroupByte q2 (nI g) 1 (gat t (q2.f 8))).1)) (q := 101) (As := [.int ((((rX3_readGroupByte q2 (nI g) 1 (gat t (q2.f 8))).2).f 8)), .int ((rX3_readGroupByte q2 (nI g) 1 (gat t (q2.f 8))).1)]) C gyX3_faultAt t_519 t_518 (c_X3_faultAt_x) dX3_readGroups_98 rfl rfl rfl (Nat.le_of_ble_eq_true rfl) (Nat.le_of_ble_eq_true rfl) (Nat.le_of_ble_eq_true rfl) (Nat.le_of_ble_eq_true rfl) (Nat.le_of_ble_eq_true rfl) rfl ?_
              have hst : ¬ (((8 * (rX3_readGroupByte q2 (nI g) 1 (gat t (q2.f 8))).2.f 8 + (rX3_readGroupByte q2 (nI g) 1 (gat t (q2.f 8))).1, (rX3_readGroupByte q2 (nI g) 1 (gat t (q2.f 8))).2) : Int32 × rq)).1 = 0 := rGbx c_89
              have e : rL t (nI g) (q1.f 9) 1 (0, q2) = (8 * (rX3_readGroupByte q2 (nI g) 1 (gat t (q2.f 8))).2.f 8 + (rX3_readGroupByte q2 (nI g) 1 (gat t (q2.f 8))).1, (rX3_readGroupByte q2 (nI g) 1 (gat t (q2.f 8))).2) := (if_pos rfl).trans ((if_neg c_44).trans ((if_neg (by rw [Int32.not_le]; exact c_58)).trans (if_neg c_89)))
              rw [e, rL_st (k := 2) hst, rL_st (k := 3) hst, rGs_st hst] at hr2
              exact E.1 _ _ _ _ _ _ _ dX3_readGroups_101 rfl rfl (Nat.le_of_ble_eq_true rfl) (Nat.le_of_ble_eq_true rfl) ⟨by rw [hF, ← hr2], by rw [hF, ← hr2]; exact ⟨HQ5, (rqF.trans fqb fq5)⟩⟩
          ·
            refine g_aload_n (q := 62) C dX3_readGroups_61 rfl rfl ?_
            refine g_getfield (v := .int ((q2.f 8))) (q := 65) C fX3_79 dX3_readGroups_62 rfl HQb.1 rfl ?_
            refine g_iconst (v := 1) (q := 66) C dX3_readGroups_65 (by decide) rfl ?_
            refine g_callSi (x := (8 * (q2.f 8) + 1)) (q := 69) (As := [.int ((q2.f 8)), .int 1]) C gyX3_faultAt t_519 t_518 (c_X3_faultAt_x) dX3_readGroups_66 rfl rfl rfl (Nat.le_of_ble_eq_true rfl) (Nat.le_of_ble_eq_true rfl) (Nat.le_of_ble_eq_true rfl) (Nat.le_of_ble_eq_true rfl) (Nat.le_of_ble_eq_true rfl) rfl ?_
            have hst : ¬ (((8 * q2.f 8 + 1, q2) : Int32 × rq)).1 = 0 := gx8 (c := 1) (by decide) (by decide)
            have e : rL t (nI g) (q1.f 9) 1 (0, q2) = (8 * q2.f 8 + 1, q2) := (if_pos rfl).trans ((if_neg c_44).trans (if_pos (Int32.not_lt.mp c_58)))
            rw [e, rL_st (k := 2) hst, rL_st (k := 3) hst, rGs_st hst] at hr2
            exact E.1 _ _ _ _ _ _ _ dX3_readGroups_69 rfl rfl (Nat.le_of_ble_eq_true rfl) (Nat.le_of_ble_eq_true rfl) ⟨by rw [hF, ← hr2], by rw [hF, ← hr2]; exact ⟨HQb, fqb⟩⟩
        ·
          refine g_goto (q := 112) C dX3_readGroups_47 (by decide) ?_
          refine g_iinc (v := 2) (q := 115) C dX3_readGroups_112 rfl (by decide) (by simp only [gset]; rfl) rfl ?_
          refine g_goto (q := 32) C dX3_readGroups_115 (by decide) ?_
          exact J2 _ _ _ HQb HTb fqb (by rw [← hr2, show rL t (nI g) (q1.f 9) 1 (0, q2) = (0, q2) from (if_pos rfl).trans (if_pos (c_44))])
      have J0 : ∀ (q2 : rq) (hb : List gA) (x5 : Option Value), rqH hb 116 q2 l → gRw hb 1 2 96 t → rqF 116 hp hb → rGs t n (g + 1) (rL t (nI g) (q1.f 9) 3 (rL t (nI g) (q1.f 9) 2 (rL t (nI g) (q1.f 9) 1 (rL t (nI g) (q1.f 9) 0 (0, q2))))) = F → gG X 32 [some (.ref 116), some (.ref 1), some (.int ((nI g))), some (.int ((q1.f 9))), some (.int 0), x5] [] hb 0 0 := by
        intro q2 hb x5 HQb HTb fqb hr2
        refine g_iload (q := 34) C dX3_readGroups_32 rfl rfl ?_
        refine g_iconst (v := 4) (q := 35) C dX3_readGroups_34 (by decide) rfl ?_
        refine g_icmp_ge_f (t := 118) (q := 38) C dX3_readGroups_35 (by decide) rfl (by decide) ?_
        refine g_iload_n (q := 39) C dX3_readGroups_38 rfl rfl ?_
        refine g_iload (q := 41) C dX3_readGroups_39 rfl rfl ?_
        refine g_ishr (q := 42) C dX3_readGroups_41 rfl ?_
        refine g_iconst (v := 1) (q := 43) C dX3_readGroups_42 (by decide) rfl ?_
        refine g_iand (q := 44) C dX3_readGroups_43 rfl ?_
        refine g_if_ne (t := 50) (q := 47) C dX3_readGroups_44 (by decide) rfl (fun c_44 => ?_) (fun c_44 => ?_)
        ·
          refine g_aload_n (q := 51) C dX3_readGroups_50 rfl rfl ?_
          refine g_getfield (v := .int ((q2.f 8))) (q := 54) C fX3_79 dX3_readGroups_51 rfl HQb.1 rfl ?_
          refine g_aload_n (q := 55) C dX3_readGroups_54 rfl rfl ?_
          refine g_callVi (x := (nI t.length)) (q := 58) (As := []) C gyX4_size gvX4_size t_517 (c_X4_size (gRw.obj HTb)) dX3_readGroups_55 rfl (gRw.obj HTb) rfl rfl rfl (Nat.le_of_ble_eq_true rfl) (Nat.le_of_ble_eq_true rfl) (Nat.le_of_ble_eq_true rfl) (Nat.le_of_ble_eq_true rfl) (Nat.le_of_ble_eq_true rfl) rfl ?_
          refine g_icmp_lt (t := 70) (q := 61) C dX3_readGroups_58 (by decide) rfl (fun c_58 => ?_) (fun c_58 => ?_)
          ·
            refine g_aload_n (q := 71) C dX3_readGroups_70 rfl rfl ?_
            refine g_iload_n (q := 72) C dX3_readGroups_71 rfl rfl ?_
            refine g_iload (q := 74) C dX3_readGroups_72 rfl rfl ?_
            refine g_aload_n (q := 75) C dX3_readGroups_74 rfl rfl ?_
            refine g_aload_n (q := 76) C dX3_readGroups_75 rfl rfl ?_
            refine g_getfield (v := .int ((q2.f 8))) (q := 79) C fX3_79 dX3_readGroups_76 rfl HQb.1 rfl ?_
            refine g_callVi (x := (gat t (q2.f 8))) (q := 82) (As := [.int ((q2.f 8))]) C gyX4_at gvX4_at t_521 (c_X4_at_w HTb) dX3_readGroups_79 rfl (gRw.obj HTb) rfl rfl rfl (Nat.le_of_ble_eq_true rfl) (Nat.le_of_ble_eq_true rfl) (Nat.le_of_ble_eq_true rfl) (Nat.le_of_ble_eq_true rfl) (Nat.le_of_ble_eq_true rfl) rfl ?_
            refine g_callVix (x := (rX3_readGroupByte q2 (nI g) 0 (gat t (q2.f 8))).1) (q := 85) (As := [.int ((nI g)), .int 0, .int ((gat t (q2.f 8)))]) C gyX3_readGroupByte gvX3_readGroupByte t_529 (c_X3_readGroupByte_116 HQb) dX3_readGroups_82 rfl HQb.1 rfl rfl rfl (Nat.le_of_ble_eq_true rfl) (Nat.le_of_ble_eq_true rfl) (Nat.le_of_ble_eq_true rfl) (Nat.le_of_ble_eq_true rfl) (Nat.le_of_ble_eq_true rfl) rfl (fun h7 z7 => ?_)
            obtain ⟨HQ7, fq7⟩ := z7
            have HT7 := gRw.ra HTb (by decide) fq7
            refine g_istore (q := 87) C dX3_readGroups_85 (Nat.le_of_ble_eq_true rfl) (by simp only [gset]; rfl) rfl ?_
            refine g_iload (q := 89) C dX3_readGroups_87 rfl rfl ?_
            refine g_if_eq (t := 102) (q := 92) C dX3_readGroups_89 (by decide) rfl (fun c_89 => ?_) (fun c_89 => ?_)
            ·
              refine g_aload_n (q := 103) C dX3_readGroups_102 rfl rfl ?_
              refine g_dup (q := 104) C dX3_readGroups_103 rfl rfl ?_
              refine g_getfield (v := .int ((((rX3_readGroupByte q2 (nI g) 0 (gat t (q2.f 8))).2).f 8))) (q := 107) C fX3_79 dX3_readGroups_104 rfl HQ7.1 rfl ?_
              refine g_iconst (v := 1) (q := 108) C dX3_readGroups_107 (by decide) rfl ?_
              refine g_iadd (q := 109) C dX3_readGroups_108 rfl ?_
              refine g_putfield (q := 112) C fX3_79 dX3_readGroups_109 rfl HQ7.1 (Nat.le_of_ble_eq_true rfl) (Or.inl rfl) rfl rfl (by intro z h; cases h) ?_
              refine rqput (j := 8) (x := ((((rX3_readGroupByte q2 (nI g) 0 (gat t (q2.f 8))).2).f 8) + 1)) HQ7 rfl fun h8 HQ8 fq8 => ?_
              have HT8 := gRw.ra HT7 (by decide) fq8
              refine g_iinc (v := 1) (q := 115) C dX3_readGroups_112 rfl (by decide) (by simp only [gset]; rfl) rfl ?_
              refine g_goto (q := 32) C dX3_readGroups_115 (by decide) ?_
              exact J1 _ _ _ HQ8 HT8 (rqF.trans (rqF.trans fqb fq7) fq8) (by rw [← hr2, show rL t (nI g) (q1.f 9) 0 (0, q2) = (0, ((rX3_readGroupByte q2 (nI g) 0 (gat t (q2.f 8))).2.set 8 ((rX3_readGroupByte q2 (nI g) 0 (gat t (q2.f 8))).2.f 8 + 1))) from (if_pos rfl).trans ((if_neg c_44).trans ((if_neg (by rw [Int32.not_le]; exact c_58)).trans (if_pos c_89)))])
            ·
              refine g_aload_n (q := 93) C dX3_readGroups_92 rfl rfl ?_
              refine g_getfield (v := .int ((((rX3_readGroupByte q2 (nI g) 0 (gat t (q2.f 8))).2).f 8))) (q := 96) C fX3_79 dX3_readGroups_93 rfl HQ7.1 rfl ?_
              refine g_iload (q := 98) C dX3_readGroups_96 rfl rfl ?_
              refine g_callSi (x := (8 * (((rX3_readGroupByte q2 (nI g) 0 (gat t (q2.f 8))).2).f 8) + (rX3_readGroupByte q2 (nI g) 0 (gat t (q2.f 8))).1)) (q := 101) (As := [.int ((((rX3_readGroupByte q2 (nI g) 0 (gat t (q2.f 8))).2).f 8)), .int ((rX3_readGroupByte q2 (nI g) 0 (gat t (q2.f 8))).1)]) C gyX3_faultAt t_519 t_518 (c_X3_faultAt_x) dX3_readGroups_98 rfl rfl rfl (Nat.le_of_ble_eq_true rfl) (Nat.le_of_ble_eq_true rfl) (Nat.le_of_ble_eq_true rfl) (Nat.le_of_ble_eq_true rfl) (Nat.le_of_ble_eq_true rfl) rfl ?_
              have hst : ¬ (((8 * (rX3_readGroupByte q2 (nI g) 0 (gat t (q2.f 8))).2.f 8 + (rX3_readGroupByte q2 (nI g) 0 (gat t (q2.f 8))).1, (rX3_readGroupByte q2 (nI g) 0 (gat t (q2.f 8))).2) : Int32 × rq)).1 = 0 := rGbx c_89
              have e : rL t (nI g) (q1.f 9) 0 (0, q2) = (8 * (rX3_readGroupByte q2 (nI g) 0 (gat t (q2.f 8))).2.f 8 + (rX3_readGroupByte q2 (nI g) 0 (gat t (q2.f 8))).1, (rX3_readGroupByte q2 (nI g) 0 (gat t (q2.f 8))).2) := (if_pos rfl).trans ((if_neg c_44).trans ((if_neg (by rw [Int32.not_le]; exact c_58)).trans (if_neg c_89)))
              rw [e, rL_st (k := 1) hst, rL_st (k := 2) hst, rL_st (k := 3) hst, rGs_st hst] at hr2
              exact E.1 _ _ _ _ _ _ _ dX3_readGroups_101 rfl rfl (Nat.le_of_ble_eq_true rfl) (Nat.le_of_ble_eq_true rfl) ⟨by rw [hF, ← hr2], by rw [hF, ← hr2]; exact ⟨HQ7, (rqF.trans fqb fq7)⟩⟩
          ·
            refine g_aload_n (q := 62) C dX3_readGroups_61 rfl rfl ?_
            refine g_getfield (v := .int ((q2.f 8))) (q := 65) C fX3_79 dX3_readGroups_62 rfl HQb.1 rfl ?_
            refine g_iconst (v := 1) (q := 66) C dX3_readGroups_65 (by decide) rfl ?_
            refine g_callSi (x := (8 * (q2.f 8) + 1)) (q := 69) (As := [.int ((q2.f 8)), .int 1]) C gyX3_faultAt t_519 t_518 (c_X3_faultAt_x) dX3_readGroups_66 rfl rfl rfl (Nat.le_of_ble_eq_true rfl) (Nat.le_of_ble_eq_true rfl) (Nat.le_of_ble_eq_true rfl) (Nat.le_of_ble_eq_true rfl) (Nat.le_of_ble_eq_true rfl) rfl ?_
            have hst : ¬ (((8 * q2.f 8 + 1, q2) : Int32 × rq)).1 = 0 := gx8 (c := 1) (by decide) (by decide)
            have e : rL t (nI g) (q1.f 9) 0 (0, q2) = (8 * q2.f 8 + 1, q2) := (if_pos rfl).trans ((if_neg c_44).trans (if_pos (Int32.not_lt.mp c_58)))
            rw [e, rL_st (k := 1) hst, rL_st (k := 2) hst, rL_st (k := 3) hst, rGs_st hst] at hr2
            exact E.1 _ _ _ _ _ _ _ dX3_readGroups_69 rfl rfl (Nat.le_of_ble_eq_true rfl) (Nat.le_of_ble_eq_true rfl) ⟨by rw [hF, ← hr2], by rw [hF, ← hr2]; exact ⟨HQb, fqb⟩⟩
        ·
          refine g_goto (q := 112) C dX3_readGroups_47 (by decide) ?_
          refine g_iinc (v := 1) (q := 115) C dX3_readGroups_112 rfl (by decide) (by simp only [gset]; rfl) rfl ?_
          refine g_goto (q := 32) C dX3_readGroups_115 (by decide) ?_
          exact J1 _ _ _ HQb HTb fqb (by rw [← hr2, show rL t (nI g) (q1.f 9) 0 (0, q2) = (0, q2) from (if_pos rfl).trans (if_pos (c_44))])
      refine g_iload_n (q := 3) C dX3_readGroups_2 rfl rfl ?_
      refine g_iconst (v := 4) (q := 4) C dX3_readGroups_3 (by decide) rfl ?_
      refine g_icmp_gt_f (t := 124) (q := 7) C dX3_readGroups_4 (by decide) rfl (nI_le4 (by omega)) ?_
      refine g_aload_n (q := 8) C dX3_readGroups_7 rfl rfl ?_
      refine g_getfield (v := .int ((q1.f 9))) (q := 11) C fX3_76 dX3_readGroups_8 rfl HQa.1 rfl ?_
      refine g_if_eq (t := 124) (q := 14) C dX3_readGroups_11 (by decide) rfl (fun c_11 => ?_) (fun c_11 => ?_)
      ·
        refine g_iconst (v := 0) (q := 125) C dX3_readGroups_124 (by decide) rfl ?_
        have e : rGs t (n + 1) g (0, q1) = (0, q1) := (if_pos rfl).trans (if_pos c_11)
        exact E.1 _ _ _ _ _ _ _ dX3_readGroups_125 rfl rfl (Nat.le_of_ble_eq_true rfl) (Nat.le_of_ble_eq_true rfl) ⟨by rw [hF, ← hr, e], by rw [hF, ← hr, e]; exact ⟨HQa, fqa⟩⟩
      ·
        refine g_aload_n (q := 15) C dX3_readGroups_14 rfl rfl ?_
        refine g_iload_n (q := 16) C dX3_readGroups_15 rfl rfl ?_
        refine g_putfield (q := 19) C fX3_48 dX3_readGroups_16 rfl HQa.1 (Nat.le_of_ble_eq_true rfl) (Or.inl rfl) rfl rfl (by intro z h; cases h) ?_
        refine rqput (j := 4) (x := (nI g)) HQa rfl fun h9 HQ9 fq9 => ?_
        have HT9 := gRw.ra HTa (by decide) fq9
        refine g_aload_n (q := 20) C dX3_readGroups_19 rfl rfl ?_
        refine g_getfield (v := .int ((q1.f 9))) (q := 23) C fX3_76 dX3_readGroups_20 rfl HQ9.1 rfl ?_
        refine g_istore_n (q := 24) C dX3_readGroups_23 (Nat.le_of_ble_eq_true rfl) (by simp only [gset]; rfl) rfl ?_
        refine g_aload_n (q := 25) C dX3_readGroups_24 rfl rfl ?_
        refine g_iconst (v := 0) (q := 26) C dX3_readGroups_25 (by decide) rfl ?_
        refine g_putfield (q := 29) C fX3_76 dX3_readGroups_26 rfl HQ9.1 (Nat.le_of_ble_eq_true rfl) (Or.inl rfl) rfl rfl (by intro z h; cases h) ?_
        refine rqput (j := 9) (x := 0) HQ9 rfl fun h10 HQ10 fq10 => ?_
        have HT10 := gRw.ra HT9 (by decide) fq10
        refine g_iconst (v := 0) (q := 30) C dX3_readGroups_29 (by decide) rfl ?_
        refine g_istore (q := 32) C dX3_readGroups_30 (Nat.le_of_ble_eq_true rfl) (by simp only [gset]; rfl) rfl ?_
        exact J0 _ _ _ HQ10 HT10 (rqF.trans (rqF.trans fqa fq9) fq10) (by rw [← hr]; exact ((if_pos rfl).trans (if_neg c_11)).symm)
  refine g_iconst (v := 1) (q := 1) C dX3_readGroups_0 (by decide) rfl ?_
  refine g_istore_n (q := 2) C dX3_readGroups_1 (Nat.le_of_ble_eq_true rfl) (by simp only [gset]; rfl) rfl ?_
  exact K 4 1 q hp _ _ _ rfl (by decide) HQ HT rqF.rf hF
/-- historical bytes -/
def rH (t : List Int32) : Nat → Int32 × (rq × List Int32) → Int32 × (rq × List Int32)
  | 0, s => s
  | n + 1, s => if s.1 = 0 then (if nI t.length ≤ s.2.1.f 8 then (8 * s.2.1.f 8 + 1, s.2) else rH t n (0, (s.2.1.set 8 (s.2.1.f 8 + 1), s.2.2 ++ [gat t (s.2.1.f 8)]))) else s
/-- the xor of the bytes 1 to n -/
def rXo (t : List Int32) : Nat → Int32
  | 0 => 0
  | n + 1 => rXo t n ^^^ gat t (nI (n + 1))
def rC (t : List Int32) (s : Int32 × (rq × List Int32)) : Int32 × (rq × List Int32) :=
  if s.1 = 0 then (if s.2.1.f 6 = 0 then s else if nI t.length ≤ s.2.1.f 8 then (8 * s.2.1.f 8 + 1, s.2) else if rXo t (s.2.1.f 8).toNatClampNeg = 0 then (0, (s.2.1.set 8 (s.2.1.f 8 + 1), s.2.2)) else (8 * s.2.1.f 8 + 6, s.2)) else s
def rE (t : List Int32) (s : Int32 × (rq × List Int32)) : Int32 × (rq × List Int32) :=
  if s.1 = 0 then (if nI t.length ≤ s.2.1.f 8 then s else (8 * s.2.1.f 8 + 7, s.2)) else s
theorem rH_st {t : List Int32} : ∀ {n : Nat} {s : Int32 × (rq × List Int32)}, ¬ s.1 = 0 → rH t n s = s
  | 0, _, _ => rfl
  | _ + 1, _, h => if_neg h
theorem rC_st {t : List Int32} {s : Int32 × (rq × List Int32)} (h : ¬ s.1 = 0) : rC t s = s := if_neg h
theorem rE_st {t : List Int32} {s : Int32 × (rq × List Int32)} (h : ¬ s.1 = 0) : rE t s = s := if_neg h
theorem dX3_readTail_0 : decode cX3_readTail 0 = .ok (.iconst 0, 1) := by decide +kernel
theorem dX3_readTail_1 : decode cX3_readTail 1 = .ok (.istore_n 3, 1) := by decide +kernel
theorem dX3_readTail_2 : decode cX3_readTail 2 = .ok (.iload_n 3, 1) := by decide +kernel
theorem dX3_readTail_3 : decode cX3_readTail 3 = .ok (.iload_n 2, 1) := by decide +kernel
theorem dX3_readTail_4 : decode cX3_readTail 4 = .ok (.if_icmp .ge 54, 3) := by decide +kernel
theorem dX3_readTail_7 : decode cX3_readTail 7 = .ok (.aload_n 0, 1) := by decide +kernel
theorem dX3_readTail_8 : decode cX3_readTail 8 = .ok (.getfield 79, 3) := by decide +kernel
theorem dX3_readTail_11 : decode cX3_readTail 11 = .ok (.aload_n 1, 1) := by decide +kernel
theorem dX3_readTail_12 : decode cX3_readTail 12 = .ok (.invokevirtual 65, 3) := by decide +kernel
theorem dX3_readTail_15 : decode cX3_readTail 15 = .ok (.if_icmp .lt 12, 3) := by decide +kernel
theorem dX3_readTail_18 : decode cX3_readTail 18 = .ok (.aload_n 0, 1) := by decide +kernel
theorem dX3_readTail_19 : decode cX3_readTail 19 = .ok (.getfield 79, 3) := by decide +kernel
theorem dX3_readTail_22 : decode cX3_readTail 22 = .ok (.iconst 1, 1) := by decide +kernel
theorem dX3_readTail_23 : decode cX3_readTail 23 = .ok (.invokestatic 69, 3) := by decide +kernel
theorem dX3_readTail_26 : decode cX3_readTail 26 = .ok (.ireturn, 1) := by decide +kernel
theorem dX3_readTail_27 : decode cX3_readTail 27 = .ok (.aload_n 0, 1) := by decide +kernel
theorem dX3_readTail_28 : decode cX3_readTail 28 = .ok (.getfield 14, 3) := by decide +kernel
theorem dX3_readTail_31 : decode cX3_readTail 31 = .ok (.aload_n 1, 1) := by decide +kernel
theorem dX3_readTail_32 : decode cX3_readTail 32 = .ok (.aload_n 0, 1) := by decide +kernel
theorem dX3_readTail_33 : decode cX3_readTail 33 = .ok (.getfield 79, 3) := by decide +kernel
theorem dX3_readTail_36 : decode cX3_readTail 36 = .ok (.invokevirtual 30, 3) := by decide +kernel
theorem dX3_readTail_39 : decode cX3_readTail 39 = .ok (.invokevirtual 101, 3) := by decide +kernel
theorem dX3_readTail_42 : decode cX3_readTail 42 = .ok (.aload_n 0, 1) := by decide +kernel
theorem dX3_readTail_43 : decode cX3_readTail 43 = .ok (.dup, 1) := by decide +kernel
theorem dX3_readTail_44 : decode cX3_readTail 44 = .ok (.getfield 79, 3) := by decide +kernel
theorem dX3_readTail_47 : decode cX3_readTail 47 = .ok (.iconst 1, 1) := by decide +kernel
theorem dX3_readTail_48 : decode cX3_readTail 48 = .ok (.iadd, 1) := by decide +kernel
theorem dX3_readTail_49 : decode cX3_readTail 49 = .ok (.putfield 79, 3) := by decide +kernel
theorem dX3_readTail_52 : decode cX3_readTail 52 = .ok (.iinc 3 1, 3) := by decide +kernel
theorem dX3_readTail_55 : decode cX3_readTail 55 = .ok (.goto (-53), 3) := by decide +kernel
theorem dX3_readTail_58 : decode cX3_readTail 58 = .ok (.aload_n 0, 1) := by decide +kernel
theorem dX3_readTail_59 : decode cX3_readTail 59 = .ok (.getfield 54, 3) := by decide +kernel
theorem dX3_readTail_62 : decode cX3_readTail 62 = .ok (.ifCond .eq 76, 3) := by decide +kernel
theorem dX3_readTail_65 : decode cX3_readTail 65 = .ok (.aload_n 0, 1) := by decide +kernel
theorem dX3_readTail_66 : decode cX3_readTail 66 = .ok (.getfield 79, 3) := by decide +kernel
theorem dX3_readTail_69 : decode cX3_readTail 69 = .ok (.aload_n 1, 1) := by decide +kernel
theorem dX3_readTail_70 : decode cX3_readTail 70 = .ok (.invokevirtual 65, 3) := by decide +kernel
theorem dX3_readTail_73 : decode cX3_readTail 73 = .ok (.if_icmp .lt 12, 3) := by decide +kernel
theorem dX3_readTail_76 : decode cX3_readTail 76 = .ok (.aload_n 0, 1) := by decide +kernel
theorem dX3_readTail_77 : decode cX3_readTail 77 = .ok (.getfield 79, 3) := by decide +kernel
theorem dX3_readTail_80 : decode cX3_readTail 80 = .ok (.iconst 1, 1) := by decide +kernel
theorem dX3_readTail_81 : decode cX3_readTail 81 = .ok (.invokestatic 69, 3) := by decide +kernel
theorem dX3_readTail_84 : decode cX3_readTail 84 = .ok (.ireturn, 1) := by decide +kernel
theorem dX3_readTail_85 : decode cX3_readTail 85 = .ok (.iconst 0, 1) := by decide +kernel
theorem dX3_readTail_86 : decode cX3_readTail 86 = .ok (.istore_n 3, 1) := by decide +kernel
theorem dX3_readTail_87 : decode cX3_readTail 87 = .ok (.iconst 1, 1) := by decide +kernel
theorem dX3_readTail_88 : decode cX3_readTail 88 = .ok (.istore 4, 2) := by decide +kernel
theorem dX3_readTail_90 : decode cX3_readTail 90 = .ok (.iload 4, 2) := by decide +kernel
theorem dX3_readTail_92 : decode cX3_readTail 92 = .ok (.aload_n 0, 1) := by decide +kernel
theorem dX3_readTail_93 : decode cX3_readTail 93 = .ok (.getfield 79, 3) := by decide +kernel
theorem dX3_readTail_96 : decode cX3_readTail 96 = .ok (.if_icmp .gt 18, 3) := by decide +kernel
theorem dX3_readTail_99 : decode cX3_readTail 99 = .ok (.iload_n 3, 1) := by decide +kernel
theorem dX3_readTail_100 : decode cX3_readTail 100 = .ok (.aload_n 1, 1) := by decide +kernel
theorem dX3_readTail_101 : decode cX3_readTail 101 = .ok (.iload 4, 2) := by decide +kernel
theorem dX3_readTail_103 : decode cX3_readTail 103 = .ok (.invokevirtual 30, 3) := by decide +kernel
theorem dX3_readTail_106 : decode cX3_readTail 106 = .ok (.ixor, 1) := by decide +kernel
theorem dX3_readTail_107 : decode cX3_readTail 107 = .ok (.istore_n 3, 1) := by decide +kernel
theorem dX3_readTail_108 : decode cX3_readTail 108 = .ok (.iinc 4 1, 3) := by decide +kernel
theorem dX3_readTail_111 : decode cX3_readTail 111 = .ok (.goto (-21), 3) := by decide +kernel
theorem dX3_readTail_114 : decode cX3_readTail 114 = .ok (.iload_n 3, 1) := by decide +kernel
theorem dX3_readTail_115 : decode cX3_readTail 115 = .ok (.ifCond .eq 13, 3) := by decide +kernel
theorem dX3_readTail_118 : decode cX3_readTail 118 = .ok (.aload_n 0, 1) := by decide +kernel
theorem dX3_readTail_119 : decode cX3_readTail 119 = .ok (.getfield 79, 3) := by decide +kernel
theorem dX3_readTail_122 : decode cX3_readTail 122 = .ok (.bipush 6, 2) := by decide +kernel
theorem dX3_readTail_124 : decode cX3_readTail 124 = .ok (.invokestatic 69, 3) := by decide +kernel
theorem dX3_readTail_127 : decode cX3_readTail 127 = .ok (.ireturn, 1) := by decide +kernel
theorem dX3_readTail_128 : decode cX3_readTail 128 = .ok (.aload_n 0, 1) := by decide +kernel
theorem dX3_readTail_129 : decode cX3_readTail 129 = .ok (.dup, 1) := by decide +kernel
theorem dX3_readTail_130 : decode cX3_readTail 130 = .ok (.getfield 79, 3) := by decide +kernel
theorem dX3_readTail_133 : decode cX3_readTail 133 = .ok (.iconst 1, 1) := by decide +kernel
theorem dX3_readTail_134 : decode cX3_readTail 134 = .ok (.iadd, 1) := by decide +kernel
theorem dX3_readTail_135 : decode cX3_readTail 135 = .ok (.putfield 79, 3) := by decide +kernel
theorem dX3_readTail_138 : decode cX3_readTail 138 = .ok (.aload_n 0, 1) := by decide +kernel
theorem dX3_readTail_139 : decode cX3_readTail 139 = .ok (.getfield 79, 3) := by decide +kernel
theorem dX3_readTail_142 : decode cX3_readTail 142 = .ok (.aload_n 1, 1) := by decide +kernel
theorem dX3_readTail_143 : decode cX3_readTail 143 = .ok (.invokevirtual 65, 3) := by decide +kernel
theorem dX3_readTail_146 : decode cX3_readTail 146 = .ok (.if_icmp .ge 15, 3) := by decide +kernel
theorem dX3_readTail_149 : decode cX3_readTail 149 = .ok (.aload_n 0, 1) := by decide +kernel
theorem dX3_readTail_150 : decode cX3_readTail 150 = .ok (.getfield 79, 3) := by decide +kernel
theorem dX3_readTail_153 : decode cX3_readTail 153 = .ok (.bipush 7, 2) := by decide +kernel
theorem dX3_readTail_155 : decode cX3_readTail 155 = .ok (.invokestatic 69, 3) := by decide +kernel
theorem dX3_readTail_158 : decode cX3_readTail 158 = .ok (.goto 4, 3) := by decide +kernel
theorem dX3_readTail_161 : decode cX3_readTail 161 = .ok (.iconst 0, 1) := by decide +kernel
theorem dX3_readTail_162 : decode cX3_readTail 162 = .ok (.ireturn, 1) := by decide +kernel
set_option maxRecDepth 100000 in
set_option maxHeartbeats 4000000 in
theorem c_X3_readTail_116 {hp : List gA} {q : rq} {t : List Int32} {n : Nat} (HQ : rqH hp 116 q []) (HT : gRw hp 1 2 96 t) (hn : n ≤ 15) (hP : rP t q) : gM yX3_readTail cX3_readTail 5 ((some .int)) 3 103 [.ref 116, .ref 1, .int (nI n)] (hp) (0) (0) (fun v h => v = some (.int (rE t (rC t (rH t n (0, (q, []))))).1) ∧ (rqH h 116 (rE t (rC t (rH t n (0, (q, []))))).2.1 (rE t (rC t (rH t n (0, (q, []))))).2.2 ∧ rqF 116 hp h)) := by
  refine gM_of (ls0 := [some (.ref 116), some (.ref 1), some (.int (nI n)), none, none]) (by decide +kernel) (Nat.le_of_ble_eq_true rfl) rfl fun X C E => ?_
  have ht := (gRw.le HT).1
  obtain ⟨F, hF⟩ : ∃ F, rE t (rC t (rH t n (0, (q, [])))) = F := ⟨_, rfl⟩
  have KE : ∀ (q1 : rq) (l1 : List Int32) (ha : List gA) (x3 x4 : Option Value), rqH ha 116 q1 l1 → gRw ha 1 2 96 t → rqF 116 hp ha → rE t (0, (q1, l1)) = F → gG X 138 [some (.ref 116), some (.ref 1), some (.int ((nI n))), x3, x4] [] ha 0 0 := by
    intro q1 l1 ha x3 x4 HQa HTa fqa hr
    refine g_aload_n (q := 139) C dX3_readTail_138 rfl rfl ?_
    refine g_getfield (v := .int ((q1.f 8))) (q := 142) C fX3_79 dX3_readTail_139 rfl HQa.1 rfl ?_
    refine g_aload_n (q := 143) C dX3_readTail_142 rfl rfl ?_
    refine g_callVi (x := (nI t.length)) (q := 146) (As := []) C gyX4_size gvX4_size t_517 (c_X4_size (gRw.obj HTa)) dX3_readTail_143 rfl (gRw.obj HTa) rfl rfl rfl (Nat.le_of_ble_eq_true rfl) (Nat.le_of_ble_eq_true rfl) (Nat.le_of_ble_eq_true rfl) (Nat.le_of_ble_eq_true rfl) (Nat.le_of_ble_eq_true rfl) rfl ?_
    refine g_icmp_ge (t := 161) (q := 149) C dX3_readTail_146 (by decide) rfl (fun c_146 => ?_) (fun c_146 => ?_)
    ·
      refine g_iconst (v := 0) (q := 162) C dX3_readTail_161 (by decide) rfl ?_
      have e : rE t (0, (q1, l1)) = (0, (q1, l1)) := (if_pos rfl).trans (if_pos c_146)
      exact E.1 _ _ _ _ _ _ _ dX3_readTail_162 rfl rfl (Nat.le_of_ble_eq_true rfl) (Nat.le_of_ble_eq_true rfl) ⟨by rw [hF, ← hr, e], by rw [hF, ← hr, e]; exact ⟨HQa, fqa⟩⟩
    ·
      refine g_aload_n (q := 150) C dX3_readTail_149 rfl rfl ?_
      refine g_getfield (v := .int ((q1.f 8))) (q := 153) C fX3_79 dX3_readTail_150 rfl HQa.1 rfl ?_
      refine g_bipush (v := 7) (q := 155) C dX3_readTail_153 (by decide) rfl ?_
      refine g_callSi (x := (8 * (q1.f 8) + 7)) (q := 158) (As := [.int ((q1.f 8)), .int 7]) C gyX3_faultAt t_519 t_518 (c_X3_faultAt_x) dX3_readTail_155 rfl rfl rfl (Nat.le_of_ble_eq_true rfl) (Nat.le_of_ble_eq_true rfl) (Nat.le_of_ble_eq_true rfl) (Nat.le_of_ble_eq_true rfl) (Nat.le_of_ble_eq_true rfl) rfl ?_
      refine g_goto (q := 162) C dX3_readTail_158 (by decide) ?_
      have e : rE t (0, (q1, l1)) = (8 * q1.f 8 + 7, (q1, l1)) := (if_pos rfl).trans (if_neg c_146)
      exact E.1 _ _ _ _ _ _ _ dX3_readTail_162 rfl rfl (Nat.le_of_ble_eq_true rfl) (Nat.le_of_ble_eq_true rfl) ⟨by rw [hF, ← hr, e], by rw [hF, ← hr, e]; exact ⟨HQa, fqa⟩⟩
  have KC : ∀ (q1 : rq) (l1 : List Int32) (ha : List gA) (x3 x4 : Option Value), rqH ha 116 q1 l1 → gRw ha 1 2 96 t → rqF 116 hp ha → rP t q1 → rE t (rC t (0, (q1, l1))) = F → gG X 58 [some (.ref 116), some (.ref 1), some (.int ((nI n))), x3, x4] [] ha 0 0 := by
    intro q1 l1 ha x3 x4 HQa HTa fqa hP hr
    obtain ⟨p, hp1, ep⟩ := hP
    refine g_aload_n (q := 59) C dX3_readTail_58 rfl rfl ?_
    refine g_getfield (v := .int ((q1.f 6))) (q := 62) C fX3_54 dX3_readTail_59 rfl HQa.1 rfl ?_
    refine g_if_eq (t := 138) (q := 65) C dX3_readTail_62 (by decide) rfl (fun c_62 => ?_) (fun c_62 => ?_)
    ·
      exact KE q1 l1 ha _ _ HQa HTa fqa (by rw [← hr, show rC t (0, (q1, l1)) = (0, (q1, l1)) from (if_pos rfl).trans (if_pos c_62)])
    ·
      refine g_aload_n (q := 66) C dX3_readTail_65 rfl rfl ?_
      refine g_getfield (v := .int ((q1.f 8))) (q := 69) C fX3_79 dX3_readTail_66 rfl HQa.1 rfl ?_
      refine g_aload_n (q := 70) C dX3_readTail_69 rfl rfl ?_
      refine g_callVi (x := (nI t.length)) (q := 73) (As := []) C gyX4_size gvX4_size t_517 (c_X4_size (gRw.obj HTa)) dX3_readTail_70 rfl (gRw.obj HTa) rfl rfl rfl (Nat.le_of_ble_eq_true rfl) (Nat.le_of_ble_eq_true rfl) (Nat.le_of_ble_eq_true rfl) (Nat.le_of_ble_eq_true rfl) (Nat.le_of_ble_eq_true rfl) rfl ?_
      refine g_icmp_lt (t := 85) (q := 76) C dX3_readTail_73 (by decide) rfl (fun c_73 => ?_) (fun c_73 => ?_)
      ·
        refine g_iconst (v := 0) (q := 86) C dX3_readTail_85 (by decide) rfl ?_
        refine g_istore_n (q := 87) C dX3_readTail_86 (Nat.le_of_ble_eq_true rfl) (by simp only [gset]; rfl) rfl ?_
        refine g_iconst (v := 1) (q := 88) C dX3_readTail_87 (by decide) rfl ?_
        refine g_istore (q := 90) C dX3_readTail_88 (Nat.le_of_ble_eq_true rfl) (by simp only [gset]; rfl) rfl ?_
        have lt : p < t.length := by
          by_cases lt : p < t.length
          · exact lt
          · exact absurd (by rw [ep]; exact nI_le (by omega) (by omega)) (by rw [Int32.not_le]; exact c_73)
        have LX : ∀ d j : Nat, j + d = p → gG X 90 [some (.ref 116), some (.ref 1), some (.int ((nI n))), some (.int ((rXo t j))), some (.int ((nI (j + 1))))] [] ha 0 0 := by
          intro d
          induction d with
          | zero =>
            intro j hj
            obtain rfl : j = p := by omega
            refine g_iload (q := 92) C dX3_readTail_90 rfl rfl ?_
            refine g_aload_n (q := 93) C dX3_readTail_92 rfl rfl ?_
            refine g_getfield (v := .int ((q1.f 8))) (q := 96) C fX3_79 dX3_readTail_93 rfl HQa.1 rfl ?_
            refine g_icmp_gt_t (t := 114) C dX3_readTail_96 (by decide) (by rw [ep]; exact nI_lt (by omega) (by omega)) ?_
            refine g_iload_n (q := 115) C dX3_readTail_114 rfl rfl ?_
            refine g_if_eq (t := 128) (q := 118) C dX3_readTail_115 (by decide) rfl (fun c_115 => ?_) (fun c_115 => ?_)
            ·
              refine g_aload_n (q := 129) C dX3_readTail_128 rfl rfl ?_
              refine g_dup (q := 130) C dX3_readTail_129 rfl rfl ?_
              refine g_getfield (v := .int ((q1.f 8))) (q := 133) C fX3_79 dX3_readTail_130 rfl HQa.1 rfl ?_
              refine g_iconst (v := 1) (q := 134) C dX3_readTail_133 (by decide) rfl ?_
              refine g_iadd (q := 135) C dX3_readTail_134 rfl ?_
              refine g_putfield (q := 138) C fX3_79 dX3_readTail_135 rfl HQa.1 (Nat.le_of_ble_eq_true rfl) (Or.inl rfl) rfl rfl (by intro z h; cases h) ?_
              refine rqput (j := 8) (x := ((q1.f 8) + 1)) HQa rfl fun h1 HQ1 fq1 => ?_
              have HT1 := gRw.ra HTa (by decide) fq1
              exact KE _ _ _ _ _ HQ1 HT1 (rqF.trans fqa fq1) (by rw [← hr, show rC t (0, (q1, l1)) = (0, (q1.set 8 (q1.f 8 + 1), l1)) from (if_pos rfl).trans ((if_neg c_62).trans ((if_neg (by rw [Int32.not_le]; exact c_73)).trans (if_pos (by rw [ep, nI_clamp (by omega)]; exact c_115))))])
            ·
              refine g_aload_n (q := 119) C dX3_readTail_118 rfl rfl ?_
              refine g_getfield (v := .int ((q1.f 8))) (q := 122) C fX3_79 dX3_readTail_119 rfl HQa.1 rfl ?_
              refine g_bipush (v := 6) (q := 124) C dX3_readTail_122 (by decide) rfl ?_
              refine g_callSi (x := (8 * (q1.f 8) + 6)) (q := 127) (As := [.int ((q1.f 8)), .int 6]) C gyX3_faultAt t_519 t_518 (c_X3_faultAt_x) dX3_readTail_124 rfl rfl rfl (Nat.le_of_ble_eq_true rfl) (Nat.le_of_ble_eq_true rfl) (Nat.le_of_ble_eq_true rfl) (Nat.le_of_ble_eq_true rfl) (Nat.le_of_ble_eq_true rfl) rfl ?_
              have hst : ¬ (((8 * q1.f 8 + 6, (q1, l1)) : Int32 × (rq × List Int32))).1 = 0 := gx8 (c := 6) (by decide) (by decide)
              have e : rC t (0, (q1, l1)) = (8 * q1.f 8 + 6, (q1, l1)) := (if_pos rfl).trans ((if_neg c_62).trans ((if_neg (by rw [Int32.not_le]; exact c_73)).trans (if_neg (by rw [ep, nI_clamp (by omega)]; exact c_115))))
              rw [e, rE_st hst] at hr
              exact E.1 _ _ _ _ _ _ _ dX3_readTail_127 rfl rfl (Nat.le_of_ble_eq_true rfl) (Nat.le_of_ble_eq_true rfl) ⟨by rw [hF, ← hr], by rw [hF, ← hr]; exact ⟨HQa, fqa⟩⟩
          | succ d ih =>
            intro j hj
            refine g_iload (q := 92) C dX3_readTail_90 rfl rfl ?_
            refine g_aload_n (q := 93) C dX3_readTail_92 rfl rfl ?_
            refine g_getfield (v := .int ((q1.f 8))) (q := 96) C fX3_79 dX3_readTail_93 rfl HQa.1 rfl ?_
            refine g_icmp_gt_f (t := 114) (q := 99) C dX3_readTail_96 (by decide) rfl (by rw [ep, nI_ltI (by omega) (by omega)]; omega) ?_
            refine g_iload_n (q := 100) C dX3_readTail_99 rfl rfl ?_
            refine g_aload_n (q := 101) C dX3_readTail_100 rfl rfl ?_
            refine g_iload (q := 103) C dX3_readTail_101 rfl rfl ?_
            refine g_callVi (x := (gat t (nI (j + 1)))) (q := 106) (As := [.int ((nI (j + 1)))]) C gyX4_at gvX4_at t_521 (c_X4_at_w HTa) dX3_readTail_103 rfl (gRw.obj HTa) rfl rfl rfl (Nat.le_of_ble_eq_true rfl) (Nat.le_of_ble_eq_true rfl) (Nat.le_of_ble_eq_true rfl) (Nat.le_of_ble_eq_true rfl) (Nat.le_of_ble_eq_true rfl) rfl ?_
            refine g_ixor (q := 107) C dX3_readTail_106 rfl ?_
            refine g_istore_n (q := 108) C dX3_readTail_107 (Nat.le_of_ble_eq_true rfl) (by simp only [gset]; rfl) rfl ?_
            refine g_iinc (v := (nI (j + 1 + 1))) (q := 111) C dX3_readTail_108 rfl (nI_1 (j + 1)) (by simp only [gset]; rfl) rfl ?_
            refine g_goto (q := 90) C dX3_readTail_111 (by decide) ?_
            exact ih (j + 1) (by omega)
        exact LX p 0 (by omega)
      ·
        refine g_aload_n (q := 77) C dX3_readTail_76 rfl rfl ?_
        refine g_getfield (v := .int ((q1.f 8))) (q := 80) C fX3_79 dX3_readTail_77 rfl HQa.1 rfl ?_
        refine g_iconst (v := 1) (q := 81) C dX3_readTail_80 (by decide) rfl ?_
        refine g_callSi (x := (8 * (q1.f 8) + 1)) (q := 84) (As := [.int ((q1.f 8)), .int 1]) C gyX3_faultAt t_519 t_518 (c_X3_faultAt_x) dX3_readTail_81 rfl rfl rfl (Nat.le_of_ble_eq_true rfl) (Nat.le_of_ble_eq_true rfl) (Nat.le_of_ble_eq_true rfl) (Nat.le_of_ble_eq_true rfl) (Nat.le_of_ble_eq_true rfl) rfl ?_
        have hst : ¬ (((8 * q1.f 8 + 1, (q1, l1)) : Int32 × (rq × List Int32))).1 = 0 := gx8 (c := 1) (by decide) (by decide)
        have e : rC t (0, (q1, l1)) = (8 * q1.f 8 + 1, (q1, l1)) := (if_pos rfl).trans ((if_neg c_62).trans (if_pos (Int32.not_lt.mp c_73)))
        rw [e, rE_st hst] at hr
        exact E.1 _ _ _ _ _ _ _ dX3_readTail_84 rfl rfl (Nat.le_of_ble_eq_true rfl) (Nat.le_of_ble_eq_true rfl) ⟨by rw [hF, ← hr], by rw [hF, ← hr]; exact ⟨HQa, fqa⟩⟩
  have KH : ∀ (d j : Nat) (q1 : rq) (l1 : List Int32) (ha : List gA) (x4 : Option Value), j + d = n → l1.length = j → rqH ha 116 q1 l1 → gRw ha 1 2 96 t → rqF 116 hp ha → rP t q1 → rE t (rC t (rH t d (0, (q1, l1)))) = F → gG X 2 [some (.ref 116), some (.ref 1), some (.int ((nI n))), some (.int ((nI j))), x4] [] ha 0 0 := by
    intro d
    induction d with
    | zero =>
      intro j q1 l1 ha x4 hj hl HQa HTa fqa hP hr
      obtain rfl : j = n := by omega
      refine g_iload_n (q := 3) C dX3_readTail_2 rfl rfl ?_
      refine g_iload_n (q := 4) C dX3_readTail_3 rfl rfl ?_
      refine g_icmp_ge_t (t := 58) C dX3_readTail_4 (by decide) (Int32.le_refl _) ?_
      exact KC q1 l1 ha _ _ HQa HTa fqa hP hr
    | succ d ih =>
      intro j q1 l1 ha x4 hj hl HQa HTa fqa hP hr
      obtain ⟨p, hp1, ep⟩ := hP
      refine g_iload_n (q := 3) C dX3_readTail_2 rfl rfl ?_
      refine g_iload_n (q := 4) C dX3_readTail_3 rfl rfl ?_
      refine g_icmp_ge_f (t := 58) (q := 7) C dX3_readTail_4 (by decide) rfl (by rw [Int32.not_le]; exact nI_lt (by omega) (by omega)) ?_
      refine g_aload_n (q := 8) C dX3_readTail_7 rfl rfl ?_
      refine g_getfield (v := .int ((q1.f 8))) (q := 11) C fX3_79 dX3_readTail_8 rfl HQa.1 rfl ?_
      refine g_aload_n (q := 12) C dX3_readTail_11 rfl rfl ?_
      refine g_callVi (x := (nI t.length)) (q := 15) (As := []) C gyX4_size gvX4_size t_517 (c_X4_size (gRw.obj HTa)) dX3_readTail_12 rfl (gRw.obj HTa) rfl rfl rfl (Nat.le_of_ble_eq_true rfl) (Nat.le_of_ble_eq_true rfl) (Nat.le_of_ble_eq_true rfl) (Nat.le_of_ble_eq_true rfl) (Nat.le_of_ble_eq_true rfl) rfl ?_
      refine g_icmp_lt (t := 27) (q := 18) C dX3_readTail_15 (by decide) rfl (fun c_15 => ?_) (fun c_15 => ?_)
      ·
        refine g_aload_n (q := 28) C dX3_readTail_27 rfl rfl ?_
        refine g_getfield (v := .ref 117) (q := 31) C fX3_14 dX3_readTail_28 rfl HQa.1 rfl ?_
        refine g_aload_n (q := 32) C dX3_readTail_31 rfl rfl ?_
        refine g_aload_n (q := 33) C dX3_readTail_32 rfl rfl ?_
        refine g_getfield (v := .int ((q1.f 8))) (q := 36) C fX3_79 dX3_readTail_33 rfl HQa.1 rfl ?_
        refine g_callVi (x := (gat t (q1.f 8))) (q := 39) (As := [.int ((q1.f 8))]) C gyX4_at gvX4_at t_521 (c_X4_at_w HTa) dX3_readTail_36 rfl (gRw.obj HTa) rfl rfl rfl (Nat.le_of_ble_eq_true rfl) (Nat.le_of_ble_eq_true rfl) (Nat.le_of_ble_eq_true rfl) (Nat.le_of_ble_eq_true rfl) (Nat.le_of_ble_eq_true rfl) rfl ?_
        refine g_callVvp (q := 42) (As := [.int ((gat t (q1.f 8)))]) C gyX4_add gvX4_add t_559 (c_X4_add_w HQa.2 (by omega)) dX3_readTail_39 rfl (gRw.obj HQa.2) rfl rfl rfl (Nat.le_of_ble_eq_true rfl) (Nat.le_of_ble_eq_true rfl) (Nat.le_of_ble_eq_true rfl) (Nat.le_of_ble_eq_true rfl) (Nat.le_of_ble_eq_true rfl) rfl (fun h2 z2 => ?_)
        obtain ⟨HQ2, fq2⟩ := rqrow HQa z2
        have HT2 := gRw.ra HTa (by decide) fq2
        refine g_aload_n (q := 43) C dX3_readTail_42 rfl rfl ?_
        refine g_dup (q := 44) C dX3_readTail_43 rfl rfl ?_
        refine g_getfield (v := .int ((q1.f 8))) (q := 47) C fX3_79 dX3_readTail_44 rfl HQ2.1 rfl ?_
        refine g_iconst (v := 1) (q := 48) C dX3_readTail_47 (by decide) rfl ?_
        refine g_iadd (q := 49) C dX3_readTail_48 rfl ?_
        refine g_putfield (q := 52) C fX3_79 dX3_readTail_49 rfl HQ2.1 (Nat.le_of_ble_eq_true rfl) (Or.inl rfl) rfl rfl (by intro z h; cases h) ?_
        refine rqput (j := 8) (x := ((q1.f 8) + 1)) HQ2 rfl fun h3 HQ3 fq3 => ?_
        have HT3 := gRw.ra HT2 (by decide) fq3
        refine g_iinc (v := (nI (j + 1))) (q := 55) C dX3_readTail_52 rfl (nI_1 j) (by simp only [gset]; rfl) rfl ?_
        have lt : p < t.length := by
          by_cases lt : p < t.length
          · exact lt
          · exact absurd (by rw [ep]; exact nI_le (by omega) (by omega)) (by rw [Int32.not_le]; exact c_15)
        refine g_goto (q := 2) C dX3_readTail_55 (by decide) ?_
        exact ih (j + 1) _ _ _ _ (by omega) (by rw [List.length_append, hl]; rfl) HQ3 HT3 (rqF.trans (rqF.trans fqa fq2) fq3) ⟨p + 1, lt, by rw [rq.set_s, ep]; exact nI_1 p⟩ (by rw [← hr, show rH t (d + 1) (0, (q1, l1)) = rH t d (0, (q1.set 8 (q1.f 8 + 1), l1 ++ [gat t (q1.f 8)])) from (if_pos rfl).trans (if_neg (by rw [Int32.not_le]; exact c_15))])
      ·
        refine g_aload_n (q := 19) C dX3_readTail_18 rfl rfl ?_
        refine g_getfield (v := .int ((q1.f 8))) (q := 22) C fX3_79 dX3_readTail_19 rfl HQa.1 rfl ?_
        refine g_iconst (v := 1) (q := 23) C dX3_readTail_22 (by decide) rfl ?_
        refine g_callSi (x := (8 * (q1.f 8) + 1)) (q := 26) (As := [.int ((q1.f 8)), .int 1]) C gyX3_faultAt t_519 t_518 (c_X3_faultAt_x) dX3_readTail_23 rfl rfl rfl (Nat.le_of_ble_eq_true rfl) (Nat.le_of_ble_eq_true rfl) (Nat.le_of_ble_eq_true rfl) (Nat.le_of_ble_eq_true rfl) (Nat.le_of_ble_eq_true rfl) rfl ?_
        have hst : ¬ (((8 * q1.f 8 + 1, (q1, l1)) : Int32 × (rq × List Int32))).1 = 0 := gx8 (c := 1) (by decide) (by decide)
        have e : rH t (d + 1) (0, (q1, l1)) = (8 * q1.f 8 + 1, (q1, l1)) := (if_pos rfl).trans (if_pos (Int32.not_lt.mp c_15))
        rw [e, rC_st hst, rE_st hst] at hr
        exact E.1 _ _ _ _ _ _ _ dX3_readTail_26 rfl rfl (Nat.le_of_ble_eq_true rfl) (Nat.le_of_ble_eq_true rfl) ⟨by rw [hF, ← hr], by rw [hF, ← hr]; exact ⟨HQa, fqa⟩⟩
  refine g_iconst (v := 0) (q := 1) C dX3_readTail_0 (by decide) rfl ?_
  refine g_istore_n (q := 2) C dX3_readTail_1 (Nat.le_of_ble_eq_true rfl) (by simp only [gset]; rfl) rfl ?_
  exact KH n 0 q [] hp _ (by omega) rfl HQ HT rqF.rf hP hF
theorem rHead0 {q : rq} {t : List Int32} (ht : t.length ≤ 96) (h : (rX3_readHead q t).1 = 0) : rP t (rX3_readHead q t).2 ∧ 2 ≤ t.length := by
  have k1 : ¬ (8 * 0 + 1 : Int32) = 0 := by decide
  have k2 : ¬ (8 * 1 + 1 : Int32) = 0 := by decide
  have k3 : ¬ (8 * 0 + 2 : Int32) = 0 := by decide
  by_cases a0 : t.length = 0
  · have n0 : nI t.length = 0 := by rw [a0]; rfl
    exfalso
    revert h
    unfold rX3_readHead
    rw [if_pos n0]
    exact k1
  · have n0 : ¬ nI t.length = 0 := fun e => a0 (nI_inj (by omega) (by decide) e)
    by_cases a1 : t.length = 1
    · have n1 : nI t.length = 1 := by rw [a1]; rfl
      exfalso
      revert h
      unfold rX3_readHead
      rw [if_neg n0, if_pos n1]
      repeat' split
      all_goals first | exact k2 | exact k3
    · have n1 : ¬ nI t.length = 1 := fun e => a1 (nI_inj (by omega) (by decide) e)
      have : 2 ≤ t.length := by omega
      refine ⟨⟨2, this, ?_⟩, this⟩
      revert h
      unfold rX3_readHead
      rw [if_neg n0, if_neg n1]
      repeat' split
      all_goals first | (intro _; rfl) | (intro h; exact absurd h k3)
/-- the reset answer t, read -/
def rRd (q : rq) (t : List Int32) : Int32 × (rq × List Int32) :=
  if (rX3_readHead (rX3_clear q) t).1 = 0 then
    (if (rGs t 4 1 (0, (rX3_readHead (rX3_clear q) t).2)).1 = 0 then rE t (rC t (rH t (gat t 1 &&& 15).toNatClampNeg (0, ((rGs t 4 1 (0, (rX3_readHead (rX3_clear q) t).2)).2, []))))
     else ((rGs t 4 1 (0, (rX3_readHead (rX3_clear q) t).2)).1, ((rGs t 4 1 (0, (rX3_readHead (rX3_clear q) t).2)).2, [])))
  else ((rX3_readHead (rX3_clear q) t).1, ((rX3_readHead (rX3_clear q) t).2, []))
theorem dX3_read_0 : decode cX3_read 0 = .ok (.aload_n 0, 1) := by decide +kernel
theorem dX3_read_1 : decode cX3_read 1 = .ok (.invokevirtual 20, 3) := by decide +kernel
theorem dX3_read_4 : decode cX3_read 4 = .ok (.aload_n 0, 1) := by decide +kernel
theorem dX3_read_5 : decode cX3_read 5 = .ok (.aload_n 1, 1) := by decide +kernel
theorem dX3_read_6 : decode cX3_read 6 = .ok (.invokevirtual 23, 3) := by decide +kernel
theorem dX3_read_9 : decode cX3_read 9 = .ok (.istore_n 2, 1) := by decide +kernel
theorem dX3_read_10 : decode cX3_read 10 = .ok (.iload_n 2, 1) := by decide +kernel
theorem dX3_read_11 : decode cX3_read 11 = .ok (.ifCond .ne 9, 3) := by decide +kernel
theorem dX3_read_14 : decode cX3_read 14 = .ok (.aload_n 0, 1) := by decide +kernel
theorem dX3_read_15 : decode cX3_read 15 = .ok (.aload_n 1, 1) := by decide +kernel
theorem dX3_read_16 : decode cX3_read 16 = .ok (.invokevirtual 27, 3) := by decide +kernel
theorem dX3_read_19 : decode cX3_read 19 = .ok (.istore_n 2, 1) := by decide +kernel
theorem dX3_read_20 : decode cX3_read 20 = .ok (.iload_n 2, 1) := by decide +kernel
theorem dX3_read_21 : decode cX3_read 21 = .ok (.ifCond .ne 17, 3) := by decide +kernel
theorem dX3_read_24 : decode cX3_read 24 = .ok (.aload_n 0, 1) := by decide +kernel
theorem dX3_read_25 : decode cX3_read 25 = .ok (.aload_n 1, 1) := by decide +kernel
theorem dX3_read_26 : decode cX3_read 26 = .ok (.aload_n 1, 1) := by decide +kernel
theorem dX3_read_27 : decode cX3_read 27 = .ok (.iconst 1, 1) := by decide +kernel
theorem dX3_read_28 : decode cX3_read 28 = .ok (.invokevirtual 30, 3) := by decide +kernel
theorem dX3_read_31 : decode cX3_read 31 = .ok (.bipush 15, 2) := by decide +kernel
theorem dX3_read_33 : decode cX3_read 33 = .ok (.iand, 1) := by decide +kernel
theorem dX3_read_34 : decode cX3_read 34 = .ok (.invokevirtual 34, 3) := by decide +kernel
theorem dX3_read_37 : decode cX3_read 37 = .ok (.istore_n 2, 1) := by decide +kernel
theorem dX3_read_38 : decode cX3_read 38 = .ok (.iload_n 2, 1) := by decide +kernel
theorem dX3_read_39 : decode cX3_read 39 = .ok (.ireturn, 1) := by decide +kernel
set_option maxRecDepth 100000 in
set_option maxHeartbeats 4000000 in
theorem c_X3_read_116 {hp : List gA} {q : rq} {l t : List Int32} (HQ : rqH hp 116 q l) (HT : gRw hp 1 2 96 t) : gM yX3_read cX3_read 3 ((some .int)) 4 127 [.ref 116, .ref 1] (hp) (0) (0) (fun v h => v = some (.int (rRd q t).1) ∧ (rqH h 116 (rRd q t).2.1 (rRd q t).2.2 ∧ rqF 116 hp h)) := by
  refine gM_of (ls0 := [some (.ref 116), some (.ref 1), none]) (by decide +kernel) (Nat.le_of_ble_eq_true rfl) rfl fun X C E => ?_
  have ht := (gRw.le HT).1
  refine g_aload_n (q := 1) C dX3_read_0 rfl rfl ?_
  refine g_callVvp (q := 4) (As := []) C gyX3_clear gvX3_clear t_508 (c_X3_clear_116 HQ) dX3_read_1 rfl HQ.1 rfl rfl rfl (Nat.le_of_ble_eq_true rfl) (Nat.le_of_ble_eq_true rfl) (Nat.le_of_ble_eq_true rfl) (Nat.le_of_ble_eq_true rfl) (Nat.le_of_ble_eq_true rfl) rfl (fun h1 z1 => ?_)
  obtain ⟨HQ1, fq1⟩ := z1
  have HT1 := gRw.ra HT (by decide) fq1
  refine g_aload_n (q := 5) C dX3_read_4 rfl rfl ?_
  refine g_aload_n (q := 6) C dX3_read_5 rfl rfl ?_
  refine g_callVix (x := (rX3_readHead (rX3_clear q) t).1) (q := 9) (As := [.ref 1]) C gyX3_readHead gvX3_readHead t_513 (c_X3_readHead_116 HQ1 HT1) dX3_read_6 rfl HQ1.1 rfl rfl rfl (Nat.le_of_ble_eq_true rfl) (Nat.le_of_ble_eq_true rfl) (Nat.le_of_ble_eq_true rfl) (Nat.le_of_ble_eq_true rfl) (Nat.le_of_ble_eq_true rfl) rfl (fun h2 z2 => ?_)
  obtain ⟨HQ2, fq2⟩ := z2
  have HT2 := gRw.ra HT1 (by decide) fq2
  refine g_istore_n (q := 10) C dX3_read_9 (Nat.le_of_ble_eq_true rfl) (by simp only [gset]; rfl) rfl ?_
  refine g_iload_n (q := 11) C dX3_read_10 rfl rfl ?_
  refine g_if_ne (t := 20) (q := 14) C dX3_read_11 (by decide) rfl (fun c_11 => ?_) (fun c_11 => ?_)
  ·
    refine g_iload_n (q := 21) C dX3_read_20 rfl rfl ?_
    refine g_if_ne (t := 38) (q := 24) C dX3_read_21 (by decide) rfl (fun c_21 => ?_) (fun c_21 => ?_)
    ·
      refine g_iload_n (q := 39) C dX3_read_38 rfl rfl ?_
      have e : rRd q t = ((rX3_readHead (rX3_clear q) t).1, ((rX3_readHead (rX3_clear q) t).2, [])) := (if_neg c_11)
      exact E.1 _ _ _ _ _ _ _ dX3_read_39 rfl rfl (Nat.le_of_ble_eq_true rfl) (Nat.le_of_ble_eq_true rfl) ⟨by rw [e], by rw [e]; exact ⟨HQ2, (rqF.trans fq1 fq2)⟩⟩
    ·
      have h0 : (rX3_readHead (rX3_clear q) t).1 = 0 := c_11
      have h1 : (rGs t 4 1 (0, (rX3_readHead (rX3_clear q) t).2)).1 = 0 := c_21
      obtain ⟨n, hn, en⟩ := raAnd15 (a := gat t 1)
      refine g_aload_n (q := 25) C dX3_read_24 rfl rfl ?_
      refine g_aload_n (q := 26) C dX3_read_25 rfl rfl ?_
      refine g_aload_n (q := 27) C dX3_read_26 rfl rfl ?_
      refine g_iconst (v := 1) (q := 28) C dX3_read_27 (by decide) rfl ?_
      refine g_callVi (x := (gat t 1)) (q := 31) (As := [.int 1]) C gyX4_at gvX4_at t_521 (c_X4_at_w HT2) dX3_read_28 rfl (gRw.obj HT2) rfl rfl rfl (Nat.le_of_ble_eq_true rfl) (Nat.le_of_ble_eq_true rfl) (Nat.le_of_ble_eq_true rfl) (Nat.le_of_ble_eq_true rfl) (Nat.le_of_ble_eq_true rfl) rfl ?_
      refine g_bipush (v := 15) (q := 33) C dX3_read_31 (by decide) rfl ?_
      refine g_iand (q := 34) C dX3_read_33 rfl ?_
      rw [en]
      refine g_callVix (x := (rE t (rC t (rH t n (0, ((rGs t 4 1 (0, (rX3_readHead (rX3_clear q) t).2)).2, []))))).1) (q := 37) (As := [.ref 1, .int ((nI n))]) C gyX3_readTail gvX3_readTail t_555 (c_X3_readTail_116 HQ2 HT2 hn (rGs_P ht (fun _ => (rHead0 ht h0).1) h1)) dX3_read_34 rfl HQ2.1 rfl rfl rfl (Nat.le_of_ble_eq_true rfl) (Nat.le_of_ble_eq_true rfl) (Nat.le_of_ble_eq_true rfl) (Nat.le_of_ble_eq_true rfl) (Nat.le_of_ble_eq_true rfl) rfl (fun h3 z3 => ?_)
      obtain ⟨HQ3, fq3⟩ := z3
      have HT3 := gRw.ra HT2 (by decide) fq3
      refine g_istore_n (q := 38) C dX3_read_37 (Nat.le_of_ble_eq_true rfl) (by simp only [gset]; rfl) rfl ?_
      refine g_iload_n (q := 39) C dX3_read_38 rfl rfl ?_
      have e : rRd q t = rE t (rC t (rH t n (0, ((rGs t 4 1 (0, (rX3_readHead (rX3_clear q) t).2)).2, [])))) := (if_pos h0).trans ((if_pos h1).trans (by rw [en, nI_clamp (by omega)]))
      exact E.1 _ _ _ _ _ _ _ dX3_read_39 rfl rfl (Nat.le_of_ble_eq_true rfl) (Nat.le_of_ble_eq_true rfl) ⟨by rw [e], by rw [e]; exact ⟨HQ3, (rqF.trans (rqF.trans fq1 fq2) fq3)⟩⟩
  ·
    refine g_aload_n (q := 15) C dX3_read_14 rfl rfl ?_
    refine g_aload_n (q := 16) C dX3_read_15 rfl rfl ?_
    refine g_callVix (x := (rGs t 4 1 (0, (rX3_readHead (rX3_clear q) t).2)).1) (q := 19) (As := [.ref 1]) C gyX3_readGroups gvX3_readGroups t_525 (c_X3_readGroups_116 HQ2 HT2) dX3_read_16 rfl HQ2.1 rfl rfl rfl (Nat.le_of_ble_eq_true rfl) (Nat.le_of_ble_eq_true rfl) (Nat.le_of_ble_eq_true rfl) (Nat.le_of_ble_eq_true rfl) (Nat.le_of_ble_eq_true rfl) rfl (fun h4 z4 => ?_)
    obtain ⟨HQ4, fq4⟩ := z4
    have HT4 := gRw.ra HT2 (by decide) fq4
    refine g_istore_n (q := 20) C dX3_read_19 (Nat.le_of_ble_eq_true rfl) (by simp only [gset]; rfl) rfl ?_
    refine g_iload_n (q := 21) C dX3_read_20 rfl rfl ?_
    refine g_if_ne (t := 38) (q := 24) C dX3_read_21 (by decide) rfl (fun c_21 => ?_) (fun c_21 => ?_)
    ·
      refine g_iload_n (q := 39) C dX3_read_38 rfl rfl ?_
      have e : rRd q t = ((rGs t 4 1 (0, (rX3_readHead (rX3_clear q) t).2)).1, ((rGs t 4 1 (0, (rX3_readHead (rX3_clear q) t).2)).2, [])) := (if_pos (c_11)).trans (if_neg c_21)
      exact E.1 _ _ _ _ _ _ _ dX3_read_39 rfl rfl (Nat.le_of_ble_eq_true rfl) (Nat.le_of_ble_eq_true rfl) ⟨by rw [e], by rw [e]; exact ⟨HQ4, (rqF.trans (rqF.trans fq1 fq2) fq4)⟩⟩
    ·
      have h0 : (rX3_readHead (rX3_clear q) t).1 = 0 := c_11
      have h1 : (rGs t 4 1 (0, (rX3_readHead (rX3_clear q) t).2)).1 = 0 := c_21
      obtain ⟨n, hn, en⟩ := raAnd15 (a := gat t 1)
      refine g_aload_n (q := 25) C dX3_read_24 rfl rfl ?_
      refine g_aload_n (q := 26) C dX3_read_25 rfl rfl ?_
      refine g_aload_n (q := 27) C dX3_read_26 rfl rfl ?_
      refine g_iconst (v := 1) (q := 28) C dX3_read_27 (by decide) rfl ?_
      refine g_callVi (x := (gat t 1)) (q := 31) (As := [.int 1]) C gyX4_at gvX4_at t_521 (c_X4_at_w HT4) dX3_read_28 rfl (gRw.obj HT4) rfl rfl rfl (Nat.le_of_ble_eq_true rfl) (Nat.le_of_ble_eq_true rfl) (Nat.le_of_ble_eq_true rfl) (Nat.le_of_ble_eq_true rfl) (Nat.le_of_ble_eq_true rfl) rfl ?_
      refine g_bipush (v := 15) (q := 33) C dX3_read_31 (by decide) rfl ?_
      refine g_iand (q := 34) C dX3_read_33 rfl ?_
      rw [en]
      refine g_callVix (x := (rE t (rC t (rH t n (0, ((rGs t 4 1 (0, (rX3_readHead (rX3_clear q) t).2)).2, []))))).1) (q := 37) (As := [.ref 1, .int ((nI n))]) C gyX3_readTail gvX3_readTail t_555 (c_X3_readTail_116 HQ4 HT4 hn (rGs_P ht (fun _ => (rHead0 ht h0).1) h1)) dX3_read_34 rfl HQ4.1 rfl rfl rfl (Nat.le_of_ble_eq_true rfl) (Nat.le_of_ble_eq_true rfl) (Nat.le_of_ble_eq_true rfl) (Nat.le_of_ble_eq_true rfl) (Nat.le_of_ble_eq_true rfl) rfl (fun h5 z5 => ?_)
      obtain ⟨HQ5, fq5⟩ := z5
      have HT5 := gRw.ra HT4 (by decide) fq5
      refine g_istore_n (q := 38) C dX3_read_37 (Nat.le_of_ble_eq_true rfl) (by simp only [gset]; rfl) rfl ?_
      refine g_iload_n (q := 39) C dX3_read_38 rfl rfl ?_
      have e : rRd q t = rE t (rC t (rH t n (0, ((rGs t 4 1 (0, (rX3_readHead (rX3_clear q) t).2)).2, [])))) := (if_pos h0).trans ((if_pos h1).trans (by rw [en, nI_clamp (by omega)]))
      exact E.1 _ _ _ _ _ _ _ dX3_read_39 rfl rfl (Nat.le_of_ble_eq_true rfl) (Nat.le_of_ble_eq_true rfl) ⟨by rw [e], by rw [e]; exact ⟨HQ5, (rqF.trans (rqF.trans (rqF.trans fq1 fq2) fq4) fq5)⟩⟩
set_option maxRecDepth 100000 in
set_option maxHeartbeats 4000000 in
theorem c_X3_clear_119 {hp : List gA} {q : rq} {l : List Int32} (HQ : rqH hp 119 q l) : gM yX3_clear cX3_clear 1 (none) 2 42 [.ref 119] (hp) (0) (0) (fun v h => v = none ∧ (rqH h 119 (rX3_clear q) [] ∧ rqF 119 hp h)) := by
  refine gM_of (ls0 := [some (.ref 119)]) (by decide +kernel) (Nat.le_of_ble_eq_true rfl) rfl fun X C E => ?_
  refine g_aload_n (q := 1) C dX3_clear_0 rfl rfl ?_
  refine g_bipush (v := 17) (q := 3) C dX3_clear_1 (by decide) rfl ?_
  refine g_putfield (q := 6) C fX3_38 dX3_clear_3 rfl HQ.1 (Nat.le_of_ble_eq_true rfl) (Or.inl rfl) rfl rfl (by intro z h; cases h) ?_
  refine rqput (j := 1) (x := 17) HQ rfl fun h1 HQ1 fq1 => ?_
  refine g_aload_n (q := 7) C dX3_clear_6 rfl rfl ?_
  refine g_iconst (v := 0) (q := 8) C dX3_clear_7 (by decide) rfl ?_
  refine g_putfield (q := 11) C fX3_42 dX3_clear_8 rfl HQ1.1 (Nat.le_of_ble_eq_true rfl) (Or.inl rfl) rfl rfl (by intro z h; cases h) ?_
  refine rqput (j := 2) (x := 0) HQ1 rfl fun h2 HQ2 fq2 => ?_
  refine g_aload_n (q := 12) C dX3_clear_11 rfl rfl ?_
  refine g_iconst (v := 0) (q := 13) C dX3_clear_12 (by decide) rfl ?_
  refine g_putfield (q := 16) C fX3_45 dX3_clear_13 rfl HQ2.1 (Nat.le_of_ble_eq_true rfl) (Or.inl rfl) rfl rfl (by intro z h; cases h) ?_
  refine rqput (j := 3) (x := 0) HQ2 rfl fun h3 HQ3 fq3 => ?_
  refine g_aload_n (q := 17) C dX3_clear_16 rfl rfl ?_
  refine g_iconst (v := 0) (q := 18) C dX3_clear_17 (by decide) rfl ?_
  refine g_putfield (q := 21) C fX3_48 dX3_clear_18 rfl HQ3.1 (Nat.le_of_ble_eq_true rfl) (Or.inl rfl) rfl rfl (by intro z h; cases h) ?_
  refine rqput (j := 4) (x := 0) HQ3 rfl fun h4 HQ4 fq4 => ?_
  refine g_aload_n (q := 22) C dX3_clear_21 rfl rfl ?_
  refine g_bipush (v := 32) (q := 24) C dX3_clear_22 (by decide) rfl ?_
  refine g_putfield (q := 27) C fX3_51 dX3_clear_24 rfl HQ4.1 (Nat.le_of_ble_eq_true rfl) (Or.inl rfl) rfl rfl (by intro z h; cases h) ?_
  refine rqput (j := 5) (x := 32) HQ4 rfl fun h5 HQ5 fq5 => ?_
  refine g_aload_n (q := 28) C dX3_clear_27 rfl rfl ?_
  refine g_iconst (v := 0) (q := 29) C dX3_clear_28 (by decide) rfl ?_
  refine g_putfield (q := 32) C fX3_54 dX3_clear_29 rfl HQ5.1 (Nat.le_of_ble_eq_true rfl) (Or.inl rfl) rfl rfl (by intro z h; cases h) ?_
  refine rqput (j := 6) (x := 0) HQ5 rfl fun h6 HQ6 fq6 => ?_
  refine g_aload_n (q := 33) C dX3_clear_32 rfl rfl ?_
  refine g_getfield (v := .ref 120) (q := 36) C fX3_14 dX3_clear_33 rfl HQ6.1 rfl ?_
  refine g_iconst (v := 0) (q := 37) C dX3_clear_36 (by decide) rfl ?_
  refine g_callVvp (q := 40) (As := [.int 0]) C gyX4_keep gvX4_keep t_512 (c_X4_keep0 HQ6.2) dX3_clear_37 rfl (gRw.obj HQ6.2) rfl rfl rfl (Nat.le_of_ble_eq_true rfl) (Nat.le_of_ble_eq_true rfl) (Nat.le_of_ble_eq_true rfl) (Nat.le_of_ble_eq_true rfl) (Nat.le_of_ble_eq_true rfl) rfl (fun h7 z7 => ?_)
  obtain ⟨HQ7, fq7⟩ := rqrow HQ6 z7
  refine g_aload_n (q := 41) C dX3_clear_40 rfl rfl ?_
  refine g_iconst (v := 0) (q := 42) C dX3_clear_41 (by decide) rfl ?_
  refine g_putfield (q := 45) C fX3_62 dX3_clear_42 rfl HQ7.1 (Nat.le_of_ble_eq_true rfl) (Or.inl rfl) rfl rfl (by intro z h; cases h) ?_
  refine rqput (j := 10) (x := 0) HQ7 rfl fun h8 HQ8 fq8 => ?_
  have e : rX3_clear q = (((((((q.set 1 17).set 2 0).set 3 0).set 4 0).set 5 32).set 6 0).set 10 0) := rfl
  exact E.2.1 _ _ _ _ _ dX3_clear_45 rfl (Nat.le_of_ble_eq_true rfl) (Nat.le_of_ble_eq_true rfl) ⟨rfl, by rw [e]; exact ⟨HQ8, (rqF.trans (rqF.trans (rqF.trans (rqF.trans (rqF.trans (rqF.trans (rqF.trans fq1 fq2) fq3) fq4) fq5) fq6) fq7) fq8)⟩⟩
set_option maxRecDepth 100000 in
set_option maxHeartbeats 4000000 in
theorem c_X3_readHead_119 {hp : List gA} {q : rq} {l t : List Int32} (HQ : rqH hp 119 q l) (HT : gRw hp 1 2 96 t) : gM yX3_readHead cX3_readHead 2 ((some .int)) 1 21 [.ref 119, .ref 1] (hp) (0) (0) (fun v h => v = some (.int (rX3_readHead q t).1) ∧ (rqH h 119 (rX3_readHead q t).2 l ∧ rqF 119 hp h)) := by
  refine gM_of (ls0 := [some (.ref 119), some (.ref 1)]) (by decide +kernel) (Nat.le_of_ble_eq_true rfl) rfl fun X C E => ?_
  refine g_aload_n (q := 1) C dX3_readHead_0 rfl rfl ?_
  refine g_callVi (x := (nI t.length)) (q := 4) (As := []) C gyX4_size gvX4_size t_517 (c_X4_size (gRw.obj HT)) dX3_readHead_1 rfl (gRw.obj HT) rfl rfl rfl (Nat.le_of_ble_eq_true rfl) (Nat.le_of_ble_eq_true rfl) (Nat.le_of_ble_eq_true rfl) (Nat.le_of_ble_eq_true rfl) (Nat.le_of_ble_eq_true rfl) rfl ?_
  refine g_if_ne (t := 13) (q := 7) C dX3_readHead_4 (by decide) rfl (fun c_4 => ?_) (fun c_4 => ?_)
  ·
    refine g_aload_n (q := 14) C dX3_readHead_13 rfl rfl ?_
    refine g_aload_n (q := 15) C dX3_readHead_14 rfl rfl ?_
    refine g_iconst (v := 0) (q := 16) C dX3_readHead_15 (by decide) rfl ?_
    refine g_callVi (x := (gat t 0)) (q := 19) (As := [.int 0]) C gyX4_at gvX4_at t_521 (c_X4_at_w HT) dX3_readHead_16 rfl (gRw.obj HT) rfl rfl rfl (Nat.le_of_ble_eq_true rfl) (Nat.le_of_ble_eq_true rfl) (Nat.le_of_ble_eq_true rfl) (Nat.le_of_ble_eq_true rfl) (Nat.le_of_ble_eq_true rfl) rfl ?_
    refine g_putfield (q := 22) C fX3_73 dX3_readHead_19 rfl HQ.1 (Nat.le_of_ble_eq_true rfl) (Or.inl rfl) rfl rfl (by intro z h; cases h) ?_
    refine rqput (j := 0) (x := (gat t 0)) HQ rfl fun h1 HQ1 fq1 => ?_
    have HT1 := gRw.ra HT (by decide) fq1
    refine g_aload_n (q := 23) C dX3_readHead_22 rfl rfl ?_
    refine g_getfield (v := .int ((gat t 0))) (q := 26) C fX3_73 dX3_readHead_23 rfl HQ1.1 rfl ?_
    refine g_bipush (v := 59) (q := 28) C dX3_readHead_26 (by decide) rfl ?_
    refine g_icmp_eq (t := 46) (q := 31) C dX3_readHead_28 (by decide) rfl (fun c_28 => ?_) (fun c_28 => ?_)
    ·
      refine g_aload_n (q := 47) C dX3_readHead_46 rfl rfl ?_
      refine g_callVi (x := (nI t.length)) (q := 50) (As := []) C gyX4_size gvX4_size t_517 (c_X4_size (gRw.obj HT1)) dX3_readHead_47 rfl (gRw.obj HT1) rfl rfl rfl (Nat.le_of_ble_eq_true rfl) (Nat.le_of_ble_eq_true rfl) (Nat.le_of_ble_eq_true rfl) (Nat.le_of_ble_eq_true rfl) (Nat.le_of_ble_eq_true rfl) rfl ?_
      refine g_iconst (v := 1) (q := 51) C dX3_readHead_50 (by decide) rfl ?_
      refine g_icmp_ne (t := 60) (q := 54) C dX3_readHead_51 (by decide) rfl (fun c_51 => ?_) (fun c_51 => ?_)
      ·
        refine g_aload_n (q := 61) C dX3_readHead_60 rfl rfl ?_
        refine g_aload_n (q := 62) C dX3_readHead_61 rfl rfl ?_
        refine g_iconst (v := 1) (q := 63) C dX3_readHead_62 (by decide) rfl ?_
        refine g_callVi (x := (gat t 1)) (q := 66) (As := [.int 1]) C gyX4_at gvX4_at t_521 (c_X4_at_w HT1) dX3_readHead_63 rfl (gRw.obj HT1) rfl rfl rfl (Nat.le_of_ble_eq_true rfl) (Nat.le_of_ble_eq_true rfl) (Nat.le_of_ble_eq_true rfl) (Nat.le_of_ble_eq_true rfl) (Nat.le_of_ble_eq_true rfl) rfl ?_
        refine g_iconst (v := 4) (q := 67) C dX3_readHead_66 (by decide) rfl ?_
        refine g_ishr (q := 68) C dX3_readHead_67 rfl ?_
        refine g_putfield (q := 71) C fX3_76 dX3_readHead_68 rfl HQ1.1 (Nat.le_of_ble_eq_true rfl) (Or.inl rfl) rfl rfl (by intro z h; cases h) ?_
        refine rqput (j := 9) (x := ((gat t 1) >>> (4 &&& 31))) HQ1 rfl fun h2 HQ2 fq2 => ?_
        have HT2 := gRw.ra HT1 (by decide) fq2
        refine g_aload_n (q := 72) C dX3_readHead_71 rfl rfl ?_
        refine g_iconst (v := 2) (q := 73) C dX3_readHead_72 (by decide) rfl ?_
        refine g_putfield (q := 76) C fX3_79 dX3_readHead_73 rfl HQ2.1 (Nat.le_of_ble_eq_true rfl) (Or.inl rfl) rfl rfl (by intro z h; cases h) ?_
        refine rqput (j := 8) (x := 2) HQ2 rfl fun h3 HQ3 fq3 => ?_
        have HT3 := gRw.ra HT2 (by decide) fq3
        refine g_iconst (v := 0) (q := 77) C dX3_readHead_76 (by decide) rfl ?_
        have e : rX3_readHead q t = (0, (((q.set 0 (gat t 0)).set 9 ((gat t 1) >>> (4 &&& 31))).set 8 2)) := ((if_neg c_4).trans ((if_pos c_28).trans (if_neg c_51)))
        exact E.1 _ _ _ _ _ _ _ dX3_readHead_77 rfl rfl (Nat.le_of_ble_eq_true rfl) (Nat.le_of_ble_eq_true rfl) ⟨by rw [e], by rw [e]; exact ⟨HQ3, (rqF.trans (rqF.trans fq1 fq2) fq3)⟩⟩
      ·
        refine g_iconst (v := 1) (q := 55) C dX3_readHead_54 (by decide) rfl ?_
        refine g_iconst (v := 1) (q := 56) C dX3_readHead_55 (by decide) rfl ?_
        refine g_callSi (x := (8 * 1 + 1)) (q := 59) (As := [.int 1, .int 1]) C gyX3_faultAt t_519 t_518 (c_X3_faultAt_x) dX3_readHead_56 rfl rfl rfl (Nat.le_of_ble_eq_true rfl) (Nat.le_of_ble_eq_true rfl) (Nat.le_of_ble_eq_true rfl) (Nat.le_of_ble_eq_true rfl) (Nat.le_of_ble_eq_true rfl) rfl ?_
        have e : rX3_readHead q t = ((8 * 1 + 1), (q.set 0 (gat t 0))) := ((if_neg c_4).trans ((if_pos c_28).trans (if_pos c_51)))
        exact E.1 _ _ _ _ _ _ _ dX3_readHead_59 rfl rfl (Nat.le_of_ble_eq_true rfl) (Nat.le_of_ble_eq_true rfl) ⟨by rw [e], by rw [e]; exact ⟨HQ1, fq1⟩⟩
    ·
      refine g_aload_n (q := 32) C dX3_readHead_31 rfl rfl ?_
      refine g_getfield (v := .int ((gat t 0))) (q := 35) C fX3_73 dX3_readHead_32 rfl HQ1.1 rfl ?_
      refine g_bipush (v := 63) (q := 37) C dX3_readHead_35 (by decide) rfl ?_
      refine g_icmp_eq (t := 46) (q := 40) C dX3_readHead_37 (by decide) rfl (fun c_37 => ?_) (fun c_37 => ?_)
      ·
        refine g_aload_n (q := 47) C dX3_readHead_46 rfl rfl ?_
        refine g_callVi (x := (nI t.length)) (q := 50) (As := []) C gyX4_size gvX4_size t_517 (c_X4_size (gRw.obj HT1)) dX3_readHead_47 rfl (gRw.obj HT1) rfl rfl rfl (Nat.le_of_ble_eq_true rfl) (Nat.le_of_ble_eq_true rfl) (Nat.le_of_ble_eq_true rfl) (Nat.le_of_ble_eq_true rfl) (Nat.le_of_ble_eq_true rfl) rfl ?_
        refine g_iconst (v := 1) (q := 51) C dX3_readHead_50 (by decide) rfl ?_
        refine g_icmp_ne (t := 60) (q := 54) C dX3_readHead_51 (by decide) rfl (fun c_51 => ?_) (fun c_51 => ?_)
        ·
          refine g_aload_n (q := 61) C dX3_readHead_60 rfl rfl ?_
          refine g_aload_n (q := 62) C dX3_readHead_61 rfl rfl ?_
          refine g_iconst (v := 1) (q := 63) C dX3_readHead_62 (by decide) rfl ?_
          refine g_callVi (x := (gat t 1)) (q := 66) (As := [.int 1]) C gyX4_at gvX4_at t_521 (c_X4_at_w HT1) dX3_readHead_63 rfl (gRw.obj HT1) rfl rfl rfl (Nat.le_of_ble_eq_true rfl) (Nat.le_of_ble_eq_true rfl) (Nat.le_of_ble_eq_true rfl) (Nat.le_of_ble_eq_true rfl) (Nat.le_of_ble_eq_true rfl) rfl ?_
          refine g_iconst (v := 4) (q := 67) C dX3_readHead_66 (by decide) rfl ?_
          refine g_ishr (q := 68) C dX3_readHead_67 rfl ?_
          refine g_putfield (q := 71) C fX3_76 dX3_readHead_68 rfl HQ1.1 (Nat.le_of_ble_eq_true rfl) (Or.inl rfl) rfl rfl (by intro z h; cases h) ?_
          refine rqput (j := 9) (x := ((gat t 1) >>> (4 &&& 31))) HQ1 rfl fun h4 HQ4 fq4 => ?_
          have HT4 := gRw.ra HT1 (by decide) fq4
          refine g_aload_n (q := 72) C dX3_readHead_71 rfl rfl ?_
          refine g_iconst (v := 2) (q := 73) C dX3_readHead_72 (by decide) rfl ?_
          refine g_putfield (q := 76) C fX3_79 dX3_readHead_73 rfl HQ4.1 (Nat.le_of_ble_eq_true rfl) (Or.inl rfl) rfl rfl (by intro z h; cases h) ?_
          refine rqput (j := 8) (x := 2) HQ4 rfl fun h5 HQ5 fq5 => ?_
          have HT5 := gRw.ra HT4 (by decide) fq5
          refine g_iconst (v := 0) (q := 77) C dX3_readHead_76 (by decide) rfl ?_
          have e : rX3_readHead q t = (0, (((q.set 0 (gat t 0)).set 9 ((gat t 1) >>> (4 &&& 31))).set 8 2)) := ((if_neg c_4).trans ((if_neg c_28).trans ((if_pos c_37).trans (if_neg c_51))))
          exact E.1 _ _ _ _ _ _ _ dX3_readHead_77 rfl rfl (Nat.le_of_ble_eq_true rfl) (Nat.le_of_ble_eq_true rfl) ⟨by rw [e], by rw [e]; exact ⟨HQ5, (rqF.trans (rqF.trans fq1 fq4) fq5)⟩⟩
        ·
          refine g_iconst (v := 1) (q := 55) C dX3_readHead_54 (by decide) rfl ?_
          refine g_iconst (v := 1) (q := 56) C dX3_readHead_55 (by decide) rfl ?_
          refine g_callSi (x := (8 * 1 + 1)) (q := 59) (As := [.int 1, .int 1]) C gyX3_faultAt t_519 t_518 (c_X3_faultAt_x) dX3_readHead_56 rfl rfl rfl (Nat.le_of_ble_eq_true rfl) (Nat.le_of_ble_eq_true rfl) (Nat.le_of_ble_eq_true rfl) (Nat.le_of_ble_eq_true rfl) (Nat.le_of_ble_eq_true rfl) rfl ?_
          have e : rX3_readHead q t = ((8 * 1 + 1), (q.set 0 (gat t 0))) := ((if_neg c_4).trans ((if_neg c_28).trans ((if_pos c_37).trans (if_pos c_51))))
          exact E.1 _ _ _ _ _ _ _ dX3_readHead_59 rfl rfl (Nat.le_of_ble_eq_true rfl) (Nat.le_of_ble_eq_true rfl) ⟨by rw [e], by rw [e]; exact ⟨HQ1, fq1⟩⟩
      ·
        refine g_iconst (v := 0) (q := 41) C dX3_readHead_40 (by decide) rfl ?_
        refine g_iconst (v := 2) (q := 42) C dX3_readHead_41 (by decide) rfl ?_
        refine g_callSi (x := (8 * 0 + 2)) (q := 45) (As := [.int 0, .int 2]) C gyX3_faultAt t_519 t_518 (c_X3_faultAt_x) dX3_readHead_42 rfl rfl rfl (Nat.le_of_ble_eq_true rfl) (Nat.le_of_ble_eq_true rfl) (Nat.le_of_ble_eq_true rfl) (Nat.le_of_ble_eq_true rfl) (Nat.le_of_ble_eq_true rfl) rfl ?_
        have e : rX3_readHead q t = ((8 * 0 + 2), (q.set 0 (gat t 0))) := ((if_neg c_4).trans ((if_neg c_28).trans (if_neg c_37)))
        exact E.1 _ _ _ _ _ _ _ dX3_readHead_45 rfl rfl (Nat.le_of_ble_eq_true rfl) (Nat.le_of_ble_eq_true rfl) ⟨by rw [e], by rw [e]; exact ⟨HQ1, fq1⟩⟩
  ·
    refine g_iconst (v := 0) (q := 8) C dX3_readHead_7 (by decide) rfl ?_
    refine g_iconst (v := 1) (q := 9) C dX3_readHead_8 (by decide) rfl ?_
    refine g_callSi (x := (8 * 0 + 1)) (q := 12) (As := [.int 0, .int 1]) C gyX3_faultAt t_519 t_518 (c_X3_faultAt_x) dX3_readHead_9 rfl rfl rfl (Nat.le_of_ble_eq_true rfl) (Nat.le_of_ble_eq_true rfl) (Nat.le_of_ble_eq_true rfl) (Nat.le_of_ble_eq_true rfl) (Nat.le_of_ble_eq_true rfl) rfl ?_
    have e : rX3_readHead q t = ((8 * 0 + 1), q) := (if_pos c_4)
    exact E.1 _ _ _ _ _ _ _ dX3_readHead_12 rfl rfl (Nat.le_of_ble_eq_true rfl) (Nat.le_of_ble_eq_true rfl) ⟨by rw [e], by rw [e]; exact ⟨HQ, rqF.rf⟩⟩
set_option maxRecDepth 100000 in
set_option maxHeartbeats 4000000 in
theorem c_X3_readTd_119 {hp : List gA} {q : rq} {l : List Int32} {y : Int32} {z : Int32} (HQ : rqH hp 119 q l) : gM yX3_readTd cX3_readTd 4 ((some .int)) 0 0 [.ref 119, .int y, .int z] (hp) (0) (0) (fun v h => v = some (.int (rX3_readTd q y z).1) ∧ (rqH h 119 (rX3_readTd q y z).2 l ∧ rqF 119 hp h)) := by
  refine gM_of (ls0 := [some (.ref 119), some (.int y), some (.int z), none]) (by decide +kernel) (Nat.le_of_ble_eq_true rfl) rfl fun X C E => ?_
  refine g_iload_n (q := 1) C dX3_readTd_0 rfl rfl ?_
  refine g_bipush (v := 15) (q := 3) C dX3_readTd_1 (by decide) rfl ?_
  refine g_iand (q := 4) C dX3_readTd_3 rfl ?_
  refine g_istore_n (q := 5) C dX3_readTd_4 (Nat.le_of_ble_eq_true rfl) (by simp only [gset]; rfl) rfl ?_
  refine g_aload_n (q := 6) C dX3_readTd_5 rfl rfl ?_
  refine g_iload_n (q := 7) C dX3_readTd_6 rfl rfl ?_
  refine g_iconst (v := 4) (q := 8) C dX3_readTd_7 (by decide) rfl ?_
  refine g_ishr (q := 9) C dX3_readTd_8 rfl ?_
  refine g_putfield (q := 12) C fX3_76 dX3_readTd_9 rfl HQ.1 (Nat.le_of_ble_eq_true rfl) (Or.inl rfl) rfl rfl (by intro z h; cases h) ?_
  refine rqput (j := 9) (x := (z >>> (4 &&& 31))) HQ rfl fun h1 HQ1 fq1 => ?_
  refine g_iload_n (q := 13) C dX3_readTd_12 rfl rfl ?_
  refine g_if_eq (t := 27) (q := 16) C dX3_readTd_13 (by decide) rfl (fun c_13 => ?_) (fun c_13 => ?_)
  ·
    refine g_iload_n (q := 28) C dX3_readTd_27 rfl rfl ?_
    refine g_iconst (v := 4) (q := 29) C dX3_readTd_28 (by decide) rfl ?_
    refine g_icmp_ne (t := 41) (q := 32) C dX3_readTd_29 (by decide) rfl (fun c_29 => ?_) (fun c_29 => ?_)
    ·
      refine g_iload_n (q := 42) C dX3_readTd_41 rfl rfl ?_
      refine g_iconst (v := 1) (q := 43) C dX3_readTd_42 (by decide) rfl ?_
      refine g_icmp_ne (t := 54) (q := 46) C dX3_readTd_43 (by decide) rfl (fun c_43 => ?_) (fun c_43 => ?_)
      ·
        refine g_iload_n (q := 55) C dX3_readTd_54 rfl rfl ?_
        refine g_iconst (v := 1) (q := 56) C dX3_readTd_55 (by decide) rfl ?_
        refine g_icmp_ne (t := 73) (q := 59) C dX3_readTd_56 (by decide) rfl (fun c_56 => ?_) (fun c_56 => ?_)
        ·
          refine g_iload_n (q := 74) C dX3_readTd_73 rfl rfl ?_
          refine g_if_eq (t := 82) (q := 77) C dX3_readTd_74 (by decide) rfl (fun c_74 => ?_) (fun c_74 => ?_)
          ·
            refine g_iconst (v := 0) (q := 83) C dX3_readTd_82 (by decide) rfl ?_
            have e : rX3_readTd q y z = (0, (q.set 9 (z >>> (4 &&& 31)))) := ((if_pos c_13).trans ((if_neg c_29).trans ((if_neg c_43).trans ((if_neg c_56).trans (if_pos c_74)))))
            exact E.1 _ _ _ _ _ _ _ dX3_readTd_83 rfl rfl (Nat.le_of_ble_eq_true rfl) (Nat.le_of_ble_eq_true rfl) ⟨by rw [e], by rw [e]; exact ⟨HQ1, fq1⟩⟩
          ·
            refine g_aload_n (q := 78) C dX3_readTd_77 rfl rfl ?_
            refine g_iconst (v := 1) (q := 79) C dX3_readTd_78 (by decide) rfl ?_
            refine g_putfield (q := 82) C fX3_54 dX3_readTd_79 rfl HQ1.1 (Nat.le_of_ble_eq_true rfl) (Or.inl rfl) rfl rfl (by intro z h; cases h) ?_
            refine rqput (j := 6) (x := 1) HQ1 rfl fun h2 HQ2 fq2 => ?_
            refine g_iconst (v := 0) (q := 83) C dX3_readTd_82 (by decide) rfl ?_
            have e : rX3_readTd q y z = (0, ((q.set 9 (z >>> (4 &&& 31))).set 6 1)) := ((if_pos c_13).trans ((if_neg c_29).trans ((if_neg c_43).trans ((if_neg c_56).trans (if_neg c_74)))))
            exact E.1 _ _ _ _ _ _ _ dX3_readTd_83 rfl rfl (Nat.le_of_ble_eq_true rfl) (Nat.le_of_ble_eq_true rfl) ⟨by rw [e], by rw [e]; exact ⟨HQ2, (rqF.trans fq1 fq2)⟩⟩
        ·
          refine g_aload_n (q := 60) C dX3_readTd_59 rfl rfl ?_
          refine g_getfield (v := .int ((q.f 10))) (q := 63) C fX3_62 dX3_readTd_60 rfl HQ1.1 rfl ?_
          refine g_if_ne (t := 73) (q := 66) C dX3_readTd_63 (by decide) rfl (fun c_63 => ?_) (fun c_63 => ?_)
          ·
            refine g_iload_n (q := 74) C dX3_readTd_73 rfl rfl ?_
            refine g_if_eq (t := 82) (q := 77) C dX3_readTd_74 (by decide) rfl (fun c_74 => ?_) (fun c_74 => ?_)
            ·
              refine g_iconst (v := 0) (q := 83) C dX3_readTd_82 (by decide) rfl ?_
              have e : rX3_readTd q y z = (0, (q.set 9 (z >>> (4 &&& 31)))) := ((if_pos c_13).trans ((if_neg c_29).trans ((if_neg c_43).trans ((if_pos c_56).trans ((if_neg c_63).trans (if_pos c_74))))))
              exact E.1 _ _ _ _ _ _ _ dX3_readTd_83 rfl rfl (Nat.le_of_ble_eq_true rfl) (Nat.le_of_ble_eq_true rfl) ⟨by rw [e], by rw [e]; exact ⟨HQ1, fq1⟩⟩
            ·
              refine g_aload_n (q := 78) C dX3_readTd_77 rfl rfl ?_
              refine g_iconst (v := 1) (q := 79) C dX3_readTd_78 (by decide) rfl ?_
              refine g_putfield (q := 82) C fX3_54 dX3_readTd_79 rfl HQ1.1 (Nat.le_of_ble_eq_true rfl) (Or.inl rfl) rfl rfl (by intro z h; cases h) ?_
              refine rqput (j := 6) (x := 1) HQ1 rfl fun h3 HQ3 fq3 => ?_
              refine g_iconst (v := 0) (q := 83) C dX3_readTd_82 (by decide) rfl ?_
              have e : rX3_readTd q y z = (0, ((q.set 9 (z >>> (4 &&& 31))).set 6 1)) := ((if_pos c_13).trans ((if_neg c_29).trans ((if_neg c_43).trans ((if_pos c_56).trans ((if_neg c_63).trans (if_neg c_74))))))
              exact E.1 _ _ _ _ _ _ _ dX3_readTd_83 rfl rfl (Nat.le_of_ble_eq_true rfl) (Nat.le_of_ble_eq_true rfl) ⟨by rw [e], by rw [e]; exact ⟨HQ3, (rqF.trans fq1 fq3)⟩⟩
          ·
            refine g_aload_n (q := 67) C dX3_readTd_66 rfl rfl ?_
            refine g_iload_n (q := 68) C dX3_readTd_67 rfl rfl ?_
            refine g_iconst (v := 1) (q := 69) C dX3_readTd_68 (by decide) rfl ?_
            refine g_iadd (q := 70) C dX3_readTd_69 rfl ?_
            refine g_putfield (q := 73) C fX3_62 dX3_readTd_70 rfl HQ1.1 (Nat.le_of_ble_eq_true rfl) (Or.inl rfl) rfl rfl (by intro z h; cases h) ?_
            refine rqput (j := 10) (x := (y + 1)) HQ1 rfl fun h4 HQ4 fq4 => ?_
            refine g_iload_n (q := 74) C dX3_readTd_73 rfl rfl ?_
            refine g_if_eq (t := 82) (q := 77) C dX3_readTd_74 (by decide) rfl (fun c_74 => ?_) (fun c_74 => ?_)
            ·
              refine g_iconst (v := 0) (q := 83) C dX3_readTd_82 (by decide) rfl ?_
              have e : rX3_readTd q y z = (0, ((q.set 9 (z >>> (4 &&& 31))).set 10 (y + 1))) := ((if_pos c_13).trans ((if_neg c_29).trans ((if_neg c_43).trans ((if_pos c_56).trans ((if_pos c_63).trans (if_pos c_74))))))
              exact E.1 _ _ _ _ _ _ _ dX3_readTd_83 rfl rfl (Nat.le_of_ble_eq_true rfl) (Nat.le_of_ble_eq_true rfl) ⟨by rw [e], by rw [e]; exact ⟨HQ4, (rqF.trans fq1 fq4)⟩⟩
            ·
              refine g_aload_n (q := 78) C dX3_readTd_77 rfl rfl ?_
              refine g_iconst (v := 1) (q := 79) C dX3_readTd_78 (by decide) rfl ?_
              refine g_putfield (q := 82) C fX3_54 dX3_readTd_79 rfl HQ4.1 (Nat.le_of_ble_eq_true rfl) (Or.inl rfl) rfl rfl (by intro z h; cases h) ?_
              refine rqput (j := 6) (x := 1) HQ4 rfl fun h5 HQ5 fq5 => ?_
              refine g_iconst (v := 0) (q := 83) C dX3_readTd_82 (by decide) rfl ?_
              have e : rX3_readTd q y z = (0, (((q.set 9 (z >>> (4 &&& 31))).set 10 (y + 1)).set 6 1)) := ((if_pos c_13).trans ((if_neg c_29).trans ((if_neg c_43).trans ((if_pos c_56).trans ((if_pos c_63).trans (if_neg c_74))))))
              exact E.1 _ _ _ _ _ _ _ dX3_readTd_83 rfl rfl (Nat.le_of_ble_eq_true rfl) (Nat.le_of_ble_eq_true rfl) ⟨by rw [e], by rw [e]; exact ⟨HQ5, (rqF.trans (rqF.trans fq1 fq4) fq5)⟩⟩
      ·
        refine g_aload_n (q := 47) C dX3_readTd_46 rfl rfl ?_
        refine g_iload_n (q := 48) C dX3_readTd_47 rfl rfl ?_
        refine g_putfield (q := 51) C fX3_45 dX3_readTd_48 rfl HQ1.1 (Nat.le_of_ble_eq_true rfl) (Or.inl rfl) rfl rfl (by intro z h; cases h) ?_
        refine rqput (j := 3) (x := (z &&& 15)) HQ1 rfl fun h6 HQ6 fq6 => ?_
        refine g_goto (q := 73) C dX3_readTd_51 (by decide) ?_
        refine g_iload_n (q := 74) C dX3_readTd_73 rfl rfl ?_
        refine g_if_eq (t := 82) (q := 77) C dX3_readTd_74 (by decide) rfl (fun c_74 => ?_) (fun c_74 => ?_)
        ·
          refine g_iconst (v := 0) (q := 83) C dX3_readTd_82 (by decide) rfl ?_
          have e : rX3_readTd q y z = (0, ((q.set 9 (z >>> (4 &&& 31))).set 3 (z &&& 15))) := ((if_pos c_13).trans ((if_neg c_29).trans ((if_pos c_43).trans (if_pos c_74))))
          exact E.1 _ _ _ _ _ _ _ dX3_readTd_83 rfl rfl (Nat.le_of_ble_eq_true rfl) (Nat.le_of_ble_eq_true rfl) ⟨by rw [e], by rw [e]; exact ⟨HQ6, (rqF.trans fq1 fq6)⟩⟩
        ·
          refine g_aload_n (q := 78) C dX3_readTd_77 rfl rfl ?_
          refine g_iconst (v := 1) (q := 79) C dX3_readTd_78 (by decide) rfl ?_
          refine g_putfield (q := 82) C fX3_54 dX3_readTd_79 rfl HQ6.1 (Nat.le_of_ble_eq_true rfl) (Or.inl rfl) rfl rfl (by intro z h; cases h) ?_
          refine rqput (j := 6) (x := 1) HQ6 rfl fun h7 HQ7 fq7 => ?_
          refine g_iconst (v := 0) (q := 83) C dX3_readTd_82 (by decide) rfl ?_
          have e : rX3_readTd q y z = (0, (((q.set 9 (z >>> (4 &&& 31))).set 3 (z &&& 15)).set 6 1)) := ((if_pos c_13).trans ((if_neg c_29).trans ((if_pos c_43).trans (if_neg c_74))))
          exact E.1 _ _ _ _ _ _ _ dX3_readTd_83 rfl rfl (Nat.le_of_ble_eq_true rfl) (Nat.le_of_ble_eq_true rfl) ⟨by rw [e], by rw [e]; exact ⟨HQ7, (rqF.trans (rqF.trans fq1 fq6) fq7)⟩⟩
    ·
      refine g_aload_n (q := 33) C dX3_readTd_32 rfl rfl ?_
      refine g_getfield (v := .int ((z >>> (4 &&& 31)))) (q := 36) C fX3_76 dX3_readTd_33 rfl HQ1.1 rfl ?_
      refine g_if_eq (t := 41) (q := 39) C dX3_readTd_36 (by decide) rfl (fun c_36 => ?_) (fun c_36 => ?_)
      ·
        refine g_iload_n (q := 42) C dX3_readTd_41 rfl rfl ?_
        refine g_iconst (v := 1) (q := 43) C dX3_readTd_42 (by decide) rfl ?_
        refine g_icmp_ne (t := 54) (q := 46) C dX3_readTd_43 (by decide) rfl (fun c_43 => ?_) (fun c_43 => ?_)
        ·
          refine g_iload_n (q := 55) C dX3_readTd_54 rfl rfl ?_
          refine g_iconst (v := 1) (q := 56) C dX3_readTd_55 (by decide) rfl ?_
          refine g_icmp_ne (t := 73) (q := 59) C dX3_readTd_56 (by decide) rfl (fun c_56 => ?_) (fun c_56 => ?_)
          ·
            refine g_iload_n (q := 74) C dX3_readTd_73 rfl rfl ?_
            refine g_if_eq (t := 82) (q := 77) C dX3_readTd_74 (by decide) rfl (fun c_74 => ?_) (fun c_74 => ?_)
            ·
              refine g_iconst (v := 0) (q := 83) C dX3_readTd_82 (by decide) rfl ?_
              have e : rX3_readTd q y z = (0, (q.set 9 (z >>> (4 &&& 31)))) := ((if_pos c_13).trans ((if_pos c_29).trans ((if_pos c_36).trans ((if_neg c_43).trans ((if_neg c_56).trans (if_pos c_74))))))
              exact E.1 _ _ _ _ _ _ _ dX3_readTd_83 rfl rfl (Nat.le_of_ble_eq_true rfl) (Nat.le_of_ble_eq_true rfl) ⟨by rw [e], by rw [e]; exact ⟨HQ1, fq1⟩⟩
            ·
              refine g_aload_n (q := 78) C dX3_readTd_77 rfl rfl ?_
              refine g_iconst (v := 1) (q := 79) C dX3_readTd_78 (by decide) rfl ?_
              refine g_putfield (q := 82) C fX3_54 dX3_readTd_79 rfl HQ1.1 (Nat.le_of_ble_eq_true rfl) (Or.inl rfl) rfl rfl (by intro z h; cases h) ?_
              refine rqput (j := 6) (x := 1) HQ1 rfl fun h8 HQ8 fq8 => ?_
              refine g_iconst (v := 0) (q := 83) C dX3_readTd_82 (by decide) rfl ?_
              have e : rX3_readTd q y z = (0, ((q.set 9 (z >>> (4 &&& 31))).set 6 1)) := ((if_pos c_13).trans ((if_pos c_29).trans ((if_pos c_36).trans ((if_neg c_43).trans ((if_neg c_56).trans (if_neg c_74))))))
              exact E.1 _ _ _ _ _ _ _ dX3_readTd_83 rfl rfl (Nat.le_of_ble_eq_true rfl) (Nat.le_of_ble_eq_true rfl) ⟨by rw [e], by rw [e]; exact ⟨HQ8, (rqF.trans fq1 fq8)⟩⟩
          ·
            refine g_aload_n (q := 60) C dX3_readTd_59 rfl rfl ?_
            refine g_getfield (v := .int ((q.f 10))) (q := 63) C fX3_62 dX3_readTd_60 rfl HQ1.1 rfl ?_
            refine g_if_ne (t := 73) (q := 66) C dX3_readTd_63 (by decide) rfl (fun c_63 => ?_) (fun c_63 => ?_)
            ·
              refine g_iload_n (q := 74) C dX3_readTd_73 rfl rfl ?_
              refine g_if_eq (t := 82) (q := 77) C dX3_readTd_74 (by decide) rfl (fun c_74 => ?_) (fun c_74 => ?_)
              ·
                refine g_iconst (v := 0) (q := 83) C dX3_readTd_82 (by decide) rfl ?_
                have e : rX3_readTd q y z = (0, (q.set 9 (z >>> (4 &&& 31)))) := ((if_pos c_13).trans ((if_pos c_29).trans ((if_pos c_36).trans ((if_neg c_43).trans ((if_pos c_56).trans ((if_neg c_63).trans (if_pos c_74)))))))
                exact E.1 _ _ _ _ _ _ _ dX3_readTd_83 rfl rfl (Nat.le_of_ble_eq_true rfl) (Nat.le_of_ble_eq_true rfl) ⟨by rw [e], by rw [e]; exact ⟨HQ1, fq1⟩⟩
              ·
                refine g_aload_n (q := 78) C dX3_readTd_77 rfl rfl ?_
                refine g_iconst (v := 1) (q := 79) C dX3_readTd_78 (by decide) rfl ?_
                refine g_putfield (q := 82) C fX3_54 dX3_readTd_79 rfl HQ1.1 (Nat.le_of_ble_eq_true rfl) (Or.inl rfl) rfl rfl (by intro z h; cases h) ?_
                refine rqput (j := 6) (x := 1) HQ1 rfl fun h9 HQ9 fq9 => ?_
                refine g_iconst (v := 0) (q := 83) C dX3_readTd_82 (by decide) rfl ?_
                have e : rX3_readTd q y z = (0, ((q.set 9 (z >>> (4 &&& 31))).set 6 1)) := ((if_pos c_13).trans ((if_pos c_29).trans ((if_pos c_36).trans ((if_neg c_43).trans ((if_pos c_56).trans ((if_neg c_63).trans (if_neg c_74)))))))
                exact E.1 _ _ _ _ _ _ _ dX3_readTd_83 rfl rfl (Nat.le_of_ble_eq_true rfl) (Nat.le_of_ble_eq_true rfl) ⟨by rw [e], by rw [e]; exact ⟨HQ9, (rqF.trans fq1 fq9)⟩⟩
            ·
              refine g_aload_n (q := 67) C dX3_readTd_66 rfl rfl ?_
              refine g_iload_n (q := 68) C dX3_readTd_67 rfl rfl ?_
              refine g_iconst (v := 1) (q := 69) C dX3_readTd_68 (by decide) rfl ?_
              refine g_iadd (q := 70) C dX3_readTd_69 rfl ?_
              refine g_putfield (q := 73) C fX3_62 dX3_readTd_70 rfl HQ1.1 (Nat.le_of_ble_eq_true rfl) (Or.inl rfl) rfl rfl (by intro z h; cases h) ?_
              refine rqput (j := 10) (x := (y + 1)) HQ1 rfl fun h10 HQ10 fq10 => ?_
              refine g_iload_n (q := 74) C dX3_readTd_73 rfl rfl ?_
              refine g_if_eq (t := 82) (q := 77) C dX3_readTd_74 (by decide) rfl (fun c_74 => ?_) (fun c_74 => ?_)
              ·
                refine g_iconst (v := 0) (q := 83) C dX3_readTd_82 (by decide) rfl ?_
                have e : rX3_readTd q y z = (0, ((q.set 9 (z >>> (4 &&& 31))).set 10 (y + 1))) := ((if_pos c_13).trans ((if_pos c_29).trans ((if_pos c_36).trans ((if_neg c_43).trans ((if_pos c_56).trans ((if_pos c_63).trans (if_pos c_74)))))))
                exact E.1 _ _ _ _ _ _ _ dX3_readTd_83 rfl rfl (Nat.le_of_ble_eq_true rfl) (Nat.le_of_ble_eq_true rfl) ⟨by rw [e], by rw [e]; exact ⟨HQ10, (rqF.trans fq1 fq10)⟩⟩
              ·
                refine g_aload_n (q := 78) C dX3_readTd_77 rfl rfl ?_
                refine g_iconst (v := 1) (q := 79) C dX3_readTd_78 (by decide) rfl ?_
                refine g_putfield (q := 82) C fX3_54 dX3_readTd_79 rfl HQ10.1 (Nat.le_of_ble_eq_true rfl) (Or.inl rfl) rfl rfl (by intro z h; cases h) ?_
                refine rqput (j := 6) (x := 1) HQ10 rfl fun h11 HQ11 fq11 => ?_
                refine g_iconst (v := 0) (q := 83) C dX3_readTd_82 (by decide) rfl ?_
                have e : rX3_readTd q y z = (0, (((q.set 9 (z >>> (4 &&& 31))).set 10 (y + 1)).set 6 1)) := ((if_pos c_13).trans ((if_pos c_29).trans ((if_pos c_36).trans ((if_neg c_43).trans ((if_pos c_56).trans ((if_pos c_63).trans (if_neg c_74)))))))
                exact E.1 _ _ _ _ _ _ _ dX3_readTd_83 rfl rfl (Nat.le_of_ble_eq_true rfl) (Nat.le_of_ble_eq_true rfl) ⟨by rw [e], by rw [e]; exact ⟨HQ11, (rqF.trans (rqF.trans fq1 fq10) fq11)⟩⟩
        ·
          refine g_aload_n (q := 47) C dX3_readTd_46 rfl rfl ?_
          refine g_iload_n (q := 48) C dX3_readTd_47 rfl rfl ?_
          refine g_putfield (q := 51) C fX3_45 dX3_readTd_48 rfl HQ1.1 (Nat.le_of_ble_eq_true rfl) (Or.inl rfl) rfl rfl (by intro z h; cases h) ?_
          refine rqput (j := 3) (x := (z &&& 15)) HQ1 rfl fun h12 HQ12 fq12 => ?_
          refine g_goto (q := 73) C dX3_readTd_51 (by decide) ?_
          refine g_iload_n (q := 74) C dX3_readTd_73 rfl rfl ?_
          refine g_if_eq (t := 82) (q := 77) C dX3_readTd_74 (by decide) rfl (fun c_74 => ?_) (fun c_74 => ?_)
          ·
            refine g_iconst (v := 0) (q := 83) C dX3_readTd_82 (by decide) rfl ?_
            have e : rX3_readTd q y z = (0, ((q.set 9 (z >>> (4 &&& 31))).set 3 (z &&& 15))) := ((if_pos c_13).trans ((if_pos c_29).trans ((if_pos c_36).trans ((if_pos c_43).trans (if_pos c_74)))))
            exact E.1 _ _ _ _ _ _ _ dX3_readTd_83 rfl rfl (Nat.le_of_ble_eq_true rfl) (Nat.le_of_ble_eq_true rfl) ⟨by rw [e], by rw [e]; exact ⟨HQ12, (rqF.trans fq1 fq12)⟩⟩
          ·
            refine g_aload_n (q := 78) C dX3_readTd_77 rfl rfl ?_
            refine g_iconst (v := 1) (q := 79) C dX3_readTd_78 (by decide) rfl ?_
            refine g_putfield (q := 82) C fX3_54 dX3_readTd_79 rfl HQ12.1 (Nat.le_of_ble_eq_true rfl) (Or.inl rfl) rfl rfl (by intro z h; cases h) ?_
            refine rqput (j := 6) (x := 1) HQ12 rfl fun h13 HQ13 fq13 => ?_
            refine g_iconst (v := 0) (q := 83) C dX3_readTd_82 (by decide) rfl ?_
            have e : rX3_readTd q y z = (0, (((q.set 9 (z >>> (4 &&& 31))).set 3 (z &&& 15)).set 6 1)) := ((if_pos c_13).trans ((if_pos c_29).trans ((if_pos c_36).trans ((if_pos c_43).trans (if_neg c_74)))))
            exact E.1 _ _ _ _ _ _ _ dX3_readTd_83 rfl rfl (Nat.le_of_ble_eq_true rfl) (Nat.le_of_ble_eq_true rfl) ⟨by rw [e], by rw [e]; exact ⟨HQ13, (rqF.trans (rqF.trans fq1 fq12) fq13)⟩⟩
      ·
        refine g_iconst (v := 3) (q := 40) C dX3_readTd_39 (by decide) rfl ?_
        have e : rX3_readTd q y z = (3, (q.set 9 (z >>> (4 &&& 31)))) := ((if_pos c_13).trans ((if_pos c_29).trans (if_neg c_36)))
        exact E.1 _ _ _ _ _ _ _ dX3_readTd_40 rfl rfl (Nat.le_of_ble_eq_true rfl) (Nat.le_of_ble_eq_true rfl) ⟨by rw [e], by rw [e]; exact ⟨HQ1, fq1⟩⟩
  ·
    refine g_iload_n (q := 17) C dX3_readTd_16 rfl rfl ?_
    refine g_iconst (v := 1) (q := 18) C dX3_readTd_17 (by decide) rfl ?_
    refine g_icmp_eq (t := 27) (q := 21) C dX3_readTd_18 (by decide) rfl (fun c_18 => ?_) (fun c_18 => ?_)
    ·
      refine g_iload_n (q := 28) C dX3_readTd_27 rfl rfl ?_
      refine g_iconst (v := 4) (q := 29) C dX3_readTd_28 (by decide) rfl ?_
      refine g_icmp_ne (t := 41) (q := 32) C dX3_readTd_29 (by decide) rfl (fun c_29 => ?_) (fun c_29 => ?_)
      ·
        refine g_iload_n (q := 42) C dX3_readTd_41 rfl rfl ?_
        refine g_iconst (v := 1) (q := 43) C dX3_readTd_42 (by decide) rfl ?_
        refine g_icmp_ne (t := 54) (q := 46) C dX3_readTd_43 (by decide) rfl (fun c_43 => ?_) (fun c_43 => ?_)
        ·
          refine g_iload_n (q := 55) C dX3_readTd_54 rfl rfl ?_
          refine g_iconst (v := 1) (q := 56) C dX3_readTd_55 (by decide) rfl ?_
          refine g_icmp_ne (t := 73) (q := 59) C dX3_readTd_56 (by decide) rfl (fun c_56 => ?_) (fun c_56 => ?_)
          ·
            refine g_iload_n (q := 74) C dX3_readTd_73 rfl rfl ?_
            refine g_if_eq (t := 82) (q := 77) C dX3_readTd_74 (by decide) rfl (fun c_74 => ?_) (fun c_74 => ?_)
            ·
              refine g_iconst (v := 0) (q := 83) C dX3_readTd_82 (by decide) rfl ?_
              have e : rX3_readTd q y z = (0, (q.set 9 (z >>> (4 &&& 31)))) := ((if_neg c_13).trans ((if_pos c_18).trans ((if_neg c_29).trans ((if_neg c_43).trans ((if_neg c_56).trans (if_pos c_74))))))
              exact E.1 _ _ _ _ _ _ _ dX3_readTd_83 rfl rfl (Nat.le_of_ble_eq_true rfl) (Nat.le_of_ble_eq_true rfl) ⟨by rw [e], by rw [e]; exact ⟨HQ1, fq1⟩⟩
            ·
              refine g_aload_n (q := 78) C dX3_readTd_77 rfl rfl ?_
              refine g_iconst (v := 1) (q := 79) C dX3_readTd_78 (by decide) rfl ?_
              refine g_putfield (q := 82) C fX3_54 dX3_readTd_79 rfl HQ1.1 (Nat.le_of_ble_eq_true rfl) (Or.inl rfl) rfl rfl (by intro z h; cases h) ?_
              refine rqput (j := 6) (x := 1) HQ1 rfl fun h14 HQ14 fq14 => ?_
              refine g_iconst (v := 0) (q := 83) C dX3_readTd_82 (by decide) rfl ?_
              have e : rX3_readTd q y z = (0, ((q.set 9 (z >>> (4 &&& 31))).set 6 1)) := ((if_neg c_13).trans ((if_pos c_18).trans ((if_neg c_29).trans ((if_neg c_43).trans ((if_neg c_56).trans (if_neg c_74))))))
              exact E.1 _ _ _ _ _ _ _ dX3_readTd_83 rfl rfl (Nat.le_of_ble_eq_true rfl) (Nat.le_of_ble_eq_true rfl) ⟨by rw [e], by rw [e]; exact ⟨HQ14, (rqF.trans fq1 fq14)⟩⟩
          ·
            refine g_aload_n (q := 60) C dX3_readTd_59 rfl rfl ?_
            refine g_getfield (v := .int ((q.f 10))) (q := 63) C fX3_62 dX3_readTd_60 rfl HQ1.1 rfl ?_
            refine g_if_ne (t := 73) (q := 66) C dX3_readTd_63 (by decide) rfl (fun c_63 => ?_) (fun c_63 => ?_)
            ·
              refine g_iload_n (q := 74) C dX3_readTd_73 rfl rfl ?_
              refine g_if_eq (t := 82) (q := 77) C dX3_readTd_74 (by decide) rfl (fun c_74 => ?_) (fun c_74 => ?_)
              ·
                refine g_iconst (v := 0) (q := 83) C dX3_readTd_82 (by decide) rfl ?_
                have e : rX3_readTd q y z = (0, (q.set 9 (z >>> (4 &&& 31)))) := ((if_neg c_13).trans ((if_pos c_18).trans ((if_neg c_29).trans ((if_neg c_43).trans ((if_pos c_56).trans ((if_neg c_63).trans (if_pos c_74)))))))
                exact E.1 _ _ _ _ _ _ _ dX3_readTd_83 rfl rfl (Nat.le_of_ble_eq_true rfl) (Nat.le_of_ble_eq_true rfl) ⟨by rw [e], by rw [e]; exact ⟨HQ1, fq1⟩⟩
              ·
                refine g_aload_n (q := 78) C dX3_readTd_77 rfl rfl ?_
                refine g_iconst (v := 1) (q := 79) C dX3_readTd_78 (by decide) rfl ?_
                refine g_putfield (q := 82) C fX3_54 dX3_readTd_79 rfl HQ1.1 (Nat.le_of_ble_eq_true rfl) (Or.inl rfl) rfl rfl (by intro z h; cases h) ?_
                refine rqput (j := 6) (x := 1) HQ1 rfl fun h15 HQ15 fq15 => ?_
                refine g_iconst (v := 0) (q := 83) C dX3_readTd_82 (by decide) rfl ?_
                have e : rX3_readTd q y z = (0, ((q.set 9 (z >>> (4 &&& 31))).set 6 1)) := ((if_neg c_13).trans ((if_pos c_18).trans ((if_neg c_29).trans ((if_neg c_43).trans ((if_pos c_56).trans ((if_neg c_63).trans (if_neg c_74)))))))
                exact E.1 _ _ _ _ _ _ _ dX3_readTd_83 rfl rfl (Nat.le_of_ble_eq_true rfl) (Nat.le_of_ble_eq_true rfl) ⟨by rw [e], by rw [e]; exact ⟨HQ15, (rqF.trans fq1 fq15)⟩⟩
            ·
              refine g_aload_n (q := 67) C dX3_readTd_66 rfl rfl ?_
              refine g_iload_n (q := 68) C dX3_readTd_67 rfl rfl ?_
              refine g_iconst (v := 1) (q := 69) C dX3_readTd_68 (by decide) rfl ?_
              refine g_iadd (q := 70) C dX3_readTd_69 rfl ?_
              refine g_putfield (q := 73) C fX3_62 dX3_readTd_70 rfl HQ1.1 (Nat.le_of_ble_eq_true rfl) (Or.inl rfl) rfl rfl (by intro z h; cases h) ?_
              refine rqput (j := 10) (x := (y + 1)) HQ1 rfl fun h16 HQ16 fq16 => ?_
              refine g_iload_n (q := 74) C dX3_readTd_73 rfl rfl ?_
              refine g_if_eq (t := 82) (q := 77) C dX3_readTd_74 (by decide) rfl (fun c_74 => ?_) (fun c_74 => ?_)
              ·
                refine g_iconst (v := 0) (q := 83) C dX3_readTd_82 (by decide) rfl ?_
                have e : rX3_readTd q y z = (0, ((q.set 9 (z >>> (4 &&& 31))).set 10 (y + 1))) := ((if_neg c_13).trans ((if_pos c_18).trans ((if_neg c_29).trans ((if_neg c_43).trans ((if_pos c_56).trans ((if_pos c_63).trans (if_pos c_74)))))))
                exact E.1 _ _ _ _ _ _ _ dX3_readTd_83 rfl rfl (Nat.le_of_ble_eq_true rfl) (Nat.le_of_ble_eq_true rfl) ⟨by rw [e], by rw [e]; exact ⟨HQ16, (rqF.trans fq1 fq16)⟩⟩
              ·
                refine g_aload_n (q := 78) C dX3_readTd_77 rfl rfl ?_
                refine g_iconst (v := 1) (q := 79) C dX3_readTd_78 (by decide) rfl ?_
                refine g_putfield (q := 82) C fX3_54 dX3_readTd_79 rfl HQ16.1 (Nat.le_of_ble_eq_true rfl) (Or.inl rfl) rfl rfl (by intro z h; cases h) ?_
                refine rqput (j := 6) (x := 1) HQ16 rfl fun h17 HQ17 fq17 => ?_
                refine g_iconst (v := 0) (q := 83) C dX3_readTd_82 (by decide) rfl ?_
                have e : rX3_readTd q y z = (0, (((q.set 9 (z >>> (4 &&& 31))).set 10 (y + 1)).set 6 1)) := ((if_neg c_13).trans ((if_pos c_18).trans ((if_neg c_29).trans ((if_neg c_43).trans ((if_pos c_56).trans ((if_pos c_63).trans (if_neg c_74)))))))
                exact E.1 _ _ _ _ _ _ _ dX3_readTd_83 rfl rfl (Nat.le_of_ble_eq_true rfl) (Nat.le_of_ble_eq_true rfl) ⟨by rw [e], by rw [e]; exact ⟨HQ17, (rqF.trans (rqF.trans fq1 fq16) fq17)⟩⟩
        ·
          refine g_aload_n (q := 47) C dX3_readTd_46 rfl rfl ?_
          refine g_iload_n (q := 48) C dX3_readTd_47 rfl rfl ?_
          refine g_putfield (q := 51) C fX3_45 dX3_readTd_48 rfl HQ1.1 (Nat.le_of_ble_eq_true rfl) (Or.inl rfl) rfl rfl (by intro z h; cases h) ?_
          refine rqput (j := 3) (x := (z &&& 15)) HQ1 rfl fun h18 HQ18 fq18 => ?_
          refine g_goto (q := 73) C dX3_readTd_51 (by decide) ?_
          refine g_iload_n (q := 74) C dX3_readTd_73 rfl rfl ?_
          refine g_if_eq (t := 82) (q := 77) C dX3_readTd_74 (by decide) rfl (fun c_74 => ?_) (fun c_74 => ?_)
          ·
            refine g_iconst (v := 0) (q := 83) C dX3_readTd_82 (by decide) rfl ?_
            have e : rX3_readTd q y z = (0, ((q.set 9 (z >>> (4 &&& 31))).set 3 (z &&& 15))) := ((if_neg c_13).trans ((if_pos c_18).trans ((if_neg c_29).trans ((if_pos c_43).trans (if_pos c_74)))))
            exact E.1 _ _ _ _ _ _ _ dX3_readTd_83 rfl rfl (Nat.le_of_ble_eq_true rfl) (Nat.le_of_ble_eq_true rfl) ⟨by rw [e], by rw [e]; exact ⟨HQ18, (rqF.trans fq1 fq18)⟩⟩
          ·
            refine g_aload_n (q := 78) C dX3_readTd_77 rfl rfl ?_
            refine g_iconst (v := 1) (q := 79) C dX3_readTd_78 (by decide) rfl ?_
            refine g_putfield (q := 82) C fX3_54 dX3_readTd_79 rfl HQ18.1 (Nat.le_of_ble_eq_true rfl) (Or.inl rfl) rfl rfl (by intro z h; cases h) ?_
            refine rqput (j := 6) (x := 1) HQ18 rfl fun h19 HQ19 fq19 => ?_
            refine g_iconst (v := 0) (q := 83) C dX3_readTd_82 (by decide) rfl ?_
            have e : rX3_readTd q y z = (0, (((q.set 9 (z >>> (4 &&& 31))).set 3 (z &&& 15)).set 6 1)) := ((if_neg c_13).trans ((if_pos c_18).trans ((if_neg c_29).trans ((if_pos c_43).trans (if_neg c_74)))))
            exact E.1 _ _ _ _ _ _ _ dX3_readTd_83 rfl rfl (Nat.le_of_ble_eq_true rfl) (Nat.le_of_ble_eq_true rfl) ⟨by rw [e], by rw [e]; exact ⟨HQ19, (rqF.trans (rqF.trans fq1 fq18) fq19)⟩⟩
      ·
        refine g_aload_n (q := 33) C dX3_readTd_32 rfl rfl ?_
        refine g_getfield (v := .int ((z >>> (4 &&& 31)))) (q := 36) C fX3_76 dX3_readTd_33 rfl HQ1.1 rfl ?_
        refine g_if_eq (t := 41) (q := 39) C dX3_readTd_36 (by decide) rfl (fun c_36 => ?_) (fun c_36 => ?_)
        ·
          refine g_iload_n (q := 42) C dX3_readTd_41 rfl rfl ?_
          refine g_iconst (v := 1) (q := 43) C dX3_readTd_42 (by decide) rfl ?_
          refine g_icmp_ne (t := 54) (q := 46) C dX3_readTd_43 (by decide) rfl (fun c_43 => ?_) (fun c_43 => ?_)
          ·
            refine g_iload_n (q := 55) C dX3_readTd_54 rfl rfl ?_
            refine g_iconst (v := 1) (q := 56) C dX3_readTd_55 (by decide) rfl ?_
            refine g_icmp_ne (t := 73) (q := 59) C dX3_readTd_56 (by decide) rfl (fun c_56 => ?_) (fun c_56 => ?_)
            ·
              refine g_iload_n (q := 74) C dX3_readTd_73 rfl rfl ?_
              refine g_if_eq (t := 82) (q := 77) C dX3_readTd_74 (by decide) rfl (fun c_74 => ?_) (fun c_74 => ?_)
              ·
                refine g_iconst (v := 0) (q := 83) C dX3_readTd_82 (by decide) rfl ?_
                have e : rX3_readTd q y z = (0, (q.set 9 (z >>> (4 &&& 31)))) := ((if_neg c_13).trans ((if_pos c_18).trans ((if_pos c_29).trans ((if_pos c_36).trans ((if_neg c_43).trans ((if_neg c_56).trans (if_pos c_74)))))))
                exact E.1 _ _ _ _ _ _ _ dX3_readTd_83 rfl rfl (Nat.le_of_ble_eq_true rfl) (Nat.le_of_ble_eq_true rfl) ⟨by rw [e], by rw [e]; exact ⟨HQ1, fq1⟩⟩
              ·
                refine g_aload_n (q := 78) C dX3_readTd_77 rfl rfl ?_
                refine g_iconst (v := 1) (q := 79) C dX3_readTd_78 (by decide) rfl ?_
                refine g_putfield (q := 82) C fX3_54 dX3_readTd_79 rfl HQ1.1 (Nat.le_of_ble_eq_true rfl) (Or.inl rfl) rfl rfl (by intro z h; cases h) ?_
                refine rqput (j := 6) (x := 1) HQ1 rfl fun h20 HQ20 fq20 => ?_
                refine g_iconst (v := 0) (q := 83) C dX3_readTd_82 (by decide) rfl ?_
                have e : rX3_readTd q y z = (0, ((q.set 9 (z >>> (4 &&& 31))).set 6 1)) := ((if_neg c_13).trans ((if_pos c_18).trans ((if_pos c_29).trans ((if_pos c_36).trans ((if_neg c_43).trans ((if_neg c_56).trans (if_neg c_74)))))))
                exact E.1 _ _ _ _ _ _ _ dX3_readTd_83 rfl rfl (Nat.le_of_ble_eq_true rfl) (Nat.le_of_ble_eq_true rfl) ⟨by rw [e], by rw [e]; exact ⟨HQ20, (rqF.trans fq1 fq20)⟩⟩
            ·
              refine g_aload_n (q := 60) C dX3_readTd_59 rfl rfl ?_
              refine g_getfield (v := .int ((q.f 10))) (q := 63) C fX3_62 dX3_readTd_60 rfl HQ1.1 rfl ?_
              refine g_if_ne (t := 73) (q := 66) C dX3_readTd_63 (by decide) rfl (fun c_63 => ?_) (fun c_63 => ?_)
              ·
                refine g_iload_n (q := 74) C dX3_readTd_73 rfl rfl ?_
                refine g_if_eq (t := 82) (q := 77) C dX3_readTd_74 (by decide) rfl (fun c_74 => ?_) (fun c_74 => ?_)
                ·
                  refine g_iconst (v := 0) (q := 83) C dX3_readTd_82 (by decide) rfl ?_
                  have e : rX3_readTd q y z = (0, (q.set 9 (z >>> (4 &&& 31)))) := ((if_neg c_13).trans ((if_pos c_18).trans ((if_pos c_29).trans ((if_pos c_36).trans ((if_neg c_43).trans ((if_pos c_56).trans ((if_neg c_63).trans (if_pos c_74))))))))
                  exact E.1 _ _ _ _ _ _ _ dX3_readTd_83 rfl rfl (Nat.le_of_ble_eq_true rfl) (Nat.le_of_ble_eq_true rfl) ⟨by rw [e], by rw [e]; exact ⟨HQ1, fq1⟩⟩
                ·
                  refine g_aload_n (q := 78) C dX3_readTd_77 rfl rfl ?_
                  refine g_iconst (v := 1) (q := 79) C dX3_readTd_78 (by decide) rfl ?_
                  refine g_putfield (q := 82) C fX3_54 dX3_readTd_79 rfl HQ1.1 (Nat.le_of_ble_eq_true rfl) (Or.inl rfl) rfl rfl (by intro z h; cases h) ?_
                  refine rqput (j := 6) (x := 1) HQ1 rfl fun h21 HQ21 fq21 => ?_
                  refine g_iconst (v := 0) (q := 83) C dX3_readTd_82 (by decide) rfl ?_
                  have e : rX3_readTd q y z = (0, ((q.set 9 (z >>> (4 &&& 31))).set 6 1)) := ((if_neg c_13).trans ((if_pos c_18).trans ((if_pos c_29).trans ((if_pos c_36).trans ((if_neg c_43).trans ((if_pos c_56).trans ((if_neg c_63).trans (if_neg c_74))))))))
                  exact E.1 _ _ _ _ _ _ _ dX3_readTd_83 rfl rfl (Nat.le_of_ble_eq_true rfl) (Nat.le_of_ble_eq_true rfl) ⟨by rw [e], by rw [e]; exact ⟨HQ21, (rqF.trans fq1 fq21)⟩⟩
              ·
                refine g_aload_n (q := 67) C dX3_readTd_66 rfl rfl ?_
                refine g_iload_n (q := 68) C dX3_readTd_67 rfl rfl ?_
                refine g_iconst (v := 1) (q := 69) C dX3_readTd_68 (by decide) rfl ?_
                refine g_iadd (q := 70) C dX3_readTd_69 rfl ?_
                refine g_putfield (q := 73) C fX3_62 dX3_readTd_70 rfl HQ1.1 (Nat.le_of_ble_eq_true rfl) (Or.inl rfl) rfl rfl (by intro z h; cases h) ?_
                refine rqput (j := 10) (x := (y + 1)) HQ1 rfl fun h22 HQ22 fq22 => ?_
                refine g_iload_n (q := 74) C dX3_readTd_73 rfl rfl ?_
                refine g_if_eq (t := 82) (q := 77) C dX3_readTd_74 (by decide) rfl (fun c_74 => ?_) (fun c_74 => ?_)
                ·
                  refine g_iconst (v := 0) (q := 83) C dX3_readTd_82 (by decide) rfl ?_
                  have e : rX3_readTd q y z = (0, ((q.set 9 (z >>> (4 &&& 31))).set 10 (y + 1))) := ((if_neg c_13).trans ((if_pos c_18).trans ((if_pos c_29).trans ((if_pos c_36).trans ((if_neg c_43).trans ((if_pos c_56).trans ((if_pos c_63).trans (if_pos c_74))))))))
                  exact E.1 _ _ _ _ _ _ _ dX3_readTd_83 rfl rfl (Nat.le_of_ble_eq_true rfl) (Nat.le_of_ble_eq_true rfl) ⟨by rw [e], by rw [e]; exact ⟨HQ22, (rqF.trans fq1 fq22)⟩⟩
                ·
                  refine g_aload_n (q := 78) C dX3_readTd_77 rfl rfl ?_
                  refine g_iconst (v := 1) (q := 79) C dX3_readTd_78 (by decide) rfl ?_
                  refine g_putfield (q := 82) C fX3_54 dX3_readTd_79 rfl HQ22.1 (Nat.le_of_ble_eq_true rfl) (Or.inl rfl) rfl rfl (by intro z h; cases h) ?_
                  refine rqput (j := 6) (x := 1) HQ22 rfl fun h23 HQ23 fq23 => ?_
                  refine g_iconst (v := 0) (q := 83) C dX3_readTd_82 (by decide) rfl ?_
                  have e : rX3_readTd q y z = (0, (((q.set 9 (z >>> (4 &&& 31))).set 10 (y + 1)).set 6 1)) := ((if_neg c_13).trans ((if_pos c_18).trans ((if_pos c_29).trans ((if_pos c_36).trans ((if_neg c_43).trans ((if_pos c_56).trans ((if_pos c_63).trans (if_neg c_74))))))))
                  exact E.1 _ _ _ _ _ _ _ dX3_readTd_83 rfl rfl (Nat.le_of_ble_eq_true rfl) (Nat.le_of_ble_eq_true rfl) ⟨by rw [e], by rw [e]; exact ⟨HQ23, (rqF.trans (rqF.trans fq1 fq22) fq23)⟩⟩
          ·
            refine g_aload_n (q := 47) C dX3_readTd_46 rfl rfl ?_
            refine g_iload_n (q := 48) C dX3_readTd_47 rfl rfl ?_
            refine g_putfield (q := 51) C fX3_45 dX3_readTd_48 rfl HQ1.1 (Nat.le_of_ble_eq_true rfl) (Or.inl rfl) rfl rfl (by intro z h; cases h) ?_
            refine rqput (j := 3) (x := (z &&& 15)) HQ1 rfl fun h24 HQ24 fq24 => ?_
            refine g_goto (q := 73) C dX3_readTd_51 (by decide) ?_
            refine g_iload_n (q := 74) C dX3_readTd_73 rfl rfl ?_
            refine g_if_eq (t := 82) (q := 77) C dX3_readTd_74 (by decide) rfl (fun c_74 => ?_) (fun c_74 => ?_)
            ·
              refine g_iconst (v := 0) (q := 83) C dX3_readTd_82 (by decide) rfl ?_
              have e : rX3_readTd q y z = (0, ((q.set 9 (z >>> (4 &&& 31))).set 3 (z &&& 15))) := ((if_neg c_13).trans ((if_pos c_18).trans ((if_pos c_29).trans ((if_pos c_36).trans ((if_pos c_43).trans (if_pos c_74))))))
              exact E.1 _ _ _ _ _ _ _ dX3_readTd_83 rfl rfl (Nat.le_of_ble_eq_true rfl) (Nat.le_of_ble_eq_true rfl) ⟨by rw [e], by rw [e]; exact ⟨HQ24, (rqF.trans fq1 fq24)⟩⟩
            ·
              refine g_aload_n (q := 78) C dX3_readTd_77 rfl rfl ?_
              refine g_iconst (v := 1) (q := 79) C dX3_readTd_78 (by decide) rfl ?_
              refine g_putfield (q := 82) C fX3_54 dX3_readTd_79 rfl HQ24.1 (Nat.le_of_ble_eq_true rfl) (Or.inl rfl) rfl rfl (by intro z h; cases h) ?_
              refine rqput (j := 6) (x := 1) HQ24 rfl fun h25 HQ25 fq25 => ?_
              refine g_iconst (v := 0) (q := 83) C dX3_readTd_82 (by decide) rfl ?_
              have e : rX3_readTd q y z = (0, (((q.set 9 (z >>> (4 &&& 31))).set 3 (z &&& 15)).set 6 1)) := ((if_neg c_13).trans ((if_pos c_18).trans ((if_pos c_29).trans ((if_pos c_36).trans ((if_pos c_43).trans (if_neg c_74))))))
              exact E.1 _ _ _ _ _ _ _ dX3_readTd_83 rfl rfl (Nat.le_of_ble_eq_true rfl) (Nat.le_of_ble_eq_true rfl) ⟨by rw [e], by rw [e]; exact ⟨HQ25, (rqF.trans (rqF.trans fq1 fq24) fq25)⟩⟩
        ·
          refine g_iconst (v := 3) (q := 40) C dX3_readTd_39 (by decide) rfl ?_
          have e : rX3_readTd q y z = (3, (q.set 9 (z >>> (4 &&& 31)))) := ((if_neg c_13).trans ((if_pos c_18).trans ((if_pos c_29).trans (if_neg c_36))))
          exact E.1 _ _ _ _ _ _ _ dX3_readTd_40 rfl rfl (Nat.le_of_ble_eq_true rfl) (Nat.le_of_ble_eq_true rfl) ⟨by rw [e], by rw [e]; exact ⟨HQ1, fq1⟩⟩
    ·
      refine g_iload_n (q := 22) C dX3_readTd_21 rfl rfl ?_
      refine g_bipush (v := 15) (q := 24) C dX3_readTd_22 (by decide) rfl ?_
      refine g_icmp_ne (t := 39) (q := 27) C dX3_readTd_24 (by decide) rfl (fun c_24 => ?_) (fun c_24 => ?_)
      ·
        refine g_iconst (v := 3) (q := 40) C dX3_readTd_39 (by decide) rfl ?_
        have e : rX3_readTd q y z = (3, (q.set 9 (z >>> (4 &&& 31)))) := ((if_neg c_13).trans ((if_neg c_18).trans (if_neg c_24)))
        exact E.1 _ _ _ _ _ _ _ dX3_readTd_40 rfl rfl (Nat.le_of_ble_eq_true rfl) (Nat.le_of_ble_eq_true rfl) ⟨by rw [e], by rw [e]; exact ⟨HQ1, fq1⟩⟩
      ·
        refine g_iload_n (q := 28) C dX3_readTd_27 rfl rfl ?_
        refine g_iconst (v := 4) (q := 29) C dX3_readTd_28 (by decide) rfl ?_
        refine g_icmp_ne (t := 41) (q := 32) C dX3_readTd_29 (by decide) rfl (fun c_29 => ?_) (fun c_29 => ?_)
        ·
          refine g_iload_n (q := 42) C dX3_readTd_41 rfl rfl ?_
          refine g_iconst (v := 1) (q := 43) C dX3_readTd_42 (by decide) rfl ?_
          refine g_icmp_ne (t := 54) (q := 46) C dX3_readTd_43 (by decide) rfl (fun c_43 => ?_) (fun c_43 => ?_)
          ·
            refine g_iload_n (q := 55) C dX3_readTd_54 rfl rfl ?_
            refine g_iconst (v := 1) (q := 56) C dX3_readTd_55 (by decide) rfl ?_
            refine g_icmp_ne (t := 73) (q := 59) C dX3_readTd_56 (by decide) rfl (fun c_56 => ?_) (fun c_56 => ?_)
            ·
              refine g_iload_n (q := 74) C dX3_readTd_73 rfl rfl ?_
              refine g_if_eq (t := 82) (q := 77) C dX3_readTd_74 (by decide) rfl (fun c_74 => ?_) (fun c_74 => ?_)
              ·
                refine g_iconst (v := 0) (q := 83) C dX3_readTd_82 (by decide) rfl ?_
                have e : rX3_readTd q y z = (0, (q.set 9 (z >>> (4 &&& 31)))) := ((if_neg c_13).trans ((if_neg c_18).trans ((if_pos c_24).trans ((if_neg c_29).trans ((if_neg c_43).trans ((if_neg c_56).trans (if_pos c_74)))))))
                exact E.1 _ _ _ _ _ _ _ dX3_readTd_83 rfl rfl (Nat.le_of_ble_eq_true rfl) (Nat.le_of_ble_eq_true rfl) ⟨by rw [e], by rw [e]; exact ⟨HQ1, fq1⟩⟩
              ·
                refine g_aload_n (q := 78) C dX3_readTd_77 rfl rfl ?_
                refine g_iconst (v := 1) (q := 79) C dX3_readTd_78 (by decide) rfl ?_
                refine g_putfield (q := 82) C fX3_54 dX3_readTd_79 rfl HQ1.1 (Nat.le_of_ble_eq_true rfl) (Or.inl rfl) rfl rfl (by intro z h; cases h) ?_
                refine rqput (j := 6) (x := 1) HQ1 rfl fun h26 HQ26 fq26 => ?_
                refine g_iconst (v := 0) (q := 83) C dX3_readTd_82 (by decide) rfl ?_
                have e : rX3_readTd q y z = (0, ((q.set 9 (z >>> (4 &&& 31))).set 6 1)) := ((if_neg c_13).trans ((if_neg c_18).trans ((if_pos c_24).trans ((if_neg c_29).trans ((if_neg c_43).trans ((if_neg c_56).trans (if_neg c_74)))))))
                exact E.1 _ _ _ _ _ _ _ dX3_readTd_83 rfl rfl (Nat.le_of_ble_eq_true rfl) (Nat.le_of_ble_eq_true rfl) ⟨by rw [e], by rw [e]; exact ⟨HQ26, (rqF.trans fq1 fq26)⟩⟩
            ·
              refine g_aload_n (q := 60) C dX3_readTd_59 rfl rfl ?_
              refine g_getfield (v := .int ((q.f 10))) (q := 63) C fX3_62 dX3_readTd_60 rfl HQ1.1 rfl ?_
              refine g_if_ne (t := 73) (q := 66) C dX3_readTd_63 (by decide) rfl (fun c_63 => ?_) (fun c_63 => ?_)
              ·
                refine g_iload_n (q := 74) C dX3_readTd_73 rfl rfl ?_
                refine g_if_eq (t := 82) (q := 77) C dX3_readTd_74 (by decide) rfl (fun c_74 => ?_) (fun c_74 => ?_)
                ·
                  refine g_iconst (v := 0) (q := 83) C dX3_readTd_82 (by decide) rfl ?_
                  have e : rX3_readTd q y z = (0, (q.set 9 (z >>> (4 &&& 31)))) := ((if_neg c_13).trans ((if_neg c_18).trans ((if_pos c_24).trans ((if_neg c_29).trans ((if_neg c_43).trans ((if_pos c_56).trans ((if_neg c_63).trans (if_pos c_74))))))))
                  exact E.1 _ _ _ _ _ _ _ dX3_readTd_83 rfl rfl (Nat.le_of_ble_eq_true rfl) (Nat.le_of_ble_eq_true rfl) ⟨by rw [e], by rw [e]; exact ⟨HQ1, fq1⟩⟩
                ·
                  refine g_aload_n (q := 78) C dX3_readTd_77 rfl rfl ?_
                  refine g_iconst (v := 1) (q := 79) C dX3_readTd_78 (by decide) rfl ?_
                  refine g_putfield (q := 82) C fX3_54 dX3_readTd_79 rfl HQ1.1 (Nat.le_of_ble_eq_true rfl) (Or.inl rfl) rfl rfl (by intro z h; cases h) ?_
                  refine rqput (j := 6) (x := 1) HQ1 rfl fun h27 HQ27 fq27 => ?_
                  refine g_iconst (v := 0) (q := 83) C dX3_readTd_82 (by decide) rfl ?_
                  have e : rX3_readTd q y z = (0, ((q.set 9 (z >>> (4 &&& 31))).set 6 1)) := ((if_neg c_13).trans ((if_neg c_18).trans ((if_pos c_24).trans ((if_neg c_29).trans ((if_neg c_43).trans ((if_pos c_56).trans ((if_neg c_63).trans (if_neg c_74))))))))
                  exact E.1 _ _ _ _ _ _ _ dX3_readTd_83 rfl rfl (Nat.le_of_ble_eq_true rfl) (Nat.le_of_ble_eq_true rfl) ⟨by rw [e], by rw [e]; exact ⟨HQ27, (rqF.trans fq1 fq27)⟩⟩
              ·
                refine g_aload_n (q := 67) C dX3_readTd_66 rfl rfl ?_
                refine g_iload_n (q := 68) C dX3_readTd_67 rfl rfl ?_
                refine g_iconst (v := 1) (q := 69) C dX3_readTd_68 (by decide) rfl ?_
                refine g_iadd (q := 70) C dX3_readTd_69 rfl ?_
                refine g_putfield (q := 73) C fX3_62 dX3_readTd_70 rfl HQ1.1 (Nat.le_of_ble_eq_true rfl) (Or.inl rfl) rfl rfl (by intro z h; cases h) ?_
                refine rqput (j := 10) (x := (y + 1)) HQ1 rfl fun h28 HQ28 fq28 => ?_
                refine g_iload_n (q := 74) C dX3_readTd_73 rfl rfl ?_
                refine g_if_eq (t := 82) (q := 77) C dX3_readTd_74 (by decide) rfl (fun c_74 => ?_) (fun c_74 => ?_)
                ·
                  refine g_iconst (v := 0) (q := 83) C dX3_readTd_82 (by decide) rfl ?_
                  have e : rX3_readTd q y z = (0, ((q.set 9 (z >>> (4 &&& 31))).set 10 (y + 1))) := ((if_neg c_13).trans ((if_neg c_18).trans ((if_pos c_24).trans ((if_neg c_29).trans ((if_neg c_43).trans ((if_pos c_56).trans ((if_pos c_63).trans (if_pos c_74))))))))
                  exact E.1 _ _ _ _ _ _ _ dX3_readTd_83 rfl rfl (Nat.le_of_ble_eq_true rfl) (Nat.le_of_ble_eq_true rfl) ⟨by rw [e], by rw [e]; exact ⟨HQ28, (rqF.trans fq1 fq28)⟩⟩
                ·
                  refine g_aload_n (q := 78) C dX3_readTd_77 rfl rfl ?_
                  refine g_iconst (v := 1) (q := 79) C dX3_readTd_78 (by decide) rfl ?_
                  refine g_putfield (q := 82) C fX3_54 dX3_readTd_79 rfl HQ28.1 (Nat.le_of_ble_eq_true rfl) (Or.inl rfl) rfl rfl (by intro z h; cases h) ?_
                  refine rqput (j := 6) (x := 1) HQ28 rfl fun h29 HQ29 fq29 => ?_
                  refine g_iconst (v := 0) (q := 83) C dX3_readTd_82 (by decide) rfl ?_
                  have e : rX3_readTd q y z = (0, (((q.set 9 (z >>> (4 &&& 31))).set 10 (y + 1)).set 6 1)) := ((if_neg c_13).trans ((if_neg c_18).trans ((if_pos c_24).trans ((if_neg c_29).trans ((if_neg c_43).trans ((if_pos c_56).trans ((if_pos c_63).trans (if_neg c_74))))))))
                  exact E.1 _ _ _ _ _ _ _ dX3_readTd_83 rfl rfl (Nat.le_of_ble_eq_true rfl) (Nat.le_of_ble_eq_true rfl) ⟨by rw [e], by rw [e]; exact ⟨HQ29, (rqF.trans (rqF.trans fq1 fq28) fq29)⟩⟩
          ·
            refine g_aload_n (q := 47) C dX3_readTd_46 rfl rfl ?_
            refine g_iload_n (q := 48) C dX3_readTd_47 rfl rfl ?_
            refine g_putfield (q := 51) C fX3_45 dX3_readTd_48 rfl HQ1.1 (Nat.le_of_ble_eq_true rfl) (Or.inl rfl) rfl rfl (by intro z h; cases h) ?_
            refine rqput (j := 3) (x := (z &&& 15)) HQ1 rfl fun h30 HQ30 fq30 => ?_
            refine g_goto (q := 73) C dX3_readTd_51 (by decide) ?_
            refine g_iload_n (q := 74) C dX3_readTd_73 rfl rfl ?_
            refine g_if_eq (t := 82) (q := 77) C dX3_readTd_74 (by decide) rfl (fun c_74 => ?_) (fun c_74 => ?_)
            ·
              refine g_iconst (v := 0) (q := 83) C dX3_readTd_82 (by decide) rfl ?_
              have e : rX3_readTd q y z = (0, ((q.set 9 (z >>> (4 &&& 31))).set 3 (z &&& 15))) := ((if_neg c_13).trans ((if_neg c_18).trans ((if_pos c_24).trans ((if_neg c_29).trans ((if_pos c_43).trans (if_pos c_74))))))
              exact E.1 _ _ _ _ _ _ _ dX3_readTd_83 rfl rfl (Nat.le_of_ble_eq_true rfl) (Nat.le_of_ble_eq_true rfl) ⟨by rw [e], by rw [e]; exact ⟨HQ30, (rqF.trans fq1 fq30)⟩⟩
            ·
              refine g_aload_n (q := 78) C dX3_readTd_77 rfl rfl ?_
              refine g_iconst (v := 1) (q := 79) C dX3_readTd_78 (by decide) rfl ?_
              refine g_putfield (q := 82) C fX3_54 dX3_readTd_79 rfl HQ30.1 (Nat.le_of_ble_eq_true rfl) (Or.inl rfl) rfl rfl (by intro z h; cases h) ?_
              refine rqput (j := 6) (x := 1) HQ30 rfl fun h31 HQ31 fq31 => ?_
              refine g_iconst (v := 0) (q := 83) C dX3_readTd_82 (by decide) rfl ?_
              have e : rX3_readTd q y z = (0, (((q.set 9 (z >>> (4 &&& 31))).set 3 (z &&& 15)).set 6 1)) := ((if_neg c_13).trans ((if_neg c_18).trans ((if_pos c_24).trans ((if_neg c_29).trans ((if_pos c_43).trans (if_neg c_74))))))
              exact E.1 _ _ _ _ _ _ _ dX3_readTd_83 rfl rfl (Nat.le_of_ble_eq_true rfl) (Nat.le_of_ble_eq_true rfl) ⟨by rw [e], by rw [e]; exact ⟨HQ31, (rqF.trans (rqF.trans fq1 fq30) fq31)⟩⟩
        ·
          refine g_aload_n (q := 33) C dX3_readTd_32 rfl rfl ?_
          refine g_getfield (v := .int ((z >>> (4 &&& 31)))) (q := 36) C fX3_76 dX3_readTd_33 rfl HQ1.1 rfl ?_
          refine g_if_eq (t := 41) (q := 39) C dX3_readTd_36 (by decide) rfl (fun c_36 => ?_) (fun c_36 => ?_)
          ·
            refine g_iload_n (q := 42) C dX3_readTd_41 rfl rfl ?_
            refine g_iconst (v := 1) (q := 43) C dX3_readTd_42 (by decide) rfl ?_
            refine g_icmp_ne (t := 54) (q := 46) C dX3_readTd_43 (by decide) rfl (fun c_43 => ?_) (fun c_43 => ?_)
            ·
              refine g_iload_n (q := 55) C dX3_readTd_54 rfl rfl ?_
              refine g_iconst (v := 1) (q := 56) C dX3_readTd_55 (by decide) rfl ?_
              refine g_icmp_ne (t := 73) (q := 59) C dX3_readTd_56 (by decide) rfl (fun c_56 => ?_) (fun c_56 => ?_)
              ·
                refine g_iload_n (q := 74) C dX3_readTd_73 rfl rfl ?_
                refine g_if_eq (t := 82) (q := 77) C dX3_readTd_74 (by decide) rfl (fun c_74 => ?_) (fun c_74 => ?_)
                ·
                  refine g_iconst (v := 0) (q := 83) C dX3_readTd_82 (by decide) rfl ?_
                  have e : rX3_readTd q y z = (0, (q.set 9 (z >>> (4 &&& 31)))) := ((if_neg c_13).trans ((if_neg c_18).trans ((if_pos c_24).trans ((if_pos c_29).trans ((if_pos c_36).trans ((if_neg c_43).trans ((if_neg c_56).trans (if_pos c_74))))))))
                  exact E.1 _ _ _ _ _ _ _ dX3_readTd_83 rfl rfl (Nat.le_of_ble_eq_true rfl) (Nat.le_of_ble_eq_true rfl) ⟨by rw [e], by rw [e]; exact ⟨HQ1, fq1⟩⟩
                ·
                  refine g_aload_n (q := 78) C dX3_readTd_77 rfl rfl ?_
                  refine g_iconst (v := 1) (q := 79) C dX3_readTd_78 (by decide) rfl ?_
                  refine g_putfield (q := 82) C fX3_54 dX3_readTd_79 rfl HQ1.1 (Nat.le_of_ble_eq_true rfl) (Or.inl rfl) rfl rfl (by intro z h; cases h) ?_
                  refine rqput (j := 6) (x := 1) HQ1 rfl fun h32 HQ32 fq32 => ?_
                  refine g_iconst (v := 0) (q := 83) C dX3_readTd_82 (by decide) rfl ?_
                  have e : rX3_readTd q y z = (0, ((q.set 9 (z >>> (4 &&& 31))).set 6 1)) := ((if_neg c_13).trans ((if_neg c_18).trans ((if_pos c_24).trans ((if_pos c_29).trans ((if_pos c_36).trans ((if_neg c_43).trans ((if_neg c_56).trans (if_neg c_74))))))))
                  exact E.1 _ _ _ _ _ _ _ dX3_readTd_83 rfl rfl (Nat.le_of_ble_eq_true rfl) (Nat.le_of_ble_eq_true rfl) ⟨by rw [e], by rw [e]; exact ⟨HQ32, (rqF.trans fq1 fq32)⟩⟩
              ·
                refine g_aload_n (q := 60) C dX3_readTd_59 rfl rfl ?_
                refine g_getfield (v := .int ((q.f 10))) (q := 63) C fX3_62 dX3_readTd_60 rfl HQ1.1 rfl ?_
                refine g_if_ne (t := 73) (q := 66) C dX3_readTd_63 (by decide) rfl (fun c_63 => ?_) (fun c_63 => ?_)
                ·
                  refine g_iload_n (q := 74) C dX3_readTd_73 rfl rfl ?_
                  refine g_if_eq (t := 82) (q := 77) C dX3_readTd_74 (by decide) rfl (fun c_74 => ?_) (fun c_74 => ?_)
                  ·
                    refine g_iconst (v := 0) (q := 83) C dX3_readTd_82 (by decide) rfl ?_
                    have e : rX3_readTd q y z = (0, (q.set 9 (z >>> (4 &&& 31)))) := ((if_neg c_13).trans ((if_neg c_18).trans ((if_pos c_24).trans ((if_pos c_29).trans ((if_pos c_36).trans ((if_neg c_43).trans ((if_pos c_56).trans ((if_neg c_63).trans (if_pos c_74)))))))))
                    exact E.1 _ _ _ _ _ _ _ dX3_readTd_83 rfl rfl (Nat.le_of_ble_eq_true rfl) (Nat.le_of_ble_eq_true rfl) ⟨by rw [e], by rw [e]; exact ⟨HQ1, fq1⟩⟩
                  ·
                    refine g_aload_n (q := 78) C dX3_readTd_77 rfl rfl ?_
                    refine g_iconst (v := 1) (q := 79) C dX3_readTd_78 (by decide) rfl ?_
                    refine g_putfield (q := 82) C fX3_54 dX3_readTd_79 rfl HQ1.1 (Nat.le_of_ble_eq_true rfl) (Or.inl rfl) rfl rfl (by intro z h; cases h) ?_
                    refine rqput (j := 6) (x := 1) HQ1 rfl fun h33 HQ33 fq33 => ?_
                    refine g_iconst (v := 0) (q := 83) C dX3_readTd_82 (by decide) rfl ?_
                    have e : rX3_readTd q y z = (0, ((q.set 9 (z >>> (4 &&& 31))).set 6 1)) := ((if_neg c_13).trans ((if_neg c_18).trans ((if_pos c_24).trans ((if_pos c_29).trans ((if_pos c_36).trans ((if_neg c_43).trans ((if_pos c_56).trans ((if_neg c_63).trans (if_neg c_74)))))))))
                    exact E.1 _ _ _ _ _ _ _ dX3_readTd_83 rfl rfl (Nat.le_of_ble_eq_true rfl) (Nat.le_of_ble_eq_true rfl) ⟨by rw [e], by rw [e]; exact ⟨HQ33, (rqF.trans fq1 fq33)⟩⟩
                ·
                  refine g_aload_n (q := 67) C dX3_readTd_66 rfl rfl ?_
                  refine g_iload_n (q := 68) C dX3_readTd_67 rfl rfl ?_
                  refine g_iconst (v := 1) (q := 69) C dX3_readTd_68 (by decide) rfl ?_
                  refine g_iadd (q := 70) C dX3_readTd_69 rfl ?_
                  refine g_putfield (q := 73) C fX3_62 dX3_readTd_70 rfl HQ1.1 (Nat.le_of_ble_eq_true rfl) (Or.inl rfl) rfl rfl (by intro z h; cases h) ?_
                  refine rqput (j := 10) (x := (y + 1)) HQ1 rfl fun h34 HQ34 fq34 => ?_
                  refine g_iload_n (q := 74) C dX3_readTd_73 rfl rfl ?_
                  refine g_if_eq (t := 82) (q := 77) C dX3_readTd_74 (by decide) rfl (fun c_74 => ?_) (fun c_74 => ?_)
                  ·
                    refine g_iconst (v := 0) (q := 83) C dX3_readTd_82 (by decide) rfl ?_
                    have e : rX3_readTd q y z = (0, ((q.set 9 (z >>> (4 &&& 31))).set 10 (y + 1))) := ((if_neg c_13).trans ((if_neg c_18).trans ((if_pos c_24).trans ((if_pos c_29).trans ((if_pos c_36).trans ((if_neg c_43).trans ((if_pos c_56).trans ((if_pos c_63).trans (if_pos c_74)))))))))
                    exact E.1 _ _ _ _ _ _ _ dX3_readTd_83 rfl rfl (Nat.le_of_ble_eq_true rfl) (Nat.le_of_ble_eq_true rfl) ⟨by rw [e], by rw [e]; exact ⟨HQ34, (rqF.trans fq1 fq34)⟩⟩
                  ·
                    refine g_aload_n (q := 78) C dX3_readTd_77 rfl rfl ?_
                    refine g_iconst (v := 1) (q := 79) C dX3_readTd_78 (by decide) rfl ?_
                    refine g_putfield (q := 82) C fX3_54 dX3_readTd_79 rfl HQ34.1 (Nat.le_of_ble_eq_true rfl) (Or.inl rfl) rfl rfl (by intro z h; cases h) ?_
                    refine rqput (j := 6) (x := 1) HQ34 rfl fun h35 HQ35 fq35 => ?_
                    refine g_iconst (v := 0) (q := 83) C dX3_readTd_82 (by decide) rfl ?_
                    have e : rX3_readTd q y z = (0, (((q.set 9 (z >>> (4 &&& 31))).set 10 (y + 1)).set 6 1)) := ((if_neg c_13).trans ((if_neg c_18).trans ((if_pos c_24).trans ((if_pos c_29).trans ((if_pos c_36).trans ((if_neg c_43).trans ((if_pos c_56).trans ((if_pos c_63).trans (if_neg c_74)))))))))
                    exact E.1 _ _ _ _ _ _ _ dX3_readTd_83 rfl rfl (Nat.le_of_ble_eq_true rfl) (Nat.le_of_ble_eq_true rfl) ⟨by rw [e], by rw [e]; exact ⟨HQ35, (rqF.trans (rqF.trans fq1 fq34) fq35)⟩⟩
            ·
              refine g_aload_n (q := 47) C dX3_readTd_46 rfl rfl ?_
              refine g_iload_n (q := 48) C dX3_readTd_47 rfl rfl ?_
              refine g_putfield (q := 51) C fX3_45 dX3_readTd_48 rfl HQ1.1 (Nat.le_of_ble_eq_true rfl) (Or.inl rfl) rfl rfl (by intro z h; cases h) ?_
              refine rqput (j := 3) (x := (z &&& 15)) HQ1 rfl fun h36 HQ36 fq36 => ?_
              refine g_goto (q := 73) C dX3_readTd_51 (by decide) ?_
              refine g_iload_n (q := 74) C dX3_readTd_73 rfl rfl ?_
              refine g_if_eq (t := 82) (q := 77) C dX3_readTd_74 (by decide) rfl (fun c_74 => ?_) (fun c_74 => ?_)
              ·
                refine g_iconst (v := 0) (q := 83) C dX3_readTd_82 (by decide) rfl ?_
                have e : rX3_readTd q y z = (0, ((q.set 9 (z >>> (4 &&& 31))).set 3 (z &&& 15))) := ((if_neg c_13).trans ((if_neg c_18).trans ((if_pos c_24).trans ((if_pos c_29).trans ((if_pos c_36).trans ((if_pos c_43).trans (if_pos c_74)))))))
                exact E.1 _ _ _ _ _ _ _ dX3_readTd_83 rfl rfl (Nat.le_of_ble_eq_true rfl) (Nat.le_of_ble_eq_true rfl) ⟨by rw [e], by rw [e]; exact ⟨HQ36, (rqF.trans fq1 fq36)⟩⟩
              ·
                refine g_aload_n (q := 78) C dX3_readTd_77 rfl rfl ?_
                refine g_iconst (v := 1) (q := 79) C dX3_readTd_78 (by decide) rfl ?_
                refine g_putfield (q := 82) C fX3_54 dX3_readTd_79 rfl HQ36.1 (Nat.le_of_ble_eq_true rfl) (Or.inl rfl) rfl rfl (by intro z h; cases h) ?_
                refine rqput (j := 6) (x := 1) HQ36 rfl fun h37 HQ37 fq37 => ?_
                refine g_iconst (v := 0) (q := 83) C dX3_readTd_82 (by decide) rfl ?_
                have e : rX3_readTd q y z = (0, (((q.set 9 (z >>> (4 &&& 31))).set 3 (z &&& 15)).set 6 1)) := ((if_neg c_13).trans ((if_neg c_18).trans ((if_pos c_24).trans ((if_pos c_29).trans ((if_pos c_36).trans ((if_pos c_43).trans (if_neg c_74)))))))
                exact E.1 _ _ _ _ _ _ _ dX3_readTd_83 rfl rfl (Nat.le_of_ble_eq_true rfl) (Nat.le_of_ble_eq_true rfl) ⟨by rw [e], by rw [e]; exact ⟨HQ37, (rqF.trans (rqF.trans fq1 fq36) fq37)⟩⟩
          ·
            refine g_iconst (v := 3) (q := 40) C dX3_readTd_39 (by decide) rfl ?_
            have e : rX3_readTd q y z = (3, (q.set 9 (z >>> (4 &&& 31)))) := ((if_neg c_13).trans ((if_neg c_18).trans ((if_pos c_24).trans ((if_pos c_29).trans (if_neg c_36)))))
            exact E.1 _ _ _ _ _ _ _ dX3_readTd_40 rfl rfl (Nat.le_of_ble_eq_true rfl) (Nat.le_of_ble_eq_true rfl) ⟨by rw [e], by rw [e]; exact ⟨HQ1, fq1⟩⟩
set_option maxRecDepth 100000 in
set_option maxHeartbeats 4000000 in
theorem c_X3_readLinkGroup_119 {hp : List gA} {q : rq} {l : List Int32} {y : Int32} {z : Int32} (HQ : rqH hp 119 q l) : gM yX3_readLinkGroup cX3_readLinkGroup 3 ((some .int)) 0 0 [.ref 119, .int y, .int z] (hp) (0) (0) (fun v h => v = some (.int (rX3_readLinkGroup q y z).1) ∧ (rqH h 119 (rX3_readLinkGroup q y z).2 l ∧ rqF 119 hp h)) := by
  refine gM_of (ls0 := [some (.ref 119), some (.int y), some (.int z)]) (by decide +kernel) (Nat.le_of_ble_eq_true rfl) rfl fun X C E => ?_
  refine g_iload_n (q := 1) C dX3_readLinkGroup_0 rfl rfl ?_
  refine g_if_ne (t := 27) (q := 4) C dX3_readLinkGroup_1 (by decide) rfl (fun c_1 => ?_) (fun c_1 => ?_)
  ·
    refine g_iload_n (q := 28) C dX3_readLinkGroup_27 rfl rfl ?_
    refine g_iconst (v := 1) (q := 29) C dX3_readLinkGroup_28 (by decide) rfl ?_
    refine g_icmp_ne (t := 46) (q := 32) C dX3_readLinkGroup_29 (by decide) rfl (fun c_29 => ?_) (fun c_29 => ?_)
    ·
      refine g_iload_n (q := 47) C dX3_readLinkGroup_46 rfl rfl ?_
      refine g_if_eq (t := 54) (q := 50) C dX3_readLinkGroup_47 (by decide) rfl (fun c_47 => ?_) (fun c_47 => ?_)
      ·
        refine g_iconst (v := 0) (q := 55) C dX3_readLinkGroup_54 (by decide) rfl ?_
        have e : rX3_readLinkGroup q y z = (0, q) := ((if_neg c_1).trans ((if_neg c_29).trans (if_pos c_47)))
        exact E.1 _ _ _ _ _ _ _ dX3_readLinkGroup_55 rfl rfl (Nat.le_of_ble_eq_true rfl) (Nat.le_of_ble_eq_true rfl) ⟨by rw [e], by rw [e]; exact ⟨HQ, rqF.rf⟩⟩
      ·
        refine g_iconst (v := 5) (q := 51) C dX3_readLinkGroup_50 (by decide) rfl ?_
        refine g_goto (q := 55) C dX3_readLinkGroup_51 (by decide) ?_
        have e : rX3_readLinkGroup q y z = (5, q) := ((if_neg c_1).trans ((if_neg c_29).trans (if_neg c_47)))
        exact E.1 _ _ _ _ _ _ _ dX3_readLinkGroup_55 rfl rfl (Nat.le_of_ble_eq_true rfl) (Nat.le_of_ble_eq_true rfl) ⟨by rw [e], by rw [e]; exact ⟨HQ, rqF.rf⟩⟩
    ·
      refine g_iload_n (q := 33) C dX3_readLinkGroup_32 rfl rfl ?_
      refine g_iconst (v := 4) (q := 34) C dX3_readLinkGroup_33 (by decide) rfl ?_
      refine g_ishr (q := 35) C dX3_readLinkGroup_34 rfl ?_
      refine g_bipush (v := 9) (q := 37) C dX3_readLinkGroup_35 (by decide) rfl ?_
      refine g_icmp_le (t := 44) (q := 40) C dX3_readLinkGroup_37 (by decide) rfl (fun c_37 => ?_) (fun c_37 => ?_)
      ·
        refine g_iconst (v := 0) (q := 45) C dX3_readLinkGroup_44 (by decide) rfl ?_
        have e : rX3_readLinkGroup q y z = (0, q) := ((if_neg c_1).trans ((if_pos c_29).trans (if_pos c_37)))
        exact E.1 _ _ _ _ _ _ _ dX3_readLinkGroup_45 rfl rfl (Nat.le_of_ble_eq_true rfl) (Nat.le_of_ble_eq_true rfl) ⟨by rw [e], by rw [e]; exact ⟨HQ, rqF.rf⟩⟩
      ·
        refine g_iconst (v := 5) (q := 41) C dX3_readLinkGroup_40 (by decide) rfl ?_
        refine g_goto (q := 45) C dX3_readLinkGroup_41 (by decide) ?_
        have e : rX3_readLinkGroup q y z = (5, q) := ((if_neg c_1).trans ((if_pos c_29).trans (if_neg c_37)))
        exact E.1 _ _ _ _ _ _ _ dX3_readLinkGroup_45 rfl rfl (Nat.le_of_ble_eq_true rfl) (Nat.le_of_ble_eq_true rfl) ⟨by rw [e], by rw [e]; exact ⟨HQ, rqF.rf⟩⟩
  ·
    refine g_aload_n (q := 5) C dX3_readLinkGroup_4 rfl rfl ?_
    refine g_iload_n (q := 6) C dX3_readLinkGroup_5 rfl rfl ?_
    refine g_putfield (q := 9) C fX3_51 dX3_readLinkGroup_6 rfl HQ.1 (Nat.le_of_ble_eq_true rfl) (Or.inl rfl) rfl rfl (by intro z h; cases h) ?_
    refine rqput (j := 5) (x := z) HQ rfl fun h1 HQ1 fq1 => ?_
    refine g_iload_n (q := 10) C dX3_readLinkGroup_9 rfl rfl ?_
    refine g_iconst (v := 1) (q := 11) C dX3_readLinkGroup_10 (by decide) rfl ?_
    refine g_icmp_lt (t := 21) (q := 14) C dX3_readLinkGroup_11 (by decide) rfl (fun c_11 => ?_) (fun c_11 => ?_)
    ·
      refine g_iconst (v := 5) (q := 22) C dX3_readLinkGroup_21 (by decide) rfl ?_
      refine g_goto (q := 26) C dX3_readLinkGroup_22 (by decide) ?_
      have e : rX3_readLinkGroup q y z = (5, (q.set 5 z)) := ((if_pos c_1).trans (if_pos c_11))
      exact E.1 _ _ _ _ _ _ _ dX3_readLinkGroup_26 rfl rfl (Nat.le_of_ble_eq_true rfl) (Nat.le_of_ble_eq_true rfl) ⟨by rw [e], by rw [e]; exact ⟨HQ1, fq1⟩⟩
    ·
      refine g_iload_n (q := 15) C dX3_readLinkGroup_14 rfl rfl ?_
      refine g_sipush (v := 254) (q := 18) C dX3_readLinkGroup_15 (by decide) rfl ?_
      refine g_icmp_le (t := 25) (q := 21) C dX3_readLinkGroup_18 (by decide) rfl (fun c_18 => ?_) (fun c_18 => ?_)
      ·
        refine g_iconst (v := 0) (q := 26) C dX3_readLinkGroup_25 (by decide) rfl ?_
        have e : rX3_readLinkGroup q y z = (0, (q.set 5 z)) := ((if_pos c_1).trans ((if_neg c_11).trans (if_pos c_18)))
        exact E.1 _ _ _ _ _ _ _ dX3_readLinkGroup_26 rfl rfl (Nat.le_of_ble_eq_true rfl) (Nat.le_of_ble_eq_true rfl) ⟨by rw [e], by rw [e]; exact ⟨HQ1, fq1⟩⟩
      ·
        refine g_iconst (v := 5) (q := 22) C dX3_readLinkGroup_21 (by decide) rfl ?_
        refine g_goto (q := 26) C dX3_readLinkGroup_22 (by decide) ?_
        have e : rX3_readLinkGroup q y z = (5, (q.set 5 z)) := ((if_pos c_1).trans ((if_neg c_11).trans (if_neg c_18)))
        exact E.1 _ _ _ _ _ _ _ dX3_readLinkGroup_26 rfl rfl (Nat.le_of_ble_eq_true rfl) (Nat.le_of_ble_eq_true rfl) ⟨by rw [e], by rw [e]; exact ⟨HQ1, fq1⟩⟩
set_option maxRecDepth 100000 in
set_option maxHeartbeats 4000000 in
theorem c_X3_readFirstGroup_119 {hp : List gA} {q : rq} {l : List Int32} {y : Int32} {z : Int32} (HQ : rqH hp 119 q l) : gM yX3_readFirstGroup cX3_readFirstGroup 3 ((some .int)) 1 21 [.ref 119, .int y, .int z] (hp) (0) (0) (fun v h => v = some (.int (rX3_readFirstGroup q y z).1) ∧ (rqH h 119 (rX3_readFirstGroup q y z).2 l ∧ rqF 119 hp h)) := by
  refine gM_of (ls0 := [some (.ref 119), some (.int y), some (.int z)]) (by decide +kernel) (Nat.le_of_ble_eq_true rfl) rfl fun X C E => ?_
  refine g_iload_n (q := 1) C dX3_readFirstGroup_0 rfl rfl ?_
  refine g_if_ne (t := 29) (q := 4) C dX3_readFirstGroup_1 (by decide) rfl (fun c_1 => ?_) (fun c_1 => ?_)
  ·
    refine g_iload_n (q := 30) C dX3_readFirstGroup_29 rfl rfl ?_
    refine g_iconst (v := 2) (q := 31) C dX3_readFirstGroup_30 (by decide) rfl ?_
    refine g_icmp_ne (t := 39) (q := 34) C dX3_readFirstGroup_31 (by decide) rfl (fun c_31 => ?_) (fun c_31 => ?_)
    ·
      refine g_iconst (v := 0) (q := 40) C dX3_readFirstGroup_39 (by decide) rfl ?_
      have e : rX3_readFirstGroup q y z = (0, q) := ((if_neg c_1).trans (if_neg c_31))
      exact E.1 _ _ _ _ _ _ _ dX3_readFirstGroup_40 rfl rfl (Nat.le_of_ble_eq_true rfl) (Nat.le_of_ble_eq_true rfl) ⟨by rw [e], by rw [e]; exact ⟨HQ, rqF.rf⟩⟩
    ·
      refine g_aload_n (q := 35) C dX3_readFirstGroup_34 rfl rfl ?_
      refine g_iload_n (q := 36) C dX3_readFirstGroup_35 rfl rfl ?_
      refine g_putfield (q := 39) C fX3_42 dX3_readFirstGroup_36 rfl HQ.1 (Nat.le_of_ble_eq_true rfl) (Or.inl rfl) rfl rfl (by intro z h; cases h) ?_
      refine rqput (j := 2) (x := z) HQ rfl fun h1 HQ1 fq1 => ?_
      refine g_iconst (v := 0) (q := 40) C dX3_readFirstGroup_39 (by decide) rfl ?_
      have e : rX3_readFirstGroup q y z = (0, (q.set 2 z)) := ((if_neg c_1).trans (if_pos c_31))
      exact E.1 _ _ _ _ _ _ _ dX3_readFirstGroup_40 rfl rfl (Nat.le_of_ble_eq_true rfl) (Nat.le_of_ble_eq_true rfl) ⟨by rw [e], by rw [e]; exact ⟨HQ1, fq1⟩⟩
  ·
    refine g_aload_n (q := 5) C dX3_readFirstGroup_4 rfl rfl ?_
    refine g_iload_n (q := 6) C dX3_readFirstGroup_5 rfl rfl ?_
    refine g_putfield (q := 9) C fX3_38 dX3_readFirstGroup_6 rfl HQ.1 (Nat.le_of_ble_eq_true rfl) (Or.inl rfl) rfl rfl (by intro z h; cases h) ?_
    refine rqput (j := 1) (x := z) HQ rfl fun h2 HQ2 fq2 => ?_
    refine g_iload_n (q := 10) C dX3_readFirstGroup_9 rfl rfl ?_
    refine g_callSi (x := (rX3_clockOf z)) (q := 13) (As := [.int z]) C gyX3_clockOf t_542 t_541 (c_X3_clockOf_x) dX3_readFirstGroup_10 rfl rfl rfl (Nat.le_of_ble_eq_true rfl) (Nat.le_of_ble_eq_true rfl) (Nat.le_of_ble_eq_true rfl) (Nat.le_of_ble_eq_true rfl) (Nat.le_of_ble_eq_true rfl) rfl ?_
    refine g_if_eq (t := 23) (q := 16) C dX3_readFirstGroup_13 (by decide) rfl (fun c_13 => ?_) (fun c_13 => ?_)
    ·
      refine g_iconst (v := 4) (q := 24) C dX3_readFirstGroup_23 (by decide) rfl ?_
      refine g_goto (q := 28) C dX3_readFirstGroup_24 (by decide) ?_
      have e : rX3_readFirstGroup q y z = (4, (q.set 1 z)) := ((if_pos c_1).trans (if_pos c_13))
      exact E.1 _ _ _ _ _ _ _ dX3_readFirstGroup_28 rfl rfl (Nat.le_of_ble_eq_true rfl) (Nat.le_of_ble_eq_true rfl) ⟨by rw [e], by rw [e]; exact ⟨HQ2, fq2⟩⟩
    ·
      refine g_iload_n (q := 17) C dX3_readFirstGroup_16 rfl rfl ?_
      refine g_callSi (x := (rX3_divisorOf z)) (q := 20) (As := [.int z]) C gyX3_divisorOf t_547 t_546 (c_X3_divisorOf_x) dX3_readFirstGroup_17 rfl rfl rfl (Nat.le_of_ble_eq_true rfl) (Nat.le_of_ble_eq_true rfl) (Nat.le_of_ble_eq_true rfl) (Nat.le_of_ble_eq_true rfl) (Nat.le_of_ble_eq_true rfl) rfl ?_
      refine g_if_ne (t := 27) (q := 23) C dX3_readFirstGroup_20 (by decide) rfl (fun c_20 => ?_) (fun c_20 => ?_)
      ·
        refine g_iconst (v := 0) (q := 28) C dX3_readFirstGroup_27 (by decide) rfl ?_
        have e : rX3_readFirstGroup q y z = (0, (q.set 1 z)) := ((if_pos c_1).trans ((if_neg c_13).trans (if_neg c_20)))
        exact E.1 _ _ _ _ _ _ _ dX3_readFirstGroup_28 rfl rfl (Nat.le_of_ble_eq_true rfl) (Nat.le_of_ble_eq_true rfl) ⟨by rw [e], by rw [e]; exact ⟨HQ2, fq2⟩⟩
      ·
        refine g_iconst (v := 4) (q := 24) C dX3_readFirstGroup_23 (by decide) rfl ?_
        refine g_goto (q := 28) C dX3_readFirstGroup_24 (by decide) ?_
        have e : rX3_readFirstGroup q y z = (4, (q.set 1 z)) := ((if_pos c_1).trans ((if_neg c_13).trans (if_pos c_20)))
        exact E.1 _ _ _ _ _ _ _ dX3_readFirstGroup_28 rfl rfl (Nat.le_of_ble_eq_true rfl) (Nat.le_of_ble_eq_true rfl) ⟨by rw [e], by rw [e]; exact ⟨HQ2, fq2⟩⟩
set_option maxRecDepth 100000 in
set_option maxHeartbeats 4000000 in
theorem c_X3_readGroupByte_119 {hp : List gA} {q : rq} {l : List Int32} {y : Int32} {z : Int32} {w : Int32} (HQ : rqH hp 119 q l) : gM yX3_readGroupByte cX3_readGroupByte 4 ((some .int)) 2 43 [.ref 119, .int y, .int z, .int w] (hp) (0) (0) (fun v h => v = some (.int (rX3_readGroupByte q y z w).1) ∧ (rqH h 119 (rX3_readGroupByte q y z w).2 l ∧ rqF 119 hp h)) := by
  refine gM_of (ls0 := [some (.ref 119), some (.int y), some (.int z), some (.int w)]) (by decide +kernel) (Nat.le_of_ble_eq_true rfl) rfl fun X C E => ?_
  refine g_iload_n (q := 1) C dX3_readGroupByte_0 rfl rfl ?_
  refine g_iconst (v := 3) (q := 2) C dX3_readGroupByte_1 (by decide) rfl ?_
  refine g_icmp_ne (t := 12) (q := 5) C dX3_readGroupByte_2 (by decide) rfl (fun c_2 => ?_) (fun c_2 => ?_)
  ·
    refine g_iload_n (q := 13) C dX3_readGroupByte_12 rfl rfl ?_
    refine g_iconst (v := 1) (q := 14) C dX3_readGroupByte_13 (by decide) rfl ?_
    refine g_icmp_ne (t := 24) (q := 17) C dX3_readGroupByte_14 (by decide) rfl (fun c_14 => ?_) (fun c_14 => ?_)
    ·
      refine g_iload_n (q := 25) C dX3_readGroupByte_24 rfl rfl ?_
      refine g_aload_n (q := 26) C dX3_readGroupByte_25 rfl rfl ?_
      refine g_getfield (v := .int ((q.f 10))) (q := 29) C fX3_62 dX3_readGroupByte_26 rfl HQ.1 rfl ?_
      refine g_icmp_ne (t := 41) (q := 32) C dX3_readGroupByte_29 (by decide) rfl (fun c_29 => ?_) (fun c_29 => ?_)
      ·
        refine g_iconst (v := 0) (q := 42) C dX3_readGroupByte_41 (by decide) rfl ?_
        have e : rX3_readGroupByte q y z w = (0, q) := ((if_neg c_2).trans ((if_neg c_14).trans (if_neg c_29)))
        exact E.1 _ _ _ _ _ _ _ dX3_readGroupByte_42 rfl rfl (Nat.le_of_ble_eq_true rfl) (Nat.le_of_ble_eq_true rfl) ⟨by rw [e], by rw [e]; exact ⟨HQ, rqF.rf⟩⟩
      ·
        refine g_aload_n (q := 33) C dX3_readGroupByte_32 rfl rfl ?_
        refine g_iload_n (q := 34) C dX3_readGroupByte_33 rfl rfl ?_
        refine g_iload_n (q := 35) C dX3_readGroupByte_34 rfl rfl ?_
        refine g_callVix (x := (rX3_readLinkGroup q z w).1) (q := 38) (As := [.int z, .int w]) C gyX3_readLinkGroup gvX3_readLinkGroup t_551 (c_X3_readLinkGroup_119 HQ) dX3_readGroupByte_35 rfl HQ.1 rfl rfl rfl (Nat.le_of_ble_eq_true rfl) (Nat.le_of_ble_eq_true rfl) (Nat.le_of_ble_eq_true rfl) (Nat.le_of_ble_eq_true rfl) (Nat.le_of_ble_eq_true rfl) rfl (fun h1 z1 => ?_)
        obtain ⟨HQ1, fq1⟩ := z1
        refine g_goto (q := 42) C dX3_readGroupByte_38 (by decide) ?_
        have e : rX3_readGroupByte q y z w = (rX3_readLinkGroup q z w) := ((if_neg c_2).trans ((if_neg c_14).trans (if_pos c_29)))
        exact E.1 _ _ _ _ _ _ _ dX3_readGroupByte_42 rfl rfl (Nat.le_of_ble_eq_true rfl) (Nat.le_of_ble_eq_true rfl) ⟨by rw [e], by rw [e]; exact ⟨HQ1, fq1⟩⟩
    ·
      refine g_aload_n (q := 18) C dX3_readGroupByte_17 rfl rfl ?_
      refine g_iload_n (q := 19) C dX3_readGroupByte_18 rfl rfl ?_
      refine g_iload_n (q := 20) C dX3_readGroupByte_19 rfl rfl ?_
      refine g_callVix (x := (rX3_readFirstGroup q z w).1) (q := 23) (As := [.int z, .int w]) C gyX3_readFirstGroup gvX3_readFirstGroup t_537 (c_X3_readFirstGroup_119 HQ) dX3_readGroupByte_20 rfl HQ.1 rfl rfl rfl (Nat.le_of_ble_eq_true rfl) (Nat.le_of_ble_eq_true rfl) (Nat.le_of_ble_eq_true rfl) (Nat.le_of_ble_eq_true rfl) (Nat.le_of_ble_eq_true rfl) rfl (fun h2 z2 => ?_)
      obtain ⟨HQ2, fq2⟩ := z2
      have e : rX3_readGroupByte q y z w = (rX3_readFirstGroup q z w) := ((if_neg c_2).trans (if_pos c_14))
      exact E.1 _ _ _ _ _ _ _ dX3_readGroupByte_23 rfl rfl (Nat.le_of_ble_eq_true rfl) (Nat.le_of_ble_eq_true rfl) ⟨by rw [e], by rw [e]; exact ⟨HQ2, fq2⟩⟩
  ·
    refine g_aload_n (q := 6) C dX3_readGroupByte_5 rfl rfl ?_
    refine g_iload_n (q := 7) C dX3_readGroupByte_6 rfl rfl ?_
    refine g_iload_n (q := 8) C dX3_readGroupByte_7 rfl rfl ?_
    refine g_callVix (x := (rX3_readTd q y w).1) (q := 11) (As := [.int y, .int w]) C gyX3_readTd gvX3_readTd t_533 (c_X3_readTd_119 HQ) dX3_readGroupByte_8 rfl HQ.1 rfl rfl rfl (Nat.le_of_ble_eq_true rfl) (Nat.le_of_ble_eq_true rfl) (Nat.le_of_ble_eq_true rfl) (Nat.le_of_ble_eq_true rfl) (Nat.le_of_ble_eq_true rfl) rfl (fun h3 z3 => ?_)
    obtain ⟨HQ3, fq3⟩ := z3
    have e : rX3_readGroupByte q y z w = (rX3_readTd q y w) := (if_pos c_2)
    exact E.1 _ _ _ _ _ _ _ dX3_readGroupByte_11 rfl rfl (Nat.le_of_ble_eq_true rfl) (Nat.le_of_ble_eq_true rfl) ⟨by rw [e], by rw [e]; exact ⟨HQ3, fq3⟩⟩
set_option maxRecDepth 100000 in
set_option maxHeartbeats 4000000 in
theorem c_X3_readGroups_119 {hp : List gA} {q : rq} {l t : List Int32} (HQ : rqH hp 119 q l) (HT : gRw hp 1 2 96 t) : gM yX3_readGroups cX3_readGroups 6 ((some .int)) 3 66 [.ref 119, .ref 1] (hp) (0) (0) (fun v h => v = some (.int (rGs t 4 1 (0, q)).1) ∧ (rqH h 119 (rGs t 4 1 (0, q)).2 l ∧ rqF 119 hp h)) := by
  refine gM_of (ls0 := [some (.ref 119), some (.ref 1), none, none, none, none]) (by decide +kernel) (Nat.le_of_ble_eq_true rfl) rfl fun X C E => ?_
  have ht := (gRw.le HT).1
  obtain ⟨F, hF⟩ : ∃ F, rGs t 4 1 (0, q) = F := ⟨_, rfl⟩
  have K : ∀ (n g : Nat) (q1 : rq) (ha : List gA) (x3 x4 x5 : Option Value), n + g = 5 → 1 ≤ g → rqH ha 119 q1 l → gRw ha 1 2 96 t → rqF 119 hp ha → rGs t n g (0, q1) = F → gG X 2 [some (.ref 119), some (.ref 1), some (.int ((nI g))), x3, x4, x5] [] ha 0 0 := by
    intro n
    induction n with
    | zero =>
      intro g q1 ha x3 x4 x5 hg hg1 HQa HTa fqa hr
      obtain rfl : g = 5 := by omega
      have hr : (0, q1) = F := hr
      refine g_iload_n (q := 3) C dX3_readGroups_2 rfl rfl ?_
      refine g_iconst (v := 4) (q := 4) C dX3_readGroups_3 (by decide) rfl ?_
      refine g_icmp_gt_t (t := 124) C dX3_readGroups_4 (by decide) (by decide) ?_
      refine g_iconst (v := 0) (q := 125) C dX3_readGroups_124 (by decide) rfl ?_
      exact E.1 _ _ _ _ _ _ _ dX3_readGroups_125 rfl rfl (Nat.le_of_ble_eq_true rfl) (Nat.le_of_ble_eq_true rfl) ⟨by rw [hF, ← hr], by rw [hF, ← hr]; exact ⟨HQa, fqa⟩⟩
    | succ n ih =>
      intro g q1 ha x3 x4 x5 hg hg1 HQa HTa fqa hr
      have J4 : ∀ (q2 : rq) (hb : List gA) (x5 : Option Value), rqH hb 119 q2 l → gRw hb 1 2 96 t → rqF 119 hp hb → rGs t n (g + 1) (0, q2) = F → gG X 32 [some (.ref 119), some (.ref 1), some (.int ((nI g))), some (.int ((q1.f 9))), some (.int 4), x5] [] hb 0 0 := by
        intro q2 hb x5 HQb HTb fqb hr2
        refine g_iload (q := 34) C dX3_readGroups_32 rfl rfl ?_
        refine g_iconst (v := 4) (q := 35) C dX3_readGroups_34 (by decide) rfl ?_
        refine g_icmp_ge_t (t := 118) C dX3_readGroups_35 (by decide) (by decide) ?_
        refine g_iinc (v := (nI (g + 1))) (q := 121) C dX3_readGroups_118 rfl (nI_1 g) (by simp only [gset]; rfl) rfl ?_
        refine g_goto (q := 2) C dX3_readGroups_121 (by decide) ?_
        exact ih (g + 1) q2 hb _ _ _ (by omega) (by omega) HQb HTb fqb hr2
      have J3 : ∀ (q2 : rq) (hb : List gA) (x5 : Option Value), rqH hb 119 q2 l → gRw hb 1 2 96 t → rqF 119 hp hb → rGs t n (g + 1) (rL t (nI g) (q1.f 9) 3 (0, q2)) = F → gG X 32 [some (.ref 119), some (.ref 1), some (.int ((nI g))), some (.int ((q1.f 9))), some (.int 3), x5] [] hb 0 0 := by
        intro q2 hb x5 HQb HTb fqb hr2
        refine g_iload (q := 34) C dX3_readGroups_32 rfl rfl ?_
        refine g_iconst (v := 4) (q := 35) C dX3_readGroups_34 (by decide) rfl ?_
        refine g_icmp_ge_f (t := 118) (q := 38) C dX3_readGroups_35 (by decide) rfl (by decide) ?_
        refine g_iload_n (q := 39) C dX3_readGroups_38 rfl rfl ?_
        refine g_iload (q := 41) C dX3_readGroups_39 rfl rfl ?_
        refine g_ishr (q := 42) C dX3_readGroups_41 rfl ?_
        refine g_iconst (v := 1) (q := 43) C dX3_readGroups_42 (by decide) rfl ?_
        refine g_iand (q := 44) C dX3_readGroups_43 rfl ?_
        refine g_if_ne (t := 50) (q := 47) C dX3_readGroups_44 (by decide) rfl (fun c_44 => ?_) (fun c_44 => ?_)
        ·
          refine g_aload_n (q := 51) C dX3_readGroups_50 rfl rfl ?_
          refine g_getfield (v := .int ((q2.f 8))) (q := 54) C fX3_79 dX3_readGroups_51 rfl HQb.1 rfl ?_
          refine g_aload_n (q := 55) C dX3_readGroups_54 rfl rfl ?_
          refine g_callVi (x := (nI t.length)) (q := 58) (As := []) C gyX4_size gvX4_size t_517 (c_X4_size (gRw.obj HTb)) dX3_readGroups_55 rfl (gRw.obj HTb) rfl rfl rfl (Nat.le_of_ble_eq_true rfl) (Nat.le_of_ble_eq_true rfl) (Nat.le_of_ble_eq_true rfl) (Nat.le_of_ble_eq_true rfl) (Nat.le_of_ble_eq_true rfl) rfl ?_
          refine g_icmp_lt (t := 70) (q := 61) C dX3_readGroups_58 (by decide) rfl (fun c_58 => ?_) (fun c_58 => ?_)
          ·
            refine g_aload_n (q := 71) C dX3_readGroups_70 rfl rfl ?_
            refine g_iload_n (q := 72) C dX3_readGroups_71 rfl rfl ?_
            refine g_iload (q := 74) C dX3_readGroups_72 rfl rfl ?_
            refine g_aload_n (q := 75) C dX3_readGroups_74 rfl rfl ?_
            refine g_aload_n (q := 76) C dX3_readGroups_75 rfl rfl ?_
            refine g_getfield (v := .int ((q2.f 8))) (q := 79) C fX3_79 dX3_readGroups_76 rfl HQb.1 rfl ?_
            refine g_callVi (x := (gat t (q2.f 8))) (q := 82) (As := [.int ((q2.f 8))]) C gyX4_at gvX4_at t_521 (c_X4_at_w HTb) dX3_readGroups_79 rfl (gRw.obj HTb) rfl rfl rfl (Nat.le_of_ble_eq_true rfl) (Nat.le_of_ble_eq_true rfl) (Nat.le_of_ble_eq_true rfl) (Nat.le_of_ble_eq_true rfl) (Nat.le_of_ble_eq_true rfl) rfl ?_
            refine g_callVix (x := (rX3_readGroupByte q2 (nI g) 3 (gat t (q2.f 8))).1) (q := 85) (As := [.int ((nI g)), .int 3, .int ((gat t (q2.f 8)))]) C gyX3_readGroupByte gvX3_readGroupByte t_529 (c_X3_readGroupByte_119 HQb) dX3_readGroups_82 rfl HQb.1 rfl rfl rfl (Nat.le_of_ble_eq_true rfl) (Nat.le_of_ble_eq_true rfl) (Nat.le_of_ble_eq_true rfl) (Nat.le_of_ble_eq_true rfl) (Nat.le_of_ble_eq_true rfl) rfl (fun h1 z1 => ?_)
            obtain ⟨HQ1, fq1⟩ := z1
            have HT1 := gRw.ra HTb (by decide) fq1
            refine g_istore (q := 87) C dX3_readGroups_85 (Nat.le_of_ble_eq_true rfl) (by simp only [gset]; rfl) rfl ?_
            refine g_iload (q := 89) C dX3_readGroups_87 rfl rfl ?_
            refine g_if_eq (t := 102) (q := 92) C dX3_readGroups_89 (by decide) rfl (fun c_89 => ?_) (fun c_89 => ?_)
            ·
              refine g_aload_n (q := 103) C dX3_readGroups_102 rfl rfl ?_
              refine g_dup (q := 104) C dX3_readGroups_103 rfl rfl ?_
              refine g_getfield (v := .int ((((rX3_readGroupByte q2 (nI g) 3 (gat t (q2.f 8))).2).f 8))) (q := 107) C fX3_79 dX3_readGroups_104 rfl HQ1.1 rfl ?_
              refine g_iconst (v := 1) (q := 108) C dX3_readGroups_107 (by decide) rfl ?_
              refine g_iadd (q := 109) C dX3_readGroups_108 rfl ?_
              refine g_putfield (q := 112) C fX3_79 dX3_readGroups_109 rfl HQ1.1 (Nat.le_of_ble_eq_true rfl) (Or.inl rfl) rfl rfl (by intro z h; cases h) ?_
              refine rqput (j := 8) (x := ((((rX3_readGroupByte q2 (nI g) 3 (gat t (q2.f 8))).2).f 8) + 1)) HQ1 rfl fun h2 HQ2 fq2 => ?_
              have HT2 := gRw.ra HT1 (by decide) fq2
              refine g_iinc (v := 4) (q := 115) C dX3_readGroups_112 rfl (by decide) (by simp only [gset]; rfl) rfl ?_
              refine g_goto (q := 32) C dX3_readGroups_115 (by decide) ?_
              exact J4 _ _ _ HQ2 HT2 (rqF.trans (rqF.trans fqb fq1) fq2) (by rw [← hr2, show rL t (nI g) (q1.f 9) 3 (0, q2) = (0, ((rX3_readGroupByte q2 (nI g) 3 (gat t (q2.f 8))).2.set 8 ((rX3_readGroupByte q2 (nI g) 3 (gat t (q2.f 8))).2.f 8 + 1))) from (if_pos rfl).trans ((if_neg c_44).trans ((if_neg (by rw [Int32.not_le]; exact c_58)).trans (if_pos c_89)))])
            ·
              refine g_aload_n (q := 93) C dX3_readGroups_92 rfl rfl ?_
              refine g_getfield (v := .int ((((rX3_readGroupByte q2 (nI g) 3 (gat t (q2.f 8))).2).f 8))) (q := 96) C fX3_79 dX3_readGroups_93 rfl HQ1.1 rfl ?_
              refine g_iload (q := 98) C dX3_readGroups_96 rfl rfl ?_
              refine g_callSi (x := (8 * (((rX3_readGroupByte q2 (nI g) 3 (gat t (q2.f 8))).2).f 8) + (rX3_readGroupByte q2 (nI g) 3 (gat t (q2.f 8))).1)) (q := 101) (As := [.int ((((rX3_readGroupByte q2 (nI g) 3 (gat t (q2.f 8))).2).f 8)), .int ((rX3_readGroupByte q2 (nI g) 3 (gat t (q2.f 8))).1)]) C gyX3_faultAt t_519 t_518 (c_X3_faultAt_x) dX3_readGroups_98 rfl rfl rfl (Nat.le_of_ble_eq_true rfl) (Nat.le_of_ble_eq_true rfl) (Nat.le_of_ble_eq_true rfl) (Nat.le_of_ble_eq_true rfl) (Nat.le_of_ble_eq_true rfl) rfl ?_
              have hst : ¬ (((8 * (rX3_readGroupByte q2 (nI g) 3 (gat t (q2.f 8))).2.f 8 + (rX3_readGroupByte q2 (nI g) 3 (gat t (q2.f 8))).1, (rX3_readGroupByte q2 (nI g) 3 (gat t (q2.f 8))).2) : Int32 × rq)).1 = 0 := rGbx c_89
              have e : rL t (nI g) (q1.f 9) 3 (0, q2) = (8 * (rX3_readGroupByte q2 (nI g) 3 (gat t (q2.f 8))).2.f 8 + (rX3_readGroupByte q2 (nI g) 3 (gat t (q2.f 8))).1, (rX3_readGroupByte q2 (nI g) 3 (gat t (q2.f 8))).2) := (if_pos rfl).trans ((if_neg c_44).trans ((if_neg (by rw [Int32.not_le]; exact c_58)).trans (if_neg c_89)))
              rw [e, rGs_st hst] at hr2
              exact E.1 _ _ _ _ _ _ _ dX3_readGroups_101 rfl rfl (Nat.le_of_ble_eq_true rfl) (Nat.le_of_ble_eq_true rfl) ⟨by rw [hF, ← hr2], by rw [hF, ← hr2]; exact ⟨HQ1, (rqF.trans fqb fq1)⟩⟩
          ·
            refine g_aload_n (q := 62) C dX3_readGroups_61 rfl rfl ?_
            refine g_getfield (v := .int ((q2.f 8))) (q := 65) C fX3_79 dX3_readGroups_62 rfl HQb.1 rfl ?_
            refine g_iconst (v := 1) (q := 66) C dX3_readGroups_65 (by decide) rfl ?_
            refine g_callSi (x := (8 * (q2.f 8) + 1)) (q := 69) (As := [.int ((q2.f 8)), .int 1]) C gyX3_faultAt t_519 t_518 (c_X3_faultAt_x) dX3_readGroups_66 rfl rfl rfl (Nat.le_of_ble_eq_true rfl) (Nat.le_of_ble_eq_true rfl) (Nat.le_of_ble_eq_true rfl) (Nat.le_of_ble_eq_true rfl) (Nat.le_of_ble_eq_true rfl) rfl ?_
            have hst : ¬ (((8 * q2.f 8 + 1, q2) : Int32 × rq)).1 = 0 := gx8 (c := 1) (by decide) (by decide)
            have e : rL t (nI g) (q1.f 9) 3 (0, q2) = (8 * q2.f 8 + 1, q2) := (if_pos rfl).trans ((if_neg c_44).trans (if_pos (Int32.not_lt.mp c_58)))
            rw [e, rGs_st hst] at hr2
            exact E.1 _ _ _ _ _ _ _ dX3_readGroups_69 rfl rfl (Nat.le_of_ble_eq_true rfl) (Nat.le_of_ble_eq_true rfl) ⟨by rw [hF, ← hr2], by rw [hF, ← hr2]; exact ⟨HQb, fqb⟩⟩
        ·
          refine g_goto (q := 112) C dX3_readGroups_47 (by decide) ?_
          refine g_iinc (v := 4) (q := 115) C dX3_readGroups_112 rfl (by decide) (by simp only [gset]; rfl) rfl ?_
          refine g_goto (q := 32) C dX3_readGroups_115 (by decide) ?_
          exact J4 _ _ _ HQb HTb fqb (by rw [← hr2, show rL t (nI g) (q1.f 9) 3 (0, q2) = (0, q2) from (if_pos rfl).trans (if_pos (c_44))])
      have J2 : ∀ (q2 : rq) (hb : List gA) (x5 : Option Value), rqH hb 119 q2 l → gRw hb 1 2 96 t → rqF 119 hp hb → rGs t n (g + 1) (rL t (nI g) (q1.f 9) 3 (rL t (nI g) (q1.f 9) 2 (0, q2))) = F → gG X 32 [some (.ref 119), some (.ref 1), some (.int ((nI g))), some (.int ((q1.f 9))), some (.int 2), x5] [] hb 0 0 := by
        intro q2 hb x5 HQb HTb fqb hr2
        refine g_iload (q := 34) C dX3_readGroups_32 rfl rfl ?_
        refine g_iconst (v := 4) (q := 35) C dX3_readGroups_34 (by decide) rfl ?_
        refine g_icmp_ge_f (t := 118) (q := 38) C dX3_readGroups_35 (by decide) rfl (by decide) ?_
        refine g_iload_n (q := 39) C dX3_readGroups_38 rfl rfl ?_
        refine g_iload (q := 41) C dX3_readGroups_39 rfl rfl ?_
        refine g_ishr (q := 42) C dX3_readGroups_41 rfl ?_
        refine g_iconst (v := 1) (q := 43) C dX3_readGroups_42 (by decide) rfl ?_
        refine g_iand (q := 44) C dX3_readGroups_43 rfl ?_
        refine g_if_ne (t := 50) (q := 47) C dX3_readGroups_44 (by decide) rfl (fun c_44 => ?_) (fun c_44 => ?_)
        ·
          refine g_aload_n (q := 51) C dX3_readGroups_50 rfl rfl ?_
          refine g_getfield (v := .int ((q2.f 8))) (q := 54) C fX3_79 dX3_readGroups_51 rfl HQb.1 rfl ?_
          refine g_aload_n (q := 55) C dX3_readGroups_54 rfl rfl ?_
          refine g_callVi (x := (nI t.length)) (q := 58) (As := []) C gyX4_size gvX4_size t_517 (c_X4_size (gRw.obj HTb)) dX3_readGroups_55 rfl (gRw.obj HTb) rfl rfl rfl (Nat.le_of_ble_eq_true rfl) (Nat.le_of_ble_eq_true rfl) (Nat.le_of_ble_eq_true rfl) (Nat.le_of_ble_eq_true rfl) (Nat.le_of_ble_eq_true rfl) rfl ?_
          refine g_icmp_lt (t := 70) (q := 61) C dX3_readGroups_58 (by decide) rfl (fun c_58 => ?_) (fun c_58 => ?_)
          ·
            refine g_aload_n (q := 71) C dX3_readGroups_70 rfl rfl ?_
            refine g_iload_n (q := 72) C dX3_readGroups_71 rfl rfl ?_
            refine g_iload (q := 74) C dX3_readGroups_72 rfl rfl ?_
            refine g_aload_n (q := 75) C dX3_readGroups_74 rfl rfl ?_
            refine g_aload_n (q := 76) C dX3_readGroups_75 rfl rfl ?_
            refine g_getfield (v := .int ((q2.f 8))) (q := 79) C fX3_79 dX3_readGroups_76 rfl HQb.1 rfl ?_
            refine g_callVi (x := (gat t (q2.f 8))) (q := 82) (As := [.int ((q2.f 8))]) C gyX4_at gvX4_at t_521 (c_X4_at_w HTb) dX3_readGroups_79 rfl (gRw.obj HTb) rfl rfl rfl (Nat.le_of_ble_eq_true rfl) (Nat.le_of_ble_eq_true rfl) (Nat.le_of_ble_eq_true rfl) (Nat.le_of_ble_eq_true rfl) (Nat.le_of_ble_eq_true rfl) rfl ?_
            refine g_callVix (x := (rX3_readGroupByte q2 (nI g) 2 (gat t (q2.f 8))).1) (q := 85) (As := [.int ((nI g)), .int 2, .int ((gat t (q2.f 8)))]) C gyX3_readGroupByte gvX3_readGroupByte t_529 (c_X3_readGroupByte_119 HQb) dX3_readGroups_82 rfl HQb.1 rfl rfl rfl (Nat.le_of_ble_eq_true rfl) (Nat.le_of_ble_eq_true rfl) (Nat.le_of_ble_eq_true rfl) (Nat.le_of_ble_eq_true rfl) (Nat.le_of_ble_eq_true rfl) rfl (fun h3 z3 => ?_)
            obtain ⟨HQ3, fq3⟩ := z3
            have HT3 := gRw.ra HTb (by decide) fq3
            refine g_istore (q := 87) C dX3_readGroups_85 (Nat.le_of_ble_eq_true rfl) (by simp only [gset]; rfl) rfl ?_
            refine g_iload (q := 89) C dX3_readGroups_87 rfl rfl ?_
            refine g_if_eq (t := 102) (q := 92) C dX3_readGroups_89 (by decide) rfl (fun c_89 => ?_) (fun c_89 => ?_)
            ·
              refine g_aload_n (q := 103) C dX3_readGroups_102 rfl rfl ?_
              refine g_dup (q := 104) C dX3_readGroups_103 rfl rfl ?_
              refine g_getfield (v := .int ((((rX3_readGroupByte q2 (nI g) 2 (gat t (q2.f 8))).2).f 8))) (q := 107) C fX3_79 dX3_readGroups_104 rfl HQ3.1 rfl ?_
              refine g_iconst (v := 1) (q := 108) C dX3_readGroups_107 (by decide) rfl ?_
              refine g_iadd (q := 109) C dX3_readGroups_108 rfl ?_
              refine g_putfield (q := 112) C fX3_79 dX3_readGroups_109 rfl HQ3.1 (Nat.le_of_ble_eq_true rfl) (Or.inl rfl) rfl rfl (by intro z h; cases h) ?_
              refine rqput (j := 8) (x := ((((rX3_readGroupByte q2 (nI g) 2 (gat t (q2.f 8))).2).f 8) + 1)) HQ3 rfl fun h4 HQ4 fq4 => ?_
              have HT4 := gRw.ra HT3 (by decide) fq4
              refine g_iinc (v := 3) (q := 115) C dX3_readGroups_112 rfl (by decide) (by simp only [gset]; rfl) rfl ?_
              refine g_goto (q := 32) C dX3_readGroups_115 (by decide) ?_
              exact J3 _ _ _ HQ4 HT4 (rqF.trans (rqF.trans fqb fq3) fq4) (by rw [← hr2, show rL t (nI g) (q1.f 9) 2 (0, q2) = (0, ((rX3_readGroupByte q2 (nI g) 2 (gat t (q2.f 8))).2.set 8 ((rX3_readGroupByte q2 (nI g) 2 (gat t (q2.f 8))).2.f 8 + 1))) from (if_pos rfl).trans ((if_neg c_44).trans ((if_neg (by rw [Int32.not_le]; exact c_58)).trans (if_pos c_89)))])
            ·
              refine g_aload_n (q := 93) C dX3_readGroups_92 rfl rfl ?_
              refine g_getfield (v := .int ((((rX3_readGroupByte q2 (nI g) 2 (gat t (q2.f 8))).2).f 8))) (q := 96) C fX3_79 dX3_readGroups_93 rfl HQ3.1 rfl ?_
              refine g_iload (q := 98) C dX3_readGroups_96 rfl rfl ?_
              refine g_callSi (x := (8 * (((rX3_readGroupByte q2 (nI g) 2 (gat t (q2.f 8))).2).f 8) + (rX3_readGroupByte q2 (nI g) 2 (gat t (q2.f 8))).1)) (q := 101) (As := [.int ((((rX3_readGroupByte q2 (nI g) 2 (gat t (q2.f 8))).2).f 8)), .int ((rX3_readGroupByte q2 (nI g) 2 (gat t (q2.f 8))).1)]) C gyX3_faultAt t_519 t_518 (c_X3_faultAt_x) dX3_readGroups_98 rfl rfl rfl (Nat.le_of_ble_eq_true rfl) (Nat.le_of_ble_eq_true rfl) (Nat.le_of_ble_eq_true rfl) (Nat.le_of_ble_eq_true rfl) (Nat.le_of_ble_eq_true rfl) rfl ?_
              have hst : ¬ (((8 * (rX3_readGroupByte q2 (nI g) 2 (gat t (q2.f 8))).2.f 8 + (rX3_readGroupByte q2 (nI g) 2 (gat t (q2.f 8))).1, (rX3_readGroupByte q2 (nI g) 2 (gat t (q2.f 8))).2) : Int32 × rq)).1 = 0 := rGbx c_89
              have e : rL t (nI g) (q1.f 9) 2 (0, q2) = (8 * (rX3_readGroupByte q2 (nI g) 2 (gat t (q2.f 8))).2.f 8 + (rX3_readGroupByte q2 (nI g) 2 (gat t (q2.f 8))).1, (rX3_readGroupByte q2 (nI g) 2 (gat t (q2.f 8))).2) := (if_pos rfl).trans ((if_neg c_44).trans ((if_neg (by rw [Int32.not_le]; exact c_58)).trans (if_neg c_89)))
              rw [e, rL_st (k := 3) hst, rGs_st hst] at hr2
              exact E.1 _ _ _ _ _ _ _ dX3_readGroups_101 rfl rfl (Nat.le_of_ble_eq_true rfl) (Nat.le_of_ble_eq_true rfl) ⟨by rw [hF, ← hr2], by rw [hF, ← hr2]; exact ⟨HQ3, (rqF.trans fqb fq3)⟩⟩
          ·
            refine g_aload_n (q := 62) C dX3_readGroups_61 rfl rfl ?_
            refine g_getfield (v := .int ((q2.f 8))) (q := 65) C fX3_79 dX3_readGroups_62 rfl HQb.1 rfl ?_
            refine g_iconst (v := 1) (q := 66) C dX3_readGroups_65 (by decide) rfl ?_
            refine g_callSi (x := (8 * (q2.f 8) + 1)) (q := 69) (As := [.int ((q2.f 8)), .int 1]) C gyX3_faultAt t_519 t_518 (c_X3_faultAt_x) dX3_readGroups_66 rfl rfl rfl (Nat.le_of_ble_eq_true rfl) (Nat.le_of_ble_eq_true rfl) (Nat.le_of_ble_eq_true rfl) (Nat.le_of_ble_eq_true rfl) (Nat.le_of_ble_eq_true rfl) rfl ?_
            have hst : ¬ (((8 * q2.f 8 + 1, q2) : Int32 × rq)).1 = 0 := gx8 (c := 1) (by decide) (by decide)
            have e : rL t (nI g) (q1.f 9) 2 (0, q2) = (8 * q2.f 8 + 1, q2) := (if_pos rfl).trans ((if_neg c_44).trans (if_pos (Int32.not_lt.mp c_58)))
            rw [e, rL_st (k := 3) hst, rGs_st hst] at hr2
            exact E.1 _ _ _ _ _ _ _ dX3_readGroups_69 rfl rfl (Nat.le_of_ble_eq_true rfl) (Nat.le_of_ble_eq_true rfl) ⟨by rw [hF, ← hr2], by rw [hF, ← hr2]; exact ⟨HQb, fqb⟩⟩
        ·
          refine g_goto (q := 112) C dX3_readGroups_47 (by decide) ?_
          refine g_iinc (v := 3) (q := 115) C dX3_readGroups_112 rfl (by decide) (by simp only [gset]; rfl) rfl ?_
          refine g_goto (q := 32) C dX3_readGroups_115 (by decide) ?_
          exact J3 _ _ _ HQb HTb fqb (by rw [← hr2, show rL t (nI g) (q1.f 9) 2 (0, q2) = (0, q2) from (if_pos rfl).trans (if_pos (c_44))])
      have J1 : ∀ (q2 : rq) (hb : List gA) (x5 : Option Value), rqH hb 119 q2 l → gRw hb 1 2 96 t → rqF 119 hp hb → rGs t n (g + 1) (rL t (nI g) (q1.f 9) 3 (rL t (nI g) (q1.f 9) 2 (rL t (nI g) (q1.f 9) 1 (0, q2)))) = F → gG X 32 [some (.ref 119), some (.ref 1), some (.int ((nI g))), some (.int ((q1.f 9))), some (.int 1), x5] [] hb 0 0 := by
        intro q2 hb x5 HQb HTb fqb hr2
        refine g_iload (q := 34) C dX3_readGroups_32 rfl rfl ?_
        refine g_iconst (v := 4) (q := 35) C dX3_readGroups_34 (by decide) rfl ?_
        refine g_icmp_ge_f (t := 118) (q := 38) C dX3_readGroups_35 (by decide) rfl (by decide) ?_
        refine g_iload_n (q := 39) C dX3_readGroups_38 rfl rfl ?_
        refine g_iload (q := 41) C dX3_readGroups_39 rfl rfl ?_
        refine g_ishr (q := 42) C dX3_readGroups_41 rfl ?_
        refine g_iconst (v := 1) (q := 43) C dX3_readGroups_42 (by decide) rfl ?_
        refine g_iand (q := 44) C dX3_readGroups_43 rfl ?_
        refine g_if_ne (t := 50) (q := 47) C dX3_readGroups_44 (by decide) rfl (fun c_44 => ?_) (fun c_44 => ?_)
        ·
          refine g_aload_n (q := 51) C dX3_readGroups_50 rfl rfl ?_
          refine g_getfield (v := .int ((q2.f 8))) (q := 54) C fX3_79 dX3_readGroups_51 rfl HQb.1 rfl ?_
          refine g_aload_n (q := 55) C dX3_readGroups_54 rfl rfl ?_
          refine g_callVi (x := (nI t.length)) (q := 58) (As := []) C gyX4_size gvX4_size t_517 (c_X4_size (gRw.obj HTb)) dX3_readGroups_55 rfl (gRw.obj HTb) rfl rfl rfl (Nat.le_of_ble_eq_true rfl) (Nat.le_of_ble_eq_true rfl) (Nat.le_of_ble_eq_true rfl) (Nat.le_of_ble_eq_true rfl) (Nat.le_of_ble_eq_true rfl) rfl ?_
          refine g_icmp_lt (t := 70) (q := 61) C dX3_readGroups_58 (by decide) rfl (fun c_58 => ?_) (fun c_58 => ?_)
          ·
            refine g_aload_n (q := 71) C dX3_readGroups_70 rfl rfl ?_
            refine g_iload_n (q := 72) C dX3_readGroups_71 rfl rfl ?_
            refine g_iload (q := 74) C dX3_readGroups_72 rfl rfl ?_
            refine g_aload_n (q := 75) C dX3_readGroups_74 rfl rfl ?_
            refine g_aload_n (q := 76) C dX3_readGroups_75 rfl rfl ?_
            refine g_getfield (v := .int ((q2.f 8))) (q := 79) C fX3_79 dX3_readGroups_76 rfl HQb.1 rfl ?_
            refine g_callVi (x := (gat t (q2.f 8))) (q := 82) (As := [.int ((q2.f 8))]) C gyX4_at gvX4_at t_521 (c_X4_at_w HTb) dX3_readGroups_79 rfl (gRw.obj HTb) rfl rfl rfl (Nat.le_of_ble_eq_true rfl) (Nat.le_of_ble_eq_true rfl) (Nat.le_of_ble_eq_true rfl) (Nat.le_of_ble_eq_true rfl) (Nat.le_of_ble_eq_true rfl) rfl ?_
            refine g_callVix (x := (rX3_readGroupByte q2 (nI g) 1 (gat t (q2.f 8))).1) (q := 85) (As := [.int ((nI g)), .int 1, .int ((gat t (q2.f 8)))]) C gyX3_readGroupByte gvX3_readGroupByte t_529 (c_X3_readGroupByte_119 HQb) dX3_readGroups_82 rfl HQb.1 rfl rfl rfl (Nat.le_of_ble_eq_true rfl) (Nat.le_of_ble_eq_true rfl) (Nat.le_of_ble_eq_true rfl) (Nat.le_of_ble_eq_true rfl) (Nat.le_of_ble_eq_true rfl) rfl (fun h5 z5 => ?_)
            obtain ⟨HQ5, fq5⟩ := z5
            have HT5 := gRw.ra HTb (by decide) fq5
            refine g_istore (q := 87) C dX3_readGroups_85 (Nat.le_of_ble_eq_true rfl) (by simp only [gset]; rfl) rfl ?_
            refine g_iload (q := 89) C dX3_readGroups_87 rfl rfl ?_
            refine g_if_eq (t := 102) (q := 92) C dX3_readGroups_89 (by decide) rfl (fun c_89 => ?_) (fun c_89 => ?_)
            ·
              refine g_aload_n (q := 103) C dX3_readGroups_102 rfl rfl ?_
              refine g_dup (q := 104) C dX3_readGroups_103 rfl rfl ?_
              refine g_getfield (v := .int ((((rX3_readGroupByte q2 (nI g) 1 (gat t (q2.f 8))).2).f 8))) (q := 107) C fX3_79 dX3_readGroups_104 rfl HQ5.1 rfl ?_
              refine g_iconst (v := 1) (q := 108) C dX3_readGroups_107 (by decide) rfl ?_
              refine g_iadd (q := 109) C dX3_readGroups_108 rfl ?_
              refine g_putfield (q := 112) C fX3_79 dX3_readGroups_109 rfl HQ5.1 (Nat.le_of_ble_eq_true rfl) (Or.inl rfl) rfl rfl (by intro z h; cases h) ?_
              refine rqput (j := 8) (x := ((((rX3_readGroupByte q2 (nI g) 1 (gat t (q2.f 8))).2).f 8) + 1)) HQ5 rfl fun h6 HQ6 fq6 => ?_
              have HT6 := gRw.ra HT5 (by decide) fq6
              refine g_iinc (v := 2) (q := 115) C dX3_readGroups_112 rfl (by decide) (by simp only [gset]; rfl) rfl ?_
              refine g_goto (q := 32) C dX3_readGroups_115 (by decide) ?_
              exact J2 _ _ _ HQ6 HT6 (rqF.trans (rqF.trans fqb fq5) fq6) (by rw [← hr2, show rL t (nI g) (q1.f 9) 1 (0, q2) = (0, ((rX3_readGroupByte q2 (nI g) 1 (gat t (q2.f 8))).2.set 8 ((rX3_readGroupByte q2 (nI g) 1 (gat t (q2.f 8))).2.f 8 + 1))) from (if_pos rfl).trans ((if_neg c_44).trans ((if_neg (by rw [Int32.not_le]; exact c_58)).trans (if_pos c_89)))])
            ·
              refine g_aload_n (q := 93) C dX3_readGroups_92 rfl rfl ?_
              refine g_getfield (v := .int ((((rX3_readGroupByte q2 (nI g) 1 (gat t (q2.f 8))).2).f 8))) (q := 96) C fX3_79 dX3_readGroups_93 rfl HQ5.1 rfl ?_
              refine g_iload (q := 98) C dX3_readGroups_96 rfl rfl ?_
              refine g_callSi (x := (8 * (((rX3_readGroupByte q2 (nI g) 1 (gat t (q2.f 8))).2).f 8) + (rX3_readGroupByte q2 (nI g) 1 (gat t (q2.f 8))).1)) (q := 101) (As := [.int ((((rX3_readGroupByte q2 (nI g) 1 (gat t (q2.f 8))).2).f 8)), .int ((rX3_readGroupByte q2 (nI g) 1 (gat t (q2.f 8))).1)]) C gyX3_faultAt t_519 t_518 (c_X3_faultAt_x) dX3_readGroups_98 rfl rfl rfl (Nat.le_of_ble_eq_true rfl) (Nat.le_of_ble_eq_true rfl) (Nat.le_of_ble_eq_true rfl) (Nat.le_of_ble_eq_true rfl) (Nat.le_of_ble_eq_true rfl) rfl ?_
              have hst : ¬ (((8 * (rX3_readGroupByte q2 (nI g) 1 (gat t (q2.f 8))).2.f 8 + (rX3_readGroupByte q2 (nI g) 1 (gat t (q2.f 8))).1, (rX3_readGroupByte q2 (nI g) 1 (gat t (q2.f 8))).2) : Int32 × rq)).1 = 0 := rGbx c_89
              have e : rL t (nI g) (q1.f 9) 1 (0, q2) = (8 * (rX3_readGroupByte q2 (nI g) 1 (gat t (q2.f 8))).2.f 8 + (rX3_readGroupByte q2 (nI g) 1 (gat t (q2.f 8))).1, (rX3_readGroupByte q2 (nI g) 1 (gat t (q2.f 8))).2) := (if_pos rfl).trans ((if_neg c_44).trans ((if_neg (by rw [Int32.not_le]; exact c_58)).trans (if_neg c_89)))
              rw [e, rL_st (k := 2) hst, rL_st (k := 3) hst, rGs_st hst] at hr2
              exact E.1 _ _ _ _ _ _ _ dX3_readGroups_101 rfl rfl (Nat.le_of_ble_eq_true rfl) (Nat.le_of_ble_eq_true rfl) ⟨by rw [hF, ← hr2], by rw [hF, ← hr2]; exact ⟨HQ5, (rqF.trans fqb fq5)⟩⟩
          ·
            refine g_aload_n (q := 62) C dX3_readGroups_61 rfl rfl ?_
            refine g_getfield (v := .int ((q2.f 8))) (q := 65) C fX3_79 dX3_readGroups_62 rfl HQb.1 rfl ?_
            refine g_iconst (v := 1) (q := 66) C dX3_readGroups_65 (by decide) rfl ?_
            refine g_callSi (x := (8 * (q2.f 8) + 1)) (q := 69) (As := [.int ((q2.f 8)), .int 1]) C gyX3_faultAt t_519 t_518 (c_X3_faultAt_x) dX3_readGroups_66 rfl rfl rfl (Nat.le_of_ble_eq_true rfl) (Nat.le_of_ble_eq_true rfl) (Nat.le_of_ble_eq_true rfl) (Nat.le_of_ble_eq_true rfl) (Nat.le_of_ble_eq_true rfl) rfl ?_
            have hst : ¬ (((8 * q2.f 8 + 1, q2) : Int32 × rq)).1 = 0 := gx8 (c := 1) (by decide) (by decide)
            have e : rL t (nI g) (q1.f 9) 1 (0, q2) = (8 * q2.f 8 + 1, q2) := (if_pos rfl).trans ((if_neg c_44).trans (if_pos (Int32.not_lt.mp c_58)))
            rw [e, rL_st (k := 2) hst, rL_st (k := 3) hst, rGs_st hst] at hr2
            exact E.1 _ _ _ _ _ _ _ dX3_readGroups_69 rfl rfl (Nat.le_of_ble_eq_true rfl) (Nat.le_of_ble_eq_true rfl) ⟨by rw [hF, ← hr2], by rw [hF, ← hr2]; exact ⟨HQb, fqb⟩⟩
        ·
          refine g_goto (q := 112) C dX3_readGroups_47 (by decide) ?_
          refine g_iinc (v := 2) (q := 115) C dX3_readGroups_112 rfl (by decide) (by simp only [gset]; rfl) rfl ?_
          refine g_goto (q := 32) C dX3_readGroups_115 (by decide) ?_
          exact J2 _ _ _ HQb HTb fqb (by rw [← hr2, show rL t (nI g) (q1.f 9) 1 (0, q2) = (0, q2) from (if_pos rfl).trans (if_pos (c_44))])
      have J0 : ∀ (q2 : rq) (hb : List gA) (x5 : Option Value), rqH hb 119 q2 l → gRw hb 1 2 96 t → rqF 119 hp hb → rGs t n (g + 1) (rL t (nI g) (q1.f 9) 3 (rL t (nI g) (q1.f 9) 2 (rL t (nI g) (q1.f 9) 1 (rL t (nI g) (q1.f 9) 0 (0, q2))))) = F → gG X 32 [some (.ref 119), some (.ref 1), some (.int ((nI g))), some (.int ((q1.f 9))), some (.int 0), x5] [] hb 0 0 := by
        intro q2 hb x5 HQb HTb fqb hr2
        refine g_iload (q := 34) C dX3_readGroups_32 rfl rfl ?_
        refine g_iconst (v := 4) (q := 35) C dX3_readGroups_34 (by decide) rfl ?_
        refine g_icmp_ge_f (t := 118) (q := 38) C dX3_readGroups_35 (by decide) rfl (by decide) ?_
        refine g_iload_n (q := 39) C dX3_readGroups_38 rfl rfl ?_
        refine g_iload (q := 41) C dX3_readGroups_39 rfl rfl ?_
        refine g_ishr (q := 42) C dX3_readGroups_41 rfl ?_
        refine g_iconst (v := 1) (q := 43) C dX3_readGroups_42 (by decide) rfl ?_
        refine g_iand (q := 44) C dX3_readGroups_43 rfl ?_
        refine g_if_ne (t := 50) (q := 47) C dX3_readGroups_44 (by decide) rfl (fun c_44 => ?_) (fun c_44 => ?_)
        ·
          refine g_aload_n (q := 51) C dX3_readGroups_50 rfl rfl ?_
          refine g_getfield (v := .int ((q2.f 8))) (q := 54) C fX3_79 dX3_readGroups_51 rfl HQb.1 rfl ?_
          refine g_aload_n (q := 55) C dX3_readGroups_54 rfl rfl ?_
          refine g_callVi (x := (nI t.length)) (q := 58) (As := []) C gyX4_size gvX4_size t_517 (c_X4_size (gRw.obj HTb)) dX3_readGroups_55 rfl (gRw.obj HTb) rfl rfl rfl (Nat.le_of_ble_eq_true rfl) (Nat.le_of_ble_eq_true rfl) (Nat.le_of_ble_eq_true rfl) (Nat.le_of_ble_eq_true rfl) (Nat.le_of_ble_eq_true rfl) rfl ?_
          refine g_icmp_lt (t := 70) (q := 61) C dX3_readGroups_58 (by decide) rfl (fun c_58 => ?_) (fun c_58 => ?_)
          ·
            refine g_aload_n (q := 71) C dX3_readGroups_70 rfl rfl ?_
            refine g_iload_n (q := 72) C dX3_readGroups_71 rfl rfl ?_
            refine g_iload (q := 74) C dX3_readGroups_72 rfl rfl ?_
            refine g_aload_n (q := 75) C dX3_readGroups_74 rfl rfl ?_
            refine g_aload_n (q := 76) C dX3_readGroups_75 rfl rfl ?_
            refine g_getfield (v := .int ((q2.f 8))) (q := 79) C fX3_79 dX3_readGroups_76 rfl HQb.1 rfl ?_
            refine g_callVi (x := (gat t (q2.f 8))) (q := 82) (As := [.int ((q2.f 8))]) C gyX4_at gvX4_at t_521 (c_X4_at_w HTb) dX3_readGroups_79 rfl (gRw.obj HTb) rfl rfl rfl (Nat.le_of_ble_eq_true rfl) (Nat.le_of_ble_eq_true rfl) (Nat.le_of_ble_eq_true rfl) (Nat.le_of_ble_eq_true rfl) (Nat.le_of_ble_eq_true rfl) rfl ?_
            refine g_callVix (x := (rX3_readGroupByte q2 (nI g) 0 (gat t (q2.f 8))).1) (q := 85) (As := [.int ((nI g)), .int 0, .int ((gat t (q2.f 8)))]) C gyX3_readGroupByte gvX3_readGroupByte t_529 (c_X3_readGroupByte_119 HQb) dX3_readGroups_82 rfl HQb.1 rfl rfl rfl (Nat.le_of_ble_eq_true rfl) (Nat.le_of_ble_eq_true rfl) (Nat.le_of_ble_eq_true rfl) (Nat.le_of_ble_eq_true rfl) (Nat.le_of_ble_eq_true rfl) rfl (fun h7 z7 => ?_)
            obtain ⟨HQ7, fq7⟩ := z7
            have HT7 := gRw.ra HTb (by decide) fq7
            refine g_istore (q := 87) C dX3_readGroups_85 (Nat.le_of_ble_eq_true rfl) (by simp only [gset]; rfl) rfl ?_
            refine g_iload (q := 89) C dX3_readGroups_87 rfl rfl ?_
            refine g_if_eq (t := 102) (q := 92) C dX3_readGroups_89 (by decide) rfl (fun c_89 => ?_) (fun c_89 => ?_)
            ·
              refine g_aload_n (q := 103) C dX3_readGroups_102 rfl rfl ?_
              refine g_dup (q := 104) C dX3_readGroups_103 rfl rfl ?_
              refine g_getfield (v := .int ((((rX3_readGroupByte q2 (nI g) 0 (gat t (q2.f 8))).2).f 8))) (q := 107) C fX3_79 dX3_readGroups_104 rfl HQ7.1 rfl ?_
              refine g_iconst (v := 1) (q := 108) C dX3_readGroups_107 (by decide) rfl ?_
              refine g_iadd (q := 109) C dX3_readGroups_108 rfl ?_
              refine g_putfield (q := 112) C fX3_79 dX3_readGroups_109 rfl HQ7.1 (Nat.le_of_ble_eq_true rfl) (Or.inl rfl) rfl rfl (by intro z h; cases h) ?_
              refine rqput (j := 8) (x := ((((rX3_readGroupByte q2 (nI g) 0 (gat t (q2.f 8))).2).f 8) + 1)) HQ7 rfl fun h8 HQ8 fq8 => ?_
              have HT8 := gRw.ra HT7 (by decide) fq8
              refine g_iinc (v := 1) (q := 115) C dX3_readGroups_112 rfl (by decide) (by simp only [gset]; rfl) rfl ?_
              refine g_goto (q := 32) C dX3_readGroups_115 (by decide) ?_
              exact J1 _ _ _ HQ8 HT8 (rqF.trans (rqF.trans fqb fq7) fq8) (by rw [← hr2, show rL t (nI g) (q1.f 9) 0 (0, q2) = (0, ((rX3_readGroupByte q2 (nI g) 0 (gat t (q2.f 8))).2.set 8 ((rX3_readGroupByte q2 (nI g) 0 (gat t (q2.f 8))).2.f 8 + 1))) from (if_pos rfl).trans ((if_neg c_44).trans ((if_neg (by rw [Int32.not_le]; exact c_58)).trans (if_pos c_89)))])
            ·
              refine g_aload_n (q := 93) C dX3_readGroups_92 rfl rfl ?_
              refine g_getfield (v := .int ((((rX3_readGroupByte q2 (nI g) 0 (gat t (q2.f 8))).2).f 8))) (q := 96) C fX3_79 dX3_readGroups_93 rfl HQ7.1 rfl ?_
              refine g_iload (q := 98) C dX3_readGroups_96 rfl rfl ?_
              refine g_callSi (x := (8 * (((rX3_readGroupByte q2 (nI g) 0 (gat t (q2.f 8))).2).f 8) + (rX3_readGroupByte q2 (nI g) 0 (gat t (q2.f 8))).1)) (q := 101) (As := [.int ((((rX3_readGroupByte q2 (nI g) 0 (gat t (q2.f 8))).2).f 8)), .int ((rX3_readGroupByte q2 (nI g) 0 (gat t (q2.f 8))).1)]) C gyX3_faultAt t_519 t_518 (c_X3_faultAt_x) dX3_readGroups_98 rfl rfl rfl (Nat.le_of_ble_eq_true rfl) (Nat.le_of_ble_eq_true rfl) (Nat.le_of_ble_eq_true rfl) (Nat.le_of_ble_eq_true rfl) (Nat.le_of_ble_eq_true rfl) rfl ?_
              have hst : ¬ (((8 * (rX3_readGroupByte q2 (nI g) 0 (gat t (q2.f 8))).2.f 8 + (rX3_readGroupByte q2 (nI g) 0 (gat t (q2.f 8))).1, (rX3_readGroupByte q2 (nI g) 0 (gat t (q2.f 8))).2) : Int32 × rq)).1 = 0 := rGbx c_89
              have e : rL t (nI g) (q1.f 9) 0 (0, q2) = (8 * (rX3_readGroupByte q2 (nI g) 0 (gat t (q2.f 8))).2.f 8 + (rX3_readGroupByte q2 (nI g) 0 (gat t (q2.f 8))).1, (rX3_readGroupByte q2 (nI g) 0 (gat t (q2.f 8))).2) := (if_pos rfl).trans ((if_neg c_44).trans ((if_neg (by rw [Int32.not_le]; exact c_58)).trans (if_neg c_89)))
              rw [e, rL_st (k := 1) hst, rL_st (k := 2) hst, rL_st (k := 3) hst, rGs_st hst] at hr2
              exact E.1 _ _ _ _ _ _ _ dX3_readGroups_101 rfl rfl (Nat.le_of_ble_eq_true rfl) (Nat.le_of_ble_eq_true rfl) ⟨by rw [hF, ← hr2], by rw [hF, ← hr2]; exact ⟨HQ7, (rqF.trans fqb fq7)⟩⟩
          ·
            refine g_aload_n (q := 62) C dX3_readGroups_61 rfl rfl ?_
            refine g_getfield (v := .int ((q2.f 8))) (q := 65) C fX3_79 dX3_readGroups_62 rfl HQb.1 rfl ?_
            refine g_iconst (v := 1) (q := 66) C dX3_readGroups_65 (by decide) rfl ?_
            refine g_callSi (x := (8 * (q2.f 8) + 1)) (q := 69) (As := [.int ((q2.f 8)), .int 1]) C gyX3_faultAt t_519 t_518 (c_X3_faultAt_x) dX3_readGroups_66 rfl rfl rfl (Nat.le_of_ble_eq_true rfl) (Nat.le_of_ble_eq_true rfl) (Nat.le_of_ble_eq_true rfl) (Nat.le_of_ble_eq_true rfl) (Nat.le_of_ble_eq_true rfl) rfl ?_
            have hst : ¬ (((8 * q2.f 8 + 1, q2) : Int32 × rq)).1 = 0 := gx8 (c := 1) (by decide) (by decide)
            have e : rL t (nI g) (q1.f 9) 0 (0, q2) = (8 * q2.f 8 + 1, q2) := (if_pos rfl).trans ((if_neg c_44).trans (if_pos (Int32.not_lt.mp c_58)))
            rw [e, rL_st (k := 1) hst, rL_st (k := 2) hst, rL_st (k := 3) hst, rGs_st hst] at hr2
            exact E.1 _ _ _ _ _ _ _ dX3_readGroups_69 rfl rfl (Nat.le_of_ble_eq_true rfl) (Nat.le_of_ble_eq_true rfl) ⟨by rw [hF, ← hr2], by rw [hF, ← hr2]; exact ⟨HQb, fqb⟩⟩
        ·
          refine g_goto (q := 112) C dX3_readGroups_47 (by decide) ?_
          refine g_iinc (v := 1) (q := 115) C dX3_readGroups_112 rfl (by decide) (by simp only [gset]; rfl) rfl ?_
          refine g_goto (q := 32) C dX3_readGroups_115 (by decide) ?_
          exact J1 _ _ _ HQb HTb fqb (by rw [← hr2, show rL t (nI g) (q1.f 9) 0 (0, q2) = (0, q2) from (if_pos rfl).trans (if_pos (c_44))])
      refine g_iload_n (q := 3) C dX3_readGroups_2 rfl rfl ?_
      refine g_iconst (v := 4) (q := 4) C dX3_readGroups_3 (by decide) rfl ?_
      refine g_icmp_gt_f (t := 124) (q := 7) C dX3_readGroups_4 (by decide) rfl (nI_le4 (by omega)) ?_
      refine g_aload_n (q := 8) C dX3_readGroups_7 rfl rfl ?_
      refine g_getfield (v := .int ((q1.f 9))) (q := 11) C fX3_76 dX3_readGroups_8 rfl HQa.1 rfl ?_
      refine g_if_eq (t := 124) (q := 14) C dX3_readGroups_11 (by decide) rfl (fun c_11 => ?_) (fun c_11 => ?_)
      ·
        refine g_iconst (v := 0) (q := 125) C dX3_readGroups_124 (by decide) rfl ?_
        have e : rGs t (n + 1) g (0, q1) = (0, q1) := (if_pos rfl).trans (if_pos c_11)
        exact E.1 _ _ _ _ _ _ _ dX3_readGroups_125 rfl rfl (Nat.le_of_ble_eq_true rfl) (Nat.le_of_ble_eq_true rfl) ⟨by rw [hF, ← hr, e], by rw [hF, ← hr, e]; exact ⟨HQa, fqa⟩⟩
      ·
        refine g_aload_n (q := 15) C dX3_readGroups_14 rfl rfl ?_
        refine g_iload_n (q := 16) C dX3_readGroups_15 rfl rfl ?_
        refine g_putfield (q := 19) C fX3_48 dX3_readGroups_16 rfl HQa.1 (Nat.le_of_ble_eq_true rfl) (Or.inl rfl) rfl rfl (by intro z h; cases h) ?_
        refine rqput (j := 4) (x := (nI g)) HQa rfl fun h9 HQ9 fq9 => ?_
        have HT9 := gRw.ra HTa (by decide) fq9
        refine g_aload_n (q := 20) C dX3_readGroups_19 rfl rfl ?_
        refine g_getfield (v := .int ((q1.f 9))) (q := 23) C fX3_76 dX3_readGroups_20 rfl HQ9.1 rfl ?_
        refine g_istore_n (q := 24) C dX3_readGroups_23 (Nat.le_of_ble_eq_true rfl) (by simp only [gset]; rfl) rfl ?_
        refine g_aload_n (q := 25) C dX3_readGroups_24 rfl rfl ?_
        refine g_iconst (v := 0) (q := 26) C dX3_readGroups_25 (by decide) rfl ?_
        refine g_putfield (q := 29) C fX3_76 dX3_readGroups_26 rfl HQ9.1 (Nat.le_of_ble_eq_true rfl) (Or.inl rfl) rfl rfl (by intro z h; cases h) ?_
        refine rqput (j := 9) (x := 0) HQ9 rfl fun h10 HQ10 fq10 => ?_
        have HT10 := gRw.ra HT9 (by decide) fq10
        refine g_iconst (v := 0) (q := 30) C dX3_readGroups_29 (by decide) rfl ?_
        refine g_istore (q := 32) C dX3_readGroups_30 (Nat.le_of_ble_eq_true rfl) (by simp only [gset]; rfl) rfl ?_
        exact J0 _ _ _ HQ10 HT10 (rqF.trans (rqF.trans fqa fq9) fq10) (by rw [← hr]; exact ((if_pos rfl).trans (if_neg c_11)).symm)
  refine g_iconst (v := 1) (q := 1) C dX3_readGroups_0 (by decide) rfl ?_
  refine g_istore_n (q := 2) C dX3_readGroups_1 (Nat.le_of_ble_eq_true rfl) (by simp only [gset]; rfl) rfl ?_
  exact K 4 1 q hp _ _ _ rfl (by decide) HQ HT rqF.rf hF
set_option maxRecDepth 100000 in
set_option maxHeartbeats 4000000 in
theorem c_X3_readTail_119 {hp : List gA} {q : rq} {t : List Int32} {n : Nat} (HQ : rqH hp 119 q []) (HT : gRw hp 1 2 96 t) (hn : n ≤ 15) (hP : rP t q) : gM yX3_readTail cX3_readTail 5 ((some .int)) 3 103 [.ref 119, .ref 1, .int (nI n)] (hp) (0) (0) (fun v h => v = some (.int (rE t (rC t (rH t n (0, (q, []))))).1) ∧ (rqH h 119 (rE t (rC t (rH t n (0, (q, []))))).2.1 (rE t (rC t (rH t n (0, (q, []))))).2.2 ∧ rqF 119 hp h)) := by
  refine gM_of (ls0 := [some (.ref 119), some (.ref 1), some (.int (nI n)), none, none]) (by decide +kernel) (Nat.le_of_ble_eq_true rfl) rfl fun X C E => ?_
  have ht := (gRw.le HT).1
  obtain ⟨F, hF⟩ : ∃ F, rE t (rC t (rH t n (0, (q, [])))) = F := ⟨_, rfl⟩
  have KE : ∀ (q1 : rq) (l1 : List Int32) (ha : List gA) (x3 x4 : Option Value), rqH ha 119 q1 l1 → gRw ha 1 2 96 t → rqF 119 hp ha → rE t (0, (q1, l1)) = F → gG X 138 [some (.ref 119), some (.ref 1), some (.int ((nI n))), x3, x4] [] ha 0 0 := by
    intro q1 l1 ha x3 x4 HQa HTa fqa hr
    refine g_aload_n (q := 139) C dX3_readTail_138 rfl rfl ?_
    refine g_getfield (v := .int ((q1.f 8))) (q := 142) C fX3_79 dX3_readTail_139 rfl HQa.1 rfl ?_
    refine g_aload_n (q := 143) C dX3_readTail_142 rfl rfl ?_
    refine g_callVi (x := (nI t.length)) (q := 146) (As := []) C gyX4_size gvX4_size t_517 (c_X4_size (gRw.obj HTa)) dX3_readTail_143 rfl (gRw.obj HTa) rfl rfl rfl (Nat.le_of_ble_eq_true rfl) (Nat.le_of_ble_eq_true rfl) (Nat.le_of_ble_eq_true rfl) (Nat.le_of_ble_eq_true rfl) (Nat.le_of_ble_eq_true rfl) rfl ?_
    refine g_icmp_ge (t := 161) (q := 149) C dX3_readTail_146 (by decide) rfl (fun c_146 => ?_) (fun c_146 => ?_)
    ·
      refine g_iconst (v := 0) (q := 162) C dX3_readTail_161 (by decide) rfl ?_
      have e : rE t (0, (q1, l1)) = (0, (q1, l1)) := (if_pos rfl).trans (if_pos c_146)
      exact E.1 _ _ _ _ _ _ _ dX3_readTail_162 rfl rfl (Nat.le_of_ble_eq_true rfl) (Nat.le_of_ble_eq_true rfl) ⟨by rw [hF, ← hr, e], by rw [hF, ← hr, e]; exact ⟨HQa, fqa⟩⟩
    ·
      refine g_aload_n (q := 150) C dX3_readTail_149 rfl rfl ?_
      refine g_getfield (v := .int ((q1.f 8))) (q := 153) C fX3_79 dX3_readTail_150 rfl HQa.1 rfl ?_
      refine g_bipush (v := 7) (q := 155) C dX3_readTail_153 (by decide) rfl ?_
      refine g_callSi (x := (8 * (q1.f 8) + 7)) (q := 158) (As := [.int ((q1.f 8)), .int 7]) C gyX3_faultAt t_519 t_518 (c_X3_faultAt_x) dX3_readTail_155 rfl rfl rfl (Nat.le_of_ble_eq_true rfl) (Nat.le_of_ble_eq_true rfl) (Nat.le_of_ble_eq_true rfl) (Nat.le_of_ble_eq_true rfl) (Nat.le_of_ble_eq_true rfl) rfl ?_
      refine g_goto (q := 162) C dX3_readTail_158 (by decide) ?_
      have e : rE t (0, (q1, l1)) = (8 * q1.f 8 + 7, (q1, l1)) := (if_pos rfl).trans (if_neg c_146)
      exact E.1 _ _ _ _ _ _ _ dX3_readTail_162 rfl rfl (Nat.le_of_ble_eq_true rfl) (Nat.le_of_ble_eq_true rfl) ⟨by rw [hF, ← hr, e], by rw [hF, ← hr, e]; exact ⟨HQa, fqa⟩⟩
  have KC : ∀ (q1 : rq) (l1 : List Int32) (ha : List gA) (x3 x4 : Option Value), rqH ha 119 q1 l1 → gRw ha 1 2 96 t → rqF 119 hp ha → rP t q1 → rE t (rC t (0, (q1, l1))) = F → gG X 58 [some (.ref 119), some (.ref 1), some (.int ((nI n))), x3, x4] [] ha 0 0 := by
    intro q1 l1 ha x3 x4 HQa HTa fqa hP hr
    obtain ⟨p, hp1, ep⟩ := hP
    refine g_aload_n (q := 59) C dX3_readTail_58 rfl rfl ?_
    refine g_getfield (v := .int ((q1.f 6))) (q := 62) C fX3_54 dX3_readTail_59 rfl HQa.1 rfl ?_
    refine g_if_eq (t := 138) (q := 65) C dX3_readTail_62 (by decide) rfl (fun c_62 => ?_) (fun c_62 => ?_)
    ·
      exact KE q1 l1 ha _ _ HQa HTa fqa (by rw [← hr, show rC t (0, (q1, l1)) = (0, (q1, l1)) from (if_pos rfl).trans (if_pos c_62)])
    ·
      refine g_aload_n (q := 66) C dX3_readTail_65 rfl rfl ?_
      refine g_getfield (v := .int ((q1.f 8))) (q := 69) C fX3_79 dX3_readTail_66 rfl HQa.1 rfl ?_
      refine g_aload_n (q := 70) C dX3_readTail_69 rfl rfl ?_
      refine g_callVi (x := (nI t.length)) (q := 73) (As := []) C gyX4_size gvX4_size t_517 (c_X4_size (gRw.obj HTa)) dX3_readTail_70 rfl (gRw.obj HTa) rfl rfl rfl (Nat.le_of_ble_eq_true rfl) (Nat.le_of_ble_eq_true rfl) (Nat.le_of_ble_eq_true rfl) (Nat.le_of_ble_eq_true rfl) (Nat.le_of_ble_eq_true rfl) rfl ?_
      refine g_icmp_lt (t := 85) (q := 76) C dX3_readTail_73 (by decide) rfl (fun c_73 => ?_) (fun c_73 => ?_)
      ·
        refine g_iconst (v := 0) (q := 86) C dX3_readTail_85 (by decide) rfl ?_
        refine g_istore_n (q := 87) C dX3_readTail_86 (Nat.le_of_ble_eq_true rfl) (by simp only [gset]; rfl) rfl ?_
        refine g_iconst (v := 1) (q := 88) C dX3_readTail_87 (by decide) rfl ?_
        refine g_istore (q := 90) C dX3_readTail_88 (Nat.le_of_ble_eq_true rfl) (by simp only [gset]; rfl) rfl ?_
        have lt : p < t.length := by
          by_cases lt : p < t.length
          · exact lt
          · exact absurd (by rw [ep]; exact nI_le (by omega) (by omega)) (by rw [Int32.not_le]; exact c_73)
        have LX : ∀ d j : Nat, j + d = p → gG X 90 [some (.ref 119), some (.ref 1), some (.int ((nI n))), some (.int ((rXo t j))), some (.int ((nI (j + 1))))] [] ha 0 0 := by
          intro d
          induction d with
          | zero =>
            intro j hj
            obtain rfl : j = p := by omega
            refine g_iload (q := 92) C dX3_readTail_90 rfl rfl ?_
            refine g_aload_n (q := 93) C dX3_readTail_92 rfl rfl ?_
            refine g_getfield (v := .int ((q1.f 8))) (q := 96) C fX3_79 dX3_readTail_93 rfl HQa.1 rfl ?_
            refine g_icmp_gt_t (t := 114) C dX3_readTail_96 (by decide) (by rw [ep]; exact nI_lt (by omega) (by omega)) ?_
            refine g_iload_n (q := 115) C dX3_readTail_114 rfl rfl ?_
            refine g_if_eq (t := 128) (q := 118) C dX3_readTail_115 (by decide) rfl (fun c_115 => ?_) (fun c_115 => ?_)
            ·
              refine g_aload_n (q := 129) C dX3_readTail_128 rfl rfl ?_
              refine g_dup (q := 130) C dX3_readTail_129 rfl rfl ?_
              refine g_getfield (v := .int ((q1.f 8))) (q := 133) C fX3_79 dX3_readTail_130 rfl HQa.1 rfl ?_
              refine g_iconst (v := 1) (q := 134) C dX3_readTail_133 (by decide) rfl ?_
              refine g_iadd (q := 135) C dX3_readTail_134 rfl ?_
              refine g_putfield (q := 138) C fX3_79 dX3_readTail_135 rfl HQa.1 (Nat.le_of_ble_eq_true rfl) (Or.inl rfl) rfl rfl (by intro z h; cases h) ?_
              refine rqput (j := 8) (x := ((q1.f 8) + 1)) HQa rfl fun h1 HQ1 fq1 => ?_
              have HT1 := gRw.ra HTa (by decide) fq1
              exact KE _ _ _ _ _ HQ1 HT1 (rqF.trans fqa fq1) (by rw [← hr, show rC t (0, (q1, l1)) = (0, (q1.set 8 (q1.f 8 + 1), l1)) from (if_pos rfl).trans ((if_neg c_62).trans ((if_neg (by rw [Int32.not_le]; exact c_73)).trans (if_pos (by rw [ep, nI_clamp (by omega)]; exact c_115))))])
            ·
              refine g_aload_n (q := 119) C dX3_readTail_118 rfl rfl ?_
              refine g_getfield (v := .int ((q1.f 8))) (q := 122) C fX3_79 dX3_readTail_119 rfl HQa.1 rfl ?_
              refine g_bipush (v := 6) (q := 124) C dX3_readTail_122 (by decide) rfl ?_
              refine g_callSi (x := (8 * (q1.f 8) + 6)) (q := 127) (As := [.int ((q1.f 8)), .int 6]) C gyX3_faultAt t_519 t_518 (c_X3_faultAt_x) dX3_readTail_124 rfl rfl rfl (Nat.le_of_ble_eq_true rfl) (Nat.le_of_ble_eq_true rfl) (Nat.le_of_ble_eq_true rfl) (Nat.le_of_ble_eq_true rfl) (Nat.le_of_ble_eq_true rfl) rfl ?_
              have hst : ¬ (((8 * q1.f 8 + 6, (q1, l1)) : Int32 × (rq × List Int32))).1 = 0 := gx8 (c := 6) (by decide) (by decide)
              have e : rC t (0, (q1, l1)) = (8 * q1.f 8 + 6, (q1, l1)) := (if_pos rfl).trans ((if_neg c_62).trans ((if_neg (by rw [Int32.not_le]; exact c_73)).trans (if_neg (by rw [ep, nI_clamp (by omega)]; exact c_115))))
              rw [e, rE_st hst] at hr
              exact E.1 _ _ _ _ _ _ _ dX3_readTail_127 rfl rfl (Nat.le_of_ble_eq_true rfl) (Nat.le_of_ble_eq_true rfl) ⟨by rw [hF, ← hr], by rw [hF, ← hr]; exact ⟨HQa, fqa⟩⟩
          | succ d ih =>
            intro j hj
            refine g_iload (q := 92) C dX3_readTail_90 rfl rfl ?_
            refine g_aload_n (q := 93) C dX3_readTail_92 rfl rfl ?_
            refine g_getfield (v := .int ((q1.f 8))) (q := 96) C fX3_79 dX3_readTail_93 rfl HQa.1 rfl ?_
            refine g_icmp_gt_f (t := 114) (q := 99) C dX3_readTail_96 (by decide) rfl (by rw [ep, nI_ltI (by omega) (by omega)]; omega) ?_
            refine g_iload_n (q := 100) C dX3_readTail_99 rfl rfl ?_
            refine g_aload_n (q := 101) C dX3_readTail_100 rfl rfl ?_
            refine g_iload (q := 103) C dX3_readTail_101 rfl rfl ?_
            refine g_callVi (x := (gat t (nI (j + 1)))) (q := 106) (As := [.int ((nI (j + 1)))]) C gyX4_at gvX4_at t_521 (c_X4_at_w HTa) dX3_readTail_103 rfl (gRw.obj HTa) rfl rfl rfl (Nat.le_of_ble_eq_true rfl) (Nat.le_of_ble_eq_true rfl) (Nat.le_of_ble_eq_true rfl) (Nat.le_of_ble_eq_true rfl) (Nat.le_of_ble_eq_true rfl) rfl ?_
            refine g_ixor (q := 107) C dX3_readTail_106 rfl ?_
            refine g_istore_n (q := 108) C dX3_readTail_107 (Nat.le_of_ble_eq_true rfl) (by simp only [gset]; rfl) rfl ?_
            refine g_iinc (v := (nI (j + 1 + 1))) (q := 111) C dX3_readTail_108 rfl (nI_1 (j + 1)) (by simp only [gset]; rfl) rfl ?_
            refine g_goto (q := 90) C dX3_readTail_111 (by decide) ?_
            exact ih (j + 1) (by omega)
        exact LX p 0 (by omega)
      ·
        refine g_aload_n (q := 77) C dX3_readTail_76 rfl rfl ?_
        refine g_getfield (v := .int ((q1.f 8))) (q := 80) C fX3_79 dX3_readTail_77 rfl HQa.1 rfl ?_
        refine g_iconst (v := 1) (q := 81) C dX3_readTail_80 (by decide) rfl ?_
        refine g_callSi (x := (8 * (q1.f 8) + 1)) (q := 84) (As := [.int ((q1.f 8)), .int 1]) C gyX3_faultAt t_519 t_518 (c_X3_faultAt_x) dX3_readTail_81 rfl rfl rfl (Nat.le_of_ble_eq_true rfl) (Nat.le_of_ble_eq_true rfl) (Nat.le_of_ble_eq_true rfl) (Nat.le_of_ble_eq_true rfl) (Nat.le_of_ble_eq_true rfl) rfl ?_
        have hst : ¬ (((8 * q1.f 8 + 1, (q1, l1)) : Int32 × (rq × List Int32))).1 = 0 := gx8 (c := 1) (by decide) (by decide)
        have e : rC t (0, (q1, l1)) = (8 * q1.f 8 + 1, (q1, l1)) := (if_pos rfl).trans ((if_neg c_62).trans (if_pos (Int32.not_lt.mp c_73)))
        rw [e, rE_st hst] at hr
        exact E.1 _ _ _ _ _ _ _ dX3_readTail_84 rfl rfl (Nat.le_of_ble_eq_true rfl) (Nat.le_of_ble_eq_true rfl) ⟨by rw [hF, ← hr], by rw [hF, ← hr]; exact ⟨HQa, fqa⟩⟩
  have KH : ∀ (d j : Nat) (q1 : rq) (l1 : List Int32) (ha : List gA) (x4 : Option Value), j + d = n → l1.length = j → rqH ha 119 q1 l1 → gRw ha 1 2 96 t → rqF 119 hp ha → rP t q1 → rE t (rC t (rH t d (0, (q1, l1)))) = F → gG X 2 [some (.ref 119), some (.ref 1), some (.int ((nI n))), some (.int ((nI j))), x4] [] ha 0 0 := by
    intro d
    induction d with
    | zero =>
      intro j q1 l1 ha x4 hj hl HQa HTa fqa hP hr
      obtain rfl : j = n := by omega
      refine g_iload_n (q := 3) C dX3_readTail_2 rfl rfl ?_
      refine g_iload_n (q := 4) C dX3_readTail_3 rfl rfl ?_
      refine g_icmp_ge_t (t := 58) C dX3_readTail_4 (by decide) (Int32.le_refl _) ?_
      exact KC q1 l1 ha _ _ HQa HTa fqa hP hr
    | succ d ih =>
      intro j q1 l1 ha x4 hj hl HQa HTa fqa hP hr
      obtain ⟨p, hp1, ep⟩ := hP
      refine g_iload_n (q := 3) C dX3_readTail_2 rfl rfl ?_
      refine g_iload_n (q := 4) C dX3_readTail_3 rfl rfl ?_
      refine g_icmp_ge_f (t := 58) (q := 7) C dX3_readTail_4 (by decide) rfl (by rw [Int32.not_le]; exact nI_lt (by omega) (by omega)) ?_
      refine g_aload_n (q := 8) C dX3_readTail_7 rfl rfl ?_
      refine g_getfield (v := .int ((q1.f 8))) (q := 11) C fX3_79 dX3_readTail_8 rfl HQa.1 rfl ?_
      refine g_aload_n (q := 12) C dX3_readTail_11 rfl rfl ?_
      refine g_callVi (x := (nI t.length)) (q := 15) (As := []) C gyX4_size gvX4_size t_517 (c_X4_size (gRw.obj HTa)) dX3_readTail_12 rfl (gRw.obj HTa) rfl rfl rfl (Nat.le_of_ble_eq_true rfl) (Nat.le_of_ble_eq_true rfl) (Nat.le_of_ble_eq_true rfl) (Nat.le_of_ble_eq_true rfl) (Nat.le_of_ble_eq_true rfl) rfl ?_
      refine g_icmp_lt (t := 27) (q := 18) C dX3_readTail_15 (by decide) rfl (fun c_15 => ?_) (fun c_15 => ?_)
      ·
        refine g_aload_n (q := 28) C dX3_readTail_27 rfl rfl ?_
        refine g_getfield (v := .ref 120) (q := 31) C fX3_14 dX3_readTail_28 rfl HQa.1 rfl ?_
        refine g_aload_n (q := 32) C dX3_readTail_31 rfl rfl ?_
        refine g_aload_n (q := 33) C dX3_readTail_32 rfl rfl ?_
        refine g_getfield (v := .int ((q1.f 8))) (q := 36) C fX3_79 dX3_readTail_33 rfl HQa.1 rfl ?_
        refine g_callVi (x := (gat t (q1.f 8))) (q := 39) (As := [.int ((q1.f 8))]) C gyX4_at gvX4_at t_521 (c_X4_at_w HTa) dX3_readTail_36 rfl (gRw.obj HTa) rfl rfl rfl (Nat.le_of_ble_eq_true rfl) (Nat.le_of_ble_eq_true rfl) (Nat.le_of_ble_eq_true rfl) (Nat.le_of_ble_eq_true rfl) (Nat.le_of_ble_eq_true rfl) rfl ?_
        refine g_callVvp (q := 42) (As := [.int ((gat t (q1.f 8)))]) C gyX4_add gvX4_add t_559 (c_X4_add_w HQa.2 (by omega)) dX3_readTail_39 rfl (gRw.obj HQa.2) rfl rfl rfl (Nat.le_of_ble_eq_true rfl) (Nat.le_of_ble_eq_true rfl) (Nat.le_of_ble_eq_true rfl) (Nat.le_of_ble_eq_true rfl) (Nat.le_of_ble_eq_true rfl) rfl (fun h2 z2 => ?_)
        obtain ⟨HQ2, fq2⟩ := rqrow HQa z2
        have HT2 := gRw.ra HTa (by decide) fq2
        refine g_aload_n (q := 43) C dX3_readTail_42 rfl rfl ?_
        refine g_dup (q := 44) C dX3_readTail_43 rfl rfl ?_
        refine g_getfield (v := .int ((q1.f 8))) (q := 47) C fX3_79 dX3_readTail_44 rfl HQ2.1 rfl ?_
        refine g_iconst (v := 1) (q := 48) C dX3_readTail_47 (by decide) rfl ?_
        refine g_iadd (q := 49) C dX3_readTail_48 rfl ?_
        refine g_putfield (q := 52) C fX3_79 dX3_readTail_49 rfl HQ2.1 (Nat.le_of_ble_eq_true rfl) (Or.inl rfl) rfl rfl (by intro z h; cases h) ?_
        refine rqput (j := 8) (x := ((q1.f 8) + 1)) HQ2 rfl fun h3 HQ3 fq3 => ?_
        have HT3 := gRw.ra HT2 (by decide) fq3
        refine g_iinc (v := (nI (j + 1))) (q := 55) C dX3_readTail_52 rfl (nI_1 j) (by simp only [gset]; rfl) rfl ?_
        have lt : p < t.length := by
          by_cases lt : p < t.length
          · exact lt
          · exact absurd (by rw [ep]; exact nI_le (by omega) (by omega)) (by rw [Int32.not_le]; exact c_15)
        refine g_goto (q := 2) C dX3_readTail_55 (by decide) ?_
        exact ih (j + 1) _ _ _ _ (by omega) (by rw [List.length_append, hl]; rfl) HQ3 HT3 (rqF.trans (rqF.trans fqa fq2) fq3) ⟨p + 1, lt, by rw [rq.set_s, ep]; exact nI_1 p⟩ (by rw [← hr, show rH t (d + 1) (0, (q1, l1)) = rH t d (0, (q1.set 8 (q1.f 8 + 1), l1 ++ [gat t (q1.f 8)])) from (if_pos rfl).trans (if_neg (by rw [Int32.not_le]; exact c_15))])
      ·
        refine g_aload_n (q := 19) C dX3_readTail_18 rfl rfl ?_
        refine g_getfield (v := .int ((q1.f 8))) (q := 22) C fX3_79 dX3_readTail_19 rfl HQa.1 rfl ?_
        refine g_iconst (v := 1) (q := 23) C dX3_readTail_22 (by decide) rfl ?_
        refine g_callSi (x := (8 * (q1.f 8) + 1)) (q := 26) (As := [.int ((q1.f 8)), .int 1]) C gyX3_faultAt t_519 t_518 (c_X3_faultAt_x) dX3_readTail_23 rfl rfl rfl (Nat.le_of_ble_eq_true rfl) (Nat.le_of_ble_eq_true rfl) (Nat.le_of_ble_eq_true rfl) (Nat.le_of_ble_eq_true rfl) (Nat.le_of_ble_eq_true rfl) rfl ?_
        have hst : ¬ (((8 * q1.f 8 + 1, (q1, l1)) : Int32 × (rq × List Int32))).1 = 0 := gx8 (c := 1) (by decide) (by decide)
        have e : rH t (d + 1) (0, (q1, l1)) = (8 * q1.f 8 + 1, (q1, l1)) := (if_pos rfl).trans (if_pos (Int32.not_lt.mp c_15))
        rw [e, rC_st hst, rE_st hst] at hr
        exact E.1 _ _ _ _ _ _ _ dX3_readTail_26 rfl rfl (Nat.le_of_ble_eq_true rfl) (Nat.le_of_ble_eq_true rfl) ⟨by rw [hF, ← hr], by rw [hF, ← hr]; exact ⟨HQa, fqa⟩⟩
  refine g_iconst (v := 0) (q := 1) C dX3_readTail_0 (by decide) rfl ?_
  refine g_istore_n (q := 2) C dX3_readTail_1 (Nat.le_of_ble_eq_true rfl) (by simp only [gset]; rfl) rfl ?_
  exact KH n 0 q [] hp _ (by omega) rfl HQ HT rqF.rf hP hF
set_option maxRecDepth 100000 in
set_option maxHeartbeats 4000000 in
theorem c_X3_read_119 {hp : List gA} {q : rq} {l t : List Int32} (HQ : rqH hp 119 q l) (HT : gRw hp 1 2 96 t) : gM yX3_read cX3_read 3 ((some .int)) 4 127 [.ref 119, .ref 1] (hp) (0) (0) (fun v h => v = some (.int (rRd q t).1) ∧ (rqH h 119 (rRd q t).2.1 (rRd q t).2.2 ∧ rqF 119 hp h)) := by
  refine gM_of (ls0 := [some (.ref 119), some (.ref 1), none]) (by decide +kernel) (Nat.le_of_ble_eq_true rfl) rfl fun X C E => ?_
  have ht := (gRw.le HT).1
  refine g_aload_n (q := 1) C dX3_read_0 rfl rfl ?_
  refine g_callVvp (q := 4) (As := []) C gyX3_clear gvX3_clear t_508 (c_X3_clear_119 HQ) dX3_read_1 rfl HQ.1 rfl rfl rfl (Nat.le_of_ble_eq_true rfl) (Nat.le_of_ble_eq_true rfl) (Nat.le_of_ble_eq_true rfl) (Nat.le_of_ble_eq_true rfl) (Nat.le_of_ble_eq_true rfl) rfl (fun h1 z1 => ?_)
  obtain ⟨HQ1, fq1⟩ := z1
  have HT1 := gRw.ra HT (by decide) fq1
  refine g_aload_n (q := 5) C dX3_read_4 rfl rfl ?_
  refine g_aload_n (q := 6) C dX3_read_5 rfl rfl ?_
  refine g_callVix (x := (rX3_readHead (rX3_clear q) t).1) (q := 9) (As := [.ref 1]) C gyX3_readHead gvX3_readHead t_513 (c_X3_readHead_119 HQ1 HT1) dX3_read_6 rfl HQ1.1 rfl rfl rfl (Nat.le_of_ble_eq_true rfl) (Nat.le_of_ble_eq_true rfl) (Nat.le_of_ble_eq_true rfl) (Nat.le_of_ble_eq_true rfl) (Nat.le_of_ble_eq_true rfl) rfl (fun h2 z2 => ?_)
  obtain ⟨HQ2, fq2⟩ := z2
  have HT2 := gRw.ra HT1 (by decide) fq2
  refine g_istore_n (q := 10) C dX3_read_9 (Nat.le_of_ble_eq_true rfl) (by simp only [gset]; rfl) rfl ?_
  refine g_iload_n (q := 11) C dX3_read_10 rfl rfl ?_
  refine g_if_ne (t := 20) (q := 14) C dX3_read_11 (by decide) rfl (fun c_11 => ?_) (fun c_11 => ?_)
  ·
    refine g_iload_n (q := 21) C dX3_read_20 rfl rfl ?_
    refine g_if_ne (t := 38) (q := 24) C dX3_read_21 (by decide) rfl (fun c_21 => ?_) (fun c_21 => ?_)
    ·
      refine g_iload_n (q := 39) C dX3_read_38 rfl rfl ?_
      have e : rRd q t = ((rX3_readHead (rX3_clear q) t).1, ((rX3_readHead (rX3_clear q) t).2, [])) := (if_neg c_11)
      exact E.1 _ _ _ _ _ _ _ dX3_read_39 rfl rfl (Nat.le_of_ble_eq_true rfl) (Nat.le_of_ble_eq_true rfl) ⟨by rw [e], by rw [e]; exact ⟨HQ2, (rqF.trans fq1 fq2)⟩⟩
    ·
      have h0 : (rX3_readHead (rX3_clear q) t).1 = 0 := c_11
      have h1 : (rGs t 4 1 (0, (rX3_readHead (rX3_clear q) t).2)).1 = 0 := c_21
      obtain ⟨n, hn, en⟩ := raAnd15 (a := gat t 1)
      refine g_aload_n (q := 25) C dX3_read_24 rfl rfl ?_
      refine g_aload_n (q := 26) C dX3_read_25 rfl rfl ?_
      refine g_aload_n (q := 27) C dX3_read_26 rfl rfl ?_
      refine g_iconst (v := 1) (q := 28) C dX3_read_27 (by decide) rfl ?_
      refine g_callVi (x := (gat t 1)) (q := 31) (As := [.int 1]) C gyX4_at gvX4_at t_521 (c_X4_at_w HT2) dX3_read_28 rfl (gRw.obj HT2) rfl rfl rfl (Nat.le_of_ble_eq_true rfl) (Nat.le_of_ble_eq_true rfl) (Nat.le_of_ble_eq_true rfl) (Nat.le_of_ble_eq_true rfl) (Nat.le_of_ble_eq_true rfl) rfl ?_
      refine g_bipush (v := 15) (q := 33) C dX3_read_31 (by decide) rfl ?_
      refine g_iand (q := 34) C dX3_read_33 rfl ?_
      rw [en]
      refine g_callVix (x := (rE t (rC t (rH t n (0, ((rGs t 4 1 (0, (rX3_readHead (rX3_clear q) t).2)).2, []))))).1) (q := 37) (As := [.ref 1, .int ((nI n))]) C gyX3_readTail gvX3_readTail t_555 (c_X3_readTail_119 HQ2 HT2 hn (rGs_P ht (fun _ => (rHead0 ht h0).1) h1)) dX3_read_34 rfl HQ2.1 rfl rfl rfl (Nat.le_of_ble_eq_true rfl) (Nat.le_of_ble_eq_true rfl) (Nat.le_of_ble_eq_true rfl) (Nat.le_of_ble_eq_true rfl) (Nat.le_of_ble_eq_true rfl) rfl (fun h3 z3 => ?_)
      obtain ⟨HQ3, fq3⟩ := z3
      have HT3 := gRw.ra HT2 (by decide) fq3
      refine g_istore_n (q := 38) C dX3_read_37 (Nat.le_of_ble_eq_true rfl) (by simp only [gset]; rfl) rfl ?_
      refine g_iload_n (q := 39) C dX3_read_38 rfl rfl ?_
      have e : rRd q t = rE t (rC t (rH t n (0, ((rGs t 4 1 (0, (rX3_readHead (rX3_clear q) t).2)).2, [])))) := (if_pos h0).trans ((if_pos h1).trans (by rw [en, nI_clamp (by omega)]))
      exact E.1 _ _ _ _ _ _ _ dX3_read_39 rfl rfl (Nat.le_of_ble_eq_true rfl) (Nat.le_of_ble_eq_true rfl) ⟨by rw [e], by rw [e]; exact ⟨HQ3, (rqF.trans (rqF.trans fq1 fq2) fq3)⟩⟩
  ·
    refine g_aload_n (q := 15) C dX3_read_14 rfl rfl ?_
    refine g_aload_n (q := 16) C dX3_read_15 rfl rfl ?_
    refine g_callVix (x := (rGs t 4 1 (0, (rX3_readHead (rX3_clear q) t).2)).1) (q := 19) (As := [.ref 1]) C gyX3_readGroups gvX3_readGroups t_525 (c_X3_readGroups_119 HQ2 HT2) dX3_read_16 rfl HQ2.1 rfl rfl rfl (Nat.le_of_ble_eq_true rfl) (Nat.le_of_ble_eq_true rfl) (Nat.le_of_ble_eq_true rfl) (Nat.le_of_ble_eq_true rfl) (Nat.le_of_ble_eq_true rfl) rfl (fun h4 z4 => ?_)
    obtain ⟨HQ4, fq4⟩ := z4
    have HT4 := gRw.ra HT2 (by decide) fq4
    refine g_istore_n (q := 20) C dX3_read_19 (Nat.le_of_ble_eq_true rfl) (by simp only [gset]; rfl) rfl ?_
    refine g_iload_n (q := 21) C dX3_read_20 rfl rfl ?_
    refine g_if_ne (t := 38) (q := 24) C dX3_read_21 (by decide) rfl (fun c_21 => ?_) (fun c_21 => ?_)
    ·
      refine g_iload_n (q := 39) C dX3_read_38 rfl rfl ?_
      have e : rRd q t = ((rGs t 4 1 (0, (rX3_readHead (rX3_clear q) t).2)).1, ((rGs t 4 1 (0, (rX3_readHead (rX3_clear q) t).2)).2, [])) := (if_pos (c_11)).trans (if_neg c_21)
      exact E.1 _ _ _ _ _ _ _ dX3_read_39 rfl rfl (Nat.le_of_ble_eq_true rfl) (Nat.le_of_ble_eq_true rfl) ⟨by rw [e], by rw [e]; exact ⟨HQ4, (rqF.trans (rqF.trans fq1 fq2) fq4)⟩⟩
    ·
      have h0 : (rX3_readHead (rX3_clear q) t).1 = 0 := c_11
      have h1 : (rGs t 4 1 (0, (rX3_readHead (rX3_clear q) t).2)).1 = 0 := c_21
      obtain ⟨n, hn, en⟩ := raAnd15 (a := gat t 1)
      refine g_aload_n (q := 25) C dX3_read_24 rfl rfl ?_
      refine g_aload_n (q := 26) C dX3_read_25 rfl rfl ?_
      refine g_aload_n (q := 27) C dX3_read_26 rfl rfl ?_
      refine g_iconst (v := 1) (q := 28) C dX3_read_27 (by decide) rfl ?_
      refine g_callVi (x := (gat t 1)) (q := 31) (As := [.int 1]) C gyX4_at gvX4_at t_521 (c_X4_at_w HT4) dX3_read_28 rfl (gRw.obj HT4) rfl rfl rfl (Nat.le_of_ble_eq_true rfl) (Nat.le_of_ble_eq_true rfl) (Nat.le_of_ble_eq_true rfl) (Nat.le_of_ble_eq_true rfl) (Nat.le_of_ble_eq_true rfl) rfl ?_
      refine g_bipush (v := 15) (q := 33) C dX3_read_31 (by decide) rfl ?_
      refine g_iand (q := 34) C dX3_read_33 rfl ?_
      rw [en]
      refine g_callVix (x := (rE t (rC t (rH t n (0, ((rGs t 4 1 (0, (rX3_readHead (rX3_clear q) t).2)).2, []))))).1) (q := 37) (As := [.ref 1, .int ((nI n))]) C gyX3_readTail gvX3_readTail t_555 (c_X3_readTail_119 HQ4 HT4 hn (rGs_P ht (fun _ => (rHead0 ht h0).1) h1)) dX3_read_34 rfl HQ4.1 rfl rfl rfl (Nat.le_of_ble_eq_true rfl) (Nat.le_of_ble_eq_true rfl) (Nat.le_of_ble_eq_true rfl) (Nat.le_of_ble_eq_true rfl) (Nat.le_of_ble_eq_true rfl) rfl (fun h5 z5 => ?_)
      obtain ⟨HQ5, fq5⟩ := z5
      have HT5 := gRw.ra HT4 (by decide) fq5
      refine g_istore_n (q := 38) C dX3_read_37 (Nat.le_of_ble_eq_true rfl) (by simp only [gset]; rfl) rfl ?_
      refine g_iload_n (q := 39) C dX3_read_38 rfl rfl ?_
      have e : rRd q t = rE t (rC t (rH t n (0, ((rGs t 4 1 (0, (rX3_readHead (rX3_clear q) t).2)).2, [])))) := (if_pos h0).trans ((if_pos h1).trans (by rw [en, nI_clamp (by omega)]))
      exact E.1 _ _ _ _ _ _ _ dX3_read_39 rfl rfl (Nat.le_of_ble_eq_true rfl) (Nat.le_of_ble_eq_true rfl) ⟨by rw [e], by rw [e]; exact ⟨HQ5, (rqF.trans (rqF.trans (rqF.trans fq1 fq2) fq4) fq5)⟩⟩
def rX3_historicalBytes (q : rq) (l : List Int32) : Int32 := (nI l.length)
theorem dX3_historicalBytes_0 : decode cX3_historicalBytes 0 = .ok (.aload_n 0, 1) := by decide +kernel
theorem dX3_historicalBytes_1 : decode cX3_historicalBytes 1 = .ok (.getfield 14, 3) := by decide +kernel
theorem dX3_historicalBytes_4 : decode cX3_historicalBytes 4 = .ok (.invokevirtual 65, 3) := by decide +kernel
theorem dX3_historicalBytes_7 : decode cX3_historicalBytes 7 = .ok (.ireturn, 1) := by decide +kernel
set_option maxRecDepth 100000 in
set_option maxHeartbeats 4000000 in
theorem c_X3_historicalBytes_116 {hp : List gA} {q : rq} {l : List Int32} (HQ : rqH hp 116 q l) : gM yX3_historicalBytes cX3_historicalBytes 1 ((some .int)) 1 20 [.ref 116] (hp) (0) (0) (fun v h => v = some (.int (rX3_historicalBytes q l)) ∧ h = hp) := by
  refine gM_of (ls0 := [some (.ref 116)]) (by decide +kernel) (Nat.le_of_ble_eq_true rfl) rfl fun X C E => ?_
  refine g_aload_n (q := 1) C dX3_historicalBytes_0 rfl rfl ?_
  refine g_getfield (v := .ref 117) (q := 4) C fX3_14 dX3_historicalBytes_1 rfl HQ.1 rfl ?_
  refine g_callVi (x := (nI l.length)) (q := 7) (As := []) C gyX4_size gvX4_size t_517 (c_X4_size (gRw.obj HQ.2)) dX3_historicalBytes_4 rfl (gRw.obj HQ.2) rfl rfl rfl (Nat.le_of_ble_eq_true rfl) (Nat.le_of_ble_eq_true rfl) (Nat.le_of_ble_eq_true rfl) (Nat.le_of_ble_eq_true rfl) (Nat.le_of_ble_eq_true rfl) rfl ?_
  have e : rX3_historicalBytes q l = (nI l.length) := rfl
  exact E.1 _ _ _ _ _ _ _ dX3_historicalBytes_7 rfl rfl (Nat.le_of_ble_eq_true rfl) (Nat.le_of_ble_eq_true rfl) ⟨by rw [e], rfl⟩
def rX3_historicalByte (q : rq) (l : List Int32) (y : Int32) : Int32 := (gat l y)
theorem dX3_historicalByte_0 : decode cX3_historicalByte 0 = .ok (.aload_n 0, 1) := by decide +kernel
theorem dX3_historicalByte_1 : decode cX3_historicalByte 1 = .ok (.getfield 14, 3) := by decide +kernel
theorem dX3_historicalByte_4 : decode cX3_historicalByte 4 = .ok (.iload_n 1, 1) := by decide +kernel
theorem dX3_historicalByte_5 : decode cX3_historicalByte 5 = .ok (.invokevirtual 30, 3) := by decide +kernel
theorem dX3_historicalByte_8 : decode cX3_historicalByte 8 = .ok (.ireturn, 1) := by decide +kernel
set_option maxRecDepth 100000 in
set_option maxHeartbeats 4000000 in
theorem c_X3_historicalByte_116 {hp : List gA} {q : rq} {l : List Int32} {y : Int32} (HQ : rqH hp 116 q l) : gM yX3_historicalByte cX3_historicalByte 2 ((some .int)) 1 21 [.ref 116, .int y] (hp) (0) (0) (fun v h => v = some (.int (rX3_historicalByte q l y)) ∧ h = hp) := by
  refine gM_of (ls0 := [some (.ref 116), some (.int y)]) (by decide +kernel) (Nat.le_of_ble_eq_true rfl) rfl fun X C E => ?_
  refine g_aload_n (q := 1) C dX3_historicalByte_0 rfl rfl ?_
  refine g_getfield (v := .ref 117) (q := 4) C fX3_14 dX3_historicalByte_1 rfl HQ.1 rfl ?_
  refine g_iload_n (q := 5) C dX3_historicalByte_4 rfl rfl ?_
  refine g_callVi (x := (gat l y)) (q := 8) (As := [.int y]) C gyX4_at gvX4_at t_521 (c_X4_at_w HQ.2) dX3_historicalByte_5 rfl (gRw.obj HQ.2) rfl rfl rfl (Nat.le_of_ble_eq_true rfl) (Nat.le_of_ble_eq_true rfl) (Nat.le_of_ble_eq_true rfl) (Nat.le_of_ble_eq_true rfl) (Nat.le_of_ble_eq_true rfl) rfl ?_
  have e : rX3_historicalByte q l y = (gat l y) := rfl
  exact E.1 _ _ _ _ _ _ _ dX3_historicalByte_8 rfl rfl (Nat.le_of_ble_eq_true rfl) (Nat.le_of_ble_eq_true rfl) ⟨by rw [e], rfl⟩
def rX3_cardRoom (q : rq) (l : List Int32) : Int32 := (q.f 5)
theorem dX3_cardRoom_0 : decode cX3_cardRoom 0 = .ok (.aload_n 0, 1) := by decide +kernel
theorem dX3_cardRoom_1 : decode cX3_cardRoom 1 = .ok (.getfield 51, 3) := by decide +kernel
theorem dX3_cardRoom_4 : decode cX3_cardRoom 4 = .ok (.ireturn, 1) := by decide +kernel
set_option maxRecDepth 100000 in
set_option maxHeartbeats 4000000 in
theorem c_X3_cardRoom_116 {hp : List gA} {q : rq} {l : List Int32} (HQ : rqH hp 116 q l) : gM yX3_cardRoom cX3_cardRoom 1 ((some .int)) 0 0 [.ref 116] (hp) (0) (0) (fun v h => v = some (.int (rX3_cardRoom q l)) ∧ h = hp) := by
  refine gM_of (ls0 := [some (.ref 116)]) (by decide +kernel) (Nat.le_of_ble_eq_true rfl) rfl fun X C E => ?_
  refine g_aload_n (q := 1) C dX3_cardRoom_0 rfl rfl ?_
  refine g_getfield (v := .int ((q.f 5))) (q := 4) C fX3_51 dX3_cardRoom_1 rfl HQ.1 rfl ?_
  have e : rX3_cardRoom q l = (q.f 5) := rfl
  exact E.1 _ _ _ _ _ _ _ dX3_cardRoom_4 rfl rfl (Nat.le_of_ble_eq_true rfl) (Nat.le_of_ble_eq_true rfl) ⟨by rw [e], rfl⟩
def rX3_tell (q : rq) (l : List Int32) (y : Int32) : Int32 := (if y = 0 then (q.f 0) else (if y = 1 then (rX3_clockOf (q.f 1)) else (if y = 2 then (rX3_divisorOf (q.f 1)) else (if y = 3 then (q.f 2) else (if y = 4 then (q.f 3) else (if y = 5 then (q.f 4) else (if y = 6 then (nI l.length) else (if y = 7 then (q.f 5) else (if y = 8 then (if (q.f 6) = 0 then 0 else 1) else (-1))))))))))
theorem dX3_tell_0 : decode cX3_tell 0 = .ok (.iload_n 1, 1) := by decide +kernel
theorem dX3_tell_1 : decode cX3_tell 1 = .ok (.tableswitch 113 0 8 #[51, 56, 64, 72, 77, 82, 87, 95, 100], 51) := by decide +kernel
theorem dX3_tell_52 : decode cX3_tell 52 = .ok (.aload_n 0, 1) := by decide +kernel
theorem dX3_tell_53 : decode cX3_tell 53 = .ok (.getfield 73, 3) := by decide +kernel
theorem dX3_tell_56 : decode cX3_tell 56 = .ok (.ireturn, 1) := by decide +kernel
theorem dX3_tell_57 : decode cX3_tell 57 = .ok (.aload_n 0, 1) := by decide +kernel
theorem dX3_tell_58 : decode cX3_tell 58 = .ok (.getfield 38, 3) := by decide +kernel
theorem dX3_tell_61 : decode cX3_tell 61 = .ok (.invokestatic 95, 3) := by decide +kernel
theorem dX3_tell_64 : decode cX3_tell 64 = .ok (.ireturn, 1) := by decide +kernel
theorem dX3_tell_65 : decode cX3_tell 65 = .ok (.aload_n 0, 1) := by decide +kernel
theorem dX3_tell_66 : decode cX3_tell 66 = .ok (.getfield 38, 3) := by decide +kernel
theorem dX3_tell_69 : decode cX3_tell 69 = .ok (.invokestatic 98, 3) := by decide +kernel
theorem dX3_tell_72 : decode cX3_tell 72 = .ok (.ireturn, 1) := by decide +kernel
theorem dX3_tell_73 : decode cX3_tell 73 = .ok (.aload_n 0, 1) := by decide +kernel
theorem dX3_tell_74 : decode cX3_tell 74 = .ok (.getfield 42, 3) := by decide +kernel
theorem dX3_tell_77 : decode cX3_tell 77 = .ok (.ireturn, 1) := by decide +kernel
theorem dX3_tell_78 : decode cX3_tell 78 = .ok (.aload_n 0, 1) := by decide +kernel
theorem dX3_tell_79 : decode cX3_tell 79 = .ok (.getfield 45, 3) := by decide +kernel
theorem dX3_tell_82 : decode cX3_tell 82 = .ok (.ireturn, 1) := by decide +kernel
theorem dX3_tell_83 : decode cX3_tell 83 = .ok (.aload_n 0, 1) := by decide +kernel
theorem dX3_tell_84 : decode cX3_tell 84 = .ok (.getfield 48, 3) := by decide +kernel
theorem dX3_tell_87 : decode cX3_tell 87 = .ok (.ireturn, 1) := by decide +kernel
theorem dX3_tell_88 : decode cX3_tell 88 = .ok (.aload_n 0, 1) := by decide +kernel
theorem dX3_tell_89 : decode cX3_tell 89 = .ok (.getfield 14, 3) := by decide +kernel
theorem dX3_tell_92 : decode cX3_tell 92 = .ok (.invokevirtual 65, 3) := by decide +kernel
theorem dX3_tell_95 : decode cX3_tell 95 = .ok (.ireturn, 1) := by decide +kernel
theorem dX3_tell_96 : decode cX3_tell 96 = .ok (.aload_n 0, 1) := by decide +kernel
theorem dX3_tell_97 : decode cX3_tell 97 = .ok (.getfield 51, 3) := by decide +kernel
theorem dX3_tell_100 : decode cX3_tell 100 = .ok (.ireturn, 1) := by decide +kernel
theorem dX3_tell_101 : decode cX3_tell 101 = .ok (.aload_n 0, 1) := by decide +kernel
theorem dX3_tell_102 : decode cX3_tell 102 = .ok (.getfield 54, 3) := by decide +kernel
theorem dX3_tell_105 : decode cX3_tell 105 = .ok (.ifCond .eq 7, 3) := by decide +kernel
theorem dX3_tell_108 : decode cX3_tell 108 = .ok (.iconst 1, 1) := by decide +kernel
theorem dX3_tell_109 : decode cX3_tell 109 = .ok (.goto 4, 3) := by decide +kernel
theorem dX3_tell_112 : decode cX3_tell 112 = .ok (.iconst 0, 1) := by decide +kernel
theorem dX3_tell_113 : decode cX3_tell 113 = .ok (.ireturn, 1) := by decide +kernel
theorem dX3_tell_114 : decode cX3_tell 114 = .ok (.iconst (-1), 1) := by decide +kernel
theorem dX3_tell_115 : decode cX3_tell 115 = .ok (.ireturn, 1) := by decide +kernel
set_option maxRecDepth 100000 in
set_option maxHeartbeats 4000000 in
theorem c_X3_tell_116 {hp : List gA} {q : rq} {l : List Int32} {y : Int32} (HQ : rqH hp 116 q l) : gM yX3_tell cX3_tell 2 ((some .int)) 1 21 [.ref 116, .int y] (hp) (0) (0) (fun v h => v = some (.int (rX3_tell q l y)) ∧ h = hp) := by
  refine gM_of (ls0 := [some (.ref 116), some (.int y)]) (by decide +kernel) (Nat.le_of_ble_eq_true rfl) rfl fun X C E => ?_
  refine g_iload_n (q := 1) C dX3_tell_0 rfl rfl ?_
  by_cases c_1_0 : y = 0
  ·
    refine g_tableE (v := 0) (off := 51) (t := 52) C dX3_tell_1 c_1_0 (by decide) (by decide) (by decide) (by decide) ?_
    refine g_aload_n (q := 53) C dX3_tell_52 rfl rfl ?_
    refine g_getfield (v := .int ((q.f 0))) (q := 56) C fX3_73 dX3_tell_53 rfl HQ.1 rfl ?_
    have e : rX3_tell q l y = (q.f 0) := (if_pos c_1_0)
    exact E.1 _ _ _ _ _ _ _ dX3_tell_56 rfl rfl (Nat.le_of_ble_eq_true rfl) (Nat.le_of_ble_eq_true rfl) ⟨by rw [e], rfl⟩
  by_cases c_1_1 : y = 1
  ·
    refine g_tableE (v := 1) (off := 56) (t := 57) C dX3_tell_1 c_1_1 (by decide) (by decide) (by decide) (by decide) ?_
    refine g_aload_n (q := 58) C dX3_tell_57 rfl rfl ?_
    refine g_getfield (v := .int ((q.f 1))) (q := 61) C fX3_38 dX3_tell_58 rfl HQ.1 rfl ?_
    refine g_callSi (x := (rX3_clockOf (q.f 1))) (q := 64) (As := [.int ((q.f 1))]) C gyX3_clockOf t_542 t_541 (c_X3_clockOf_x) dX3_tell_61 rfl rfl rfl (Nat.le_of_ble_eq_true rfl) (Nat.le_of_ble_eq_true rfl) (Nat.le_of_ble_eq_true rfl) (Nat.le_of_ble_eq_true rfl) (Nat.le_of_ble_eq_true rfl) rfl ?_
    have e : rX3_tell q l y = (rX3_clockOf (q.f 1)) := ((if_neg c_1_0).trans (if_pos c_1_1))
    exact E.1 _ _ _ _ _ _ _ dX3_tell_64 rfl rfl (Nat.le_of_ble_eq_true rfl) (Nat.le_of_ble_eq_true rfl) ⟨by rw [e], rfl⟩
  by_cases c_1_2 : y = 2
  ·
    refine g_tableE (v := 2) (off := 64) (t := 65) C dX3_tell_1 c_1_2 (by decide) (by decide) (by decide) (by decide) ?_
    refine g_aload_n (q := 66) C dX3_tell_65 rfl rfl ?_
    refine g_getfield (v := .int ((q.f 1))) (q := 69) C fX3_38 dX3_tell_66 rfl HQ.1 rfl ?_
    refine g_callSi (x := (rX3_divisorOf (q.f 1))) (q := 72) (As := [.int ((q.f 1))]) C gyX3_divisorOf t_547 t_546 (c_X3_divisorOf_x) dX3_tell_69 rfl rfl rfl (Nat.le_of_ble_eq_true rfl) (Nat.le_of_ble_eq_true rfl) (Nat.le_of_ble_eq_true rfl) (Nat.le_of_ble_eq_true rfl) (Nat.le_of_ble_eq_true rfl) rfl ?_
    have e : rX3_tell q l y = (rX3_divisorOf (q.f 1)) := ((if_neg c_1_0).trans ((if_neg c_1_1).trans (if_pos c_1_2)))
    exact E.1 _ _ _ _ _ _ _ dX3_tell_72 rfl rfl (Nat.le_of_ble_eq_true rfl) (Nat.le_of_ble_eq_true rfl) ⟨by rw [e], rfl⟩
  by_cases c_1_3 : y = 3
  ·
    refine g_tableE (v := 3) (off := 72) (t := 73) C dX3_tell_1 c_1_3 (by decide) (by decide) (by decide) (by decide) ?_
    refine g_aload_n (q := 74) C dX3_tell_73 rfl rfl ?_
    refine g_getfield (v := .int ((q.f 2))) (q := 77) C fX3_42 dX3_tell_74 rfl HQ.1 rfl ?_
    have e : rX3_tell q l y = (q.f 2) := ((if_neg c_1_0).trans ((if_neg c_1_1).trans ((if_neg c_1_2).trans (if_pos c_1_3))))
    exact E.1 _ _ _ _ _ _ _ dX3_tell_77 rfl rfl (Nat.le_of_ble_eq_true rfl) (Nat.le_of_ble_eq_true rfl) ⟨by rw [e], rfl⟩
  by_cases c_1_4 : y = 4
  ·
    refine g_tableE (v := 4) (off := 77) (t := 78) C dX3_tell_1 c_1_4 (by decide) (by decide) (by decide) (by decide) ?_
    refine g_aload_n (q := 79) C dX3_tell_78 rfl rfl ?_
    refine g_getfield (v := .int ((q.f 3))) (q := 82) C fX3_45 dX3_tell_79 rfl HQ.1 rfl ?_
    have e : rX3_tell q l y = (q.f 3) := ((if_neg c_1_0).trans ((if_neg c_1_1).trans ((if_neg c_1_2).trans ((if_neg c_1_3).trans (if_pos c_1_4)))))
    exact E.1 _ _ _ _ _ _ _ dX3_tell_82 rfl rfl (Nat.le_of_ble_eq_true rfl) (Nat.le_of_ble_eq_true rfl) ⟨by rw [e], rfl⟩
  by_cases c_1_5 : y = 5
  ·
    refine g_tableE (v := 5) (off := 82) (t := 83) C dX3_tell_1 c_1_5 (by decide) (by decide) (by decide) (by decide) ?_
    refine g_aload_n (q := 84) C dX3_tell_83 rfl rfl ?_
    refine g_getfield (v := .int ((q.f 4))) (q := 87) C fX3_48 dX3_tell_84 rfl HQ.1 rfl ?_
    have e : rX3_tell q l y = (q.f 4) := ((if_neg c_1_0).trans ((if_neg c_1_1).trans ((if_neg c_1_2).trans ((if_neg c_1_3).trans ((if_neg c_1_4).trans (if_pos c_1_5))))))
    exact E.1 _ _ _ _ _ _ _ dX3_tell_87 rfl rfl (Nat.le_of_ble_eq_true rfl) (Nat.le_of_ble_eq_true rfl) ⟨by rw [e], rfl⟩
  by_cases c_1_6 : y = 6
  ·
    refine g_tableE (v := 6) (off := 87) (t := 88) C dX3_tell_1 c_1_6 (by decide) (by decide) (by decide) (by decide) ?_
    refine g_aload_n (q := 89) C dX3_tell_88 rfl rfl ?_
    refine g_getfield (v := .ref 117) (q := 92) C fX3_14 dX3_tell_89 rfl HQ.1 rfl ?_
    refine g_callVi (x := (nI l.length)) (q := 95) (As := []) C gyX4_size gvX4_size t_517 (c_X4_size (gRw.obj HQ.2)) dX3_tell_92 rfl (gRw.obj HQ.2) rfl rfl rfl (Nat.le_of_ble_eq_true rfl) (Nat.le_of_ble_eq_true rfl) (Nat.le_of_ble_eq_true rfl) (Nat.le_of_ble_eq_true rfl) (Nat.le_of_ble_eq_true rfl) rfl ?_
    have e : rX3_tell q l y = (nI l.length) := ((if_neg c_1_0).trans ((if_neg c_1_1).trans ((if_neg c_1_2).trans ((if_neg c_1_3).trans ((if_neg c_1_4).trans ((if_neg c_1_5).trans (if_pos c_1_6)))))))
    exact E.1 _ _ _ _ _ _ _ dX3_tell_95 rfl rfl (Nat.le_of_ble_eq_true rfl) (Nat.le_of_ble_eq_true rfl) ⟨by rw [e], rfl⟩
  by_cases c_1_7 : y = 7
  ·
    refine g_tableE (v := 7) (off := 95) (t := 96) C dX3_tell_1 c_1_7 (by decide) (by decide) (by decide) (by decide) ?_
    refine g_aload_n (q := 97) C dX3_tell_96 rfl rfl ?_
    refine g_getfield (v := .int ((q.f 5))) (q := 100) C fX3_51 dX3_tell_97 rfl HQ.1 rfl ?_
    have e : rX3_tell q l y = (q.f 5) := ((if_neg c_1_0).trans ((if_neg c_1_1).trans ((if_neg c_1_2).trans ((if_neg c_1_3).trans ((if_neg c_1_4).trans ((if_neg c_1_5).trans ((if_neg c_1_6).trans (if_pos c_1_7))))))))
    exact E.1 _ _ _ _ _ _ _ dX3_tell_100 rfl rfl (Nat.le_of_ble_eq_true rfl) (Nat.le_of_ble_eq_true rfl) ⟨by rw [e], rfl⟩
  by_cases c_1_8 : y = 8
  ·
    refine g_tableE (v := 8) (off := 100) (t := 101) C dX3_tell_1 c_1_8 (by decide) (by decide) (by decide) (by decide) ?_
    refine g_aload_n (q := 102) C dX3_tell_101 rfl rfl ?_
    refine g_getfield (v := .int ((q.f 6))) (q := 105) C fX3_54 dX3_tell_102 rfl HQ.1 rfl ?_
    refine g_if_eq (t := 112) (q := 108) C dX3_tell_105 (by decide) rfl (fun c_105 => ?_) (fun c_105 => ?_)
    ·
      refine g_iconst (v := 0) (q := 113) C dX3_tell_112 (by decide) rfl ?_
      have e : rX3_tell q l y = 0 := ((if_neg c_1_0).trans ((if_neg c_1_1).trans ((if_neg c_1_2).trans ((if_neg c_1_3).trans ((if_neg c_1_4).trans ((if_neg c_1_5).trans ((if_neg c_1_6).trans ((if_neg c_1_7).trans ((if_pos c_1_8).trans (if_pos c_105))))))))))
      exact E.1 _ _ _ _ _ _ _ dX3_tell_113 rfl rfl (Nat.le_of_ble_eq_true rfl) (Nat.le_of_ble_eq_true rfl) ⟨by rw [e], rfl⟩
    ·
      refine g_iconst (v := 1) (q := 109) C dX3_tell_108 (by decide) rfl ?_
      refine g_goto (q := 113) C dX3_tell_109 (by decide) ?_
      have e : rX3_tell q l y = 1 := ((if_neg c_1_0).trans ((if_neg c_1_1).trans ((if_neg c_1_2).trans ((if_neg c_1_3).trans ((if_neg c_1_4).trans ((if_neg c_1_5).trans ((if_neg c_1_6).trans ((if_neg c_1_7).trans ((if_pos c_1_8).trans (if_neg c_105))))))))))
      exact E.1 _ _ _ _ _ _ _ dX3_tell_113 rfl rfl (Nat.le_of_ble_eq_true rfl) (Nat.le_of_ble_eq_true rfl) ⟨by rw [e], rfl⟩
  refine g_tableOut (t := 114) C dX3_tell_1 (gOut9 c_1_0 c_1_1 c_1_2 c_1_3 c_1_4 c_1_5 c_1_6 c_1_7 c_1_8) (by decide) ?_
  refine g_iconst (v := (-1)) (q := 115) C dX3_tell_114 (by decide) rfl ?_
  have e : rX3_tell q l y = (-1) := ((if_neg c_1_0).trans ((if_neg c_1_1).trans ((if_neg c_1_2).trans ((if_neg c_1_3).trans ((if_neg c_1_4).trans ((if_neg c_1_5).trans ((if_neg c_1_6).trans ((if_neg c_1_7).trans (if_neg c_1_8)))))))))
  exact E.1 _ _ _ _ _ _ _ dX3_tell_115 rfl rfl (Nat.le_of_ble_eq_true rfl) (Nat.le_of_ble_eq_true rfl) ⟨by rw [e], rfl⟩
set_option maxRecDepth 100000 in
set_option maxHeartbeats 4000000 in
theorem c_X3_historicalBytes_119 {hp : List gA} {q : rq} {l : List Int32} (HQ : rqH hp 119 q l) : gM yX3_historicalBytes cX3_historicalBytes 1 ((some .int)) 1 20 [.ref 119] (hp) (0) (0) (fun v h => v = some (.int (rX3_historicalBytes q l)) ∧ h = hp) := by
  refine gM_of (ls0 := [some (.ref 119)]) (by decide +kernel) (Nat.le_of_ble_eq_true rfl) rfl fun X C E => ?_
  refine g_aload_n (q := 1) C dX3_historicalBytes_0 rfl rfl ?_
  refine g_getfield (v := .ref 120) (q := 4) C fX3_14 dX3_historicalBytes_1 rfl HQ.1 rfl ?_
  refine g_callVi (x := (nI l.length)) (q := 7) (As := []) C gyX4_size gvX4_size t_517 (c_X4_size (gRw.obj HQ.2)) dX3_historicalBytes_4 rfl (gRw.obj HQ.2) rfl rfl rfl (Nat.le_of_ble_eq_true rfl) (Nat.le_of_ble_eq_true rfl) (Nat.le_of_ble_eq_true rfl) (Nat.le_of_ble_eq_true rfl) (Nat.le_of_ble_eq_true rfl) rfl ?_
  have e : rX3_historicalBytes q l = (nI l.length) := rfl
  exact E.1 _ _ _ _ _ _ _ dX3_historicalBytes_7 rfl rfl (Nat.le_of_ble_eq_true rfl) (Nat.le_of_ble_eq_true rfl) ⟨by rw [e], rfl⟩
set_option maxRecDepth 100000 in
set_option maxHeartbeats 4000000 in
theorem c_X3_historicalByte_119 {hp : List gA} {q : rq} {l : List Int32} {y : Int32} (HQ : rqH hp 119 q l) : gM yX3_historicalByte cX3_historicalByte 2 ((some .int)) 1 21 [.ref 119, .int y] (hp) (0) (0) (fun v h => v = some (.int (rX3_historicalByte q l y)) ∧ h = hp) := by
  refine gM_of (ls0 := [some (.ref 119), some (.int y)]) (by decide +kernel) (Nat.le_of_ble_eq_true rfl) rfl fun X C E => ?_
  refine g_aload_n (q := 1) C dX3_historicalByte_0 rfl rfl ?_
  refine g_getfield (v := .ref 120) (q := 4) C fX3_14 dX3_historicalByte_1 rfl HQ.1 rfl ?_
  refine g_iload_n (q := 5) C dX3_historicalByte_4 rfl rfl ?_
  refine g_callVi (x := (gat l y)) (q := 8) (As := [.int y]) C gyX4_at gvX4_at t_521 (c_X4_at_w HQ.2) dX3_historicalByte_5 rfl (gRw.obj HQ.2) rfl rfl rfl (Nat.le_of_ble_eq_true rfl) (Nat.le_of_ble_eq_true rfl) (Nat.le_of_ble_eq_true rfl) (Nat.le_of_ble_eq_true rfl) (Nat.le_of_ble_eq_true rfl) rfl ?_
  have e : rX3_historicalByte q l y = (gat l y) := rfl
  exact E.1 _ _ _ _ _ _ _ dX3_historicalByte_8 rfl rfl (Nat.le_of_ble_eq_true rfl) (Nat.le_of_ble_eq_true rfl) ⟨by rw [e], rfl⟩
set_option maxRecDepth 100000 in
set_option maxHeartbeats 4000000 in
theorem c_X3_cardRoom_119 {hp : List gA} {q : rq} {l : List Int32} (HQ : rqH hp 119 q l) : gM yX3_cardRoom cX3_cardRoom 1 ((some .int)) 0 0 [.ref 119] (hp) (0) (0) (fun v h => v = some (.int (rX3_cardRoom q l)) ∧ h = hp) := by
  refine gM_of (ls0 := [some (.ref 119)]) (by decide +kernel) (Nat.le_of_ble_eq_true rfl) rfl fun X C E => ?_
  refine g_aload_n (q := 1) C dX3_cardRoom_0 rfl rfl ?_
  refine g_getfield (v := .int ((q.f 5))) (q := 4) C fX3_51 dX3_cardRoom_1 rfl HQ.1 rfl ?_
  have e : rX3_cardRoom q l = (q.f 5) := rfl
  exact E.1 _ _ _ _ _ _ _ dX3_cardRoom_4 rfl rfl (Nat.le_of_ble_eq_true rfl) (Nat.le_of_ble_eq_true rfl) ⟨by rw [e], rfl⟩
set_option maxRecDepth 100000 in
set_option maxHeartbeats 4000000 in
theorem c_X3_tell_119 {hp : List gA} {q : rq} {l : List Int32} {y : Int32} (HQ : rqH hp 119 q l) : gM yX3_tell cX3_tell 2 ((some .int)) 1 21 [.ref 119, .int y] (hp) (0) (0) (fun v h => v = some (.int (rX3_tell q l y)) ∧ h = hp) := by
  refine gM_of (ls0 := [some (.ref 119), some (.int y)]) (by decide +kernel) (Nat.le_of_ble_eq_true rfl) rfl fun X C E => ?_
  refine g_iload_n (q := 1) C dX3_tell_0 rfl rfl ?_
  by_cases c_1_0 : y = 0
  ·
    refine g_tableE (v := 0) (off := 51) (t := 52) C dX3_tell_1 c_1_0 (by decide) (by decide) (by decide) (by decide) ?_
    refine g_aload_n (q := 53) C dX3_tell_52 rfl rfl ?_
    refine g_getfield (v := .int ((q.f 0))) (q := 56) C fX3_73 dX3_tell_53 rfl HQ.1 rfl ?_
    have e : rX3_tell q l y = (q.f 0) := (if_pos c_1_0)
    exact E.1 _ _ _ _ _ _ _ dX3_tell_56 rfl rfl (Nat.le_of_ble_eq_true rfl) (Nat.le_of_ble_eq_true rfl) ⟨by rw [e], rfl⟩
  by_cases c_1_1 : y = 1
  ·
    refine g_tableE (v := 1) (off := 56) (t := 57) C dX3_tell_1 c_1_1 (by decide) (by decide) (by decide) (by decide) ?_
    refine g_aload_n (q := 58) C dX3_tell_57 rfl rfl ?_
    refine g_getfield (v := .int ((q.f 1))) (q := 61) C fX3_38 dX3_tell_58 rfl HQ.1 rfl ?_
    refine g_callSi (x := (rX3_clockOf (q.f 1))) (q := 64) (As := [.int ((q.f 1))]) C gyX3_clockOf t_542 t_541 (c_X3_clockOf_x) dX3_tell_61 rfl rfl rfl (Nat.le_of_ble_eq_true rfl) (Nat.le_of_ble_eq_true rfl) (Nat.le_of_ble_eq_true rfl) (Nat.le_of_ble_eq_true rfl) (Nat.le_of_ble_eq_true rfl) rfl ?_
    have e : rX3_tell q l y = (rX3_clockOf (q.f 1)) := ((if_neg c_1_0).trans (if_pos c_1_1))
    exact E.1 _ _ _ _ _ _ _ dX3_tell_64 rfl rfl (Nat.le_of_ble_eq_true rfl) (Nat.le_of_ble_eq_true rfl) ⟨by rw [e], rfl⟩
  by_cases c_1_2 : y = 2
  ·
    refine g_tableE (v := 2) (off := 64) (t := 65) C dX3_tell_1 c_1_2 (by decide) (by decide) (by decide) (by decide) ?_
    refine g_aload_n (q := 66) C dX3_tell_65 rfl rfl ?_
    refine g_getfield (v := .int ((q.f 1))) (q := 69) C fX3_38 dX3_tell_66 rfl HQ.1 rfl ?_
    refine g_callSi (x := (rX3_divisorOf (q.f 1))) (q := 72) (As := [.int ((q.f 1))]) C gyX3_divisorOf t_547 t_546 (c_X3_divisorOf_x) dX3_tell_69 rfl rfl rfl (Nat.le_of_ble_eq_true rfl) (Nat.le_of_ble_eq_true rfl) (Nat.le_of_ble_eq_true rfl) (Nat.le_of_ble_eq_true rfl) (Nat.le_of_ble_eq_true rfl) rfl ?_
    have e : rX3_tell q l y = (rX3_divisorOf (q.f 1)) := ((if_neg c_1_0).trans ((if_neg c_1_1).trans (if_pos c_1_2)))
    exact E.1 _ _ _ _ _ _ _ dX3_tell_72 rfl rfl (Nat.le_of_ble_eq_true rfl) (Nat.le_of_ble_eq_true rfl) ⟨by rw [e], rfl⟩
  by_cases c_1_3 : y = 3
  ·
    refine g_tableE (v := 3) (off := 72) (t := 73) C dX3_tell_1 c_1_3 (by decide) (by decide) (by decide) (by decide) ?_
    refine g_aload_n (q := 74) C dX3_tell_73 rfl rfl ?_
    refine g_getfield (v := .int ((q.f 2))) (q := 77) C fX3_42 dX3_tell_74 rfl HQ.1 rfl ?_
    have e : rX3_tell q l y = (q.f 2) := ((if_neg c_1_0).trans ((if_neg c_1_1).trans ((if_neg c_1_2).trans (if_pos c_1_3))))
    exact E.1 _ _ _ _ _ _ _ dX3_tell_77 rfl rfl (Nat.le_of_ble_eq_true rfl) (Nat.le_of_ble_eq_true rfl) ⟨by rw [e], rfl⟩
  by_cases c_1_4 : y = 4
  ·
    refine g_tableE (v := 4) (off := 77) (t := 78) C dX3_tell_1 c_1_4 (by decide) (by decide) (by decide) (by decide) ?_
    refine g_aload_n (q := 79) C dX3_tell_78 rfl rfl ?_
    refine g_getfield (v := .int ((q.f 3))) (q := 82) C fX3_45 dX3_tell_79 rfl HQ.1 rfl ?_
    have e : rX3_tell q l y = (q.f 3) := ((if_neg c_1_0).trans ((if_neg c_1_1).trans ((if_neg c_1_2).trans ((if_neg c_1_3).trans (if_pos c_1_4)))))
    exact E.1 _ _ _ _ _ _ _ dX3_tell_82 rfl rfl (Nat.le_of_ble_eq_true rfl) (Nat.le_of_ble_eq_true rfl) ⟨by rw [e], rfl⟩
  by_cases c_1_5 : y = 5
  ·
    refine g_tableE (v := 5) (off := 82) (t := 83) C dX3_tell_1 c_1_5 (by decide) (by decide) (by decide) (by decide) ?_
    refine g_aload_n (q := 84) C dX3_tell_83 rfl rfl ?_
    refine g_getfield (v := .int ((q.f 4))) (q := 87) C fX3_48 dX3_tell_84 rfl HQ.1 rfl ?_
    have e : rX3_tell q l y = (q.f 4) := ((if_neg c_1_0).trans ((if_neg c_1_1).trans ((if_neg c_1_2).trans ((if_neg c_1_3).trans ((if_neg c_1_4).trans (if_pos c_1_5))))))
    exact E.1 _ _ _ _ _ _ _ dX3_tell_87 rfl rfl (Nat.le_of_ble_eq_true rfl) (Nat.le_of_ble_eq_true rfl) ⟨by rw [e], rfl⟩
  by_cases c_1_6 : y = 6
  ·
    refine g_tableE (v := 6) (off := 87) (t := 88) C dX3_tell_1 c_1_6 (by decide) (by decide) (by decide) (by decide) ?_
    refine g_aload_n (q := 89) C dX3_tell_88 rfl rfl ?_
    refine g_getfield (v := .ref 120) (q := 92) C fX3_14 dX3_tell_89 rfl HQ.1 rfl ?_
    refine g_callVi (x := (nI l.length)) (q := 95) (As := []) C gyX4_size gvX4_size t_517 (c_X4_size (gRw.obj HQ.2)) dX3_tell_92 rfl (gRw.obj HQ.2) rfl rfl rfl (Nat.le_of_ble_eq_true rfl) (Nat.le_of_ble_eq_true rfl) (Nat.le_of_ble_eq_true rfl) (Nat.le_of_ble_eq_true rfl) (Nat.le_of_ble_eq_true rfl) rfl ?_
    have e : rX3_tell q l y = (nI l.length) := ((if_neg c_1_0).trans ((if_neg c_1_1).trans ((if_neg c_1_2).trans ((if_neg c_1_3).trans ((if_neg c_1_4).trans ((if_neg c_1_5).trans (if_pos c_1_6)))))))
    exact E.1 _ _ _ _ _ _ _ dX3_tell_95 rfl rfl (Nat.le_of_ble_eq_true rfl) (Nat.le_of_ble_eq_true rfl) ⟨by rw [e], rfl⟩
  by_cases c_1_7 : y = 7
  ·
    refine g_tableE (v := 7) (off := 95) (t := 96) C dX3_tell_1 c_1_7 (by decide) (by decide) (by decide) (by decide) ?_
    refine g_aload_n (q := 97) C dX3_tell_96 rfl rfl ?_
    refine g_getfield (v := .int ((q.f 5))) (q := 100) C fX3_51 dX3_tell_97 rfl HQ.1 rfl ?_
    have e : rX3_tell q l y = (q.f 5) := ((if_neg c_1_0).trans ((if_neg c_1_1).trans ((if_neg c_1_2).trans ((if_neg c_1_3).trans ((if_neg c_1_4).trans ((if_neg c_1_5).trans ((if_neg c_1_6).trans (if_pos c_1_7))))))))
    exact E.1 _ _ _ _ _ _ _ dX3_tell_100 rfl rfl (Nat.le_of_ble_eq_true rfl) (Nat.le_of_ble_eq_true rfl) ⟨by rw [e], rfl⟩
  by_cases c_1_8 : y = 8
  ·
    refine g_tableE (v := 8) (off := 100) (t := 101) C dX3_tell_1 c_1_8 (by decide) (by decide) (by decide) (by decide) ?_
    refine g_aload_n (q := 102) C dX3_tell_101 rfl rfl ?_
    refine g_getfield (v := .int ((q.f 6))) (q := 105) C fX3_54 dX3_tell_102 rfl HQ.1 rfl ?_
    refine g_if_eq (t := 112) (q := 108) C dX3_tell_105 (by decide) rfl (fun c_105 => ?_) (fun c_105 => ?_)
    ·
      refine g_iconst (v := 0) (q := 113) C dX3_tell_112 (by decide) rfl ?_
      have e : rX3_tell q l y = 0 := ((if_neg c_1_0).trans ((if_neg c_1_1).trans ((if_neg c_1_2).trans ((if_neg c_1_3).trans ((if_neg c_1_4).trans ((if_neg c_1_5).trans ((if_neg c_1_6).trans ((if_neg c_1_7).trans ((if_pos c_1_8).trans (if_pos c_105))))))))))
      exact E.1 _ _ _ _ _ _ _ dX3_tell_113 rfl rfl (Nat.le_of_ble_eq_true rfl) (Nat.le_of_ble_eq_true rfl) ⟨by rw [e], rfl⟩
    ·
      refine g_iconst (v := 1) (q := 109) C dX3_tell_108 (by decide) rfl ?_
      refine g_goto (q := 113) C dX3_tell_109 (by decide) ?_
      have e : rX3_tell q l y = 1 := ((if_neg c_1_0).trans ((if_neg c_1_1).trans ((if_neg c_1_2).trans ((if_neg c_1_3).trans ((if_neg c_1_4).trans ((if_neg c_1_5).trans ((if_neg c_1_6).trans ((if_neg c_1_7).trans ((if_pos c_1_8).trans (if_neg c_105))))))))))
      exact E.1 _ _ _ _ _ _ _ dX3_tell_113 rfl rfl (Nat.le_of_ble_eq_true rfl) (Nat.le_of_ble_eq_true rfl) ⟨by rw [e], rfl⟩
  refine g_tableOut (t := 114) C dX3_tell_1 (gOut9 c_1_0 c_1_1 c_1_2 c_1_3 c_1_4 c_1_5 c_1_6 c_1_7 c_1_8) (by decide) ?_
  refine g_iconst (v := (-1)) (q := 115) C dX3_tell_114 (by decide) rfl ?_
  have e : rX3_tell q l y = (-1) := ((if_neg c_1_0).trans ((if_neg c_1_1).trans ((if_neg c_1_2).trans ((if_neg c_1_3).trans ((if_neg c_1_4).trans ((if_neg c_1_5).trans ((if_neg c_1_6).trans ((if_neg c_1_7).trans (if_neg c_1_8)))))))))
  exact E.1 _ _ _ _ _ _ _ dX3_tell_115 rfl rfl (Nat.le_of_ble_eq_true rfl) (Nat.le_of_ble_eq_true rfl) ⟨by rw [e], rfl⟩
/-- the flag of a sum is 0 or 1 -/
def rB6 (q : rq) : Prop := q.f 6 = 0 ∨ q.f 6 = 1
theorem rGb6 {q : rq} {y z w : Int32} (H : rB6 q) : rB6 (rX3_readGroupByte q y z w).2 := by
  have n : ∀ (a : rq) (j : Nat) (x : Int32), ¬ 6 = j → rB6 a → rB6 (a.set j x) := fun a j x h b => by
    unfold rB6 at b ⊢
    rw [rq.set_n h]; exact b
  have o1 : ∀ (a : rq), rB6 (a.set 6 1) := fun a => Or.inr rq.set_s
  unfold rX3_readGroupByte
  repeat' split
  · unfold rX3_readTd
    repeat' split
    all_goals first | exact o1 _ | exact n _ _ _ (by decide) (n _ _ _ (by decide) H) | exact n _ _ _ (by decide) H | exact H
  · unfold rX3_readFirstGroup
    repeat' split
    all_goals first | exact n _ _ _ (by decide) H | exact H
  · unfold rX3_readLinkGroup
    repeat' split
    all_goals first | exact n _ _ _ (by decide) H | exact H
  · exact H
theorem rL6 {t : List Int32} {g here : Int32} {k : Nat} {r : Int32 × rq} (H : rB6 r.2) : rB6 (rL t g here k r).2 := by
  have n : ∀ (a : rq) (x : Int32), rB6 a → rB6 (a.set 8 x) := fun a x b => by
    unfold rB6 at b ⊢
    rw [rq.set_n (by decide)]; exact b
  unfold rL
  repeat' split
  all_goals first | exact n _ _ (rGb6 H) | exact rGb6 H | exact H
theorem rGs6 {t : List Int32} : ∀ {n g : Nat} {r : Int32 × rq}, rB6 r.2 → rB6 (rGs t n g r).2
  | 0, _, _, H => H
  | n + 1, g, r, H => by
    unfold rGs
    repeat' split
    · exact H
    · exact rGs6 (rL6 (rL6 (rL6 (rL6 (by
        unfold rB6 at H ⊢
        rw [rq.set_n (by decide), rq.set_n (by decide)]; exact H)))))
    · exact H
theorem rH6 {t : List Int32} : ∀ {n : Nat} {s : Int32 × (rq × List Int32)}, rB6 s.2.1 → rB6 (rH t n s).2.1
  | 0, _, H => H
  | n + 1, s, H => by
    unfold rH
    repeat' split
    · exact rH6 H
    · exact rH6 (by
        unfold rB6 at H ⊢
        rw [rq.set_n (by decide)]; exact H)
    · exact H
theorem rRd6 {q : rq} {t : List Int32} : rB6 (rRd q t).2.1 := by
  have c0 : rB6 (rX3_clear q) := Or.inl rfl
  have n : ∀ (a : rq) (j : Nat) (x : Int32), ¬ 6 = j → rB6 a → rB6 (a.set j x) := fun a j x h b => by
    unfold rB6 at b ⊢
    rw [rq.set_n h]; exact b
  have h0 : rB6 (rX3_readHead (rX3_clear q) t).2 := by
    unfold rX3_readHead
    repeat' split
    all_goals first | exact n _ _ _ (by decide) (n _ _ _ (by decide) (n _ _ _ (by decide) c0)) | exact n _ _ _ (by decide) c0 | exact c0
  have g0 : rB6 (rGs t 4 1 (0, (rX3_readHead (rX3_clear q) t).2)).2 := rGs6 h0
  unfold rRd
  repeat' split
  · have e6 := rH6 (t := t) (n := (gat t 1 &&& 15).toNatClampNeg) (s := (0, ((rGs t 4 1 (0, (rX3_readHead (rX3_clear q) t).2)).2, []))) g0
    generalize rH t (gat t 1 &&& 15).toNatClampNeg (0, ((rGs t 4 1 (0, (rX3_readHead (rX3_clear q) t).2)).2, [])) = s at e6 ⊢
    have c6 : rB6 (rC t s).2.1 := by
      unfold rC
      repeat' split
      all_goals first | exact n _ _ _ (by decide) e6 | exact e6
    generalize rC t s = u at c6 ⊢
    unfold rE
    repeat' split
    all_goals exact c6
  · exact g0
  · exact h0
