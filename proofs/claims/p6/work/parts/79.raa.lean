/-! THE CLASS'S RESET ANSWER, READ EXACTLY (by program: wip/p4/m_ra.py) -/
theorem raAnd15 {a : Int32} : ∃ n : Nat, n ≤ 15 ∧ (a &&& 15) = nI n := by
  have e1 : (a &&& 15).toBitVec.toNat ≤ 15 := by
    rw [Int32.toBitVec_and, BitVec.toNat_and]
    exact Nat.and_le_right
  refine ⟨(a &&& 15).toBitVec.toNat, e1, ?_⟩
  apply Int32.toInt_inj.mp
  rw [nI_toInt (by omega)]
  exact BitVec.toInt_eq_toNat_of_lt (by omega)
theorem gx8 {x : Int32} {c : Nat} (h : 0 < c) (h2 : c < 8) : ¬ (8 * x + nI c : Int32) = 0 := by
  intro e
  have h1 := congrArg (fun z : Int32 => z.toBitVec.toNat) e
  have h3 : (8 * x + nI c : Int32).toBitVec = 8#32 * x.toBitVec + BitVec.ofNat 32 c := rfl
  simp only [h3, BitVec.toNat_add, BitVec.toNat_mul, BitVec.toNat_ofNat] at h1
  have h4 : (0 : Int32).toBitVec.toNat = 0 := rfl
  omega
/-- the reset answer's ints by field: 0 TS, 1 factor, 2 guard, 3 protocol, 4 groups, 5 room, 6 checked, 8 place, 9 told, 10 link group -/
def rq : Type := Nat → Int32
def rq.f (q : rq) (k : Nat) : Int32 := q k
def rq.set (q : rq) (k : Nat) (x : Int32) : rq := fun j => if j = k then x else q j
theorem rq.set_s {q : rq} {k : Nat} {x : Int32} : (q.set k x).f k = x := if_pos rfl
theorem rq.set_n {q : rq} {k j : Nat} {x : Int32} (h : ¬ j = k) : (q.set k x).f j = q.f j := if_neg h
def rqC (a : Nat) (q : rq) : gA := .inr (.inr (3, [.int (q.f 0), .int (q.f 1), .int (q.f 2), .int (q.f 3), .int (q.f 4), .int (q.f 5), .int (q.f 6), .ref (a + 1), .int (q.f 8), .int (q.f 9), .int (q.f 10)]))
def rqH (hp : List gA) (a : Nat) (q : rq) (l : List Int32) : Prop := hp[a]? = some (rqC a q) ∧ gRw hp (a + 1) (a + 2) 15 l
def rqF (a : Nat) (hp h : List gA) : Prop := h.length = hp.length ∧ ∀ k, ¬ k = a → ¬ k = a + 1 → ¬ k = a + 2 → h[k]? = hp[k]?
theorem rqF.rf {a : Nat} {hp : List gA} : rqF a hp hp := ⟨rfl, fun _ _ _ _ => rfl⟩
theorem rqF.trans {a : Nat} {hp h h' : List gA} (x : rqF a hp h) (y : rqF a h h') : rqF a hp h' := ⟨y.1.trans x.1, fun k h1 h2 h3 => (y.2 k h1 h2 h3).trans (x.2 k h1 h2 h3)⟩
theorem rqput {X : gX} {pc cl sl : Nat} {ls : List (Option Value)} {st : List Value} {hp : List gA} {a j : Nat} {q : rq} {l : List Int32} {x : Int32} {e : gA} (H : rqH hp a q l) (he : e = rqC a (q.set j x)) (kk : ∀ h, rqH h a (q.set j x) l → rqF a hp h → gG X pc ls st h cl sl) : gG X pc ls st (hp.set a e) cl sl := by
  subst he
  have f : ∀ k, ¬ k = a → (hp.set a (rqC a (q.set j x)))[k]? = hp[k]? := fun k hk => List.getElem?_set_ne (Ne.symm hk)
  exact kk _ ⟨gset_self H.1, H.2.kept (f _ (by omega)) (f _ (by omega))⟩ ⟨List.length_set, fun k h1 _ _ => f k h1⟩
theorem raLen {hp h : List gA} {r a : Nat} {x : gA} {y : gA} (h1 : hp[r]? = some x) (h2 : hp[a]? = some y) {x' y' : gA} (h3 : h[r]? = some x') (h4 : h[a]? = some y') (f : gFr hp h r a) : h.length = hp.length := by
  have key : ∀ i, i < hp.length ↔ i < h.length := fun i => by
    by_cases e1 : i = r
    · subst e1
      exact ⟨fun _ => (List.getElem?_eq_some_iff.mp h3).1, fun _ => (List.getElem?_eq_some_iff.mp h1).1⟩
    · by_cases e2 : i = a
      · subst e2
        exact ⟨fun _ => (List.getElem?_eq_some_iff.mp h4).1, fun _ => (List.getElem?_eq_some_iff.mp h2).1⟩
      · have e := f i e1 e2
        constructor
        · intro hi
          rw [List.getElem?_eq_getElem hi] at e
          exact (List.getElem?_eq_some_iff.mp e).1
        · intro hi
          rw [List.getElem?_eq_getElem hi] at e
          exact (List.getElem?_eq_some_iff.mp e.symm).1
  have k1 := key hp.length
  have k2 := key h.length
  omega
/-- the row of history is written -/
theorem rqrow {hp h : List gA} {a : Nat} {q : rq} {l l' : List Int32} (H : rqH hp a q l) (z : gRw h (a + 1) (a + 2) 15 l' ∧ gFr hp h (a + 1) (a + 2)) : rqH h a q l' ∧ rqF a hp h := by
  obtain ⟨F0, p1, p2, -⟩ := H.2
  obtain ⟨g, f⟩ := z
  obtain ⟨F, q1, q2, q3⟩ := g
  exact ⟨⟨(f a (by omega) (by omega)).trans H.1, F, q1, q2, q3⟩, raLen p1 p2 q1 q2 f, fun k _ h2 h3 => f k h2 h3⟩
theorem gRw.ra {hp h : List gA} {a : Nat} {t : List Int32} (H : gRw hp 1 2 96 t) (ha : 3 < a) (f : rqF a hp h) : gRw h 1 2 96 t := H.kept (f.2 1 (by omega) (by omega) (by omega)) (f.2 2 (by omega) (by omega) (by omega))
def raCl : List Int32 := [372, 372, 558, 744, 1116, 1488, 1860, 0, 0, 512, 768, 1024, 1536, 2048, 0, 0]
def raDv : List Int32 := [0, 1, 2, 4, 8, 16, 32, 64, 12, 20, 0, 0, 0, 0, 0, 0]
def rX3_clockOf (x : Int32) : Int32 := if x >>> (4 &&& 31) < 0 then 0 else if nI 16 ≤ x >>> (4 &&& 31) then 0 else raCl.getD (x >>> (4 &&& 31)).toNatClampNeg 0
def rX3_divisorOf (x : Int32) : Int32 := if nI 16 ≤ x &&& 15 then 0 else raDv.getD (x &&& 15).toNatClampNeg 0
theorem raTl {x : Int32} (h0 : ¬ x < 0) (h : ¬ nI 16 ≤ x) : x.toNatClampNeg < 16 := by
  have e := gcl h0
  rw [Int32.le_iff_toInt_le] at h
  have : (nI 16).toInt = 16 := by decide
  omega
theorem dX3_clockOf_0 : decode cX3_clockOf 0 = .ok (.iload_n 0, 1) := by decide +kernel
theorem dX3_clockOf_1 : decode cX3_clockOf 1 = .ok (.iconst 4, 1) := by decide +kernel
theorem dX3_clockOf_2 : decode cX3_clockOf 2 = .ok (.ishr, 1) := by decide +kernel
theorem dX3_clockOf_3 : decode cX3_clockOf 3 = .ok (.istore_n 1, 1) := by decide +kernel
theorem dX3_clockOf_4 : decode cX3_clockOf 4 = .ok (.iload_n 1, 1) := by decide +kernel
theorem dX3_clockOf_5 : decode cX3_clockOf 5 = .ok (.ifCond .lt 19, 3) := by decide +kernel
theorem dX3_clockOf_8 : decode cX3_clockOf 8 = .ok (.iload_n 1, 1) := by decide +kernel
theorem dX3_clockOf_9 : decode cX3_clockOf 9 = .ok (.getstatic 104, 3) := by decide +kernel
theorem dX3_clockOf_12 : decode cX3_clockOf 12 = .ok (.arraylength, 1) := by decide +kernel
theorem dX3_clockOf_13 : decode cX3_clockOf 13 = .ok (.if_icmp .ge 11, 3) := by decide +kernel
theorem dX3_clockOf_16 : decode cX3_clockOf 16 = .ok (.getstatic 104, 3) := by decide +kernel
theorem dX3_clockOf_19 : decode cX3_clockOf 19 = .ok (.iload_n 1, 1) := by decide +kernel
theorem dX3_clockOf_20 : decode cX3_clockOf 20 = .ok (.iaload, 1) := by decide +kernel
theorem dX3_clockOf_21 : decode cX3_clockOf 21 = .ok (.goto 4, 3) := by decide +kernel
theorem dX3_clockOf_24 : decode cX3_clockOf 24 = .ok (.iconst 0, 1) := by decide +kernel
theorem dX3_clockOf_25 : decode cX3_clockOf 25 = .ok (.ireturn, 1) := by decide +kernel
theorem dX3_divisorOf_0 : decode cX3_divisorOf 0 = .ok (.iload_n 0, 1) := by decide +kernel
theorem dX3_divisorOf_1 : decode cX3_divisorOf 1 = .ok (.bipush 15, 2) := by decide +kernel
theorem dX3_divisorOf_3 : decode cX3_divisorOf 3 = .ok (.iand, 1) := by decide +kernel
theorem dX3_divisorOf_4 : decode cX3_divisorOf 4 = .ok (.istore_n 1, 1) := by decide +kernel
theorem dX3_divisorOf_5 : decode cX3_divisorOf 5 = .ok (.iload_n 1, 1) := by decide +kernel
theorem dX3_divisorOf_6 : decode cX3_divisorOf 6 = .ok (.getstatic 108, 3) := by decide +kernel
theorem dX3_divisorOf_9 : decode cX3_divisorOf 9 = .ok (.arraylength, 1) := by decide +kernel
theorem dX3_divisorOf_10 : decode cX3_divisorOf 10 = .ok (.if_icmp .ge 11, 3) := by decide +kernel
theorem dX3_divisorOf_13 : decode cX3_divisorOf 13 = .ok (.getstatic 108, 3) := by decide +kernel
theorem dX3_divisorOf_16 : decode cX3_divisorOf 16 = .ok (.iload_n 1, 1) := by decide +kernel
theorem dX3_divisorOf_17 : decode cX3_divisorOf 17 = .ok (.iaload, 1) := by decide +kernel
theorem dX3_divisorOf_18 : decode cX3_divisorOf 18 = .ok (.goto 4, 3) := by decide +kernel
theorem dX3_divisorOf_21 : decode cX3_divisorOf 21 = .ok (.iconst 0, 1) := by decide +kernel
theorem dX3_divisorOf_22 : decode cX3_divisorOf 22 = .ok (.ireturn, 1) := by decide +kernel
theorem dX3_faultAt_0 : decode cX3_faultAt 0 = .ok (.bipush 8, 2) := by decide +kernel
theorem dX3_faultAt_2 : decode cX3_faultAt 2 = .ok (.iload_n 0, 1) := by decide +kernel
theorem dX3_faultAt_3 : decode cX3_faultAt 3 = .ok (.imul, 1) := by decide +kernel
theorem dX3_faultAt_4 : decode cX3_faultAt 4 = .ok (.iload_n 1, 1) := by decide +kernel
theorem dX3_faultAt_5 : decode cX3_faultAt 5 = .ok (.iadd, 1) := by decide +kernel
theorem dX3_faultAt_6 : decode cX3_faultAt 6 = .ok (.ireturn, 1) := by decide +kernel
theorem raWC : Cond.fieldLink RX3 104 "CardLink$ResetAnswer" "CLOCKS" "[I" ∈ gW := gW_of (List.mem_of_getElem? (i := 544) (by decide +kernel)) rfl
theorem raWD : Cond.fieldLink RX3 108 "CardLink$ResetAnswer" "DIVISORS" "[I" ∈ gW := gW_of (List.mem_of_getElem? (i := 549) (by decide +kernel)) rfl
set_option maxRecDepth 100000 in
set_option maxHeartbeats 4000000 in
theorem c_X3_clockOf_x {hp : List gA} {y : Int32} : gM yX3_clockOf cX3_clockOf 2 ((some .int)) 0 0 [.int y] (hp) (0) (0) (fun v h => v = some (.int (rX3_clockOf y)) ∧ h = hp) := by
  refine gM_of (ls0 := [some (.int y), none]) (by decide +kernel) (Nat.le_of_ble_eq_true rfl) rfl fun X C E => ?_
  refine g_iload_n (q := 1) C dX3_clockOf_0 rfl rfl ?_
  refine g_iconst (v := 4) (q := 2) C dX3_clockOf_1 (by decide) rfl ?_
  refine g_ishr (q := 3) C dX3_clockOf_2 rfl ?_
  refine g_istore_n (q := 4) C dX3_clockOf_3 (Nat.le_of_ble_eq_true rfl) (by simp only [gset]; rfl) rfl ?_
  refine g_iload_n (q := 5) C dX3_clockOf_4 rfl rfl ?_
  refine g_if_lt (t := 24) (q := 8) C dX3_clockOf_5 (by decide) rfl (fun c_5 => ?_) (fun c_5 => ?_)
  · refine g_iconst (v := 0) (q := 25) C dX3_clockOf_24 (by decide) rfl ?_
    exact E.1 _ _ _ _ _ _ _ dX3_clockOf_25 rfl rfl (Nat.le_of_ble_eq_true rfl) (Nat.le_of_ble_eq_true rfl) ⟨by unfold rX3_clockOf; rw [if_pos c_5], rfl⟩
  · refine g_iload_n (q := 9) C dX3_clockOf_8 rfl rfl ?_
    refine g_tablen (z := ("CardLink$ResetAnswer", "CLOCKS", raCl)) C (List.mem_cons_of_mem _ List.mem_cons_self) raWC dX3_clockOf_9 dX3_clockOf_12 rfl ?_
    refine g_icmp_ge (t := 24) (q := 16) C dX3_clockOf_13 (by decide) rfl (fun c_13 => ?_) (fun c_13 => ?_)
    · refine g_iconst (v := 0) (q := 25) C dX3_clockOf_24 (by decide) rfl ?_
      exact E.1 _ _ _ _ _ _ _ dX3_clockOf_25 rfl rfl (Nat.le_of_ble_eq_true rfl) (Nat.le_of_ble_eq_true rfl) ⟨by have c : nI 16 ≤ y >>> (4 &&& 31) := c_13; unfold rX3_clockOf; rw [if_neg c_5, if_pos c], rfl⟩
    · refine g_tabld (z := ("CardLink$ResetAnswer", "CLOCKS", raCl)) (i := 1) (q := 21) C (List.mem_cons_of_mem _ List.mem_cons_self) raWC dX3_clockOf_16 dX3_clockOf_19 dX3_clockOf_20 rfl rfl rfl c_5 (raTl c_5 c_13) rfl ?_
      refine g_goto (q := 25) C dX3_clockOf_21 (by decide) ?_
      exact E.1 _ _ _ _ _ _ _ dX3_clockOf_25 rfl rfl (Nat.le_of_ble_eq_true rfl) (Nat.le_of_ble_eq_true rfl) ⟨by have c : ¬ nI 16 ≤ y >>> (4 &&& 31) := c_13; exact congrArg (fun x => some (Value.int x)) (show _ = rX3_clockOf y from ((if_neg c_5).trans (if_neg c)).symm), rfl⟩
set_option maxRecDepth 100000 in
set_option maxHeartbeats 4000000 in
theorem c_X3_divisorOf_x {hp : List gA} {y : Int32} : gM yX3_divisorOf cX3_divisorOf 2 ((some .int)) 0 0 [.int y] (hp) (0) (0) (fun v h => v = some (.int (rX3_divisorOf y)) ∧ h = hp) := by
  obtain ⟨n, hn, en⟩ := raAnd15 (a := y)
  have n0 : ¬ (y &&& 15) < 0 := by rw [en]; exact nI_pos (by omega)
  refine gM_of (ls0 := [some (.int y), none]) (by decide +kernel) (Nat.le_of_ble_eq_true rfl) rfl fun X C E => ?_
  refine g_iload_n (q := 1) C dX3_divisorOf_0 rfl rfl ?_
  refine g_bipush (v := 15) (q := 3) C dX3_divisorOf_1 (by decide) rfl ?_
  refine g_iand (q := 4) C dX3_divisorOf_3 rfl ?_
  refine g_istore_n (q := 5) C dX3_divisorOf_4 (Nat.le_of_ble_eq_true rfl) (by simp only [gset]; rfl) rfl ?_
  refine g_iload_n (q := 6) C dX3_divisorOf_5 rfl rfl ?_
  refine g_tablen (z := ("CardLink$ResetAnswer", "DIVISORS", raDv)) C (List.mem_cons_of_mem _ (List.mem_cons_of_mem _ List.mem_cons_self)) raWD dX3_divisorOf_6 dX3_divisorOf_9 rfl ?_
  refine g_icmp_ge (t := 21) (q := 13) C dX3_divisorOf_10 (by decide) rfl (fun c_10 => ?_) (fun c_10 => ?_)
  · refine g_iconst (v := 0) (q := 22) C dX3_divisorOf_21 (by decide) rfl ?_
    exact E.1 _ _ _ _ _ _ _ dX3_divisorOf_22 rfl rfl (Nat.le_of_ble_eq_true rfl) (Nat.le_of_ble_eq_true rfl) ⟨by have c : nI 16 ≤ y &&& 15 := c_10; unfold rX3_divisorOf; rw [if_pos c], rfl⟩
  · refine g_tabld (z := ("CardLink$ResetAnswer", "DIVISORS", raDv)) (i := 1) (q := 18) C (List.mem_cons_of_mem _ (List.mem_cons_of_mem _ List.mem_cons_self)) raWD dX3_divisorOf_13 dX3_divisorOf_16 dX3_divisorOf_17 rfl rfl rfl n0 (raTl n0 c_10) rfl ?_
    refine g_goto (q := 22) C dX3_divisorOf_18 (by decide) ?_
    exact E.1 _ _ _ _ _ _ _ dX3_divisorOf_22 rfl rfl (Nat.le_of_ble_eq_true rfl) (Nat.le_of_ble_eq_true rfl) ⟨by have c : ¬ nI 16 ≤ y &&& 15 := c_10; exact congrArg (fun x => some (Value.int x)) (show _ = rX3_divisorOf y from (if_neg c).symm), rfl⟩
theorem c_X3_faultAt_x {hp : List gA} {y z : Int32} : gM yX3_faultAt cX3_faultAt 2 ((some .int)) 0 0 [.int y, .int z] (hp) (0) (0) (fun v h => v = some (.int (8 * y + z)) ∧ h = hp) := by
  refine gM_of (ls0 := [some (.int y), some (.int z)]) (by decide +kernel) (Nat.le_of_ble_eq_true rfl) rfl fun X C E => ?_
  refine g_bipush (v := 8) (q := 2) C dX3_faultAt_0 (by decide) rfl ?_
  refine g_iload_n (q := 3) C dX3_faultAt_2 rfl rfl ?_
  refine g_imul (q := 4) C dX3_faultAt_3 rfl ?_
  refine g_iload_n (q := 5) C dX3_faultAt_4 rfl rfl ?_
  refine g_iadd (q := 6) C dX3_faultAt_5 rfl ?_
  exact E.1 _ _ _ _ _ _ _ dX3_faultAt_6 rfl rfl (Nat.le_of_ble_eq_true rfl) (Nat.le_of_ble_eq_true rfl) ⟨rfl, rfl⟩
theorem c_X4_keep0 {hp : List gA} {r a n : Nat} {l : List Int32} (H : gRw hp r a n l) : gM yX4_keep cX4_keep 2 (none) 1 21 [.ref r, .int 0] (hp) (0) (0) (fun v h => v = none ∧ (gRw h r a n [] ∧ gFr hp h r a)) := by
  have k := c_X4_keep_w (k := 0) H (by decide)
  rw [List.take_zero] at k
  exact k
def rX3_clear (q : rq) : rq := (((((((q.set 1 17).set 2 0).set 3 0).set 4 0).set 5 32).set 6 0).set 10 0)
theorem dX3_clear_0 : decode cX3_clear 0 = .ok (.aload_n 0, 1) := by decide +kernel
theorem dX3_clear_1 : decode cX3_clear 1 = .ok (.bipush 17, 2) := by decide +kernel
theorem dX3_clear_3 : decode cX3_clear 3 = .ok (.putfield 38, 3) := by decide +kernel
theorem dX3_clear_6 : decode cX3_clear 6 = .ok (.aload_n 0, 1) := by decide +kernel
theorem dX3_clear_7 : decode cX3_clear 7 = .ok (.iconst 0, 1) := by decide +kernel
theorem dX3_clear_8 : decode cX3_clear 8 = .ok (.putfield 42, 3) := by decide +kernel
theorem dX3_clear_11 : decode cX3_clear 11 = .ok (.aload_n 0, 1) := by decide +kernel
theorem dX3_clear_12 : decode cX3_clear 12 = .ok (.iconst 0, 1) := by decide +kernel
theorem dX3_clear_13 : decode cX3_clear 13 = .ok (.putfield 45, 3) := by decide +kernel
theorem dX3_clear_16 : decode cX3_clear 16 = .ok (.aload_n 0, 1) := by decide +kernel
theorem dX3_clear_17 : decode cX3_clear 17 = .ok (.iconst 0, 1) := by decide +kernel
theorem dX3_clear_18 : decode cX3_clear 18 = .ok (.putfield 48, 3) := by decide +kernel
theorem dX3_clear_21 : decode cX3_clear 21 = .ok (.aload_n 0, 1) := by decide +kernel
theorem dX3_clear_22 : decode cX3_clear 22 = .ok (.bipush 32, 2) := by decide +kernel
theorem dX3_clear_24 : decode cX3_clear 24 = .ok (.putfield 51, 3) := by decide +kernel
theorem dX3_clear_27 : decode cX3_clear 27 = .ok (.aload_n 0, 1) := by decide +kernel
theorem dX3_clear_28 : decode cX3_clear 28 = .ok (.iconst 0, 1) := by decide +kernel
theorem dX3_clear_29 : decode cX3_clear 29 = .ok (.putfield 54, 3) := by decide +kernel
theorem dX3_clear_32 : decode cX3_clear 32 = .ok (.aload_n 0, 1) := by decide +kernel
theorem dX3_clear_33 : decode cX3_clear 33 = .ok (.getfield 14, 3) := by decide +kernel
theorem dX3_clear_36 : decode cX3_clear 36 = .ok (.iconst 0, 1) := by decide +kernel
theorem dX3_clear_37 : decode cX3_clear 37 = .ok (.invokevirtual 58, 3) := by decide +kernel
theorem dX3_clear_40 : decode cX3_clear 40 = .ok (.aload_n 0, 1) := by decide +kernel
theorem dX3_clear_41 : decode cX3_clear 41 = .ok (.iconst 0, 1) := by decide +kernel
theorem dX3_clear_42 : decode cX3_clear 42 = .ok (.putfield 62, 3) := by decide +kernel
theorem dX3_clear_45 : decode cX3_clear 45 = .ok (.return_, 1) := by decide +kernel
set_option maxRecDepth 100000 in
set_option maxHeartbeats 4000000 in
theorem c_X3_clear_116 {hp : List gA} {q : rq} {l : List Int32} (HQ : rqH hp 116 q l) : gM yX3_clear cX3_clear 1 (none) 2 42 [.ref 116] (hp) (0) (0) (fun v h => v = none ∧ (rqH h 116 (rX3_clear q) [] ∧ rqF 116 hp h)) := by
  refine gM_of (ls0 := [some (.ref 116)]) (by decide +kernel) (Nat.le_of_ble_eq_true rfl) rfl fun X C E => ?_
  refine g_aload_n (q := 1) C dX3_clear_0 rfl rfl ?_
  refine g_bipush (v := 17) (q := 3) C dX3_clear_1 (by decide) rfl ?_
  refine g_putfield (q := 6) C fX3_38 dX3_clear_3 rfl HQ.1 (Nat.le_of_ble_eq_true rfl) (Or.inl rfl) rfl rfl (by intro z h; cases h) ?_
  refine rqput (j := 1) (x := 17) HQ rfl fun h1 HQ1 fq1 => ?_
  refine g_aload_n (q := 7) C dX3_clear_6 rfl rfl ?_
  refine g_iconst (v := 0) (q := 8) C dX3_clear_7 (by decide) rfl ?_
  refine g_putfield (q := 11) C fX3_42 dX3_clear_8 rfl HQ1.1 (Nat.le_of_ble_eq_true rfl) (Or.inl rfl) rfl rfl (by intro z h; cases h) ?_
  refine rqput (j := 2) (x := 0) HQ1 rfl fun h2 HQ2 fq2 => ?_
  refine g_aload_n (q := 12) C dX3_clear_11 rfl rfl ?_
  refine g_iconst (v := 0) (q := 13) C dX3_clear_12 (by decide) rfl ?_
  refine g_putfield (q := 16) C fX3_45 dX3_clear_13 rfl HQ2.1 (Nat.le_of_ble_eq_true rfl) (Or.inl rfl) rfl rfl (by intro z h; cases h) ?_
  refine rqput (j := 3) (x := 0) HQ2 rfl fun h3 HQ3 fq3 => ?_
  refine g_aload_n (q := 17) C dX3_clear_16 rfl rfl ?_
  refine g_iconst (v := 0) (q := 18) C dX3_clear_17 (by decide) rfl ?_
  refine g_putfield (q := 21) C fX3_48 dX3_clear_18 rfl HQ3.1 (Nat.le_of_ble_eq_true rfl) (Or.inl rfl) rfl rfl (by intro z h; cases h) ?_
  refine rqput (j := 4) (x := 0) HQ3 rfl fun h4 HQ4 fq4 => ?_
  refine g_aload_n (q := 22) C dX3_clear_21 rfl rfl ?_
  refine g_bipush (v := 32) (q := 24) C dX3_clear_22 (by decide) rfl ?_
  refine g_putfield (q := 27) C fX3_51 dX3_clear_24 rfl HQ4.1 (Nat.le_of_ble_eq_true rfl) (Or.inl rfl) rfl rfl (by intro z h; cases h) ?_
  refine rqput (j := 5) (x := 32) HQ4 rfl fun h5 HQ5 fq5 => ?_
  refine g_aload_n (q := 28) C dX3_clear_27 rfl rfl ?_
  refine g_iconst (v := 0) (q := 29) C dX3_clear_28 (by decide) rfl ?_
  refine g_putfield (q := 32) C fX3_54 dX3_clear_29 rfl HQ5.1 (Nat.le_of_ble_eq_true rfl) (Or.inl rfl) rfl rfl (by intro z h; cases h) ?_
  refine rqput (j := 6) (x := 0) HQ5 rfl fun h6 HQ6 fq6 => ?_
  refine g_aload_n (q := 33) C dX3_clear_32 rfl rfl ?_
  refine g_getfield (v := .ref 117) (q := 36) C fX3_14 dX3_clear_33 rfl HQ6.1 rfl ?_
  refine g_iconst (v := 0) (q := 37) C dX3_clear_36 (by decide) rfl ?_
  refine g_callVvp (q := 40) (As := [.int 0]) C gyX4_keep gvX4_keep t_512 (c_X4_keep0 HQ6.2) dX3_clear_37 rfl (gRw.obj HQ6.2) rfl rfl rfl (Nat.le_of_ble_eq_true rfl) (Nat.le_of_ble_eq_true rfl) (Nat.le_of_ble_eq_true rfl) (Nat.le_of_ble_eq_true rfl) (Nat.le_of_ble_eq_true rfl) rfl (fun h7 z7 => ?_)
  obtain ⟨HQ7, fq7⟩ := rqrow HQ6 z7
  refine g_aload_n (q := 41) C dX3_clear_40 rfl rfl ?_
  refine g_iconst (v := 0) (q := 42) C dX3_clear_41 (by decide) rfl ?_
  refine g_putfield (q := 45) C fX3_62 dX3_clear_42 rfl HQ7.1 (Nat.le_of_ble_eq_true rfl) (Or.inl rfl) rfl rfl (by intro z h; cases h) ?_
  refine rqput (j := 10) (x := 0) HQ7 rfl fun h8 HQ8 fq8 => ?_
  have e : rX3_clear q = (((((((q.set 1 17).set 2 0).set 3 0).set 4 0).set 5 32).set 6 0).set 10 0) := rfl
  exact E.2.1 _ _ _ _ _ dX3_clear_45 rfl (Nat.le_of_ble_eq_true rfl) (Nat.le_of_ble_eq_true rfl) ⟨rfl, by rw [e]; exact ⟨HQ8, (rqF.trans (rqF.trans (rqF.trans (rqF.trans (rqF.trans (rqF.trans (rqF.trans fq1 fq2) fq3) fq4) fq5) fq6) fq7) fq8)⟩⟩
def rX3_readHead (q : rq) (t : List Int32) : Int32 × rq := (if (nI t.length) = 0 then ((8 * 0 + 1), q) else (if (gat t 0) = 59 then (if (nI t.length) = 1 then ((8 * 1 + 1), (q.set 0 (gat t 0))) else (0, (((q.set 0 (gat t 0)).set 9 ((gat t 1) >>> (4 &&& 31))).set 8 2))) else (if (gat t 0) = 63 then (if (nI t.length) = 1 then ((8 * 1 + 1), (q.set 0 (gat t 0))) else (0, (((q.set 0 (gat t 0)).set 9 ((gat t 1) >>> (4 &&& 31))).set 8 2))) else ((8 * 0 + 2), (q.set 0 (gat t 0))))))
theorem dX3_readHead_0 : decode cX3_readHead 0 = .ok (.aload_n 1, 1) := by decide +kernel
theorem dX3_readHead_1 : decode cX3_readHead 1 = .ok (.invokevirtual 65, 3) := by decide +kernel
theorem dX3_readHead_4 : decode cX3_readHead 4 = .ok (.ifCond .ne 9, 3) := by decide +kernel
theorem dX3_readHead_7 : decode cX3_readHead 7 = .ok (.iconst 0, 1) := by decide +kernel
theorem dX3_readHead_8 : decode cX3_readHead 8 = .ok (.iconst 1, 1) := by decide +kernel
theorem dX3_readHead_9 : decode cX3_readHead 9 = .ok (.invokestatic 69, 3) := by decide +kernel
theorem dX3_readHead_12 : decode cX3_readHead 12 = .ok (.ireturn, 1) := by decide +kernel
theorem dX3_readHead_13 : decode cX3_readHead 13 = .ok (.aload_n 0, 1) := by decide +kernel
theorem dX3_readHead_14 : decode cX3_readHead 14 = .ok (.aload_n 1, 1) := by decide +kernel
theorem dX3_readHead_15 : decode cX3_readHead 15 = .ok (.iconst 0, 1) := by decide +kernel
theorem dX3_readHead_16 : decode cX3_readHead 16 = .ok (.invokevirtual 30, 3) := by decide +kernel
theorem dX3_readHead_19 : decode cX3_readHead 19 = .ok (.putfield 73, 3) := by decide +kernel
theorem dX3_readHead_22 : decode cX3_readHead 22 = .ok (.aload_n 0, 1) := by decide +kernel
theorem dX3_readHead_23 : decode cX3_readHead 23 = .ok (.getfield 73, 3) := by decide +kernel
theorem dX3_readHead_26 : decode cX3_readHead 26 = .ok (.bipush 59, 2) := by decide +kernel
theorem dX3_readHead_28 : decode cX3_readHead 28 = .ok (.if_icmp .eq 18, 3) := by decide +kernel
theorem dX3_readHead_31 : decode cX3_readHead 31 = .ok (.aload_n 0, 1) := by decide +kernel
theorem dX3_readHead_32 : decode cX3_readHead 32 = .ok (.getfield 73, 3) := by decide +kernel
theorem dX3_readHead_35 : decode cX3_readHead 35 = .ok (.bipush 63, 2) := by decide +kernel
theorem dX3_readHead_37 : decode cX3_readHead 37 = .ok (.if_icmp .eq 9, 3) := by decide +kernel
theorem dX3_readHead_40 : decode cX3_readHead 40 = .ok (.iconst 0, 1) := by decide +kernel
theorem dX3_readHead_41 : decode cX3_readHead 41 = .ok (.iconst 2, 1) := by decide +kernel
theorem dX3_readHead_42 : decode cX3_readHead 42 = .ok (.invokestatic 69, 3) := by decide +kernel
theorem dX3_readHead_45 : decode cX3_readHead 45 = .ok (.ireturn, 1) := by decide +kernel
theorem dX3_readHead_46 : decode cX3_readHead 46 = .ok (.aload_n 1, 1) := by decide +kernel
theorem dX3_readHead_47 : decode cX3_readHead 47 = .ok (.invokevirtual 65, 3) := by decide +kernel
theorem dX3_readHead_50 : decode cX3_readHead 50 = .ok (.iconst 1, 1) := by decide +kernel
theorem dX3_readHead_51 : decode cX3_readHead 51 = .ok (.if_icmp .ne 9, 3) := by decide +kernel
theorem dX3_readHead_54 : decode cX3_readHead 54 = .ok (.iconst 1, 1) := by decide +kernel
theorem dX3_readHead_55 : decode cX3_readHead 55 = .ok (.iconst 1, 1) := by decide +kernel
theorem dX3_readHead_56 : decode cX3_readHead 56 = .ok (.invokestatic 69, 3) := by decide +kernel
theorem dX3_readHead_59 : decode cX3_readHead 59 = .ok (.ireturn, 1) := by decide +kernel
theorem dX3_readHead_60 : decode cX3_readHead 60 = .ok (.aload_n 0, 1) := by decide +kernel
theorem dX3_readHead_61 : decode cX3_readHead 61 = .ok (.aload_n 1, 1) := by decide +kernel
theorem dX3_readHead_62 : decode cX3_readHead 62 = .ok (.iconst 1, 1) := by decide +kernel
theorem dX3_readHead_63 : decode cX3_readHead 63 = .ok (.invokevirtual 30, 3) := by decide +kernel
theorem dX3_readHead_66 : decode cX3_readHead 66 = .ok (.iconst 4, 1) := by decide +kernel
theorem dX3_readHead_67 : decode cX3_readHead 67 = .ok (.ishr, 1) := by decide +kernel
theorem dX3_readHead_68 : decode cX3_readHead 68 = .ok (.putfield 76, 3) := by decide +kernel
theorem dX3_readHead_71 : decode cX3_readHead 71 = .ok (.aload_n 0, 1) := by decide +kernel
theorem dX3_readHead_72 : decode cX3_readHead 72 = .ok (.iconst 2, 1) := by decide +kernel
theorem dX3_readHead_73 : decode cX3_readHead 73 = .ok (.putfield 79, 3) := by decide +kernel
theorem dX3_readHead_76 : decode cX3_readHead 76 = .ok (.iconst 0, 1) := by decide +kernel
theorem dX3_readHead_77 : decode cX3_readHead 77 = .ok (.ireturn, 1) := by decide +kernel
set_option maxRecDepth 100000 in
set_option maxHeartbeats 4000000 in
theorem c_X3_readHead_116 {hp : List gA} {q : rq} {l t : List Int32} (HQ : rqH hp 116 q l) (HT : gRw hp 1 2 96 t) : gM yX3_readHead cX3_readHead 2 ((some .int)) 1 21 [.ref 116, .ref 1] (hp) (0) (0) (fun v h => v = some (.int (rX3_readHead q t).1) ∧ (rqH h 116 (rX3_readHead q t).2 l ∧ rqF 116 hp h)) := by
  refine gM_of (ls0 := [some (.ref 116), some (.ref 1)]) (by decide +kernel) (Nat.le_of_ble_eq_true rfl) rfl fun X C E => ?_
  refine g_aload_n (q := 1) C dX3_readHead_0 rfl rfl ?_
  refine g_callVi (x := (nI t.length)) (q := 4) (As := []) C gyX4_size gvX4_size t_517 (c_X4_size (gRw.obj HT)) dX3_readHead_1 rfl (gRw.obj HT) rfl rfl rfl (Nat.le_of_ble_eq_true rfl) (Nat.le_of_ble_eq_true rfl) (Nat.le_of_ble_eq_true rfl) (Nat.le_of_ble_eq_true rfl) (Nat.le_of_ble_eq_true rfl) rfl ?_
  refine g_if_ne (t := 13) (q := 7) C dX3_readHead_4 (by decide) rfl (fun c_4 => ?_) (fun c_4 => ?_)
  ·
    refine g_aload_n (q := 14) C dX3_readHead_13 rfl rfl ?_
    refine g_aload_n (q := 15) C dX3_readHead_14 rfl rfl ?_
    refine g_iconst (v := 0) (q := 16) C dX3_readHead_15 (by decide) rfl ?_
    refine g_callVi (x := (gat t 0)) (q := 19) (As := [.int 0]) C gyX4_at gvX4_at t_521 (c_X4_at_w HT) dX3_readHead_16 rfl (gRw.obj HT) rfl rfl rfl (Nat.le_of_ble_eq_true rfl) (Nat.le_of_ble_eq_true rfl) (Nat.le_of_ble_eq_true rfl) (Nat.le_of_ble_eq_true rfl) (Nat.le_of_ble_eq_true rfl) rfl ?_
    refine g_putfield (q := 22) C fX3_73 dX3_readHead_19 rfl HQ.1 (Nat.le_of_ble_eq_true rfl) (Or.inl rfl) rfl rfl (by intro z h; cases h) ?_
    refine rqput (j := 0) (x := (gat t 0)) HQ rfl fun h1 HQ1 fq1 => ?_
    have HT1 := gRw.ra HT (by decide) fq1
    refine g_aload_n (q := 23) C dX3_readHead_22 rfl rfl ?_
    refine g_getfield (v := .int ((gat t 0))) (q := 26) C fX3_73 dX3_readHead_23 rfl HQ1.1 rfl ?_
    refine g_bipush (v := 59) (q := 28) C dX3_readHead_26 (by decide) rfl ?_
    refine g_icmp_eq (t := 46) (q := 31) C dX3_readHead_28 (by decide) rfl (fun c_28 => ?_) (fun c_28 => ?_)
    ·
      refine g_aload_n (q := 47) C dX3_readHead_46 rfl rfl ?_
      refine g_callVi (x := (nI t.length)) (q := 50) (As := []) C gyX4_size gvX4_size t_517 (c_X4_size (gRw.obj HT1)) dX3_readHead_47 rfl (gRw.obj HT1) rfl rfl rfl (Nat.le_of_ble_eq_true rfl) (Nat.le_of_ble_eq_true rfl) (Nat.le_of_ble_eq_true rfl) (Nat.le_of_ble_eq_true rfl) (Nat.le_of_ble_eq_true rfl) rfl ?_
      refine g_iconst (v := 1) (q := 51) C dX3_readHead_50 (by decide) rfl ?_
      refine g_icmp_ne (t := 60) (q := 54) C dX3_readHead_51 (by decide) rfl (fun c_51 => ?_) (fun c_51 => ?_)
      ·
        refine g_aload_n (q := 61) C dX3_readHead_60 rfl rfl ?_
        refine g_aload_n (q := 62) C dX3_readHead_61 rfl rfl ?_
        refine g_iconst (v := 1) (q := 63) C dX3_readHead_62 (by decide) rfl ?_
        refine g_callVi (x := (gat t 1)) (q := 66) (As := [.int 1]) C gyX4_at gvX4_at t_521 (c_X4_at_w HT1) dX3_readHead_63 rfl (gRw.obj HT1) rfl rfl rfl (Nat.le_of_ble_eq_true rfl) (Nat.le_of_ble_eq_true rfl) (Nat.le_of_ble_eq_true rfl) (Nat.le_of_ble_eq_true rfl) (Nat.le_of_ble_eq_true rfl) rfl ?_
        refine g_iconst (v := 4) (q := 67) C dX3_readHead_66 (by decide) rfl ?_
        refine g_ishr (q := 68) C dX3_readHead_67 rfl ?_
        refine g_putfield (q := 71) C fX3_76 dX3_readHead_68 rfl HQ1.1 (Nat.le_of_ble_eq_true rfl) (Or.inl rfl) rfl rfl (by intro z h; cases h) ?_
        refine rqput (j := 9) (x := ((gat t 1) >>> (4 &&& 31))) HQ1 rfl fun h2 HQ2 fq2 => ?_
        have HT2 := gRw.ra HT1 (by decide) fq2
        refine g_aload_n (q := 72) C dX3_readHead_71 rfl rfl ?_
        refine g_iconst (v := 2) (q := 73) C dX3_readHead_72 (by decide) rfl ?_
        refine g_putfield (q := 76) C fX3_79 dX3_readHead_73 rfl HQ2.1 (Nat.le_of_ble_eq_true rfl) (Or.inl rfl) rfl rfl (by intro z h; cases h) ?_
        refine rqput (j := 8) (x := 2) HQ2 rfl fun h3 HQ3 fq3 => ?_
        have HT3 := gRw.ra HT2 (by decide) fq3
        refine g_iconst (v := 0) (q := 77) C dX3_readHead_76 (by decide) rfl ?_
        have e : rX3_readHead q t = ((0 : Int32), (((q.set 0 (gat t 0)).set 9 ((gat t 1) >>> (4 &&& 31))).set 8 2)) := ((if_neg c_4).trans ((if_pos c_28).trans (if_neg c_51)))
        exact E.1 _ _ _ _ _ _ _ dX3_readHead_77 rfl rfl (Nat.le_of_ble_eq_true rfl) (Nat.le_of_ble_eq_true rfl) ⟨by rw [e], by rw [e]; exact ⟨HQ3, (rqF.trans (rqF.trans fq1 fq2) fq3)⟩⟩
      ·
        refine g_iconst (v := 1) (q := 55) C dX3_readHead_54 (by decide) rfl ?_
        refine g_iconst (v := 1) (q := 56) C dX3_readHead_55 (by decide) rfl ?_
        refine g_callSi (x := (8 * 1 + 1)) (q := 59) (As := [.int 1, .int 1]) C gyX3_faultAt t_519 t_518 (c_X3_faultAt_x) dX3_readHead_56 rfl rfl rfl (Nat.le_of_ble_eq_true rfl) (Nat.le_of_ble_eq_true rfl) (Nat.le_of_ble_eq_true rfl) (Nat.le_of_ble_eq_true rfl) (Nat.le_of_ble_eq_true rfl) rfl ?_
        have e : rX3_readHead q t = ((8 * 1 + 1 : Int32), (q.set 0 (gat t 0))) := ((if_neg c_4).trans ((if_pos c_28).trans (if_pos c_51)))
        exact E.1 _ _ _ _ _ _ _ dX3_readHead_59 rfl rfl (Nat.le_of_ble_eq_true rfl) (Nat.le_of_ble_eq_true rfl) ⟨by rw [e], by rw [e]; exact ⟨HQ1, fq1⟩⟩
    ·
      refine g_aload_n (q := 32) C dX3_readHead_31 rfl rfl ?_
      refine g_getfield (v := .int ((gat t 0))) (q := 35) C fX3_73 dX3_readHead_32 rfl HQ1.1 rfl ?_
      refine g_bipush (v := 63) (q := 37) C dX3_readHead_35 (by decide) rfl ?_
      refine g_icmp_eq (t := 46) (q := 40) C dX3_readHead_37 (by decide) rfl (fun c_37 => ?_) (fun c_37 => ?_)
      ·
        refine g_aload_n (q := 47) C dX3_readHead_46 rfl rfl ?_
        refine g_callVi (x := (nI t.length)) (q := 50) (As := []) C gyX4_size gvX4_size t_517 (c_X4_size (gRw.obj HT1)) dX3_readHead_47 rfl (gRw.obj HT1) rfl rfl rfl (Nat.le_of_ble_eq_true rfl) (Nat.le_of_ble_eq_true rfl) (Nat.le_of_ble_eq_true rfl) (Nat.le_of_ble_eq_true rfl) (Nat.le_of_ble_eq_true rfl) rfl ?_
        refine g_iconst (v := 1) (q := 51) C dX3_readHead_50 (by decide) rfl ?_
        refine g_icmp_ne (t := 60) (q := 54) C dX3_readHead_51 (by decide) rfl (fun c_51 => ?_) (fun c_51 => ?_)
        ·
          refine g_aload_n (q := 61) C dX3_readHead_60 rfl rfl ?_
          refine g_aload_n (q := 62) C dX3_readHead_61 rfl rfl ?_
          refine g_iconst (v := 1) (q := 63) C dX3_readHead_62 (by decide) rfl ?_
          refine g_callVi (x := (gat t 1)) (q := 66) (As := [.int 1]) C gyX4_at gvX4_at t_521 (c_X4_at_w HT1) dX3_readHead_63 rfl (gRw.obj HT1) rfl rfl rfl (Nat.le_of_ble_eq_true rfl) (Nat.le_of_ble_eq_true rfl) (Nat.le_of_ble_eq_true rfl) (Nat.le_of_ble_eq_true rfl) (Nat.le_of_ble_eq_true rfl) rfl ?_
          refine g_iconst (v := 4) (q := 67) C dX3_readHead_66 (by decide) rfl ?_
          refine g_ishr (q := 68) C dX3_readHead_67 rfl ?_
          refine g_putfield (q := 71) C fX3_76 dX3_readHead_68 rfl HQ1.1 (Nat.le_of_ble_eq_true rfl) (Or.inl rfl) rfl rfl (by intro z h; cases h) ?_
          refine rqput (j := 9) (x := ((gat t 1) >>> (4 &&& 31))) HQ1 rfl fun h4 HQ4 fq4 => ?_
          have HT4 := gRw.ra HT1 (by decide) fq4
          refine g_aload_n (q := 72) C dX3_readHead_71 rfl rfl ?_
          refine g_iconst (v := 2) (q := 73) C dX3_readHead_72 (by decide) rfl ?_
          refine g_putfield (q := 76) C fX3_79 dX3_readHead_73 rfl HQ4.1 (Nat.le_of_ble_eq_true rfl) (Or.inl rfl) rfl rfl (by intro z h; cases h) ?_
          refine rqput (j := 8) (x := 2) HQ4 rfl fun h5 HQ5 fq5 => ?_
          have HT5 := gRw.ra HT4 (by decide) fq5
          refine g_iconst (v := 0) (q := 77) C dX3_readHead_76 (by decide) rfl ?_
          have e : rX3_readHead q t = ((0 : Int32), (((q.set 0 (gat t 0)).set 9 ((gat t 1) >>> (4 &&& 31))).set 8 2)) := ((if_neg c_4).trans ((if_neg c_28).trans ((if_pos c_37).trans (if_neg c_51))))
          exact E.1 _ _ _ _ _ _ _ dX3_readHead_77 rfl rfl (Nat.le_of_ble_eq_true rfl) (Nat.le_of_ble_eq_true rfl) ⟨by rw [e], by rw [e]; exact ⟨HQ5, (rqF.trans (rqF.trans fq1 fq4) fq5)⟩⟩
        ·
          refine g_iconst (v := 1) (q := 55) C dX3_readHead_54 (by decide) rfl ?_
          refine g_iconst (v := 1) (q := 56) C dX3_readHead_55 (by decide) rfl ?_
          refine g_callSi (x := (8 * 1 + 1)) (q := 59) (As := [.int 1, .int 1]) C gyX3_faultAt t_519 t_518 (c_X3_faultAt_x) dX3_readHead_56 rfl rfl rfl (Nat.le_of_ble_eq_true rfl) (Nat.le_of_ble_eq_true rfl) (Nat.le_of_ble_eq_true rfl) (Nat.le_of_ble_eq_true rfl) (Nat.le_of_ble_eq_true rfl) rfl ?_
          have e : rX3_readHead q t = ((8 * 1 + 1 : Int32), (q.set 0 (gat t 0))) := ((if_neg c_4).trans ((if_neg c_28).trans ((if_pos c_37).trans (if_pos c_51))))
          exact E.1 _ _ _ _ _ _ _ dX3_readHead_59 rfl rfl (Nat.le_of_ble_eq_true rfl) (Nat.le_of_ble_eq_true rfl) ⟨by rw [e], by rw [e]; exact ⟨HQ1, fq1⟩⟩
      ·
        refine g_iconst (v := 0) (q := 41) C dX3_readHead_40 (by decide) rfl ?_
        refine g_iconst (v := 2) (q := 42) C dX3_readHead_41 (by decide) rfl ?_
        refine g_callSi (x := (8 * 0 + 2)) (q := 45) (As := [.int 0, .int 2]) C gyX3_faultAt t_519 t_518 (c_X3_faultAt_x) dX3_readHead_42 rfl rfl rfl (Nat.le_of_ble_eq_true rfl) (Nat.le_of_ble_eq_true rfl) (Nat.le_of_ble_eq_true rfl) (Nat.le_of_ble_eq_true rfl) (Nat.le_of_ble_eq_true rfl) rfl ?_
        have e : rX3_readHead q t = ((8 * 0 + 2 : Int32), (q.set 0 (gat t 0))) := ((if_neg c_4).trans ((if_neg c_28).trans (if_neg c_37)))
        exact E.1 _ _ _ _ _ _ _ dX3_readHead_45 rfl rfl (Nat.le_of_ble_eq_true rfl) (Nat.le_of_ble_eq_true rfl) ⟨by rw [e], by rw [e]; exact ⟨HQ1, fq1⟩⟩
  ·
    refine g_iconst (v := 0) (q := 8) C dX3_readHead_7 (by decide) rfl ?_
    refine g_iconst (v := 1) (q := 9) C dX3_readHead_8 (by decide) rfl ?_
    refine g_callSi (x := (8 * 0 + 1)) (q := 12) (As := [.int 0, .int 1]) C gyX3_faultAt t_519 t_518 (c_X3_faultAt_x) dX3_readHead_9 rfl rfl rfl (Nat.le_of_ble_eq_true rfl) (Nat.le_of_ble_eq_true rfl) (Nat.le_of_ble_eq_true rfl) (Nat.le_of_ble_eq_true rfl) (Nat.le_of_ble_eq_true rfl) rfl ?_
    have e : rX3_readHead q t = ((8 * 0 + 1 : Int32), q) := (if_pos c_4)
    exact E.1 _ _ _ _ _ _ _ dX3_readHead_12 rfl rfl (Nat.le_of_ble_eq_true rfl) (Nat.le_of_ble_eq_true rfl) ⟨by rw [e], by rw [e]; exact ⟨HQ, rqF.rf⟩⟩
def rX3_readTd (q : rq) (y : Int32) (z : Int32) : Int32 × rq := (if (z &&& 15) = 0 then (if y = 4 then (if (z >>> (4 &&& 31)) = 0 then (if y = 1 then (if (z &&& 15) = 0 then (0, ((q.set 9 (z >>> (4 &&& 31))).set 3 (z &&& 15))) else (0, (((q.set 9 (z >>> (4 &&& 31))).set 3 (z &&& 15)).set 6 1))) else (if (z &&& 15) = 1 then (if (q.f 10) = 0 then (if (z &&& 15) = 0 then (0, ((q.set 9 (z >>> (4 &&& 31))).set 10 (y + 1))) else (0, (((q.set 9 (z >>> (4 &&& 31))).set 10 (y + 1)).set 6 1))) else (if (z &&& 15) = 0 then (0, (q.set 9 (z >>> (4 &&& 31)))) else (0, ((q.set 9 (z >>> (4 &&& 31))).set 6 1)))) else (if (z &&& 15) = 0 then (0, (q.set 9 (z >>> (4 &&& 31)))) else (0, ((q.set 9 (z >>> (4 &&& 31))).set 6 1))))) else (3, (q.set 9 (z >>> (4 &&& 31))))) else (if y = 1 then (if (z &&& 15) = 0 then (0, ((q.set 9 (z >>> (4 &&& 31))).set 3 (z &&& 15))) else (0, (((q.set 9 (z >>> (4 &&& 31))).set 3 (z &&& 15)).set 6 1))) else (if (z &&& 15) = 1 then (if (q.f 10) = 0 then (if (z &&& 15) = 0 then (0, ((q.set 9 (z >>> (4 &&& 31))).set 10 (y + 1))) else (0, (((q.set 9 (z >>> (4 &&& 31))).set 10 (y + 1)).set 6 1))) else (if (z &&& 15) = 0 then (0, (q.set 9 (z >>> (4 &&& 31)))) else (0, ((q.set 9 (z >>> (4 &&& 31))).set 6 1)))) else (if (z &&& 15) = 0 then (0, (q.set 9 (z >>> (4 &&& 31)))) else (0, ((q.set 9 (z >>> (4 &&& 31))).set 6 1)))))) else (if (z &&& 15) = 1 then (if y = 4 then (if (z >>> (4 &&& 31)) = 0 then (if y = 1 then (if (z &&& 15) = 0 then (0, ((q.set 9 (z >>> (4 &&& 31))).set 3 (z &&& 15))) else (0, (((q.set 9 (z >>> (4 &&& 31))).set 3 (z &&& 15)).set 6 1))) else (if (z &&& 15) = 1 then (if (q.f 10) = 0 then (if (z &&& 15) = 0 then (0, ((q.set 9 (z >>> (4 &&& 31))).set 10 (y + 1))) else (0, (((q.set 9 (z >>> (4 &&& 31))).set 10 (y + 1)).set 6 1))) else (if (z &&& 15) = 0 then (0, (q.set 9 (z >>> (4 &&& 31)))) else (0, ((q.set 9 (z >>> (4 &&& 31))).set 6 1)))) else (if (z &&& 15) = 0 then (0, (q.set 9 (z >>> (4 &&& 31)))) else (0, ((q.set 9 (z >>> (4 &&& 31))).set 6 1))))) else (3, (q.set 9 (z >>> (4 &&& 31))))) else (if y = 1 then (if (z &&& 15) = 0 then (0, ((q.set 9 (z >>> (4 &&& 31))).set 3 (z &&& 15))) else (0, (((q.set 9 (z >>> (4 &&& 31))).set 3 (z &&& 15)).set 6 1))) else (if (z &&& 15) = 1 then (if (q.f 10) = 0 then (if (z &&& 15) = 0 then (0, ((q.set 9 (z >>> (4 &&& 31))).set 10 (y + 1))) else (0, (((q.set 9 (z >>> (4 &&& 31))).set 10 (y + 1)).set 6 1))) else (if (z &&& 15) = 0 then (0, (q.set 9 (z >>> (4 &&& 31)))) else (0, ((q.set 9 (z >>> (4 &&& 31))).set 6 1)))) else (if (z &&& 15) = 0 then (0, (q.set 9 (z >>> (4 &&& 31)))) else (0, ((q.set 9 (z >>> (4 &&& 31))).set 6 1)))))) else (if (z &&& 15) = 15 then (if y = 4 then (if (z >>> (4 &&& 31)) = 0 then (if y = 1 then (if (z &&& 15) = 0 then (0, ((q.set 9 (z >>> (4 &&& 31))).set 3 (z &&& 15))) else (0, (((q.set 9 (z >>> (4 &&& 31))).set 3 (z &&& 15)).set 6 1))) else (if (z &&& 15) = 1 then (if (q.f 10) = 0 then (if (z &&& 15) = 0 then (0, ((q.set 9 (z >>> (4 &&& 31))).set 10 (y + 1))) else (0, (((q.set 9 (z >>> (4 &&& 31))).set 10 (y + 1)).set 6 1))) else (if (z &&& 15) = 0 then (0, (q.set 9 (z >>> (4 &&& 31)))) else (0, ((q.set 9 (z >>> (4 &&& 31))).set 6 1)))) else (if (z &&& 15) = 0 then (0, (q.set 9 (z >>> (4 &&& 31)))) else (0, ((q.set 9 (z >>> (4 &&& 31))).set 6 1))))) else (3, (q.set 9 (z >>> (4 &&& 31))))) else (if y = 1 then (if (z &&& 15) = 0 then (0, ((q.set 9 (z >>> (4 &&& 31))).set 3 (z &&& 15))) else (0, (((q.set 9 (z >>> (4 &&& 31))).set 3 (z &&& 15)).set 6 1))) else (if (z &&& 15) = 1 then (if (q.f 10) = 0 then (if (z &&& 15) = 0 then (0, ((q.set 9 (z >>> (4 &&& 31))).set 10 (y + 1))) else (0, (((q.set 9 (z >>> (4 &&& 31))).set 10 (y + 1)).set 6 1))) else (if (z &&& 15) = 0 then (0, (q.set 9 (z >>> (4 &&& 31)))) else (0, ((q.set 9 (z >>> (4 &&& 31))).set 6 1)))) else (if (z &&& 15) = 0 then (0, (q.set 9 (z >>> (4 &&& 31)))) else (0, ((q.set 9 (z >>> (4 &&& 31))).set 6 1)))))) else (3, (q.set 9 (z >>> (4 &&& 31)))))))
theorem dX3_readTd_0 : decode cX3_readTd 0 = .ok (.iload_n 2, 1) := by decide +kernel
theorem dX3_readTd_1 : decode cX3_readTd 1 = .ok (.bipush 15, 2) := by decide +kernel
theorem dX3_readTd_3 : decode cX3_readTd 3 = .ok (.iand, 1) := by decide +kernel
theorem dX3_readTd_4 : decode cX3_readTd 4 = .ok (.istore_n 3, 1) := by decide +kernel
theorem dX3_readTd_5 : decode cX3_readTd 5 = .ok (.aload_n 0, 1) := by decide +kernel
theorem dX3_readTd_6 : decode cX3_readTd 6 = .ok (.iload_n 2, 1) := by decide +kernel
theorem dX3_readTd_7 : decode cX3_readTd 7 = .ok (.iconst 4, 1) := by decide +kernel
theorem dX3_readTd_8 : decode cX3_readTd 8 = .ok (.ishr, 1) := by decide +kernel
theorem dX3_readTd_9 : decode cX3_readTd 9 = .ok (.putfield 76, 3) := by decide +kernel
theorem dX3_readTd_12 : decode cX3_readTd 12 = .ok (.iload_n 3, 1) := by decide +kernel
theorem dX3_readTd_13 : decode cX3_readTd 13 = .ok (.ifCond .eq 14, 3) := by decide +kernel
theorem dX3_readTd_16 : decode cX3_readTd 16 = .ok (.iload_n 3, 1) := by decide +kernel
theorem dX3_readTd_17 : decode cX3_readTd 17 = .ok (.iconst 1, 1) := by decide +kernel
theorem dX3_readTd_18 : decode cX3_readTd 18 = .ok (.if_icmp .eq 9, 3) := by decide +kernel
theorem dX3_readTd_21 : decode cX3_readTd 21 = .ok (.iload_n 3, 1) := by decide +kernel
theorem dX3_readTd_22 : decode cX3_readTd 22 = .ok (.bipush 15, 2) := by decide +kernel
theorem dX3_readTd_24 : decode cX3_readTd 24 = .ok (.if_icmp .ne 15, 3) := by decide +kernel
theorem dX3_readTd_27 : decode cX3_readTd 27 = .ok (.iload_n 1, 1) := by decide +kernel
theorem dX3_readTd_28 : decode cX3_readTd 28 = .ok (.iconst 4, 1) := by decide +kernel
theorem dX3_readTd_29 : decode cX3_readTd 29 = .ok (.if_icmp .ne 12, 3) := by decide +kernel
theorem dX3_readTd_32 : decode cX3_readTd 32 = .ok (.aload_n 0, 1) := by decide +kernel
theorem dX3_readTd_33 : decode cX3_readTd 33 = .ok (.getfield 76, 3) := by decide +kernel
theorem dX3_readTd_36 : decode cX3_readTd 36 = .ok (.ifCond .eq 5, 3) := by decide +kernel
theorem dX3_readTd_39 : decode cX3_readTd 39 = .ok (.iconst 3, 1) := by decide +kernel
theorem dX3_readTd_40 : decode cX3_readTd 40 = .ok (.ireturn, 1) := by decide +kernel
theorem dX3_readTd_41 : decode cX3_readTd 41 = .ok (.iload_n 1, 1) := by decide +kernel
theorem dX3_readTd_42 : decode cX3_readTd 42 = .ok (.iconst 1, 1) := by decide +kernel
theorem dX3_readTd_43 : decode cX3_readTd 43 = .ok (.if_icmp .ne 11, 3) := by decide +kernel
theorem dX3_readTd_46 : decode cX3_readTd 46 = .ok (.aload_n 0, 1) := by decide +kernel
theorem dX3_readTd_47 : decode cX3_readTd 47 = .ok (.iload_n 3, 1) := by decide +kernel
theorem dX3_readTd_48 : decode cX3_readTd 48 = .ok (.putfield 45, 3) := by decide +kernel
theorem dX3_readTd_51 : decode cX3_readTd 51 = .ok (.goto 22, 3) := by decide +kernel
theorem dX3_readTd_54 : decode cX3_readTd 54 = .ok (.iload_n 3, 1) := by decide +kernel
theorem dX3_readTd_55 : decode cX3_readTd 55 = .ok (.iconst 1, 1) := by decide +kernel
theorem dX3_readTd_56 : decode cX3_readTd 56 = .ok (.if_icmp .ne 17, 3) := by decide +kernel
theorem dX3_readTd_59 : decode cX3_readTd 59 = .ok (.aload_n 0, 1) := by decide +kernel
theorem dX3_readTd_60 : decode cX3_readTd 60 = .ok (.getfield 62, 3) := by decide +kernel
theorem dX3_readTd_63 : decode cX3_readTd 63 = .ok (.ifCond .ne 10, 3) := by decide +kernel
theorem dX3_readTd_66 : decode cX3_readTd 66 = .ok (.aload_n 0, 1) := by decide +kernel
theorem dX3_readTd_67 : decode cX3_readTd 67 = .ok (.iload_n 1, 1) := by decide +kernel
theorem dX3_readTd_68 : decode cX3_readTd 68 = .ok (.iconst 1, 1) := by decide +kernel
theorem dX3_readTd_69 : decode cX3_readTd 69 = .ok (.iadd, 1) := by decide +kernel
theorem dX3_readTd_70 : decode cX3_readTd 70 = .ok (.putfield 62, 3) := by decide +kernel
theorem dX3_readTd_73 : decode cX3_readTd 73 = .ok (.iload_n 3, 1) := by decide +kernel
theorem dX3_readTd_74 : decode cX3_readTd 74 = .ok (.ifCond .eq 8, 3) := by decide +kernel
theorem dX3_readTd_77 : decode cX3_readTd 77 = .ok (.aload_n 0, 1) := by decide +kernel
theorem dX3_readTd_78 : decode cX3_readTd 78 = .ok (.iconst 1, 1) := by decide +kernel
theorem dX3_readTd_79 : decode cX3_readTd 79 = .ok (.putfield 54, 3) := by decide +kernel
theorem dX3_readTd_82 : decode cX3_readTd 82 = .ok (.iconst 0, 1) := by decide +kernel
theorem dX3_readTd_83 : decode cX3_readTd 83 = .ok (.ireturn, 1) := by decide +kernel
set_option maxRecDepth 100000 in
set_option maxHeartbeats 4000000 in
theorem c_X3_readTd_116 {hp : List gA} {q : rq} {l : List Int32} {y : Int32} {z : Int32} (HQ : rqH hp 116 q l) : gM yX3_readTd cX3_readTd 4 ((some .int)) 0 0 [.ref 116, .int y, .int z] (hp) (0) (0) (fun v h => v = some (.int (rX3_readTd q y z).1) ∧ (rqH h 116 (rX3_readTd q y z).2 l ∧ rqF 116 hp h)) := by
  refine gM_of (ls0 := [some (.ref 116), some (.int y), some (.int z), none]) (by decide +kernel) (Nat.le_of_ble_eq_true rfl) rfl fun X C E => ?_
  refine g_iload_n (q := 1) C dX3_readTd_0 rfl rfl ?_
  refine g_bipush (v := 15) (q := 3) C dX3_readTd_1 (by decide) rfl ?_
  refine g_iand (q := 4) C dX3_readTd_3 rfl ?_
  refine g_istore_n (q := 5) C dX3_readTd_4 (Nat.le_of_ble_eq_true rfl) (by simp only [gset]; rfl) rfl ?_
  refine g_aload_n (q := 6) C dX3_readTd_5 rfl rfl ?_
  refine g_iload_n (q := 7) C dX3_readTd_6 rfl rfl ?_
  refine g_iconst (v := 4) (q := 8) C dX3_readTd_7 (by decide) rfl ?_
  refine g_ishr (q := 9) C dX3_readTd_8 rfl ?_
  refine g_putfield (q := 12) C fX3_76 dX3_readTd_9 rfl HQ.1 (Nat.le_of_ble_eq_true rfl) (Or.inl rfl) rfl rfl (by intro z h; cases h) ?_
  refine rqput (j := 9) (x := (z >>> (4 &&& 31))) HQ rfl fun h1 HQ1 fq1 => ?_
  refine g_iload_n (q := 13) C dX3_readTd_12 rfl rfl ?_
  refine g_if_eq (t := 27) (q := 16) C dX3_readTd_13 (by decide) rfl (fun c_13 => ?_) (fun c_13 => ?_)
  ·
    refine g_iload_n (q := 28) C dX3_readTd_27 rfl rfl ?_
    refine g_iconst (v := 4) (q := 29) C dX3_readTd_28 (by decide) rfl ?_
    refine g_icmp_ne (t := 41) (q := 32) C dX3_readTd_29 (by decide) rfl (fun c_29 => ?_) (fun c_29 => ?_)
    ·
      refine g_iload_n (q := 42) C dX3_readTd_41 rfl rfl ?_
      refine g_iconst (v := 1) (q := 43) C dX3_readTd_42 (by decide) rfl ?_
      refine g_icmp_ne (t := 54) (q := 46) C dX3_readTd_43 (by decide) rfl (fun c_43 => ?_) (fun c_43 => ?_)
      ·
        refine g_iload_n (q := 55) C dX3_readTd_54 rfl rfl ?_
        refine g_iconst (v := 1) (q := 56) C dX3_readTd_55 (by decide) rfl ?_
        refine g_icmp_ne (t := 73) (q := 59) C dX3_readTd_56 (by decide) rfl (fun c_56 => ?_) (fun c_56 => ?_)
        ·
          refine g_iload_n (q := 74) C dX3_readTd_73 rfl rfl ?_
          refine g_if_eq (t := 82) (q := 77) C dX3_readTd_74 (by decide) rfl (fun c_74 => ?_) (fun c_74 => ?_)
          ·
            refine g_iconst (v := 0) (q := 83) C dX3_readTd_82 (by decide) rfl ?_
            have e : rX3_readTd q y z = ((0 : Int32), (q.set 9 (z >>> (4 &&& 31)))) := ((if_pos c_13).trans ((if_neg c_29).trans ((if_neg c_43).trans ((if_neg c_56).trans (if_pos c_74)))))
            exact E.1 _ _ _ _ _ _ _ dX3_readTd_83 rfl rfl (Nat.le_of_ble_eq_true rfl) (Nat.le_of_ble_eq_true rfl) ⟨by rw [e], by rw [e]; exact ⟨HQ1, fq1⟩⟩
          ·
            refine g_aload_n (q := 78) C dX3_readTd_77 rfl rfl ?_
            refine g_iconst (v := 1) (q := 79) C dX3_readTd_78 (by decide) rfl ?_
            refine g_putfield (q := 82) C fX3_54 dX3_readTd_79 rfl HQ1.1 (Nat.le_of_ble_eq_true rfl) (Or.inl rfl) rfl rfl (by intro z h; cases h) ?_
            refine rqput (j := 6) (x := 1) HQ1 rfl fun h2 HQ2 fq2 => ?_
            refine g_iconst (v := 0) (q := 83) C dX3_readTd_82 (by decide) rfl ?_
            have e : rX3_readTd q y z = ((0 : Int32), ((q.set 9 (z >>> (4 &&& 31))).set 6 1)) := ((if_pos c_13).trans ((if_neg c_29).trans ((if_neg c_43).trans ((if_neg c_56).trans (if_neg c_74)))))
            exact E.1 _ _ _ _ _ _ _ dX3_readTd_83 rfl rfl (Nat.le_of_ble_eq_true rfl) (Nat.le_of_ble_eq_true rfl) ⟨by rw [e], by rw [e]; exact ⟨HQ2, (rqF.trans fq1 fq2)⟩⟩
        ·
          refine g_aload_n (q := 60) C dX3_readTd_59 rfl rfl ?_
          refine g_getfield (v := .int ((q.f 10))) (q := 63) C fX3_62 dX3_readTd_60 rfl HQ1.1 rfl ?_
          refine g_if_ne (t := 73) (q := 66) C dX3_readTd_63 (by decide) rfl (fun c_63 => ?_) (fun c_63 => ?_)
          ·
            refine g_iload_n (q := 74) C dX3_readTd_73 rfl rfl ?_
            refine g_if_eq (t := 82) (q := 77) C dX3_readTd_74 (by decide) rfl (fun c_74 => ?_) (fun c_74 => ?_)
            ·
              refine g_iconst (v := 0) (q := 83) C dX3_readTd_82 (by decide) rfl ?_
              have e : rX3_readTd q y z = ((0 : Int32), (q.set 9 (z >>> (4 &&& 31)))) := ((if_pos c_13).trans ((if_neg c_29).trans ((if_neg c_43).trans ((if_pos c_56).trans ((if_neg c_63).trans (if_pos c_74))))))
              exact E.1 _ _ _ _ _ _ _ dX3_readTd_83 rfl rfl (Nat.le_of_ble_eq_true rfl) (Nat.le_of_ble_eq_true rfl) ⟨by rw [e], by rw [e]; exact ⟨HQ1, fq1⟩⟩
            ·
              refine g_aload_n (q := 78) C dX3_readTd_77 rfl rfl ?_
              refine g_iconst (v := 1) (q := 79) C dX3_readTd_78 (by decide) rfl ?_
              refine g_putfield (q := 82) C fX3_54 dX3_readTd_79 rfl HQ1.1 (Nat.le_of_ble_eq_true rfl) (Or.inl rfl) rfl rfl (by intro z h; cases h) ?_
              refine rqput (j := 6) (x := 1) HQ1 rfl fun h3 HQ3 fq3 => ?_
              refine g_iconst (v := 0) (q := 83) C dX3_readTd_82 (by decide) rfl ?_
              have e : rX3_readTd q y z = ((0 : Int32), ((q.set 9 (z >>> (4 &&& 31))).set 6 1)) := ((if_pos c_13).trans ((if_neg c_29).trans ((if_neg c_43).trans ((if_pos c_56).trans ((if_neg c_63).trans (if_neg c_74))))))
              exact E.1 _ _ _ _ _ _ _ dX3_readTd_83 rfl rfl (Nat.le_of_ble_eq_true rfl) (Nat.le_of_ble_eq_true rfl) ⟨by rw [e], by rw [e]; exact ⟨HQ3, (rqF.trans fq1 fq3)⟩⟩
          ·
            refine g_aload_n (q := 67) C dX3_readTd_66 rfl rfl ?_
            refine g_iload_n (q := 68) C dX3_readTd_67 rfl rfl ?_
            refine g_iconst (v := 1) (q := 69) C dX3_readTd_68 (by decide) rfl ?_
            refine g_iadd (q := 70) C dX3_readTd_69 rfl ?_
            refine g_putfield (q := 73) C fX3_62 dX3_readTd_70 rfl HQ1.1 (Nat.le_of_ble_eq_true rfl) (Or.inl rfl) rfl rfl (by intro z h; cases h) ?_
            refine rqput (j := 10) (x := (y + 1)) HQ1 rfl fun h4 HQ4 fq4 => ?_
            refine g_iload_n (q := 74) C dX3_readTd_73 rfl rfl ?_
            refine g_if_eq (t := 82) (q := 77) C dX3_readTd_74 (by decide) rfl (fun c_74 => ?_) (fun c_74 => ?_)
            ·
              refine g_iconst (v := 0) (q := 83) C dX3_readTd_82 (by decide) rfl ?_
              have e : rX3_readTd q y z = ((0 : Int32), ((q.set 9 (z >>> (4 &&& 31))).set 10 (y + 1))) := ((if_pos c_13).trans ((if_neg c_29).trans ((if_neg c_43).trans ((if_pos c_56).trans ((if_pos c_63).trans (if_pos c_74))))))
              exact E.1 _ _ _ _ _ _ _ dX3_readTd_83 rfl rfl (Nat.le_of_ble_eq_true rfl) (Nat.le_of_ble_eq_true rfl) ⟨by rw [e], by rw [e]; exact ⟨HQ4, (rqF.trans fq1 fq4)⟩⟩
            ·
              refine g_aload_n (q := 78) C dX3_readTd_77 rfl rfl ?_
              refine g_iconst (v := 1) (q := 79) C dX3_readTd_78 (by decide) rfl ?_
              refine g_putfield (q := 82) C fX3_54 dX3_readTd_79 rfl HQ4.1 (Nat.le_of_ble_eq_true rfl) (Or.inl rfl) rfl rfl (by intro z h; cases h) ?_
              refine rqput (j := 6) (x := 1) HQ4 rfl fun h5 HQ5 fq5 => ?_
              refine g_iconst (v := 0) (q := 83) C dX3_readTd_82 (by decide) rfl ?_
              have e : rX3_readTd q y z = ((0 : Int32), (((q.set 9 (z >>> (4 &&& 31))).set 10 (y + 1)).set 6 1)) := ((if_pos c_13).trans ((if_neg c_29).trans ((if_neg c_43).trans ((if_pos c_56).trans ((if_pos c_63).trans (if_neg c_74))))))
              exact E.1 _ _ _ _ _ _ _ dX3_readTd_83 rfl rfl (Nat.le_of_ble_eq_true rfl) (Nat.le_of_ble_eq_true rfl) ⟨by rw [e], by rw [e]; exact ⟨HQ5, (rqF.trans (rqF.trans fq1 fq4) fq5)⟩⟩
      ·
        refine g_aload_n (q := 47) C dX3_readTd_46 rfl rfl ?_
        refine g_iload_n (q := 48) C dX3_readTd_47 rfl rfl ?_
        refine g_putfield (q := 51) C fX3_45 dX3_readTd_48 rfl HQ1.1 (Nat.le_of_ble_eq_true rfl) (Or.inl rfl) rfl rfl (by intro z h; cases h) ?_
        refine rqput (j := 3) (x := (z &&& 15)) HQ1 rfl fun h6 HQ6 fq6 => ?_
        refine g_goto (q := 73) C dX3_readTd_51 (by decide) ?_
        refine g_iload_n (q := 74) C dX3_readTd_73 rfl rfl ?_
        refine g_if_eq (t := 82) (q := 77) C dX3_readTd_74 (by decide) rfl (fun c_74 => ?_) (fun c_74 => ?_)
        ·
          refine g_iconst (v := 0) (q := 83) C dX3_readTd_82 (by decide) rfl ?_
          have e : rX3_readTd q y z = ((0 : Int32), ((q.set 9 (z >>> (4 &&& 31))).set 3 (z &&& 15))) := ((if_pos c_13).trans ((if_neg c_29).trans ((if_pos c_43).trans (if_pos c_74))))
          exact E.1 _ _ _ _ _ _ _ dX3_readTd_83 rfl rfl (Nat.le_of_ble_eq_true rfl) (Nat.le_of_ble_eq_true rfl) ⟨by rw [e], by rw [e]; exact ⟨HQ6, (rqF.trans fq1 fq6)⟩⟩
        ·
          refine g_aload_n (q := 78) C dX3_readTd_77 rfl rfl ?_
          refine g_iconst (v := 1) (q := 79) C dX3_readTd_78 (by decide) rfl ?_
          refine g_putfield (q := 82) C fX3_54 dX3_readTd_79 rfl HQ6.1 (Nat.le_of_ble_eq_true rfl) (Or.inl rfl) rfl rfl (by intro z h; cases h) ?_
          refine rqput (j := 6) (x := 1) HQ6 rfl fun h7 HQ7 fq7 => ?_
          refine g_iconst (v := 0) (q := 83) C dX3_readTd_82 (by decide) rfl ?_
          have e : rX3_readTd q y z = ((0 : Int32), (((q.set 9 (z >>> (4 &&& 31))).set 3 (z &&& 15)).set 6 1)) := ((if_pos c_13).trans ((if_neg c_29).trans ((if_pos c_43).trans (if_neg c_74))))
          exact E.1 _ _ _ _ _ _ _ dX3_readTd_83 rfl rfl (Nat.le_of_ble_eq_true rfl) (Nat.le_of_ble_eq_true rfl) ⟨by rw [e], by rw [e]; exact ⟨HQ7, (rqF.trans (rqF.trans fq1 fq6) fq7)⟩⟩
    ·
      refine g_aload_n (q := 33) C dX3_readTd_32 rfl rfl ?_
      refine g_getfield (v := .int ((z >>> (4 &&& 31)))) (q := 36) C fX3_76 dX3_readTd_33 rfl HQ1.1 rfl ?_
      refine g_if_eq (t := 41) (q := 39) C dX3_readTd_36 (by decide) rfl (fun c_36 => ?_) (fun c_36 => ?_)
      ·
        refine g_iload_n (q := 42) C dX3_readTd_41 rfl rfl ?_
        refine g_iconst (v := 1) (q := 43) C dX3_readTd_42 (by decide) rfl ?_
        refine g_icmp_ne (t := 54) (q := 46) C dX3_readTd_43 (by decide) rfl (fun c_43 => ?_) (fun c_43 => ?_)
        ·
          refine g_iload_n (q := 55) C dX3_readTd_54 rfl rfl ?_
          refine g_iconst (v := 1) (q := 56) C dX3_readTd_55 (by decide) rfl ?_
          refine g_icmp_ne (t := 73) (q := 59) C dX3_readTd_56 (by decide) rfl (fun c_56 => ?_) (fun c_56 => ?_)
          ·
            refine g_iload_n (q := 74) C dX3_readTd_73 rfl rfl ?_
            refine g_if_eq (t := 82) (q := 77) C dX3_readTd_74 (by decide) rfl (fun c_74 => ?_) (fun c_74 => ?_)
            ·
              refine g_iconst (v := 0) (q := 83) C dX3_readTd_82 (by decide) rfl ?_
              have e : rX3_readTd q y z = ((0 : Int32), (q.set 9 (z >>> (4 &&& 31)))) := ((if_pos c_13).trans ((if_pos c_29).trans ((if_pos c_36).trans ((if_neg c_43).trans ((if_neg c_56).trans (if_pos c_74))))))
              exact E.1 _ _ _ _ _ _ _ dX3_readTd_83 rfl rfl (Nat.le_of_ble_eq_true rfl) (Nat.le_of_ble_eq_true rfl) ⟨by rw [e], by rw [e]; exact ⟨HQ1, fq1⟩⟩
            ·
              refine g_aload_n (q := 78) C dX3_readTd_77 rfl rfl ?_
              refine g_iconst (v := 1) (q := 79) C dX3_readTd_78 (by decide) rfl ?_
              refine g_putfield (q := 82) C fX3_54 dX3_readTd_79 rfl HQ1.1 (Nat.le_of_ble_eq_true rfl) (Or.inl rfl) rfl rfl (by intro z h; cases h) ?_
              refine rqput (j := 6) (x := 1) HQ1 rfl fun h8 HQ8 fq8 => ?_
              refine g_iconst (v := 0) (q := 83) C dX3_readTd_82 (by decide) rfl ?_
              have e : rX3_readTd q y z = ((0 : Int32), ((q.set 9 (z >>> (4 &&& 31))).set 6 1)) := ((if_pos c_13).trans ((if_pos c_29).trans ((if_pos c_36).trans ((if_neg c_43).trans ((if_neg c_56).trans (if_neg c_74))))))
              exact E.1 _ _ _ _ _ _ _ dX3_readTd_83 rfl rfl (Nat.le_of_ble_eq_true rfl) (Nat.le_of_ble_eq_true rfl) ⟨by rw [e], by rw [e]; exact ⟨HQ8, (rqF.trans fq1 fq8)⟩⟩
          ·
            refine g_aload_n (q := 60) C dX3_readTd_59 rfl rfl ?_
            refine g_getfield (v := .int ((q.f 10))) (q := 63) C fX3_62 dX3_readTd_60 rfl HQ1.1 rfl ?_
            refine g_if_ne (t := 73) (q := 66) C dX3_readTd_63 (by decide) rfl (fun c_63 => ?_) (fun c_63 => ?_)
            ·
              refine g_iload_n (q := 74) C dX3_readTd_73 rfl rfl ?_
              refine g_if_eq (t := 82) (q := 77) C dX3_readTd_74 (by decide) rfl (fun c_74 => ?_) (fun c_74 => ?_)
              ·
                refine g_iconst (v := 0) (q := 83) C dX3_readTd_82 (by decide) rfl ?_
                have e : rX3_readTd q y z = ((0 : Int32), (q.set 9 (z >>> (4 &&& 31)))) := ((if_pos c_13).trans ((if_pos c_29).trans ((if_pos c_36).trans ((if_neg c_43).trans ((if_pos c_56).trans ((if_neg c_63).trans (if_pos c_74)))))))
                exact E.1 _ _ _ _ _ _ _ dX3_readTd_83 rfl rfl (Nat.le_of_ble_eq_true rfl) (Nat.le_of_ble_eq_true rfl) ⟨by rw [e], by rw [e]; exact ⟨HQ1, fq1⟩⟩
              ·
                refine g_aload_n (q := 78) C dX3_readTd_77 rfl rfl ?_
                refine g_iconst (v := 1) (q := 79) C dX3_readTd_78 (by decide) rfl ?_
                refine g_putfield (q := 82) C fX3_54 dX3_readTd_79 rfl HQ1.1 (Nat.le_of_ble_eq_true rfl) (Or.inl rfl) rfl rfl (by intro z h; cases h) ?_
                refine rqput (j := 6) (x := 1) HQ1 rfl fun h9 HQ9 fq9 => ?_
                refine g_iconst (v := 0) (q := 83) C dX3_readTd_82 (by decide) rfl ?_
                have e : rX3_readTd q y z = ((0 : Int32), ((q.set 9 (z >>> (4 &&& 31))).set 6 1)) := ((if_pos c_13).trans ((if_pos c_29).trans ((if_pos c_36).trans ((if_neg c_43).trans ((if_pos c_56).trans ((if_neg c_63).trans (if_neg c_74)))))))
                exact E.1 _ _ _ _ _ _ _ dX3_readTd_83 rfl rfl (Nat.le_of_ble_eq_true rfl) (Nat.le_of_ble_eq_true rfl) ⟨by rw [e], by rw [e]; exact ⟨HQ9, (rqF.trans fq1 fq9)⟩⟩
            ·
              refine g_aload_n (q := 67) C dX3_readTd_66 rfl rfl ?_
              refine g_iload_n (q := 68) C dX3_readTd_67 rfl rfl ?_
              refine g_iconst (v := 1) (q := 69) C dX3_readTd_68 (by decide) rfl ?_
              refine g_iadd (q := 70) C dX3_readTd_69 rfl ?_
              refine g_putfield (q := 73) C fX3_62 dX3_readTd_70 rfl HQ1.1 (Nat.le_of_ble_eq_true rfl) (Or.inl rfl) rfl rfl (by intro z h; cases h) ?_
              refine rqput (j := 10) (x := (y + 1)) HQ1 rfl fun h10 HQ10 fq10 => ?_
              refine g_iload_n (q := 74) C dX3_readTd_73 rfl rfl ?_
              refine g_if_eq (t := 82) (q := 77) C dX3_readTd_74 (by decide) rfl (fun c_74 => ?_) (fun c_74 => ?_)
              ·
                refine g_iconst (v := 0) (q := 83) C dX3_readTd_82 (by decide) rfl ?_
                have e : rX3_readTd q y z = ((0 : Int32), ((q.set 9 (z >>> (4 &&& 31))).set 10 (y + 1))) := ((if_pos c_13).trans ((if_pos c_29).trans ((if_pos c_36).trans ((if_neg c_43).trans ((if_pos c_56).trans ((if_pos c_63).trans (if_pos c_74)))))))
                exact E.1 _ _ _ _ _ _ _ dX3_readTd_83 rfl rfl (Nat.le_of_ble_eq_true rfl) (Nat.le_of_ble_eq_true rfl) ⟨by rw [e], by rw [e]; exact ⟨HQ10, (rqF.trans fq1 fq10)⟩⟩
              ·
                refine g_aload_n (q := 78) C dX3_readTd_77 rfl rfl ?_
                refine g_iconst (v := 1) (q := 79) C dX3_readTd_78 (by decide) rfl ?_
                refine g_putfield (q := 82) C fX3_54 dX3_readTd_79 rfl HQ10.1 (Nat.le_of_ble_eq_true rfl) (Or.inl rfl) rfl rfl (by intro z h; cases h) ?_
                refine rqput (j := 6) (x := 1) HQ10 rfl fun h11 HQ11 fq11 => ?_
                refine g_iconst (v := 0) (q := 83) C dX3_readTd_82 (by decide) rfl ?_
                have e : rX3_readTd q y z = ((0 : Int32), (((q.set 9 (z >>> (4 &&& 31))).set 10 (y + 1)).set 6 1)) := ((if_pos c_13).trans ((if_pos c_29).trans ((if_pos c_36).trans ((if_neg c_43).trans ((if_pos c_56).trans ((if_pos c_63).trans (if_neg c_74)))))))
                exact E.1 _ _ _ _ _ _ _ dX3_readTd_83 rfl rfl (Nat.le_of_ble_eq_true rfl) (Nat.le_of_ble_eq_true rfl) ⟨by rw [e], by rw [e]; exact ⟨HQ11, (rqF.trans (rqF.trans fq1 fq10) fq11)⟩⟩
        ·
          refine g_aload_n (q := 47) C dX3_readTd_46 rfl rfl ?_
          refine g_iload_n (q := 48) C dX3_readTd_47 rfl rfl ?_
          refine g_putfield (q := 51) C fX3_45 dX3_readTd_48 rfl HQ1.1 (Nat.le_of_ble_eq_true rfl) (Or.inl rfl) rfl rfl (by intro z h; cases h) ?_
          refine rqput (j := 3) (x := (z &&& 15)) HQ1 rfl fun h12 HQ12 fq12 => ?_
          refine g_goto (q := 73) C dX3_readTd_51 (by decide) ?_
          refine g_iload_n (q := 74) C dX3_readTd_73 rfl rfl ?_
          refine g_if_eq (t := 82) (q := 77) C dX3_readTd_74 (by decide) rfl (fun c_74 => ?_) (fun c_74 => ?_)
          ·
            refine g_iconst (v := 0) (q := 83) C dX3_readTd_82 (by decide) rfl ?_
            have e : rX3_readTd q y z = ((0 : Int32), ((q.set 9 (z >>> (4 &&& 31))).set 3 (z &&& 15))) := ((if_pos c_13).trans ((if_pos c_29).trans ((if_pos c_36).trans ((if_pos c_43).trans (if_pos c_74)))))
            exact E.1 _ _ _ _ _ _ _ dX3_readTd_83 rfl rfl (Nat.le_of_ble_eq_true rfl) (Nat.le_of_ble_eq_true rfl) ⟨by rw [e], by rw [e]; exact ⟨HQ12, (rqF.trans fq1 fq12)⟩⟩
          ·
            refine g_aload_n (q := 78) C dX3_readTd_77 rfl rfl ?_
            refine g_iconst (v := 1) (q := 79) C dX3_readTd_78 (by decide) rfl ?_
            refine g_putfield (q := 82) C fX3_54 dX3_readTd_79 rfl HQ12.1 (Nat.le_of_ble_eq_true rfl) (Or.inl rfl) rfl rfl (by intro z h; cases h) ?_
            refine rqput (j := 6) (x := 1) HQ12 rfl fun h13 HQ13 fq13 => ?_
            refine g_iconst (v := 0) (q := 83) C dX3_readTd_82 (by decide) rfl ?_
            have e : rX3_readTd q y z = ((0 : Int32), (((q.set 9 (z >>> (4 &&& 31))).set 3 (z &&& 15)).set 6 1)) := ((if_pos c_13).trans ((if_pos c_29).trans ((if_pos c_36).trans ((if_pos c_43).trans (if_neg c_74)))))
            exact E.1 _ _ _ _ _ _ _ dX3_readTd_83 rfl rfl (Nat.le_of_ble_eq_true rfl) (Nat.le_of_ble_eq_true rfl) ⟨by rw [e], by rw [e]; exact ⟨HQ13, (rqF.trans (rqF.trans fq1 fq12) fq13)⟩⟩
      ·
        refine g_iconst (v := 3) (q := 40) C dX3_readTd_39 (by decide) rfl ?_
        have e : rX3_readTd q y z = ((3 : Int32), (q.set 9 (z >>> (4 &&& 31)))) := ((if_pos c_13).trans ((if_pos c_29).trans (if_neg c_36)))
        exact E.1 _ _ _ _ _ _ _ dX3_readTd_40 rfl rfl (Nat.le_of_ble_eq_true rfl) (Nat.le_of_ble_eq_true rfl) ⟨by rw [e], by rw [e]; exact ⟨HQ1, fq1⟩⟩
  ·
    refine g_iload_n (q := 17) C dX3_readTd_16 rfl rfl ?_
    refine g_iconst (v := 1) (q := 18) C dX3_readTd_17 (by decide) rfl ?_
    refine g_icmp_eq (t := 27) (q := 21) C dX3_readTd_18 (by decide) rfl (fun c_18 => ?_) (fun c_18 => ?_)
    ·
      refine g_iload_n (q := 28) C dX3_readTd_27 rfl rfl ?_
      refine g_iconst (v := 4) (q := 29) C dX3_readTd_28 (by decide) rfl ?_
      refine g_icmp_ne (t := 41) (q := 32) C dX3_readTd_29 (by decide) rfl (fun c_29 => ?_) (fun c_29 => ?_)
      ·
        refine g_iload_n (q := 42) C dX3_readTd_41 rfl rfl ?_
        refine g_iconst (v := 1) (q := 43) C dX3_readTd_42 (by decide) rfl ?_
        refine g_icmp_ne (t := 54) (q := 46) C dX3_readTd_43 (by decide) rfl (fun c_43 => ?_) (fun c_43 => ?_)
        ·
          refine g_iload_n (q := 55) C dX3_readTd_54 rfl rfl ?_
          refine g_iconst (v := 1) (q := 56) C dX3_readTd_55 (by decide) rfl ?_
          refine g_icmp_ne (t := 73) (q := 59) C dX3_readTd_56 (by decide) rfl (fun c_56 => ?_) (fun c_56 => ?_)
          ·
            refine g_iload_n (q := 74) C dX3_readTd_73 rfl rfl ?_
            refine g_if_eq (t := 82) (q := 77) C dX3_readTd_74 (by decide) rfl (fun c_74 => ?_) (fun c_74 => ?_)
            ·
              refine g_iconst (v := 0) (q := 83) C dX3_readTd_82 (by decide) rfl ?_
              have e : rX3_readTd q y z = ((0 : Int32), (q.set 9 (z >>> (4 &&& 31)))) := ((if_neg c_13).trans ((if_pos c_18).trans ((if_neg c_29).trans ((if_neg c_43).trans ((if_neg c_56).trans (if_pos c_74))))))
              exact E.1 _ _ _ _ _ _ _ dX3_readTd_83 rfl rfl (Nat.le_of_ble_eq_true rfl) (Nat.le_of_ble_eq_true rfl) ⟨by rw [e], by rw [e]; exact ⟨HQ1, fq1⟩⟩
            ·
              refine g_aload_n (q := 78) C dX3_readTd_77 rfl rfl ?_
              refine g_iconst (v := 1) (q := 79) C dX3_readTd_78 (by decide) rfl ?_
              refine g_putfield (q := 82) C fX3_54 dX3_readTd_79 rfl HQ1.1 (Nat.le_of_ble_eq_true rfl) (Or.inl rfl) rfl rfl (by intro z h; cases h) ?_
              refine rqput (j := 6) (x := 1) HQ1 rfl fun h14 HQ14 fq14 => ?_
              refine g_iconst (v := 0) (q := 83) C dX3_readTd_82 (by decide) rfl ?_
              have e : rX3_readTd q y z = ((0 : Int32), ((q.set 9 (z >>> (4 &&& 31))).set 6 1)) := ((if_neg c_13).trans ((if_pos c_18).trans ((if_neg c_29).trans ((if_neg c_43).trans ((if_neg c_56).trans (if_neg c_74))))))
              exact E.1 _ _ _ _ _ _ _ dX3_readTd_83 rfl rfl (Nat.le_of_ble_eq_true rfl) (Nat.le_of_ble_eq_true rfl) ⟨by rw [e], by rw [e]; exact ⟨HQ14, (rqF.trans fq1 fq14)⟩⟩
          ·
            refine g_aload_n (q := 60) C dX3_readTd_59 rfl rfl ?_
            refine g_getfield (v := .int ((q.f 10))) (q := 63) C fX3_62 dX3_readTd_60 rfl HQ1.1 rfl ?_
            refine g_if_ne (t := 73) (q := 66) C dX3_readTd_63 (by decide) rfl (fun c_63 => ?_) (fun c_63 => ?_)
            ·
              refine g_iload_n (q := 74) C dX3_readTd_73 rfl rfl ?_
              refine g_if_eq (t := 82) (q := 77) C dX3_readTd_74 (by decide) rfl (fun c_74 => ?_) (fun c_74 => ?_)
              ·
                refine g_iconst (v := 0) (q := 83) C dX3_readTd_82 (by decide) rfl ?_
                have e : rX3_readTd q y z = ((0 : Int32), (q.set 9 (z >>> (4 &&& 31)))) := ((if_neg c_13).trans ((if_pos c_18).trans ((if_neg c_29).trans ((if_neg c_43).trans ((if_pos c_56).trans ((if_neg c_63).trans (if_pos c_74)))))))
                exact E.1 _ _ _ _ _ _ _ dX3_readTd_83 rfl rfl (Nat.le_of_ble_eq_true rfl) (Nat.le_of_ble_eq_true rfl) ⟨by rw [e], by rw [e]; exact ⟨HQ1, fq1⟩⟩
              ·
                refine g_aload_n (q := 78) C dX3_readTd_77 rfl rfl ?_
                refine g_iconst (v := 1) (q := 79) C dX3_readTd_78 (by decide) rfl ?_
                refine g_putfield (q := 82) C fX3_54 dX3_readTd_79 rfl HQ1.1 (Nat.le_of_ble_eq_true rfl) (Or.inl rfl) rfl rfl (by intro z h; cases h) ?_
                refine rqput (j := 6) (x := 1) HQ1 rfl fun h15 HQ15 fq15 => ?_
                refine g_iconst (v := 0) (q := 83) C dX3_readTd_82 (by decide) rfl ?_
                have e : rX3_readTd q y z = ((0 : Int32), ((q.set 9 (z >>> (4 &&& 31))).set 6 1)) := ((if_neg c_13).trans ((if_pos c_18).trans ((if_neg c_29).trans ((if_neg c_43).trans ((if_pos c_56).trans ((if_neg c_63).trans (if_neg c_74)))))))
                exact E.1 _ _ _ _ _ _ _ dX3_readTd_83 rfl rfl (Nat.le_of_ble_eq_true rfl) (Nat.le_of_ble_eq_true rfl) ⟨by rw [e], by rw [e]; exact ⟨HQ15, (rqF.trans fq1 fq15)⟩⟩
            ·
              refine g_aload_n (q := 67) C dX3_readTd_66 rfl rfl ?_
              refine g_iload_n (q := 68) C dX3_readTd_67 rfl rfl ?_
              refine g_iconst (v := 1) (q := 69) C dX3_readTd_68 (by decide) rfl ?_
              refine g_iadd (q := 70) C dX3_readTd_69 rfl ?_
              refine g_putfield (q := 73) C fX3_62 dX3_readTd_70 rfl HQ1.1 (Nat.le_of_ble_eq_true rfl) (Or.inl rfl) rfl rfl (by intro z h; cases h) ?_
              refine rqput (j := 10) (x := (y + 1)) HQ1 rfl fun h16 HQ16 fq16 => ?_
              refine g_iload_n (q := 74) C dX3_readTd_73 rfl rfl ?_
              refine g_if_eq (t := 82) (q := 77) C dX3_readTd_74 (by decide) rfl (fun c_74 => ?_) (fun c_74 => ?_)
              ·
                refine g_iconst (v := 0) (q := 83) C dX3_readTd_82 (by decide) rfl ?_
                have e : rX3_readTd q y z = ((0 : Int32), ((q.set 9 (z >>> (4 &&& 31))).set 10 (y + 1))) := ((if_neg c_13).trans ((if_pos c_18).trans ((if_neg c_29).trans ((if_neg c_43).trans ((if_pos c_56).trans ((if_pos c_63).trans (if_pos c_74)))))))
                exact E.1 _ _ _ _ _ _ _ dX3_readTd_83 rfl rfl (Nat.le_of_ble_eq_true rfl) (Nat.le_of_ble_eq_true rfl) ⟨by rw [e], by rw [e]; exact ⟨HQ16, (rqF.trans fq1 fq16)⟩⟩
              ·
                refine g_aload_n (q := 78) C dX3_readTd_77 rfl rfl ?_
                refine g_iconst (v := 1) (q := 79) C dX3_readTd_78 (by decide) rfl ?_
                refine g_putfield (q := 82) C fX3_54 dX3_readTd_79 rfl HQ16.1 (Nat.le_of_ble_eq_true rfl) (Or.inl rfl) rfl rfl (by intro z h; cases h) ?_
                refine rqput (j := 6) (x := 1) HQ16 rfl fun h17 HQ17 fq17 => ?_
                refine g_iconst (v := 0) (q := 83) C dX3_readTd_82 (by decide) rfl ?_
                have e : rX3_readTd q y z = ((0 : Int32), (((q.set 9 (z >>> (4 &&& 31))).set 10 (y + 1)).set 6 1)) := ((if_neg c_13).trans ((if_pos c_18).trans ((if_neg c_29).trans ((if_neg c_43).trans ((if_pos c_56).trans ((if_pos c_63).trans (if_neg c_74)))))))
                exact E.1 _ _ _ _ _ _ _ dX3_readTd_83 rfl rfl (Nat.le_of_ble_eq_true rfl) (Nat.le_of_ble_eq_true rfl) ⟨by rw [e], by rw [e]; exact ⟨HQ17, (rqF.trans (rqF.trans fq1 fq16) fq17)⟩⟩
        ·
          refine g_aload_n (q := 47) C dX3_readTd_46 rfl rfl ?_
          refine g_iload_n (q := 48) C dX3_readTd_47 rfl rfl ?_
          refine g_putfield (q := 51) C fX3_45 dX3_readTd_48 rfl HQ1.1 (Nat.le_of_ble_eq_true rfl) (Or.inl rfl) rfl rfl (by intro z h; cases h) ?_
          refine rqput (j := 3) (x := (z &&& 15)) HQ1 rfl fun h18 HQ18 fq18 => ?_
          refine g_goto (q := 73) C dX3_readTd_51 (by decide) ?_
          refine g_iload_n (q := 74) C dX3_readTd_73 rfl rfl ?_
          refine g_if_eq (t := 82) (q := 77) C dX3_readTd_74 (by decide) rfl (fun c_74 => ?_) (fun c_74 => ?_)
          ·
            refine g_iconst (v := 0) (q := 83) C dX3_readTd_82 (by decide) rfl ?_
            have e : rX3_readTd q y z = ((0 : Int32), ((q.set 9 (z >>> (4 &&& 31))).set 3 (z &&& 15))) := ((if_neg c_13).trans ((if_pos c_18).trans ((if_neg c_29).trans ((if_pos c_43).trans (if_pos c_74)))))
            exact E.1 _ _ _ _ _ _ _ dX3_readTd_83 rfl rfl (Nat.le_of_ble_eq_true rfl) (Nat.le_of_ble_eq_true rfl) ⟨by rw [e], by rw [e]; exact ⟨HQ18, (rqF.trans fq1 fq18)⟩⟩
          ·
            refine g_aload_n (q := 78) C dX3_readTd_77 rfl rfl ?_
            refine g_iconst (v := 1) (q := 79) C dX3_readTd_78 (by decide) rfl ?_
            refine g_putfield (q := 82) C fX3_54 dX3_readTd_79 rfl HQ18.1 (Nat.le_of_ble_eq_true rfl) (Or.inl rfl) rfl rfl (by intro z h; cases h) ?_
            refine rqput (j := 6) (x := 1) HQ18 rfl fun h19 HQ19 fq19 => ?_
            refine g_iconst (v := 0) (q := 83) C dX3_readTd_82 (by decide) rfl ?_
            have e : rX3_readTd q y z = ((0 : Int32), (((q.set 9 (z >>> (4 &&& 31))).set 3 (z &&& 15)).set 6 1)) := ((if_neg c_13).trans ((if_pos c_18).trans ((if_neg c_29).trans ((if_pos c_43).trans (if_neg c_74)))))
            exact E.1 _ _ _ _ _ _ _ dX3_readTd_83 rfl rfl (Nat.le_of_ble_eq_true rfl) (Nat.le_of_ble_eq_true rfl) ⟨by rw [e], by rw [e]; exact ⟨HQ19, (rqF.trans (rqF.trans fq1 fq18) fq19)⟩⟩
      ·
        refine g_aload_n (q := 33) C dX3_readTd_32 rfl rfl ?_
        refine g_getfield (v := .int ((z >>> (4 &&& 31)))) (q := 36) C fX3_76 dX3_readTd_33 rfl HQ1.1 rfl ?_
        refine g_if_eq (t := 41) (q := 39) C dX3_readTd_36 (by decide) rfl (fun c_36 => ?_) (fun c_36 => ?_)
        ·
          refine g_iload_n (q := 42) C dX3_readTd_41 rfl rfl ?_
          refine g_iconst (v := 1) (q := 43) C dX3_readTd_42 (by decide) rfl ?_
          refine g_icmp_ne (t := 54) (q := 46) C dX3_readTd_43 (by decide) rfl (fun c_43 => ?_) (fun c_43 => ?_)
          ·
            refine g_iload_n (q := 55) C dX3_readTd_54 rfl rfl ?_
            refine g_iconst (v := 1) (q := 56) C dX3_readTd_55 (by decide) rfl ?_
            refine g_icmp_ne (t := 73) (q := 59) C dX3_readTd_56 (by decide) rfl (fun c_56 => ?_) (fun c_56 => ?_)
            ·
              refine g_iload_n (q := 74) C dX3_readTd_73 rfl rfl ?_
              refine g_if_eq (t := 82) (q := 77) C dX3_readTd_74 (by decide) rfl (fun c_74 => ?_) (fun c_74 => ?_)
              ·
                refine g_iconst (v := 0) (q := 83) C dX3_readTd_82 (by decide) rfl ?_
                have e : rX3_readTd q y z = ((0 : Int32), (q.set 9 (z >>> (4 &&& 31)))) := ((if_neg c_13).trans ((if_pos c_18).trans ((if_pos c_29).trans ((if_pos c_36).trans ((if_neg c_43).trans ((if_neg c_56).trans (if_pos c_74)))))))
                exact E.1 _ _ _ _ _ _ _ dX3_readTd_83 rfl rfl (Nat.le_of_ble_eq_true rfl) (Nat.le_of_ble_eq_true rfl) ⟨by rw [e], by rw [e]; exact ⟨HQ1, fq1⟩⟩
              ·
                refine g_aload_n (q := 78) C dX3_readTd_77 rfl rfl ?_
                refine g_iconst (v := 1) (q := 79) C dX3_readTd_78 (by decide) rfl ?_
                refine g_putfield (q := 82) C fX3_54 dX3_readTd_79 rfl HQ1.1 (Nat.le_of_ble_eq_true rfl) (Or.inl rfl) rfl rfl (by intro z h; cases h) ?_
                refine rqput (j := 6) (x := 1) HQ1 rfl fun h20 HQ20 fq20 => ?_
                refine g_iconst (v := 0) (q := 83) C dX3_readTd_82 (by decide) rfl ?_
                have e : rX3_readTd q y z = ((0 : Int32), ((q.set 9 (z >>> (4 &&& 31))).set 6 1)) := ((if_neg c_13).trans ((if_pos c_18).trans ((if_pos c_29).trans ((if_pos c_36).trans ((if_neg c_43).trans ((if_neg c_56).trans (if_neg c_74)))))))
                exact E.1 _ _ _ _ _ _ _ dX3_readTd_83 rfl rfl (Nat.le_of_ble_eq_true rfl) (Nat.le_of_ble_eq_true rfl) ⟨by rw [e], by rw [e]; exact ⟨HQ20, (rqF.trans fq1 fq20)⟩⟩
            ·
              refine g_aload_n (q := 60) C dX3_readTd_59 rfl rfl ?_
              refine g_getfield (v := .int ((q.f 10))) (q := 63) C fX3_62 dX3_readTd_60 rfl HQ1.1 rfl ?_
              refine g_if_ne (t := 73) (q := 66) C dX3_readTd_63 (by decide) rfl (fun c_63 => ?_) (fun c_63 => ?_)
              ·
                refine g_iload_n (q := 74) C dX3_readTd_73 rfl rfl ?_
                refine g_if_eq (t := 82) (q := 77) C dX3_readTd_74 (by decide) rfl (fun c_74 => ?_) (fun c_74 => ?_)
                ·
                  refine g_iconst (v := 0) (q := 83) C dX3_readTd_82 (by decide) rfl ?_
                  have e : rX3_readTd q y z = ((0 : Int32), (q.set 9 (z >>> (4 &&& 31)))) := ((if_neg c_13).trans ((if_pos c_18).trans ((if_pos c_29).trans ((if_pos c_36).trans ((if_neg c_43).trans ((if_pos c_56).trans ((if_neg c_63).trans (if_pos c_74))))))))
                  exact E.1 _ _ _ _ _ _ _ dX3_readTd_83 rfl rfl (Nat.le_of_ble_eq_true rfl) (Nat.le_of_ble_eq_true rfl) ⟨by rw [e], by rw [e]; exact ⟨HQ1, fq1⟩⟩
                ·
                  refine g_aload_n (q := 78) C dX3_readTd_77 rfl rfl ?_
                  refine g_iconst (v := 1) (q := 79) C dX3_readTd_78 (by decide) rfl ?_
                  refine g_putfield (q := 82) C fX3_54 dX3_readTd_79 rfl HQ1.1 (Nat.le_of_ble_eq_true rfl) (Or.inl rfl) rfl rfl (by intro z h; cases h) ?_
                  refine rqput (j := 6) (x := 1) HQ1 rfl fun h21 HQ21 fq21 => ?_
                  refine g_iconst (v := 0) (q := 83) C dX3_readTd_82 (by decide) rfl ?_
                  have e : rX3_readTd q y z = ((0 : Int32), ((q.set 9 (z >>> (4 &&& 31))).set 6 1)) := ((if_neg c_13).trans ((if_pos c_18).trans ((if_pos c_29).trans ((if_pos c_36).trans ((if_neg c_43).trans ((if_pos c_56).trans ((if_neg c_63).trans (if_neg c_74))))))))
                  exact E.1 _ _ _ _ _ _ _ dX3_readTd_83 rfl rfl (Nat.le_of_ble_eq_true rfl) (Nat.le_of_ble_eq_true rfl) ⟨by rw [e], by rw [e]; exact ⟨HQ21, (rqF.trans fq1 fq21)⟩⟩
              ·
                refine g_aload_n (q := 67) C dX3_readTd_66 rfl rfl ?_
                refine g_iload_n (q := 68) C dX3_readTd_67 rfl rfl ?_
                refine g_iconst (v := 1) (q := 69) C dX3_readTd_68 (by decide) rfl ?_
                refine g_iadd (q := 70) C dX3_readTd_69 rfl ?_
                refine g_putfield (q := 73) C fX3_62 dX3_readTd_70 rfl HQ1.1 (Nat.le_of_ble_eq_true rfl) (Or.inl rfl) rfl rfl (by intro z h; cases h) ?_
                refine rqput (j := 10) (x := (y + 1)) HQ1 rfl fun h22 HQ22 fq22 => ?_
                refine g_iload_n (q := 74) C dX3_readTd_73 rfl rfl ?_
                refine g_if_eq (t := 82) (q := 77) C dX3_readTd_74 (by decide) rfl (fun c_74 => ?_) (fun c_74 => ?_)
                ·
                  refine g_iconst (v := 0) (q := 83) C dX3_readTd_82 (by decide) rfl ?_
                  have e : rX3_readTd q y z = ((0 : Int32), ((q.set 9 (z >>> (4 &&& 31))).set 10 (y + 1))) := ((if_neg c_13).trans ((if_pos c_18).trans ((if_pos c_29).trans ((if_pos c_36).trans ((if_neg c_43).trans ((if_pos c_56).trans ((if_pos c_63).trans (if_pos c_74))))))))
                  exact E.1 _ _ _ _ _ _ _ dX3_readTd_83 rfl rfl (Nat.le_of_ble_eq_true rfl) (Nat.le_of_ble_eq_true rfl) ⟨by rw [e], by rw [e]; exact ⟨HQ22, (rqF.trans fq1 fq22)⟩⟩
                ·
                  refine g_aload_n (q := 78) C dX3_readTd_77 rfl rfl ?_
                  refine g_iconst (v := 1) (q := 79) C dX3_readTd_78 (by decide) rfl ?_
                  refine g_putfield (q := 82) C fX3_54 dX3_readTd_79 rfl HQ22.1 (Nat.le_of_ble_eq_true rfl) (Or.inl rfl) rfl rfl (by intro z h; cases h) ?_
                  refine rqput (j := 6) (x := 1) HQ22 rfl fun h23 HQ23 fq23 => ?_
                  refine g_iconst (v := 0) (q := 83) C dX3_readTd_82 (by decide) rfl ?_
                  have e : rX3_readTd q y z = ((0 : Int32), (((q.set 9 (z >>> (4 &&& 31))).set 10 (y + 1)).set 6 1)) := ((if_neg c_13).trans ((if_pos c_18).trans ((if_pos c_29).trans ((if_pos c_36).trans ((if_neg c_43).trans ((if_pos c_56).trans ((if_pos c_63).trans (if_neg c_74))))))))
                  exact E.1 _ _ _ _ _ _ _ dX3_readTd_83 rfl rfl (Nat.le_of_ble_eq_true rfl) (Nat.le_of_ble_eq_true rfl) ⟨by rw [e], by rw [e]; exact ⟨HQ23, (rqF.trans (rqF.trans fq1 fq22) fq23)⟩⟩
          ·
            refine g_aload_n (q := 47) C dX3_readTd_46 rfl rfl ?_
            refine g_iload_n (q := 48) C dX3_readTd_47 rfl rfl ?_
            refine g_putfield (q := 51) C fX3_45 dX3_readTd_48 rfl HQ1.1 (Nat.le_of_ble_eq_true rfl) (Or.inl rfl) rfl rfl (by intro z h; cases h) ?_
            refine rqput (j := 3) (x := (z &&& 15)) HQ1 rfl fun h24 HQ24 fq24 => ?_
            refine g_goto (q := 73) C dX3_readTd_51 (by decide) ?_
            refine g_iload_n (q := 74) C dX3_readTd_73 rfl rfl ?_
            refine g_if_eq (t := 82) (q := 77) C dX3_readTd_74 (by decide) rfl (fun c_74 => ?_) (fun c_74 => ?_)
            ·
              refine g_iconst (v := 0) (q := 83) C dX3_readTd_82 (by decide) rfl ?_
              have e : rX3_readTd q y z = ((0 : Int32), ((q.set 9 (z >>> (4 &&& 31))).set 3 (z &&& 15))) := ((if_neg c_13).trans ((if_pos c_18).trans ((if_pos c_29).trans ((if_pos c_36).trans ((if_pos c_43).trans (if_pos c_74))))))
              exact E.1 _ _ _ _ _ _ _ dX3_readTd_83 rfl rfl (Nat.le_of_ble_eq_true rfl) (Nat.le_of_ble_eq_true rfl) ⟨by rw [e], by rw [e]; exact ⟨HQ24, (rqF.trans fq1 fq24)⟩⟩
            ·
              refine g_aload_n (q := 78) C dX3_readTd_77 rfl rfl ?_
              refine g_iconst (v := 1) (q := 79) C dX3_readTd_78 (by decide) rfl ?_
              refine g_putfield (q := 82) C fX3_54 dX3_readTd_79 rfl HQ24.1 (Nat.le_of_ble_eq_true rfl) (Or.inl rfl) rfl rfl (by intro z h; cases h) ?_
              refine rqput (j := 6) (x := 1) HQ24 rfl fun h25 HQ25 fq25 => ?_
              refine g_iconst (v := 0) (q := 83) C dX3_readTd_82 (by decide) rfl ?_
              have e : rX3_readTd q y z = ((0 : Int32), (((q.set 9 (z >>> (4 &&& 31))).set 3 (z &&& 15)).set 6 1)) := ((if_neg c_13).trans ((if_pos c_18).trans ((if_pos c_29).trans ((if_pos c_36).trans ((if_pos c_43).trans (if_neg c_74))))))
              exact E.1 _ _ _ _ _ _ _ dX3_readTd_83 rfl rfl (Nat.le_of_ble_eq_true rfl) (Nat.le_of_ble_eq_true rfl) ⟨by rw [e], by rw [e]; exact ⟨HQ25, (rqF.trans (rqF.trans fq1 fq24) fq25)⟩⟩
        ·
          refine g_iconst (v := 3) (q := 40) C dX3_readTd_39 (by decide) rfl ?_
          have e : rX3_readTd q y z = ((3 : Int32), (q.set 9 (z >>> (4 &&& 31)))) := ((if_neg c_13).trans ((if_pos c_18).trans ((if_pos c_29).trans (if_neg c_36))))
          exact E.1 _ _ _ _ _ _ _ dX3_readTd_40 rfl rfl (Nat.le_of_ble_eq_true rfl) (Nat.le_of_ble_eq_true rfl) ⟨by rw [e], by rw [e]; exact ⟨HQ1, fq1⟩⟩
    ·
      refine g_iload_n (q := 22) C dX3_readTd_21 rfl rfl ?_
      refine g_bipush (v := 15) (q := 24) C dX3_readTd_22 (by decide) rfl ?_
      refine g_icmp_ne (t := 39) (q := 27) C dX3_readTd_24 (by decide) rfl (fun c_24 => ?_) (fun c_24 => ?_)
      ·
        refine g_iconst (v := 3) (q := 40) C dX3_readTd_39 (by decide) rfl ?_
        have e : rX3_readTd q y z = ((3 : Int32), (q.set 9 (z >>> (4 &&& 31)))) := ((if_neg c_13).trans ((if_neg c_18).trans (if_neg c_24)))
        exact E.1 _ _ _ _ _ _ _ dX3_readTd_40 rfl rfl (Nat.le_of_ble_eq_true rfl) (Nat.le_of_ble_eq_true rfl) ⟨by rw [e], by rw [e]; exact ⟨HQ1, fq1⟩⟩
      ·
        refine g_iload_n (q := 28) C dX3_readTd_27 rfl rfl ?_
        refine g_iconst (v := 4) (q := 29) C dX3_readTd_28 (by decide) rfl ?_
        refine g_icmp_ne (t := 41) (q := 32) C dX3_readTd_29 (by decide) rfl (fun c_29 => ?_) (fun c_29 => ?_)
        ·
          refine g_iload_n (q := 42) C dX3_readTd_41 rfl rfl ?_
          refine g_iconst (v := 1) (q := 43) C dX3_readTd_42 (by decide) rfl ?_
          refine g_icmp_ne (t := 54) (q := 46) C dX3_readTd_43 (by decide) rfl (fun c_43 => ?_) (fun c_43 => ?_)
          ·
            refine g_iload_n (q := 55) C dX3_readTd_54 rfl rfl ?_
            refine g_iconst (v := 1) (q := 56) C dX3_readTd_55 (by decide) rfl ?_
            refine g_icmp_ne (t := 73) (q := 59) C dX3_readTd_56 (by decide) rfl (fun c_56 => ?_) (fun c_56 => ?_)
            ·
              refine g_iload_n (q := 74) C dX3_readTd_73 rfl rfl ?_
              refine g_if_eq (t := 82) (q := 77) C dX3_readTd_74 (by decide) rfl (fun c_74 => ?_) (fun c_74 => ?_)
              ·
                refine g_iconst (v := 0) (q := 83) C dX3_readTd_82 (by decide) rfl ?_
                have e : rX3_readTd q y z = ((0 : Int32), (q.set 9 (z >>> (4 &&& 31)))) := ((if_neg c_13).trans ((if_neg c_18).trans ((if_pos c_24).trans ((if_neg c_29).trans ((if_neg c_43).trans ((if_neg c_56).trans (if_pos c_74)))))))
                exact E.1 _ _ _ _ _ _ _ dX3_readTd_83 rfl rfl (Nat.le_of_ble_eq_true rfl) (Nat.le_of_ble_eq_true rfl) ⟨by rw [e], by rw [e]; exact ⟨HQ1, fq1⟩⟩
              ·
                refine g_aload_n (q := 78) C dX3_readTd_77 rfl rfl ?_
                refine g_iconst (v := 1) (q := 79) C dX3_readTd_78 (by decide) rfl ?_
                refine g_putfield (q := 82) C fX3_54 dX3_readTd_79 rfl HQ1.1 (Nat.le_of_ble_eq_true rfl) (Or.inl rfl) rfl rfl (by intro z h; cases h) ?_
                refine rqput (j := 6) (x := 1) HQ1 rfl fun h26 HQ26 fq26 => ?_
                refine g_iconst (v := 0) (q := 83) C dX3_readTd_82 (by decide) rfl ?_
                have e : rX3_readTd q y z = ((0 : Int32), ((q.set 9 (z >>> (4 &&& 31))).set 6 1)) := ((if_neg c_13).trans ((if_neg c_18).trans ((if_pos c_24).trans ((if_neg c_29).trans ((if_neg c_43).trans ((if_neg c_56).trans (if_neg c_74)))))))
                exact E.1 _ _ _ _ _ _ _ dX3_readTd_83 rfl rfl (Nat.le_of_ble_eq_true rfl) (Nat.le_of_ble_eq_true rfl) ⟨by rw [e], by rw [e]; exact ⟨HQ26, (rqF.trans fq1 fq26)⟩⟩
            ·
              refine g_aload_n (q := 60) C dX3_readTd_59 rfl rfl ?_
              refine g_getfield (v := .int ((q.f 10))) (q := 63) C fX3_62 dX3_readTd_60 rfl HQ1.1 rfl ?_
              refine g_if_ne (t := 73) (q := 66) C dX3_readTd_63 (by decide) rfl (fun c_63 => ?_) (fun c_63 => ?_)
              ·
                refine g_iload_n (q := 74) C dX3_readTd_73 rfl rfl ?_
                refine g_if_eq (t := 82) (q := 77) C dX3_readTd_74 (by decide) rfl (fun c_74 => ?_) (fun c_74 => ?_)
                ·
                  refine g_iconst (v := 0) (q := 83) C dX3_readTd_82 (by decide) rfl ?_
                  have e : rX3_readTd q y z = ((0 : Int32), (q.set 9 (z >>> (4 &&& 31)))) := ((if_neg c_13).trans ((if_neg c_18).trans ((if_pos c_24).trans ((if_neg c_29).trans ((if_neg c_43).trans ((if_pos c_56).trans ((if_neg c_63).trans (if_pos c_74))))))))
                  exact E.1 _ _ _ _ _ _ _ dX3_readTd_83 rfl rfl (Nat.le_of_ble_eq_true rfl) (Nat.le_of_ble_eq_true rfl) ⟨by rw [e], by rw [e]; exact ⟨HQ1, fq1⟩⟩
                ·
                  refine g_aload_n (q := 78) C dX3_readTd_77 rfl rfl ?_
                  refine g_iconst (v := 1) (q := 79) C dX3_readTd_78 (by decide) rfl ?_
                  refine g_putfield (q := 82) C fX3_54 dX3_readTd_79 rfl HQ1.1 (Nat.le_of_ble_eq_true rfl) (Or.inl rfl) rfl rfl (by intro z h; cases h) ?_
                  refine rqput (j := 6) (x := 1) HQ1 rfl fun h27 HQ27 fq27 => ?_
                  refine g_iconst (v := 0) (q := 83) C dX3_readTd_82 (by decide) rfl ?_
                  have e : rX3_readTd q y z = ((0 : Int32), ((q.set 9 (z >>> (4 &&& 31))).set 6 1)) := ((if_neg c_13).trans ((if_neg c_18).trans ((if_pos c_24).trans ((if_neg c_29).trans ((if_neg c_43).trans ((if_pos c_56).trans ((if_neg c_63).trans (if_neg c_74))))))))
                  exact E.1 _ _ _ _ _ _ _ dX3_readTd_83 rfl rfl (Nat.le_of_ble_eq_true rfl) (Nat.le_of_ble_eq_true rfl) ⟨by rw [e], by rw [e]; exact ⟨HQ27, (rqF.trans fq1 fq27)⟩⟩
              ·
                refine g_aload_n (q := 67) C dX3_readTd_66 rfl rfl ?_
                refine g_iload_n (q := 68) C dX3_readTd_67 rfl rfl ?_
                refine g_iconst (v := 1) (q := 69) C dX3_readTd_68 (by decide) rfl ?_
                refine g_iadd (q := 70) C dX3_readTd_69 rfl ?_
                refine g_putfield (q := 73) C fX3_62 dX3_readTd_70 rfl HQ1.1 (Nat.le_of_ble_eq_true rfl) (Or.inl rfl) rfl rfl (by intro z h; cases h) ?_
                refine rqput (j := 10) (x := (y + 1)) HQ1 rfl fun h28 HQ28 fq28 => ?_
                refine g_iload_n (q := 74) C dX3_readTd_73 rfl rfl ?_
                refine g_if_eq (t := 82) (q := 77) C dX3_readTd_74 (by decide) rfl (fun c_74 => ?_) (fun c_74 => ?_)
                ·
                  refine g_iconst (v := 0) (q := 83) C dX3_readTd_82 (by decide) rfl ?_
                  have e : rX3_readTd q y z = ((0 : Int32), ((q.set 9 (z >>> (4 &&& 31))).set 10 (y + 1))) := ((if_neg c_13).trans ((if_neg c_18).trans ((if_pos c_24).trans ((if_neg c_29).trans ((if_neg c_43).trans ((if_pos c_56).trans ((if_pos c_63).trans (if_pos c_74))))))))
                  exact E.1 _ _ _ _ _ _ _ dX3_readTd_83 rfl rfl (Nat.le_of_ble_eq_true rfl) (Nat.le_of_ble_eq_true rfl) ⟨by rw [e], by rw [e]; exact ⟨HQ28, (rqF.trans fq1 fq28)⟩⟩
                ·
                  refine g_aload_n (q := 78) C dX3_readTd_77 rfl rfl ?_
                  refine g_iconst (v := 1) (q := 79) C dX3_readTd_78 (by decide) rfl ?_
                  refine g_putfield (q := 82) C fX3_54 dX3_readTd_79 rfl HQ28.1 (Nat.le_of_ble_eq_true rfl) (Or.inl rfl) rfl rfl (by intro z h; cases h) ?_
                  refine rqput (j := 6) (x := 1) HQ28 rfl fun h29 HQ29 fq29 => ?_
                  refine g_iconst (v := 0) (q := 83) C dX3_readTd_82 (by decide) rfl ?_
                  have e : rX3_readTd q y z = ((0 : Int32), (((q.set 9 (z >>> (4 &&& 31))).set 10 (y + 1)).set 6 1)) := ((if_neg c_13).trans ((if_neg c_18).trans ((if_pos c_24).trans ((if_neg c_29).trans ((if_neg c_43).trans ((if_pos c_56).trans ((if_pos c_63).trans (if_neg c_74))))))))
                  exact E.1 _ _ _ _ _ _ _ dX3_readTd_83 rfl rfl (Nat.le_of_ble_eq_true rfl) (Nat.le_of_ble_eq_true rfl) ⟨by rw [e], by rw [e]; exact ⟨HQ29, (rqF.trans (rqF.trans fq1 fq28) fq29)⟩⟩
          ·
            refine g_aload_n (q := 47) C dX3_readTd_46 rfl rfl ?_
            refine g_iload_n (q := 48) C dX3_readTd_47 rfl rfl ?_
            refine g_putfield (q := 51) C fX3_45 dX3_readTd_48 rfl HQ1.1 (Nat.le_of_ble_eq_true rfl) (Or.inl rfl) rfl rfl (by intro z h; cases h) ?_
            refine rqput (j := 3) (x := (z &&& 15)) HQ1 rfl fun h30 HQ30 fq30 => ?_
            refine g_goto (q := 73) C dX3_readTd_51 (by decide) ?_
            refine g_iload_n (q := 74) C dX3_readTd_73 rfl rfl ?_
            refine g_if_eq (t := 82) (q := 77) C dX3_readTd_74 (by decide) rfl (fun c_74 => ?_) (fun c_74 => ?_)
            ·
              refine g_iconst (v := 0) (q := 83) C dX3_readTd_82 (by decide) rfl ?_
              have e : rX3_readTd q y z = ((0 : Int32), ((q.set 9 (z >>> (4 &&& 31))).set 3 (z &&& 15))) := ((if_neg c_13).trans ((if_neg c_18).trans ((if_pos c_24).trans ((if_neg c_29).trans ((if_pos c_43).trans (if_pos c_74))))))
              exact E.1 _ _ _ _ _ _ _ dX3_readTd_83 rfl rfl (Nat.le_of_ble_eq_true rfl) (Nat.le_of_ble_eq_true rfl) ⟨by rw [e], by rw [e]; exact ⟨HQ30, (rqF.trans fq1 fq30)⟩⟩
            ·
              refine g_aload_n (q := 78) C dX3_readTd_77 rfl rfl ?_
              refine g_iconst (v := 1) (q := 79) C dX3_readTd_78 (by decide) rfl ?_
              refine g_putfield (q := 82) C fX3_54 dX3_readTd_79 rfl HQ30.1 (Nat.le_of_ble_eq_true rfl) (Or.inl rfl) rfl rfl (by intro z h; cases h) ?_
              refine rqput (j := 6) (x := 1) HQ30 rfl fun h31 HQ31 fq31 => ?_
              refine g_iconst (v := 0) (q := 83) C dX3_readTd_82 (by decide) rfl ?_
              have e : rX3_readTd q y z = ((0 : Int32), (((q.set 9 (z >>> (4 &&& 31))).set 3 (z &&& 15)).set 6 1)) := ((if_neg c_13).trans ((if_neg c_18).trans ((if_pos c_24).trans ((if_neg c_29).trans ((if_pos c_43).trans (if_neg c_74))))))
              exact E.1 _ _ _ _ _ _ _ dX3_readTd_83 rfl rfl (Nat.le_of_ble_eq_true rfl) (Nat.le_of_ble_eq_true rfl) ⟨by rw [e], by rw [e]; exact ⟨HQ31, (rqF.trans (rqF.trans fq1 fq30) fq31)⟩⟩
        ·
          refine g_aload_n (q := 33) C dX3_readTd_32 rfl rfl ?_
          refine g_getfield (v := .int ((z >>> (4 &&& 31)))) (q := 36) C fX3_76 dX3_readTd_33 rfl HQ1.1 rfl ?_
          refine g_if_eq (t := 41) (q := 39) C dX3_readTd_36 (by decide) rfl (fun c_36 => ?_) (fun c_36 => ?_)
          ·
            refine g_iload_n (q := 42) C dX3_readTd_41 rfl rfl ?_
            refine g_iconst (v := 1) (q := 43) C dX3_readTd_42 (by decide) rfl ?_
            refine g_icmp_ne (t := 54) (q := 46) C dX3_readTd_43 (by decide) rfl (fun c_43 => ?_) (fun c_43 => ?_)
            ·
              refine g_iload_n (q := 55) C dX3_readTd_54 rfl rfl ?_
              refine g_iconst (v := 1) (q := 56) C dX3_readTd_55 (by decide) rfl ?_
              refine g_icmp_ne (t := 73) (q := 59) C dX3_readTd_56 (by decide) rfl (fun c_56 => ?_) (fun c_56 => ?_)
              ·
                refine g_iload_n (q := 74) C dX3_readTd_73 rfl rfl ?_
                refine g_if_eq (t := 82) (q := 77) C dX3_readTd_74 (by decide) rfl (fun c_74 => ?_) (fun c_74 => ?_)
                ·
                  refine g_iconst (v := 0) (q := 83) C dX3_readTd_82 (by decide) rfl ?_
                  have e : rX3_readTd q y z = ((0 : Int32), (q.set 9 (z >>> (4 &&& 31)))) := ((if_neg c_13).trans ((if_neg c_18).trans ((if_pos c_24).trans ((if_pos c_29).trans ((if_pos c_36).trans ((if_neg c_43).trans ((if_neg c_56).trans (if_pos c_74))))))))
                  exact E.1 _ _ _ _ _ _ _ dX3_readTd_83 rfl rfl (Nat.le_of_ble_eq_true rfl) (Nat.le_of_ble_eq_true rfl) ⟨by rw [e], by rw [e]; exact ⟨HQ1, fq1⟩⟩
                ·
                  refine g_aload_n (q := 78) C dX3_readTd_77 rfl rfl ?_
                  refine g_iconst (v := 1) (q := 79) C dX3_readTd_78 (by decide) rfl ?_
                  refine g_putfield (q := 82) C fX3_54 dX3_readTd_79 rfl HQ1.1 (Nat.le_of_ble_eq_true rfl) (Or.inl rfl) rfl rfl (by intro z h; cases h) ?_
                  refine rqput (j := 6) (x := 1) HQ1 rfl fun h32 HQ32 fq32 => ?_
                  refine g_iconst (v := 0) (q := 83) C dX3_readTd_82 (by decide) rfl ?_
                  have e : rX3_readTd q y z = ((0 : Int32), ((q.set 9 (z >>> (4 &&& 31))).set 6 1)) := ((if_neg c_13).trans ((if_neg c_18).trans ((if_pos c_24).trans ((if_pos c_29).trans ((if_pos c_36).trans ((if_neg c_43).trans ((if_neg c_56).trans (if_neg c_74))))))))
                  exact E.1 _ _ _ _ _ _ _ dX3_readTd_83 rfl rfl (Nat.le_of_ble_eq_true rfl) (Nat.le_of_ble_eq_true rfl) ⟨by rw [e], by rw [e]; exact ⟨HQ32, (rqF.trans fq1 fq32)⟩⟩
              ·
                refine g_aload_n (q := 60) C dX3_readTd_59 rfl rfl ?_
                refine g_getfield (v := .int ((q.f 10))) (q := 63) C fX3_62 dX3_readTd_60 rfl HQ1.1 rfl ?_
                refine g_if_ne (t := 73) (q := 66) C dX3_readTd_63 (by decide) rfl (fun c_63 => ?_) (fun c_63 => ?_)
                ·
                  refine g_iload_n (q := 74) C dX3_readTd_73 rfl rfl ?_
                  refine g_if_eq (t := 82) (q := 77) C dX3_readTd_74 (by decide) rfl (fun c_74 => ?_) (fun c_74 => ?_)
                  ·
                    refine g_iconst (v := 0) (q := 83) C dX3_readTd_82 (by decide) rfl ?_
                    have e : rX3_readTd q y z = ((0 : Int32), (q.set 9 (z >>> (4 &&& 31)))) := ((if_neg c_13).trans ((if_neg c_18).trans ((if_pos c_24).trans ((if_pos c_29).trans ((if_pos c_36).trans ((if_neg c_43).trans ((if_pos c_56).trans ((if_neg c_63).trans (if_pos c_74)))))))))
                    exact E.1 _ _ _ _ _ _ _ dX3_readTd_83 rfl rfl (Nat.le_of_ble_eq_true rfl) (Nat.le_of_ble_eq_true rfl) ⟨by rw [e], by rw [e]; exact ⟨HQ1, fq1⟩⟩
                  ·
                    refine g_aload_n (q := 78) C dX3_readTd_77 rfl rfl ?_
                    refine g_iconst (v := 1) (q := 79) C dX3_readTd_78 (by decide) rfl ?_
                    refine g_putfield (q := 82) C fX3_54 dX3_readTd_79 rfl HQ1.1 (Nat.le_of_ble_eq_true rfl) (Or.inl rfl) rfl rfl (by intro z h; cases h) ?_
                    refine rqput (j := 6) (x := 1) HQ1 rfl fun h33 HQ33 fq33 => ?_
                    refine g_iconst (v := 0) (q := 83) C dX3_readTd_82 (by decide) rfl ?_
                    have e : rX3_readTd q y z = ((0 : Int32), ((q.set 9 (z >>> (4 &&& 31))).set 6 1)) := ((if_neg c_13).trans ((if_neg c_18).trans ((if_pos c_24).trans ((if_pos c_29).trans ((if_pos c_36).trans ((if_neg c_43).trans ((if_pos c_56).trans ((if_neg c_63).trans (if_neg c_74)))))))))
                    exact E.1 _ _ _ _ _ _ _ dX3_readTd_83 rfl rfl (Nat.le_of_ble_eq_true rfl) (Nat.le_of_ble_eq_true rfl) ⟨by rw [e], by rw [e]; exact ⟨HQ33, (rqF.trans fq1 fq33)⟩⟩
                ·
                  refine g_aload_n (q := 67) C dX3_readTd_66 rfl rfl ?_
                  refine g_iload_n (q := 68) C dX3_readTd_67 rfl rfl ?_
                  refine g_iconst (v := 1) (q := 69) C dX3_readTd_68 (by decide) rfl ?_
                  refine g_iadd (q := 70) C dX3_readTd_69 rfl ?_
                  refine g_putfield (q := 73) C fX3_62 dX3_readTd_70 rfl HQ1.1 (Nat.le_of_ble_eq_true rfl) (Or.inl rfl) rfl rfl (by intro z h; cases h) ?_
                  refine rqput (j := 10) (x := (y + 1)) HQ1 rfl fun h34 HQ34 fq34 => ?_
                  refine g_iload_n (q := 74) C dX3_readTd_73 rfl rfl ?_
                  refine g_if_eq (t := 82) (q := 77) C dX3_readTd_74 (by decide) rfl (fun c_74 => ?_) (fun c_74 => ?_)
                  ·
                    refine g_iconst (v := 0) (q := 83) C dX3_readTd_82 (by decide) rfl ?_
                    have e : rX3_readTd q y z = ((0 : Int32), ((q.set 9 (z >>> (4 &&& 31))).set 10 (y + 1))) := ((if_neg c_13).trans ((if_neg c_18).trans ((if_pos c_24).trans ((if_pos c_29).trans ((if_pos c_36).trans ((if_neg c_43).trans ((if_pos c_56).trans ((if_pos c_63).trans (if_pos c_74)))))))))
                    exact E.1 _ _ _ _ _ _ _ dX3_readTd_83 rfl rfl (Nat.le_of_ble_eq_true rfl) (Nat.le_of_ble_eq_true rfl) ⟨by rw [e], by rw [e]; exact ⟨HQ34, (rqF.trans fq1 fq34)⟩⟩
                  ·
                    refine g_aload_n (q := 78) C dX3_readTd_77 rfl rfl ?_
                    refine g_iconst (v := 1) (q := 79) C dX3_readTd_78 (by decide) rfl ?_
                    refine g_putfield (q := 82) C fX3_54 dX3_readTd_79 rfl HQ34.1 (Nat.le_of_ble_eq_true rfl) (Or.inl rfl) rfl rfl (by intro z h; cases h) ?_
                    refine rqput (j := 6) (x := 1) HQ34 rfl fun h35 HQ35 fq35 => ?_
                    refine g_iconst (v := 0) (q := 83) C dX3_readTd_82 (by decide) rfl ?_
                    have e : rX3_readTd q y z = ((0 : Int32), (((q.set 9 (z >>> (4 &&& 31))).set 10 (y + 1)).set 6 1)) := ((if_neg c_13).trans ((if_neg c_18).trans ((if_pos c_24).trans ((if_pos c_29).trans ((if_pos c_36).trans ((if_neg c_43).trans ((if_pos c_56).trans ((if_pos c_63).trans (if_neg c_74)))))))))
                    exact E.1 _ _ _ _ _ _ _ dX3_readTd_83 rfl rfl (Nat.le_of_ble_eq_true rfl) (Nat.le_of_ble_eq_true rfl) ⟨by rw [e], by rw [e]; exact ⟨HQ35, (rqF.trans (rqF.trans fq1 fq34) fq35)⟩⟩
            ·
              refine g_aload_n (q := 47) C dX3_readTd_46 rfl rfl ?_
              refine g_iload_n (q := 48) C dX3_readTd_47 rfl rfl ?_
              refine g_putfield (q := 51) C fX3_45 dX3_readTd_48 rfl HQ1.1 (Nat.le_of_ble_eq_true rfl) (Or.inl rfl) rfl rfl (by intro z h; cases h) ?_
              refine rqput (j := 3) (x := (z &&& 15)) HQ1 rfl fun h36 HQ36 fq36 => ?_
              refine g_goto (q := 73) C dX3_readTd_51 (by decide) ?_
              refine g_iload_n (q := 74) C dX3_readTd_73 rfl rfl ?_
              refine g_if_eq (t := 82) (q := 77) C dX3_readTd_74 (by decide) rfl (fun c_74 => ?_) (fun c_74 => ?_)
              ·
                refine g_iconst (v := 0) (q := 83) C dX3_readTd_82 (by decide) rfl ?_
                have e : rX3_readTd q y z = ((0 : Int32), ((q.set 9 (z >>> (4 &&& 31))).set 3 (z &&& 15))) := ((if_neg c_13).trans ((if_neg c_18).trans ((if_pos c_24).trans ((if_pos c_29).trans ((if_pos c_36).trans ((if_pos c_43).trans (if_pos c_74)))))))
                exact E.1 _ _ _ _ _ _ _ dX3_readTd_83 rfl rfl (Nat.le_of_ble_eq_true rfl) (Nat.le_of_ble_eq_true rfl) ⟨by rw [e], by rw [e]; exact ⟨HQ36, (rqF.trans fq1 fq36)⟩⟩
              ·
                refine g_aload_n (q := 78) C dX3_readTd_77 rfl rfl ?_
                refine g_iconst (v := 1) (q := 79) C dX3_readTd_78 (by decide) rfl ?_
                refine g_putfield (q := 82) C fX3_54 dX3_readTd_79 rfl HQ36.1 (Nat.le_of_ble_eq_true rfl) (Or.inl rfl) rfl rfl (by intro z h; cases h) ?_
                refine rqput (j := 6) (x := 1) HQ36 rfl fun h37 HQ37 fq37 => ?_
                refine g_iconst (v := 0) (q := 83) C dX3_readTd_82 (by decide) rfl ?_
                have e : rX3_readTd q y z = ((0 : Int32), (((q.set 9 (z >>> (4 &&& 31))).set 3 (z &&& 15)).set 6 1)) := ((if_neg c_13).trans ((if_neg c_18).trans ((if_pos c_24).trans ((if_pos c_29).trans ((if_pos c_36).trans ((if_pos c_43).trans (if_neg c_74)))))))
                exact E.1 _ _ _ _ _ _ _ dX3_readTd_83 rfl rfl (Nat.le_of_ble_eq_true rfl) (Nat.le_of_ble_eq_true rfl) ⟨by rw [e], by rw [e]; exact ⟨HQ37, (rqF.trans (rqF.trans fq1 fq36) fq37)⟩⟩
          ·
            refine g_iconst (v := 3) (q := 40) C dX3_readTd_39 (by decide) rfl ?_
            have e : rX3_readTd q y z = ((3 : Int32), (q.set 9 (z >>> (4 &&& 31)))) := ((if_neg c_13).trans ((if_neg c_18).trans ((if_pos c_24).trans ((if_pos c_29).trans (if_neg c_36)))))
            exact E.1 _ _ _ _ _ _ _ dX3_readTd_40 rfl rfl (Nat.le_of_ble_eq_true rfl) (Nat.le_of_ble_eq_true rfl) ⟨by rw [e], by rw [e]; exact ⟨HQ1, fq1⟩⟩
