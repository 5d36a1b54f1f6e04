/-! Wire, where no letter is turned (by program: wip/p1/m_wire.py) -/
/-- the wire at w: repeats, letters, letters again; m faults told, each of them spoilt or lost -/
def gWire (hp : List gA) (w : Nat) (re le ag : Int32) (m : Nat) : Prop := ∃ (fl fk fb : Nat → Int32) (pk bn : Int32), hp[w]? = some (.inr (.inr (6, [.int re, .int le, .int ag, .ref (w + 1), .ref (w + 2), .ref (w + 3), .int (nI m), .int (-1), .int pk, .int bn]))) ∧ hp[w + 1]? = some (.inl (24, fl)) ∧ hp[w + 2]? = some (.inl (24, fk)) ∧ hp[w + 3]? = some (.inl (24, fb)) ∧ m ≤ 24 ∧ ∀ j, j < m → fk j = 1 ∨ fk j = 3
def gFW (hp h : List gA) (w : Nat) : Prop := ∀ k, (k < w ∨ w + 4 ≤ k) → h[k]? = hp[k]?
theorem gFW.rf {hp : List gA} {w : Nat} : gFW hp hp w := fun _ _ => rfl
theorem gFW.trans {hp h h' : List gA} {w : Nat} (a : gFW hp h w) (b : gFW h h' w) : gFW hp h' w := fun k hk => (b k hk).trans (a k hk)
theorem gWire.kept {hp h : List gA} {w : Nat} {re le ag : Int32} {m : Nat} (H : gWire hp w re le ag m) (fr : ∀ k, w ≤ k → k < w + 4 → h[k]? = hp[k]?) : gWire h w re le ag m := by
  obtain ⟨fl, fk, fb, pk, bn, a1, a2, a3, a4, a5⟩ := H
  exact ⟨fl, fk, fb, pk, bn, (fr _ (by omega) (by omega)).trans a1, (fr _ (by omega) (by omega)).trans a2, (fr _ (by omega) (by omega)).trans a3, (fr _ (by omega) (by omega)).trans a4, a5⟩
theorem gupd {f : Nat → Int32} {m k : Nat} {x : Int32} (hf : ∀ j, j < m → f j = 1 ∨ f j = 3) (hx : x = 1 ∨ x = 3) : ∀ j, j < m → upd f k x j = 1 ∨ upd f k x j = 3 := by
  intro j hj
  by_cases h : j = k
  · subst h; rw [pk_us]; exact hx
  · rw [pk_un h]; exact hf j hj
theorem dX6_faults_0 : decode cX6_faults 0 = .ok (.aload_n 0, 1) := by decide +kernel
theorem dX6_faults_1 : decode cX6_faults 1 = .ok (.getfield 31, 3) := by decide +kernel
theorem dX6_faults_4 : decode cX6_faults 4 = .ok (.ireturn, 1) := by decide +kernel
set_option maxRecDepth 100000 in
set_option maxHeartbeats 4000000 in
theorem c_X6_faults_w {hp : List gA} {w : Nat} {re le ag : Int32} {m : Nat} (H : gWire hp w re le ag m) : gM yX6_faults cX6_faults 1 ((some .int)) 0 0 [.ref w] (hp) (0) (0) (fun v h => v = some (.int (nI m)) ∧ h = hp) := by
  obtain ⟨fl, fk, fb, pk, bn, hw, hl, hk, hb, hm, hkk⟩ := id H
  refine gM_of (ls0 := [some (.ref w)]) (by decide +kernel) (Nat.le_of_ble_eq_true rfl) rfl fun X C E => ?_
  refine g_aload_n (q := 1) C dX6_faults_0 rfl rfl ?_
  refine g_getfield (q := 4) C fX6_31 dX6_faults_1 rfl hw rfl ?_
  exact E.1 _ _ _ _ _ _ _ dX6_faults_4 rfl rfl (Nat.le_of_ble_eq_true rfl) (Nat.le_of_ble_eq_true rfl) ⟨rfl, rfl⟩
theorem dX6_isFull_0 : decode cX6_isFull 0 = .ok (.aload_n 0, 1) := by decide +kernel
theorem dX6_isFull_1 : decode cX6_isFull 1 = .ok (.getfield 31, 3) := by decide +kernel
theorem dX6_isFull_4 : decode cX6_isFull 4 = .ok (.bipush 24, 2) := by decide +kernel
theorem dX6_isFull_6 : decode cX6_isFull 6 = .ok (.if_icmp .lt 7, 3) := by decide +kernel
theorem dX6_isFull_9 : decode cX6_isFull 9 = .ok (.iconst 1, 1) := by decide +kernel
theorem dX6_isFull_10 : decode cX6_isFull 10 = .ok (.goto 4, 3) := by decide +kernel
theorem dX6_isFull_13 : decode cX6_isFull 13 = .ok (.iconst 0, 1) := by decide +kernel
theorem dX6_isFull_14 : decode cX6_isFull 14 = .ok (.ireturn, 1) := by decide +kernel
set_option maxRecDepth 100000 in
set_option maxHeartbeats 4000000 in
theorem c_X6_isFull_w {hp : List gA} {w : Nat} {re le ag : Int32} {m : Nat} (H : gWire hp w re le ag m) : gM yX6_isFull cX6_isFull 1 ((some .boolean)) 0 0 [.ref w] (hp) (0) (0) (fun v h => v = some (.int (if m = 24 then 1 else 0)) ∧ h = hp) := by
  obtain ⟨fl, fk, fb, pk, bn, hw, hl, hk, hb, hm, hkk⟩ := id H
  have hm31 : m < 2 ^ 31 := by omega
  refine gM_of (ls0 := [some (.ref w)]) (by decide +kernel) (Nat.le_of_ble_eq_true rfl) rfl fun X C E => ?_
  refine g_aload_n (q := 1) C dX6_isFull_0 rfl rfl ?_
  refine g_getfield (q := 4) C fX6_31 dX6_isFull_1 rfl hw rfl ?_
  refine g_bipush (v := 24) (q := 6) C dX6_isFull_4 (by decide) rfl ?_
  refine g_icmp_lt (t := 13) (q := 9) C dX6_isFull_6 (by decide) rfl (fun c_6 => ?_) (fun c_6 => ?_)
  · -- to 13
    refine g_iconst (v := 0) (q := 14) C dX6_isFull_13 (by decide) rfl ?_
    exact E.1 _ _ _ _ _ _ _ dX6_isFull_14 rfl rfl (Nat.le_of_ble_eq_true rfl) (Nat.le_of_ble_eq_true rfl) ⟨by have h9 : m < 24 := (nI_ltI hm31 (by decide : 24 < 2 ^ 31)).mp c_6; rw [if_neg (by omega)], rfl⟩
  · -- to 9
    refine g_iconst (v := 1) (q := 10) C dX6_isFull_9 (by decide) rfl ?_
    refine g_goto (q := 14) C dX6_isFull_10 (by decide) ?_
    exact E.1 _ _ _ _ _ _ _ dX6_isFull_14 rfl rfl (Nat.le_of_ble_eq_true rfl) (Nat.le_of_ble_eq_true rfl) ⟨by have h9 : ¬ m < 24 := fun h => c_6 ((nI_ltI hm31 (by decide : 24 < 2 ^ 31)).mpr h); rw [if_pos (by omega)], rfl⟩
theorem dX6_dropNearest_0 : decode cX6_dropNearest 0 = .ok (.iconst 1, 1) := by decide +kernel
theorem dX6_dropNearest_1 : decode cX6_dropNearest 1 = .ok (.istore_n 1, 1) := by decide +kernel
theorem dX6_dropNearest_2 : decode cX6_dropNearest 2 = .ok (.iload_n 1, 1) := by decide +kernel
theorem dX6_dropNearest_3 : decode cX6_dropNearest 3 = .ok (.aload_n 0, 1) := by decide +kernel
theorem dX6_dropNearest_4 : decode cX6_dropNearest 4 = .ok (.getfield 31, 3) := by decide +kernel
theorem dX6_dropNearest_7 : decode cX6_dropNearest 7 = .ok (.if_icmp .ge 57, 3) := by decide +kernel
theorem dX6_dropNearest_10 : decode cX6_dropNearest 10 = .ok (.iload_n 1, 1) := by decide +kernel
theorem dX6_dropNearest_11 : decode cX6_dropNearest 11 = .ok (.bipush 24, 2) := by decide +kernel
theorem dX6_dropNearest_13 : decode cX6_dropNearest 13 = .ok (.if_icmp .ge 51, 3) := by decide +kernel
theorem dX6_dropNearest_16 : decode cX6_dropNearest 16 = .ok (.aload_n 0, 1) := by decide +kernel
theorem dX6_dropNearest_17 : decode cX6_dropNearest 17 = .ok (.getfield 21, 3) := by decide +kernel
theorem dX6_dropNearest_20 : decode cX6_dropNearest 20 = .ok (.iload_n 1, 1) := by decide +kernel
theorem dX6_dropNearest_21 : decode cX6_dropNearest 21 = .ok (.iconst 1, 1) := by decide +kernel
theorem dX6_dropNearest_22 : decode cX6_dropNearest 22 = .ok (.isub, 1) := by decide +kernel
theorem dX6_dropNearest_23 : decode cX6_dropNearest 23 = .ok (.aload_n 0, 1) := by decide +kernel
theorem dX6_dropNearest_24 : decode cX6_dropNearest 24 = .ok (.getfield 21, 3) := by decide +kernel
theorem dX6_dropNearest_27 : decode cX6_dropNearest 27 = .ok (.iload_n 1, 1) := by decide +kernel
theorem dX6_dropNearest_28 : decode cX6_dropNearest 28 = .ok (.iaload, 1) := by decide +kernel
theorem dX6_dropNearest_29 : decode cX6_dropNearest 29 = .ok (.iastore, 1) := by decide +kernel
theorem dX6_dropNearest_30 : decode cX6_dropNearest 30 = .ok (.aload_n 0, 1) := by decide +kernel
theorem dX6_dropNearest_31 : decode cX6_dropNearest 31 = .ok (.getfield 25, 3) := by decide +kernel
theorem dX6_dropNearest_34 : decode cX6_dropNearest 34 = .ok (.iload_n 1, 1) := by decide +kernel
theorem dX6_dropNearest_35 : decode cX6_dropNearest 35 = .ok (.iconst 1, 1) := by decide +kernel
theorem dX6_dropNearest_36 : decode cX6_dropNearest 36 = .ok (.isub, 1) := by decide +kernel
theorem dX6_dropNearest_37 : decode cX6_dropNearest 37 = .ok (.aload_n 0, 1) := by decide +kernel
theorem dX6_dropNearest_38 : decode cX6_dropNearest 38 = .ok (.getfield 25, 3) := by decide +kernel
theorem dX6_dropNearest_41 : decode cX6_dropNearest 41 = .ok (.iload_n 1, 1) := by decide +kernel
theorem dX6_dropNearest_42 : decode cX6_dropNearest 42 = .ok (.iaload, 1) := by decide +kernel
theorem dX6_dropNearest_43 : decode cX6_dropNearest 43 = .ok (.iastore, 1) := by decide +kernel
theorem dX6_dropNearest_44 : decode cX6_dropNearest 44 = .ok (.aload_n 0, 1) := by decide +kernel
theorem dX6_dropNearest_45 : decode cX6_dropNearest 45 = .ok (.getfield 28, 3) := by decide +kernel
theorem dX6_dropNearest_48 : decode cX6_dropNearest 48 = .ok (.iload_n 1, 1) := by decide +kernel
theorem dX6_dropNearest_49 : decode cX6_dropNearest 49 = .ok (.iconst 1, 1) := by decide +kernel
theorem dX6_dropNearest_50 : decode cX6_dropNearest 50 = .ok (.isub, 1) := by decide +kernel
theorem dX6_dropNearest_51 : decode cX6_dropNearest 51 = .ok (.aload_n 0, 1) := by decide +kernel
theorem dX6_dropNearest_52 : decode cX6_dropNearest 52 = .ok (.getfield 28, 3) := by decide +kernel
theorem dX6_dropNearest_55 : decode cX6_dropNearest 55 = .ok (.iload_n 1, 1) := by decide +kernel
theorem dX6_dropNearest_56 : decode cX6_dropNearest 56 = .ok (.iaload, 1) := by decide +kernel
theorem dX6_dropNearest_57 : decode cX6_dropNearest 57 = .ok (.iastore, 1) := by decide +kernel
theorem dX6_dropNearest_58 : decode cX6_dropNearest 58 = .ok (.iinc 1 1, 3) := by decide +kernel
theorem dX6_dropNearest_61 : decode cX6_dropNearest 61 = .ok (.goto (-59), 3) := by decide +kernel
theorem dX6_dropNearest_64 : decode cX6_dropNearest 64 = .ok (.aload_n 0, 1) := by decide +kernel
theorem dX6_dropNearest_65 : decode cX6_dropNearest 65 = .ok (.dup, 1) := by decide +kernel
theorem dX6_dropNearest_66 : decode cX6_dropNearest 66 = .ok (.getfield 31, 3) := by decide +kernel
theorem dX6_dropNearest_69 : decode cX6_dropNearest 69 = .ok (.iconst 1, 1) := by decide +kernel
theorem dX6_dropNearest_70 : decode cX6_dropNearest 70 = .ok (.isub, 1) := by decide +kernel
theorem dX6_dropNearest_71 : decode cX6_dropNearest 71 = .ok (.putfield 31, 3) := by decide +kernel
theorem dX6_dropNearest_74 : decode cX6_dropNearest 74 = .ok (.return_, 1) := by decide +kernel
set_option maxRecDepth 100000 in
set_option maxHeartbeats 4000000 in
theorem c_X6_dropNearest_w {hp : List gA} {w : Nat} {re le ag : Int32} {m : Nat} (H : gWire hp w re le ag m) (h1 : 1 ≤ m) : gM yX6_dropNearest cX6_dropNearest 2 (none) 0 0 [.ref w] (hp) (0) (0) (fun v h => v = none ∧ (gWire h w re le ag (m - 1) ∧ gFW hp h w)) := by
  obtain ⟨fl, fk, fb, pk, bn, hw, hl, hk, hb, hm, hkk⟩ := id H
  refine gM_of (ls0 := [some (.ref w), none]) (by decide +kernel) (Nat.le_of_ble_eq_true rfl) rfl fun X C E => ?_
  have L : ∀ d k : Nat, k + d = m → 1 ≤ k → ∀ hp1 : List gA, gWire hp1 w re le ag m → gFW hp hp1 w → gG X 2 [some (.ref w), some (.int (nI k))] [] hp1 0 0 := by
    intro d
    induction d with
    | zero =>
      intro k hk1 h3 hp1 HW fr
      obtain ⟨fl, fk, fb, pk, bn, hw, hl, hk, hb, hm, hkk⟩ := HW
      obtain rfl : k = m := by omega
      refine g_iload_n (q := 3) C dX6_dropNearest_2 rfl rfl ?_
      refine g_aload_n (q := 4) C dX6_dropNearest_3 rfl rfl ?_
      refine g_getfield (q := 7) C fX6_31 dX6_dropNearest_4 rfl hw rfl ?_
      refine g_icmp_ge_t (t := 64) C dX6_dropNearest_7 (by decide) (nI_le (Nat.le_refl _) (by omega)) ?_
      refine g_aload_n (q := 65) C dX6_dropNearest_64 rfl rfl ?_
      refine g_dup (q := 66) C dX6_dropNearest_65 rfl rfl ?_
      refine g_getfield (q := 69) C fX6_31 dX6_dropNearest_66 rfl hw rfl ?_
      refine g_iconst (v := 1) (q := 70) C dX6_dropNearest_69 (by decide) rfl ?_
      refine g_isub (q := 71) C dX6_dropNearest_70 rfl ?_
      refine g_putfield (q := 74) C fX6_31 dX6_dropNearest_71 rfl hw (Nat.le_of_ble_eq_true rfl) (Or.inl rfl) rfl rfl (by intro z h; cases h) ?_
      exact E.2.1 _ _ _ _ _ dX6_dropNearest_74 rfl (Nat.le_of_ble_eq_true rfl) (Nat.le_of_ble_eq_true rfl) ⟨rfl, ⟨fl, fk, fb, pk, bn, by rw [(gset_self hw), ← pk_sub (a := k) (b := 1) (by omega)]; rfl, (gset_other hl (by omega)), (gset_other hk (by omega)), (gset_other hb (by omega)), by omega, fun j hj => hkk j (by omega)⟩, gFW.trans fr (fun k hk => by repeat (first | rfl | rw [List.getElem?_set_ne (by omega)]))⟩
    | succ d ih =>
      intro k hk1 h3 hp1 HW fr
      obtain ⟨fl, fk, fb, pk, bn, hw, hl, hk, hb, hm, hkk⟩ := HW
      refine g_iload_n (q := 3) C dX6_dropNearest_2 rfl rfl ?_
      refine g_aload_n (q := 4) C dX6_dropNearest_3 rfl rfl ?_
      refine g_getfield (q := 7) C fX6_31 dX6_dropNearest_4 rfl hw rfl ?_
      refine g_icmp_ge_f (t := 64) (q := 10) C dX6_dropNearest_7 (by decide) rfl (fun h => nI_ge (show k < m by omega) (by omega) h) ?_
      refine g_iload_n (q := 11) C dX6_dropNearest_10 rfl rfl ?_
      refine g_bipush (v := 24) (q := 13) C dX6_dropNearest_11 (by decide) rfl ?_
      refine g_icmp_ge_f (t := 64) (q := 16) C dX6_dropNearest_13 (by decide) rfl (fun h => nI_ge (show k < 24 by omega) (by omega) h) ?_
      refine g_aload_n (q := 17) C dX6_dropNearest_16 rfl rfl ?_
      refine g_getfield (q := 20) C fX6_21 dX6_dropNearest_17 rfl hw rfl ?_
      refine g_iload_n (q := 21) C dX6_dropNearest_20 rfl rfl ?_
      refine g_iconst (v := 1) (q := 22) C dX6_dropNearest_21 (by decide) rfl ?_
      refine g_isub (q := 23) C dX6_dropNearest_22 rfl ?_
      refine g_aload_n (q := 24) C dX6_dropNearest_23 rfl rfl ?_
      refine g_getfield (q := 27) C fX6_21 dX6_dropNearest_24 rfl hw rfl ?_
      refine g_iload_n (q := 28) C dX6_dropNearest_27 rfl rfl ?_
      refine g_ialoadN (x := (fl k)) (j := k) (q := 29) C dX6_dropNearest_28 rfl hl (pk_in k 24 (by omega)) (pk_cl k) rfl ?_
      refine g_iastoreN (j := (k - 1)) (q := 30) C dX6_dropNearest_29 rfl hl (pk_in (k - 1) 24 (by omega) (pk_sub (b := 1) (by omega))) (pk_cl (k - 1) (pk_sub (b := 1) (by omega))) ?_
      refine g_aload_n (q := 31) C dX6_dropNearest_30 rfl rfl ?_
      refine g_getfield (q := 34) C fX6_25 dX6_dropNearest_31 rfl (gset_other hw (by omega)) rfl ?_
      refine g_iload_n (q := 35) C dX6_dropNearest_34 rfl rfl ?_
      refine g_iconst (v := 1) (q := 36) C dX6_dropNearest_35 (by decide) rfl ?_
      refine g_isub (q := 37) C dX6_dropNearest_36 rfl ?_
      refine g_aload_n (q := 38) C dX6_dropNearest_37 rfl rfl ?_
      refine g_getfield (q := 41) C fX6_25 dX6_dropNearest_38 rfl (gset_other hw (by omega)) rfl ?_
      refine g_iload_n (q := 42) C dX6_dropNearest_41 rfl rfl ?_
      refine g_ialoadN (x := (fk k)) (j := k) (q := 43) C dX6_dropNearest_42 rfl (gset_other hk (by omega)) (pk_in k 24 (by omega)) (pk_cl k) rfl ?_
      refine g_iastoreN (j := (k - 1)) (q := 44) C dX6_dropNearest_43 rfl (gset_other hk (by omega)) (pk_in (k - 1) 24 (by omega) (pk_sub (b := 1) (by omega))) (pk_cl (k - 1) (pk_sub (b := 1) (by omega))) ?_
      refine g_aload_n (q := 45) C dX6_dropNearest_44 rfl rfl ?_
      refine g_getfield (q := 48) C fX6_28 dX6_dropNearest_45 rfl (gset_other (gset_other hw (by omega)) (by omega)) rfl ?_
      refine g_iload_n (q := 49) C dX6_dropNearest_48 rfl rfl ?_
      refine g_iconst (v := 1) (q := 50) C dX6_dropNearest_49 (by decide) rfl ?_
      refine g_isub (q := 51) C dX6_dropNearest_50 rfl ?_
      refine g_aload_n (q := 52) C dX6_dropNearest_51 rfl rfl ?_
      refine g_getfield (q := 55) C fX6_28 dX6_dropNearest_52 rfl (gset_other (gset_other hw (by omega)) (by omega)) rfl ?_
      refine g_iload_n (q := 56) C dX6_dropNearest_55 rfl rfl ?_
      refine g_ialoadN (x := (fb k)) (j := k) (q := 57) C dX6_dropNearest_56 rfl (gset_other (gset_other hb (by omega)) (by omega)) (pk_in k 24 (by omega)) (pk_cl k) rfl ?_
      refine g_iastoreN (j := (k - 1)) (q := 58) C dX6_dropNearest_57 rfl (gset_other (gset_other hb (by omega)) (by omega)) (pk_in (k - 1) 24 (by omega) (pk_sub (b := 1) (by omega))) (pk_cl (k - 1) (pk_sub (b := 1) (by omega))) ?_
      refine g_iinc (v := (nI (k + 1))) (q := 61) C dX6_dropNearest_58 rfl (nI_1 k) (by simp only [gset]; rfl) rfl ?_
      refine g_goto (q := 2) C dX6_dropNearest_61 (by decide) ?_
      exact ih (k + 1) (by omega) (by omega) _ ⟨_, _, _, pk, bn, (gset_other (gset_other (gset_other hw (by omega)) (by omega)) (by omega)), (gset_other (gset_other (gset_self hl) (by omega)) (by omega)), (gset_other (gset_self (gset_other hk (by omega))) (by omega)), (gset_self (gset_other (gset_other hb (by omega)) (by omega))), hm, gupd hkk (hkk k (by omega))⟩ (gFW.trans fr (fun k hk => by repeat (first | rfl | rw [List.getElem?_set_ne (by omega)])))
  refine g_iconst (v := 1) (q := 1) C dX6_dropNearest_0 (by decide) rfl ?_
  refine g_istore_n (q := 2) C dX6_dropNearest_1 (Nat.le_of_ble_eq_true rfl) (by simp only [gset]; rfl) rfl ?_
  exact L (m - 1) 1 (by omega) (Nat.le_refl _) hp H gFW.rf
  
theorem gFW.set {hp : List gA} {w : Nat} {e : gA} : gFW hp (hp.set w e) w := fun k hk => List.getElem?_set_ne (by omega)
theorem gpos {m : Nat} (hm : m ≤ 24) (h : ¬ nI m ≤ 0) : 1 ≤ m := by
  rcases Nat.eq_zero_or_pos m with e | e
  · subst e; exact absurd (by decide) h
  · exact e
theorem dX6_sendLetter_0 : decode cX6_sendLetter 0 = .ok (.iconst 0, 1) := by decide +kernel
theorem dX6_sendLetter_1 : decode cX6_sendLetter 1 = .ok (.istore_n 1, 1) := by decide +kernel
theorem dX6_sendLetter_2 : decode cX6_sendLetter 2 = .ok (.aload_n 0, 1) := by decide +kernel
theorem dX6_sendLetter_3 : decode cX6_sendLetter 3 = .ok (.getfield 31, 3) := by decide +kernel
theorem dX6_sendLetter_6 : decode cX6_sendLetter 6 = .ok (.ifCond .le 37, 3) := by decide +kernel
theorem dX6_sendLetter_9 : decode cX6_sendLetter 9 = .ok (.aload_n 0, 1) := by decide +kernel
theorem dX6_sendLetter_10 : decode cX6_sendLetter 10 = .ok (.getfield 21, 3) := by decide +kernel
theorem dX6_sendLetter_13 : decode cX6_sendLetter 13 = .ok (.iconst 0, 1) := by decide +kernel
theorem dX6_sendLetter_14 : decode cX6_sendLetter 14 = .ok (.iaload, 1) := by decide +kernel
theorem dX6_sendLetter_15 : decode cX6_sendLetter 15 = .ok (.aload_n 0, 1) := by decide +kernel
theorem dX6_sendLetter_16 : decode cX6_sendLetter 16 = .ok (.getfield 15, 3) := by decide +kernel
theorem dX6_sendLetter_19 : decode cX6_sendLetter 19 = .ok (.if_icmp .ne 24, 3) := by decide +kernel
theorem dX6_sendLetter_22 : decode cX6_sendLetter 22 = .ok (.aload_n 0, 1) := by decide +kernel
theorem dX6_sendLetter_23 : decode cX6_sendLetter 23 = .ok (.getfield 25, 3) := by decide +kernel
theorem dX6_sendLetter_26 : decode cX6_sendLetter 26 = .ok (.iconst 0, 1) := by decide +kernel
theorem dX6_sendLetter_27 : decode cX6_sendLetter 27 = .ok (.iaload, 1) := by decide +kernel
theorem dX6_sendLetter_28 : decode cX6_sendLetter 28 = .ok (.istore_n 1, 1) := by decide +kernel
theorem dX6_sendLetter_29 : decode cX6_sendLetter 29 = .ok (.aload_n 0, 1) := by decide +kernel
theorem dX6_sendLetter_30 : decode cX6_sendLetter 30 = .ok (.aload_n 0, 1) := by decide +kernel
theorem dX6_sendLetter_31 : decode cX6_sendLetter 31 = .ok (.getfield 28, 3) := by decide +kernel
theorem dX6_sendLetter_34 : decode cX6_sendLetter 34 = .ok (.iconst 0, 1) := by decide +kernel
theorem dX6_sendLetter_35 : decode cX6_sendLetter 35 = .ok (.iaload, 1) := by decide +kernel
theorem dX6_sendLetter_36 : decode cX6_sendLetter 36 = .ok (.putfield 40, 3) := by decide +kernel
theorem dX6_sendLetter_39 : decode cX6_sendLetter 39 = .ok (.aload_n 0, 1) := by decide +kernel
theorem dX6_sendLetter_40 : decode cX6_sendLetter 40 = .ok (.invokevirtual 53, 3) := by decide +kernel
theorem dX6_sendLetter_43 : decode cX6_sendLetter 43 = .ok (.aload_n 0, 1) := by decide +kernel
theorem dX6_sendLetter_44 : decode cX6_sendLetter 44 = .ok (.getfield 15, 3) := by decide +kernel
theorem dX6_sendLetter_47 : decode cX6_sendLetter 47 = .ok (.aload_n 0, 1) := by decide +kernel
theorem dX6_sendLetter_48 : decode cX6_sendLetter 48 = .ok (.getfield 34, 3) := by decide +kernel
theorem dX6_sendLetter_51 : decode cX6_sendLetter 51 = .ok (.if_icmp .ne 13, 3) := by decide +kernel
theorem dX6_sendLetter_64 : decode cX6_sendLetter 64 = .ok (.aload_n 0, 1) := by decide +kernel
theorem dX6_sendLetter_65 : decode cX6_sendLetter 65 = .ok (.dup, 1) := by decide +kernel
theorem dX6_sendLetter_66 : decode cX6_sendLetter 66 = .ok (.getfield 15, 3) := by decide +kernel
theorem dX6_sendLetter_69 : decode cX6_sendLetter 69 = .ok (.iconst 1, 1) := by decide +kernel
theorem dX6_sendLetter_70 : decode cX6_sendLetter 70 = .ok (.iadd, 1) := by decide +kernel
theorem dX6_sendLetter_71 : decode cX6_sendLetter 71 = .ok (.putfield 15, 3) := by decide +kernel
theorem dX6_sendLetter_74 : decode cX6_sendLetter 74 = .ok (.iload_n 1, 1) := by decide +kernel
theorem dX6_sendLetter_75 : decode cX6_sendLetter 75 = .ok (.ireturn, 1) := by decide +kernel
set_option maxRecDepth 100000 in
set_option maxHeartbeats 4000000 in
theorem c_X6_sendLetter_w {hp : List gA} {w : Nat} {re le ag : Int32} {m : Nat} (H : gWire hp w re le ag m) (hle : ¬ le = -1) : gM yX6_sendLetter cX6_sendLetter 2 ((some .int)) 1 21 [.ref w] (hp) (0) (0) (fun v h => ∃ x, v = some (.int x) ∧ ((∃ m1, gWire h w re (le + 1) ag m1 ∧ ((x = 0 ∧ m1 = m) ∨ ((x = 1 ∨ x = 3) ∧ m1 + 1 = m))) ∧ gFW hp h w)) := by
  obtain ⟨fl, fk, fb, pk, bn, hw, hl, hk, hb, hm, hkk⟩ := id H
  refine gM_of (ls0 := [some (.ref w), none]) (by decide +kernel) (Nat.le_of_ble_eq_true rfl) rfl fun X C E => ?_
  refine g_iconst (v := 0) (q := 1) C dX6_sendLetter_0 (by decide) rfl ?_
  refine g_istore_n (q := 2) C dX6_sendLetter_1 (Nat.le_of_ble_eq_true rfl) (by simp only [gset]; rfl) rfl ?_
  refine g_aload_n (q := 3) C dX6_sendLetter_2 rfl rfl ?_
  refine g_getfield (q := 6) C fX6_31 dX6_sendLetter_3 rfl hw rfl ?_
  refine g_if_le (t := 43) (q := 9) C dX6_sendLetter_6 (by decide) rfl (fun c_6 => ?_) (fun c_6 => ?_)
  · -- to 43
    refine g_aload_n (q := 44) C dX6_sendLetter_43 rfl rfl ?_
    refine g_getfield (q := 47) C fX6_15 dX6_sendLetter_44 rfl hw rfl ?_
    refine g_aload_n (q := 48) C dX6_sendLetter_47 rfl rfl ?_
    refine g_getfield (q := 51) C fX6_34 dX6_sendLetter_48 rfl hw rfl ?_
    refine g_icmp_ne_t (t := 64) C dX6_sendLetter_51 (by decide) hle ?_
    refine g_aload_n (q := 65) C dX6_sendLetter_64 rfl rfl ?_
    refine g_dup (q := 66) C dX6_sendLetter_65 rfl rfl ?_
    refine g_getfield (q := 69) C fX6_15 dX6_sendLetter_66 rfl hw rfl ?_
    refine g_iconst (v := 1) (q := 70) C dX6_sendLetter_69 (by decide) rfl ?_
    refine g_iadd (q := 71) C dX6_sendLetter_70 rfl ?_
    refine g_putfield (q := 74) C fX6_15 dX6_sendLetter_71 rfl hw (Nat.le_of_ble_eq_true rfl) (Or.inl rfl) rfl rfl (by intro z h; cases h) ?_
    refine g_iload_n (q := 75) C dX6_sendLetter_74 rfl rfl ?_
    exact E.1 _ _ _ _ _ _ _ dX6_sendLetter_75 rfl rfl (Nat.le_of_ble_eq_true rfl) (Nat.le_of_ble_eq_true rfl) ⟨_, rfl, ⟨m, ⟨fl, fk, fb, pk, bn, (gset_self hw), (gset_other hl (by omega)), (gset_other hk (by omega)), (gset_other hb (by omega)), hm, hkk⟩, Or.inl ⟨rfl, rfl⟩⟩, gFW.set⟩
  · -- to 9
    refine g_aload_n (q := 10) C dX6_sendLetter_9 rfl rfl ?_
    refine g_getfield (q := 13) C fX6_21 dX6_sendLetter_10 rfl hw rfl ?_
    refine g_iconst (v := 0) (q := 14) C dX6_sendLetter_13 (by decide) rfl ?_
    refine g_ialoadN (x := (fl 0)) (j := 0) (q := 15) C dX6_sendLetter_14 rfl hl (pk_in 0 24 (by omega)) (pk_cl 0) rfl ?_
    refine g_aload_n (q := 16) C dX6_sendLetter_15 rfl rfl ?_
    refine g_getfield (q := 19) C fX6_15 dX6_sendLetter_16 rfl hw rfl ?_
    refine g_icmp_ne (t := 43) (q := 22) C dX6_sendLetter_19 (by decide) rfl (fun c_19 => ?_) (fun c_19 => ?_)
    · -- to 43
      refine g_aload_n (q := 44) C dX6_sendLetter_43 rfl rfl ?_
      refine g_getfield (q := 47) C fX6_15 dX6_sendLetter_44 rfl hw rfl ?_
      refine g_aload_n (q := 48) C dX6_sendLetter_47 rfl rfl ?_
      refine g_getfield (q := 51) C fX6_34 dX6_sendLetter_48 rfl hw rfl ?_
      refine g_icmp_ne_t (t := 64) C dX6_sendLetter_51 (by decide) hle ?_
      refine g_aload_n (q := 65) C dX6_sendLetter_64 rfl rfl ?_
      refine g_dup (q := 66) C dX6_sendLetter_65 rfl rfl ?_
      refine g_getfield (q := 69) C fX6_15 dX6_sendLetter_66 rfl hw rfl ?_
      refine g_iconst (v := 1) (q := 70) C dX6_sendLetter_69 (by decide) rfl ?_
      refine g_iadd (q := 71) C dX6_sendLetter_70 rfl ?_
      refine g_putfield (q := 74) C fX6_15 dX6_sendLetter_71 rfl hw (Nat.le_of_ble_eq_true rfl) (Or.inl rfl) rfl rfl (by intro z h; cases h) ?_
      refine g_iload_n (q := 75) C dX6_sendLetter_74 rfl rfl ?_
      exact E.1 _ _ _ _ _ _ _ dX6_sendLetter_75 rfl rfl (Nat.le_of_ble_eq_true rfl) (Nat.le_of_ble_eq_true rfl) ⟨_, rfl, ⟨m, ⟨fl, fk, fb, pk, bn, (gset_self hw), (gset_other hl (by omega)), (gset_other hk (by omega)), (gset_other hb (by omega)), hm, hkk⟩, Or.inl ⟨rfl, rfl⟩⟩, gFW.set⟩
    · -- to 22
      refine g_aload_n (q := 23) C dX6_sendLetter_22 rfl rfl ?_
      refine g_getfield (q := 26) C fX6_25 dX6_sendLetter_23 rfl hw rfl ?_
      refine g_iconst (v := 0) (q := 27) C dX6_sendLetter_26 (by decide) rfl ?_
      refine g_ialoadN (x := (fk 0)) (j := 0) (q := 28) C dX6_sendLetter_27 rfl hk (pk_in 0 24 (by omega)) (pk_cl 0) rfl ?_
      refine g_istore_n (q := 29) C dX6_sendLetter_28 (Nat.le_of_ble_eq_true rfl) (by simp only [gset]; rfl) rfl ?_
      refine g_aload_n (q := 30) C dX6_sendLetter_29 rfl rfl ?_
      refine g_aload_n (q := 31) C dX6_sendLetter_30 rfl rfl ?_
      refine g_getfield (q := 34) C fX6_28 dX6_sendLetter_31 rfl hw rfl ?_
      refine g_iconst (v := 0) (q := 35) C dX6_sendLetter_34 (by decide) rfl ?_
      refine g_ialoadN (x := (fb 0)) (j := 0) (q := 36) C dX6_sendLetter_35 rfl hb (pk_in 0 24 (by omega)) (pk_cl 0) rfl ?_
      refine g_putfield (q := 39) C fX6_40 dX6_sendLetter_36 rfl hw (Nat.le_of_ble_eq_true rfl) (Or.inl rfl) rfl rfl (by intro z h; cases h) ?_
      refine g_aload_n (q := 40) C dX6_sendLetter_39 rfl rfl ?_
      refine g_callVvp (q := 43) (As := []) C gyX6_dropNearest gvX6_dropNearest t_760 (c_X6_dropNearest_w (H := ⟨fl, fk, fb, pk, _, (gset_self hw), (gset_other hl (by omega)), (gset_other hk (by omega)), (gset_other hb (by omega)), hm, hkk⟩) (h1 := gpos hm c_6)) dX6_sendLetter_40 rfl (gset_self hw) rfl rfl rfl (Nat.le_of_ble_eq_true rfl) (Nat.le_of_ble_eq_true rfl) (Nat.le_of_ble_eq_true rfl) (Nat.le_of_ble_eq_true rfl) (Nat.le_of_ble_eq_true rfl) rfl (fun h1 z1 => ?_)
      obtain ⟨⟨fl2, fk2, fb2, pk2, bn2, hw2, hl2, hk2, hb2, hm2, hkk2⟩, fr1⟩ := z1
      refine g_aload_n (q := 44) C dX6_sendLetter_43 rfl rfl ?_
      refine g_getfield (q := 47) C fX6_15 dX6_sendLetter_44 rfl hw2 rfl ?_
      refine g_aload_n (q := 48) C dX6_sendLetter_47 rfl rfl ?_
      refine g_getfield (q := 51) C fX6_34 dX6_sendLetter_48 rfl hw2 rfl ?_
      refine g_icmp_ne_t (t := 64) C dX6_sendLetter_51 (by decide) hle ?_
      refine g_aload_n (q := 65) C dX6_sendLetter_64 rfl rfl ?_
      refine g_dup (q := 66) C dX6_sendLetter_65 rfl rfl ?_
      refine g_getfield (q := 69) C fX6_15 dX6_sendLetter_66 rfl hw2 rfl ?_
      refine g_iconst (v := 1) (q := 70) C dX6_sendLetter_69 (by decide) rfl ?_
      refine g_iadd (q := 71) C dX6_sendLetter_70 rfl ?_
      refine g_putfield (q := 74) C fX6_15 dX6_sendLetter_71 rfl hw2 (Nat.le_of_ble_eq_true rfl) (Or.inl rfl) rfl rfl (by intro z h; cases h) ?_
      refine g_iload_n (q := 75) C dX6_sendLetter_74 rfl rfl ?_
      exact E.1 _ _ _ _ _ _ _ dX6_sendLetter_75 rfl rfl (Nat.le_of_ble_eq_true rfl) (Nat.le_of_ble_eq_true rfl) ⟨_, rfl, ⟨m - 1, ⟨fl2, fk2, fb2, pk2, bn2, (gset_self hw2), (gset_other hl2 (by omega)), (gset_other hk2 (by omega)), (gset_other hb2 (by omega)), hm2, hkk2⟩, Or.inr ⟨hkk 0 (gpos hm c_6), by have := gpos hm c_6; omega⟩⟩, gFW.trans (gFW.trans gFW.set fr1) gFW.set⟩
