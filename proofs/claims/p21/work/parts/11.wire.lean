/-! Wire, where no letter is turned (by program: wip/p1/m_wire.py) -/
/-- the wire at w: repeats, letters, letters again; m faults told, each of them spoilt or lost -/
def gWire (hp : List gA) (w : Nat) (re le ag : Int32) (m : Nat) : Prop := ∃ (fl fk fb : Nat → Int32) (pk bn : Int32), hp[w]? = some (.inr (.inr (6, [.int re, .int le, .int ag, .ref (w + 1), .ref (w + 2), .ref (w + 3), .int (nI m), .int (-1), .int pk, .int bn]))) ∧ hp[w + 1]? = some (.inl (24, fl)) ∧ hp[w + 2]? = some (.inl (24, fk)) ∧ hp[w + 3]? = some (.inl (24, fb)) ∧ m ≤ 24 ∧ ∀ j, j < m → fk j = 1 ∨ fk j = 3
def gFW (hp h : List gA) (w : Nat) : Prop := ∀ k, (k < w ∨ w + 4 ≤ k) → h[k]? = hp[k]?
theorem gFW.rf {hp : List gA} {w : Nat} : gFW hp hp w := fun _ _ => rfl
theorem gFW.trans {hp h h' : List gA} {w : Nat} (a : gFW hp h w) (b : gFW h h' w) : gFW hp h' w := fun k hk => (b k hk).trans (a k hk)
theorem gWire.kept {hp h : List gA} {w : Nat} {re le ag : Int32} {m : Nat} (H : gWire hp w re le ag m) (fr : ∀ k, w ≤ k → k < w + 4 → h[k]? = hp[k]?) : gWire h w re le ag m := by
  obtain ⟨fl, fk, fb, pk, bn, a1, a2, a3, a4, a5⟩ := H
  exact ⟨fl, fk, fb, pk, bn, (fr _ (by omega) (by omega)).trans a1, (fr _ (by omega) (by omega)).trans a2, (fr _ (by omega) (by omega)).trans a3, (fr _ (by omega) (by omega)).trans a4, a5⟩
theorem gupd {f : Nat → Int32} {m k : Nat} {x : Int32} (hf : ∀ j, j < m → f j = 1 ∨ f j = 3) (hx : x = 1 ∨ x = 3) : ∀ j, j < m → upd f k x j = 1 ∨ upd f k x j = 3 := by
  intro j hj
  by_cases h : j = k
  · subst h; rw [pk_us]; exact hx
  · rw [pk_un h]; exact hf j hj
theorem dX6_faults_0 : decode cX6_faults 0 = .ok (.aload_n 0, 1) := by decide +kernel
theorem dX6_faults_1 : decode cX6_faults 1 = .ok (.getfield 31, 3) := by decide +kernel
theorem dX6_faults_4 : decode cX6_faults 4 = .ok (.ireturn, 1) := by decide +kernel
set_option maxRecDepth 100000 in
set_option maxHeartbeats 4000000 in
theorem c_X6_faults_w {hp : List gA} {w : Nat} {re le ag : Int32} {m : Nat} (H : gWire hp w re le ag m) : gM yX6_faults cX6_faults 1 ((some .int)) 0 0 [.ref w] (hp) (0) (0) (fun v h => v = some (.int (nI m)) ∧ h = hp) := by
  obtain ⟨fl, fk, fb, pk, bn, hw, hl, hk, hb, hm, hkk⟩ := id H
  refine gM_of (ls0 := [some (.ref w)]) (by decide +kernel) (Nat.le_of_ble_eq_true rfl) rfl fun X C E => ?_
  refine g_aload_n (q := 1) C dX6_faults_0 rfl rfl ?_
  refine g_getfield (q := 4) C fX6_31 dX6_faults_1 rfl hw rfl ?_
  exact E.1 _ _ _ _ _ _ _ dX6_faults_4 rfl rfl (Nat.le_of_ble_eq_true rfl) (Nat.le_of_ble_eq_true rfl) ⟨rfl, rfl⟩
theorem dX6_isFull_0 : decode cX6_isFull 0 = .ok (.aload_n 0, 1) := by decide +kernel
theorem dX6_isFull_1 : decode cX6_isFull 1 = .ok (.getfield 31, 3) := by decide +kernel
theorem dX6_isFull_4 : decode cX6_isFull 4 = .ok (.bipush 24, 2) := by decide +kernel
theorem dX6_isFull_6 : decode cX6_isFull 6 = .ok (.if_icmp .lt 7, 3) := by decide +kernel
theorem dX6_isFull_9 : decode cX6_isFull 9 = .ok (.iconst 1, 1) := by decide +kernel
theorem dX6_isFull_10 : decode cX6_isFull 10 = .ok (.goto 4, 3) := by decide +kernel
theorem dX6_isFull_13 : decode cX6_isFull 13 = .ok (.iconst 0, 1) := by decide +kernel
theorem dX6_isFull_14 : decode cX6_isFull 14 = .ok (.ireturn, 1) := by decide +kernel
set_option maxRecDepth 100000 in
set_option maxHeartbeats 4000000 in
theorem c_X6_isFull_w {hp : List gA} {w : Nat} {re le ag : Int32} {m : Nat} (H : gWire hp w re le ag m) : gM yX6_isFull cX6_isFull 1 ((some .boolean)) 0 0 [.ref w] (hp) (0) (0) (fun v h => v = some (.int (if m = 24 then 1 else 0)) ∧ h = hp) := by
  obtain ⟨fl, fk, fb, pk, bn, hw, hl, hk, hb, hm, hkk⟩ := id H
  have hm31 : m < 2 ^ 31 := by omega
  refine gM_of (ls0 := [some (.ref w)]) (by decide +kernel) (Nat.le_of_ble_eq_true rfl) rfl fun X C E => ?_
  refine g_aload_n (q := 1) C dX6_isFull_0 rfl rfl ?_
  refine g_getfield (q := 4) C fX6_31 dX6_isFull_1 rfl hw rfl ?_
  refine g_bipush (v := 24) (q := 6) C dX6_isFull_4 (by decide) rfl ?_
  refine g_icmp_lt (t := 13) (q := 9) C dX6_isFull_6 (by decide) rfl (fun c_6 => ?_) (fun c_6 => ?_)
  · -- to 13
    refine g_iconst (v := 0) (q := 14) C dX6_isFull_13 (by decide) rfl ?_
    exact E.1 _ _ _ _ _ _ _ dX6_isFull_14 rfl rfl (Nat.le_of_ble_eq_true rfl) (Nat.le_of_ble_eq_true rfl) ⟨by have h9 : m < 24 := (nI_ltI hm31 (by decide : 24 < 2 ^ 31)).mp c_6; rw [if_neg (by omega)], rfl⟩
  · -- to 9
    refine g_iconst (v := 1) (q := 10) C dX6_isFull_9 (by decide) rfl ?_
    refine g_goto (q := 14) C dX6_isFull_10 (by decide) ?_
    exact E.1 _ _ _ _ _ _ _ dX6_isFull_14 rfl rfl (Nat.le_of_ble_eq_true rfl) (Nat.le_of_ble_eq_true rfl) ⟨by have h9 : ¬ m < 24 := fun h => c_6 ((nI_ltI hm31 (by decide : 24 < 2 ^ 31)).mpr h); rw [if_pos (by omega)], rfl⟩
theorem dX6_dropNearest_0 : decode cX6_dropNearest 0 = .ok (.iconst 1, 1) := by decide +kernel
theorem dX6_dropNearest_1 : decode cX6_dropNearest 1 = .ok (.istore_n 1, 1) := by decide +kernel
theorem dX6_dropNearest_2 : decode cX6_dropNearest 2 = .ok (.iload_n 1, 1) := by decide +kernel
theorem dX6_dropNearest_3 : decode cX6_dropNearest 3 = .ok (.aload_n 0, 1) := by decide +kernel
theorem dX6_dropNearest_4 : decode cX6_dropNearest 4 = .ok (.getfield 31, 3) := by decide +kernel
theorem dX6_dropNearest_7 : decode cX6_dropNearest 7 = .ok (.if_icmp .ge 57, 3) := by decide +kernel
theorem dX6_dropNearest_10 : decode cX6_dropNearest 10 = .ok (.iload_n 1, 1) := by decide +kernel
theorem dX6_dropNearest_11 : decode cX6_dropNearest 11 = .ok (.bipush 24, 2) := by decide +kernel
theorem dX6_dropNearest_13 : decode cX6_dropNearest 13 = .ok (.if_icmp .ge 51, 3) := by decide +kernel
theorem dX6_dropNearest_16 : decode cX6_dropNearest 16 = .ok (.aload_n 0, 1) := by decide +kernel
theorem dX6_dropNearest_17 : decode cX6_dropNearest 17 = .ok (.getfield 21, 3) := by decide +kernel
theorem dX6_dropNearest_20 : decode cX6_dropNearest 20 = .ok (.iload_n 1, 1) := by decide +kernel
theorem dX6_dropNearest_21 : decode cX6_dropNearest 21 = .ok (.iconst 1, 1) := by decide +kernel
theorem dX6_dropNearest_22 : decode cX6_dropNearest 22 = .ok (.isub, 1) := by decide +kernel
theorem dX6_dropNearest_23 : decode cX6_dropNearest 23 = .ok (.aload_n 0, 1) := by decide +kernel
theorem dX6_dropNearest_24 : decode cX6_dropNearest 24 = .ok (.getfield 21, 3) := by decide +kernel
theorem dX6_dropNearest_27 : decode cX6_dropNearest 27 = .ok (.iload_n 1, 1) := by decide +kernel
theorem dX6_dropNearest_28 : decode cX6_dropNearest 28 = .ok (.iaload, 1) := by decide +kernel
theorem dX6_dropNearest_29 : decode cX6_dropNearest 29 = .ok (.iastore, 1) := by decide +kernel
theorem dX6_dropNearest_30 : decode cX6_dropNearest 30 = .ok (.aload_n 0, 1) := by decide +kernel
theorem dX6_dropNearest_31 : decode cX6_dropNearest 31 = .ok (.getfield 25, 3) := by decide +kernel
theorem dX6_dropNearest_34 : decode cX6_dropNearest 34 = .ok (.iload_n 1, 1) := by decide +kernel
theorem dX6_dropNearest_35 : decode cX6_dropNearest 35 = .ok (.iconst 1, 1) := by decide +kernel
theorem dX6_dropNearest_36 : decode cX6_dropNearest 36 = .ok (.isub, 1) := by decide +kernel
theorem dX6_dropNearest_37 : decode cX6_dropNearest 37 = .ok (.aload_n 0, 1) := by decide +kernel
theorem dX6_dropNearest_38 : decode cX6_dropNearest 38 = .ok (.getfield 25, 3) := by decide +kernel
theorem dX6_dropNearest_41 : decode cX6_dropNearest 41 = .ok (.iload_n 1, 1) := by decide +kernel
theorem dX6_dropNearest_42 : decode cX6_dropNearest 42 = .ok (.iaload, 1) := by decide +kernel
theorem dX6_dropNearest_43 : decode cX6_dropNearest 43 = .ok (.iastore, 1) := by decide +kernel
theorem dX6_dropNearest_44 : decode cX6_dropNearest 44 = .ok (.aload_n 0, 1) := by decide +kernel
theorem dX6_dropNearest_45 : decode cX6_dropNearest 45 = .ok (.getfield 28, 3) := by decide +kernel
theorem dX6_dropNearest_48 : decode cX6_dropNearest 48 = .ok (.iload_n 1, 1) := by decide +kernel
theorem dX6_dropNearest_49 : decode cX6_dropNearest 49 = .ok (.iconst 1, 1) := by decide +kernel
theorem dX6_dropNearest_50 : decode cX6_dropNearest 50 = .ok (.isub, 1) := by decide +kernel
theorem dX6_dropNearest_51 : decode cX6_dropNearest 51 = .ok (.aload_n 0, 1) := by decide +kernel
theorem dX6_dropNearest_52 : decode cX6_dropNearest 52 = .ok (.getfield 28, 3) := by decide +kernel
theorem dX6_dropNearest_55 : decode cX6_dropNearest 55 = .ok (.iload_n 1, 1) := by decide +kernel
theorem dX6_dropNearest_56 : decode cX6_dropNearest 56 = .ok (.iaload, 1) := by decide +kernel
theorem dX6_dropNearest_57 : decode cX6_dropNearest 57 = .ok (.iastore, 1) := by decide +kernel
theorem dX6_dropNearest_58 : decode cX6_dropNearest 58 = .ok (.iinc 1 1, 3) := by decide +kernel
theorem dX6_dropNearest_61 : decode cX6_dropNearest 61 = .ok (.goto (-59), 3) := by decide +kernel
theorem dX6_dropNearest_64 : decode cX6_dropNearest 64 = .ok (.aload_n 0, 1) := by decide +kernel
theorem dX6_dropNearest_65 : decode cX6_dropNearest 65 = .ok (.dup, 1) := by decide +kernel
theorem dX6_dropNearest_66 : decode cX6_dropNearest 66 = .ok (.getfield 31, 3) := by decide +kernel
theorem dX6_dropNearest_69 : decode cX6_dropNearest 69 = .ok (.iconst 1, 1) := by decide +kernel
theorem dX6_dropNearest_70 : decode cX6_dropNearest 70 = .ok (.isub, 1) := by decide +kernel
theorem dX6_dropNearest_71 : decode cX6_dropNearest 71 = .ok (.putfield 31, 3) := by decide +kernel
theorem dX6_dropNearest_74 : decode cX6_dropNearest 74 = .ok (.return_, 1) := by decide +kernel
set_option maxRecDepth 100000 in
set_option maxHeartbeats 4000000 in
theorem c_X6_dropNearest_w {hp : List gA} {w : Nat} {re le ag : Int32} {m : Nat} (H : gWire hp w re le ag m) (h1 : 1 ≤ m) : gM yX6_dropNearest cX6_dropNearest 2 (none) 0 0 [.ref w] (hp) (0) (0) (fun v h => v = none ∧ (gWire h w re le ag (m - 1) ∧ gFW hp h w)) := by
  obtain ⟨fl, fk, fb, pk, bn, hw, hl, hk, hb, hm, hkk⟩ := id H
  refine gM_of (ls0 := [some (.ref w), none]) (by decide +kernel) (Nat.le_of_ble_eq_true rfl) rfl fun X C E => ?_
  have L : ∀ d k : Nat, k + d = m → 1 ≤ k → ∀ hp1 : List gA, gWire hp1 w re le ag m → gFW hp hp1 w → gG X 2 [some (.ref w), some (.int (nI k))] [] hp1 0 0 := by
    intro d
    induction d with
    | zero =>
      intro k hk1 h3 hp1 HW fr
      obtain ⟨fl, fk, fb, pk, bn, hw, hl, hk, hb, hm, hkk⟩ := HW
      obtain rfl : k = m := by omega
      refine g_iload_n (q := 3) C dX6_dropNearest_2 rfl rfl ?_
      refine g_aload_n (q := 4) C dX6_dropNearest_3 rfl rfl ?_
      refine g_getfield (q := 7) C fX6_31 dX6_dropNearest_4 rfl hw rfl ?_
      refine g_icmp_ge_t (t := 64) C dX6_dropNearest_7 (by decide) (nI_le (Nat.le_refl _) (by omega)) ?_
      refine g_aload_n (q := 65) C dX6_dropNearest_64 rfl rfl ?_
      refine g_dup (q := 66) C dX6_dropNearest_65 rfl rfl ?_
      refine g_getfield (q := 69) C fX6_31 dX6_dropNearest_66 rfl hw rfl ?_
      refine g_iconst (v := 1) (q := 70) C dX6_dropNearest_69 (by decide) rfl ?_
      refine g_isub (q := 71) C dX6_dropNearest_70 rfl ?_
      refine g_putfield (q := 74) C fX6_31 dX6_dropNearest_71 rfl hw (Nat.le_of_ble_eq_true rfl) (Or.inl rfl) rfl rfl (by intro z h; cases h) ?_
      exact E.2.1 _ _ _ _ _ dX6_dropNearest_74 rfl (Nat.le_of_ble_eq_true rfl) (Nat.le_of_ble_eq_true rfl) ⟨rfl, ⟨fl, fk, fb, pk, bn, by rw [(gset_self hw), ← pk_sub (a := k) (b := 1) (by omega)]; rfl, (gset_other hl (by omega)), (gset_other hk (by omega)), (gset_other hb (by omega)), by omega, fun j hj => hkk j (by omega)⟩, gFW.trans fr (fun k hk => by repeat (first | rfl | rw [List.getElem?_set_ne (by omega)]))⟩
    | succ d ih =>
      intro k hk1 h3 hp1 HW fr
      obtain ⟨fl, fk, fb, pk, bn, hw, hl, hk, hb, hm, hkk⟩ := HW
      refine g_iload_n (q := 3) C dX6_dropNearest_2 rfl rfl ?_
      refine g_aload_n (q := 4) C dX6_dropNearest_3 rfl rfl ?_
      refine g_getfield (q := 7) C fX6_31 dX6_dropNearest_4 rfl hw rfl ?_
      refine g_icmp_ge_f (t := 64) (q := 10) C dX6_dropNearest_7 (by decide) rfl (fun h => nI_ge (show k < m by omega) (by omega) h) ?_
      refine g_iload_n (q := 11) C dX6_dropNearest_10 rfl rfl ?_
      refine g_bipush (v := 24) (q := 13) C dX6_dropNearest_11 (by decide) rfl ?_
      refine g_icmp_ge_f (t := 64) (q := 16) C dX6_dropNearest_13 (by decide) rfl (fun h => nI_ge (show k < 24 by omega) (by omega) h) ?_
      refine g_aload_n (q := 17) C dX6_dropNearest_16 rfl rfl ?_
      refine g_getfield (q := 20) C fX6_21 dX6_dropNearest_17 rfl hw rfl ?_
      refine g_iload_n (q := 21) C dX6_dropNearest_20 rfl rfl ?_
      refine g_iconst (v := 1) (q := 22) C dX6_dropNearest_21 (by decide) rfl ?_
      refine g_isub (q := 23) C dX6_dropNearest_22 rfl ?_
      refine g_aload_n (q := 24) C dX6_dropNearest_23 rfl rfl ?_
      refine g_getfield (q := 27) C fX6_21 dX6_dropNearest_24 rfl hw rfl ?_
      refine g_iload_n (q := 28) C dX6_dropNearest_27 rfl rfl ?_
      refine g_ialoadN (x := (fl k)) (j := k) (q := 29) C dX6_dropNearest_28 rfl hl (pk_in k 24 (by omega)) (pk_cl k) rfl ?_
      refine g_iastoreN (j := (k - 1)) (q := 30) C dX6_dropNearest_29 rfl hl (pk_in (k - 1) 24 (by omega) (pk_sub (b := 1) (by omega))) (pk_cl (k - 1) (pk_sub (b := 1) (by omega))) ?_
      refine g_aload_n (q := 31) C dX6_dropNearest_30 rfl rfl ?_
      refine g_getfield (q := 34) C fX6_25 dX6_dropNearest_31 rfl (gset_other hw (by omega)) rfl ?_
      refine g_iload_n (q := 35) C dX6_dropNearest_34 rfl rfl ?_
      refine g_iconst (v := 1) (q := 36) C dX6_dropNearest_35 (by decide) rfl ?_
      refine g_isub (q := 37) C dX6_dropNearest_36 rfl ?_
      refine g_aload_n (q := 38) C dX6_dropNearest_37 rfl rfl ?_
      refine g_getfield (q := 41) C fX6_25 dX6_dropNearest_38 rfl (gset_other hw (by omega)) rfl ?_
      refine g_iload_n (q := 42) C dX6_dropNearest_41 rfl rfl ?_
      refine g_ialoadN (x := (fk k)) (j := k) (q := 43) C dX6_dropNearest_42 rfl (gset_other hk (by omega)) (pk_in k 24 (by omega)) (pk_cl k) rfl ?_
      refine g_iastoreN (j := (k - 1)) (q := 44) C dX6_dropNearest_43 rfl (gset_other hk (by omega)) (pk_in (k - 1) 24 (by omega) (pk_sub (b := 1) (by omega))) (pk_cl (k - 1) (pk_sub (b := 1) (by omega))) ?_
      refine g_aload_n (q := 45) C dX6_dropNearest_44 rfl rfl ?_
      refine g_getfield (q := 48) C fX6_28 dX6_dropNearest_45 rfl (gset_other (gset_other hw (by omega)) (by omega)) rfl ?_
      refine g_iload_n (q := 49) C dX6_dropNearest_48 rfl rfl ?_
      refine g_iconst (v := 1) (q := 50) C dX6_dropNearest_49 (by decide) rfl ?_
      refine g_isub (q := 51) C dX6_dropNearest_50 rfl ?_
      refine g_aload_n (q := 52) C dX6_dropNearest_51 rfl rfl ?_
      refine g_getfield (q := 55) C fX6_28 dX6_dropNearest_52 rfl (gset_other (gset_other hw (by omega)) (by omega)) rfl ?_
      refine g_iload_n (q := 56) C dX6_dropNearest_55 rfl rfl ?_
      refine g_ialoadN (x := (fb k)) (j := k) (q := 57) C dX6_dropNearest_56 rfl (gset_other (gset_other hb (by omega)) (by omega)) (pk_in k 24 (by omega)) (pk_cl k) rfl ?_
      refine g_iastoreN (j := (k - 1)) (q := 58) C dX6_dropNearest_57 rfl (gset_other (gset_other hb (by omega)) (by omega)) (pk_in (k - 1) 24 (by omega) (pk_sub (b := 1) (by omega))) (pk_cl (k - 1) (pk_sub (b := 1) (by omega))) ?_
      refine g_iinc (v := (nI (k + 1))) (q := 61) C dX6_dropNearest_58 rfl (nI_1 k) (by simp only [gset]; rfl) rfl ?_
      refine g_goto (q := 2) C dX6_dropNearest_61 (by decide) ?_
      exact ih (k + 1) (by omega) (by omega) _ ⟨_, _, _, pk, bn, (gset_other (gset_other (gset_other hw (by omega)) (by omega)) (by omega)), (gset_other (gset_other (gset_self hl) (by omega)) (by omega)), (gset_other (gset_self (gset_other hk (by omega))) (by omega)), (gset_self (gset_other (gset_other hb (by omega)) (by omega))), hm, gupd hkk (hkk k (by omega))⟩ (gFW.trans fr (fun k hk => by repeat (first | rfl | rw [List.getElem?_set_ne (by omega)])))
  refine g_iconst (v := 1) (q := 1) C dX6_dropNearest_0 (by decide) rfl ?_
  refine g_istore_n (q := 2) C dX6_dropNearest_1 (Nat.le_of_ble_eq_true rfl) (by simp only [gset]; rfl) rfl ?_
  exact L (m - 1) 1 (by omega) (Nat.le_refl _) hp H gFW.rf
  
theorem gFW.set {hp : List gA} {w : Nat} {e : gA} : gFW hp (hp.set w e) w := fun k hk => List.getElem?_set_ne (by omega)
theorem gpos {m : Nat} (hm : m ≤ 24) (h : ¬ nI m ≤ 0) : 1 ≤ m := by
  rcases Nat.eq_zero_or_pos m with e | e
  · subst e; exact absurd (by decide) h
  · exact e
theorem dX6_sendLetter_0 : decode cX6_sendLetter 0 = .ok (.iconst 0, 1) := by decide +kernel
theorem dX6_sendLetter_1 : decode cX6_sendLetter 1 = .ok (.istore_n 1, 1) := by decide +kernel
theorem dX6_sendLetter_2 : decode cX6_sendLetter 2 = .ok (.aload_n 0, 1) := by decide +kernel
theorem dX6_sendLetter_3 : decode cX6_sendLetter 3 = .ok (.getfield 31, 3) := by decide +kernel
theorem dX6_sendLetter_6 : decode cX6_sendLetter 6 = .ok (.ifCond .le 37, 3) := by decide +kernel
theorem dX6_sendLetter_9 : decode cX6_sendLetter 9 = .ok (.aload_n 0, 1) := by decide +kernel
theorem dX6_sendLetter_10 : decode cX6_sendLetter 10 = .ok (.getfield 21, 3) := by decide +kernel
theorem dX6_sendLetter_13 : decode cX6_sendLetter 13 = .ok (.iconst 0, 1) := by decide +kernel
theorem dX6_sendLetter_14 : decode cX6_sendLetter 14 = .ok (.iaload, 1) := by decide +kernel
theorem dX6_sendLetter_15 : decode cX6_sendLetter 15 = .ok (.aload_n 0, 1) := by decide +kernel
theorem dX6_sendLetter_16 : decode cX6_sendLetter 16 = .ok (.getfield 15, 3) := by decide +kernel
theorem dX6_sendLetter_19 : decode cX6_sendLetter 19 = .ok (.if_icmp .ne 24, 3) := by decide +kernel
theorem dX6_sendLetter_22 : decode cX6_sendLetter 22 = .ok (.aload_n 0, 1) := by decide +kernel
theorem dX6_sendLetter_23 : decode cX6_sendLetter 23 = .ok (.getfield 25, 3) := by decide +kernel
theorem dX6_sendLetter_26 : decode cX6_sendLetter 26 = .ok (.iconst 0, 1) := by decide +kernel
theorem dX6_sendLetter_27 : decode cX6_sendLetter 27 = .ok (.iaload, 1) := by decide +kernel
theorem dX6_sendLetter_28 : decode cX6_sendLetter 28 = .ok (.istore_n 1, 1) := by decide +kernel
theorem dX6_sendLetter_29 : decode cX6_sendLetter 29 = .ok (.aload_n 0, 1) := by decide +kernel
theorem dX6_sendLetter_30 : decode cX6_sendLetter 30 = .ok (.aload_n 0, 1) := by decide +kernel
theorem dX6_sendLetter_31 : decode cX6_sendLetter 31 = .ok (.getfield 28, 3) := by decide +kernel
theorem dX6_sendLetter_34 : decode cX6_sendLetter 34 = .ok (.iconst 0, 1) := by decide +kernel
theorem dX6_sendLetter_35 : decode cX6_sendLetter 35 = .ok (.iaload, 1) := by decide +kernel
theorem dX6_sendLetter_36 : decode cX6_sendLetter 36 = .ok (.putfield 40, 3) := by decide +kernel
theorem dX6_sendLetter_39 : decode cX6_sendLetter 39 = .ok (.aload_n 0, 1) := by decide +kernel
theorem dX6_sendLetter_40 : decode cX6_sendLetter 40 = .ok (.invokevirtual 53, 3) := by decide +kernel
theorem dX6_sendLetter_43 : decode cX6_sendLetter 43 = .ok (.aload_n 0, 1) := by decide +kernel
theorem dX6_sendLetter_44 : decode cX6_sendLetter 44 = .ok (.getfield 15, 3) := by decide +kernel
theorem dX6_sendLetter_47 : decode cX6_sendLetter 47 = .ok (.aload_n 0, 1) := by decide +kernel
theorem dX6_sendLetter_48 : decode cX6_sendLetter 48 = .ok (.getfield 34, 3) := by decide +kernel
theorem dX6_sendLetter_51 : decode cX6_sendLetter 51 = .ok (.if_icmp .ne 13, 3) := by decide +kernel
theorem dX6_sendLetter_64 : decode cX6_sendLetter 64 = .ok (.aload_n 0, 1) := by decide +kernel
theorem dX6_sendLetter_65 : decode cX6_sendLetter 65 = .ok (.dup, 1) := by decide +kernel
theorem dX6_sendLetter_66 : decode cX6_sendLetter 66 = .ok (.getfield 15, 3) := by decide +kernel
theorem dX6_sendLetter_69 : decode cX6_sendLetter 69 = .ok (.iconst 1, 1) := by decide +kernel
theorem dX6_sendLetter_70 : decode cX6_sendLetter 70 = .ok (.iadd, 1) := by decide +kernel
theorem dX6_sendLetter_71 : decode cX6_sendLetter 71 = .ok (.putfield 15, 3) := by decide +kernel
theorem dX6_sendLetter_74 : decode cX6_sendLetter 74 = .ok (.iload_n 1, 1) := by decide +kernel
theorem dX6_sendLetter_75 : decode cX6_sendLetter 75 = .ok (.ireturn, 1) := by decide +kernel
set_option maxRecDepth 100000 in
set_option maxHeartbeats 4000000 in
theorem c_X6_sendLetter_w {hp : List gA} {w : Nat} {re le ag : Int32} {m : Nat} (H : gWire hp w re le ag m) (hle : ¬ le = -1) : gM yX6_sendLetter cX6_sendLetter 2 ((some .int)) 1 21 [.ref w] (hp) (0) (0) (fun v h => ∃ x, v = some (.int x) ∧ ((∃ m1, gWire h w re (le + 1) ag m1 ∧ ((x = 0 ∧ m1 = m) ∨ ((x = 1 ∨ x = 3) ∧ m1 + 1 = m))) ∧ gFW hp h w)) := by
  obtain ⟨fl, fk, fb, pk, bn, hw, hl, hk, hb, hm, hkk⟩ := id H
  refine gM_of (ls0 := [some (.ref w), none]) (by decide +kernel) (Nat.le_of_ble_eq_true rfl) rfl fun X C E => ?_
  refine g_iconst (v := 0) (q := 1) C dX6_sendLetter_0 (by decide) rfl ?_
  refine g_istore_n (q := 2) C dX6_sendLetter_1 (Nat.le_of_ble_eq_true rfl) (by simp only [gset]; rfl) rfl ?_
  refine g_aload_n (q := 3) C dX6_sendLetter_2 rfl rfl ?_
  refine g_getfield (q := 6) C fX6_31 dX6_sendLetter_3 rfl hw rfl ?_
  refine g_if_le (t := 43) (q := 9) C dX6_sendLetter_6 (by decide) rfl (fun c_6 => ?_) (fun c_6 => ?_)
  · -- to 43
    refine g_aload_n (q := 44) C dX6_sendLetter_43 rfl rfl ?_
    refine g_getfield (q := 47) C fX6_15 dX6_sendLetter_44 rfl hw rfl ?_
    refine g_aload_n (q := 48) C dX6_sendLetter_47 rfl rfl ?_
    refine g_getfield (q := 51) C fX6_34 dX6_sendLetter_48 rfl hw rfl ?_
    refine g_icmp_ne_t (t := 64) C dX6_sendLetter_51 (by decide) hle ?_
    refine g_aload_n (q := 65) C dX6_sendLetter_64 rfl rfl ?_
    refine g_dup (q := 66) C dX6_sendLetter_65 rfl rfl ?_
    refine g_getfield (q := 69) C fX6_15 dX6_sendLetter_66 rfl hw rfl ?_
    refine g_iconst (v := 1) (q := 70) C dX6_sendLetter_69 (by decide) rfl ?_
    refine g_iadd (q := 71) C dX6_sendLetter_70 rfl ?_
    refine g_putfield (q := 74) C fX6_15 dX6_sendLetter_71 rfl hw (Nat.le_of_ble_eq_true rfl) (Or.inl rfl) rfl rfl (by intro z h; cases h) ?_
    refine g_iload_n (q := 75) C dX6_sendLetter_74 rfl rfl ?_
    exact E.1 _ _ _ _ _ _ _ dX6_sendLetter_75 rfl rfl (Nat.le_of_ble_eq_true rfl) (Nat.le_of_ble_eq_true rfl) ⟨_, rfl, ⟨m, ⟨fl, fk, fb, pk, bn, (gset_self hw), (gset_other hl (by omega)), (gset_other hk (by omega)), (gset_other hb (by omega)), hm, hkk⟩, Or.inl ⟨rfl, rfl⟩⟩, gFW.set⟩
  · -- to 9
    refine g_aload_n (q := 10) C dX6_sendLetter_9 rfl rfl ?_
    refine g_getfield (q := 13) C fX6_21 dX6_sendLetter_10 rfl hw rfl ?_
    refine g_iconst (v := 0) (q := 14) C dX6_sendLetter_13 (by decide) rfl ?_
    refine g_ialoadN (x := (fl 0)) (j := 0) (q := 15) C dX6_sendLetter_14 rfl hl (pk_in 0 24 (by omega)) (pk_cl 0) rfl ?_
    refine g_aload_n (q := 16) C dX6_sendLetter_15 rfl rfl ?_
    refine g_getfield (q := 19) C fX6_15 dX6_sendLetter_16 rfl hw rfl ?_
    refine g_icmp_ne (t := 43) (q := 22) C dX6_sendLetter_19 (by decide) rfl (fun c_19 => ?_) (fun c_19 => ?_)
    · -- to 43
      refine g_aload_n (q := 44) C dX6_sendLetter_43 rfl rfl ?_
      refine g_getfield (q := 47) C fX6_15 dX6_sendLetter_44 rfl hw rfl ?_
      refine g_aload_n (q := 48) C dX6_sendLetter_47 rfl rfl ?_
      refine g_getfield (q := 51) C fX6_34 dX6_sendLetter_48 rfl hw rfl ?_
      refine g_icmp_ne_t (t := 64) C dX6_sendLetter_51 (by decide) hle ?_
      refine g_aload_n (q := 65) C dX6_sendLetter_64 rfl rfl ?_
      refine g_dup (q := 66) C dX6_sendLetter_65 rfl rfl ?_
      refine g_getfield (q := 69) C fX6_15 dX6_sendLetter_66 rfl hw rfl ?_
      refine g_iconst (v := 1) (q := 70) C dX6_sendLetter_69 (by decide) rfl ?_
      refine g_iadd (q := 71) C dX6_sendLetter_70 rfl ?_
      refine g_putfield (q := 74) C fX6_15 dX6_sendLetter_71 rfl hw (Nat.le_of_ble_eq_true rfl) (Or.inl rfl) rfl rfl (by intro z h; cases h) ?_
      refine g_iload_n (q := 75) C dX6_sendLetter_74 rfl rfl ?_
      exact E.1 _ _ _ _ _ _ _ dX6_sendLetter_75 rfl rfl (Nat.le_of_ble_eq_true rfl) (Nat.le_of_ble_eq_true rfl) ⟨_, rfl, ⟨m, ⟨fl, fk, fb, pk, bn, (gset_self hw), (gset_other hl (by omega)), (gset_other hk (by omega)), (gset_other hb (by omega)), hm, hkk⟩, Or.inl ⟨rfl, rfl⟩⟩, gFW.set⟩
    · -- to 22
      refine g_aload_n (q := 23) C dX6_sendLetter_22 rfl rfl ?_
      refine g_getfield (q := 26) C fX6_25 dX6_sendLetter_23 rfl hw rfl ?_
      refine g_iconst (v := 0) (q := 27) C dX6_sendLetter_26 (by decide) rfl ?_
      refine g_ialoadN (x := (fk 0)) (j := 0) (q := 28) C dX6_sendLetter_27 rfl hk (pk_in 0 24 (by omega)) (pk_cl 0) rfl ?_
      refine g_istore_n (q := 29) C dX6_sendLetter_28 (Nat.le_of_ble_eq_true rfl) (by simp only [gset]; rfl) rfl ?_
      refine g_aload_n (q := 30) C dX6_sendLetter_29 rfl rfl ?_
      refine g_aload_n (q := 31) C dX6_sendLetter_30 rfl rfl ?_
      refine g_getfield (q := 34) C fX6_28 dX6_sendLetter_31 rfl hw rfl ?_
      refine g_iconst (v := 0) (q := 35) C dX6_sendLetter_34 (by decide) rfl ?_
      refine g_ialoadN (x := (fb 0)) (j := 0) (q := 36) C dX6_sendLetter_35 rfl hb (pk_in 0 24 (by omega)) (pk_cl 0) rfl ?_
      refine g_putfield (q := 39) C fX6_40 dX6_sendLetter_36 rfl hw (Nat.le_of_ble_eq_true rfl) (Or.inl rfl) rfl rfl (by intro z h; cases h) ?_
      refine g_aload_n (q := 40) C dX6_sendLetter_39 rfl rfl ?_
      refine g_callVvp (q := 43) (As := []) C gyX6_dropNearest gvX6_dropNearest t_760 (c_X6_dropNearest_w (H := ⟨fl, fk, fb, pk, _, (gset_self hw), (gset_other hl (by omega)), (gset_other hk (by omega)), (gset_other hb (by omega)), hm, hkk⟩) (h1 := gpos hm c_6)) dX6_sendLetter_40 rfl (gset_self hw) rfl rfl rfl (Nat.le_of_ble_eq_true rfl) (Nat.le_of_ble_eq_true rfl) (Nat.le_of_ble_eq_true rfl) (Nat.le_of_ble_eq_true rfl) (Nat.le_of_ble_eq_true rfl) rfl (fun h1 z1 => ?_)
      obtain ⟨⟨fl2, fk2, fb2, pk2, bn2, hw2, hl2, hk2, hb2, hm2, hkk2⟩, fr1⟩ := z1
      refine g_aload_n (q := 44) C dX6_sendLetter_43 rfl rfl ?_
      refine g_getfield (q := 47) C fX6_15 dX6_sendLetter_44 rfl hw2 rfl ?_
      refine g_aload_n (q := 48) C dX6_sendLetter_47 rfl rfl ?_
      refine g_getfield (q := 51) C fX6_34 dX6_sendLetter_48 rfl hw2 rfl ?_
      refine g_icmp_ne_t (t := 64) C dX6_sendLetter_51 (by decide) hle ?_
      refine g_aload_n (q := 65) C dX6_sendLetter_64 rfl rfl ?_
      refine g_dup (q := 66) C dX6_sendLetter_65 rfl rfl ?_
      refine g_getfield (q := 69) C fX6_15 dX6_sendLetter_66 rfl hw2 rfl ?_
      refine g_iconst (v := 1) (q := 70) C dX6_sendLetter_69 (by decide) rfl ?_
      refine g_iadd (q := 71) C dX6_sendLetter_70 rfl ?_
      refine g_putfield (q := 74) C fX6_15 dX6_sendLetter_71 rfl hw2 (Nat.le_of_ble_eq_true rfl) (Or.inl rfl) rfl rfl (by intro z h; cases h) ?_
      refine g_iload_n (q := 75) C dX6_sendLetter_74 rfl rfl ?_
      exact E.1 _ _ _ _ _ _ _ dX6_sendLetter_75 rfl rfl (Nat.le_of_ble_eq_true rfl) (Nat.le_of_ble_eq_true rfl) ⟨_, rfl, ⟨m - 1, ⟨fl2, fk2, fb2, pk2, bn2, (gset_self hw2), (gset_other hl2 (by omega)), (gset_other hk2 (by omega)), (gset_other hb2 (by omega)), hm2, hkk2⟩, Or.inr ⟨hkk 0 (gpos hm c_6), by have := gpos hm c_6; omega⟩⟩, gFW.trans (gFW.trans gFW.set fr1) gFW.set⟩
def gFC (hp h : List gA) (w r a : Nat) : Prop := ∀ k, (k < w ∨ w + 4 ≤ k) → k ≠ r → k ≠ a → h[k]? = hp[k]?
theorem gFC.rf {hp : List gA} {w r a : Nat} : gFC hp hp w r a := fun _ _ _ _ => rfl
theorem gFC.w {hp h h' : List gA} {w r a : Nat} (x : gFC hp h w r a) (y : gFW h h' w) : gFC hp h' w r a := fun k h1 h2 h3 => (y k h1).trans (x k h1 h2 h3)
theorem gFC.r {hp h h' : List gA} {w r a : Nat} (x : gFC hp h w r a) (y : gFr h h' r a) : gFC hp h' w r a := fun k h1 h2 h3 => (y k h2 h3).trans (x k h1 h2 h3)
theorem gnm1 {n : Nat} (h : n < 2 ^ 31) : ¬ nI n = -1 := by
  intro e
  have := congrArg Int32.toInt e
  rw [nI_toInt h] at this
  have h1 : (-1 : Int32).toInt = -1 := by decide
  rw [h1] at this; omega
theorem gtake1 {l : List Int32} {i : Nat} (h : i < l.length) (hl : l.length < 2 ^ 31) : l.take i ++ [gat l (nI i)] = l.take (i + 1) := by
  unfold gat
  rw [if_neg (nI_pos (by omega)), nI_clamp (by omega), List.take_add_one, List.getElem?_eq_getElem h]
  simp [List.getD, List.getElem?_eq_getElem h]
theorem dX6_carry_0 : decode cX6_carry 0 = .ok (.aload_n 2, 1) := by decide +kernel
theorem dX6_carry_1 : decode cX6_carry 1 = .ok (.iconst 0, 1) := by decide +kernel
theorem dX6_carry_2 : decode cX6_carry 2 = .ok (.invokevirtual 56, 3) := by decide +kernel
theorem dX6_carry_5 : decode cX6_carry 5 = .ok (.iconst 0, 1) := by decide +kernel
theorem dX6_carry_6 : decode cX6_carry 6 = .ok (.istore_n 3, 1) := by decide +kernel
theorem dX6_carry_7 : decode cX6_carry 7 = .ok (.iconst 0, 1) := by decide +kernel
theorem dX6_carry_8 : decode cX6_carry 8 = .ok (.istore 4, 2) := by decide +kernel
theorem dX6_carry_10 : decode cX6_carry 10 = .ok (.iload 4, 2) := by decide +kernel
theorem dX6_carry_12 : decode cX6_carry 12 = .ok (.aload_n 1, 1) := by decide +kernel
theorem dX6_carry_13 : decode cX6_carry 13 = .ok (.invokevirtual 61, 3) := by decide +kernel
theorem dX6_carry_16 : decode cX6_carry 16 = .ok (.if_icmp .ge 99, 3) := by decide +kernel
theorem dX6_carry_19 : decode cX6_carry 19 = .ok (.aload_n 0, 1) := by decide +kernel
theorem dX6_carry_20 : decode cX6_carry 20 = .ok (.invokevirtual 65, 3) := by decide +kernel
theorem dX6_carry_23 : decode cX6_carry 23 = .ok (.istore 5, 2) := by decide +kernel
theorem dX6_carry_25 : decode cX6_carry 25 = .ok (.iconst 0, 1) := by decide +kernel
theorem dX6_carry_26 : decode cX6_carry 26 = .ok (.istore 6, 2) := by decide +kernel
theorem dX6_carry_28 : decode cX6_carry 28 = .ok (.iload 6, 2) := by decide +kernel
theorem dX6_carry_30 : decode cX6_carry 30 = .ok (.aload_n 0, 1) := by decide +kernel
theorem dX6_carry_31 : decode cX6_carry 31 = .ok (.getfield 9, 3) := by decide +kernel
theorem dX6_carry_34 : decode cX6_carry 34 = .ok (.if_icmp .ge 31, 3) := by decide +kernel
theorem dX6_carry_37 : decode cX6_carry 37 = .ok (.iload 5, 2) := by decide +kernel
theorem dX6_carry_39 : decode cX6_carry 39 = .ok (.iconst 1, 1) := by decide +kernel
theorem dX6_carry_40 : decode cX6_carry 40 = .ok (.if_icmp .ne 25, 3) := by decide +kernel
theorem dX6_carry_43 : decode cX6_carry 43 = .ok (.aload_n 0, 1) := by decide +kernel
theorem dX6_carry_44 : decode cX6_carry 44 = .ok (.dup, 1) := by decide +kernel
theorem dX6_carry_45 : decode cX6_carry 45 = .ok (.getfield 18, 3) := by decide +kernel
theorem dX6_carry_48 : decode cX6_carry 48 = .ok (.iconst 1, 1) := by decide +kernel
theorem dX6_carry_49 : decode cX6_carry 49 = .ok (.iadd, 1) := by decide +kernel
theorem dX6_carry_50 : decode cX6_carry 50 = .ok (.putfield 18, 3) := by decide +kernel
theorem dX6_carry_53 : decode cX6_carry 53 = .ok (.aload_n 0, 1) := by decide +kernel
theorem dX6_carry_54 : decode cX6_carry 54 = .ok (.invokevirtual 65, 3) := by decide +kernel
theorem dX6_carry_57 : decode cX6_carry 57 = .ok (.istore 5, 2) := by decide +kernel
theorem dX6_carry_59 : decode cX6_carry 59 = .ok (.iinc 6 1, 3) := by decide +kernel
theorem dX6_carry_62 : decode cX6_carry 62 = .ok (.goto (-34), 3) := by decide +kernel
theorem dX6_carry_65 : decode cX6_carry 65 = .ok (.iload 5, 2) := by decide +kernel
theorem dX6_carry_67 : decode cX6_carry 67 = .ok (.iconst 1, 1) := by decide +kernel
theorem dX6_carry_68 : decode cX6_carry 68 = .ok (.if_icmp .ne 5, 3) := by decide +kernel
theorem dX6_carry_71 : decode cX6_carry 71 = .ok (.iconst 1, 1) := by decide +kernel
theorem dX6_carry_72 : decode cX6_carry 72 = .ok (.istore_n 3, 1) := by decide +kernel
theorem dX6_carry_73 : decode cX6_carry 73 = .ok (.iload 5, 2) := by decide +kernel
theorem dX6_carry_75 : decode cX6_carry 75 = .ok (.iconst 3, 1) := by decide +kernel
theorem dX6_carry_76 : decode cX6_carry 76 = .ok (.if_icmp .eq 33, 3) := by decide +kernel
theorem dX6_carry_79 : decode cX6_carry 79 = .ok (.aload_n 2, 1) := by decide +kernel
theorem dX6_carry_80 : decode cX6_carry 80 = .ok (.iload 5, 2) := by decide +kernel
theorem dX6_carry_82 : decode cX6_carry 82 = .ok (.iconst 2, 1) := by decide +kernel
theorem dX6_carry_83 : decode cX6_carry 83 = .ok (.if_icmp .ne 17, 3) := by decide +kernel
theorem dX6_carry_100 : decode cX6_carry 100 = .ok (.aload_n 1, 1) := by decide +kernel
theorem dX6_carry_101 : decode cX6_carry 101 = .ok (.iload 4, 2) := by decide +kernel
theorem dX6_carry_103 : decode cX6_carry 103 = .ok (.invokevirtual 68, 3) := by decide +kernel
theorem dX6_carry_106 : decode cX6_carry 106 = .ok (.invokevirtual 72, 3) := by decide +kernel
theorem dX6_carry_109 : decode cX6_carry 109 = .ok (.iinc 4 1, 3) := by decide +kernel
theorem dX6_carry_112 : decode cX6_carry 112 = .ok (.goto (-102), 3) := by decide +kernel
theorem dX6_carry_115 : decode cX6_carry 115 = .ok (.aload_n 2, 1) := by decide +kernel
theorem dX6_carry_116 : decode cX6_carry 116 = .ok (.invokevirtual 61, 3) := by decide +kernel
theorem dX6_carry_119 : decode cX6_carry 119 = .ok (.ifCond .ne 5, 3) := by decide +kernel
theorem dX6_carry_122 : decode cX6_carry 122 = .ok (.iconst 3, 1) := by decide +kernel
theorem dX6_carry_123 : decode cX6_carry 123 = .ok (.ireturn, 1) := by decide +kernel
theorem dX6_carry_124 : decode cX6_carry 124 = .ok (.aload_n 2, 1) := by decide +kernel
theorem dX6_carry_125 : decode cX6_carry 125 = .ok (.invokevirtual 61, 3) := by decide +kernel
theorem dX6_carry_128 : decode cX6_carry 128 = .ok (.aload_n 1, 1) := by decide +kernel
theorem dX6_carry_129 : decode cX6_carry 129 = .ok (.invokevirtual 61, 3) := by decide +kernel
theorem dX6_carry_132 : decode cX6_carry 132 = .ok (.if_icmp .ge 5, 3) := by decide +kernel
theorem dX6_carry_135 : decode cX6_carry 135 = .ok (.iconst 2, 1) := by decide +kernel
theorem dX6_carry_136 : decode cX6_carry 136 = .ok (.ireturn, 1) := by decide +kernel
theorem dX6_carry_137 : decode cX6_carry 137 = .ok (.iload_n 3, 1) := by decide +kernel
theorem dX6_carry_138 : decode cX6_carry 138 = .ok (.ifCond .eq 7, 3) := by decide +kernel
theorem dX6_carry_141 : decode cX6_carry 141 = .ok (.iconst 1, 1) := by decide +kernel
theorem dX6_carry_142 : decode cX6_carry 142 = .ok (.goto 4, 3) := by decide +kernel
theorem dX6_carry_145 : decode cX6_carry 145 = .ok (.iconst 0, 1) := by decide +kernel
theorem dX6_carry_146 : decode cX6_carry 146 = .ok (.ireturn, 1) := by decide +kernel
set_option maxRecDepth 100000 in
set_option maxHeartbeats 4000000 in
theorem c_X6_carry_w {hp : List gA} {w R L A m rb ab nb rc ac nc : Nat} {l lc : List Int32} (H : gWire hp w (nI R) (nI L) (nI A) m) (HB : gRw hp rb ab nb l) (HC : gRw hp rc ac nc lc) (hln : l.length ≤ nc) (hl1 : 1 ≤ l.length) (hL : L + 4 * l.length + 8 < 2 ^ 30) (hR : R ≤ 3) (d1 : rb < w ∨ w + 4 ≤ rb) (d2 : ab < w ∨ w + 4 ≤ ab) (d3 : rc < w ∨ w + 4 ≤ rc) (d4 : ac < w ∨ w + 4 ≤ ac) (e1 : rb ≠ rc) (e2 : rb ≠ ac) (e3 : ab ≠ rc) (e4 : ab ≠ ac) : gM yX6_carry cX6_carry 7 ((some .int)) 3 103 [.ref w, .ref rb, .ref rc] (hp) (0) (0) (fun v h => ∃ x, v = some (.int x) ∧ ∃ (L1 A1 m1 : Nat) (l1 : List Int32), gWire h w (nI R) (nI L1) (nI A1) m1 ∧ gRw h rc ac nc l1 ∧ (A1 + L + l.length = A + L1 ∧ A ≤ A1) ∧ L1 ≤ L + 4 * l.length ∧ m1 ≤ m ∧ (x = 0 ∧ l1 = l ∨ x = 1 ∧ l1 = l ∧ m1 < m ∨ (x = 2 ∨ x = 3) ∧ m1 < m) ∧ gFC hp h w rc ac) := by
  refine gM_of (ls0 := [some (.ref w), some (.ref rb), some (.ref rc), none, none, none, none]) (by decide +kernel) (Nat.le_of_ble_eq_true rfl) rfl fun X C E => ?_
  have LL : ∀ d i : Nat, i + d = l.length → ∀ (h1 : List gA) (L1 A1 m1 : Nat) (l1 : List Int32) (sp : Int32) (x5 x6 : Option Value), gWire h1 w (nI R) (nI L1) (nI A1) m1 → gRw h1 rc ac nc l1 → (A1 + L + i = A + L1 ∧ A ≤ A1) → L1 ≤ L + 4 * i → m1 ≤ m → (l1 = l.take i ∨ (l1.length < i ∧ m1 < m)) → (sp = 0 ∨ sp = 1 ∧ m1 < m) → gFC hp h1 w rc ac → gG X 10 [some (.ref w), some (.ref rb), some (.ref rc), some (.int sp), some (.int (nI i)), x5, x6] [] h1 0 0 := by
    intro d
    induction d with
    | zero =>
      intro i hi h1 L1 A1 m1 l1 sp x5 x6 HW HC1 hA1 hL1 hm1 hd hs fr
      obtain rfl : i = l.length := by omega
      have HB1 : gRw h1 rb ab nb l := HB.kept (fr rb d1 e1 e2) (fr ab d2 e3 e4)
      have hlt1 : l1.length < 2 ^ 31 := by have := HC1.le; omega
      have hlt : l.length < 2 ^ 31 := by have := HB.le; omega
      rcases hd with hd | ⟨hd, hmm⟩
      ·
        rw [List.take_of_length_le (Nat.le_refl _)] at hd
        subst hd
        rcases hs with hs | ⟨hs, hmm⟩
        ·
          subst hs
          refine g_iload (q := 12) C dX6_carry_10 rfl rfl ?_
          refine g_aload_n (q := 13) C dX6_carry_12 rfl rfl ?_
          refine g_callVi (q := 16) (As := []) C gyX4_size gvX4_size t_755 (c_X4_size (gRw.obj HB1)) dX6_carry_13 rfl (gRw.obj HB1) rfl rfl rfl (Nat.le_of_ble_eq_true rfl) (Nat.le_of_ble_eq_true rfl) (Nat.le_of_ble_eq_true rfl) (Nat.le_of_ble_eq_true rfl) (Nat.le_of_ble_eq_true rfl) rfl ?_
          refine g_icmp_ge_t (t := 115) C dX6_carry_16 (by decide) (nI_le (Nat.le_refl _) hlt1) ?_
          refine g_aload_n (q := 116) C dX6_carry_115 rfl rfl ?_
          refine g_callVi (q := 119) (As := []) C gyX4_size gvX4_size t_755 (c_X4_size (gRw.obj HC1)) dX6_carry_116 rfl (gRw.obj HC1) rfl rfl rfl (Nat.le_of_ble_eq_true rfl) (Nat.le_of_ble_eq_true rfl) (Nat.le_of_ble_eq_true rfl) (Nat.le_of_ble_eq_true rfl) (Nat.le_of_ble_eq_true rfl) rfl ?_
          refine g_if_ne_t (t := 124) C dX6_carry_119 (by decide) (nI_ne0 hl1 hlt1) ?_
          refine g_aload_n (q := 125) C dX6_carry_124 rfl rfl ?_
          refine g_callVi (q := 128) (As := []) C gyX4_size gvX4_size t_755 (c_X4_size (gRw.obj HC1)) dX6_carry_125 rfl (gRw.obj HC1) rfl rfl rfl (Nat.le_of_ble_eq_true rfl) (Nat.le_of_ble_eq_true rfl) (Nat.le_of_ble_eq_true rfl) (Nat.le_of_ble_eq_true rfl) (Nat.le_of_ble_eq_true rfl) rfl ?_
          refine g_aload_n (q := 129) C dX6_carry_128 rfl rfl ?_
          refine g_callVi (q := 132) (As := []) C gyX4_size gvX4_size t_755 (c_X4_size (gRw.obj HB1)) dX6_carry_129 rfl (gRw.obj HB1) rfl rfl rfl (Nat.le_of_ble_eq_true rfl) (Nat.le_of_ble_eq_true rfl) (Nat.le_of_ble_eq_true rfl) (Nat.le_of_ble_eq_true rfl) (Nat.le_of_ble_eq_true rfl) rfl ?_
          refine g_icmp_ge_t (t := 137) C dX6_carry_132 (by decide) (nI_le (Nat.le_refl _) hlt1) ?_
          refine g_iload_n (q := 138) C dX6_carry_137 rfl rfl ?_
          refine g_if_eq_t (t := 145) C dX6_carry_138 (by decide) (by decide) ?_
          refine g_iconst (v := 0) (q := 146) C dX6_carry_145 (by decide) rfl ?_
          exact E.1 _ _ _ _ _ _ _ dX6_carry_146 rfl rfl (Nat.le_of_ble_eq_true rfl) (Nat.le_of_ble_eq_true rfl) ⟨_, rfl, ⟨L1, A1, m1, l1, HW, HC1, hA1, hL1, hm1, Or.inl ⟨rfl, rfl⟩, fr⟩⟩
        ·
          subst hs
          refine g_iload (q := 12) C dX6_carry_10 rfl rfl ?_
          refine g_aload_n (q := 13) C dX6_carry_12 rfl rfl ?_
          refine g_callVi (q := 16) (As := []) C gyX4_size gvX4_size t_755 (c_X4_size (gRw.obj HB1)) dX6_carry_13 rfl (gRw.obj HB1) rfl rfl rfl (Nat.le_of_ble_eq_true rfl) (Nat.le_of_ble_eq_true rfl) (Nat.le_of_ble_eq_true rfl) (Nat.le_of_ble_eq_true rfl) (Nat.le_of_ble_eq_true rfl) rfl ?_
          refine g_icmp_ge_t (t := 115) C dX6_carry_16 (by decide) (nI_le (Nat.le_refl _) hlt1) ?_
          refine g_aload_n (q := 116) C dX6_carry_115 rfl rfl ?_
          refine g_callVi (q := 119) (As := []) C gyX4_size gvX4_size t_755 (c_X4_size (gRw.obj HC1)) dX6_carry_116 rfl (gRw.obj HC1) rfl rfl rfl (Nat.le_of_ble_eq_true rfl) (Nat.le_of_ble_eq_true rfl) (Nat.le_of_ble_eq_true rfl) (Nat.le_of_ble_eq_true rfl) (Nat.le_of_ble_eq_true rfl) rfl ?_
          refine g_if_ne_t (t := 124) C dX6_carry_119 (by decide) (nI_ne0 hl1 hlt1) ?_
          refine g_aload_n (q := 125) C dX6_carry_124 rfl rfl ?_
          refine g_callVi (q := 128) (As := []) C gyX4_size gvX4_size t_755 (c_X4_size (gRw.obj HC1)) dX6_carry_125 rfl (gRw.obj HC1) rfl rfl rfl (Nat.le_of_ble_eq_true rfl) (Nat.le_of_ble_eq_true rfl) (Nat.le_of_ble_eq_true rfl) (Nat.le_of_ble_eq_true rfl) (Nat.le_of_ble_eq_true rfl) rfl ?_
          refine g_aload_n (q := 129) C dX6_carry_128 rfl rfl ?_
          refine g_callVi (q := 132) (As := []) C gyX4_size gvX4_size t_755 (c_X4_size (gRw.obj HB1)) dX6_carry_129 rfl (gRw.obj HB1) rfl rfl rfl (Nat.le_of_ble_eq_true rfl) (Nat.le_of_ble_eq_true rfl) (Nat.le_of_ble_eq_true rfl) (Nat.le_of_ble_eq_true rfl) (Nat.le_of_ble_eq_true rfl) rfl ?_
          refine g_icmp_ge_t (t := 137) C dX6_carry_132 (by decide) (nI_le (Nat.le_refl _) hlt1) ?_
          refine g_iload_n (q := 138) C dX6_carry_137 rfl rfl ?_
          refine g_if_eq_f (t := 145) (q := 141) C dX6_carry_138 (by decide) rfl (by decide) ?_
          refine g_iconst (v := 1) (q := 142) C dX6_carry_141 (by decide) rfl ?_
          refine g_goto (q := 146) C dX6_carry_142 (by decide) ?_
          exact E.1 _ _ _ _ _ _ _ dX6_carry_146 rfl rfl (Nat.le_of_ble_eq_true rfl) (Nat.le_of_ble_eq_true rfl) ⟨_, rfl, ⟨L1, A1, m1, l1, HW, HC1, hA1, hL1, hm1, Or.inr (Or.inl ⟨rfl, rfl, hmm⟩), fr⟩⟩
      ·
        by_cases h0 : l1.length = 0
        ·
          refine g_iload (q := 12) C dX6_carry_10 rfl rfl ?_
          refine g_aload_n (q := 13) C dX6_carry_12 rfl rfl ?_
          refine g_callVi (q := 16) (As := []) C gyX4_size gvX4_size t_755 (c_X4_size (gRw.obj HB1)) dX6_carry_13 rfl (gRw.obj HB1) rfl rfl rfl (Nat.le_of_ble_eq_true rfl) (Nat.le_of_ble_eq_true rfl) (Nat.le_of_ble_eq_true rfl) (Nat.le_of_ble_eq_true rfl) (Nat.le_of_ble_eq_true rfl) rfl ?_
          refine g_icmp_ge_t (t := 115) C dX6_carry_16 (by decide) (nI_le (Nat.le_refl _) hlt) ?_
          refine g_aload_n (q := 116) C dX6_carry_115 rfl rfl ?_
          refine g_callVi (q := 119) (As := []) C gyX4_size gvX4_size t_755 (c_X4_size (gRw.obj HC1)) dX6_carry_116 rfl (gRw.obj HC1) rfl rfl rfl (Nat.le_of_ble_eq_true rfl) (Nat.le_of_ble_eq_true rfl) (Nat.le_of_ble_eq_true rfl) (Nat.le_of_ble_eq_true rfl) (Nat.le_of_ble_eq_true rfl) rfl ?_
          refine g_if_ne_f (t := 124) (q := 122) C dX6_carry_119 (by decide) rfl (by rw [h0]; rfl) ?_
          refine g_iconst (v := 3) (q := 123) C dX6_carry_122 (by decide) rfl ?_
          exact E.1 _ _ _ _ _ _ _ dX6_carry_123 rfl rfl (Nat.le_of_ble_eq_true rfl) (Nat.le_of_ble_eq_true rfl) ⟨_, rfl, ⟨L1, A1, m1, l1, HW, HC1, hA1, hL1, hm1, Or.inr (Or.inr ⟨Or.inr rfl, hmm⟩), fr⟩⟩
        ·
          refine g_iload (q := 12) C dX6_carry_10 rfl rfl ?_
          refine g_aload_n (q := 13) C dX6_carry_12 rfl rfl ?_
          refine g_callVi (q := 16) (As := []) C gyX4_size gvX4_size t_755 (c_X4_size (gRw.obj HB1)) dX6_carry_13 rfl (gRw.obj HB1) rfl rfl rfl (Nat.le_of_ble_eq_true rfl) (Nat.le_of_ble_eq_true rfl) (Nat.le_of_ble_eq_true rfl) (Nat.le_of_ble_eq_true rfl) (Nat.le_of_ble_eq_true rfl) rfl ?_
          refine g_icmp_ge_t (t := 115) C dX6_carry_16 (by decide) (nI_le (Nat.le_refl _) hlt) ?_
          refine g_aload_n (q := 116) C dX6_carry_115 rfl rfl ?_
          refine g_callVi (q := 119) (As := []) C gyX4_size gvX4_size t_755 (c_X4_size (gRw.obj HC1)) dX6_carry_116 rfl (gRw.obj HC1) rfl rfl rfl (Nat.le_of_ble_eq_true rfl) (Nat.le_of_ble_eq_true rfl) (Nat.le_of_ble_eq_true rfl) (Nat.le_of_ble_eq_true rfl) (Nat.le_of_ble_eq_true rfl) rfl ?_
          refine g_if_ne_t (t := 124) C dX6_carry_119 (by decide) (nI_ne0 (by omega) hlt1) ?_
          refine g_aload_n (q := 125) C dX6_carry_124 rfl rfl ?_
          refine g_callVi (q := 128) (As := []) C gyX4_size gvX4_size t_755 (c_X4_size (gRw.obj HC1)) dX6_carry_125 rfl (gRw.obj HC1) rfl rfl rfl (Nat.le_of_ble_eq_true rfl) (Nat.le_of_ble_eq_true rfl) (Nat.le_of_ble_eq_true rfl) (Nat.le_of_ble_eq_true rfl) (Nat.le_of_ble_eq_true rfl) rfl ?_
          refine g_aload_n (q := 129) C dX6_carry_128 rfl rfl ?_
          refine g_callVi (q := 132) (As := []) C gyX4_size gvX4_size t_755 (c_X4_size (gRw.obj HB1)) dX6_carry_129 rfl (gRw.obj HB1) rfl rfl rfl (Nat.le_of_ble_eq_true rfl) (Nat.le_of_ble_eq_true rfl) (Nat.le_of_ble_eq_true rfl) (Nat.le_of_ble_eq_true rfl) (Nat.le_of_ble_eq_true rfl) rfl ?_
          refine g_icmp_ge_f (t := 137) (q := 135) C dX6_carry_132 (by decide) rfl (fun h9 => nI_ge hd hlt h9) ?_
          refine g_iconst (v := 2) (q := 136) C dX6_carry_135 (by decide) rfl ?_
          exact E.1 _ _ _ _ _ _ _ dX6_carry_136 rfl rfl (Nat.le_of_ble_eq_true rfl) (Nat.le_of_ble_eq_true rfl) ⟨_, rfl, ⟨L1, A1, m1, l1, HW, HC1, hA1, hL1, hm1, Or.inr (Or.inr ⟨Or.inl rfl, hmm⟩), fr⟩⟩
    | succ d ih =>
      intro i hi h1 L1 A1 m1 l1 sp x5 x6 HW HC1 hA1 hL1 hm1 hd hs fr
      have hlt : l.length < 2 ^ 31 := by have := HB.le; omega
      have hle1 : l1.length ≤ i := hd.elim (fun h => by rw [h, List.length_take]; omega) (fun h => Nat.le_of_lt h.1)
      have K : ∀ (h2 : List gA) (L2 A2 m2 : Nat) (x : Int32) (x6 : Option Value), gWire h2 w (nI R) (nI L2) (nI A2) m2 → gRw h2 rc ac nc l1 → (A2 + L + (i + 1) = A + L2 ∧ A ≤ A2) → L2 ≤ L + 4 * (i + 1) → m2 ≤ m1 → (x = 0 ∨ (x = 1 ∨ x = 3) ∧ m2 < m1) → gFC hp h2 w rc ac → gG X 65 [some (.ref w), some (.ref rb), some (.ref rc), some (.int sp), some (.int (nI i)), some (.int x), x6] [] h2 0 0 := by
        intro h2 L2 A2 m2 x x6 HW2 HC2 hA2 hL2 hm2 hx fr2
        have HB2 : gRw h2 rb ab nb l := HB.kept (fr2 rb d1 e1 e2) (fr2 ab d2 e3 e4)
        have hs2 : sp = 0 ∨ sp = 1 ∧ m2 < m := hs.elim Or.inl (fun h => Or.inr ⟨h.1, Nat.lt_of_le_of_lt hm2 h.2⟩)
        rcases hx with hx | ⟨hx | hx, hxm⟩
        ·
          subst hx
          refine g_iload (q := 67) C dX6_carry_65 rfl rfl ?_
          refine g_iconst (v := 1) (q := 68) C dX6_carry_67 (by decide) rfl ?_
          refine g_icmp_ne_t (t := 73) C dX6_carry_68 (by decide) (by decide) ?_
          refine g_iload (q := 75) C dX6_carry_73 rfl rfl ?_
          refine g_iconst (v := 3) (q := 76) C dX6_carry_75 (by decide) rfl ?_
          refine g_icmp_eq_f (t := 109) (q := 79) C dX6_carry_76 (by decide) rfl (by decide) ?_
          refine g_aload_n (q := 80) C dX6_carry_79 rfl rfl ?_
          refine g_iload (q := 82) C dX6_carry_80 rfl rfl ?_
          refine g_iconst (v := 2) (q := 83) C dX6_carry_82 (by decide) rfl ?_
          refine g_icmp_ne_t (t := 100) C dX6_carry_83 (by decide) (by decide) ?_
          refine g_aload_n (q := 101) C dX6_carry_100 rfl rfl ?_
          refine g_iload (q := 103) C dX6_carry_101 rfl rfl ?_
          refine g_callVi (q := 106) (As := [.int ((nI i))]) C gyX4_at gvX4_at t_764 (c_X4_at_w HB2) dX6_carry_103 rfl (gRw.obj HB2) rfl rfl rfl (Nat.le_of_ble_eq_true rfl) (Nat.le_of_ble_eq_true rfl) (Nat.le_of_ble_eq_true rfl) (Nat.le_of_ble_eq_true rfl) (Nat.le_of_ble_eq_true rfl) rfl ?_
          refine g_callVvp (q := 109) (As := [.int _]) C gyX4_add gvX4_add t_765 (c_X4_add_w HC2 (by omega)) dX6_carry_106 rfl (gRw.obj HC2) rfl rfl rfl (Nat.le_of_ble_eq_true rfl) (Nat.le_of_ble_eq_true rfl) (Nat.le_of_ble_eq_true rfl) (Nat.le_of_ble_eq_true rfl) (Nat.le_of_ble_eq_true rfl) rfl (fun h3 z3 => ?_)
          obtain ⟨HC3, fr3⟩ := z3
          refine g_iinc (v := (nI (i + 1))) (q := 112) C dX6_carry_109 rfl (nI_1 i) (by simp only [gset]; rfl) rfl ?_
          refine g_goto (q := 10) C dX6_carry_112 (by decide) ?_
          exact ih (i + 1) (by omega) h3 L2 A2 m2 _ _ _ _ (HW2.kept (fun k ha hb => fr3 k (by omega) (by omega))) HC3 hA2 hL2 (by omega) (hd.elim (fun h => Or.inl (by rw [h, gtake1 (by omega) hlt])) (fun h => Or.inr ⟨by rw [List.length_append]; simp; omega, Nat.lt_of_le_of_lt hm2 h.2⟩)) hs2 (fr2.r fr3)
        ·
          subst hx
          refine g_iload (q := 67) C dX6_carry_65 rfl rfl ?_
          refine g_iconst (v := 1) (q := 68) C dX6_carry_67 (by decide) rfl ?_
          refine g_icmp_ne_f (t := 73) (q := 71) C dX6_carry_68 (by decide) rfl (by decide) ?_
          refine g_iconst (v := 1) (q := 72) C dX6_carry_71 (by decide) rfl ?_
          refine g_istore_n (q := 73) C dX6_carry_72 (Nat.le_of_ble_eq_true rfl) (by simp only [gset]; rfl) rfl ?_
          refine g_iload (q := 75) C dX6_carry_73 rfl rfl ?_
          refine g_iconst (v := 3) (q := 76) C dX6_carry_75 (by decide) rfl ?_
          refine g_icmp_eq_f (t := 109) (q := 79) C dX6_carry_76 (by decide) rfl (by decide) ?_
          refine g_aload_n (q := 80) C dX6_carry_79 rfl rfl ?_
          refine g_iload (q := 82) C dX6_carry_80 rfl rfl ?_
          refine g_iconst (v := 2) (q := 83) C dX6_carry_82 (by decide) rfl ?_
          refine g_icmp_ne_t (t := 100) C dX6_carry_83 (by decide) (by decide) ?_
          refine g_aload_n (q := 101) C dX6_carry_100 rfl rfl ?_
          refine g_iload (q := 103) C dX6_carry_101 rfl rfl ?_
          refine g_callVi (q := 106) (As := [.int ((nI i))]) C gyX4_at gvX4_at t_764 (c_X4_at_w HB2) dX6_carry_103 rfl (gRw.obj HB2) rfl rfl rfl (Nat.le_of_ble_eq_true rfl) (Nat.le_of_ble_eq_true rfl) (Nat.le_of_ble_eq_true rfl) (Nat.le_of_ble_eq_true rfl) (Nat.le_of_ble_eq_true rfl) rfl ?_
          refine g_callVvp (q := 109) (As := [.int _]) C gyX4_add gvX4_add t_765 (c_X4_add_w HC2 (by omega)) dX6_carry_106 rfl (gRw.obj HC2) rfl rfl rfl (Nat.le_of_ble_eq_true rfl) (Nat.le_of_ble_eq_true rfl) (Nat.le_of_ble_eq_true rfl) (Nat.le_of_ble_eq_true rfl) (Nat.le_of_ble_eq_true rfl) rfl (fun h3 z3 => ?_)
          obtain ⟨HC3, fr3⟩ := z3
          refine g_iinc (v := (nI (i + 1))) (q := 112) C dX6_carry_109 rfl (nI_1 i) (by simp only [gset]; rfl) rfl ?_
          refine g_goto (q := 10) C dX6_carry_112 (by decide) ?_
          exact ih (i + 1) (by omega) h3 L2 A2 m2 _ _ _ _ (HW2.kept (fun k ha hb => fr3 k (by omega) (by omega))) HC3 hA2 hL2 (by omega) (hd.elim (fun h => Or.inl (by rw [h, gtake1 (by omega) hlt])) (fun h => Or.inr ⟨by rw [List.length_append]; simp; omega, Nat.lt_of_le_of_lt hm2 h.2⟩)) (Or.inr ⟨rfl, by omega⟩) (fr2.r fr3)
        ·
          subst hx
          refine g_iload (q := 67) C dX6_carry_65 rfl rfl ?_
          refine g_iconst (v := 1) (q := 68) C dX6_carry_67 (by decide) rfl ?_
          refine g_icmp_ne_t (t := 73) C dX6_carry_68 (by decide) (by decide) ?_
          refine g_iload (q := 75) C dX6_carry_73 rfl rfl ?_
          refine g_iconst (v := 3) (q := 76) C dX6_carry_75 (by decide) rfl ?_
          refine g_icmp_eq_t (t := 109) C dX6_carry_76 (by decide) (by decide) ?_
          refine g_iinc (v := (nI (i + 1))) (q := 112) C dX6_carry_109 rfl (nI_1 i) (by simp only [gset]; rfl) rfl ?_
          refine g_goto (q := 10) C dX6_carry_112 (by decide) ?_
          exact ih (i + 1) (by omega) h2 L2 A2 m2 l1 sp _ _ HW2 HC2 hA2 hL2 (by omega) (Or.inr ⟨by omega, by omega⟩) hs2 fr2
      have J : ∀ e j : Nat, j + e = R → ∀ (h2 : List gA) (L2 A2 m2 : Nat) (x : Int32), gWire h2 w (nI R) (nI L2) (nI A2) m2 → gRw h2 rc ac nc l1 → L2 = L1 + 1 + j → A2 = A1 + j → m2 ≤ m1 → (x = 0 ∨ (x = 1 ∨ x = 3) ∧ m2 < m1) → gFC hp h2 w rc ac → gG X 28 [some (.ref w), some (.ref rb), some (.ref rc), some (.int sp), some (.int (nI i)), some (.int x), some (.int (nI j))] [] h2 0 0 := by
        intro e
        induction e with
        | zero =>
          intro j hj h2 L2 A2 m2 x HW2 HC2 hL2 hA2 hm2 hx fr2
          obtain ⟨fl, fk, fb, pk, bn, hw, hl, hk, hb, hm, hkk⟩ := id HW2
          obtain rfl : j = R := by omega
          refine g_iload (q := 30) C dX6_carry_28 rfl rfl ?_
          refine g_aload_n (q := 31) C dX6_carry_30 rfl rfl ?_
          refine g_getfield (q := 34) C fX6_9 dX6_carry_31 rfl hw rfl ?_
          refine g_icmp_ge_t (t := 65) C dX6_carry_34 (by decide) (nI_le (Nat.le_refl _) (by omega)) ?_
          exact K h2 L2 A2 m2 _ _ HW2 HC2 (by omega) (by omega) hm2 hx fr2
        | succ e ihe =>
          intro j hj h2 L2 A2 m2 x HW2 HC2 hL2 hA2 hm2 hx fr2
          obtain ⟨fl, fk, fb, pk, bn, hw, hl, hk, hb, hm, hkk⟩ := id HW2
          by_cases hx1 : x = 1
          ·
            refine g_iload (q := 30) C dX6_carry_28 rfl rfl ?_
            refine g_aload_n (q := 31) C dX6_carry_30 rfl rfl ?_
            refine g_getfield (q := 34) C fX6_9 dX6_carry_31 rfl hw rfl ?_
            refine g_icmp_ge_f (t := 65) (q := 37) C dX6_carry_34 (by decide) rfl (fun h9 => nI_ge (show j < R by omega) (by omega) h9) ?_
            refine g_iload (q := 39) C dX6_carry_37 rfl rfl ?_
            refine g_iconst (v := 1) (q := 40) C dX6_carry_39 (by decide) rfl ?_
            refine g_icmp_ne_f (t := 65) (q := 43) C dX6_carry_40 (by decide) rfl hx1 ?_
            refine g_aload_n (q := 44) C dX6_carry_43 rfl rfl ?_
            refine g_dup (q := 45) C dX6_carry_44 rfl rfl ?_
            refine g_getfield (q := 48) C fX6_18 dX6_carry_45 rfl hw rfl ?_
            refine g_iconst (v := 1) (q := 49) C dX6_carry_48 (by decide) rfl ?_
            refine g_iadd (q := 50) C dX6_carry_49 rfl ?_
            refine g_putfield (q := 53) C fX6_18 dX6_carry_50 rfl hw (Nat.le_of_ble_eq_true rfl) (Or.inl rfl) rfl rfl (by intro z h; cases h) ?_
            refine g_aload_n (q := 54) C dX6_carry_53 rfl rfl ?_
            refine g_callVip (q := 57) (As := []) C gyX6_sendLetter gvX6_sendLetter t_756 (c_X6_sendLetter_w (H := (⟨fl, fk, fb, pk, bn, (gset_self hw), (gset_other hl (by omega)), (gset_other hk (by omega)), (gset_other hb (by omega)), hm, hkk⟩ : gWire _ w (nI R) (nI L2) (nI A2 + 1) m2)) (hle := gnm1 (by omega))) dX6_carry_54 rfl (gset_self hw) rfl rfl rfl (Nat.le_of_ble_eq_true rfl) (Nat.le_of_ble_eq_true rfl) (Nat.le_of_ble_eq_true rfl) (Nat.le_of_ble_eq_true rfl) (Nat.le_of_ble_eq_true rfl) rfl (fun y h3 z3 => ?_)
            obtain ⟨⟨m3, HW3, hy⟩, fr3⟩ := z3
            rw [nI_1, nI_1] at HW3
            have HC3 : gRw h3 rc ac nc l1 := HC2.kept ((gFW.trans gFW.set fr3) rc d3) ((gFW.trans gFW.set fr3) ac d4)
            refine g_istore (q := 59) C dX6_carry_57 (Nat.le_of_ble_eq_true rfl) (by simp only [gset]; rfl) rfl ?_
            refine g_iinc (v := (nI (j + 1))) (q := 62) C dX6_carry_59 rfl (nI_1 j) (by simp only [gset]; rfl) rfl ?_
            refine g_goto (q := 28) C dX6_carry_62 (by decide) ?_
            exact ihe (j + 1) (by omega) h3 (L2 + 1) (A2 + 1) m3 y HW3 HC3 (by omega) (by omega) (by rcases hy with h9 | h9 <;> (have := h9.2; omega)) (hy.elim (fun h9 => Or.inl h9.1) (fun h9 => Or.inr ⟨h9.1, by have := h9.2; omega⟩)) (fr2.w (gFW.trans gFW.set fr3))
          ·
            refine g_iload (q := 30) C dX6_carry_28 rfl rfl ?_
            refine g_aload_n (q := 31) C dX6_carry_30 rfl rfl ?_
            refine g_getfield (q := 34) C fX6_9 dX6_carry_31 rfl hw rfl ?_
            refine g_icmp_ge_f (t := 65) (q := 37) C dX6_carry_34 (by decide) rfl (fun h9 => nI_ge (show j < R by omega) (by omega) h9) ?_
            refine g_iload (q := 39) C dX6_carry_37 rfl rfl ?_
            refine g_iconst (v := 1) (q := 40) C dX6_carry_39 (by decide) rfl ?_
            refine g_icmp_ne_t (t := 65) C dX6_carry_40 (by decide) hx1 ?_
            exact K h2 L2 A2 m2 _ _ HW2 HC2 (by omega) (by omega) hm2 hx fr2
      have HB1 : gRw h1 rb ab nb l := HB.kept (fr rb d1 e1 e2) (fr ab d2 e3 e4)
      have HW1 := HW
      obtain ⟨fl, fk, fb, pk, bn, hw, hl, hk, hb, hm, hkk⟩ := HW1
      refine g_iload (q := 12) C dX6_carry_10 rfl rfl ?_
      refine g_aload_n (q := 13) C dX6_carry_12 rfl rfl ?_
      refine g_callVi (q := 16) (As := []) C gyX4_size gvX4_size t_755 (c_X4_size (gRw.obj HB1)) dX6_carry_13 rfl (gRw.obj HB1) rfl rfl rfl (Nat.le_of_ble_eq_true rfl) (Nat.le_of_ble_eq_true rfl) (Nat.le_of_ble_eq_true rfl) (Nat.le_of_ble_eq_true rfl) (Nat.le_of_ble_eq_true rfl) rfl ?_
      refine g_icmp_ge_f (t := 115) (q := 19) C dX6_carry_16 (by decide) rfl (fun h9 => nI_ge (show i < l.length by omega) hlt h9) ?_
      refine g_aload_n (q := 20) C dX6_carry_19 rfl rfl ?_
      refine g_callVip (q := 23) (As := []) C gyX6_sendLetter gvX6_sendLetter t_756 (c_X6_sendLetter_w (H := HW) (hle := gnm1 (by omega))) dX6_carry_20 rfl hw rfl rfl rfl (Nat.le_of_ble_eq_true rfl) (Nat.le_of_ble_eq_true rfl) (Nat.le_of_ble_eq_true rfl) (Nat.le_of_ble_eq_true rfl) (Nat.le_of_ble_eq_true rfl) rfl (fun y h3 z3 => ?_)
      obtain ⟨⟨m3, HW3, hy⟩, fr3⟩ := z3
      rw [nI_1] at HW3
      have HC3 : gRw h3 rc ac nc l1 := HC1.kept (fr3 rc d3) (fr3 ac d4)
      refine g_istore (q := 25) C dX6_carry_23 (Nat.le_of_ble_eq_true rfl) (by simp only [gset]; rfl) rfl ?_
      refine g_iconst (v := 0) (q := 26) C dX6_carry_25 (by decide) rfl ?_
      refine g_istore (q := 28) C dX6_carry_26 (Nat.le_of_ble_eq_true rfl) (by simp only [gset]; rfl) rfl ?_
      exact J R 0 (by omega) h3 (L1 + 1) A1 m3 y HW3 HC3 (by omega) (by omega) (by rcases hy with h9 | h9 <;> (have := h9.2; omega)) (hy.elim (fun h9 => Or.inl h9.1) (fun h9 => Or.inr ⟨h9.1, by have := h9.2; omega⟩)) (fr.w fr3)
  refine g_aload_n (q := 1) C dX6_carry_0 rfl rfl ?_
  refine g_iconst (v := 0) (q := 2) C dX6_carry_1 (by decide) rfl ?_
  refine g_callVvp (q := 5) (As := [.int 0]) C gyX4_keep gvX4_keep t_754 (c_X4_keep_w (k := 0) HC (by decide)) dX6_carry_2 rfl (gRw.obj HC) rfl rfl rfl (Nat.le_of_ble_eq_true rfl) (Nat.le_of_ble_eq_true rfl) (Nat.le_of_ble_eq_true rfl) (Nat.le_of_ble_eq_true rfl) (Nat.le_of_ble_eq_true rfl) rfl (fun h1 z1 => ?_)
  obtain ⟨HC1, fr1⟩ := z1
  rw [List.take_zero] at HC1
  refine g_iconst (v := 0) (q := 6) C dX6_carry_5 (by decide) rfl ?_
  refine g_istore_n (q := 7) C dX6_carry_6 (Nat.le_of_ble_eq_true rfl) (by simp only [gset]; rfl) rfl ?_
  refine g_iconst (v := 0) (q := 8) C dX6_carry_7 (by decide) rfl ?_
  refine g_istore (q := 10) C dX6_carry_8 (Nat.le_of_ble_eq_true rfl) (by simp only [gset]; rfl) rfl ?_
  exact LL l.length 0 (by omega) h1 L A m [] 0 none none (H.kept (fun k ha hb => fr1 k (by omega) (by omega))) HC1 (by omega) (by omega) (Nat.le_refl _) (Or.inl (by rw [List.take_zero])) (Or.inl rfl) (gFC.rf.r fr1)
  
