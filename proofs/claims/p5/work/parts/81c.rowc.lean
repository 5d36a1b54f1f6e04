/-! A ROW COPIED, BY SHAPE (by program: wip/p2t/m_rowc.py) -/
theorem gm3t {a b c : Nat} (h1 : a ≤ b) (hb : b < 2 ^ 31) (hc : c < 2 ^ 31) : gmin (nI a) (gmin (Int32.ofNat b) (Int32.ofNat c)) = nI (min a c) := by
  have e := gmn hb hc
  unfold nI at e
  rw [e, show Int32.ofNat (min b c) = nI (min b c) from rfl, gmn (by omega) (by omega)]
  congr 1
  omega
theorem gcpyT {f2 f : Nat → Int32} {l2 : List Int32} {q n : Nat} (hq : q < 2 ^ 31) (hqe : min l2.length n = q) (hf2 : ∀ j, j < l2.length → f2 j = l2.getD j 0) : ∀ j, j < (l2.take n).length → va_cpy f2 f (Int32.toNatClampNeg 0) (Int32.toNatClampNeg 0) (Int32.toNatClampNeg (nI q)) j = (l2.take n).getD j 0 := by
  intro j hj
  rw [List.length_take] at hj
  have e0 : Int32.toNatClampNeg 0 = 0 := by decide
  rw [e0, nI_clamp hq, va_cpy, if_pos ⟨Nat.zero_le _, by omega⟩, Nat.zero_add, Nat.sub_zero]
  rw [hf2 j (by omega), List.getD_eq_getElem?_getD, List.getD_eq_getElem?_getD, List.getElem?_take_of_lt (by omega)]
set_option maxRecDepth 100000 in
set_option maxHeartbeats 4000000 in
theorem c_X4_copy_t {hp : List gA} {r a n : Nat} {l : List Int32} {r2 a2 n2 : Nat} {l2 : List Int32} (H : gRw hp r a n l) (H2 : gRw hp r2 a2 n2 l2) : gM yX4_copy cX4_copy 3 (none) 1 60 [.ref r, .ref r2] (hp) (0) (0) (fun v h => v = none ∧ (gRw h r a n (l2.take n) ∧ gFr hp h r a)) := by
  obtain ⟨f, hr, ha, hle, hn, hf⟩ := H
  have hlt : l.length < 2 ^ 31 := by omega
  have hnt : n < 2 ^ 31 := by omega
  obtain ⟨f2, hr2, ha2, hle2, hn2, hf2⟩ := H2
  have hlt2 : l2.length < 2 ^ 31 := by omega
  have hnt2 : n2 < 2 ^ 31 := by omega
  obtain ⟨q, hqe⟩ : ∃ q, min l2.length n = q := ⟨_, rfl⟩
  have hqt : q < 2 ^ 31 := by omega
  have hql : (l2.take n).length = q := by rw [List.length_take]; omega
  have hra : r ≠ a := gne hr ha (by intro h; cases h)
  refine gM_of (ls0 := [some (.ref r), some (.ref r2), none]) (by decide +kernel) (Nat.le_of_ble_eq_true rfl) rfl fun X C E => ?_
  refine g_aload_n (q := 1) C dX4_copy_0 rfl rfl ?_
  refine g_getfield (q := 4) C fX4_7 dX4_copy_1 rfl hr2 rfl ?_
  refine g_aload_n (q := 5) C dX4_copy_4 rfl rfl ?_
  refine g_getfield (q := 8) C fX4_19 dX4_copy_5 rfl hr2 rfl ?_
  refine g_arraylength (q := 9) C dX4_copy_8 rfl ha2 rfl ?_
  refine g_aload_n (q := 10) C dX4_copy_9 rfl rfl ?_
  refine g_getfield (q := 13) C fX4_19 dX4_copy_10 rfl hr rfl ?_
  refine g_arraylength (q := 14) C dX4_copy_13 rfl ha rfl ?_
  refine g_callSi (q := 17) (As := [.int _, .int _]) C gyJ9_min_7cf53 t_476 t_475 (c_J9_min_7cf53) dX4_copy_14 rfl rfl rfl (Nat.le_of_ble_eq_true rfl) (Nat.le_of_ble_eq_true rfl) (Nat.le_of_ble_eq_true rfl) (Nat.le_of_ble_eq_true rfl) (Nat.le_of_ble_eq_true rfl) rfl ?_
  refine g_callSi (q := 20) (As := [.int ((nI l2.length)), .int _]) C gyJ9_min_7cf53 t_476 t_475 (c_J9_min_7cf53) dX4_copy_17 rfl rfl rfl (Nat.le_of_ble_eq_true rfl) (Nat.le_of_ble_eq_true rfl) (Nat.le_of_ble_eq_true rfl) (Nat.le_of_ble_eq_true rfl) (Nat.le_of_ble_eq_true rfl) rfl ?_
  rw [gm3t hle2 hnt2 hnt, hqe]
  refine g_istore_n (q := 21) C dX4_copy_20 (Nat.le_of_ble_eq_true rfl) (by simp only [gset]; rfl) rfl ?_
  refine g_iload_n (q := 22) C dX4_copy_21 rfl rfl ?_
  refine g_if_le (t := 39) (q := 25) C dX4_copy_22 (by decide) rfl (fun c_22 => ?_) (fun c_22 => ?_)
  · -- to 39
    refine g_aload_n (q := 40) C dX4_copy_39 rfl rfl ?_
    refine g_iconst (v := 0) (q := 41) C dX4_copy_40 (by decide) rfl ?_
    refine g_iload_n (q := 42) C dX4_copy_41 rfl rfl ?_
    refine g_callSi (q := 45) (As := [.int 0, .int _]) C gyJ9_max_7cf53 t_132 t_131 (c_J9_max_7cf53) dX4_copy_42 rfl rfl rfl (Nat.le_of_ble_eq_true rfl) (Nat.le_of_ble_eq_true rfl) (Nat.le_of_ble_eq_true rfl) (Nat.le_of_ble_eq_true rfl) (Nat.le_of_ble_eq_true rfl) rfl ?_
    refine g_putfield (q := 48) C fX4_7 dX4_copy_45 rfl hr (Nat.le_of_ble_eq_true rfl) (Or.inl rfl) rfl rfl (by intro z h; cases h) ?_
    exact E.2.1 _ _ _ _ _ dX4_copy_48 rfl (Nat.le_of_ble_eq_true rfl) (Nat.le_of_ble_eq_true rfl) ⟨rfl, ⟨f, by rw [gset_self hr, gmx hqt, hql]; rfl, gset_other ha hra, by omega, hn, fun j hj => by rw [hql, gle0 hqt c_22] at hj; omega⟩, fun k h1 h2 => List.getElem?_set_ne (Ne.symm h1)⟩
  · -- to 25
    refine g_aload_n (q := 26) C dX4_copy_25 rfl rfl ?_
    refine g_getfield (q := 29) C fX4_19 dX4_copy_26 rfl hr2 rfl ?_
    refine g_iconst (v := 0) (q := 30) C dX4_copy_29 (by decide) rfl ?_
    refine g_aload_n (q := 31) C dX4_copy_30 rfl rfl ?_
    refine g_getfield (q := 34) C fX4_19 dX4_copy_31 rfl hr rfl ?_
    refine g_iconst (v := 0) (q := 35) C dX4_copy_34 (by decide) rfl ?_
    refine g_iload_n (q := 36) C dX4_copy_35 rfl rfl ?_
    refine g_copy (q := 39) C t_630 (gW_of (List.mem_of_getElem? (i := 491) (by decide +kernel)) rfl) t_490 t_112 dX4_copy_36 rfl rfl ha2 ha (by decide) (by decide) (nI_pos hqt) (by rw [nI_clamp hqt]; show 0 + _ ≤ _; omega) (by rw [nI_clamp hqt]; show 0 + _ ≤ _; omega) (Nat.le_of_ble_eq_true rfl) (Nat.le_of_ble_eq_true rfl) ?_
    refine g_aload_n (q := 40) C dX4_copy_39 rfl rfl ?_
    refine g_iconst (v := 0) (q := 41) C dX4_copy_40 (by decide) rfl ?_
    refine g_iload_n (q := 42) C dX4_copy_41 rfl rfl ?_
    refine g_callSi (q := 45) (As := [.int 0, .int _]) C gyJ9_max_7cf53 t_132 t_131 (c_J9_max_7cf53) dX4_copy_42 rfl rfl rfl (Nat.le_of_ble_eq_true rfl) (Nat.le_of_ble_eq_true rfl) (Nat.le_of_ble_eq_true rfl) (Nat.le_of_ble_eq_true rfl) (Nat.le_of_ble_eq_true rfl) rfl ?_
    refine g_putfield (q := 48) C fX4_7 dX4_copy_45 rfl (gset_other hr (Ne.symm hra)) (Nat.le_of_ble_eq_true rfl) (Or.inl rfl) rfl rfl (by intro z h; cases h) ?_
    exact E.2.1 _ _ _ _ _ dX4_copy_48 rfl (Nat.le_of_ble_eq_true rfl) (Nat.le_of_ble_eq_true rfl) ⟨rfl, ⟨_, by rw [gset_self (gset_other hr (Ne.symm hra)), gmx hqt, hql]; rfl, gset_other (gset_self ha) hra, by omega, hn, gcpyT hqt hqe hf2⟩, fun k h1 h2 => by rw [List.getElem?_set_ne (Ne.symm h1), List.getElem?_set_ne (Ne.symm h2)]⟩
theorem tX4_copy {T : tyT} {R : Nat} {J : Nat → Prop} {Bc Bs : Nat} {M : gMd} {z : Nat → Nat} {hp : List gA} {k m k2 m2 : Nat} (H : tyS T R J Bc Bs M z hp) (hk : tyK k = (1, m)) (hm : ¬ (m = 96 ∨ m = 15)) (hk2 : tyK k2 = (1, m2)) : gM yX4_copy cX4_copy 3 (none) 1 60 [.ref k, .ref k2] (hp) (0) (0) (fun v h => v = none ∧ tyS T R J Bc Bs M z h) := by
  obtain ⟨l, g, -⟩ := tyRow H hk
  obtain ⟨l2, g2, -⟩ := tyRow H hk2
  exact (c_X4_copy_t g g2).mp fun v h q => by obtain ⟨rfl, q1, q2⟩ := q; exact ⟨rfl, H.row hk q1 q2 ⟨fun e => absurd e (tyN1 hk hm), fun e => absurd e (tyN2 H hk hm)⟩⟩
