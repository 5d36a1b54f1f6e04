/-! the law's own reset answer read (by program: wip/p1/m_reset.py) -/
def gFQ (hp h : List gA) : Prop := ∀ k, (k < 119 ∨ 122 ≤ k) → h[k]? = hp[k]?
theorem gFQ.rf {hp : List gA} : gFQ hp hp := fun _ _ => rfl
theorem gFQ.trans {hp h h' : List gA} (a : gFQ hp h) (b : gFQ h h') : gFQ hp h' := fun k hk => (b k hk).trans (a k hk)
theorem gQput {X : gX} {p1 : Nat} {ls : List (Option Value)} {st : List Value} {hp : List gA} {cl sl : Nat} {q : gRs} {e : gA} {k : Nat} {x : Int32} (H : gRs_ hp 119 q) (he : e = gRsC 119 (q.set k x)) (kk : ∀ h, gRs_ h 119 (q.set k x) → gFQ hp h → gG X p1 ls st h cl sl) : gG X p1 ls st (hp.set 119 e) cl sl := by
  subst he
  have f : ∀ j, j ≠ 119 → (hp.set 119 (gRsC 119 (q.set k x)))[j]? = hp[j]? := fun j hj => List.getElem?_set_ne (Ne.symm hj)
  exact kk _ ⟨gset_self H.1, H.2.kept (f _ (by decide)) (f _ (by decide))⟩ (fun j hj => f j (by omega))
theorem gQrow {hp h : List gA} {q : gRs} {l : List Int32} (H : gRs_ hp 119 q) (z : gRw h 120 121 15 l ∧ gFr hp h 120 121) : gRs_ h 119 (q.sh l) ∧ gFQ hp h :=
  ⟨⟨(z.2 119 (by decide) (by decide)).trans H.1, z.1⟩, fun k hk => z.2 k (by omega) (by omega)⟩
theorem c_X4_at_v {hp : List gA} {r a n : Nat} {l : List Int32} {x y : Int32} (H : gRw hp r a n l) (e : gat l x = y) : gM yX4_at cX4_at 2 ((some .int)) 0 0 [.ref r, .int x] (hp) (0) (0) (fun v h => v = some (.int y) ∧ h = hp) := by
  subst e; exact c_X4_at_w H
def qX3_clear (q : gRs) (p c : Int32) : gRs := ((((((((q.set 1 17).set 2 0).set 3 0).set 4 0).set 5 32).set 6 0).sh []).set 9 0)
theorem dX3_clear_0 : decode cX3_clear 0 = .ok (.aload_n 0, 1) := by decide +kernel
theorem dX3_clear_1 : decode cX3_clear 1 = .ok (.bipush 17, 2) := by decide +kernel
theorem dX3_clear_3 : decode cX3_clear 3 = .ok (.putfield 38, 3) := by decide +kernel
theorem dX3_clear_6 : decode cX3_clear 6 = .ok (.aload_n 0, 1) := by decide +kernel
theorem dX3_clear_7 : decode cX3_clear 7 = .ok (.iconst 0, 1) := by decide +kernel
theorem dX3_clear_8 : decode cX3_clear 8 = .ok (.putfield 42, 3) := by decide +kernel
theorem dX3_clear_11 : decode cX3_clear 11 = .ok (.aload_n 0, 1) := by decide +kernel
theorem dX3_clear_12 : decode cX3_clear 12 = .ok (.iconst 0, 1) := by decide +kernel
theorem dX3_clear_13 : decode cX3_clear 13 = .ok (.putfield 45, 3) := by decide +kernel
theorem dX3_clear_16 : decode cX3_clear 16 = .ok (.aload_n 0, 1) := by decide +kernel
theorem dX3_clear_17 : decode cX3_clear 17 = .ok (.iconst 0, 1) := by decide +kernel
theorem dX3_clear_18 : decode cX3_clear 18 = .ok (.putfield 48, 3) := by decide +kernel
theorem dX3_clear_21 : decode cX3_clear 21 = .ok (.aload_n 0, 1) := by decide +kernel
theorem dX3_clear_22 : decode cX3_clear 22 = .ok (.bipush 32, 2) := by decide +kernel
theorem dX3_clear_24 : decode cX3_clear 24 = .ok (.putfield 51, 3) := by decide +kernel
theorem dX3_clear_27 : decode cX3_clear 27 = .ok (.aload_n 0, 1) := by decide +kernel
theorem dX3_clear_28 : decode cX3_clear 28 = .ok (.iconst 0, 1) := by decide +kernel
theorem dX3_clear_29 : decode cX3_clear 29 = .ok (.putfield 54, 3) := by decide +kernel
theorem dX3_clear_32 : decode cX3_clear 32 = .ok (.aload_n 0, 1) := by decide +kernel
theorem dX3_clear_33 : decode cX3_clear 33 = .ok (.getfield 14, 3) := by decide +kernel
theorem dX3_clear_36 : decode cX3_clear 36 = .ok (.iconst 0, 1) := by decide +kernel
theorem dX3_clear_37 : decode cX3_clear 37 = .ok (.invokevirtual 58, 3) := by decide +kernel
theorem dX3_clear_40 : decode cX3_clear 40 = .ok (.aload_n 0, 1) := by decide +kernel
theorem dX3_clear_41 : decode cX3_clear 41 = .ok (.iconst 0, 1) := by decide +kernel
theorem dX3_clear_42 : decode cX3_clear 42 = .ok (.putfield 62, 3) := by decide +kernel
theorem dX3_clear_45 : decode cX3_clear 45 = .ok (.return_, 1) := by decide +kernel
set_option maxRecDepth 100000 in
set_option maxHeartbeats 4000000 in
theorem c_X3_clear_q {hp : List gA} {q : gRs} {p c : Int32}  (HQ : gRs_ hp 119 q)  : gM yX3_clear cX3_clear 1 (none) 2 42 [.ref 119] (hp) (0) (0) (fun v h => v = none ∧ (gRs_ h 119 (qX3_clear q p c) ∧ gFQ hp h)) := by
  refine gM_of (ls0 := [some (.ref 119)]) (by decide +kernel) (Nat.le_of_ble_eq_true rfl) rfl fun X C E => ?_
  refine g_aload_n (q := 1) C dX3_clear_0 rfl rfl ?_
  refine g_bipush (v := 17) (q := 3) C dX3_clear_1 (by decide) rfl ?_
  refine g_putfield (q := 6) C fX3_38 dX3_clear_3 rfl HQ.1 (Nat.le_of_ble_eq_true rfl) (Or.inl rfl) rfl rfl (by intro z h; cases h) ?_
  refine gQput (k := 1) (x := 17) HQ rfl fun h1 HQ1 fq1 => ?_
  refine g_aload_n (q := 7) C dX3_clear_6 rfl rfl ?_
  refine g_iconst (v := 0) (q := 8) C dX3_clear_7 (by decide) rfl ?_
  refine g_putfield (q := 11) C fX3_42 dX3_clear_8 rfl HQ1.1 (Nat.le_of_ble_eq_true rfl) (Or.inl rfl) rfl rfl (by intro z h; cases h) ?_
  refine gQput (k := 2) (x := 0) HQ1 rfl fun h2 HQ2 fq2 => ?_
  refine g_aload_n (q := 12) C dX3_clear_11 rfl rfl ?_
  refine g_iconst (v := 0) (q := 13) C dX3_clear_12 (by decide) rfl ?_
  refine g_putfield (q := 16) C fX3_45 dX3_clear_13 rfl HQ2.1 (Nat.le_of_ble_eq_true rfl) (Or.inl rfl) rfl rfl (by intro z h; cases h) ?_
  refine gQput (k := 3) (x := 0) HQ2 rfl fun h3 HQ3 fq3 => ?_
  refine g_aload_n (q := 17) C dX3_clear_16 rfl rfl ?_
  refine g_iconst (v := 0) (q := 18) C dX3_clear_17 (by decide) rfl ?_
  refine g_putfield (q := 21) C fX3_48 dX3_clear_18 rfl HQ3.1 (Nat.le_of_ble_eq_true rfl) (Or.inl rfl) rfl rfl (by intro z h; cases h) ?_
  refine gQput (k := 4) (x := 0) HQ3 rfl fun h4 HQ4 fq4 => ?_
  refine g_aload_n (q := 22) C dX3_clear_21 rfl rfl ?_
  refine g_bipush (v := 32) (q := 24) C dX3_clear_22 (by decide) rfl ?_
  refine g_putfield (q := 27) C fX3_51 dX3_clear_24 rfl HQ4.1 (Nat.le_of_ble_eq_true rfl) (Or.inl rfl) rfl rfl (by intro z h; cases h) ?_
  refine gQput (k := 5) (x := 32) HQ4 rfl fun h5 HQ5 fq5 => ?_
  refine g_aload_n (q := 28) C dX3_clear_27 rfl rfl ?_
  refine g_iconst (v := 0) (q := 29) C dX3_clear_28 (by decide) rfl ?_
  refine g_putfield (q := 32) C fX3_54 dX3_clear_29 rfl HQ5.1 (Nat.le_of_ble_eq_true rfl) (Or.inl rfl) rfl rfl (by intro z h; cases h) ?_
  refine gQput (k := 6) (x := 0) HQ5 rfl fun h6 HQ6 fq6 => ?_
  refine g_aload_n (q := 33) C dX3_clear_32 rfl rfl ?_
  refine g_getfield (v := .ref 120) (q := 36) C fX3_14 dX3_clear_33 rfl HQ6.1 rfl ?_
  refine g_iconst (v := 0) (q := 37) C dX3_clear_36 (by decide) rfl ?_
  refine g_callVvp (q := 40) (As := [.int 0]) C gyX4_keep gvX4_keep t_406 (c_X4_keep0 HQ6.2) dX3_clear_37 rfl (gRw.obj HQ6.2) rfl rfl rfl (Nat.le_of_ble_eq_true rfl) (Nat.le_of_ble_eq_true rfl) (Nat.le_of_ble_eq_true rfl) (Nat.le_of_ble_eq_true rfl) (Nat.le_of_ble_eq_true rfl) rfl (fun h7 z7 => ?_)
  obtain ⟨HQ7, fq7⟩ := gQrow HQ6 z7
  refine g_aload_n (q := 41) C dX3_clear_40 rfl rfl ?_
  refine g_iconst (v := 0) (q := 42) C dX3_clear_41 (by decide) rfl ?_
  refine g_putfield (q := 45) C fX3_62 dX3_clear_42 rfl HQ7.1 (Nat.le_of_ble_eq_true rfl) (Or.inl rfl) rfl rfl (by intro z h; cases h) ?_
  refine gQput (k := 9) (x := 0) HQ7 rfl fun h8 HQ8 fq8 => ?_
  exact E.2.1 _ _ _ _ _ dX3_clear_45 rfl (Nat.le_of_ble_eq_true rfl) (Nat.le_of_ble_eq_true rfl) ⟨rfl, HQ8, (gFQ.trans (gFQ.trans (gFQ.trans (gFQ.trans (gFQ.trans (gFQ.trans (gFQ.trans fq1 fq2) fq3) fq4) fq5) fq6) fq7) fq8)⟩
def qX3_readHead (q : gRs) (p c : Int32) : gRs := (((q.set 0 59).set 8 ((130 : Int32) >>> (4 &&& 31))).set 7 2)
theorem dX3_readHead_0 : decode cX3_readHead 0 = .ok (.aload_n 1, 1) := by decide +kernel
theorem dX3_readHead_1 : decode cX3_readHead 1 = .ok (.invokevirtual 65, 3) := by decide +kernel
theorem dX3_readHead_4 : decode cX3_readHead 4 = .ok (.ifCond .ne 9, 3) := by decide +kernel
theorem dX3_readHead_13 : decode cX3_readHead 13 = .ok (.aload_n 0, 1) := by decide +kernel
theorem dX3_readHead_14 : decode cX3_readHead 14 = .ok (.aload_n 1, 1) := by decide +kernel
theorem dX3_readHead_15 : decode cX3_readHead 15 = .ok (.iconst 0, 1) := by decide +kernel
theorem dX3_readHead_16 : decode cX3_readHead 16 = .ok (.invokevirtual 30, 3) := by decide +kernel
theorem dX3_readHead_19 : decode cX3_readHead 19 = .ok (.putfield 73, 3) := by decide +kernel
theorem dX3_readHead_22 : decode cX3_readHead 22 = .ok (.aload_n 0, 1) := by decide +kernel
theorem dX3_readHead_23 : decode cX3_readHead 23 = .ok (.getfield 73, 3) := by decide +kernel
theorem dX3_readHead_26 : decode cX3_readHead 26 = .ok (.bipush 59, 2) := by decide +kernel
theorem dX3_readHead_28 : decode cX3_readHead 28 = .ok (.if_icmp .eq 18, 3) := by decide +kernel
theorem dX3_readHead_46 : decode cX3_readHead 46 = .ok (.aload_n 1, 1) := by decide +kernel
theorem dX3_readHead_47 : decode cX3_readHead 47 = .ok (.invokevirtual 65, 3) := by decide +kernel
theorem dX3_readHead_50 : decode cX3_readHead 50 = .ok (.iconst 1, 1) := by decide +kernel
theorem dX3_readHead_51 : decode cX3_readHead 51 = .ok (.if_icmp .ne 9, 3) := by decide +kernel
theorem dX3_readHead_60 : decode cX3_readHead 60 = .ok (.aload_n 0, 1) := by decide +kernel
theorem dX3_readHead_61 : decode cX3_readHead 61 = .ok (.aload_n 1, 1) := by decide +kernel
theorem dX3_readHead_62 : decode cX3_readHead 62 = .ok (.iconst 1, 1) := by decide +kernel
theorem dX3_readHead_63 : decode cX3_readHead 63 = .ok (.invokevirtual 30, 3) := by decide +kernel
theorem dX3_readHead_66 : decode cX3_readHead 66 = .ok (.iconst 4, 1) := by decide +kernel
theorem dX3_readHead_67 : decode cX3_readHead 67 = .ok (.ishr, 1) := by decide +kernel
theorem dX3_readHead_68 : decode cX3_readHead 68 = .ok (.putfield 76, 3) := by decide +kernel
theorem dX3_readHead_71 : decode cX3_readHead 71 = .ok (.aload_n 0, 1) := by decide +kernel
theorem dX3_readHead_72 : decode cX3_readHead 72 = .ok (.iconst 2, 1) := by decide +kernel
theorem dX3_readHead_73 : decode cX3_readHead 73 = .ok (.putfield 79, 3) := by decide +kernel
theorem dX3_readHead_76 : decode cX3_readHead 76 = .ok (.iconst 0, 1) := by decide +kernel
theorem dX3_readHead_77 : decode cX3_readHead 77 = .ok (.ireturn, 1) := by decide +kernel
set_option maxRecDepth 100000 in
set_option maxHeartbeats 4000000 in
theorem c_X3_readHead_q {hp : List gA} {q : gRs} {p c : Int32}  (HQ : gRs_ hp 119 q) (HT : gRw hp 1 2 96 [59, 130, 129, 17, p, 65, 66, c])  : gM yX3_readHead cX3_readHead 2 ((some .int)) 1 21 [.ref 119, .ref 1] (hp) (0) (0) (fun v h => v = some (.int (0)) ∧ (gRs_ h 119 (qX3_readHead q p c) ∧ gFQ hp h)) := by
  refine gM_of (ls0 := [some (.ref 119), some (.ref 1)]) (by decide +kernel) (Nat.le_of_ble_eq_true rfl) rfl fun X C E => ?_
  refine g_aload_n (q := 1) C dX3_readHead_0 rfl rfl ?_
  refine g_callVi (x := 8) (q := 4) (As := []) C gyX4_size gvX4_size t_417 (c_X4_size (gRw.obj HT)) dX3_readHead_1 rfl (gRw.obj HT) rfl rfl rfl (Nat.le_of_ble_eq_true rfl) (Nat.le_of_ble_eq_true rfl) (Nat.le_of_ble_eq_true rfl) (Nat.le_of_ble_eq_true rfl) (Nat.le_of_ble_eq_true rfl) rfl ?_
  refine g_if_ne_t (t := 13) C dX3_readHead_4 (by decide) (by decide) ?_
  refine g_aload_n (q := 14) C dX3_readHead_13 rfl rfl ?_
  refine g_aload_n (q := 15) C dX3_readHead_14 rfl rfl ?_
  refine g_iconst (v := 0) (q := 16) C dX3_readHead_15 (by decide) rfl ?_
  refine g_callVi (x := 59) (q := 19) (As := [.int 0]) C gyX4_at gvX4_at t_424 (c_X4_at_v HT (y := 59) (gat_nI (i := 0) (by decide))) dX3_readHead_16 rfl (gRw.obj HT) rfl rfl rfl (Nat.le_of_ble_eq_true rfl) (Nat.le_of_ble_eq_true rfl) (Nat.le_of_ble_eq_true rfl) (Nat.le_of_ble_eq_true rfl) (Nat.le_of_ble_eq_true rfl) rfl ?_
  refine g_putfield (q := 22) C fX3_73 dX3_readHead_19 rfl HQ.1 (Nat.le_of_ble_eq_true rfl) (Or.inl rfl) rfl rfl (by intro z h; cases h) ?_
  refine gQput (k := 0) (x := 59) HQ rfl fun h1 HQ1 fq1 => ?_
  have HT1 : gRw h1 1 2 96 [59, 130, 129, 17, p, 65, 66, c] := HT.kept (fq1 1 (by decide)) (fq1 2 (by decide))
  refine g_aload_n (q := 23) C dX3_readHead_22 rfl rfl ?_
  refine g_getfield (v := .int 59) (q := 26) C fX3_73 dX3_readHead_23 rfl HQ1.1 rfl ?_
  refine g_bipush (v := 59) (q := 28) C dX3_readHead_26 (by decide) rfl ?_
  refine g_icmp_eq_t (t := 46) C dX3_readHead_28 (by decide) (by decide) ?_
  refine g_aload_n (q := 47) C dX3_readHead_46 rfl rfl ?_
  refine g_callVi (x := 8) (q := 50) (As := []) C gyX4_size gvX4_size t_417 (c_X4_size (gRw.obj HT1)) dX3_readHead_47 rfl (gRw.obj HT1) rfl rfl rfl (Nat.le_of_ble_eq_true rfl) (Nat.le_of_ble_eq_true rfl) (Nat.le_of_ble_eq_true rfl) (Nat.le_of_ble_eq_true rfl) (Nat.le_of_ble_eq_true rfl) rfl ?_
  refine g_iconst (v := 1) (q := 51) C dX3_readHead_50 (by decide) rfl ?_
  refine g_icmp_ne_t (t := 60) C dX3_readHead_51 (by decide) (by decide) ?_
  refine g_aload_n (q := 61) C dX3_readHead_60 rfl rfl ?_
  refine g_aload_n (q := 62) C dX3_readHead_61 rfl rfl ?_
  refine g_iconst (v := 1) (q := 63) C dX3_readHead_62 (by decide) rfl ?_
  refine g_callVi (x := 130) (q := 66) (As := [.int 1]) C gyX4_at gvX4_at t_424 (c_X4_at_v HT1 (y := 130) (gat_nI (i := 1) (by decide))) dX3_readHead_63 rfl (gRw.obj HT1) rfl rfl rfl (Nat.le_of_ble_eq_true rfl) (Nat.le_of_ble_eq_true rfl) (Nat.le_of_ble_eq_true rfl) (Nat.le_of_ble_eq_true rfl) (Nat.le_of_ble_eq_true rfl) rfl ?_
  refine g_iconst (v := 4) (q := 67) C dX3_readHead_66 (by decide) rfl ?_
  refine g_ishr (q := 68) C dX3_readHead_67 rfl ?_
  refine g_putfield (q := 71) C fX3_76 dX3_readHead_68 rfl HQ1.1 (Nat.le_of_ble_eq_true rfl) (Or.inl rfl) rfl rfl (by intro z h; cases h) ?_
  refine gQput (k := 8) (x := ((130 : Int32) >>> (4 &&& 31))) HQ1 rfl fun h2 HQ2 fq2 => ?_
  have HT2 : gRw h2 1 2 96 [59, 130, 129, 17, p, 65, 66, c] := HT1.kept (fq2 1 (by decide)) (fq2 2 (by decide))
  refine g_aload_n (q := 72) C dX3_readHead_71 rfl rfl ?_
  refine g_iconst (v := 2) (q := 73) C dX3_readHead_72 (by decide) rfl ?_
  refine g_putfield (q := 76) C fX3_79 dX3_readHead_73 rfl HQ2.1 (Nat.le_of_ble_eq_true rfl) (Or.inl rfl) rfl rfl (by intro z h; cases h) ?_
  refine gQput (k := 7) (x := 2) HQ2 rfl fun h3 HQ3 fq3 => ?_
  have HT3 : gRw h3 1 2 96 [59, 130, 129, 17, p, 65, 66, c] := HT2.kept (fq3 1 (by decide)) (fq3 2 (by decide))
  refine g_iconst (v := 0) (q := 77) C dX3_readHead_76 (by decide) rfl ?_
  exact E.1 _ _ _ _ _ _ _ dX3_readHead_77 rfl rfl (Nat.le_of_ble_eq_true rfl) (Nat.le_of_ble_eq_true rfl) ⟨rfl, HQ3, (gFQ.trans (gFQ.trans fq1 fq2) fq3)⟩
def qX3_readTd_1 (q : gRs) (p c : Int32) : gRs := (((q.set 8 ((129 : Int32) >>> (4 &&& 31))).set 3 1).set 6 1)
theorem dX3_readTd_0 : decode cX3_readTd 0 = .ok (.iload_n 2, 1) := by decide +kernel
theorem dX3_readTd_1 : decode cX3_readTd 1 = .ok (.bipush 15, 2) := by decide +kernel
theorem dX3_readTd_3 : decode cX3_readTd 3 = .ok (.iand, 1) := by decide +kernel
theorem dX3_readTd_4 : decode cX3_readTd 4 = .ok (.istore_n 3, 1) := by decide +kernel
theorem dX3_readTd_5 : decode cX3_readTd 5 = .ok (.aload_n 0, 1) := by decide +kernel
theorem dX3_readTd_6 : decode cX3_readTd 6 = .ok (.iload_n 2, 1) := by decide +kernel
theorem dX3_readTd_7 : decode cX3_readTd 7 = .ok (.iconst 4, 1) := by decide +kernel
theorem dX3_readTd_8 : decode cX3_readTd 8 = .ok (.ishr, 1) := by decide +kernel
theorem dX3_readTd_9 : decode cX3_readTd 9 = .ok (.putfield 76, 3) := by decide +kernel
theorem dX3_readTd_12 : decode cX3_readTd 12 = .ok (.iload_n 3, 1) := by decide +kernel
theorem dX3_readTd_13 : decode cX3_readTd 13 = .ok (.ifCond .eq 14, 3) := by decide +kernel
theorem dX3_readTd_16 : decode cX3_readTd 16 = .ok (.iload_n 3, 1) := by decide +kernel
theorem dX3_readTd_17 : decode cX3_readTd 17 = .ok (.iconst 1, 1) := by decide +kernel
theorem dX3_readTd_18 : decode cX3_readTd 18 = .ok (.if_icmp .eq 9, 3) := by decide +kernel
theorem dX3_readTd_27 : decode cX3_readTd 27 = .ok (.iload_n 1, 1) := by decide +kernel
theorem dX3_readTd_28 : decode cX3_readTd 28 = .ok (.iconst 4, 1) := by decide +kernel
theorem dX3_readTd_29 : decode cX3_readTd 29 = .ok (.if_icmp .ne 12, 3) := by decide +kernel
theorem dX3_readTd_41 : decode cX3_readTd 41 = .ok (.iload_n 1, 1) := by decide +kernel
theorem dX3_readTd_42 : decode cX3_readTd 42 = .ok (.iconst 1, 1) := by decide +kernel
theorem dX3_readTd_43 : decode cX3_readTd 43 = .ok (.if_icmp .ne 11, 3) := by decide +kernel
theorem dX3_readTd_46 : decode cX3_readTd 46 = .ok (.aload_n 0, 1) := by decide +kernel
theorem dX3_readTd_47 : decode cX3_readTd 47 = .ok (.iload_n 3, 1) := by decide +kernel
theorem dX3_readTd_48 : decode cX3_readTd 48 = .ok (.putfield 45, 3) := by decide +kernel
theorem dX3_readTd_51 : decode cX3_readTd 51 = .ok (.goto 22, 3) := by decide +kernel
theorem dX3_readTd_73 : decode cX3_readTd 73 = .ok (.iload_n 3, 1) := by decide +kernel
theorem dX3_readTd_74 : decode cX3_readTd 74 = .ok (.ifCond .eq 8, 3) := by decide +kernel
theorem dX3_readTd_77 : decode cX3_readTd 77 = .ok (.aload_n 0, 1) := by decide +kernel
theorem dX3_readTd_78 : decode cX3_readTd 78 = .ok (.iconst 1, 1) := by decide +kernel
theorem dX3_readTd_79 : decode cX3_readTd 79 = .ok (.putfield 54, 3) := by decide +kernel
theorem dX3_readTd_82 : decode cX3_readTd 82 = .ok (.iconst 0, 1) := by decide +kernel
theorem dX3_readTd_83 : decode cX3_readTd 83 = .ok (.ireturn, 1) := by decide +kernel
set_option maxRecDepth 100000 in
set_option maxHeartbeats 4000000 in
theorem c_X3_readTd_1_q {hp : List gA} {q : gRs} {p c : Int32}  (HQ : gRs_ hp 119 q)  : gM yX3_readTd cX3_readTd 4 ((some .int)) 0 0 [.ref 119, .int 1, .int 129] (hp) (0) (0) (fun v h => v = some (.int (0)) ∧ (gRs_ h 119 (qX3_readTd_1 q p c) ∧ gFQ hp h)) := by
  refine gM_of (ls0 := [some (.ref 119), some (.int 1), some (.int 129), none]) (by decide +kernel) (Nat.le_of_ble_eq_true rfl) rfl fun X C E => ?_
  refine g_iload_n (q := 1) C dX3_readTd_0 rfl rfl ?_
  refine g_bipush (v := 15) (q := 3) C dX3_readTd_1 (by decide) rfl ?_
  refine g_iand (q := 4) C dX3_readTd_3 rfl ?_
  refine g_istore_n (q := 5) C dX3_readTd_4 (Nat.le_of_ble_eq_true rfl) (by simp only [gset]; rfl) rfl ?_
  refine g_aload_n (q := 6) C dX3_readTd_5 rfl rfl ?_
  refine g_iload_n (q := 7) C dX3_readTd_6 rfl rfl ?_
  refine g_iconst (v := 4) (q := 8) C dX3_readTd_7 (by decide) rfl ?_
  refine g_ishr (q := 9) C dX3_readTd_8 rfl ?_
  refine g_putfield (q := 12) C fX3_76 dX3_readTd_9 rfl HQ.1 (Nat.le_of_ble_eq_true rfl) (Or.inl rfl) rfl rfl (by intro z h; cases h) ?_
  refine gQput (k := 8) (x := ((129 : Int32) >>> (4 &&& 31))) HQ rfl fun h1 HQ1 fq1 => ?_
  refine g_iload_n (q := 13) C dX3_readTd_12 rfl rfl ?_
  refine g_if_eq_f (t := 27) (q := 16) C dX3_readTd_13 (by decide) rfl (by decide) ?_
  refine g_iload_n (q := 17) C dX3_readTd_16 rfl rfl ?_
  refine g_iconst (v := 1) (q := 18) C dX3_readTd_17 (by decide) rfl ?_
  refine g_icmp_eq_t (t := 27) C dX3_readTd_18 (by decide) (by decide) ?_
  refine g_iload_n (q := 28) C dX3_readTd_27 rfl rfl ?_
  refine g_iconst (v := 4) (q := 29) C dX3_readTd_28 (by decide) rfl ?_
  refine g_icmp_ne_t (t := 41) C dX3_readTd_29 (by decide) (by decide) ?_
  refine g_iload_n (q := 42) C dX3_readTd_41 rfl rfl ?_
  refine g_iconst (v := 1) (q := 43) C dX3_readTd_42 (by decide) rfl ?_
  refine g_icmp_ne_f (t := 54) (q := 46) C dX3_readTd_43 (by decide) rfl (by decide) ?_
  refine g_aload_n (q := 47) C dX3_readTd_46 rfl rfl ?_
  refine g_iload_n (q := 48) C dX3_readTd_47 rfl rfl ?_
  refine g_putfield (q := 51) C fX3_45 dX3_readTd_48 rfl HQ1.1 (Nat.le_of_ble_eq_true rfl) (Or.inl rfl) rfl rfl (by intro z h; cases h) ?_
  refine gQput (k := 3) (x := 1) HQ1 rfl fun h2 HQ2 fq2 => ?_
  refine g_goto (q := 73) C dX3_readTd_51 (by decide) ?_
  refine g_iload_n (q := 74) C dX3_readTd_73 rfl rfl ?_
  refine g_if_eq_f (t := 82) (q := 77) C dX3_readTd_74 (by decide) rfl (by decide) ?_
  refine g_aload_n (q := 78) C dX3_readTd_77 rfl rfl ?_
  refine g_iconst (v := 1) (q := 79) C dX3_readTd_78 (by decide) rfl ?_
  refine g_putfield (q := 82) C fX3_54 dX3_readTd_79 rfl HQ2.1 (Nat.le_of_ble_eq_true rfl) (Or.inl rfl) rfl rfl (by intro z h; cases h) ?_
  refine gQput (k := 6) (x := 1) HQ2 rfl fun h3 HQ3 fq3 => ?_
  refine g_iconst (v := 0) (q := 83) C dX3_readTd_82 (by decide) rfl ?_
  exact E.1 _ _ _ _ _ _ _ dX3_readTd_83 rfl rfl (Nat.le_of_ble_eq_true rfl) (Nat.le_of_ble_eq_true rfl) ⟨rfl, HQ3, (gFQ.trans (gFQ.trans fq1 fq2) fq3)⟩
def qX3_readTd_2 (q : gRs) (p c : Int32) : gRs := (((q.set 8 ((17 : Int32) >>> (4 &&& 31))).set 9 3).set 6 1)
theorem dX3_readTd_54 : decode cX3_readTd 54 = .ok (.iload_n 3, 1) := by decide +kernel
theorem dX3_readTd_55 : decode cX3_readTd 55 = .ok (.iconst 1, 1) := by decide +kernel
theorem dX3_readTd_56 : decode cX3_readTd 56 = .ok (.if_icmp .ne 17, 3) := by decide +kernel
theorem dX3_readTd_59 : decode cX3_readTd 59 = .ok (.aload_n 0, 1) := by decide +kernel
theorem dX3_readTd_60 : decode cX3_readTd 60 = .ok (.getfield 62, 3) := by decide +kernel
theorem dX3_readTd_63 : decode cX3_readTd 63 = .ok (.ifCond .ne 10, 3) := by decide +kernel
theorem dX3_readTd_66 : decode cX3_readTd 66 = .ok (.aload_n 0, 1) := by decide +kernel
theorem dX3_readTd_67 : decode cX3_readTd 67 = .ok (.iload_n 1, 1) := by decide +kernel
theorem dX3_readTd_68 : decode cX3_readTd 68 = .ok (.iconst 1, 1) := by decide +kernel
theorem dX3_readTd_69 : decode cX3_readTd 69 = .ok (.iadd, 1) := by decide +kernel
theorem dX3_readTd_70 : decode cX3_readTd 70 = .ok (.putfield 62, 3) := by decide +kernel
set_option maxRecDepth 100000 in
set_option maxHeartbeats 4000000 in
theorem c_X3_readTd_2_q {hp : List gA} {q : gRs} {p c : Int32}  (HQ : gRs_ hp 119 q) (hlg : q.lg = 0) : gM yX3_readTd cX3_readTd 4 ((some .int)) 0 0 [.ref 119, .int 2, .int 17] (hp) (0) (0) (fun v h => v = some (.int (0)) ∧ (gRs_ h 119 (qX3_readTd_2 q p c) ∧ gFQ hp h)) := by
  refine gM_of (ls0 := [some (.ref 119), some (.int 2), some (.int 17), none]) (by decide +kernel) (Nat.le_of_ble_eq_true rfl) rfl fun X C E => ?_
  refine g_iload_n (q := 1) C dX3_readTd_0 rfl rfl ?_
  refine g_bipush (v := 15) (q := 3) C dX3_readTd_1 (by decide) rfl ?_
  refine g_iand (q := 4) C dX3_readTd_3 rfl ?_
  refine g_istore_n (q := 5) C dX3_readTd_4 (Nat.le_of_ble_eq_true rfl) (by simp only [gset]; rfl) rfl ?_
  refine g_aload_n (q := 6) C dX3_readTd_5 rfl rfl ?_
  refine g_iload_n (q := 7) C dX3_readTd_6 rfl rfl ?_
  refine g_iconst (v := 4) (q := 8) C dX3_readTd_7 (by decide) rfl ?_
  refine g_ishr (q := 9) C dX3_readTd_8 rfl ?_
  refine g_putfield (q := 12) C fX3_76 dX3_readTd_9 rfl HQ.1 (Nat.le_of_ble_eq_true rfl) (Or.inl rfl) rfl rfl (by intro z h; cases h) ?_
  refine gQput (k := 8) (x := ((17 : Int32) >>> (4 &&& 31))) HQ rfl fun h1 HQ1 fq1 => ?_
  refine g_iload_n (q := 13) C dX3_readTd_12 rfl rfl ?_
  refine g_if_eq_f (t := 27) (q := 16) C dX3_readTd_13 (by decide) rfl (by decide) ?_
  refine g_iload_n (q := 17) C dX3_readTd_16 rfl rfl ?_
  refine g_iconst (v := 1) (q := 18) C dX3_readTd_17 (by decide) rfl ?_
  refine g_icmp_eq_t (t := 27) C dX3_readTd_18 (by decide) (by decide) ?_
  refine g_iload_n (q := 28) C dX3_readTd_27 rfl rfl ?_
  refine g_iconst (v := 4) (q := 29) C dX3_readTd_28 (by decide) rfl ?_
  refine g_icmp_ne_t (t := 41) C dX3_readTd_29 (by decide) (by decide) ?_
  refine g_iload_n (q := 42) C dX3_readTd_41 rfl rfl ?_
  refine g_iconst (v := 1) (q := 43) C dX3_readTd_42 (by decide) rfl ?_
  refine g_icmp_ne_t (t := 54) C dX3_readTd_43 (by decide) (by decide) ?_
  refine g_iload_n (q := 55) C dX3_readTd_54 rfl rfl ?_
  refine g_iconst (v := 1) (q := 56) C dX3_readTd_55 (by decide) rfl ?_
  refine g_icmp_ne_f (t := 73) (q := 59) C dX3_readTd_56 (by decide) rfl (by decide) ?_
  refine g_aload_n (q := 60) C dX3_readTd_59 rfl rfl ?_
  refine g_getfield (v := .int ((q.set 8 ((17 : Int32) >>> (4 &&& 31))).lg)) (q := 63) C fX3_62 dX3_readTd_60 rfl HQ1.1 rfl ?_
  refine g_if_ne_f (t := 73) (q := 66) C dX3_readTd_63 (by decide) rfl hlg ?_
  refine g_aload_n (q := 67) C dX3_readTd_66 rfl rfl ?_
  refine g_iload_n (q := 68) C dX3_readTd_67 rfl rfl ?_
  refine g_iconst (v := 1) (q := 69) C dX3_readTd_68 (by decide) rfl ?_
  refine g_iadd (q := 70) C dX3_readTd_69 rfl ?_
  refine g_putfield (q := 73) C fX3_62 dX3_readTd_70 rfl HQ1.1 (Nat.le_of_ble_eq_true rfl) (Or.inl rfl) rfl rfl (by intro z h; cases h) ?_
  refine gQput (k := 9) (x := 3) HQ1 rfl fun h2 HQ2 fq2 => ?_
  refine g_iload_n (q := 74) C dX3_readTd_73 rfl rfl ?_
  refine g_if_eq_f (t := 82) (q := 77) C dX3_readTd_74 (by decide) rfl (by decide) ?_
  refine g_aload_n (q := 78) C dX3_readTd_77 rfl rfl ?_
  refine g_iconst (v := 1) (q := 79) C dX3_readTd_78 (by decide) rfl ?_
  refine g_putfield (q := 82) C fX3_54 dX3_readTd_79 rfl HQ2.1 (Nat.le_of_ble_eq_true rfl) (Or.inl rfl) rfl rfl (by intro z h; cases h) ?_
  refine gQput (k := 6) (x := 1) HQ2 rfl fun h3 HQ3 fq3 => ?_
  refine g_iconst (v := 0) (q := 83) C dX3_readTd_82 (by decide) rfl ?_
  exact E.1 _ _ _ _ _ _ _ dX3_readTd_83 rfl rfl (Nat.le_of_ble_eq_true rfl) (Nat.le_of_ble_eq_true rfl) ⟨rfl, HQ3, (gFQ.trans (gFQ.trans fq1 fq2) fq3)⟩
def qX3_readLinkGroup_p (q : gRs) (p c : Int32) : gRs := (q.set 5 p)
theorem dX3_readLinkGroup_0 : decode cX3_readLinkGroup 0 = .ok (.iload_n 1, 1) := by decide +kernel
theorem dX3_readLinkGroup_1 : decode cX3_readLinkGroup 1 = .ok (.ifCond .ne 26, 3) := by decide +kernel
theorem dX3_readLinkGroup_4 : decode cX3_readLinkGroup 4 = .ok (.aload_n 0, 1) := by decide +kernel
theorem dX3_readLinkGroup_5 : decode cX3_readLinkGroup 5 = .ok (.iload_n 2, 1) := by decide +kernel
theorem dX3_readLinkGroup_6 : decode cX3_readLinkGroup 6 = .ok (.putfield 51, 3) := by decide +kernel
theorem dX3_readLinkGroup_9 : decode cX3_readLinkGroup 9 = .ok (.iload_n 2, 1) := by decide +kernel
theorem dX3_readLinkGroup_10 : decode cX3_readLinkGroup 10 = .ok (.iconst 1, 1) := by decide +kernel
theorem dX3_readLinkGroup_11 : decode cX3_readLinkGroup 11 = .ok (.if_icmp .lt 10, 3) := by decide +kernel
theorem dX3_readLinkGroup_14 : decode cX3_readLinkGroup 14 = .ok (.iload_n 2, 1) := by decide +kernel
theorem dX3_readLinkGroup_15 : decode cX3_readLinkGroup 15 = .ok (.sipush 254, 3) := by decide +kernel
theorem dX3_readLinkGroup_18 : decode cX3_readLinkGroup 18 = .ok (.if_icmp .le 7, 3) := by decide +kernel
theorem dX3_readLinkGroup_25 : decode cX3_readLinkGroup 25 = .ok (.iconst 0, 1) := by decide +kernel
theorem dX3_readLinkGroup_26 : decode cX3_readLinkGroup 26 = .ok (.ireturn, 1) := by decide +kernel
set_option maxRecDepth 100000 in
set_option maxHeartbeats 4000000 in
theorem c_X3_readLinkGroup_p_q {hp : List gA} {q : gRs} {p c : Int32}  (HQ : gRs_ hp 119 q) (g1 : ¬ p < 1) (g2 : p ≤ 254) : gM yX3_readLinkGroup cX3_readLinkGroup 3 ((some .int)) 0 0 [.ref 119, .int 0, .int p] (hp) (0) (0) (fun v h => v = some (.int (0)) ∧ (gRs_ h 119 (qX3_readLinkGroup_p q p c) ∧ gFQ hp h)) := by
  refine gM_of (ls0 := [some (.ref 119), some (.int 0), some (.int p)]) (by decide +kernel) (Nat.le_of_ble_eq_true rfl) rfl fun X C E => ?_
  refine g_iload_n (q := 1) C dX3_readLinkGroup_0 rfl rfl ?_
  refine g_if_ne_f (t := 27) (q := 4) C dX3_readLinkGroup_1 (by decide) rfl (by decide) ?_
  refine g_aload_n (q := 5) C dX3_readLinkGroup_4 rfl rfl ?_
  refine g_iload_n (q := 6) C dX3_readLinkGroup_5 rfl rfl ?_
  refine g_putfield (q := 9) C fX3_51 dX3_readLinkGroup_6 rfl HQ.1 (Nat.le_of_ble_eq_true rfl) (Or.inl rfl) rfl rfl (by intro z h; cases h) ?_
  refine gQput (k := 5) (x := p) HQ rfl fun h1 HQ1 fq1 => ?_
  refine g_iload_n (q := 10) C dX3_readLinkGroup_9 rfl rfl ?_
  refine g_iconst (v := 1) (q := 11) C dX3_readLinkGroup_10 (by decide) rfl ?_
  refine g_icmp_lt_f (t := 21) (q := 14) C dX3_readLinkGroup_11 (by decide) rfl g1 ?_
  refine g_iload_n (q := 15) C dX3_readLinkGroup_14 rfl rfl ?_
  refine g_sipush (v := 254) (q := 18) C dX3_readLinkGroup_15 (by decide) rfl ?_
  refine g_icmp_le_t (t := 25) C dX3_readLinkGroup_18 (by decide) g2 ?_
  refine g_iconst (v := 0) (q := 26) C dX3_readLinkGroup_25 (by decide) rfl ?_
  exact E.1 _ _ _ _ _ _ _ dX3_readLinkGroup_26 rfl rfl (Nat.le_of_ble_eq_true rfl) (Nat.le_of_ble_eq_true rfl) ⟨rfl, HQ1, fq1⟩
def qX3_readGroupByte_1 (q : gRs) (p c : Int32) : gRs := (qX3_readTd_1 q p c)
theorem dX3_readGroupByte_0 : decode cX3_readGroupByte 0 = .ok (.iload_n 2, 1) := by decide +kernel
theorem dX3_readGroupByte_1 : decode cX3_readGroupByte 1 = .ok (.iconst 3, 1) := by decide +kernel
theorem dX3_readGroupByte_2 : decode cX3_readGroupByte 2 = .ok (.if_icmp .ne 10, 3) := by decide +kernel
theorem dX3_readGroupByte_5 : decode cX3_readGroupByte 5 = .ok (.aload_n 0, 1) := by decide +kernel
theorem dX3_readGroupByte_6 : decode cX3_readGroupByte 6 = .ok (.iload_n 1, 1) := by decide +kernel
theorem dX3_readGroupByte_7 : decode cX3_readGroupByte 7 = .ok (.iload_n 3, 1) := by decide +kernel
theorem dX3_readGroupByte_8 : decode cX3_readGroupByte 8 = .ok (.invokevirtual 86, 3) := by decide +kernel
theorem dX3_readGroupByte_11 : decode cX3_readGroupByte 11 = .ok (.ireturn, 1) := by decide +kernel
set_option maxRecDepth 100000 in
set_option maxHeartbeats 4000000 in
theorem c_X3_readGroupByte_1_q {hp : List gA} {q : gRs} {p c : Int32}  (HQ : gRs_ hp 119 q)  : gM yX3_readGroupByte cX3_readGroupByte 4 ((some .int)) 2 43 [.ref 119, .int 1, .int 3, .int 129] (hp) (0) (0) (fun v h => v = some (.int (0)) ∧ (gRs_ h 119 (qX3_readGroupByte_1 q p c) ∧ gFQ hp h)) := by
  refine gM_of (ls0 := [some (.ref 119), some (.int 1), some (.int 3), some (.int 129)]) (by decide +kernel) (Nat.le_of_ble_eq_true rfl) rfl fun X C E => ?_
  refine g_iload_n (q := 1) C dX3_readGroupByte_0 rfl rfl ?_
  refine g_iconst (v := 3) (q := 2) C dX3_readGroupByte_1 (by decide) rfl ?_
  refine g_icmp_ne_f (t := 12) (q := 5) C dX3_readGroupByte_2 (by decide) rfl (by decide) ?_
  refine g_aload_n (q := 6) C dX3_readGroupByte_5 rfl rfl ?_
  refine g_iload_n (q := 7) C dX3_readGroupByte_6 rfl rfl ?_
  refine g_iload_n (q := 8) C dX3_readGroupByte_7 rfl rfl ?_
  refine g_callVix (x := 0) (q := 11) (As := [.int 1, .int 129]) C gyX3_readTd gvX3_readTd t_436 (c_X3_readTd_1_q (p := p) (c := c) HQ) dX3_readGroupByte_8 rfl HQ.1 rfl rfl rfl (Nat.le_of_ble_eq_true rfl) (Nat.le_of_ble_eq_true rfl) (Nat.le_of_ble_eq_true rfl) (Nat.le_of_ble_eq_true rfl) (Nat.le_of_ble_eq_true rfl) rfl (fun h1 z1 => ?_)
  obtain ⟨HQ1, fq1⟩ := z1
  exact E.1 _ _ _ _ _ _ _ dX3_readGroupByte_11 rfl rfl (Nat.le_of_ble_eq_true rfl) (Nat.le_of_ble_eq_true rfl) ⟨rfl, HQ1, fq1⟩
def qX3_readGroupByte_2 (q : gRs) (p c : Int32) : gRs := (qX3_readTd_2 q p c)
set_option maxRecDepth 100000 in
set_option maxHeartbeats 4000000 in
theorem c_X3_readGroupByte_2_q {hp : List gA} {q : gRs} {p c : Int32}  (HQ : gRs_ hp 119 q) (hlg : q.lg = 0) : gM yX3_readGroupByte cX3_readGroupByte 4 ((some .int)) 2 43 [.ref 119, .int 2, .int 3, .int 17] (hp) (0) (0) (fun v h => v = some (.int (0)) ∧ (gRs_ h 119 (qX3_readGroupByte_2 q p c) ∧ gFQ hp h)) := by
  refine gM_of (ls0 := [some (.ref 119), some (.int 2), some (.int 3), some (.int 17)]) (by decide +kernel) (Nat.le_of_ble_eq_true rfl) rfl fun X C E => ?_
  refine g_iload_n (q := 1) C dX3_readGroupByte_0 rfl rfl ?_
  refine g_iconst (v := 3) (q := 2) C dX3_readGroupByte_1 (by decide) rfl ?_
  refine g_icmp_ne_f (t := 12) (q := 5) C dX3_readGroupByte_2 (by decide) rfl (by decide) ?_
  refine g_aload_n (q := 6) C dX3_readGroupByte_5 rfl rfl ?_
  refine g_iload_n (q := 7) C dX3_readGroupByte_6 rfl rfl ?_
  refine g_iload_n (q := 8) C dX3_readGroupByte_7 rfl rfl ?_
  refine g_callVix (x := 0) (q := 11) (As := [.int 2, .int 17]) C gyX3_readTd gvX3_readTd t_436 (c_X3_readTd_2_q (p := p) (c := c) HQ hlg) dX3_readGroupByte_8 rfl HQ.1 rfl rfl rfl (Nat.le_of_ble_eq_true rfl) (Nat.le_of_ble_eq_true rfl) (Nat.le_of_ble_eq_true rfl) (Nat.le_of_ble_eq_true rfl) (Nat.le_of_ble_eq_true rfl) rfl (fun h1 z1 => ?_)
  obtain ⟨HQ1, fq1⟩ := z1
  exact E.1 _ _ _ _ _ _ _ dX3_readGroupByte_11 rfl rfl (Nat.le_of_ble_eq_true rfl) (Nat.le_of_ble_eq_true rfl) ⟨rfl, HQ1, fq1⟩
def qX3_readGroupByte_3 (q : gRs) (p c : Int32) : gRs := (qX3_readLinkGroup_p q p c)
theorem dX3_readGroupByte_12 : decode cX3_readGroupByte 12 = .ok (.iload_n 1, 1) := by decide +kernel
theorem dX3_readGroupByte_13 : decode cX3_readGroupByte 13 = .ok (.iconst 1, 1) := by decide +kernel
theorem dX3_readGroupByte_14 : decode cX3_readGroupByte 14 = .ok (.if_icmp .ne 10, 3) := by decide +kernel
theorem dX3_readGroupByte_24 : decode cX3_readGroupByte 24 = .ok (.iload_n 1, 1) := by decide +kernel
theorem dX3_readGroupByte_25 : decode cX3_readGroupByte 25 = .ok (.aload_n 0, 1) := by decide +kernel
theorem dX3_readGroupByte_26 : decode cX3_readGroupByte 26 = .ok (.getfield 62, 3) := by decide +kernel
theorem dX3_readGroupByte_29 : decode cX3_readGroupByte 29 = .ok (.if_icmp .ne 12, 3) := by decide +kernel
theorem dX3_readGroupByte_32 : decode cX3_readGroupByte 32 = .ok (.aload_n 0, 1) := by decide +kernel
theorem dX3_readGroupByte_33 : decode cX3_readGroupByte 33 = .ok (.iload_n 2, 1) := by decide +kernel
theorem dX3_readGroupByte_34 : decode cX3_readGroupByte 34 = .ok (.iload_n 3, 1) := by decide +kernel
theorem dX3_readGroupByte_35 : decode cX3_readGroupByte 35 = .ok (.invokevirtual 92, 3) := by decide +kernel
theorem dX3_readGroupByte_38 : decode cX3_readGroupByte 38 = .ok (.goto 4, 3) := by decide +kernel
theorem dX3_readGroupByte_42 : decode cX3_readGroupByte 42 = .ok (.ireturn, 1) := by decide +kernel
set_option maxRecDepth 100000 in
set_option maxHeartbeats 4000000 in
theorem c_X3_readGroupByte_3_q {hp : List gA} {q : gRs} {p c : Int32}  (HQ : gRs_ hp 119 q) (hlg : q.lg = 3) (g1 : ¬ p < 1) (g2 : p ≤ 254) : gM yX3_readGroupByte cX3_readGroupByte 4 ((some .int)) 2 43 [.ref 119, .int 3, .int 0, .int p] (hp) (0) (0) (fun v h => v = some (.int (0)) ∧ (gRs_ h 119 (qX3_readGroupByte_3 q p c) ∧ gFQ hp h)) := by
  refine gM_of (ls0 := [some (.ref 119), some (.int 3), some (.int 0), some (.int p)]) (by decide +kernel) (Nat.le_of_ble_eq_true rfl) rfl fun X C E => ?_
  refine g_iload_n (q := 1) C dX3_readGroupByte_0 rfl rfl ?_
  refine g_iconst (v := 3) (q := 2) C dX3_readGroupByte_1 (by decide) rfl ?_
  refine g_icmp_ne_t (t := 12) C dX3_readGroupByte_2 (by decide) (by decide) ?_
  refine g_iload_n (q := 13) C dX3_readGroupByte_12 rfl rfl ?_
  refine g_iconst (v := 1) (q := 14) C dX3_readGroupByte_13 (by decide) rfl ?_
  refine g_icmp_ne_t (t := 24) C dX3_readGroupByte_14 (by decide) (by decide) ?_
  refine g_iload_n (q := 25) C dX3_readGroupByte_24 rfl rfl ?_
  refine g_aload_n (q := 26) C dX3_readGroupByte_25 rfl rfl ?_
  refine g_getfield (v := .int q.lg) (q := 29) C fX3_62 dX3_readGroupByte_26 rfl HQ.1 rfl ?_
  refine g_icmp_ne_f (t := 41) (q := 32) C dX3_readGroupByte_29 (by decide) rfl (by exact hlg.symm) ?_
  refine g_aload_n (q := 33) C dX3_readGroupByte_32 rfl rfl ?_
  refine g_iload_n (q := 34) C dX3_readGroupByte_33 rfl rfl ?_
  refine g_iload_n (q := 35) C dX3_readGroupByte_34 rfl rfl ?_
  refine g_callVix (x := 0) (q := 38) (As := [.int 0, .int p]) C gyX3_readLinkGroup gvX3_readLinkGroup t_454 (c_X3_readLinkGroup_p_q (p := p) (c := c) HQ g1 g2) dX3_readGroupByte_35 rfl HQ.1 rfl rfl rfl (Nat.le_of_ble_eq_true rfl) (Nat.le_of_ble_eq_true rfl) (Nat.le_of_ble_eq_true rfl) (Nat.le_of_ble_eq_true rfl) (Nat.le_of_ble_eq_true rfl) rfl (fun h1 z1 => ?_)
  obtain ⟨HQ1, fq1⟩ := z1
  refine g_goto (q := 42) C dX3_readGroupByte_38 (by decide) ?_
  exact E.1 _ _ _ _ _ _ _ dX3_readGroupByte_42 rfl rfl (Nat.le_of_ble_eq_true rfl) (Nat.le_of_ble_eq_true rfl) ⟨rfl, HQ1, fq1⟩
def qX3_readGroups (q : gRs) (p c : Int32) : gRs := ((qX3_readGroupByte_3 ((((qX3_readGroupByte_2 ((((qX3_readGroupByte_1 (((qX3_readHead (qX3_clear q p c) p c).set 4 1).set 8 0) p c).set 7 3).set 4 2).set 8 0) p c).set 7 4).set 4 3).set 8 0) p c).set 7 5)
theorem dX3_readGroups_0 : decode cX3_readGroups 0 = .ok (.iconst 1, 1) := by decide +kernel
theorem dX3_readGroups_1 : decode cX3_readGroups 1 = .ok (.istore_n 2, 1) := by decide +kernel
theorem dX3_readGroups_2 : decode cX3_readGroups 2 = .ok (.iload_n 2, 1) := by decide +kernel
theorem dX3_readGroups_3 : decode cX3_readGroups 3 = .ok (.iconst 4, 1) := by decide +kernel
theorem dX3_readGroups_4 : decode cX3_readGroups 4 = .ok (.if_icmp .gt 120, 3) := by decide +kernel
theorem dX3_readGroups_7 : decode cX3_readGroups 7 = .ok (.aload_n 0, 1) := by decide +kernel
theorem dX3_readGroups_8 : decode cX3_readGroups 8 = .ok (.getfield 76, 3) := by decide +kernel
theorem dX3_readGroups_11 : decode cX3_readGroups 11 = .ok (.ifCond .eq 113, 3) := by decide +kernel
theorem dX3_readGroups_14 : decode cX3_readGroups 14 = .ok (.aload_n 0, 1) := by decide +kernel
theorem dX3_readGroups_15 : decode cX3_readGroups 15 = .ok (.iload_n 2, 1) := by decide +kernel
theorem dX3_readGroups_16 : decode cX3_readGroups 16 = .ok (.putfield 48, 3) := by decide +kernel
theorem dX3_readGroups_19 : decode cX3_readGroups 19 = .ok (.aload_n 0, 1) := by decide +kernel
theorem dX3_readGroups_20 : decode cX3_readGroups 20 = .ok (.getfield 76, 3) := by decide +kernel
theorem dX3_readGroups_23 : decode cX3_readGroups 23 = .ok (.istore_n 3, 1) := by decide +kernel
theorem dX3_readGroups_24 : decode cX3_readGroups 24 = .ok (.aload_n 0, 1) := by decide +kernel
theorem dX3_readGroups_25 : decode cX3_readGroups 25 = .ok (.iconst 0, 1) := by decide +kernel
theorem dX3_readGroups_26 : decode cX3_readGroups 26 = .ok (.putfield 76, 3) := by decide +kernel
theorem dX3_readGroups_29 : decode cX3_readGroups 29 = .ok (.iconst 0, 1) := by decide +kernel
theorem dX3_readGroups_30 : decode cX3_readGroups 30 = .ok (.istore 4, 2) := by decide +kernel
theorem dX3_readGroups_32 : decode cX3_readGroups 32 = .ok (.iload 4, 2) := by decide +kernel
theorem dX3_readGroups_34 : decode cX3_readGroups 34 = .ok (.iconst 4, 1) := by decide +kernel
theorem dX3_readGroups_35 : decode cX3_readGroups 35 = .ok (.if_icmp .ge 83, 3) := by decide +kernel
theorem dX3_readGroups_38 : decode cX3_readGroups 38 = .ok (.iload_n 3, 1) := by decide +kernel
theorem dX3_readGroups_39 : decode cX3_readGroups 39 = .ok (.iload 4, 2) := by decide +kernel
theorem dX3_readGroups_41 : decode cX3_readGroups 41 = .ok (.ishr, 1) := by decide +kernel
theorem dX3_readGroups_42 : decode cX3_readGroups 42 = .ok (.iconst 1, 1) := by decide +kernel
theorem dX3_readGroups_43 : decode cX3_readGroups 43 = .ok (.iand, 1) := by decide +kernel
theorem dX3_readGroups_44 : decode cX3_readGroups 44 = .ok (.ifCond .ne 6, 3) := by decide +kernel
theorem dX3_readGroups_47 : decode cX3_readGroups 47 = .ok (.goto 65, 3) := by decide +kernel
theorem dX3_readGroups_50 : decode cX3_readGroups 50 = .ok (.aload_n 0, 1) := by decide +kernel
theorem dX3_readGroups_51 : decode cX3_readGroups 51 = .ok (.getfield 79, 3) := by decide +kernel
theorem dX3_readGroups_54 : decode cX3_readGroups 54 = .ok (.aload_n 1, 1) := by decide +kernel
theorem dX3_readGroups_55 : decode cX3_readGroups 55 = .ok (.invokevirtual 65, 3) := by decide +kernel
theorem dX3_readGroups_58 : decode cX3_readGroups 58 = .ok (.if_icmp .lt 12, 3) := by decide +kernel
theorem dX3_readGroups_70 : decode cX3_readGroups 70 = .ok (.aload_n 0, 1) := by decide +kernel
theorem dX3_readGroups_71 : decode cX3_readGroups 71 = .ok (.iload_n 2, 1) := by decide +kernel
theorem dX3_readGroups_72 : decode cX3_readGroups 72 = .ok (.iload 4, 2) := by decide +kernel
theorem dX3_readGroups_74 : decode cX3_readGroups 74 = .ok (.aload_n 1, 1) := by decide +kernel
theorem dX3_readGroups_75 : decode cX3_readGroups 75 = .ok (.aload_n 0, 1) := by decide +kernel
theorem dX3_readGroups_76 : decode cX3_readGroups 76 = .ok (.getfield 79, 3) := by decide +kernel
theorem dX3_readGroups_79 : decode cX3_readGroups 79 = .ok (.invokevirtual 30, 3) := by decide +kernel
theorem dX3_readGroups_82 : decode cX3_readGroups 82 = .ok (.invokevirtual 82, 3) := by decide +kernel
theorem dX3_readGroups_85 : decode cX3_readGroups 85 = .ok (.istore 5, 2) := by decide +kernel
theorem dX3_readGroups_87 : decode cX3_readGroups 87 = .ok (.iload 5, 2) := by decide +kernel
theorem dX3_readGroups_89 : decode cX3_readGroups 89 = .ok (.ifCond .eq 13, 3) := by decide +kernel
theorem dX3_readGroups_102 : decode cX3_readGroups 102 = .ok (.aload_n 0, 1) := by decide +kernel
theorem dX3_readGroups_103 : decode cX3_readGroups 103 = .ok (.dup, 1) := by decide +kernel
theorem dX3_readGroups_104 : decode cX3_readGroups 104 = .ok (.getfield 79, 3) := by decide +kernel
theorem dX3_readGroups_107 : decode cX3_readGroups 107 = .ok (.iconst 1, 1) := by decide +kernel
theorem dX3_readGroups_108 : decode cX3_readGroups 108 = .ok (.iadd, 1) := by decide +kernel
theorem dX3_readGroups_109 : decode cX3_readGroups 109 = .ok (.putfield 79, 3) := by decide +kernel
theorem dX3_readGroups_112 : decode cX3_readGroups 112 = .ok (.iinc 4 1, 3) := by decide +kernel
theorem dX3_readGroups_115 : decode cX3_readGroups 115 = .ok (.goto (-83), 3) := by decide +kernel
theorem dX3_readGroups_118 : decode cX3_readGroups 118 = .ok (.iinc 2 1, 3) := by decide +kernel
theorem dX3_readGroups_121 : decode cX3_readGroups 121 = .ok (.goto (-119), 3) := by decide +kernel
theorem dX3_readGroups_124 : decode cX3_readGroups 124 = .ok (.iconst 0, 1) := by decide +kernel
theorem dX3_readGroups_125 : decode cX3_readGroups 125 = .ok (.ireturn, 1) := by decide +kernel
set_option maxRecDepth 100000 in
set_option maxHeartbeats 4000000 in
theorem c_X3_readGroups_q {hp : List gA} {q : gRs} {p c : Int32}  (HQ : gRs_ hp 119 (qX3_readHead (qX3_clear q p c) p c)) (HT : gRw hp 1 2 96 [59, 130, 129, 17, p, 65, 66, c]) (g1 : ¬ p < 1) (g2 : p ≤ 254) : gM yX3_readGroups cX3_readGroups 6 ((some .int)) 3 66 [.ref 119, .ref 1] (hp) (0) (0) (fun v h => v = some (.int (0)) ∧ (gRs_ h 119 (qX3_readGroups q p c) ∧ gFQ hp h)) := by
  refine gM_of (ls0 := [some (.ref 119), some (.ref 1), none, none, none, none]) (by decide +kernel) (Nat.le_of_ble_eq_true rfl) rfl fun X C E => ?_
  refine g_iconst (v := 1) (q := 1) C dX3_readGroups_0 (by decide) rfl ?_
  refine g_istore_n (q := 2) C dX3_readGroups_1 (Nat.le_of_ble_eq_true rfl) (by simp only [gset]; rfl) rfl ?_
  refine g_iload_n (q := 3) C dX3_readGroups_2 rfl rfl ?_
  refine g_iconst (v := 4) (q := 4) C dX3_readGroups_3 (by decide) rfl ?_
  refine g_icmp_gt_f (t := 124) (q := 7) C dX3_readGroups_4 (by decide) rfl (by decide) ?_
  refine g_aload_n (q := 8) C dX3_readGroups_7 rfl rfl ?_
  refine g_getfield (v := .int (((130 : Int32) >>> (4 &&& 31)))) (q := 11) C fX3_76 dX3_readGroups_8 rfl HQ.1 rfl ?_
  refine g_if_eq_f (t := 124) (q := 14) C dX3_readGroups_11 (by decide) rfl (by decide) ?_
  refine g_aload_n (q := 15) C dX3_readGroups_14 rfl rfl ?_
  refine g_iload_n (q := 16) C dX3_readGroups_15 rfl rfl ?_
  refine g_putfield (q := 19) C fX3_48 dX3_readGroups_16 rfl HQ.1 (Nat.le_of_ble_eq_true rfl) (Or.inl rfl) rfl rfl (by intro z h; cases h) ?_
  refine gQput (k := 4) (x := 1) HQ rfl fun h1 HQ1 fq1 => ?_
  have HT1 : gRw h1 1 2 96 [59, 130, 129, 17, p, 65, 66, c] := HT.kept (fq1 1 (by decide)) (fq1 2 (by decide))
  refine g_aload_n (q := 20) C dX3_readGroups_19 rfl rfl ?_
  refine g_getfield (v := .int (((130 : Int32) >>> (4 &&& 31)))) (q := 23) C fX3_76 dX3_readGroups_20 rfl HQ1.1 rfl ?_
  refine g_istore_n (q := 24) C dX3_readGroups_23 (Nat.le_of_ble_eq_true rfl) (by simp only [gset]; rfl) rfl ?_
  refine g_aload_n (q := 25) C dX3_readGroups_24 rfl rfl ?_
  refine g_iconst (v := 0) (q := 26) C dX3_readGroups_25 (by decide) rfl ?_
  refine g_putfield (q := 29) C fX3_76 dX3_readGroups_26 rfl HQ1.1 (Nat.le_of_ble_eq_true rfl) (Or.inl rfl) rfl rfl (by intro z h; cases h) ?_
  refine gQput (k := 8) (x := 0) HQ1 rfl fun h2 HQ2 fq2 => ?_
  have HT2 : gRw h2 1 2 96 [59, 130, 129, 17, p, 65, 66, c] := HT1.kept (fq2 1 (by decide)) (fq2 2 (by decide))
  refine g_iconst (v := 0) (q := 30) C dX3_readGroups_29 (by decide) rfl ?_
  refine g_istore (q := 32) C dX3_readGroups_30 (Nat.le_of_ble_eq_true rfl) (by simp only [gset]; rfl) rfl ?_
  refine g_iload (q := 34) C dX3_readGroups_32 rfl rfl ?_
  refine g_iconst (v := 4) (q := 35) C dX3_readGroups_34 (by decide) rfl ?_
  refine g_icmp_ge_f (t := 118) (q := 38) C dX3_readGroups_35 (by decide) rfl (by decide) ?_
  refine g_iload_n (q := 39) C dX3_readGroups_38 rfl rfl ?_
  refine g_iload (q := 41) C dX3_readGroups_39 rfl rfl ?_
  refine g_ishr (q := 42) C dX3_readGroups_41 rfl ?_
  refine g_iconst (v := 1) (q := 43) C dX3_readGroups_42 (by decide) rfl ?_
  refine g_iand (q := 44) C dX3_readGroups_43 rfl ?_
  refine g_if_ne_f (t := 50) (q := 47) C dX3_readGroups_44 (by decide) rfl (by decide) ?_
  refine g_goto (q := 112) C dX3_readGroups_47 (by decide) ?_
  refine g_iinc (v := 1) (q := 115) C dX3_readGroups_112 rfl (by decide) (by simp only [gset]; rfl) rfl ?_
  refine g_goto (q := 32) C dX3_readGroups_115 (by decide) ?_
  refine g_iload (q := 34) C dX3_readGroups_32 rfl rfl ?_
  refine g_iconst (v := 4) (q := 35) C dX3_readGroups_34 (by decide) rfl ?_
  refine g_icmp_ge_f (t := 118) (q := 38) C dX3_readGroups_35 (by decide) rfl (by decide) ?_
  refine g_iload_n (q := 39) C dX3_readGroups_38 rfl rfl ?_
  refine g_iload (q := 41) C dX3_readGroups_39 rfl rfl ?_
  refine g_ishr (q := 42) C dX3_readGroups_41 rfl ?_
  refine g_iconst (v := 1) (q := 43) C dX3_readGroups_42 (by decide) rfl ?_
  refine g_iand (q := 44) C dX3_readGroups_43 rfl ?_
  refine g_if_ne_f (t := 50) (q := 47) C dX3_readGroups_44 (by decide) rfl (by decide) ?_
  refine g_goto (q := 112) C dX3_readGroups_47 (by decide) ?_
  refine g_iinc (v := 2) (q := 115) C dX3_readGroups_112 rfl (by decide) (by simp only [gset]; rfl) rfl ?_
  refine g_goto (q := 32) C dX3_readGroups_115 (by decide) ?_
  refine g_iload (q := 34) C dX3_readGroups_32 rfl rfl ?_
  refine g_iconst (v := 4) (q := 35) C dX3_readGroups_34 (by decide) rfl ?_
  refine g_icmp_ge_f (t := 118) (q := 38) C dX3_readGroups_35 (by decide) rfl (by decide) ?_
  refine g_iload_n (q := 39) C dX3_readGroups_38 rfl rfl ?_
  refine g_iload (q := 41) C dX3_readGroups_39 rfl rfl ?_
  refine g_ishr (q := 42) C dX3_readGroups_41 rfl ?_
  refine g_iconst (v := 1) (q := 43) C dX3_readGroups_42 (by decide) rfl ?_
  refine g_iand (q := 44) C dX3_readGroups_43 rfl ?_
  refine g_if_ne_f (t := 50) (q := 47) C dX3_readGroups_44 (by decide) rfl (by decide) ?_
  refine g_goto (q := 112) C dX3_readGroups_47 (by decide) ?_
  refine g_iinc (v := 3) (q := 115) C dX3_readGroups_112 rfl (by decide) (by simp only [gset]; rfl) rfl ?_
  refine g_goto (q := 32) C dX3_readGroups_115 (by decide) ?_
  refine g_iload (q := 34) C dX3_readGroups_32 rfl rfl ?_
  refine g_iconst (v := 4) (q := 35) C dX3_readGroups_34 (by decide) rfl ?_
  refine g_icmp_ge_f (t := 118) (q := 38) C dX3_readGroups_35 (by decide) rfl (by decide) ?_
  refine g_iload_n (q := 39) C dX3_readGroups_38 rfl rfl ?_
  refine g_iload (q := 41) C dX3_readGroups_39 rfl rfl ?_
  refine g_ishr (q := 42) C dX3_readGroups_41 rfl ?_
  refine g_iconst (v := 1) (q := 43) C dX3_readGroups_42 (by decide) rfl ?_
  refine g_iand (q := 44) C dX3_readGroups_43 rfl ?_
  refine g_if_ne_t (t := 50) C dX3_readGroups_44 (by decide) (by decide) ?_
  refine g_aload_n (q := 51) C dX3_readGroups_50 rfl rfl ?_
  refine g_getfield (v := .int 2) (q := 54) C fX3_79 dX3_readGroups_51 rfl HQ2.1 rfl ?_
  refine g_aload_n (q := 55) C dX3_readGroups_54 rfl rfl ?_
  refine g_callVi (x := 8) (q := 58) (As := []) C gyX4_size gvX4_size t_417 (c_X4_size (gRw.obj HT2)) dX3_readGroups_55 rfl (gRw.obj HT2) rfl rfl rfl (Nat.le_of_ble_eq_true rfl) (Nat.le_of_ble_eq_true rfl) (Nat.le_of_ble_eq_true rfl) (Nat.le_of_ble_eq_true rfl) (Nat.le_of_ble_eq_true rfl) rfl ?_
  refine g_icmp_lt_t (t := 70) C dX3_readGroups_58 (by decide) (by decide) ?_
  refine g_aload_n (q := 71) C dX3_readGroups_70 rfl rfl ?_
  refine g_iload_n (q := 72) C dX3_readGroups_71 rfl rfl ?_
  refine g_iload (q := 74) C dX3_readGroups_72 rfl rfl ?_
  refine g_aload_n (q := 75) C dX3_readGroups_74 rfl rfl ?_
  refine g_aload_n (q := 76) C dX3_readGroups_75 rfl rfl ?_
  refine g_getfield (v := .int 2) (q := 79) C fX3_79 dX3_readGroups_76 rfl HQ2.1 rfl ?_
  refine g_callVi (x := 129) (q := 82) (As := [.int 2]) C gyX4_at gvX4_at t_424 (c_X4_at_v HT2 (y := 129) (gat_nI (i := 2) (by decide))) dX3_readGroups_79 rfl (gRw.obj HT2) rfl rfl rfl (Nat.le_of_ble_eq_true rfl) (Nat.le_of_ble_eq_true rfl) (Nat.le_of_ble_eq_true rfl) (Nat.le_of_ble_eq_true rfl) (Nat.le_of_ble_eq_true rfl) rfl ?_
  refine g_callVix (x := 0) (q := 85) (As := [.int 1, .int 3, .int 129]) C gyX3_readGroupByte gvX3_readGroupByte t_432 (c_X3_readGroupByte_1_q (p := p) (c := c) HQ2) dX3_readGroups_82 rfl HQ2.1 rfl rfl rfl (Nat.le_of_ble_eq_true rfl) (Nat.le_of_ble_eq_true rfl) (Nat.le_of_ble_eq_true rfl) (Nat.le_of_ble_eq_true rfl) (Nat.le_of_ble_eq_true rfl) rfl (fun h3 z3 => ?_)
  obtain ⟨HQ3, fq3⟩ := z3
  have HT3 : gRw h3 1 2 96 [59, 130, 129, 17, p, 65, 66, c] := HT2.kept (fq3 1 (by decide)) (fq3 2 (by decide))
  refine g_istore (q := 87) C dX3_readGroups_85 (Nat.le_of_ble_eq_true rfl) (by simp only [gset]; rfl) rfl ?_
  refine g_iload (q := 89) C dX3_readGroups_87 rfl rfl ?_
  refine g_if_eq_t (t := 102) C dX3_readGroups_89 (by decide) (by decide) ?_
  refine g_aload_n (q := 103) C dX3_readGroups_102 rfl rfl ?_
  refine g_dup (q := 104) C dX3_readGroups_103 rfl rfl ?_
  refine g_getfield (v := .int 2) (q := 107) C fX3_79 dX3_readGroups_104 rfl HQ3.1 rfl ?_
  refine g_iconst (v := 1) (q := 108) C dX3_readGroups_107 (by decide) rfl ?_
  refine g_iadd (q := 109) C dX3_readGroups_108 rfl ?_
  refine g_putfield (q := 112) C fX3_79 dX3_readGroups_109 rfl HQ3.1 (Nat.le_of_ble_eq_true rfl) (Or.inl rfl) rfl rfl (by intro z h; cases h) ?_
  refine gQput (k := 7) (x := 3) HQ3 rfl fun h4 HQ4 fq4 => ?_
  have HT4 : gRw h4 1 2 96 [59, 130, 129, 17, p, 65, 66, c] := HT3.kept (fq4 1 (by decide)) (fq4 2 (by decide))
  refine g_iinc (v := 4) (q := 115) C dX3_readGroups_112 rfl (by decide) (by simp only [gset]; rfl) rfl ?_
  refine g_goto (q := 32) C dX3_readGroups_115 (by decide) ?_
  refine g_iload (q := 34) C dX3_readGroups_32 rfl rfl ?_
  refine g_iconst (v := 4) (q := 35) C dX3_readGroups_34 (by decide) rfl ?_
  refine g_icmp_ge_t (t := 118) C dX3_readGroups_35 (by decide) (by decide) ?_
  refine g_iinc (v := 2) (q := 121) C dX3_readGroups_118 rfl (by decide) (by simp only [gset]; rfl) rfl ?_
  refine g_goto (q := 2) C dX3_readGroups_121 (by decide) ?_
  refine g_iload_n (q := 3) C dX3_readGroups_2 rfl rfl ?_
  refine g_iconst (v := 4) (q := 4) C dX3_readGroups_3 (by decide) rfl ?_
  refine g_icmp_gt_f (t := 124) (q := 7) C dX3_readGroups_4 (by decide) rfl (by decide) ?_
  refine g_aload_n (q := 8) C dX3_readGroups_7 rfl rfl ?_
  refine g_getfield (v := .int (((129 : Int32) >>> (4 &&& 31)))) (q := 11) C fX3_76 dX3_readGroups_8 rfl HQ4.1 rfl ?_
  refine g_if_eq_f (t := 124) (q := 14) C dX3_readGroups_11 (by decide) rfl (by decide) ?_
  refine g_aload_n (q := 15) C dX3_readGroups_14 rfl rfl ?_
  refine g_iload_n (q := 16) C dX3_readGroups_15 rfl rfl ?_
  refine g_putfield (q := 19) C fX3_48 dX3_readGroups_16 rfl HQ4.1 (Nat.le_of_ble_eq_true rfl) (Or.inl rfl) rfl rfl (by intro z h; cases h) ?_
  refine gQput (k := 4) (x := 2) HQ4 rfl fun h5 HQ5 fq5 => ?_
  have HT5 : gRw h5 1 2 96 [59, 130, 129, 17, p, 65, 66, c] := HT4.kept (fq5 1 (by decide)) (fq5 2 (by decide))
  refine g_aload_n (q := 20) C dX3_readGroups_19 rfl rfl ?_
  refine g_getfield (v := .int (((129 : Int32) >>> (4 &&& 31)))) (q := 23) C fX3_76 dX3_readGroups_20 rfl HQ5.1 rfl ?_
  refine g_istore_n (q := 24) C dX3_readGroups_23 (Nat.le_of_ble_eq_true rfl) (by simp only [gset]; rfl) rfl ?_
  refine g_aload_n (q := 25) C dX3_readGroups_24 rfl rfl ?_
  refine g_iconst (v := 0) (q := 26) C dX3_readGroups_25 (by decide) rfl ?_
  refine g_putfield (q := 29) C fX3_76 dX3_readGroups_26 rfl HQ5.1 (Nat.le_of_ble_eq_true rfl) (Or.inl rfl) rfl rfl (by intro z h; cases h) ?_
  refine gQput (k := 8) (x := 0) HQ5 rfl fun h6 HQ6 fq6 => ?_
  have HT6 : gRw h6 1 2 96 [59, 130, 129, 17, p, 65, 66, c] := HT5.kept (fq6 1 (by decide)) (fq6 2 (by decide))
  refine g_iconst (v := 0) (q := 30) C dX3_readGroups_29 (by decide) rfl ?_
  refine g_istore (q := 32) C dX3_readGroups_30 (Nat.le_of_ble_eq_true rfl) (by simp only [gset]; rfl) rfl ?_
  refine g_iload (q := 34) C dX3_readGroups_32 rfl rfl ?_
  refine g_iconst (v := 4) (q := 35) C dX3_readGroups_34 (by decide) rfl ?_
  refine g_icmp_ge_f (t := 118) (q := 38) C dX3_readGroups_35 (by decide) rfl (by decide) ?_
  refine g_iload_n (q := 39) C dX3_readGroups_38 rfl rfl ?_
  refine g_iload (q := 41) C dX3_readGroups_39 rfl rfl ?_
  refine g_ishr (q := 42) C dX3_readGroups_41 rfl ?_
  refine g_iconst (v := 1) (q := 43) C dX3_readGroups_42 (by decide) rfl ?_
  refine g_iand (q := 44) C dX3_readGroups_43 rfl ?_
  refine g_if_ne_f (t := 50) (q := 47) C dX3_readGroups_44 (by decide) rfl (by decide) ?_
  refine g_goto (q := 112) C dX3_readGroups_47 (by decide) ?_
  refine g_iinc (v := 1) (q := 115) C dX3_readGroups_112 rfl (by decide) (by simp only [gset]; rfl) rfl ?_
  refine g_goto (q := 32) C dX3_readGroups_115 (by decide) ?_
  refine g_iload (q := 34) C dX3_readGroups_32 rfl rfl ?_
  refine g_iconst (v := 4) (q := 35) C dX3_readGroups_34 (by decide) rfl ?_
  refine g_icmp_ge_f (t := 118) (q := 38) C dX3_readGroups_35 (by decide) rfl (by decide) ?_
  refine g_iload_n (q := 39) C dX3_readGroups_38 rfl rfl ?_
  refine g_iload (q := 41) C dX3_readGroups_39 rfl rfl ?_
  refine g_ishr (q := 42) C dX3_readGroups_41 rfl ?_
  refine g_iconst (v := 1) (q := 43) C dX3_readGroups_42 (by decide) rfl ?_
  refine g_iand (q := 44) C dX3_readGroups_43 rfl ?_
  refine g_if_ne_f (t := 50) (q := 47) C dX3_readGroups_44 (by decide) rfl (by decide) ?_
  refine g_goto (q := 112) C dX3_readGroups_47 (by decide) ?_
  refine g_iinc (v := 2) (q := 115) C dX3_readGroups_112 rfl (by decide) (by simp only [gset]; rfl) rfl ?_
  refine g_goto (q := 32) C dX3_readGroups_115 (by decide) ?_
  refine g_iload (q := 34) C dX3_readGroups_32 rfl rfl ?_
  refine g_iconst (v := 4) (q := 35) C dX3_readGroups_34 (by decide) rfl ?_
  refine g_icmp_ge_f (t := 118) (q := 38) C dX3_readGroups_35 (by decide) rfl (by decide) ?_
  refine g_iload_n (q := 39) C dX3_readGroups_38 rfl rfl ?_
  refine g_iload (q := 41) C dX3_readGroups_39 rfl rfl ?_
  refine g_ishr (q := 42) C dX3_readGroups_41 rfl ?_
  refine g_iconst (v := 1) (q := 43) C dX3_readGroups_42 (by decide) rfl ?_
  refine g_iand (q := 44) C dX3_readGroups_43 rfl ?_
  refine g_if_ne_f (t := 50) (q := 47) C dX3_readGroups_44 (by decide) rfl (by decide) ?_
  refine g_goto (q := 112) C dX3_readGroups_47 (by decide) ?_
  refine g_iinc (v := 3) (q := 115) C dX3_readGroups_112 rfl (by decide) (by simp only [gset]; rfl) rfl ?_
  refine g_goto (q := 32) C dX3_readGroups_115 (by decide) ?_
  refine g_iload (q := 34) C dX3_readGroups_32 rfl rfl ?_
  refine g_iconst (v := 4) (q := 35) C dX3_readGroups_34 (by decide) rfl ?_
  refine g_icmp_ge_f (t := 118) (q := 38) C dX3_readGroups_35 (by decide) rfl (by decide) ?_
  refine g_iload_n (q := 39) C dX3_readGroups_38 rfl rfl ?_
  refine g_iload (q := 41) C dX3_readGroups_39 rfl rfl ?_
  refine g_ishr (q := 42) C dX3_readGroups_41 rfl ?_
  refine g_iconst (v := 1) (q := 43) C dX3_readGroups_42 (by decide) rfl ?_
  refine g_iand (q := 44) C dX3_readGroups_43 rfl ?_
  refine g_if_ne_t (t := 50) C dX3_readGroups_44 (by decide) (by decide) ?_
  refine g_aload_n (q := 51) C dX3_readGroups_50 rfl rfl ?_
  refine g_getfield (v := .int 3) (q := 54) C fX3_79 dX3_readGroups_51 rfl HQ6.1 rfl ?_
  refine g_aload_n (q := 55) C dX3_readGroups_54 rfl rfl ?_
  refine g_callVi (x := 8) (q := 58) (As := []) C gyX4_size gvX4_size t_417 (c_X4_size (gRw.obj HT6)) dX3_readGroups_55 rfl (gRw.obj HT6) rfl rfl rfl (Nat.le_of_ble_eq_true rfl) (Nat.le_of_ble_eq_true rfl) (Nat.le_of_ble_eq_true rfl) (Nat.le_of_ble_eq_true rfl) (Nat.le_of_ble_eq_true rfl) rfl ?_
  refine g_icmp_lt_t (t := 70) C dX3_readGroups_58 (by decide) (by decide) ?_
  refine g_aload_n (q := 71) C dX3_readGroups_70 rfl rfl ?_
  refine g_iload_n (q := 72) C dX3_readGroups_71 rfl rfl ?_
  refine g_iload (q := 74) C dX3_readGroups_72 rfl rfl ?_
  refine g_aload_n (q := 75) C dX3_readGroups_74 rfl rfl ?_
  refine g_aload_n (q := 76) C dX3_readGroups_75 rfl rfl ?_
  refine g_getfield (v := .int 3) (q := 79) C fX3_79 dX3_readGroups_76 rfl HQ6.1 rfl ?_
  refine g_callVi (x := 17) (q := 82) (As := [.int 3]) C gyX4_at gvX4_at t_424 (c_X4_at_v HT6 (y := 17) (gat_nI (i := 3) (by decide))) dX3_readGroups_79 rfl (gRw.obj HT6) rfl rfl rfl (Nat.le_of_ble_eq_true rfl) (Nat.le_of_ble_eq_true rfl) (Nat.le_of_ble_eq_true rfl) (Nat.le_of_ble_eq_true rfl) (Nat.le_of_ble_eq_true rfl) rfl ?_
  refine g_callVix (x := 0) (q := 85) (As := [.int 2, .int 3, .int 17]) C gyX3_readGroupByte gvX3_readGroupByte t_432 (c_X3_readGroupByte_2_q (p := p) (c := c) HQ6 rfl) dX3_readGroups_82 rfl HQ6.1 rfl rfl rfl (Nat.le_of_ble_eq_true rfl) (Nat.le_of_ble_eq_true rfl) (Nat.le_of_ble_eq_true rfl) (Nat.le_of_ble_eq_true rfl) (Nat.le_of_ble_eq_true rfl) rfl (fun h7 z7 => ?_)
  obtain ⟨HQ7, fq7⟩ := z7
  have HT7 : gRw h7 1 2 96 [59, 130, 129, 17, p, 65, 66, c] := HT6.kept (fq7 1 (by decide)) (fq7 2 (by decide))
  refine g_istore (q := 87) C dX3_readGroups_85 (Nat.le_of_ble_eq_true rfl) (by simp only [gset]; rfl) rfl ?_
  refine g_iload (q := 89) C dX3_readGroups_87 rfl rfl ?_
  refine g_if_eq_t (t := 102) C dX3_readGroups_89 (by decide) (by decide) ?_
  refine g_aload_n (q := 103) C dX3_readGroups_102 rfl rfl ?_
  refine g_dup (q := 104) C dX3_readGroups_103 rfl rfl ?_
  refine g_getfield (v := .int 3) (q := 107) C fX3_79 dX3_readGroups_104 rfl HQ7.1 rfl ?_
  refine g_iconst (v := 1) (q := 108) C dX3_readGroups_107 (by decide) rfl ?_
  refine g_iadd (q := 109) C dX3_readGroups_108 rfl ?_
  refine g_putfield (q := 112) C fX3_79 dX3_readGroups_109 rfl HQ7.1 (Nat.le_of_ble_eq_true rfl) (Or.inl rfl) rfl rfl (by intro z h; cases h) ?_
  refine gQput (k := 7) (x := 4) HQ7 rfl fun h8 HQ8 fq8 => ?_
  have HT8 : gRw h8 1 2 96 [59, 130, 129, 17, p, 65, 66, c] := HT7.kept (fq8 1 (by decide)) (fq8 2 (by decide))
  refine g_iinc (v := 4) (q := 115) C dX3_readGroups_112 rfl (by decide) (by simp only [gset]; rfl) rfl ?_
  refine g_goto (q := 32) C dX3_readGroups_115 (by decide) ?_
  refine g_iload (q := 34) C dX3_readGroups_32 rfl rfl ?_
  refine g_iconst (v := 4) (q := 35) C dX3_readGroups_34 (by decide) rfl ?_
  refine g_icmp_ge_t (t := 118) C dX3_readGroups_35 (by decide) (by decide) ?_
  refine g_iinc (v := 3) (q := 121) C dX3_readGroups_118 rfl (by decide) (by simp only [gset]; rfl) rfl ?_
  refine g_goto (q := 2) C dX3_readGroups_121 (by decide) ?_
  refine g_iload_n (q := 3) C dX3_readGroups_2 rfl rfl ?_
  refine g_iconst (v := 4) (q := 4) C dX3_readGroups_3 (by decide) rfl ?_
  refine g_icmp_gt_f (t := 124) (q := 7) C dX3_readGroups_4 (by decide) rfl (by decide) ?_
  refine g_aload_n (q := 8) C dX3_readGroups_7 rfl rfl ?_
  refine g_getfield (v := .int (((17 : Int32) >>> (4 &&& 31)))) (q := 11) C fX3_76 dX3_readGroups_8 rfl HQ8.1 rfl ?_
  refine g_if_eq_f (t := 124) (q := 14) C dX3_readGroups_11 (by decide) rfl (by decide) ?_
  refine g_aload_n (q := 15) C dX3_readGroups_14 rfl rfl ?_
  refine g_iload_n (q := 16) C dX3_readGroups_15 rfl rfl ?_
  refine g_putfield (q := 19) C fX3_48 dX3_readGroups_16 rfl HQ8.1 (Nat.le_of_ble_eq_true rfl) (Or.inl rfl) rfl rfl (by intro z h; cases h) ?_
  refine gQput (k := 4) (x := 3) HQ8 rfl fun h9 HQ9 fq9 => ?_
  have HT9 : gRw h9 1 2 96 [59, 130, 129, 17, p, 65, 66, c] := HT8.kept (fq9 1 (by decide)) (fq9 2 (by decide))
  refine g_aload_n (q := 20) C dX3_readGroups_19 rfl rfl ?_
  refine g_getfield (v := .int (((17 : Int32) >>> (4 &&& 31)))) (q := 23) C fX3_76 dX3_readGroups_20 rfl HQ9.1 rfl ?_
  refine g_istore_n (q := 24) C dX3_readGroups_23 (Nat.le_of_ble_eq_true rfl) (by simp only [gset]; rfl) rfl ?_
  refine g_aload_n (q := 25) C dX3_readGroups_24 rfl rfl ?_
  refine g_iconst (v := 0) (q := 26) C dX3_readGroups_25 (by decide) rfl ?_
  refine g_putfield (q := 29) C fX3_76 dX3_readGroups_26 rfl HQ9.1 (Nat.le_of_ble_eq_true rfl) (Or.inl rfl) rfl rfl (by intro z h; cases h) ?_
  refine gQput (k := 8) (x := 0) HQ9 rfl fun h10 HQ10 fq10 => ?_
  have HT10 : gRw h10 1 2 96 [59, 130, 129, 17, p, 65, 66, c] := HT9.kept (fq10 1 (by decide)) (fq10 2 (by decide))
  refine g_iconst (v := 0) (q := 30) C dX3_readGroups_29 (by decide) rfl ?_
  refine g_istore (q := 32) C dX3_readGroups_30 (Nat.le_of_ble_eq_true rfl) (by simp only [gset]; rfl) rfl ?_
  refine g_iload (q := 34) C dX3_readGroups_32 rfl rfl ?_
  refine g_iconst (v := 4) (q := 35) C dX3_readGroups_34 (by decide) rfl ?_
  refine g_icmp_ge_f (t := 118) (q := 38) C dX3_readGroups_35 (by decide) rfl (by decide) ?_
  refine g_iload_n (q := 39) C dX3_readGroups_38 rfl rfl ?_
  refine g_iload (q := 41) C dX3_readGroups_39 rfl rfl ?_
  refine g_ishr (q := 42) C dX3_readGroups_41 rfl ?_
  refine g_iconst (v := 1) (q := 43) C dX3_readGroups_42 (by decide) rfl ?_
  refine g_iand (q := 44) C dX3_readGroups_43 rfl ?_
  refine g_if_ne_t (t := 50) C dX3_readGroups_44 (by decide) (by decide) ?_
  refine g_aload_n (q := 51) C dX3_readGroups_50 rfl rfl ?_
  refine g_getfield (v := .int 4) (q := 54) C fX3_79 dX3_readGroups_51 rfl HQ10.1 rfl ?_
  refine g_aload_n (q := 55) C dX3_readGroups_54 rfl rfl ?_
  refine g_callVi (x := 8) (q := 58) (As := []) C gyX4_size gvX4_size t_417 (c_X4_size (gRw.obj HT10)) dX3_readGroups_55 rfl (gRw.obj HT10) rfl rfl rfl (Nat.le_of_ble_eq_true rfl) (Nat.le_of_ble_eq_true rfl) (Nat.le_of_ble_eq_true rfl) (Nat.le_of_ble_eq_true rfl) (Nat.le_of_ble_eq_true rfl) rfl ?_
  refine g_icmp_lt_t (t := 70) C dX3_readGroups_58 (by decide) (by decide) ?_
  refine g_aload_n (q := 71) C dX3_readGroups_70 rfl rfl ?_
  refine g_iload_n (q := 72) C dX3_readGroups_71 rfl rfl ?_
  refine g_iload (q := 74) C dX3_readGroups_72 rfl rfl ?_
  refine g_aload_n (q := 75) C dX3_readGroups_74 rfl rfl ?_
  refine g_aload_n (q := 76) C dX3_readGroups_75 rfl rfl ?_
  refine g_getfield (v := .int 4) (q := 79) C fX3_79 dX3_readGroups_76 rfl HQ10.1 rfl ?_
  refine g_callVi (x := p) (q := 82) (As := [.int 4]) C gyX4_at gvX4_at t_424 (c_X4_at_v HT10 (y := p) (gat_nI (i := 4) (by decide))) dX3_readGroups_79 rfl (gRw.obj HT10) rfl rfl rfl (Nat.le_of_ble_eq_true rfl) (Nat.le_of_ble_eq_true rfl) (Nat.le_of_ble_eq_true rfl) (Nat.le_of_ble_eq_true rfl) (Nat.le_of_ble_eq_true rfl) rfl ?_
  refine g_callVix (x := 0) (q := 85) (As := [.int 3, .int 0, .int p]) C gyX3_readGroupByte gvX3_readGroupByte t_432 (c_X3_readGroupByte_3_q (p := p) (c := c) HQ10 rfl g1 g2) dX3_readGroups_82 rfl HQ10.1 rfl rfl rfl (Nat.le_of_ble_eq_true rfl) (Nat.le_of_ble_eq_true rfl) (Nat.le_of_ble_eq_true rfl) (Nat.le_of_ble_eq_true rfl) (Nat.le_of_ble_eq_true rfl) rfl (fun h11 z11 => ?_)
  obtain ⟨HQ11, fq11⟩ := z11
  have HT11 : gRw h11 1 2 96 [59, 130, 129, 17, p, 65, 66, c] := HT10.kept (fq11 1 (by decide)) (fq11 2 (by decide))
  refine g_istore (q := 87) C dX3_readGroups_85 (Nat.le_of_ble_eq_true rfl) (by simp only [gset]; rfl) rfl ?_
  refine g_iload (q := 89) C dX3_readGroups_87 rfl rfl ?_
  refine g_if_eq_t (t := 102) C dX3_readGroups_89 (by decide) (by decide) ?_
  refine g_aload_n (q := 103) C dX3_readGroups_102 rfl rfl ?_
  refine g_dup (q := 104) C dX3_readGroups_103 rfl rfl ?_
  refine g_getfield (v := .int 4) (q := 107) C fX3_79 dX3_readGroups_104 rfl HQ11.1 rfl ?_
  refine g_iconst (v := 1) (q := 108) C dX3_readGroups_107 (by decide) rfl ?_
  refine g_iadd (q := 109) C dX3_readGroups_108 rfl ?_
  refine g_putfield (q := 112) C fX3_79 dX3_readGroups_109 rfl HQ11.1 (Nat.le_of_ble_eq_true rfl) (Or.inl rfl) rfl rfl (by intro z h; cases h) ?_
  refine gQput (k := 7) (x := 5) HQ11 rfl fun h12 HQ12 fq12 => ?_
  have HT12 : gRw h12 1 2 96 [59, 130, 129, 17, p, 65, 66, c] := HT11.kept (fq12 1 (by decide)) (fq12 2 (by decide))
  refine g_iinc (v := 1) (q := 115) C dX3_readGroups_112 rfl (by decide) (by simp only [gset]; rfl) rfl ?_
  refine g_goto (q := 32) C dX3_readGroups_115 (by decide) ?_
  refine g_iload (q := 34) C dX3_readGroups_32 rfl rfl ?_
  refine g_iconst (v := 4) (q := 35) C dX3_readGroups_34 (by decide) rfl ?_
  refine g_icmp_ge_f (t := 118) (q := 38) C dX3_readGroups_35 (by decide) rfl (by decide) ?_
  refine g_iload_n (q := 39) C dX3_readGroups_38 rfl rfl ?_
  refine g_iload (q := 41) C dX3_readGroups_39 rfl rfl ?_
  refine g_ishr (q := 42) C dX3_readGroups_41 rfl ?_
  refine g_iconst (v := 1) (q := 43) C dX3_readGroups_42 (by decide) rfl ?_
  refine g_iand (q := 44) C dX3_readGroups_43 rfl ?_
  refine g_if_ne_f (t := 50) (q := 47) C dX3_readGroups_44 (by decide) rfl (by decide) ?_
  refine g_goto (q := 112) C dX3_readGroups_47 (by decide) ?_
  refine g_iinc (v := 2) (q := 115) C dX3_readGroups_112 rfl (by decide) (by simp only [gset]; rfl) rfl ?_
  refine g_goto (q := 32) C dX3_readGroups_115 (by decide) ?_
  refine g_iload (q := 34) C dX3_readGroups_32 rfl rfl ?_
  refine g_iconst (v := 4) (q := 35) C dX3_readGroups_34 (by decide) rfl ?_
  refine g_icmp_ge_f (t := 118) (q := 38) C dX3_readGroups_35 (by decide) rfl (by decide) ?_
  refine g_iload_n (q := 39) C dX3_readGroups_38 rfl rfl ?_
  refine g_iload (q := 41) C dX3_readGroups_39 rfl rfl ?_
  refine g_ishr (q := 42) C dX3_readGroups_41 rfl ?_
  refine g_iconst (v := 1) (q := 43) C dX3_readGroups_42 (by decide) rfl ?_
  refine g_iand (q := 44) C dX3_readGroups_43 rfl ?_
  refine g_if_ne_f (t := 50) (q := 47) C dX3_readGroups_44 (by decide) rfl (by decide) ?_
  refine g_goto (q := 112) C dX3_readGroups_47 (by decide) ?_
  refine g_iinc (v := 3) (q := 115) C dX3_readGroups_112 rfl (by decide) (by simp only [gset]; rfl) rfl ?_
  refine g_goto (q := 32) C dX3_readGroups_115 (by decide) ?_
  refine g_iload (q := 34) C dX3_readGroups_32 rfl rfl ?_
  refine g_iconst (v := 4) (q := 35) C dX3_readGroups_34 (by decide) rfl ?_
  refine g_icmp_ge_f (t := 118) (q := 38) C dX3_readGroups_35 (by decide) rfl (by decide) ?_
  refine g_iload_n (q := 39) C dX3_readGroups_38 rfl rfl ?_
  refine g_iload (q := 41) C dX3_readGroups_39 rfl rfl ?_
  refine g_ishr (q := 42) C dX3_readGroups_41 rfl ?_
  refine g_iconst (v := 1) (q := 43) C dX3_readGroups_42 (by decide) rfl ?_
  refine g_iand (q := 44) C dX3_readGroups_43 rfl ?_
  refine g_if_ne_f (t := 50) (q := 47) C dX3_readGroups_44 (by decide) rfl (by decide) ?_
  refine g_goto (q := 112) C dX3_readGroups_47 (by decide) ?_
  refine g_iinc (v := 4) (q := 115) C dX3_readGroups_112 rfl (by decide) (by simp only [gset]; rfl) rfl ?_
  refine g_goto (q := 32) C dX3_readGroups_115 (by decide) ?_
  refine g_iload (q := 34) C dX3_readGroups_32 rfl rfl ?_
  refine g_iconst (v := 4) (q := 35) C dX3_readGroups_34 (by decide) rfl ?_
  refine g_icmp_ge_t (t := 118) C dX3_readGroups_35 (by decide) (by decide) ?_
  refine g_iinc (v := 4) (q := 121) C dX3_readGroups_118 rfl (by decide) (by simp only [gset]; rfl) rfl ?_
  refine g_goto (q := 2) C dX3_readGroups_121 (by decide) ?_
  refine g_iload_n (q := 3) C dX3_readGroups_2 rfl rfl ?_
  refine g_iconst (v := 4) (q := 4) C dX3_readGroups_3 (by decide) rfl ?_
  refine g_icmp_gt_f (t := 124) (q := 7) C dX3_readGroups_4 (by decide) rfl (by decide) ?_
  refine g_aload_n (q := 8) C dX3_readGroups_7 rfl rfl ?_
  refine g_getfield (v := .int 0) (q := 11) C fX3_76 dX3_readGroups_8 rfl HQ12.1 rfl ?_
  refine g_if_eq_t (t := 124) C dX3_readGroups_11 (by decide) (by decide) ?_
  refine g_iconst (v := 0) (q := 125) C dX3_readGroups_124 (by decide) rfl ?_
  exact E.1 _ _ _ _ _ _ _ dX3_readGroups_125 rfl rfl (Nat.le_of_ble_eq_true rfl) (Nat.le_of_ble_eq_true rfl) ⟨rfl, HQ12, (gFQ.trans (gFQ.trans (gFQ.trans (gFQ.trans (gFQ.trans (gFQ.trans (gFQ.trans (gFQ.trans (gFQ.trans (gFQ.trans (gFQ.trans fq1 fq2) fq3) fq4) fq5) fq6) fq7) fq8) fq9) fq10) fq11) fq12)⟩
def qX3_readTail (q : gRs) (p c : Int32) : gRs := ((((((qX3_readGroups q p c).sh ((qX3_readGroups q p c).hi ++ [65])).set 7 6).sh ((((qX3_readGroups q p c).sh ((qX3_readGroups q p c).hi ++ [65])).set 7 6).hi ++ [66])).set 7 7).set 7 8)
theorem dX3_readTail_0 : decode cX3_readTail 0 = .ok (.iconst 0, 1) := by decide +kernel
theorem dX3_readTail_1 : decode cX3_readTail 1 = .ok (.istore_n 3, 1) := by decide +kernel
theorem dX3_readTail_2 : decode cX3_readTail 2 = .ok (.iload_n 3, 1) := by decide +kernel
theorem dX3_readTail_3 : decode cX3_readTail 3 = .ok (.iload_n 2, 1) := by decide +kernel
theorem dX3_readTail_4 : decode cX3_readTail 4 = .ok (.if_icmp .ge 54, 3) := by decide +kernel
theorem dX3_readTail_7 : decode cX3_readTail 7 = .ok (.aload_n 0, 1) := by decide +kernel
theorem dX3_readTail_8 : decode cX3_readTail 8 = .ok (.getfield 79, 3) := by decide +kernel
theorem dX3_readTail_11 : decode cX3_readTail 11 = .ok (.aload_n 1, 1) := by decide +kernel
theorem dX3_readTail_12 : decode cX3_readTail 12 = .ok (.invokevirtual 65, 3) := by decide +kernel
theorem dX3_readTail_15 : decode cX3_readTail 15 = .ok (.if_icmp .lt 12, 3) := by decide +kernel
theorem dX3_readTail_27 : decode cX3_readTail 27 = .ok (.aload_n 0, 1) := by decide +kernel
theorem dX3_readTail_28 : decode cX3_readTail 28 = .ok (.getfield 14, 3) := by decide +kernel
theorem dX3_readTail_31 : decode cX3_readTail 31 = .ok (.aload_n 1, 1) := by decide +kernel
theorem dX3_readTail_32 : decode cX3_readTail 32 = .ok (.aload_n 0, 1) := by decide +kernel
theorem dX3_readTail_33 : decode cX3_readTail 33 = .ok (.getfield 79, 3) := by decide +kernel
theorem dX3_readTail_36 : decode cX3_readTail 36 = .ok (.invokevirtual 30, 3) := by decide +kernel
theorem dX3_readTail_39 : decode cX3_readTail 39 = .ok (.invokevirtual 101, 3) := by decide +kernel
theorem dX3_readTail_42 : decode cX3_readTail 42 = .ok (.aload_n 0, 1) := by decide +kernel
theorem dX3_readTail_43 : decode cX3_readTail 43 = .ok (.dup, 1) := by decide +kernel
theorem dX3_readTail_44 : decode cX3_readTail 44 = .ok (.getfield 79, 3) := by decide +kernel
theorem dX3_readTail_47 : decode cX3_readTail 47 = .ok (.iconst 1, 1) := by decide +kernel
theorem dX3_readTail_48 : decode cX3_readTail 48 = .ok (.iadd, 1) := by decide +kernel
theorem dX3_readTail_49 : decode cX3_readTail 49 = .ok (.putfield 79, 3) := by decide +kernel
theorem dX3_readTail_52 : decode cX3_readTail 52 = .ok (.iinc 3 1, 3) := by decide +kernel
theorem dX3_readTail_55 : decode cX3_readTail 55 = .ok (.goto (-53), 3) := by decide +kernel
theorem dX3_readTail_58 : decode cX3_readTail 58 = .ok (.aload_n 0, 1) := by decide +kernel
theorem dX3_readTail_59 : decode cX3_readTail 59 = .ok (.getfield 54, 3) := by decide +kernel
theorem dX3_readTail_62 : decode cX3_readTail 62 = .ok (.ifCond .eq 76, 3) := by decide +kernel
theorem dX3_readTail_65 : decode cX3_readTail 65 = .ok (.aload_n 0, 1) := by decide +kernel
theorem dX3_readTail_66 : decode cX3_readTail 66 = .ok (.getfield 79, 3) := by decide +kernel
theorem dX3_readTail_69 : decode cX3_readTail 69 = .ok (.aload_n 1, 1) := by decide +kernel
theorem dX3_readTail_70 : decode cX3_readTail 70 = .ok (.invokevirtual 65, 3) := by decide +kernel
theorem dX3_readTail_73 : decode cX3_readTail 73 = .ok (.if_icmp .lt 12, 3) := by decide +kernel
theorem dX3_readTail_85 : decode cX3_readTail 85 = .ok (.iconst 0, 1) := by decide +kernel
theorem dX3_readTail_86 : decode cX3_readTail 86 = .ok (.istore_n 3, 1) := by decide +kernel
theorem dX3_readTail_87 : decode cX3_readTail 87 = .ok (.iconst 1, 1) := by decide +kernel
theorem dX3_readTail_88 : decode cX3_readTail 88 = .ok (.istore 4, 2) := by decide +kernel
theorem dX3_readTail_90 : decode cX3_readTail 90 = .ok (.iload 4, 2) := by decide +kernel
theorem dX3_readTail_92 : decode cX3_readTail 92 = .ok (.aload_n 0, 1) := by decide +kernel
theorem dX3_readTail_93 : decode cX3_readTail 93 = .ok (.getfield 79, 3) := by decide +kernel
theorem dX3_readTail_96 : decode cX3_readTail 96 = .ok (.if_icmp .gt 18, 3) := by decide +kernel
theorem dX3_readTail_99 : decode cX3_readTail 99 = .ok (.iload_n 3, 1) := by decide +kernel
theorem dX3_readTail_100 : decode cX3_readTail 100 = .ok (.aload_n 1, 1) := by decide +kernel
theorem dX3_readTail_101 : decode cX3_readTail 101 = .ok (.iload 4, 2) := by decide +kernel
theorem dX3_readTail_103 : decode cX3_readTail 103 = .ok (.invokevirtual 30, 3) := by decide +kernel
theorem dX3_readTail_106 : decode cX3_readTail 106 = .ok (.ixor, 1) := by decide +kernel
theorem dX3_readTail_107 : decode cX3_readTail 107 = .ok (.istore_n 3, 1) := by decide +kernel
theorem dX3_readTail_108 : decode cX3_readTail 108 = .ok (.iinc 4 1, 3) := by decide +kernel
theorem dX3_readTail_111 : decode cX3_readTail 111 = .ok (.goto (-21), 3) := by decide +kernel
theorem dX3_readTail_114 : decode cX3_readTail 114 = .ok (.iload_n 3, 1) := by decide +kernel
theorem dX3_readTail_115 : decode cX3_readTail 115 = .ok (.ifCond .eq 13, 3) := by decide +kernel
theorem dX3_readTail_128 : decode cX3_readTail 128 = .ok (.aload_n 0, 1) := by decide +kernel
theorem dX3_readTail_129 : decode cX3_readTail 129 = .ok (.dup, 1) := by decide +kernel
theorem dX3_readTail_130 : decode cX3_readTail 130 = .ok (.getfield 79, 3) := by decide +kernel
theorem dX3_readTail_133 : decode cX3_readTail 133 = .ok (.iconst 1, 1) := by decide +kernel
theorem dX3_readTail_134 : decode cX3_readTail 134 = .ok (.iadd, 1) := by decide +kernel
theorem dX3_readTail_135 : decode cX3_readTail 135 = .ok (.putfield 79, 3) := by decide +kernel
theorem dX3_readTail_138 : decode cX3_readTail 138 = .ok (.aload_n 0, 1) := by decide +kernel
theorem dX3_readTail_139 : decode cX3_readTail 139 = .ok (.getfield 79, 3) := by decide +kernel
theorem dX3_readTail_142 : decode cX3_readTail 142 = .ok (.aload_n 1, 1) := by decide +kernel
theorem dX3_readTail_143 : decode cX3_readTail 143 = .ok (.invokevirtual 65, 3) := by decide +kernel
theorem dX3_readTail_146 : decode cX3_readTail 146 = .ok (.if_icmp .ge 15, 3) := by decide +kernel
theorem dX3_readTail_161 : decode cX3_readTail 161 = .ok (.iconst 0, 1) := by decide +kernel
theorem dX3_readTail_162 : decode cX3_readTail 162 = .ok (.ireturn, 1) := by decide +kernel
set_option maxRecDepth 100000 in
set_option maxHeartbeats 4000000 in
theorem c_X3_readTail_q {hp : List gA} {q : gRs} {p c : Int32}  (HQ : gRs_ hp 119 (qX3_readGroups q p c)) (HT : gRw hp 1 2 96 [59, 130, 129, 17, p, 65, 66, c]) (hx : ((((((((0 : Int32) ^^^ 130) ^^^ 129) ^^^ 17) ^^^ p) ^^^ 65) ^^^ 66) ^^^ c) = 0) : gM yX3_readTail cX3_readTail 5 ((some .int)) 3 103 [.ref 119, .ref 1, .int 2] (hp) (0) (0) (fun v h => v = some (.int (0)) ∧ (gRs_ h 119 (qX3_readTail q p c) ∧ gFQ hp h)) := by
  refine gM_of (ls0 := [some (.ref 119), some (.ref 1), some (.int 2), none, none]) (by decide +kernel) (Nat.le_of_ble_eq_true rfl) rfl fun X C E => ?_
  refine g_iconst (v := 0) (q := 1) C dX3_readTail_0 (by decide) rfl ?_
  refine g_istore_n (q := 2) C dX3_readTail_1 (Nat.le_of_ble_eq_true rfl) (by simp only [gset]; rfl) rfl ?_
  refine g_iload_n (q := 3) C dX3_readTail_2 rfl rfl ?_
  refine g_iload_n (q := 4) C dX3_readTail_3 rfl rfl ?_
  refine g_icmp_ge_f (t := 58) (q := 7) C dX3_readTail_4 (by decide) rfl (by decide) ?_
  refine g_aload_n (q := 8) C dX3_readTail_7 rfl rfl ?_
  refine g_getfield (v := .int 5) (q := 11) C fX3_79 dX3_readTail_8 rfl HQ.1 rfl ?_
  refine g_aload_n (q := 12) C dX3_readTail_11 rfl rfl ?_
  refine g_callVi (x := 8) (q := 15) (As := []) C gyX4_size gvX4_size t_417 (c_X4_size (gRw.obj HT)) dX3_readTail_12 rfl (gRw.obj HT) rfl rfl rfl (Nat.le_of_ble_eq_true rfl) (Nat.le_of_ble_eq_true rfl) (Nat.le_of_ble_eq_true rfl) (Nat.le_of_ble_eq_true rfl) (Nat.le_of_ble_eq_true rfl) rfl ?_
  refine g_icmp_lt_t (t := 27) C dX3_readTail_15 (by decide) (by decide) ?_
  refine g_aload_n (q := 28) C dX3_readTail_27 rfl rfl ?_
  refine g_getfield (v := .ref 120) (q := 31) C fX3_14 dX3_readTail_28 rfl HQ.1 rfl ?_
  refine g_aload_n (q := 32) C dX3_readTail_31 rfl rfl ?_
  refine g_aload_n (q := 33) C dX3_readTail_32 rfl rfl ?_
  refine g_getfield (v := .int 5) (q := 36) C fX3_79 dX3_readTail_33 rfl HQ.1 rfl ?_
  refine g_callVi (x := 65) (q := 39) (As := [.int 5]) C gyX4_at gvX4_at t_424 (c_X4_at_v HT (y := 65) (gat_nI (i := 5) (by decide))) dX3_readTail_36 rfl (gRw.obj HT) rfl rfl rfl (Nat.le_of_ble_eq_true rfl) (Nat.le_of_ble_eq_true rfl) (Nat.le_of_ble_eq_true rfl) (Nat.le_of_ble_eq_true rfl) (Nat.le_of_ble_eq_true rfl) rfl ?_
  refine g_callVvp (q := 42) (As := [.int 65]) C gyX4_add gvX4_add t_462 (c_X4_add_w HQ.2 (Nat.le_of_ble_eq_true rfl)) dX3_readTail_39 rfl (gRw.obj HQ.2) rfl rfl rfl (Nat.le_of_ble_eq_true rfl) (Nat.le_of_ble_eq_true rfl) (Nat.le_of_ble_eq_true rfl) (Nat.le_of_ble_eq_true rfl) (Nat.le_of_ble_eq_true rfl) rfl (fun h1 z1 => ?_)
  obtain ⟨HQ1, fq1⟩ := gQrow HQ z1
  have HT1 : gRw h1 1 2 96 [59, 130, 129, 17, p, 65, 66, c] := HT.kept (fq1 1 (by decide)) (fq1 2 (by decide))
  refine g_aload_n (q := 43) C dX3_readTail_42 rfl rfl ?_
  refine g_dup (q := 44) C dX3_readTail_43 rfl rfl ?_
  refine g_getfield (v := .int 5) (q := 47) C fX3_79 dX3_readTail_44 rfl HQ1.1 rfl ?_
  refine g_iconst (v := 1) (q := 48) C dX3_readTail_47 (by decide) rfl ?_
  refine g_iadd (q := 49) C dX3_readTail_48 rfl ?_
  refine g_putfield (q := 52) C fX3_79 dX3_readTail_49 rfl HQ1.1 (Nat.le_of_ble_eq_true rfl) (Or.inl rfl) rfl rfl (by intro z h; cases h) ?_
  refine gQput (k := 7) (x := 6) HQ1 rfl fun h2 HQ2 fq2 => ?_
  have HT2 : gRw h2 1 2 96 [59, 130, 129, 17, p, 65, 66, c] := HT1.kept (fq2 1 (by decide)) (fq2 2 (by decide))
  refine g_iinc (v := 1) (q := 55) C dX3_readTail_52 rfl (by decide) (by simp only [gset]; rfl) rfl ?_
  refine g_goto (q := 2) C dX3_readTail_55 (by decide) ?_
  refine g_iload_n (q := 3) C dX3_readTail_2 rfl rfl ?_
  refine g_iload_n (q := 4) C dX3_readTail_3 rfl rfl ?_
  refine g_icmp_ge_f (t := 58) (q := 7) C dX3_readTail_4 (by decide) rfl (by decide) ?_
  refine g_aload_n (q := 8) C dX3_readTail_7 rfl rfl ?_
  refine g_getfield (v := .int 6) (q := 11) C fX3_79 dX3_readTail_8 rfl HQ2.1 rfl ?_
  refine g_aload_n (q := 12) C dX3_readTail_11 rfl rfl ?_
  refine g_callVi (x := 8) (q := 15) (As := []) C gyX4_size gvX4_size t_417 (c_X4_size (gRw.obj HT2)) dX3_readTail_12 rfl (gRw.obj HT2) rfl rfl rfl (Nat.le_of_ble_eq_true rfl) (Nat.le_of_ble_eq_true rfl) (Nat.le_of_ble_eq_true rfl) (Nat.le_of_ble_eq_true rfl) (Nat.le_of_ble_eq_true rfl) rfl ?_
  refine g_icmp_lt_t (t := 27) C dX3_readTail_15 (by decide) (by decide) ?_
  refine g_aload_n (q := 28) C dX3_readTail_27 rfl rfl ?_
  refine g_getfield (v := .ref 120) (q := 31) C fX3_14 dX3_readTail_28 rfl HQ2.1 rfl ?_
  refine g_aload_n (q := 32) C dX3_readTail_31 rfl rfl ?_
  refine g_aload_n (q := 33) C dX3_readTail_32 rfl rfl ?_
  refine g_getfield (v := .int 6) (q := 36) C fX3_79 dX3_readTail_33 rfl HQ2.1 rfl ?_
  refine g_callVi (x := 66) (q := 39) (As := [.int 6]) C gyX4_at gvX4_at t_424 (c_X4_at_v HT2 (y := 66) (gat_nI (i := 6) (by decide))) dX3_readTail_36 rfl (gRw.obj HT2) rfl rfl rfl (Nat.le_of_ble_eq_true rfl) (Nat.le_of_ble_eq_true rfl) (Nat.le_of_ble_eq_true rfl) (Nat.le_of_ble_eq_true rfl) (Nat.le_of_ble_eq_true rfl) rfl ?_
  refine g_callVvp (q := 42) (As := [.int 66]) C gyX4_add gvX4_add t_462 (c_X4_add_w HQ2.2 (Nat.le_of_ble_eq_true rfl)) dX3_readTail_39 rfl (gRw.obj HQ2.2) rfl rfl rfl (Nat.le_of_ble_eq_true rfl) (Nat.le_of_ble_eq_true rfl) (Nat.le_of_ble_eq_true rfl) (Nat.le_of_ble_eq_true rfl) (Nat.le_of_ble_eq_true rfl) rfl (fun h3 z3 => ?_)
  obtain ⟨HQ3, fq3⟩ := gQrow HQ2 z3
  have HT3 : gRw h3 1 2 96 [59, 130, 129, 17, p, 65, 66, c] := HT2.kept (fq3 1 (by decide)) (fq3 2 (by decide))
  refine g_aload_n (q := 43) C dX3_readTail_42 rfl rfl ?_
  refine g_dup (q := 44) C dX3_readTail_43 rfl rfl ?_
  refine g_getfield (v := .int 6) (q := 47) C fX3_79 dX3_readTail_44 rfl HQ3.1 rfl ?_
  refine g_iconst (v := 1) (q := 48) C dX3_readTail_47 (by decide) rfl ?_
  refine g_iadd (q := 49) C dX3_readTail_48 rfl ?_
  refine g_putfield (q := 52) C fX3_79 dX3_readTail_49 rfl HQ3.1 (Nat.le_of_ble_eq_true rfl) (Or.inl rfl) rfl rfl (by intro z h; cases h) ?_
  refine gQput (k := 7) (x := 7) HQ3 rfl fun h4 HQ4 fq4 => ?_
  have HT4 : gRw h4 1 2 96 [59, 130, 129, 17, p, 65, 66, c] := HT3.kept (fq4 1 (by decide)) (fq4 2 (by decide))
  refine g_iinc (v := 2) (q := 55) C dX3_readTail_52 rfl (by decide) (by simp only [gset]; rfl) rfl ?_
  refine g_goto (q := 2) C dX3_readTail_55 (by decide) ?_
  refine g_iload_n (q := 3) C dX3_readTail_2 rfl rfl ?_
  refine g_iload_n (q := 4) C dX3_readTail_3 rfl rfl ?_
  refine g_icmp_ge_t (t := 58) C dX3_readTail_4 (by decide) (by decide) ?_
  refine g_aload_n (q := 59) C dX3_readTail_58 rfl rfl ?_
  refine g_getfield (v := .int 1) (q := 62) C fX3_54 dX3_readTail_59 rfl HQ4.1 rfl ?_
  refine g_if_eq_f (t := 138) (q := 65) C dX3_readTail_62 (by decide) rfl (by decide) ?_
  refine g_aload_n (q := 66) C dX3_readTail_65 rfl rfl ?_
  refine g_getfield (v := .int 7) (q := 69) C fX3_79 dX3_readTail_66 rfl HQ4.1 rfl ?_
  refine g_aload_n (q := 70) C dX3_readTail_69 rfl rfl ?_
  refine g_callVi (x := 8) (q := 73) (As := []) C gyX4_size gvX4_size t_417 (c_X4_size (gRw.obj HT4)) dX3_readTail_70 rfl (gRw.obj HT4) rfl rfl rfl (Nat.le_of_ble_eq_true rfl) (Nat.le_of_ble_eq_true rfl) (Nat.le_of_ble_eq_true rfl) (Nat.le_of_ble_eq_true rfl) (Nat.le_of_ble_eq_true rfl) rfl ?_
  refine g_icmp_lt_t (t := 85) C dX3_readTail_73 (by decide) (by decide) ?_
  refine g_iconst (v := 0) (q := 86) C dX3_readTail_85 (by decide) rfl ?_
  refine g_istore_n (q := 87) C dX3_readTail_86 (Nat.le_of_ble_eq_true rfl) (by simp only [gset]; rfl) rfl ?_
  refine g_iconst (v := 1) (q := 88) C dX3_readTail_87 (by decide) rfl ?_
  refine g_istore (q := 90) C dX3_readTail_88 (Nat.le_of_ble_eq_true rfl) (by simp only [gset]; rfl) rfl ?_
  refine g_iload (q := 92) C dX3_readTail_90 rfl rfl ?_
  refine g_aload_n (q := 93) C dX3_readTail_92 rfl rfl ?_
  refine g_getfield (v := .int 7) (q := 96) C fX3_79 dX3_readTail_93 rfl HQ4.1 rfl ?_
  refine g_icmp_gt_f (t := 114) (q := 99) C dX3_readTail_96 (by decide) rfl (by decide) ?_
  refine g_iload_n (q := 100) C dX3_readTail_99 rfl rfl ?_
  refine g_aload_n (q := 101) C dX3_readTail_100 rfl rfl ?_
  refine g_iload (q := 103) C dX3_readTail_101 rfl rfl ?_
  refine g_callVi (x := 130) (q := 106) (As := [.int 1]) C gyX4_at gvX4_at t_424 (c_X4_at_v HT4 (y := 130) (gat_nI (i := 1) (by decide))) dX3_readTail_103 rfl (gRw.obj HT4) rfl rfl rfl (Nat.le_of_ble_eq_true rfl) (Nat.le_of_ble_eq_true rfl) (Nat.le_of_ble_eq_true rfl) (Nat.le_of_ble_eq_true rfl) (Nat.le_of_ble_eq_true rfl) rfl ?_
  refine g_ixor (q := 107) C dX3_readTail_106 rfl ?_
  refine g_istore_n (q := 108) C dX3_readTail_107 (Nat.le_of_ble_eq_true rfl) (by simp only [gset]; rfl) rfl ?_
  refine g_iinc (v := 2) (q := 111) C dX3_readTail_108 rfl (by decide) (by simp only [gset]; rfl) rfl ?_
  refine g_goto (q := 90) C dX3_readTail_111 (by decide) ?_
  refine g_iload (q := 92) C dX3_readTail_90 rfl rfl ?_
  refine g_aload_n (q := 93) C dX3_readTail_92 rfl rfl ?_
  refine g_getfield (v := .int 7) (q := 96) C fX3_79 dX3_readTail_93 rfl HQ4.1 rfl ?_
  refine g_icmp_gt_f (t := 114) (q := 99) C dX3_readTail_96 (by decide) rfl (by decide) ?_
  refine g_iload_n (q := 100) C dX3_readTail_99 rfl rfl ?_
  refine g_aload_n (q := 101) C dX3_readTail_100 rfl rfl ?_
  refine g_iload (q := 103) C dX3_readTail_101 rfl rfl ?_
  refine g_callVi (x := 129) (q := 106) (As := [.int 2]) C gyX4_at gvX4_at t_424 (c_X4_at_v HT4 (y := 129) (gat_nI (i := 2) (by decide))) dX3_readTail_103 rfl (gRw.obj HT4) rfl rfl rfl (Nat.le_of_ble_eq_true rfl) (Nat.le_of_ble_eq_true rfl) (Nat.le_of_ble_eq_true rfl) (Nat.le_of_ble_eq_true rfl) (Nat.le_of_ble_eq_true rfl) rfl ?_
  refine g_ixor (q := 107) C dX3_readTail_106 rfl ?_
  refine g_istore_n (q := 108) C dX3_readTail_107 (Nat.le_of_ble_eq_true rfl) (by simp only [gset]; rfl) rfl ?_
  refine g_iinc (v := 3) (q := 111) C dX3_readTail_108 rfl (by decide) (by simp only [gset]; rfl) rfl ?_
  refine g_goto (q := 90) C dX3_readTail_111 (by decide) ?_
  refine g_iload (q := 92) C dX3_readTail_90 rfl rfl ?_
  refine g_aload_n (q := 93) C dX3_readTail_92 rfl rfl ?_
  refine g_getfield (v := .int 7) (q := 96) C fX3_79 dX3_readTail_93 rfl HQ4.1 rfl ?_
  refine g_icmp_gt_f (t := 114) (q := 99) C dX3_readTail_96 (by decide) rfl (by decide) ?_
  refine g_iload_n (q := 100) C dX3_readTail_99 rfl rfl ?_
  refine g_aload_n (q := 101) C dX3_readTail_100 rfl rfl ?_
  refine g_iload (q := 103) C dX3_readTail_101 rfl rfl ?_
  refine g_callVi (x := 17) (q := 106) (As := [.int 3]) C gyX4_at gvX4_at t_424 (c_X4_at_v HT4 (y := 17) (gat_nI (i := 3) (by decide))) dX3_readTail_103 rfl (gRw.obj HT4) rfl rfl rfl (Nat.le_of_ble_eq_true rfl) (Nat.le_of_ble_eq_true rfl) (Nat.le_of_ble_eq_true rfl) (Nat.le_of_ble_eq_true rfl) (Nat.le_of_ble_eq_true rfl) rfl ?_
  refine g_ixor (q := 107) C dX3_readTail_106 rfl ?_
  refine g_istore_n (q := 108) C dX3_readTail_107 (Nat.le_of_ble_eq_true rfl) (by simp only [gset]; rfl) rfl ?_
  refine g_iinc (v := 4) (q := 111) C dX3_readTail_108 rfl (by decide) (by simp only [gset]; rfl) rfl ?_
  refine g_goto (q := 90) C dX3_readTail_111 (by decide) ?_
  refine g_iload (q := 92) C dX3_readTail_90 rfl rfl ?_
  refine g_aload_n (q := 93) C dX3_readTail_92 rfl rfl ?_
  refine g_getfield (v := .int 7) (q := 96) C fX3_79 dX3_readTail_93 rfl HQ4.1 rfl ?_
  refine g_icmp_gt_f (t := 114) (q := 99) C dX3_readTail_96 (by decide) rfl (by decide) ?_
  refine g_iload_n (q := 100) C dX3_readTail_99 rfl rfl ?_
  refine g_aload_n (q := 101) C dX3_readTail_100 rfl rfl ?_
  refine g_iload (q := 103) C dX3_readTail_101 rfl rfl ?_
  refine g_callVi (x := p) (q := 106) (As := [.int 4]) C gyX4_at gvX4_at t_424 (c_X4_at_v HT4 (y := p) (gat_nI (i := 4) (by decide))) dX3_readTail_103 rfl (gRw.obj HT4) rfl rfl rfl (Nat.le_of_ble_eq_true rfl) (Nat.le_of_ble_eq_true rfl) (Nat.le_of_ble_eq_true rfl) (Nat.le_of_ble_eq_true rfl) (Nat.le_of_ble_eq_true rfl) rfl ?_
  refine g_ixor (q := 107) C dX3_readTail_106 rfl ?_
  refine g_istore_n (q := 108) C dX3_readTail_107 (Nat.le_of_ble_eq_true rfl) (by simp only [gset]; rfl) rfl ?_
  refine g_iinc (v := 5) (q := 111) C dX3_readTail_108 rfl (by decide) (by simp only [gset]; rfl) rfl ?_
  refine g_goto (q := 90) C dX3_readTail_111 (by decide) ?_
  refine g_iload (q := 92) C dX3_readTail_90 rfl rfl ?_
  refine g_aload_n (q := 93) C dX3_readTail_92 rfl rfl ?_
  refine g_getfield (v := .int 7) (q := 96) C fX3_79 dX3_readTail_93 rfl HQ4.1 rfl ?_
  refine g_icmp_gt_f (t := 114) (q := 99) C dX3_readTail_96 (by decide) rfl (by decide) ?_
  refine g_iload_n (q := 100) C dX3_readTail_99 rfl rfl ?_
  refine g_aload_n (q := 101) C dX3_readTail_100 rfl rfl ?_
  refine g_iload (q := 103) C dX3_readTail_101 rfl rfl ?_
  refine g_callVi (x := 65) (q := 106) (As := [.int 5]) C gyX4_at gvX4_at t_424 (c_X4_at_v HT4 (y := 65) (gat_nI (i := 5) (by decide))) dX3_readTail_103 rfl (gRw.obj HT4) rfl rfl rfl (Nat.le_of_ble_eq_true rfl) (Nat.le_of_ble_eq_true rfl) (Nat.le_of_ble_eq_true rfl) (Nat.le_of_ble_eq_true rfl) (Nat.le_of_ble_eq_true rfl) rfl ?_
  refine g_ixor (q := 107) C dX3_readTail_106 rfl ?_
  refine g_istore_n (q := 108) C dX3_readTail_107 (Nat.le_of_ble_eq_true rfl) (by simp only [gset]; rfl) rfl ?_
  refine g_iinc (v := 6) (q := 111) C dX3_readTail_108 rfl (by decide) (by simp only [gset]; rfl) rfl ?_
  refine g_goto (q := 90) C dX3_readTail_111 (by decide) ?_
  refine g_iload (q := 92) C dX3_readTail_90 rfl rfl ?_
  refine g_aload_n (q := 93) C dX3_readTail_92 rfl rfl ?_
  refine g_getfield (v := .int 7) (q := 96) C fX3_79 dX3_readTail_93 rfl HQ4.1 rfl ?_
  refine g_icmp_gt_f (t := 114) (q := 99) C dX3_readTail_96 (by decide) rfl (by decide) ?_
  refine g_iload_n (q := 100) C dX3_readTail_99 rfl rfl ?_
  refine g_aload_n (q := 101) C dX3_readTail_100 rfl rfl ?_
  refine g_iload (q := 103) C dX3_readTail_101 rfl rfl ?_
  refine g_callVi (x := 66) (q := 106) (As := [.int 6]) C gyX4_at gvX4_at t_424 (c_X4_at_v HT4 (y := 66) (gat_nI (i := 6) (by decide))) dX3_readTail_103 rfl (gRw.obj HT4) rfl rfl rfl (Nat.le_of_ble_eq_true rfl) (Nat.le_of_ble_eq_true rfl) (Nat.le_of_ble_eq_true rfl) (Nat.le_of_ble_eq_true rfl) (Nat.le_of_ble_eq_true rfl) rfl ?_
  refine g_ixor (q := 107) C dX3_readTail_106 rfl ?_
  refine g_istore_n (q := 108) C dX3_readTail_107 (Nat.le_of_ble_eq_true rfl) (by simp only [gset]; rfl) rfl ?_
  refine g_iinc (v := 7) (q := 111) C dX3_readTail_108 rfl (by decide) (by simp only [gset]; rfl) rfl ?_
  refine g_goto (q := 90) C dX3_readTail_111 (by decide) ?_
  refine g_iload (q := 92) C dX3_readTail_90 rfl rfl ?_
  refine g_aload_n (q := 93) C dX3_readTail_92 rfl rfl ?_
  refine g_getfield (v := .int 7) (q := 96) C fX3_79 dX3_readTail_93 rfl HQ4.1 rfl ?_
  refine g_icmp_gt_f (t := 114) (q := 99) C dX3_readTail_96 (by decide) rfl (by decide) ?_
  refine g_iload_n (q := 100) C dX3_readTail_99 rfl rfl ?_
  refine g_aload_n (q := 101) C dX3_readTail_100 rfl rfl ?_
  refine g_iload (q := 103) C dX3_readTail_101 rfl rfl ?_
  refine g_callVi (x := c) (q := 106) (As := [.int 7]) C gyX4_at gvX4_at t_424 (c_X4_at_v HT4 (y := c) (gat_nI (i := 7) (by decide))) dX3_readTail_103 rfl (gRw.obj HT4) rfl rfl rfl (Nat.le_of_ble_eq_true rfl) (Nat.le_of_ble_eq_true rfl) (Nat.le_of_ble_eq_true rfl) (Nat.le_of_ble_eq_true rfl) (Nat.le_of_ble_eq_true rfl) rfl ?_
  refine g_ixor (q := 107) C dX3_readTail_106 rfl ?_
  refine g_istore_n (q := 108) C dX3_readTail_107 (Nat.le_of_ble_eq_true rfl) (by simp only [gset]; rfl) rfl ?_
  refine g_iinc (v := 8) (q := 111) C dX3_readTail_108 rfl (by decide) (by simp only [gset]; rfl) rfl ?_
  refine g_goto (q := 90) C dX3_readTail_111 (by decide) ?_
  refine g_iload (q := 92) C dX3_readTail_90 rfl rfl ?_
  refine g_aload_n (q := 93) C dX3_readTail_92 rfl rfl ?_
  refine g_getfield (v := .int 7) (q := 96) C fX3_79 dX3_readTail_93 rfl HQ4.1 rfl ?_
  refine g_icmp_gt_t (t := 114) C dX3_readTail_96 (by decide) (by decide) ?_
  refine g_iload_n (q := 115) C dX3_readTail_114 rfl rfl ?_
  refine g_if_eq_t (t := 128) C dX3_readTail_115 (by decide) hx ?_
  refine g_aload_n (q := 129) C dX3_readTail_128 rfl rfl ?_
  refine g_dup (q := 130) C dX3_readTail_129 rfl rfl ?_
  refine g_getfield (v := .int 7) (q := 133) C fX3_79 dX3_readTail_130 rfl HQ4.1 rfl ?_
  refine g_iconst (v := 1) (q := 134) C dX3_readTail_133 (by decide) rfl ?_
  refine g_iadd (q := 135) C dX3_readTail_134 rfl ?_
  refine g_putfield (q := 138) C fX3_79 dX3_readTail_135 rfl HQ4.1 (Nat.le_of_ble_eq_true rfl) (Or.inl rfl) rfl rfl (by intro z h; cases h) ?_
  refine gQput (k := 7) (x := 8) HQ4 rfl fun h5 HQ5 fq5 => ?_
  have HT5 : gRw h5 1 2 96 [59, 130, 129, 17, p, 65, 66, c] := HT4.kept (fq5 1 (by decide)) (fq5 2 (by decide))
  refine g_aload_n (q := 139) C dX3_readTail_138 rfl rfl ?_
  refine g_getfield (v := .int 8) (q := 142) C fX3_79 dX3_readTail_139 rfl HQ5.1 rfl ?_
  refine g_aload_n (q := 143) C dX3_readTail_142 rfl rfl ?_
  refine g_callVi (x := 8) (q := 146) (As := []) C gyX4_size gvX4_size t_417 (c_X4_size (gRw.obj HT5)) dX3_readTail_143 rfl (gRw.obj HT5) rfl rfl rfl (Nat.le_of_ble_eq_true rfl) (Nat.le_of_ble_eq_true rfl) (Nat.le_of_ble_eq_true rfl) (Nat.le_of_ble_eq_true rfl) (Nat.le_of_ble_eq_true rfl) rfl ?_
  refine g_icmp_ge_t (t := 161) C dX3_readTail_146 (by decide) (by decide) ?_
  refine g_iconst (v := 0) (q := 162) C dX3_readTail_161 (by decide) rfl ?_
  exact E.1 _ _ _ _ _ _ _ dX3_readTail_162 rfl rfl (Nat.le_of_ble_eq_true rfl) (Nat.le_of_ble_eq_true rfl) ⟨rfl, HQ5, (gFQ.trans (gFQ.trans (gFQ.trans (gFQ.trans fq1 fq2) fq3) fq4) fq5)⟩
def qX3_read (q : gRs) (p c : Int32) : gRs := (qX3_readTail q p c)
theorem dX3_read_0 : decode cX3_read 0 = .ok (.aload_n 0, 1) := by decide +kernel
theorem dX3_read_1 : decode cX3_read 1 = .ok (.invokevirtual 20, 3) := by decide +kernel
theorem dX3_read_4 : decode cX3_read 4 = .ok (.aload_n 0, 1) := by decide +kernel
theorem dX3_read_5 : decode cX3_read 5 = .ok (.aload_n 1, 1) := by decide +kernel
theorem dX3_read_6 : decode cX3_read 6 = .ok (.invokevirtual 23, 3) := by decide +kernel
theorem dX3_read_9 : decode cX3_read 9 = .ok (.istore_n 2, 1) := by decide +kernel
theorem dX3_read_10 : decode cX3_read 10 = .ok (.iload_n 2, 1) := by decide +kernel
theorem dX3_read_11 : decode cX3_read 11 = .ok (.ifCond .ne 9, 3) := by decide +kernel
theorem dX3_read_14 : decode cX3_read 14 = .ok (.aload_n 0, 1) := by decide +kernel
theorem dX3_read_15 : decode cX3_read 15 = .ok (.aload_n 1, 1) := by decide +kernel
theorem dX3_read_16 : decode cX3_read 16 = .ok (.invokevirtual 27, 3) := by decide +kernel
theorem dX3_read_19 : decode cX3_read 19 = .ok (.istore_n 2, 1) := by decide +kernel
theorem dX3_read_20 : decode cX3_read 20 = .ok (.iload_n 2, 1) := by decide +kernel
theorem dX3_read_21 : decode cX3_read 21 = .ok (.ifCond .ne 17, 3) := by decide +kernel
theorem dX3_read_24 : decode cX3_read 24 = .ok (.aload_n 0, 1) := by decide +kernel
theorem dX3_read_25 : decode cX3_read 25 = .ok (.aload_n 1, 1) := by decide +kernel
theorem dX3_read_26 : decode cX3_read 26 = .ok (.aload_n 1, 1) := by decide +kernel
theorem dX3_read_27 : decode cX3_read 27 = .ok (.iconst 1, 1) := by decide +kernel
theorem dX3_read_28 : decode cX3_read 28 = .ok (.invokevirtual 30, 3) := by decide +kernel
theorem dX3_read_31 : decode cX3_read 31 = .ok (.bipush 15, 2) := by decide +kernel
theorem dX3_read_33 : decode cX3_read 33 = .ok (.iand, 1) := by decide +kernel
theorem dX3_read_34 : decode cX3_read 34 = .ok (.invokevirtual 34, 3) := by decide +kernel
theorem dX3_read_37 : decode cX3_read 37 = .ok (.istore_n 2, 1) := by decide +kernel
theorem dX3_read_38 : decode cX3_read 38 = .ok (.iload_n 2, 1) := by decide +kernel
theorem dX3_read_39 : decode cX3_read 39 = .ok (.ireturn, 1) := by decide +kernel
set_option maxRecDepth 100000 in
set_option maxHeartbeats 4000000 in
theorem c_X3_read_q {hp : List gA} {q : gRs} {p c : Int32}  (HQ : gRs_ hp 119 q) (HT : gRw hp 1 2 96 [59, 130, 129, 17, p, 65, 66, c]) (g1 : ¬ p < 1) (g2 : p ≤ 254) (hx : ((((((((0 : Int32) ^^^ 130) ^^^ 129) ^^^ 17) ^^^ p) ^^^ 65) ^^^ 66) ^^^ c) = 0) : gM yX3_read cX3_read 3 ((some .int)) 4 127 [.ref 119, .ref 1] (hp) (0) (0) (fun v h => v = some (.int (0)) ∧ (gRs_ h 119 (qX3_read q p c) ∧ gFQ hp h)) := by
  refine gM_of (ls0 := [some (.ref 119), some (.ref 1), none]) (by decide +kernel) (Nat.le_of_ble_eq_true rfl) rfl fun X C E => ?_
  refine g_aload_n (q := 1) C dX3_read_0 rfl rfl ?_
  refine g_callVvp (q := 4) (As := []) C gyX3_clear gvX3_clear t_402 (c_X3_clear_q (p := p) (c := c) HQ) dX3_read_1 rfl HQ.1 rfl rfl rfl (Nat.le_of_ble_eq_true rfl) (Nat.le_of_ble_eq_true rfl) (Nat.le_of_ble_eq_true rfl) (Nat.le_of_ble_eq_true rfl) (Nat.le_of_ble_eq_true rfl) rfl (fun h1 z1 => ?_)
  obtain ⟨HQ1, fq1⟩ := z1
  have HT1 : gRw h1 1 2 96 [59, 130, 129, 17, p, 65, 66, c] := HT.kept (fq1 1 (by decide)) (fq1 2 (by decide))
  refine g_aload_n (q := 5) C dX3_read_4 rfl rfl ?_
  refine g_aload_n (q := 6) C dX3_read_5 rfl rfl ?_
  refine g_callVix (x := 0) (q := 9) (As := [.ref 1]) C gyX3_readHead gvX3_readHead t_413 (c_X3_readHead_q (p := p) (c := c) HQ1 HT1) dX3_read_6 rfl HQ1.1 rfl rfl rfl (Nat.le_of_ble_eq_true rfl) (Nat.le_of_ble_eq_true rfl) (Nat.le_of_ble_eq_true rfl) (Nat.le_of_ble_eq_true rfl) (Nat.le_of_ble_eq_true rfl) rfl (fun h2 z2 => ?_)
  obtain ⟨HQ2, fq2⟩ := z2
  have HT2 : gRw h2 1 2 96 [59, 130, 129, 17, p, 65, 66, c] := HT1.kept (fq2 1 (by decide)) (fq2 2 (by decide))
  refine g_istore_n (q := 10) C dX3_read_9 (Nat.le_of_ble_eq_true rfl) (by simp only [gset]; rfl) rfl ?_
  refine g_iload_n (q := 11) C dX3_read_10 rfl rfl ?_
  refine g_if_ne_f (t := 20) (q := 14) C dX3_read_11 (by decide) rfl (by decide) ?_
  refine g_aload_n (q := 15) C dX3_read_14 rfl rfl ?_
  refine g_aload_n (q := 16) C dX3_read_15 rfl rfl ?_
  refine g_callVix (x := 0) (q := 19) (As := [.ref 1]) C gyX3_readGroups gvX3_readGroups t_428 (c_X3_readGroups_q (p := p) (c := c) (q := q) HQ2 HT2 g1 g2) dX3_read_16 rfl HQ2.1 rfl rfl rfl (Nat.le_of_ble_eq_true rfl) (Nat.le_of_ble_eq_true rfl) (Nat.le_of_ble_eq_true rfl) (Nat.le_of_ble_eq_true rfl) (Nat.le_of_ble_eq_true rfl) rfl (fun h3 z3 => ?_)
  obtain ⟨HQ3, fq3⟩ := z3
  have HT3 : gRw h3 1 2 96 [59, 130, 129, 17, p, 65, 66, c] := HT2.kept (fq3 1 (by decide)) (fq3 2 (by decide))
  refine g_istore_n (q := 20) C dX3_read_19 (Nat.le_of_ble_eq_true rfl) (by simp only [gset]; rfl) rfl ?_
  refine g_iload_n (q := 21) C dX3_read_20 rfl rfl ?_
  refine g_if_ne_f (t := 38) (q := 24) C dX3_read_21 (by decide) rfl (by decide) ?_
  refine g_aload_n (q := 25) C dX3_read_24 rfl rfl ?_
  refine g_aload_n (q := 26) C dX3_read_25 rfl rfl ?_
  refine g_aload_n (q := 27) C dX3_read_26 rfl rfl ?_
  refine g_iconst (v := 1) (q := 28) C dX3_read_27 (by decide) rfl ?_
  refine g_callVi (x := 130) (q := 31) (As := [.int 1]) C gyX4_at gvX4_at t_424 (c_X4_at_v HT3 (y := 130) (gat_nI (i := 1) (by decide))) dX3_read_28 rfl (gRw.obj HT3) rfl rfl rfl (Nat.le_of_ble_eq_true rfl) (Nat.le_of_ble_eq_true rfl) (Nat.le_of_ble_eq_true rfl) (Nat.le_of_ble_eq_true rfl) (Nat.le_of_ble_eq_true rfl) rfl ?_
  refine g_bipush (v := 15) (q := 33) C dX3_read_31 (by decide) rfl ?_
  refine g_iand (q := 34) C dX3_read_33 rfl ?_
  refine g_callVix (x := 0) (q := 37) (As := [.ref 1, .int 2]) C gyX3_readTail gvX3_readTail t_458 (c_X3_readTail_q (p := p) (c := c) (q := q) HQ3 HT3 hx) dX3_read_34 rfl HQ3.1 rfl rfl rfl (Nat.le_of_ble_eq_true rfl) (Nat.le_of_ble_eq_true rfl) (Nat.le_of_ble_eq_true rfl) (Nat.le_of_ble_eq_true rfl) (Nat.le_of_ble_eq_true rfl) rfl (fun h4 z4 => ?_)
  obtain ⟨HQ4, fq4⟩ := z4
  have HT4 : gRw h4 1 2 96 [59, 130, 129, 17, p, 65, 66, c] := HT3.kept (fq4 1 (by decide)) (fq4 2 (by decide))
  refine g_istore_n (q := 38) C dX3_read_37 (Nat.le_of_ble_eq_true rfl) (by simp only [gset]; rfl) rfl ?_
  refine g_iload_n (q := 39) C dX3_read_38 rfl rfl ?_
  exact E.1 _ _ _ _ _ _ _ dX3_read_39 rfl rfl (Nat.le_of_ble_eq_true rfl) (Nat.le_of_ble_eq_true rfl) ⟨rfl, HQ4, (gFQ.trans (gFQ.trans (gFQ.trans fq1 fq2) fq3) fq4)⟩
