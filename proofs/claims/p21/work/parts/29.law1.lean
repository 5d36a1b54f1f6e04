/-! the law's rows: answer, types (by program: wip/p1/m_law1.py) -/
def gArr (l : List Int32) : Nat → Int32 := fun j => l.getD j 0
theorem gArr_upd {l : List Int32} {j : Nat} {x : Int32} (h : j < l.length) : upd (gArr l) j x = gArr (l.set j x) := by
  funext i
  by_cases e : i = j
  · subst e; rw [pk_us]; simp [gArr, List.getD, h]
  · rw [pk_un e]; simp [gArr, List.getD, List.getElem?_set_ne (Ne.symm e)]
theorem gArr_new (n : Nat) : (fun _ => 0 : Nat → Int32) = gArr (List.replicate n 0) := by
  funext i
  show (0 : Int32) = (List.replicate n 0).getD i 0
  rw [List.getD_eq_getElem?_getD, List.getElem?_replicate]
  split <;> rfl
theorem dL_answer_0 : decode cL_answer 0 = .ok (.bipush 8, 2) := by decide +kernel
theorem dL_answer_2 : decode cL_answer 2 = .ok (.newarray .int, 2) := by decide +kernel
theorem dL_answer_4 : decode cL_answer 4 = .ok (.dup, 1) := by decide +kernel
theorem dL_answer_5 : decode cL_answer 5 = .ok (.iconst 0, 1) := by decide +kernel
theorem dL_answer_6 : decode cL_answer 6 = .ok (.bipush 59, 2) := by decide +kernel
theorem dL_answer_8 : decode cL_answer 8 = .ok (.iastore, 1) := by decide +kernel
theorem dL_answer_9 : decode cL_answer 9 = .ok (.dup, 1) := by decide +kernel
theorem dL_answer_10 : decode cL_answer 10 = .ok (.iconst 1, 1) := by decide +kernel
theorem dL_answer_11 : decode cL_answer 11 = .ok (.sipush 130, 3) := by decide +kernel
theorem dL_answer_14 : decode cL_answer 14 = .ok (.iastore, 1) := by decide +kernel
theorem dL_answer_15 : decode cL_answer 15 = .ok (.dup, 1) := by decide +kernel
theorem dL_answer_16 : decode cL_answer 16 = .ok (.iconst 2, 1) := by decide +kernel
theorem dL_answer_17 : decode cL_answer 17 = .ok (.sipush 129, 3) := by decide +kernel
theorem dL_answer_20 : decode cL_answer 20 = .ok (.iastore, 1) := by decide +kernel
theorem dL_answer_21 : decode cL_answer 21 = .ok (.dup, 1) := by decide +kernel
theorem dL_answer_22 : decode cL_answer 22 = .ok (.iconst 3, 1) := by decide +kernel
theorem dL_answer_23 : decode cL_answer 23 = .ok (.bipush 17, 2) := by decide +kernel
theorem dL_answer_25 : decode cL_answer 25 = .ok (.iastore, 1) := by decide +kernel
theorem dL_answer_26 : decode cL_answer 26 = .ok (.dup, 1) := by decide +kernel
theorem dL_answer_27 : decode cL_answer 27 = .ok (.iconst 4, 1) := by decide +kernel
theorem dL_answer_28 : decode cL_answer 28 = .ok (.iload_n 0, 1) := by decide +kernel
theorem dL_answer_29 : decode cL_answer 29 = .ok (.iastore, 1) := by decide +kernel
theorem dL_answer_30 : decode cL_answer 30 = .ok (.dup, 1) := by decide +kernel
theorem dL_answer_31 : decode cL_answer 31 = .ok (.iconst 5, 1) := by decide +kernel
theorem dL_answer_32 : decode cL_answer 32 = .ok (.bipush 65, 2) := by decide +kernel
theorem dL_answer_34 : decode cL_answer 34 = .ok (.iastore, 1) := by decide +kernel
theorem dL_answer_35 : decode cL_answer 35 = .ok (.dup, 1) := by decide +kernel
theorem dL_answer_36 : decode cL_answer 36 = .ok (.bipush 6, 2) := by decide +kernel
theorem dL_answer_38 : decode cL_answer 38 = .ok (.bipush 66, 2) := by decide +kernel
theorem dL_answer_40 : decode cL_answer 40 = .ok (.iastore, 1) := by decide +kernel
theorem dL_answer_41 : decode cL_answer 41 = .ok (.dup, 1) := by decide +kernel
theorem dL_answer_42 : decode cL_answer 42 = .ok (.bipush 7, 2) := by decide +kernel
theorem dL_answer_44 : decode cL_answer 44 = .ok (.iconst 0, 1) := by decide +kernel
theorem dL_answer_45 : decode cL_answer 45 = .ok (.iastore, 1) := by decide +kernel
theorem dL_answer_46 : decode cL_answer 46 = .ok (.astore_n 1, 1) := by decide +kernel
theorem dL_answer_47 : decode cL_answer 47 = .ok (.iconst 1, 1) := by decide +kernel
theorem dL_answer_48 : decode cL_answer 48 = .ok (.istore_n 2, 1) := by decide +kernel
theorem dL_answer_49 : decode cL_answer 49 = .ok (.iload_n 2, 1) := by decide +kernel
theorem dL_answer_50 : decode cL_answer 50 = .ok (.bipush 7, 2) := by decide +kernel
theorem dL_answer_52 : decode cL_answer 52 = .ok (.if_icmp .ge 19, 3) := by decide +kernel
theorem dL_answer_55 : decode cL_answer 55 = .ok (.aload_n 1, 1) := by decide +kernel
theorem dL_answer_56 : decode cL_answer 56 = .ok (.bipush 7, 2) := by decide +kernel
theorem dL_answer_58 : decode cL_answer 58 = .ok (.dup2, 1) := by decide +kernel
theorem dL_answer_59 : decode cL_answer 59 = .ok (.iaload, 1) := by decide +kernel
theorem dL_answer_60 : decode cL_answer 60 = .ok (.aload_n 1, 1) := by decide +kernel
theorem dL_answer_61 : decode cL_answer 61 = .ok (.iload_n 2, 1) := by decide +kernel
theorem dL_answer_62 : decode cL_answer 62 = .ok (.iaload, 1) := by decide +kernel
theorem dL_answer_63 : decode cL_answer 63 = .ok (.ixor, 1) := by decide +kernel
theorem dL_answer_64 : decode cL_answer 64 = .ok (.iastore, 1) := by decide +kernel
theorem dL_answer_65 : decode cL_answer 65 = .ok (.iinc 2 1, 3) := by decide +kernel
theorem dL_answer_68 : decode cL_answer 68 = .ok (.goto (-19), 3) := by decide +kernel
theorem dL_answer_71 : decode cL_answer 71 = .ok (.aload_n 1, 1) := by decide +kernel
theorem dL_answer_72 : decode cL_answer 72 = .ok (.areturn, 1) := by decide +kernel
set_option maxRecDepth 100000 in
set_option maxHeartbeats 4000000 in
theorem c_L_answer_z {hp : List gA} {p : Int32} {n0 : Nat} (hn0 : hp.length = n0) : gM yL_answer cL_answer 3 ((some (.array .int))) 0 0 [.int p] (hp) (1) (8) (fun v h => v = some (.ref n0) ∧ h = hp ++ [.inl (8, gArr [59, 130, 129, 17, p, 65, 66, ((((((0 ^^^ 130) ^^^ 129) ^^^ 17) ^^^ p) ^^^ 65) ^^^ 66)])]) := by
  refine gM_of (ls0 := [some (.int p), none, none]) (by decide +kernel) (Nat.le_of_ble_eq_true rfl) rfl fun X C E => ?_
  refine g_bipush (v := 8) (q := 2) C dL_answer_0 (by decide) rfl ?_
  refine g_newarray (q := 4) (k := n0) (N := 8) C t_84 dL_answer_2 rfl hn0 (by decide) (by decide) (by decide) (by show 0 + 1 ≤ 1; omega) (by show 0 + 8 ≤ 8; omega) ?_
  rw [gArr_new 8]
  refine g_heap (hp2 := hp ++ [.inl (8, gArr [0, 0, 0, 0, 0, 0, 0, 0])]) rfl ?_
  refine g_dup (q := 5) C dL_answer_4 rfl rfl ?_
  refine g_iconst (v := 0) (q := 6) C dL_answer_5 (by decide) rfl ?_
  refine g_bipush (v := 59) (q := 8) C dL_answer_6 (by decide) rfl ?_
  refine g_iastoreN (j := 0) (q := 9) C dL_answer_8 rfl (gapp_n hn0) (pk_in 0 8 (by decide)) (pk_cl 0) ?_
  refine g_heap (hp2 := hp ++ [.inl (8, gArr [59, 0, 0, 0, 0, 0, 0, 0])]) (by rw [gset_last hn0, gArr_upd (Nat.le_of_ble_eq_true rfl)]; rfl) ?_
  refine g_dup (q := 10) C dL_answer_9 rfl rfl ?_
  refine g_iconst (v := 1) (q := 11) C dL_answer_10 (by decide) rfl ?_
  refine g_sipush (v := 130) (q := 14) C dL_answer_11 (by decide) rfl ?_
  refine g_iastoreN (j := 1) (q := 15) C dL_answer_14 rfl (gapp_n hn0) (pk_in 1 8 (by decide)) (pk_cl 1) ?_
  refine g_heap (hp2 := hp ++ [.inl (8, gArr [59, 130, 0, 0, 0, 0, 0, 0])]) (by rw [gset_last hn0, gArr_upd (Nat.le_of_ble_eq_true rfl)]; rfl) ?_
  refine g_dup (q := 16) C dL_answer_15 rfl rfl ?_
  refine g_iconst (v := 2) (q := 17) C dL_answer_16 (by decide) rfl ?_
  refine g_sipush (v := 129) (q := 20) C dL_answer_17 (by decide) rfl ?_
  refine g_iastoreN (j := 2) (q := 21) C dL_answer_20 rfl (gapp_n hn0) (pk_in 2 8 (by decide)) (pk_cl 2) ?_
  refine g_heap (hp2 := hp ++ [.inl (8, gArr [59, 130, 129, 0, 0, 0, 0, 0])]) (by rw [gset_last hn0, gArr_upd (Nat.le_of_ble_eq_true rfl)]; rfl) ?_
  refine g_dup (q := 22) C dL_answer_21 rfl rfl ?_
  refine g_iconst (v := 3) (q := 23) C dL_answer_22 (by decide) rfl ?_
  refine g_bipush (v := 17) (q := 25) C dL_answer_23 (by decide) rfl ?_
  refine g_iastoreN (j := 3) (q := 26) C dL_answer_25 rfl (gapp_n hn0) (pk_in 3 8 (by decide)) (pk_cl 3) ?_
  refine g_heap (hp2 := hp ++ [.inl (8, gArr [59, 130, 129, 17, 0, 0, 0, 0])]) (by rw [gset_last hn0, gArr_upd (Nat.le_of_ble_eq_true rfl)]; rfl) ?_
  refine g_dup (q := 27) C dL_answer_26 rfl rfl ?_
  refine g_iconst (v := 4) (q := 28) C dL_answer_27 (by decide) rfl ?_
  refine g_iload_n (q := 29) C dL_answer_28 rfl rfl ?_
  refine g_iastoreN (j := 4) (q := 30) C dL_answer_29 rfl (gapp_n hn0) (pk_in 4 8 (by decide)) (pk_cl 4) ?_
  refine g_heap (hp2 := hp ++ [.inl (8, gArr [59, 130, 129, 17, p, 0, 0, 0])]) (by rw [gset_last hn0, gArr_upd (Nat.le_of_ble_eq_true rfl)]; rfl) ?_
  refine g_dup (q := 31) C dL_answer_30 rfl rfl ?_
  refine g_iconst (v := 5) (q := 32) C dL_answer_31 (by decide) rfl ?_
  refine g_bipush (v := 65) (q := 34) C dL_answer_32 (by decide) rfl ?_
  refine g_iastoreN (j := 5) (q := 35) C dL_answer_34 rfl (gapp_n hn0) (pk_in 5 8 (by decide)) (pk_cl 5) ?_
  refine g_heap (hp2 := hp ++ [.inl (8, gArr [59, 130, 129, 17, p, 65, 0, 0])]) (by rw [gset_last hn0, gArr_upd (Nat.le_of_ble_eq_true rfl)]; rfl) ?_
  refine g_dup (q := 36) C dL_answer_35 rfl rfl ?_
  refine g_bipush (v := 6) (q := 38) C dL_answer_36 (by decide) rfl ?_
  refine g_bipush (v := 66) (q := 40) C dL_answer_38 (by decide) rfl ?_
  refine g_iastoreN (j := 6) (q := 41) C dL_answer_40 rfl (gapp_n hn0) (pk_in 6 8 (by decide)) (pk_cl 6) ?_
  refine g_heap (hp2 := hp ++ [.inl (8, gArr [59, 130, 129, 17, p, 65, 66, 0])]) (by rw [gset_last hn0, gArr_upd (Nat.le_of_ble_eq_true rfl)]; rfl) ?_
  refine g_dup (q := 42) C dL_answer_41 rfl rfl ?_
  refine g_bipush (v := 7) (q := 44) C dL_answer_42 (by decide) rfl ?_
  refine g_iconst (v := 0) (q := 45) C dL_answer_44 (by decide) rfl ?_
  refine g_iastoreN (j := 7) (q := 46) C dL_answer_45 rfl (gapp_n hn0) (pk_in 7 8 (by decide)) (pk_cl 7) ?_
  refine g_heap (hp2 := hp ++ [.inl (8, gArr [59, 130, 129, 17, p, 65, 66, 0])]) (by rw [gset_last hn0, gArr_upd (Nat.le_of_ble_eq_true rfl)]; rfl) ?_
  refine g_astore_n (q := 47) C dL_answer_46 (Nat.le_of_ble_eq_true rfl) (by simp only [gset]; rfl) rfl ?_
  refine g_iconst (v := 1) (q := 48) C dL_answer_47 (by decide) rfl ?_
  refine g_istore_n (q := 49) C dL_answer_48 (Nat.le_of_ble_eq_true rfl) (by simp only [gset]; rfl) rfl ?_
  refine g_iload_n (q := 50) C dL_answer_49 rfl rfl ?_
  refine g_bipush (v := 7) (q := 52) C dL_answer_50 (by decide) rfl ?_
  refine g_icmp_ge_f (t := 71) (q := 55) C dL_answer_52 (by decide) rfl (by decide) ?_
  refine g_aload_n (q := 56) C dL_answer_55 rfl rfl ?_
  refine g_bipush (v := 7) (q := 58) C dL_answer_56 (by decide) rfl ?_
  refine g_dup2 (q := 59) C dL_answer_58 rfl rfl rfl ?_
  refine g_ialoadN (x := 0) (j := 7) (q := 60) C dL_answer_59 rfl (gapp_n hn0) (pk_in 7 8 (by decide)) (pk_cl 7) rfl ?_
  refine g_aload_n (q := 61) C dL_answer_60 rfl rfl ?_
  refine g_iload_n (q := 62) C dL_answer_61 rfl rfl ?_
  refine g_ialoadN (x := 130) (j := 1) (q := 63) C dL_answer_62 rfl (gapp_n hn0) (pk_in 1 8 (by decide)) (pk_cl 1) rfl ?_
  refine g_ixor (q := 64) C dL_answer_63 rfl ?_
  refine g_iastoreN (j := 7) (q := 65) C dL_answer_64 rfl (gapp_n hn0) (pk_in 7 8 (by decide)) (pk_cl 7) ?_
  refine g_heap (hp2 := hp ++ [.inl (8, gArr [59, 130, 129, 17, p, 65, 66, (0 ^^^ 130)])]) (by rw [gset_last hn0, gArr_upd (Nat.le_of_ble_eq_true rfl)]; rfl) ?_
  refine g_iinc (v := 2) (q := 68) C dL_answer_65 rfl (by decide) (by simp only [gset]; rfl) rfl ?_
  refine g_goto (q := 49) C dL_answer_68 (by decide) ?_
  refine g_iload_n (q := 50) C dL_answer_49 rfl rfl ?_
  refine g_bipush (v := 7) (q := 52) C dL_answer_50 (by decide) rfl ?_
  refine g_icmp_ge_f (t := 71) (q := 55) C dL_answer_52 (by decide) rfl (by decide) ?_
  refine g_aload_n (q := 56) C dL_answer_55 rfl rfl ?_
  refine g_bipush (v := 7) (q := 58) C dL_answer_56 (by decide) rfl ?_
  refine g_dup2 (q := 59) C dL_answer_58 rfl rfl rfl ?_
  refine g_ialoadN (x := (0 ^^^ 130)) (j := 7) (q := 60) C dL_answer_59 rfl (gapp_n hn0) (pk_in 7 8 (by decide)) (pk_cl 7) rfl ?_
  refine g_aload_n (q := 61) C dL_answer_60 rfl rfl ?_
  refine g_iload_n (q := 62) C dL_answer_61 rfl rfl ?_
  refine g_ialoadN (x := 129) (j := 2) (q := 63) C dL_answer_62 rfl (gapp_n hn0) (pk_in 2 8 (by decide)) (pk_cl 2) rfl ?_
  refine g_ixor (q := 64) C dL_answer_63 rfl ?_
  refine g_iastoreN (j := 7) (q := 65) C dL_answer_64 rfl (gapp_n hn0) (pk_in 7 8 (by decide)) (pk_cl 7) ?_
  refine g_heap (hp2 := hp ++ [.inl (8, gArr [59, 130, 129, 17, p, 65, 66, ((0 ^^^ 130) ^^^ 129)])]) (by rw [gset_last hn0, gArr_upd (Nat.le_of_ble_eq_true rfl)]; rfl) ?_
  refine g_iinc (v := 3) (q := 68) C dL_answer_65 rfl (by decide) (by simp only [gset]; rfl) rfl ?_
  refine g_goto (q := 49) C dL_answer_68 (by decide) ?_
  refine g_iload_n (q := 50) C dL_answer_49 rfl rfl ?_
  refine g_bipush (v := 7) (q := 52) C dL_answer_50 (by decide) rfl ?_
  refine g_icmp_ge_f (t := 71) (q := 55) C dL_answer_52 (by decide) rfl (by decide) ?_
  refine g_aload_n (q := 56) C dL_answer_55 rfl rfl ?_
  refine g_bipush (v := 7) (q := 58) C dL_answer_56 (by decide) rfl ?_
  refine g_dup2 (q := 59) C dL_answer_58 rfl rfl rfl ?_
  refine g_ialoadN (x := ((0 ^^^ 130) ^^^ 129)) (j := 7) (q := 60) C dL_answer_59 rfl (gapp_n hn0) (pk_in 7 8 (by decide)) (pk_cl 7) rfl ?_
  refine g_aload_n (q := 61) C dL_answer_60 rfl rfl ?_
  refine g_iload_n (q := 62) C dL_answer_61 rfl rfl ?_
  refine g_ialoadN (x := 17) (j := 3) (q := 63) C dL_answer_62 rfl (gapp_n hn0) (pk_in 3 8 (by decide)) (pk_cl 3) rfl ?_
  refine g_ixor (q := 64) C dL_answer_63 rfl ?_
  refine g_iastoreN (j := 7) (q := 65) C dL_answer_64 rfl (gapp_n hn0) (pk_in 7 8 (by decide)) (pk_cl 7) ?_
  refine g_heap (hp2 := hp ++ [.inl (8, gArr [59, 130, 129, 17, p, 65, 66, (((0 ^^^ 130) ^^^ 129) ^^^ 17)])]) (by rw [gset_last hn0, gArr_upd (Nat.le_of_ble_eq_true rfl)]; rfl) ?_
  refine g_iinc (v := 4) (q := 68) C dL_answer_65 rfl (by decide) (by simp only [gset]; rfl) rfl ?_
  refine g_goto (q := 49) C dL_answer_68 (by decide) ?_
  refine g_iload_n (q := 50) C dL_answer_49 rfl rfl ?_
  refine g_bipush (v := 7) (q := 52) C dL_answer_50 (by decide) rfl ?_
  refine g_icmp_ge_f (t := 71) (q := 55) C dL_answer_52 (by decide) rfl (by decide) ?_
  refine g_aload_n (q := 56) C dL_answer_55 rfl rfl ?_
  refine g_bipush (v := 7) (q := 58) C dL_answer_56 (by decide) rfl ?_
  refine g_dup2 (q := 59) C dL_answer_58 rfl rfl rfl ?_
  refine g_ialoadN (x := (((0 ^^^ 130) ^^^ 129) ^^^ 17)) (j := 7) (q := 60) C dL_answer_59 rfl (gapp_n hn0) (pk_in 7 8 (by decide)) (pk_cl 7) rfl ?_
  refine g_aload_n (q := 61) C dL_answer_60 rfl rfl ?_
  refine g_iload_n (q := 62) C dL_answer_61 rfl rfl ?_
  refine g_ialoadN (x := p) (j := 4) (q := 63) C dL_answer_62 rfl (gapp_n hn0) (pk_in 4 8 (by decide)) (pk_cl 4) rfl ?_
  refine g_ixor (q := 64) C dL_answer_63 rfl ?_
  refine g_iastoreN (j := 7) (q := 65) C dL_answer_64 rfl (gapp_n hn0) (pk_in 7 8 (by decide)) (pk_cl 7) ?_
  refine g_heap (hp2 := hp ++ [.inl (8, gArr [59, 130, 129, 17, p, 65, 66, ((((0 ^^^ 130) ^^^ 129) ^^^ 17) ^^^ p)])]) (by rw [gset_last hn0, gArr_upd (Nat.le_of_ble_eq_true rfl)]; rfl) ?_
  refine g_iinc (v := 5) (q := 68) C dL_answer_65 rfl (by decide) (by simp only [gset]; rfl) rfl ?_
  refine g_goto (q := 49) C dL_answer_68 (by decide) ?_
  refine g_iload_n (q := 50) C dL_answer_49 rfl rfl ?_
  refine g_bipush (v := 7) (q := 52) C dL_answer_50 (by decide) rfl ?_
  refine g_icmp_ge_f (t := 71) (q := 55) C dL_answer_52 (by decide) rfl (by decide) ?_
  refine g_aload_n (q := 56) C dL_answer_55 rfl rfl ?_
  refine g_bipush (v := 7) (q := 58) C dL_answer_56 (by decide) rfl ?_
  refine g_dup2 (q := 59) C dL_answer_58 rfl rfl rfl ?_
  refine g_ialoadN (x := ((((0 ^^^ 130) ^^^ 129) ^^^ 17) ^^^ p)) (j := 7) (q := 60) C dL_answer_59 rfl (gapp_n hn0) (pk_in 7 8 (by decide)) (pk_cl 7) rfl ?_
  refine g_aload_n (q := 61) C dL_answer_60 rfl rfl ?_
  refine g_iload_n (q := 62) C dL_answer_61 rfl rfl ?_
  refine g_ialoadN (x := 65) (j := 5) (q := 63) C dL_answer_62 rfl (gapp_n hn0) (pk_in 5 8 (by decide)) (pk_cl 5) rfl ?_
  refine g_ixor (q := 64) C dL_answer_63 rfl ?_
  refine g_iastoreN (j := 7) (q := 65) C dL_answer_64 rfl (gapp_n hn0) (pk_in 7 8 (by decide)) (pk_cl 7) ?_
  refine g_heap (hp2 := hp ++ [.inl (8, gArr [59, 130, 129, 17, p, 65, 66, (((((0 ^^^ 130) ^^^ 129) ^^^ 17) ^^^ p) ^^^ 65)])]) (by rw [gset_last hn0, gArr_upd (Nat.le_of_ble_eq_true rfl)]; rfl) ?_
  refine g_iinc (v := 6) (q := 68) C dL_answer_65 rfl (by decide) (by simp only [gset]; rfl) rfl ?_
  refine g_goto (q := 49) C dL_answer_68 (by decide) ?_
  refine g_iload_n (q := 50) C dL_answer_49 rfl rfl ?_
  refine g_bipush (v := 7) (q := 52) C dL_answer_50 (by decide) rfl ?_
  refine g_icmp_ge_f (t := 71) (q := 55) C dL_answer_52 (by decide) rfl (by decide) ?_
  refine g_aload_n (q := 56) C dL_answer_55 rfl rfl ?_
  refine g_bipush (v := 7) (q := 58) C dL_answer_56 (by decide) rfl ?_
  refine g_dup2 (q := 59) C dL_answer_58 rfl rfl rfl ?_
  refine g_ialoadN (x := (((((0 ^^^ 130) ^^^ 129) ^^^ 17) ^^^ p) ^^^ 65)) (j := 7) (q := 60) C dL_answer_59 rfl (gapp_n hn0) (pk_in 7 8 (by decide)) (pk_cl 7) rfl ?_
  refine g_aload_n (q := 61) C dL_answer_60 rfl rfl ?_
  refine g_iload_n (q := 62) C dL_answer_61 rfl rfl ?_
  refine g_ialoadN (x := 66) (j := 6) (q := 63) C dL_answer_62 rfl (gapp_n hn0) (pk_in 6 8 (by decide)) (pk_cl 6) rfl ?_
  refine g_ixor (q := 64) C dL_answer_63 rfl ?_
  refine g_iastoreN (j := 7) (q := 65) C dL_answer_64 rfl (gapp_n hn0) (pk_in 7 8 (by decide)) (pk_cl 7) ?_
  refine g_heap (hp2 := hp ++ [.inl (8, gArr [59, 130, 129, 17, p, 65, 66, ((((((0 ^^^ 130) ^^^ 129) ^^^ 17) ^^^ p) ^^^ 65) ^^^ 66)])]) (by rw [gset_last hn0, gArr_upd (Nat.le_of_ble_eq_true rfl)]; rfl) ?_
  refine g_iinc (v := 7) (q := 68) C dL_answer_65 rfl (by decide) (by simp only [gset]; rfl) rfl ?_
  refine g_goto (q := 49) C dL_answer_68 (by decide) ?_
  refine g_iload_n (q := 50) C dL_answer_49 rfl rfl ?_
  refine g_bipush (v := 7) (q := 52) C dL_answer_50 (by decide) rfl ?_
  refine g_icmp_ge_t (t := 71) C dL_answer_52 (by decide) (by decide) ?_
  refine g_aload_n (q := 72) C dL_answer_71 rfl rfl ?_
  exact E.2.2 _ _ _ _ _ _ _ dL_answer_72 rfl (Or.inr ⟨_, rfl⟩) (by omega) (by omega) ⟨rfl, rfl⟩
def gPs8 (v : Int64) (b : Int32) : Int64 := (v <<< ((8 : Int32).toInt64 &&& 63)) ||| b.toInt64
def gPk (l : List Int32) : Int64 := l.foldl gPs8 0
def gVn (l : List Nat) : Nat := l.foldl (fun N b => N * 256 + b) 0
theorem gPs8_nat {v : Int64} {b : Nat} (hv : v.toBitVec.toNat < 2 ^ 56) (hb : b < 256) : (gPs8 v (nI b)).toBitVec.toNat = v.toBitVec.toNat * 256 + b := by
  have e1 : (v <<< ((8 : Int32).toInt64 &&& 63)).toBitVec = v.toBitVec <<< 8 := by
    rw [show ((8 : Int32).toInt64 &&& 63) = (8 : Int64) from by decide]
    rw [Int64.toBitVec_shiftLeft]
    rfl
  have e2 : (nI b).toInt64.toBitVec.toNat = b := by
    show ((BitVec.ofNat 32 b).signExtend 64).toNat = b
    have hm : (BitVec.ofNat 32 b).msb = false := by
      rw [BitVec.msb_eq_false_iff_two_mul_lt, BitVec.toNat_ofNat, Nat.mod_eq_of_lt (by omega)]; omega
    rw [BitVec.signExtend_eq_setWidth_of_msb_false hm, BitVec.toNat_setWidth, BitVec.toNat_ofNat, Nat.mod_eq_of_lt (show b < 2 ^ 32 by omega), Nat.mod_eq_of_lt (by omega)]
  show ((v <<< ((8 : Int32).toInt64 &&& 63)).toBitVec ||| (nI b).toInt64.toBitVec).toNat = _
  rw [BitVec.toNat_or, e1, e2, BitVec.toNat_shiftLeft, Nat.shiftLeft_eq, Nat.mod_eq_of_lt (by omega)]
  rw [Nat.mul_comm, ← Nat.two_pow_add_eq_or_of_lt (i := 8) (by omega)]
theorem gVn_lt : ∀ (l : List Nat) (N k : Nat), (∀ b ∈ l, b < 256) → N < 256 ^ k → l.foldl (fun N b => N * 256 + b) N < 256 ^ (k + l.length)
  | [], N, k, _, h => h
  | b :: l, N, k, hb, h => by
    have h1 := hb b List.mem_cons_self
    have := gVn_lt l (N * 256 + b) (k + 1) (fun x hx => hb x (List.mem_cons_of_mem _ hx)) (by rw [Nat.pow_succ]; omega)
    rw [List.foldl_cons, List.length_cons, show k + (l.length + 1) = k + 1 + l.length by omega]
    exact this
theorem gPk_nat : ∀ (l : List Nat) (v : Int64) (k : Nat), (∀ b ∈ l, b < 256) → v.toBitVec.toNat < 256 ^ k → k + l.length ≤ 8 → ((l.map nI).foldl gPs8 v).toBitVec.toNat = l.foldl (fun N b => N * 256 + b) v.toBitVec.toNat
  | [], v, k, _, _, _ => rfl
  | b :: l, v, k, hb, hv, hk => by
    have h1 := hb b List.mem_cons_self
    rw [List.length_cons] at hk
    have h7 : (256 : Nat) ^ k ≤ 256 ^ 7 := Nat.pow_le_pow_right (by decide) (by omega)
    have e := gPs8_nat (v := v) (b := b) (by have : (256 : Nat) ^ 7 = 2 ^ 56 := by decide
                                             omega) h1
    have := gPk_nat l (gPs8 v (nI b)) (k + 1) (fun x hx => hb x (List.mem_cons_of_mem _ hx)) (by rw [e, Nat.pow_succ]; omega) (by omega)
    rw [List.map_cons, List.foldl_cons, this, e, List.foldl_cons]
theorem gBx_nat (v : Int64) {s : Nat} (hs : s < 64) : gBx v (nI s) = nI (v.toBitVec.toNat / 2 ^ s % 256) := by
  have e0 : ((nI s).toInt64.toUInt64 &&& Int64.toUInt64 63) = UInt64.ofNat s := by
    have : ∀ s, s < 64 → ((nI s).toInt64.toUInt64 &&& Int64.toUInt64 63) = UInt64.ofNat s := by decide
    exact this s hs
  unfold gBx
  rw [e0]
  apply Int32.toBitVec_inj.mp
  apply BitVec.eq_of_toNat_eq
  show (((v.toUInt64 >>> UInt64.ofNat s).toInt64).toInt32.toBitVec &&& (255 : Int32).toBitVec).toNat = (BitVec.ofNat 32 _).toNat
  rw [BitVec.toNat_and, BitVec.toNat_ofNat]
  have e1 : ((v.toUInt64 >>> UInt64.ofNat s).toInt64).toInt32.toBitVec.toNat = v.toBitVec.toNat / 2 ^ s % 2 ^ 32 := by
    show (((v.toUInt64 >>> UInt64.ofNat s).toBitVec).signExtend 32).toNat = _
    rw [BitVec.signExtend_eq_setWidth_of_le _ (by decide), BitVec.toNat_setWidth]
    congr 1
    rw [UInt64.toBitVec_shiftRight, BitVec.ushiftRight_eq', BitVec.toNat_ushiftRight, Nat.shiftRight_eq_div_pow]
    congr 2
    have : ((UInt64.ofNat s).toBitVec % 64).toNat = s := by
      have : ∀ s, s < 64 → ((UInt64.ofNat s).toBitVec % 64).toNat = s := by decide
      exact this s hs
    exact this
  rw [e1]
  have e2 : (255 : Int32).toBitVec.toNat = 2 ^ 8 - 1 := by decide
  rw [e2, Nat.and_two_pow_sub_one_eq_mod]
  omega
theorem gBy_pk {a b c d e f g h : Nat} (ha : a < 256) (hb : b < 256) (hc : c < 256) (hd : d < 256) (he : e < 256) (hf : f < 256) (hg : g < 256) (hh : h < 256) : gBy (gPk ([a, b, c, d, e, f, g, h].map nI)) = [a, b, c, d, e, f, g, h].map nI := by
  have hall : ∀ x ∈ [a, b, c, d, e, f, g, h], x < 256 := by
    intro x hx
    simp only [List.mem_cons, List.not_mem_nil, or_false] at hx
    omega
  have V := gPk_nat [a, b, c, d, e, f, g, h] 0 0 hall (by decide) (Nat.le_refl 8)
  have V' : (gPk ([a, b, c, d, e, f, g, h].map nI)).toBitVec.toNat = (((((((0 * 256 + a) * 256 + b) * 256 + c) * 256 + d) * 256 + e) * 256 + f) * 256 + g) * 256 + h := V
  unfold gBy
  rw [show (56 : Int32) = nI 56 from rfl, show (48 : Int32) = nI 48 from rfl, show (40 : Int32) = nI 40 from rfl, show (32 : Int32) = nI 32 from rfl, show (24 : Int32) = nI 24 from rfl, show (16 : Int32) = nI 16 from rfl, show (8 : Int32) = nI 8 from rfl, show (0 : Int32) = nI 0 from rfl]
  rw [gBx_nat _ (by decide), gBx_nat _ (by decide), gBx_nat _ (by decide), gBx_nat _ (by decide), gBx_nat _ (by decide), gBx_nat _ (by decide), gBx_nat _ (by decide), gBx_nat _ (by decide), V']
  simp only [List.map_cons, List.map_nil]
  rw [show (((((((0 * 256 + a) * 256 + b) * 256 + c) * 256 + d) * 256 + e) * 256 + f) * 256 + g) * 256 + h = 72057594037927936 * a + 281474976710656 * b + 1099511627776 * c + 4294967296 * d + 16777216 * e + 65536 * f + 256 * g + h by omega]
  rw [show (72057594037927936 * a + 281474976710656 * b + 1099511627776 * c + 4294967296 * d + 16777216 * e + 65536 * f + 256 * g + h) / 2 ^ 56 % 256 = a by omega,
    show (72057594037927936 * a + 281474976710656 * b + 1099511627776 * c + 4294967296 * d + 16777216 * e + 65536 * f + 256 * g + h) / 2 ^ 48 % 256 = b by omega,
    show (72057594037927936 * a + 281474976710656 * b + 1099511627776 * c + 4294967296 * d + 16777216 * e + 65536 * f + 256 * g + h) / 2 ^ 40 % 256 = c by omega,
    show (72057594037927936 * a + 281474976710656 * b + 1099511627776 * c + 4294967296 * d + 16777216 * e + 65536 * f + 256 * g + h) / 2 ^ 32 % 256 = d by omega,
    show (72057594037927936 * a + 281474976710656 * b + 1099511627776 * c + 4294967296 * d + 16777216 * e + 65536 * f + 256 * g + h) / 2 ^ 24 % 256 = e by omega,
    show (72057594037927936 * a + 281474976710656 * b + 1099511627776 * c + 4294967296 * d + 16777216 * e + 65536 * f + 256 * g + h) / 2 ^ 16 % 256 = f by omega,
    show (72057594037927936 * a + 281474976710656 * b + 1099511627776 * c + 4294967296 * d + 16777216 * e + 65536 * f + 256 * g + h) / 2 ^ 8 % 256 = g by omega,
    show (72057594037927936 * a + 281474976710656 * b + 1099511627776 * c + 4294967296 * d + 16777216 * e + 65536 * f + 256 * g + h) / 2 ^ 0 % 256 = h by omega]
theorem gBud.app {hp : List gA} {J : gJr} {Bc Bs : Nat} {e : gA} (B : gBud hp J Bc Bs) (he : e ≠ gJunk) : gBud (hp ++ [e]) J (Bc + 1) (Bs + gcs e) :=
  ⟨gNJ_app B.1 he, by rw [List.length_append]; have := B.2.1; simp; omega, by rw [gsz_app]; have := B.2.2.1; omega, by rw [List.length_append]; have := B.2.2.2; omega⟩
theorem gBud.up {hp : List gA} {J : gJr} {Bc Bs c s : Nat} (B : gBud hp J Bc Bs) (hc : Bc ≤ c) (hs : Bs ≤ s) : gBud hp J c s := ⟨B.1, by have := B.2.1; omega, by have := B.2.2.1; omega, B.2.2.2⟩
theorem gWo.up {hp : List gA} {fi sp : Nat} {ci : Int32} {T : List Int32} {L : gLn} {R Lt A m : Nat} {J : gJr} {q1 q2 : gRs} {Bc Bs : Nat} {c s : Nat} (H : gWo hp fi sp ci T L R Lt A m J q1 q2 Bc Bs) (hc : Bc ≤ c) (hs : Bs ≤ s) : gWo hp fi sp ci T L R Lt A m J q1 q2 c s := ⟨H.c, H.t, H.f, H.l, H.w, H.j, H.b.up hc hs, H.qa, H.qb⟩
theorem gapp_all {hp l : List gA} {k : Nat} (h : k < hp.length) : (hp ++ l)[k]? = hp[k]? := List.getElem?_append_left h
theorem gWo.app {hp : List gA} {fi sp : Nat} {ci : Int32} {T : List Int32} {L : gLn} {R Lt A m : Nat} {J : gJr} {q1 q2 : gRs} {Bc Bs : Nat} {e : gA} (H : gWo hp fi sp ci T L R Lt A m J q1 q2 Bc Bs) (he : e ≠ gJunk) : gWo (hp ++ [e]) fi sp ci T L R Lt A m J q1 q2 (Bc + 1) (Bs + gcs e) ∧ gFO hp (hp ++ [e]) J J := by
  have hl := H.b.2.2.2
  have f : ∀ k, k < 122 → (hp ++ [e])[k]? = hp[k]? := fun k hk => gapp_all (by omega)
  have jj : gJn (hp ++ [e]) J := ⟨(f 3 (by omega)).trans H.j.1, fun k hk => (H.j.2.1 k hk).kept (gapp_all (H.j.2.1 k hk).lt.1) (gapp_all (H.j.2.1 k hk).lt.2), H.j.2.2⟩
  exact ⟨⟨(f 0 (by omega)).trans H.c, H.t.kept (f _ (by omega)) (f _ (by omega)), H.f.kept (fun k _ h => f k (by omega)), H.l.kept (fun k h => f k (by omega)), H.w.kept (fun k _ h => f k (by omega)), jj, H.b.app he, H.qa.kept (fun k _ h => f k (by omega)), H.qb.kept (fun k _ h => f k (by omega))⟩, by rw [List.length_append]; omega, fun k hk _ _ => gapp_all hk, gAd.rf⟩
/-- the last cell set: the world before it is as it was -/
def gPad (f : Nat → Int32) (n k : Nat) : Nat := if k < n then (f k).toNatClampNeg else 0
def gPl (f : Nat → Int32) (n a c : Nat) : List Int32 := ((List.range c).map fun i => gPad f n (a + i)).map nI
theorem gPl_s {f : Nat → Int32} {n a c : Nat} : gPl f n a (c + 1) = gPl f n a c ++ [nI (gPad f n (a + c))] := by
  unfold gPl; rw [List.range_succ, List.map_append, List.map_append]; rfl
theorem gPl_app {f : Nat → Int32} {n a c d : Nat} : gPl f n a (c + d) = gPl f n a c ++ gPl f n (a + c) d := by
  unfold gPl
  rw [List.range_add, List.map_append, List.map_append, List.map_map, List.map_map, List.map_map, List.map_map]
  congr 2
  funext i
  show nI (gPad f n (a + (c + i))) = nI (gPad f n (a + c + i))
  rw [Nat.add_assoc]
theorem gPad_lt {f : Nat → Int32} {n k : Nat} (hf : ∀ k, k < n → ∃ b, b < 256 ∧ f k = nI b) : gPad f n k < 256 := by
  unfold gPad
  split
  · rename_i h
    obtain ⟨b, hb, e⟩ := hf k h
    rw [e, nI_clamp (by omega)]; exact hb
  · decide
theorem gPad_in {f : Nat → Int32} {n k : Nat} (hf : ∀ k, k < n → ∃ b, b < 256 ∧ f k = nI b) (h : k < n) : f k &&& 255 = nI (gPad f n k) := by
  obtain ⟨b, hb, e⟩ := hf k h
  unfold gPad
  rw [if_pos h, e, nI_clamp (by omega)]
  have : ∀ b, b < 256 → nI b &&& 255 = nI b := by decide +kernel
  exact this b hb
theorem gPk_s {l : List Int32} {b : Int32} : gPk (l ++ [b]) = gPs8 (gPk l) b := by unfold gPk; rw [List.foldl_append]; rfl
theorem gBy_pl {f : Nat → Int32} {n a : Nat} (hf : ∀ k, k < n → ∃ b, b < 256 ∧ f k = nI b) : gBy (gPk (gPl f n a 8)) = gPl f n a 8 :=
  gBy_pk (gPad_lt hf) (gPad_lt hf) (gPad_lt hf) (gPad_lt hf) (gPad_lt hf) (gPad_lt hf) (gPad_lt hf) (gPad_lt hf)
theorem gPl_len {f : Nat → Int32} {n a c : Nat} : (gPl f n a c).length = c := by unfold gPl; rw [List.length_map, List.length_map, List.length_range]
theorem gPl_take {f : Nat → Int32} {n c : Nat} (hc : n ≤ c) : (gPl f n 0 c).take n = gPl f n 0 n := by
  obtain ⟨d, rfl⟩ : ∃ d, c = n + d := ⟨c - n, by omega⟩
  rw [gPl_app, List.take_left' gPl_len]
theorem gIn0 {f : Nat → Int32} {n a k : Nat} {g : Nat → Int64} (hk : k < 16) (g0 : g 0 = gPk (gPl f n a (min k 8))) : vp_updL g (k / 8) ((g (k / 8) <<< ((8 : Int32).toInt64 &&& 63)) ||| (nI (gPad f n (a + k))).toInt64) 0 = gPk (gPl f n a (min (k + 1) 8)) := by
  unfold vp_updL
  by_cases h : k < 8
  · rw [show k / 8 = 0 by omega, if_pos rfl, show min (k + 1) 8 = k + 1 by omega, gPl_s, gPk_s]
    rw [show min k 8 = k by omega] at g0
    rw [g0]; rfl
  · rw [if_neg (show ¬ 0 = k / 8 by omega), g0, show min k 8 = min (k + 1) 8 by omega]
theorem gIn1 {f : Nat → Int32} {n a k : Nat} {g : Nat → Int64} (hk : k < 16) (g1 : g 1 = gPk (gPl f n (a + 8) (k - 8))) : vp_updL g (k / 8) ((g (k / 8) <<< ((8 : Int32).toInt64 &&& 63)) ||| (nI (gPad f n (a + k))).toInt64) 1 = gPk (gPl f n (a + 8) (k + 1 - 8)) := by
  unfold vp_updL
  by_cases h : k < 8
  · rw [if_neg (show ¬ 1 = k / 8 by omega), g1, show k + 1 - 8 = k - 8 by omega]
  · rw [show k / 8 = 1 by omega, if_pos rfl, show k + 1 - 8 = (k - 8) + 1 by omega, gPl_s, gPk_s, g1, show a + 8 + (k - 8) = a + k by omega]; rfl
theorem dL_types_0 : decode cL_types 0 = .ok (.iconst 0, 1) := by decide +kernel
theorem dL_types_1 : decode cL_types 1 = .ok (.istore_n 3, 1) := by decide +kernel
theorem dL_types_2 : decode cL_types 2 = .ok (.iload_n 3, 1) := by decide +kernel
theorem dL_types_3 : decode cL_types 3 = .ok (.iload_n 2, 1) := by decide +kernel
theorem dL_types_4 : decode cL_types 4 = .ok (.if_icmp .ge 86, 3) := by decide +kernel
theorem dL_types_7 : decode cL_types 7 = .ok (.iconst 2, 1) := by decide +kernel
theorem dL_types_8 : decode cL_types 8 = .ok (.newarray .long, 2) := by decide +kernel
theorem dL_types_10 : decode cL_types 10 = .ok (.astore 4, 2) := by decide +kernel
theorem dL_types_12 : decode cL_types 12 = .ok (.iconst 0, 1) := by decide +kernel
theorem dL_types_13 : decode cL_types 13 = .ok (.istore 5, 2) := by decide +kernel
theorem dL_types_15 : decode cL_types 15 = .ok (.iload 5, 2) := by decide +kernel
theorem dL_types_17 : decode cL_types 17 = .ok (.bipush 16, 2) := by decide +kernel
theorem dL_types_19 : decode cL_types 19 = .ok (.if_icmp .ge 52, 3) := by decide +kernel
theorem dL_types_22 : decode cL_types 22 = .ok (.aload 4, 2) := by decide +kernel
theorem dL_types_24 : decode cL_types 24 = .ok (.iload 5, 2) := by decide +kernel
theorem dL_types_26 : decode cL_types 26 = .ok (.bipush 8, 2) := by decide +kernel
theorem dL_types_28 : decode cL_types 28 = .ok (.idiv, 1) := by decide +kernel
theorem dL_types_29 : decode cL_types 29 = .ok (.aload 4, 2) := by decide +kernel
theorem dL_types_31 : decode cL_types 31 = .ok (.iload 5, 2) := by decide +kernel
theorem dL_types_33 : decode cL_types 33 = .ok (.bipush 8, 2) := by decide +kernel
theorem dL_types_35 : decode cL_types 35 = .ok (.idiv, 1) := by decide +kernel
theorem dL_types_36 : decode cL_types 36 = .ok (.laload, 1) := by decide +kernel
theorem dL_types_37 : decode cL_types 37 = .ok (.bipush 8, 2) := by decide +kernel
theorem dL_types_39 : decode cL_types 39 = .ok (.lshl, 1) := by decide +kernel
theorem dL_types_40 : decode cL_types 40 = .ok (.iload_n 3, 1) := by decide +kernel
theorem dL_types_41 : decode cL_types 41 = .ok (.iload 5, 2) := by decide +kernel
theorem dL_types_43 : decode cL_types 43 = .ok (.iadd, 1) := by decide +kernel
theorem dL_types_44 : decode cL_types 44 = .ok (.iload_n 2, 1) := by decide +kernel
theorem dL_types_45 : decode cL_types 45 = .ok (.if_icmp .ge 16, 3) := by decide +kernel
theorem dL_types_48 : decode cL_types 48 = .ok (.aload_n 1, 1) := by decide +kernel
theorem dL_types_49 : decode cL_types 49 = .ok (.iload_n 3, 1) := by decide +kernel
theorem dL_types_50 : decode cL_types 50 = .ok (.iload 5, 2) := by decide +kernel
theorem dL_types_52 : decode cL_types 52 = .ok (.iadd, 1) := by decide +kernel
theorem dL_types_53 : decode cL_types 53 = .ok (.iaload, 1) := by decide +kernel
theorem dL_types_54 : decode cL_types 54 = .ok (.sipush 255, 3) := by decide +kernel
theorem dL_types_57 : decode cL_types 57 = .ok (.iand, 1) := by decide +kernel
theorem dL_types_58 : decode cL_types 58 = .ok (.goto 4, 3) := by decide +kernel
theorem dL_types_61 : decode cL_types 61 = .ok (.iconst 0, 1) := by decide +kernel
theorem dL_types_62 : decode cL_types 62 = .ok (.i2l, 1) := by decide +kernel
theorem dL_types_63 : decode cL_types 63 = .ok (.lor, 1) := by decide +kernel
theorem dL_types_64 : decode cL_types 64 = .ok (.lastore, 1) := by decide +kernel
theorem dL_types_65 : decode cL_types 65 = .ok (.iinc 5 1, 3) := by decide +kernel
theorem dL_types_68 : decode cL_types 68 = .ok (.goto (-53), 3) := by decide +kernel
theorem dL_types_71 : decode cL_types 71 = .ok (.aload_n 0, 1) := by decide +kernel
theorem dL_types_72 : decode cL_types 72 = .ok (.aload 4, 2) := by decide +kernel
theorem dL_types_74 : decode cL_types 74 = .ok (.iconst 0, 1) := by decide +kernel
theorem dL_types_75 : decode cL_types 75 = .ok (.laload, 1) := by decide +kernel
theorem dL_types_76 : decode cL_types 76 = .ok (.aload 4, 2) := by decide +kernel
theorem dL_types_78 : decode cL_types 78 = .ok (.iconst 1, 1) := by decide +kernel
theorem dL_types_79 : decode cL_types 79 = .ok (.laload, 1) := by decide +kernel
theorem dL_types_80 : decode cL_types 80 = .ok (.invokevirtual 8, 3) := by decide +kernel
theorem dL_types_83 : decode cL_types 83 = .ok (.pop, 1) := by decide +kernel
theorem dL_types_84 : decode cL_types 84 = .ok (.iinc 3 16, 3) := by decide +kernel
theorem dL_types_87 : decode cL_types 87 = .ok (.goto (-85), 3) := by decide +kernel
theorem dL_types_90 : decode cL_types 90 = .ok (.aload_n 0, 1) := by decide +kernel
theorem dL_types_91 : decode cL_types 91 = .ok (.iload_n 2, 1) := by decide +kernel
theorem dL_types_92 : decode cL_types 92 = .ok (.invokevirtual 14, 3) := by decide +kernel
theorem dL_types_95 : decode cL_types 95 = .ok (.pop, 1) := by decide +kernel
theorem dL_types_96 : decode cL_types 96 = .ok (.return_, 1) := by decide +kernel
set_option maxRecDepth 100000 in
set_option maxHeartbeats 4000000 in
theorem c_L_types_z {hp : List gA} {fi sp : Nat} {ci : Int32} {L : gLn} {R Lt A m : Nat} {J : gJr} {q1 q2 : gRs} {Bc Bs : Nat} {a n N : Nat} {f : Nat → Int32} (HO : gWo hp fi sp ci [] L R Lt A m J q1 q2 Bc Bs) (ha : hp[a]? = some (.inl (N, f))) (ha2 : 122 ≤ a) (hJa : ∀ i, i < 8 → a ≠ J.ad i) (hnN : n ≤ N) (hN : N < 2 ^ 31) (hn : n ≤ 60) (hf : ∀ k, k < n → ∃ b, b < 256 ∧ f k = nI b) : gM yL_types cL_types 6 (none) 5 150 [.ref 0, .ref a, .int ((nI n))] (hp) (4) (8) (fun v h => v = none ∧ (gWo h fi sp ci (gPl f n 0 n) L R Lt A m J q1 q2 (Bc + 4) (Bs + 8) ∧ gFO hp h J J)) := by
  refine gM_of (ls0 := [some (.ref 0), some (.ref a), some (.int ((nI n))), none, none, none]) (by decide +kernel) (Nat.le_of_ble_eq_true rfl) rfl fun X C E => ?_
  have LL : ∀ d j : Nat, j + d = (n + 15) / 16 → ∀ (hq : List gA) (x4 x5 : Option Value), gWo hq fi sp ci (gPl f n 0 (16 * j)) L R Lt A m J q1 q2 (Bc + j) (Bs + 2 * j) → gFO hp hq J J → gG X 2 [some (.ref 0), some (.ref a), some (.int (nI n)), some (.int (nI (16 * j))), x4, x5] [] hq j (2 * j) := by
    intro d
    induction d with
    | zero =>
      intro j hj hq x4 x5 HO fo
      have hnj : n ≤ 16 * j := by omega
      refine g_iload_n (q := 3) C dL_types_2 rfl rfl ?_
      refine g_iload_n (q := 4) C dL_types_3 rfl rfl ?_
      refine g_icmp_ge_t (t := 90) C dL_types_4 (by decide) (nI_le hnj (by omega)) ?_
      refine g_aload_n (q := 91) C dL_types_90 rfl rfl ?_
      refine g_iload_n (q := 92) C dL_types_91 rfl rfl ?_
      refine g_callVix (x := (nI n)) (q := 95) (As := [.int ((nI n))]) C gyX7_end gvX7_end t_868 (c_X7_end_o (k0 := n) HO (by rw [gPl_len]; exact hnj)) dL_types_92 rfl HO.c rfl rfl rfl (Nat.le_of_ble_eq_true rfl) (Nat.le_of_ble_eq_true rfl) (Nat.le_of_ble_eq_true rfl) (by show _ + _ ≤ 4; omega) (by show _ + _ ≤ 8; omega) rfl (fun h1 z1 => ?_)
      obtain ⟨HO2, fo2⟩ := z1
      rw [gPl_take hnj] at HO2
      refine g_pop (q := 96) C dL_types_95 rfl rfl ?_
      exact E.2.1 _ _ _ _ _ dL_types_96 rfl (by omega) (by omega) ⟨rfl, HO2.up (by omega) (by omega), gFO.trans fo fo2⟩
    | succ d ih =>
      intro j hj hq x4 x5 HO fo
      have hjn : 16 * j < n := by omega
      have hj4 : j ≤ 3 := by omega
      obtain ⟨n9, hn9⟩ : ∃ k, hq.length = k := ⟨_, rfl⟩
      have hfa : hq[a]? = some (.inl (N, f)) := (fo.2.1 a (List.getElem?_eq_some_iff.mp ha).1 ha2 hJa).trans ha
      refine g_iload_n (q := 3) C dL_types_2 rfl rfl ?_
      refine g_iload_n (q := 4) C dL_types_3 rfl rfl ?_
      refine g_icmp_ge_f (t := 90) (q := 7) C dL_types_4 (by decide) rfl (fun h => nI_ge hjn (by omega) h) ?_
      refine g_iconst (v := 2) (q := 8) C dL_types_7 (by decide) rfl ?_
      refine g_newarrayL (q := 10) (k := n9) (N := 2) C t_872 dL_types_8 rfl hn9 (by decide) (by decide) (by decide) (by show j + 1 ≤ 4; omega) (by show 2 * j + 2 ≤ 8; omega) ?_
      refine g_astore (q := 12) C dL_types_10 (Nat.le_of_ble_eq_true rfl) (by simp only [gset]; rfl) rfl ?_
      refine g_iconst (v := 0) (q := 13) C dL_types_12 (by decide) rfl ?_
      refine g_istore (q := 15) C dL_types_13 (Nat.le_of_ble_eq_true rfl) (by simp only [gset]; rfl) rfl ?_
      have L2 : ∀ d k : Nat, k + d = 16 → ∀ g : Nat → Int64, g 0 = gPk (gPl f n (16 * j) (min k 8)) → g 1 = gPk (gPl f n (16 * j + 8) (k - 8)) → gG X 15 [some (.ref 0), some (.ref a), some (.int (nI n)), some (.int (nI (16 * j))), some (.ref n9), some (.int (nI k))] [] (hq ++ [.inr (.inl (2, g))]) (j + 1) (2 * j + 2) := by
        intro d2
        induction d2 with
        | zero =>
          intro k hk g g0 g1
          obtain rfl : k = 16 := by omega
          replace g0 : g 0 = gPk (gPl f n (16 * j) 8) := g0
          replace g1 : g 1 = gPk (gPl f n (16 * j + 8) 8) := g1
          obtain ⟨HO1, fo1⟩ := HO.app (e := .inr (.inl (2, g))) gJ3
          refine g_iload (q := 17) C dL_types_15 rfl rfl ?_
          refine g_bipush (v := 16) (q := 19) C dL_types_17 (by decide) rfl ?_
          refine g_icmp_ge_t (t := 71) C dL_types_19 (by decide) (nI_le (Nat.le_refl 16) (by decide)) ?_
          refine g_aload_n (q := 72) C dL_types_71 rfl rfl ?_
          refine g_aload (q := 74) C dL_types_72 rfl rfl ?_
          refine g_iconst (v := 0) (q := 75) C dL_types_74 (by decide) rfl ?_
          refine g_laload (q := 76) C dL_types_75 rfl (gapp_n hn9) (pk_in 0 2 (by decide)) ?_
          rw [show (0 : Int32).toNatClampNeg = 0 from by decide]
          refine g_aload (q := 78) C dL_types_76 rfl rfl ?_
          refine g_iconst (v := 1) (q := 79) C dL_types_78 (by decide) rfl ?_
          refine g_laload (q := 80) C dL_types_79 rfl (gapp_n hn9) (pk_in 1 2 (by decide)) ?_
          rw [show (1 : Int32).toNatClampNeg = 1 from by decide]
          refine g_callVix (x := (nI ((gPl f n 0 (16 * j)).length + 8 + 8))) (q := 83) (As := [.long ((g 0)), .long ((g 1))]) C gyX7_feed gvX7_feed t_859 (c_X7_feed_o (a := g 0) (b := g 1) HO1 (by rw [gPl_len]; omega)) dL_types_80 rfl HO1.c rfl rfl rfl (Nat.le_of_ble_eq_true rfl) (Nat.le_of_ble_eq_true rfl) (Nat.le_of_ble_eq_true rfl) (by show _ + _ ≤ 4; omega) (by show _ + _ ≤ 8; omega) rfl (fun h2 z2 => ?_)
          obtain ⟨HO2, fo2⟩ := z2
          rw [g0, g1, gBy_pl hf, gBy_pl hf] at HO2
          have e16 : (gPl f n 0 (16 * j) ++ gPl f n (16 * j) 8) ++ gPl f n (16 * j + 8) 8 = gPl f n 0 (16 * (j + 1)) := by rw [show 16 * (j + 1) = 16 * j + 8 + 8 by omega, gPl_app, gPl_app, Nat.zero_add, Nat.zero_add]
          rw [e16] at HO2
          refine g_pop (q := 84) C dL_types_83 rfl rfl ?_
          refine g_iinc (v := (nI (16 * (j + 1)))) (q := 87) C dL_types_84 rfl ((nI_add (16 * j) 16).trans (by rw [show 16 * j + 16 = 16 * (j + 1) by omega])) (by simp only [gset]; rfl) rfl ?_
          refine g_goto (q := 2) C dL_types_87 (by decide) ?_
          exact ih (j + 1) (by omega) _ _ _ HO2 (gFO.trans fo (gFO.trans fo1 fo2))
        | succ d2 ih2 =>
          intro k hk g g0 g1
          have hk16 : k < 16 := by omega
          have e8 : nI k / 8 = nI (k / 8) := nI_div (b := 8) (by omega) (by decide)
          have K : ∀ x : Int32, x = nI (gPad f n (16 * j + k)) → gG X 62 [some (.ref 0), some (.ref a), some (.int (nI n)), some (.int (nI (16 * j))), some (.ref n9), some (.int (nI k))] [.int x, .long ((g (k / 8)) <<< ((8 : Int32).toInt64 &&& 63)), .int (nI k / 8), .ref n9] (hq ++ [.inr (.inl (2, g))]) (j + 1) (2 * j + 2) := by
            intro x ex
            refine g_i2l (q := 63) C dL_types_62 rfl ?_
            refine g_lor (q := 64) C dL_types_63 rfl ?_
            refine g_lastore (q := 65) C dL_types_64 rfl (gapp_n hn9) (pk_in (k / 8) 2 (by omega) e8) ?_
            rw [pk_cl (k / 8) e8]
            refine g_heap (gset_last hn9) ?_
            refine g_iinc (v := (nI (k + 1))) (q := 68) C dL_types_65 rfl (nI_1 k) (by simp only [gset]; rfl) rfl ?_
            refine g_goto (q := 15) C dL_types_68 (by decide) ?_
            exact ih2 (k + 1) (by omega) _ (by rw [ex]; exact gIn0 hk16 g0) (by rw [ex]; exact gIn1 hk16 g1)
          refine g_iload (q := 17) C dL_types_15 rfl rfl ?_
          refine g_bipush (v := 16) (q := 19) C dL_types_17 (by decide) rfl ?_
          refine g_icmp_ge_f (t := 71) (q := 22) C dL_types_19 (by decide) rfl (fun h => nI_ge (show k < 16 by omega) (by decide) h) ?_
          refine g_aload (q := 24) C dL_types_22 rfl rfl ?_
          refine g_iload (q := 26) C dL_types_24 rfl rfl ?_
          refine g_bipush (v := 8) (q := 28) C dL_types_26 (by decide) rfl ?_
          refine g_idiv (q := 29) C dL_types_28 (by decide) rfl ?_
          refine g_aload (q := 31) C dL_types_29 rfl rfl ?_
          refine g_iload (q := 33) C dL_types_31 rfl rfl ?_
          refine g_bipush (v := 8) (q := 35) C dL_types_33 (by decide) rfl ?_
          refine g_idiv (q := 36) C dL_types_35 (by decide) rfl ?_
          refine g_laload (q := 37) C dL_types_36 rfl (gapp_n hn9) (pk_in (k / 8) 2 (by omega) e8) ?_
          rw [pk_cl (k / 8) e8]
          refine g_bipush (v := 8) (q := 39) C dL_types_37 (by decide) rfl ?_
          refine g_lshl (q := 40) C dL_types_39 rfl ?_
          refine g_iload_n (q := 41) C dL_types_40 rfl rfl ?_
          refine g_iload (q := 43) C dL_types_41 rfl rfl ?_
          refine g_iadd (q := 44) C dL_types_43 rfl ?_
          refine g_iload_n (q := 45) C dL_types_44 rfl rfl ?_
          refine g_icmp_ge (t := 61) (q := 48) C dL_types_45 (by decide) rfl (fun c_45 => ?_) (fun c_45 => ?_)
          ·
            refine g_iconst (v := 0) (q := 62) C dL_types_61 (by decide) rfl ?_
            exact K 0 (by unfold gPad; rw [if_neg (fun h => nI_ge h (by omega) (by rw [← nI_add]; exact c_45))]; rfl)
          ·
            refine g_aload_n (q := 49) C dL_types_48 rfl rfl ?_
            refine g_iload_n (q := 50) C dL_types_49 rfl rfl ?_
            refine g_iload (q := 52) C dL_types_50 rfl rfl ?_
            refine g_iadd (q := 53) C dL_types_52 rfl ?_
            have hin : 16 * j + k < n := Nat.not_le.mp (fun h => c_45 (by rw [nI_add]; exact nI_le h (by omega)))
            rw [nI_add]
            refine g_ialoadN (x := (f (16 * j + k))) (j := (16 * j + k)) (q := 54) C dL_types_53 rfl (gapp_old hfa) (pk_in (16 * j + k) N (by omega)) (pk_cl (16 * j + k)) rfl ?_
            refine g_sipush (v := 255) (q := 57) C dL_types_54 (by decide) rfl ?_
            refine g_iand (q := 58) C dL_types_57 rfl ?_
            refine g_goto (q := 62) C dL_types_58 (by decide) ?_
            exact K _ (gPad_in hf (Nat.not_le.mp (fun h => c_45 (by rw [nI_add]; exact nI_le h (by omega)))))
      exact L2 16 0 (by decide) _ rfl rfl
  refine g_iconst (v := 0) (q := 1) C dL_types_0 (by decide) rfl ?_
  refine g_istore_n (q := 2) C dL_types_1 (Nat.le_of_ble_eq_true rfl) (by simp only [gset]; rfl) rfl ?_
  exact LL ((n + 15) / 16) 0 (by omega) hp none none (by rw [Nat.mul_zero]; exact HO) gFO.rf
