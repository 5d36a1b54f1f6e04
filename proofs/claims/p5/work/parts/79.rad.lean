set_option maxRecDepth 100000 in
set_option maxHeartbeats 4000000 in
theorem c_X3_readTd_119 {hp : List gA} {q : rq} {l : List Int32} {y : Int32} {z : Int32} (HQ : rqH hp 119 q l) : gM yX3_readTd cX3_readTd 4 ((some .int)) 0 0 [.ref 119, .int y, .int z] (hp) (0) (0) (fun v h => v = some (.int (rX3_readTd q y z).1) ∧ (rqH h 119 (rX3_readTd q y z).2 l ∧ rqF 119 hp h)) := by
  refine gM_of (ls0 := [some (.ref 119), some (.int y), some (.int z), none]) (by decide +kernel) (Nat.le_of_ble_eq_true rfl) rfl fun X C E => ?_
  refine g_iload_n (q := 1) C dX3_readTd_0 rfl rfl ?_
  refine g_bipush (v := 15) (q := 3) C dX3_readTd_1 (by decide) rfl ?_
  refine g_iand (q := 4) C dX3_readTd_3 rfl ?_
  refine g_istore_n (q := 5) C dX3_readTd_4 (Nat.le_of_ble_eq_true rfl) (by simp only [gset]; rfl) rfl ?_
  refine g_aload_n (q := 6) C dX3_readTd_5 rfl rfl ?_
  refine g_iload_n (q := 7) C dX3_readTd_6 rfl rfl ?_
  refine g_iconst (v := 4) (q := 8) C dX3_readTd_7 (by decide) rfl ?_
  refine g_ishr (q := 9) C dX3_readTd_8 rfl ?_
  refine g_putfield (q := 12) C fX3_76 dX3_readTd_9 rfl HQ.1 (Nat.le_of_ble_eq_true rfl) (Or.inl rfl) rfl rfl (by intro z h; cases h) ?_
  refine rqput (j := 9) (x := (z >>> (4 &&& 31))) HQ rfl fun h1 HQ1 fq1 => ?_
  refine g_iload_n (q := 13) C dX3_readTd_12 rfl rfl ?_
  refine g_if_eq (t := 27) (q := 16) C dX3_readTd_13 (by decide) rfl (fun c_13 => ?_) (fun c_13 => ?_)
  ·
    refine g_iload_n (q := 28) C dX3_readTd_27 rfl rfl ?_
    refine g_iconst (v := 4) (q := 29) C dX3_readTd_28 (by decide) rfl ?_
    refine g_icmp_ne (t := 41) (q := 32) C dX3_readTd_29 (by decide) rfl (fun c_29 => ?_) (fun c_29 => ?_)
    ·
      refine g_iload_n (q := 42) C dX3_readTd_41 rfl rfl ?_
      refine g_iconst (v := 1) (q := 43) C dX3_readTd_42 (by decide) rfl ?_
      refine g_icmp_ne (t := 54) (q := 46) C dX3_readTd_43 (by decide) rfl (fun c_43 => ?_) (fun c_43 => ?_)
      ·
        refine g_iload_n (q := 55) C dX3_readTd_54 rfl rfl ?_
        refine g_iconst (v := 1) (q := 56) C dX3_readTd_55 (by decide) rfl ?_
        refine g_icmp_ne (t := 73) (q := 59) C dX3_readTd_56 (by decide) rfl (fun c_56 => ?_) (fun c_56 => ?_)
        ·
          refine g_iload_n (q := 74) C dX3_readTd_73 rfl rfl ?_
          refine g_if_eq (t := 82) (q := 77) C dX3_readTd_74 (by decide) rfl (fun c_74 => ?_) (fun c_74 => ?_)
          ·
            refine g_iconst (v := 0) (q := 83) C dX3_readTd_82 (by decide) rfl ?_
            have e : rX3_readTd q y z = ((0 : Int32), (q.set 9 (z >>> (4 &&& 31)))) := ((if_pos c_13).trans ((if_neg c_29).trans ((if_neg c_43).trans ((if_neg c_56).trans (if_pos c_74)))))
            exact E.1 _ _ _ _ _ _ _ dX3_readTd_83 rfl rfl (Nat.le_of_ble_eq_true rfl) (Nat.le_of_ble_eq_true rfl) ⟨by rw [e], by rw [e]; exact ⟨HQ1, fq1⟩⟩
          ·
            refine g_aload_n (q := 78) C dX3_readTd_77 rfl rfl ?_
            refine g_iconst (v := 1) (q := 79) C dX3_readTd_78 (by decide) rfl ?_
            refine g_putfield (q := 82) C fX3_54 dX3_readTd_79 rfl HQ1.1 (Nat.le_of_ble_eq_true rfl) (Or.inl rfl) rfl rfl (by intro z h; cases h) ?_
            refine rqput (j := 6) (x := 1) HQ1 rfl fun h2 HQ2 fq2 => ?_
            refine g_iconst (v := 0) (q := 83) C dX3_readTd_82 (by decide) rfl ?_
            have e : rX3_readTd q y z = ((0 : Int32), ((q.set 9 (z >>> (4 &&& 31))).set 6 1)) := ((if_pos c_13).trans ((if_neg c_29).trans ((if_neg c_43).trans ((if_neg c_56).trans (if_neg c_74)))))
            exact E.1 _ _ _ _ _ _ _ dX3_readTd_83 rfl rfl (Nat.le_of_ble_eq_true rfl) (Nat.le_of_ble_eq_true rfl) ⟨by rw [e], by rw [e]; exact ⟨HQ2, (rqF.trans fq1 fq2)⟩⟩
        ·
          refine g_aload_n (q := 60) C dX3_readTd_59 rfl rfl ?_
          refine g_getfield (v := .int ((q.f 10))) (q := 63) C fX3_62 dX3_readTd_60 rfl HQ1.1 rfl ?_
          refine g_if_ne (t := 73) (q := 66) C dX3_readTd_63 (by decide) rfl (fun c_63 => ?_) (fun c_63 => ?_)
          ·
            refine g_iload_n (q := 74) C dX3_readTd_73 rfl rfl ?_
            refine g_if_eq (t := 82) (q := 77) C dX3_readTd_74 (by decide) rfl (fun c_74 => ?_) (fun c_74 => ?_)
            ·
              refine g_iconst (v := 0) (q := 83) C dX3_readTd_82 (by decide) rfl ?_
              have e : rX3_readTd q y z = ((0 : Int32), (q.set 9 (z >>> (4 &&& 31)))) := ((if_pos c_13).trans ((if_neg c_29).trans ((if_neg c_43).trans ((if_pos c_56).trans ((if_neg c_63).trans (if_pos c_74))))))
              exact E.1 _ _ _ _ _ _ _ dX3_readTd_83 rfl rfl (Nat.le_of_ble_eq_true rfl) (Nat.le_of_ble_eq_true rfl) ⟨by rw [e], by rw [e]; exact ⟨HQ1, fq1⟩⟩
            ·
              refine g_aload_n (q := 78) C dX3_readTd_77 rfl rfl ?_
              refine g_iconst (v := 1) (q := 79) C dX3_readTd_78 (by decide) rfl ?_
              refine g_putfield (q := 82) C fX3_54 dX3_readTd_79 rfl HQ1.1 (Nat.le_of_ble_eq_true rfl) (Or.inl rfl) rfl rfl (by intro z h; cases h) ?_
              refine rqput (j := 6) (x := 1) HQ1 rfl fun h3 HQ3 fq3 => ?_
              refine g_iconst (v := 0) (q := 83) C dX3_readTd_82 (by decide) rfl ?_
              have e : rX3_readTd q y z = ((0 : Int32), ((q.set 9 (z >>> (4 &&& 31))).set 6 1)) := ((if_pos c_13).trans ((if_neg c_29).trans ((if_neg c_43).trans ((if_pos c_56).trans ((if_neg c_63).trans (if_neg c_74))))))
              exact E.1 _ _ _ _ _ _ _ dX3_readTd_83 rfl rfl (Nat.le_of_ble_eq_true rfl) (Nat.le_of_ble_eq_true rfl) ⟨by rw [e], by rw [e]; exact ⟨HQ3, (rqF.trans fq1 fq3)⟩⟩
          ·
            refine g_aload_n (q := 67) C dX3_readTd_66 rfl rfl ?_
            refine g_iload_n (q := 68) C dX3_readTd_67 rfl rfl ?_
            refine g_iconst (v := 1) (q := 69) C dX3_readTd_68 (by decide) rfl ?_
            refine g_iadd (q := 70) C dX3_readTd_69 rfl ?_
            refine g_putfield (q := 73) C fX3_62 dX3_readTd_70 rfl HQ1.1 (Nat.le_of_ble_eq_true rfl) (Or.inl rfl) rfl rfl (by intro z h; cases h) ?_
            refine rqput (j := 10) (x := (y + 1)) HQ1 rfl fun h4 HQ4 fq4 => ?_
            refine g_iload_n (q := 74) C dX3_readTd_73 rfl rfl ?_
            refine g_if_eq (t := 82) (q := 77) C dX3_readTd_74 (by decide) rfl (fun c_74 => ?_) (fun c_74 => ?_)
            ·
              refine g_iconst (v := 0) (q := 83) C dX3_readTd_82 (by decide) rfl ?_
              have e : rX3_readTd q y z = ((0 : Int32), ((q.set 9 (z >>> (4 &&& 31))).set 10 (y + 1))) := ((if_pos c_13).trans ((if_neg c_29).trans ((if_neg c_43).trans ((if_pos c_56).trans ((if_pos c_63).trans (if_pos c_74))))))
              exact E.1 _ _ _ _ _ _ _ dX3_readTd_83 rfl rfl (Nat.le_of_ble_eq_true rfl) (Nat.le_of_ble_eq_true rfl) ⟨by rw [e], by rw [e]; exact ⟨HQ4, (rqF.trans fq1 fq4)⟩⟩
            ·
              refine g_aload_n (q := 78) C dX3_readTd_77 rfl rfl ?_
              refine g_iconst (v := 1) (q := 79) C dX3_readTd_78 (by decide) rfl ?_
              refine g_putfield (q := 82) C fX3_54 dX3_readTd_79 rfl HQ4.1 (Nat.le_of_ble_eq_true rfl) (Or.inl rfl) rfl rfl (by intro z h; cases h) ?_
              refine rqput (j := 6) (x := 1) HQ4 rfl fun h5 HQ5 fq5 => ?_
              refine g_iconst (v := 0) (q := 83) C dX3_readTd_82 (by decide) rfl ?_
              have e : rX3_readTd q y z = ((0 : Int32), (((q.set 9 (z >>> (4 &&& 31))).set 10 (y + 1)).set 6 1)) := ((if_pos c_13).trans ((if_neg c_29).trans ((if_neg c_43).trans ((if_pos c_56).trans ((if_pos c_63).trans (if_neg c_74))))))
              exact E.1 _ _ _ _ _ _ _ dX3_readTd_83 rfl rfl (Nat.le_of_ble_eq_true rfl) (Nat.le_of_ble_eq_true rfl) ⟨by rw [e], by rw [e]; exact ⟨HQ5, (rqF.trans (rqF.trans fq1 fq4) fq5)⟩⟩
      ·
        refine g_aload_n (q := 47) C dX3_readTd_46 rfl rfl ?_
        refine g_iload_n (q := 48) C dX3_readTd_47 rfl rfl ?_
        refine g_putfield (q := 51) C fX3_45 dX3_readTd_48 rfl HQ1.1 (Nat.le_of_ble_eq_true rfl) (Or.inl rfl) rfl rfl (by intro z h; cases h) ?_
        refine rqput (j := 3) (x := (z &&& 15)) HQ1 rfl fun h6 HQ6 fq6 => ?_
        refine g_goto (q := 73) C dX3_readTd_51 (by decide) ?_
        refine g_iload_n (q := 74) C dX3_readTd_73 rfl rfl ?_
        refine g_if_eq (t := 82) (q := 77) C dX3_readTd_74 (by decide) rfl (fun c_74 => ?_) (fun c_74 => ?_)
        ·
          refine g_iconst (v := 0) (q := 83) C dX3_readTd_82 (by decide) rfl ?_
          have e : rX3_readTd q y z = ((0 : Int32), ((q.set 9 (z >>> (4 &&& 31))).set 3 (z &&& 15))) := ((if_pos c_13).trans ((if_neg c_29).trans ((if_pos c_43).trans (if_pos c_74))))
          exact E.1 _ _ _ _ _ _ _ dX3_readTd_83 rfl rfl (Nat.le_of_ble_eq_true rfl) (Nat.le_of_ble_eq_true rfl) ⟨by rw [e], by rw [e]; exact ⟨HQ6, (rqF.trans fq1 fq6)⟩⟩
        ·
          refine g_aload_n (q := 78) C dX3_readTd_77 rfl rfl ?_
          refine g_iconst (v := 1) (q := 79) C dX3_readTd_78 (by decide) rfl ?_
          refine g_putfield (q := 82) C fX3_54 dX3_readTd_79 rfl HQ6.1 (Nat.le_of_ble_eq_true rfl) (Or.inl rfl) rfl rfl (by intro z h; cases h) ?_
          refine rqput (j := 6) (x := 1) HQ6 rfl fun h7 HQ7 fq7 => ?_
          refine g_iconst (v := 0) (q := 83) C dX3_readTd_82 (by decide) rfl ?_
          have e : rX3_readTd q y z = ((0 : Int32), (((q.set 9 (z >>> (4 &&& 31))).set 3 (z &&& 15)).set 6 1)) := ((if_pos c_13).trans ((if_neg c_29).trans ((if_pos c_43).trans (if_neg c_74))))
          exact E.1 _ _ _ _ _ _ _ dX3_readTd_83 rfl rfl (Nat.le_of_ble_eq_true rfl) (Nat.le_of_ble_eq_true rfl) ⟨by rw [e], by rw [e]; exact ⟨HQ7, (rqF.trans (rqF.trans fq1 fq6) fq7)⟩⟩
    ·
      refine g_aload_n (q := 33) C dX3_readTd_32 rfl rfl ?_
      refine g_getfield (v := .int ((z >>> (4 &&& 31)))) (q := 36) C fX3_76 dX3_readTd_33 rfl HQ1.1 rfl ?_
      refine g_if_eq (t := 41) (q := 39) C dX3_readTd_36 (by decide) rfl (fun c_36 => ?_) (fun c_36 => ?_)
      ·
        refine g_iload_n (q := 42) C dX3_readTd_41 rfl rfl ?_
        refine g_iconst (v := 1) (q := 43) C dX3_readTd_42 (by decide) rfl ?_
        refine g_icmp_ne (t := 54) (q := 46) C dX3_readTd_43 (by decide) rfl (fun c_43 => ?_) (fun c_43 => ?_)
        ·
          refine g_iload_n (q := 55) C dX3_readTd_54 rfl rfl ?_
          refine g_iconst (v := 1) (q := 56) C dX3_readTd_55 (by decide) rfl ?_
          refine g_icmp_ne (t := 73) (q := 59) C dX3_readTd_56 (by decide) rfl (fun c_56 => ?_) (fun c_56 => ?_)
          ·
            refine g_iload_n (q := 74) C dX3_readTd_73 rfl rfl ?_
            refine g_if_eq (t := 82) (q := 77) C dX3_readTd_74 (by decide) rfl (fun c_74 => ?_) (fun c_74 => ?_)
            ·
              refine g_iconst (v := 0) (q := 83) C dX3_readTd_82 (by decide) rfl ?_
              have e : rX3_readTd q y z = ((0 : Int32), (q.set 9 (z >>> (4 &&& 31)))) := ((if_pos c_13).trans ((if_pos c_29).trans ((if_pos c_36).trans ((if_neg c_43).trans ((if_neg c_56).trans (if_pos c_74))))))
              exact E.1 _ _ _ _ _ _ _ dX3_readTd_83 rfl rfl (Nat.le_of_ble_eq_true rfl) (Nat.le_of_ble_eq_true rfl) ⟨by rw [e], by rw [e]; exact ⟨HQ1, fq1⟩⟩
            ·
              refine g_aload_n (q := 78) C dX3_readTd_77 rfl rfl ?_
              refine g_iconst (v := 1) (q := 79) C dX3_readTd_78 (by decide) rfl ?_
              refine g_putfield (q := 82) C fX3_54 dX3_readTd_79 rfl HQ1.1 (Nat.le_of_ble_eq_true rfl) (Or.inl rfl) rfl rfl (by intro z h; cases h) ?_
              refine rqput (j := 6) (x := 1) HQ1 rfl fun h8 HQ8 fq8 => ?_
              refine g_iconst (v := 0) (q := 83) C dX3_readTd_82 (by decide) rfl ?_
              have e : rX3_readTd q y z = ((0 : Int32), ((q.set 9 (z >>> (4 &&& 31))).set 6 1)) := ((if_pos c_13).trans ((if_pos c_29).trans ((if_pos c_36).trans ((if_neg c_43).trans ((if_neg c_56).trans (if_neg c_74))))))
              exact E.1 _ _ _ _ _ _ _ dX3_readTd_83 rfl rfl (Nat.le_of_ble_eq_true rfl) (Nat.le_of_ble_eq_true rfl) ⟨by rw [e], by rw [e]; exact ⟨HQ8, (rqF.trans fq1 fq8)⟩⟩
          ·
            refine g_aload_n (q := 60) C dX3_readTd_59 rfl rfl ?_
            refine g_getfield (v := .int ((q.f 10))) (q := 63) C fX3_62 dX3_readTd_60 rfl HQ1.1 rfl ?_
            refine g_if_ne (t := 73) (q := 66) C dX3_readTd_63 (by decide) rfl (fun c_63 => ?_) (fun c_63 => ?_)
            ·
              refine g_iload_n (q := 74) C dX3_readTd_73 rfl rfl ?_
              refine g_if_eq (t := 82) (q := 77) C dX3_readTd_74 (by decide) rfl (fun c_74 => ?_) (fun c_74 => ?_)
              ·
                refine g_iconst (v := 0) (q := 83) C dX3_readTd_82 (by decide) rfl ?_
                have e : rX3_readTd q y z = ((0 : Int32), (q.set 9 (z >>> (4 &&& 31)))) := ((if_pos c_13).trans ((if_pos c_29).trans ((if_pos c_36).trans ((if_neg c_43).trans ((if_pos c_56).trans ((if_neg c_63).trans (if_pos c_74)))))))
                exact E.1 _ _ _ _ _ _ _ dX3_readTd_83 rfl rfl (Nat.le_of_ble_eq_true rfl) (Nat.le_of_ble_eq_true rfl) ⟨by rw [e], by rw [e]; exact ⟨HQ1, fq1⟩⟩
              ·
                refine g_aload_n (q := 78) C dX3_readTd_77 rfl rfl ?_
                refine g_iconst (v := 1) (q := 79) C dX3_readTd_78 (by decide) rfl ?_
                refine g_putfield (q := 82) C fX3_54 dX3_readTd_79 rfl HQ1.1 (Nat.le_of_ble_eq_true rfl) (Or.inl rfl) rfl rfl (by intro z h; cases h) ?_
                refine rqput (j := 6) (x := 1) HQ1 rfl fun h9 HQ9 fq9 => ?_
                refine g_iconst (v := 0) (q := 83) C dX3_readTd_82 (by decide) rfl ?_
                have e : rX3_readTd q y z = ((0 : Int32), ((q.set 9 (z >>> (4 &&& 31))).set 6 1)) := ((if_pos c_13).trans ((if_pos c_29).trans ((if_pos c_36).trans ((if_neg c_43).trans ((if_pos c_56).trans ((if_neg c_63).trans (if_neg c_74)))))))
                exact E.1 _ _ _ _ _ _ _ dX3_readTd_83 rfl rfl (Nat.le_of_ble_eq_true rfl) (Nat.le_of_ble_eq_true rfl) ⟨by rw [e], by rw [e]; exact ⟨HQ9, (rqF.trans fq1 fq9)⟩⟩
            ·
              refine g_aload_n (q := 67) C dX3_readTd_66 rfl rfl ?_
              refine g_iload_n (q := 68) C dX3_readTd_67 rfl rfl ?_
              refine g_iconst (v := 1) (q := 69) C dX3_readTd_68 (by decide) rfl ?_
              refine g_iadd (q := 70) C dX3_readTd_69 rfl ?_
              refine g_putfield (q := 73) C fX3_62 dX3_readTd_70 rfl HQ1.1 (Nat.le_of_ble_eq_true rfl) (Or.inl rfl) rfl rfl (by intro z h; cases h) ?_
              refine rqput (j := 10) (x := (y + 1)) HQ1 rfl fun h10 HQ10 fq10 => ?_
              refine g_iload_n (q := 74) C dX3_readTd_73 rfl rfl ?_
              refine g_if_eq (t := 82) (q := 77) C dX3_readTd_74 (by decide) rfl (fun c_74 => ?_) (fun c_74 => ?_)
              ·
                refine g_iconst (v := 0) (q := 83) C dX3_readTd_82 (by decide) rfl ?_
                have e : rX3_readTd q y z = ((0 : Int32), ((q.set 9 (z >>> (4 &&& 31))).set 10 (y + 1))) := ((if_pos c_13).trans ((if_pos c_29).trans ((if_pos c_36).trans ((if_neg c_43).trans ((if_pos c_56).trans ((if_pos c_63).trans (if_pos c_74)))))))
                exact E.1 _ _ _ _ _ _ _ dX3_readTd_83 rfl rfl (Nat.le_of_ble_eq_true rfl) (Nat.le_of_ble_eq_true rfl) ⟨by rw [e], by rw [e]; exact ⟨HQ10, (rqF.trans fq1 fq10)⟩⟩
              ·
                refine g_aload_n (q := 78) C dX3_readTd_77 rfl rfl ?_
                refine g_iconst (v := 1) (q := 79) C dX3_readTd_78 (by decide) rfl ?_
                refine g_putfield (q := 82) C fX3_54 dX3_readTd_79 rfl HQ10.1 (Nat.le_of_ble_eq_true rfl) (Or.inl rfl) rfl rfl (by intro z h; cases h) ?_
                refine rqput (j := 6) (x := 1) HQ10 rfl fun h11 HQ11 fq11 => ?_
                refine g_iconst (v := 0) (q := 83) C dX3_readTd_82 (by decide) rfl ?_
                have e : rX3_readTd q y z = ((0 : Int32), (((q.set 9 (z >>> (4 &&& 31))).set 10 (y + 1)).set 6 1)) := ((if_pos c_13).trans ((if_pos c_29).trans ((if_pos c_36).trans ((if_neg c_43).trans ((if_pos c_56).trans ((if_pos c_63).trans (if_neg c_74)))))))
                exact E.1 _ _ _ _ _ _ _ dX3_readTd_83 rfl rfl (Nat.le_of_ble_eq_true rfl) (Nat.le_of_ble_eq_true rfl) ⟨by rw [e], by rw [e]; exact ⟨HQ11, (rqF.trans (rqF.trans fq1 fq10) fq11)⟩⟩
        ·
          refine g_aload_n (q := 47) C dX3_readTd_46 rfl rfl ?_
          refine g_iload_n (q := 48) C dX3_readTd_47 rfl rfl ?_
          refine g_putfield (q := 51) C fX3_45 dX3_readTd_48 rfl HQ1.1 (Nat.le_of_ble_eq_true rfl) (Or.inl rfl) rfl rfl (by intro z h; cases h) ?_
          refine rqput (j := 3) (x := (z &&& 15)) HQ1 rfl fun h12 HQ12 fq12 => ?_
          refine g_goto (q := 73) C dX3_readTd_51 (by decide) ?_
          refine g_iload_n (q := 74) C dX3_readTd_73 rfl rfl ?_
          refine g_if_eq (t := 82) (q := 77) C dX3_readTd_74 (by decide) rfl (fun c_74 => ?_) (fun c_74 => ?_)
          ·
            refine g_iconst (v := 0) (q := 83) C dX3_readTd_82 (by decide) rfl ?_
            have e : rX3_readTd q y z = ((0 : Int32), ((q.set 9 (z >>> (4 &&& 31))).set 3 (z &&& 15))) := ((if_pos c_13).trans ((if_pos c_29).trans ((if_pos c_36).trans ((if_pos c_43).trans (if_pos c_74)))))
            exact E.1 _ _ _ _ _ _ _ dX3_readTd_83 rfl rfl (Nat.le_of_ble_eq_true rfl) (Nat.le_of_ble_eq_true rfl) ⟨by rw [e], by rw [e]; exact ⟨HQ12, (rqF.trans fq1 fq12)⟩⟩
          ·
            refine g_aload_n (q := 78) C dX3_readTd_77 rfl rfl ?_
            refine g_iconst (v := 1) (q := 79) C dX3_readTd_78 (by decide) rfl ?_
            refine g_putfield (q := 82) C fX3_54 dX3_readTd_79 rfl HQ12.1 (Nat.le_of_ble_eq_true rfl) (Or.inl rfl) rfl rfl (by intro z h; cases h) ?_
            refine rqput (j := 6) (x := 1) HQ12 rfl fun h13 HQ13 fq13 => ?_
            refine g_iconst (v := 0) (q := 83) C dX3_readTd_82 (by decide) rfl ?_
            have e : rX3_readTd q y z = ((0 : Int32), (((q.set 9 (z >>> (4 &&& 31))).set 3 (z &&& 15)).set 6 1)) := ((if_pos c_13).trans ((if_pos c_29).trans ((if_pos c_36).trans ((if_pos c_43).trans (if_neg c_74)))))
            exact E.1 _ _ _ _ _ _ _ dX3_readTd_83 rfl rfl (Nat.le_of_ble_eq_true rfl) (Nat.le_of_ble_eq_true rfl) ⟨by rw [e], by rw [e]; exact ⟨HQ13, (rqF.trans (rqF.trans fq1 fq12) fq13)⟩⟩
      ·
        refine g_iconst (v := 3) (q := 40) C dX3_readTd_39 (by decide) rfl ?_
        have e : rX3_readTd q y z = ((3 : Int32), (q.set 9 (z >>> (4 &&& 31)))) := ((if_pos c_13).trans ((if_pos c_29).trans (if_neg c_36)))
        exact E.1 _ _ _ _ _ _ _ dX3_readTd_40 rfl rfl (Nat.le_of_ble_eq_true rfl) (Nat.le_of_ble_eq_true rfl) ⟨by rw [e], by rw [e]; exact ⟨HQ1, fq1⟩⟩
  ·
    refine g_iload_n (q := 17) C dX3_readTd_16 rfl rfl ?_
    refine g_iconst (v := 1) (q := 18) C dX3_readTd_17 (by decide) rfl ?_
    refine g_icmp_eq (t := 27) (q := 21) C dX3_readTd_18 (by decide) rfl (fun c_18 => ?_) (fun c_18 => ?_)
    ·
      refine g_iload_n (q := 28) C dX3_readTd_27 rfl rfl ?_
      refine g_iconst (v := 4) (q := 29) C dX3_readTd_28 (by decide) rfl ?_
      refine g_icmp_ne (t := 41) (q := 32) C dX3_readTd_29 (by decide) rfl (fun c_29 => ?_) (fun c_29 => ?_)
      ·
        refine g_iload_n (q := 42) C dX3_readTd_41 rfl rfl ?_
        refine g_iconst (v := 1) (q := 43) C dX3_readTd_42 (by decide) rfl ?_
        refine g_icmp_ne (t := 54) (q := 46) C dX3_readTd_43 (by decide) rfl (fun c_43 => ?_) (fun c_43 => ?_)
        ·
          refine g_iload_n (q := 55) C dX3_readTd_54 rfl rfl ?_
          refine g_iconst (v := 1) (q := 56) C dX3_readTd_55 (by decide) rfl ?_
          refine g_icmp_ne (t := 73) (q := 59) C dX3_readTd_56 (by decide) rfl (fun c_56 => ?_) (fun c_56 => ?_)
          ·
            refine g_iload_n (q := 74) C dX3_readTd_73 rfl rfl ?_
            refine g_if_eq (t := 82) (q := 77) C dX3_readTd_74 (by decide) rfl (fun c_74 => ?_) (fun c_74 => ?_)
            ·
              refine g_iconst (v := 0) (q := 83) C dX3_readTd_82 (by decide) rfl ?_
              have e : rX3_readTd q y z = ((0 : Int32), (q.set 9 (z >>> (4 &&& 31)))) := ((if_neg c_13).trans ((if_pos c_18).trans ((if_neg c_29).trans ((if_neg c_43).trans ((if_neg c_56).trans (if_pos c_74))))))
              exact E.1 _ _ _ _ _ _ _ dX3_readTd_83 rfl rfl (Nat.le_of_ble_eq_true rfl) (Nat.le_of_ble_eq_true rfl) ⟨by rw [e], by rw [e]; exact ⟨HQ1, fq1⟩⟩
            ·
              refine g_aload_n (q := 78) C dX3_readTd_77 rfl rfl ?_
              refine g_iconst (v := 1) (q := 79) C dX3_readTd_78 (by decide) rfl ?_
              refine g_putfield (q := 82) C fX3_54 dX3_readTd_79 rfl HQ1.1 (Nat.le_of_ble_eq_true rfl) (Or.inl rfl) rfl rfl (by intro z h; cases h) ?_
              refine rqput (j := 6) (x := 1) HQ1 rfl fun h14 HQ14 fq14 => ?_
              refine g_iconst (v := 0) (q := 83) C dX3_readTd_82 (by decide) rfl ?_
              have e : rX3_readTd q y z = ((0 : Int32), ((q.set 9 (z >>> (4 &&& 31))).set 6 1)) := ((if_neg c_13).trans ((if_pos c_18).trans ((if_neg c_29).trans ((if_neg c_43).trans ((if_neg c_56).trans (if_neg c_74))))))
              exact E.1 _ _ _ _ _ _ _ dX3_readTd_83 rfl rfl (Nat.le_of_ble_eq_true rfl) (Nat.le_of_ble_eq_true rfl) ⟨by rw [e], by rw [e]; exact ⟨HQ14, (rqF.trans fq1 fq14)⟩⟩
          ·
            refine g_aload_n (q := 60) C dX3_readTd_59 rfl rfl ?_
            refine g_getfield (v := .int ((q.f 10))) (q := 63) C fX3_62 dX3_readTd_60 rfl HQ1.1 rfl ?_
            refine g_if_ne (t := 73) (q := 66) C dX3_readTd_63 (by decide) rfl (fun c_63 => ?_) (fun c_63 => ?_)
            ·
              refine g_iload_n (q := 74) C dX3_readTd_73 rfl rfl ?_
              refine g_if_eq (t := 82) (q := 77) C dX3_readTd_74 (by decide) rfl (fun c_74 => ?_) (fun c_74 => ?_)
              ·
                refine g_iconst (v := 0) (q := 83) C dX3_readTd_82 (by decide) rfl ?_
                have e : rX3_readTd q y z = ((0 : Int32), (q.set 9 (z >>> (4 &&& 31)))) := ((if_neg c_13).trans ((if_pos c_18).trans ((if_neg c_29).trans ((if_neg c_43).trans ((if_pos c_56).trans ((if_neg c_63).trans (if_pos c_74)))))))
                exact E.1 _ _ _ _ _ _ _ dX3_readTd_83 rfl rfl (Nat.le_of_ble_eq_true rfl) (Nat.le_of_ble_eq_true rfl) ⟨by rw [e], by rw [e]; exact ⟨HQ1, fq1⟩⟩
              ·
                refine g_aload_n (q := 78) C dX3_readTd_77 rfl rfl ?_
                refine g_iconst (v := 1) (q := 79) C dX3_readTd_78 (by decide) rfl ?_
                refine g_putfield (q := 82) C fX3_54 dX3_readTd_79 rfl HQ1.1 (Nat.le_of_ble_eq_true rfl) (Or.inl rfl) rfl rfl (by intro z h; cases h) ?_
                refine rqput (j := 6) (x := 1) HQ1 rfl fun h15 HQ15 fq15 => ?_
                refine g_iconst (v := 0) (q := 83) C dX3_readTd_82 (by decide) rfl ?_
                have e : rX3_readTd q y z = ((0 : Int32), ((q.set 9 (z >>> (4 &&& 31))).set 6 1)) := ((if_neg c_13).trans ((if_pos c_18).trans ((if_neg c_29).trans ((if_neg c_43).trans ((if_pos c_56).trans ((if_neg c_63).trans (if_neg c_74)))))))
                exact E.1 _ _ _ _ _ _ _ dX3_readTd_83 rfl rfl (Nat.le_of_ble_eq_true rfl) (Nat.le_of_ble_eq_true rfl) ⟨by rw [e], by rw [e]; exact ⟨HQ15, (rqF.trans fq1 fq15)⟩⟩
            ·
              refine g_aload_n (q := 67) C dX3_readTd_66 rfl rfl ?_
              refine g_iload_n (q := 68) C dX3_readTd_67 rfl rfl ?_
              refine g_iconst (v := 1) (q := 69) C dX3_readTd_68 (by decide) rfl ?_
              refine g_iadd (q := 70) C dX3_readTd_69 rfl ?_
              refine g_putfield (q := 73) C fX3_62 dX3_readTd_70 rfl HQ1.1 (Nat.le_of_ble_eq_true rfl) (Or.inl rfl) rfl rfl (by intro z h; cases h) ?_
              refine rqput (j := 10) (x := (y + 1)) HQ1 rfl fun h16 HQ16 fq16 => ?_
              refine g_iload_n (q := 74) C dX3_readTd_73 rfl rfl ?_
              refine g_if_eq (t := 82) (q := 77) C dX3_readTd_74 (by decide) rfl (fun c_74 => ?_) (fun c_74 => ?_)
              ·
                refine g_iconst (v := 0) (q := 83) C dX3_readTd_82 (by decide) rfl ?_
                have e : rX3_readTd q y z = ((0 : Int32), ((q.set 9 (z >>> (4 &&& 31))).set 10 (y + 1))) := ((if_neg c_13).trans ((if_pos c_18).trans ((if_neg c_29).trans ((if_neg c_43).trans ((if_pos c_56).trans ((if_pos c_63).trans (if_pos c_74)))))))
                exact E.1 _ _ _ _ _ _ _ dX3_readTd_83 rfl rfl (Nat.le_of_ble_eq_true rfl) (Nat.le_of_ble_eq_true rfl) ⟨by rw [e], by rw [e]; exact ⟨HQ16, (rqF.trans fq1 fq16)⟩⟩
              ·
                refine g_aload_n (q := 78) C dX3_readTd_77 rfl rfl ?_
                refine g_iconst (v := 1) (q := 79) C dX3_readTd_78 (by decide) rfl ?_
                refine g_putfield (q := 82) C fX3_54 dX3_readTd_79 rfl HQ16.1 (Nat.le_of_ble_eq_true rfl) (Or.inl rfl) rfl rfl (by intro z h; cases h) ?_
                refine rqput (j := 6) (x := 1) HQ16 rfl fun h17 HQ17 fq17 => ?_
                refine g_iconst (v := 0) (q := 83) C dX3_readTd_82 (by decide) rfl ?_
                have e : rX3_readTd q y z = ((0 : Int32), (((q.set 9 (z >>> (4 &&& 31))).set 10 (y + 1)).set 6 1)) := ((if_neg c_13).trans ((if_pos c_18).trans ((if_neg c_29).trans ((if_neg c_43).trans ((if_pos c_56).trans ((if_pos c_63).trans (if_neg c_74)))))))
                exact E.1 _ _ _ _ _ _ _ dX3_readTd_83 rfl rfl (Nat.le_of_ble_eq_true rfl) (Nat.le_of_ble_eq_true rfl) ⟨by rw [e], by rw [e]; exact ⟨HQ17, (rqF.trans (rqF.trans fq1 fq16) fq17)⟩⟩
        ·
          refine g_aload_n (q := 47) C dX3_readTd_46 rfl rfl ?_
          refine g_iload_n (q := 48) C dX3_readTd_47 rfl rfl ?_
          refine g_putfield (q := 51) C fX3_45 dX3_readTd_48 rfl HQ1.1 (Nat.le_of_ble_eq_true rfl) (Or.inl rfl) rfl rfl (by intro z h; cases h) ?_
          refine rqput (j := 3) (x := (z &&& 15)) HQ1 rfl fun h18 HQ18 fq18 => ?_
          refine g_goto (q := 73) C dX3_readTd_51 (by decide) ?_
          refine g_iload_n (q := 74) C dX3_readTd_73 rfl rfl ?_
          refine g_if_eq (t := 82) (q := 77) C dX3_readTd_74 (by decide) rfl (fun c_74 => ?_) (fun c_74 => ?_)
          ·
            refine g_iconst (v := 0) (q := 83) C dX3_readTd_82 (by decide) rfl ?_
            have e : rX3_readTd q y z = ((0 : Int32), ((q.set 9 (z >>> (4 &&& 31))).set 3 (z &&& 15))) := ((if_neg c_13).trans ((if_pos c_18).trans ((if_neg c_29).trans ((if_pos c_43).trans (if_pos c_74)))))
            exact E.1 _ _ _ _ _ _ _ dX3_readTd_83 rfl rfl (Nat.le_of_ble_eq_true rfl) (Nat.le_of_ble_eq_true rfl) ⟨by rw [e], by rw [e]; exact ⟨HQ18, (rqF.trans fq1 fq18)⟩⟩
          ·
            refine g_aload_n (q := 78) C dX3_readTd_77 rfl rfl ?_
            refine g_iconst (v := 1) (q := 79) C dX3_readTd_78 (by decide) rfl ?_
            refine g_putfield (q := 82) C fX3_54 dX3_readTd_79 rfl HQ18.1 (Nat.le_of_ble_eq_true rfl) (Or.inl rfl) rfl rfl (by intro z h; cases h) ?_
            refine rqput (j := 6) (x := 1) HQ18 rfl fun h19 HQ19 fq19 => ?_
            refine g_iconst (v := 0) (q := 83) C dX3_readTd_82 (by decide) rfl ?_
            have e : rX3_readTd q y z = ((0 : Int32), (((q.set 9 (z >>> (4 &&& 31))).set 3 (z &&& 15)).set 6 1)) := ((if_neg c_13).trans ((if_pos c_18).trans ((if_neg c_29).trans ((if_pos c_43).trans (if_neg c_74)))))
            exact E.1 _ _ _ _ _ _ _ dX3_readTd_83 rfl rfl (Nat.le_of_ble_eq_true rfl) (Nat.le_of_ble_eq_true rfl) ⟨by rw [e], by rw [e]; exact ⟨HQ19, (rqF.trans (rqF.trans fq1 fq18) fq19)⟩⟩
      ·
        refine g_aload_n (q := 33) C dX3_readTd_32 rfl rfl ?_
        refine g_getfield (v := .int ((z >>> (4 &&& 31)))) (q := 36) C fX3_76 dX3_readTd_33 rfl HQ1.1 rfl ?_
        refine g_if_eq (t := 41) (q := 39) C dX3_readTd_36 (by decide) rfl (fun c_36 => ?_) (fun c_36 => ?_)
        ·
          refine g_iload_n (q := 42) C dX3_readTd_41 rfl rfl ?_
          refine g_iconst (v := 1) (q := 43) C dX3_readTd_42 (by decide) rfl ?_
          refine g_icmp_ne (t := 54) (q := 46) C dX3_readTd_43 (by decide) rfl (fun c_43 => ?_) (fun c_43 => ?_)
          ·
            refine g_iload_n (q := 55) C dX3_readTd_54 rfl rfl ?_
            refine g_iconst (v := 1) (q := 56) C dX3_readTd_55 (by decide) rfl ?_
            refine g_icmp_ne (t := 73) (q := 59) C dX3_readTd_56 (by decide) rfl (fun c_56 => ?_) (fun c_56 => ?_)
            ·
              refine g_iload_n (q := 74) C dX3_readTd_73 rfl rfl ?_
              refine g_if_eq (t := 82) (q := 77) C dX3_readTd_74 (by decide) rfl (fun c_74 => ?_) (fun c_74 => ?_)
              ·
                refine g_iconst (v := 0) (q := 83) C dX3_readTd_82 (by decide) rfl ?_
                have e : rX3_readTd q y z = ((0 : Int32), (q.set 9 (z >>> (4 &&& 31)))) := ((if_neg c_13).trans ((if_pos c_18).trans ((if_pos c_29).trans ((if_pos c_36).trans ((if_neg c_43).trans ((if_neg c_56).trans (if_pos c_74)))))))
                exact E.1 _ _ _ _ _ _ _ dX3_readTd_83 rfl rfl (Nat.le_of_ble_eq_true rfl) (Nat.le_of_ble_eq_true rfl) ⟨by rw [e], by rw [e]; exact ⟨HQ1, fq1⟩⟩
              ·
                refine g_aload_n (q := 78) C dX3_readTd_77 rfl rfl ?_
                refine g_iconst (v := 1) (q := 79) C dX3_readTd_78 (by decide) rfl ?_
                refine g_putfield (q := 82) C fX3_54 dX3_readTd_79 rfl HQ1.1 (Nat.le_of_ble_eq_true rfl) (Or.inl rfl) rfl rfl (by intro z h; cases h) ?_
                refine rqput (j := 6) (x := 1) HQ1 rfl fun h20 HQ20 fq20 => ?_
                refine g_iconst (v := 0) (q := 83) C dX3_readTd_82 (by decide) rfl ?_
                have e : rX3_readTd q y z = ((0 : Int32), ((q.set 9 (z >>> (4 &&& 31))).set 6 1)) := ((if_neg c_13).trans ((if_pos c_18).trans ((if_pos c_29).trans ((if_pos c_36).trans ((if_neg c_43).trans ((if_neg c_56).trans (if_neg c_74)))))))
                exact E.1 _ _ _ _ _ _ _ dX3_readTd_83 rfl rfl (Nat.le_of_ble_eq_true rfl) (Nat.le_of_ble_eq_true rfl) ⟨by rw [e], by rw [e]; exact ⟨HQ20, (rqF.trans fq1 fq20)⟩⟩
            ·
              refine g_aload_n (q := 60) C dX3_readTd_59 rfl rfl ?_
              refine g_getfield (v := .int ((q.f 10))) (q := 63) C fX3_62 dX3_readTd_60 rfl HQ1.1 rfl ?_
              refine g_if_ne (t := 73) (q := 66) C dX3_readTd_63 (by decide) rfl (fun c_63 => ?_) (fun c_63 => ?_)
              ·
                refine g_iload_n (q := 74) C dX3_readTd_73 rfl rfl ?_
                refine g_if_eq (t := 82) (q := 77) C dX3_readTd_74 (by decide) rfl (fun c_74 => ?_) (fun c_74 => ?_)
                ·
                  refine g_iconst (v := 0) (q := 83) C dX3_readTd_82 (by decide) rfl ?_
                  have e : rX3_readTd q y z = ((0 : Int32), (q.set 9 (z >>> (4 &&& 31)))) := ((if_neg c_13).trans ((if_pos c_18).trans ((if_pos c_29).trans ((if_pos c_36).trans ((if_neg c_43).trans ((if_pos c_56).trans ((if_neg c_63).trans (if_pos c_74))))))))
                  exact E.1 _ _ _ _ _ _ _ dX3_readTd_83 rfl rfl (Nat.le_of_ble_eq_true rfl) (Nat.le_of_ble_eq_true rfl) ⟨by rw [e], by rw [e]; exact ⟨HQ1, fq1⟩⟩
                ·
                  refine g_aload_n (q := 78) C dX3_readTd_77 rfl rfl ?_
                  refine g_iconst (v := 1) (q := 79) C dX3_readTd_78 (by decide) rfl ?_
                  refine g_putfield (q := 82) C fX3_54 dX3_readTd_79 rfl HQ1.1 (Nat.le_of_ble_eq_true rfl) (Or.inl rfl) rfl rfl (by intro z h; cases h) ?_
                  refine rqput (j := 6) (x := 1) HQ1 rfl fun h21 HQ21 fq21 => ?_
                  refine g_iconst (v := 0) (q := 83) C dX3_readTd_82 (by decide) rfl ?_
                  have e : rX3_readTd q y z = ((0 : Int32), ((q.set 9 (z >>> (4 &&& 31))).set 6 1)) := ((if_neg c_13).trans ((if_pos c_18).trans ((if_pos c_29).trans ((if_pos c_36).trans ((if_neg c_43).trans ((if_pos c_56).trans ((if_neg c_63).trans (if_neg c_74))))))))
                  exact E.1 _ _ _ _ _ _ _ dX3_readTd_83 rfl rfl (Nat.le_of_ble_eq_true rfl) (Nat.le_of_ble_eq_true rfl) ⟨by rw [e], by rw [e]; exact ⟨HQ21, (rqF.trans fq1 fq21)⟩⟩
              ·
                refine g_aload_n (q := 67) C dX3_readTd_66 rfl rfl ?_
                refine g_iload_n (q := 68) C dX3_readTd_67 rfl rfl ?_
                refine g_iconst (v := 1) (q := 69) C dX3_readTd_68 (by decide) rfl ?_
                refine g_iadd (q := 70) C dX3_readTd_69 rfl ?_
                refine g_putfield (q := 73) C fX3_62 dX3_readTd_70 rfl HQ1.1 (Nat.le_of_ble_eq_true rfl) (Or.inl rfl) rfl rfl (by intro z h; cases h) ?_
                refine rqput (j := 10) (x := (y + 1)) HQ1 rfl fun h22 HQ22 fq22 => ?_
                refine g_iload_n (q := 74) C dX3_readTd_73 rfl rfl ?_
                refine g_if_eq (t := 82) (q := 77) C dX3_readTd_74 (by decide) rfl (fun c_74 => ?_) (fun c_74 => ?_)
                ·
                  refine g_iconst (v := 0) (q := 83) C dX3_readTd_82 (by decide) rfl ?_
                  have e : rX3_readTd q y z = ((0 : Int32), ((q.set 9 (z >>> (4 &&& 31))).set 10 (y + 1))) := ((if_neg c_13).trans ((if_pos c_18).trans ((if_pos c_29).trans ((if_pos c_36).trans ((if_neg c_43).trans ((if_pos c_56).trans ((if_pos c_63).trans (if_pos c_74))))))))
                  exact E.1 _ _ _ _ _ _ _ dX3_readTd_83 rfl rfl (Nat.le_of_ble_eq_true rfl) (Nat.le_of_ble_eq_true rfl) ⟨by rw [e], by rw [e]; exact ⟨HQ22, (rqF.trans fq1 fq22)⟩⟩
                ·
                  refine g_aload_n (q := 78) C dX3_readTd_77 rfl rfl ?_
                  refine g_iconst (v := 1) (q := 79) C dX3_readTd_78 (by decide) rfl ?_
                  refine g_putfield (q := 82) C fX3_54 dX3_readTd_79 rfl HQ22.1 (Nat.le_of_ble_eq_true rfl) (Or.inl rfl) rfl rfl (by intro z h; cases h) ?_
                  refine rqput (j := 6) (x := 1) HQ22 rfl fun h23 HQ23 fq23 => ?_
                  refine g_iconst (v := 0) (q := 83) C dX3_readTd_82 (by decide) rfl ?_
                  have e : rX3_readTd q y z = ((0 : Int32), (((q.set 9 (z >>> (4 &&& 31))).set 10 (y + 1)).set 6 1)) := ((if_neg c_13).trans ((if_pos c_18).trans ((if_pos c_29).trans ((if_pos c_36).trans ((if_neg c_43).trans ((if_pos c_56).trans ((if_pos c_63).trans (if_neg c_74))))))))
                  exact E.1 _ _ _ _ _ _ _ dX3_readTd_83 rfl rfl (Nat.le_of_ble_eq_true rfl) (Nat.le_of_ble_eq_true rfl) ⟨by rw [e], by rw [e]; exact ⟨HQ23, (rqF.trans (rqF.trans fq1 fq22) fq23)⟩⟩
          ·
            refine g_aload_n (q := 47) C dX3_readTd_46 rfl rfl ?_
            refine g_iload_n (q := 48) C dX3_readTd_47 rfl rfl ?_
            refine g_putfield (q := 51) C fX3_45 dX3_readTd_48 rfl HQ1.1 (Nat.le_of_ble_eq_true rfl) (Or.inl rfl) rfl rfl (by intro z h; cases h) ?_
            refine rqput (j := 3) (x := (z &&& 15)) HQ1 rfl fun h24 HQ24 fq24 => ?_
            refine g_goto (q := 73) C dX3_readTd_51 (by decide) ?_
            refine g_iload_n (q := 74) C dX3_readTd_73 rfl rfl ?_
            refine g_if_eq (t := 82) (q := 77) C dX3_readTd_74 (by decide) rfl (fun c_74 => ?_) (fun c_74 => ?_)
            ·
              refine g_iconst (v := 0) (q := 83) C dX3_readTd_82 (by decide) rfl ?_
              have e : rX3_readTd q y z = ((0 : Int32), ((q.set 9 (z >>> (4 &&& 31))).set 3 (z &&& 15))) := ((if_neg c_13).trans ((if_pos c_18).trans ((if_pos c_29).trans ((if_pos c_36).trans ((if_pos c_43).trans (if_pos c_74))))))
              exact E.1 _ _ _ _ _ _ _ dX3_readTd_83 rfl rfl (Nat.le_of_ble_eq_true rfl) (Nat.le_of_ble_eq_true rfl) ⟨by rw [e], by rw [e]; exact ⟨HQ24, (rqF.trans fq1 fq24)⟩⟩
            ·
              refine g_aload_n (q := 78) C dX3_readTd_77 rfl rfl ?_
              refine g_iconst (v := 1) (q := 79) C dX3_readTd_78 (by decide) rfl ?_
              refine g_putfield (q := 82) C fX3_54 dX3_readTd_79 rfl HQ24.1 (Nat.le_of_ble_eq_true rfl) (Or.inl rfl) rfl rfl (by intro z h; cases h) ?_
              refine rqput (j := 6) (x := 1) HQ24 rfl fun h25 HQ25 fq25 => ?_
              refine g_iconst (v := 0) (q := 83) C dX3_readTd_82 (by decide) rfl ?_
              have e : rX3_readTd q y z = ((0 : Int32), (((q.set 9 (z >>> (4 &&& 31))).set 3 (z &&& 15)).set 6 1)) := ((if_neg c_13).trans ((if_pos c_18).trans ((if_pos c_29).trans ((if_pos c_36).trans ((if_pos c_43).trans (if_neg c_74))))))
              exact E.1 _ _ _ _ _ _ _ dX3_readTd_83 rfl rfl (Nat.le_of_ble_eq_true rfl) (Nat.le_of_ble_eq_true rfl) ⟨by rw [e], by rw [e]; exact ⟨HQ25, (rqF.trans (rqF.trans fq1 fq24) fq25)⟩⟩
        ·
          refine g_iconst (v := 3) (q := 40) C dX3_readTd_39 (by decide) rfl ?_
          have e : rX3_readTd q y z = ((3 : Int32), (q.set 9 (z >>> (4 &&& 31)))) := ((if_neg c_13).trans ((if_pos c_18).trans ((if_pos c_29).trans (if_neg c_36))))
          exact E.1 _ _ _ _ _ _ _ dX3_readTd_40 rfl rfl (Nat.le_of_ble_eq_true rfl) (Nat.le_of_ble_eq_true rfl) ⟨by rw [e], by rw [e]; exact ⟨HQ1, fq1⟩⟩
    ·
      refine g_iload_n (q := 22) C dX3_readTd_21 rfl rfl ?_
      refine g_bipush (v := 15) (q := 24) C dX3_readTd_22 (by decide) rfl ?_
      refine g_icmp_ne (t := 39) (q := 27) C dX3_readTd_24 (by decide) rfl (fun c_24 => ?_) (fun c_24 => ?_)
      ·
        refine g_iconst (v := 3) (q := 40) C dX3_readTd_39 (by decide) rfl ?_
        have e : rX3_readTd q y z = ((3 : Int32), (q.set 9 (z >>> (4 &&& 31)))) := ((if_neg c_13).trans ((if_neg c_18).trans (if_neg c_24)))
        exact E.1 _ _ _ _ _ _ _ dX3_readTd_40 rfl rfl (Nat.le_of_ble_eq_true rfl) (Nat.le_of_ble_eq_true rfl) ⟨by rw [e], by rw [e]; exact ⟨HQ1, fq1⟩⟩
      ·
        refine g_iload_n (q := 28) C dX3_readTd_27 rfl rfl ?_
        refine g_iconst (v := 4) (q := 29) C dX3_readTd_28 (by decide) rfl ?_
        refine g_icmp_ne (t := 41) (q := 32) C dX3_readTd_29 (by decide) rfl (fun c_29 => ?_) (fun c_29 => ?_)
        ·
          refine g_iload_n (q := 42) C dX3_readTd_41 rfl rfl ?_
          refine g_iconst (v := 1) (q := 43) C dX3_readTd_42 (by decide) rfl ?_
          refine g_icmp_ne (t := 54) (q := 46) C dX3_readTd_43 (by decide) rfl (fun c_43 => ?_) (fun c_43 => ?_)
          ·
            refine g_iload_n (q := 55) C dX3_readTd_54 rfl rfl ?_
            refine g_iconst (v := 1) (q := 56) C dX3_readTd_55 (by decide) rfl ?_
            refine g_icmp_ne (t := 73) (q := 59) C dX3_readTd_56 (by decide) rfl (fun c_56 => ?_) (fun c_56 => ?_)
            ·
              refine g_iload_n (q := 74) C dX3_readTd_73 rfl rfl ?_
              refine g_if_eq (t := 82) (q := 77) C dX3_readTd_74 (by decide) rfl (fun c_74 => ?_) (fun c_74 => ?_)
              ·
                refine g_iconst (v := 0) (q := 83) C dX3_readTd_82 (by decide) rfl ?_
                have e : rX3_readTd q y z = ((0 : Int32), (q.set 9 (z >>> (4 &&& 31)))) := ((if_neg c_13).trans ((if_neg c_18).trans ((if_pos c_24).trans ((if_neg c_29).trans ((if_neg c_43).trans ((if_neg c_56).trans (if_pos c_74)))))))
                exact E.1 _ _ _ _ _ _ _ dX3_readTd_83 rfl rfl (Nat.le_of_ble_eq_true rfl) (Nat.le_of_ble_eq_true rfl) ⟨by rw [e], by rw [e]; exact ⟨HQ1, fq1⟩⟩
              ·
                refine g_aload_n (q := 78) C dX3_readTd_77 rfl rfl ?_
                refine g_iconst (v := 1) (q := 79) C dX3_readTd_78 (by decide) rfl ?_
                refine g_putfield (q := 82) C fX3_54 dX3_readTd_79 rfl HQ1.1 (Nat.le_of_ble_eq_true rfl) (Or.inl rfl) rfl rfl (by intro z h; cases h) ?_
                refine rqput (j := 6) (x := 1) HQ1 rfl fun h26 HQ26 fq26 => ?_
                refine g_iconst (v := 0) (q := 83) C dX3_readTd_82 (by decide) rfl ?_
                have e : rX3_readTd q y z = ((0 : Int32), ((q.set 9 (z >>> (4 &&& 31))).set 6 1)) := ((if_neg c_13).trans ((if_neg c_18).trans ((if_pos c_24).trans ((if_neg c_29).trans ((if_neg c_43).trans ((if_neg c_56).trans (if_neg c_74)))))))
                exact E.1 _ _ _ _ _ _ _ dX3_readTd_83 rfl rfl (Nat.le_of_ble_eq_true rfl) (Nat.le_of_ble_eq_true rfl) ⟨by rw [e], by rw [e]; exact ⟨HQ26, (rqF.trans fq1 fq26)⟩⟩
            ·
              refine g_aload_n (q := 60) C dX3_readTd_59 rfl rfl ?_
              refine g_getfield (v := .int ((q.f 10))) (q := 63) C fX3_62 dX3_readTd_60 rfl HQ1.1 rfl ?_
              refine g_if_ne (t := 73) (q := 66) C dX3_readTd_63 (by decide) rfl (fun c_63 => ?_) (fun c_63 => ?_)
              ·
                refine g_iload_n (q := 74) C dX3_readTd_73 rfl rfl ?_
                refine g_if_eq (t := 82) (q := 77) C dX3_readTd_74 (by decide) rfl (fun c_74 => ?_) (fun c_74 => ?_)
                ·
                  refine g_iconst (v := 0) (q := 83) C dX3_readTd_82 (by decide) rfl ?_
                  have e : rX3_readTd q y z = ((0 : Int32), (q.set 9 (z >>> (4 &&& 31)))) := ((if_neg c_13).trans ((if_neg c_18).trans ((if_pos c_24).trans ((if_neg c_29).trans ((if_neg c_43).trans ((if_pos c_56).trans ((if_neg c_63).trans (if_pos c_74))))))))
                  exact E.1 _ _ _ _ _ _ _ dX3_readTd_83 rfl rfl (Nat.le_of_ble_eq_true rfl) (Nat.le_of_ble_eq_true rfl) ⟨by rw [e], by rw [e]; exact ⟨HQ1, fq1⟩⟩
                ·
                  refine g_aload_n (q := 78) C dX3_readTd_77 rfl rfl ?_
                  refine g_iconst (v := 1) (q := 79) C dX3_readTd_78 (by decide) rfl ?_
                  refine g_putfield (q := 82) C fX3_54 dX3_readTd_79 rfl HQ1.1 (Nat.le_of_ble_eq_true rfl) (Or.inl rfl) rfl rfl (by intro z h; cases h) ?_
                  refine rqput (j := 6) (x := 1) HQ1 rfl fun h27 HQ27 fq27 => ?_
                  refine g_iconst (v := 0) (q := 83) C dX3_readTd_82 (by decide) rfl ?_
                  have e : rX3_readTd q y z = ((0 : Int32), ((q.set 9 (z >>> (4 &&& 31))).set 6 1)) := ((if_neg c_13).trans ((if_neg c_18).trans ((if_pos c_24).trans ((if_neg c_29).trans ((if_neg c_43).trans ((if_pos c_56).trans ((if_neg c_63).trans (if_neg c_74))))))))
                  exact E.1 _ _ _ _ _ _ _ dX3_readTd_83 rfl rfl (Nat.le_of_ble_eq_true rfl) (Nat.le_of_ble_eq_true rfl) ⟨by rw [e], by rw [e]; exact ⟨HQ27, (rqF.trans fq1 fq27)⟩⟩
              ·
                refine g_aload_n (q := 67) C dX3_readTd_66 rfl rfl ?_
                refine g_iload_n (q := 68) C dX3_readTd_67 rfl rfl ?_
                refine g_iconst (v := 1) (q := 69) C dX3_readTd_68 (by decide) rfl ?_
                refine g_iadd (q := 70) C dX3_readTd_69 rfl ?_
                refine g_putfield (q := 73) C fX3_62 dX3_readTd_70 rfl HQ1.1 (Nat.le_of_ble_eq_true rfl) (Or.inl rfl) rfl rfl (by intro z h; cases h) ?_
                refine rqput (j := 10) (x := (y + 1)) HQ1 rfl fun h28 HQ28 fq28 => ?_
                refine g_iload_n (q := 74) C dX3_readTd_73 rfl rfl ?_
                refine g_if_eq (t := 82) (q := 77) C dX3_readTd_74 (by decide) rfl (fun c_74 => ?_) (fun c_74 => ?_)
                ·
                  refine g_iconst (v := 0) (q := 83) C dX3_readTd_82 (by decide) rfl ?_
                  have e : rX3_readTd q y z = ((0 : Int32), ((q.set 9 (z >>> (4 &&& 31))).set 10 (y + 1))) := ((if_neg c_13).trans ((if_neg c_18).trans ((if_pos c_24).trans ((if_neg c_29).trans ((if_neg c_43).trans ((if_pos c_56).trans ((if_pos c_63).trans (if_pos c_74))))))))
                  exact E.1 _ _ _ _ _ _ _ dX3_readTd_83 rfl rfl (Nat.le_of_ble_eq_true rfl) (Nat.le_of_ble_eq_true rfl) ⟨by rw [e], by rw [e]; exact ⟨HQ28, (rqF.trans fq1 fq28)⟩⟩
                ·
                  refine g_aload_n (q := 78) C dX3_readTd_77 rfl rfl ?_
                  refine g_iconst (v := 1) (q := 79) C dX3_readTd_78 (by decide) rfl ?_
                  refine g_putfield (q := 82) C fX3_54 dX3_readTd_79 rfl HQ28.1 (Nat.le_of_ble_eq_true rfl) (Or.inl rfl) rfl rfl (by intro z h; cases h) ?_
                  refine rqput (j := 6) (x := 1) HQ28 rfl fun h29 HQ29 fq29 => ?_
                  refine g_iconst (v := 0) (q := 83) C dX3_readTd_82 (by decide) rfl ?_
                  have e : rX3_readTd q y z = ((0 : Int32), (((q.set 9 (z >>> (4 &&& 31))).set 10 (y + 1)).set 6 1)) := ((if_neg c_13).trans ((if_neg c_18).trans ((if_pos c_24).trans ((if_neg c_29).trans ((if_neg c_43).trans ((if_pos c_56).trans ((if_pos c_63).trans (if_neg c_74))))))))
                  exact E.1 _ _ _ _ _ _ _ dX3_readTd_83 rfl rfl (Nat.le_of_ble_eq_true rfl) (Nat.le_of_ble_eq_true rfl) ⟨by rw [e], by rw [e]; exact ⟨HQ29, (rqF.trans (rqF.trans fq1 fq28) fq29)⟩⟩
          ·
            refine g_aload_n (q := 47) C dX3_readTd_46 rfl rfl ?_
            refine g_iload_n (q := 48) C dX3_readTd_47 rfl rfl ?_
            refine g_putfield (q := 51) C fX3_45 dX3_readTd_48 rfl HQ1.1 (Nat.le_of_ble_eq_true rfl) (Or.inl rfl) rfl rfl (by intro z h; cases h) ?_
            refine rqput (j := 3) (x := (z &&& 15)) HQ1 rfl fun h30 HQ30 fq30 => ?_
            refine g_goto (q := 73) C dX3_readTd_51 (by decide) ?_
            refine g_iload_n (q := 74) C dX3_readTd_73 rfl rfl ?_
            refine g_if_eq (t := 82) (q := 77) C dX3_readTd_74 (by decide) rfl (fun c_74 => ?_) (fun c_74 => ?_)
            ·
              refine g_iconst (v := 0) (q := 83) C dX3_readTd_82 (by decide) rfl ?_
              have e : rX3_readTd q y z = ((0 : Int32), ((q.set 9 (z >>> (4 &&& 31))).set 3 (z &&& 15))) := ((if_neg c_13).trans ((if_neg c_18).trans ((if_pos c_24).trans ((if_neg c_29).trans ((if_pos c_43).trans (if_pos c_74))))))
              exact E.1 _ _ _ _ _ _ _ dX3_readTd_83 rfl rfl (Nat.le_of_ble_eq_true rfl) (Nat.le_of_ble_eq_true rfl) ⟨by rw [e], by rw [e]; exact ⟨HQ30, (rqF.trans fq1 fq30)⟩⟩
            ·
              refine g_aload_n (q := 78) C dX3_readTd_77 rfl rfl ?_
              refine g_iconst (v := 1) (q := 79) C dX3_readTd_78 (by decide) rfl ?_
              refine g_putfield (q := 82) C fX3_54 dX3_readTd_79 rfl HQ30.1 (Nat.le_of_ble_eq_true rfl) (Or.inl rfl) rfl rfl (by intro z h; cases h) ?_
              refine rqput (j := 6) (x := 1) HQ30 rfl fun h31 HQ31 fq31 => ?_
              refine g_iconst (v := 0) (q := 83) C dX3_readTd_82 (by decide) rfl ?_
              have e : rX3_readTd q y z = ((0 : Int32), (((q.set 9 (z >>> (4 &&& 31))).set 3 (z &&& 15)).set 6 1)) := ((if_neg c_13).trans ((if_neg c_18).trans ((if_pos c_24).trans ((if_neg c_29).trans ((if_pos c_43).trans (if_neg c_74))))))
              exact E.1 _ _ _ _ _ _ _ dX3_readTd_83 rfl rfl (Nat.le_of_ble_eq_true rfl) (Nat.le_of_ble_eq_true rfl) ⟨by rw [e], by rw [e]; exact ⟨HQ31, (rqF.trans (rqF.trans fq1 fq30) fq31)⟩⟩
        ·
          refine g_aload_n (q := 33) C dX3_readTd_32 rfl rfl ?_
          refine g_getfield (v := .int ((z >>> (4 &&& 31)))) (q := 36) C fX3_76 dX3_readTd_33 rfl HQ1.1 rfl ?_
          refine g_if_eq (t := 41) (q := 39) C dX3_readTd_36 (by decide) rfl (fun c_36 => ?_) (fun c_36 => ?_)
          ·
            refine g_iload_n (q := 42) C dX3_readTd_41 rfl rfl ?_
            refine g_iconst (v := 1) (q := 43) C dX3_readTd_42 (by decide) rfl ?_
            refine g_icmp_ne (t := 54) (q := 46) C dX3_readTd_43 (by decide) rfl (fun c_43 => ?_) (fun c_43 => ?_)
            ·
              refine g_iload_n (q := 55) C dX3_readTd_54 rfl rfl ?_
              refine g_iconst (v := 1) (q := 56) C dX3_readTd_55 (by decide) rfl ?_
              refine g_icmp_ne (t := 73) (q := 59) C dX3_readTd_56 (by decide) rfl (fun c_56 => ?_) (fun c_56 => ?_)
              ·
                refine g_iload_n (q := 74) C dX3_readTd_73 rfl rfl ?_
                refine g_if_eq (t := 82) (q := 77) C dX3_readTd_74 (by decide) rfl (fun c_74 => ?_) (fun c_74 => ?_)
                ·
                  refine g_iconst (v := 0) (q := 83) C dX3_readTd_82 (by decide) rfl ?_
                  have e : rX3_readTd q y z = ((0 : Int32), (q.set 9 (z >>> (4 &&& 31)))) := ((if_neg c_13).trans ((if_neg c_18).trans ((if_pos c_24).trans ((if_pos c_29).trans ((if_pos c_36).trans ((if_neg c_43).trans ((if_neg c_56).trans (if_pos c_74))))))))
                  exact E.1 _ _ _ _ _ _ _ dX3_readTd_83 rfl rfl (Nat.le_of_ble_eq_true rfl) (Nat.le_of_ble_eq_true rfl) ⟨by rw [e], by rw [e]; exact ⟨HQ1, fq1⟩⟩
                ·
                  refine g_aload_n (q := 78) C dX3_readTd_77 rfl rfl ?_
                  refine g_iconst (v := 1) (q := 79) C dX3_readTd_78 (by decide) rfl ?_
                  refine g_putfield (q := 82) C fX3_54 dX3_readTd_79 rfl HQ1.1 (Nat.le_of_ble_eq_true rfl) (Or.inl rfl) rfl rfl (by intro z h; cases h) ?_
                  refine rqput (j := 6) (x := 1) HQ1 rfl fun h32 HQ32 fq32 => ?_
                  refine g_iconst (v := 0) (q := 83) C dX3_readTd_82 (by decide) rfl ?_
                  have e : rX3_readTd q y z = ((0 : Int32), ((q.set 9 (z >>> (4 &&& 31))).set 6 1)) := ((if_neg c_13).trans ((if_neg c_18).trans ((if_pos c_24).trans ((if_pos c_29).trans ((if_pos c_36).trans ((if_neg c_43).trans ((if_neg c_56).trans (if_neg c_74))))))))
                  exact E.1 _ _ _ _ _ _ _ dX3_readTd_83 rfl rfl (Nat.le_of_ble_eq_true rfl) (Nat.le_of_ble_eq_true rfl) ⟨by rw [e], by rw [e]; exact ⟨HQ32, (rqF.trans fq1 fq32)⟩⟩
              ·
                refine g_aload_n (q := 60) C dX3_readTd_59 rfl rfl ?_
                refine g_getfield (v := .int ((q.f 10))) (q := 63) C fX3_62 dX3_readTd_60 rfl HQ1.1 rfl ?_
                refine g_if_ne (t := 73) (q := 66) C dX3_readTd_63 (by decide) rfl (fun c_63 => ?_) (fun c_63 => ?_)
                ·
                  refine g_iload_n (q := 74) C dX3_readTd_73 rfl rfl ?_
                  refine g_if_eq (t := 82) (q := 77) C dX3_readTd_74 (by decide) rfl (fun c_74 => ?_) (fun c_74 => ?_)
                  ·
                    refine g_iconst (v := 0) (q := 83) C dX3_readTd_82 (by decide) rfl ?_
                    have e : rX3_readTd q y z = ((0 : Int32), (q.set 9 (z >>> (4 &&& 31)))) := ((if_neg c_13).trans ((if_neg c_18).trans ((if_pos c_24).trans ((if_pos c_29).trans ((if_pos c_36).trans ((if_neg c_43).trans ((if_pos c_56).trans ((if_neg c_63).trans (if_pos c_74)))))))))
                    exact E.1 _ _ _ _ _ _ _ dX3_readTd_83 rfl rfl (Nat.le_of_ble_eq_true rfl) (Nat.le_of_ble_eq_true rfl) ⟨by rw [e], by rw [e]; exact ⟨HQ1, fq1⟩⟩
                  ·
                    refine g_aload_n (q := 78) C dX3_readTd_77 rfl rfl ?_
                    refine g_iconst (v := 1) (q := 79) C dX3_readTd_78 (by decide) rfl ?_
                    refine g_putfield (q := 82) C fX3_54 dX3_readTd_79 rfl HQ1.1 (Nat.le_of_ble_eq_true rfl) (Or.inl rfl) rfl rfl (by intro z h; cases h) ?_
                    refine rqput (j := 6) (x := 1) HQ1 rfl fun h33 HQ33 fq33 => ?_
                    refine g_iconst (v := 0) (q := 83) C dX3_readTd_82 (by decide) rfl ?_
                    have e : rX3_readTd q y z = ((0 : Int32), ((q.set 9 (z >>> (4 &&& 31))).set 6 1)) := ((if_neg c_13).trans ((if_neg c_18).trans ((if_pos c_24).trans ((if_pos c_29).trans ((if_pos c_36).trans ((if_neg c_43).trans ((if_pos c_56).trans ((if_neg c_63).trans (if_neg c_74)))))))))
                    exact E.1 _ _ _ _ _ _ _ dX3_readTd_83 rfl rfl (Nat.le_of_ble_eq_true rfl) (Nat.le_of_ble_eq_true rfl) ⟨by rw [e], by rw [e]; exact ⟨HQ33, (rqF.trans fq1 fq33)⟩⟩
                ·
                  refine g_aload_n (q := 67) C dX3_readTd_66 rfl rfl ?_
                  refine g_iload_n (q := 68) C dX3_readTd_67 rfl rfl ?_
                  refine g_iconst (v := 1) (q := 69) C dX3_readTd_68 (by decide) rfl ?_
                  refine g_iadd (q := 70) C dX3_readTd_69 rfl ?_
                  refine g_putfield (q := 73) C fX3_62 dX3_readTd_70 rfl HQ1.1 (Nat.le_of_ble_eq_true rfl) (Or.inl rfl) rfl rfl (by intro z h; cases h) ?_
                  refine rqput (j := 10) (x := (y + 1)) HQ1 rfl fun h34 HQ34 fq34 => ?_
                  refine g_iload_n (q := 74) C dX3_readTd_73 rfl rfl ?_
                  refine g_if_eq (t := 82) (q := 77) C dX3_readTd_74 (by decide) rfl (fun c_74 => ?_) (fun c_74 => ?_)
                  ·
                    refine g_iconst (v := 0) (q := 83) C dX3_readTd_82 (by decide) rfl ?_
                    have e : rX3_readTd q y z = ((0 : Int32), ((q.set 9 (z >>> (4 &&& 31))).set 10 (y + 1))) := ((if_neg c_13).trans ((if_neg c_18).trans ((if_pos c_24).trans ((if_pos c_29).trans ((if_pos c_36).trans ((if_neg c_43).trans ((if_pos c_56).trans ((if_pos c_63).trans (if_pos c_74)))))))))
                    exact E.1 _ _ _ _ _ _ _ dX3_readTd_83 rfl rfl (Nat.le_of_ble_eq_true rfl) (Nat.le_of_ble_eq_true rfl) ⟨by rw [e], by rw [e]; exact ⟨HQ34, (rqF.trans fq1 fq34)⟩⟩
                  ·
                    refine g_aload_n (q := 78) C dX3_readTd_77 rfl rfl ?_
                    refine g_iconst (v := 1) (q := 79) C dX3_readTd_78 (by decide) rfl ?_
                    refine g_putfield (q := 82) C fX3_54 dX3_readTd_79 rfl HQ34.1 (Nat.le_of_ble_eq_true rfl) (Or.inl rfl) rfl rfl (by intro z h; cases h) ?_
                    refine rqput (j := 6) (x := 1) HQ34 rfl fun h35 HQ35 fq35 => ?_
                    refine g_iconst (v := 0) (q := 83) C dX3_readTd_82 (by decide) rfl ?_
                    have e : rX3_readTd q y z = ((0 : Int32), (((q.set 9 (z >>> (4 &&& 31))).set 10 (y + 1)).set 6 1)) := ((if_neg c_13).trans ((if_neg c_18).trans ((if_pos c_24).trans ((if_pos c_29).trans ((if_pos c_36).trans ((if_neg c_43).trans ((if_pos c_56).trans ((if_pos c_63).trans (if_neg c_74)))))))))
                    exact E.1 _ _ _ _ _ _ _ dX3_readTd_83 rfl rfl (Nat.le_of_ble_eq_true rfl) (Nat.le_of_ble_eq_true rfl) ⟨by rw [e], by rw [e]; exact ⟨HQ35, (rqF.trans (rqF.trans fq1 fq34) fq35)⟩⟩
            ·
              refine g_aload_n (q := 47) C dX3_readTd_46 rfl rfl ?_
              refine g_iload_n (q := 48) C dX3_readTd_47 rfl rfl ?_
              refine g_putfield (q := 51) C fX3_45 dX3_readTd_48 rfl HQ1.1 (Nat.le_of_ble_eq_true rfl) (Or.inl rfl) rfl rfl (by intro z h; cases h) ?_
              refine rqput (j := 3) (x := (z &&& 15)) HQ1 rfl fun h36 HQ36 fq36 => ?_
              refine g_goto (q := 73) C dX3_readTd_51 (by decide) ?_
              refine g_iload_n (q := 74) C dX3_readTd_73 rfl rfl ?_
              refine g_if_eq (t := 82) (q := 77) C dX3_readTd_74 (by decide) rfl (fun c_74 => ?_) (fun c_74 => ?_)
              ·
                refine g_iconst (v := 0) (q := 83) C dX3_readTd_82 (by decide) rfl ?_
                have e : rX3_readTd q y z = ((0 : Int32), ((q.set 9 (z >>> (4 &&& 31))).set 3 (z &&& 15))) := ((if_neg c_13).trans ((if_neg c_18).trans ((if_pos c_24).trans ((if_pos c_29).trans ((if_pos c_36).trans ((if_pos c_43).trans (if_pos c_74)))))))
                exact E.1 _ _ _ _ _ _ _ dX3_readTd_83 rfl rfl (Nat.le_of_ble_eq_true rfl) (Nat.le_of_ble_eq_true rfl) ⟨by rw [e], by rw [e]; exact ⟨HQ36, (rqF.trans fq1 fq36)⟩⟩
              ·
                refine g_aload_n (q := 78) C dX3_readTd_77 rfl rfl ?_
                refine g_iconst (v := 1) (q := 79) C dX3_readTd_78 (by decide) rfl ?_
                refine g_putfield (q := 82) C fX3_54 dX3_readTd_79 rfl HQ36.1 (Nat.le_of_ble_eq_true rfl) (Or.inl rfl) rfl rfl (by intro z h; cases h) ?_
                refine rqput (j := 6) (x := 1) HQ36 rfl fun h37 HQ37 fq37 => ?_
                refine g_iconst (v := 0) (q := 83) C dX3_readTd_82 (by decide) rfl ?_
                have e : rX3_readTd q y z = ((0 : Int32), (((q.set 9 (z >>> (4 &&& 31))).set 3 (z &&& 15)).set 6 1)) := ((if_neg c_13).trans ((if_neg c_18).trans ((if_pos c_24).trans ((if_pos c_29).trans ((if_pos c_36).trans ((if_pos c_43).trans (if_neg c_74)))))))
                exact E.1 _ _ _ _ _ _ _ dX3_readTd_83 rfl rfl (Nat.le_of_ble_eq_true rfl) (Nat.le_of_ble_eq_true rfl) ⟨by rw [e], by rw [e]; exact ⟨HQ37, (rqF.trans (rqF.trans fq1 fq36) fq37)⟩⟩
          ·
            refine g_iconst (v := 3) (q := 40) C dX3_readTd_39 (by decide) rfl ?_
            have e : rX3_readTd q y z = ((3 : Int32), (q.set 9 (z >>> (4 &&& 31)))) := ((if_neg c_13).trans ((if_neg c_18).trans ((if_pos c_24).trans ((if_pos c_29).trans (if_neg c_36)))))
            exact E.1 _ _ _ _ _ _ _ dX3_readTd_40 rfl rfl (Nat.le_of_ble_eq_true rfl) (Nat.le_of_ble_eq_true rfl) ⟨by rw [e], by rw [e]; exact ⟨HQ1, fq1⟩⟩
