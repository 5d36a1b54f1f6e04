/-! the reference: how a block came (by program: wip/p2/m_me.py) -/
/-- the sum of the first n -/
def gXr (f : Nat → Int32) : Nat → Int32
  | 0 => 0
  | n + 1 => gXr f n ^^^ f n
def rX8_isShaped_0 (M : gMd) : Int32 := (if (M.a 13 0) = 0 then (if (M.a 13 2) ≤ 254 then (if ((M.a 13 1) &&& 128) = 0 then (if ((M.a 13 1) &&& 31) = 0 then (if (M.a 4 2) < (M.a 13 2) then 0 else 1 : Int32) else 0) else (if ((M.a 13 1) &&& 64) = 0 then (if 2 < ((M.a 13 1) &&& 47) then 0 else (if (M.a 13 2) = 0 then 1 else 0 : Int32)) else (if ((M.a 13 1) &&& 192) = 192 then (if ((M.a 13 1) &&& 31) ≤ 3 then (if ((M.a 13 1) &&& 31) = 0 then (if (M.a 13 2) = 0 then 1 else 0 : Int32) else (if ((M.a 13 1) &&& 31) = 2 then (if (M.a 13 2) = 0 then 1 else 0 : Int32) else (if (M.a 13 2) = 1 then (if ((M.a 13 1) &&& 31) = 3 then 1 else (if (rX8_within (M.a 13 3) 1 254) = 0 then 0 else 1 : Int32)) else 0))) else 0) else 0))) else 0) else 0)
theorem dX8_isShaped_0 : decode cX8_isShaped 0 = .ok (.aload_n 0, 1) := by decide +kernel
theorem dX8_isShaped_1 : decode cX8_isShaped 1 = .ok (.getfield 54, 3) := by decide +kernel
theorem dX8_isShaped_4 : decode cX8_isShaped 4 = .ok (.iconst 0, 1) := by decide +kernel
theorem dX8_isShaped_5 : decode cX8_isShaped 5 = .ok (.iaload, 1) := by decide +kernel
theorem dX8_isShaped_6 : decode cX8_isShaped 6 = .ok (.ifCond .ne 15, 3) := by decide +kernel
theorem dX8_isShaped_9 : decode cX8_isShaped 9 = .ok (.aload_n 0, 1) := by decide +kernel
theorem dX8_isShaped_10 : decode cX8_isShaped 10 = .ok (.getfield 54, 3) := by decide +kernel
theorem dX8_isShaped_13 : decode cX8_isShaped 13 = .ok (.iconst 2, 1) := by decide +kernel
theorem dX8_isShaped_14 : decode cX8_isShaped 14 = .ok (.iaload, 1) := by decide +kernel
theorem dX8_isShaped_15 : decode cX8_isShaped 15 = .ok (.sipush 254, 3) := by decide +kernel
theorem dX8_isShaped_18 : decode cX8_isShaped 18 = .ok (.if_icmp .le 5, 3) := by decide +kernel
theorem dX8_isShaped_21 : decode cX8_isShaped 21 = .ok (.iconst 0, 1) := by decide +kernel
theorem dX8_isShaped_22 : decode cX8_isShaped 22 = .ok (.ireturn, 1) := by decide +kernel
theorem dX8_isShaped_23 : decode cX8_isShaped 23 = .ok (.aload_n 0, 1) := by decide +kernel
theorem dX8_isShaped_24 : decode cX8_isShaped 24 = .ok (.getfield 54, 3) := by decide +kernel
theorem dX8_isShaped_27 : decode cX8_isShaped 27 = .ok (.iconst 1, 1) := by decide +kernel
theorem dX8_isShaped_28 : decode cX8_isShaped 28 = .ok (.iaload, 1) := by decide +kernel
theorem dX8_isShaped_29 : decode cX8_isShaped 29 = .ok (.istore_n 2, 1) := by decide +kernel
theorem dX8_isShaped_30 : decode cX8_isShaped 30 = .ok (.aload_n 0, 1) := by decide +kernel
theorem dX8_isShaped_31 : decode cX8_isShaped 31 = .ok (.getfield 54, 3) := by decide +kernel
theorem dX8_isShaped_34 : decode cX8_isShaped 34 = .ok (.iconst 2, 1) := by decide +kernel
theorem dX8_isShaped_35 : decode cX8_isShaped 35 = .ok (.iaload, 1) := by decide +kernel
theorem dX8_isShaped_36 : decode cX8_isShaped 36 = .ok (.istore_n 3, 1) := by decide +kernel
theorem dX8_isShaped_37 : decode cX8_isShaped 37 = .ok (.iload_n 2, 1) := by decide +kernel
theorem dX8_isShaped_38 : decode cX8_isShaped 38 = .ok (.sipush 128, 3) := by decide +kernel
theorem dX8_isShaped_41 : decode cX8_isShaped 41 = .ok (.iand, 1) := by decide +kernel
theorem dX8_isShaped_42 : decode cX8_isShaped 42 = .ok (.ifCond .ne 31, 3) := by decide +kernel
theorem dX8_isShaped_45 : decode cX8_isShaped 45 = .ok (.iload_n 2, 1) := by decide +kernel
theorem dX8_isShaped_46 : decode cX8_isShaped 46 = .ok (.bipush 31, 2) := by decide +kernel
theorem dX8_isShaped_48 : decode cX8_isShaped 48 = .ok (.iand, 1) := by decide +kernel
theorem dX8_isShaped_49 : decode cX8_isShaped 49 = .ok (.ifCond .ne 22, 3) := by decide +kernel
theorem dX8_isShaped_52 : decode cX8_isShaped 52 = .ok (.iload_n 3, 1) := by decide +kernel
theorem dX8_isShaped_53 : decode cX8_isShaped 53 = .ok (.aload_n 0, 1) := by decide +kernel
theorem dX8_isShaped_54 : decode cX8_isShaped 54 = .ok (.getfield 22, 3) := by decide +kernel
theorem dX8_isShaped_57 : decode cX8_isShaped 57 = .ok (.bipush 16, 2) := by decide +kernel
theorem dX8_isShaped_59 : decode cX8_isShaped 59 = .ok (.iload_n 1, 1) := by decide +kernel
theorem dX8_isShaped_60 : decode cX8_isShaped 60 = .ok (.imul, 1) := by decide +kernel
theorem dX8_isShaped_61 : decode cX8_isShaped 61 = .ok (.iconst 2, 1) := by decide +kernel
theorem dX8_isShaped_62 : decode cX8_isShaped 62 = .ok (.iadd, 1) := by decide +kernel
theorem dX8_isShaped_63 : decode cX8_isShaped 63 = .ok (.iaload, 1) := by decide +kernel
theorem dX8_isShaped_64 : decode cX8_isShaped 64 = .ok (.if_icmp .gt 7, 3) := by decide +kernel
theorem dX8_isShaped_67 : decode cX8_isShaped 67 = .ok (.iconst 1, 1) := by decide +kernel
theorem dX8_isShaped_68 : decode cX8_isShaped 68 = .ok (.goto 4, 3) := by decide +kernel
theorem dX8_isShaped_71 : decode cX8_isShaped 71 = .ok (.iconst 0, 1) := by decide +kernel
theorem dX8_isShaped_72 : decode cX8_isShaped 72 = .ok (.ireturn, 1) := by decide +kernel
theorem dX8_isShaped_73 : decode cX8_isShaped 73 = .ok (.iload_n 2, 1) := by decide +kernel
theorem dX8_isShaped_74 : decode cX8_isShaped 74 = .ok (.bipush 64, 2) := by decide +kernel
theorem dX8_isShaped_76 : decode cX8_isShaped 76 = .ok (.iand, 1) := by decide +kernel
theorem dX8_isShaped_77 : decode cX8_isShaped 77 = .ok (.ifCond .ne 21, 3) := by decide +kernel
theorem dX8_isShaped_80 : decode cX8_isShaped 80 = .ok (.iload_n 2, 1) := by decide +kernel
theorem dX8_isShaped_81 : decode cX8_isShaped 81 = .ok (.bipush 47, 2) := by decide +kernel
theorem dX8_isShaped_83 : decode cX8_isShaped 83 = .ok (.iand, 1) := by decide +kernel
theorem dX8_isShaped_84 : decode cX8_isShaped 84 = .ok (.iconst 2, 1) := by decide +kernel
theorem dX8_isShaped_85 : decode cX8_isShaped 85 = .ok (.if_icmp .gt 11, 3) := by decide +kernel
theorem dX8_isShaped_88 : decode cX8_isShaped 88 = .ok (.iload_n 3, 1) := by decide +kernel
theorem dX8_isShaped_89 : decode cX8_isShaped 89 = .ok (.ifCond .ne 7, 3) := by decide +kernel
theorem dX8_isShaped_92 : decode cX8_isShaped 92 = .ok (.iconst 1, 1) := by decide +kernel
theorem dX8_isShaped_93 : decode cX8_isShaped 93 = .ok (.goto 4, 3) := by decide +kernel
theorem dX8_isShaped_96 : decode cX8_isShaped 96 = .ok (.iconst 0, 1) := by decide +kernel
theorem dX8_isShaped_97 : decode cX8_isShaped 97 = .ok (.ireturn, 1) := by decide +kernel
theorem dX8_isShaped_98 : decode cX8_isShaped 98 = .ok (.iload_n 2, 1) := by decide +kernel
theorem dX8_isShaped_99 : decode cX8_isShaped 99 = .ok (.bipush 31, 2) := by decide +kernel
theorem dX8_isShaped_101 : decode cX8_isShaped 101 = .ok (.iand, 1) := by decide +kernel
theorem dX8_isShaped_102 : decode cX8_isShaped 102 = .ok (.istore 4, 2) := by decide +kernel
theorem dX8_isShaped_104 : decode cX8_isShaped 104 = .ok (.iload_n 2, 1) := by decide +kernel
theorem dX8_isShaped_105 : decode cX8_isShaped 105 = .ok (.sipush 192, 3) := by decide +kernel
theorem dX8_isShaped_108 : decode cX8_isShaped 108 = .ok (.iand, 1) := by decide +kernel
theorem dX8_isShaped_109 : decode cX8_isShaped 109 = .ok (.sipush 192, 3) := by decide +kernel
theorem dX8_isShaped_112 : decode cX8_isShaped 112 = .ok (.if_icmp .ne 9, 3) := by decide +kernel
theorem dX8_isShaped_115 : decode cX8_isShaped 115 = .ok (.iload 4, 2) := by decide +kernel
theorem dX8_isShaped_117 : decode cX8_isShaped 117 = .ok (.iconst 3, 1) := by decide +kernel
theorem dX8_isShaped_118 : decode cX8_isShaped 118 = .ok (.if_icmp .le 5, 3) := by decide +kernel
theorem dX8_isShaped_121 : decode cX8_isShaped 121 = .ok (.iconst 0, 1) := by decide +kernel
theorem dX8_isShaped_122 : decode cX8_isShaped 122 = .ok (.ireturn, 1) := by decide +kernel
theorem dX8_isShaped_123 : decode cX8_isShaped 123 = .ok (.iload 4, 2) := by decide +kernel
theorem dX8_isShaped_125 : decode cX8_isShaped 125 = .ok (.ifCond .eq 9, 3) := by decide +kernel
theorem dX8_isShaped_128 : decode cX8_isShaped 128 = .ok (.iload 4, 2) := by decide +kernel
theorem dX8_isShaped_130 : decode cX8_isShaped 130 = .ok (.iconst 2, 1) := by decide +kernel
theorem dX8_isShaped_131 : decode cX8_isShaped 131 = .ok (.if_icmp .ne 13, 3) := by decide +kernel
theorem dX8_isShaped_134 : decode cX8_isShaped 134 = .ok (.iload_n 3, 1) := by decide +kernel
theorem dX8_isShaped_135 : decode cX8_isShaped 135 = .ok (.ifCond .ne 7, 3) := by decide +kernel
theorem dX8_isShaped_138 : decode cX8_isShaped 138 = .ok (.iconst 1, 1) := by decide +kernel
theorem dX8_isShaped_139 : decode cX8_isShaped 139 = .ok (.goto 4, 3) := by decide +kernel
theorem dX8_isShaped_142 : decode cX8_isShaped 142 = .ok (.iconst 0, 1) := by decide +kernel
theorem dX8_isShaped_143 : decode cX8_isShaped 143 = .ok (.ireturn, 1) := by decide +kernel
theorem dX8_isShaped_144 : decode cX8_isShaped 144 = .ok (.iload_n 3, 1) := by decide +kernel
theorem dX8_isShaped_145 : decode cX8_isShaped 145 = .ok (.iconst 1, 1) := by decide +kernel
theorem dX8_isShaped_146 : decode cX8_isShaped 146 = .ok (.if_icmp .ne 29, 3) := by decide +kernel
theorem dX8_isShaped_149 : decode cX8_isShaped 149 = .ok (.iload 4, 2) := by decide +kernel
theorem dX8_isShaped_151 : decode cX8_isShaped 151 = .ok (.iconst 3, 1) := by decide +kernel
theorem dX8_isShaped_152 : decode cX8_isShaped 152 = .ok (.if_icmp .eq 19, 3) := by decide +kernel
theorem dX8_isShaped_155 : decode cX8_isShaped 155 = .ok (.aload_n 0, 1) := by decide +kernel
theorem dX8_isShaped_156 : decode cX8_isShaped 156 = .ok (.getfield 54, 3) := by decide +kernel
theorem dX8_isShaped_159 : decode cX8_isShaped 159 = .ok (.iconst 3, 1) := by decide +kernel
theorem dX8_isShaped_160 : decode cX8_isShaped 160 = .ok (.iaload, 1) := by decide +kernel
theorem dX8_isShaped_161 : decode cX8_isShaped 161 = .ok (.iconst 1, 1) := by decide +kernel
theorem dX8_isShaped_162 : decode cX8_isShaped 162 = .ok (.sipush 254, 3) := by decide +kernel
theorem dX8_isShaped_165 : decode cX8_isShaped 165 = .ok (.invokestatic 82, 3) := by decide +kernel
theorem dX8_isShaped_168 : decode cX8_isShaped 168 = .ok (.ifCond .eq 7, 3) := by decide +kernel
theorem dX8_isShaped_171 : decode cX8_isShaped 171 = .ok (.iconst 1, 1) := by decide +kernel
theorem dX8_isShaped_172 : decode cX8_isShaped 172 = .ok (.goto 4, 3) := by decide +kernel
theorem dX8_isShaped_175 : decode cX8_isShaped 175 = .ok (.iconst 0, 1) := by decide +kernel
theorem dX8_isShaped_176 : decode cX8_isShaped 176 = .ok (.ireturn, 1) := by decide +kernel
set_option maxRecDepth 100000 in
set_option maxHeartbeats 4000000 in
theorem c_X8_isShaped_0_m {hp : List gA} {M : gMd}  (HM : gMod hp M)  : gM yX8_isShaped cX8_isShaped 5 ((some .boolean)) 1 22 [.ref 122, .int 0] (hp) (0) (0) (fun v h => v = some (.int (rX8_isShaped_0 M)) ∧ h = hp) := by
  refine gM_of (ls0 := [some (.ref 122), some (.int 0), none, none, none]) (by decide +kernel) (Nat.le_of_ble_eq_true rfl) rfl fun X C E => ?_
  refine g_aload_n (q := 1) C dX8_isShaped_0 rfl rfl ?_
  refine g_getfield (v := .ref 136) (q := 4) C fX8_54 dX8_isShaped_1 rfl HM.1 rfl ?_
  refine g_iconst (v := 0) (q := 5) C dX8_isShaped_4 (by decide) rfl ?_
  refine g_ialoadN (x := (M.a 13 0)) (j := 0) (q := 6) C dX8_isShaped_5 rfl (HM.ar (i := 13) (n := 260) (by decide) rfl) (pk_in 0 260 (by decide)) (pk_cl 0) rfl ?_
  refine g_if_ne (t := 21) (q := 9) C dX8_isShaped_6 (by decide) rfl (fun c_6 => ?_) (fun c_6 => ?_)
  ·
    refine g_iconst (v := 0) (q := 22) C dX8_isShaped_21 (by decide) rfl ?_
    have e : rX8_isShaped_0 M = (0) := (if_neg c_6)
    exact E.1 _ _ _ _ _ _ _ dX8_isShaped_22 rfl rfl (Nat.le_of_ble_eq_true rfl) (Nat.le_of_ble_eq_true rfl) ⟨by rw [e], rfl⟩
  ·
    refine g_aload_n (q := 10) C dX8_isShaped_9 rfl rfl ?_
    refine g_getfield (v := .ref 136) (q := 13) C fX8_54 dX8_isShaped_10 rfl HM.1 rfl ?_
    refine g_iconst (v := 2) (q := 14) C dX8_isShaped_13 (by decide) rfl ?_
    refine g_ialoadN (x := (M.a 13 2)) (j := 2) (q := 15) C dX8_isShaped_14 rfl (HM.ar (i := 13) (n := 260) (by decide) rfl) (pk_in 2 260 (by decide)) (pk_cl 2) rfl ?_
    refine g_sipush (v := 254) (q := 18) C dX8_isShaped_15 (by decide) rfl ?_
    refine g_icmp_le (t := 23) (q := 21) C dX8_isShaped_18 (by decide) rfl (fun c_18 => ?_) (fun c_18 => ?_)
    ·
      refine g_aload_n (q := 24) C dX8_isShaped_23 rfl rfl ?_
      refine g_getfield (v := .ref 136) (q := 27) C fX8_54 dX8_isShaped_24 rfl HM.1 rfl ?_
      refine g_iconst (v := 1) (q := 28) C dX8_isShaped_27 (by decide) rfl ?_
      refine g_ialoadN (x := (M.a 13 1)) (j := 1) (q := 29) C dX8_isShaped_28 rfl (HM.ar (i := 13) (n := 260) (by decide) rfl) (pk_in 1 260 (by decide)) (pk_cl 1) rfl ?_
      refine g_istore_n (q := 30) C dX8_isShaped_29 (Nat.le_of_ble_eq_true rfl) (by simp only [gset]; rfl) rfl ?_
      refine g_aload_n (q := 31) C dX8_isShaped_30 rfl rfl ?_
      refine g_getfield (v := .ref 136) (q := 34) C fX8_54 dX8_isShaped_31 rfl HM.1 rfl ?_
      refine g_iconst (v := 2) (q := 35) C dX8_isShaped_34 (by decide) rfl ?_
      refine g_ialoadN (x := (M.a 13 2)) (j := 2) (q := 36) C dX8_isShaped_35 rfl (HM.ar (i := 13) (n := 260) (by decide) rfl) (pk_in 2 260 (by decide)) (pk_cl 2) rfl ?_
      refine g_istore_n (q := 37) C dX8_isShaped_36 (Nat.le_of_ble_eq_true rfl) (by simp only [gset]; rfl) rfl ?_
      refine g_iload_n (q := 38) C dX8_isShaped_37 rfl rfl ?_
      refine g_sipush (v := 128) (q := 41) C dX8_isShaped_38 (by decide) rfl ?_
      refine g_iand (q := 42) C dX8_isShaped_41 rfl ?_
      refine g_if_ne (t := 73) (q := 45) C dX8_isShaped_42 (by decide) rfl (fun c_42 => ?_) (fun c_42 => ?_)
      ·
        refine g_iload_n (q := 74) C dX8_isShaped_73 rfl rfl ?_
        refine g_bipush (v := 64) (q := 76) C dX8_isShaped_74 (by decide) rfl ?_
        refine g_iand (q := 77) C dX8_isShaped_76 rfl ?_
        refine g_if_ne (t := 98) (q := 80) C dX8_isShaped_77 (by decide) rfl (fun c_77 => ?_) (fun c_77 => ?_)
        ·
          refine g_iload_n (q := 99) C dX8_isShaped_98 rfl rfl ?_
          refine g_bipush (v := 31) (q := 101) C dX8_isShaped_99 (by decide) rfl ?_
          refine g_iand (q := 102) C dX8_isShaped_101 rfl ?_
          refine g_istore (q := 104) C dX8_isShaped_102 (Nat.le_of_ble_eq_true rfl) (by simp only [gset]; rfl) rfl ?_
          refine g_iload_n (q := 105) C dX8_isShaped_104 rfl rfl ?_
          refine g_sipush (v := 192) (q := 108) C dX8_isShaped_105 (by decide) rfl ?_
          refine g_iand (q := 109) C dX8_isShaped_108 rfl ?_
          refine g_sipush (v := 192) (q := 112) C dX8_isShaped_109 (by decide) rfl ?_
          refine g_icmp_ne (t := 121) (q := 115) C dX8_isShaped_112 (by decide) rfl (fun c_112 => ?_) (fun c_112 => ?_)
          ·
            refine g_iconst (v := 0) (q := 122) C dX8_isShaped_121 (by decide) rfl ?_
            have e : rX8_isShaped_0 M = (0) := ((if_pos c_6).trans ((if_pos c_18).trans ((if_neg c_42).trans ((if_neg c_77).trans (if_neg c_112)))))
            exact E.1 _ _ _ _ _ _ _ dX8_isShaped_122 rfl rfl (Nat.le_of_ble_eq_true rfl) (Nat.le_of_ble_eq_true rfl) ⟨by rw [e], rfl⟩
          ·
            refine g_iload (q := 117) C dX8_isShaped_115 rfl rfl ?_
            refine g_iconst (v := 3) (q := 118) C dX8_isShaped_117 (by decide) rfl ?_
            refine g_icmp_le (t := 123) (q := 121) C dX8_isShaped_118 (by decide) rfl (fun c_118 => ?_) (fun c_118 => ?_)
            ·
              refine g_iload (q := 125) C dX8_isShaped_123 rfl rfl ?_
              refine g_if_eq (t := 134) (q := 128) C dX8_isShaped_125 (by decide) rfl (fun c_125 => ?_) (fun c_125 => ?_)
              ·
                refine g_iload_n (q := 135) C dX8_isShaped_134 rfl rfl ?_
                suffices K135 : gG X 143 [some (.ref 122), some (.int 0), some (.int ((M.a 13 1))), some (.int ((M.a 13 2))), some (.int (((M.a 13 1) &&& 31)))] [.int (if (M.a 13 2) = 0 then 1 else 0 : Int32)] hp 0 0 by
                  refine g_if_ne (t := 142) (q := 138) C dX8_isShaped_135 (by decide) rfl (fun c_135 => ?_) (fun c_135 => ?_)
                  · refine g_iconst (v := 0) (q := 143) C dX8_isShaped_142 (by decide) rfl ?_
                    rw [if_neg c_135] at K135
                    exact K135
                  · refine g_iconst (v := 1) (q := 139) C dX8_isShaped_138 (by decide) rfl ?_
                    refine g_goto (q := 143) C dX8_isShaped_139 (by decide) ?_
                    rw [if_pos c_135] at K135
                    exact K135
                have e : rX8_isShaped_0 M = ((if (M.a 13 2) = 0 then 1 else 0 : Int32)) := ((if_pos c_6).trans ((if_pos c_18).trans ((if_neg c_42).trans ((if_neg c_77).trans ((if_pos c_112).trans ((if_pos c_118).trans (if_pos c_125)))))))
                exact E.1 _ _ _ _ _ _ _ dX8_isShaped_143 rfl (by split <;> rfl) (Nat.le_of_ble_eq_true rfl) (Nat.le_of_ble_eq_true rfl) ⟨by rw [e], rfl⟩
              ·
                refine g_iload (q := 130) C dX8_isShaped_128 rfl rfl ?_
                refine g_iconst (v := 2) (q := 131) C dX8_isShaped_130 (by decide) rfl ?_
                refine g_icmp_ne (t := 144) (q := 134) C dX8_isShaped_131 (by decide) rfl (fun c_131 => ?_) (fun c_131 => ?_)
                ·
                  refine g_iload_n (q := 145) C dX8_isShaped_144 rfl rfl ?_
                  refine g_iconst (v := 1) (q := 146) C dX8_isShaped_145 (by decide) rfl ?_
                  refine g_icmp_ne (t := 175) (q := 149) C dX8_isShaped_146 (by decide) rfl (fun c_146 => ?_) (fun c_146 => ?_)
                  ·
                    refine g_iconst (v := 0) (q := 176) C dX8_isShaped_175 (by decide) rfl ?_
                    have e : rX8_isShaped_0 M = (0) := ((if_pos c_6).trans ((if_pos c_18).trans ((if_neg c_42).trans ((if_neg c_77).trans ((if_pos c_112).trans ((if_pos c_118).trans ((if_neg c_125).trans ((if_neg c_131).trans (if_neg c_146)))))))))
                    exact E.1 _ _ _ _ _ _ _ dX8_isShaped_176 rfl rfl (Nat.le_of_ble_eq_true rfl) (Nat.le_of_ble_eq_true rfl) ⟨by rw [e], rfl⟩
                  ·
                    refine g_iload (q := 151) C dX8_isShaped_149 rfl rfl ?_
                    refine g_iconst (v := 3) (q := 152) C dX8_isShaped_151 (by decide) rfl ?_
                    refine g_icmp_eq (t := 171) (q := 155) C dX8_isShaped_152 (by decide) rfl (fun c_152 => ?_) (fun c_152 => ?_)
                    ·
                      refine g_iconst (v := 1) (q := 172) C dX8_isShaped_171 (by decide) rfl ?_
                      refine g_goto (q := 176) C dX8_isShaped_172 (by decide) ?_
                      have e : rX8_isShaped_0 M = (1) := ((if_pos c_6).trans ((if_pos c_18).trans ((if_neg c_42).trans ((if_neg c_77).trans ((if_pos c_112).trans ((if_pos c_118).trans ((if_neg c_125).trans ((if_neg c_131).trans ((if_pos c_146).trans (if_pos c_152))))))))))
                      exact E.1 _ _ _ _ _ _ _ dX8_isShaped_176 rfl rfl (Nat.le_of_ble_eq_true rfl) (Nat.le_of_ble_eq_true rfl) ⟨by rw [e], rfl⟩
                    ·
                      refine g_aload_n (q := 156) C dX8_isShaped_155 rfl rfl ?_
                      refine g_getfield (v := .ref 136) (q := 159) C fX8_54 dX8_isShaped_156 rfl HM.1 rfl ?_
                      refine g_iconst (v := 3) (q := 160) C dX8_isShaped_159 (by decide) rfl ?_
                      refine g_ialoadN (x := (M.a 13 3)) (j := 3) (q := 161) C dX8_isShaped_160 rfl (HM.ar (i := 13) (n := 260) (by decide) rfl) (pk_in 3 260 (by decide)) (pk_cl 3) rfl ?_
                      refine g_iconst (v := 1) (q := 162) C dX8_isShaped_161 (by decide) rfl ?_
                      refine g_sipush (v := 254) (q := 165) C dX8_isShaped_162 (by decide) rfl ?_
                      refine g_callSi (x := (rX8_within (M.a 13 3) 1 254)) (q := 168) (As := [.int ((M.a 13 3)), .int 1, .int 254]) C gyX8_within t_1212 t_1211 (c_X8_within_m) dX8_isShaped_165 rfl rfl rfl (Nat.le_of_ble_eq_true rfl) (Nat.le_of_ble_eq_true rfl) (Nat.le_of_ble_eq_true rfl) (Nat.le_of_ble_eq_true rfl) (Nat.le_of_ble_eq_true rfl) rfl ?_
                      suffices K168 : gG X 176 [some (.ref 122), some (.int 0), some (.int ((M.a 13 1))), some (.int ((M.a 13 2))), some (.int (((M.a 13 1) &&& 31)))] [.int (if (rX8_within (M.a 13 3) 1 254) = 0 then 0 else 1 : Int32)] hp 0 0 by
                        refine g_if_eq (t := 175) (q := 171) C dX8_isShaped_168 (by decide) rfl (fun c_168 => ?_) (fun c_168 => ?_)
                        · refine g_iconst (v := 0) (q := 176) C dX8_isShaped_175 (by decide) rfl ?_
                          rw [if_pos c_168] at K168
                          exact K168
                        · refine g_iconst (v := 1) (q := 172) C dX8_isShaped_171 (by decide) rfl ?_
                          refine g_goto (q := 176) C dX8_isShaped_172 (by decide) ?_
                          rw [if_neg c_168] at K168
                          exact K168
                      have e : rX8_isShaped_0 M = ((if (rX8_within (M.a 13 3) 1 254) = 0 then 0 else 1 : Int32)) := ((if_pos c_6).trans ((if_pos c_18).trans ((if_neg c_42).trans ((if_neg c_77).trans ((if_pos c_112).trans ((if_pos c_118).trans ((if_neg c_125).trans ((if_neg c_131).trans ((if_pos c_146).trans (if_neg c_152))))))))))
                      exact E.1 _ _ _ _ _ _ _ dX8_isShaped_176 rfl (by split <;> rfl) (Nat.le_of_ble_eq_true rfl) (Nat.le_of_ble_eq_true rfl) ⟨by rw [e], rfl⟩
                ·
                  refine g_iload_n (q := 135) C dX8_isShaped_134 rfl rfl ?_
                  suffices K135 : gG X 143 [some (.ref 122), some (.int 0), some (.int ((M.a 13 1))), some (.int ((M.a 13 2))), some (.int (((M.a 13 1) &&& 31)))] [.int (if (M.a 13 2) = 0 then 1 else 0 : Int32)] hp 0 0 by
                    refine g_if_ne (t := 142) (q := 138) C dX8_isShaped_135 (by decide) rfl (fun c_135 => ?_) (fun c_135 => ?_)
                    · refine g_iconst (v := 0) (q := 143) C dX8_isShaped_142 (by decide) rfl ?_
                      rw [if_neg c_135] at K135
                      exact K135
                    · refine g_iconst (v := 1) (q := 139) C dX8_isShaped_138 (by decide) rfl ?_
                      refine g_goto (q := 143) C dX8_isShaped_139 (by decide) ?_
                      rw [if_pos c_135] at K135
                      exact K135
                  have e : rX8_isShaped_0 M = ((if (M.a 13 2) = 0 then 1 else 0 : Int32)) := ((if_pos c_6).trans ((if_pos c_18).trans ((if_neg c_42).trans ((if_neg c_77).trans ((if_pos c_112).trans ((if_pos c_118).trans ((if_neg c_125).trans (if_pos c_131))))))))
                  exact E.1 _ _ _ _ _ _ _ dX8_isShaped_143 rfl (by split <;> rfl) (Nat.le_of_ble_eq_true rfl) (Nat.le_of_ble_eq_true rfl) ⟨by rw [e], rfl⟩
            ·
              refine g_iconst (v := 0) (q := 122) C dX8_isShaped_121 (by decide) rfl ?_
              have e : rX8_isShaped_0 M = (0) := ((if_pos c_6).trans ((if_pos c_18).trans ((if_neg c_42).trans ((if_neg c_77).trans ((if_pos c_112).trans (if_neg c_118))))))
              exact E.1 _ _ _ _ _ _ _ dX8_isShaped_122 rfl rfl (Nat.le_of_ble_eq_true rfl) (Nat.le_of_ble_eq_true rfl) ⟨by rw [e], rfl⟩
        ·
          refine g_iload_n (q := 81) C dX8_isShaped_80 rfl rfl ?_
          refine g_bipush (v := 47) (q := 83) C dX8_isShaped_81 (by decide) rfl ?_
          refine g_iand (q := 84) C dX8_isShaped_83 rfl ?_
          refine g_iconst (v := 2) (q := 85) C dX8_isShaped_84 (by decide) rfl ?_
          refine g_icmp_gt (t := 96) (q := 88) C dX8_isShaped_85 (by decide) rfl (fun c_85 => ?_) (fun c_85 => ?_)
          ·
            refine g_iconst (v := 0) (q := 97) C dX8_isShaped_96 (by decide) rfl ?_
            have e : rX8_isShaped_0 M = (0) := ((if_pos c_6).trans ((if_pos c_18).trans ((if_neg c_42).trans ((if_pos c_77).trans (if_pos c_85)))))
            exact E.1 _ _ _ _ _ _ _ dX8_isShaped_97 rfl rfl (Nat.le_of_ble_eq_true rfl) (Nat.le_of_ble_eq_true rfl) ⟨by rw [e], rfl⟩
          ·
            refine g_iload_n (q := 89) C dX8_isShaped_88 rfl rfl ?_
            suffices K89 : gG X 97 [some (.ref 122), some (.int 0), some (.int ((M.a 13 1))), some (.int ((M.a 13 2))), none] [.int (if (M.a 13 2) = 0 then 1 else 0 : Int32)] hp 0 0 by
              refine g_if_ne (t := 96) (q := 92) C dX8_isShaped_89 (by decide) rfl (fun c_89 => ?_) (fun c_89 => ?_)
              · refine g_iconst (v := 0) (q := 97) C dX8_isShaped_96 (by decide) rfl ?_
                rw [if_neg c_89] at K89
                exact K89
              · refine g_iconst (v := 1) (q := 93) C dX8_isShaped_92 (by decide) rfl ?_
                refine g_goto (q := 97) C dX8_isShaped_93 (by decide) ?_
                rw [if_pos c_89] at K89
                exact K89
            have e : rX8_isShaped_0 M = ((if (M.a 13 2) = 0 then 1 else 0 : Int32)) := ((if_pos c_6).trans ((if_pos c_18).trans ((if_neg c_42).trans ((if_pos c_77).trans (if_neg c_85)))))
            exact E.1 _ _ _ _ _ _ _ dX8_isShaped_97 rfl (by split <;> rfl) (Nat.le_of_ble_eq_true rfl) (Nat.le_of_ble_eq_true rfl) ⟨by rw [e], rfl⟩
      ·
        refine g_iload_n (q := 46) C dX8_isShaped_45 rfl rfl ?_
        refine g_bipush (v := 31) (q := 48) C dX8_isShaped_46 (by decide) rfl ?_
        refine g_iand (q := 49) C dX8_isShaped_48 rfl ?_
        refine g_if_ne (t := 71) (q := 52) C dX8_isShaped_49 (by decide) rfl (fun c_49 => ?_) (fun c_49 => ?_)
        ·
          refine g_iconst (v := 0) (q := 72) C dX8_isShaped_71 (by decide) rfl ?_
          have e : rX8_isShaped_0 M = (0) := ((if_pos c_6).trans ((if_pos c_18).trans ((if_pos c_42).trans (if_neg c_49))))
          exact E.1 _ _ _ _ _ _ _ dX8_isShaped_72 rfl rfl (Nat.le_of_ble_eq_true rfl) (Nat.le_of_ble_eq_true rfl) ⟨by rw [e], rfl⟩
        ·
          refine g_iload_n (q := 53) C dX8_isShaped_52 rfl rfl ?_
          refine g_aload_n (q := 54) C dX8_isShaped_53 rfl rfl ?_
          refine g_getfield (v := .ref 127) (q := 57) C fX8_22 dX8_isShaped_54 rfl HM.1 rfl ?_
          refine g_bipush (v := 16) (q := 59) C dX8_isShaped_57 (by decide) rfl ?_
          refine g_iload_n (q := 60) C dX8_isShaped_59 rfl rfl ?_
          refine g_imul (q := 61) C dX8_isShaped_60 rfl ?_
          refine g_iconst (v := 2) (q := 62) C dX8_isShaped_61 (by decide) rfl ?_
          refine g_iadd (q := 63) C dX8_isShaped_62 rfl ?_
          refine g_ialoadN (x := (M.a 4 2)) (j := 2) (q := 64) C dX8_isShaped_63 rfl (HM.ar (i := 4) (n := 772) (by decide) rfl) (pk_in 2 772 (by decide)) (pk_cl 2) rfl ?_
          suffices K64 : gG X 72 [some (.ref 122), some (.int 0), some (.int ((M.a 13 1))), some (.int ((M.a 13 2))), none] [.int (if (M.a 4 2) < (M.a 13 2) then 0 else 1 : Int32)] hp 0 0 by
            refine g_icmp_gt (t := 71) (q := 67) C dX8_isShaped_64 (by decide) rfl (fun c_64 => ?_) (fun c_64 => ?_)
            · refine g_iconst (v := 0) (q := 72) C dX8_isShaped_71 (by decide) rfl ?_
              rw [if_pos c_64] at K64
              exact K64
            · refine g_iconst (v := 1) (q := 68) C dX8_isShaped_67 (by decide) rfl ?_
              refine g_goto (q := 72) C dX8_isShaped_68 (by decide) ?_
              rw [if_neg c_64] at K64
              exact K64
          have e : rX8_isShaped_0 M = ((if (M.a 4 2) < (M.a 13 2) then 0 else 1 : Int32)) := ((if_pos c_6).trans ((if_pos c_18).trans ((if_pos c_42).trans (if_pos c_49))))
          exact E.1 _ _ _ _ _ _ _ dX8_isShaped_72 rfl (by split <;> rfl) (Nat.le_of_ble_eq_true rfl) (Nat.le_of_ble_eq_true rfl) ⟨by rw [e], rfl⟩
    ·
      refine g_iconst (v := 0) (q := 22) C dX8_isShaped_21 (by decide) rfl ?_
      have e : rX8_isShaped_0 M = (0) := ((if_pos c_6).trans (if_neg c_18))
      exact E.1 _ _ _ _ _ _ _ dX8_isShaped_22 rfl rfl (Nat.le_of_ble_eq_true rfl) (Nat.le_of_ble_eq_true rfl) ⟨by rw [e], rfl⟩
def rX8_howCame_0 (M : gMd) : Int32 := (if (M.f 28) = 0 then 3 else (if (M.f 30) = 0 then (if (M.f 28) = ((M.a 13 2) + 4) then (if (M.f 31) = 0 then (if (gXr (M.a 13) ((M.f 28).toNatClampNeg)) = 0 then (if (rX8_isShaped_0 M) = 0 then 2 else 0 : Int32) else 1) else 1) else 2) else 2))
theorem dX8_howCame_0 : decode cX8_howCame 0 = .ok (.aload_n 0, 1) := by decide +kernel
theorem dX8_howCame_1 : decode cX8_howCame 1 = .ok (.getfield 160, 3) := by decide +kernel
theorem dX8_howCame_4 : decode cX8_howCame 4 = .ok (.ifCond .ne 5, 3) := by decide +kernel
theorem dX8_howCame_7 : decode cX8_howCame 7 = .ok (.iconst 3, 1) := by decide +kernel
theorem dX8_howCame_8 : decode cX8_howCame 8 = .ok (.ireturn, 1) := by decide +kernel
theorem dX8_howCame_9 : decode cX8_howCame 9 = .ok (.aload_n 0, 1) := by decide +kernel
theorem dX8_howCame_10 : decode cX8_howCame 10 = .ok (.getfield 154, 3) := by decide +kernel
theorem dX8_howCame_13 : decode cX8_howCame 13 = .ok (.ifCond .ne 18, 3) := by decide +kernel
theorem dX8_howCame_16 : decode cX8_howCame 16 = .ok (.aload_n 0, 1) := by decide +kernel
theorem dX8_howCame_17 : decode cX8_howCame 17 = .ok (.getfield 160, 3) := by decide +kernel
theorem dX8_howCame_20 : decode cX8_howCame 20 = .ok (.aload_n 0, 1) := by decide +kernel
theorem dX8_howCame_21 : decode cX8_howCame 21 = .ok (.getfield 54, 3) := by decide +kernel
theorem dX8_howCame_24 : decode cX8_howCame 24 = .ok (.iconst 2, 1) := by decide +kernel
theorem dX8_howCame_25 : decode cX8_howCame 25 = .ok (.iaload, 1) := by decide +kernel
theorem dX8_howCame_26 : decode cX8_howCame 26 = .ok (.iconst 4, 1) := by decide +kernel
theorem dX8_howCame_27 : decode cX8_howCame 27 = .ok (.iadd, 1) := by decide +kernel
theorem dX8_howCame_28 : decode cX8_howCame 28 = .ok (.if_icmp .eq 5, 3) := by decide +kernel
theorem dX8_howCame_31 : decode cX8_howCame 31 = .ok (.iconst 2, 1) := by decide +kernel
theorem dX8_howCame_32 : decode cX8_howCame 32 = .ok (.ireturn, 1) := by decide +kernel
theorem dX8_howCame_33 : decode cX8_howCame 33 = .ok (.iconst 0, 1) := by decide +kernel
theorem dX8_howCame_34 : decode cX8_howCame 34 = .ok (.istore_n 2, 1) := by decide +kernel
theorem dX8_howCame_35 : decode cX8_howCame 35 = .ok (.iconst 0, 1) := by decide +kernel
theorem dX8_howCame_36 : decode cX8_howCame 36 = .ok (.istore_n 3, 1) := by decide +kernel
theorem dX8_howCame_37 : decode cX8_howCame 37 = .ok (.iload_n 3, 1) := by decide +kernel
theorem dX8_howCame_38 : decode cX8_howCame 38 = .ok (.aload_n 0, 1) := by decide +kernel
theorem dX8_howCame_39 : decode cX8_howCame 39 = .ok (.getfield 160, 3) := by decide +kernel
theorem dX8_howCame_42 : decode cX8_howCame 42 = .ok (.if_icmp .ge 18, 3) := by decide +kernel
theorem dX8_howCame_45 : decode cX8_howCame 45 = .ok (.iload_n 2, 1) := by decide +kernel
theorem dX8_howCame_46 : decode cX8_howCame 46 = .ok (.aload_n 0, 1) := by decide +kernel
theorem dX8_howCame_47 : decode cX8_howCame 47 = .ok (.getfield 54, 3) := by decide +kernel
theorem dX8_howCame_50 : decode cX8_howCame 50 = .ok (.iload_n 3, 1) := by decide +kernel
theorem dX8_howCame_51 : decode cX8_howCame 51 = .ok (.iaload, 1) := by decide +kernel
theorem dX8_howCame_52 : decode cX8_howCame 52 = .ok (.ixor, 1) := by decide +kernel
theorem dX8_howCame_53 : decode cX8_howCame 53 = .ok (.istore_n 2, 1) := by decide +kernel
theorem dX8_howCame_54 : decode cX8_howCame 54 = .ok (.iinc 3 1, 3) := by decide +kernel
theorem dX8_howCame_57 : decode cX8_howCame 57 = .ok (.goto (-20), 3) := by decide +kernel
theorem dX8_howCame_60 : decode cX8_howCame 60 = .ok (.aload_n 0, 1) := by decide +kernel
theorem dX8_howCame_61 : decode cX8_howCame 61 = .ok (.getfield 157, 3) := by decide +kernel
theorem dX8_howCame_64 : decode cX8_howCame 64 = .ok (.ifCond .ne 7, 3) := by decide +kernel
theorem dX8_howCame_67 : decode cX8_howCame 67 = .ok (.iload_n 2, 1) := by decide +kernel
theorem dX8_howCame_68 : decode cX8_howCame 68 = .ok (.ifCond .eq 5, 3) := by decide +kernel
theorem dX8_howCame_71 : decode cX8_howCame 71 = .ok (.iconst 1, 1) := by decide +kernel
theorem dX8_howCame_72 : decode cX8_howCame 72 = .ok (.ireturn, 1) := by decide +kernel
theorem dX8_howCame_73 : decode cX8_howCame 73 = .ok (.aload_n 0, 1) := by decide +kernel
theorem dX8_howCame_74 : decode cX8_howCame 74 = .ok (.iload_n 1, 1) := by decide +kernel
theorem dX8_howCame_75 : decode cX8_howCame 75 = .ok (.invokevirtual 163, 3) := by decide +kernel
theorem dX8_howCame_78 : decode cX8_howCame 78 = .ok (.ifCond .eq 7, 3) := by decide +kernel
theorem dX8_howCame_81 : decode cX8_howCame 81 = .ok (.iconst 0, 1) := by decide +kernel
theorem dX8_howCame_82 : decode cX8_howCame 82 = .ok (.goto 4, 3) := by decide +kernel
theorem dX8_howCame_85 : decode cX8_howCame 85 = .ok (.iconst 2, 1) := by decide +kernel
theorem dX8_howCame_86 : decode cX8_howCame 86 = .ok (.ireturn, 1) := by decide +kernel
set_option maxRecDepth 100000 in
set_option maxHeartbeats 4000000 in
theorem c_X8_howCame_0_m {hp : List gA} {M : gMd}  (HM : gMod hp M) (hn : gIr (M.f 28) 260) : gM yX8_howCame cX8_howCame 4 ((some .int)) 2 46 [.ref 122, .int 0] (hp) (0) (0) (fun v h => v = some (.int (rX8_howCame_0 M)) ∧ h = hp) := by
  refine gM_of (ls0 := [some (.ref 122), some (.int 0), none, none]) (by decide +kernel) (Nat.le_of_ble_eq_true rfl) rfl fun X C E => ?_
  have h60 := hn.le (by decide)
  refine g_aload_n (q := 1) C dX8_howCame_0 rfl rfl ?_
  refine g_getfield (v := .int ((M.f 28))) (q := 4) C fX8_160 dX8_howCame_1 rfl HM.1 rfl ?_
  refine g_if_ne (t := 9) (q := 7) C dX8_howCame_4 (by decide) rfl (fun c_4 => ?_) (fun c_4 => ?_)
  ·
    refine g_aload_n (q := 10) C dX8_howCame_9 rfl rfl ?_
    refine g_getfield (v := .int ((M.f 30))) (q := 13) C fX8_154 dX8_howCame_10 rfl HM.1 rfl ?_
    refine g_if_ne (t := 31) (q := 16) C dX8_howCame_13 (by decide) rfl (fun c_13 => ?_) (fun c_13 => ?_)
    ·
      refine g_iconst (v := 2) (q := 32) C dX8_howCame_31 (by decide) rfl ?_
      have e : rX8_howCame_0 M = (2) := ((if_neg c_4).trans (if_neg c_13))
      exact E.1 _ _ _ _ _ _ _ dX8_howCame_32 rfl rfl (Nat.le_of_ble_eq_true rfl) (Nat.le_of_ble_eq_true rfl) ⟨by rw [e], rfl⟩
    ·
      refine g_aload_n (q := 17) C dX8_howCame_16 rfl rfl ?_
      refine g_getfield (v := .int ((M.f 28))) (q := 20) C fX8_160 dX8_howCame_17 rfl HM.1 rfl ?_
      refine g_aload_n (q := 21) C dX8_howCame_20 rfl rfl ?_
      refine g_getfield (v := .ref 136) (q := 24) C fX8_54 dX8_howCame_21 rfl HM.1 rfl ?_
      refine g_iconst (v := 2) (q := 25) C dX8_howCame_24 (by decide) rfl ?_
      refine g_ialoadN (x := (M.a 13 2)) (j := 2) (q := 26) C dX8_howCame_25 rfl (HM.ar (i := 13) (n := 260) (by decide) rfl) (pk_in 2 260 (by decide)) (pk_cl 2) rfl ?_
      refine g_iconst (v := 4) (q := 27) C dX8_howCame_26 (by decide) rfl ?_
      refine g_iadd (q := 28) C dX8_howCame_27 rfl ?_
      refine g_icmp_eq (t := 33) (q := 31) C dX8_howCame_28 (by decide) rfl (fun c_28 => ?_) (fun c_28 => ?_)
      ·
        refine g_iconst (v := 0) (q := 34) C dX8_howCame_33 (by decide) rfl ?_
        refine g_istore_n (q := 35) C dX8_howCame_34 (Nat.le_of_ble_eq_true rfl) (by simp only [gset]; rfl) rfl ?_
        refine g_iconst (v := 0) (q := 36) C dX8_howCame_35 (by decide) rfl ?_
        refine g_istore_n (q := 37) C dX8_howCame_36 (Nat.le_of_ble_eq_true rfl) (by simp only [gset]; rfl) rfl ?_
        have LL1 : ∀ d j : Nat, j + d = (M.f 28).toNatClampNeg → gG X 37 [some (.ref 122), some (.int 0), some (.int ((gXr (M.a 13) j))), some (.int ((nI j)))] [] hp 0 0 := by
          intro d
          induction d with
          | zero =>
            intro j hj 
            obtain rfl : (M.f 28).toNatClampNeg = j := by omega
            refine g_iload_n (q := 38) C dX8_howCame_37 rfl rfl ?_
            refine g_aload_n (q := 39) C dX8_howCame_38 rfl rfl ?_
            refine g_getfield (v := .int ((M.f 28))) (q := 42) C fX8_160 dX8_howCame_39 rfl HM.1 rfl ?_
            refine g_icmp_ge_t (t := 60) C dX8_howCame_42 (by decide) (hn.t (by decide)) ?_
            refine g_aload_n (q := 61) C dX8_howCame_60 rfl rfl ?_
            refine g_getfield (v := .int ((M.f 31))) (q := 64) C fX8_157 dX8_howCame_61 rfl HM.1 rfl ?_
            refine g_if_ne (t := 71) (q := 67) C dX8_howCame_64 (by decide) rfl (fun c_64 => ?_) (fun c_64 => ?_)
            ·
              refine g_iconst (v := 1) (q := 72) C dX8_howCame_71 (by decide) rfl ?_
              have e : rX8_howCame_0 M = (1) := ((if_neg c_4).trans ((if_pos c_13).trans ((if_pos c_28).trans (if_neg c_64))))
              exact E.1 _ _ _ _ _ _ _ dX8_howCame_72 rfl rfl (Nat.le_of_ble_eq_true rfl) (Nat.le_of_ble_eq_true rfl) ⟨by rw [e], rfl⟩
            ·
              refine g_iload_n (q := 68) C dX8_howCame_67 rfl rfl ?_
              refine g_if_eq (t := 73) (q := 71) C dX8_howCame_68 (by decide) rfl (fun c_68 => ?_) (fun c_68 => ?_)
              ·
                refine g_aload_n (q := 74) C dX8_howCame_73 rfl rfl ?_
                refine g_iload_n (q := 75) C dX8_howCame_74 rfl rfl ?_
                refine g_callVi (x := (rX8_isShaped_0 M)) (q := 78) (As := [.int 0]) C gyX8_isShaped gvX8_isShaped t_1324 (c_X8_isShaped_0_m HM) dX8_howCame_75 rfl HM.1 rfl rfl rfl (Nat.le_of_ble_eq_true rfl) (Nat.le_of_ble_eq_true rfl) (Nat.le_of_ble_eq_true rfl) (Nat.le_of_ble_eq_true rfl) (Nat.le_of_ble_eq_true rfl) rfl ?_
                suffices K78 : gG X 86 [some (.ref 122), some (.int 0), some (.int ((gXr (M.a 13) ((M.f 28).toNatClampNeg)))), some (.int ((nI ((M.f 28).toNatClampNeg))))] [.int (if (rX8_isShaped_0 M) = 0 then 2 else 0 : Int32)] hp 0 0 by
                  refine g_if_eq (t := 85) (q := 81) C dX8_howCame_78 (by decide) rfl (fun c_78 => ?_) (fun c_78 => ?_)
                  · refine g_iconst (v := 2) (q := 86) C dX8_howCame_85 (by decide) rfl ?_
                    rw [if_pos c_78] at K78
                    exact K78
                  · refine g_iconst (v := 0) (q := 82) C dX8_howCame_81 (by decide) rfl ?_
                    refine g_goto (q := 86) C dX8_howCame_82 (by decide) ?_
                    rw [if_neg c_78] at K78
                    exact K78
                have e : rX8_howCame_0 M = ((if (rX8_isShaped_0 M) = 0 then 2 else 0 : Int32)) := ((if_neg c_4).trans ((if_pos c_13).trans ((if_pos c_28).trans ((if_pos c_64).trans (if_pos c_68)))))
                exact E.1 _ _ _ _ _ _ _ dX8_howCame_86 rfl rfl (Nat.le_of_ble_eq_true rfl) (Nat.le_of_ble_eq_true rfl) ⟨by rw [e], rfl⟩
              ·
                refine g_iconst (v := 1) (q := 72) C dX8_howCame_71 (by decide) rfl ?_
                have e : rX8_howCame_0 M = (1) := ((if_neg c_4).trans ((if_pos c_13).trans ((if_pos c_28).trans ((if_pos c_64).trans (if_neg c_68)))))
                exact E.1 _ _ _ _ _ _ _ dX8_howCame_72 rfl rfl (Nat.le_of_ble_eq_true rfl) (Nat.le_of_ble_eq_true rfl) ⟨by rw [e], rfl⟩
          | succ d ih =>
            intro j hj 
            refine g_iload_n (q := 38) C dX8_howCame_37 rfl rfl ?_
            refine g_aload_n (q := 39) C dX8_howCame_38 rfl rfl ?_
            refine g_getfield (v := .int ((M.f 28))) (q := 42) C fX8_160 dX8_howCame_39 rfl HM.1 rfl ?_
            refine g_icmp_ge_f (t := 60) (q := 45) C dX8_howCame_42 (by decide) rfl (hn.f (by decide) (by omega)) ?_
            refine g_iload_n (q := 46) C dX8_howCame_45 rfl rfl ?_
            refine g_aload_n (q := 47) C dX8_howCame_46 rfl rfl ?_
            refine g_getfield (v := .ref 136) (q := 50) C fX8_54 dX8_howCame_47 rfl HM.1 rfl ?_
            refine g_iload_n (q := 51) C dX8_howCame_50 rfl rfl ?_
            refine g_ialoadN (x := (M.a 13 j)) (j := j) (q := 52) C dX8_howCame_51 rfl (HM.ar (i := 13) (n := 260) (by decide) rfl) (pk_in j 260 (by omega)) (pk_cl j rfl (by omega)) rfl ?_
            refine g_ixor (q := 53) C dX8_howCame_52 rfl ?_
            refine g_istore_n (q := 54) C dX8_howCame_53 (Nat.le_of_ble_eq_true rfl) (by simp only [gset]; rfl) rfl ?_
            refine g_iinc (v := (nI (j + 1))) (q := 57) C dX8_howCame_54 rfl (nI_1 j) (by simp only [gset]; rfl) rfl ?_
            refine g_goto (q := 37) C dX8_howCame_57 (by decide) ?_
            exact ih (j + 1) (by omega) 
        exact LL1 ((M.f 28).toNatClampNeg) 0 (by omega) 
        
      ·
        refine g_iconst (v := 2) (q := 32) C dX8_howCame_31 (by decide) rfl ?_
        have e : rX8_howCame_0 M = (2) := ((if_neg c_4).trans ((if_pos c_13).trans (if_neg c_28)))
        exact E.1 _ _ _ _ _ _ _ dX8_howCame_32 rfl rfl (Nat.le_of_ble_eq_true rfl) (Nat.le_of_ble_eq_true rfl) ⟨by rw [e], rfl⟩
  ·
    refine g_iconst (v := 3) (q := 8) C dX8_howCame_7 (by decide) rfl ?_
    have e : rX8_howCame_0 M = (3) := (if_pos c_4)
    exact E.1 _ _ _ _ _ _ _ dX8_howCame_8 rfl rfl (Nat.le_of_ble_eq_true rfl) (Nat.le_of_ble_eq_true rfl) ⟨by rw [e], rfl⟩
def rX8_isShaped_1 (M : gMd) : Int32 := (if (M.a 13 0) = 0 then (if (M.a 13 2) ≤ 254 then (if ((M.a 13 1) &&& 128) = 0 then (if ((M.a 13 1) &&& 31) = 0 then (if (M.a 4 18) < (M.a 13 2) then 0 else 1 : Int32) else 0) else (if ((M.a 13 1) &&& 64) = 0 then (if 2 < ((M.a 13 1) &&& 47) then 0 else (if (M.a 13 2) = 0 then 1 else 0 : Int32)) else (if ((M.a 13 1) &&& 192) = 192 then (if ((M.a 13 1) &&& 31) ≤ 3 then (if ((M.a 13 1) &&& 31) = 0 then (if (M.a 13 2) = 0 then 1 else 0 : Int32) else (if ((M.a 13 1) &&& 31) = 2 then (if (M.a 13 2) = 0 then 1 else 0 : Int32) else (if (M.a 13 2) = 1 then (if ((M.a 13 1) &&& 31) = 3 then 1 else (if (rX8_within (M.a 13 3) 1 254) = 0 then 0 else 1 : Int32)) else 0))) else 0) else 0))) else 0) else 0)
set_option maxRecDepth 100000 in
set_option maxHeartbeats 4000000 in
theorem c_X8_isShaped_1_m {hp : List gA} {M : gMd}  (HM : gMod hp M)  : gM yX8_isShaped cX8_isShaped 5 ((some .boolean)) 1 22 [.ref 122, .int 1] (hp) (0) (0) (fun v h => v = some (.int (rX8_isShaped_1 M)) ∧ h = hp) := by
  refine gM_of (ls0 := [some (.ref 122), some (.int 1), none, none, none]) (by decide +kernel) (Nat.le_of_ble_eq_true rfl) rfl fun X C E => ?_
  refine g_aload_n (q := 1) C dX8_isShaped_0 rfl rfl ?_
  refine g_getfield (v := .ref 136) (q := 4) C fX8_54 dX8_isShaped_1 rfl HM.1 rfl ?_
  refine g_iconst (v := 0) (q := 5) C dX8_isShaped_4 (by decide) rfl ?_
  refine g_ialoadN (x := (M.a 13 0)) (j := 0) (q := 6) C dX8_isShaped_5 rfl (HM.ar (i := 13) (n := 260) (by decide) rfl) (pk_in 0 260 (by decide)) (pk_cl 0) rfl ?_
  refine g_if_ne (t := 21) (q := 9) C dX8_isShaped_6 (by decide) rfl (fun c_6 => ?_) (fun c_6 => ?_)
  ·
    refine g_iconst (v := 0) (q := 22) C dX8_isShaped_21 (by decide) rfl ?_
    have e : rX8_isShaped_1 M = (0) := (if_neg c_6)
    exact E.1 _ _ _ _ _ _ _ dX8_isShaped_22 rfl rfl (Nat.le_of_ble_eq_true rfl) (Nat.le_of_ble_eq_true rfl) ⟨by rw [e], rfl⟩
  ·
    refine g_aload_n (q := 10) C dX8_isShaped_9 rfl rfl ?_
    refine g_getfield (v := .ref 136) (q := 13) C fX8_54 dX8_isShaped_10 rfl HM.1 rfl ?_
    refine g_iconst (v := 2) (q := 14) C dX8_isShaped_13 (by decide) rfl ?_
    refine g_ialoadN (x := (M.a 13 2)) (j := 2) (q := 15) C dX8_isShaped_14 rfl (HM.ar (i := 13) (n := 260) (by decide) rfl) (pk_in 2 260 (by decide)) (pk_cl 2) rfl ?_
    refine g_sipush (v := 254) (q := 18) C dX8_isShaped_15 (by decide) rfl ?_
    refine g_icmp_le (t := 23) (q := 21) C dX8_isShaped_18 (by decide) rfl (fun c_18 => ?_) (fun c_18 => ?_)
    ·
      refine g_aload_n (q := 24) C dX8_isShaped_23 rfl rfl ?_
      refine g_getfield (v := .ref 136) (q := 27) C fX8_54 dX8_isShaped_24 rfl HM.1 rfl ?_
      refine g_iconst (v := 1) (q := 28) C dX8_isShaped_27 (by decide) rfl ?_
      refine g_ialoadN (x := (M.a 13 1)) (j := 1) (q := 29) C dX8_isShaped_28 rfl (HM.ar (i := 13) (n := 260) (by decide) rfl) (pk_in 1 260 (by decide)) (pk_cl 1) rfl ?_
      refine g_istore_n (q := 30) C dX8_isShaped_29 (Nat.le_of_ble_eq_true rfl) (by simp only [gset]; rfl) rfl ?_
      refine g_aload_n (q := 31) C dX8_isShaped_30 rfl rfl ?_
      refine g_getfield (v := .ref 136) (q := 34) C fX8_54 dX8_isShaped_31 rfl HM.1 rfl ?_
      refine g_iconst (v := 2) (q := 35) C dX8_isShaped_34 (by decide) rfl ?_
      refine g_ialoadN (x := (M.a 13 2)) (j := 2) (q := 36) C dX8_isShaped_35 rfl (HM.ar (i := 13) (n := 260) (by decide) rfl) (pk_in 2 260 (by decide)) (pk_cl 2) rfl ?_
      refine g_istore_n (q := 37) C dX8_isShaped_36 (Nat.le_of_ble_eq_true rfl) (by simp only [gset]; rfl) rfl ?_
      refine g_iload_n (q := 38) C dX8_isShaped_37 rfl rfl ?_
      refine g_sipush (v := 128) (q := 41) C dX8_isShaped_38 (by decide) rfl ?_
      refine g_iand (q := 42) C dX8_isShaped_41 rfl ?_
      refine g_if_ne (t := 73) (q := 45) C dX8_isShaped_42 (by decide) rfl (fun c_42 => ?_) (fun c_42 => ?_)
      ·
        refine g_iload_n (q := 74) C dX8_isShaped_73 rfl rfl ?_
        refine g_bipush (v := 64) (q := 76) C dX8_isShaped_74 (by decide) rfl ?_
        refine g_iand (q := 77) C dX8_isShaped_76 rfl ?_
        refine g_if_ne (t := 98) (q := 80) C dX8_isShaped_77 (by decide) rfl (fun c_77 => ?_) (fun c_77 => ?_)
        ·
          refine g_iload_n (q := 99) C dX8_isShaped_98 rfl rfl ?_
          refine g_bipush (v := 31) (q := 101) C dX8_isShaped_99 (by decide) rfl ?_
          refine g_iand (q := 102) C dX8_isShaped_101 rfl ?_
          refine g_istore (q := 104) C dX8_isShaped_102 (Nat.le_of_ble_eq_true rfl) (by simp only [gset]; rfl) rfl ?_
          refine g_iload_n (q := 105) C dX8_isShaped_104 rfl rfl ?_
          refine g_sipush (v := 192) (q := 108) C dX8_isShaped_105 (by decide) rfl ?_
          refine g_iand (q := 109) C dX8_isShaped_108 rfl ?_
          refine g_sipush (v := 192) (q := 112) C dX8_isShaped_109 (by decide) rfl ?_
          refine g_icmp_ne (t := 121) (q := 115) C dX8_isShaped_112 (by decide) rfl (fun c_112 => ?_) (fun c_112 => ?_)
          ·
            refine g_iconst (v := 0) (q := 122) C dX8_isShaped_121 (by decide) rfl ?_
            have e : rX8_isShaped_1 M = (0) := ((if_pos c_6).trans ((if_pos c_18).trans ((if_neg c_42).trans ((if_neg c_77).trans (if_neg c_112)))))
            exact E.1 _ _ _ _ _ _ _ dX8_isShaped_122 rfl rfl (Nat.le_of_ble_eq_true rfl) (Nat.le_of_ble_eq_true rfl) ⟨by rw [e], rfl⟩
          ·
            refine g_iload (q := 117) C dX8_isShaped_115 rfl rfl ?_
            refine g_iconst (v := 3) (q := 118) C dX8_isShaped_117 (by decide) rfl ?_
            refine g_icmp_le (t := 123) (q := 121) C dX8_isShaped_118 (by decide) rfl (fun c_118 => ?_) (fun c_118 => ?_)
            ·
              refine g_iload (q := 125) C dX8_isShaped_123 rfl rfl ?_
              refine g_if_eq (t := 134) (q := 128) C dX8_isShaped_125 (by decide) rfl (fun c_125 => ?_) (fun c_125 => ?_)
              ·
                refine g_iload_n (q := 135) C dX8_isShaped_134 rfl rfl ?_
                suffices K135 : gG X 143 [some (.ref 122), some (.int 1), some (.int ((M.a 13 1))), some (.int ((M.a 13 2))), some (.int (((M.a 13 1) &&& 31)))] [.int (if (M.a 13 2) = 0 then 1 else 0 : Int32)] hp 0 0 by
                  refine g_if_ne (t := 142) (q := 138) C dX8_isShaped_135 (by decide) rfl (fun c_135 => ?_) (fun c_135 => ?_)
                  · refine g_iconst (v := 0) (q := 143) C dX8_isShaped_142 (by decide) rfl ?_
                    rw [if_neg c_135] at K135
                    exact K135
                  · refine g_iconst (v := 1) (q := 139) C dX8_isShaped_138 (by decide) rfl ?_
                    refine g_goto (q := 143) C dX8_isShaped_139 (by decide) ?_
                    rw [if_pos c_135] at K135
                    exact K135
                have e : rX8_isShaped_1 M = ((if (M.a 13 2) = 0 then 1 else 0 : Int32)) := ((if_pos c_6).trans ((if_pos c_18).trans ((if_neg c_42).trans ((if_neg c_77).trans ((if_pos c_112).trans ((if_pos c_118).trans (if_pos c_125)))))))
                exact E.1 _ _ _ _ _ _ _ dX8_isShaped_143 rfl (by split <;> rfl) (Nat.le_of_ble_eq_true rfl) (Nat.le_of_ble_eq_true rfl) ⟨by rw [e], rfl⟩
              ·
                refine g_iload (q := 130) C dX8_isShaped_128 rfl rfl ?_
                refine g_iconst (v := 2) (q := 131) C dX8_isShaped_130 (by decide) rfl ?_
                refine g_icmp_ne (t := 144) (q := 134) C dX8_isShaped_131 (by decide) rfl (fun c_131 => ?_) (fun c_131 => ?_)
                ·
                  refine g_iload_n (q := 145) C dX8_isShaped_144 rfl rfl ?_
                  refine g_iconst (v := 1) (q := 146) C dX8_isShaped_145 (by decide) rfl ?_
                  refine g_icmp_ne (t := 175) (q := 149) C dX8_isShaped_146 (by decide) rfl (fun c_146 => ?_) (fun c_146 => ?_)
                  ·
                    refine g_iconst (v := 0) (q := 176) C dX8_isShaped_175 (by decide) rfl ?_
                    have e : rX8_isShaped_1 M = (0) := ((if_pos c_6).trans ((if_pos c_18).trans ((if_neg c_42).trans ((if_neg c_77).trans ((if_pos c_112).trans ((if_pos c_118).trans ((if_neg c_125).trans ((if_neg c_131).trans (if_neg c_146)))))))))
                    exact E.1 _ _ _ _ _ _ _ dX8_isShaped_176 rfl rfl (Nat.le_of_ble_eq_true rfl) (Nat.le_of_ble_eq_true rfl) ⟨by rw [e], rfl⟩
                  ·
                    refine g_iload (q := 151) C dX8_isShaped_149 rfl rfl ?_
                    refine g_iconst (v := 3) (q := 152) C dX8_isShaped_151 (by decide) rfl ?_
                    refine g_icmp_eq (t := 171) (q := 155) C dX8_isShaped_152 (by decide) rfl (fun c_152 => ?_) (fun c_152 => ?_)
                    ·
                      refine g_iconst (v := 1) (q := 172) C dX8_isShaped_171 (by decide) rfl ?_
                      refine g_goto (q := 176) C dX8_isShaped_172 (by decide) ?_
                      have e : rX8_isShaped_1 M = (1) := ((if_pos c_6).trans ((if_pos c_18).trans ((if_neg c_42).trans ((if_neg c_77).trans ((if_pos c_112).trans ((if_pos c_118).trans ((if_neg c_125).trans ((if_neg c_131).trans ((if_pos c_146).trans (if_pos c_152))))))))))
                      exact E.1 _ _ _ _ _ _ _ dX8_isShaped_176 rfl rfl (Nat.le_of_ble_eq_true rfl) (Nat.le_of_ble_eq_true rfl) ⟨by rw [e], rfl⟩
                    ·
                      refine g_aload_n (q := 156) C dX8_isShaped_155 rfl rfl ?_
                      refine g_getfield (v := .ref 136) (q := 159) C fX8_54 dX8_isShaped_156 rfl HM.1 rfl ?_
                      refine g_iconst (v := 3) (q := 160) C dX8_isShaped_159 (by decide) rfl ?_
                      refine g_ialoadN (x := (M.a 13 3)) (j := 3) (q := 161) C dX8_isShaped_160 rfl (HM.ar (i := 13) (n := 260) (by decide) rfl) (pk_in 3 260 (by decide)) (pk_cl 3) rfl ?_
                      refine g_iconst (v := 1) (q := 162) C dX8_isShaped_161 (by decide) rfl ?_
                      refine g_sipush (v := 254) (q := 165) C dX8_isShaped_162 (by decide) rfl ?_
                      refine g_callSi (x := (rX8_within (M.a 13 3) 1 254)) (q := 168) (As := [.int ((M.a 13 3)), .int 1, .int 254]) C gyX8_within t_1212 t_1211 (c_X8_within_m) dX8_isShaped_165 rfl rfl rfl (Nat.le_of_ble_eq_true rfl) (Nat.le_of_ble_eq_true rfl) (Nat.le_of_ble_eq_true rfl) (Nat.le_of_ble_eq_true rfl) (Nat.le_of_ble_eq_true rfl) rfl ?_
                      suffices K168 : gG X 176 [some (.ref 122), some (.int 1), some (.int ((M.a 13 1))), some (.int ((M.a 13 2))), some (.int (((M.a 13 1) &&& 31)))] [.int (if (rX8_within (M.a 13 3) 1 254) = 0 then 0 else 1 : Int32)] hp 0 0 by
                        refine g_if_eq (t := 175) (q := 171) C dX8_isShaped_168 (by decide) rfl (fun c_168 => ?_) (fun c_168 => ?_)
                        · refine g_iconst (v := 0) (q := 176) C dX8_isShaped_175 (by decide) rfl ?_
                          rw [if_pos c_168] at K168
                          exact K168
                        · refine g_iconst (v := 1) (q := 172) C dX8_isShaped_171 (by decide) rfl ?_
                          refine g_goto (q := 176) C dX8_isShaped_172 (by decide) ?_
                          rw [if_neg c_168] at K168
                          exact K168
                      have e : rX8_isShaped_1 M = ((if (rX8_within (M.a 13 3) 1 254) = 0 then 0 else 1 : Int32)) := ((if_pos c_6).trans ((if_pos c_18).trans ((if_neg c_42).trans ((if_neg c_77).trans ((if_pos c_112).trans ((if_pos c_118).trans ((if_neg c_125).trans ((if_neg c_131).trans ((if_pos c_146).trans (if_neg c_152))))))))))
                      exact E.1 _ _ _ _ _ _ _ dX8_isShaped_176 rfl (by split <;> rfl) (Nat.le_of_ble_eq_true rfl) (Nat.le_of_ble_eq_true rfl) ⟨by rw [e], rfl⟩
                ·
                  refine g_iload_n (q := 135) C dX8_isShaped_134 rfl rfl ?_
                  suffices K135 : gG X 143 [some (.ref 122), some (.int 1), some (.int ((M.a 13 1))), some (.int ((M.a 13 2))), some (.int (((M.a 13 1) &&& 31)))] [.int (if (M.a 13 2) = 0 then 1 else 0 : Int32)] hp 0 0 by
                    refine g_if_ne (t := 142) (q := 138) C dX8_isShaped_135 (by decide) rfl (fun c_135 => ?_) (fun c_135 => ?_)
                    · refine g_iconst (v := 0) (q := 143) C dX8_isShaped_142 (by decide) rfl ?_
                      rw [if_neg c_135] at K135
                      exact K135
                    · refine g_iconst (v := 1) (q := 139) C dX8_isShaped_138 (by decide) rfl ?_
                      refine g_goto (q := 143) C dX8_isShaped_139 (by decide) ?_
                      rw [if_pos c_135] at K135
                      exact K135
                  have e : rX8_isShaped_1 M = ((if (M.a 13 2) = 0 then 1 else 0 : Int32)) := ((if_pos c_6).trans ((if_pos c_18).trans ((if_neg c_42).trans ((if_neg c_77).trans ((if_pos c_112).trans ((if_pos c_118).trans ((if_neg c_125).trans (if_pos c_131))))))))
                  exact E.1 _ _ _ _ _ _ _ dX8_isShaped_143 rfl (by split <;> rfl) (Nat.le_of_ble_eq_true rfl) (Nat.le_of_ble_eq_true rfl) ⟨by rw [e], rfl⟩
            ·
              refine g_iconst (v := 0) (q := 122) C dX8_isShaped_121 (by decide) rfl ?_
              have e : rX8_isShaped_1 M = (0) := ((if_pos c_6).trans ((if_pos c_18).trans ((if_neg c_42).trans ((if_neg c_77).trans ((if_pos c_112).trans (if_neg c_118))))))
              exact E.1 _ _ _ _ _ _ _ dX8_isShaped_122 rfl rfl (Nat.le_of_ble_eq_true rfl) (Nat.le_of_ble_eq_true rfl) ⟨by rw [e], rfl⟩
        ·
          refine g_iload_n (q := 81) C dX8_isShaped_80 rfl rfl ?_
          refine g_bipush (v := 47) (q := 83) C dX8_isShaped_81 (by decide) rfl ?_
          refine g_iand (q := 84) C dX8_isShaped_83 rfl ?_
          refine g_iconst (v := 2) (q := 85) C dX8_isShaped_84 (by decide) rfl ?_
          refine g_icmp_gt (t := 96) (q := 88) C dX8_isShaped_85 (by decide) rfl (fun c_85 => ?_) (fun c_85 => ?_)
          ·
            refine g_iconst (v := 0) (q := 97) C dX8_isShaped_96 (by decide) rfl ?_
            have e : rX8_isShaped_1 M = (0) := ((if_pos c_6).trans ((if_pos c_18).trans ((if_neg c_42).trans ((if_pos c_77).trans (if_pos c_85)))))
            exact E.1 _ _ _ _ _ _ _ dX8_isShaped_97 rfl rfl (Nat.le_of_ble_eq_true rfl) (Nat.le_of_ble_eq_true rfl) ⟨by rw [e], rfl⟩
          ·
            refine g_iload_n (q := 89) C dX8_isShaped_88 rfl rfl ?_
            suffices K89 : gG X 97 [some (.ref 122), some (.int 1), some (.int ((M.a 13 1))), some (.int ((M.a 13 2))), none] [.int (if (M.a 13 2) = 0 then 1 else 0 : Int32)] hp 0 0 by
              refine g_if_ne (t := 96) (q := 92) C dX8_isShaped_89 (by decide) rfl (fun c_89 => ?_) (fun c_89 => ?_)
              · refine g_iconst (v := 0) (q := 97) C dX8_isShaped_96 (by decide) rfl ?_
                rw [if_neg c_89] at K89
                exact K89
              · refine g_iconst (v := 1) (q := 93) C dX8_isShaped_92 (by decide) rfl ?_
                refine g_goto (q := 97) C dX8_isShaped_93 (by decide) ?_
                rw [if_pos c_89] at K89
                exact K89
            have e : rX8_isShaped_1 M = ((if (M.a 13 2) = 0 then 1 else 0 : Int32)) := ((if_pos c_6).trans ((if_pos c_18).trans ((if_neg c_42).trans ((if_pos c_77).trans (if_neg c_85)))))
            exact E.1 _ _ _ _ _ _ _ dX8_isShaped_97 rfl (by split <;> rfl) (Nat.le_of_ble_eq_true rfl) (Nat.le_of_ble_eq_true rfl) ⟨by rw [e], rfl⟩
      ·
        refine g_iload_n (q := 46) C dX8_isShaped_45 rfl rfl ?_
        refine g_bipush (v := 31) (q := 48) C dX8_isShaped_46 (by decide) rfl ?_
        refine g_iand (q := 49) C dX8_isShaped_48 rfl ?_
        refine g_if_ne (t := 71) (q := 52) C dX8_isShaped_49 (by decide) rfl (fun c_49 => ?_) (fun c_49 => ?_)
        ·
          refine g_iconst (v := 0) (q := 72) C dX8_isShaped_71 (by decide) rfl ?_
          have e : rX8_isShaped_1 M = (0) := ((if_pos c_6).trans ((if_pos c_18).trans ((if_pos c_42).trans (if_neg c_49))))
          exact E.1 _ _ _ _ _ _ _ dX8_isShaped_72 rfl rfl (Nat.le_of_ble_eq_true rfl) (Nat.le_of_ble_eq_true rfl) ⟨by rw [e], rfl⟩
        ·
          refine g_iload_n (q := 53) C dX8_isShaped_52 rfl rfl ?_
          refine g_aload_n (q := 54) C dX8_isShaped_53 rfl rfl ?_
          refine g_getfield (v := .ref 127) (q := 57) C fX8_22 dX8_isShaped_54 rfl HM.1 rfl ?_
          refine g_bipush (v := 16) (q := 59) C dX8_isShaped_57 (by decide) rfl ?_
          refine g_iload_n (q := 60) C dX8_isShaped_59 rfl rfl ?_
          refine g_imul (q := 61) C dX8_isShaped_60 rfl ?_
          refine g_iconst (v := 2) (q := 62) C dX8_isShaped_61 (by decide) rfl ?_
          refine g_iadd (q := 63) C dX8_isShaped_62 rfl ?_
          refine g_ialoadN (x := (M.a 4 18)) (j := 18) (q := 64) C dX8_isShaped_63 rfl (HM.ar (i := 4) (n := 772) (by decide) rfl) (pk_in 18 772 (by decide)) (pk_cl 18) rfl ?_
          suffices K64 : gG X 72 [some (.ref 122), some (.int 1), some (.int ((M.a 13 1))), some (.int ((M.a 13 2))), none] [.int (if (M.a 4 18) < (M.a 13 2) then 0 else 1 : Int32)] hp 0 0 by
            refine g_icmp_gt (t := 71) (q := 67) C dX8_isShaped_64 (by decide) rfl (fun c_64 => ?_) (fun c_64 => ?_)
            · refine g_iconst (v := 0) (q := 72) C dX8_isShaped_71 (by decide) rfl ?_
              rw [if_pos c_64] at K64
              exact K64
            · refine g_iconst (v := 1) (q := 68) C dX8_isShaped_67 (by decide) rfl ?_
              refine g_goto (q := 72) C dX8_isShaped_68 (by decide) ?_
              rw [if_neg c_64] at K64
              exact K64
          have e : rX8_isShaped_1 M = ((if (M.a 4 18) < (M.a 13 2) then 0 else 1 : Int32)) := ((if_pos c_6).trans ((if_pos c_18).trans ((if_pos c_42).trans (if_pos c_49))))
          exact E.1 _ _ _ _ _ _ _ dX8_isShaped_72 rfl (by split <;> rfl) (Nat.le_of_ble_eq_true rfl) (Nat.le_of_ble_eq_true rfl) ⟨by rw [e], rfl⟩
    ·
      refine g_iconst (v := 0) (q := 22) C dX8_isShaped_21 (by decide) rfl ?_
      have e : rX8_isShaped_1 M = (0) := ((if_pos c_6).trans (if_neg c_18))
      exact E.1 _ _ _ _ _ _ _ dX8_isShaped_22 rfl rfl (Nat.le_of_ble_eq_true rfl) (Nat.le_of_ble_eq_true rfl) ⟨by rw [e], rfl⟩
def rX8_howCame_1 (M : gMd) : Int32 := (if (M.f 28) = 0 then 3 else (if (M.f 30) = 0 then (if (M.f 28) = ((M.a 13 2) + 4) then (if (M.f 31) = 0 then (if (gXr (M.a 13) ((M.f 28).toNatClampNeg)) = 0 then (if (rX8_isShaped_1 M) = 0 then 2 else 0 : Int32) else 1) else 1) else 2) else 2))
set_option maxRecDepth 100000 in
set_option maxHeartbeats 4000000 in
theorem c_X8_howCame_1_m {hp : List gA} {M : gMd}  (HM : gMod hp M) (hn : gIr (M.f 28) 260) : gM yX8_howCame cX8_howCame 4 ((some .int)) 2 46 [.ref 122, .int 1] (hp) (0) (0) (fun v h => v = some (.int (rX8_howCame_1 M)) ∧ h = hp) := by
  refine gM_of (ls0 := [some (.ref 122), some (.int 1), none, none]) (by decide +kernel) (Nat.le_of_ble_eq_true rfl) rfl fun X C E => ?_
  have h60 := hn.le (by decide)
  refine g_aload_n (q := 1) C dX8_howCame_0 rfl rfl ?_
  refine g_getfield (v := .int ((M.f 28))) (q := 4) C fX8_160 dX8_howCame_1 rfl HM.1 rfl ?_
  refine g_if_ne (t := 9) (q := 7) C dX8_howCame_4 (by decide) rfl (fun c_4 => ?_) (fun c_4 => ?_)
  ·
    refine g_aload_n (q := 10) C dX8_howCame_9 rfl rfl ?_
    refine g_getfield (v := .int ((M.f 30))) (q := 13) C fX8_154 dX8_howCame_10 rfl HM.1 rfl ?_
    refine g_if_ne (t := 31) (q := 16) C dX8_howCame_13 (by decide) rfl (fun c_13 => ?_) (fun c_13 => ?_)
    ·
      refine g_iconst (v := 2) (q := 32) C dX8_howCame_31 (by decide) rfl ?_
      have e : rX8_howCame_1 M = (2) := ((if_neg c_4).trans (if_neg c_13))
      exact E.1 _ _ _ _ _ _ _ dX8_howCame_32 rfl rfl (Nat.le_of_ble_eq_true rfl) (Nat.le_of_ble_eq_true rfl) ⟨by rw [e], rfl⟩
    ·
      refine g_aload_n (q := 17) C dX8_howCame_16 rfl rfl ?_
      refine g_getfield (v := .int ((M.f 28))) (q := 20) C fX8_160 dX8_howCame_17 rfl HM.1 rfl ?_
      refine g_aload_n (q := 21) C dX8_howCame_20 rfl rfl ?_
      refine g_getfield (v := .ref 136) (q := 24) C fX8_54 dX8_howCame_21 rfl HM.1 rfl ?_
      refine g_iconst (v := 2) (q := 25) C dX8_howCame_24 (by decide) rfl ?_
      refine g_ialoadN (x := (M.a 13 2)) (j := 2) (q := 26) C dX8_howCame_25 rfl (HM.ar (i := 13) (n := 260) (by decide) rfl) (pk_in 2 260 (by decide)) (pk_cl 2) rfl ?_
      refine g_iconst (v := 4) (q := 27) C dX8_howCame_26 (by decide) rfl ?_
      refine g_iadd (q := 28) C dX8_howCame_27 rfl ?_
      refine g_icmp_eq (t := 33) (q := 31) C dX8_howCame_28 (by decide) rfl (fun c_28 => ?_) (fun c_28 => ?_)
      ·
        refine g_iconst (v := 0) (q := 34) C dX8_howCame_33 (by decide) rfl ?_
        refine g_istore_n (q := 35) C dX8_howCame_34 (Nat.le_of_ble_eq_true rfl) (by simp only [gset]; rfl) rfl ?_
        refine g_iconst (v := 0) (q := 36) C dX8_howCame_35 (by decide) rfl ?_
        refine g_istore_n (q := 37) C dX8_howCame_36 (Nat.le_of_ble_eq_true rfl) (by simp only [gset]; rfl) rfl ?_
        have LL1 : ∀ d j : Nat, j + d = (M.f 28).toNatClampNeg → gG X 37 [some (.ref 122), some (.int 1), some (.int ((gXr (M.a 13) j))), some (.int ((nI j)))] [] hp 0 0 := by
          intro d
          induction d with
          | zero =>
            intro j hj 
            obtain rfl : (M.f 28).toNatClampNeg = j := by omega
            refine g_iload_n (q := 38) C dX8_howCame_37 rfl rfl ?_
            refine g_aload_n (q := 39) C dX8_howCame_38 rfl rfl ?_
            refine g_getfield (v := .int ((M.f 28))) (q := 42) C fX8_160 dX8_howCame_39 rfl HM.1 rfl ?_
            refine g_icmp_ge_t (t := 60) C dX8_howCame_42 (by decide) (hn.t (by decide)) ?_
            refine g_aload_n (q := 61) C dX8_howCame_60 rfl rfl ?_
            refine g_getfield (v := .int ((M.f 31))) (q := 64) C fX8_157 dX8_howCame_61 rfl HM.1 rfl ?_
            refine g_if_ne (t := 71) (q := 67) C dX8_howCame_64 (by decide) rfl (fun c_64 => ?_) (fun c_64 => ?_)
            ·
              refine g_iconst (v := 1) (q := 72) C dX8_howCame_71 (by decide) rfl ?_
              have e : rX8_howCame_1 M = (1) := ((if_neg c_4).trans ((if_pos c_13).trans ((if_pos c_28).trans (if_neg c_64))))
              exact E.1 _ _ _ _ _ _ _ dX8_howCame_72 rfl rfl (Nat.le_of_ble_eq_true rfl) (Nat.le_of_ble_eq_true rfl) ⟨by rw [e], rfl⟩
            ·
              refine g_iload_n (q := 68) C dX8_howCame_67 rfl rfl ?_
              refine g_if_eq (t := 73) (q := 71) C dX8_howCame_68 (by decide) rfl (fun c_68 => ?_) (fun c_68 => ?_)
              ·
                refine g_aload_n (q := 74) C dX8_howCame_73 rfl rfl ?_
                refine g_iload_n (q := 75) C dX8_howCame_74 rfl rfl ?_
                refine g_callVi (x := (rX8_isShaped_1 M)) (q := 78) (As := [.int 1]) C gyX8_isShaped gvX8_isShaped t_1324 (c_X8_isShaped_1_m HM) dX8_howCame_75 rfl HM.1 rfl rfl rfl (Nat.le_of_ble_eq_true rfl) (Nat.le_of_ble_eq_true rfl) (Nat.le_of_ble_eq_true rfl) (Nat.le_of_ble_eq_true rfl) (Nat.le_of_ble_eq_true rfl) rfl ?_
                suffices K78 : gG X 86 [some (.ref 122), some (.int 1), some (.int ((gXr (M.a 13) ((M.f 28).toNatClampNeg)))), some (.int ((nI ((M.f 28).toNatClampNeg))))] [.int (if (rX8_isShaped_1 M) = 0 then 2 else 0 : Int32)] hp 0 0 by
                  refine g_if_eq (t := 85) (q := 81) C dX8_howCame_78 (by decide) rfl (fun c_78 => ?_) (fun c_78 => ?_)
                  · refine g_iconst (v := 2) (q := 86) C dX8_howCame_85 (by decide) rfl ?_
                    rw [if_pos c_78] at K78
                    exact K78
                  · refine g_iconst (v := 0) (q := 82) C dX8_howCame_81 (by decide) rfl ?_
                    refine g_goto (q := 86) C dX8_howCame_82 (by decide) ?_
                    rw [if_neg c_78] at K78
                    exact K78
                have e : rX8_howCame_1 M = ((if (rX8_isShaped_1 M) = 0 then 2 else 0 : Int32)) := ((if_neg c_4).trans ((if_pos c_13).trans ((if_pos c_28).trans ((if_pos c_64).trans (if_pos c_68)))))
                exact E.1 _ _ _ _ _ _ _ dX8_howCame_86 rfl rfl (Nat.le_of_ble_eq_true rfl) (Nat.le_of_ble_eq_true rfl) ⟨by rw [e], rfl⟩
              ·
                refine g_iconst (v := 1) (q := 72) C dX8_howCame_71 (by decide) rfl ?_
                have e : rX8_howCame_1 M = (1) := ((if_neg c_4).trans ((if_pos c_13).trans ((if_pos c_28).trans ((if_pos c_64).trans (if_neg c_68)))))
                exact E.1 _ _ _ _ _ _ _ dX8_howCame_72 rfl rfl (Nat.le_of_ble_eq_true rfl) (Nat.le_of_ble_eq_true rfl) ⟨by rw [e], rfl⟩
          | succ d ih =>
            intro j hj 
            refine g_iload_n (q := 38) C dX8_howCame_37 rfl rfl ?_
            refine g_aload_n (q := 39) C dX8_howCame_38 rfl rfl ?_
            refine g_getfield (v := .int ((M.f 28))) (q := 42) C fX8_160 dX8_howCame_39 rfl HM.1 rfl ?_
            refine g_icmp_ge_f (t := 60) (q := 45) C dX8_howCame_42 (by decide) rfl (hn.f (by decide) (by omega)) ?_
            refine g_iload_n (q := 46) C dX8_howCame_45 rfl rfl ?_
            refine g_aload_n (q := 47) C dX8_howCame_46 rfl rfl ?_
            refine g_getfield (v := .ref 136) (q := 50) C fX8_54 dX8_howCame_47 rfl HM.1 rfl ?_
            refine g_iload_n (q := 51) C dX8_howCame_50 rfl rfl ?_
            refine g_ialoadN (x := (M.a 13 j)) (j := j) (q := 52) C dX8_howCame_51 rfl (HM.ar (i := 13) (n := 260) (by decide) rfl) (pk_in j 260 (by omega)) (pk_cl j rfl (by omega)) rfl ?_
            refine g_ixor (q := 53) C dX8_howCame_52 rfl ?_
            refine g_istore_n (q := 54) C dX8_howCame_53 (Nat.le_of_ble_eq_true rfl) (by simp only [gset]; rfl) rfl ?_
            refine g_iinc (v := (nI (j + 1))) (q := 57) C dX8_howCame_54 rfl (nI_1 j) (by simp only [gset]; rfl) rfl ?_
            refine g_goto (q := 37) C dX8_howCame_57 (by decide) ?_
            exact ih (j + 1) (by omega) 
        exact LL1 ((M.f 28).toNatClampNeg) 0 (by omega) 
        
      ·
        refine g_iconst (v := 2) (q := 32) C dX8_howCame_31 (by decide) rfl ?_
        have e : rX8_howCame_1 M = (2) := ((if_neg c_4).trans ((if_pos c_13).trans (if_neg c_28)))
        exact E.1 _ _ _ _ _ _ _ dX8_howCame_32 rfl rfl (Nat.le_of_ble_eq_true rfl) (Nat.le_of_ble_eq_true rfl) ⟨by rw [e], rfl⟩
  ·
    refine g_iconst (v := 3) (q := 8) C dX8_howCame_7 (by decide) rfl ?_
    have e : rX8_howCame_1 M = (3) := (if_pos c_4)
    exact E.1 _ _ _ _ _ _ _ dX8_howCame_8 rfl rfl (Nat.le_of_ble_eq_true rfl) (Nat.le_of_ble_eq_true rfl) ⟨by rw [e], rfl⟩
