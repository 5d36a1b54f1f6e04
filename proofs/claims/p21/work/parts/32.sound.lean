/-! sound (by program: wip/p1/m_sound.py) -/
def gSOk (s : gSd) : Prop := s.th ≤ nI s.out.length ∧ ∃ r, 1 ≤ r ∧ r ≤ 254 ∧ s.ro = nI r
theorem gbof {ci : Int32} {J : gJr} {i n : Nat} {y : Int32} (h5 : (J.l 5).length = n) (hn : n ≤ 30) (hi : i < n) : rX7_byteOf ci J (nI i) y = jX1_byteAt J (nI i) y := by
  unfold rX7_byteOf jX1_kept
  rw [if_neg (nI_pos (by omega)), h5, if_pos (nI_lt hi (by omega))]
theorem grev {T : List Nat} {N : Nat} (h : T.length = N) : ((List.range N).map fun i => T.getD (N - 1 - i) 0).sum = T.sum := by
  have hr : T.reverse.sum = T.sum := by rw [List.sum_reverse]
  rw [← hr]
  congr 1
  refine List.ext_getElem? fun i => ?_
  rw [List.getElem?_map]
  by_cases hi : i < N
  · rw [List.getElem?_range hi, List.getElem?_reverse (by omega), h, List.getElem?_eq_getElem (by omega)]
    show some (T.getD (N - 1 - i) 0) = _
    rw [List.getD_eq_getElem?_getD, List.getElem?_eq_getElem (by omega)]; rfl
  · rw [List.getElem?_eq_none (by rw [List.length_range]; omega), List.getElem?_eq_none (by rw [List.length_reverse]; omega)]; rfl
theorem gside0 {ci : Int32} {L : gLn} {x : Int32} (hci : ¬ ci = 0) : rX7_side_0 ci L x = L.rd.tell x := if_neg hci
theorem gside1 {ci : Int32} {L : gLn} {x : Int32} (hci : ¬ ci = 0) : rX7_side_1 ci L x = L.cd.tell x := if_neg hci
theorem gtell8 {s : gSd} (h : ¬ s.tell 8 < 0) : s.tell 8 = s.tell 0 := by
  have e : s.tell 8 = if s.pe = -1 then -1 else s.nx := rfl
  rw [e] at h ⊢
  by_cases hp : s.pe = -1
  · rw [if_pos hp] at h; exact absurd (by decide) h
  · rw [if_neg hp]; rfl
theorem gin_nn {b : List Int32} (h : gByt b) {k : Nat} (hk : k < b.length) : ¬ b.getD k 0 < 0 := by
  obtain ⟨x, hx, e⟩ := h (b.getD k 0) (by rw [List.getD_eq_getElem?_getD, List.getElem?_eq_getElem hk]; exact List.getElem_mem hk)
  rw [e]; exact nI_pos (by omega)
theorem gnlt {a b : Int32} (h : a ≤ b) : ¬ b < a := by
  rw [Int32.le_iff_toInt_le] at h
  rw [Int32.lt_iff_toInt_lt]; omega
theorem dL_sound_0 : decode cL_sound 0 = .ok (.iconst 0, 1) := by decide +kernel
theorem dL_sound_1 : decode cL_sound 1 = .ok (.istore_n 1, 1) := by decide +kernel
theorem dL_sound_2 : decode cL_sound 2 = .ok (.iconst 0, 1) := by decide +kernel
theorem dL_sound_3 : decode cL_sound 3 = .ok (.istore_n 2, 1) := by decide +kernel
theorem dL_sound_4 : decode cL_sound 4 = .ok (.iconst 0, 1) := by decide +kernel
theorem dL_sound_5 : decode cL_sound 5 = .ok (.istore_n 3, 1) := by decide +kernel
theorem dL_sound_6 : decode cL_sound 6 = .ok (.iload_n 3, 1) := by decide +kernel
theorem dL_sound_7 : decode cL_sound 7 = .ok (.aload_n 0, 1) := by decide +kernel
theorem dL_sound_8 : decode cL_sound 8 = .ok (.iconst 5, 1) := by decide +kernel
theorem dL_sound_9 : decode cL_sound 9 = .ok (.invokevirtual 28, 3) := by decide +kernel
theorem dL_sound_12 : decode cL_sound 12 = .ok (.if_icmp .ge 120, 3) := by decide +kernel
theorem dL_sound_15 : decode cL_sound 15 = .ok (.iconst 0, 1) := by decide +kernel
theorem dL_sound_16 : decode cL_sound 16 = .ok (.istore 4, 2) := by decide +kernel
theorem dL_sound_18 : decode cL_sound 18 = .ok (.iconst 0, 1) := by decide +kernel
theorem dL_sound_19 : decode cL_sound 19 = .ok (.istore 5, 2) := by decide +kernel
theorem dL_sound_21 : decode cL_sound 21 = .ok (.aload_n 0, 1) := by decide +kernel
theorem dL_sound_22 : decode cL_sound 22 = .ok (.iload_n 3, 1) := by decide +kernel
theorem dL_sound_23 : decode cL_sound 23 = .ok (.iload 4, 2) := by decide +kernel
theorem dL_sound_25 : decode cL_sound 25 = .ok (.invokevirtual 31, 3) := by decide +kernel
theorem dL_sound_28 : decode cL_sound 28 = .ok (.ifCond .lt 21, 3) := by decide +kernel
theorem dL_sound_31 : decode cL_sound 31 = .ok (.iload 5, 2) := by decide +kernel
theorem dL_sound_33 : decode cL_sound 33 = .ok (.aload_n 0, 1) := by decide +kernel
theorem dL_sound_34 : decode cL_sound 34 = .ok (.iload_n 3, 1) := by decide +kernel
theorem dL_sound_35 : decode cL_sound 35 = .ok (.iload 4, 2) := by decide +kernel
theorem dL_sound_37 : decode cL_sound 37 = .ok (.invokevirtual 31, 3) := by decide +kernel
theorem dL_sound_40 : decode cL_sound 40 = .ok (.ixor, 1) := by decide +kernel
theorem dL_sound_41 : decode cL_sound 41 = .ok (.istore 5, 2) := by decide +kernel
theorem dL_sound_43 : decode cL_sound 43 = .ok (.iinc 4 1, 3) := by decide +kernel
theorem dL_sound_46 : decode cL_sound 46 = .ok (.goto (-25), 3) := by decide +kernel
theorem dL_sound_49 : decode cL_sound 49 = .ok (.iinc 2 1, 3) := by decide +kernel
theorem dL_sound_52 : decode cL_sound 52 = .ok (.iload_n 1, 1) := by decide +kernel
theorem dL_sound_53 : decode cL_sound 53 = .ok (.aload_n 0, 1) := by decide +kernel
theorem dL_sound_54 : decode cL_sound 54 = .ok (.iload_n 3, 1) := by decide +kernel
theorem dL_sound_55 : decode cL_sound 55 = .ok (.iconst 4, 1) := by decide +kernel
theorem dL_sound_56 : decode cL_sound 56 = .ok (.invokevirtual 34, 3) := by decide +kernel
theorem dL_sound_59 : decode cL_sound 59 = .ok (.iadd, 1) := by decide +kernel
theorem dL_sound_60 : decode cL_sound 60 = .ok (.istore_n 1, 1) := by decide +kernel
theorem dL_sound_61 : decode cL_sound 61 = .ok (.iload 4, 2) := by decide +kernel
theorem dL_sound_63 : decode cL_sound 63 = .ok (.aload_n 0, 1) := by decide +kernel
theorem dL_sound_64 : decode cL_sound 64 = .ok (.iload_n 3, 1) := by decide +kernel
theorem dL_sound_65 : decode cL_sound 65 = .ok (.iconst 2, 1) := by decide +kernel
theorem dL_sound_66 : decode cL_sound 66 = .ok (.invokevirtual 34, 3) := by decide +kernel
theorem dL_sound_69 : decode cL_sound 69 = .ok (.iconst 4, 1) := by decide +kernel
theorem dL_sound_70 : decode cL_sound 70 = .ok (.iadd, 1) := by decide +kernel
theorem dL_sound_71 : decode cL_sound 71 = .ok (.if_icmp .ne 53, 3) := by decide +kernel
theorem dL_sound_74 : decode cL_sound 74 = .ok (.iload 5, 2) := by decide +kernel
theorem dL_sound_76 : decode cL_sound 76 = .ok (.ifCond .ne 48, 3) := by decide +kernel
theorem dL_sound_79 : decode cL_sound 79 = .ok (.aload_n 0, 1) := by decide +kernel
theorem dL_sound_80 : decode cL_sound 80 = .ok (.iload_n 3, 1) := by decide +kernel
theorem dL_sound_81 : decode cL_sound 81 = .ok (.iconst 0, 1) := by decide +kernel
theorem dL_sound_82 : decode cL_sound 82 = .ok (.invokevirtual 31, 3) := by decide +kernel
theorem dL_sound_85 : decode cL_sound 85 = .ok (.ifCond .ne 39, 3) := by decide +kernel
theorem dL_sound_88 : decode cL_sound 88 = .ok (.aload_n 0, 1) := by decide +kernel
theorem dL_sound_89 : decode cL_sound 89 = .ok (.iload_n 3, 1) := by decide +kernel
theorem dL_sound_90 : decode cL_sound 90 = .ok (.iconst 1, 1) := by decide +kernel
theorem dL_sound_91 : decode cL_sound 91 = .ok (.invokevirtual 31, 3) := by decide +kernel
theorem dL_sound_94 : decode cL_sound 94 = .ok (.aload_n 0, 1) := by decide +kernel
theorem dL_sound_95 : decode cL_sound 95 = .ok (.iload_n 3, 1) := by decide +kernel
theorem dL_sound_96 : decode cL_sound 96 = .ok (.iconst 1, 1) := by decide +kernel
theorem dL_sound_97 : decode cL_sound 97 = .ok (.invokevirtual 34, 3) := by decide +kernel
theorem dL_sound_100 : decode cL_sound 100 = .ok (.if_icmp .ne 24, 3) := by decide +kernel
theorem dL_sound_103 : decode cL_sound 103 = .ok (.aload_n 0, 1) := by decide +kernel
theorem dL_sound_104 : decode cL_sound 104 = .ok (.iload_n 3, 1) := by decide +kernel
theorem dL_sound_105 : decode cL_sound 105 = .ok (.iconst 4, 1) := by decide +kernel
theorem dL_sound_106 : decode cL_sound 106 = .ok (.invokevirtual 34, 3) := by decide +kernel
theorem dL_sound_109 : decode cL_sound 109 = .ok (.iload 4, 2) := by decide +kernel
theorem dL_sound_111 : decode cL_sound 111 = .ok (.if_icmp .lt 13, 3) := by decide +kernel
theorem dL_sound_114 : decode cL_sound 114 = .ok (.aload_n 0, 1) := by decide +kernel
theorem dL_sound_115 : decode cL_sound 115 = .ok (.iload_n 3, 1) := by decide +kernel
theorem dL_sound_116 : decode cL_sound 116 = .ok (.iconst 5, 1) := by decide +kernel
theorem dL_sound_117 : decode cL_sound 117 = .ok (.invokevirtual 34, 3) := by decide +kernel
theorem dL_sound_120 : decode cL_sound 120 = .ok (.iconst 1, 1) := by decide +kernel
theorem dL_sound_121 : decode cL_sound 121 = .ok (.if_icmp .ge 5, 3) := by decide +kernel
theorem dL_sound_126 : decode cL_sound 126 = .ok (.iinc 3 1, 3) := by decide +kernel
theorem dL_sound_129 : decode cL_sound 129 = .ok (.goto (-123), 3) := by decide +kernel
theorem dL_sound_132 : decode cL_sound 132 = .ok (.iload_n 2, 1) := by decide +kernel
theorem dL_sound_133 : decode cL_sound 133 = .ok (.bipush 30, 2) := by decide +kernel
theorem dL_sound_135 : decode cL_sound 135 = .ok (.if_icmp .ge 31, 3) := by decide +kernel
theorem dL_sound_138 : decode cL_sound 138 = .ok (.iload_n 1, 1) := by decide +kernel
theorem dL_sound_139 : decode cL_sound 139 = .ok (.aload_n 0, 1) := by decide +kernel
theorem dL_sound_140 : decode cL_sound 140 = .ok (.iconst 0, 1) := by decide +kernel
theorem dL_sound_141 : decode cL_sound 141 = .ok (.invokevirtual 28, 3) := by decide +kernel
theorem dL_sound_144 : decode cL_sound 144 = .ok (.if_icmp .ne 45, 3) := by decide +kernel
theorem dL_sound_147 : decode cL_sound 147 = .ok (.iload_n 2, 1) := by decide +kernel
theorem dL_sound_148 : decode cL_sound 148 = .ok (.aload_n 0, 1) := by decide +kernel
theorem dL_sound_149 : decode cL_sound 149 = .ok (.iconst 0, 1) := by decide +kernel
theorem dL_sound_150 : decode cL_sound 150 = .ok (.bipush 9, 2) := by decide +kernel
theorem dL_sound_152 : decode cL_sound 152 = .ok (.invokevirtual 37, 3) := by decide +kernel
theorem dL_sound_155 : decode cL_sound 155 = .ok (.aload_n 0, 1) := by decide +kernel
theorem dL_sound_156 : decode cL_sound 156 = .ok (.iconst 1, 1) := by decide +kernel
theorem dL_sound_157 : decode cL_sound 157 = .ok (.bipush 9, 2) := by decide +kernel
theorem dL_sound_159 : decode cL_sound 159 = .ok (.invokevirtual 37, 3) := by decide +kernel
theorem dL_sound_162 : decode cL_sound 162 = .ok (.iadd, 1) := by decide +kernel
theorem dL_sound_163 : decode cL_sound 163 = .ok (.if_icmp .ne 26, 3) := by decide +kernel
theorem dL_sound_166 : decode cL_sound 166 = .ok (.aload_n 0, 1) := by decide +kernel
theorem dL_sound_167 : decode cL_sound 167 = .ok (.iconst 4, 1) := by decide +kernel
theorem dL_sound_168 : decode cL_sound 168 = .ok (.invokevirtual 28, 3) := by decide +kernel
theorem dL_sound_171 : decode cL_sound 171 = .ok (.aload_n 0, 1) := by decide +kernel
theorem dL_sound_172 : decode cL_sound 172 = .ok (.iconst 0, 1) := by decide +kernel
theorem dL_sound_173 : decode cL_sound 173 = .ok (.bipush 9, 2) := by decide +kernel
theorem dL_sound_175 : decode cL_sound 175 = .ok (.invokevirtual 37, 3) := by decide +kernel
theorem dL_sound_178 : decode cL_sound 178 = .ok (.aload_n 0, 1) := by decide +kernel
theorem dL_sound_179 : decode cL_sound 179 = .ok (.iconst 1, 1) := by decide +kernel
theorem dL_sound_180 : decode cL_sound 180 = .ok (.bipush 9, 2) := by decide +kernel
theorem dL_sound_182 : decode cL_sound 182 = .ok (.invokevirtual 37, 3) := by decide +kernel
theorem dL_sound_185 : decode cL_sound 185 = .ok (.iadd, 1) := by decide +kernel
theorem dL_sound_186 : decode cL_sound 186 = .ok (.if_icmp .le 5, 3) := by decide +kernel
theorem dL_sound_191 : decode cL_sound 191 = .ok (.iconst 0, 1) := by decide +kernel
theorem dL_sound_192 : decode cL_sound 192 = .ok (.istore_n 3, 1) := by decide +kernel
theorem dL_sound_193 : decode cL_sound 193 = .ok (.iload_n 3, 1) := by decide +kernel
theorem dL_sound_194 : decode cL_sound 194 = .ok (.iconst 2, 1) := by decide +kernel
theorem dL_sound_195 : decode cL_sound 195 = .ok (.if_icmp .ge 85, 3) := by decide +kernel
theorem dL_sound_198 : decode cL_sound 198 = .ok (.aload_n 0, 1) := by decide +kernel
theorem dL_sound_199 : decode cL_sound 199 = .ok (.iload_n 3, 1) := by decide +kernel
theorem dL_sound_200 : decode cL_sound 200 = .ok (.iconst 4, 1) := by decide +kernel
theorem dL_sound_201 : decode cL_sound 201 = .ok (.invokevirtual 37, 3) := by decide +kernel
theorem dL_sound_204 : decode cL_sound 204 = .ok (.aload_n 0, 1) := by decide +kernel
theorem dL_sound_205 : decode cL_sound 205 = .ok (.iload_n 3, 1) := by decide +kernel
theorem dL_sound_206 : decode cL_sound 206 = .ok (.iconst 3, 1) := by decide +kernel
theorem dL_sound_207 : decode cL_sound 207 = .ok (.invokevirtual 37, 3) := by decide +kernel
theorem dL_sound_210 : decode cL_sound 210 = .ok (.if_icmp .gt 62, 3) := by decide +kernel
theorem dL_sound_213 : decode cL_sound 213 = .ok (.aload_n 0, 1) := by decide +kernel
theorem dL_sound_214 : decode cL_sound 214 = .ok (.iload_n 3, 1) := by decide +kernel
theorem dL_sound_215 : decode cL_sound 215 = .ok (.bipush 8, 2) := by decide +kernel
theorem dL_sound_217 : decode cL_sound 217 = .ok (.invokevirtual 37, 3) := by decide +kernel
theorem dL_sound_220 : decode cL_sound 220 = .ok (.ifCond .lt 19, 3) := by decide +kernel
theorem dL_sound_223 : decode cL_sound 223 = .ok (.aload_n 0, 1) := by decide +kernel
theorem dL_sound_224 : decode cL_sound 224 = .ok (.iload_n 3, 1) := by decide +kernel
theorem dL_sound_225 : decode cL_sound 225 = .ok (.bipush 8, 2) := by decide +kernel
theorem dL_sound_227 : decode cL_sound 227 = .ok (.invokevirtual 37, 3) := by decide +kernel
theorem dL_sound_230 : decode cL_sound 230 = .ok (.aload_n 0, 1) := by decide +kernel
theorem dL_sound_231 : decode cL_sound 231 = .ok (.iload_n 3, 1) := by decide +kernel
theorem dL_sound_232 : decode cL_sound 232 = .ok (.iconst 0, 1) := by decide +kernel
theorem dL_sound_233 : decode cL_sound 233 = .ok (.invokevirtual 37, 3) := by decide +kernel
theorem dL_sound_236 : decode cL_sound 236 = .ok (.if_icmp .ne 36, 3) := by decide +kernel
theorem dL_sound_239 : decode cL_sound 239 = .ok (.aload_n 0, 1) := by decide +kernel
theorem dL_sound_240 : decode cL_sound 240 = .ok (.iload_n 3, 1) := by decide +kernel
theorem dL_sound_241 : decode cL_sound 241 = .ok (.iconst 5, 1) := by decide +kernel
theorem dL_sound_242 : decode cL_sound 242 = .ok (.invokevirtual 37, 3) := by decide +kernel
theorem dL_sound_245 : decode cL_sound 245 = .ok (.bipush 60, 2) := by decide +kernel
theorem dL_sound_247 : decode cL_sound 247 = .ok (.if_icmp .gt 25, 3) := by decide +kernel
theorem dL_sound_250 : decode cL_sound 250 = .ok (.aload_n 0, 1) := by decide +kernel
theorem dL_sound_251 : decode cL_sound 251 = .ok (.iload_n 3, 1) := by decide +kernel
theorem dL_sound_252 : decode cL_sound 252 = .ok (.iconst 2, 1) := by decide +kernel
theorem dL_sound_253 : decode cL_sound 253 = .ok (.invokevirtual 37, 3) := by decide +kernel
theorem dL_sound_256 : decode cL_sound 256 = .ok (.iconst 1, 1) := by decide +kernel
theorem dL_sound_257 : decode cL_sound 257 = .ok (.if_icmp .lt 15, 3) := by decide +kernel
theorem dL_sound_260 : decode cL_sound 260 = .ok (.aload_n 0, 1) := by decide +kernel
theorem dL_sound_261 : decode cL_sound 261 = .ok (.iload_n 3, 1) := by decide +kernel
theorem dL_sound_262 : decode cL_sound 262 = .ok (.iconst 2, 1) := by decide +kernel
theorem dL_sound_263 : decode cL_sound 263 = .ok (.invokevirtual 37, 3) := by decide +kernel
theorem dL_sound_266 : decode cL_sound 266 = .ok (.sipush 254, 3) := by decide +kernel
theorem dL_sound_269 : decode cL_sound 269 = .ok (.if_icmp .le 5, 3) := by decide +kernel
theorem dL_sound_274 : decode cL_sound 274 = .ok (.iinc 3 1, 3) := by decide +kernel
theorem dL_sound_277 : decode cL_sound 277 = .ok (.goto (-84), 3) := by decide +kernel
theorem dL_sound_280 : decode cL_sound 280 = .ok (.aload_n 0, 1) := by decide +kernel
theorem dL_sound_281 : decode cL_sound 281 = .ok (.iconst 3, 1) := by decide +kernel
theorem dL_sound_282 : decode cL_sound 282 = .ok (.invokevirtual 28, 3) := by decide +kernel
theorem dL_sound_285 : decode cL_sound 285 = .ok (.ifCond .lt 39, 3) := by decide +kernel
theorem dL_sound_288 : decode cL_sound 288 = .ok (.aload_n 0, 1) := by decide +kernel
theorem dL_sound_289 : decode cL_sound 289 = .ok (.iconst 3, 1) := by decide +kernel
theorem dL_sound_290 : decode cL_sound 290 = .ok (.invokevirtual 28, 3) := by decide +kernel
theorem dL_sound_293 : decode cL_sound 293 = .ok (.iconst 3, 1) := by decide +kernel
theorem dL_sound_294 : decode cL_sound 294 = .ok (.if_icmp .ge 30, 3) := by decide +kernel
theorem dL_sound_297 : decode cL_sound 297 = .ok (.aload_n 0, 1) := by decide +kernel
theorem dL_sound_298 : decode cL_sound 298 = .ok (.iconst 1, 1) := by decide +kernel
theorem dL_sound_299 : decode cL_sound 299 = .ok (.invokevirtual 28, 3) := by decide +kernel
theorem dL_sound_302 : decode cL_sound 302 = .ok (.aload_n 0, 1) := by decide +kernel
theorem dL_sound_303 : decode cL_sound 303 = .ok (.iconst 0, 1) := by decide +kernel
theorem dL_sound_304 : decode cL_sound 304 = .ok (.invokevirtual 28, 3) := by decide +kernel
theorem dL_sound_307 : decode cL_sound 307 = .ok (.if_icmp .gt 17, 3) := by decide +kernel
theorem dL_sound_310 : decode cL_sound 310 = .ok (.aload_n 0, 1) := by decide +kernel
theorem dL_sound_311 : decode cL_sound 311 = .ok (.iconst 2, 1) := by decide +kernel
theorem dL_sound_312 : decode cL_sound 312 = .ok (.invokevirtual 28, 3) := by decide +kernel
theorem dL_sound_315 : decode cL_sound 315 = .ok (.bipush 24, 2) := by decide +kernel
theorem dL_sound_317 : decode cL_sound 317 = .ok (.if_icmp .gt 7, 3) := by decide +kernel
theorem dL_sound_320 : decode cL_sound 320 = .ok (.iconst 1, 1) := by decide +kernel
theorem dL_sound_321 : decode cL_sound 321 = .ok (.goto 4, 3) := by decide +kernel
theorem dL_sound_325 : decode cL_sound 325 = .ok (.ireturn, 1) := by decide +kernel
set_option maxRecDepth 100000 in
set_option maxHeartbeats 4000000 in
theorem c_L_sound_z {hp : List gA} {fi sp : Nat} {ci : Int32} {T : List Int32} {L : gLn} {R Lt A m : Nat} {J : gJr} {q1 q2 : gRs} {Bc Bs : Nat} {N : Nat} (HO : gWo hp fi sp ci T L R Lt A m J q1 q2 Bc Bs) (hci : ¬ ci = 0) (HV : gJv J N Lt) (hN : N ≤ 15000) (hLt : Lt ≤ 1000000000) (hse : L.rd.se + L.cd.se = nI N) (hA : A ≤ Lt) (htr : ∃ k, k < 3 ∧ L.tr = nI k) (sr : gSOk L.rd) (sc : gSOk L.cd) : gM yL_sound cL_sound 6 ((some .boolean)) 3 82 [.ref 0] (hp) (0) (0) (fun v h => v = some (.int 1) ∧ h = hp) := by
  refine gM_of (ls0 := [some (.ref 0), none, none, none, none, none]) (by decide +kernel) (Nat.le_of_ble_eq_true rfl) rfl fun X C E9 => ?_
  obtain ⟨k3, hk3, ek⟩ := htr
  have hm24 : m ≤ 24 := by obtain ⟨_, _, _, _, _, _, _, _, _, h9, -⟩ := HO.w; exact h9
  have HC := HO.c
  have HL := HO.l
  have HJ := HO.j
  have HW := HO.w
  obtain ⟨E, TT, HV⟩ := HV
  have e5 := HV.2.2.2.2.2.2.1
  have htl : TT.length = min N 30 := by have h7 := HV.2.2.2.2.2.2.2.1; have h8 := HV.1.2.2.2.2.2.2.2.2; rw [h7, List.length_map] at h8; omega
  have e1 := HV.1.1
  have KE : ∀ (lt : Int32) (x4 x5 : Option Value), (N < 30 → lt = nI Lt) → gG X 132 [some (.ref 0), some (.int lt), some (.int (nI (min N 30))), some (.int (nI (min N 30))), x4, x5] [] hp 0 0 := by
    intro lt x4 x5 hlt
    refine g_iload_n (q := 133) C dL_sound_132 rfl rfl ?_
    refine g_bipush (v := 30) (q := 135) C dL_sound_133 (by decide) rfl ?_
    refine g_icmp_ge (t := 166) (q := 138) C dL_sound_135 (by decide) rfl (fun c_135 => ?_) (fun c_135 => ?_)
    ·
      refine g_aload_n (q := 167) C dL_sound_166 rfl rfl ?_
      refine g_iconst (v := 4) (q := 168) C dL_sound_167 (by decide) rfl ?_
      refine g_callVi (x := (nI (J.l 1).length)) (q := 171) (As := [.int 4]) C gyX7_count gvX7_count t_840 (c_X7_count_4_c HC HJ) dL_sound_168 rfl HC rfl rfl rfl (Nat.le_of_ble_eq_true rfl) (Nat.le_of_ble_eq_true rfl) (Nat.le_of_ble_eq_true rfl) (Nat.le_of_ble_eq_true rfl) (Nat.le_of_ble_eq_true rfl) rfl ?_
      refine g_aload_n (q := 172) C dL_sound_171 rfl rfl ?_
      refine g_iconst (v := 0) (q := 173) C dL_sound_172 (by decide) rfl ?_
      refine g_bipush (v := 9) (q := 175) C dL_sound_173 (by decide) rfl ?_
      refine g_callVi (x := (rX7_side_0 ci L 9)) (q := 178) (As := [.int 0, .int 9]) C gyX7_side gvX7_side t_828 (c_X7_side_0_c HC HL) dL_sound_175 rfl HC rfl rfl rfl (Nat.le_of_ble_eq_true rfl) (Nat.le_of_ble_eq_true rfl) (Nat.le_of_ble_eq_true rfl) (Nat.le_of_ble_eq_true rfl) (Nat.le_of_ble_eq_true rfl) rfl ?_
      refine g_aload_n (q := 179) C dL_sound_178 rfl rfl ?_
      refine g_iconst (v := 1) (q := 180) C dL_sound_179 (by decide) rfl ?_
      refine g_bipush (v := 9) (q := 182) C dL_sound_180 (by decide) rfl ?_
      refine g_callVi (x := (rX7_side_1 ci L 9)) (q := 185) (As := [.int 1, .int 9]) C gyX7_side gvX7_side t_828 (c_X7_side_1_c HC HL) dL_sound_182 rfl HC rfl rfl rfl (Nat.le_of_ble_eq_true rfl) (Nat.le_of_ble_eq_true rfl) (Nat.le_of_ble_eq_true rfl) (Nat.le_of_ble_eq_true rfl) (Nat.le_of_ble_eq_true rfl) rfl ?_
      refine g_iadd (q := 186) C dL_sound_185 rfl ?_
      refine g_icmp_le_t (t := 191) C dL_sound_186 (by decide) (by rw [gside0 hci, gside1 hci]; show nI (J.l 1).length ≤ L.rd.se + L.cd.se; rw [hse]; exact nI_le (by omega) (by omega)) ?_
      refine g_iconst (v := 0) (q := 192) C dL_sound_191 (by decide) rfl ?_
      refine g_istore_n (q := 193) C dL_sound_192 (Nat.le_of_ble_eq_true rfl) (by simp only [gset]; rfl) rfl ?_
      refine g_iload_n (q := 194) C dL_sound_193 rfl rfl ?_
      refine g_iconst (v := 2) (q := 195) C dL_sound_194 (by decide) rfl ?_
      refine g_icmp_ge_f (t := 280) (q := 198) C dL_sound_195 (by decide) rfl (by decide) ?_
      refine g_aload_n (q := 199) C dL_sound_198 rfl rfl ?_
      refine g_iload_n (q := 200) C dL_sound_199 rfl rfl ?_
      refine g_iconst (v := 4) (q := 201) C dL_sound_200 (by decide) rfl ?_
      refine g_callVi (x := (rX7_side_0 ci L 4)) (q := 204) (As := [.int 0, .int 4]) C gyX7_side gvX7_side t_828 (c_X7_side_0_c HC HL) dL_sound_201 rfl HC rfl rfl rfl (Nat.le_of_ble_eq_true rfl) (Nat.le_of_ble_eq_true rfl) (Nat.le_of_ble_eq_true rfl) (Nat.le_of_ble_eq_true rfl) (Nat.le_of_ble_eq_true rfl) rfl ?_
      refine g_aload_n (q := 205) C dL_sound_204 rfl rfl ?_
      refine g_iload_n (q := 206) C dL_sound_205 rfl rfl ?_
      refine g_iconst (v := 3) (q := 207) C dL_sound_206 (by decide) rfl ?_
      refine g_callVi (x := (rX7_side_0 ci L 3)) (q := 210) (As := [.int 0, .int 3]) C gyX7_side gvX7_side t_828 (c_X7_side_0_c HC HL) dL_sound_207 rfl HC rfl rfl rfl (Nat.le_of_ble_eq_true rfl) (Nat.le_of_ble_eq_true rfl) (Nat.le_of_ble_eq_true rfl) (Nat.le_of_ble_eq_true rfl) (Nat.le_of_ble_eq_true rfl) rfl ?_
      refine g_icmp_gt_f (t := 272) (q := 213) C dL_sound_210 (by decide) rfl (by rw [gside0 hci, gside0 hci]; exact gnlt sr.1) ?_
      refine g_aload_n (q := 214) C dL_sound_213 rfl rfl ?_
      refine g_iload_n (q := 215) C dL_sound_214 rfl rfl ?_
      refine g_bipush (v := 8) (q := 217) C dL_sound_215 (by decide) rfl ?_
      refine g_callVi (x := (rX7_side_0 ci L 8)) (q := 220) (As := [.int 0, .int 8]) C gyX7_side gvX7_side t_828 (c_X7_side_0_c HC HL) dL_sound_217 rfl HC rfl rfl rfl (Nat.le_of_ble_eq_true rfl) (Nat.le_of_ble_eq_true rfl) (Nat.le_of_ble_eq_true rfl) (Nat.le_of_ble_eq_true rfl) (Nat.le_of_ble_eq_true rfl) rfl ?_
      refine g_if_lt (t := 239) (q := 223) C dL_sound_220 (by decide) rfl (fun c_220 => ?_) (fun c_220 => ?_)
      ·
        refine g_aload_n (q := 240) C dL_sound_239 rfl rfl ?_
        refine g_iload_n (q := 241) C dL_sound_240 rfl rfl ?_
        refine g_iconst (v := 5) (q := 242) C dL_sound_241 (by decide) rfl ?_
        refine g_callVi (x := (rX7_side_0 ci L 5)) (q := 245) (As := [.int 0, .int 5]) C gyX7_side gvX7_side t_828 (c_X7_side_0_c HC HL) dL_sound_242 rfl HC rfl rfl rfl (Nat.le_of_ble_eq_true rfl) (Nat.le_of_ble_eq_true rfl) (Nat.le_of_ble_eq_true rfl) (Nat.le_of_ble_eq_true rfl) (Nat.le_of_ble_eq_true rfl) rfl ?_
        refine g_bipush (v := 60) (q := 247) C dL_sound_245 (by decide) rfl ?_
        refine g_icmp_gt_f (t := 272) (q := 250) C dL_sound_247 (by decide) rfl (by rw [gside0 hci]; exact gnlt (nI_le (show L.rd.inn.length ≤ 60 from HL.2.1.2.2.2.le.1) (by decide))) ?_
        refine g_aload_n (q := 251) C dL_sound_250 rfl rfl ?_
        refine g_iload_n (q := 252) C dL_sound_251 rfl rfl ?_
        refine g_iconst (v := 2) (q := 253) C dL_sound_252 (by decide) rfl ?_
        refine g_callVi (x := (rX7_side_0 ci L 2)) (q := 256) (As := [.int 0, .int 2]) C gyX7_side gvX7_side t_828 (c_X7_side_0_c HC HL) dL_sound_253 rfl HC rfl rfl rfl (Nat.le_of_ble_eq_true rfl) (Nat.le_of_ble_eq_true rfl) (Nat.le_of_ble_eq_true rfl) (Nat.le_of_ble_eq_true rfl) (Nat.le_of_ble_eq_true rfl) rfl ?_
        refine g_iconst (v := 1) (q := 257) C dL_sound_256 (by decide) rfl ?_
        refine g_icmp_lt_f (t := 272) (q := 260) C dL_sound_257 (by decide) rfl (by rw [gside0 hci]; show ¬ L.rd.ro < 1; obtain ⟨r, h1, h2, e⟩ := sr.2; rw [e]; exact nI_nlt (b := 1) h1 (by omega)) ?_
        refine g_aload_n (q := 261) C dL_sound_260 rfl rfl ?_
        refine g_iload_n (q := 262) C dL_sound_261 rfl rfl ?_
        refine g_iconst (v := 2) (q := 263) C dL_sound_262 (by decide) rfl ?_
        refine g_callVi (x := (rX7_side_0 ci L 2)) (q := 266) (As := [.int 0, .int 2]) C gyX7_side gvX7_side t_828 (c_X7_side_0_c HC HL) dL_sound_263 rfl HC rfl rfl rfl (Nat.le_of_ble_eq_true rfl) (Nat.le_of_ble_eq_true rfl) (Nat.le_of_ble_eq_true rfl) (Nat.le_of_ble_eq_true rfl) (Nat.le_of_ble_eq_true rfl) rfl ?_
        refine g_sipush (v := 254) (q := 269) C dL_sound_266 (by decide) rfl ?_
        refine g_icmp_le_t (t := 274) C dL_sound_269 (by decide) (by rw [gside0 hci]; show L.rd.ro ≤ 254; obtain ⟨r, h1, h2, e⟩ := sr.2; rw [e]; exact nI_le (b := 254) h2 (by decide)) ?_
        refine g_iinc (v := 1) (q := 277) C dL_sound_274 rfl (by decide) (by simp only [gset]; rfl) rfl ?_
        refine g_goto (q := 193) C dL_sound_277 (by decide) ?_
        refine g_iload_n (q := 194) C dL_sound_193 rfl rfl ?_
        refine g_iconst (v := 2) (q := 195) C dL_sound_194 (by decide) rfl ?_
        refine g_icmp_ge_f (t := 280) (q := 198) C dL_sound_195 (by decide) rfl (by decide) ?_
        refine g_aload_n (q := 199) C dL_sound_198 rfl rfl ?_
        refine g_iload_n (q := 200) C dL_sound_199 rfl rfl ?_
        refine g_iconst (v := 4) (q := 201) C dL_sound_200 (by decide) rfl ?_
        refine g_callVi (x := (rX7_side_1 ci L 4)) (q := 204) (As := [.int 1, .int 4]) C gyX7_side gvX7_side t_828 (c_X7_side_1_c HC HL) dL_sound_201 rfl HC rfl rfl rfl (Nat.le_of_ble_eq_true rfl) (Nat.le_of_ble_eq_true rfl) (Nat.le_of_ble_eq_true rfl) (Nat.le_of_ble_eq_true rfl) (Nat.le_of_ble_eq_true rfl) rfl ?_
        refine g_aload_n (q := 205) C dL_sound_204 rfl rfl ?_
        refine g_iload_n (q := 206) C dL_sound_205 rfl rfl ?_
        refine g_iconst (v := 3) (q := 207) C dL_sound_206 (by decide) rfl ?_
        refine g_callVi (x := (rX7_side_1 ci L 3)) (q := 210) (As := [.int 1, .int 3]) C gyX7_side gvX7_side t_828 (c_X7_side_1_c HC HL) dL_sound_207 rfl HC rfl rfl rfl (Nat.le_of_ble_eq_true rfl) (Nat.le_of_ble_eq_true rfl) (Nat.le_of_ble_eq_true rfl) (Nat.le_of_ble_eq_true rfl) (Nat.le_of_ble_eq_true rfl) rfl ?_
        refine g_icmp_gt_f (t := 272) (q := 213) C dL_sound_210 (by decide) rfl (by rw [gside1 hci, gside1 hci]; exact gnlt sc.1) ?_
        refine g_aload_n (q := 214) C dL_sound_213 rfl rfl ?_
        refine g_iload_n (q := 215) C dL_sound_214 rfl rfl ?_
        refine g_bipush (v := 8) (q := 217) C dL_sound_215 (by decide) rfl ?_
        refine g_callVi (x := (rX7_side_1 ci L 8)) (q := 220) (As := [.int 1, .int 8]) C gyX7_side gvX7_side t_828 (c_X7_side_1_c HC HL) dL_sound_217 rfl HC rfl rfl rfl (Nat.le_of_ble_eq_true rfl) (Nat.le_of_ble_eq_true rfl) (Nat.le_of_ble_eq_true rfl) (Nat.le_of_ble_eq_true rfl) (Nat.le_of_ble_eq_true rfl) rfl ?_
        refine g_if_lt (t := 239) (q := 223) C dL_sound_220 (by decide) rfl (fun c_220 => ?_) (fun c_220 => ?_)
        ·
          refine g_aload_n (q := 240) C dL_sound_239 rfl rfl ?_
          refine g_iload_n (q := 241) C dL_sound_240 rfl rfl ?_
          refine g_iconst (v := 5) (q := 242) C dL_sound_241 (by decide) rfl ?_
          refine g_callVi (x := (rX7_side_1 ci L 5)) (q := 245) (As := [.int 1, .int 5]) C gyX7_side gvX7_side t_828 (c_X7_side_1_c HC HL) dL_sound_242 rfl HC rfl rfl rfl (Nat.le_of_ble_eq_true rfl) (Nat.le_of_ble_eq_true rfl) (Nat.le_of_ble_eq_true rfl) (Nat.le_of_ble_eq_true rfl) (Nat.le_of_ble_eq_true rfl) rfl ?_
          refine g_bipush (v := 60) (q := 247) C dL_sound_245 (by decide) rfl ?_
          refine g_icmp_gt_f (t := 272) (q := 250) C dL_sound_247 (by decide) rfl (by rw [gside1 hci]; exact gnlt (nI_le (show L.cd.inn.length ≤ 60 from HL.2.2.1.2.2.2.le.1) (by decide))) ?_
          refine g_aload_n (q := 251) C dL_sound_250 rfl rfl ?_
          refine g_iload_n (q := 252) C dL_sound_251 rfl rfl ?_
          refine g_iconst (v := 2) (q := 253) C dL_sound_252 (by decide) rfl ?_
          refine g_callVi (x := (rX7_side_1 ci L 2)) (q := 256) (As := [.int 1, .int 2]) C gyX7_side gvX7_side t_828 (c_X7_side_1_c HC HL) dL_sound_253 rfl HC rfl rfl rfl (Nat.le_of_ble_eq_true rfl) (Nat.le_of_ble_eq_true rfl) (Nat.le_of_ble_eq_true rfl) (Nat.le_of_ble_eq_true rfl) (Nat.le_of_ble_eq_true rfl) rfl ?_
          refine g_iconst (v := 1) (q := 257) C dL_sound_256 (by decide) rfl ?_
          refine g_icmp_lt_f (t := 272) (q := 260) C dL_sound_257 (by decide) rfl (by rw [gside1 hci]; show ¬ L.cd.ro < 1; obtain ⟨r, h1, h2, e⟩ := sc.2; rw [e]; exact nI_nlt (b := 1) h1 (by omega)) ?_
          refine g_aload_n (q := 261) C dL_sound_260 rfl rfl ?_
          refine g_iload_n (q := 262) C dL_sound_261 rfl rfl ?_
          refine g_iconst (v := 2) (q := 263) C dL_sound_262 (by decide) rfl ?_
          refine g_callVi (x := (rX7_side_1 ci L 2)) (q := 266) (As := [.int 1, .int 2]) C gyX7_side gvX7_side t_828 (c_X7_side_1_c HC HL) dL_sound_263 rfl HC rfl rfl rfl (Nat.le_of_ble_eq_true rfl) (Nat.le_of_ble_eq_true rfl) (Nat.le_of_ble_eq_true rfl) (Nat.le_of_ble_eq_true rfl) (Nat.le_of_ble_eq_true rfl) rfl ?_
          refine g_sipush (v := 254) (q := 269) C dL_sound_266 (by decide) rfl ?_
          refine g_icmp_le_t (t := 274) C dL_sound_269 (by decide) (by rw [gside1 hci]; show L.cd.ro ≤ 254; obtain ⟨r, h1, h2, e⟩ := sc.2; rw [e]; exact nI_le (b := 254) h2 (by decide)) ?_
          refine g_iinc (v := 2) (q := 277) C dL_sound_274 rfl (by decide) (by simp only [gset]; rfl) rfl ?_
          refine g_goto (q := 193) C dL_sound_277 (by decide) ?_
          refine g_iload_n (q := 194) C dL_sound_193 rfl rfl ?_
          refine g_iconst (v := 2) (q := 195) C dL_sound_194 (by decide) rfl ?_
          refine g_icmp_ge_t (t := 280) C dL_sound_195 (by decide) (by decide) ?_
          refine g_aload_n (q := 281) C dL_sound_280 rfl rfl ?_
          refine g_iconst (v := 3) (q := 282) C dL_sound_281 (by decide) rfl ?_
          refine g_callVi (x := L.tr) (q := 285) (As := [.int 3]) C gyX7_count gvX7_count t_840 (c_X7_count_3_c HC HL) dL_sound_282 rfl HC rfl rfl rfl (Nat.le_of_ble_eq_true rfl) (Nat.le_of_ble_eq_true rfl) (Nat.le_of_ble_eq_true rfl) (Nat.le_of_ble_eq_true rfl) (Nat.le_of_ble_eq_true rfl) rfl ?_
          refine g_if_lt_f (t := 324) (q := 288) C dL_sound_285 (by decide) rfl (by rw [ek]; exact nI_pos (by omega)) ?_
          refine g_aload_n (q := 289) C dL_sound_288 rfl rfl ?_
          refine g_iconst (v := 3) (q := 290) C dL_sound_289 (by decide) rfl ?_
          refine g_callVi (x := L.tr) (q := 293) (As := [.int 3]) C gyX7_count gvX7_count t_840 (c_X7_count_3_c HC HL) dL_sound_290 rfl HC rfl rfl rfl (Nat.le_of_ble_eq_true rfl) (Nat.le_of_ble_eq_true rfl) (Nat.le_of_ble_eq_true rfl) (Nat.le_of_ble_eq_true rfl) (Nat.le_of_ble_eq_true rfl) rfl ?_
          refine g_iconst (v := 3) (q := 294) C dL_sound_293 (by decide) rfl ?_
          refine g_icmp_ge_f (t := 324) (q := 297) C dL_sound_294 (by decide) rfl (by rw [ek]; exact nI_ge (b := 3) hk3 (by decide)) ?_
          refine g_aload_n (q := 298) C dL_sound_297 rfl rfl ?_
          refine g_iconst (v := 1) (q := 299) C dL_sound_298 (by decide) rfl ?_
          refine g_callVi (x := (nI A)) (q := 302) (As := [.int 1]) C gyX7_count gvX7_count t_840 (c_X7_count_1_c HC HL HW) dL_sound_299 rfl HC rfl rfl rfl (Nat.le_of_ble_eq_true rfl) (Nat.le_of_ble_eq_true rfl) (Nat.le_of_ble_eq_true rfl) (Nat.le_of_ble_eq_true rfl) (Nat.le_of_ble_eq_true rfl) rfl ?_
          refine g_aload_n (q := 303) C dL_sound_302 rfl rfl ?_
          refine g_iconst (v := 0) (q := 304) C dL_sound_303 (by decide) rfl ?_
          refine g_callVi (x := (nI Lt)) (q := 307) (As := [.int 0]) C gyX7_count gvX7_count t_840 (c_X7_count_0_c HC HL HW) dL_sound_304 rfl HC rfl rfl rfl (Nat.le_of_ble_eq_true rfl) (Nat.le_of_ble_eq_true rfl) (Nat.le_of_ble_eq_true rfl) (Nat.le_of_ble_eq_true rfl) (Nat.le_of_ble_eq_true rfl) rfl ?_
          refine g_icmp_gt_f (t := 324) (q := 310) C dL_sound_307 (by decide) rfl (gnlt (nI_le hA (by omega))) ?_
          refine g_aload_n (q := 311) C dL_sound_310 rfl rfl ?_
          refine g_iconst (v := 2) (q := 312) C dL_sound_311 (by decide) rfl ?_
          refine g_callVi (x := (nI m)) (q := 315) (As := [.int 2]) C gyX7_count gvX7_count t_840 (c_X7_count_2_c HC HL HW) dL_sound_312 rfl HC rfl rfl rfl (Nat.le_of_ble_eq_true rfl) (Nat.le_of_ble_eq_true rfl) (Nat.le_of_ble_eq_true rfl) (Nat.le_of_ble_eq_true rfl) (Nat.le_of_ble_eq_true rfl) rfl ?_
          refine g_bipush (v := 24) (q := 317) C dL_sound_315 (by decide) rfl ?_
          refine g_icmp_gt_f (t := 324) (q := 320) C dL_sound_317 (by decide) rfl (gnlt (nI_le (b := 24) hm24 (by decide))) ?_
          refine g_iconst (v := 1) (q := 321) C dL_sound_320 (by decide) rfl ?_
          refine g_goto (q := 325) C dL_sound_321 (by decide) ?_
          exact E9.1 _ _ _ _ _ _ _ dL_sound_325 rfl rfl (Nat.le_of_ble_eq_true rfl) (Nat.le_of_ble_eq_true rfl) ⟨rfl, rfl⟩
        ·
          refine g_aload_n (q := 224) C dL_sound_223 rfl rfl ?_
          refine g_iload_n (q := 225) C dL_sound_224 rfl rfl ?_
          refine g_bipush (v := 8) (q := 227) C dL_sound_225 (by decide) rfl ?_
          refine g_callVi (x := (rX7_side_1 ci L 8)) (q := 230) (As := [.int 1, .int 8]) C gyX7_side gvX7_side t_828 (c_X7_side_1_c HC HL) dL_sound_227 rfl HC rfl rfl rfl (Nat.le_of_ble_eq_true rfl) (Nat.le_of_ble_eq_true rfl) (Nat.le_of_ble_eq_true rfl) (Nat.le_of_ble_eq_true rfl) (Nat.le_of_ble_eq_true rfl) rfl ?_
          refine g_aload_n (q := 231) C dL_sound_230 rfl rfl ?_
          refine g_iload_n (q := 232) C dL_sound_231 rfl rfl ?_
          refine g_iconst (v := 0) (q := 233) C dL_sound_232 (by decide) rfl ?_
          refine g_callVi (x := (rX7_side_1 ci L 0)) (q := 236) (As := [.int 1, .int 0]) C gyX7_side gvX7_side t_828 (c_X7_side_1_c HC HL) dL_sound_233 rfl HC rfl rfl rfl (Nat.le_of_ble_eq_true rfl) (Nat.le_of_ble_eq_true rfl) (Nat.le_of_ble_eq_true rfl) (Nat.le_of_ble_eq_true rfl) (Nat.le_of_ble_eq_true rfl) rfl ?_
          refine g_icmp_ne_f (t := 272) (q := 239) C dL_sound_236 (by decide) rfl (by rw [gside1 hci] at c_220; rw [gside1 hci, gside1 hci]; exact gtell8 c_220) ?_
          refine g_aload_n (q := 240) C dL_sound_239 rfl rfl ?_
          refine g_iload_n (q := 241) C dL_sound_240 rfl rfl ?_
          refine g_iconst (v := 5) (q := 242) C dL_sound_241 (by decide) rfl ?_
          refine g_callVi (x := (rX7_side_1 ci L 5)) (q := 245) (As := [.int 1, .int 5]) C gyX7_side gvX7_side t_828 (c_X7_side_1_c HC HL) dL_sound_242 rfl HC rfl rfl rfl (Nat.le_of_ble_eq_true rfl) (Nat.le_of_ble_eq_true rfl) (Nat.le_of_ble_eq_true rfl) (Nat.le_of_ble_eq_true rfl) (Nat.le_of_ble_eq_true rfl) rfl ?_
          refine g_bipush (v := 60) (q := 247) C dL_sound_245 (by decide) rfl ?_
          refine g_icmp_gt_f (t := 272) (q := 250) C dL_sound_247 (by decide) rfl (by rw [gside1 hci]; exact gnlt (nI_le (show L.cd.inn.length ≤ 60 from HL.2.2.1.2.2.2.le.1) (by decide))) ?_
          refine g_aload_n (q := 251) C dL_sound_250 rfl rfl ?_
          refine g_iload_n (q := 252) C dL_sound_251 rfl rfl ?_
          refine g_iconst (v := 2) (q := 253) C dL_sound_252 (by decide) rfl ?_
          refine g_callVi (x := (rX7_side_1 ci L 2)) (q := 256) (As := [.int 1, .int 2]) C gyX7_side gvX7_side t_828 (c_X7_side_1_c HC HL) dL_sound_253 rfl HC rfl rfl rfl (Nat.le_of_ble_eq_true rfl) (Nat.le_of_ble_eq_true rfl) (Nat.le_of_ble_eq_true rfl) (Nat.le_of_ble_eq_true rfl) (Nat.le_of_ble_eq_true rfl) rfl ?_
          refine g_iconst (v := 1) (q := 257) C dL_sound_256 (by decide) rfl ?_
          refine g_icmp_lt_f (t := 272) (q := 260) C dL_sound_257 (by decide) rfl (by rw [gside1 hci]; show ¬ L.cd.ro < 1; obtain ⟨r, h1, h2, e⟩ := sc.2; rw [e]; exact nI_nlt (b := 1) h1 (by omega)) ?_
          refine g_aload_n (q := 261) C dL_sound_260 rfl rfl ?_
          refine g_iload_n (q := 262) C dL_sound_261 rfl rfl ?_
          refine g_iconst (v := 2) (q := 263) C dL_sound_262 (by decide) rfl ?_
          refine g_callVi (x := (rX7_side_1 ci L 2)) (q := 266) (As := [.int 1, .int 2]) C gyX7_side gvX7_side t_828 (c_X7_side_1_c HC HL) dL_sound_263 rfl HC rfl rfl rfl (Nat.le_of_ble_eq_true rfl) (Nat.le_of_ble_eq_true rfl) (Nat.le_of_ble_eq_true rfl) (Nat.le_of_ble_eq_true rfl) (Nat.le_of_ble_eq_true rfl) rfl ?_
          refine g_sipush (v := 254) (q := 269) C dL_sound_266 (by decide) rfl ?_
          refine g_icmp_le_t (t := 274) C dL_sound_269 (by decide) (by rw [gside1 hci]; show L.cd.ro ≤ 254; obtain ⟨r, h1, h2, e⟩ := sc.2; rw [e]; exact nI_le (b := 254) h2 (by decide)) ?_
          refine g_iinc (v := 2) (q := 277) C dL_sound_274 rfl (by decide) (by simp only [gset]; rfl) rfl ?_
          refine g_goto (q := 193) C dL_sound_277 (by decide) ?_
          refine g_iload_n (q := 194) C dL_sound_193 rfl rfl ?_
          refine g_iconst (v := 2) (q := 195) C dL_sound_194 (by decide) rfl ?_
          refine g_icmp_ge_t (t := 280) C dL_sound_195 (by decide) (by decide) ?_
          refine g_aload_n (q := 281) C dL_sound_280 rfl rfl ?_
          refine g_iconst (v := 3) (q := 282) C dL_sound_281 (by decide) rfl ?_
          refine g_callVi (x := L.tr) (q := 285) (As := [.int 3]) C gyX7_count gvX7_count t_840 (c_X7_count_3_c HC HL) dL_sound_282 rfl HC rfl rfl rfl (Nat.le_of_ble_eq_true rfl) (Nat.le_of_ble_eq_true rfl) (Nat.le_of_ble_eq_true rfl) (Nat.le_of_ble_eq_true rfl) (Nat.le_of_ble_eq_true rfl) rfl ?_
          refine g_if_lt_f (t := 324) (q := 288) C dL_sound_285 (by decide) rfl (by rw [ek]; exact nI_pos (by omega)) ?_
          refine g_aload_n (q := 289) C dL_sound_288 rfl rfl ?_
          refine g_iconst (v := 3) (q := 290) C dL_sound_289 (by decide) rfl ?_
          refine g_callVi (x := L.tr) (q := 293) (As := [.int 3]) C gyX7_count gvX7_count t_840 (c_X7_count_3_c HC HL) dL_sound_290 rfl HC rfl rfl rfl (Nat.le_of_ble_eq_true rfl) (Nat.le_of_ble_eq_true rfl) (Nat.le_of_ble_eq_true rfl) (Nat.le_of_ble_eq_true rfl) (Nat.le_of_ble_eq_true rfl) rfl ?_
          refine g_iconst (v := 3) (q := 294) C dL_sound_293 (by decide) rfl ?_
          refine g_icmp_ge_f (t := 324) (q := 297) C dL_sound_294 (by decide) rfl (by rw [ek]; exact nI_ge (b := 3) hk3 (by decide)) ?_
          refine g_aload_n (q := 298) C dL_sound_297 rfl rfl ?_
          refine g_iconst (v := 1) (q := 299) C dL_sound_298 (by decide) rfl ?_
          refine g_callVi (x := (nI A)) (q := 302) (As := [.int 1]) C gyX7_count gvX7_count t_840 (c_X7_count_1_c HC HL HW) dL_sound_299 rfl HC rfl rfl rfl (Nat.le_of_ble_eq_true rfl) (Nat.le_of_ble_eq_true rfl) (Nat.le_of_ble_eq_true rfl) (Nat.le_of_ble_eq_true rfl) (Nat.le_of_ble_eq_true rfl) rfl ?_
          refine g_aload_n (q := 303) C dL_sound_302 rfl rfl ?_
          refine g_iconst (v := 0) (q := 304) C dL_sound_303 (by decide) rfl ?_
          refine g_callVi (x := (nI Lt)) (q := 307) (As := [.int 0]) C gyX7_count gvX7_count t_840 (c_X7_count_0_c HC HL HW) dL_sound_304 rfl HC rfl rfl rfl (Nat.le_of_ble_eq_true rfl) (Nat.le_of_ble_eq_true rfl) (Nat.le_of_ble_eq_true rfl) (Nat.le_of_ble_eq_true rfl) (Nat.le_of_ble_eq_true rfl) rfl ?_
          refine g_icmp_gt_f (t := 324) (q := 310) C dL_sound_307 (by decide) rfl (gnlt (nI_le hA (by omega))) ?_
          refine g_aload_n (q := 311) C dL_sound_310 rfl rfl ?_
          refine g_iconst (v := 2) (q := 312) C dL_sound_311 (by decide) rfl ?_
          refine g_callVi (x := (nI m)) (q := 315) (As := [.int 2]) C gyX7_count gvX7_count t_840 (c_X7_count_2_c HC HL HW) dL_sound_312 rfl HC rfl rfl rfl (Nat.le_of_ble_eq_true rfl) (Nat.le_of_ble_eq_true rfl) (Nat.le_of_ble_eq_true rfl) (Nat.le_of_ble_eq_true rfl) (Nat.le_of_ble_eq_true rfl) rfl ?_
          refine g_bipush (v := 24) (q := 317) C dL_sound_315 (by decide) rfl ?_
          refine g_icmp_gt_f (t := 324) (q := 320) C dL_sound_317 (by decide) rfl (gnlt (nI_le (b := 24) hm24 (by decide))) ?_
          refine g_iconst (v := 1) (q := 321) C dL_sound_320 (by decide) rfl ?_
          refine g_goto (q := 325) C dL_sound_321 (by decide) ?_
          exact E9.1 _ _ _ _ _ _ _ dL_sound_325 rfl rfl (Nat.le_of_ble_eq_true rfl) (Nat.le_of_ble_eq_true rfl) ⟨rfl, rfl⟩
      ·
        refine g_aload_n (q := 224) C dL_sound_223 rfl rfl ?_
        refine g_iload_n (q := 225) C dL_sound_224 rfl rfl ?_
        refine g_bipush (v := 8) (q := 227) C dL_sound_225 (by decide) rfl ?_
        refine g_callVi (x := (rX7_side_0 ci L 8)) (q := 230) (As := [.int 0, .int 8]) C gyX7_side gvX7_side t_828 (c_X7_side_0_c HC HL) dL_sound_227 rfl HC rfl rfl rfl (Nat.le_of_ble_eq_true rfl) (Nat.le_of_ble_eq_true rfl) (Nat.le_of_ble_eq_true rfl) (Nat.le_of_ble_eq_true rfl) (Nat.le_of_ble_eq_true rfl) rfl ?_
        refine g_aload_n (q := 231) C dL_sound_230 rfl rfl ?_
        refine g_iload_n (q := 232) C dL_sound_231 rfl rfl ?_
        refine g_iconst (v := 0) (q := 233) C dL_sound_232 (by decide) rfl ?_
        refine g_callVi (x := (rX7_side_0 ci L 0)) (q := 236) (As := [.int 0, .int 0]) C gyX7_side gvX7_side t_828 (c_X7_side_0_c HC HL) dL_sound_233 rfl HC rfl rfl rfl (Nat.le_of_ble_eq_true rfl) (Nat.le_of_ble_eq_true rfl) (Nat.le_of_ble_eq_true rfl) (Nat.le_of_ble_eq_true rfl) (Nat.le_of_ble_eq_true rfl) rfl ?_
        refine g_icmp_ne_f (t := 272) (q := 239) C dL_sound_236 (by decide) rfl (by rw [gside0 hci] at c_220; rw [gside0 hci, gside0 hci]; exact gtell8 c_220) ?_
        refine g_aload_n (q := 240) C dL_sound_239 rfl rfl ?_
        refine g_iload_n (q := 241) C dL_sound_240 rfl rfl ?_
        refine g_iconst (v := 5) (q := 242) C dL_sound_241 (by decide) rfl ?_
        refine g_callVi (x := (rX7_side_0 ci L 5)) (q := 245) (As := [.int 0, .int 5]) C gyX7_side gvX7_side t_828 (c_X7_side_0_c HC HL) dL_sound_242 rfl HC rfl rfl rfl (Nat.le_of_ble_eq_true rfl) (Nat.le_of_ble_eq_true rfl) (Nat.le_of_ble_eq_true rfl) (Nat.le_of_ble_eq_true rfl) (Nat.le_of_ble_eq_true rfl) rfl ?_
        refine g_bipush (v := 60) (q := 247) C dL_sound_245 (by decide) rfl ?_
        refine g_icmp_gt_f (t := 272) (q := 250) C dL_sound_247 (by decide) rfl (by rw [gside0 hci]; exact gnlt (nI_le (show L.rd.inn.length ≤ 60 from HL.2.1.2.2.2.le.1) (by decide))) ?_
        refine g_aload_n (q := 251) C dL_sound_250 rfl rfl ?_
        refine g_iload_n (q := 252) C dL_sound_251 rfl rfl ?_
        refine g_iconst (v := 2) (q := 253) C dL_sound_252 (by decide) rfl ?_
        refine g_callVi (x := (rX7_side_0 ci L 2)) (q := 256) (As := [.int 0, .int 2]) C gyX7_side gvX7_side t_828 (c_X7_side_0_c HC HL) dL_sound_253 rfl HC rfl rfl rfl (Nat.le_of_ble_eq_true rfl) (Nat.le_of_ble_eq_true rfl) (Nat.le_of_ble_eq_true rfl) (Nat.le_of_ble_eq_true rfl) (Nat.le_of_ble_eq_true rfl) rfl ?_
        refine g_iconst (v := 1) (q := 257) C dL_sound_256 (by decide) rfl ?_
        refine g_icmp_lt_f (t := 272) (q := 260) C dL_sound_257 (by decide) rfl (by rw [gside0 hci]; show ¬ L.rd.ro < 1; obtain ⟨r, h1, h2, e⟩ := sr.2; rw [e]; exact nI_nlt (b := 1) h1 (by omega)) ?_
        refine g_aload_n (q := 261) C dL_sound_260 rfl rfl ?_
        refine g_iload_n (q := 262) C dL_sound_261 rfl rfl ?_
        refine g_iconst (v := 2) (q := 263) C dL_sound_262 (by decide) rfl ?_
        refine g_callVi (x := (rX7_side_0 ci L 2)) (q := 266) (As := [.int 0, .int 2]) C gyX7_side gvX7_side t_828 (c_X7_side_0_c HC HL) dL_sound_263 rfl HC rfl rfl rfl (Nat.le_of_ble_eq_true rfl) (Nat.le_of_ble_eq_true rfl) (Nat.le_of_ble_eq_true rfl) (Nat.le_of_ble_eq_true rfl) (Nat.le_of_ble_eq_true rfl) rfl ?_
        refine g_sipush (v := 254) (q := 269) C dL_sound_266 (by decide) rfl ?_
        refine g_icmp_le_t (t := 274) C dL_sound_269 (by decide) (by rw [gside0 hci]; show L.rd.ro ≤ 254; obtain ⟨r, h1, h2, e⟩ := sr.2; rw [e]; exact nI_le (b := 254) h2 (by decide)) ?_
        refine g_iinc (v := 1) (q := 277) C dL_sound_274 rfl (by decide) (by simp only [gset]; rfl) rfl ?_
        refine g_goto (q := 193) C dL_sound_277 (by decide) ?_
        refine g_iload_n (q := 194) C dL_sound_193 rfl rfl ?_
        refine g_iconst (v := 2) (q := 195) C dL_sound_194 (by decide) rfl ?_
        refine g_icmp_ge_f (t := 280) (q := 198) C dL_sound_195 (by decide) rfl (by decide) ?_
        refine g_aload_n (q := 199) C dL_sound_198 rfl rfl ?_
        refine g_iload_n (q := 200) C dL_sound_199 rfl rfl ?_
        refine g_iconst (v := 4) (q := 201) C dL_sound_200 (by decide) rfl ?_
        refine g_callVi (x := (rX7_side_1 ci L 4)) (q := 204) (As := [.int 1, .int 4]) C gyX7_side gvX7_side t_828 (c_X7_side_1_c HC HL) dL_sound_201 rfl HC rfl rfl rfl (Nat.le_of_ble_eq_true rfl) (Nat.le_of_ble_eq_true rfl) (Nat.le_of_ble_eq_true rfl) (Nat.le_of_ble_eq_true rfl) (Nat.le_of_ble_eq_true rfl) rfl ?_
        refine g_aload_n (q := 205) C dL_sound_204 rfl rfl ?_
        refine g_iload_n (q := 206) C dL_sound_205 rfl rfl ?_
        refine g_iconst (v := 3) (q := 207) C dL_sound_206 (by decide) rfl ?_
        refine g_callVi (x := (rX7_side_1 ci L 3)) (q := 210) (As := [.int 1, .int 3]) C gyX7_side gvX7_side t_828 (c_X7_side_1_c HC HL) dL_sound_207 rfl HC rfl rfl rfl (Nat.le_of_ble_eq_true rfl) (Nat.le_of_ble_eq_true rfl) (Nat.le_of_ble_eq_true rfl) (Nat.le_of_ble_eq_true rfl) (Nat.le_of_ble_eq_true rfl) rfl ?_
        refine g_icmp_gt_f (t := 272) (q := 213) C dL_sound_210 (by decide) rfl (by rw [gside1 hci, gside1 hci]; exact gnlt sc.1) ?_
        refine g_aload_n (q := 214) C dL_sound_213 rfl rfl ?_
        refine g_iload_n (q := 215) C dL_sound_214 rfl rfl ?_
        refine g_bipush (v := 8) (q := 217) C dL_sound_215 (by decide) rfl ?_
        refine g_callVi (x := (rX7_side_1 ci L 8)) (q := 220) (As := [.int 1, .int 8]) C gyX7_side gvX7_side t_828 (c_X7_side_1_c HC HL) dL_sound_217 rfl HC rfl rfl rfl (Nat.le_of_ble_eq_true rfl) (Nat.le_of_ble_eq_true rfl) (Nat.le_of_ble_eq_true rfl) (Nat.le_of_ble_eq_true rfl) (Nat.le_of_ble_eq_true rfl) rfl ?_
        refine g_if_lt (t := 239) (q := 223) C dL_sound_220 (by decide) rfl (fun c_220 => ?_) (fun c_220 => ?_)
        ·
          refine g_aload_n (q := 240) C dL_sound_239 rfl rfl ?_
          refine g_iload_n (q := 241) C dL_sound_240 rfl rfl ?_
          refine g_iconst (v := 5) (q := 242) C dL_sound_241 (by decide) rfl ?_
          refine g_callVi (x := (rX7_side_1 ci L 5)) (q := 245) (As := [.int 1, .int 5]) C gyX7_side gvX7_side t_828 (c_X7_side_1_c HC HL) dL_sound_242 rfl HC rfl rfl rfl (Nat.le_of_ble_eq_true rfl) (Nat.le_of_ble_eq_true rfl) (Nat.le_of_ble_eq_true rfl) (Nat.le_of_ble_eq_true rfl) (Nat.le_of_ble_eq_true rfl) rfl ?_
          refine g_bipush (v := 60) (q := 247) C dL_sound_245 (by decide) rfl ?_
          refine g_icmp_gt_f (t := 272) (q := 250) C dL_sound_247 (by decide) rfl (by rw [gside1 hci]; exact gnlt (nI_le (show L.cd.inn.length ≤ 60 from HL.2.2.1.2.2.2.le.1) (by decide))) ?_
          refine g_aload_n (q := 251) C dL_sound_250 rfl rfl ?_
          refine g_iload_n (q := 252) C dL_sound_251 rfl rfl ?_
          refine g_iconst (v := 2) (q := 253) C dL_sound_252 (by decide) rfl ?_
          refine g_callVi (x := (rX7_side_1 ci L 2)) (q := 256) (As := [.int 1, .int 2]) C gyX7_side gvX7_side t_828 (c_X7_side_1_c HC HL) dL_sound_253 rfl HC rfl rfl rfl (Nat.le_of_ble_eq_true rfl) (Nat.le_of_ble_eq_true rfl) (Nat.le_of_ble_eq_true rfl) (Nat.le_of_ble_eq_true rfl) (Nat.le_of_ble_eq_true rfl) rfl ?_
          refine g_iconst (v := 1) (q := 257) C dL_sound_256 (by decide) rfl ?_
          refine g_icmp_lt_f (t := 272) (q := 260) C dL_sound_257 (by decide) rfl (by rw [gside1 hci]; show ¬ L.cd.ro < 1; obtain ⟨r, h1, h2, e⟩ := sc.2; rw [e]; exact nI_nlt (b := 1) h1 (by omega)) ?_
          refine g_aload_n (q := 261) C dL_sound_260 rfl rfl ?_
          refine g_iload_n (q := 262) C dL_sound_261 rfl rfl ?_
          refine g_iconst (v := 2) (q := 263) C dL_sound_262 (by decide) rfl ?_
          refine g_callVi (x := (rX7_side_1 ci L 2)) (q := 266) (As := [.int 1, .int 2]) C gyX7_side gvX7_side t_828 (c_X7_side_1_c HC HL) dL_sound_263 rfl HC rfl rfl rfl (Nat.le_of_ble_eq_true rfl) (Nat.le_of_ble_eq_true rfl) (Nat.le_of_ble_eq_true rfl) (Nat.le_of_ble_eq_true rfl) (Nat.le_of_ble_eq_true rfl) rfl ?_
          refine g_sipush (v := 254) (q := 269) C dL_sound_266 (by decide) rfl ?_
          refine g_icmp_le_t (t := 274) C dL_sound_269 (by decide) (by rw [gside1 hci]; show L.cd.ro ≤ 254; obtain ⟨r, h1, h2, e⟩ := sc.2; rw [e]; exact nI_le (b := 254) h2 (by decide)) ?_
          refine g_iinc (v := 2) (q := 277) C dL_sound_274 rfl (by decide) (by simp only [gset]; rfl) rfl ?_
          refine g_goto (q := 193) C dL_sound_277 (by decide) ?_
          refine g_iload_n (q := 194) C dL_sound_193 rfl rfl ?_
          refine g_iconst (v := 2) (q := 195) C dL_sound_194 (by decide) rfl ?_
          refine g_icmp_ge_t (t := 280) C dL_sound_195 (by decide) (by decide) ?_
          refine g_aload_n (q := 281) C dL_sound_280 rfl rfl ?_
          refine g_iconst (v := 3) (q := 282) C dL_sound_281 (by decide) rfl ?_
          refine g_callVi (x := L.tr) (q := 285) (As := [.int 3]) C gyX7_count gvX7_count t_840 (c_X7_count_3_c HC HL) dL_sound_282 rfl HC rfl rfl rfl (Nat.le_of_ble_eq_true rfl) (Nat.le_of_ble_eq_true rfl) (Nat.le_of_ble_eq_true rfl) (Nat.le_of_ble_eq_true rfl) (Nat.le_of_ble_eq_true rfl) rfl ?_
          refine g_if_lt_f (t := 324) (q := 288) C dL_sound_285 (by decide) rfl (by rw [ek]; exact nI_pos (by omega)) ?_
          refine g_aload_n (q := 289) C dL_sound_288 rfl rfl ?_
          refine g_iconst (v := 3) (q := 290) C dL_sound_289 (by decide) rfl ?_
          refine g_callVi (x := L.tr) (q := 293) (As := [.int 3]) C gyX7_count gvX7_count t_840 (c_X7_count_3_c HC HL) dL_sound_290 rfl HC rfl rfl rfl (Nat.le_of_ble_eq_true rfl) (Nat.le_of_ble_eq_true rfl) (Nat.le_of_ble_eq_true rfl) (Nat.le_of_ble_eq_true rfl) (Nat.le_of_ble_eq_true rfl) rfl ?_
          refine g_iconst (v := 3) (q := 294) C dL_sound_293 (by decide) rfl ?_
          refine g_icmp_ge_f (t := 324) (q := 297) C dL_sound_294 (by decide) rfl (by rw [ek]; exact nI_ge (b := 3) hk3 (by decide)) ?_
          refine g_aload_n (q := 298) C dL_sound_297 rfl rfl ?_
          refine g_iconst (v := 1) (q := 299) C dL_sound_298 (by decide) rfl ?_
          refine g_callVi (x := (nI A)) (q := 302) (As := [.int 1]) C gyX7_count gvX7_count t_840 (c_X7_count_1_c HC HL HW) dL_sound_299 rfl HC rfl rfl rfl (Nat.le_of_ble_eq_true rfl) (Nat.le_of_ble_eq_true rfl) (Nat.le_of_ble_eq_true rfl) (Nat.le_of_ble_eq_true rfl) (Nat.le_of_ble_eq_true rfl) rfl ?_
          refine g_aload_n (q := 303) C dL_sound_302 rfl rfl ?_
          refine g_iconst (v := 0) (q := 304) C dL_sound_303 (by decide) rfl ?_
          refine g_callVi (x := (nI Lt)) (q := 307) (As := [.int 0]) C gyX7_count gvX7_count t_840 (c_X7_count_0_c HC HL HW) dL_sound_304 rfl HC rfl rfl rfl (Nat.le_of_ble_eq_true rfl) (Nat.le_of_ble_eq_true rfl) (Nat.le_of_ble_eq_true rfl) (Nat.le_of_ble_eq_true rfl) (Nat.le_of_ble_eq_true rfl) rfl ?_
          refine g_icmp_gt_f (t := 324) (q := 310) C dL_sound_307 (by decide) rfl (gnlt (nI_le hA (by omega))) ?_
          refine g_aload_n (q := 311) C dL_sound_310 rfl rfl ?_
          refine g_iconst (v := 2) (q := 312) C dL_sound_311 (by decide) rfl ?_
          refine g_callVi (x := (nI m)) (q := 315) (As := [.int 2]) C gyX7_count gvX7_count t_840 (c_X7_count_2_c HC HL HW) dL_sound_312 rfl HC rfl rfl rfl (Nat.le_of_ble_eq_true rfl) (Nat.le_of_ble_eq_true rfl) (Nat.le_of_ble_eq_true rfl) (Nat.le_of_ble_eq_true rfl) (Nat.le_of_ble_eq_true rfl) rfl ?_
          refine g_bipush (v := 24) (q := 317) C dL_sound_315 (by decide) rfl ?_
          refine g_icmp_gt_f (t := 324) (q := 320) C dL_sound_317 (by decide) rfl (gnlt (nI_le (b := 24) hm24 (by decide))) ?_
          refine g_iconst (v := 1) (q := 321) C dL_sound_320 (by decide) rfl ?_
          refine g_goto (q := 325) C dL_sound_321 (by decide) ?_
          exact E9.1 _ _ _ _ _ _ _ dL_sound_325 rfl rfl (Nat.le_of_ble_eq_true rfl) (Nat.le_of_ble_eq_true rfl) ⟨rfl, rfl⟩
        ·
          refine g_aload_n (q := 224) C dL_sound_223 rfl rfl ?_
          refine g_iload_n (q := 225) C dL_sound_224 rfl rfl ?_
          refine g_bipush (v := 8) (q := 227) C dL_sound_225 (by decide) rfl ?_
          refine g_callVi (x := (rX7_side_1 ci L 8)) (q := 230) (As := [.int 1, .int 8]) C gyX7_side gvX7_side t_828 (c_X7_side_1_c HC HL) dL_sound_227 rfl HC rfl rfl rfl (Nat.le_of_ble_eq_true rfl) (Nat.le_of_ble_eq_true rfl) (Nat.le_of_ble_eq_true rfl) (Nat.le_of_ble_eq_true rfl) (Nat.le_of_ble_eq_true rfl) rfl ?_
          refine g_aload_n (q := 231) C dL_sound_230 rfl rfl ?_
          refine g_iload_n (q := 232) C dL_sound_231 rfl rfl ?_
          refine g_iconst (v := 0) (q := 233) C dL_sound_232 (by decide) rfl ?_
          refine g_callVi (x := (rX7_side_1 ci L 0)) (q := 236) (As := [.int 1, .int 0]) C gyX7_side gvX7_side t_828 (c_X7_side_1_c HC HL) dL_sound_233 rfl HC rfl rfl rfl (Nat.le_of_ble_eq_true rfl) (Nat.le_of_ble_eq_true rfl) (Nat.le_of_ble_eq_true rfl) (Nat.le_of_ble_eq_true rfl) (Nat.le_of_ble_eq_true rfl) rfl ?_
          refine g_icmp_ne_f (t := 272) (q := 239) C dL_sound_236 (by decide) rfl (by rw [gside1 hci] at c_220; rw [gside1 hci, gside1 hci]; exact gtell8 c_220) ?_
          refine g_aload_n (q := 240) C dL_sound_239 rfl rfl ?_
          refine g_iload_n (q := 241) C dL_sound_240 rfl rfl ?_
          refine g_iconst (v := 5) (q := 242) C dL_sound_241 (by decide) rfl ?_
          refine g_callVi (x := (rX7_side_1 ci L 5)) (q := 245) (As := [.int 1, .int 5]) C gyX7_side gvX7_side t_828 (c_X7_side_1_c HC HL) dL_sound_242 rfl HC rfl rfl rfl (Nat.le_of_ble_eq_true rfl) (Nat.le_of_ble_eq_true rfl) (Nat.le_of_ble_eq_true rfl) (Nat.le_of_ble_eq_true rfl) (Nat.le_of_ble_eq_true rfl) rfl ?_
          refine g_bipush (v := 60) (q := 247) C dL_sound_245 (by decide) rfl ?_
          refine g_icmp_gt_f (t := 272) (q := 250) C dL_sound_247 (by decide) rfl (by rw [gside1 hci]; exact gnlt (nI_le (show L.cd.inn.length ≤ 60 from HL.2.2.1.2.2.2.le.1) (by decide))) ?_
          refine g_aload_n (q := 251) C dL_sound_250 rfl rfl ?_
          refine g_iload_n (q := 252) C dL_sound_251 rfl rfl ?_
          refine g_iconst (v := 2) (q := 253) C dL_sound_252 (by decide) rfl ?_
          refine g_callVi (x := (rX7_side_1 ci L 2)) (q := 256) (As := [.int 1, .int 2]) C gyX7_side gvX7_side t_828 (c_X7_side_1_c HC HL) dL_sound_253 rfl HC rfl rfl rfl (Nat.le_of_ble_eq_true rfl) (Nat.le_of_ble_eq_true rfl) (Nat.le_of_ble_eq_true rfl) (Nat.le_of_ble_eq_true rfl) (Nat.le_of_ble_eq_true rfl) rfl ?_
          refine g_iconst (v := 1) (q := 257) C dL_sound_256 (by decide) rfl ?_
          refine g_icmp_lt_f (t := 272) (q := 260) C dL_sound_257 (by decide) rfl (by rw [gside1 hci]; show ¬ L.cd.ro < 1; obtain ⟨r, h1, h2, e⟩ := sc.2; rw [e]; exact nI_nlt (b := 1) h1 (by omega)) ?_
          refine g_aload_n (q := 261) C dL_sound_260 rfl rfl ?_
          refine g_iload_n (q := 262) C dL_sound_261 rfl rfl ?_
          refine g_iconst (v := 2) (q := 263) C dL_sound_262 (by decide) rfl ?_
          refine g_callVi (x := (rX7_side_1 ci L 2)) (q := 266) (As := [.int 1, .int 2]) C gyX7_side gvX7_side t_828 (c_X7_side_1_c HC HL) dL_sound_263 rfl HC rfl rfl rfl (Nat.le_of_ble_eq_true rfl) (Nat.le_of_ble_eq_true rfl) (Nat.le_of_ble_eq_true rfl) (Nat.le_of_ble_eq_true rfl) (Nat.le_of_ble_eq_true rfl) rfl ?_
          refine g_sipush (v := 254) (q := 269) C dL_sound_266 (by decide) rfl ?_
          refine g_icmp_le_t (t := 274) C dL_sound_269 (by decide) (by rw [gside1 hci]; show L.cd.ro ≤ 254; obtain ⟨r, h1, h2, e⟩ := sc.2; rw [e]; exact nI_le (b := 254) h2 (by decide)) ?_
          refine g_iinc (v := 2) (q := 277) C dL_sound_274 rfl (by decide) (by simp only [gset]; rfl) rfl ?_
          refine g_goto (q := 193) C dL_sound_277 (by decide) ?_
          refine g_iload_n (q := 194) C dL_sound_193 rfl rfl ?_
          refine g_iconst (v := 2) (q := 195) C dL_sound_194 (by decide) rfl ?_
          refine g_icmp_ge_t (t := 280) C dL_sound_195 (by decide) (by decide) ?_
          refine g_aload_n (q := 281) C dL_sound_280 rfl rfl ?_
          refine g_iconst (v := 3) (q := 282) C dL_sound_281 (by decide) rfl ?_
          refine g_callVi (x := L.tr) (q := 285) (As := [.int 3]) C gyX7_count gvX7_count t_840 (c_X7_count_3_c HC HL) dL_sound_282 rfl HC rfl rfl rfl (Nat.le_of_ble_eq_true rfl) (Nat.le_of_ble_eq_true rfl) (Nat.le_of_ble_eq_true rfl) (Nat.le_of_ble_eq_true rfl) (Nat.le_of_ble_eq_true rfl) rfl ?_
          refine g_if_lt_f (t := 324) (q := 288) C dL_sound_285 (by decide) rfl (by rw [ek]; exact nI_pos (by omega)) ?_
          refine g_aload_n (q := 289) C dL_sound_288 rfl rfl ?_
          refine g_iconst (v := 3) (q := 290) C dL_sound_289 (by decide) rfl ?_
          refine g_callVi (x := L.tr) (q := 293) (As := [.int 3]) C gyX7_count gvX7_count t_840 (c_X7_count_3_c HC HL) dL_sound_290 rfl HC rfl rfl rfl (Nat.le_of_ble_eq_true rfl) (Nat.le_of_ble_eq_true rfl) (Nat.le_of_ble_eq_true rfl) (Nat.le_of_ble_eq_true rfl) (Nat.le_of_ble_eq_true rfl) rfl ?_
          refine g_iconst (v := 3) (q := 294) C dL_sound_293 (by decide) rfl ?_
          refine g_icmp_ge_f (t := 324) (q := 297) C dL_sound_294 (by decide) rfl (by rw [ek]; exact nI_ge (b := 3) hk3 (by decide)) ?_
          refine g_aload_n (q := 298) C dL_sound_297 rfl rfl ?_
          refine g_iconst (v := 1) (q := 299) C dL_sound_298 (by decide) rfl ?_
          refine g_callVi (x := (nI A)) (q := 302) (As := [.int 1]) C gyX7_count gvX7_count t_840 (c_X7_count_1_c HC HL HW) dL_sound_299 rfl HC rfl rfl rfl (Nat.le_of_ble_eq_true rfl) (Nat.le_of_ble_eq_true rfl) (Nat.le_of_ble_eq_true rfl) (Nat.le_of_ble_eq_true rfl) (Nat.le_of_ble_eq_true rfl) rfl ?_
          refine g_aload_n (q := 303) C dL_sound_302 rfl rfl ?_
          refine g_iconst (v := 0) (q := 304) C dL_sound_303 (by decide) rfl ?_
          refine g_callVi (x := (nI Lt)) (q := 307) (As := [.int 0]) C gyX7_count gvX7_count t_840 (c_X7_count_0_c HC HL HW) dL_sound_304 rfl HC rfl rfl rfl (Nat.le_of_ble_eq_true rfl) (Nat.le_of_ble_eq_true rfl) (Nat.le_of_ble_eq_true rfl) (Nat.le_of_ble_eq_true rfl) (Nat.le_of_ble_eq_true rfl) rfl ?_
          refine g_icmp_gt_f (t := 324) (q := 310) C dL_sound_307 (by decide) rfl (gnlt (nI_le hA (by omega))) ?_
          refine g_aload_n (q := 311) C dL_sound_310 rfl rfl ?_
          refine g_iconst (v := 2) (q := 312) C dL_sound_311 (by decide) rfl ?_
          refine g_callVi (x := (nI m)) (q := 315) (As := [.int 2]) C gyX7_count gvX7_count t_840 (c_X7_count_2_c HC HL HW) dL_sound_312 rfl HC rfl rfl rfl (Nat.le_of_ble_eq_true rfl) (Nat.le_of_ble_eq_true rfl) (Nat.le_of_ble_eq_true rfl) (Nat.le_of_ble_eq_true rfl) (Nat.le_of_ble_eq_true rfl) rfl ?_
          refine g_bipush (v := 24) (q := 317) C dL_sound_315 (by decide) rfl ?_
          refine g_icmp_gt_f (t := 324) (q := 320) C dL_sound_317 (by decide) rfl (gnlt (nI_le (b := 24) hm24 (by decide))) ?_
          refine g_iconst (v := 1) (q := 321) C dL_sound_320 (by decide) rfl ?_
          refine g_goto (q := 325) C dL_sound_321 (by decide) ?_
          exact E9.1 _ _ _ _ _ _ _ dL_sound_325 rfl rfl (Nat.le_of_ble_eq_true rfl) (Nat.le_of_ble_eq_true rfl) ⟨rfl, rfl⟩
    ·
      refine g_iload_n (q := 139) C dL_sound_138 rfl rfl ?_
      refine g_aload_n (q := 140) C dL_sound_139 rfl rfl ?_
      refine g_iconst (v := 0) (q := 141) C dL_sound_140 (by decide) rfl ?_
      refine g_callVi (x := (nI Lt)) (q := 144) (As := [.int 0]) C gyX7_count gvX7_count t_840 (c_X7_count_0_c HC HL HW) dL_sound_141 rfl HC rfl rfl rfl (Nat.le_of_ble_eq_true rfl) (Nat.le_of_ble_eq_true rfl) (Nat.le_of_ble_eq_true rfl) (Nat.le_of_ble_eq_true rfl) (Nat.le_of_ble_eq_true rfl) rfl ?_
      refine g_icmp_ne_f (t := 189) (q := 147) C dL_sound_144 (by decide) rfl (hlt (Nat.not_le.mp (fun h => c_135 (nI_le (a := 30) (show 30 ≤ min N 30 by omega) (by omega))))) ?_
      refine g_iload_n (q := 148) C dL_sound_147 rfl rfl ?_
      refine g_aload_n (q := 149) C dL_sound_148 rfl rfl ?_
      refine g_iconst (v := 0) (q := 150) C dL_sound_149 (by decide) rfl ?_
      refine g_bipush (v := 9) (q := 152) C dL_sound_150 (by decide) rfl ?_
      refine g_callVi (x := (rX7_side_0 ci L 9)) (q := 155) (As := [.int 0, .int 9]) C gyX7_side gvX7_side t_828 (c_X7_side_0_c HC HL) dL_sound_152 rfl HC rfl rfl rfl (Nat.le_of_ble_eq_true rfl) (Nat.le_of_ble_eq_true rfl) (Nat.le_of_ble_eq_true rfl) (Nat.le_of_ble_eq_true rfl) (Nat.le_of_ble_eq_true rfl) rfl ?_
      refine g_aload_n (q := 156) C dL_sound_155 rfl rfl ?_
      refine g_iconst (v := 1) (q := 157) C dL_sound_156 (by decide) rfl ?_
      refine g_bipush (v := 9) (q := 159) C dL_sound_157 (by decide) rfl ?_
      refine g_callVi (x := (rX7_side_1 ci L 9)) (q := 162) (As := [.int 1, .int 9]) C gyX7_side gvX7_side t_828 (c_X7_side_1_c HC HL) dL_sound_159 rfl HC rfl rfl rfl (Nat.le_of_ble_eq_true rfl) (Nat.le_of_ble_eq_true rfl) (Nat.le_of_ble_eq_true rfl) (Nat.le_of_ble_eq_true rfl) (Nat.le_of_ble_eq_true rfl) rfl ?_
      refine g_iadd (q := 163) C dL_sound_162 rfl ?_
      refine g_icmp_ne_f (t := 189) (q := 166) C dL_sound_163 (by decide) rfl (by rw [gside0 hci, gside1 hci]; show nI (min N 30) = L.rd.se + L.cd.se; rw [hse]; congr 1; have h9 : ¬ 30 ≤ N := (fun h => c_135 (nI_le (a := 30) (show 30 ≤ min N 30 by omega) (by omega))); omega) ?_
      refine g_aload_n (q := 167) C dL_sound_166 rfl rfl ?_
      refine g_iconst (v := 4) (q := 168) C dL_sound_167 (by decide) rfl ?_
      refine g_callVi (x := (nI (J.l 1).length)) (q := 171) (As := [.int 4]) C gyX7_count gvX7_count t_840 (c_X7_count_4_c HC HJ) dL_sound_168 rfl HC rfl rfl rfl (Nat.le_of_ble_eq_true rfl) (Nat.le_of_ble_eq_true rfl) (Nat.le_of_ble_eq_true rfl) (Nat.le_of_ble_eq_true rfl) (Nat.le_of_ble_eq_true rfl) rfl ?_
      refine g_aload_n (q := 172) C dL_sound_171 rfl rfl ?_
      refine g_iconst (v := 0) (q := 173) C dL_sound_172 (by decide) rfl ?_
      refine g_bipush (v := 9) (q := 175) C dL_sound_173 (by decide) rfl ?_
      refine g_callVi (x := (rX7_side_0 ci L 9)) (q := 178) (As := [.int 0, .int 9]) C gyX7_side gvX7_side t_828 (c_X7_side_0_c HC HL) dL_sound_175 rfl HC rfl rfl rfl (Nat.le_of_ble_eq_true rfl) (Nat.le_of_ble_eq_true rfl) (Nat.le_of_ble_eq_true rfl) (Nat.le_of_ble_eq_true rfl) (Nat.le_of_ble_eq_true rfl) rfl ?_
      refine g_aload_n (q := 179) C dL_sound_178 rfl rfl ?_
      refine g_iconst (v := 1) (q := 180) C dL_sound_179 (by decide) rfl ?_
      refine g_bipush (v := 9) (q := 182) C dL_sound_180 (by decide) rfl ?_
      refine g_callVi (x := (rX7_side_1 ci L 9)) (q := 185) (As := [.int 1, .int 9]) C gyX7_side gvX7_side t_828 (c_X7_side_1_c HC HL) dL_sound_182 rfl HC rfl rfl rfl (Nat.le_of_ble_eq_true rfl) (Nat.le_of_ble_eq_true rfl) (Nat.le_of_ble_eq_true rfl) (Nat.le_of_ble_eq_true rfl) (Nat.le_of_ble_eq_true rfl) rfl ?_
      refine g_iadd (q := 186) C dL_sound_185 rfl ?_
      refine g_icmp_le_t (t := 191) C dL_sound_186 (by decide) (by rw [gside0 hci, gside1 hci]; show nI (J.l 1).length ≤ L.rd.se + L.cd.se; rw [hse]; exact nI_le (by omega) (by omega)) ?_
      refine g_iconst (v := 0) (q := 192) C dL_sound_191 (by decide) rfl ?_
      refine g_istore_n (q := 193) C dL_sound_192 (Nat.le_of_ble_eq_true rfl) (by simp only [gset]; rfl) rfl ?_
      refine g_iload_n (q := 194) C dL_sound_193 rfl rfl ?_
      refine g_iconst (v := 2) (q := 195) C dL_sound_194 (by decide) rfl ?_
      refine g_icmp_ge_f (t := 280) (q := 198) C dL_sound_195 (by decide) rfl (by decide) ?_
      refine g_aload_n (q := 199) C dL_sound_198 rfl rfl ?_
      refine g_iload_n (q := 200) C dL_sound_199 rfl rfl ?_
      refine g_iconst (v := 4) (q := 201) C dL_sound_200 (by decide) rfl ?_
      refine g_callVi (x := (rX7_side_0 ci L 4)) (q := 204) (As := [.int 0, .int 4]) C gyX7_side gvX7_side t_828 (c_X7_side_0_c HC HL) dL_sound_201 rfl HC rfl rfl rfl (Nat.le_of_ble_eq_true rfl) (Nat.le_of_ble_eq_true rfl) (Nat.le_of_ble_eq_true rfl) (Nat.le_of_ble_eq_true rfl) (Nat.le_of_ble_eq_true rfl) rfl ?_
      refine g_aload_n (q := 205) C dL_sound_204 rfl rfl ?_
      refine g_iload_n (q := 206) C dL_sound_205 rfl rfl ?_
      refine g_iconst (v := 3) (q := 207) C dL_sound_206 (by decide) rfl ?_
      refine g_callVi (x := (rX7_side_0 ci L 3)) (q := 210) (As := [.int 0, .int 3]) C gyX7_side gvX7_side t_828 (c_X7_side_0_c HC HL) dL_sound_207 rfl HC rfl rfl rfl (Nat.le_of_ble_eq_true rfl) (Nat.le_of_ble_eq_true rfl) (Nat.le_of_ble_eq_true rfl) (Nat.le_of_ble_eq_true rfl) (Nat.le_of_ble_eq_true rfl) rfl ?_
      refine g_icmp_gt_f (t := 272) (q := 213) C dL_sound_210 (by decide) rfl (by rw [gside0 hci, gside0 hci]; exact gnlt sr.1) ?_
      refine g_aload_n (q := 214) C dL_sound_213 rfl rfl ?_
      refine g_iload_n (q := 215) C dL_sound_214 rfl rfl ?_
      refine g_bipush (v := 8) (q := 217) C dL_sound_215 (by decide) rfl ?_
      refine g_callVi (x := (rX7_side_0 ci L 8)) (q := 220) (As := [.int 0, .int 8]) C gyX7_side gvX7_side t_828 (c_X7_side_0_c HC HL) dL_sound_217 rfl HC rfl rfl rfl (Nat.le_of_ble_eq_true rfl) (Nat.le_of_ble_eq_true rfl) (Nat.le_of_ble_eq_true rfl) (Nat.le_of_ble_eq_true rfl) (Nat.le_of_ble_eq_true rfl) rfl ?_
      refine g_if_lt (t := 239) (q := 223) C dL_sound_220 (by decide) rfl (fun c_220 => ?_) (fun c_220 => ?_)
      ·
        refine g_aload_n (q := 240) C dL_sound_239 rfl rfl ?_
        refine g_iload_n (q := 241) C dL_sound_240 rfl rfl ?_
        refine g_iconst (v := 5) (q := 242) C dL_sound_241 (by decide) rfl ?_
        refine g_callVi (x := (rX7_side_0 ci L 5)) (q := 245) (As := [.int 0, .int 5]) C gyX7_side gvX7_side t_828 (c_X7_side_0_c HC HL) dL_sound_242 rfl HC rfl rfl rfl (Nat.le_of_ble_eq_true rfl) (Nat.le_of_ble_eq_true rfl) (Nat.le_of_ble_eq_true rfl) (Nat.le_of_ble_eq_true rfl) (Nat.le_of_ble_eq_true rfl) rfl ?_
        refine g_bipush (v := 60) (q := 247) C dL_sound_245 (by decide) rfl ?_
        refine g_icmp_gt_f (t := 272) (q := 250) C dL_sound_247 (by decide) rfl (by rw [gside0 hci]; exact gnlt (nI_le (show L.rd.inn.length ≤ 60 from HL.2.1.2.2.2.le.1) (by decide))) ?_
        refine g_aload_n (q := 251) C dL_sound_250 rfl rfl ?_
        refine g_iload_n (q := 252) C dL_sound_251 rfl rfl ?_
        refine g_iconst (v := 2) (q := 253) C dL_sound_252 (by decide) rfl ?_
        refine g_callVi (x := (rX7_side_0 ci L 2)) (q := 256) (As := [.int 0, .int 2]) C gyX7_side gvX7_side t_828 (c_X7_side_0_c HC HL) dL_sound_253 rfl HC rfl rfl rfl (Nat.le_of_ble_eq_true rfl) (Nat.le_of_ble_eq_true rfl) (Nat.le_of_ble_eq_true rfl) (Nat.le_of_ble_eq_true rfl) (Nat.le_of_ble_eq_true rfl) rfl ?_
        refine g_iconst (v := 1) (q := 257) C dL_sound_256 (by decide) rfl ?_
        refine g_icmp_lt_f (t := 272) (q := 260) C dL_sound_257 (by decide) rfl (by rw [gside0 hci]; show ¬ L.rd.ro < 1; obtain ⟨r, h1, h2, e⟩ := sr.2; rw [e]; exact nI_nlt (b := 1) h1 (by omega)) ?_
        refine g_aload_n (q := 261) C dL_sound_260 rfl rfl ?_
        refine g_iload_n (q := 262) C dL_sound_261 rfl rfl ?_
        refine g_iconst (v := 2) (q := 263) C dL_sound_262 (by decide) rfl ?_
        refine g_callVi (x := (rX7_side_0 ci L 2)) (q := 266) (As := [.int 0, .int 2]) C gyX7_side gvX7_side t_828 (c_X7_side_0_c HC HL) dL_sound_263 rfl HC rfl rfl rfl (Nat.le_of_ble_eq_true rfl) (Nat.le_of_ble_eq_true rfl) (Nat.le_of_ble_eq_true rfl) (Nat.le_of_ble_eq_true rfl) (Nat.le_of_ble_eq_true rfl) rfl ?_
        refine g_sipush (v := 254) (q := 269) C dL_sound_266 (by decide) rfl ?_
        refine g_icmp_le_t (t := 274) C dL_sound_269 (by decide) (by rw [gside0 hci]; show L.rd.ro ≤ 254; obtain ⟨r, h1, h2, e⟩ := sr.2; rw [e]; exact nI_le (b := 254) h2 (by decide)) ?_
        refine g_iinc (v := 1) (q := 277) C dL_sound_274 rfl (by decide) (by simp only [gset]; rfl) rfl ?_
        refine g_goto (q := 193) C dL_sound_277 (by decide) ?_
        refine g_iload_n (q := 194) C dL_sound_193 rfl rfl ?_
        refine g_iconst (v := 2) (q := 195) C dL_sound_194 (by decide) rfl ?_
        refine g_icmp_ge_f (t := 280) (q := 198) C dL_sound_195 (by decide) rfl (by decide) ?_
        refine g_aload_n (q := 199) C dL_sound_198 rfl rfl ?_
        refine g_iload_n (q := 200) C dL_sound_199 rfl rfl ?_
        refine g_iconst (v := 4) (q := 201) C dL_sound_200 (by decide) rfl ?_
        refine g_callVi (x := (rX7_side_1 ci L 4)) (q := 204) (As := [.int 1, .int 4]) C gyX7_side gvX7_side t_828 (c_X7_side_1_c HC HL) dL_sound_201 rfl HC rfl rfl rfl (Nat.le_of_ble_eq_true rfl) (Nat.le_of_ble_eq_true rfl) (Nat.le_of_ble_eq_true rfl) (Nat.le_of_ble_eq_true rfl) (Nat.le_of_ble_eq_true rfl) rfl ?_
        refine g_aload_n (q := 205) C dL_sound_204 rfl rfl ?_
        refine g_iload_n (q := 206) C dL_sound_205 rfl rfl ?_
        refine g_iconst (v := 3) (q := 207) C dL_sound_206 (by decide) rfl ?_
        refine g_callVi (x := (rX7_side_1 ci L 3)) (q := 210) (As := [.int 1, .int 3]) C gyX7_side gvX7_side t_828 (c_X7_side_1_c HC HL) dL_sound_207 rfl HC rfl rfl rfl (Nat.le_of_ble_eq_true rfl) (Nat.le_of_ble_eq_true rfl) (Nat.le_of_ble_eq_true rfl) (Nat.le_of_ble_eq_true rfl) (Nat.le_of_ble_eq_true rfl) rfl ?_
        refine g_icmp_gt_f (t := 272) (q := 213) C dL_sound_210 (by decide) rfl (by rw [gside1 hci, gside1 hci]; exact gnlt sc.1) ?_
        refine g_aload_n (q := 214) C dL_sound_213 rfl rfl ?_
        refine g_iload_n (q := 215) C dL_sound_214 rfl rfl ?_
        refine g_bipush (v := 8) (q := 217) C dL_sound_215 (by decide) rfl ?_
        refine g_callVi (x := (rX7_side_1 ci L 8)) (q := 220) (As := [.int 1, .int 8]) C gyX7_side gvX7_side t_828 (c_X7_side_1_c HC HL) dL_sound_217 rfl HC rfl rfl rfl (Nat.le_of_ble_eq_true rfl) (Nat.le_of_ble_eq_true rfl) (Nat.le_of_ble_eq_true rfl) (Nat.le_of_ble_eq_true rfl) (Nat.le_of_ble_eq_true rfl) rfl ?_
        refine g_if_lt (t := 239) (q := 223) C dL_sound_220 (by decide) rfl (fun c_220 => ?_) (fun c_220 => ?_)
        ·
          refine g_aload_n (q := 240) C dL_sound_239 rfl rfl ?_
          refine g_iload_n (q := 241) C dL_sound_240 rfl rfl ?_
          refine g_iconst (v := 5) (q := 242) C dL_sound_241 (by decide) rfl ?_
          refine g_callVi (x := (rX7_side_1 ci L 5)) (q := 245) (As := [.int 1, .int 5]) C gyX7_side gvX7_side t_828 (c_X7_side_1_c HC HL) dL_sound_242 rfl HC rfl rfl rfl (Nat.le_of_ble_eq_true rfl) (Nat.le_of_ble_eq_true rfl) (Nat.le_of_ble_eq_true rfl) (Nat.le_of_ble_eq_true rfl) (Nat.le_of_ble_eq_true rfl) rfl ?_
          refine g_bipush (v := 60) (q := 247) C dL_sound_245 (by decide) rfl ?_
          refine g_icmp_gt_f (t := 272) (q := 250) C dL_sound_247 (by decide) rfl (by rw [gside1 hci]; exact gnlt (nI_le (show L.cd.inn.length ≤ 60 from HL.2.2.1.2.2.2.le.1) (by decide))) ?_
          refine g_aload_n (q := 251) C dL_sound_250 rfl rfl ?_
          refine g_iload_n (q := 252) C dL_sound_251 rfl rfl ?_
          refine g_iconst (v := 2) (q := 253) C dL_sound_252 (by decide) rfl ?_
          refine g_callVi (x := (rX7_side_1 ci L 2)) (q := 256) (As := [.int 1, .int 2]) C gyX7_side gvX7_side t_828 (c_X7_side_1_c HC HL) dL_sound_253 rfl HC rfl rfl rfl (Nat.le_of_ble_eq_true rfl) (Nat.le_of_ble_eq_true rfl) (Nat.le_of_ble_eq_true rfl) (Nat.le_of_ble_eq_true rfl) (Nat.le_of_ble_eq_true rfl) rfl ?_
          refine g_iconst (v := 1) (q := 257) C dL_sound_256 (by decide) rfl ?_
          refine g_icmp_lt_f (t := 272) (q := 260) C dL_sound_257 (by decide) rfl (by rw [gside1 hci]; show ¬ L.cd.ro < 1; obtain ⟨r, h1, h2, e⟩ := sc.2; rw [e]; exact nI_nlt (b := 1) h1 (by omega)) ?_
          refine g_aload_n (q := 261) C dL_sound_260 rfl rfl ?_
          refine g_iload_n (q := 262) C dL_sound_261 rfl rfl ?_
          refine g_iconst (v := 2) (q := 263) C dL_sound_262 (by decide) rfl ?_
          refine g_callVi (x := (rX7_side_1 ci L 2)) (q := 266) (As := [.int 1, .int 2]) C gyX7_side gvX7_side t_828 (c_X7_side_1_c HC HL) dL_sound_263 rfl HC rfl rfl rfl (Nat.le_of_ble_eq_true rfl) (Nat.le_of_ble_eq_true rfl) (Nat.le_of_ble_eq_true rfl) (Nat.le_of_ble_eq_true rfl) (Nat.le_of_ble_eq_true rfl) rfl ?_
          refine g_sipush (v := 254) (q := 269) C dL_sound_266 (by decide) rfl ?_
          refine g_icmp_le_t (t := 274) C dL_sound_269 (by decide) (by rw [gside1 hci]; show L.cd.ro ≤ 254; obtain ⟨r, h1, h2, e⟩ := sc.2; rw [e]; exact nI_le (b := 254) h2 (by decide)) ?_
          refine g_iinc (v := 2) (q := 277) C dL_sound_274 rfl (by decide) (by simp only [gset]; rfl) rfl ?_
          refine g_goto (q := 193) C dL_sound_277 (by decide) ?_
          refine g_iload_n (q := 194) C dL_sound_193 rfl rfl ?_
          refine g_iconst (v := 2) (q := 195) C dL_sound_194 (by decide) rfl ?_
          refine g_icmp_ge_t (t := 280) C dL_sound_195 (by decide) (by decide) ?_
          refine g_aload_n (q := 281) C dL_sound_280 rfl rfl ?_
          refine g_iconst (v := 3) (q := 282) C dL_sound_281 (by decide) rfl ?_
          refine g_callVi (x := L.tr) (q := 285) (As := [.int 3]) C gyX7_count gvX7_count t_840 (c_X7_count_3_c HC HL) dL_sound_282 rfl HC rfl rfl rfl (Nat.le_of_ble_eq_true rfl) (Nat.le_of_ble_eq_true rfl) (Nat.le_of_ble_eq_true rfl) (Nat.le_of_ble_eq_true rfl) (Nat.le_of_ble_eq_true rfl) rfl ?_
          refine g_if_lt_f (t := 324) (q := 288) C dL_sound_285 (by decide) rfl (by rw [ek]; exact nI_pos (by omega)) ?_
          refine g_aload_n (q := 289) C dL_sound_288 rfl rfl ?_
          refine g_iconst (v := 3) (q := 290) C dL_sound_289 (by decide) rfl ?_
          refine g_callVi (x := L.tr) (q := 293) (As := [.int 3]) C gyX7_count gvX7_count t_840 (c_X7_count_3_c HC HL) dL_sound_290 rfl HC rfl rfl rfl (Nat.le_of_ble_eq_true rfl) (Nat.le_of_ble_eq_true rfl) (Nat.le_of_ble_eq_true rfl) (Nat.le_of_ble_eq_true rfl) (Nat.le_of_ble_eq_true rfl) rfl ?_
          refine g_iconst (v := 3) (q := 294) C dL_sound_293 (by decide) rfl ?_
          refine g_icmp_ge_f (t := 324) (q := 297) C dL_sound_294 (by decide) rfl (by rw [ek]; exact nI_ge (b := 3) hk3 (by decide)) ?_
          refine g_aload_n (q := 298) C dL_sound_297 rfl rfl ?_
          refine g_iconst (v := 1) (q := 299) C dL_sound_298 (by decide) rfl ?_
          refine g_callVi (x := (nI A)) (q := 302) (As := [.int 1]) C gyX7_count gvX7_count t_840 (c_X7_count_1_c HC HL HW) dL_sound_299 rfl HC rfl rfl rfl (Nat.le_of_ble_eq_true rfl) (Nat.le_of_ble_eq_true rfl) (Nat.le_of_ble_eq_true rfl) (Nat.le_of_ble_eq_true rfl) (Nat.le_of_ble_eq_true rfl) rfl ?_
          refine g_aload_n (q := 303) C dL_sound_302 rfl rfl ?_
          refine g_iconst (v := 0) (q := 304) C dL_sound_303 (by decide) rfl ?_
          refine g_callVi (x := (nI Lt)) (q := 307) (As := [.int 0]) C gyX7_count gvX7_count t_840 (c_X7_count_0_c HC HL HW) dL_sound_304 rfl HC rfl rfl rfl (Nat.le_of_ble_eq_true rfl) (Nat.le_of_ble_eq_true rfl) (Nat.le_of_ble_eq_true rfl) (Nat.le_of_ble_eq_true rfl) (Nat.le_of_ble_eq_true rfl) rfl ?_
          refine g_icmp_gt_f (t := 324) (q := 310) C dL_sound_307 (by decide) rfl (gnlt (nI_le hA (by omega))) ?_
          refine g_aload_n (q := 311) C dL_sound_310 rfl rfl ?_
          refine g_iconst (v := 2) (q := 312) C dL_sound_311 (by decide) rfl ?_
          refine g_callVi (x := (nI m)) (q := 315) (As := [.int 2]) C gyX7_count gvX7_count t_840 (c_X7_count_2_c HC HL HW) dL_sound_312 rfl HC rfl rfl rfl (Nat.le_of_ble_eq_true rfl) (Nat.le_of_ble_eq_true rfl) (Nat.le_of_ble_eq_true rfl) (Nat.le_of_ble_eq_true rfl) (Nat.le_of_ble_eq_true rfl) rfl ?_
          refine g_bipush (v := 24) (q := 317) C dL_sound_315 (by decide) rfl ?_
          refine g_icmp_gt_f (t := 324) (q := 320) C dL_sound_317 (by decide) rfl (gnlt (nI_le (b := 24) hm24 (by decide))) ?_
          refine g_iconst (v := 1) (q := 321) C dL_sound_320 (by decide) rfl ?_
          refine g_goto (q := 325) C dL_sound_321 (by decide) ?_
          exact E9.1 _ _ _ _ _ _ _ dL_sound_325 rfl rfl (Nat.le_of_ble_eq_true rfl) (Nat.le_of_ble_eq_true rfl) ⟨rfl, rfl⟩
        ·
          refine g_aload_n (q := 224) C dL_sound_223 rfl rfl ?_
          refine g_iload_n (q := 225) C dL_sound_224 rfl rfl ?_
          refine g_bipush (v := 8) (q := 227) C dL_sound_225 (by decide) rfl ?_
          refine g_callVi (x := (rX7_side_1 ci L 8)) (q := 230) (As := [.int 1, .int 8]) C gyX7_side gvX7_side t_828 (c_X7_side_1_c HC HL) dL_sound_227 rfl HC rfl rfl rfl (Nat.le_of_ble_eq_true rfl) (Nat.le_of_ble_eq_true rfl) (Nat.le_of_ble_eq_true rfl) (Nat.le_of_ble_eq_true rfl) (Nat.le_of_ble_eq_true rfl) rfl ?_
          refine g_aload_n (q := 231) C dL_sound_230 rfl rfl ?_
          refine g_iload_n (q := 232) C dL_sound_231 rfl rfl ?_
          refine g_iconst (v := 0) (q := 233) C dL_sound_232 (by decide) rfl ?_
          refine g_callVi (x := (rX7_side_1 ci L 0)) (q := 236) (As := [.int 1, .int 0]) C gyX7_side gvX7_side t_828 (c_X7_side_1_c HC HL) dL_sound_233 rfl HC rfl rfl rfl (Nat.le_of_ble_eq_true rfl) (Nat.le_of_ble_eq_true rfl) (Nat.le_of_ble_eq_true rfl) (Nat.le_of_ble_eq_true rfl) (Nat.le_of_ble_eq_true rfl) rfl ?_
          refine g_icmp_ne_f (t := 272) (q := 239) C dL_sound_236 (by decide) rfl (by rw [gside1 hci] at c_220; rw [gside1 hci, gside1 hci]; exact gtell8 c_220) ?_
          refine g_aload_n (q := 240) C dL_sound_239 rfl rfl ?_
          refine g_iload_n (q := 241) C dL_sound_240 rfl rfl ?_
          refine g_iconst (v := 5) (q := 242) C dL_sound_241 (by decide) rfl ?_
          refine g_callVi (x := (rX7_side_1 ci L 5)) (q := 245) (As := [.int 1, .int 5]) C gyX7_side gvX7_side t_828 (c_X7_side_1_c HC HL) dL_sound_242 rfl HC rfl rfl rfl (Nat.le_of_ble_eq_true rfl) (Nat.le_of_ble_eq_true rfl) (Nat.le_of_ble_eq_true rfl) (Nat.le_of_ble_eq_true rfl) (Nat.le_of_ble_eq_true rfl) rfl ?_
          refine g_bipush (v := 60) (q := 247) C dL_sound_245 (by decide) rfl ?_
          refine g_icmp_gt_f (t := 272) (q := 250) C dL_sound_247 (by decide) rfl (by rw [gside1 hci]; exact gnlt (nI_le (show L.cd.inn.length ≤ 60 from HL.2.2.1.2.2.2.le.1) (by decide))) ?_
          refine g_aload_n (q := 251) C dL_sound_250 rfl rfl ?_
          refine g_iload_n (q := 252) C dL_sound_251 rfl rfl ?_
          refine g_iconst (v := 2) (q := 253) C dL_sound_252 (by decide) rfl ?_
          refine g_callVi (x := (rX7_side_1 ci L 2)) (q := 256) (As := [.int 1, .int 2]) C gyX7_side gvX7_side t_828 (c_X7_side_1_c HC HL) dL_sound_253 rfl HC rfl rfl rfl (Nat.le_of_ble_eq_true rfl) (Nat.le_of_ble_eq_true rfl) (Nat.le_of_ble_eq_true rfl) (Nat.le_of_ble_eq_true rfl) (Nat.le_of_ble_eq_true rfl) rfl ?_
          refine g_iconst (v := 1) (q := 257) C dL_sound_256 (by decide) rfl ?_
          refine g_icmp_lt_f (t := 272) (q := 260) C dL_sound_257 (by decide) rfl (by rw [gside1 hci]; show ¬ L.cd.ro < 1; obtain ⟨r, h1, h2, e⟩ := sc.2; rw [e]; exact nI_nlt (b := 1) h1 (by omega)) ?_
          refine g_aload_n (q := 261) C dL_sound_260 rfl rfl ?_
          refine g_iload_n (q := 262) C dL_sound_261 rfl rfl ?_
          refine g_iconst (v := 2) (q := 263) C dL_sound_262 (by decide) rfl ?_
          refine g_callVi (x := (rX7_side_1 ci L 2)) (q := 266) (As := [.int 1, .int 2]) C gyX7_side gvX7_side t_828 (c_X7_side_1_c HC HL) dL_sound_263 rfl HC rfl rfl rfl (Nat.le_of_ble_eq_true rfl) (Nat.le_of_ble_eq_true rfl) (Nat.le_of_ble_eq_true rfl) (Nat.le_of_ble_eq_true rfl) (Nat.le_of_ble_eq_true rfl) rfl ?_
          refine g_sipush (v := 254) (q := 269) C dL_sound_266 (by decide) rfl ?_
          refine g_icmp_le_t (t := 274) C dL_sound_269 (by decide) (by rw [gside1 hci]; show L.cd.ro ≤ 254; obtain ⟨r, h1, h2, e⟩ := sc.2; rw [e]; exact nI_le (b := 254) h2 (by decide)) ?_
          refine g_iinc (v := 2) (q := 277) C dL_sound_274 rfl (by decide) (by simp only [gset]; rfl) rfl ?_
          refine g_goto (q := 193) C dL_sound_277 (by decide) ?_
          refine g_iload_n (q := 194) C dL_sound_193 rfl rfl ?_
          refine g_iconst (v := 2) (q := 195) C dL_sound_194 (by decide) rfl ?_
          refine g_icmp_ge_t (t := 280) C dL_sound_195 (by decide) (by decide) ?_
          refine g_aload_n (q := 281) C dL_sound_280 rfl rfl ?_
          refine g_iconst (v := 3) (q := 282) C dL_sound_281 (by decide) rfl ?_
          refine g_callVi (x := L.tr) (q := 285) (As := [.int 3]) C gyX7_count gvX7_count t_840 (c_X7_count_3_c HC HL) dL_sound_282 rfl HC rfl rfl rfl (Nat.le_of_ble_eq_true rfl) (Nat.le_of_ble_eq_true rfl) (Nat.le_of_ble_eq_true rfl) (Nat.le_of_ble_eq_true rfl) (Nat.le_of_ble_eq_true rfl) rfl ?_
          refine g_if_lt_f (t := 324) (q := 288) C dL_sound_285 (by decide) rfl (by rw [ek]; exact nI_pos (by omega)) ?_
          refine g_aload_n (q := 289) C dL_sound_288 rfl rfl ?_
          refine g_iconst (v := 3) (q := 290) C dL_sound_289 (by decide) rfl ?_
          refine g_callVi (x := L.tr) (q := 293) (As := [.int 3]) C gyX7_count gvX7_count t_840 (c_X7_count_3_c HC HL) dL_sound_290 rfl HC rfl rfl rfl (Nat.le_of_ble_eq_true rfl) (Nat.le_of_ble_eq_true rfl) (Nat.le_of_ble_eq_true rfl) (Nat.le_of_ble_eq_true rfl) (Nat.le_of_ble_eq_true rfl) rfl ?_
          refine g_iconst (v := 3) (q := 294) C dL_sound_293 (by decide) rfl ?_
          refine g_icmp_ge_f (t := 324) (q := 297) C dL_sound_294 (by decide) rfl (by rw [ek]; exact nI_ge (b := 3) hk3 (by decide)) ?_
          refine g_aload_n (q := 298) C dL_sound_297 rfl rfl ?_
          refine g_iconst (v := 1) (q := 299) C dL_sound_298 (by decide) rfl ?_
          refine g_callVi (x := (nI A)) (q := 302) (As := [.int 1]) C gyX7_count gvX7_count t_840 (c_X7_count_1_c HC HL HW) dL_sound_299 rfl HC rfl rfl rfl (Nat.le_of_ble_eq_true rfl) (Nat.le_of_ble_eq_true rfl) (Nat.le_of_ble_eq_true rfl) (Nat.le_of_ble_eq_true rfl) (Nat.le_of_ble_eq_true rfl) rfl ?_
          refine g_aload_n (q := 303) C dL_sound_302 rfl rfl ?_
          refine g_iconst (v := 0) (q := 304) C dL_sound_303 (by decide) rfl ?_
          refine g_callVi (x := (nI Lt)) (q := 307) (As := [.int 0]) C gyX7_count gvX7_count t_840 (c_X7_count_0_c HC HL HW) dL_sound_304 rfl HC rfl rfl rfl (Nat.le_of_ble_eq_true rfl) (Nat.le_of_ble_eq_true rfl) (Nat.le_of_ble_eq_true rfl) (Nat.le_of_ble_eq_true rfl) (Nat.le_of_ble_eq_true rfl) rfl ?_
          refine g_icmp_gt_f (t := 324) (q := 310) C dL_sound_307 (by decide) rfl (gnlt (nI_le hA (by omega))) ?_
          refine g_aload_n (q := 311) C dL_sound_310 rfl rfl ?_
          refine g_iconst (v := 2) (q := 312) C dL_sound_311 (by decide) rfl ?_
          refine g_callVi (x := (nI m)) (q := 315) (As := [.int 2]) C gyX7_count gvX7_count t_840 (c_X7_count_2_c HC HL HW) dL_sound_312 rfl HC rfl rfl rfl (Nat.le_of_ble_eq_true rfl) (Nat.le_of_ble_eq_true rfl) (Nat.le_of_ble_eq_true rfl) (Nat.le_of_ble_eq_true rfl) (Nat.le_of_ble_eq_true rfl) rfl ?_
          refine g_bipush (v := 24) (q := 317) C dL_sound_315 (by decide) rfl ?_
          refine g_icmp_gt_f (t := 324) (q := 320) C dL_sound_317 (by decide) rfl (gnlt (nI_le (b := 24) hm24 (by decide))) ?_
          refine g_iconst (v := 1) (q := 321) C dL_sound_320 (by decide) rfl ?_
          refine g_goto (q := 325) C dL_sound_321 (by decide) ?_
          exact E9.1 _ _ _ _ _ _ _ dL_sound_325 rfl rfl (Nat.le_of_ble_eq_true rfl) (Nat.le_of_ble_eq_true rfl) ⟨rfl, rfl⟩
      ·
        refine g_aload_n (q := 224) C dL_sound_223 rfl rfl ?_
        refine g_iload_n (q := 225) C dL_sound_224 rfl rfl ?_
        refine g_bipush (v := 8) (q := 227) C dL_sound_225 (by decide) rfl ?_
        refine g_callVi (x := (rX7_side_0 ci L 8)) (q := 230) (As := [.int 0, .int 8]) C gyX7_side gvX7_side t_828 (c_X7_side_0_c HC HL) dL_sound_227 rfl HC rfl rfl rfl (Nat.le_of_ble_eq_true rfl) (Nat.le_of_ble_eq_true rfl) (Nat.le_of_ble_eq_true rfl) (Nat.le_of_ble_eq_true rfl) (Nat.le_of_ble_eq_true rfl) rfl ?_
        refine g_aload_n (q := 231) C dL_sound_230 rfl rfl ?_
        refine g_iload_n (q := 232) C dL_sound_231 rfl rfl ?_
        refine g_iconst (v := 0) (q := 233) C dL_sound_232 (by decide) rfl ?_
        refine g_callVi (x := (rX7_side_0 ci L 0)) (q := 236) (As := [.int 0, .int 0]) C gyX7_side gvX7_side t_828 (c_X7_side_0_c HC HL) dL_sound_233 rfl HC rfl rfl rfl (Nat.le_of_ble_eq_true rfl) (Nat.le_of_ble_eq_true rfl) (Nat.le_of_ble_eq_true rfl) (Nat.le_of_ble_eq_true rfl) (Nat.le_of_ble_eq_true rfl) rfl ?_
        refine g_icmp_ne_f (t := 272) (q := 239) C dL_sound_236 (by decide) rfl (by rw [gside0 hci] at c_220; rw [gside0 hci, gside0 hci]; exact gtell8 c_220) ?_
        refine g_aload_n (q := 240) C dL_sound_239 rfl rfl ?_
        refine g_iload_n (q := 241) C dL_sound_240 rfl rfl ?_
        refine g_iconst (v := 5) (q := 242) C dL_sound_241 (by decide) rfl ?_
        refine g_callVi (x := (rX7_side_0 ci L 5)) (q := 245) (As := [.int 0, .int 5]) C gyX7_side gvX7_side t_828 (c_X7_side_0_c HC HL) dL_sound_242 rfl HC rfl rfl rfl (Nat.le_of_ble_eq_true rfl) (Nat.le_of_ble_eq_true rfl) (Nat.le_of_ble_eq_true rfl) (Nat.le_of_ble_eq_true rfl) (Nat.le_of_ble_eq_true rfl) rfl ?_
        refine g_bipush (v := 60) (q := 247) C dL_sound_245 (by decide) rfl ?_
        refine g_icmp_gt_f (t := 272) (q := 250) C dL_sound_247 (by decide) rfl (by rw [gside0 hci]; exact gnlt (nI_le (show L.rd.inn.length ≤ 60 from HL.2.1.2.2.2.le.1) (by decide))) ?_
        refine g_aload_n (q := 251) C dL_sound_250 rfl rfl ?_
        refine g_iload_n (q := 252) C dL_sound_251 rfl rfl ?_
        refine g_iconst (v := 2) (q := 253) C dL_sound_252 (by decide) rfl ?_
        refine g_callVi (x := (rX7_side_0 ci L 2)) (q := 256) (As := [.int 0, .int 2]) C gyX7_side gvX7_side t_828 (c_X7_side_0_c HC HL) dL_sound_253 rfl HC rfl rfl rfl (Nat.le_of_ble_eq_true rfl) (Nat.le_of_ble_eq_true rfl) (Nat.le_of_ble_eq_true rfl) (Nat.le_of_ble_eq_true rfl) (Nat.le_of_ble_eq_true rfl) rfl ?_
        refine g_iconst (v := 1) (q := 257) C dL_sound_256 (by decide) rfl ?_
        refine g_icmp_lt_f (t := 272) (q := 260) C dL_sound_257 (by decide) rfl (by rw [gside0 hci]; show ¬ L.rd.ro < 1; obtain ⟨r, h1, h2, e⟩ := sr.2; rw [e]; exact nI_nlt (b := 1) h1 (by omega)) ?_
        refine g_aload_n (q := 261) C dL_sound_260 rfl rfl ?_
        refine g_iload_n (q := 262) C dL_sound_261 rfl rfl ?_
        refine g_iconst (v := 2) (q := 263) C dL_sound_262 (by decide) rfl ?_
        refine g_callVi (x := (rX7_side_0 ci L 2)) (q := 266) (As := [.int 0, .int 2]) C gyX7_side gvX7_side t_828 (c_X7_side_0_c HC HL) dL_sound_263 rfl HC rfl rfl rfl (Nat.le_of_ble_eq_true rfl) (Nat.le_of_ble_eq_true rfl) (Nat.le_of_ble_eq_true rfl) (Nat.le_of_ble_eq_true rfl) (Nat.le_of_ble_eq_true rfl) rfl ?_
        refine g_sipush (v := 254) (q := 269) C dL_sound_266 (by decide) rfl ?_
        refine g_icmp_le_t (t := 274) C dL_sound_269 (by decide) (by rw [gside0 hci]; show L.rd.ro ≤ 254; obtain ⟨r, h1, h2, e⟩ := sr.2; rw [e]; exact nI_le (b := 254) h2 (by decide)) ?_
        refine g_iinc (v := 1) (q := 277) C dL_sound_274 rfl (by decide) (by simp only [gset]; rfl) rfl ?_
        refine g_goto (q := 193) C dL_sound_277 (by decide) ?_
        refine g_iload_n (q := 194) C dL_sound_193 rfl rfl ?_
        refine g_iconst (v := 2) (q := 195) C dL_sound_194 (by decide) rfl ?_
        refine g_icmp_ge_f (t := 280) (q := 198) C dL_sound_195 (by decide) rfl (by decide) ?_
        refine g_aload_n (q := 199) C dL_sound_198 rfl rfl ?_
        refine g_iload_n (q := 200) C dL_sound_199 rfl rfl ?_
        refine g_iconst (v := 4) (q := 201) C dL_sound_200 (by decide) rfl ?_
        refine g_callVi (x := (rX7_side_1 ci L 4)) (q := 204) (As := [.int 1, .int 4]) C gyX7_side gvX7_side t_828 (c_X7_side_1_c HC HL) dL_sound_201 rfl HC rfl rfl rfl (Nat.le_of_ble_eq_true rfl) (Nat.le_of_ble_eq_true rfl) (Nat.le_of_ble_eq_true rfl) (Nat.le_of_ble_eq_true rfl) (Nat.le_of_ble_eq_true rfl) rfl ?_
        refine g_aload_n (q := 205) C dL_sound_204 rfl rfl ?_
        refine g_iload_n (q := 206) C dL_sound_205 rfl rfl ?_
        refine g_iconst (v := 3) (q := 207) C dL_sound_206 (by decide) rfl ?_
        refine g_callVi (x := (rX7_side_1 ci L 3)) (q := 210) (As := [.int 1, .int 3]) C gyX7_side gvX7_side t_828 (c_X7_side_1_c HC HL) dL_sound_207 rfl HC rfl rfl rfl (Nat.le_of_ble_eq_true rfl) (Nat.le_of_ble_eq_true rfl) (Nat.le_of_ble_eq_true rfl) (Nat.le_of_ble_eq_true rfl) (Nat.le_of_ble_eq_true rfl) rfl ?_
        refine g_icmp_gt_f (t := 272) (q := 213) C dL_sound_210 (by decide) rfl (by rw [gside1 hci, gside1 hci]; exact gnlt sc.1) ?_
        refine g_aload_n (q := 214) C dL_sound_213 rfl rfl ?_
        refine g_iload_n (q := 215) C dL_sound_214 rfl rfl ?_
        refine g_bipush (v := 8) (q := 217) C dL_sound_215 (by decide) rfl ?_
        refine g_callVi (x := (rX7_side_1 ci L 8)) (q := 220) (As := [.int 1, .int 8]) C gyX7_side gvX7_side t_828 (c_X7_side_1_c HC HL) dL_sound_217 rfl HC rfl rfl rfl (Nat.le_of_ble_eq_true rfl) (Nat.le_of_ble_eq_true rfl) (Nat.le_of_ble_eq_true rfl) (Nat.le_of_ble_eq_true rfl) (Nat.le_of_ble_eq_true rfl) rfl ?_
        refine g_if_lt (t := 239) (q := 223) C dL_sound_220 (by decide) rfl (fun c_220 => ?_) (fun c_220 => ?_)
        ·
          refine g_aload_n (q := 240) C dL_sound_239 rfl rfl ?_
          refine g_iload_n (q := 241) C dL_sound_240 rfl rfl ?_
          refine g_iconst (v := 5) (q := 242) C dL_sound_241 (by decide) rfl ?_
          refine g_callVi (x := (rX7_side_1 ci L 5)) (q := 245) (As := [.int 1, .int 5]) C gyX7_side gvX7_side t_828 (c_X7_side_1_c HC HL) dL_sound_242 rfl HC rfl rfl rfl (Nat.le_of_ble_eq_true rfl) (Nat.le_of_ble_eq_true rfl) (Nat.le_of_ble_eq_true rfl) (Nat.le_of_ble_eq_true rfl) (Nat.le_of_ble_eq_true rfl) rfl ?_
          refine g_bipush (v := 60) (q := 247) C dL_sound_245 (by decide) rfl ?_
          refine g_icmp_gt_f (t := 272) (q := 250) C dL_sound_247 (by decide) rfl (by rw [gside1 hci]; exact gnlt (nI_le (show L.cd.inn.length ≤ 60 from HL.2.2.1.2.2.2.le.1) (by decide))) ?_
          refine g_aload_n (q := 251) C dL_sound_250 rfl rfl ?_
          refine g_iload_n (q := 252) C dL_sound_251 rfl rfl ?_
          refine g_iconst (v := 2) (q := 253) C dL_sound_252 (by decide) rfl ?_
          refine g_callVi (x := (rX7_side_1 ci L 2)) (q := 256) (As := [.int 1, .int 2]) C gyX7_side gvX7_side t_828 (c_X7_side_1_c HC HL) dL_sound_253 rfl HC rfl rfl rfl (Nat.le_of_ble_eq_true rfl) (Nat.le_of_ble_eq_true rfl) (Nat.le_of_ble_eq_true rfl) (Nat.le_of_ble_eq_true rfl) (Nat.le_of_ble_eq_true rfl) rfl ?_
          refine g_iconst (v := 1) (q := 257) C dL_sound_256 (by decide) rfl ?_
          refine g_icmp_lt_f (t := 272) (q := 260) C dL_sound_257 (by decide) rfl (by rw [gside1 hci]; show ¬ L.cd.ro < 1; obtain ⟨r, h1, h2, e⟩ := sc.2; rw [e]; exact nI_nlt (b := 1) h1 (by omega)) ?_
          refine g_aload_n (q := 261) C dL_sound_260 rfl rfl ?_
          refine g_iload_n (q := 262) C dL_sound_261 rfl rfl ?_
          refine g_iconst (v := 2) (q := 263) C dL_sound_262 (by decide) rfl ?_
          refine g_callVi (x := (rX7_side_1 ci L 2)) (q := 266) (As := [.int 1, .int 2]) C gyX7_side gvX7_side t_828 (c_X7_side_1_c HC HL) dL_sound_263 rfl HC rfl rfl rfl (Nat.le_of_ble_eq_true rfl) (Nat.le_of_ble_eq_true rfl) (Nat.le_of_ble_eq_true rfl) (Nat.le_of_ble_eq_true rfl) (Nat.le_of_ble_eq_true rfl) rfl ?_
          refine g_sipush (v := 254) (q := 269) C dL_sound_266 (by decide) rfl ?_
          refine g_icmp_le_t (t := 274) C dL_sound_269 (by decide) (by rw [gside1 hci]; show L.cd.ro ≤ 254; obtain ⟨r, h1, h2, e⟩ := sc.2; rw [e]; exact nI_le (b := 254) h2 (by decide)) ?_
          refine g_iinc (v := 2) (q := 277) C dL_sound_274 rfl (by decide) (by simp only [gset]; rfl) rfl ?_
          refine g_goto (q := 193) C dL_sound_277 (by decide) ?_
          refine g_iload_n (q := 194) C dL_sound_193 rfl rfl ?_
          refine g_iconst (v := 2) (q := 195) C dL_sound_194 (by decide) rfl ?_
          refine g_icmp_ge_t (t := 280) C dL_sound_195 (by decide) (by decide) ?_
          refine g_aload_n (q := 281) C dL_sound_280 rfl rfl ?_
          refine g_iconst (v := 3) (q := 282) C dL_sound_281 (by decide) rfl ?_
          refine g_callVi (x := L.tr) (q := 285) (As := [.int 3]) C gyX7_count gvX7_count t_840 (c_X7_count_3_c HC HL) dL_sound_282 rfl HC rfl rfl rfl (Nat.le_of_ble_eq_true rfl) (Nat.le_of_ble_eq_true rfl) (Nat.le_of_ble_eq_true rfl) (Nat.le_of_ble_eq_true rfl) (Nat.le_of_ble_eq_true rfl) rfl ?_
          refine g_if_lt_f (t := 324) (q := 288) C dL_sound_285 (by decide) rfl (by rw [ek]; exact nI_pos (by omega)) ?_
          refine g_aload_n (q := 289) C dL_sound_288 rfl rfl ?_
          refine g_iconst (v := 3) (q := 290) C dL_sound_289 (by decide) rfl ?_
          refine g_callVi (x := L.tr) (q := 293) (As := [.int 3]) C gyX7_count gvX7_count t_840 (c_X7_count_3_c HC HL) dL_sound_290 rfl HC rfl rfl rfl (Nat.le_of_ble_eq_true rfl) (Nat.le_of_ble_eq_true rfl) (Nat.le_of_ble_eq_true rfl) (Nat.le_of_ble_eq_true rfl) (Nat.le_of_ble_eq_true rfl) rfl ?_
          refine g_iconst (v := 3) (q := 294) C dL_sound_293 (by decide) rfl ?_
          refine g_icmp_ge_f (t := 324) (q := 297) C dL_sound_294 (by decide) rfl (by rw [ek]; exact nI_ge (b := 3) hk3 (by decide)) ?_
          refine g_aload_n (q := 298) C dL_sound_297 rfl rfl ?_
          refine g_iconst (v := 1) (q := 299) C dL_sound_298 (by decide) rfl ?_
          refine g_callVi (x := (nI A)) (q := 302) (As := [.int 1]) C gyX7_count gvX7_count t_840 (c_X7_count_1_c HC HL HW) dL_sound_299 rfl HC rfl rfl rfl (Nat.le_of_ble_eq_true rfl) (Nat.le_of_ble_eq_true rfl) (Nat.le_of_ble_eq_true rfl) (Nat.le_of_ble_eq_true rfl) (Nat.le_of_ble_eq_true rfl) rfl ?_
          refine g_aload_n (q := 303) C dL_sound_302 rfl rfl ?_
          refine g_iconst (v := 0) (q := 304) C dL_sound_303 (by decide) rfl ?_
          refine g_callVi (x := (nI Lt)) (q := 307) (As := [.int 0]) C gyX7_count gvX7_count t_840 (c_X7_count_0_c HC HL HW) dL_sound_304 rfl HC rfl rfl rfl (Nat.le_of_ble_eq_true rfl) (Nat.le_of_ble_eq_true rfl) (Nat.le_of_ble_eq_true rfl) (Nat.le_of_ble_eq_true rfl) (Nat.le_of_ble_eq_true rfl) rfl ?_
          refine g_icmp_gt_f (t := 324) (q := 310) C dL_sound_307 (by decide) rfl (gnlt (nI_le hA (by omega))) ?_
          refine g_aload_n (q := 311) C dL_sound_310 rfl rfl ?_
          refine g_iconst (v := 2) (q := 312) C dL_sound_311 (by decide) rfl ?_
          refine g_callVi (x := (nI m)) (q := 315) (As := [.int 2]) C gyX7_count gvX7_count t_840 (c_X7_count_2_c HC HL HW) dL_sound_312 rfl HC rfl rfl rfl (Nat.le_of_ble_eq_true rfl) (Nat.le_of_ble_eq_true rfl) (Nat.le_of_ble_eq_true rfl) (Nat.le_of_ble_eq_true rfl) (Nat.le_of_ble_eq_true rfl) rfl ?_
          refine g_bipush (v := 24) (q := 317) C dL_sound_315 (by decide) rfl ?_
          refine g_icmp_gt_f (t := 324) (q := 320) C dL_sound_317 (by decide) rfl (gnlt (nI_le (b := 24) hm24 (by decide))) ?_
          refine g_iconst (v := 1) (q := 321) C dL_sound_320 (by decide) rfl ?_
          refine g_goto (q := 325) C dL_sound_321 (by decide) ?_
          exact E9.1 _ _ _ _ _ _ _ dL_sound_325 rfl rfl (Nat.le_of_ble_eq_true rfl) (Nat.le_of_ble_eq_true rfl) ⟨rfl, rfl⟩
        ·
          refine g_aload_n (q := 224) C dL_sound_223 rfl rfl ?_
          refine g_iload_n (q := 225) C dL_sound_224 rfl rfl ?_
          refine g_bipush (v := 8) (q := 227) C dL_sound_225 (by decide) rfl ?_
          refine g_callVi (x := (rX7_side_1 ci L 8)) (q := 230) (As := [.int 1, .int 8]) C gyX7_side gvX7_side t_828 (c_X7_side_1_c HC HL) dL_sound_227 rfl HC rfl rfl rfl (Nat.le_of_ble_eq_true rfl) (Nat.le_of_ble_eq_true rfl) (Nat.le_of_ble_eq_true rfl) (Nat.le_of_ble_eq_true rfl) (Nat.le_of_ble_eq_true rfl) rfl ?_
          refine g_aload_n (q := 231) C dL_sound_230 rfl rfl ?_
          refine g_iload_n (q := 232) C dL_sound_231 rfl rfl ?_
          refine g_iconst (v := 0) (q := 233) C dL_sound_232 (by decide) rfl ?_
          refine g_callVi (x := (rX7_side_1 ci L 0)) (q := 236) (As := [.int 1, .int 0]) C gyX7_side gvX7_side t_828 (c_X7_side_1_c HC HL) dL_sound_233 rfl HC rfl rfl rfl (Nat.le_of_ble_eq_true rfl) (Nat.le_of_ble_eq_true rfl) (Nat.le_of_ble_eq_true rfl) (Nat.le_of_ble_eq_true rfl) (Nat.le_of_ble_eq_true rfl) rfl ?_
          refine g_icmp_ne_f (t := 272) (q := 239) C dL_sound_236 (by decide) rfl (by rw [gside1 hci] at c_220; rw [gside1 hci, gside1 hci]; exact gtell8 c_220) ?_
          refine g_aload_n (q := 240) C dL_sound_239 rfl rfl ?_
          refine g_iload_n (q := 241) C dL_sound_240 rfl rfl ?_
          refine g_iconst (v := 5) (q := 242) C dL_sound_241 (by decide) rfl ?_
          refine g_callVi (x := (rX7_side_1 ci L 5)) (q := 245) (As := [.int 1, .int 5]) C gyX7_side gvX7_side t_828 (c_X7_side_1_c HC HL) dL_sound_242 rfl HC rfl rfl rfl (Nat.le_of_ble_eq_true rfl) (Nat.le_of_ble_eq_true rfl) (Nat.le_of_ble_eq_true rfl) (Nat.le_of_ble_eq_true rfl) (Nat.le_of_ble_eq_true rfl) rfl ?_
          refine g_bipush (v := 60) (q := 247) C dL_sound_245 (by decide) rfl ?_
          refine g_icmp_gt_f (t := 272) (q := 250) C dL_sound_247 (by decide) rfl (by rw [gside1 hci]; exact gnlt (nI_le (show L.cd.inn.length ≤ 60 from HL.2.2.1.2.2.2.le.1) (by decide))) ?_
          refine g_aload_n (q := 251) C dL_sound_250 rfl rfl ?_
          refine g_iload_n (q := 252) C dL_sound_251 rfl rfl ?_
          refine g_iconst (v := 2) (q := 253) C dL_sound_252 (by decide) rfl ?_
          refine g_callVi (x := (rX7_side_1 ci L 2)) (q := 256) (As := [.int 1, .int 2]) C gyX7_side gvX7_side t_828 (c_X7_side_1_c HC HL) dL_sound_253 rfl HC rfl rfl rfl (Nat.le_of_ble_eq_true rfl) (Nat.le_of_ble_eq_true rfl) (Nat.le_of_ble_eq_true rfl) (Nat.le_of_ble_eq_true rfl) (Nat.le_of_ble_eq_true rfl) rfl ?_
          refine g_iconst (v := 1) (q := 257) C dL_sound_256 (by decide) rfl ?_
          refine g_icmp_lt_f (t := 272) (q := 260) C dL_sound_257 (by decide) rfl (by rw [gside1 hci]; show ¬ L.cd.ro < 1; obtain ⟨r, h1, h2, e⟩ := sc.2; rw [e]; exact nI_nlt (b := 1) h1 (by omega)) ?_
          refine g_aload_n (q := 261) C dL_sound_260 rfl rfl ?_
          refine g_iload_n (q := 262) C dL_sound_261 rfl rfl ?_
          refine g_iconst (v := 2) (q := 263) C dL_sound_262 (by decide) rfl ?_
          refine g_callVi (x := (rX7_side_1 ci L 2)) (q := 266) (As := [.int 1, .int 2]) C gyX7_side gvX7_side t_828 (c_X7_side_1_c HC HL) dL_sound_263 rfl HC rfl rfl rfl (Nat.le_of_ble_eq_true rfl) (Nat.le_of_ble_eq_true rfl) (Nat.le_of_ble_eq_true rfl) (Nat.le_of_ble_eq_true rfl) (Nat.le_of_ble_eq_true rfl) rfl ?_
          refine g_sipush (v := 254) (q := 269) C dL_sound_266 (by decide) rfl ?_
          refine g_icmp_le_t (t := 274) C dL_sound_269 (by decide) (by rw [gside1 hci]; show L.cd.ro ≤ 254; obtain ⟨r, h1, h2, e⟩ := sc.2; rw [e]; exact nI_le (b := 254) h2 (by decide)) ?_
          refine g_iinc (v := 2) (q := 277) C dL_sound_274 rfl (by decide) (by simp only [gset]; rfl) rfl ?_
          refine g_goto (q := 193) C dL_sound_277 (by decide) ?_
          refine g_iload_n (q := 194) C dL_sound_193 rfl rfl ?_
          refine g_iconst (v := 2) (q := 195) C dL_sound_194 (by decide) rfl ?_
          refine g_icmp_ge_t (t := 280) C dL_sound_195 (by decide) (by decide) ?_
          refine g_aload_n (q := 281) C dL_sound_280 rfl rfl ?_
          refine g_iconst (v := 3) (q := 282) C dL_sound_281 (by decide) rfl ?_
          refine g_callVi (x := L.tr) (q := 285) (As := [.int 3]) C gyX7_count gvX7_count t_840 (c_X7_count_3_c HC HL) dL_sound_282 rfl HC rfl rfl rfl (Nat.le_of_ble_eq_true rfl) (Nat.le_of_ble_eq_true rfl) (Nat.le_of_ble_eq_true rfl) (Nat.le_of_ble_eq_true rfl) (Nat.le_of_ble_eq_true rfl) rfl ?_
          refine g_if_lt_f (t := 324) (q := 288) C dL_sound_285 (by decide) rfl (by rw [ek]; exact nI_pos (by omega)) ?_
          refine g_aload_n (q := 289) C dL_sound_288 rfl rfl ?_
          refine g_iconst (v := 3) (q := 290) C dL_sound_289 (by decide) rfl ?_
          refine g_callVi (x := L.tr) (q := 293) (As := [.int 3]) C gyX7_count gvX7_count t_840 (c_X7_count_3_c HC HL) dL_sound_290 rfl HC rfl rfl rfl (Nat.le_of_ble_eq_true rfl) (Nat.le_of_ble_eq_true rfl) (Nat.le_of_ble_eq_true rfl) (Nat.le_of_ble_eq_true rfl) (Nat.le_of_ble_eq_true rfl) rfl ?_
          refine g_iconst (v := 3) (q := 294) C dL_sound_293 (by decide) rfl ?_
          refine g_icmp_ge_f (t := 324) (q := 297) C dL_sound_294 (by decide) rfl (by rw [ek]; exact nI_ge (b := 3) hk3 (by decide)) ?_
          refine g_aload_n (q := 298) C dL_sound_297 rfl rfl ?_
          refine g_iconst (v := 1) (q := 299) C dL_sound_298 (by decide) rfl ?_
          refine g_callVi (x := (nI A)) (q := 302) (As := [.int 1]) C gyX7_count gvX7_count t_840 (c_X7_count_1_c HC HL HW) dL_sound_299 rfl HC rfl rfl rfl (Nat.le_of_ble_eq_true rfl) (Nat.le_of_ble_eq_true rfl) (Nat.le_of_ble_eq_true rfl) (Nat.le_of_ble_eq_true rfl) (Nat.le_of_ble_eq_true rfl) rfl ?_
          refine g_aload_n (q := 303) C dL_sound_302 rfl rfl ?_
          refine g_iconst (v := 0) (q := 304) C dL_sound_303 (by decide) rfl ?_
          refine g_callVi (x := (nI Lt)) (q := 307) (As := [.int 0]) C gyX7_count gvX7_count t_840 (c_X7_count_0_c HC HL HW) dL_sound_304 rfl HC rfl rfl rfl (Nat.le_of_ble_eq_true rfl) (Nat.le_of_ble_eq_true rfl) (Nat.le_of_ble_eq_true rfl) (Nat.le_of_ble_eq_true rfl) (Nat.le_of_ble_eq_true rfl) rfl ?_
          refine g_icmp_gt_f (t := 324) (q := 310) C dL_sound_307 (by decide) rfl (gnlt (nI_le hA (by omega))) ?_
          refine g_aload_n (q := 311) C dL_sound_310 rfl rfl ?_
          refine g_iconst (v := 2) (q := 312) C dL_sound_311 (by decide) rfl ?_
          refine g_callVi (x := (nI m)) (q := 315) (As := [.int 2]) C gyX7_count gvX7_count t_840 (c_X7_count_2_c HC HL HW) dL_sound_312 rfl HC rfl rfl rfl (Nat.le_of_ble_eq_true rfl) (Nat.le_of_ble_eq_true rfl) (Nat.le_of_ble_eq_true rfl) (Nat.le_of_ble_eq_true rfl) (Nat.le_of_ble_eq_true rfl) rfl ?_
          refine g_bipush (v := 24) (q := 317) C dL_sound_315 (by decide) rfl ?_
          refine g_icmp_gt_f (t := 324) (q := 320) C dL_sound_317 (by decide) rfl (gnlt (nI_le (b := 24) hm24 (by decide))) ?_
          refine g_iconst (v := 1) (q := 321) C dL_sound_320 (by decide) rfl ?_
          refine g_goto (q := 325) C dL_sound_321 (by decide) ?_
          exact E9.1 _ _ _ _ _ _ _ dL_sound_325 rfl rfl (Nat.le_of_ble_eq_true rfl) (Nat.le_of_ble_eq_true rfl) ⟨rfl, rfl⟩
  have LL : ∀ d i : Nat, i + d = min N 30 → ∀ (lt : Int32) (x4 x5 : Option Value), (N < 30 → lt = nI (((List.range i).map fun q => TT.getD (N - 1 - q) 0).sum)) → gG X 6 [some (.ref 0), some (.int lt), some (.int (nI i)), some (.int (nI i)), x4, x5] [] hp 0 0 := by
    intro d
    induction d with
    | zero =>
      intro i hi lt x4 x5 hlt
      obtain rfl : min N 30 = i := by omega
      refine g_iload_n (q := 7) C dL_sound_6 rfl rfl ?_
      refine g_aload_n (q := 8) C dL_sound_7 rfl rfl ?_
      refine g_iconst (v := 5) (q := 9) C dL_sound_8 (by decide) rfl ?_
      refine g_callVi (x := (rX7_count_5 ci J)) (q := 12) (As := [.int 5]) C gyX7_count gvX7_count t_840 (c_X7_count_5_c HC HJ) dL_sound_9 rfl HC rfl rfl rfl (Nat.le_of_ble_eq_true rfl) (Nat.le_of_ble_eq_true rfl) (Nat.le_of_ble_eq_true rfl) (Nat.le_of_ble_eq_true rfl) (Nat.le_of_ble_eq_true rfl) rfl ?_
      refine g_icmp_ge_t (t := 132) C dL_sound_12 (by decide) (by rw [show rX7_count_5 ci J = nI (min N 30) from congrArg nI e5]; exact nI_le (Nat.le_refl (min N 30)) (by omega)) ?_
      exact KE _ _ _ (fun h => by rw [hlt h]; have hm : min N 30 = N := (by omega); rw [hm, grev (by omega)]; exact congrArg nI (HV.2.2.2.2.2.2.2.2.2.2 h))
    | succ d ih =>
      intro i hi lt x4 x5 hlt
      have hik : i < min N 30 := by omega
      obtain ⟨p, y, b, t, hpp, hpN, hb, t1, t2, t4, hbl, htb, ht1, htN, t5, tb, te⟩ := gtells HV hN hik
      have b4 := hb.1
      have b64 := hb.2.1
      refine g_iload_n (q := 7) C dL_sound_6 rfl rfl ?_
      refine g_aload_n (q := 8) C dL_sound_7 rfl rfl ?_
      refine g_iconst (v := 5) (q := 9) C dL_sound_8 (by decide) rfl ?_
      refine g_callVi (x := (rX7_count_5 ci J)) (q := 12) (As := [.int 5]) C gyX7_count gvX7_count t_840 (c_X7_count_5_c HC HJ) dL_sound_9 rfl HC rfl rfl rfl (Nat.le_of_ble_eq_true rfl) (Nat.le_of_ble_eq_true rfl) (Nat.le_of_ble_eq_true rfl) (Nat.le_of_ble_eq_true rfl) (Nat.le_of_ble_eq_true rfl) rfl ?_
      refine g_icmp_ge_f (t := 132) (q := 15) C dL_sound_12 (by decide) rfl (fun h => nI_ge hik (by omega) (by rw [← show rX7_count_5 ci J = nI (min N 30) from congrArg nI e5]; exact h)) ?_
      refine g_iconst (v := 0) (q := 16) C dL_sound_15 (by decide) rfl ?_
      refine g_istore (q := 18) C dL_sound_16 (Nat.le_of_ble_eq_true rfl) (by simp only [gset]; rfl) rfl ?_
      refine g_iconst (v := 0) (q := 19) C dL_sound_18 (by decide) rfl ?_
      refine g_istore (q := 21) C dL_sound_19 (Nat.le_of_ble_eq_true rfl) (by simp only [gset]; rfl) rfl ?_
      have L2 : ∀ d2 n : Nat, n + d2 = b.length → gG X 21 [some (.ref 0), some (.int lt), some (.int (nI i)), some (.int (nI i)), some (.int (nI n)), some (.int (gxs b n))] [] hp 0 0 := by
        intro d2
        induction d2 with
        | zero =>
          intro n hn
          obtain rfl : b.length = n := by omega
          refine g_aload_n (q := 22) C dL_sound_21 rfl rfl ?_
          refine g_iload_n (q := 23) C dL_sound_22 rfl rfl ?_
          refine g_iload (q := 25) C dL_sound_23 rfl rfl ?_
          refine g_callVi (x := (rX7_byteOf ci J (nI i) (nI b.length))) (q := 28) (As := [.int ((nI i)), .int ((nI b.length))]) C gyX7_byteOf gvX7_byteOf t_896 (c_X7_byteOf_c HC HJ) dL_sound_25 rfl HC rfl rfl rfl (Nat.le_of_ble_eq_true rfl) (Nat.le_of_ble_eq_true rfl) (Nat.le_of_ble_eq_true rfl) (Nat.le_of_ble_eq_true rfl) (Nat.le_of_ble_eq_true rfl) rfl ?_
          refine g_if_lt_t (t := 49) C dL_sound_28 (by decide) (by rw [gbof e5 (by omega) hik, te]; decide) ?_
          refine g_iinc (v := (nI (i + 1))) (q := 52) C dL_sound_49 rfl (nI_1 i) (by simp only [gset]; rfl) rfl ?_
          refine g_iload_n (q := 53) C dL_sound_52 rfl rfl ?_
          refine g_aload_n (q := 54) C dL_sound_53 rfl rfl ?_
          refine g_iload_n (q := 55) C dL_sound_54 rfl rfl ?_
          refine g_iconst (v := 4) (q := 56) C dL_sound_55 (by decide) rfl ?_
          refine g_callVi (x := (rX7_log_4 ci J (nI i))) (q := 59) (As := [.int ((nI i)), .int 4]) C gyX7_log gvX7_log t_908 (c_X7_log_4_c HC HJ (nI_pos (by omega)) (by rw [e5]; exact nI_ge hik (by omega))) dL_sound_56 rfl HC rfl rfl rfl (Nat.le_of_ble_eq_true rfl) (Nat.le_of_ble_eq_true rfl) (Nat.le_of_ble_eq_true rfl) (Nat.le_of_ble_eq_true rfl) (Nat.le_of_ble_eq_true rfl) rfl ?_
          refine g_iadd (q := 60) C dL_sound_59 rfl ?_
          refine g_istore_n (q := 61) C dL_sound_60 (Nat.le_of_ble_eq_true rfl) (by simp only [gset]; rfl) rfl ?_
          refine g_iload (q := 63) C dL_sound_61 rfl rfl ?_
          refine g_aload_n (q := 64) C dL_sound_63 rfl rfl ?_
          refine g_iload_n (q := 65) C dL_sound_64 rfl rfl ?_
          refine g_iconst (v := 2) (q := 66) C dL_sound_65 (by decide) rfl ?_
          refine g_callVi (x := (rX7_log_2 ci J (nI i))) (q := 69) (As := [.int ((nI i)), .int 2]) C gyX7_log gvX7_log t_908 (c_X7_log_2_c HC HJ (nI_pos (by omega)) (by rw [e5]; exact nI_ge hik (by omega))) dL_sound_66 rfl HC rfl rfl rfl (Nat.le_of_ble_eq_true rfl) (Nat.le_of_ble_eq_true rfl) (Nat.le_of_ble_eq_true rfl) (Nat.le_of_ble_eq_true rfl) (Nat.le_of_ble_eq_true rfl) rfl ?_
          refine g_iconst (v := 4) (q := 70) C dL_sound_69 (by decide) rfl ?_
          refine g_iadd (q := 71) C dL_sound_70 rfl ?_
          refine g_icmp_ne_f (t := 124) (q := 74) C dL_sound_71 (by decide) rfl (by rw [show rX7_log_2 ci J (nI i) = nI (b.length - 4) from t2, show (4 : Int32) = nI 4 from rfl, nI_add]; congr 1; omega) ?_
          refine g_iload (q := 76) C dL_sound_74 rfl rfl ?_
          refine g_if_ne_f (t := 124) (q := 79) C dL_sound_76 (by decide) rfl hb.2.2.2.2.2 ?_
          refine g_aload_n (q := 80) C dL_sound_79 rfl rfl ?_
          refine g_iload_n (q := 81) C dL_sound_80 rfl rfl ?_
          refine g_iconst (v := 0) (q := 82) C dL_sound_81 (by decide) rfl ?_
          refine g_callVi (x := (rX7_byteOf ci J (nI i) 0)) (q := 85) (As := [.int ((nI i)), .int 0]) C gyX7_byteOf gvX7_byteOf t_896 (c_X7_byteOf_c HC HJ) dL_sound_82 rfl HC rfl rfl rfl (Nat.le_of_ble_eq_true rfl) (Nat.le_of_ble_eq_true rfl) (Nat.le_of_ble_eq_true rfl) (Nat.le_of_ble_eq_true rfl) (Nat.le_of_ble_eq_true rfl) rfl ?_
          refine g_if_ne_f (t := 124) (q := 88) C dL_sound_85 (by decide) rfl (by rw [gbof e5 (by omega) hik]; exact (tb 0 (by omega)).trans hb.2.2.2.1) ?_
          refine g_aload_n (q := 89) C dL_sound_88 rfl rfl ?_
          refine g_iload_n (q := 90) C dL_sound_89 rfl rfl ?_
          refine g_iconst (v := 1) (q := 91) C dL_sound_90 (by decide) rfl ?_
          refine g_callVi (x := (rX7_byteOf ci J (nI i) 1)) (q := 94) (As := [.int ((nI i)), .int 1]) C gyX7_byteOf gvX7_byteOf t_896 (c_X7_byteOf_c HC HJ) dL_sound_91 rfl HC rfl rfl rfl (Nat.le_of_ble_eq_true rfl) (Nat.le_of_ble_eq_true rfl) (Nat.le_of_ble_eq_true rfl) (Nat.le_of_ble_eq_true rfl) (Nat.le_of_ble_eq_true rfl) rfl ?_
          refine g_aload_n (q := 95) C dL_sound_94 rfl rfl ?_
          refine g_iload_n (q := 96) C dL_sound_95 rfl rfl ?_
          refine g_iconst (v := 1) (q := 97) C dL_sound_96 (by decide) rfl ?_
          refine g_callVi (x := (rX7_log_1 ci J (nI i))) (q := 100) (As := [.int ((nI i)), .int 1]) C gyX7_log gvX7_log t_908 (c_X7_log_1_c HC HJ (nI_pos (by omega)) (by rw [e5]; exact nI_ge hik (by omega))) dL_sound_97 rfl HC rfl rfl rfl (Nat.le_of_ble_eq_true rfl) (Nat.le_of_ble_eq_true rfl) (Nat.le_of_ble_eq_true rfl) (Nat.le_of_ble_eq_true rfl) (Nat.le_of_ble_eq_true rfl) rfl ?_
          refine g_icmp_ne_f (t := 124) (q := 103) C dL_sound_100 (by decide) rfl (by rw [gbof e5 (by omega) hik]; exact (tb 1 (by omega)).trans t1.symm) ?_
          refine g_aload_n (q := 104) C dL_sound_103 rfl rfl ?_
          refine g_iload_n (q := 105) C dL_sound_104 rfl rfl ?_
          refine g_iconst (v := 4) (q := 106) C dL_sound_105 (by decide) rfl ?_
          refine g_callVi (x := (rX7_log_4 ci J (nI i))) (q := 109) (As := [.int ((nI i)), .int 4]) C gyX7_log gvX7_log t_908 (c_X7_log_4_c HC HJ (nI_pos (by omega)) (by rw [e5]; exact nI_ge hik (by omega))) dL_sound_106 rfl HC rfl rfl rfl (Nat.le_of_ble_eq_true rfl) (Nat.le_of_ble_eq_true rfl) (Nat.le_of_ble_eq_true rfl) (Nat.le_of_ble_eq_true rfl) (Nat.le_of_ble_eq_true rfl) rfl ?_
          refine g_iload (q := 111) C dL_sound_109 rfl rfl ?_
          refine g_icmp_lt_f (t := 124) (q := 114) C dL_sound_111 (by decide) rfl (by rw [show rX7_log_4 ci J (nI i) = nI (TT.getD p 0) from t4]; exact nI_nlt hbl (by omega)) ?_
          refine g_aload_n (q := 115) C dL_sound_114 rfl rfl ?_
          refine g_iload_n (q := 116) C dL_sound_115 rfl rfl ?_
          refine g_iconst (v := 5) (q := 117) C dL_sound_116 (by decide) rfl ?_
          refine g_callVi (x := (rX7_log_5 ci J (nI i))) (q := 120) (As := [.int ((nI i)), .int 5]) C gyX7_log gvX7_log t_908 (c_X7_log_5_c HC HJ (nI_pos (by omega)) (by rw [e5]; exact nI_ge hik (by omega))) dL_sound_117 rfl HC rfl rfl rfl (Nat.le_of_ble_eq_true rfl) (Nat.le_of_ble_eq_true rfl) (Nat.le_of_ble_eq_true rfl) (Nat.le_of_ble_eq_true rfl) (Nat.le_of_ble_eq_true rfl) rfl ?_
          refine g_iconst (v := 1) (q := 121) C dL_sound_120 (by decide) rfl ?_
          refine g_icmp_ge_t (t := 126) C dL_sound_121 (by decide) (by rw [show rX7_log_5 ci J (nI i) = nI t from t5]; exact nI_le (a := 1) ht1 (by omega)) ?_
          refine g_iinc (v := (nI (i + 1))) (q := 129) C dL_sound_126 rfl (nI_1 i) (by simp only [gset]; rfl) rfl ?_
          refine g_goto (q := 6) C dL_sound_129 (by decide) ?_
          exact ih (i + 1) (by omega) _ _ _ (fun h => by rw [hlt h, show rX7_log_4 ci J (nI i) = nI (TT.getD p 0) from t4, nI_add, List.range_succ, List.map_append, List.sum_append, hpN h]; simp)
        | succ d2 ih2 =>
          intro n hn
          refine g_aload_n (q := 22) C dL_sound_21 rfl rfl ?_
          refine g_iload_n (q := 23) C dL_sound_22 rfl rfl ?_
          refine g_iload (q := 25) C dL_sound_23 rfl rfl ?_
          refine g_callVi (x := (rX7_byteOf ci J (nI i) (nI n))) (q := 28) (As := [.int ((nI i)), .int ((nI n))]) C gyX7_byteOf gvX7_byteOf t_896 (c_X7_byteOf_c HC HJ) dL_sound_25 rfl HC rfl rfl rfl (Nat.le_of_ble_eq_true rfl) (Nat.le_of_ble_eq_true rfl) (Nat.le_of_ble_eq_true rfl) (Nat.le_of_ble_eq_true rfl) (Nat.le_of_ble_eq_true rfl) rfl ?_
          refine g_if_lt_f (t := 49) (q := 31) C dL_sound_28 (by decide) rfl (by rw [gbof e5 (by omega) hik, tb n (by omega)]; exact gin_nn hb.2.2.1 (by omega)) ?_
          refine g_iload (q := 33) C dL_sound_31 rfl rfl ?_
          refine g_aload_n (q := 34) C dL_sound_33 rfl rfl ?_
          refine g_iload_n (q := 35) C dL_sound_34 rfl rfl ?_
          refine g_iload (q := 37) C dL_sound_35 rfl rfl ?_
          refine g_callVi (x := (rX7_byteOf ci J (nI i) (nI n))) (q := 40) (As := [.int ((nI i)), .int ((nI n))]) C gyX7_byteOf gvX7_byteOf t_896 (c_X7_byteOf_c HC HJ) dL_sound_37 rfl HC rfl rfl rfl (Nat.le_of_ble_eq_true rfl) (Nat.le_of_ble_eq_true rfl) (Nat.le_of_ble_eq_true rfl) (Nat.le_of_ble_eq_true rfl) (Nat.le_of_ble_eq_true rfl) rfl ?_
          refine g_ixor (q := 41) C dL_sound_40 rfl ?_
          refine g_istore (q := 43) C dL_sound_41 (Nat.le_of_ble_eq_true rfl) (by simp only [gset]; rfl) rfl ?_
          refine g_iinc (v := (nI (n + 1))) (q := 46) C dL_sound_43 rfl (nI_1 n) (by simp only [gset]; rfl) rfl ?_
          refine g_goto (q := 21) C dL_sound_46 (by decide) ?_
          rw [gbof e5 (by omega) hik, tb n (by omega), ← gat_nI (by omega), gxs_s (by omega) (by omega)]
          exact ih2 (n + 1) (by omega)
      exact L2 b.length 0 (by omega)
  refine g_iconst (v := 0) (q := 1) C dL_sound_0 (by decide) rfl ?_
  refine g_istore_n (q := 2) C dL_sound_1 (Nat.le_of_ble_eq_true rfl) (by simp only [gset]; rfl) rfl ?_
  refine g_iconst (v := 0) (q := 3) C dL_sound_2 (by decide) rfl ?_
  refine g_istore_n (q := 4) C dL_sound_3 (Nat.le_of_ble_eq_true rfl) (by simp only [gset]; rfl) rfl ?_
  refine g_iconst (v := 0) (q := 5) C dL_sound_4 (by decide) rfl ?_
  refine g_istore_n (q := 6) C dL_sound_5 (Nat.le_of_ble_eq_true rfl) (by simp only [gset]; rfl) rfl ?_
  exact LL (min N 30) 0 (by omega) 0 none none (fun _ => rfl)
