/-! the reference: the reset (by program: wip/p2/m_nh.py) -/
/-- what a reset makes: refused, or a card's -/
def gRs (M M' : gMd) : Prop := M'.f 1 = 0 ∧ (((∀ k, ¬ k = 1 → ¬ k = 2 → ¬ k = 20 → ¬ k = 21 → ¬ k = 22 → ¬ k = 23 → ¬ k = 24 → M'.f k = M.f k) ∧ ∀ i q, ¬ i = 2 → M'.a i q = M.a i q) ∨
  ∃ M1 w c, 1 ≤ w ∧ w < 256 ∧ c ≤ 15 ∧ M1.f 3 = 1 ∧ (∀ k, ¬ k = 1 → ¬ k = 2 → ¬ k = 3 → ¬ k = 20 → ¬ k = 21 → ¬ k = 22 → ¬ k = 23 → ¬ k = 24 → M1.f k = M.f k) ∧ (∀ i q, ¬ i = 1 → ¬ i = 2 → ¬ i = 3 → M1.a i q = M.a i q) ∧ M1.a 1 6 = nI c ∧ M' = (rX8_begins M1).put 4 18 (nI w))
theorem dX8_reset_0 : decode cX8_reset 0 = .ok (.aload_n 0, 1) := by decide +kernel
theorem dX8_reset_1 : decode cX8_reset 1 = .ok (.iconst 0, 1) := by decide +kernel
theorem dX8_reset_2 : decode cX8_reset 2 = .ok (.putfield 66, 3) := by decide +kernel
theorem dX8_reset_5 : decode cX8_reset 5 = .ok (.aload_n 0, 1) := by decide +kernel
theorem dX8_reset_6 : decode cX8_reset 6 = .ok (.aload_n 0, 1) := by decide +kernel
theorem dX8_reset_7 : decode cX8_reset 7 = .ok (.getfield 75, 3) := by decide +kernel
theorem dX8_reset_10 : decode cX8_reset 10 = .ok (.putfield 92, 3) := by decide +kernel
theorem dX8_reset_13 : decode cX8_reset 13 = .ok (.aload_n 0, 1) := by decide +kernel
theorem dX8_reset_14 : decode cX8_reset 14 = .ok (.iconst 0, 1) := by decide +kernel
theorem dX8_reset_15 : decode cX8_reset 15 = .ok (.putfield 75, 3) := by decide +kernel
theorem dX8_reset_18 : decode cX8_reset 18 = .ok (.aload_n 0, 1) := by decide +kernel
theorem dX8_reset_19 : decode cX8_reset 19 = .ok (.iconst 0, 1) := by decide +kernel
theorem dX8_reset_20 : decode cX8_reset 20 = .ok (.putfield 89, 3) := by decide +kernel
theorem dX8_reset_23 : decode cX8_reset 23 = .ok (.aload_n 0, 1) := by decide +kernel
theorem dX8_reset_24 : decode cX8_reset 24 = .ok (.iconst 0, 1) := by decide +kernel
theorem dX8_reset_25 : decode cX8_reset 25 = .ok (.putfield 86, 3) := by decide +kernel
theorem dX8_reset_28 : decode cX8_reset 28 = .ok (.aload_n 0, 1) := by decide +kernel
theorem dX8_reset_29 : decode cX8_reset 29 = .ok (.iconst 0, 1) := by decide +kernel
theorem dX8_reset_30 : decode cX8_reset 30 = .ok (.putfield 113, 3) := by decide +kernel
theorem dX8_reset_33 : decode cX8_reset 33 = .ok (.aload_n 0, 1) := by decide +kernel
theorem dX8_reset_34 : decode cX8_reset 34 = .ok (.iconst 0, 1) := by decide +kernel
theorem dX8_reset_35 : decode cX8_reset 35 = .ok (.putfield 123, 3) := by decide +kernel
theorem dX8_reset_38 : decode cX8_reset 38 = .ok (.iconst 0, 1) := by decide +kernel
theorem dX8_reset_39 : decode cX8_reset 39 = .ok (.istore_n 1, 1) := by decide +kernel
theorem dX8_reset_40 : decode cX8_reset 40 = .ok (.iload_n 1, 1) := by decide +kernel
theorem dX8_reset_41 : decode cX8_reset 41 = .ok (.bipush 9, 2) := by decide +kernel
theorem dX8_reset_43 : decode cX8_reset 43 = .ok (.if_icmp .ge 16, 3) := by decide +kernel
theorem dX8_reset_46 : decode cX8_reset 46 = .ok (.aload_n 0, 1) := by decide +kernel
theorem dX8_reset_47 : decode cX8_reset 47 = .ok (.getfield 16, 3) := by decide +kernel
theorem dX8_reset_50 : decode cX8_reset 50 = .ok (.iload_n 1, 1) := by decide +kernel
theorem dX8_reset_51 : decode cX8_reset 51 = .ok (.iconst 0, 1) := by decide +kernel
theorem dX8_reset_52 : decode cX8_reset 52 = .ok (.iastore, 1) := by decide +kernel
theorem dX8_reset_53 : decode cX8_reset 53 = .ok (.iinc 1 1, 3) := by decide +kernel
theorem dX8_reset_56 : decode cX8_reset 56 = .ok (.goto (-16), 3) := by decide +kernel
theorem dX8_reset_59 : decode cX8_reset 59 = .ok (.aload_n 0, 1) := by decide +kernel
theorem dX8_reset_60 : decode cX8_reset 60 = .ok (.getfield 16, 3) := by decide +kernel
theorem dX8_reset_63 : decode cX8_reset 63 = .ok (.iconst 1, 1) := by decide +kernel
theorem dX8_reset_64 : decode cX8_reset 64 = .ok (.sipush 372, 3) := by decide +kernel
theorem dX8_reset_67 : decode cX8_reset 67 = .ok (.iastore, 1) := by decide +kernel
theorem dX8_reset_68 : decode cX8_reset 68 = .ok (.aload_n 0, 1) := by decide +kernel
theorem dX8_reset_69 : decode cX8_reset 69 = .ok (.getfield 16, 3) := by decide +kernel
theorem dX8_reset_72 : decode cX8_reset 72 = .ok (.iconst 2, 1) := by decide +kernel
theorem dX8_reset_73 : decode cX8_reset 73 = .ok (.iconst 1, 1) := by decide +kernel
theorem dX8_reset_74 : decode cX8_reset 74 = .ok (.iastore, 1) := by decide +kernel
theorem dX8_reset_75 : decode cX8_reset 75 = .ok (.aload_n 0, 1) := by decide +kernel
theorem dX8_reset_76 : decode cX8_reset 76 = .ok (.getfield 16, 3) := by decide +kernel
theorem dX8_reset_79 : decode cX8_reset 79 = .ok (.bipush 7, 2) := by decide +kernel
theorem dX8_reset_81 : decode cX8_reset 81 = .ok (.bipush 32, 2) := by decide +kernel
theorem dX8_reset_83 : decode cX8_reset 83 = .ok (.iastore, 1) := by decide +kernel
theorem dX8_reset_84 : decode cX8_reset 84 = .ok (.aload_n 0, 1) := by decide +kernel
theorem dX8_reset_85 : decode cX8_reset 85 = .ok (.getfield 16, 3) := by decide +kernel
theorem dX8_reset_88 : decode cX8_reset 88 = .ok (.iconst 0, 1) := by decide +kernel
theorem dX8_reset_89 : decode cX8_reset 89 = .ok (.aload_n 0, 1) := by decide +kernel
theorem dX8_reset_90 : decode cX8_reset 90 = .ok (.invokevirtual 99, 3) := by decide +kernel
theorem dX8_reset_93 : decode cX8_reset 93 = .ok (.iastore, 1) := by decide +kernel
theorem dX8_reset_94 : decode cX8_reset 94 = .ok (.aload_n 0, 1) := by decide +kernel
theorem dX8_reset_95 : decode cX8_reset 95 = .ok (.getfield 86, 3) := by decide +kernel
theorem dX8_reset_98 : decode cX8_reset 98 = .ok (.ifCond .ne 31, 3) := by decide +kernel
theorem dX8_reset_101 : decode cX8_reset 101 = .ok (.aload_n 0, 1) := by decide +kernel
theorem dX8_reset_102 : decode cX8_reset 102 = .ok (.getfield 16, 3) := by decide +kernel
theorem dX8_reset_105 : decode cX8_reset 105 = .ok (.iconst 0, 1) := by decide +kernel
theorem dX8_reset_106 : decode cX8_reset 106 = .ok (.iaload, 1) := by decide +kernel
theorem dX8_reset_107 : decode cX8_reset 107 = .ok (.bipush 59, 2) := by decide +kernel
theorem dX8_reset_109 : decode cX8_reset 109 = .ok (.if_icmp .eq 20, 3) := by decide +kernel
theorem dX8_reset_112 : decode cX8_reset 112 = .ok (.aload_n 0, 1) := by decide +kernel
theorem dX8_reset_113 : decode cX8_reset 113 = .ok (.getfield 16, 3) := by decide +kernel
theorem dX8_reset_116 : decode cX8_reset 116 = .ok (.iconst 0, 1) := by decide +kernel
theorem dX8_reset_117 : decode cX8_reset 117 = .ok (.iaload, 1) := by decide +kernel
theorem dX8_reset_118 : decode cX8_reset 118 = .ok (.bipush 63, 2) := by decide +kernel
theorem dX8_reset_120 : decode cX8_reset 120 = .ok (.if_icmp .eq 9, 3) := by decide +kernel
theorem dX8_reset_123 : decode cX8_reset 123 = .ok (.aload_n 0, 1) := by decide +kernel
theorem dX8_reset_124 : decode cX8_reset 124 = .ok (.iconst 2, 1) := by decide +kernel
theorem dX8_reset_125 : decode cX8_reset 125 = .ok (.iconst 0, 1) := by decide +kernel
theorem dX8_reset_126 : decode cX8_reset 126 = .ok (.invokevirtual 95, 3) := by decide +kernel
theorem dX8_reset_129 : decode cX8_reset 129 = .ok (.aload_n 0, 1) := by decide +kernel
theorem dX8_reset_130 : decode cX8_reset 130 = .ok (.invokevirtual 99, 3) := by decide +kernel
theorem dX8_reset_133 : decode cX8_reset 133 = .ok (.istore_n 1, 1) := by decide +kernel
theorem dX8_reset_134 : decode cX8_reset 134 = .ok (.aload_n 0, 1) := by decide +kernel
theorem dX8_reset_135 : decode cX8_reset 135 = .ok (.iload_n 1, 1) := by decide +kernel
theorem dX8_reset_136 : decode cX8_reset 136 = .ok (.iconst 4, 1) := by decide +kernel
theorem dX8_reset_137 : decode cX8_reset 137 = .ok (.ishr, 1) := by decide +kernel
theorem dX8_reset_138 : decode cX8_reset 138 = .ok (.invokevirtual 127, 3) := by decide +kernel
theorem dX8_reset_141 : decode cX8_reset 141 = .ok (.aload_n 0, 1) := by decide +kernel
theorem dX8_reset_142 : decode cX8_reset 142 = .ok (.getfield 16, 3) := by decide +kernel
theorem dX8_reset_145 : decode cX8_reset 145 = .ok (.bipush 6, 2) := by decide +kernel
theorem dX8_reset_147 : decode cX8_reset 147 = .ok (.iload_n 1, 1) := by decide +kernel
theorem dX8_reset_148 : decode cX8_reset 148 = .ok (.bipush 15, 2) := by decide +kernel
theorem dX8_reset_150 : decode cX8_reset 150 = .ok (.iand, 1) := by decide +kernel
theorem dX8_reset_151 : decode cX8_reset 151 = .ok (.iastore, 1) := by decide +kernel
theorem dX8_reset_152 : decode cX8_reset 152 = .ok (.aload_n 0, 1) := by decide +kernel
theorem dX8_reset_153 : decode cX8_reset 153 = .ok (.getfield 89, 3) := by decide +kernel
theorem dX8_reset_156 : decode cX8_reset 156 = .ok (.istore_n 2, 1) := by decide +kernel
theorem dX8_reset_157 : decode cX8_reset 157 = .ok (.iconst 0, 1) := by decide +kernel
theorem dX8_reset_158 : decode cX8_reset 158 = .ok (.istore_n 3, 1) := by decide +kernel
theorem dX8_reset_159 : decode cX8_reset 159 = .ok (.iload_n 3, 1) := by decide +kernel
theorem dX8_reset_160 : decode cX8_reset 160 = .ok (.aload_n 0, 1) := by decide +kernel
theorem dX8_reset_161 : decode cX8_reset 161 = .ok (.getfield 16, 3) := by decide +kernel
theorem dX8_reset_164 : decode cX8_reset 164 = .ok (.bipush 6, 2) := by decide +kernel
theorem dX8_reset_166 : decode cX8_reset 166 = .ok (.iaload, 1) := by decide +kernel
theorem dX8_reset_167 : decode cX8_reset 167 = .ok (.if_icmp .ge 14, 3) := by decide +kernel
theorem dX8_reset_170 : decode cX8_reset 170 = .ok (.aload_n 0, 1) := by decide +kernel
theorem dX8_reset_171 : decode cX8_reset 171 = .ok (.invokevirtual 99, 3) := by decide +kernel
theorem dX8_reset_174 : decode cX8_reset 174 = .ok (.pop, 1) := by decide +kernel
theorem dX8_reset_175 : decode cX8_reset 175 = .ok (.iinc 3 1, 3) := by decide +kernel
theorem dX8_reset_178 : decode cX8_reset 178 = .ok (.goto (-19), 3) := by decide +kernel
theorem dX8_reset_181 : decode cX8_reset 181 = .ok (.aload_n 0, 1) := by decide +kernel
theorem dX8_reset_182 : decode cX8_reset 182 = .ok (.getfield 123, 3) := by decide +kernel
theorem dX8_reset_185 : decode cX8_reset 185 = .ok (.ifCond .eq 7, 3) := by decide +kernel
theorem dX8_reset_188 : decode cX8_reset 188 = .ok (.aload_n 0, 1) := by decide +kernel
theorem dX8_reset_189 : decode cX8_reset 189 = .ok (.invokevirtual 131, 3) := by decide +kernel
theorem dX8_reset_192 : decode cX8_reset 192 = .ok (.aload_n 0, 1) := by decide +kernel
theorem dX8_reset_193 : decode cX8_reset 193 = .ok (.getfield 86, 3) := by decide +kernel
theorem dX8_reset_196 : decode cX8_reset 196 = .ok (.ifCond .ne 24, 3) := by decide +kernel
theorem dX8_reset_199 : decode cX8_reset 199 = .ok (.aload_n 0, 1) := by decide +kernel
theorem dX8_reset_200 : decode cX8_reset 200 = .ok (.getfield 89, 3) := by decide +kernel
theorem dX8_reset_203 : decode cX8_reset 203 = .ok (.aload_n 0, 1) := by decide +kernel
theorem dX8_reset_204 : decode cX8_reset 204 = .ok (.getfield 92, 3) := by decide +kernel
theorem dX8_reset_207 : decode cX8_reset 207 = .ok (.if_icmp .ge 13, 3) := by decide +kernel
theorem dX8_reset_210 : decode cX8_reset 210 = .ok (.aload_n 0, 1) := by decide +kernel
theorem dX8_reset_211 : decode cX8_reset 211 = .ok (.bipush 7, 2) := by decide +kernel
theorem dX8_reset_213 : decode cX8_reset 213 = .ok (.aload_n 0, 1) := by decide +kernel
theorem dX8_reset_214 : decode cX8_reset 214 = .ok (.getfield 89, 3) := by decide +kernel
theorem dX8_reset_217 : decode cX8_reset 217 = .ok (.invokevirtual 95, 3) := by decide +kernel
theorem dX8_reset_220 : decode cX8_reset 220 = .ok (.aload_n 0, 1) := by decide +kernel
theorem dX8_reset_221 : decode cX8_reset 221 = .ok (.getfield 86, 3) := by decide +kernel
theorem dX8_reset_224 : decode cX8_reset 224 = .ok (.ifCond .eq 11, 3) := by decide +kernel
theorem dX8_reset_227 : decode cX8_reset 227 = .ok (.bipush (-2), 2) := by decide +kernel
theorem dX8_reset_229 : decode cX8_reset 229 = .ok (.aload_n 0, 1) := by decide +kernel
theorem dX8_reset_230 : decode cX8_reset 230 = .ok (.getfield 86, 3) := by decide +kernel
theorem dX8_reset_233 : decode cX8_reset 233 = .ok (.isub, 1) := by decide +kernel
theorem dX8_reset_234 : decode cX8_reset 234 = .ok (.ireturn, 1) := by decide +kernel
theorem dX8_reset_235 : decode cX8_reset 235 = .ok (.aload_n 0, 1) := by decide +kernel
theorem dX8_reset_236 : decode cX8_reset 236 = .ok (.getfield 16, 3) := by decide +kernel
theorem dX8_reset_239 : decode cX8_reset 239 = .ok (.bipush 8, 2) := by decide +kernel
theorem dX8_reset_241 : decode cX8_reset 241 = .ok (.aload_n 0, 1) := by decide +kernel
theorem dX8_reset_242 : decode cX8_reset 242 = .ok (.getfield 123, 3) := by decide +kernel
theorem dX8_reset_245 : decode cX8_reset 245 = .ok (.ifCond .eq 7, 3) := by decide +kernel
theorem dX8_reset_248 : decode cX8_reset 248 = .ok (.iconst 1, 1) := by decide +kernel
theorem dX8_reset_249 : decode cX8_reset 249 = .ok (.goto 4, 3) := by decide +kernel
theorem dX8_reset_252 : decode cX8_reset 252 = .ok (.iconst 0, 1) := by decide +kernel
theorem dX8_reset_253 : decode cX8_reset 253 = .ok (.iastore, 1) := by decide +kernel
theorem dX8_reset_254 : decode cX8_reset 254 = .ok (.iconst 0, 1) := by decide +kernel
theorem dX8_reset_255 : decode cX8_reset 255 = .ok (.istore_n 3, 1) := by decide +kernel
theorem dX8_reset_256 : decode cX8_reset 256 = .ok (.iload_n 3, 1) := by decide +kernel
theorem dX8_reset_257 : decode cX8_reset 257 = .ok (.bipush 9, 2) := by decide +kernel
theorem dX8_reset_259 : decode cX8_reset 259 = .ok (.if_icmp .ge 21, 3) := by decide +kernel
theorem dX8_reset_262 : decode cX8_reset 262 = .ok (.aload_n 0, 1) := by decide +kernel
theorem dX8_reset_263 : decode cX8_reset 263 = .ok (.getfield 13, 3) := by decide +kernel
theorem dX8_reset_266 : decode cX8_reset 266 = .ok (.iload_n 3, 1) := by decide +kernel
theorem dX8_reset_267 : decode cX8_reset 267 = .ok (.aload_n 0, 1) := by decide +kernel
theorem dX8_reset_268 : decode cX8_reset 268 = .ok (.getfield 16, 3) := by decide +kernel
theorem dX8_reset_271 : decode cX8_reset 271 = .ok (.iload_n 3, 1) := by decide +kernel
theorem dX8_reset_272 : decode cX8_reset 272 = .ok (.iaload, 1) := by decide +kernel
theorem dX8_reset_273 : decode cX8_reset 273 = .ok (.iastore, 1) := by decide +kernel
theorem dX8_reset_274 : decode cX8_reset 274 = .ok (.iinc 3 1, 3) := by decide +kernel
theorem dX8_reset_277 : decode cX8_reset 277 = .ok (.goto (-21), 3) := by decide +kernel
theorem dX8_reset_280 : decode cX8_reset 280 = .ok (.iconst 0, 1) := by decide +kernel
theorem dX8_reset_281 : decode cX8_reset 281 = .ok (.istore_n 3, 1) := by decide +kernel
theorem dX8_reset_282 : decode cX8_reset 282 = .ok (.iload_n 3, 1) := by decide +kernel
theorem dX8_reset_283 : decode cX8_reset 283 = .ok (.aload_n 0, 1) := by decide +kernel
theorem dX8_reset_284 : decode cX8_reset 284 = .ok (.getfield 16, 3) := by decide +kernel
theorem dX8_reset_287 : decode cX8_reset 287 = .ok (.bipush 6, 2) := by decide +kernel
theorem dX8_reset_289 : decode cX8_reset 289 = .ok (.iaload, 1) := by decide +kernel
theorem dX8_reset_290 : decode cX8_reset 290 = .ok (.if_icmp .ge 23, 3) := by decide +kernel
theorem dX8_reset_293 : decode cX8_reset 293 = .ok (.aload_n 0, 1) := by decide +kernel
theorem dX8_reset_294 : decode cX8_reset 294 = .ok (.getfield 19, 3) := by decide +kernel
theorem dX8_reset_297 : decode cX8_reset 297 = .ok (.iload_n 3, 1) := by decide +kernel
theorem dX8_reset_298 : decode cX8_reset 298 = .ok (.aload_n 0, 1) := by decide +kernel
theorem dX8_reset_299 : decode cX8_reset 299 = .ok (.getfield 7, 3) := by decide +kernel
theorem dX8_reset_302 : decode cX8_reset 302 = .ok (.iload_n 2, 1) := by decide +kernel
theorem dX8_reset_303 : decode cX8_reset 303 = .ok (.iload_n 3, 1) := by decide +kernel
theorem dX8_reset_304 : decode cX8_reset 304 = .ok (.iadd, 1) := by decide +kernel
theorem dX8_reset_305 : decode cX8_reset 305 = .ok (.iaload, 1) := by decide +kernel
theorem dX8_reset_306 : decode cX8_reset 306 = .ok (.iastore, 1) := by decide +kernel
theorem dX8_reset_307 : decode cX8_reset 307 = .ok (.iinc 3 1, 3) := by decide +kernel
theorem dX8_reset_310 : decode cX8_reset 310 = .ok (.goto (-28), 3) := by decide +kernel
theorem dX8_reset_313 : decode cX8_reset 313 = .ok (.aload_n 0, 1) := by decide +kernel
theorem dX8_reset_314 : decode cX8_reset 314 = .ok (.iconst 1, 1) := by decide +kernel
theorem dX8_reset_315 : decode cX8_reset 315 = .ok (.putfield 134, 3) := by decide +kernel
theorem dX8_reset_318 : decode cX8_reset 318 = .ok (.aload_n 0, 1) := by decide +kernel
theorem dX8_reset_319 : decode cX8_reset 319 = .ok (.invokevirtual 63, 3) := by decide +kernel
theorem dX8_reset_322 : decode cX8_reset 322 = .ok (.aload_n 0, 1) := by decide +kernel
theorem dX8_reset_323 : decode cX8_reset 323 = .ok (.getfield 22, 3) := by decide +kernel
theorem dX8_reset_326 : decode cX8_reset 326 = .ok (.bipush 18, 2) := by decide +kernel
theorem dX8_reset_328 : decode cX8_reset 328 = .ok (.aload_n 0, 1) := by decide +kernel
theorem dX8_reset_329 : decode cX8_reset 329 = .ok (.getfield 13, 3) := by decide +kernel
theorem dX8_reset_332 : decode cX8_reset 332 = .ok (.bipush 7, 2) := by decide +kernel
theorem dX8_reset_334 : decode cX8_reset 334 = .ok (.iaload, 1) := by decide +kernel
theorem dX8_reset_335 : decode cX8_reset 335 = .ok (.iastore, 1) := by decide +kernel
theorem dX8_reset_336 : decode cX8_reset 336 = .ok (.aload_n 0, 1) := by decide +kernel
theorem dX8_reset_337 : decode cX8_reset 337 = .ok (.getfield 13, 3) := by decide +kernel
theorem dX8_reset_340 : decode cX8_reset 340 = .ok (.bipush 6, 2) := by decide +kernel
theorem dX8_reset_342 : decode cX8_reset 342 = .ok (.iaload, 1) := by decide +kernel
theorem dX8_reset_343 : decode cX8_reset 343 = .ok (.ireturn, 1) := by decide +kernel
set_option maxRecDepth 100000 in
set_option maxHeartbeats 4000000 in
theorem c_X8_reset_r {hp : List gA} {M : gMd}  (HM : gMod hp M) (ht : gIr (M.f 1) 96) (hb : ∀ q, gIr (M.a 0 q) 255) : gM yX8_reset cX8_reset 4 ((some .int)) 5 111 [.ref 122] (hp) (0) (0) (fun v h => ∃ x, v = some (.int x) ∧ ∃ M', gMod h M' ∧ gFM hp h ∧ gRs M M') := by
  refine gM_of (ls0 := [some (.ref 122), none, none, none]) (by decide +kernel) (Nat.le_of_ble_eq_true rfl) rfl fun X C E => ?_
  obtain ⟨n, hn, en⟩ := ht
  refine g_aload_n (q := 1) C dX8_reset_0 rfl rfl ?_
  refine g_iconst (v := 0) (q := 2) C dX8_reset_1 (by decide) rfl ?_
  refine g_putfield (q := 5) C fX8_66 dX8_reset_2 rfl HM.1 (Nat.le_of_ble_eq_true rfl) (Or.inl rfl) rfl rfl (by intro z h; cases h) ?_
  refine gMput (j := 2) (x := 0) HM rfl fun h1 HL1 fr1 => ?_
  refine g_aload_n (q := 6) C dX8_reset_5 rfl rfl ?_
  refine g_aload_n (q := 7) C dX8_reset_6 rfl rfl ?_
  refine g_getfield (v := .int ((M.f 1))) (q := 10) C fX8_75 dX8_reset_7 rfl HL1.1 rfl ?_
  refine g_putfield (q := 13) C fX8_92 dX8_reset_10 rfl HL1.1 (Nat.le_of_ble_eq_true rfl) (Or.inl rfl) rfl rfl (by intro z h; cases h) ?_
  refine gMput (j := 20) (x := (M.f 1)) HL1 rfl fun h2 HL2 fr2 => ?_
  refine g_aload_n (q := 14) C dX8_reset_13 rfl rfl ?_
  refine g_iconst (v := 0) (q := 15) C dX8_reset_14 (by decide) rfl ?_
  refine g_putfield (q := 18) C fX8_75 dX8_reset_15 rfl HL2.1 (Nat.le_of_ble_eq_true rfl) (Or.inl rfl) rfl rfl (by intro z h; cases h) ?_
  refine gMput (j := 1) (x := 0) HL2 rfl fun h3 HL3 fr3 => ?_
  refine g_aload_n (q := 19) C dX8_reset_18 rfl rfl ?_
  refine g_iconst (v := 0) (q := 20) C dX8_reset_19 (by decide) rfl ?_
  refine g_putfield (q := 23) C fX8_89 dX8_reset_20 rfl HL3.1 (Nat.le_of_ble_eq_true rfl) (Or.inl rfl) rfl rfl (by intro z h; cases h) ?_
  refine gMput (j := 21) (x := 0) HL3 rfl fun h4 HL4 fr4 => ?_
  refine g_aload_n (q := 24) C dX8_reset_23 rfl rfl ?_
  refine g_iconst (v := 0) (q := 25) C dX8_reset_24 (by decide) rfl ?_
  refine g_putfield (q := 28) C fX8_86 dX8_reset_25 rfl HL4.1 (Nat.le_of_ble_eq_true rfl) (Or.inl rfl) rfl rfl (by intro z h; cases h) ?_
  refine gMput (j := 22) (x := 0) HL4 rfl fun h5 HL5 fr5 => ?_
  refine g_aload_n (q := 29) C dX8_reset_28 rfl rfl ?_
  refine g_iconst (v := 0) (q := 30) C dX8_reset_29 (by decide) rfl ?_
  refine g_putfield (q := 33) C fX8_113 dX8_reset_30 rfl HL5.1 (Nat.le_of_ble_eq_true rfl) (Or.inl rfl) rfl rfl (by intro z h; cases h) ?_
  refine gMput (j := 23) (x := 0) HL5 rfl fun h6 HL6 fr6 => ?_
  refine g_aload_n (q := 34) C dX8_reset_33 rfl rfl ?_
  refine g_iconst (v := 0) (q := 35) C dX8_reset_34 (by decide) rfl ?_
  refine g_putfield (q := 38) C fX8_123 dX8_reset_35 rfl HL6.1 (Nat.le_of_ble_eq_true rfl) (Or.inl rfl) rfl rfl (by intro z h; cases h) ?_
  refine gMput (j := 24) (x := 0) HL6 rfl fun h7 HL7 fr7 => ?_
  refine g_iconst (v := 0) (q := 39) C dX8_reset_38 (by decide) rfl ?_
  refine g_istore_n (q := 40) C dX8_reset_39 (Nat.le_of_ble_eq_true rfl) (by simp only [gset]; rfl) rfl ?_
  refine g_iload_n (q := 41) C dX8_reset_40 rfl rfl ?_
  refine g_bipush (v := 9) (q := 43) C dX8_reset_41 (by decide) rfl ?_
  refine g_icmp_ge_f (t := 59) (q := 46) C dX8_reset_43 (by decide) rfl (by decide) ?_
  refine g_aload_n (q := 47) C dX8_reset_46 rfl rfl ?_
  refine g_getfield (v := .ref 125) (q := 50) C fX8_16 dX8_reset_47 rfl HL7.1 rfl ?_
  refine g_iload_n (q := 51) C dX8_reset_50 rfl rfl ?_
  refine g_iconst (v := 0) (q := 52) C dX8_reset_51 (by decide) rfl ?_
  refine g_iastoreN (j := 0) (q := 53) C dX8_reset_52 rfl (HL7.ar (i := 2) (n := 9) (by decide) rfl) (pk_in 0 9 (by decide)) (pk_cl 0) ?_
  refine gMsto (i := 2) (j := 0) (x := 0) HL7 (by decide) rfl rfl fun h8 HL8 fr8 => ?_
  refine g_iinc (v := 1) (q := 56) C dX8_reset_53 rfl (by decide) (by simp only [gset]; rfl) rfl ?_
  refine g_goto (q := 40) C dX8_reset_56 (by decide) ?_
  refine g_iload_n (q := 41) C dX8_reset_40 rfl rfl ?_
  refine g_bipush (v := 9) (q := 43) C dX8_reset_41 (by decide) rfl ?_
  refine g_icmp_ge_f (t := 59) (q := 46) C dX8_reset_43 (by decide) rfl (by decide) ?_
  refine g_aload_n (q := 47) C dX8_reset_46 rfl rfl ?_
  refine g_getfield (v := .ref 125) (q := 50) C fX8_16 dX8_reset_47 rfl HL8.1 rfl ?_
  refine g_iload_n (q := 51) C dX8_reset_50 rfl rfl ?_
  refine g_iconst (v := 0) (q := 52) C dX8_reset_51 (by decide) rfl ?_
  refine g_iastoreN (j := 1) (q := 53) C dX8_reset_52 rfl (HL8.ar (i := 2) (n := 9) (by decide) rfl) (pk_in 1 9 (by decide)) (pk_cl 1) ?_
  refine gMsto (i := 2) (j := 1) (x := 0) HL8 (by decide) rfl rfl fun h9 HL9 fr9 => ?_
  refine g_iinc (v := 2) (q := 56) C dX8_reset_53 rfl (by decide) (by simp only [gset]; rfl) rfl ?_
  refine g_goto (q := 40) C dX8_reset_56 (by decide) ?_
  refine g_iload_n (q := 41) C dX8_reset_40 rfl rfl ?_
  refine g_bipush (v := 9) (q := 43) C dX8_reset_41 (by decide) rfl ?_
  refine g_icmp_ge_f (t := 59) (q := 46) C dX8_reset_43 (by decide) rfl (by decide) ?_
  refine g_aload_n (q := 47) C dX8_reset_46 rfl rfl ?_
  refine g_getfield (v := .ref 125) (q := 50) C fX8_16 dX8_reset_47 rfl HL9.1 rfl ?_
  refine g_iload_n (q := 51) C dX8_reset_50 rfl rfl ?_
  refine g_iconst (v := 0) (q := 52) C dX8_reset_51 (by decide) rfl ?_
  refine g_iastoreN (j := 2) (q := 53) C dX8_reset_52 rfl (HL9.ar (i := 2) (n := 9) (by decide) rfl) (pk_in 2 9 (by decide)) (pk_cl 2) ?_
  refine gMsto (i := 2) (j := 2) (x := 0) HL9 (by decide) rfl rfl fun h10 HL10 fr10 => ?_
  refine g_iinc (v := 3) (q := 56) C dX8_reset_53 rfl (by decide) (by simp only [gset]; rfl) rfl ?_
  refine g_goto (q := 40) C dX8_reset_56 (by decide) ?_
  refine g_iload_n (q := 41) C dX8_reset_40 rfl rfl ?_
  refine g_bipush (v := 9) (q := 43) C dX8_reset_41 (by decide) rfl ?_
  refine g_icmp_ge_f (t := 59) (q := 46) C dX8_reset_43 (by decide) rfl (by decide) ?_
  refine g_aload_n (q := 47) C dX8_reset_46 rfl rfl ?_
  refine g_getfield (v := .ref 125) (q := 50) C fX8_16 dX8_reset_47 rfl HL10.1 rfl ?_
  refine g_iload_n (q := 51) C dX8_reset_50 rfl rfl ?_
  refine g_iconst (v := 0) (q := 52) C dX8_reset_51 (by decide) rfl ?_
  refine g_iastoreN (j := 3) (q := 53) C dX8_reset_52 rfl (HL10.ar (i := 2) (n := 9) (by decide) rfl) (pk_in 3 9 (by decide)) (pk_cl 3) ?_
  refine gMsto (i := 2) (j := 3) (x := 0) HL10 (by decide) rfl rfl fun h11 HL11 fr11 => ?_
  refine g_iinc (v := 4) (q := 56) C dX8_reset_53 rfl (by decide) (by simp only [gset]; rfl) rfl ?_
  refine g_goto (q := 40) C dX8_reset_56 (by decide) ?_
  refine g_iload_n (q := 41) C dX8_reset_40 rfl rfl ?_
  refine g_bipush (v := 9) (q := 43) C dX8_reset_41 (by decide) rfl ?_
  refine g_icmp_ge_f (t := 59) (q := 46) C dX8_reset_43 (by decide) rfl (by decide) ?_
  refine g_aload_n (q := 47) C dX8_reset_46 rfl rfl ?_
  refine g_getfield (v := .ref 125) (q := 50) C fX8_16 dX8_reset_47 rfl HL11.1 rfl ?_
  refine g_iload_n (q := 51) C dX8_reset_50 rfl rfl ?_
  refine g_iconst (v := 0) (q := 52) C dX8_reset_51 (by decide) rfl ?_
  refine g_iastoreN (j := 4) (q := 53) C dX8_reset_52 rfl (HL11.ar (i := 2) (n := 9) (by decide) rfl) (pk_in 4 9 (by decide)) (pk_cl 4) ?_
  refine gMsto (i := 2) (j := 4) (x := 0) HL11 (by decide) rfl rfl fun h12 HL12 fr12 => ?_
  refine g_iinc (v := 5) (q := 56) C dX8_reset_53 rfl (by decide) (by simp only [gset]; rfl) rfl ?_
  refine g_goto (q := 40) C dX8_reset_56 (by decide) ?_
  refine g_iload_n (q := 41) C dX8_reset_40 rfl rfl ?_
  refine g_bipush (v := 9) (q := 43) C dX8_reset_41 (by decide) rfl ?_
  refine g_icmp_ge_f (t := 59) (q := 46) C dX8_reset_43 (by decide) rfl (by decide) ?_
  refine g_aload_n (q := 47) C dX8_reset_46 rfl rfl ?_
  refine g_getfield (v := .ref 125) (q := 50) C fX8_16 dX8_reset_47 rfl HL12.1 rfl ?_
  refine g_iload_n (q := 51) C dX8_reset_50 rfl rfl ?_
  refine g_iconst (v := 0) (q := 52) C dX8_reset_51 (by decide) rfl ?_
  refine g_iastoreN (j := 5) (q := 53) C dX8_reset_52 rfl (HL12.ar (i := 2) (n := 9) (by decide) rfl) (pk_in 5 9 (by decide)) (pk_cl 5) ?_
  refine gMsto (i := 2) (j := 5) (x := 0) HL12 (by decide) rfl rfl fun h13 HL13 fr13 => ?_
  refine g_iinc (v := 6) (q := 56) C dX8_reset_53 rfl (by decide) (by simp only [gset]; rfl) rfl ?_
  refine g_goto (q := 40) C dX8_reset_56 (by decide) ?_
  refine g_iload_n (q := 41) C dX8_reset_40 rfl rfl ?_
  refine g_bipush (v := 9) (q := 43) C dX8_reset_41 (by decide) rfl ?_
  refine g_icmp_ge_f (t := 59) (q := 46) C dX8_reset_43 (by decide) rfl (by decide) ?_
  refine g_aload_n (q := 47) C dX8_reset_46 rfl rfl ?_
  refine g_getfield (v := .ref 125) (q := 50) C fX8_16 dX8_reset_47 rfl HL13.1 rfl ?_
  refine g_iload_n (q := 51) C dX8_reset_50 rfl rfl ?_
  refine g_iconst (v := 0) (q := 52) C dX8_reset_51 (by decide) rfl ?_
  refine g_iastoreN (j := 6) (q := 53) C dX8_reset_52 rfl (HL13.ar (i := 2) (n := 9) (by decide) rfl) (pk_in 6 9 (by decide)) (pk_cl 6) ?_
  refine gMsto (i := 2) (j := 6) (x := 0) HL13 (by decide) rfl rfl fun h14 HL14 fr14 => ?_
  refine g_iinc (v := 7) (q := 56) C dX8_reset_53 rfl (by decide) (by simp only [gset]; rfl) rfl ?_
  refine g_goto (q := 40) C dX8_reset_56 (by decide) ?_
  refine g_iload_n (q := 41) C dX8_reset_40 rfl rfl ?_
  refine g_bipush (v := 9) (q := 43) C dX8_reset_41 (by decide) rfl ?_
  refine g_icmp_ge_f (t := 59) (q := 46) C dX8_reset_43 (by decide) rfl (by decide) ?_
  refine g_aload_n (q := 47) C dX8_reset_46 rfl rfl ?_
  refine g_getfield (v := .ref 125) (q := 50) C fX8_16 dX8_reset_47 rfl HL14.1 rfl ?_
  refine g_iload_n (q := 51) C dX8_reset_50 rfl rfl ?_
  refine g_iconst (v := 0) (q := 52) C dX8_reset_51 (by decide) rfl ?_
  refine g_iastoreN (j := 7) (q := 53) C dX8_reset_52 rfl (HL14.ar (i := 2) (n := 9) (by decide) rfl) (pk_in 7 9 (by decide)) (pk_cl 7) ?_
  refine gMsto (i := 2) (j := 7) (x := 0) HL14 (by decide) rfl rfl fun h15 HL15 fr15 => ?_
  refine g_iinc (v := 8) (q := 56) C dX8_reset_53 rfl (by decide) (by simp only [gset]; rfl) rfl ?_
  refine g_goto (q := 40) C dX8_reset_56 (by decide) ?_
  refine g_iload_n (q := 41) C dX8_reset_40 rfl rfl ?_
  refine g_bipush (v := 9) (q := 43) C dX8_reset_41 (by decide) rfl ?_
  refine g_icmp_ge_f (t := 59) (q := 46) C dX8_reset_43 (by decide) rfl (by decide) ?_
  refine g_aload_n (q := 47) C dX8_reset_46 rfl rfl ?_
  refine g_getfield (v := .ref 125) (q := 50) C fX8_16 dX8_reset_47 rfl HL15.1 rfl ?_
  refine g_iload_n (q := 51) C dX8_reset_50 rfl rfl ?_
  refine g_iconst (v := 0) (q := 52) C dX8_reset_51 (by decide) rfl ?_
  refine g_iastoreN (j := 8) (q := 53) C dX8_reset_52 rfl (HL15.ar (i := 2) (n := 9) (by decide) rfl) (pk_in 8 9 (by decide)) (pk_cl 8) ?_
  refine gMsto (i := 2) (j := 8) (x := 0) HL15 (by decide) rfl rfl fun h16 HL16 fr16 => ?_
  refine g_iinc (v := 9) (q := 56) C dX8_reset_53 rfl (by decide) (by simp only [gset]; rfl) rfl ?_
  refine g_goto (q := 40) C dX8_reset_56 (by decide) ?_
  refine g_iload_n (q := 41) C dX8_reset_40 rfl rfl ?_
  refine g_bipush (v := 9) (q := 43) C dX8_reset_41 (by decide) rfl ?_
  refine g_icmp_ge_t (t := 59) C dX8_reset_43 (by decide) (by decide) ?_
  refine g_aload_n (q := 60) C dX8_reset_59 rfl rfl ?_
  refine g_getfield (v := .ref 125) (q := 63) C fX8_16 dX8_reset_60 rfl HL16.1 rfl ?_
  refine g_iconst (v := 1) (q := 64) C dX8_reset_63 (by decide) rfl ?_
  refine g_sipush (v := 372) (q := 67) C dX8_reset_64 (by decide) rfl ?_
  refine g_iastoreN (j := 1) (q := 68) C dX8_reset_67 rfl (HL16.ar (i := 2) (n := 9) (by decide) rfl) (pk_in 1 9 (by decide)) (pk_cl 1) ?_
  refine gMsto (i := 2) (j := 1) (x := 372) HL16 (by decide) rfl rfl fun h17 HL17 fr17 => ?_
  refine g_aload_n (q := 69) C dX8_reset_68 rfl rfl ?_
  refine g_getfield (v := .ref 125) (q := 72) C fX8_16 dX8_reset_69 rfl HL17.1 rfl ?_
  refine g_iconst (v := 2) (q := 73) C dX8_reset_72 (by decide) rfl ?_
  refine g_iconst (v := 1) (q := 74) C dX8_reset_73 (by decide) rfl ?_
  refine g_iastoreN (j := 2) (q := 75) C dX8_reset_74 rfl (HL17.ar (i := 2) (n := 9) (by decide) rfl) (pk_in 2 9 (by decide)) (pk_cl 2) ?_
  refine gMsto (i := 2) (j := 2) (x := 1) HL17 (by decide) rfl rfl fun h18 HL18 fr18 => ?_
  refine g_aload_n (q := 76) C dX8_reset_75 rfl rfl ?_
  refine g_getfield (v := .ref 125) (q := 79) C fX8_16 dX8_reset_76 rfl HL18.1 rfl ?_
  refine g_bipush (v := 7) (q := 81) C dX8_reset_79 (by decide) rfl ?_
  refine g_bipush (v := 32) (q := 83) C dX8_reset_81 (by decide) rfl ?_
  refine g_iastoreN (j := 7) (q := 84) C dX8_reset_83 rfl (HL18.ar (i := 2) (n := 9) (by decide) rfl) (pk_in 7 9 (by decide)) (pk_cl 7) ?_
  refine gMsto (i := 2) (j := 7) (x := 32) HL18 (by decide) rfl rfl fun h19 HL19 fr19 => ?_
  obtain ⟨MB, eB⟩ : ∃ MB, MB = (((((((((((((((((((M.set 2 0).set 20 (M.f 1)).set 1 0).set 21 0).set 22 0).set 23 0).set 24 0).put 2 0 0).put 2 1 0).put 2 2 0).put 2 3 0).put 2 4 0).put 2 5 0).put 2 6 0).put 2 7 0).put 2 8 0).put 2 1 372).put 2 2 1).put 2 7 32) := ⟨_, rfl⟩
  have HB9 : gMod h19 MB := by rw [eB]; exact HL19
  have frB : gFM hp h19 := (gFM.trans (gFM.trans (gFM.trans (gFM.trans (gFM.trans (gFM.trans (gFM.trans (gFM.trans (gFM.trans (gFM.trans (gFM.trans (gFM.trans (gFM.trans (gFM.trans (gFM.trans (gFM.trans (gFM.trans (gFM.trans fr1 fr2) fr3) fr4) fr5) fr6) fr7) fr8) fr9) fr10) fr11) fr12) fr13) fr14) fr15) fr16) fr17) fr18) fr19)
  have fB : ∀ k, ¬ k = 1 → ¬ k = 2 → ¬ k = 20 → ¬ k = 21 → ¬ k = 22 → ¬ k = 23 → ¬ k = 24 → MB.f k = M.f k := fun k h1 h2 h20 h21 h22 h23 h24 => by rw [eB]; simp only [gput_f]; rw [gset_n h24, gset_n h23, gset_n h22, gset_n h21, gset_n h1, gset_n h20, gset_n h2]
  have aB : ∀ i q, ¬ i = 2 → MB.a i q = M.a i q := fun i q h => by rw [eB]; simp only [gput_o h, gset_a]
  have f1 : MB.f 1 = 0 := by rw [eB]; exact (gput_f.trans (gput_f.trans (gput_f.trans (gput_f.trans (gput_f.trans (gput_f.trans (gput_f.trans (gput_f.trans (gput_f.trans (gput_f.trans (gput_f.trans (gput_f.trans ((gset_n (by decide)).trans ((gset_n (by decide)).trans ((gset_n (by decide)).trans ((gset_n (by decide)).trans gset_s))))))))))))))))
  have f20 : MB.f 20 = (M.f 1) := by rw [eB]; exact (gput_f.trans (gput_f.trans (gput_f.trans (gput_f.trans (gput_f.trans (gput_f.trans (gput_f.trans (gput_f.trans (gput_f.trans (gput_f.trans (gput_f.trans (gput_f.trans ((gset_n (by decide)).trans ((gset_n (by decide)).trans ((gset_n (by decide)).trans ((gset_n (by decide)).trans ((gset_n (by decide)).trans gset_s)))))))))))))))))
  have f21 : MB.f 21 = 0 := by rw [eB]; exact (gput_f.trans (gput_f.trans (gput_f.trans (gput_f.trans (gput_f.trans (gput_f.trans (gput_f.trans (gput_f.trans (gput_f.trans (gput_f.trans (gput_f.trans (gput_f.trans ((gset_n (by decide)).trans ((gset_n (by decide)).trans ((gset_n (by decide)).trans gset_s)))))))))))))))
  have f22 : MB.f 22 = 0 := by rw [eB]; exact (gput_f.trans (gput_f.trans (gput_f.trans (gput_f.trans (gput_f.trans (gput_f.trans (gput_f.trans (gput_f.trans (gput_f.trans (gput_f.trans (gput_f.trans (gput_f.trans ((gset_n (by decide)).trans ((gset_n (by decide)).trans gset_s))))))))))))))
  have d7 : MB.a 2 7 = 32 := by rw [eB]; exact gput_s
  have hr : gRi MB := ⟨⟨n, hn, f20.trans en, 0, Nat.zero_le _, f21⟩, fun q => by rw [aB 0 q (by decide)]; exact hb q⟩
  have wB : gWd MB := ⟨32, by decide, by decide, d7⟩
  have J220 : ∀ (n1 : Nat) (M1 : gMd) (x : Int32) (a1 c : Nat) (M0 : gMd) (hz : List gA), gMod hz M1 → gFM hp hz → gRz n1 MB M1 → c ≤ 15 → M0.f 21 = nI a1 → gRz c M0 M1 → gRi M0 → M1.a 2 6 = nI c → gG X 220 [some (.ref 122), some (.int x), some (.int ((nI a1))), some (.int ((nI c)))] [] hz 0 0 := by
    intro n1 M1 x a1 c M0 hz HZ frz RZ hc e0 R0 r0 d6
    refine g_aload_n (q := 221) C dX8_reset_220 rfl rfl ?_
    refine g_getfield (v := .int ((M1.f 22))) (q := 224) C fX8_86 dX8_reset_221 rfl HZ.1 rfl ?_
    refine g_if_eq (t := 235) (q := 227) C dX8_reset_224 (by decide) rfl (fun c_224 => ?_) (fun c_224 => ?_)
    ·
      refine g_aload_n (q := 236) C dX8_reset_235 rfl rfl ?_
      refine g_getfield (v := .ref 125) (q := 239) C fX8_16 dX8_reset_236 rfl HZ.1 rfl ?_
      refine g_bipush (v := 8) (q := 241) C dX8_reset_239 (by decide) rfl ?_
      refine g_aload_n (q := 242) C dX8_reset_241 rfl rfl ?_
      refine g_getfield (v := .int ((M1.f 24))) (q := 245) C fX8_123 dX8_reset_242 rfl HZ.1 rfl ?_
      suffices K245 : gG X 253 [some (.ref 122), some (.int x), some (.int ((nI a1))), some (.int ((nI c)))] [.int (if (M1.f 24) = 0 then 0 else 1 : Int32), .int 8, .ref 125] hz 0 0 by
        refine g_if_eq (t := 252) (q := 248) C dX8_reset_245 (by decide) rfl (fun c_245 => ?_) (fun c_245 => ?_)
        · refine g_iconst (v := 0) (q := 253) C dX8_reset_252 (by decide) rfl ?_
          rw [if_pos c_245] at K245
          exact K245
        · refine g_iconst (v := 1) (q := 249) C dX8_reset_248 (by decide) rfl ?_
          refine g_goto (q := 253) C dX8_reset_249 (by decide) ?_
          rw [if_neg c_245] at K245
          exact K245
      refine g_iastoreN (j := 8) (q := 254) C dX8_reset_253 rfl (HZ.ar (i := 2) (n := 9) (by decide) rfl) (pk_in 8 9 (by decide)) (pk_cl 8) ?_
      refine gMsto (i := 2) (j := 8) (x := (if (M1.f 24) = 0 then 0 else 1 : Int32)) HZ (by decide) rfl rfl fun h20 HL20 fr20 => ?_
      refine g_iconst (v := 0) (q := 255) C dX8_reset_254 (by decide) rfl ?_
      refine g_istore_n (q := 256) C dX8_reset_255 (Nat.le_of_ble_eq_true rfl) (by simp only [gset]; rfl) rfl ?_
      obtain ⟨wd, hw1, hw2, ew⟩ := (RZ.2.2.1 c_224).2 wB
      obtain ⟨⟨z0, hz0, ez0, a0, ha0, ea0⟩, hb0⟩ := id r0
      obtain ⟨a', p1, p2, p3, p4⟩ := R0.2.2.2 z0 a0 hz0 ez0 ha0 ea0
      have ea : nI a0 = nI a1 := ea0.symm.trans e0
      have p5 := p4 c_224
      rw [← ea]
      have LL21 : ∀ d j : Nat, j + d = 9 → ∀  (h1 : List gA), gMod h1 ((M1.put 2 8 (if (M1.f 24) = 0 then 0 else 1 : Int32)).arr 1 (gCpy ((M1.put 2 8 (if (M1.f 24) = 0 then 0 else 1 : Int32)).a 1) 0 ((M1.put 2 8 (if (M1.f 24) = 0 then 0 else 1 : Int32)).a 2) 0 j)) → gFM hp h1 → gG X 256 [some (.ref 122), some (.int x), some (.int ((nI a0))), some (.int ((nI j)))] [] h1 0 0 := by
        intro d
        induction d with
        | zero =>
          intro j hj  h1 HL1_ fr_
          obtain rfl : 9 = j := by omega
          refine g_iload_n (q := 257) C dX8_reset_256 rfl rfl ?_
          refine g_bipush (v := 9) (q := 259) C dX8_reset_257 (by decide) rfl ?_
          rw [show 9 = nI 9 from (rfl).trans rfl]
          refine g_icmp_ge_t (t := 280) C dX8_reset_259 (by decide) (nI_le (Nat.le_refl _) (by omega)) ?_
          refine g_iconst (v := 0) (q := 281) C dX8_reset_280 (by decide) rfl ?_
          refine g_istore_n (q := 282) C dX8_reset_281 (Nat.le_of_ble_eq_true rfl) (by simp only [gset]; rfl) rfl ?_
          have LL22 : ∀ d j : Nat, j + d = c → ∀  (h1 : List gA), gMod h1 (((M1.put 2 8 (if (M1.f 24) = 0 then 0 else 1 : Int32)).arr 1 (gCpy ((M1.put 2 8 (if (M1.f 24) = 0 then 0 else 1 : Int32)).a 1) 0 ((M1.put 2 8 (if (M1.f 24) = 0 then 0 else 1 : Int32)).a 2) 0 9)).arr 3 (gCpy (((M1.put 2 8 (if (M1.f 24) = 0 then 0 else 1 : Int32)).arr 1 (gCpy ((M1.put 2 8 (if (M1.f 24) = 0 then 0 else 1 : Int32)).a 1) 0 ((M1.put 2 8 (if (M1.f 24) = 0 then 0 else 1 : Int32)).a 2) 0 9)).a 3) 0 (((M1.put 2 8 (if (M1.f 24) = 0 then 0 else 1 : Int32)).arr 1 (gCpy ((M1.put 2 8 (if (M1.f 24) = 0 then 0 else 1 : Int32)).a 1) 0 ((M1.put 2 8 (if (M1.f 24) = 0 then 0 else 1 : Int32)).a 2) 0 9)).a 0) a0 j)) → gFM hp h1 → gG X 282 [some (.ref 122), some (.int x), some (.int ((nI a0))), some (.int ((nI j)))] [] h1 0 0 := by
            intro d
            induction d with
            | zero =>
              intro j hj  h1 HL1_ fr_
              obtain rfl : c = j := by omega
              refine g_iload_n (q := 283) C dX8_reset_282 rfl rfl ?_
              refine g_aload_n (q := 284) C dX8_reset_283 rfl rfl ?_
              refine g_getfield (v := .ref 125) (q := 287) C fX8_16 dX8_reset_284 rfl HL1_.1 rfl ?_
              refine g_bipush (v := 6) (q := 289) C dX8_reset_287 (by decide) rfl ?_
              refine g_ialoadN (x := ((((M1.put 2 8 (if (M1.f 24) = 0 then 0 else 1 : Int32)).arr 1 (gCpy ((M1.put 2 8 (if (M1.f 24) = 0 then 0 else 1 : Int32)).a 1) 0 ((M1.put 2 8 (if (M1.f 24) = 0 then 0 else 1 : Int32)).a 2) 0 9)).arr 3 (gCpy (((M1.put 2 8 (if (M1.f 24) = 0 then 0 else 1 : Int32)).arr 1 (gCpy ((M1.put 2 8 (if (M1.f 24) = 0 then 0 else 1 : Int32)).a 1) 0 ((M1.put 2 8 (if (M1.f 24) = 0 then 0 else 1 : Int32)).a 2) 0 9)).a 3) 0 (((M1.put 2 8 (if (M1.f 24) = 0 then 0 else 1 : Int32)).arr 1 (gCpy ((M1.put 2 8 (if (M1.f 24) = 0 then 0 else 1 : Int32)).a 1) 0 ((M1.put 2 8 (if (M1.f 24) = 0 then 0 else 1 : Int32)).a 2) 0 9)).a 0) a0 c)).a 2 6)) (j := 6) (q := 290) C dX8_reset_289 rfl (HL1_.ar (i := 2) (n := 9) (by decide) rfl) (pk_in 6 9 (by decide)) (pk_cl 6) rfl ?_
              rw [show ((((M1.put 2 8 (if (M1.f 24) = 0 then 0 else 1 : Int32)).arr 1 (gCpy ((M1.put 2 8 (if (M1.f 24) = 0 then 0 else 1 : Int32)).a 1) 0 ((M1.put 2 8 (if (M1.f 24) = 0 then 0 else 1 : Int32)).a 2) 0 9)).arr 3 (gCpy (((M1.put 2 8 (if (M1.f 24) = 0 then 0 else 1 : Int32)).arr 1 (gCpy ((M1.put 2 8 (if (M1.f 24) = 0 then 0 else 1 : Int32)).a 1) 0 ((M1.put 2 8 (if (M1.f 24) = 0 then 0 else 1 : Int32)).a 2) 0 9)).a 3) 0 (((M1.put 2 8 (if (M1.f 24) = 0 then 0 else 1 : Int32)).arr 1 (gCpy ((M1.put 2 8 (if (M1.f 24) = 0 then 0 else 1 : Int32)).a 1) 0 ((M1.put 2 8 (if (M1.f 24) = 0 then 0 else 1 : Int32)).a 2) 0 9)).a 0) a0 c)).a 2 6) = nI c from ((garr_o (by decide))).trans ((show ((M1.put 2 8 (if (M1.f 24) = 0 then 0 else 1 : Int32)).arr 1 (gCpy ((M1.put 2 8 (if (M1.f 24) = 0 then 0 else 1 : Int32)).a 1) 0 ((M1.put 2 8 (if (M1.f 24) = 0 then 0 else 1 : Int32)).a 2) 0 9)).a 2 6 = M1.a 2 6 from rfl).trans d6)]
              refine g_icmp_ge_t (t := 313) C dX8_reset_290 (by decide) (nI_le (Nat.le_refl _) (by omega)) ?_
              obtain ⟨MX, eX⟩ : ∃ MX, MX = (((M1.put 2 8 (if (M1.f 24) = 0 then 0 else 1 : Int32)).arr 1 (gCpy ((M1.put 2 8 (if (M1.f 24) = 0 then 0 else 1 : Int32)).a 1) 0 ((M1.put 2 8 (if (M1.f 24) = 0 then 0 else 1 : Int32)).a 2) 0 9)).arr 3 (gCpy (((M1.put 2 8 (if (M1.f 24) = 0 then 0 else 1 : Int32)).arr 1 (gCpy ((M1.put 2 8 (if (M1.f 24) = 0 then 0 else 1 : Int32)).a 1) 0 ((M1.put 2 8 (if (M1.f 24) = 0 then 0 else 1 : Int32)).a 2) 0 9)).a 3) 0 (((M1.put 2 8 (if (M1.f 24) = 0 then 0 else 1 : Int32)).arr 1 (gCpy ((M1.put 2 8 (if (M1.f 24) = 0 then 0 else 1 : Int32)).a 1) 0 ((M1.put 2 8 (if (M1.f 24) = 0 then 0 else 1 : Int32)).a 2) 0 9)).a 0) a0 c)).set 3 1 := ⟨_, rfl⟩
              have t7 : MX.a 1 7 = nI wd := by rw [eX, ← ew]; rfl
              have t6 : MX.a 1 6 = nI c := by rw [eX, ← d6]; rfl
              have hend : gRs M ((rX8_begins MX).put 4 18 (nI wd)) := ⟨by
    show MX.f 1 = 0
    rw [eX]; exact (RZ.1 1 (by decide) (by decide) (by decide) (by decide)).trans f1, Or.inr ⟨MX, wd, c, hw1, hw2, hc, by rw [eX]; rfl, fun k h1 h2 h3 h20 h21 h22 h23 h24 => by rw [eX, gset_n h3]; exact (RZ.1 k h21 h22 h23 h24).trans (fB k h1 h2 h20 h21 h22 h23 h24), fun i q h1 h2 h3 => by rw [eX, gset_a, garr_o h3, garr_o h1, gput_o h2]; exact (RZ.2.1 i q h2).trans (aB i q h2), t6, rfl⟩⟩
              refine g_aload_n (q := 314) C dX8_reset_313 rfl rfl ?_
              refine g_iconst (v := 1) (q := 315) C dX8_reset_314 (by decide) rfl ?_
              refine g_putfield (q := 318) C fX8_134 dX8_reset_315 rfl HL1_.1 (Nat.le_of_ble_eq_true rfl) (Or.inl rfl) rfl rfl (by intro z h; cases h) ?_
              refine gMput (j := 3) (x := 1) HL1_ rfl fun h23 HL23 fr23 => ?_
              have HX9 := HL23
              rw [← eX] at HX9
              refine g_aload_n (q := 319) C dX8_reset_318 rfl rfl ?_
              refine g_callVvp (q := 322) (As := []) C gyX8_begins gvX8_begins t_1077 (c_X8_begins_m HX9) dX8_reset_319 rfl HX9.1 rfl rfl rfl (Nat.le_of_ble_eq_true rfl) (Nat.le_of_ble_eq_true rfl) (Nat.le_of_ble_eq_true rfl) (Nat.le_of_ble_eq_true rfl) (Nat.le_of_ble_eq_true rfl) rfl (fun h24 z24 => ?_)
              obtain ⟨HL24, fr24⟩ := z24
              refine g_aload_n (q := 323) C dX8_reset_322 rfl rfl ?_
              refine g_getfield (v := .ref 127) (q := 326) C fX8_22 dX8_reset_323 rfl HL24.1 rfl ?_
              refine g_bipush (v := 18) (q := 328) C dX8_reset_326 (by decide) rfl ?_
              refine g_aload_n (q := 329) C dX8_reset_328 rfl rfl ?_
              refine g_getfield (v := .ref 124) (q := 332) C fX8_13 dX8_reset_329 rfl HL24.1 rfl ?_
              refine g_bipush (v := 7) (q := 334) C dX8_reset_332 (by decide) rfl ?_
              refine g_ialoadN (x := ((rX8_begins MX).a 1 7)) (j := 7) (q := 335) C dX8_reset_334 rfl (HL24.ar (i := 1) (n := 9) (by decide) rfl) (pk_in 7 9 (by decide)) (pk_cl 7) rfl ?_
              rw [show ((rX8_begins MX).a 1 7) = nI wd from t7]
              refine g_iastoreN (j := 18) (q := 336) C dX8_reset_335 rfl (HL24.ar (i := 4) (n := 772) (by decide) rfl) (pk_in 18 772 (by decide)) (pk_cl 18) ?_
              refine gMsto (i := 4) (j := 18) (x := (nI wd)) HL24 (by decide) rfl rfl fun h25 HL25 fr25 => ?_
              refine g_aload_n (q := 337) C dX8_reset_336 rfl rfl ?_
              refine g_getfield (v := .ref 124) (q := 340) C fX8_13 dX8_reset_337 rfl HL25.1 rfl ?_
              refine g_bipush (v := 6) (q := 342) C dX8_reset_340 (by decide) rfl ?_
              refine g_ialoadN (x := ((rX8_begins MX).a 1 6)) (j := 6) (q := 343) C dX8_reset_342 rfl (HL25.ar (i := 1) (n := 9) (by decide) rfl) (pk_in 6 9 (by decide)) (pk_cl 6) (gput_o (by decide)) ?_
              exact E.1 _ _ _ _ _ _ _ dX8_reset_343 rfl rfl (Nat.le_of_ble_eq_true rfl) (Nat.le_of_ble_eq_true rfl) ⟨_, rfl, _, HL25, (gFM.trans (gFM.trans (gFM.trans fr_ fr23) fr24) fr25), hend⟩
              
              
            | succ d ih =>
              intro j hj  h1 HL1_ fr_
              refine g_iload_n (q := 283) C dX8_reset_282 rfl rfl ?_
              refine g_aload_n (q := 284) C dX8_reset_283 rfl rfl ?_
              refine g_getfield (v := .ref 125) (q := 287) C fX8_16 dX8_reset_284 rfl HL1_.1 rfl ?_
              refine g_bipush (v := 6) (q := 289) C dX8_reset_287 (by decide) rfl ?_
              refine g_ialoadN (x := ((((M1.put 2 8 (if (M1.f 24) = 0 then 0 else 1 : Int32)).arr 1 (gCpy ((M1.put 2 8 (if (M1.f 24) = 0 then 0 else 1 : Int32)).a 1) 0 ((M1.put 2 8 (if (M1.f 24) = 0 then 0 else 1 : Int32)).a 2) 0 9)).arr 3 (gCpy (((M1.put 2 8 (if (M1.f 24) = 0 then 0 else 1 : Int32)).arr 1 (gCpy ((M1.put 2 8 (if (M1.f 24) = 0 then 0 else 1 : Int32)).a 1) 0 ((M1.put 2 8 (if (M1.f 24) = 0 then 0 else 1 : Int32)).a 2) 0 9)).a 3) 0 (((M1.put 2 8 (if (M1.f 24) = 0 then 0 else 1 : Int32)).arr 1 (gCpy ((M1.put 2 8 (if (M1.f 24) = 0 then 0 else 1 : Int32)).a 1) 0 ((M1.put 2 8 (if (M1.f 24) = 0 then 0 else 1 : Int32)).a 2) 0 9)).a 0) a0 j)).a 2 6)) (j := 6) (q := 290) C dX8_reset_289 rfl (HL1_.ar (i := 2) (n := 9) (by decide) rfl) (pk_in 6 9 (by decide)) (pk_cl 6) rfl ?_
              rw [show ((((M1.put 2 8 (if (M1.f 24) = 0 then 0 else 1 : Int32)).arr 1 (gCpy ((M1.put 2 8 (if (M1.f 24) = 0 then 0 else 1 : Int32)).a 1) 0 ((M1.put 2 8 (if (M1.f 24) = 0 then 0 else 1 : Int32)).a 2) 0 9)).arr 3 (gCpy (((M1.put 2 8 (if (M1.f 24) = 0 then 0 else 1 : Int32)).arr 1 (gCpy ((M1.put 2 8 (if (M1.f 24) = 0 then 0 else 1 : Int32)).a 1) 0 ((M1.put 2 8 (if (M1.f 24) = 0 then 0 else 1 : Int32)).a 2) 0 9)).a 3) 0 (((M1.put 2 8 (if (M1.f 24) = 0 then 0 else 1 : Int32)).arr 1 (gCpy ((M1.put 2 8 (if (M1.f 24) = 0 then 0 else 1 : Int32)).a 1) 0 ((M1.put 2 8 (if (M1.f 24) = 0 then 0 else 1 : Int32)).a 2) 0 9)).a 0) a0 j)).a 2 6) = nI c from ((garr_o (by decide))).trans ((show ((M1.put 2 8 (if (M1.f 24) = 0 then 0 else 1 : Int32)).arr 1 (gCpy ((M1.put 2 8 (if (M1.f 24) = 0 then 0 else 1 : Int32)).a 1) 0 ((M1.put 2 8 (if (M1.f 24) = 0 then 0 else 1 : Int32)).a 2) 0 9)).a 2 6 = M1.a 2 6 from rfl).trans d6)]
              refine g_icmp_ge_f (t := 313) (q := 293) C dX8_reset_290 (by decide) rfl (fun h => nI_ge (show j < c by omega) (by omega) h) ?_
              refine g_aload_n (q := 294) C dX8_reset_293 rfl rfl ?_
              refine g_getfield (v := .ref 126) (q := 297) C fX8_19 dX8_reset_294 rfl HL1_.1 rfl ?_
              refine g_iload_n (q := 298) C dX8_reset_297 rfl rfl ?_
              refine g_aload_n (q := 299) C dX8_reset_298 rfl rfl ?_
              refine g_getfield (v := .ref 123) (q := 302) C fX8_7 dX8_reset_299 rfl HL1_.1 rfl ?_
              refine g_iload_n (q := 303) C dX8_reset_302 rfl rfl ?_
              refine g_iload_n (q := 304) C dX8_reset_303 rfl rfl ?_
              refine g_iadd (q := 305) C dX8_reset_304 rfl ?_
              refine g_ialoadN (x := ((((M1.put 2 8 (if (M1.f 24) = 0 then 0 else 1 : Int32)).arr 1 (gCpy ((M1.put 2 8 (if (M1.f 24) = 0 then 0 else 1 : Int32)).a 1) 0 ((M1.put 2 8 (if (M1.f 24) = 0 then 0 else 1 : Int32)).a 2) 0 9)).arr 3 (gCpy (((M1.put 2 8 (if (M1.f 24) = 0 then 0 else 1 : Int32)).arr 1 (gCpy ((M1.put 2 8 (if (M1.f 24) = 0 then 0 else 1 : Int32)).a 1) 0 ((M1.put 2 8 (if (M1.f 24) = 0 then 0 else 1 : Int32)).a 2) 0 9)).a 3) 0 (((M1.put 2 8 (if (M1.f 24) = 0 then 0 else 1 : Int32)).arr 1 (gCpy ((M1.put 2 8 (if (M1.f 24) = 0 then 0 else 1 : Int32)).a 1) 0 ((M1.put 2 8 (if (M1.f 24) = 0 then 0 else 1 : Int32)).a 2) 0 9)).a 0) a0 j)).a 0 (a0 + j))) (j := (a0 + j)) (q := 306) C dX8_reset_305 rfl (HL1_.ar (i := 0) (n := 96) (by decide) rfl) (pk_in (a0 + j) 96 (by omega) (nI_add a0 j)) (pk_cl (a0 + j) (nI_add a0 j) (by omega)) rfl ?_
              refine g_iastoreN (j := j) (q := 307) C dX8_reset_306 rfl (HL1_.ar (i := 3) (n := 15) (by decide) rfl) (pk_in j 15 (by omega)) (pk_cl j rfl (by omega)) ?_
              refine gMsto (i := 3) (j := j) (x := ((((M1.put 2 8 (if (M1.f 24) = 0 then 0 else 1 : Int32)).arr 1 (gCpy ((M1.put 2 8 (if (M1.f 24) = 0 then 0 else 1 : Int32)).a 1) 0 ((M1.put 2 8 (if (M1.f 24) = 0 then 0 else 1 : Int32)).a 2) 0 9)).arr 3 (gCpy (((M1.put 2 8 (if (M1.f 24) = 0 then 0 else 1 : Int32)).arr 1 (gCpy ((M1.put 2 8 (if (M1.f 24) = 0 then 0 else 1 : Int32)).a 1) 0 ((M1.put 2 8 (if (M1.f 24) = 0 then 0 else 1 : Int32)).a 2) 0 9)).a 3) 0 (((M1.put 2 8 (if (M1.f 24) = 0 then 0 else 1 : Int32)).arr 1 (gCpy ((M1.put 2 8 (if (M1.f 24) = 0 then 0 else 1 : Int32)).a 1) 0 ((M1.put 2 8 (if (M1.f 24) = 0 then 0 else 1 : Int32)).a 2) 0 9)).a 0) a0 j)).a 0 (a0 + j))) HL1_ (by decide) rfl rfl fun h26 HL26 fr26 => ?_
              refine g_iinc (v := (nI (j + 1))) (q := 310) C dX8_reset_307 rfl (nI_1 j) (by simp only [gset]; rfl) rfl ?_
              have e9 : (((M1.put 2 8 (if (M1.f 24) = 0 then 0 else 1 : Int32)).arr 1 (gCpy ((M1.put 2 8 (if (M1.f 24) = 0 then 0 else 1 : Int32)).a 1) 0 ((M1.put 2 8 (if (M1.f 24) = 0 then 0 else 1 : Int32)).a 2) 0 9)).arr 3 (gCpy (((M1.put 2 8 (if (M1.f 24) = 0 then 0 else 1 : Int32)).arr 1 (gCpy ((M1.put 2 8 (if (M1.f 24) = 0 then 0 else 1 : Int32)).a 1) 0 ((M1.put 2 8 (if (M1.f 24) = 0 then 0 else 1 : Int32)).a 2) 0 9)).a 3) 0 (((M1.put 2 8 (if (M1.f 24) = 0 then 0 else 1 : Int32)).arr 1 (gCpy ((M1.put 2 8 (if (M1.f 24) = 0 then 0 else 1 : Int32)).a 1) 0 ((M1.put 2 8 (if (M1.f 24) = 0 then 0 else 1 : Int32)).a 2) 0 9)).a 0) a0 j)).put 3 (0 + j) ((((M1.put 2 8 (if (M1.f 24) = 0 then 0 else 1 : Int32)).arr 1 (gCpy ((M1.put 2 8 (if (M1.f 24) = 0 then 0 else 1 : Int32)).a 1) 0 ((M1.put 2 8 (if (M1.f 24) = 0 then 0 else 1 : Int32)).a 2) 0 9)).arr 3 (gCpy (((M1.put 2 8 (if (M1.f 24) = 0 then 0 else 1 : Int32)).arr 1 (gCpy ((M1.put 2 8 (if (M1.f 24) = 0 then 0 else 1 : Int32)).a 1) 0 ((M1.put 2 8 (if (M1.f 24) = 0 then 0 else 1 : Int32)).a 2) 0 9)).a 3) 0 (((M1.put 2 8 (if (M1.f 24) = 0 then 0 else 1 : Int32)).arr 1 (gCpy ((M1.put 2 8 (if (M1.f 24) = 0 then 0 else 1 : Int32)).a 1) 0 ((M1.put 2 8 (if (M1.f 24) = 0 then 0 else 1 : Int32)).a 2) 0 9)).a 0) a0 j)).a 0 (a0 + j)) = (((M1.put 2 8 (if (M1.f 24) = 0 then 0 else 1 : Int32)).arr 1 (gCpy ((M1.put 2 8 (if (M1.f 24) = 0 then 0 else 1 : Int32)).a 1) 0 ((M1.put 2 8 (if (M1.f 24) = 0 then 0 else 1 : Int32)).a 2) 0 9)).arr 3 (gCpy (((M1.put 2 8 (if (M1.f 24) = 0 then 0 else 1 : Int32)).arr 1 (gCpy ((M1.put 2 8 (if (M1.f 24) = 0 then 0 else 1 : Int32)).a 1) 0 ((M1.put 2 8 (if (M1.f 24) = 0 then 0 else 1 : Int32)).a 2) 0 9)).a 3) 0 (((M1.put 2 8 (if (M1.f 24) = 0 then 0 else 1 : Int32)).arr 1 (gCpy ((M1.put 2 8 (if (M1.f 24) = 0 then 0 else 1 : Int32)).a 1) 0 ((M1.put 2 8 (if (M1.f 24) = 0 then 0 else 1 : Int32)).a 2) 0 9)).a 0) a0 (j + 1))) := garr_cp (by show (((M1.put 2 8 (if (M1.f 24) = 0 then 0 else 1 : Int32)).arr 1 (gCpy ((M1.put 2 8 (if (M1.f 24) = 0 then 0 else 1 : Int32)).a 1) 0 ((M1.put 2 8 (if (M1.f 24) = 0 then 0 else 1 : Int32)).a 2) 0 9)).arr 3 (gCpy (((M1.put 2 8 (if (M1.f 24) = 0 then 0 else 1 : Int32)).arr 1 (gCpy ((M1.put 2 8 (if (M1.f 24) = 0 then 0 else 1 : Int32)).a 1) 0 ((M1.put 2 8 (if (M1.f 24) = 0 then 0 else 1 : Int32)).a 2) 0 9)).a 3) 0 (((M1.put 2 8 (if (M1.f 24) = 0 then 0 else 1 : Int32)).arr 1 (gCpy ((M1.put 2 8 (if (M1.f 24) = 0 then 0 else 1 : Int32)).a 1) 0 ((M1.put 2 8 (if (M1.f 24) = 0 then 0 else 1 : Int32)).a 2) 0 9)).a 0) a0 j)).a 0 _ = _; rw [(garr_o (by decide))])
              have HL9 : gMod h26 (((M1.put 2 8 (if (M1.f 24) = 0 then 0 else 1 : Int32)).arr 1 (gCpy ((M1.put 2 8 (if (M1.f 24) = 0 then 0 else 1 : Int32)).a 1) 0 ((M1.put 2 8 (if (M1.f 24) = 0 then 0 else 1 : Int32)).a 2) 0 9)).arr 3 (gCpy (((M1.put 2 8 (if (M1.f 24) = 0 then 0 else 1 : Int32)).arr 1 (gCpy ((M1.put 2 8 (if (M1.f 24) = 0 then 0 else 1 : Int32)).a 1) 0 ((M1.put 2 8 (if (M1.f 24) = 0 then 0 else 1 : Int32)).a 2) 0 9)).a 3) 0 (((M1.put 2 8 (if (M1.f 24) = 0 then 0 else 1 : Int32)).arr 1 (gCpy ((M1.put 2 8 (if (M1.f 24) = 0 then 0 else 1 : Int32)).a 1) 0 ((M1.put 2 8 (if (M1.f 24) = 0 then 0 else 1 : Int32)).a 2) 0 9)).a 0) a0 (j + 1))) := by rw [← e9, Nat.zero_add]; exact HL26
              refine g_goto (q := 282) C dX8_reset_310 (by decide) ?_
              exact ih (j + 1) (by omega)  h26 HL9 (gFM.trans fr_ fr26)
          have HL8 : gMod h1 (((M1.put 2 8 (if (M1.f 24) = 0 then 0 else 1 : Int32)).arr 1 (gCpy ((M1.put 2 8 (if (M1.f 24) = 0 then 0 else 1 : Int32)).a 1) 0 ((M1.put 2 8 (if (M1.f 24) = 0 then 0 else 1 : Int32)).a 2) 0 9)).arr 3 (gCpy (((M1.put 2 8 (if (M1.f 24) = 0 then 0 else 1 : Int32)).arr 1 (gCpy ((M1.put 2 8 (if (M1.f 24) = 0 then 0 else 1 : Int32)).a 1) 0 ((M1.put 2 8 (if (M1.f 24) = 0 then 0 else 1 : Int32)).a 2) 0 9)).a 3) 0 (((M1.put 2 8 (if (M1.f 24) = 0 then 0 else 1 : Int32)).arr 1 (gCpy ((M1.put 2 8 (if (M1.f 24) = 0 then 0 else 1 : Int32)).a 1) 0 ((M1.put 2 8 (if (M1.f 24) = 0 then 0 else 1 : Int32)).a 2) 0 9)).a 0) a0 0)) := by rw [garr_0]; exact HL1_
          exact LL22 (c - 0) 0 (by omega)  h1 HL8 fr_
          
        | succ d ih =>
          intro j hj  h1 HL1_ fr_
          refine g_iload_n (q := 257) C dX8_reset_256 rfl rfl ?_
          refine g_bipush (v := 9) (q := 259) C dX8_reset_257 (by decide) rfl ?_
          rw [show 9 = nI 9 from (rfl).trans rfl]
          refine g_icmp_ge_f (t := 280) (q := 262) C dX8_reset_259 (by decide) rfl (fun h => nI_ge (show j < 9 by omega) (by omega) h) ?_
          refine g_aload_n (q := 263) C dX8_reset_262 rfl rfl ?_
          refine g_getfield (v := .ref 124) (q := 266) C fX8_13 dX8_reset_263 rfl HL1_.1 rfl ?_
          refine g_iload_n (q := 267) C dX8_reset_266 rfl rfl ?_
          refine g_aload_n (q := 268) C dX8_reset_267 rfl rfl ?_
          refine g_getfield (v := .ref 125) (q := 271) C fX8_16 dX8_reset_268 rfl HL1_.1 rfl ?_
          refine g_iload_n (q := 272) C dX8_reset_271 rfl rfl ?_
          refine g_ialoadN (x := (((M1.put 2 8 (if (M1.f 24) = 0 then 0 else 1 : Int32)).arr 1 (gCpy ((M1.put 2 8 (if (M1.f 24) = 0 then 0 else 1 : Int32)).a 1) 0 ((M1.put 2 8 (if (M1.f 24) = 0 then 0 else 1 : Int32)).a 2) 0 j)).a 2 j)) (j := j) (q := 273) C dX8_reset_272 rfl (HL1_.ar (i := 2) (n := 9) (by decide) rfl) (pk_in j 9 (by omega)) (pk_cl j rfl (by omega)) rfl ?_
          refine g_iastoreN (j := j) (q := 274) C dX8_reset_273 rfl (HL1_.ar (i := 1) (n := 9) (by decide) rfl) (pk_in j 9 (by omega)) (pk_cl j rfl (by omega)) ?_
          refine gMsto (i := 1) (j := j) (x := (((M1.put 2 8 (if (M1.f 24) = 0 then 0 else 1 : Int32)).arr 1 (gCpy ((M1.put 2 8 (if (M1.f 24) = 0 then 0 else 1 : Int32)).a 1) 0 ((M1.put 2 8 (if (M1.f 24) = 0 then 0 else 1 : Int32)).a 2) 0 j)).a 2 j)) HL1_ (by decide) rfl rfl fun h27 HL27 fr27 => ?_
          refine g_iinc (v := (nI (j + 1))) (q := 277) C dX8_reset_274 rfl (nI_1 j) (by simp only [gset]; rfl) rfl ?_
          have e9 : ((M1.put 2 8 (if (M1.f 24) = 0 then 0 else 1 : Int32)).arr 1 (gCpy ((M1.put 2 8 (if (M1.f 24) = 0 then 0 else 1 : Int32)).a 1) 0 ((M1.put 2 8 (if (M1.f 24) = 0 then 0 else 1 : Int32)).a 2) 0 j)).put 1 (0 + j) (((M1.put 2 8 (if (M1.f 24) = 0 then 0 else 1 : Int32)).arr 1 (gCpy ((M1.put 2 8 (if (M1.f 24) = 0 then 0 else 1 : Int32)).a 1) 0 ((M1.put 2 8 (if (M1.f 24) = 0 then 0 else 1 : Int32)).a 2) 0 j)).a 2 j) = ((M1.put 2 8 (if (M1.f 24) = 0 then 0 else 1 : Int32)).arr 1 (gCpy ((M1.put 2 8 (if (M1.f 24) = 0 then 0 else 1 : Int32)).a 1) 0 ((M1.put 2 8 (if (M1.f 24) = 0 then 0 else 1 : Int32)).a 2) 0 (j + 1))) := garr_cp (by show ((M1.put 2 8 (if (M1.f 24) = 0 then 0 else 1 : Int32)).arr 1 (gCpy ((M1.put 2 8 (if (M1.f 24) = 0 then 0 else 1 : Int32)).a 1) 0 ((M1.put 2 8 (if (M1.f 24) = 0 then 0 else 1 : Int32)).a 2) 0 j)).a 2 _ = _; rw [(garr_o (by decide))]; rw [Nat.zero_add])
          have HL9 : gMod h27 ((M1.put 2 8 (if (M1.f 24) = 0 then 0 else 1 : Int32)).arr 1 (gCpy ((M1.put 2 8 (if (M1.f 24) = 0 then 0 else 1 : Int32)).a 1) 0 ((M1.put 2 8 (if (M1.f 24) = 0 then 0 else 1 : Int32)).a 2) 0 (j + 1))) := by rw [← e9, Nat.zero_add]; exact HL27
          refine g_goto (q := 256) C dX8_reset_277 (by decide) ?_
          exact ih (j + 1) (by omega)  h27 HL9 (gFM.trans fr_ fr27)
      have HL8 : gMod h20 ((M1.put 2 8 (if (M1.f 24) = 0 then 0 else 1 : Int32)).arr 1 (gCpy ((M1.put 2 8 (if (M1.f 24) = 0 then 0 else 1 : Int32)).a 1) 0 ((M1.put 2 8 (if (M1.f 24) = 0 then 0 else 1 : Int32)).a 2) 0 0)) := by rw [garr_0]; exact HL20
      exact LL21 (9 - 0) 0 (by omega)  h20 HL8 (gFM.trans frz fr20)
      
    ·
      refine g_bipush (v := (-2)) (q := 229) C dX8_reset_227 (by decide) rfl ?_
      refine g_aload_n (q := 230) C dX8_reset_229 rfl rfl ?_
      refine g_getfield (v := .int ((M1.f 22))) (q := 233) C fX8_86 dX8_reset_230 rfl HZ.1 rfl ?_
      refine g_isub (q := 234) C dX8_reset_233 rfl ?_
      exact E.1 _ _ _ _ _ _ _ dX8_reset_234 rfl rfl (Nat.le_of_ble_eq_true rfl) (Nat.le_of_ble_eq_true rfl) ⟨_, rfl, _, HZ, frz, ⟨by rw [RZ.1 1 (by decide) (by decide) (by decide) (by decide)]; exact f1, Or.inl ⟨fun k h1 h2 h20 h21 h22 h23 h24 => (RZ.1 k h21 h22 h23 h24).trans (fB k h1 h2 h20 h21 h22 h23 h24), fun i q h => (RZ.2.1 i q h).trans (aB i q h)⟩⟩⟩
  have J192 : ∀ (n1 : Nat) (M1 : gMd) (x : Int32) (a1 c : Nat) (M0 : gMd) (hz : List gA), gMod hz M1 → gFM hp hz → gRz n1 MB M1 → c ≤ 15 → M0.f 21 = nI a1 → gRz c M0 M1 → gRi M0 → M1.a 2 6 = nI c → gG X 192 [some (.ref 122), some (.int x), some (.int ((nI a1))), some (.int ((nI c)))] [] hz 0 0 := by
    intro n1 M1 x a1 c M0 hz HZ frz RZ hc e0 R0 r0 d6
    refine g_aload_n (q := 193) C dX8_reset_192 rfl rfl ?_
    refine g_getfield (v := .int ((M1.f 22))) (q := 196) C fX8_86 dX8_reset_193 rfl HZ.1 rfl ?_
    refine g_if_ne (t := 220) (q := 199) C dX8_reset_196 (by decide) rfl (fun c_196 => ?_) (fun c_196 => ?_)
    ·
      exact J220 _ _ x a1 c M0 _ HZ frz RZ hc e0 R0 r0 d6
    ·
      refine g_aload_n (q := 200) C dX8_reset_199 rfl rfl ?_
      refine g_getfield (v := .int ((M1.f 21))) (q := 203) C fX8_89 dX8_reset_200 rfl HZ.1 rfl ?_
      refine g_aload_n (q := 204) C dX8_reset_203 rfl rfl ?_
      refine g_getfield (v := .int ((M1.f 20))) (q := 207) C fX8_92 dX8_reset_204 rfl HZ.1 rfl ?_
      refine g_icmp_ge (t := 220) (q := 210) C dX8_reset_207 (by decide) rfl (fun c_207 => ?_) (fun c_207 => ?_)
      ·
        exact J220 _ _ x a1 c M0 _ HZ frz RZ hc e0 R0 r0 d6
      ·
        refine g_aload_n (q := 211) C dX8_reset_210 rfl rfl ?_
        refine g_bipush (v := 7) (q := 213) C dX8_reset_211 (by decide) rfl ?_
        refine g_aload_n (q := 214) C dX8_reset_213 rfl rfl ?_
        refine g_getfield (v := .int ((M1.f 21))) (q := 217) C fX8_89 dX8_reset_214 rfl HZ.1 rfl ?_
        refine g_callVvp (q := 220) (As := [.int 7, .int ((M1.f 21))]) C gyX8_wrong gvX8_wrong t_1222 (c_X8_wrong_m (y := 7) (z := (M1.f 21)) HZ) dX8_reset_217 rfl HZ.1 rfl rfl rfl (Nat.le_of_ble_eq_true rfl) (Nat.le_of_ble_eq_true rfl) (Nat.le_of_ble_eq_true rfl) (Nat.le_of_ble_eq_true rfl) (Nat.le_of_ble_eq_true rfl) rfl (fun h28 z28 => ?_)
        obtain ⟨HN28, fn28⟩ := z28
        have R28 := gRz.trans RZ (gRz.wr (y := 7) (z := (M1.f 21)))
        exact J220 _ _ x a1 c M0 _ HN28 (gFM.trans frz fn28) R28 hc e0 (gRz.le (gRz.trans R0 gRz.wr) (by omega)) r0 (gWr.a.trans d6)
  have LL : ∀ (x : Int32) (a1 c : Nat) (M0 : gMd), c ≤ 15 → M0.f 21 = nI a1 → gRi M0 → M0.a 2 6 = nI c → ∀ d j : Nat, j + d = c → ∀ (n1 : Nat) (M1 : gMd) (hz : List gA), gMod hz M1 → gFM hp hz → gRz n1 MB M1 → gRz j M0 M1 → M1.a 2 6 = nI c → gG X 159 [some (.ref 122), some (.int x), some (.int ((nI a1))), some (.int ((nI j)))] [] hz 0 0 := by
    intro x a1 c M0 hc e0 r0 d0 d
    induction d with
    | zero =>
      intro j hj n1 M1 hz HZ frz RZ R0 d6
      obtain rfl : c = j := by omega
      refine g_iload_n (q := 160) C dX8_reset_159 rfl rfl ?_
      refine g_aload_n (q := 161) C dX8_reset_160 rfl rfl ?_
      refine g_getfield (v := .ref 125) (q := 164) C fX8_16 dX8_reset_161 rfl HZ.1 rfl ?_
      refine g_bipush (v := 6) (q := 166) C dX8_reset_164 (by decide) rfl ?_
      refine g_ialoadN (x := (M1.a 2 6)) (j := 6) (q := 167) C dX8_reset_166 rfl (HZ.ar (i := 2) (n := 9) (by decide) rfl) (pk_in 6 9 (by decide)) (pk_cl 6) rfl ?_
      rw [show (M1.a 2 6) = nI c from d6]
      refine g_icmp_ge_t (t := 181) C dX8_reset_167 (by decide) (nI_le (Nat.le_refl _) (by omega)) ?_
      refine g_aload_n (q := 182) C dX8_reset_181 rfl rfl ?_
      refine g_getfield (v := .int ((M1.f 24))) (q := 185) C fX8_123 dX8_reset_182 rfl HZ.1 rfl ?_
      refine g_if_eq (t := 192) (q := 188) C dX8_reset_185 (by decide) rfl (fun c_185 => ?_) (fun c_185 => ?_)
      ·
        exact J192 _ _ x a1 c M0 _ HZ frz RZ hc e0 R0 r0 d6
      ·
        refine g_aload_n (q := 189) C dX8_reset_188 rfl rfl ?_
        refine g_callVvp (q := 192) (As := []) C gyX8_checks gvX8_checks t_1248 (c_X8_checks_r HZ (hr.of RZ)) dX8_reset_189 rfl HZ.1 rfl rfl rfl (Nat.le_of_ble_eq_true rfl) (Nat.le_of_ble_eq_true rfl) (Nat.le_of_ble_eq_true rfl) (Nat.le_of_ble_eq_true rfl) (Nat.le_of_ble_eq_true rfl) rfl (fun h29 z29 => ?_)
        obtain ⟨N29, HN29, fn29, rn29, an29⟩ := z29
        have R29 := gRz.trans RZ rn29
        have R0 := gRz.le (gRz.trans R0 rn29) (Nat.le_add_right c 0)
        have d6 := (an29 2 6).trans d6
        exact J192 _ _ x a1 c M0 _ HN29 (gFM.trans frz fn29) R29 hc e0 R0 r0 d6
    | succ d ih =>
      intro j hj n1 M1 hz HZ frz RZ R0 d6
      refine g_iload_n (q := 160) C dX8_reset_159 rfl rfl ?_
      refine g_aload_n (q := 161) C dX8_reset_160 rfl rfl ?_
      refine g_getfield (v := .ref 125) (q := 164) C fX8_16 dX8_reset_161 rfl HZ.1 rfl ?_
      refine g_bipush (v := 6) (q := 166) C dX8_reset_164 (by decide) rfl ?_
      refine g_ialoadN (x := (M1.a 2 6)) (j := 6) (q := 167) C dX8_reset_166 rfl (HZ.ar (i := 2) (n := 9) (by decide) rfl) (pk_in 6 9 (by decide)) (pk_cl 6) rfl ?_
      rw [show (M1.a 2 6) = nI c from d6]
      refine g_icmp_ge_f (t := 181) (q := 170) C dX8_reset_167 (by decide) rfl (fun h => nI_ge (show j < c by omega) (by omega) h) ?_
      refine g_aload_n (q := 171) C dX8_reset_170 rfl rfl ?_
      refine g_callVip (q := 174) (As := []) C gyX8_byteNext gvX8_byteNext t_1218 (c_X8_byteNext_r HZ (hr.of RZ).1) dX8_reset_171 rfl HZ.1 rfl rfl rfl (Nat.le_of_ble_eq_true rfl) (Nat.le_of_ble_eq_true rfl) (Nat.le_of_ble_eq_true rfl) (Nat.le_of_ble_eq_true rfl) (Nat.le_of_ble_eq_true rfl) rfl (fun x30 h30 z30 => ?_)
      obtain ⟨N30, HN30, fn30, bn30⟩ := z30
      obtain ⟨rn30, X30⟩ := gRz.bn (hr.of RZ) bn30
      have R30 := gRz.trans RZ rn30
      refine g_pop (q := 175) C dX8_reset_174 rfl rfl ?_
      refine g_iinc (v := (nI (j + 1))) (q := 178) C dX8_reset_175 rfl (nI_1 j) (by simp only [gset]; rfl) rfl ?_
      refine g_goto (q := 159) C dX8_reset_178 (by decide) ?_
      exact ih (j + 1) (by omega) _ _ _ HN30 (gFM.trans frz fn30) R30 (gRz.trans R0 rn30) ((bn30.a 2 6).trans d6)
  have J129 : ∀ (n1 : Nat) (M1 : gMd)  (hz : List gA), gMod hz M1 → gFM hp hz → gRz n1 MB M1 → gG X 129 [some (.ref 122), some (.int 9), none, none] [] hz 0 0 := by
    intro n1 M1  hz HZ frz RZ 
    refine g_aload_n (q := 130) C dX8_reset_129 rfl rfl ?_
    refine g_callVip (q := 133) (As := []) C gyX8_byteNext gvX8_byteNext t_1218 (c_X8_byteNext_r HZ (hr.of RZ).1) dX8_reset_130 rfl HZ.1 rfl rfl rfl (Nat.le_of_ble_eq_true rfl) (Nat.le_of_ble_eq_true rfl) (Nat.le_of_ble_eq_true rfl) (Nat.le_of_ble_eq_true rfl) (Nat.le_of_ble_eq_true rfl) rfl (fun x31 h31 z31 => ?_)
    obtain ⟨N31, HN31, fn31, bn31⟩ := z31
    obtain ⟨rn31, X31⟩ := gRz.bn (hr.of RZ) bn31
    have R31 := gRz.trans RZ rn31
    refine g_istore_n (q := 134) C dX8_reset_133 (Nat.le_of_ble_eq_true rfl) (by simp only [gset]; rfl) rfl ?_
    refine g_aload_n (q := 135) C dX8_reset_134 rfl rfl ?_
    refine g_iload_n (q := 136) C dX8_reset_135 rfl rfl ?_
    refine g_iconst (v := 4) (q := 137) C dX8_reset_136 (by decide) rfl ?_
    refine g_ishr (q := 138) C dX8_reset_137 rfl ?_
    refine g_callVvp (q := 141) (As := [.int ((x31 >>> (4 &&& 31)))]) C gyX8_groupsTold gvX8_groupsTold t_1226 (c_X8_groupsTold_r (y := (x31 >>> (4 &&& 31))) HN31 (hr.of R31) (gSh4 X31)) dX8_reset_138 rfl HN31.1 rfl rfl rfl (Nat.le_of_ble_eq_true rfl) (Nat.le_of_ble_eq_true rfl) (Nat.le_of_ble_eq_true rfl) (Nat.le_of_ble_eq_true rfl) (Nat.le_of_ble_eq_true rfl) rfl (fun h32 z32 => ?_)
    obtain ⟨N32, HN32, fn32, rn32⟩ := z32
    have R32 := gRz.trans R31 rn32
    refine g_aload_n (q := 142) C dX8_reset_141 rfl rfl ?_
    refine g_getfield (v := .ref 125) (q := 145) C fX8_16 dX8_reset_142 rfl HN32.1 rfl ?_
    refine g_bipush (v := 6) (q := 147) C dX8_reset_145 (by decide) rfl ?_
    refine g_iload_n (q := 148) C dX8_reset_147 rfl rfl ?_
    refine g_bipush (v := 15) (q := 150) C dX8_reset_148 (by decide) rfl ?_
    refine g_iand (q := 151) C dX8_reset_150 rfl ?_
    refine g_iastoreN (j := 6) (q := 152) C dX8_reset_151 rfl (HN32.ar (i := 2) (n := 9) (by decide) rfl) (pk_in 6 9 (by decide)) (pk_cl 6) ?_
    refine gMsto (i := 2) (j := 6) (x := (x31 &&& 15)) HN32 (by decide) rfl rfl fun h33 HL33 fr33 => ?_
    refine g_aload_n (q := 153) C dX8_reset_152 rfl rfl ?_
    refine g_getfield (v := .int ((N32.f 21))) (q := 156) C fX8_89 dX8_reset_153 rfl HL33.1 rfl ?_
    refine g_istore_n (q := 157) C dX8_reset_156 (Nat.le_of_ble_eq_true rfl) (by simp only [gset]; rfl) rfl ?_
    refine g_iconst (v := 0) (q := 158) C dX8_reset_157 (by decide) rfl ?_
    refine g_istore_n (q := 159) C dX8_reset_158 (Nat.le_of_ble_eq_true rfl) (by simp only [gset]; rfl) rfl ?_
    obtain ⟨c, hc, ec⟩ := gmask x31 (m := 15) (by decide)
    have R9 := (gRz.trans R32 (gRz.put (M := N32) (j := 6) (x := (x31 &&& 15)) (by decide)))
    obtain ⟨a1, q1, q2, q3, q4⟩ := R9.2.2.2 n 0 hn (f20.trans en) (Nat.zero_le _) f21
    rw [show (N32.f 21) = nI a1 from q3]
    exact LL x31 a1 c _ hc q3 (hr.of R9) (gput_s.trans ec) c 0 (by omega) _ _ _ HL33 (gFM.trans (gFM.trans (gFM.trans frz fn31) fn32) fr33) R9 gRz.rf (gput_s.trans ec)
  refine g_aload_n (q := 85) C dX8_reset_84 rfl rfl ?_
  refine g_getfield (v := .ref 125) (q := 88) C fX8_16 dX8_reset_85 rfl HB9.1 rfl ?_
  refine g_iconst (v := 0) (q := 89) C dX8_reset_88 (by decide) rfl ?_
  refine g_aload_n (q := 90) C dX8_reset_89 rfl rfl ?_
  refine g_callVip (q := 93) (As := []) C gyX8_byteNext gvX8_byteNext t_1218 (c_X8_byteNext_r HB9 (hr.of gRz.rf).1) dX8_reset_90 rfl HB9.1 rfl rfl rfl (Nat.le_of_ble_eq_true rfl) (Nat.le_of_ble_eq_true rfl) (Nat.le_of_ble_eq_true rfl) (Nat.le_of_ble_eq_true rfl) (Nat.le_of_ble_eq_true rfl) rfl (fun x34 h34 z34 => ?_)
  obtain ⟨N34, HN34, fn34, bn34⟩ := z34
  obtain ⟨rn34, X34⟩ := gRz.bn (hr.of gRz.rf) bn34
  have R34 := gRz.trans gRz.rf rn34
  refine g_iastoreN (j := 0) (q := 94) C dX8_reset_93 rfl (HN34.ar (i := 2) (n := 9) (by decide) rfl) (pk_in 0 9 (by decide)) (pk_cl 0) ?_
  refine gMsto (i := 2) (j := 0) (x := x34) HN34 (by decide) rfl rfl fun h35 HL35 fr35 => ?_
  refine g_aload_n (q := 95) C dX8_reset_94 rfl rfl ?_
  refine g_getfield (v := .int ((N34.f 22))) (q := 98) C fX8_86 dX8_reset_95 rfl HL35.1 rfl ?_
  refine g_if_ne (t := 129) (q := 101) C dX8_reset_98 (by decide) rfl (fun c_98 => ?_) (fun c_98 => ?_)
  ·
    exact J129 _ _ _ HL35 (gFM.trans (gFM.trans frB fn34) fr35) (gRz.trans R34 (gRz.put (M := N34) (j := 0) (x := x34) (by decide)))
  ·
    refine g_aload_n (q := 102) C dX8_reset_101 rfl rfl ?_
    refine g_getfield (v := .ref 125) (q := 105) C fX8_16 dX8_reset_102 rfl HL35.1 rfl ?_
    refine g_iconst (v := 0) (q := 106) C dX8_reset_105 (by decide) rfl ?_
    refine g_ialoadN (x := x34) (j := 0) (q := 107) C dX8_reset_106 rfl (HL35.ar (i := 2) (n := 9) (by decide) rfl) (pk_in 0 9 (by decide)) (pk_cl 0) gput_s ?_
    refine g_bipush (v := 59) (q := 109) C dX8_reset_107 (by decide) rfl ?_
    refine g_icmp_eq (t := 129) (q := 112) C dX8_reset_109 (by decide) rfl (fun c_109 => ?_) (fun c_109 => ?_)
    ·
      exact J129 _ _ _ HL35 (gFM.trans (gFM.trans frB fn34) fr35) (gRz.trans R34 (gRz.put (M := N34) (j := 0) (x := x34) (by decide)))
    ·
      refine g_aload_n (q := 113) C dX8_reset_112 rfl rfl ?_
      refine g_getfield (v := .ref 125) (q := 116) C fX8_16 dX8_reset_113 rfl HL35.1 rfl ?_
      refine g_iconst (v := 0) (q := 117) C dX8_reset_116 (by decide) rfl ?_
      refine g_ialoadN (x := x34) (j := 0) (q := 118) C dX8_reset_117 rfl (HL35.ar (i := 2) (n := 9) (by decide) rfl) (pk_in 0 9 (by decide)) (pk_cl 0) gput_s ?_
      refine g_bipush (v := 63) (q := 120) C dX8_reset_118 (by decide) rfl ?_
      refine g_icmp_eq (t := 129) (q := 123) C dX8_reset_120 (by decide) rfl (fun c_120 => ?_) (fun c_120 => ?_)
      ·
        exact J129 _ _ _ HL35 (gFM.trans (gFM.trans frB fn34) fr35) (gRz.trans R34 (gRz.put (M := N34) (j := 0) (x := x34) (by decide)))
      ·
        refine g_aload_n (q := 124) C dX8_reset_123 rfl rfl ?_
        refine g_iconst (v := 2) (q := 125) C dX8_reset_124 (by decide) rfl ?_
        refine g_iconst (v := 0) (q := 126) C dX8_reset_125 (by decide) rfl ?_
        refine g_callVvp (q := 129) (As := [.int 2, .int 0]) C gyX8_wrong gvX8_wrong t_1222 (c_X8_wrong_m (y := 2) (z := 0) HL35) dX8_reset_126 rfl HL35.1 rfl rfl rfl (Nat.le_of_ble_eq_true rfl) (Nat.le_of_ble_eq_true rfl) (Nat.le_of_ble_eq_true rfl) (Nat.le_of_ble_eq_true rfl) (Nat.le_of_ble_eq_true rfl) rfl (fun h36 z36 => ?_)
        obtain ⟨HN36, fn36⟩ := z36
        have R36 := gRz.trans (gRz.trans R34 (gRz.put (M := N34) (j := 0) (x := x34) (by decide))) (gRz.wr (y := 2) (z := 0))
        exact J129 _ _ _ HN36 (gFM.trans (gFM.trans (gFM.trans frB fn34) fr35) fn36) R36
  
