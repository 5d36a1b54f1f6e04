/-! the reference: what the card gets (by program: wip/p2/m_mo.py) -/
def pX8_cardGets (M : gMd) : gMd × Option (Int32 × Int32) := (if (M.a 4 418) < 0 then (if (M.f 29) = 3 then (M, none) else (if (M.f 29) = 0 then (if (M.a 13 1) = 192 then (pX8_responds_1 ((rX8_resynchs_1 M).put 4 416 0)) else (if (M.a 4 25) < 0 then (if 128 ≤ (M.a 13 1) then (if 192 ≤ (M.a 13 1) then (if (M.a 13 1) = 193 then (pX8_responds_1 (M.put 4 2 (M.a 13 3))) else (pX8_sendsR_1 M 2)) else (if 0 ≤ (M.a 4 21) then (if (rX8_wantsAgain_1 M) = 0 then (pX8_goesOn_1 M) else (pX8_sendsPending_1 M)) else (pX8_sendsR_1 M 0))) else (if (rX8_takes_1 M).1 = 0 then (pX8_sendsR_1 ((rX8_takes_1 M).2) 2) else (if (rX8_hasMoreCome ((rX8_takes_1 M).2)) = 0 then (pX8_cardDoes (rX8_messageCame_1 ((rX8_takes_1 M).2))) else (pX8_sendsR_1 ((rX8_takes_1 M).2) 0)))) else (if (rX8_isResponse_1 M) = 0 then (pX8_sendsAsked_1 M) else (pX8_cardAnswered M)))) else (if (M.a 4 25) < 0 then (pX8_sendsR_1 M (M.f 29)) else (pX8_sendsAsked_1 M)))) else (if 0 ≤ ((M.a 4 418) - 1) then ((M.put 4 418 ((M.a 4 418) - 1)), none) else (pX8_cardSends_0 (M.put 4 418 ((M.a 4 418) - 1)) 1)))
def oX8_cardGets (M : gMd) (l : Nat) (E : List (Int32 × List Int32)) : Prop := (if (M.a 4 418) < 0 then (if (M.f 29) = 3 then True else (if (M.f 29) = 0 then (if (M.a 13 1) = 192 then oX8_responds_1 ((rX8_resynchs_1 M).put 4 416 0) l E else (if (M.a 4 25) < 0 then (if 128 ≤ (M.a 13 1) then (if 192 ≤ (M.a 13 1) then (if (M.a 13 1) = 193 then oX8_responds_1 (M.put 4 2 (M.a 13 3)) l E else oX8_sendsR_1 M 2 l E) else (if 0 ≤ (M.a 4 21) then (if (rX8_wantsAgain_1 M) = 0 then oX8_goesOn_1 M l E else oX8_sendsPending_1 M l E) else oX8_sendsR_1 M 0 l E)) else (gIr ((rX8_isThrough_1 M).a 4 24) 60 ∧ (gIr ((rX8_isThrough_1 M).a 13 2) 60 ∧ (if (rX8_takes_1 M).1 = 0 then oX8_sendsR_1 ((rX8_takes_1 M).2) 2 l E else (if (rX8_hasMoreCome ((rX8_takes_1 M).2)) = 0 then (gIr (((rX8_takes_1 M).2).a 4 24) 60 ∧ oX8_cardDoes (rX8_messageCame_1 ((rX8_takes_1 M).2)) l E) else oX8_sendsR_1 ((rX8_takes_1 M).2) 0 l E))))) else (if (rX8_isResponse_1 M) = 0 then oX8_sendsAsked_1 M l E else oX8_cardAnswered M l E))) else (if (M.a 4 25) < 0 then oX8_sendsR_1 M (M.f 29) l E else oX8_sendsAsked_1 M l E))) else (if 0 ≤ ((M.a 4 418) - 1) then True else oX8_cardSends_0 (M.put 4 418 ((M.a 4 418) - 1)) 1 l E))
theorem dX8_cardGets_0 : decode cX8_cardGets 0 = .ok (.bipush 16, 2) := by decide +kernel
theorem dX8_cardGets_2 : decode cX8_cardGets 2 = .ok (.istore_n 1, 1) := by decide +kernel
theorem dX8_cardGets_3 : decode cX8_cardGets 3 = .ok (.aload_n 0, 1) := by decide +kernel
theorem dX8_cardGets_4 : decode cX8_cardGets 4 = .ok (.getfield 22, 3) := by decide +kernel
theorem dX8_cardGets_7 : decode cX8_cardGets 7 = .ok (.sipush 418, 3) := by decide +kernel
theorem dX8_cardGets_10 : decode cX8_cardGets 10 = .ok (.iaload, 1) := by decide +kernel
theorem dX8_cardGets_11 : decode cX8_cardGets 11 = .ok (.ifCond .lt 33, 3) := by decide +kernel
theorem dX8_cardGets_14 : decode cX8_cardGets 14 = .ok (.aload_n 0, 1) := by decide +kernel
theorem dX8_cardGets_15 : decode cX8_cardGets 15 = .ok (.getfield 22, 3) := by decide +kernel
theorem dX8_cardGets_18 : decode cX8_cardGets 18 = .ok (.sipush 418, 3) := by decide +kernel
theorem dX8_cardGets_21 : decode cX8_cardGets 21 = .ok (.dup2, 1) := by decide +kernel
theorem dX8_cardGets_22 : decode cX8_cardGets 22 = .ok (.iaload, 1) := by decide +kernel
theorem dX8_cardGets_23 : decode cX8_cardGets 23 = .ok (.iconst 1, 1) := by decide +kernel
theorem dX8_cardGets_24 : decode cX8_cardGets 24 = .ok (.isub, 1) := by decide +kernel
theorem dX8_cardGets_25 : decode cX8_cardGets 25 = .ok (.iastore, 1) := by decide +kernel
theorem dX8_cardGets_26 : decode cX8_cardGets 26 = .ok (.aload_n 0, 1) := by decide +kernel
theorem dX8_cardGets_27 : decode cX8_cardGets 27 = .ok (.getfield 22, 3) := by decide +kernel
theorem dX8_cardGets_30 : decode cX8_cardGets 30 = .ok (.sipush 418, 3) := by decide +kernel
theorem dX8_cardGets_33 : decode cX8_cardGets 33 = .ok (.iaload, 1) := by decide +kernel
theorem dX8_cardGets_34 : decode cX8_cardGets 34 = .ok (.ifCond .ge 9, 3) := by decide +kernel
theorem dX8_cardGets_37 : decode cX8_cardGets 37 = .ok (.aload_n 0, 1) := by decide +kernel
theorem dX8_cardGets_38 : decode cX8_cardGets 38 = .ok (.iconst 0, 1) := by decide +kernel
theorem dX8_cardGets_39 : decode cX8_cardGets 39 = .ok (.iconst 1, 1) := by decide +kernel
theorem dX8_cardGets_40 : decode cX8_cardGets 40 = .ok (.invokevirtual 276, 3) := by decide +kernel
theorem dX8_cardGets_43 : decode cX8_cardGets 43 = .ok (.return_, 1) := by decide +kernel
theorem dX8_cardGets_44 : decode cX8_cardGets 44 = .ok (.aload_n 0, 1) := by decide +kernel
theorem dX8_cardGets_45 : decode cX8_cardGets 45 = .ok (.getfield 176, 3) := by decide +kernel
theorem dX8_cardGets_48 : decode cX8_cardGets 48 = .ok (.iconst 3, 1) := by decide +kernel
theorem dX8_cardGets_49 : decode cX8_cardGets 49 = .ok (.if_icmp .ne 4, 3) := by decide +kernel
theorem dX8_cardGets_52 : decode cX8_cardGets 52 = .ok (.return_, 1) := by decide +kernel
theorem dX8_cardGets_53 : decode cX8_cardGets 53 = .ok (.aload_n 0, 1) := by decide +kernel
theorem dX8_cardGets_54 : decode cX8_cardGets 54 = .ok (.getfield 176, 3) := by decide +kernel
theorem dX8_cardGets_57 : decode cX8_cardGets 57 = .ok (.ifCond .eq 35, 3) := by decide +kernel
theorem dX8_cardGets_60 : decode cX8_cardGets 60 = .ok (.aload_n 0, 1) := by decide +kernel
theorem dX8_cardGets_61 : decode cX8_cardGets 61 = .ok (.getfield 22, 3) := by decide +kernel
theorem dX8_cardGets_64 : decode cX8_cardGets 64 = .ok (.iload_n 1, 1) := by decide +kernel
theorem dX8_cardGets_65 : decode cX8_cardGets 65 = .ok (.bipush 9, 2) := by decide +kernel
theorem dX8_cardGets_67 : decode cX8_cardGets 67 = .ok (.iadd, 1) := by decide +kernel
theorem dX8_cardGets_68 : decode cX8_cardGets 68 = .ok (.iaload, 1) := by decide +kernel
theorem dX8_cardGets_69 : decode cX8_cardGets 69 = .ok (.ifCond .lt 11, 3) := by decide +kernel
theorem dX8_cardGets_72 : decode cX8_cardGets 72 = .ok (.aload_n 0, 1) := by decide +kernel
theorem dX8_cardGets_73 : decode cX8_cardGets 73 = .ok (.iconst 1, 1) := by decide +kernel
theorem dX8_cardGets_74 : decode cX8_cardGets 74 = .ok (.invokevirtual 201, 3) := by decide +kernel
theorem dX8_cardGets_77 : decode cX8_cardGets 77 = .ok (.goto 235, 3) := by decide +kernel
theorem dX8_cardGets_80 : decode cX8_cardGets 80 = .ok (.aload_n 0, 1) := by decide +kernel
theorem dX8_cardGets_81 : decode cX8_cardGets 81 = .ok (.iconst 1, 1) := by decide +kernel
theorem dX8_cardGets_82 : decode cX8_cardGets 82 = .ok (.aload_n 0, 1) := by decide +kernel
theorem dX8_cardGets_83 : decode cX8_cardGets 83 = .ok (.getfield 176, 3) := by decide +kernel
theorem dX8_cardGets_86 : decode cX8_cardGets 86 = .ok (.invokevirtual 216, 3) := by decide +kernel
theorem dX8_cardGets_89 : decode cX8_cardGets 89 = .ok (.goto 223, 3) := by decide +kernel
theorem dX8_cardGets_92 : decode cX8_cardGets 92 = .ok (.aload_n 0, 1) := by decide +kernel
theorem dX8_cardGets_93 : decode cX8_cardGets 93 = .ok (.getfield 54, 3) := by decide +kernel
theorem dX8_cardGets_96 : decode cX8_cardGets 96 = .ok (.iconst 1, 1) := by decide +kernel
theorem dX8_cardGets_97 : decode cX8_cardGets 97 = .ok (.iaload, 1) := by decide +kernel
theorem dX8_cardGets_98 : decode cX8_cardGets 98 = .ok (.sipush 192, 3) := by decide +kernel
theorem dX8_cardGets_101 : decode cX8_cardGets 101 = .ok (.if_icmp .ne 25, 3) := by decide +kernel
theorem dX8_cardGets_104 : decode cX8_cardGets 104 = .ok (.aload_n 0, 1) := by decide +kernel
theorem dX8_cardGets_105 : decode cX8_cardGets 105 = .ok (.iconst 1, 1) := by decide +kernel
theorem dX8_cardGets_106 : decode cX8_cardGets 106 = .ok (.invokevirtual 255, 3) := by decide +kernel
theorem dX8_cardGets_109 : decode cX8_cardGets 109 = .ok (.aload_n 0, 1) := by decide +kernel
theorem dX8_cardGets_110 : decode cX8_cardGets 110 = .ok (.getfield 22, 3) := by decide +kernel
theorem dX8_cardGets_113 : decode cX8_cardGets 113 = .ok (.sipush 416, 3) := by decide +kernel
theorem dX8_cardGets_116 : decode cX8_cardGets 116 = .ok (.iconst 0, 1) := by decide +kernel
theorem dX8_cardGets_117 : decode cX8_cardGets 117 = .ok (.iastore, 1) := by decide +kernel
theorem dX8_cardGets_118 : decode cX8_cardGets 118 = .ok (.aload_n 0, 1) := by decide +kernel
theorem dX8_cardGets_119 : decode cX8_cardGets 119 = .ok (.iconst 1, 1) := by decide +kernel
theorem dX8_cardGets_120 : decode cX8_cardGets 120 = .ok (.invokevirtual 264, 3) := by decide +kernel
theorem dX8_cardGets_123 : decode cX8_cardGets 123 = .ok (.goto 189, 3) := by decide +kernel
theorem dX8_cardGets_126 : decode cX8_cardGets 126 = .ok (.aload_n 0, 1) := by decide +kernel
theorem dX8_cardGets_127 : decode cX8_cardGets 127 = .ok (.getfield 22, 3) := by decide +kernel
theorem dX8_cardGets_130 : decode cX8_cardGets 130 = .ok (.iload_n 1, 1) := by decide +kernel
theorem dX8_cardGets_131 : decode cX8_cardGets 131 = .ok (.bipush 9, 2) := by decide +kernel
theorem dX8_cardGets_133 : decode cX8_cardGets 133 = .ok (.iadd, 1) := by decide +kernel
theorem dX8_cardGets_134 : decode cX8_cardGets 134 = .ok (.iaload, 1) := by decide +kernel
theorem dX8_cardGets_135 : decode cX8_cardGets 135 = .ok (.ifCond .lt 26, 3) := by decide +kernel
theorem dX8_cardGets_138 : decode cX8_cardGets 138 = .ok (.aload_n 0, 1) := by decide +kernel
theorem dX8_cardGets_139 : decode cX8_cardGets 139 = .ok (.iconst 1, 1) := by decide +kernel
theorem dX8_cardGets_140 : decode cX8_cardGets 140 = .ok (.invokevirtual 228, 3) := by decide +kernel
theorem dX8_cardGets_143 : decode cX8_cardGets 143 = .ok (.ifCond .eq 10, 3) := by decide +kernel
theorem dX8_cardGets_146 : decode cX8_cardGets 146 = .ok (.aload_n 0, 1) := by decide +kernel
theorem dX8_cardGets_147 : decode cX8_cardGets 147 = .ok (.invokevirtual 282, 3) := by decide +kernel
theorem dX8_cardGets_150 : decode cX8_cardGets 150 = .ok (.goto 162, 3) := by decide +kernel
theorem dX8_cardGets_153 : decode cX8_cardGets 153 = .ok (.aload_n 0, 1) := by decide +kernel
theorem dX8_cardGets_154 : decode cX8_cardGets 154 = .ok (.iconst 1, 1) := by decide +kernel
theorem dX8_cardGets_155 : decode cX8_cardGets 155 = .ok (.invokevirtual 201, 3) := by decide +kernel
theorem dX8_cardGets_158 : decode cX8_cardGets 158 = .ok (.goto 154, 3) := by decide +kernel
theorem dX8_cardGets_161 : decode cX8_cardGets 161 = .ok (.aload_n 0, 1) := by decide +kernel
theorem dX8_cardGets_162 : decode cX8_cardGets 162 = .ok (.getfield 54, 3) := by decide +kernel
theorem dX8_cardGets_165 : decode cX8_cardGets 165 = .ok (.iconst 1, 1) := by decide +kernel
theorem dX8_cardGets_166 : decode cX8_cardGets 166 = .ok (.iaload, 1) := by decide +kernel
theorem dX8_cardGets_167 : decode cX8_cardGets 167 = .ok (.sipush 128, 3) := by decide +kernel
theorem dX8_cardGets_170 : decode cX8_cardGets 170 = .ok (.if_icmp .ge 48, 3) := by decide +kernel
theorem dX8_cardGets_173 : decode cX8_cardGets 173 = .ok (.aload_n 0, 1) := by decide +kernel
theorem dX8_cardGets_174 : decode cX8_cardGets 174 = .ok (.iconst 1, 1) := by decide +kernel
theorem dX8_cardGets_175 : decode cX8_cardGets 175 = .ok (.invokevirtual 234, 3) := by decide +kernel
theorem dX8_cardGets_178 : decode cX8_cardGets 178 = .ok (.ifCond .ne 12, 3) := by decide +kernel
theorem dX8_cardGets_181 : decode cX8_cardGets 181 = .ok (.aload_n 0, 1) := by decide +kernel
theorem dX8_cardGets_182 : decode cX8_cardGets 182 = .ok (.iconst 1, 1) := by decide +kernel
theorem dX8_cardGets_183 : decode cX8_cardGets 183 = .ok (.iconst 2, 1) := by decide +kernel
theorem dX8_cardGets_184 : decode cX8_cardGets 184 = .ok (.invokevirtual 216, 3) := by decide +kernel
theorem dX8_cardGets_187 : decode cX8_cardGets 187 = .ok (.goto 125, 3) := by decide +kernel
theorem dX8_cardGets_190 : decode cX8_cardGets 190 = .ok (.aload_n 0, 1) := by decide +kernel
theorem dX8_cardGets_191 : decode cX8_cardGets 191 = .ok (.invokevirtual 237, 3) := by decide +kernel
theorem dX8_cardGets_194 : decode cX8_cardGets 194 = .ok (.ifCond .eq 12, 3) := by decide +kernel
theorem dX8_cardGets_197 : decode cX8_cardGets 197 = .ok (.aload_n 0, 1) := by decide +kernel
theorem dX8_cardGets_198 : decode cX8_cardGets 198 = .ok (.iconst 1, 1) := by decide +kernel
theorem dX8_cardGets_199 : decode cX8_cardGets 199 = .ok (.iconst 0, 1) := by decide +kernel
theorem dX8_cardGets_200 : decode cX8_cardGets 200 = .ok (.invokevirtual 216, 3) := by decide +kernel
theorem dX8_cardGets_203 : decode cX8_cardGets 203 = .ok (.goto 109, 3) := by decide +kernel
theorem dX8_cardGets_206 : decode cX8_cardGets 206 = .ok (.aload_n 0, 1) := by decide +kernel
theorem dX8_cardGets_207 : decode cX8_cardGets 207 = .ok (.iconst 1, 1) := by decide +kernel
theorem dX8_cardGets_208 : decode cX8_cardGets 208 = .ok (.invokevirtual 240, 3) := by decide +kernel
theorem dX8_cardGets_211 : decode cX8_cardGets 211 = .ok (.aload_n 0, 1) := by decide +kernel
theorem dX8_cardGets_212 : decode cX8_cardGets 212 = .ok (.invokevirtual 285, 3) := by decide +kernel
theorem dX8_cardGets_215 : decode cX8_cardGets 215 = .ok (.goto 97, 3) := by decide +kernel
theorem dX8_cardGets_218 : decode cX8_cardGets 218 = .ok (.aload_n 0, 1) := by decide +kernel
theorem dX8_cardGets_219 : decode cX8_cardGets 219 = .ok (.getfield 54, 3) := by decide +kernel
theorem dX8_cardGets_222 : decode cX8_cardGets 222 = .ok (.iconst 1, 1) := by decide +kernel
theorem dX8_cardGets_223 : decode cX8_cardGets 223 = .ok (.iaload, 1) := by decide +kernel
theorem dX8_cardGets_224 : decode cX8_cardGets 224 = .ok (.sipush 192, 3) := by decide +kernel
theorem dX8_cardGets_227 : decode cX8_cardGets 227 = .ok (.if_icmp .ge 47, 3) := by decide +kernel
theorem dX8_cardGets_230 : decode cX8_cardGets 230 = .ok (.aload_n 0, 1) := by decide +kernel
theorem dX8_cardGets_231 : decode cX8_cardGets 231 = .ok (.getfield 22, 3) := by decide +kernel
theorem dX8_cardGets_234 : decode cX8_cardGets 234 = .ok (.iload_n 1, 1) := by decide +kernel
theorem dX8_cardGets_235 : decode cX8_cardGets 235 = .ok (.iconst 5, 1) := by decide +kernel
theorem dX8_cardGets_236 : decode cX8_cardGets 236 = .ok (.iadd, 1) := by decide +kernel
theorem dX8_cardGets_237 : decode cX8_cardGets 237 = .ok (.iaload, 1) := by decide +kernel
theorem dX8_cardGets_238 : decode cX8_cardGets 238 = .ok (.ifCond .ge 12, 3) := by decide +kernel
theorem dX8_cardGets_241 : decode cX8_cardGets 241 = .ok (.aload_n 0, 1) := by decide +kernel
theorem dX8_cardGets_242 : decode cX8_cardGets 242 = .ok (.iconst 1, 1) := by decide +kernel
theorem dX8_cardGets_243 : decode cX8_cardGets 243 = .ok (.iconst 0, 1) := by decide +kernel
theorem dX8_cardGets_244 : decode cX8_cardGets 244 = .ok (.invokevirtual 216, 3) := by decide +kernel
theorem dX8_cardGets_247 : decode cX8_cardGets 247 = .ok (.goto 65, 3) := by decide +kernel
theorem dX8_cardGets_250 : decode cX8_cardGets 250 = .ok (.aload_n 0, 1) := by decide +kernel
theorem dX8_cardGets_251 : decode cX8_cardGets 251 = .ok (.iconst 1, 1) := by decide +kernel
theorem dX8_cardGets_252 : decode cX8_cardGets 252 = .ok (.invokevirtual 258, 3) := by decide +kernel
theorem dX8_cardGets_255 : decode cX8_cardGets 255 = .ok (.ifCond .eq 11, 3) := by decide +kernel
theorem dX8_cardGets_258 : decode cX8_cardGets 258 = .ok (.aload_n 0, 1) := by decide +kernel
theorem dX8_cardGets_259 : decode cX8_cardGets 259 = .ok (.iconst 1, 1) := by decide +kernel
theorem dX8_cardGets_260 : decode cX8_cardGets 260 = .ok (.invokevirtual 204, 3) := by decide +kernel
theorem dX8_cardGets_263 : decode cX8_cardGets 263 = .ok (.goto 49, 3) := by decide +kernel
theorem dX8_cardGets_266 : decode cX8_cardGets 266 = .ok (.aload_n 0, 1) := by decide +kernel
theorem dX8_cardGets_267 : decode cX8_cardGets 267 = .ok (.iconst 1, 1) := by decide +kernel
theorem dX8_cardGets_268 : decode cX8_cardGets 268 = .ok (.invokevirtual 261, 3) := by decide +kernel
theorem dX8_cardGets_271 : decode cX8_cardGets 271 = .ok (.goto 41, 3) := by decide +kernel
theorem dX8_cardGets_274 : decode cX8_cardGets 274 = .ok (.aload_n 0, 1) := by decide +kernel
theorem dX8_cardGets_275 : decode cX8_cardGets 275 = .ok (.getfield 54, 3) := by decide +kernel
theorem dX8_cardGets_278 : decode cX8_cardGets 278 = .ok (.iconst 1, 1) := by decide +kernel
theorem dX8_cardGets_279 : decode cX8_cardGets 279 = .ok (.iaload, 1) := by decide +kernel
theorem dX8_cardGets_280 : decode cX8_cardGets 280 = .ok (.sipush 193, 3) := by decide +kernel
theorem dX8_cardGets_283 : decode cX8_cardGets 283 = .ok (.if_icmp .ne 23, 3) := by decide +kernel
theorem dX8_cardGets_286 : decode cX8_cardGets 286 = .ok (.aload_n 0, 1) := by decide +kernel
theorem dX8_cardGets_287 : decode cX8_cardGets 287 = .ok (.getfield 22, 3) := by decide +kernel
theorem dX8_cardGets_290 : decode cX8_cardGets 290 = .ok (.iconst 2, 1) := by decide +kernel
theorem dX8_cardGets_291 : decode cX8_cardGets 291 = .ok (.aload_n 0, 1) := by decide +kernel
theorem dX8_cardGets_292 : decode cX8_cardGets 292 = .ok (.getfield 54, 3) := by decide +kernel
theorem dX8_cardGets_295 : decode cX8_cardGets 295 = .ok (.iconst 3, 1) := by decide +kernel
theorem dX8_cardGets_296 : decode cX8_cardGets 296 = .ok (.iaload, 1) := by decide +kernel
theorem dX8_cardGets_297 : decode cX8_cardGets 297 = .ok (.iastore, 1) := by decide +kernel
theorem dX8_cardGets_298 : decode cX8_cardGets 298 = .ok (.aload_n 0, 1) := by decide +kernel
theorem dX8_cardGets_299 : decode cX8_cardGets 299 = .ok (.iconst 1, 1) := by decide +kernel
theorem dX8_cardGets_300 : decode cX8_cardGets 300 = .ok (.invokevirtual 264, 3) := by decide +kernel
theorem dX8_cardGets_303 : decode cX8_cardGets 303 = .ok (.goto 9, 3) := by decide +kernel
theorem dX8_cardGets_306 : decode cX8_cardGets 306 = .ok (.aload_n 0, 1) := by decide +kernel
theorem dX8_cardGets_307 : decode cX8_cardGets 307 = .ok (.iconst 1, 1) := by decide +kernel
theorem dX8_cardGets_308 : decode cX8_cardGets 308 = .ok (.iconst 2, 1) := by decide +kernel
theorem dX8_cardGets_309 : decode cX8_cardGets 309 = .ok (.invokevirtual 216, 3) := by decide +kernel
theorem dX8_cardGets_312 : decode cX8_cardGets 312 = .ok (.return_, 1) := by decide +kernel
set_option maxRecDepth 100000 in
set_option maxHeartbeats 4000000 in
theorem c_X8_cardGets_p {hp : List gA} {M : gMd} {l : Nat} {E : List (Int32 × List Int32)}  (HM : gMod hp M) (ok : oX8_cardGets M l E)  : gM yX8_cardGets cX8_cardGets 2 (none) 9 209 [.ref 122] (hp) (0) (0) (fun v h => v = none ∧ ∃ M' E', gMod h M' ∧ gFM hp h ∧ gDo 1 (pX8_cardGets M) l E M' E') := by
  refine gM_of (ls0 := [some (.ref 122), none]) (by decide +kernel) (Nat.le_of_ble_eq_true rfl) rfl fun X C E9 => ?_
  obtain ⟨P, ep⟩ : ∃ P, P = pX8_cardGets M := ⟨_, rfl⟩
  rw [← ep] at E9
  unfold pX8_cardGets at ep
  unfold oX8_cardGets at ok
  refine g_bipush (v := 16) (q := 2) C dX8_cardGets_0 (by decide) rfl ?_
  refine g_istore_n (q := 3) C dX8_cardGets_2 (Nat.le_of_ble_eq_true rfl) (by simp only [gset]; rfl) rfl ?_
  refine g_aload_n (q := 4) C dX8_cardGets_3 rfl rfl ?_
  refine g_getfield (v := .ref 127) (q := 7) C fX8_22 dX8_cardGets_4 rfl HM.1 rfl ?_
  refine g_sipush (v := 418) (q := 10) C dX8_cardGets_7 (by decide) rfl ?_
  refine g_ialoadN (x := (M.a 4 418)) (j := 418) (q := 11) C dX8_cardGets_10 rfl (HM.ar (i := 4) (n := 772) (by decide) rfl) (pk_in 418 772 (by decide)) (pk_cl 418) rfl ?_
  refine g_if_lt (t := 44) (q := 14) C dX8_cardGets_11 (by decide) rfl (fun c_11 => ?_) (fun c_11 => ?_)
  ·
    rw [if_pos c_11] at ok ep
    refine g_aload_n (q := 45) C dX8_cardGets_44 rfl rfl ?_
    refine g_getfield (v := .int ((M.f 29))) (q := 48) C fX8_176 dX8_cardGets_45 rfl HM.1 rfl ?_
    refine g_iconst (v := 3) (q := 49) C dX8_cardGets_48 (by decide) rfl ?_
    refine g_icmp_ne (t := 53) (q := 52) C dX8_cardGets_49 (by decide) rfl (fun c_49 => ?_) (fun c_49 => ?_)
    ·
      rw [if_neg c_49] at ok ep
      refine g_aload_n (q := 54) C dX8_cardGets_53 rfl rfl ?_
      refine g_getfield (v := .int ((M.f 29))) (q := 57) C fX8_176 dX8_cardGets_54 rfl HM.1 rfl ?_
      refine g_if_eq (t := 92) (q := 60) C dX8_cardGets_57 (by decide) rfl (fun c_57 => ?_) (fun c_57 => ?_)
      ·
        rw [if_pos c_57] at ok ep
        refine g_aload_n (q := 93) C dX8_cardGets_92 rfl rfl ?_
        refine g_getfield (v := .ref 136) (q := 96) C fX8_54 dX8_cardGets_93 rfl HM.1 rfl ?_
        refine g_iconst (v := 1) (q := 97) C dX8_cardGets_96 (by decide) rfl ?_
        refine g_ialoadN (x := (M.a 13 1)) (j := 1) (q := 98) C dX8_cardGets_97 rfl (HM.ar (i := 13) (n := 260) (by decide) rfl) (pk_in 1 260 (by decide)) (pk_cl 1) rfl ?_
        refine g_sipush (v := 192) (q := 101) C dX8_cardGets_98 (by decide) rfl ?_
        refine g_icmp_ne (t := 126) (q := 104) C dX8_cardGets_101 (by decide) rfl (fun c_101 => ?_) (fun c_101 => ?_)
        ·
          rw [if_neg c_101] at ok ep
          refine g_aload_n (q := 127) C dX8_cardGets_126 rfl rfl ?_
          refine g_getfield (v := .ref 127) (q := 130) C fX8_22 dX8_cardGets_127 rfl HM.1 rfl ?_
          refine g_iload_n (q := 131) C dX8_cardGets_130 rfl rfl ?_
          refine g_bipush (v := 9) (q := 133) C dX8_cardGets_131 (by decide) rfl ?_
          refine g_iadd (q := 134) C dX8_cardGets_133 rfl ?_
          refine g_ialoadN (x := (M.a 4 25)) (j := 25) (q := 135) C dX8_cardGets_134 rfl (HM.ar (i := 4) (n := 772) (by decide) rfl) (pk_in 25 772 (by decide)) (pk_cl 25) rfl ?_
          refine g_if_lt (t := 161) (q := 138) C dX8_cardGets_135 (by decide) rfl (fun c_135 => ?_) (fun c_135 => ?_)
          ·
            rw [if_pos c_135] at ok ep
            refine g_aload_n (q := 162) C dX8_cardGets_161 rfl rfl ?_
            refine g_getfield (v := .ref 136) (q := 165) C fX8_54 dX8_cardGets_162 rfl HM.1 rfl ?_
            refine g_iconst (v := 1) (q := 166) C dX8_cardGets_165 (by decide) rfl ?_
            refine g_ialoadN (x := (M.a 13 1)) (j := 1) (q := 167) C dX8_cardGets_166 rfl (HM.ar (i := 13) (n := 260) (by decide) rfl) (pk_in 1 260 (by decide)) (pk_cl 1) rfl ?_
            refine g_sipush (v := 128) (q := 170) C dX8_cardGets_167 (by decide) rfl ?_
            refine g_icmp_ge (t := 218) (q := 173) C dX8_cardGets_170 (by decide) rfl (fun c_170 => ?_) (fun c_170 => ?_)
            ·
              rw [if_pos c_170] at ok ep
              refine g_aload_n (q := 219) C dX8_cardGets_218 rfl rfl ?_
              refine g_getfield (v := .ref 136) (q := 222) C fX8_54 dX8_cardGets_219 rfl HM.1 rfl ?_
              refine g_iconst (v := 1) (q := 223) C dX8_cardGets_222 (by decide) rfl ?_
              refine g_ialoadN (x := (M.a 13 1)) (j := 1) (q := 224) C dX8_cardGets_223 rfl (HM.ar (i := 13) (n := 260) (by decide) rfl) (pk_in 1 260 (by decide)) (pk_cl 1) rfl ?_
              refine g_sipush (v := 192) (q := 227) C dX8_cardGets_224 (by decide) rfl ?_
              refine g_icmp_ge (t := 274) (q := 230) C dX8_cardGets_227 (by decide) rfl (fun c_227 => ?_) (fun c_227 => ?_)
              ·
                rw [if_pos c_227] at ok ep
                refine g_aload_n (q := 275) C dX8_cardGets_274 rfl rfl ?_
                refine g_getfield (v := .ref 136) (q := 278) C fX8_54 dX8_cardGets_275 rfl HM.1 rfl ?_
                refine g_iconst (v := 1) (q := 279) C dX8_cardGets_278 (by decide) rfl ?_
                refine g_ialoadN (x := (M.a 13 1)) (j := 1) (q := 280) C dX8_cardGets_279 rfl (HM.ar (i := 13) (n := 260) (by decide) rfl) (pk_in 1 260 (by decide)) (pk_cl 1) rfl ?_
                refine g_sipush (v := 193) (q := 283) C dX8_cardGets_280 (by decide) rfl ?_
                refine g_icmp_ne (t := 306) (q := 286) C dX8_cardGets_283 (by decide) rfl (fun c_283 => ?_) (fun c_283 => ?_)
                ·
                  rw [if_neg c_283] at ok ep
                  refine g_aload_n (q := 307) C dX8_cardGets_306 rfl rfl ?_
                  refine g_iconst (v := 1) (q := 308) C dX8_cardGets_307 (by decide) rfl ?_
                  refine g_iconst (v := 2) (q := 309) C dX8_cardGets_308 (by decide) rfl ?_
                  refine g_callVvp (q := 312) (As := [.int 1, .int 2]) C gyX8_sendsR gvX8_sendsR t_1392 (c_X8_sendsR_1_p HM ok) dX8_cardGets_309 rfl HM.1 rfl rfl rfl (Nat.le_of_ble_eq_true rfl) (Nat.le_of_ble_eq_true rfl) (Nat.le_of_ble_eq_true rfl) (Nat.le_of_ble_eq_true rfl) (Nat.le_of_ble_eq_true rfl) rfl (fun h1 z1 => ?_)
                  obtain ⟨M', E', HM', frs, dd⟩ := z1
                  exact E9.2.1 _ _ _ _ _ dX8_cardGets_312 rfl (Nat.le_of_ble_eq_true rfl) (Nat.le_of_ble_eq_true rfl) ⟨rfl, _, _, HM', frs, by rw [ep]; exact dd⟩
                ·
                  rw [if_pos c_283] at ok ep
                  refine g_aload_n (q := 287) C dX8_cardGets_286 rfl rfl ?_
                  refine g_getfield (v := .ref 127) (q := 290) C fX8_22 dX8_cardGets_287 rfl HM.1 rfl ?_
                  refine g_iconst (v := 2) (q := 291) C dX8_cardGets_290 (by decide) rfl ?_
                  refine g_aload_n (q := 292) C dX8_cardGets_291 rfl rfl ?_
                  refine g_getfield (v := .ref 136) (q := 295) C fX8_54 dX8_cardGets_292 rfl HM.1 rfl ?_
                  refine g_iconst (v := 3) (q := 296) C dX8_cardGets_295 (by decide) rfl ?_
                  refine g_ialoadN (x := (M.a 13 3)) (j := 3) (q := 297) C dX8_cardGets_296 rfl (HM.ar (i := 13) (n := 260) (by decide) rfl) (pk_in 3 260 (by decide)) (pk_cl 3) rfl ?_
                  refine g_iastoreN (j := 2) (q := 298) C dX8_cardGets_297 rfl (HM.ar (i := 4) (n := 772) (by decide) rfl) (pk_in 2 772 (by decide)) (pk_cl 2) ?_
                  refine gMsto (i := 4) (j := 2) (x := (M.a 13 3)) HM (by decide) rfl rfl fun h2 HL2 fr2 => ?_
                  refine g_aload_n (q := 299) C dX8_cardGets_298 rfl rfl ?_
                  refine g_iconst (v := 1) (q := 300) C dX8_cardGets_299 (by decide) rfl ?_
                  refine g_callVvp (q := 303) (As := [.int 1]) C gyX8_responds gvX8_responds t_1416 (c_X8_responds_1_p HL2 ok) dX8_cardGets_300 rfl HL2.1 rfl rfl rfl (Nat.le_of_ble_eq_true rfl) (Nat.le_of_ble_eq_true rfl) (Nat.le_of_ble_eq_true rfl) (Nat.le_of_ble_eq_true rfl) (Nat.le_of_ble_eq_true rfl) rfl (fun h3 z3 => ?_)
                  obtain ⟨M', E', HM', frs, dd⟩ := z3
                  refine g_goto (q := 312) C dX8_cardGets_303 (by decide) ?_
                  exact E9.2.1 _ _ _ _ _ dX8_cardGets_312 rfl (Nat.le_of_ble_eq_true rfl) (Nat.le_of_ble_eq_true rfl) ⟨rfl, _, _, HM', (gFM.trans fr2 frs), by rw [ep]; exact dd⟩
              ·
                rw [if_neg c_227] at ok ep
                refine g_aload_n (q := 231) C dX8_cardGets_230 rfl rfl ?_
                refine g_getfield (v := .ref 127) (q := 234) C fX8_22 dX8_cardGets_231 rfl HM.1 rfl ?_
                refine g_iload_n (q := 235) C dX8_cardGets_234 rfl rfl ?_
                refine g_iconst (v := 5) (q := 236) C dX8_cardGets_235 (by decide) rfl ?_
                refine g_iadd (q := 237) C dX8_cardGets_236 rfl ?_
                refine g_ialoadN (x := (M.a 4 21)) (j := 21) (q := 238) C dX8_cardGets_237 rfl (HM.ar (i := 4) (n := 772) (by decide) rfl) (pk_in 21 772 (by decide)) (pk_cl 21) rfl ?_
                refine g_if_ge (t := 250) (q := 241) C dX8_cardGets_238 (by decide) rfl (fun c_238 => ?_) (fun c_238 => ?_)
                ·
                  rw [if_pos c_238] at ok ep
                  refine g_aload_n (q := 251) C dX8_cardGets_250 rfl rfl ?_
                  refine g_iconst (v := 1) (q := 252) C dX8_cardGets_251 (by decide) rfl ?_
                  refine g_callVi (x := (rX8_wantsAgain_1 M)) (q := 255) (As := [.int 1]) C gyX8_wantsAgain gvX8_wantsAgain t_1404 (c_X8_wantsAgain_1_m HM) dX8_cardGets_252 rfl HM.1 rfl rfl rfl (Nat.le_of_ble_eq_true rfl) (Nat.le_of_ble_eq_true rfl) (Nat.le_of_ble_eq_true rfl) (Nat.le_of_ble_eq_true rfl) (Nat.le_of_ble_eq_true rfl) rfl ?_
                  refine g_if_eq (t := 266) (q := 258) C dX8_cardGets_255 (by decide) rfl (fun c_255 => ?_) (fun c_255 => ?_)
                  ·
                    rw [if_pos c_255] at ok ep
                    refine g_aload_n (q := 267) C dX8_cardGets_266 rfl rfl ?_
                    refine g_iconst (v := 1) (q := 268) C dX8_cardGets_267 (by decide) rfl ?_
                    refine g_callVvp (q := 271) (As := [.int 1]) C gyX8_goesOn gvX8_goesOn t_1408 (c_X8_goesOn_1_p HM ok) dX8_cardGets_268 rfl HM.1 rfl rfl rfl (Nat.le_of_ble_eq_true rfl) (Nat.le_of_ble_eq_true rfl) (Nat.le_of_ble_eq_true rfl) (Nat.le_of_ble_eq_true rfl) (Nat.le_of_ble_eq_true rfl) rfl (fun h4 z4 => ?_)
                    obtain ⟨M', E', HM', frs, dd⟩ := z4
                    refine g_goto (q := 312) C dX8_cardGets_271 (by decide) ?_
                    exact E9.2.1 _ _ _ _ _ dX8_cardGets_312 rfl (Nat.le_of_ble_eq_true rfl) (Nat.le_of_ble_eq_true rfl) ⟨rfl, _, _, HM', frs, by rw [ep]; exact dd⟩
                  ·
                    rw [if_neg c_255] at ok ep
                    refine g_aload_n (q := 259) C dX8_cardGets_258 rfl rfl ?_
                    refine g_iconst (v := 1) (q := 260) C dX8_cardGets_259 (by decide) rfl ?_
                    refine g_callVvp (q := 263) (As := [.int 1]) C gyX8_sendsPending gvX8_sendsPending t_1308 (c_X8_sendsPending_1_p HM ok) dX8_cardGets_260 rfl HM.1 rfl rfl rfl (Nat.le_of_ble_eq_true rfl) (Nat.le_of_ble_eq_true rfl) (Nat.le_of_ble_eq_true rfl) (Nat.le_of_ble_eq_true rfl) (Nat.le_of_ble_eq_true rfl) rfl (fun h5 z5 => ?_)
                    obtain ⟨M', E', HM', frs, dd⟩ := z5
                    refine g_goto (q := 312) C dX8_cardGets_263 (by decide) ?_
                    exact E9.2.1 _ _ _ _ _ dX8_cardGets_312 rfl (Nat.le_of_ble_eq_true rfl) (Nat.le_of_ble_eq_true rfl) ⟨rfl, _, _, HM', frs, by rw [ep]; exact dd⟩
                ·
                  rw [if_neg c_238] at ok ep
                  refine g_aload_n (q := 242) C dX8_cardGets_241 rfl rfl ?_
                  refine g_iconst (v := 1) (q := 243) C dX8_cardGets_242 (by decide) rfl ?_
                  refine g_iconst (v := 0) (q := 244) C dX8_cardGets_243 (by decide) rfl ?_
                  refine g_callVvp (q := 247) (As := [.int 1, .int 0]) C gyX8_sendsR gvX8_sendsR t_1392 (c_X8_sendsR_1_p HM ok) dX8_cardGets_244 rfl HM.1 rfl rfl rfl (Nat.le_of_ble_eq_true rfl) (Nat.le_of_ble_eq_true rfl) (Nat.le_of_ble_eq_true rfl) (Nat.le_of_ble_eq_true rfl) (Nat.le_of_ble_eq_true rfl) rfl (fun h6 z6 => ?_)
                  obtain ⟨M', E', HM', frs, dd⟩ := z6
                  refine g_goto (q := 312) C dX8_cardGets_247 (by decide) ?_
                  exact E9.2.1 _ _ _ _ _ dX8_cardGets_312 rfl (Nat.le_of_ble_eq_true rfl) (Nat.le_of_ble_eq_true rfl) ⟨rfl, _, _, HM', frs, by rw [ep]; exact dd⟩
            ·
              rw [if_neg c_170] at ok ep
              refine g_aload_n (q := 174) C dX8_cardGets_173 rfl rfl ?_
              refine g_iconst (v := 1) (q := 175) C dX8_cardGets_174 (by decide) rfl ?_
              obtain ⟨hin, hcm, ok⟩ := ok
              refine g_callVix (x := (rX8_takes_1 M).1) (q := 178) (As := [.int 1]) C gyX8_takes gvX8_takes t_1380 (c_X8_takes_1_m HM hin hcm) dX8_cardGets_175 rfl HM.1 rfl rfl rfl (Nat.le_of_ble_eq_true rfl) (Nat.le_of_ble_eq_true rfl) (Nat.le_of_ble_eq_true rfl) (Nat.le_of_ble_eq_true rfl) (Nat.le_of_ble_eq_true rfl) rfl (fun h7 z7 => ?_)
              obtain ⟨HL7, fr7⟩ := z7
              refine g_if_ne (t := 190) (q := 181) C dX8_cardGets_178 (by decide) rfl (fun c_178 => ?_) (fun c_178 => ?_)
              ·
                rw [if_neg c_178] at ok ep
                refine g_aload_n (q := 191) C dX8_cardGets_190 rfl rfl ?_
                refine g_callVi (x := (rX8_hasMoreCome ((rX8_takes_1 M).2))) (q := 194) (As := []) C gyX8_hasMoreCome gvX8_hasMoreCome t_1388 (c_X8_hasMoreCome_m HL7) dX8_cardGets_191 rfl HL7.1 rfl rfl rfl (Nat.le_of_ble_eq_true rfl) (Nat.le_of_ble_eq_true rfl) (Nat.le_of_ble_eq_true rfl) (Nat.le_of_ble_eq_true rfl) (Nat.le_of_ble_eq_true rfl) rfl ?_
                refine g_if_eq (t := 206) (q := 197) C dX8_cardGets_194 (by decide) rfl (fun c_194 => ?_) (fun c_194 => ?_)
                ·
                  rw [if_pos c_194] at ok ep
                  refine g_aload_n (q := 207) C dX8_cardGets_206 rfl rfl ?_
                  refine g_iconst (v := 1) (q := 208) C dX8_cardGets_207 (by decide) rfl ?_
                  obtain ⟨hn24, ok⟩ := ok
                  refine g_callVvp (q := 211) (As := [.int 1]) C gyX8_messageCame gvX8_messageCame t_1396 (c_X8_messageCame_1_m HL7 hn24) dX8_cardGets_208 rfl HL7.1 rfl rfl rfl (Nat.le_of_ble_eq_true rfl) (Nat.le_of_ble_eq_true rfl) (Nat.le_of_ble_eq_true rfl) (Nat.le_of_ble_eq_true rfl) (Nat.le_of_ble_eq_true rfl) rfl (fun h8 z8 => ?_)
                  obtain ⟨HL8, fr8⟩ := z8
                  refine g_aload_n (q := 212) C dX8_cardGets_211 rfl rfl ?_
                  refine g_callVvp (q := 215) (As := []) C gyX8_cardDoes gvX8_cardDoes t_1444 (c_X8_cardDoes_p HL8 ok) dX8_cardGets_212 rfl HL8.1 rfl rfl rfl (Nat.le_of_ble_eq_true rfl) (Nat.le_of_ble_eq_true rfl) (Nat.le_of_ble_eq_true rfl) (Nat.le_of_ble_eq_true rfl) (Nat.le_of_ble_eq_true rfl) rfl (fun h9 z9 => ?_)
                  obtain ⟨M', E', HM', frs, dd⟩ := z9
                  refine g_goto (q := 312) C dX8_cardGets_215 (by decide) ?_
                  exact E9.2.1 _ _ _ _ _ dX8_cardGets_312 rfl (Nat.le_of_ble_eq_true rfl) (Nat.le_of_ble_eq_true rfl) ⟨rfl, _, _, HM', (gFM.trans (gFM.trans fr7 fr8) frs), by rw [ep]; exact dd⟩
                ·
                  rw [if_neg c_194] at ok ep
                  refine g_aload_n (q := 198) C dX8_cardGets_197 rfl rfl ?_
                  refine g_iconst (v := 1) (q := 199) C dX8_cardGets_198 (by decide) rfl ?_
                  refine g_iconst (v := 0) (q := 200) C dX8_cardGets_199 (by decide) rfl ?_
                  refine g_callVvp (q := 203) (As := [.int 1, .int 0]) C gyX8_sendsR gvX8_sendsR t_1392 (c_X8_sendsR_1_p HL7 ok) dX8_cardGets_200 rfl HL7.1 rfl rfl rfl (Nat.le_of_ble_eq_true rfl) (Nat.le_of_ble_eq_true rfl) (Nat.le_of_ble_eq_true rfl) (Nat.le_of_ble_eq_true rfl) (Nat.le_of_ble_eq_true rfl) rfl (fun h10 z10 => ?_)
                  obtain ⟨M', E', HM', frs, dd⟩ := z10
                  refine g_goto (q := 312) C dX8_cardGets_203 (by decide) ?_
                  exact E9.2.1 _ _ _ _ _ dX8_cardGets_312 rfl (Nat.le_of_ble_eq_true rfl) (Nat.le_of_ble_eq_true rfl) ⟨rfl, _, _, HM', (gFM.trans fr7 frs), by rw [ep]; exact dd⟩
              ·
                rw [if_pos c_178] at ok ep
                refine g_aload_n (q := 182) C dX8_cardGets_181 rfl rfl ?_
                refine g_iconst (v := 1) (q := 183) C dX8_cardGets_182 (by decide) rfl ?_
                refine g_iconst (v := 2) (q := 184) C dX8_cardGets_183 (by decide) rfl ?_
                refine g_callVvp (q := 187) (As := [.int 1, .int 2]) C gyX8_sendsR gvX8_sendsR t_1392 (c_X8_sendsR_1_p HL7 ok) dX8_cardGets_184 rfl HL7.1 rfl rfl rfl (Nat.le_of_ble_eq_true rfl) (Nat.le_of_ble_eq_true rfl) (Nat.le_of_ble_eq_true rfl) (Nat.le_of_ble_eq_true rfl) (Nat.le_of_ble_eq_true rfl) rfl (fun h11 z11 => ?_)
                obtain ⟨M', E', HM', frs, dd⟩ := z11
                refine g_goto (q := 312) C dX8_cardGets_187 (by decide) ?_
                exact E9.2.1 _ _ _ _ _ dX8_cardGets_312 rfl (Nat.le_of_ble_eq_true rfl) (Nat.le_of_ble_eq_true rfl) ⟨rfl, _, _, HM', (gFM.trans fr7 frs), by rw [ep]; exact dd⟩
          ·
            rw [if_neg c_135] at ok ep
            refine g_aload_n (q := 139) C dX8_cardGets_138 rfl rfl ?_
            refine g_iconst (v := 1) (q := 140) C dX8_cardGets_139 (by decide) rfl ?_
            refine g_callVi (x := (rX8_isResponse_1 M)) (q := 143) (As := [.int 1]) C gyX8_isResponse gvX8_isResponse t_1360 (c_X8_isResponse_1_m HM) dX8_cardGets_140 rfl HM.1 rfl rfl rfl (Nat.le_of_ble_eq_true rfl) (Nat.le_of_ble_eq_true rfl) (Nat.le_of_ble_eq_true rfl) (Nat.le_of_ble_eq_true rfl) (Nat.le_of_ble_eq_true rfl) rfl ?_
            refine g_if_eq (t := 153) (q := 146) C dX8_cardGets_143 (by decide) rfl (fun c_143 => ?_) (fun c_143 => ?_)
            ·
              rw [if_pos c_143] at ok ep
              refine g_aload_n (q := 154) C dX8_cardGets_153 rfl rfl ?_
              refine g_iconst (v := 1) (q := 155) C dX8_cardGets_154 (by decide) rfl ?_
              refine g_callVvp (q := 158) (As := [.int 1]) C gyX8_sendsAsked gvX8_sendsAsked t_1344 (c_X8_sendsAsked_1_p HM ok) dX8_cardGets_155 rfl HM.1 rfl rfl rfl (Nat.le_of_ble_eq_true rfl) (Nat.le_of_ble_eq_true rfl) (Nat.le_of_ble_eq_true rfl) (Nat.le_of_ble_eq_true rfl) (Nat.le_of_ble_eq_true rfl) rfl (fun h12 z12 => ?_)
              obtain ⟨M', E', HM', frs, dd⟩ := z12
              refine g_goto (q := 312) C dX8_cardGets_158 (by decide) ?_
              exact E9.2.1 _ _ _ _ _ dX8_cardGets_312 rfl (Nat.le_of_ble_eq_true rfl) (Nat.le_of_ble_eq_true rfl) ⟨rfl, _, _, HM', frs, by rw [ep]; exact dd⟩
            ·
              rw [if_neg c_143] at ok ep
              refine g_aload_n (q := 147) C dX8_cardGets_146 rfl rfl ?_
              refine g_callVvp (q := 150) (As := []) C gyX8_cardAnswered gvX8_cardAnswered t_1436 (c_X8_cardAnswered_p HM ok) dX8_cardGets_147 rfl HM.1 rfl rfl rfl (Nat.le_of_ble_eq_true rfl) (Nat.le_of_ble_eq_true rfl) (Nat.le_of_ble_eq_true rfl) (Nat.le_of_ble_eq_true rfl) (Nat.le_of_ble_eq_true rfl) rfl (fun h13 z13 => ?_)
              obtain ⟨M', E', HM', frs, dd⟩ := z13
              refine g_goto (q := 312) C dX8_cardGets_150 (by decide) ?_
              exact E9.2.1 _ _ _ _ _ dX8_cardGets_312 rfl (Nat.le_of_ble_eq_true rfl) (Nat.le_of_ble_eq_true rfl) ⟨rfl, _, _, HM', frs, by rw [ep]; exact dd⟩
        ·
          rw [if_pos c_101] at ok ep
          refine g_aload_n (q := 105) C dX8_cardGets_104 rfl rfl ?_
          refine g_iconst (v := 1) (q := 106) C dX8_cardGets_105 (by decide) rfl ?_
          refine g_callVvp (q := 109) (As := [.int 1]) C gyX8_resynchs gvX8_resynchs t_1372 (c_X8_resynchs_1_m HM) dX8_cardGets_106 rfl HM.1 rfl rfl rfl (Nat.le_of_ble_eq_true rfl) (Nat.le_of_ble_eq_true rfl) (Nat.le_of_ble_eq_true rfl) (Nat.le_of_ble_eq_true rfl) (Nat.le_of_ble_eq_true rfl) rfl (fun h14 z14 => ?_)
          obtain ⟨HL14, fr14⟩ := z14
          refine g_aload_n (q := 110) C dX8_cardGets_109 rfl rfl ?_
          refine g_getfield (v := .ref 127) (q := 113) C fX8_22 dX8_cardGets_110 rfl HL14.1 rfl ?_
          refine g_sipush (v := 416) (q := 116) C dX8_cardGets_113 (by decide) rfl ?_
          refine g_iconst (v := 0) (q := 117) C dX8_cardGets_116 (by decide) rfl ?_
          refine g_iastoreN (j := 416) (q := 118) C dX8_cardGets_117 rfl (HL14.ar (i := 4) (n := 772) (by decide) rfl) (pk_in 416 772 (by decide)) (pk_cl 416) ?_
          refine gMsto (i := 4) (j := 416) (x := 0) HL14 (by decide) rfl rfl fun h15 HL15 fr15 => ?_
          refine g_aload_n (q := 119) C dX8_cardGets_118 rfl rfl ?_
          refine g_iconst (v := 1) (q := 120) C dX8_cardGets_119 (by decide) rfl ?_
          refine g_callVvp (q := 123) (As := [.int 1]) C gyX8_responds gvX8_responds t_1416 (c_X8_responds_1_p HL15 ok) dX8_cardGets_120 rfl HL15.1 rfl rfl rfl (Nat.le_of_ble_eq_true rfl) (Nat.le_of_ble_eq_true rfl) (Nat.le_of_ble_eq_true rfl) (Nat.le_of_ble_eq_true rfl) (Nat.le_of_ble_eq_true rfl) rfl (fun h16 z16 => ?_)
          obtain ⟨M', E', HM', frs, dd⟩ := z16
          refine g_goto (q := 312) C dX8_cardGets_123 (by decide) ?_
          exact E9.2.1 _ _ _ _ _ dX8_cardGets_312 rfl (Nat.le_of_ble_eq_true rfl) (Nat.le_of_ble_eq_true rfl) ⟨rfl, _, _, HM', (gFM.trans (gFM.trans fr14 fr15) frs), by rw [ep]; exact dd⟩
      ·
        rw [if_neg c_57] at ok ep
        refine g_aload_n (q := 61) C dX8_cardGets_60 rfl rfl ?_
        refine g_getfield (v := .ref 127) (q := 64) C fX8_22 dX8_cardGets_61 rfl HM.1 rfl ?_
        refine g_iload_n (q := 65) C dX8_cardGets_64 rfl rfl ?_
        refine g_bipush (v := 9) (q := 67) C dX8_cardGets_65 (by decide) rfl ?_
        refine g_iadd (q := 68) C dX8_cardGets_67 rfl ?_
        refine g_ialoadN (x := (M.a 4 25)) (j := 25) (q := 69) C dX8_cardGets_68 rfl (HM.ar (i := 4) (n := 772) (by decide) rfl) (pk_in 25 772 (by decide)) (pk_cl 25) rfl ?_
        refine g_if_lt (t := 80) (q := 72) C dX8_cardGets_69 (by decide) rfl (fun c_69 => ?_) (fun c_69 => ?_)
        ·
          rw [if_pos c_69] at ok ep
          refine g_aload_n (q := 81) C dX8_cardGets_80 rfl rfl ?_
          refine g_iconst (v := 1) (q := 82) C dX8_cardGets_81 (by decide) rfl ?_
          refine g_aload_n (q := 83) C dX8_cardGets_82 rfl rfl ?_
          refine g_getfield (v := .int ((M.f 29))) (q := 86) C fX8_176 dX8_cardGets_83 rfl HM.1 rfl ?_
          refine g_callVvp (q := 89) (As := [.int 1, .int ((M.f 29))]) C gyX8_sendsR gvX8_sendsR t_1392 (c_X8_sendsR_1_p HM ok) dX8_cardGets_86 rfl HM.1 rfl rfl rfl (Nat.le_of_ble_eq_true rfl) (Nat.le_of_ble_eq_true rfl) (Nat.le_of_ble_eq_true rfl) (Nat.le_of_ble_eq_true rfl) (Nat.le_of_ble_eq_true rfl) rfl (fun h17 z17 => ?_)
          obtain ⟨M', E', HM', frs, dd⟩ := z17
          refine g_goto (q := 312) C dX8_cardGets_89 (by decide) ?_
          exact E9.2.1 _ _ _ _ _ dX8_cardGets_312 rfl (Nat.le_of_ble_eq_true rfl) (Nat.le_of_ble_eq_true rfl) ⟨rfl, _, _, HM', frs, by rw [ep]; exact dd⟩
        ·
          rw [if_neg c_69] at ok ep
          refine g_aload_n (q := 73) C dX8_cardGets_72 rfl rfl ?_
          refine g_iconst (v := 1) (q := 74) C dX8_cardGets_73 (by decide) rfl ?_
          refine g_callVvp (q := 77) (As := [.int 1]) C gyX8_sendsAsked gvX8_sendsAsked t_1344 (c_X8_sendsAsked_1_p HM ok) dX8_cardGets_74 rfl HM.1 rfl rfl rfl (Nat.le_of_ble_eq_true rfl) (Nat.le_of_ble_eq_true rfl) (Nat.le_of_ble_eq_true rfl) (Nat.le_of_ble_eq_true rfl) (Nat.le_of_ble_eq_true rfl) rfl (fun h18 z18 => ?_)
          obtain ⟨M', E', HM', frs, dd⟩ := z18
          refine g_goto (q := 312) C dX8_cardGets_77 (by decide) ?_
          exact E9.2.1 _ _ _ _ _ dX8_cardGets_312 rfl (Nat.le_of_ble_eq_true rfl) (Nat.le_of_ble_eq_true rfl) ⟨rfl, _, _, HM', frs, by rw [ep]; exact dd⟩
    ·
      rw [if_pos c_49] at ok ep
      exact E9.2.1 _ _ _ _ _ dX8_cardGets_52 rfl (Nat.le_of_ble_eq_true rfl) (Nat.le_of_ble_eq_true rfl) ⟨rfl, _, E, HM, gFM.rf, by rw [ep]; exact ⟨rfl, rfl⟩⟩
  ·
    rw [if_neg c_11] at ok ep
    refine g_aload_n (q := 15) C dX8_cardGets_14 rfl rfl ?_
    refine g_getfield (v := .ref 127) (q := 18) C fX8_22 dX8_cardGets_15 rfl HM.1 rfl ?_
    refine g_sipush (v := 418) (q := 21) C dX8_cardGets_18 (by decide) rfl ?_
    refine g_dup2 (q := 22) C dX8_cardGets_21 rfl rfl rfl ?_
    refine g_ialoadN (x := (M.a 4 418)) (j := 418) (q := 23) C dX8_cardGets_22 rfl (HM.ar (i := 4) (n := 772) (by decide) rfl) (pk_in 418 772 (by decide)) (pk_cl 418) rfl ?_
    refine g_iconst (v := 1) (q := 24) C dX8_cardGets_23 (by decide) rfl ?_
    refine g_isub (q := 25) C dX8_cardGets_24 rfl ?_
    refine g_iastoreN (j := 418) (q := 26) C dX8_cardGets_25 rfl (HM.ar (i := 4) (n := 772) (by decide) rfl) (pk_in 418 772 (by decide)) (pk_cl 418) ?_
    refine gMsto (i := 4) (j := 418) (x := ((M.a 4 418) - 1)) HM (by decide) rfl rfl fun h19 HL19 fr19 => ?_
    refine g_aload_n (q := 27) C dX8_cardGets_26 rfl rfl ?_
    refine g_getfield (v := .ref 127) (q := 30) C fX8_22 dX8_cardGets_27 rfl HL19.1 rfl ?_
    refine g_sipush (v := 418) (q := 33) C dX8_cardGets_30 (by decide) rfl ?_
    refine g_ialoadN (x := ((M.a 4 418) - 1)) (j := 418) (q := 34) C dX8_cardGets_33 rfl (HL19.ar (i := 4) (n := 772) (by decide) rfl) (pk_in 418 772 (by decide)) (pk_cl 418) gput_s ?_
    refine g_if_ge (t := 43) (q := 37) C dX8_cardGets_34 (by decide) rfl (fun c_34 => ?_) (fun c_34 => ?_)
    ·
      rw [if_pos c_34] at ok ep
      exact E9.2.1 _ _ _ _ _ dX8_cardGets_43 rfl (Nat.le_of_ble_eq_true rfl) (Nat.le_of_ble_eq_true rfl) ⟨rfl, _, E, HL19, fr19, by rw [ep]; exact ⟨rfl, rfl⟩⟩
    ·
      rw [if_neg c_34] at ok ep
      refine g_aload_n (q := 38) C dX8_cardGets_37 rfl rfl ?_
      refine g_iconst (v := 0) (q := 39) C dX8_cardGets_38 (by decide) rfl ?_
      refine g_iconst (v := 1) (q := 40) C dX8_cardGets_39 (by decide) rfl ?_
      refine g_callVvp (q := 43) (As := [.int 0, .int 1]) C gyX8_cardSends gvX8_cardSends t_1428 (c_X8_cardSends_0_p HL19 ok) dX8_cardGets_40 rfl HL19.1 rfl rfl rfl (Nat.le_of_ble_eq_true rfl) (Nat.le_of_ble_eq_true rfl) (Nat.le_of_ble_eq_true rfl) (Nat.le_of_ble_eq_true rfl) (Nat.le_of_ble_eq_true rfl) rfl (fun h20 z20 => ?_)
      obtain ⟨M', E', HM', frs, dd⟩ := z20
      exact E9.2.1 _ _ _ _ _ dX8_cardGets_43 rfl (Nat.le_of_ble_eq_true rfl) (Nat.le_of_ble_eq_true rfl) ⟨rfl, _, _, HM', (gFM.trans fr19 frs), by rw [ep]; exact dd⟩
