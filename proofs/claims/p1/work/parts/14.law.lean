/-! THE LAW: its body, the entry, the end (by program: wip/p1/m_law.py) -/
theorem lgoodLog : GoodIn gW (va_wsS RL 77 yL_log (Cond.codeWith yL_log cL_log 5 (some .int) [(0, 10, 13, 13)] :: gW)) := fun u hu => by
  have h : u ∈ gW := by
    simp only [va_wsS, List.cons_append, List.nil_append, List.mem_cons] at hu
    rcases hu with rfl | rfl | rfl | rfl | hu
    · exact t_997
    · exact t_998
    · exact t_100
    · exact lgw4
    · exact hu
  exact ⟨h, gW_good h⟩
section LAW
variable {X : gX} {nm : String} {cc : ByteArray} {nL : Nat} {rm : Room} {pc q : Nat} {ls : List (Option Value)} {st : List Value} {hp : List gA} {cl sl : Nat}
theorem g_callLog (C : gC X RL nm cc nL rm) (htr : (xl X).stackTraces = false) (hDk : gDk (xs X)) {p0 p1 : Int32} {oa : Nat} (H0 : hp[0]? = some (.inr (.inr (7, [.ref 1, .ref 3, .ref 20, .ref 43, .ref 116, .ref 119, .int 0])))) (H3 : hp[3]? = some (.inr (.inr (1, [.ref 4, .ref 6, .ref 8, .ref 10, .ref 12, .ref 14, .ref 16, .ref 18, .int ((-1))])))) (H14 : hp[14]? = some (.inr (.inr (4, [.ref 15, .int 0, .int 30])))) (hd : decode cc pc = .ok (.invokestatic 77, 3)) (hq : pc + 3 = q) (hls : ls.length = nL) (hfr : 8 + 1 ≤ rm.frames) (hlo : 8 + (5 + 11) + 160 ≤ rm.locals) (hw : (st.map fun v => v.category).sum ≤ 8) (hc : cl + 1 ≤ rm.cells) (hs2 : sl + 6 ≤ rm.slots)
    (kk : ∀ j : Nat, gG X q ls (.int 1 :: st) (hp ++ List.replicate j gJunk) (cl + 1) (sl + 6)) : gG X pc ls (.ref oa :: .int p1 :: .int p0 :: .ref 0 :: st) hp cl sl := by
  subst hq
  have hR := C.2.2.2.2.2.2.2.2.1
  have hts := fun w (hw : w ∈ gW) => gC_hts C (w := w) hw
  intro arr H locs hl hh hS
  have cb : vx_CSW (xR X) (xs X) (xa X) RL 77 yL_log cL_log 5 (some .int) [(0, 10, 13, 13)] (Cond.codeWith yL_log cL_log 5 (some .int) [(0, 10, 13, 13)] :: gW) ({ frames := 8, cells := 1, slots := 6, locals := 160 }) 1 6 4 := vx_cwSW 4 hts lgoodLog rfl rfl rfl (by decide +kernel) (by rw [hR]; exact ⟨hfr, hlo⟩)
  have hp0 : PreS (xs X) H (gPd (xD X) (xI X) (xJ X) (xB X) (xA X) [.ref 0, .int p0, .int p1, .ref oa] hp) ([Value.ref 0, .int p0, .int p1, .ref oa].map (gv (xB X) (xA X))) :=
    ⟨gPd_blind _ _ _ _ _ _ _, fun U hU hW => ⟨⟨rfl, by rw [hU]; exact hh, va_K.moved hW.alike (gC_K C), gN.warm hW hS hU C.2.2.2.2.2.2.2.2.2.2⟩, gDk.warm hW hDk⟩⟩
  have hsz : arr.size = nL := hl.1.trans hls
  exact g_back (vx_runSW (As := [Value.ref 0, .int p0, .int p1, .ref oa].map (gv (xB X) (xA X))) (rest := st.map (gv (xB X) (xA X))) ⟨C.1, C.2.1, C.2.2.1, C.2.2.2.1, hts⟩ (c_L_log_0 H0 H3 H14 (xl X) (xD X) (xI X) (xJ X) (xB X) (xA X) htr) cb hp0 rfl rfl hsz rfl (g_cat _ _ hw) hd (by rw [hR]; exact ⟨hc, hs2⟩)) hl hS (fun v hp' hP => by obtain ⟨z, rfl, rfl, j, rfl⟩ := hP; exact kk j)
theorem g_sldN (C : gC X RL nm cc nL rm) {j0 : UInt32} {L j : Nat} {f : Nat → Int32} {i x : Int32} (hX : va_X (xA X j0.toNat) L f (xs X) (xs X).heap) (hbl : xA X j0.toNat < (xs X).heap.size) (hb0 : ¬ xB X ≤ xA X j0.toNat) (hd : decode cc pc = .ok (.iaload, 1)) (hq : pc + 1 = q) (hj : i.toNatClampNeg = j) (h0 : ¬ i < 0) (hlt : j < L) (hx : f j = x) (k : gG X q ls (.int x :: st) hp cl sl) : gG X pc ls (.int i :: .float j0 :: st) hp cl sl := by
  subst hj; subst hx; exact g_sld C hX hbl hb0 hd hq (vp_inN rfl h0 hlt) k
end LAW
def gCLS : List gA := [.inr (.inr (7, [.ref 1, .ref 3, .ref 20, .ref 43, .ref 116, .ref 119, .int 0])), .inr (.inr (4, [.ref 2, .int 0, .int 96])), .inl (96, fun _ => 0), .inr (.inr (1, [.ref 4, .ref 6, .ref 8, .ref 10, .ref 12, .ref 14, .ref 16, .ref 18, .int ((-1))])), .inr (.inr (4, [.ref 5, .int 0, .int 1048576])), .inl (256, fun _ => 0), .inr (.inr (4, [.ref 7, .int 0, .int 65536])), .inl (32, fun _ => 0), .inr (.inr (4, [.ref 9, .int 0, .int 65536])), .inl (32, fun _ => 0), .inr (.inr (4, [.ref 11, .int 0, .int 65536])), .inl (32, fun _ => 0), .inr (.inr (4, [.ref 13, .int 0, .int 256])), .inl (256, fun _ => 0), .inr (.inr (4, [.ref 15, .int 0, .int 30])), .inl (30, fun _ => 0), .inr (.inr (4, [.ref 17, .int 0, .int 30])), .inl (30, fun _ => 0), .inr (.inr (4, [.ref 19, .int 0, .int 30])), .inl (30, fun _ => 0), .inr (.inr (2, [.ref 21, .ref 28, .ref 35, .int 0, .int 0, .int 0, .int 0, .int 0, .ref 39, .ref 41, .ref 3, .int 3, .int 0, .int ((-1)), .int 0, .int 0, .int 0, .int 0])), .inr (.inr (5, [.int 0, .int 0, .int 0, .int 32, .int 0, .int ((-1)), .int 0, .int 0, .ref 22, .ref 24, .ref 26, .int ((-1)), .int 0, .int ((-1)), .int 0])), .inr (.inr (4, [.ref 23, .int 0, .int 60])), .inl (60, fun _ => 0), .inr (.inr (4, [.ref 25, .int 0, .int 60])), .inl (60, fun _ => 0), .inr (.inr (4, [.ref 27, .int 0, .int 60])), .inl (60, fun _ => 0), .inr (.inr (5, [.int 1, .int 0, .int 0, .int 32, .int 0, .int ((-1)), .int 0, .int 0, .ref 29, .ref 31, .ref 33, .int ((-1)), .int 0, .int ((-1)), .int 0])), .inr (.inr (4, [.ref 30, .int 0, .int 60])), .inl (60, fun _ => 0), .inr (.inr (4, [.ref 32, .int 0, .int 60])), .inl (60, fun _ => 0), .inr (.inr (4, [.ref 34, .int 0, .int 60])), .inl (60, fun _ => 0), .inr (.inr (6, [.int 1, .int 0, .int 0, .ref 36, .ref 37, .ref 38, .int 0, .int ((-1)), .int 0, .int 0])), .inl (24, fun _ => 0), .inl (24, fun _ => 0), .inl (24, fun _ => 0), .inr (.inr (4, [.ref 40, .int 0, .int 64])), .inl (64, fun _ => 0), .inr (.inr (4, [.ref 42, .int 0, .int 64])), .inl (64, fun _ => 0), .inr (.inr (0, [.ref 44, .ref 67, .ref 90, .int 0, .ref 113, .ref 114, .ref 115])), .inr (.inr (2, [.ref 45, .ref 52, .ref 59, .int 0, .int 0, .int 0, .int 0, .int 0, .ref 63, .ref 65, .null, .int 3, .int 0, .int ((-1)), .int 0, .int 0, .int 0, .int 0])), .inr (.inr (5, [.int 0, .int 0, .int 0, .int 32, .int 0, .int ((-1)), .int 0, .int 0, .ref 46, .ref 48, .ref 50, .int ((-1)), .int 0, .int ((-1)), .int 0])), .inr (.inr (4, [.ref 47, .int 0, .int 60])), .inl (60, fun _ => 0), .inr (.inr (4, [.ref 49, .int 0, .int 60])), .inl (60, fun _ => 0), .inr (.inr (4, [.ref 51, .int 0, .int 60])), .inl (60, fun _ => 0), .inr (.inr (5, [.int 1, .int 0, .int 0, .int 32, .int 0, .int ((-1)), .int 0, .int 0, .ref 53, .ref 55, .ref 57, .int ((-1)), .int 0, .int ((-1)), .int 0])), .inr (.inr (4, [.ref 54, .int 0, .int 60])), .inl (60, fun _ => 0), .inr (.inr (4, [.ref 56, .int 0, .int 60])), .inl (60, fun _ => 0), .inr (.inr (4, [.ref 58, .int 0, .int 60])), .inl (60, fun _ => 0), .inr (.inr (6, [.int 1, .int 0, .int 0, .ref 60, .ref 61, .ref 62, .int 0, .int ((-1)), .int 0, .int 0])), .inl (24, fun _ => 0), .inl (24, fun _ => 0), .inl (24, fun _ => 0), .inr (.inr (4, [.ref 64, .int 0, .int 64])), .inl (64, fun _ => 0), .inr (.inr (4, [.ref 66, .int 0, .int 64])), .inl (64, fun _ => 0), .inr (.inr (2, [.ref 68, .ref 75, .ref 82, .int 0, .int 0, .int 0, .int 0, .int 0, .ref 86, .ref 88, .null, .int 3, .int 0, .int ((-1)), .int 0, .int 0, .int 0, .int 0])), .inr (.inr (5, [.int 0, .int 0, .int 0, .int 32, .int 0, .int ((-1)), .int 0, .int 0, .ref 69, .ref 71, .ref 73, .int ((-1)), .int 0, .int ((-1)), .int 0])), .inr (.inr (4, [.ref 70, .int 0, .int 60])), .inl (60, fun _ => 0), .inr (.inr (4, [.ref 72, .int 0, .int 60])), .inl (60, fun _ => 0), .inr (.inr (4, [.ref 74, .int 0, .int 60])), .inl (60, fun _ => 0), .inr (.inr (5, [.int 1, .int 0, .int 0, .int 32, .int 0, .int ((-1)), .int 0, .int 0, .ref 76, .ref 78, .ref 80, .int ((-1)), .int 0, .int ((-1)), .int 0])), .inr (.inr (4, [.ref 77, .int 0, .int 60])), .inl (60, fun _ => 0), .inr (.inr (4, [.ref 79, .int 0, .int 60])), .inl (60, fun _ => 0), .inr (.inr (4, [.ref 81, .int 0, .int 60])), .inl (60, fun _ => 0), .inr (.inr (6, [.int 1, .int 0, .int 0, .ref 83, .ref 84, .ref 85, .int 0, .int ((-1)), .int 0, .int 0])), .inl (24, fun _ => 0), .inl (24, fun _ => 0), .inl (24, fun _ => 0), .inr (.inr (4, [.ref 87, .int 0, .int 64])), .inl (64, fun _ => 0), .inr (.inr (4, [.ref 89, .int 0, .int 64])), .inl (64, fun _ => 0), .inr (.inr (2, [.ref 91, .ref 98, .ref 105, .int 0, .int 0, .int 0, .int 0, .int 0, .ref 109, .ref 111, .null, .int 3, .int 0, .int ((-1)), .int 0, .int 0, .int 0, .int 0])), .inr (.inr (5, [.int 0, .int 0, .int 0, .int 32, .int 0, .int ((-1)), .int 0, .int 0, .ref 92, .ref 94, .ref 96, .int ((-1)), .int 0, .int ((-1)), .int 0])), .inr (.inr (4, [.ref 93, .int 0, .int 60])), .inl (60, fun _ => 0), .inr (.inr (4, [.ref 95, .int 0, .int 60])), .inl (60, fun _ => 0), .inr (.inr (4, [.ref 97, .int 0, .int 60])), .inl (60, fun _ => 0), .inr (.inr (5, [.int 1, .int 0, .int 0, .int 32, .int 0, .int ((-1)), .int 0, .int 0, .ref 99, .ref 101, .ref 103, .int ((-1)), .int 0, .int ((-1)), .int 0])), .inr (.inr (4, [.ref 100, .int 0, .int 60])), .inl (60, fun _ => 0), .inr (.inr (4, [.ref 102, .int 0, .int 60])), .inl (60, fun _ => 0), .inr (.inr (4, [.ref 104, .int 0, .int 60])), .inl (60, fun _ => 0), .inr (.inr (6, [.int 1, .int 0, .int 0, .ref 106, .ref 107, .ref 108, .int 0, .int ((-1)), .int 0, .int 0])), .inl (24, fun _ => 0), .inl (24, fun _ => 0), .inl (24, fun _ => 0), .inr (.inr (4, [.ref 110, .int 0, .int 64])), .inl (64, fun _ => 0), .inr (.inr (4, [.ref 112, .int 0, .int 64])), .inl (64, fun _ => 0), .inl (4, fun _ => 0), .inl (4, fun _ => 0), .inl (4, fun _ => 0), .inr (.inr (3, [.int 0, .int 0, .int 0, .int 0, .int 0, .int 0, .int 0, .ref 117, .int 0, .int 0, .int 0])), .inr (.inr (4, [.ref 118, .int 0, .int 15])), .inl (15, fun _ => 0), .inr (.inr (3, [.int 0, .int 0, .int 0, .int 0, .int 0, .int 0, .int 0, .ref 120, .int 0, .int 0, .int 0])), .inr (.inr (4, [.ref 121, .int 0, .int 15])), .inl (15, fun _ => 0)]
theorem dL_law_0 : decode cL_law 0 = .ok (.new 8, 3) := by decide +kernel
theorem dL_law_3 : decode cL_law 3 = .ok (.dup, 1) := by decide +kernel
theorem dL_law_4 : decode cL_law 4 = .ok (.invokespecial 15, 3) := by decide +kernel
theorem dL_law_7 : decode cL_law 7 = .ok (.astore_n 1, 1) := by decide +kernel
theorem dL_law_8 : decode cL_law 8 = .ok (.new 16, 3) := by decide +kernel
theorem dL_law_11 : decode cL_law 11 = .ok (.dup, 1) := by decide +kernel
theorem dL_law_12 : decode cL_law 12 = .ok (.invokespecial 18, 3) := by decide +kernel
theorem dL_law_15 : decode cL_law 15 = .ok (.astore_n 2, 1) := by decide +kernel
theorem dL_law_16 : decode cL_law 16 = .ok (.iconst 1, 1) := by decide +kernel
theorem dL_law_17 : decode cL_law 17 = .ok (.newarray .long, 2) := by decide +kernel
theorem dL_law_19 : decode cL_law 19 = .ok (.astore_n 3, 1) := by decide +kernel
theorem dL_law_20 : decode cL_law 20 = .ok (.iconst 0, 1) := by decide +kernel
theorem dL_law_21 : decode cL_law 21 = .ok (.istore 4, 2) := by decide +kernel
theorem dL_law_23 : decode cL_law 23 = .ok (.iload 4, 2) := by decide +kernel
theorem dL_law_25 : decode cL_law 25 = .ok (.aload_n 0, 1) := by decide +kernel
theorem dL_law_26 : decode cL_law 26 = .ok (.arraylength, 1) := by decide +kernel
theorem dL_law_27 : decode cL_law 27 = .ok (.iconst 5, 1) := by decide +kernel
theorem dL_law_28 : decode cL_law 28 = .ok (.isub, 1) := by decide +kernel
theorem dL_law_29 : decode cL_law 29 = .ok (.if_icmp .gt 706, 3) := by decide +kernel
theorem dL_law_32 : decode cL_law 32 = .ok (.aload_n 0, 1) := by decide +kernel
theorem dL_law_33 : decode cL_law 33 = .ok (.iload 4, 2) := by decide +kernel
theorem dL_law_35 : decode cL_law 35 = .ok (.iaload, 1) := by decide +kernel
theorem dL_law_36 : decode cL_law 36 = .ok (.bipush 31, 2) := by decide +kernel
theorem dL_law_38 : decode cL_law 38 = .ok (.iand, 1) := by decide +kernel
theorem dL_law_39 : decode cL_law 39 = .ok (.tableswitch 690 0 17 #[85, 186, 211, 224, 249, 274, 287, 312, 361, 386, 411, 424, 461, 498, 566, 603, 628, 665], 85) := by decide +kernel
theorem dL_law_124 : decode cL_law 124 = .ok (.aload_n 1, 1) := by decide +kernel
theorem dL_law_125 : decode cL_law 125 = .ok (.aload_n 0, 1) := by decide +kernel
theorem dL_law_126 : decode cL_law 126 = .ok (.iload 4, 2) := by decide +kernel
theorem dL_law_128 : decode cL_law 128 = .ok (.iconst 1, 1) := by decide +kernel
theorem dL_law_129 : decode cL_law 129 = .ok (.iadd, 1) := by decide +kernel
theorem dL_law_130 : decode cL_law 130 = .ok (.iaload, 1) := by decide +kernel
theorem dL_law_131 : decode cL_law 131 = .ok (.i2l, 1) := by decide +kernel
theorem dL_law_132 : decode cL_law 132 = .ok (.bipush 32, 2) := by decide +kernel
theorem dL_law_134 : decode cL_law 134 = .ok (.lshl, 1) := by decide +kernel
theorem dL_law_135 : decode cL_law 135 = .ok (.aload_n 0, 1) := by decide +kernel
theorem dL_law_136 : decode cL_law 136 = .ok (.iload 4, 2) := by decide +kernel
theorem dL_law_138 : decode cL_law 138 = .ok (.iconst 2, 1) := by decide +kernel
theorem dL_law_139 : decode cL_law 139 = .ok (.iadd, 1) := by decide +kernel
theorem dL_law_140 : decode cL_law 140 = .ok (.iaload, 1) := by decide +kernel
theorem dL_law_141 : decode cL_law 141 = .ok (.i2l, 1) := by decide +kernel
theorem dL_law_142 : decode cL_law 142 = .ok (.ldc2_w 19, 3) := by decide +kernel
theorem dL_law_145 : decode cL_law 145 = .ok (.land, 1) := by decide +kernel
theorem dL_law_146 : decode cL_law 146 = .ok (.lor, 1) := by decide +kernel
theorem dL_law_147 : decode cL_law 147 = .ok (.aload_n 0, 1) := by decide +kernel
theorem dL_law_148 : decode cL_law 148 = .ok (.iload 4, 2) := by decide +kernel
theorem dL_law_150 : decode cL_law 150 = .ok (.iconst 3, 1) := by decide +kernel
theorem dL_law_151 : decode cL_law 151 = .ok (.iadd, 1) := by decide +kernel
theorem dL_law_152 : decode cL_law 152 = .ok (.iaload, 1) := by decide +kernel
theorem dL_law_153 : decode cL_law 153 = .ok (.i2l, 1) := by decide +kernel
theorem dL_law_154 : decode cL_law 154 = .ok (.bipush 32, 2) := by decide +kernel
theorem dL_law_156 : decode cL_law 156 = .ok (.lshl, 1) := by decide +kernel
theorem dL_law_157 : decode cL_law 157 = .ok (.aload_n 0, 1) := by decide +kernel
theorem dL_law_158 : decode cL_law 158 = .ok (.iload 4, 2) := by decide +kernel
theorem dL_law_160 : decode cL_law 160 = .ok (.iconst 4, 1) := by decide +kernel
theorem dL_law_161 : decode cL_law 161 = .ok (.iadd, 1) := by decide +kernel
theorem dL_law_162 : decode cL_law 162 = .ok (.iaload, 1) := by decide +kernel
theorem dL_law_163 : decode cL_law 163 = .ok (.i2l, 1) := by decide +kernel
theorem dL_law_164 : decode cL_law 164 = .ok (.ldc2_w 19, 3) := by decide +kernel
theorem dL_law_167 : decode cL_law 167 = .ok (.land, 1) := by decide +kernel
theorem dL_law_168 : decode cL_law 168 = .ok (.lor, 1) := by decide +kernel
theorem dL_law_169 : decode cL_law 169 = .ok (.invokevirtual 21, 3) := by decide +kernel
theorem dL_law_172 : decode cL_law 172 = .ok (.aload_n 2, 1) := by decide +kernel
theorem dL_law_173 : decode cL_law 173 = .ok (.aload_n 0, 1) := by decide +kernel
theorem dL_law_174 : decode cL_law 174 = .ok (.iload 4, 2) := by decide +kernel
theorem dL_law_176 : decode cL_law 176 = .ok (.iconst 1, 1) := by decide +kernel
theorem dL_law_177 : decode cL_law 177 = .ok (.iadd, 1) := by decide +kernel
theorem dL_law_178 : decode cL_law 178 = .ok (.iaload, 1) := by decide +kernel
theorem dL_law_179 : decode cL_law 179 = .ok (.i2l, 1) := by decide +kernel
theorem dL_law_180 : decode cL_law 180 = .ok (.bipush 32, 2) := by decide +kernel
theorem dL_law_182 : decode cL_law 182 = .ok (.lshl, 1) := by decide +kernel
theorem dL_law_183 : decode cL_law 183 = .ok (.aload_n 0, 1) := by decide +kernel
theorem dL_law_184 : decode cL_law 184 = .ok (.iload 4, 2) := by decide +kernel
theorem dL_law_186 : decode cL_law 186 = .ok (.iconst 2, 1) := by decide +kernel
theorem dL_law_187 : decode cL_law 187 = .ok (.iadd, 1) := by decide +kernel
theorem dL_law_188 : decode cL_law 188 = .ok (.iaload, 1) := by decide +kernel
theorem dL_law_189 : decode cL_law 189 = .ok (.i2l, 1) := by decide +kernel
theorem dL_law_190 : decode cL_law 190 = .ok (.ldc2_w 19, 3) := by decide +kernel
theorem dL_law_193 : decode cL_law 193 = .ok (.land, 1) := by decide +kernel
theorem dL_law_194 : decode cL_law 194 = .ok (.lor, 1) := by decide +kernel
theorem dL_law_195 : decode cL_law 195 = .ok (.aload_n 0, 1) := by decide +kernel
theorem dL_law_196 : decode cL_law 196 = .ok (.iload 4, 2) := by decide +kernel
theorem dL_law_198 : decode cL_law 198 = .ok (.iconst 3, 1) := by decide +kernel
theorem dL_law_199 : decode cL_law 199 = .ok (.iadd, 1) := by decide +kernel
theorem dL_law_200 : decode cL_law 200 = .ok (.iaload, 1) := by decide +kernel
theorem dL_law_201 : decode cL_law 201 = .ok (.i2l, 1) := by decide +kernel
theorem dL_law_202 : decode cL_law 202 = .ok (.bipush 32, 2) := by decide +kernel
theorem dL_law_204 : decode cL_law 204 = .ok (.lshl, 1) := by decide +kernel
theorem dL_law_205 : decode cL_law 205 = .ok (.aload_n 0, 1) := by decide +kernel
theorem dL_law_206 : decode cL_law 206 = .ok (.iload 4, 2) := by decide +kernel
theorem dL_law_208 : decode cL_law 208 = .ok (.iconst 4, 1) := by decide +kernel
theorem dL_law_209 : decode cL_law 209 = .ok (.iadd, 1) := by decide +kernel
theorem dL_law_210 : decode cL_law 210 = .ok (.iaload, 1) := by decide +kernel
theorem dL_law_211 : decode cL_law 211 = .ok (.i2l, 1) := by decide +kernel
theorem dL_law_212 : decode cL_law 212 = .ok (.ldc2_w 19, 3) := by decide +kernel
theorem dL_law_215 : decode cL_law 215 = .ok (.land, 1) := by decide +kernel
theorem dL_law_216 : decode cL_law 216 = .ok (.lor, 1) := by decide +kernel
theorem dL_law_217 : decode cL_law 217 = .ok (.invokevirtual 25, 3) := by decide +kernel
theorem dL_law_220 : decode cL_law 220 = .ok (.if_icmp .eq 509, 3) := by decide +kernel
theorem dL_law_225 : decode cL_law 225 = .ok (.aload_n 1, 1) := by decide +kernel
theorem dL_law_226 : decode cL_law 226 = .ok (.aload_n 0, 1) := by decide +kernel
theorem dL_law_227 : decode cL_law 227 = .ok (.iload 4, 2) := by decide +kernel
theorem dL_law_229 : decode cL_law 229 = .ok (.iconst 1, 1) := by decide +kernel
theorem dL_law_230 : decode cL_law 230 = .ok (.iadd, 1) := by decide +kernel
theorem dL_law_231 : decode cL_law 231 = .ok (.iaload, 1) := by decide +kernel
theorem dL_law_232 : decode cL_law 232 = .ok (.invokevirtual 26, 3) := by decide +kernel
theorem dL_law_235 : decode cL_law 235 = .ok (.aload_n 2, 1) := by decide +kernel
theorem dL_law_236 : decode cL_law 236 = .ok (.aload_n 0, 1) := by decide +kernel
theorem dL_law_237 : decode cL_law 237 = .ok (.iload 4, 2) := by decide +kernel
theorem dL_law_239 : decode cL_law 239 = .ok (.iconst 1, 1) := by decide +kernel
theorem dL_law_240 : decode cL_law 240 = .ok (.iadd, 1) := by decide +kernel
theorem dL_law_241 : decode cL_law 241 = .ok (.iaload, 1) := by decide +kernel
theorem dL_law_242 : decode cL_law 242 = .ok (.invokevirtual 30, 3) := by decide +kernel
theorem dL_law_245 : decode cL_law 245 = .ok (.if_icmp .eq 484, 3) := by decide +kernel
theorem dL_law_250 : decode cL_law 250 = .ok (.aload_n 1, 1) := by decide +kernel
theorem dL_law_251 : decode cL_law 251 = .ok (.invokevirtual 31, 3) := by decide +kernel
theorem dL_law_254 : decode cL_law 254 = .ok (.aload_n 2, 1) := by decide +kernel
theorem dL_law_255 : decode cL_law 255 = .ok (.invokevirtual 35, 3) := by decide +kernel
theorem dL_law_258 : decode cL_law 258 = .ok (.if_icmp .eq 471, 3) := by decide +kernel
theorem dL_law_263 : decode cL_law 263 = .ok (.aload_n 1, 1) := by decide +kernel
theorem dL_law_264 : decode cL_law 264 = .ok (.aload_n 0, 1) := by decide +kernel
theorem dL_law_265 : decode cL_law 265 = .ok (.iload 4, 2) := by decide +kernel
theorem dL_law_267 : decode cL_law 267 = .ok (.iconst 1, 1) := by decide +kernel
theorem dL_law_268 : decode cL_law 268 = .ok (.iadd, 1) := by decide +kernel
theorem dL_law_269 : decode cL_law 269 = .ok (.iaload, 1) := by decide +kernel
theorem dL_law_270 : decode cL_law 270 = .ok (.invokevirtual 36, 3) := by decide +kernel
theorem dL_law_273 : decode cL_law 273 = .ok (.aload_n 2, 1) := by decide +kernel
theorem dL_law_274 : decode cL_law 274 = .ok (.aload_n 0, 1) := by decide +kernel
theorem dL_law_275 : decode cL_law 275 = .ok (.iload 4, 2) := by decide +kernel
theorem dL_law_277 : decode cL_law 277 = .ok (.iconst 1, 1) := by decide +kernel
theorem dL_law_278 : decode cL_law 278 = .ok (.iadd, 1) := by decide +kernel
theorem dL_law_279 : decode cL_law 279 = .ok (.iaload, 1) := by decide +kernel
theorem dL_law_280 : decode cL_law 280 = .ok (.invokevirtual 39, 3) := by decide +kernel
theorem dL_law_283 : decode cL_law 283 = .ok (.if_icmp .eq 446, 3) := by decide +kernel
theorem dL_law_288 : decode cL_law 288 = .ok (.aload_n 1, 1) := by decide +kernel
theorem dL_law_289 : decode cL_law 289 = .ok (.aload_n 0, 1) := by decide +kernel
theorem dL_law_290 : decode cL_law 290 = .ok (.iload 4, 2) := by decide +kernel
theorem dL_law_292 : decode cL_law 292 = .ok (.iconst 1, 1) := by decide +kernel
theorem dL_law_293 : decode cL_law 293 = .ok (.iadd, 1) := by decide +kernel
theorem dL_law_294 : decode cL_law 294 = .ok (.iaload, 1) := by decide +kernel
theorem dL_law_295 : decode cL_law 295 = .ok (.invokevirtual 40, 3) := by decide +kernel
theorem dL_law_298 : decode cL_law 298 = .ok (.aload_n 2, 1) := by decide +kernel
theorem dL_law_299 : decode cL_law 299 = .ok (.aload_n 0, 1) := by decide +kernel
theorem dL_law_300 : decode cL_law 300 = .ok (.iload 4, 2) := by decide +kernel
theorem dL_law_302 : decode cL_law 302 = .ok (.iconst 1, 1) := by decide +kernel
theorem dL_law_303 : decode cL_law 303 = .ok (.iadd, 1) := by decide +kernel
theorem dL_law_304 : decode cL_law 304 = .ok (.iaload, 1) := by decide +kernel
theorem dL_law_305 : decode cL_law 305 = .ok (.invokevirtual 43, 3) := by decide +kernel
theorem dL_law_308 : decode cL_law 308 = .ok (.if_icmp .eq 421, 3) := by decide +kernel
theorem dL_law_313 : decode cL_law 313 = .ok (.aload_n 1, 1) := by decide +kernel
theorem dL_law_314 : decode cL_law 314 = .ok (.invokevirtual 44, 3) := by decide +kernel
theorem dL_law_317 : decode cL_law 317 = .ok (.aload_n 2, 1) := by decide +kernel
theorem dL_law_318 : decode cL_law 318 = .ok (.invokevirtual 47, 3) := by decide +kernel
theorem dL_law_321 : decode cL_law 321 = .ok (.if_icmp .eq 408, 3) := by decide +kernel
theorem dL_law_326 : decode cL_law 326 = .ok (.aload_n 1, 1) := by decide +kernel
theorem dL_law_327 : decode cL_law 327 = .ok (.aload_n 0, 1) := by decide +kernel
theorem dL_law_328 : decode cL_law 328 = .ok (.iload 4, 2) := by decide +kernel
theorem dL_law_330 : decode cL_law 330 = .ok (.iconst 1, 1) := by decide +kernel
theorem dL_law_331 : decode cL_law 331 = .ok (.iadd, 1) := by decide +kernel
theorem dL_law_332 : decode cL_law 332 = .ok (.iaload, 1) := by decide +kernel
theorem dL_law_333 : decode cL_law 333 = .ok (.invokevirtual 48, 3) := by decide +kernel
theorem dL_law_336 : decode cL_law 336 = .ok (.aload_n 2, 1) := by decide +kernel
theorem dL_law_337 : decode cL_law 337 = .ok (.aload_n 0, 1) := by decide +kernel
theorem dL_law_338 : decode cL_law 338 = .ok (.iload 4, 2) := by decide +kernel
theorem dL_law_340 : decode cL_law 340 = .ok (.iconst 1, 1) := by decide +kernel
theorem dL_law_341 : decode cL_law 341 = .ok (.iadd, 1) := by decide +kernel
theorem dL_law_342 : decode cL_law 342 = .ok (.iaload, 1) := by decide +kernel
theorem dL_law_343 : decode cL_law 343 = .ok (.invokevirtual 51, 3) := by decide +kernel
theorem dL_law_346 : decode cL_law 346 = .ok (.if_icmp .eq 383, 3) := by decide +kernel
theorem dL_law_351 : decode cL_law 351 = .ok (.aload_n 1, 1) := by decide +kernel
theorem dL_law_352 : decode cL_law 352 = .ok (.aload_n 0, 1) := by decide +kernel
theorem dL_law_353 : decode cL_law 353 = .ok (.iload 4, 2) := by decide +kernel
theorem dL_law_355 : decode cL_law 355 = .ok (.iconst 1, 1) := by decide +kernel
theorem dL_law_356 : decode cL_law 356 = .ok (.iadd, 1) := by decide +kernel
theorem dL_law_357 : decode cL_law 357 = .ok (.iaload, 1) := by decide +kernel
theorem dL_law_358 : decode cL_law 358 = .ok (.aload_n 0, 1) := by decide +kernel
theorem dL_law_359 : decode cL_law 359 = .ok (.iload 4, 2) := by decide +kernel
theorem dL_law_361 : decode cL_law 361 = .ok (.iconst 2, 1) := by decide +kernel
theorem dL_law_362 : decode cL_law 362 = .ok (.iadd, 1) := by decide +kernel
theorem dL_law_363 : decode cL_law 363 = .ok (.iaload, 1) := by decide +kernel
theorem dL_law_364 : decode cL_law 364 = .ok (.aload_n 0, 1) := by decide +kernel
theorem dL_law_365 : decode cL_law 365 = .ok (.iload 4, 2) := by decide +kernel
theorem dL_law_367 : decode cL_law 367 = .ok (.iconst 3, 1) := by decide +kernel
theorem dL_law_368 : decode cL_law 368 = .ok (.iadd, 1) := by decide +kernel
theorem dL_law_369 : decode cL_law 369 = .ok (.iaload, 1) := by decide +kernel
theorem dL_law_370 : decode cL_law 370 = .ok (.invokevirtual 52, 3) := by decide +kernel
theorem dL_law_373 : decode cL_law 373 = .ok (.aload_n 2, 1) := by decide +kernel
theorem dL_law_374 : decode cL_law 374 = .ok (.aload_n 0, 1) := by decide +kernel
theorem dL_law_375 : decode cL_law 375 = .ok (.iload 4, 2) := by decide +kernel
theorem dL_law_377 : decode cL_law 377 = .ok (.iconst 1, 1) := by decide +kernel
theorem dL_law_378 : decode cL_law 378 = .ok (.iadd, 1) := by decide +kernel
theorem dL_law_379 : decode cL_law 379 = .ok (.iaload, 1) := by decide +kernel
theorem dL_law_380 : decode cL_law 380 = .ok (.aload_n 0, 1) := by decide +kernel
theorem dL_law_381 : decode cL_law 381 = .ok (.iload 4, 2) := by decide +kernel
theorem dL_law_383 : decode cL_law 383 = .ok (.iconst 2, 1) := by decide +kernel
theorem dL_law_384 : decode cL_law 384 = .ok (.iadd, 1) := by decide +kernel
theorem dL_law_385 : decode cL_law 385 = .ok (.iaload, 1) := by decide +kernel
theorem dL_law_386 : decode cL_law 386 = .ok (.aload_n 0, 1) := by decide +kernel
theorem dL_law_387 : decode cL_law 387 = .ok (.iload 4, 2) := by decide +kernel
theorem dL_law_389 : decode cL_law 389 = .ok (.iconst 3, 1) := by decide +kernel
theorem dL_law_390 : decode cL_law 390 = .ok (.iadd, 1) := by decide +kernel
theorem dL_law_391 : decode cL_law 391 = .ok (.iaload, 1) := by decide +kernel
theorem dL_law_392 : decode cL_law 392 = .ok (.invokevirtual 56, 3) := by decide +kernel
theorem dL_law_395 : decode cL_law 395 = .ok (.if_icmp .eq 334, 3) := by decide +kernel
theorem dL_law_400 : decode cL_law 400 = .ok (.aload_n 1, 1) := by decide +kernel
theorem dL_law_401 : decode cL_law 401 = .ok (.aload_n 0, 1) := by decide +kernel
theorem dL_law_402 : decode cL_law 402 = .ok (.iload 4, 2) := by decide +kernel
theorem dL_law_404 : decode cL_law 404 = .ok (.iconst 1, 1) := by decide +kernel
theorem dL_law_405 : decode cL_law 405 = .ok (.iadd, 1) := by decide +kernel
theorem dL_law_406 : decode cL_law 406 = .ok (.iaload, 1) := by decide +kernel
theorem dL_law_407 : decode cL_law 407 = .ok (.invokevirtual 57, 3) := by decide +kernel
theorem dL_law_410 : decode cL_law 410 = .ok (.aload_n 2, 1) := by decide +kernel
theorem dL_law_411 : decode cL_law 411 = .ok (.aload_n 0, 1) := by decide +kernel
theorem dL_law_412 : decode cL_law 412 = .ok (.iload 4, 2) := by decide +kernel
theorem dL_law_414 : decode cL_law 414 = .ok (.iconst 1, 1) := by decide +kernel
theorem dL_law_415 : decode cL_law 415 = .ok (.iadd, 1) := by decide +kernel
theorem dL_law_416 : decode cL_law 416 = .ok (.iaload, 1) := by decide +kernel
theorem dL_law_417 : decode cL_law 417 = .ok (.invokevirtual 60, 3) := by decide +kernel
theorem dL_law_420 : decode cL_law 420 = .ok (.if_icmp .eq 309, 3) := by decide +kernel
theorem dL_law_425 : decode cL_law 425 = .ok (.aload_n 1, 1) := by decide +kernel
theorem dL_law_426 : decode cL_law 426 = .ok (.aload_n 0, 1) := by decide +kernel
theorem dL_law_427 : decode cL_law 427 = .ok (.iload 4, 2) := by decide +kernel
theorem dL_law_429 : decode cL_law 429 = .ok (.iconst 1, 1) := by decide +kernel
theorem dL_law_430 : decode cL_law 430 = .ok (.iadd, 1) := by decide +kernel
theorem dL_law_431 : decode cL_law 431 = .ok (.iaload, 1) := by decide +kernel
theorem dL_law_432 : decode cL_law 432 = .ok (.invokevirtual 61, 3) := by decide +kernel
theorem dL_law_435 : decode cL_law 435 = .ok (.aload_n 2, 1) := by decide +kernel
theorem dL_law_436 : decode cL_law 436 = .ok (.aload_n 0, 1) := by decide +kernel
theorem dL_law_437 : decode cL_law 437 = .ok (.iload 4, 2) := by decide +kernel
theorem dL_law_439 : decode cL_law 439 = .ok (.iconst 1, 1) := by decide +kernel
theorem dL_law_440 : decode cL_law 440 = .ok (.iadd, 1) := by decide +kernel
theorem dL_law_441 : decode cL_law 441 = .ok (.iaload, 1) := by decide +kernel
theorem dL_law_442 : decode cL_law 442 = .ok (.invokevirtual 64, 3) := by decide +kernel
theorem dL_law_445 : decode cL_law 445 = .ok (.if_icmp .eq 284, 3) := by decide +kernel
theorem dL_law_450 : decode cL_law 450 = .ok (.aload_n 1, 1) := by decide +kernel
theorem dL_law_451 : decode cL_law 451 = .ok (.invokevirtual 65, 3) := by decide +kernel
theorem dL_law_454 : decode cL_law 454 = .ok (.aload_n 2, 1) := by decide +kernel
theorem dL_law_455 : decode cL_law 455 = .ok (.invokevirtual 68, 3) := by decide +kernel
theorem dL_law_458 : decode cL_law 458 = .ok (.if_icmp .eq 271, 3) := by decide +kernel
theorem dL_law_463 : decode cL_law 463 = .ok (.aload_n 1, 1) := by decide +kernel
theorem dL_law_464 : decode cL_law 464 = .ok (.aload_n 0, 1) := by decide +kernel
theorem dL_law_465 : decode cL_law 465 = .ok (.iload 4, 2) := by decide +kernel
theorem dL_law_467 : decode cL_law 467 = .ok (.iconst 1, 1) := by decide +kernel
theorem dL_law_468 : decode cL_law 468 = .ok (.iadd, 1) := by decide +kernel
theorem dL_law_469 : decode cL_law 469 = .ok (.iaload, 1) := by decide +kernel
theorem dL_law_470 : decode cL_law 470 = .ok (.aload_n 0, 1) := by decide +kernel
theorem dL_law_471 : decode cL_law 471 = .ok (.iload 4, 2) := by decide +kernel
theorem dL_law_473 : decode cL_law 473 = .ok (.iconst 2, 1) := by decide +kernel
theorem dL_law_474 : decode cL_law 474 = .ok (.iadd, 1) := by decide +kernel
theorem dL_law_475 : decode cL_law 475 = .ok (.iaload, 1) := by decide +kernel
theorem dL_law_476 : decode cL_law 476 = .ok (.invokevirtual 69, 3) := by decide +kernel
theorem dL_law_479 : decode cL_law 479 = .ok (.aload_n 2, 1) := by decide +kernel
theorem dL_law_480 : decode cL_law 480 = .ok (.aload_n 0, 1) := by decide +kernel
theorem dL_law_481 : decode cL_law 481 = .ok (.iload 4, 2) := by decide +kernel
theorem dL_law_483 : decode cL_law 483 = .ok (.iconst 1, 1) := by decide +kernel
theorem dL_law_484 : decode cL_law 484 = .ok (.iadd, 1) := by decide +kernel
theorem dL_law_485 : decode cL_law 485 = .ok (.iaload, 1) := by decide +kernel
theorem dL_law_486 : decode cL_law 486 = .ok (.aload_n 0, 1) := by decide +kernel
theorem dL_law_487 : decode cL_law 487 = .ok (.iload 4, 2) := by decide +kernel
theorem dL_law_489 : decode cL_law 489 = .ok (.iconst 2, 1) := by decide +kernel
theorem dL_law_490 : decode cL_law 490 = .ok (.iadd, 1) := by decide +kernel
theorem dL_law_491 : decode cL_law 491 = .ok (.iaload, 1) := by decide +kernel
theorem dL_law_492 : decode cL_law 492 = .ok (.invokevirtual 72, 3) := by decide +kernel
theorem dL_law_495 : decode cL_law 495 = .ok (.if_icmp .eq 234, 3) := by decide +kernel
theorem dL_law_500 : decode cL_law 500 = .ok (.aload_n 1, 1) := by decide +kernel
theorem dL_law_501 : decode cL_law 501 = .ok (.aload_n 0, 1) := by decide +kernel
theorem dL_law_502 : decode cL_law 502 = .ok (.iload 4, 2) := by decide +kernel
theorem dL_law_504 : decode cL_law 504 = .ok (.iconst 1, 1) := by decide +kernel
theorem dL_law_505 : decode cL_law 505 = .ok (.iadd, 1) := by decide +kernel
theorem dL_law_506 : decode cL_law 506 = .ok (.iaload, 1) := by decide +kernel
theorem dL_law_507 : decode cL_law 507 = .ok (.aload_n 0, 1) := by decide +kernel
theorem dL_law_508 : decode cL_law 508 = .ok (.iload 4, 2) := by decide +kernel
theorem dL_law_510 : decode cL_law 510 = .ok (.iconst 2, 1) := by decide +kernel
theorem dL_law_511 : decode cL_law 511 = .ok (.iadd, 1) := by decide +kernel
theorem dL_law_512 : decode cL_law 512 = .ok (.iaload, 1) := by decide +kernel
theorem dL_law_513 : decode cL_law 513 = .ok (.invokevirtual 73, 3) := by decide +kernel
theorem dL_law_516 : decode cL_law 516 = .ok (.aload_n 2, 1) := by decide +kernel
theorem dL_law_517 : decode cL_law 517 = .ok (.aload_n 0, 1) := by decide +kernel
theorem dL_law_518 : decode cL_law 518 = .ok (.iload 4, 2) := by decide +kernel
theorem dL_law_520 : decode cL_law 520 = .ok (.iconst 1, 1) := by decide +kernel
theorem dL_law_521 : decode cL_law 521 = .ok (.iadd, 1) := by decide +kernel
theorem dL_law_522 : decode cL_law 522 = .ok (.iaload, 1) := by decide +kernel
theorem dL_law_523 : decode cL_law 523 = .ok (.aload_n 0, 1) := by decide +kernel
theorem dL_law_524 : decode cL_law 524 = .ok (.iload 4, 2) := by decide +kernel
theorem dL_law_526 : decode cL_law 526 = .ok (.iconst 2, 1) := by decide +kernel
theorem dL_law_527 : decode cL_law 527 = .ok (.iadd, 1) := by decide +kernel
theorem dL_law_528 : decode cL_law 528 = .ok (.iaload, 1) := by decide +kernel
theorem dL_law_529 : decode cL_law 529 = .ok (.invokevirtual 76, 3) := by decide +kernel
theorem dL_law_532 : decode cL_law 532 = .ok (.if_icmp .eq 197, 3) := by decide +kernel
theorem dL_law_537 : decode cL_law 537 = .ok (.aload_n 1, 1) := by decide +kernel
theorem dL_law_538 : decode cL_law 538 = .ok (.aload_n 0, 1) := by decide +kernel
theorem dL_law_539 : decode cL_law 539 = .ok (.iload 4, 2) := by decide +kernel
theorem dL_law_541 : decode cL_law 541 = .ok (.iconst 1, 1) := by decide +kernel
theorem dL_law_542 : decode cL_law 542 = .ok (.iadd, 1) := by decide +kernel
theorem dL_law_543 : decode cL_law 543 = .ok (.iaload, 1) := by decide +kernel
theorem dL_law_544 : decode cL_law 544 = .ok (.aload_n 0, 1) := by decide +kernel
theorem dL_law_545 : decode cL_law 545 = .ok (.iload 4, 2) := by decide +kernel
theorem dL_law_547 : decode cL_law 547 = .ok (.iconst 2, 1) := by decide +kernel
theorem dL_law_548 : decode cL_law 548 = .ok (.iadd, 1) := by decide +kernel
theorem dL_law_549 : decode cL_law 549 = .ok (.iaload, 1) := by decide +kernel
theorem dL_law_550 : decode cL_law 550 = .ok (.aload_n 3, 1) := by decide +kernel
theorem dL_law_551 : decode cL_law 551 = .ok (.invokestatic 77, 3) := by decide +kernel
theorem dL_law_554 : decode cL_law 554 = .ok (.istore 5, 2) := by decide +kernel
theorem dL_law_556 : decode cL_law 556 = .ok (.aload_n 2, 1) := by decide +kernel
theorem dL_law_557 : decode cL_law 557 = .ok (.aload_n 0, 1) := by decide +kernel
theorem dL_law_558 : decode cL_law 558 = .ok (.iload 4, 2) := by decide +kernel
theorem dL_law_560 : decode cL_law 560 = .ok (.iconst 1, 1) := by decide +kernel
theorem dL_law_561 : decode cL_law 561 = .ok (.iadd, 1) := by decide +kernel
theorem dL_law_562 : decode cL_law 562 = .ok (.iaload, 1) := by decide +kernel
theorem dL_law_563 : decode cL_law 563 = .ok (.aload_n 0, 1) := by decide +kernel
theorem dL_law_564 : decode cL_law 564 = .ok (.iload 4, 2) := by decide +kernel
theorem dL_law_566 : decode cL_law 566 = .ok (.iconst 2, 1) := by decide +kernel
theorem dL_law_567 : decode cL_law 567 = .ok (.iadd, 1) := by decide +kernel
theorem dL_law_568 : decode cL_law 568 = .ok (.iaload, 1) := by decide +kernel
theorem dL_law_569 : decode cL_law 569 = .ok (.invokevirtual 82, 3) := by decide +kernel
theorem dL_law_572 : decode cL_law 572 = .ok (.istore 6, 2) := by decide +kernel
theorem dL_law_574 : decode cL_law 574 = .ok (.aload_n 2, 1) := by decide +kernel
theorem dL_law_575 : decode cL_law 575 = .ok (.invokevirtual 83, 3) := by decide +kernel
theorem dL_law_578 : decode cL_law 578 = .ok (.iload 5, 2) := by decide +kernel
theorem dL_law_580 : decode cL_law 580 = .ok (.if_icmp .eq 5, 3) := by decide +kernel
theorem dL_law_585 : decode cL_law 585 = .ok (.iload 5, 2) := by decide +kernel
theorem dL_law_587 : decode cL_law 587 = .ok (.ifCond .ne 15, 3) := by decide +kernel
theorem dL_law_602 : decode cL_law 602 = .ok (.goto 127, 3) := by decide +kernel
theorem dL_law_605 : decode cL_law 605 = .ok (.aload_n 1, 1) := by decide +kernel
theorem dL_law_606 : decode cL_law 606 = .ok (.aload_n 0, 1) := by decide +kernel
theorem dL_law_607 : decode cL_law 607 = .ok (.iload 4, 2) := by decide +kernel
theorem dL_law_609 : decode cL_law 609 = .ok (.iconst 1, 1) := by decide +kernel
theorem dL_law_610 : decode cL_law 610 = .ok (.iadd, 1) := by decide +kernel
theorem dL_law_611 : decode cL_law 611 = .ok (.iaload, 1) := by decide +kernel
theorem dL_law_612 : decode cL_law 612 = .ok (.aload_n 0, 1) := by decide +kernel
theorem dL_law_613 : decode cL_law 613 = .ok (.iload 4, 2) := by decide +kernel
theorem dL_law_615 : decode cL_law 615 = .ok (.iconst 2, 1) := by decide +kernel
theorem dL_law_616 : decode cL_law 616 = .ok (.iadd, 1) := by decide +kernel
theorem dL_law_617 : decode cL_law 617 = .ok (.iaload, 1) := by decide +kernel
theorem dL_law_618 : decode cL_law 618 = .ok (.invokevirtual 86, 3) := by decide +kernel
theorem dL_law_621 : decode cL_law 621 = .ok (.aload_n 2, 1) := by decide +kernel
theorem dL_law_622 : decode cL_law 622 = .ok (.aload_n 0, 1) := by decide +kernel
theorem dL_law_623 : decode cL_law 623 = .ok (.iload 4, 2) := by decide +kernel
theorem dL_law_625 : decode cL_law 625 = .ok (.iconst 1, 1) := by decide +kernel
theorem dL_law_626 : decode cL_law 626 = .ok (.iadd, 1) := by decide +kernel
theorem dL_law_627 : decode cL_law 627 = .ok (.iaload, 1) := by decide +kernel
theorem dL_law_628 : decode cL_law 628 = .ok (.aload_n 0, 1) := by decide +kernel
theorem dL_law_629 : decode cL_law 629 = .ok (.iload 4, 2) := by decide +kernel
theorem dL_law_631 : decode cL_law 631 = .ok (.iconst 2, 1) := by decide +kernel
theorem dL_law_632 : decode cL_law 632 = .ok (.iadd, 1) := by decide +kernel
theorem dL_law_633 : decode cL_law 633 = .ok (.iaload, 1) := by decide +kernel
theorem dL_law_634 : decode cL_law 634 = .ok (.invokevirtual 89, 3) := by decide +kernel
theorem dL_law_637 : decode cL_law 637 = .ok (.if_icmp .eq 92, 3) := by decide +kernel
theorem dL_law_642 : decode cL_law 642 = .ok (.aload_n 1, 1) := by decide +kernel
theorem dL_law_643 : decode cL_law 643 = .ok (.aload_n 0, 1) := by decide +kernel
theorem dL_law_644 : decode cL_law 644 = .ok (.iload 4, 2) := by decide +kernel
theorem dL_law_646 : decode cL_law 646 = .ok (.iconst 1, 1) := by decide +kernel
theorem dL_law_647 : decode cL_law 647 = .ok (.iadd, 1) := by decide +kernel
theorem dL_law_648 : decode cL_law 648 = .ok (.iaload, 1) := by decide +kernel
theorem dL_law_649 : decode cL_law 649 = .ok (.invokevirtual 90, 3) := by decide +kernel
theorem dL_law_652 : decode cL_law 652 = .ok (.aload_n 2, 1) := by decide +kernel
theorem dL_law_653 : decode cL_law 653 = .ok (.aload_n 0, 1) := by decide +kernel
theorem dL_law_654 : decode cL_law 654 = .ok (.iload 4, 2) := by decide +kernel
theorem dL_law_656 : decode cL_law 656 = .ok (.iconst 1, 1) := by decide +kernel
theorem dL_law_657 : decode cL_law 657 = .ok (.iadd, 1) := by decide +kernel
theorem dL_law_658 : decode cL_law 658 = .ok (.iaload, 1) := by decide +kernel
theorem dL_law_659 : decode cL_law 659 = .ok (.invokevirtual 93, 3) := by decide +kernel
theorem dL_law_662 : decode cL_law 662 = .ok (.if_icmp .eq 67, 3) := by decide +kernel
theorem dL_law_667 : decode cL_law 667 = .ok (.aload_n 1, 1) := by decide +kernel
theorem dL_law_668 : decode cL_law 668 = .ok (.aload_n 0, 1) := by decide +kernel
theorem dL_law_669 : decode cL_law 669 = .ok (.iload 4, 2) := by decide +kernel
theorem dL_law_671 : decode cL_law 671 = .ok (.iconst 1, 1) := by decide +kernel
theorem dL_law_672 : decode cL_law 672 = .ok (.iadd, 1) := by decide +kernel
theorem dL_law_673 : decode cL_law 673 = .ok (.iaload, 1) := by decide +kernel
theorem dL_law_674 : decode cL_law 674 = .ok (.aload_n 0, 1) := by decide +kernel
theorem dL_law_675 : decode cL_law 675 = .ok (.iload 4, 2) := by decide +kernel
theorem dL_law_677 : decode cL_law 677 = .ok (.iconst 2, 1) := by decide +kernel
theorem dL_law_678 : decode cL_law 678 = .ok (.iadd, 1) := by decide +kernel
theorem dL_law_679 : decode cL_law 679 = .ok (.iaload, 1) := by decide +kernel
theorem dL_law_680 : decode cL_law 680 = .ok (.invokevirtual 94, 3) := by decide +kernel
theorem dL_law_683 : decode cL_law 683 = .ok (.aload_n 2, 1) := by decide +kernel
theorem dL_law_684 : decode cL_law 684 = .ok (.aload_n 0, 1) := by decide +kernel
theorem dL_law_685 : decode cL_law 685 = .ok (.iload 4, 2) := by decide +kernel
theorem dL_law_687 : decode cL_law 687 = .ok (.iconst 1, 1) := by decide +kernel
theorem dL_law_688 : decode cL_law 688 = .ok (.iadd, 1) := by decide +kernel
theorem dL_law_689 : decode cL_law 689 = .ok (.iaload, 1) := by decide +kernel
theorem dL_law_690 : decode cL_law 690 = .ok (.aload_n 0, 1) := by decide +kernel
theorem dL_law_691 : decode cL_law 691 = .ok (.iload 4, 2) := by decide +kernel
theorem dL_law_693 : decode cL_law 693 = .ok (.iconst 2, 1) := by decide +kernel
theorem dL_law_694 : decode cL_law 694 = .ok (.iadd, 1) := by decide +kernel
theorem dL_law_695 : decode cL_law 695 = .ok (.iaload, 1) := by decide +kernel
theorem dL_law_696 : decode cL_law 696 = .ok (.invokevirtual 97, 3) := by decide +kernel
theorem dL_law_699 : decode cL_law 699 = .ok (.if_icmp .eq 30, 3) := by decide +kernel
theorem dL_law_704 : decode cL_law 704 = .ok (.aload_n 1, 1) := by decide +kernel
theorem dL_law_705 : decode cL_law 705 = .ok (.aload_n 0, 1) := by decide +kernel
theorem dL_law_706 : decode cL_law 706 = .ok (.iload 4, 2) := by decide +kernel
theorem dL_law_708 : decode cL_law 708 = .ok (.iconst 1, 1) := by decide +kernel
theorem dL_law_709 : decode cL_law 709 = .ok (.iadd, 1) := by decide +kernel
theorem dL_law_710 : decode cL_law 710 = .ok (.iaload, 1) := by decide +kernel
theorem dL_law_711 : decode cL_law 711 = .ok (.invokevirtual 98, 3) := by decide +kernel
theorem dL_law_714 : decode cL_law 714 = .ok (.aload_n 2, 1) := by decide +kernel
theorem dL_law_715 : decode cL_law 715 = .ok (.aload_n 0, 1) := by decide +kernel
theorem dL_law_716 : decode cL_law 716 = .ok (.iload 4, 2) := by decide +kernel
theorem dL_law_718 : decode cL_law 718 = .ok (.iconst 1, 1) := by decide +kernel
theorem dL_law_719 : decode cL_law 719 = .ok (.iadd, 1) := by decide +kernel
theorem dL_law_720 : decode cL_law 720 = .ok (.iaload, 1) := by decide +kernel
theorem dL_law_721 : decode cL_law 721 = .ok (.invokevirtual 101, 3) := by decide +kernel
theorem dL_law_724 : decode cL_law 724 = .ok (.if_icmp .eq 5, 3) := by decide +kernel
theorem dL_law_729 : decode cL_law 729 = .ok (.iinc 4 5, 3) := by decide +kernel
theorem dL_law_732 : decode cL_law 732 = .ok (.goto (-709), 3) := by decide +kernel
theorem dL_law_735 : decode cL_law 735 = .ok (.iconst 1, 1) := by decide +kernel
set_option maxRecDepth 100000 in
theorem law_end {X : gX} {nm : String} {xs0 : Nat → Int32} (C : gC X RL nm cL_law 7 room_1) (hX : va_X (xA X (0 : UInt32).toNat) 5 xs0 (xs X) (xs X).heap) (hbl : xA X (0 : UInt32).toNat < (xs X).heap.size) (hb0 : ¬ xB X ≤ xA X (0 : UInt32).toNat) (hEnd : ∀ (ls : List (Option Value)) (hp : List gA) (cl sl : Nat), cl ≤ 600002 → sl ≤ 7302231 → gG X 736 ls [.int 1] hp cl sl) {l1 l2 l3 l5 l6 : Option Value} {hp : List gA} {cl sl : Nat} (hcl : cl ≤ 600002) (hsl : sl ≤ 7302231) : gG X 729 [some (.float 0), l1, l2, l3, some (.int 0), l5, l6] [] hp cl sl := by
  refine g_iinc (v := 5) (q := 732) C dL_law_729 rfl (by decide) (by simp only [gset]; rfl) rfl ?_
  refine g_goto (q := 23) C dL_law_732 (by decide) ?_
  refine g_iload (q := 25) C dL_law_23 rfl rfl ?_
  refine g_aloadS_n (q := 26) C dL_law_25 rfl rfl ?_
  refine g_slen (q := 27) C hX hbl hb0 dL_law_26 rfl ?_
  refine g_iconst (v := 5) (q := 28) C dL_law_27 (by decide) rfl ?_
  refine g_isub (q := 29) C dL_law_28 rfl ?_
  refine g_icmp_gt_t (t := 735) C dL_law_29 (by decide) (by decide) ?_
  refine g_iconst (v := 1) (q := 736) C dL_law_735 (by decide) rfl ?_
  exact hEnd _ _ _ _ hcl hsl
set_option maxRecDepth 100000 in
set_option maxHeartbeats 8000000 in
theorem law_mid {X : gX} {nm : String} {xs0 : Nat → Int32} (C : gC X RL nm cL_law 7 room_1) (hX : va_X (xA X (0 : UInt32).toNat) 5 xs0 (xs X) (xs X).heap) (hbl : xA X (0 : UInt32).toNat < (xs X).heap.size) (hb0 : ¬ xB X ≤ xA X (0 : UInt32).toNat) (hEnd : ∀ (ls : List (Option Value)) (hp : List gA) (cl sl : Nat), cl ≤ 600002 → sl ≤ 7302231 → gG X 736 ls [.int 1] hp cl sl) (htr : (xl X).stackTraces = false) (hDk : gDk (xs X)) {hp : List gA} {f2 : Nat → Int32} {f113 : Nat → Int32} {f123 : Nat → Int32} {f125 : Nat → Int32} {f127 : Nat → Int32} (H0 : hp[0]? = some (.inr (.inr (7, [.ref 1, .ref 3, .ref 20, .ref 43, .ref 116, .ref 119, .int 0])))) (H1 : hp[1]? = some (.inr (.inr (4, [.ref 2, .int 0, .int 96])))) (H2 : hp[2]? = some (.inl (96, f2))) (H3 : hp[3]? = some (.inr (.inr (1, [.ref 4, .ref 6, .ref 8, .ref 10, .ref 12, .ref 14, .ref 16, .ref 18, .int ((-1))])))) (H6 : hp[6]? = some (.inr (.inr (4, [.ref 7, .int 0, .int 65536])))) (H14 : hp[14]? = some (.inr (.inr (4, [.ref 15, .int 0, .int 30])))) (H20 : hp[20]? = some (.inr (.inr (2, [.ref 21, .ref 28, .ref 35, .int 0, .int 0, .int 0, .int 0, .int 0, .ref 39, .ref 41, .ref 3, .int 3, .int 0, .int ((-1)), .int 0, .int 0, .int 0, .int 0])))) (H35 : hp[35]? = some (.inr (.inr (6, [.int 1, .int 0, .int 0, .ref 36, .ref 37, .ref 38, .int 0, .int ((-1)), .int 0, .int 0])))) (H43 : hp[43]? = some (.inr (.inr (0, [.ref 44, .ref 67, .ref 90, .int 0, .ref 113, .ref 114, .ref 115])))) (H113 : hp[113]? = some (.inl (4, f113))) (H119 : hp[119]? = some (.inr (.inr (3, [.int 0, .int 0, .int 0, .int 0, .int 0, .int 0, .int 0, .ref 120, .int 0, .int 0, .int 0])))) (H120 : hp[120]? = some (.inr (.inr (4, [.ref 121, .int 0, .int 15])))) (H122 : hp[122]? = some (.inr (.inr (8, [.ref 123, .int 0, .int 0, .int 0, .ref 124, .ref 125, .ref 126, .ref 127, .ref 128, .int 1, .ref 129, .ref 130, .int 0, .int 0, .ref 131, .ref 132, .ref 133, .ref 134, .int 0, .int 0, .int 0, .int 0, .int 0, .int 0, .int 0, .ref 135, .int 0, .ref 136, .int 0, .int 0, .int 0, .int 0, .ref 137, .int 0, .int 0, .int 0, .int 0, .ref 138, .int 0])))) (H123 : hp[123]? = some (.inl (96, f123))) (H125 : hp[125]? = some (.inl (9, f125))) (H127 : hp[127]? = some (.inl (772, f127))) (hf : ∀ j, j < 772 → f127 j = gS0 j) {w a1 a2 a3 a4 : Int32} (ea1 : xs0 1 = a1) (ea2 : xs0 2 = a2) (ea3 : xs0 3 = a3) (ea4 : xs0 4 = a4) : gG X 39 [some (.float 0), some (.ref 0), some (.ref 122), some (.ref 139), some (.int 0), none, none] [.int w] hp 1000 500000 := by
  by_cases c_39_0 : w = 0
  · subst c_39_0
    refine g_tableIn (off := 85) (t := 124) C dL_law_39 (by decide) (by decide) (by decide) (by decide) ?_
    refine g_aload_n (q := 125) C dL_law_124 rfl rfl ?_
    refine g_aloadS_n (q := 126) C dL_law_125 rfl rfl ?_
    refine g_iload (q := 128) C dL_law_126 rfl rfl ?_
    refine g_iconst (v := 1) (q := 129) C dL_law_128 (by decide) rfl ?_
    refine g_iadd (q := 130) C dL_law_129 rfl ?_
    refine g_sldN (j := 1) (x := a1) (q := 131) C hX hbl hb0 dL_law_130 rfl (by decide) (by decide) (by decide) ea1 ?_
    refine g_i2l (q := 132) C dL_law_131 rfl ?_
    refine g_bipush (v := 32) (q := 134) C dL_law_132 (by decide) rfl ?_
    refine g_lshl (q := 135) C dL_law_134 rfl ?_
    refine g_aloadS_n (q := 136) C dL_law_135 rfl rfl ?_
    refine g_iload (q := 138) C dL_law_136 rfl rfl ?_
    refine g_iconst (v := 2) (q := 139) C dL_law_138 (by decide) rfl ?_
    refine g_iadd (q := 140) C dL_law_139 rfl ?_
    refine g_sldN (j := 2) (x := a2) (q := 141) C hX hbl hb0 dL_law_140 rfl (by decide) (by decide) (by decide) ea2 ?_
    refine g_i2l (q := 142) C dL_law_141 rfl ?_
    refine g_ldc2 (q := 145) C t_1514 dL_law_142 rfl ?_
    refine g_land (q := 146) C dL_law_145 rfl ?_
    refine g_lor (q := 147) C dL_law_146 rfl ?_
    refine g_aloadS_n (q := 148) C dL_law_147 rfl rfl ?_
    refine g_iload (q := 150) C dL_law_148 rfl rfl ?_
    refine g_iconst (v := 3) (q := 151) C dL_law_150 (by decide) rfl ?_
    refine g_iadd (q := 152) C dL_law_151 rfl ?_
    refine g_sldN (j := 3) (x := a3) (q := 153) C hX hbl hb0 dL_law_152 rfl (by decide) (by decide) (by decide) ea3 ?_
    refine g_i2l (q := 154) C dL_law_153 rfl ?_
    refine g_bipush (v := 32) (q := 156) C dL_law_154 (by decide) rfl ?_
    refine g_lshl (q := 157) C dL_law_156 rfl ?_
    refine g_aloadS_n (q := 158) C dL_law_157 rfl rfl ?_
    refine g_iload (q := 160) C dL_law_158 rfl rfl ?_
    refine g_iconst (v := 4) (q := 161) C dL_law_160 (by decide) rfl ?_
    refine g_iadd (q := 162) C dL_law_161 rfl ?_
    refine g_sldN (j := 4) (x := a4) (q := 163) C hX hbl hb0 dL_law_162 rfl (by decide) (by decide) (by decide) ea4 ?_
    refine g_i2l (q := 164) C dL_law_163 rfl ?_
    refine g_ldc2 (q := 167) C t_1514 dL_law_164 rfl ?_
    refine g_land (q := 168) C dL_law_167 rfl ?_
    refine g_lor (q := 169) C dL_law_168 rfl ?_
    refine g_callVip (q := 172) (As := [.long _, .long _]) C gyX7_feed gvX7_feed t_459 (gM_ip (c_X7_feed_0 H0 H1 H2)) dL_law_169 rfl H0 rfl rfl rfl (Nat.le_of_ble_eq_true rfl) (Nat.le_of_ble_eq_true rfl) (Nat.le_of_ble_eq_true rfl) (Nat.le_of_ble_eq_true rfl) (Nat.le_of_ble_eq_true rfl) rfl (fun xa h9 za => ?_)
    obtain ⟨ea, fra⟩ := za
    have M122 := (fra 122 (by omega)).trans H122
    have M123 := (fra 123 (by omega)).trans H123
    have M125 := (fra 125 (by omega)).trans H125
    have M127 := (fra 127 (by omega)).trans H127
    refine g_aload_n (q := 173) C dL_law_172 rfl rfl ?_
    refine g_aloadS_n (q := 174) C dL_law_173 rfl rfl ?_
    refine g_iload (q := 176) C dL_law_174 rfl rfl ?_
    refine g_iconst (v := 1) (q := 177) C dL_law_176 (by decide) rfl ?_
    refine g_iadd (q := 178) C dL_law_177 rfl ?_
    refine g_sldN (j := 1) (x := a1) (q := 179) C hX hbl hb0 dL_law_178 rfl (by decide) (by decide) (by decide) ea1 ?_
    refine g_i2l (q := 180) C dL_law_179 rfl ?_
    refine g_bipush (v := 32) (q := 182) C dL_law_180 (by decide) rfl ?_
    refine g_lshl (q := 183) C dL_law_182 rfl ?_
    refine g_aloadS_n (q := 184) C dL_law_183 rfl rfl ?_
    refine g_iload (q := 186) C dL_law_184 rfl rfl ?_
    refine g_iconst (v := 2) (q := 187) C dL_law_186 (by decide) rfl ?_
    refine g_iadd (q := 188) C dL_law_187 rfl ?_
    refine g_sldN (j := 2) (x := a2) (q := 189) C hX hbl hb0 dL_law_188 rfl (by decide) (by decide) (by decide) ea2 ?_
    refine g_i2l (q := 190) C dL_law_189 rfl ?_
    refine g_ldc2 (q := 193) C t_1514 dL_law_190 rfl ?_
    refine g_land (q := 194) C dL_law_193 rfl ?_
    refine g_lor (q := 195) C dL_law_194 rfl ?_
    refine g_aloadS_n (q := 196) C dL_law_195 rfl rfl ?_
    refine g_iload (q := 198) C dL_law_196 rfl rfl ?_
    refine g_iconst (v := 3) (q := 199) C dL_law_198 (by decide) rfl ?_
    refine g_iadd (q := 200) C dL_law_199 rfl ?_
    refine g_sldN (j := 3) (x := a3) (q := 201) C hX hbl hb0 dL_law_200 rfl (by decide) (by decide) (by decide) ea3 ?_
    refine g_i2l (q := 202) C dL_law_201 rfl ?_
    refine g_bipush (v := 32) (q := 204) C dL_law_202 (by decide) rfl ?_
    refine g_lshl (q := 205) C dL_law_204 rfl ?_
    refine g_aloadS_n (q := 206) C dL_law_205 rfl rfl ?_
    refine g_iload (q := 208) C dL_law_206 rfl rfl ?_
    refine g_iconst (v := 4) (q := 209) C dL_law_208 (by decide) rfl ?_
    refine g_iadd (q := 210) C dL_law_209 rfl ?_
    refine g_sldN (j := 4) (x := a4) (q := 211) C hX hbl hb0 dL_law_210 rfl (by decide) (by decide) (by decide) ea4 ?_
    refine g_i2l (q := 212) C dL_law_211 rfl ?_
    refine g_ldc2 (q := 215) C t_1514 dL_law_212 rfl ?_
    refine g_land (q := 216) C dL_law_215 rfl ?_
    refine g_lor (q := 217) C dL_law_216 rfl ?_
    refine g_callVip (q := 220) (As := [.long _, .long _]) C gyX8_feed gvX8_feed t_1203 (gM_ip (c_X8_feed_0 M122 M123)) dL_law_217 rfl M122 rfl rfl rfl (Nat.le_of_ble_eq_true rfl) (Nat.le_of_ble_eq_true rfl) (Nat.le_of_ble_eq_true rfl) (Nat.le_of_ble_eq_true rfl) (Nat.le_of_ble_eq_true rfl) rfl (fun xb h8 zb => ?_)
    obtain ⟨eb, -⟩ := zb
    refine g_icmp_eq_t (t := 729) C dL_law_220 (by decide) (ea.trans eb.symm) ?_
    exact law_end C hX hbl hb0 hEnd (Nat.le_of_ble_eq_true rfl) (Nat.le_of_ble_eq_true rfl)
  by_cases c_39_1 : w = 1
  · subst c_39_1
    refine g_tableIn (off := 186) (t := 225) C dL_law_39 (by decide) (by decide) (by decide) (by decide) ?_
    refine g_aload_n (q := 226) C dL_law_225 rfl rfl ?_
    refine g_aloadS_n (q := 227) C dL_law_226 rfl rfl ?_
    refine g_iload (q := 229) C dL_law_227 rfl rfl ?_
    refine g_iconst (v := 1) (q := 230) C dL_law_229 (by decide) rfl ?_
    refine g_iadd (q := 231) C dL_law_230 rfl ?_
    refine g_sldN (j := 1) (x := a1) (q := 232) C hX hbl hb0 dL_law_231 rfl (by decide) (by decide) (by decide) ea1 ?_
    refine g_callVip (q := 235) (As := [.int a1]) C gyX7_end gvX7_end t_492 (gM_ip (c_X7_end_0 H0 H1)) dL_law_232 rfl H0 rfl rfl rfl (Nat.le_of_ble_eq_true rfl) (Nat.le_of_ble_eq_true rfl) (Nat.le_of_ble_eq_true rfl) (Nat.le_of_ble_eq_true rfl) (Nat.le_of_ble_eq_true rfl) rfl (fun xa h9 za => ?_)
    obtain ⟨ea, fra⟩ := za
    have M122 := (fra 122 (by omega)).trans H122
    have M123 := (fra 123 (by omega)).trans H123
    have M125 := (fra 125 (by omega)).trans H125
    have M127 := (fra 127 (by omega)).trans H127
    refine g_aload_n (q := 236) C dL_law_235 rfl rfl ?_
    refine g_aloadS_n (q := 237) C dL_law_236 rfl rfl ?_
    refine g_iload (q := 239) C dL_law_237 rfl rfl ?_
    refine g_iconst (v := 1) (q := 240) C dL_law_239 (by decide) rfl ?_
    refine g_iadd (q := 241) C dL_law_240 rfl ?_
    refine g_sldN (j := 1) (x := a1) (q := 242) C hX hbl hb0 dL_law_241 rfl (by decide) (by decide) (by decide) ea1 ?_
    refine g_callVip (q := 245) (As := [.int a1]) C gyX8_end gvX8_end t_1211 (gM_ip (c_X8_end_0 M122)) dL_law_242 rfl M122 rfl rfl rfl (Nat.le_of_ble_eq_true rfl) (Nat.le_of_ble_eq_true rfl) (Nat.le_of_ble_eq_true rfl) (Nat.le_of_ble_eq_true rfl) (Nat.le_of_ble_eq_true rfl) rfl (fun xb h8 zb => ?_)
    obtain ⟨eb, -⟩ := zb
    refine g_icmp_eq_t (t := 729) C dL_law_245 (by decide) (ea.trans eb.symm) ?_
    exact law_end C hX hbl hb0 hEnd (Nat.le_of_ble_eq_true rfl) (Nat.le_of_ble_eq_true rfl)
  by_cases c_39_2 : w = 2
  · subst c_39_2
    refine g_tableIn (off := 211) (t := 250) C dL_law_39 (by decide) (by decide) (by decide) (by decide) ?_
    refine g_aload_n (q := 251) C dL_law_250 rfl rfl ?_
    refine g_callVip (q := 254) (As := []) C gyX7_reset gvX7_reset t_500 (gM_ip (c_X7_reset_0 H0 H1 H119 H120)) dL_law_251 rfl H0 rfl rfl rfl (Nat.le_of_ble_eq_true rfl) (Nat.le_of_ble_eq_true rfl) (Nat.le_of_ble_eq_true rfl) (Nat.le_of_ble_eq_true rfl) (Nat.le_of_ble_eq_true rfl) rfl (fun xa h9 za => ?_)
    obtain ⟨ea, fra⟩ := za
    have M122 := (fra 122 (by omega)).trans H122
    have M123 := (fra 123 (by omega)).trans H123
    have M125 := (fra 125 (by omega)).trans H125
    have M127 := (fra 127 (by omega)).trans H127
    refine g_aload_n (q := 255) C dL_law_254 rfl rfl ?_
    refine g_callVip (q := 258) (As := []) C gyX8_reset gvX8_reset t_1218 (gM_ip (c_X8_reset_0 M122 M125)) dL_law_255 rfl M122 rfl rfl rfl (Nat.le_of_ble_eq_true rfl) (Nat.le_of_ble_eq_true rfl) (Nat.le_of_ble_eq_true rfl) (Nat.le_of_ble_eq_true rfl) (Nat.le_of_ble_eq_true rfl) rfl (fun xb h8 zb => ?_)
    obtain ⟨eb, -⟩ := zb
    refine g_icmp_eq_t (t := 729) C dL_law_258 (by decide) (ea.trans eb.symm) ?_
    exact law_end C hX hbl hb0 hEnd (Nat.le_of_ble_eq_true rfl) (Nat.le_of_ble_eq_true rfl)
  by_cases c_39_3 : w = 3
  · subst c_39_3
    refine g_tableIn (off := 224) (t := 263) C dL_law_39 (by decide) (by decide) (by decide) (by decide) ?_
    refine g_aload_n (q := 264) C dL_law_263 rfl rfl ?_
    refine g_aloadS_n (q := 265) C dL_law_264 rfl rfl ?_
    refine g_iload (q := 267) C dL_law_265 rfl rfl ?_
    refine g_iconst (v := 1) (q := 268) C dL_law_267 (by decide) rfl ?_
    refine g_iadd (q := 269) C dL_law_268 rfl ?_
    refine g_sldN (j := 1) (x := a1) (q := 270) C hX hbl hb0 dL_law_269 rfl (by decide) (by decide) (by decide) ea1 ?_
    refine g_callVip (q := 273) (As := [.int a1]) C gyX7_answer gvX7_answer t_598 (gM_ip (c_X7_answer_0 H0)) dL_law_270 rfl H0 rfl rfl rfl (Nat.le_of_ble_eq_true rfl) (Nat.le_of_ble_eq_true rfl) (Nat.le_of_ble_eq_true rfl) (Nat.le_of_ble_eq_true rfl) (Nat.le_of_ble_eq_true rfl) rfl (fun xa h9 za => ?_)
    obtain ⟨ea, fra⟩ := za
    have M122 := (fra 122 (by omega)).trans H122
    have M123 := (fra 123 (by omega)).trans H123
    have M125 := (fra 125 (by omega)).trans H125
    have M127 := (fra 127 (by omega)).trans H127
    refine g_aload_n (q := 274) C dL_law_273 rfl rfl ?_
    refine g_aloadS_n (q := 275) C dL_law_274 rfl rfl ?_
    refine g_iload (q := 277) C dL_law_275 rfl rfl ?_
    refine g_iconst (v := 1) (q := 278) C dL_law_277 (by decide) rfl ?_
    refine g_iadd (q := 279) C dL_law_278 rfl ?_
    refine g_sldN (j := 1) (x := a1) (q := 280) C hX hbl hb0 dL_law_279 rfl (by decide) (by decide) (by decide) ea1 ?_
    refine g_callVip (q := 283) (As := [.int a1]) C gyX8_answer gvX8_answer t_1256 (gM_ip (c_X8_answer_0 M122)) dL_law_280 rfl M122 rfl rfl rfl (Nat.le_of_ble_eq_true rfl) (Nat.le_of_ble_eq_true rfl) (Nat.le_of_ble_eq_true rfl) (Nat.le_of_ble_eq_true rfl) (Nat.le_of_ble_eq_true rfl) rfl (fun xb h8 zb => ?_)
    obtain ⟨eb, -⟩ := zb
    refine g_icmp_eq_t (t := 729) C dL_law_283 (by decide) (ea.trans eb.symm) ?_
    exact law_end C hX hbl hb0 hEnd (Nat.le_of_ble_eq_true rfl) (Nat.le_of_ble_eq_true rfl)
  by_cases c_39_4 : w = 4
  · subst c_39_4
    refine g_tableIn (off := 249) (t := 288) C dL_law_39 (by decide) (by decide) (by decide) (by decide) ?_
    refine g_aload_n (q := 289) C dL_law_288 rfl rfl ?_
    refine g_aloadS_n (q := 290) C dL_law_289 rfl rfl ?_
    refine g_iload (q := 292) C dL_law_290 rfl rfl ?_
    refine g_iconst (v := 1) (q := 293) C dL_law_292 (by decide) rfl ?_
    refine g_iadd (q := 294) C dL_law_293 rfl ?_
    refine g_sldN (j := 1) (x := a1) (q := 295) C hX hbl hb0 dL_law_294 rfl (by decide) (by decide) (by decide) ea1 ?_
    refine g_callVip (q := 298) (As := [.int a1]) C gyX7_historical gvX7_historical t_606 (gM_ip (c_X7_historical_0 H0)) dL_law_295 rfl H0 rfl rfl rfl (Nat.le_of_ble_eq_true rfl) (Nat.le_of_ble_eq_true rfl) (Nat.le_of_ble_eq_true rfl) (Nat.le_of_ble_eq_true rfl) (Nat.le_of_ble_eq_true rfl) rfl (fun xa h9 za => ?_)
    obtain ⟨ea, fra⟩ := za
    have M122 := (fra 122 (by omega)).trans H122
    have M123 := (fra 123 (by omega)).trans H123
    have M125 := (fra 125 (by omega)).trans H125
    have M127 := (fra 127 (by omega)).trans H127
    refine g_aload_n (q := 299) C dL_law_298 rfl rfl ?_
    refine g_aloadS_n (q := 300) C dL_law_299 rfl rfl ?_
    refine g_iload (q := 302) C dL_law_300 rfl rfl ?_
    refine g_iconst (v := 1) (q := 303) C dL_law_302 (by decide) rfl ?_
    refine g_iadd (q := 304) C dL_law_303 rfl ?_
    refine g_sldN (j := 1) (x := a1) (q := 305) C hX hbl hb0 dL_law_304 rfl (by decide) (by decide) (by decide) ea1 ?_
    refine g_callVip (q := 308) (As := [.int a1]) C gyX8_historical gvX8_historical t_1260 (gM_ip (c_X8_historical_0 M122)) dL_law_305 rfl M122 rfl rfl rfl (Nat.le_of_ble_eq_true rfl) (Nat.le_of_ble_eq_true rfl) (Nat.le_of_ble_eq_true rfl) (Nat.le_of_ble_eq_true rfl) (Nat.le_of_ble_eq_true rfl) rfl (fun xb h8 zb => ?_)
    obtain ⟨eb, -⟩ := zb
    refine g_icmp_eq_t (t := 729) C dL_law_308 (by decide) (ea.trans eb.symm) ?_
    exact law_end C hX hbl hb0 hEnd (Nat.le_of_ble_eq_true rfl) (Nat.le_of_ble_eq_true rfl)
  by_cases c_39_5 : w = 5
  · subst c_39_5
    refine g_tableIn (off := 274) (t := 313) C dL_law_39 (by decide) (by decide) (by decide) (by decide) ?_
    refine g_aload_n (q := 314) C dL_law_313 rfl rfl ?_
    refine g_callVip (q := 317) (As := []) C gyX7_message gvX7_message t_614 (gM_ip (c_X7_message_0 H0 H1)) dL_law_314 rfl H0 rfl rfl rfl (Nat.le_of_ble_eq_true rfl) (Nat.le_of_ble_eq_true rfl) (Nat.le_of_ble_eq_true rfl) (Nat.le_of_ble_eq_true rfl) (Nat.le_of_ble_eq_true rfl) rfl (fun xa h9 za => ?_)
    obtain ⟨ea, fra⟩ := za
    have M122 := (fra 122 (by omega)).trans H122
    have M123 := (fra 123 (by omega)).trans H123
    have M125 := (fra 125 (by omega)).trans H125
    have M127 := (fra 127 (by omega)).trans H127
    refine g_aload_n (q := 318) C dL_law_317 rfl rfl ?_
    refine g_callVip (q := 321) (As := []) C gyX8_message gvX8_message t_1264 (gM_ip (c_X8_message_0 M122)) dL_law_318 rfl M122 rfl rfl rfl (Nat.le_of_ble_eq_true rfl) (Nat.le_of_ble_eq_true rfl) (Nat.le_of_ble_eq_true rfl) (Nat.le_of_ble_eq_true rfl) (Nat.le_of_ble_eq_true rfl) rfl (fun xb h8 zb => ?_)
    obtain ⟨eb, -⟩ := zb
    refine g_icmp_eq_t (t := 729) C dL_law_321 (by decide) (ea.trans eb.symm) ?_
    exact law_end C hX hbl hb0 hEnd (Nat.le_of_ble_eq_true rfl) (Nat.le_of_ble_eq_true rfl)
  by_cases c_39_6 : w = 6
  · subst c_39_6
    refine g_tableIn (off := 287) (t := 326) C dL_law_39 (by decide) (by decide) (by decide) (by decide) ?_
    refine g_aload_n (q := 327) C dL_law_326 rfl rfl ?_
    refine g_aloadS_n (q := 328) C dL_law_327 rfl rfl ?_
    refine g_iload (q := 330) C dL_law_328 rfl rfl ?_
    refine g_iconst (v := 1) (q := 331) C dL_law_330 (by decide) rfl ?_
    refine g_iadd (q := 332) C dL_law_331 rfl ?_
    refine g_sldN (j := 1) (x := a1) (q := 333) C hX hbl hb0 dL_law_332 rfl (by decide) (by decide) (by decide) ea1 ?_
    refine g_callVip (q := 336) (As := [.int a1]) C gyX7_room gvX7_room t_640 (gM_ip (c_X7_room_0 H0)) dL_law_333 rfl H0 rfl rfl rfl (Nat.le_of_ble_eq_true rfl) (Nat.le_of_ble_eq_true rfl) (Nat.le_of_ble_eq_true rfl) (Nat.le_of_ble_eq_true rfl) (Nat.le_of_ble_eq_true rfl) rfl (fun xa h9 za => ?_)
    obtain ⟨ea, fra⟩ := za
    have M122 := (fra 122 (by omega)).trans H122
    have M123 := (fra 123 (by omega)).trans H123
    have M125 := (fra 125 (by omega)).trans H125
    have M127 := (fra 127 (by omega)).trans H127
    refine g_aload_n (q := 337) C dL_law_336 rfl rfl ?_
    refine g_aloadS_n (q := 338) C dL_law_337 rfl rfl ?_
    refine g_iload (q := 340) C dL_law_338 rfl rfl ?_
    refine g_iconst (v := 1) (q := 341) C dL_law_340 (by decide) rfl ?_
    refine g_iadd (q := 342) C dL_law_341 rfl ?_
    refine g_sldN (j := 1) (x := a1) (q := 343) C hX hbl hb0 dL_law_342 rfl (by decide) (by decide) (by decide) ea1 ?_
    refine g_callVip (q := 346) (As := [.int a1]) C gyX8_room gvX8_room t_1276 (gM_ip (c_X8_room_0 M122)) dL_law_343 rfl M122 rfl rfl rfl (Nat.le_of_ble_eq_true rfl) (Nat.le_of_ble_eq_true rfl) (Nat.le_of_ble_eq_true rfl) (Nat.le_of_ble_eq_true rfl) (Nat.le_of_ble_eq_true rfl) rfl (fun xb h8 zb => ?_)
    obtain ⟨eb, -⟩ := zb
    refine g_icmp_eq_t (t := 729) C dL_law_346 (by decide) (ea.trans eb.symm) ?_
    exact law_end C hX hbl hb0 hEnd (Nat.le_of_ble_eq_true rfl) (Nat.le_of_ble_eq_true rfl)
  by_cases c_39_7 : w = 7
  · subst c_39_7
    refine g_tableIn (off := 312) (t := 351) C dL_law_39 (by decide) (by decide) (by decide) (by decide) ?_
    refine g_aload_n (q := 352) C dL_law_351 rfl rfl ?_
    refine g_aloadS_n (q := 353) C dL_law_352 rfl rfl ?_
    refine g_iload (q := 355) C dL_law_353 rfl rfl ?_
    refine g_iconst (v := 1) (q := 356) C dL_law_355 (by decide) rfl ?_
    refine g_iadd (q := 357) C dL_law_356 rfl ?_
    refine g_sldN (j := 1) (x := a1) (q := 358) C hX hbl hb0 dL_law_357 rfl (by decide) (by decide) (by decide) ea1 ?_
    refine g_aloadS_n (q := 359) C dL_law_358 rfl rfl ?_
    refine g_iload (q := 361) C dL_law_359 rfl rfl ?_
    refine g_iconst (v := 2) (q := 362) C dL_law_361 (by decide) rfl ?_
    refine g_iadd (q := 363) C dL_law_362 rfl ?_
    refine g_sldN (j := 2) (x := a2) (q := 364) C hX hbl hb0 dL_law_363 rfl (by decide) (by decide) (by decide) ea2 ?_
    refine g_aloadS_n (q := 365) C dL_law_364 rfl rfl ?_
    refine g_iload (q := 367) C dL_law_365 rfl rfl ?_
    refine g_iconst (v := 3) (q := 368) C dL_law_367 (by decide) rfl ?_
    refine g_iadd (q := 369) C dL_law_368 rfl ?_
    refine g_sldN (j := 3) (x := a3) (q := 370) C hX hbl hb0 dL_law_369 rfl (by decide) (by decide) (by decide) ea3 ?_
    refine g_callVip (q := 373) (As := [.int a1, .int a2, .int a3]) C gyX7_fault gvX7_fault t_648 (gM_ip (c_X7_fault_0 H0)) dL_law_370 rfl H0 rfl rfl rfl (Nat.le_of_ble_eq_true rfl) (Nat.le_of_ble_eq_true rfl) (Nat.le_of_ble_eq_true rfl) (Nat.le_of_ble_eq_true rfl) (Nat.le_of_ble_eq_true rfl) rfl (fun xa h9 za => ?_)
    obtain ⟨ea, fra⟩ := za
    have M122 := (fra 122 (by omega)).trans H122
    have M123 := (fra 123 (by omega)).trans H123
    have M125 := (fra 125 (by omega)).trans H125
    have M127 := (fra 127 (by omega)).trans H127
    refine g_aload_n (q := 374) C dL_law_373 rfl rfl ?_
    refine g_aloadS_n (q := 375) C dL_law_374 rfl rfl ?_
    refine g_iload (q := 377) C dL_law_375 rfl rfl ?_
    refine g_iconst (v := 1) (q := 378) C dL_law_377 (by decide) rfl ?_
    refine g_iadd (q := 379) C dL_law_378 rfl ?_
    refine g_sldN (j := 1) (x := a1) (q := 380) C hX hbl hb0 dL_law_379 rfl (by decide) (by decide) (by decide) ea1 ?_
    refine g_aloadS_n (q := 381) C dL_law_380 rfl rfl ?_
    refine g_iload (q := 383) C dL_law_381 rfl rfl ?_
    refine g_iconst (v := 2) (q := 384) C dL_law_383 (by decide) rfl ?_
    refine g_iadd (q := 385) C dL_law_384 rfl ?_
    refine g_sldN (j := 2) (x := a2) (q := 386) C hX hbl hb0 dL_law_385 rfl (by decide) (by decide) (by decide) ea2 ?_
    refine g_aloadS_n (q := 387) C dL_law_386 rfl rfl ?_
    refine g_iload (q := 389) C dL_law_387 rfl rfl ?_
    refine g_iconst (v := 3) (q := 390) C dL_law_389 (by decide) rfl ?_
    refine g_iadd (q := 391) C dL_law_390 rfl ?_
    refine g_sldN (j := 3) (x := a3) (q := 392) C hX hbl hb0 dL_law_391 rfl (by decide) (by decide) (by decide) ea3 ?_
    refine g_callVip (q := 395) (As := [.int a1, .int a2, .int a3]) C gyX8_fault gvX8_fault t_1280 (gM_ip (c_X8_fault_0 M122)) dL_law_392 rfl M122 rfl rfl rfl (Nat.le_of_ble_eq_true rfl) (Nat.le_of_ble_eq_true rfl) (Nat.le_of_ble_eq_true rfl) (Nat.le_of_ble_eq_true rfl) (Nat.le_of_ble_eq_true rfl) rfl (fun xb h8 zb => ?_)
    obtain ⟨eb, -⟩ := zb
    refine g_icmp_eq_t (t := 729) C dL_law_395 (by decide) (ea.trans eb.symm) ?_
    exact law_end C hX hbl hb0 hEnd (Nat.le_of_ble_eq_true rfl) (Nat.le_of_ble_eq_true rfl)
  by_cases c_39_8 : w = 8
  · subst c_39_8
    refine g_tableIn (off := 361) (t := 400) C dL_law_39 (by decide) (by decide) (by decide) (by decide) ?_
    refine g_aload_n (q := 401) C dL_law_400 rfl rfl ?_
    refine g_aloadS_n (q := 402) C dL_law_401 rfl rfl ?_
    refine g_iload (q := 404) C dL_law_402 rfl rfl ?_
    refine g_iconst (v := 1) (q := 405) C dL_law_404 (by decide) rfl ?_
    refine g_iadd (q := 406) C dL_law_405 rfl ?_
    refine g_sldN (j := 1) (x := a1) (q := 407) C hX hbl hb0 dL_law_406 rfl (by decide) (by decide) (by decide) ea1 ?_
    refine g_callVip (q := 410) (As := [.int a1]) C gyX7_repeats gvX7_repeats t_669 (gM_ip (c_X7_repeats_0 H0 H20 H35 H43 H113)) dL_law_407 rfl H0 rfl rfl rfl (Nat.le_of_ble_eq_true rfl) (Nat.le_of_ble_eq_true rfl) (Nat.le_of_ble_eq_true rfl) (Nat.le_of_ble_eq_true rfl) (Nat.le_of_ble_eq_true rfl) rfl (fun xa h9 za => ?_)
    obtain ⟨ea, fra⟩ := za
    have M122 := (fra 122 (by omega)).trans H122
    have M123 := (fra 123 (by omega)).trans H123
    have M125 := (fra 125 (by omega)).trans H125
    have M127 := (fra 127 (by omega)).trans H127
    refine g_aload_n (q := 411) C dL_law_410 rfl rfl ?_
    refine g_aloadS_n (q := 412) C dL_law_411 rfl rfl ?_
    refine g_iload (q := 414) C dL_law_412 rfl rfl ?_
    refine g_iconst (v := 1) (q := 415) C dL_law_414 (by decide) rfl ?_
    refine g_iadd (q := 416) C dL_law_415 rfl ?_
    refine g_sldN (j := 1) (x := a1) (q := 417) C hX hbl hb0 dL_law_416 rfl (by decide) (by decide) (by decide) ea1 ?_
    refine g_callVip (q := 420) (As := [.int a1]) C gyX8_repeats gvX8_repeats t_1296 (gM_ip (c_X8_repeats_0 M122)) dL_law_417 rfl M122 rfl rfl rfl (Nat.le_of_ble_eq_true rfl) (Nat.le_of_ble_eq_true rfl) (Nat.le_of_ble_eq_true rfl) (Nat.le_of_ble_eq_true rfl) (Nat.le_of_ble_eq_true rfl) rfl (fun xb h8 zb => ?_)
    obtain ⟨eb, -⟩ := zb
    refine g_icmp_eq_t (t := 729) C dL_law_420 (by decide) (ea.trans eb.symm) ?_
    exact law_end C hX hbl hb0 hEnd (Nat.le_of_ble_eq_true rfl) (Nat.le_of_ble_eq_true rfl)
  by_cases c_39_9 : w = 9
  · subst c_39_9
    refine g_tableIn (off := 386) (t := 425) C dL_law_39 (by decide) (by decide) (by decide) (by decide) ?_
    refine g_aload_n (q := 426) C dL_law_425 rfl rfl ?_
    refine g_aloadS_n (q := 427) C dL_law_426 rfl rfl ?_
    refine g_iload (q := 429) C dL_law_427 rfl rfl ?_
    refine g_iconst (v := 1) (q := 430) C dL_law_429 (by decide) rfl ?_
    refine g_iadd (q := 431) C dL_law_430 rfl ?_
    refine g_sldN (j := 1) (x := a1) (q := 432) C hX hbl hb0 dL_law_431 rfl (by decide) (by decide) (by decide) ea1 ?_
    refine g_callVip (q := 435) (As := [.int a1]) C gyX7_step gvX7_step t_673 (gM_ip (c_X7_step_0 H0)) dL_law_432 rfl H0 rfl rfl rfl (Nat.le_of_ble_eq_true rfl) (Nat.le_of_ble_eq_true rfl) (Nat.le_of_ble_eq_true rfl) (Nat.le_of_ble_eq_true rfl) (Nat.le_of_ble_eq_true rfl) rfl (fun xa h9 za => ?_)
    obtain ⟨ea, fra⟩ := za
    have M122 := (fra 122 (by omega)).trans H122
    have M123 := (fra 123 (by omega)).trans H123
    have M125 := (fra 125 (by omega)).trans H125
    have M127 := (fra 127 (by omega)).trans H127
    refine g_aload_n (q := 436) C dL_law_435 rfl rfl ?_
    refine g_aloadS_n (q := 437) C dL_law_436 rfl rfl ?_
    refine g_iload (q := 439) C dL_law_437 rfl rfl ?_
    refine g_iconst (v := 1) (q := 440) C dL_law_439 (by decide) rfl ?_
    refine g_iadd (q := 441) C dL_law_440 rfl ?_
    refine g_sldN (j := 1) (x := a1) (q := 442) C hX hbl hb0 dL_law_441 rfl (by decide) (by decide) (by decide) ea1 ?_
    refine g_callVip (q := 445) (As := [.int a1]) C gyX8_step gvX8_step t_1300 (gM_ip (c_X8_step_0 M122)) dL_law_442 rfl M122 rfl rfl rfl (Nat.le_of_ble_eq_true rfl) (Nat.le_of_ble_eq_true rfl) (Nat.le_of_ble_eq_true rfl) (Nat.le_of_ble_eq_true rfl) (Nat.le_of_ble_eq_true rfl) rfl (fun xb h8 zb => ?_)
    obtain ⟨eb, -⟩ := zb
    refine g_icmp_eq_t (t := 729) C dL_law_445 (by decide) (ea.trans eb.symm) ?_
    exact law_end C hX hbl hb0 hEnd (Nat.le_of_ble_eq_true rfl) (Nat.le_of_ble_eq_true rfl)
  by_cases c_39_10 : w = 10
  · subst c_39_10
    refine g_tableIn (off := 411) (t := 450) C dL_law_39 (by decide) (by decide) (by decide) (by decide) ?_
    refine g_aload_n (q := 451) C dL_law_450 rfl rfl ?_
    refine g_callVip (q := 454) (As := []) C gyX7_state gvX7_state t_902 (gM_ip (c_X7_state_0 H0)) dL_law_451 rfl H0 rfl rfl rfl (Nat.le_of_ble_eq_true rfl) (Nat.le_of_ble_eq_true rfl) (Nat.le_of_ble_eq_true rfl) (Nat.le_of_ble_eq_true rfl) (Nat.le_of_ble_eq_true rfl) rfl (fun xa h9 za => ?_)
    obtain ⟨ea, fra⟩ := za
    have M122 := (fra 122 (by omega)).trans H122
    have M123 := (fra 123 (by omega)).trans H123
    have M125 := (fra 125 (by omega)).trans H125
    have M127 := (fra 127 (by omega)).trans H127
    refine g_aload_n (q := 455) C dL_law_454 rfl rfl ?_
    refine g_callVip (q := 458) (As := []) C gyX8_state gvX8_state t_1456 (gM_ip (c_X8_state_0 M122)) dL_law_455 rfl M122 rfl rfl rfl (Nat.le_of_ble_eq_true rfl) (Nat.le_of_ble_eq_true rfl) (Nat.le_of_ble_eq_true rfl) (Nat.le_of_ble_eq_true rfl) (Nat.le_of_ble_eq_true rfl) rfl (fun xb h8 zb => ?_)
    obtain ⟨eb, -⟩ := zb
    refine g_icmp_eq_t (t := 729) C dL_law_458 (by decide) (ea.trans eb.symm) ?_
    exact law_end C hX hbl hb0 hEnd (Nat.le_of_ble_eq_true rfl) (Nat.le_of_ble_eq_true rfl)
  by_cases c_39_11 : w = 11
  · subst c_39_11
    refine g_tableIn (off := 424) (t := 463) C dL_law_39 (by decide) (by decide) (by decide) (by decide) ?_
    refine g_aload_n (q := 464) C dL_law_463 rfl rfl ?_
    refine g_aloadS_n (q := 465) C dL_law_464 rfl rfl ?_
    refine g_iload (q := 467) C dL_law_465 rfl rfl ?_
    refine g_iconst (v := 1) (q := 468) C dL_law_467 (by decide) rfl ?_
    refine g_iadd (q := 469) C dL_law_468 rfl ?_
    refine g_sldN (j := 1) (x := a1) (q := 470) C hX hbl hb0 dL_law_469 rfl (by decide) (by decide) (by decide) ea1 ?_
    refine g_aloadS_n (q := 471) C dL_law_470 rfl rfl ?_
    refine g_iload (q := 473) C dL_law_471 rfl rfl ?_
    refine g_iconst (v := 2) (q := 474) C dL_law_473 (by decide) rfl ?_
    refine g_iadd (q := 475) C dL_law_474 rfl ?_
    refine g_sldN (j := 2) (x := a2) (q := 476) C hX hbl hb0 dL_law_475 rfl (by decide) (by decide) (by decide) ea2 ?_
    refine g_callVip (q := 479) (As := [.int a1, .int a2]) C gyX7_side gvX7_side t_906 (gM_ip (c_X7_side_0 H0)) dL_law_476 rfl H0 rfl rfl rfl (Nat.le_of_ble_eq_true rfl) (Nat.le_of_ble_eq_true rfl) (Nat.le_of_ble_eq_true rfl) (Nat.le_of_ble_eq_true rfl) (Nat.le_of_ble_eq_true rfl) rfl (fun xa h9 za => ?_)
    obtain ⟨ea, fra⟩ := za
    have M122 := (fra 122 (by omega)).trans H122
    have M123 := (fra 123 (by omega)).trans H123
    have M125 := (fra 125 (by omega)).trans H125
    have M127 := (fra 127 (by omega)).trans H127
    refine g_aload_n (q := 480) C dL_law_479 rfl rfl ?_
    refine g_aloadS_n (q := 481) C dL_law_480 rfl rfl ?_
    refine g_iload (q := 483) C dL_law_481 rfl rfl ?_
    refine g_iconst (v := 1) (q := 484) C dL_law_483 (by decide) rfl ?_
    refine g_iadd (q := 485) C dL_law_484 rfl ?_
    refine g_sldN (j := 1) (x := a1) (q := 486) C hX hbl hb0 dL_law_485 rfl (by decide) (by decide) (by decide) ea1 ?_
    refine g_aloadS_n (q := 487) C dL_law_486 rfl rfl ?_
    refine g_iload (q := 489) C dL_law_487 rfl rfl ?_
    refine g_iconst (v := 2) (q := 490) C dL_law_489 (by decide) rfl ?_
    refine g_iadd (q := 491) C dL_law_490 rfl ?_
    refine g_sldN (j := 2) (x := a2) (q := 492) C hX hbl hb0 dL_law_491 rfl (by decide) (by decide) (by decide) ea2 ?_
    refine g_callVip (q := 495) (As := [.int a1, .int a2]) C gyX8_side gvX8_side t_1460 (gM_ip (c_X8_side_0 M122)) dL_law_492 rfl M122 rfl rfl rfl (Nat.le_of_ble_eq_true rfl) (Nat.le_of_ble_eq_true rfl) (Nat.le_of_ble_eq_true rfl) (Nat.le_of_ble_eq_true rfl) (Nat.le_of_ble_eq_true rfl) rfl (fun xb h8 zb => ?_)
    obtain ⟨eb, -⟩ := zb
    refine g_icmp_eq_t (t := 729) C dL_law_495 (by decide) (ea.trans eb.symm) ?_
    exact law_end C hX hbl hb0 hEnd (Nat.le_of_ble_eq_true rfl) (Nat.le_of_ble_eq_true rfl)
  by_cases c_39_12 : w = 12
  · subst c_39_12
    refine g_tableIn (off := 461) (t := 500) C dL_law_39 (by decide) (by decide) (by decide) (by decide) ?_
    refine g_aload_n (q := 501) C dL_law_500 rfl rfl ?_
    refine g_aloadS_n (q := 502) C dL_law_501 rfl rfl ?_
    refine g_iload (q := 504) C dL_law_502 rfl rfl ?_
    refine g_iconst (v := 1) (q := 505) C dL_law_504 (by decide) rfl ?_
    refine g_iadd (q := 506) C dL_law_505 rfl ?_
    refine g_sldN (j := 1) (x := a1) (q := 507) C hX hbl hb0 dL_law_506 rfl (by decide) (by decide) (by decide) ea1 ?_
    refine g_aloadS_n (q := 508) C dL_law_507 rfl rfl ?_
    refine g_iload (q := 510) C dL_law_508 rfl rfl ?_
    refine g_iconst (v := 2) (q := 511) C dL_law_510 (by decide) rfl ?_
    refine g_iadd (q := 512) C dL_law_511 rfl ?_
    refine g_sldN (j := 2) (x := a2) (q := 513) C hX hbl hb0 dL_law_512 rfl (by decide) (by decide) (by decide) ea2 ?_
    refine g_callVip (q := 516) (As := [.int a1, .int a2]) C gyX7_got gvX7_got t_918 (gM_ip (c_X7_got_0 H0)) dL_law_513 rfl H0 rfl rfl rfl (Nat.le_of_ble_eq_true rfl) (Nat.le_of_ble_eq_true rfl) (Nat.le_of_ble_eq_true rfl) (Nat.le_of_ble_eq_true rfl) (Nat.le_of_ble_eq_true rfl) rfl (fun xa h9 za => ?_)
    obtain ⟨ea, fra⟩ := za
    have M122 := (fra 122 (by omega)).trans H122
    have M123 := (fra 123 (by omega)).trans H123
    have M125 := (fra 125 (by omega)).trans H125
    have M127 := (fra 127 (by omega)).trans H127
    refine g_aload_n (q := 517) C dL_law_516 rfl rfl ?_
    refine g_aloadS_n (q := 518) C dL_law_517 rfl rfl ?_
    refine g_iload (q := 520) C dL_law_518 rfl rfl ?_
    refine g_iconst (v := 1) (q := 521) C dL_law_520 (by decide) rfl ?_
    refine g_iadd (q := 522) C dL_law_521 rfl ?_
    refine g_sldN (j := 1) (x := a1) (q := 523) C hX hbl hb0 dL_law_522 rfl (by decide) (by decide) (by decide) ea1 ?_
    refine g_aloadS_n (q := 524) C dL_law_523 rfl rfl ?_
    refine g_iload (q := 526) C dL_law_524 rfl rfl ?_
    refine g_iconst (v := 2) (q := 527) C dL_law_526 (by decide) rfl ?_
    refine g_iadd (q := 528) C dL_law_527 rfl ?_
    refine g_sldN (j := 2) (x := a2) (q := 529) C hX hbl hb0 dL_law_528 rfl (by decide) (by decide) (by decide) ea2 ?_
    refine g_callVip (q := 532) (As := [.int a1, .int a2]) C gyX8_got gvX8_got t_1466 (gM_ip (c_X8_got_0 M122)) dL_law_529 rfl M122 rfl rfl rfl (Nat.le_of_ble_eq_true rfl) (Nat.le_of_ble_eq_true rfl) (Nat.le_of_ble_eq_true rfl) (Nat.le_of_ble_eq_true rfl) (Nat.le_of_ble_eq_true rfl) rfl (fun xb h8 zb => ?_)
    obtain ⟨eb, -⟩ := zb
    refine g_icmp_eq_t (t := 729) C dL_law_532 (by decide) (ea.trans eb.symm) ?_
    exact law_end C hX hbl hb0 hEnd (Nat.le_of_ble_eq_true rfl) (Nat.le_of_ble_eq_true rfl)
  by_cases c_39_13 : w = 13
  · subst c_39_13
    refine g_tableIn (off := 498) (t := 537) C dL_law_39 (by decide) (by decide) (by decide) (by decide) ?_
    refine g_aload_n (q := 538) C dL_law_537 rfl rfl ?_
    refine g_aloadS_n (q := 539) C dL_law_538 rfl rfl ?_
    refine g_iload (q := 541) C dL_law_539 rfl rfl ?_
    refine g_iconst (v := 1) (q := 542) C dL_law_541 (by decide) rfl ?_
    refine g_iadd (q := 543) C dL_law_542 rfl ?_
    refine g_sldN (j := 1) (x := a1) (q := 544) C hX hbl hb0 dL_law_543 rfl (by decide) (by decide) (by decide) ea1 ?_
    refine g_aloadS_n (q := 545) C dL_law_544 rfl rfl ?_
    refine g_iload (q := 547) C dL_law_545 rfl rfl ?_
    refine g_iconst (v := 2) (q := 548) C dL_law_547 (by decide) rfl ?_
    refine g_iadd (q := 549) C dL_law_548 rfl ?_
    refine g_sldN (j := 2) (x := a2) (q := 550) C hX hbl hb0 dL_law_549 rfl (by decide) (by decide) (by decide) ea2 ?_
    refine g_aload_n (q := 551) C dL_law_550 rfl rfl ?_
    refine g_callLog (q := 554) C htr hDk H0 H3 H14 dL_law_551 rfl rfl (Nat.le_of_ble_eq_true rfl) (Nat.le_of_ble_eq_true rfl) (Nat.le_of_ble_eq_true rfl) (Nat.le_of_ble_eq_true rfl) (Nat.le_of_ble_eq_true rfl) (fun j => ?_)
    refine g_istore (q := 556) C dL_law_554 (Nat.le_of_ble_eq_true rfl) (by simp only [gset]; rfl) rfl ?_
    refine g_aload_n (q := 557) C dL_law_556 rfl rfl ?_
    refine g_aloadS_n (q := 558) C dL_law_557 rfl rfl ?_
    refine g_iload (q := 560) C dL_law_558 rfl rfl ?_
    refine g_iconst (v := 1) (q := 561) C dL_law_560 (by decide) rfl ?_
    refine g_iadd (q := 562) C dL_law_561 rfl ?_
    refine g_sldN (j := 1) (x := a1) (q := 563) C hX hbl hb0 dL_law_562 rfl (by decide) (by decide) (by decide) ea1 ?_
    refine g_aloadS_n (q := 564) C dL_law_563 rfl rfl ?_
    refine g_iload (q := 566) C dL_law_564 rfl rfl ?_
    refine g_iconst (v := 2) (q := 567) C dL_law_566 (by decide) rfl ?_
    refine g_iadd (q := 568) C dL_law_567 rfl ?_
    refine g_sldN (j := 2) (x := a2) (q := 569) C hX hbl hb0 dL_law_568 rfl (by decide) (by decide) (by decide) ea2 ?_
    refine g_callVip (q := 572) (As := [.int a1, .int a2]) C gyX8_log gvX8_log t_1470 (gM_ip (c_X8_log_0 (gapp_old H122))) dL_law_569 rfl (gapp_old H122) rfl rfl rfl (Nat.le_of_ble_eq_true rfl) (Nat.le_of_ble_eq_true rfl) (Nat.le_of_ble_eq_true rfl) (Nat.le_of_ble_eq_true rfl) (Nat.le_of_ble_eq_true rfl) rfl (fun xb h8 zb => ?_)
    obtain ⟨eb, M122⟩ := zb
    refine g_istore (q := 574) C dL_law_572 (Nat.le_of_ble_eq_true rfl) (by simp only [gset]; rfl) rfl ?_
    refine g_aload_n (q := 575) C dL_law_574 rfl rfl ?_
    refine g_callVi (q := 578) (As := []) C gyX8_thrown gvX8_thrown t_1199 (c_X8_thrown M122) dL_law_575 rfl M122 rfl rfl rfl (Nat.le_of_ble_eq_true rfl) (Nat.le_of_ble_eq_true rfl) (Nat.le_of_ble_eq_true rfl) (Nat.le_of_ble_eq_true rfl) (Nat.le_of_ble_eq_true rfl) rfl ?_
    refine g_iload (q := 580) C dL_law_578 rfl rfl ?_
    refine g_icmp_eq_t (t := 585) C dL_law_580 (by decide) (by decide) ?_
    refine g_iload (q := 587) C dL_law_585 rfl rfl ?_
    refine g_if_ne_t (t := 602) C dL_law_587 (by decide) (by decide) ?_
    refine g_goto (q := 729) C dL_law_602 (by decide) ?_
    exact law_end C hX hbl hb0 hEnd (Nat.le_of_ble_eq_true rfl) (Nat.le_of_ble_eq_true rfl)
  by_cases c_39_14 : w = 14
  · subst c_39_14
    refine g_tableIn (off := 566) (t := 605) C dL_law_39 (by decide) (by decide) (by decide) (by decide) ?_
    refine g_aload_n (q := 606) C dL_law_605 rfl rfl ?_
    refine g_aloadS_n (q := 607) C dL_law_606 rfl rfl ?_
    refine g_iload (q := 609) C dL_law_607 rfl rfl ?_
    refine g_iconst (v := 1) (q := 610) C dL_law_609 (by decide) rfl ?_
    refine g_iadd (q := 611) C dL_law_610 rfl ?_
    refine g_sldN (j := 1) (x := a1) (q := 612) C hX hbl hb0 dL_law_611 rfl (by decide) (by decide) (by decide) ea1 ?_
    refine g_aloadS_n (q := 613) C dL_law_612 rfl rfl ?_
    refine g_iload (q := 615) C dL_law_613 rfl rfl ?_
    refine g_iconst (v := 2) (q := 616) C dL_law_615 (by decide) rfl ?_
    refine g_iadd (q := 617) C dL_law_616 rfl ?_
    refine g_sldN (j := 2) (x := a2) (q := 618) C hX hbl hb0 dL_law_617 rfl (by decide) (by decide) (by decide) ea2 ?_
    refine g_callVip (q := 621) (As := [.int a1, .int a2]) C gyX7_byteOf gvX7_byteOf t_923 (gM_ip (c_X7_byteOf_0 H0 H3 H14)) dL_law_618 rfl H0 rfl rfl rfl (Nat.le_of_ble_eq_true rfl) (Nat.le_of_ble_eq_true rfl) (Nat.le_of_ble_eq_true rfl) (Nat.le_of_ble_eq_true rfl) (Nat.le_of_ble_eq_true rfl) rfl (fun xa h9 za => ?_)
    obtain ⟨ea, fra⟩ := za
    have M122 := (fra 122 (by omega)).trans H122
    have M123 := (fra 123 (by omega)).trans H123
    have M125 := (fra 125 (by omega)).trans H125
    have M127 := (fra 127 (by omega)).trans H127
    refine g_aload_n (q := 622) C dL_law_621 rfl rfl ?_
    refine g_aloadS_n (q := 623) C dL_law_622 rfl rfl ?_
    refine g_iload (q := 625) C dL_law_623 rfl rfl ?_
    refine g_iconst (v := 1) (q := 626) C dL_law_625 (by decide) rfl ?_
    refine g_iadd (q := 627) C dL_law_626 rfl ?_
    refine g_sldN (j := 1) (x := a1) (q := 628) C hX hbl hb0 dL_law_627 rfl (by decide) (by decide) (by decide) ea1 ?_
    refine g_aloadS_n (q := 629) C dL_law_628 rfl rfl ?_
    refine g_iload (q := 631) C dL_law_629 rfl rfl ?_
    refine g_iconst (v := 2) (q := 632) C dL_law_631 (by decide) rfl ?_
    refine g_iadd (q := 633) C dL_law_632 rfl ?_
    refine g_sldN (j := 2) (x := a2) (q := 634) C hX hbl hb0 dL_law_633 rfl (by decide) (by decide) (by decide) ea2 ?_
    refine g_callVip (q := 637) (As := [.int a1, .int a2]) C gyX8_byteOf gvX8_byteOf t_1478 (gM_ip (c_X8_byteOf_0 M122)) dL_law_634 rfl M122 rfl rfl rfl (Nat.le_of_ble_eq_true rfl) (Nat.le_of_ble_eq_true rfl) (Nat.le_of_ble_eq_true rfl) (Nat.le_of_ble_eq_true rfl) (Nat.le_of_ble_eq_true rfl) rfl (fun xb h8 zb => ?_)
    obtain ⟨eb, -⟩ := zb
    refine g_icmp_eq_t (t := 729) C dL_law_637 (by decide) (ea.trans eb.symm) ?_
    exact law_end C hX hbl hb0 hEnd (Nat.le_of_ble_eq_true rfl) (Nat.le_of_ble_eq_true rfl)
  by_cases c_39_15 : w = 15
  · subst c_39_15
    refine g_tableIn (off := 603) (t := 642) C dL_law_39 (by decide) (by decide) (by decide) (by decide) ?_
    refine g_aload_n (q := 643) C dL_law_642 rfl rfl ?_
    refine g_aloadS_n (q := 644) C dL_law_643 rfl rfl ?_
    refine g_iload (q := 646) C dL_law_644 rfl rfl ?_
    refine g_iconst (v := 1) (q := 647) C dL_law_646 (by decide) rfl ?_
    refine g_iadd (q := 648) C dL_law_647 rfl ?_
    refine g_sldN (j := 1) (x := a1) (q := 649) C hX hbl hb0 dL_law_648 rfl (by decide) (by decide) (by decide) ea1 ?_
    refine g_callVip (q := 652) (As := [.int a1]) C gyX7_would gvX7_would t_939 (gM_ip (c_X7_would_0 H0)) dL_law_649 rfl H0 rfl rfl rfl (Nat.le_of_ble_eq_true rfl) (Nat.le_of_ble_eq_true rfl) (Nat.le_of_ble_eq_true rfl) (Nat.le_of_ble_eq_true rfl) (Nat.le_of_ble_eq_true rfl) rfl (fun xa h9 za => ?_)
    obtain ⟨ea, fra⟩ := za
    have M122 := (fra 122 (by omega)).trans H122
    have M123 := (fra 123 (by omega)).trans H123
    have M125 := (fra 125 (by omega)).trans H125
    have M127 := (fra 127 (by omega)).trans H127
    refine g_aload_n (q := 653) C dL_law_652 rfl rfl ?_
    refine g_aloadS_n (q := 654) C dL_law_653 rfl rfl ?_
    refine g_iload (q := 656) C dL_law_654 rfl rfl ?_
    refine g_iconst (v := 1) (q := 657) C dL_law_656 (by decide) rfl ?_
    refine g_iadd (q := 658) C dL_law_657 rfl ?_
    refine g_sldN (j := 1) (x := a1) (q := 659) C hX hbl hb0 dL_law_658 rfl (by decide) (by decide) (by decide) ea1 ?_
    refine g_callVip (q := 662) (As := [.int a1]) C gyX8_would gvX8_would t_1482 (gM_ip (c_X8_would_0 M122)) dL_law_659 rfl M122 rfl rfl rfl (Nat.le_of_ble_eq_true rfl) (Nat.le_of_ble_eq_true rfl) (Nat.le_of_ble_eq_true rfl) (Nat.le_of_ble_eq_true rfl) (Nat.le_of_ble_eq_true rfl) rfl (fun xb h8 zb => ?_)
    obtain ⟨eb, -⟩ := zb
    refine g_icmp_eq_t (t := 729) C dL_law_662 (by decide) (ea.trans eb.symm) ?_
    exact law_end C hX hbl hb0 hEnd (Nat.le_of_ble_eq_true rfl) (Nat.le_of_ble_eq_true rfl)
  by_cases c_39_16 : w = 16
  · subst c_39_16
    refine g_tableIn (off := 628) (t := 667) C dL_law_39 (by decide) (by decide) (by decide) (by decide) ?_
    refine g_aload_n (q := 668) C dL_law_667 rfl rfl ?_
    refine g_aloadS_n (q := 669) C dL_law_668 rfl rfl ?_
    refine g_iload (q := 671) C dL_law_669 rfl rfl ?_
    refine g_iconst (v := 1) (q := 672) C dL_law_671 (by decide) rfl ?_
    refine g_iadd (q := 673) C dL_law_672 rfl ?_
    refine g_sldN (j := 1) (x := a1) (q := 674) C hX hbl hb0 dL_law_673 rfl (by decide) (by decide) (by decide) ea1 ?_
    refine g_aloadS_n (q := 675) C dL_law_674 rfl rfl ?_
    refine g_iload (q := 677) C dL_law_675 rfl rfl ?_
    refine g_iconst (v := 2) (q := 678) C dL_law_677 (by decide) rfl ?_
    refine g_iadd (q := 679) C dL_law_678 rfl ?_
    refine g_sldN (j := 2) (x := a2) (q := 680) C hX hbl hb0 dL_law_679 rfl (by decide) (by decide) (by decide) ea2 ?_
    refine g_callVip (q := 683) (As := [.int a1, .int a2]) C gyX7_harm gvX7_harm t_961 (gM_ip (c_X7_harm_0 H0)) dL_law_680 rfl H0 rfl rfl rfl (Nat.le_of_ble_eq_true rfl) (Nat.le_of_ble_eq_true rfl) (Nat.le_of_ble_eq_true rfl) (Nat.le_of_ble_eq_true rfl) (Nat.le_of_ble_eq_true rfl) rfl (fun xa h9 za => ?_)
    obtain ⟨ea, fra⟩ := za
    have M122 := (fra 122 (by omega)).trans H122
    have M123 := (fra 123 (by omega)).trans H123
    have M125 := (fra 125 (by omega)).trans H125
    have M127 := (fra 127 (by omega)).trans H127
    refine g_aload_n (q := 684) C dL_law_683 rfl rfl ?_
    refine g_aloadS_n (q := 685) C dL_law_684 rfl rfl ?_
    refine g_iload (q := 687) C dL_law_685 rfl rfl ?_
    refine g_iconst (v := 1) (q := 688) C dL_law_687 (by decide) rfl ?_
    refine g_iadd (q := 689) C dL_law_688 rfl ?_
    refine g_sldN (j := 1) (x := a1) (q := 690) C hX hbl hb0 dL_law_689 rfl (by decide) (by decide) (by decide) ea1 ?_
    refine g_aloadS_n (q := 691) C dL_law_690 rfl rfl ?_
    refine g_iload (q := 693) C dL_law_691 rfl rfl ?_
    refine g_iconst (v := 2) (q := 694) C dL_law_693 (by decide) rfl ?_
    refine g_iadd (q := 695) C dL_law_694 rfl ?_
    refine g_sldN (j := 2) (x := a2) (q := 696) C hX hbl hb0 dL_law_695 rfl (by decide) (by decide) (by decide) ea2 ?_
    refine g_callVip (q := 699) (As := [.int a1, .int a2]) C gyX8_harm gvX8_harm t_1498 (gM_ip (c_X8_harm_0 M122)) dL_law_696 rfl M122 rfl rfl rfl (Nat.le_of_ble_eq_true rfl) (Nat.le_of_ble_eq_true rfl) (Nat.le_of_ble_eq_true rfl) (Nat.le_of_ble_eq_true rfl) (Nat.le_of_ble_eq_true rfl) rfl (fun xb h8 zb => ?_)
    obtain ⟨eb, -⟩ := zb
    refine g_icmp_eq_t (t := 729) C dL_law_699 (by decide) (ea.trans eb.symm) ?_
    exact law_end C hX hbl hb0 hEnd (Nat.le_of_ble_eq_true rfl) (Nat.le_of_ble_eq_true rfl)
  by_cases c_39_17 : w = 17
  · subst c_39_17
    refine g_tableIn (off := 665) (t := 704) C dL_law_39 (by decide) (by decide) (by decide) (by decide) ?_
    refine g_aload_n (q := 705) C dL_law_704 rfl rfl ?_
    refine g_aloadS_n (q := 706) C dL_law_705 rfl rfl ?_
    refine g_iload (q := 708) C dL_law_706 rfl rfl ?_
    refine g_iconst (v := 1) (q := 709) C dL_law_708 (by decide) rfl ?_
    refine g_iadd (q := 710) C dL_law_709 rfl ?_
    refine g_sldN (j := 1) (x := a1) (q := 711) C hX hbl hb0 dL_law_710 rfl (by decide) (by decide) (by decide) ea1 ?_
    refine g_callVip (q := 714) (As := [.int a1]) C gyX7_count gvX7_count t_989 (gM_ip (c_X7_count_0 H0 H1 H3 H14 H6 H20 H35)) dL_law_711 rfl H0 rfl rfl rfl (Nat.le_of_ble_eq_true rfl) (Nat.le_of_ble_eq_true rfl) (Nat.le_of_ble_eq_true rfl) (Nat.le_of_ble_eq_true rfl) (Nat.le_of_ble_eq_true rfl) rfl (fun xa h9 za => ?_)
    obtain ⟨ea, fra⟩ := za
    have M122 := (fra 122 (by omega)).trans H122
    have M123 := (fra 123 (by omega)).trans H123
    have M125 := (fra 125 (by omega)).trans H125
    have M127 := (fra 127 (by omega)).trans H127
    refine g_aload_n (q := 715) C dL_law_714 rfl rfl ?_
    refine g_aloadS_n (q := 716) C dL_law_715 rfl rfl ?_
    refine g_iload (q := 718) C dL_law_716 rfl rfl ?_
    refine g_iconst (v := 1) (q := 719) C dL_law_718 (by decide) rfl ?_
    refine g_iadd (q := 720) C dL_law_719 rfl ?_
    refine g_sldN (j := 1) (x := a1) (q := 721) C hX hbl hb0 dL_law_720 rfl (by decide) (by decide) (by decide) ea1 ?_
    refine g_callVip (q := 724) (As := [.int a1]) C gyX8_count gvX8_count t_1506 (gM_ip (c_X8_count_0 M122 M127 hf)) dL_law_721 rfl M122 rfl rfl rfl (Nat.le_of_ble_eq_true rfl) (Nat.le_of_ble_eq_true rfl) (Nat.le_of_ble_eq_true rfl) (Nat.le_of_ble_eq_true rfl) (Nat.le_of_ble_eq_true rfl) rfl (fun xb h8 zb => ?_)
    obtain ⟨eb, -⟩ := zb
    refine g_icmp_eq_t (t := 729) C dL_law_724 (by decide) (ea.trans eb.symm) ?_
    exact law_end C hX hbl hb0 hEnd (Nat.le_of_ble_eq_true rfl) (Nat.le_of_ble_eq_true rfl)
  refine g_tableOut (t := 729) C dL_law_39 (gOut18 c_39_0 c_39_1 c_39_2 c_39_3 c_39_4 c_39_5 c_39_6 c_39_7 c_39_8 c_39_9 c_39_10 c_39_11 c_39_12 c_39_13 c_39_14 c_39_15 c_39_16 c_39_17) (by decide) ?_
  exact law_end C hX hbl hb0 hEnd (Nat.le_of_ble_eq_true rfl) (Nat.le_of_ble_eq_true rfl)
set_option maxRecDepth 100000 in
set_option maxHeartbeats 8000000 in
theorem law_start {X : gX} {nm : String} {xs0 : Nat → Int32} {L : Nat} (C : gC X RL nm cL_law 7 room_1) (hX : va_X (xA X (0 : UInt32).toNat) L xs0 (xs X) (xs X).heap) (hbl : xA X (0 : UInt32).toNat < (xs X).heap.size) (hb0 : ¬ xB X ≤ xA X (0 : UInt32).toNat) (hEnd : ∀ (ls : List (Option Value)) (hp : List gA) (cl sl : Nat), cl ≤ 600002 → sl ≤ 7302231 → gG X 736 ls [.int 1] hp cl sl) (hL : L ≤ 5) (htr : (xl X).stackTraces = false) (hDk : gDk (xs X)) : gG X 0 [some (.float 0), none, none, none, none, none, none] [] [] 0 0 := by
  refine g_new (q := 3) (k := 0) C nL_8 dL_law_0 rfl rfl (Nat.le_of_ble_eq_true rfl) (Nat.le_of_ble_eq_true rfl) ?_
  refine g_dup (q := 4) C dL_law_3 rfl rfl ?_
  refine g_callIv (q := 7) (As := []) C gyX7_init giX7_init rfl t_119 (c_X7_init (hp := []) (n := 0) rfl) dL_law_4 rfl rfl rfl (Nat.le_of_ble_eq_true rfl) (Nat.le_of_ble_eq_true rfl) (Nat.le_of_ble_eq_true rfl) (Nat.le_of_ble_eq_true rfl) (Nat.le_of_ble_eq_true rfl) rfl ?_
  refine g_heap (hp2 := gCLS) rfl ?_
  refine g_astore_n (q := 8) C dL_law_7 (Nat.le_of_ble_eq_true rfl) (by simp only [gset]; rfl) rfl ?_
  refine g_new (q := 11) (k := 122) C nL_16 dL_law_8 rfl rfl (Nat.le_of_ble_eq_true rfl) (Nat.le_of_ble_eq_true rfl) ?_
  refine g_dup (q := 12) C dL_law_11 rfl rfl ?_
  refine g_callIvp (q := 15) (As := []) C gyX8_init giX8_init rfl t_1072 (c_X8_init (hp := gCLS) (n := 122) rfl) dL_law_12 rfl rfl rfl (Nat.le_of_ble_eq_true rfl) (Nat.le_of_ble_eq_true rfl) (Nat.le_of_ble_eq_true rfl) (Nat.le_of_ble_eq_true rfl) (Nat.le_of_ble_eq_true rfl) rfl (fun h8 z8 => ?_)
  obtain ⟨f9, hf9, rfl⟩ := z8
  refine g_astore_n (q := 16) C dL_law_15 (Nat.le_of_ble_eq_true rfl) (by simp only [gset]; rfl) rfl ?_
  refine g_iconst (v := 1) (q := 17) C dL_law_16 (by decide) rfl ?_
  refine g_newarrayL (q := 19) (k := 139) (N := 1) C t_1515 dL_law_17 rfl (by rw [List.length_append]; rfl) (by decide) (by decide) (Nat.le_of_ble_eq_true rfl) (Nat.le_of_ble_eq_true rfl) (Nat.le_of_ble_eq_true rfl) ?_
  refine g_astore_n (q := 20) C dL_law_19 (Nat.le_of_ble_eq_true rfl) (by simp only [gset]; rfl) rfl ?_
  refine g_iconst (v := 0) (q := 21) C dL_law_20 (by decide) rfl ?_
  refine g_istore (q := 23) C dL_law_21 (Nat.le_of_ble_eq_true rfl) (by simp only [gset]; rfl) rfl ?_
  refine g_iload (q := 25) C dL_law_23 rfl rfl ?_
  refine g_aloadS_n (q := 26) C dL_law_25 rfl rfl ?_
  refine g_slen (q := 27) C hX hbl hb0 dL_law_26 rfl ?_
  refine g_iconst (v := 5) (q := 28) C dL_law_27 (by decide) rfl ?_
  refine g_isub (q := 29) C dL_law_28 rfl ?_
  by_cases h5 : L < 5
  · refine g_icmp_gt_t (t := 735) C dL_law_29 (by decide) ((by decide : ∀ L, L < 5 → nI L - 5 < 0) L h5) ?_
    refine g_iconst (v := 1) (q := 736) C dL_law_735 (by decide) rfl ?_
    exact hEnd _ _ _ _ (Nat.le_of_ble_eq_true rfl) (Nat.le_of_ble_eq_true rfl)
  · have e5 : L = 5 := by omega
    subst e5
    refine g_icmp_gt_f (t := 735) (q := 32) C dL_law_29 (by decide) rfl (by decide) ?_
    refine g_aloadS_n (q := 33) C dL_law_32 rfl rfl ?_
    refine g_iload (q := 35) C dL_law_33 rfl rfl ?_
    refine g_sldN (j := 0) (x := xs0 0) (q := 36) C hX hbl hb0 dL_law_35 rfl (by decide) (by decide) (by decide) rfl ?_
    refine g_bipush (v := 31) (q := 38) C dL_law_36 (by decide) rfl ?_
    refine g_iand (q := 39) C dL_law_38 rfl ?_
    exact g_weaken (Nat.le_of_ble_eq_true rfl) (Nat.le_of_ble_eq_true rfl) (law_mid C hX hbl hb0 hEnd htr hDk (gapp_old (gapp_old rfl)) (gapp_old (gapp_old rfl)) (gapp_old (gapp_old rfl)) (gapp_old (gapp_old rfl)) (gapp_old (gapp_old rfl)) (gapp_old (gapp_old rfl)) (gapp_old (gapp_old rfl)) (gapp_old (gapp_old rfl)) (gapp_old (gapp_old rfl)) (gapp_old (gapp_old rfl)) (gapp_old (gapp_old rfl)) (gapp_old (gapp_old rfl)) (gapp_old (gapp_new (n := 122) (j := 0) rfl rfl)) (gapp_old (gapp_new (n := 122) (j := 1) rfl rfl)) (gapp_old (gapp_new (n := 122) (j := 3) rfl rfl)) (gapp_old (gapp_new (n := 122) (j := 5) rfl rfl)) hf9 rfl rfl rfl rfl)
