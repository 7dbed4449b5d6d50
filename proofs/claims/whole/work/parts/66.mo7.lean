/-! TutorLinesModel: factor, simple, term, divide (by program: wip/whole/gen/mo7.py) -/
abbrev asS (M : tm_M) (a k : Nat) : tl_S := ((mL M a k, mL M a (k + 1)), (mL M a (k + 2), mL M a (k + 3)))
def pF (o lv : Nat) (a k : Nat) : Prop := (a = o ∧ (k = 10 ∨ k = 11 ∨ k = 21)) ∨ (a = o + 7 ∧ 4 * lv ≤ k ∧ k < 4 * lv + 4) ∨ (a = o + 11 ∧ k = lv)
abbrev st2 (M : tm_M) (a k : Nat) (f : tl_F) : tm_M := sL (sL M a k f.1) a (k + 1) f.2
theorem st2_0 (M : tm_M) (a k : Nat) (f : tl_F) : mL (st2 M a k f) a k = f.1 := (tm_up_k _ _ (by omega)).trans (tm_up_s _ _ _ _)
theorem st2_1 (M : tm_M) (a k : Nat) (f : tl_F) : mL (st2 M a k f) a (k + 1) = f.2 := tm_up_s _ _ _ _
theorem st2_n (M : tm_M) {a k b j : Nat} (f : tl_F) (h : b ≠ a ∨ (j ≠ k ∧ j ≠ k + 1)) : mL (st2 M a k f) b j = mL M b j := by
  rcases h with h | h
  · exact (tm_up_a _ _ h).trans (tm_up_a _ _ h)
  · exact (tm_up_k _ _ h.2).trans (tm_up_k _ _ h.1)
theorem fq_st2 {P : Nat → Nat → Prop} {M : tm_M} {a k : Nat} {f : tl_F} (h1 : P a k) (h2 : P a (k + 1)) : fq P M (st2 M a k f) := fq_tr (fq_sL h1) (fq_sL h2)
theorem fmul_c (f g : tl_F) : tl_norm (f.1 * g.1) (f.2 * g.2) = fmul g f := by
  show _ = tl_norm (g.1 * f.1) (g.2 * f.2)
  rw [Int.mul_comm g.1 f.1, Int.mul_comm g.2 f.2]
theorem dX9_factor_0 : decode cX9_factor 0 = .ok (.iconst 4, 1) := by decide +kernel
theorem dX9_factor_1 : decode cX9_factor 1 = .ok (.aload_n 0, 1) := by decide +kernel
theorem dX9_factor_2 : decode cX9_factor 2 = .ok (.getfield 100, 3) := by decide +kernel
theorem dX9_factor_5 : decode cX9_factor 5 = .ok (.imul, 1) := by decide +kernel
theorem dX9_factor_6 : decode cX9_factor 6 = .ok (.istore_n 3, 1) := by decide +kernel
theorem dX9_factor_7 : decode cX9_factor 7 = .ok (.aload_n 0, 1) := by decide +kernel
theorem dX9_factor_8 : decode cX9_factor 8 = .ok (.getfield 42, 3) := by decide +kernel
theorem dX9_factor_11 : decode cX9_factor 11 = .ok (.aload_n 0, 1) := by decide +kernel
theorem dX9_factor_12 : decode cX9_factor 12 = .ok (.getfield 100, 3) := by decide +kernel
theorem dX9_factor_15 : decode cX9_factor 15 = .ok (.iaload, 1) := by decide +kernel
theorem dX9_factor_16 : decode cX9_factor 16 = .ok (.iconst (-1), 1) := by decide +kernel
theorem dX9_factor_17 : decode cX9_factor 17 = .ok (.if_icmp .ne 35, 3) := by decide +kernel
theorem dX9_factor_20 : decode cX9_factor 20 = .ok (.iconst 0, 1) := by decide +kernel
theorem dX9_factor_21 : decode cX9_factor 21 = .ok (.istore 4, 2) := by decide +kernel
theorem dX9_factor_23 : decode cX9_factor 23 = .ok (.iload 4, 2) := by decide +kernel
theorem dX9_factor_25 : decode cX9_factor 25 = .ok (.iconst 4, 1) := by decide +kernel
theorem dX9_factor_26 : decode cX9_factor 26 = .ok (.if_icmp .ge 24, 3) := by decide +kernel
theorem dX9_factor_29 : decode cX9_factor 29 = .ok (.aload_n 0, 1) := by decide +kernel
theorem dX9_factor_30 : decode cX9_factor 30 = .ok (.getfield 29, 3) := by decide +kernel
theorem dX9_factor_33 : decode cX9_factor 33 = .ok (.iload_n 3, 1) := by decide +kernel
theorem dX9_factor_34 : decode cX9_factor 34 = .ok (.iload 4, 2) := by decide +kernel
theorem dX9_factor_36 : decode cX9_factor 36 = .ok (.iadd, 1) := by decide +kernel
theorem dX9_factor_37 : decode cX9_factor 37 = .ok (.aload_n 1, 1) := by decide +kernel
theorem dX9_factor_38 : decode cX9_factor 38 = .ok (.iload_n 2, 1) := by decide +kernel
theorem dX9_factor_39 : decode cX9_factor 39 = .ok (.iload 4, 2) := by decide +kernel
theorem dX9_factor_41 : decode cX9_factor 41 = .ok (.iadd, 1) := by decide +kernel
theorem dX9_factor_42 : decode cX9_factor 42 = .ok (.laload, 1) := by decide +kernel
theorem dX9_factor_43 : decode cX9_factor 43 = .ok (.lastore, 1) := by decide +kernel
theorem dX9_factor_44 : decode cX9_factor 44 = .ok (.iinc 4 1, 3) := by decide +kernel
theorem dX9_factor_47 : decode cX9_factor 47 = .ok (.goto (-24), 3) := by decide +kernel
theorem dX9_factor_50 : decode cX9_factor 50 = .ok (.iconst 1, 1) := by decide +kernel
theorem dX9_factor_51 : decode cX9_factor 51 = .ok (.ireturn, 1) := by decide +kernel
theorem dX9_factor_52 : decode cX9_factor 52 = .ok (.aload_n 0, 1) := by decide +kernel
theorem dX9_factor_53 : decode cX9_factor 53 = .ok (.getfield 42, 3) := by decide +kernel
theorem dX9_factor_56 : decode cX9_factor 56 = .ok (.aload_n 0, 1) := by decide +kernel
theorem dX9_factor_57 : decode cX9_factor 57 = .ok (.getfield 100, 3) := by decide +kernel
theorem dX9_factor_60 : decode cX9_factor 60 = .ok (.iaload, 1) := by decide +kernel
theorem dX9_factor_61 : decode cX9_factor 61 = .ok (.istore 4, 2) := by decide +kernel
theorem dX9_factor_63 : decode cX9_factor 63 = .ok (.aload_n 0, 1) := by decide +kernel
theorem dX9_factor_64 : decode cX9_factor 64 = .ok (.getfield 42, 3) := by decide +kernel
theorem dX9_factor_67 : decode cX9_factor 67 = .ok (.aload_n 0, 1) := by decide +kernel
theorem dX9_factor_68 : decode cX9_factor 68 = .ok (.getfield 100, 3) := by decide +kernel
theorem dX9_factor_71 : decode cX9_factor 71 = .ok (.iconst (-1), 1) := by decide +kernel
theorem dX9_factor_72 : decode cX9_factor 72 = .ok (.iastore, 1) := by decide +kernel
theorem dX9_factor_73 : decode cX9_factor 73 = .ok (.aload_n 0, 1) := by decide +kernel
theorem dX9_factor_74 : decode cX9_factor 74 = .ok (.getfield 29, 3) := by decide +kernel
theorem dX9_factor_77 : decode cX9_factor 77 = .ok (.iload_n 3, 1) := by decide +kernel
theorem dX9_factor_78 : decode cX9_factor 78 = .ok (.laload, 1) := by decide +kernel
theorem dX9_factor_79 : decode cX9_factor 79 = .ok (.lconst 0, 1) := by decide +kernel
theorem dX9_factor_80 : decode cX9_factor 80 = .ok (.lcmp, 1) := by decide +kernel
theorem dX9_factor_81 : decode cX9_factor 81 = .ok (.ifCond .eq 18, 3) := by decide +kernel
theorem dX9_factor_84 : decode cX9_factor 84 = .ok (.aload_n 1, 1) := by decide +kernel
theorem dX9_factor_85 : decode cX9_factor 85 = .ok (.iload_n 2, 1) := by decide +kernel
theorem dX9_factor_86 : decode cX9_factor 86 = .ok (.laload, 1) := by decide +kernel
theorem dX9_factor_87 : decode cX9_factor 87 = .ok (.lconst 0, 1) := by decide +kernel
theorem dX9_factor_88 : decode cX9_factor 88 = .ok (.lcmp, 1) := by decide +kernel
theorem dX9_factor_89 : decode cX9_factor 89 = .ok (.ifCond .eq 10, 3) := by decide +kernel
theorem dX9_factor_92 : decode cX9_factor 92 = .ok (.aload_n 0, 1) := by decide +kernel
theorem dX9_factor_93 : decode cX9_factor 93 = .ok (.iload 4, 2) := by decide +kernel
theorem dX9_factor_95 : decode cX9_factor 95 = .ok (.invokevirtual 103, 3) := by decide +kernel
theorem dX9_factor_98 : decode cX9_factor 98 = .ok (.ireturn, 1) := by decide +kernel
theorem dX9_factor_99 : decode cX9_factor 99 = .ok (.aload_n 0, 1) := by decide +kernel
theorem dX9_factor_100 : decode cX9_factor 100 = .ok (.getfield 29, 3) := by decide +kernel
theorem dX9_factor_103 : decode cX9_factor 103 = .ok (.iload_n 3, 1) := by decide +kernel
theorem dX9_factor_104 : decode cX9_factor 104 = .ok (.laload, 1) := by decide +kernel
theorem dX9_factor_105 : decode cX9_factor 105 = .ok (.lconst 0, 1) := by decide +kernel
theorem dX9_factor_106 : decode cX9_factor 106 = .ok (.lcmp, 1) := by decide +kernel
theorem dX9_factor_107 : decode cX9_factor 107 = .ok (.ifCond .ne 7, 3) := by decide +kernel
theorem dX9_factor_110 : decode cX9_factor 110 = .ok (.iconst 1, 1) := by decide +kernel
theorem dX9_factor_111 : decode cX9_factor 111 = .ok (.goto 4, 3) := by decide +kernel
theorem dX9_factor_114 : decode cX9_factor 114 = .ok (.iconst 0, 1) := by decide +kernel
theorem dX9_factor_115 : decode cX9_factor 115 = .ok (.istore 5, 2) := by decide +kernel
theorem dX9_factor_117 : decode cX9_factor 117 = .ok (.iload 5, 2) := by decide +kernel
theorem dX9_factor_119 : decode cX9_factor 119 = .ok (.ifCond .eq 14, 3) := by decide +kernel
theorem dX9_factor_122 : decode cX9_factor 122 = .ok (.aload_n 0, 1) := by decide +kernel
theorem dX9_factor_123 : decode cX9_factor 123 = .ok (.getfield 29, 3) := by decide +kernel
theorem dX9_factor_126 : decode cX9_factor 126 = .ok (.iload_n 3, 1) := by decide +kernel
theorem dX9_factor_127 : decode cX9_factor 127 = .ok (.iconst 2, 1) := by decide +kernel
theorem dX9_factor_128 : decode cX9_factor 128 = .ok (.iadd, 1) := by decide +kernel
theorem dX9_factor_129 : decode cX9_factor 129 = .ok (.laload, 1) := by decide +kernel
theorem dX9_factor_130 : decode cX9_factor 130 = .ok (.goto 8, 3) := by decide +kernel
theorem dX9_factor_133 : decode cX9_factor 133 = .ok (.aload_n 1, 1) := by decide +kernel
theorem dX9_factor_134 : decode cX9_factor 134 = .ok (.iload_n 2, 1) := by decide +kernel
theorem dX9_factor_135 : decode cX9_factor 135 = .ok (.iconst 2, 1) := by decide +kernel
theorem dX9_factor_136 : decode cX9_factor 136 = .ok (.iadd, 1) := by decide +kernel
theorem dX9_factor_137 : decode cX9_factor 137 = .ok (.laload, 1) := by decide +kernel
theorem dX9_factor_138 : decode cX9_factor 138 = .ok (.lstore 6, 2) := by decide +kernel
theorem dX9_factor_140 : decode cX9_factor 140 = .ok (.iload 5, 2) := by decide +kernel
theorem dX9_factor_142 : decode cX9_factor 142 = .ok (.ifCond .eq 14, 3) := by decide +kernel
theorem dX9_factor_145 : decode cX9_factor 145 = .ok (.aload_n 0, 1) := by decide +kernel
theorem dX9_factor_146 : decode cX9_factor 146 = .ok (.getfield 29, 3) := by decide +kernel
theorem dX9_factor_149 : decode cX9_factor 149 = .ok (.iload_n 3, 1) := by decide +kernel
theorem dX9_factor_150 : decode cX9_factor 150 = .ok (.iconst 3, 1) := by decide +kernel
theorem dX9_factor_151 : decode cX9_factor 151 = .ok (.iadd, 1) := by decide +kernel
theorem dX9_factor_152 : decode cX9_factor 152 = .ok (.laload, 1) := by decide +kernel
theorem dX9_factor_153 : decode cX9_factor 153 = .ok (.goto 8, 3) := by decide +kernel
theorem dX9_factor_156 : decode cX9_factor 156 = .ok (.aload_n 1, 1) := by decide +kernel
theorem dX9_factor_157 : decode cX9_factor 157 = .ok (.iload_n 2, 1) := by decide +kernel
theorem dX9_factor_158 : decode cX9_factor 158 = .ok (.iconst 3, 1) := by decide +kernel
theorem dX9_factor_159 : decode cX9_factor 159 = .ok (.iadd, 1) := by decide +kernel
theorem dX9_factor_160 : decode cX9_factor 160 = .ok (.laload, 1) := by decide +kernel
theorem dX9_factor_161 : decode cX9_factor 161 = .ok (.lstore 8, 2) := by decide +kernel
theorem dX9_factor_163 : decode cX9_factor 163 = .ok (.iconst 0, 1) := by decide +kernel
theorem dX9_factor_164 : decode cX9_factor 164 = .ok (.istore 10, 2) := by decide +kernel
theorem dX9_factor_166 : decode cX9_factor 166 = .ok (.iload 10, 2) := by decide +kernel
theorem dX9_factor_168 : decode cX9_factor 168 = .ok (.iconst 4, 1) := by decide +kernel
theorem dX9_factor_169 : decode cX9_factor 169 = .ok (.if_icmp .ge 119, 3) := by decide +kernel
theorem dX9_factor_172 : decode cX9_factor 172 = .ok (.iload 5, 2) := by decide +kernel
theorem dX9_factor_174 : decode cX9_factor 174 = .ok (.ifCond .eq 12, 3) := by decide +kernel
theorem dX9_factor_177 : decode cX9_factor 177 = .ok (.aload_n 1, 1) := by decide +kernel
theorem dX9_factor_178 : decode cX9_factor 178 = .ok (.iload_n 2, 1) := by decide +kernel
theorem dX9_factor_179 : decode cX9_factor 179 = .ok (.iload 10, 2) := by decide +kernel
theorem dX9_factor_181 : decode cX9_factor 181 = .ok (.iadd, 1) := by decide +kernel
theorem dX9_factor_182 : decode cX9_factor 182 = .ok (.laload, 1) := by decide +kernel
theorem dX9_factor_183 : decode cX9_factor 183 = .ok (.goto 12, 3) := by decide +kernel
theorem dX9_factor_186 : decode cX9_factor 186 = .ok (.aload_n 0, 1) := by decide +kernel
theorem dX9_factor_187 : decode cX9_factor 187 = .ok (.getfield 29, 3) := by decide +kernel
theorem dX9_factor_190 : decode cX9_factor 190 = .ok (.iload_n 3, 1) := by decide +kernel
theorem dX9_factor_191 : decode cX9_factor 191 = .ok (.iload 10, 2) := by decide +kernel
theorem dX9_factor_193 : decode cX9_factor 193 = .ok (.iadd, 1) := by decide +kernel
theorem dX9_factor_194 : decode cX9_factor 194 = .ok (.laload, 1) := by decide +kernel
theorem dX9_factor_195 : decode cX9_factor 195 = .ok (.lstore 11, 2) := by decide +kernel
theorem dX9_factor_197 : decode cX9_factor 197 = .ok (.iload 5, 2) := by decide +kernel
theorem dX9_factor_199 : decode cX9_factor 199 = .ok (.ifCond .eq 14, 3) := by decide +kernel
theorem dX9_factor_202 : decode cX9_factor 202 = .ok (.aload_n 1, 1) := by decide +kernel
theorem dX9_factor_203 : decode cX9_factor 203 = .ok (.iload_n 2, 1) := by decide +kernel
theorem dX9_factor_204 : decode cX9_factor 204 = .ok (.iload 10, 2) := by decide +kernel
theorem dX9_factor_206 : decode cX9_factor 206 = .ok (.iadd, 1) := by decide +kernel
theorem dX9_factor_207 : decode cX9_factor 207 = .ok (.iconst 1, 1) := by decide +kernel
theorem dX9_factor_208 : decode cX9_factor 208 = .ok (.iadd, 1) := by decide +kernel
theorem dX9_factor_209 : decode cX9_factor 209 = .ok (.laload, 1) := by decide +kernel
theorem dX9_factor_210 : decode cX9_factor 210 = .ok (.goto 14, 3) := by decide +kernel
theorem dX9_factor_213 : decode cX9_factor 213 = .ok (.aload_n 0, 1) := by decide +kernel
theorem dX9_factor_214 : decode cX9_factor 214 = .ok (.getfield 29, 3) := by decide +kernel
theorem dX9_factor_217 : decode cX9_factor 217 = .ok (.iload_n 3, 1) := by decide +kernel
theorem dX9_factor_218 : decode cX9_factor 218 = .ok (.iload 10, 2) := by decide +kernel
theorem dX9_factor_220 : decode cX9_factor 220 = .ok (.iadd, 1) := by decide +kernel
theorem dX9_factor_221 : decode cX9_factor 221 = .ok (.iconst 1, 1) := by decide +kernel
theorem dX9_factor_222 : decode cX9_factor 222 = .ok (.iadd, 1) := by decide +kernel
theorem dX9_factor_223 : decode cX9_factor 223 = .ok (.laload, 1) := by decide +kernel
theorem dX9_factor_224 : decode cX9_factor 224 = .ok (.lstore 13, 2) := by decide +kernel
theorem dX9_factor_226 : decode cX9_factor 226 = .ok (.aload_n 0, 1) := by decide +kernel
theorem dX9_factor_227 : decode cX9_factor 227 = .ok (.lload 11, 2) := by decide +kernel
theorem dX9_factor_229 : decode cX9_factor 229 = .ok (.lload 6, 2) := by decide +kernel
theorem dX9_factor_231 : decode cX9_factor 231 = .ok (.lmul, 1) := by decide +kernel
theorem dX9_factor_232 : decode cX9_factor 232 = .ok (.lload 13, 2) := by decide +kernel
theorem dX9_factor_234 : decode cX9_factor 234 = .ok (.lload 8, 2) := by decide +kernel
theorem dX9_factor_236 : decode cX9_factor 236 = .ok (.lmul, 1) := by decide +kernel
theorem dX9_factor_237 : decode cX9_factor 237 = .ok (.invokevirtual 106, 3) := by decide +kernel
theorem dX9_factor_240 : decode cX9_factor 240 = .ok (.aload_n 0, 1) := by decide +kernel
theorem dX9_factor_241 : decode cX9_factor 241 = .ok (.invokevirtual 110, 3) := by decide +kernel
theorem dX9_factor_244 : decode cX9_factor 244 = .ok (.ifCond .eq 10, 3) := by decide +kernel
theorem dX9_factor_247 : decode cX9_factor 247 = .ok (.aload_n 0, 1) := by decide +kernel
theorem dX9_factor_248 : decode cX9_factor 248 = .ok (.iload 4, 2) := by decide +kernel
theorem dX9_factor_250 : decode cX9_factor 250 = .ok (.invokevirtual 103, 3) := by decide +kernel
theorem dX9_factor_253 : decode cX9_factor 253 = .ok (.ireturn, 1) := by decide +kernel
theorem dX9_factor_254 : decode cX9_factor 254 = .ok (.aload_n 0, 1) := by decide +kernel
theorem dX9_factor_255 : decode cX9_factor 255 = .ok (.getfield 29, 3) := by decide +kernel
theorem dX9_factor_258 : decode cX9_factor 258 = .ok (.iload_n 3, 1) := by decide +kernel
theorem dX9_factor_259 : decode cX9_factor 259 = .ok (.iload 10, 2) := by decide +kernel
theorem dX9_factor_261 : decode cX9_factor 261 = .ok (.iadd, 1) := by decide +kernel
theorem dX9_factor_262 : decode cX9_factor 262 = .ok (.aload_n 0, 1) := by decide +kernel
theorem dX9_factor_263 : decode cX9_factor 263 = .ok (.getfield 56, 3) := by decide +kernel
theorem dX9_factor_266 : decode cX9_factor 266 = .ok (.lastore, 1) := by decide +kernel
theorem dX9_factor_267 : decode cX9_factor 267 = .ok (.aload_n 0, 1) := by decide +kernel
theorem dX9_factor_268 : decode cX9_factor 268 = .ok (.getfield 29, 3) := by decide +kernel
theorem dX9_factor_271 : decode cX9_factor 271 = .ok (.iload_n 3, 1) := by decide +kernel
theorem dX9_factor_272 : decode cX9_factor 272 = .ok (.iload 10, 2) := by decide +kernel
theorem dX9_factor_274 : decode cX9_factor 274 = .ok (.iadd, 1) := by decide +kernel
theorem dX9_factor_275 : decode cX9_factor 275 = .ok (.iconst 1, 1) := by decide +kernel
theorem dX9_factor_276 : decode cX9_factor 276 = .ok (.iadd, 1) := by decide +kernel
theorem dX9_factor_277 : decode cX9_factor 277 = .ok (.aload_n 0, 1) := by decide +kernel
theorem dX9_factor_278 : decode cX9_factor 278 = .ok (.getfield 60, 3) := by decide +kernel
theorem dX9_factor_281 : decode cX9_factor 281 = .ok (.lastore, 1) := by decide +kernel
theorem dX9_factor_282 : decode cX9_factor 282 = .ok (.iinc 10 2, 3) := by decide +kernel
theorem dX9_factor_285 : decode cX9_factor 285 = .ok (.goto (-119), 3) := by decide +kernel
theorem dX9_factor_288 : decode cX9_factor 288 = .ok (.iconst 1, 1) := by decide +kernel
theorem dX9_factor_289 : decode cX9_factor 289 = .ok (.ireturn, 1) := by decide +kernel
theorem tl_cp4 {M M1 : tm_M} {o fa kk lv c d : Nat} {x y : Int} (i1 : x.toNat = kk + c) (i2 : y.toNat = 4 * lv + c) (h : mL M1 fa (kk + c) = mL M fa (kk + c)) (hc : d < c → mL M1 (o + 7) (4 * lv + d) = mL M fa (kk + d)) (hd : d < c + 1) : mL (sL M1 (o + 7) y.toNat (mL M1 fa x.toNat)) (o + 7) (4 * lv + d) = mL M fa (kk + d) := by
  rw [i1, i2]
  by_cases e : d = c
  · subst e
    exact (tm_up_s _ _ _ _).trans h
  · exact (tm_up_k _ _ (by omega)).trans (hc (by omega))
theorem pF_fa {sh : tm_sh} {o fa lv len k : Nat} (b0 : sh o = some (9, 0)) (u11 : sh (o + 11) = some (20, 9)) (hfa : sh fa = some (21, len)) (hne : fa ≠ o + 7) : ¬ pF o lv fa k := by
  unfold pF
  rintro (q | q | q)
  · rw [q.1, b0] at hfa; cases hfa
  · exact hne q.1
  · rw [q.1, u11] at hfa; cases hfa
set_option maxHeartbeats 4000000 in
set_option maxRecDepth 100000 in
/-- TutorLinesModel.factor, no star before it -/
theorem c_X9_factorN {l : Launch} {G : tm_G} {Hb : Heap} {sh : tm_sh} {M : tm_M} {o fa kk lv len : Nat} (h : isMo sh M o) (hlv : mI M o 18 = lv) (hl9 : lv < 9) (hfa : sh fa = some (21, len)) (hlen : kk + 4 ≤ len ∧ len < 100) (hne : fa ≠ o + 7) (hst : mI M (o + 11) lv = -1) : Met l yX9_factor (tws yX9_factor cX9_factor 15 (some .boolean)) ({ frames := 2, cells := 0, slots := 0, locals := 55 }) (va_Pc [.ref o, .ref fa, ji (kk : Nat)] (tm_St G Hb sh M)) (tm_Qi G Hb sh (fun r M1 => r = 1 ∧ asS M1 (o + 7) (4 * lv) = asS M fa kk ∧ mI M1 (o + 11) lv = -1 ∧ fq (pF o lv) M M1)) 0 0 (tm_A Hb) := by
  refine tm_begin (by decide) (Nat.le_of_ble_eq_true rfl) (fun p e s m below meth cd ls hx hb hr hml hown htw hlk hnm hK hW hl => ?_)
  have hS : va_S (tm_A Hb) s.heap s.heap [] := va_S.rf
  have hl : lv_has ls 15 [(0, .ref o), (1, .ref fa), (2, ji (kk : Nat))] := hl
  obtain ⟨b0, ⟨t1, t2, t6, t7, t9, t12, t13, t14, t15, t16, t17, t24⟩, ⟨u1, u2, u3, u4, u5, u6, u7, u8, u9, u10, u11, u12⟩⟩ := h
  have et : (mI M o 18).toNat = lv := by omega
  have loop : ∀ (n c : Nat) (M1 : tm_M) (H : Heap) (locs : List Loc) (ls : Array Slot), c + n = 4 → (∀ d, d < c → mL M1 (o + 7) (4 * lv + d) = mL M fa (kk + d)) → mI M1 (o + 11) lv = -1 → fq (pF o lv) M M1 → tm_W G Hb sh M1 H → va_S (tm_A Hb) s.heap H locs → lv_has ls 15 [(0, .ref o), (1, .ref fa), (2, ji (kk : Nat)), (3, ji (4 * (lv : Int))), (4, ji (c : Nat))] → W p l e ({ frames := 2, cells := 0, slots := 0, locals := 55 }) s m [.ref o, .ref fa, ji (kk : Nat)].toArray below meth cd H locs 0 0 (MQ below (tm_Qi G Hb sh (fun r M1 => r = 1 ∧ asS M1 (o + 7) (4 * lv) = asS M fa kk ∧ mI M1 (o + 11) lv = -1 ∧ fq (pF o lv) M M1)) [.ref o, .ref fa, ji (kk : Nat)].toArray s 0 0 (tm_A Hb)) (F0 m 23 ls []) := by
    intro n
    induction n with
    | zero =>
      intro c M1 H locs ls hk hc hs9 hf hW hS hl
      have fin : asS M1 (o + 7) (4 * lv) = asS M fa kk := by
        show ((mL M1 (o + 7) (4 * lv + 0), mL M1 (o + 7) (4 * lv + 1)), (mL M1 (o + 7) (4 * lv + 2), mL M1 (o + 7) (4 * lv + 3))) = _
        rw [hc 0 (by omega), hc 1 (by omega), hc 2 (by omega), hc 3 (by omega)]
        rfl
      refine lv_iload hx hb dX9_factor_23 (lv_at hl 4 rfl) ?_
      refine ti_iconst hx hb dX9_factor_25 ?_
      refine ti_icmp_ge (tgt := 50) hx hb dX9_factor_26 (by decide) (by omega) (by omega) (fun h26 => ?_) (fun h26 => ?_)
      · refine ti_iconst hx hb dX9_factor_50 ?_
        exact tm_zret hx hb hr hlk (by first | exact Or.inl rfl | exact Or.inr rfl | assumption) hK hW hS ⟨rfl, fin, hs9, hf⟩ dX9_factor_51
      · exact absurd (show (4 : Int) ≤ (c : Int) by omega) h26
    | succ n ih =>
      intro c M1 H locs ls hk hc hs9 hf hW hS hl
      have t13a : mR M1 o 13 = some (o + 7) := by rw [hf.1]; exact t13
      have i1 : ((kk : Int) + (c : Int)).toNat = kk + c := by omega
      have i2 : (4 * (lv : Int) + (c : Int)).toNat = 4 * lv + c := by omega
      refine lv_iload hx hb dX9_factor_23 (lv_at hl 4 rfl) ?_
      refine ti_iconst hx hb dX9_factor_25 ?_
      refine ti_icmp_ge (tgt := 50) hx hb dX9_factor_26 (by decide) (by omega) (by omega) (fun h26 => ?_) (fun h26 => ?_)
      · exact absurd h26 (by omega)
      · refine lv_aload_n hx hb dX9_factor_29 rfl (lv_at hl 0 rfl) ?_
        refine gf_X9_29 hx hb htw hown hK hW (by assumption) t13a dX9_factor_30 ?_
        refine lv_iload_n hx hb dX9_factor_33 rfl (lv_at hl 3 rfl) ?_
        refine lv_iload hx hb dX9_factor_34 (lv_at hl 4 rfl) ?_
        refine ti_iadd hx hb dX9_factor_36 ?_
        refine lv_aload_n hx hb dX9_factor_37 rfl (lv_at hl 1 rfl) ?_
        refine lv_iload_n hx hb dX9_factor_38 rfl (lv_at hl 2 rfl) ?_
        refine lv_iload hx hb dX9_factor_39 (lv_at hl 4 rfl) ?_
        refine ti_iadd hx hb dX9_factor_41 ?_
        refine tm_lald hx hb hK hW hfa (by omega) (by omega) (by omega) dX9_factor_42 ?_
        refine tm_last hx hb hK hW hS (by assumption) (by omega) (by omega) (by decide) dX9_factor_43 (fun H locs hW hS => ?_)
        refine ti_iinc (k := 4) (lv' := [(4, _), (0, _), (1, _), (2, _), (3, _)]) hx hb dX9_factor_44 hl rfl (by decide) rfl (fun ls hl => ?_)
        refine lv_goto (tgt := 23) hx hb dX9_factor_47 (by decide) ?_
        exact ih (c + 1) _ _ _ _ (by omega) (fun d hd => tl_cp4 i1 i2 (hf.2 fa (kk + c) (pF_fa b0 u11 hfa hne)).2 (hc d) hd) hs9 (fq_tr hf (fq_sL (Or.inr (Or.inl ⟨rfl, by rw [i2]; omega, by rw [i2]; omega⟩)))) hW hS (lv_sub hl [1, 2, 3, 4, 0] rfl)
  refine ti_iconst hx hb dX9_factor_0 ?_
  refine lv_aload_n hx hb dX9_factor_1 rfl (lv_at hl 0 rfl) ?_
  refine gf_X9_100 hx hb htw hown hK hW (by assumption) dX9_factor_2 ?_
  rw [hlv]
  refine ti_imul hx hb dX9_factor_5 ?_
  refine lv_istore_n (lv' := [(3, _), (0, _), (1, _), (2, _)]) hx hb dX9_factor_6 rfl hl (by decide) rfl (fun ls hl => ?_)
  refine lv_aload_n hx hb dX9_factor_7 rfl (lv_at hl 1 rfl) ?_
  refine gf_X9_42 hx hb htw hown hK hW (by assumption) (by assumption) dX9_factor_8 ?_
  refine lv_aload_n hx hb dX9_factor_11 rfl (lv_at hl 1 rfl) ?_
  refine gf_X9_100 hx hb htw hown hK hW (by assumption) dX9_factor_12 ?_
  refine tm_iald hx hb hK hW (by assumption) (by omega) (by omega) (by decide) dX9_factor_15 ?_
  rw [et, hst]
  refine ti_iconst hx hb dX9_factor_16 ?_
  refine ti_icmp_ne (tgt := 52) hx hb dX9_factor_17 (by decide) (by decide) (by decide) (fun h17 => ?_) (fun h17 => ?_)
  · exact absurd rfl h17
  · refine ti_iconst hx hb dX9_factor_20 ?_
    refine lv_istore (lv' := [(4, _), (3, _), (0, _), (1, _), (2, _)]) hx hb dX9_factor_21 hl (by decide) rfl (fun ls hl => ?_)
    exact loop 4 0 M _ _ _ rfl (fun d q => absurd q (by omega)) hst fq_rf hW hS (lv_sub hl [2, 3, 4, 1, 0] rfl)
theorem as_eq {M : tm_M} {a k : Nat} {f g : tl_F} (h0 : mL M a k = f.1) (h1 : mL M a (k + 1) = f.2) (h2 : mL M a (k + 2) = g.1) (h3 : mL M a (k + 2 + 1) = g.2) : asS M a k = (f, g) := by
  show ((mL M a k, mL M a (k + 1)), (mL M a (k + 2), mL M a (k + 2 + 1))) = _
  rw [h0, h1, h2, h3]
theorem smulA {v w : tl_S} (h : v.1.1 = 0) : smul v w = (fmul v.2 w.1, fmul v.2 w.2) := by
  show ((if v.1.1 = 0 then fmul v.2 w.1 else fmul v.1 w.2), fmul v.2 w.2) = _
  rw [if_pos h]
theorem smulB {v w : tl_S} (h : ¬ v.1.1 = 0) : smul v w = (fmul v.1 w.2, fmul v.2 w.2) := by
  show ((if v.1.1 = 0 then fmul v.2 w.1 else fmul v.1 w.2), fmul v.2 w.2) = _
  rw [if_neg h]
set_option maxHeartbeats 4000000 in
set_option maxRecDepth 100000 in
/-- TutorLinesModel.factor behind a star -/
theorem c_X9_factorS {l : Launch} {G : tm_G} {Hb : Heap} {sh : tm_sh} {M : tm_M} {o fa kk lv len : Nat} (h : isMo sh M o) (hlv : mI M o 18 = lv) (hl9 : lv < 9) (hfa : sh fa = some (21, len)) (hlen : kk + 4 ≤ len ∧ len < 100) (hne : fa ≠ o + 7) (hst : ¬ mI M (o + 11) lv = -1) (hsi : inI (mI M (o + 11) lv)) (hv : sok (asS M (o + 7) (4 * lv))) (hw : sok (asS M fa kk)) : Met l yX9_factor (tws yX9_factor cX9_factor 15 (some .boolean)) ({ frames := 2, cells := 0, slots := 0, locals := 55 }) (va_Pc [.ref o, .ref fa, ji (kk : Nat)] (tm_St G Hb sh M)) (tm_Qi G Hb sh (fun r M1 => fq (pF o lv) M M1 ∧ ((r = 1 ∧ ¬ (¬ (asS M (o + 7) (4 * lv)).1.1 = 0 ∧ ¬ (asS M fa kk).1.1 = 0) ∧ sfit (smul (asS M (o + 7) (4 * lv)) (asS M fa kk)) ∧ asS M1 (o + 7) (4 * lv) = smul (asS M (o + 7) (4 * lv)) (asS M fa kk) ∧ mI M1 (o + 11) lv = -1) ∨ (r = 0 ∧ ((¬ (asS M (o + 7) (4 * lv)).1.1 = 0 ∧ ¬ (asS M fa kk).1.1 = 0) ∨ ¬ sfit (smul (asS M (o + 7) (4 * lv)) (asS M fa kk))) ∧ mI M1 o 21 = mI M (o + 11) lv)))) 0 0 (tm_A Hb) := by
  refine tm_begin (by decide) (Nat.le_of_ble_eq_true rfl) (fun p e s m below meth c ls hx hb hr hml hown htw hlk hnm hK hW hl => ?_)
  have hS : va_S (tm_A Hb) s.heap s.heap [] := va_S.rf
  have hl : lv_has ls 15 [(0, .ref o), (1, .ref fa), (2, ji (kk : Nat))] := hl
  obtain ⟨b0, ⟨t1, t2, t6, t7, t9, t12, t13, t14, t15, t16, t17, t24⟩, ⟨u1, u2, u3, u4, u5, u6, u7, u8, u9, u10, u11, u12⟩⟩ := h
  have et : (mI M o 18).toNat = lv := by omega
  have hfo : fa ≠ o := fun q => by rw [q, b0] at hfa; cases hfa
  obtain ⟨v1, v2⟩ := hv
  obtain ⟨w1, w2⟩ := hw
  have e0 : (4 * (lv : Int)).toNat = 4 * lv := by omega
  have e2 : (4 * (lv : Int) + 2).toNat = 4 * lv + 2 := by omega
  have e3 : (4 * (lv : Int) + 3).toNat = 4 * lv + 3 := by omega
  have ea : (4 * (lv : Int) + 0).toNat = 4 * lv := by omega
  have eb : (4 * (lv : Int) + 0 + 1).toNat = 4 * lv + 1 := by omega
  have ec : (4 * (lv : Int) + (0 + 2)).toNat = 4 * lv + 2 := by omega
  have ed : (4 * (lv : Int) + (0 + 2) + 1).toNat = 4 * lv + 3 := by omega
  have k0 : (kk : Int).toNat = kk := by omega
  have k2 : ((kk : Int) + 2).toNat = kk + 2 := by omega
  have k3 : ((kk : Int) + 3).toNat = kk + 3 := by omega
  have ka : ((kk : Int) + 0).toNat = kk := by omega
  have kb : ((kk : Int) + 0 + 1).toNat = kk + 1 := by omega
  have kc : ((kk : Int) + (0 + 2)).toNat = kk + 2 := by omega
  have kd : ((kk : Int) + (0 + 2) + 1).toNat = kk + 3 := by omega
  refine ti_iconst hx hb dX9_factor_0 ?_
  refine lv_aload_n hx hb dX9_factor_1 rfl (lv_at hl 0 rfl) ?_
  refine gf_X9_100 hx hb htw hown hK hW (by assumption) dX9_factor_2 ?_
  rw [hlv]
  refine ti_imul hx hb dX9_factor_5 ?_
  refine lv_istore_n (lv' := [(3, _), (0, _), (1, _), (2, _)]) hx hb dX9_factor_6 rfl hl (by decide) rfl (fun ls hl => ?_)
  refine lv_aload_n hx hb dX9_factor_7 rfl (lv_at hl 1 rfl) ?_
  refine gf_X9_42 hx hb htw hown hK hW (by assumption) t17 dX9_factor_8 ?_
  refine lv_aload_n hx hb dX9_factor_11 rfl (lv_at hl 1 rfl) ?_
  refine gf_X9_100 hx hb htw hown hK hW (by assumption) dX9_factor_12 ?_
  refine tm_iald hx hb hK hW (by assumption) (by omega) (by omega) (by decide) dX9_factor_15 ?_
  rw [et]
  refine ti_iconst hx hb dX9_factor_16 ?_
  refine ti_icmp_ne (tgt := 52) hx hb dX9_factor_17 (by decide) hsi (by decide) (fun h17 => ?_) (fun h17 => ?_)
  · refine lv_aload_n hx hb dX9_factor_52 rfl (lv_at hl 1 rfl) ?_
    refine gf_X9_42 hx hb htw hown hK hW (by assumption) t17 dX9_factor_53 ?_
    refine lv_aload_n hx hb dX9_factor_56 rfl (lv_at hl 1 rfl) ?_
    refine gf_X9_100 hx hb htw hown hK hW (by assumption) dX9_factor_57 ?_
    refine tm_iald hx hb hK hW (by assumption) (by omega) (by omega) (by decide) dX9_factor_60 ?_
    rw [et]
    refine lv_istore (lv' := [(4, _), (3, _), (0, _), (1, _), (2, _)]) hx hb dX9_factor_61 hl (by decide) rfl (fun ls hl => ?_)
    refine lv_aload_n hx hb dX9_factor_63 rfl (lv_at hl 2 rfl) ?_
    refine gf_X9_42 hx hb htw hown hK hW (by assumption) t17 dX9_factor_64 ?_
    refine lv_aload_n hx hb dX9_factor_67 rfl (lv_at hl 2 rfl) ?_
    refine gf_X9_100 hx hb htw hown hK hW (by assumption) dX9_factor_68 ?_
    rw [hlv]
    refine ti_iconst hx hb dX9_factor_71 ?_
    refine tm_iast hx hb hK hW hS (by assumption) (by omega) (by omega) (by decide) dX9_factor_72 (fun H locs hW hS => ?_)
    have fA : fq (pF o lv) M (sI M (o + 11) (lv : Int).toNat (-1)) := fq_sI (Or.inr (Or.inr ⟨rfl, by omega⟩))
    have sA : mI (sI M (o + 11) (lv : Int).toNat (-1)) (o + 11) lv = -1 := by rw [show (lv : Int).toNat = lv by omega]; exact tm_up_s _ _ _ _
    have LA : mL (sI M (o + 11) (lv : Int).toNat (-1)) = mL M := rfl
    have t13A : mR (sI M (o + 11) (lv : Int).toNat (-1)) o 13 = some (o + 7) := t13
    have hlA : mI (sI M (o + 11) (lv : Int).toNat (-1)) o 18 = lv := (tm_up_a _ _ (by omega)).trans hlv
    generalize (sI M (o + 11) (lv : Int).toNat (-1)) = A at hW fA sA LA t13A hlA
    refine lv_aload_n hx hb dX9_factor_73 rfl (lv_at hl 2 rfl) ?_
    refine gf_X9_29 hx hb htw hown hK hW (by assumption) t13A dX9_factor_74 ?_
    refine lv_iload_n hx hb dX9_factor_77 rfl (lv_at hl 1 rfl) ?_
    refine tm_lald hx hb hK hW (by assumption) (by omega) (by omega) (by decide) dX9_factor_78 ?_
    rw [LA, e0]
    refine ti_lconst0 hx hb dX9_factor_79 ?_
    refine ti_lcmp_eq (tgt := 99) hx hb dX9_factor_80 dX9_factor_81 (by decide) (show inL (asS M (o + 7) (4 * lv)).1.1 from (fok_L v1).1) (by decide) (fun h80 => ?_) (fun h80 => ?_)
    · refine lv_aload_n hx hb dX9_factor_99 rfl (lv_at hl 2 rfl) ?_
      refine gf_X9_29 hx hb htw hown hK hW (by assumption) t13A dX9_factor_100 ?_
      refine lv_iload_n hx hb dX9_factor_103 rfl (lv_at hl 1 rfl) ?_
      refine tm_lald hx hb hK hW (by assumption) (by omega) (by omega) (by decide) dX9_factor_104 ?_
      rw [LA, e0]
      refine ti_lconst0 hx hb dX9_factor_105 ?_
      refine ti_lcmp_ne (tgt := 114) hx hb dX9_factor_106 dX9_factor_107 (by decide) (show inL (asS M (o + 7) (4 * lv)).1.1 from (fok_L v1).1) (by decide) (fun h106 => ?_) (fun h106 => ?_)
      · exact absurd h80 h106
      · refine ti_iconst hx hb dX9_factor_110 ?_
        refine lv_goto (tgt := 115) hx hb dX9_factor_111 (by decide) ?_
        refine lv_istore (lv' := [(5, _), (4, _), (3, _), (0, _), (1, _), (2, _)]) hx hb dX9_factor_115 hl (by decide) rfl (fun ls hl => ?_)
        refine lv_iload hx hb dX9_factor_117 (lv_at hl 0 rfl) ?_
        refine ti_if_eq (tgt := 133) hx hb dX9_factor_119 (by decide) (by decide) (fun h119 => ?_) (fun h119 => ?_)
        · exact absurd h119 (by decide)
        · refine lv_aload_n hx hb dX9_factor_122 rfl (lv_at hl 3 rfl) ?_
          refine gf_X9_29 hx hb htw hown hK hW (by assumption) t13A dX9_factor_123 ?_
          refine lv_iload_n hx hb dX9_factor_126 rfl (lv_at hl 2 rfl) ?_
          refine ti_iconst hx hb dX9_factor_127 ?_
          refine ti_iadd hx hb dX9_factor_128 ?_
          refine tm_lald hx hb hK hW (by assumption) (by omega) (by omega) (by decide) dX9_factor_129 ?_
          rw [LA, e2]
          refine lv_goto (tgt := 138) hx hb dX9_factor_130 (by decide) ?_
          first | rw [LA, k2] | skip
          refine lv_lstore (lv' := [(6, _), (5, _), (4, _), (3, _), (0, _), (1, _), (2, _)]) hx hb dX9_factor_138 hl (by decide) rfl (fun ls hl => ?_)
          refine lv_iload hx hb dX9_factor_140 (lv_at hl 1 rfl) ?_
          refine ti_if_eq (tgt := 156) hx hb dX9_factor_142 (by decide) (by decide) (fun h142 => ?_) (fun h142 => ?_)
          · exact absurd h142 (by decide)
          · refine lv_aload_n hx hb dX9_factor_145 rfl (lv_at hl 4 rfl) ?_
            refine gf_X9_29 hx hb htw hown hK hW (by assumption) t13A dX9_factor_146 ?_
            refine lv_iload_n hx hb dX9_factor_149 rfl (lv_at hl 3 rfl) ?_
            refine ti_iconst hx hb dX9_factor_150 ?_
            refine ti_iadd hx hb dX9_factor_151 ?_
            refine tm_lald hx hb hK hW (by assumption) (by omega) (by omega) (by decide) dX9_factor_152 ?_
            rw [LA, e3]
            refine lv_goto (tgt := 161) hx hb dX9_factor_153 (by decide) ?_
            first | rw [LA, k3] | skip
            refine lv_lstore (lv' := [(8, _), (6, _), (5, _), (4, _), (3, _), (0, _), (1, _), (2, _)]) hx hb dX9_factor_161 hl (by decide) rfl (fun ls hl => ?_)
            refine ti_iconst hx hb dX9_factor_163 ?_
            refine lv_istore (lv' := [(10, _), (8, _), (6, _), (5, _), (4, _), (3, _), (0, _), (1, _), (2, _)]) hx hb dX9_factor_164 hl (by decide) rfl (fun ls hl => ?_)
            refine lv_iload hx hb dX9_factor_166 (lv_at hl 0 rfl) ?_
            refine ti_iconst hx hb dX9_factor_168 ?_
            refine ti_icmp_ge (tgt := 288) hx hb dX9_factor_169 (by decide) (by decide) (by decide) (fun h169 => ?_) (fun h169 => ?_)
            · exact absurd h169 (by decide)
            · refine lv_iload hx hb dX9_factor_172 (lv_at hl 3 rfl) ?_
              refine ti_if_eq (tgt := 186) hx hb dX9_factor_174 (by decide) (by decide) (fun h174 => ?_) (fun h174 => ?_)
              · exact absurd h174 (by decide)
              · refine lv_aload_n hx hb dX9_factor_177 rfl (lv_at hl 7 rfl) ?_
                refine lv_iload_n hx hb dX9_factor_178 rfl (lv_at hl 8 rfl) ?_
                refine lv_iload hx hb dX9_factor_179 (lv_at hl 0 rfl) ?_
                refine ti_iadd hx hb dX9_factor_181 ?_
                refine tm_lald hx hb hK hW hfa (by omega) (by omega) (by omega) dX9_factor_182 ?_
                refine lv_goto (tgt := 195) hx hb dX9_factor_183 (by decide) ?_
                rw [LA, ka]
                refine lv_lstore (lv' := [(11, _), (10, _), (8, _), (6, _), (5, _), (4, _), (3, _), (0, _), (1, _), (2, _)]) hx hb dX9_factor_195 hl (by decide) rfl (fun ls hl => ?_)
                refine lv_iload hx hb dX9_factor_197 (lv_at hl 4 rfl) ?_
                refine ti_if_eq (tgt := 213) hx hb dX9_factor_199 (by decide) (by decide) (fun h199 => ?_) (fun h199 => ?_)
                · exact absurd h199 (by decide)
                · refine lv_aload_n hx hb dX9_factor_202 rfl (lv_at hl 8 rfl) ?_
                  refine lv_iload_n hx hb dX9_factor_203 rfl (lv_at hl 9 rfl) ?_
                  refine lv_iload hx hb dX9_factor_204 (lv_at hl 1 rfl) ?_
                  refine ti_iadd hx hb dX9_factor_206 ?_
                  refine ti_iconst hx hb dX9_factor_207 ?_
                  refine ti_iadd hx hb dX9_factor_208 ?_
                  refine tm_lald hx hb hK hW hfa (by omega) (by omega) (by omega) dX9_factor_209 ?_
                  refine lv_goto (tgt := 224) hx hb dX9_factor_210 (by decide) ?_
                  rw [LA, kb]
                  refine lv_lstore (lv' := [(13, _), (11, _), (10, _), (8, _), (6, _), (5, _), (4, _), (3, _), (0, _), (1, _), (2, _)]) hx hb dX9_factor_224 hl (by decide) rfl (fun ls hl => ?_)
                  refine lv_aload_n hx hb dX9_factor_226 rfl (lv_at hl 8 rfl) ?_
                  refine lv_lload hx hb dX9_factor_227 (lv_at hl 1 rfl) ?_
                  refine lv_lload hx hb dX9_factor_229 (lv_at hl 4 rfl) ?_
                  refine ti_lmul hx hb dX9_factor_231 ?_
                  refine lv_lload hx hb dX9_factor_232 (lv_at hl 0 rfl) ?_
                  refine lv_lload hx hb dX9_factor_234 (lv_at hl 3 rfl) ?_
                  refine ti_lmul hx hb dX9_factor_236 ?_
                  refine tm_callv (cs_X9_106 hx hb hml hown htw hK hW (by assumption) (c_X9_make b0 (tl_bd w1 v2).2.2.2.2.1 (tl_bd w1 v2).2.1 (tl_bd w1 v2).1) ⟨rfl, rfl, Nat.le_of_ble_eq_true rfl, Nat.le_of_ble_eq_true rfl⟩ hl.1 (Nat.le_of_ble_eq_true rfl) dX9_factor_237 ⟨Nat.le_of_ble_eq_true rfl, Nat.le_of_ble_eq_true rfl⟩) hS (fun M237 H locs hp237 hW hS => ?_)
                  have hp237 : M237 = mk A o (tl_norm ((asS M fa kk).1.1 * (asS M (o + 7) (4 * lv)).2.1) ((asS M fa kk).1.2 * (asS M (o + 7) (4 * lv)).2.2)) := hp237
                  rw [fmul_c (asS M fa kk).1 (asS M (o + 7) (4 * lv)).2] at hp237
                  have hp237 : M237 = mk A o (fmul (asS M (o + 7) (4 * lv)).2 (asS M fa kk).1) := hp237
                  have x1 : mL M237 o 10 = (fmul (asS M (o + 7) (4 * lv)).2 (asS M fa kk).1).1 := by rw [hp237]; exact mk_0 _ _ _
                  have y1 : mL M237 o 11 = (fmul (asS M (o + 7) (4 * lv)).2 (asS M fa kk).1).2 := by rw [hp237]; exact mk_1 _ _ _
                  have n1 : ∀ a k, a ≠ o → mL M237 a k = mL M a k := fun a k q => by rw [hp237, mk_n _ _ (Or.inl q), LA]
                  have f1 : fq (pF o lv) M M237 := fq_tr fA (by rw [hp237]; exact fq_mk (Or.inl ⟨rfl, by omega⟩) (Or.inl ⟨rfl, by omega⟩))
                  have s1 : mI M237 (o + 11) lv = -1 := by rw [hp237]; exact sA
                  have r1 : mR M237 o 13 = some (o + 7) := by rw [f1.1]; exact t13
                  refine lv_aload_n hx hb dX9_factor_240 rfl (lv_at hl 8 rfl) ?_
                  refine tm_calli (cs_X9_110 hx hb hml hown htw hK hW (by assumption) (c_X9_isGreat (f := fmul (asS M (o + 7) (4 * lv)).2 (asS M fa kk).1) b0 x1 y1 (fLok_mul v2 w1)) ⟨rfl, rfl, Nat.le_of_ble_eq_true rfl, Nat.le_of_ble_eq_true rfl⟩ hl.1 (Nat.le_of_ble_eq_true rfl) dX9_factor_241 ⟨Nat.le_of_ble_eq_true rfl, Nat.le_of_ble_eq_true rfl⟩) hS (fun x241 M241 H locs hp241 hW hS => ?_)
                  obtain ⟨ex241, eM241⟩ := hp241
                  rw [eM241] at hW
                  rw [ex241]
                  refine ti_if_eq (tgt := 254) hx hb dX9_factor_244 (by decide) (tl_b_r _) (fun h244 => ?_) (fun h244 => ?_)
                  · have ok1 := Decidable.not_not.mp (tl_b_0.mp h244)
                    refine lv_aload_n hx hb dX9_factor_254 rfl (lv_at hl 8 rfl) ?_
                    refine gf_X9_29 hx hb htw hown hK hW (by assumption) r1 dX9_factor_255 ?_
                    refine lv_iload_n hx hb dX9_factor_258 rfl (lv_at hl 7 rfl) ?_
                    refine lv_iload hx hb dX9_factor_259 (lv_at hl 2 rfl) ?_
                    refine ti_iadd hx hb dX9_factor_261 ?_
                    refine lv_aload_n hx hb dX9_factor_262 rfl (lv_at hl 8 rfl) ?_
                    refine gf_X9_56 hx hb htw hown hK hW (by assumption) dX9_factor_263 ?_
                    refine tm_last hx hb hK hW hS (by assumption) (by omega) (by omega) (by decide) dX9_factor_266 (fun H locs hW hS => ?_)
                    refine lv_aload_n hx hb dX9_factor_267 rfl (lv_at hl 8 rfl) ?_
                    refine gf_X9_29 hx hb htw hown hK hW (by assumption) r1 dX9_factor_268 ?_
                    refine lv_iload_n hx hb dX9_factor_271 rfl (lv_at hl 7 rfl) ?_
                    refine lv_iload hx hb dX9_factor_272 (lv_at hl 2 rfl) ?_
                    refine ti_iadd hx hb dX9_factor_274 ?_
                    refine ti_iconst hx hb dX9_factor_275 ?_
                    refine ti_iadd hx hb dX9_factor_276 ?_
                    refine lv_aload_n hx hb dX9_factor_277 rfl (lv_at hl 8 rfl) ?_
                    refine gf_X9_60 hx hb htw hown hK hW (by assumption) dX9_factor_278 ?_
                    refine tm_last hx hb hK hW hS (by assumption) (by omega) (by omega) (by decide) dX9_factor_281 (fun H locs hW hS => ?_)
                    have hC : sL (sL M237 (o + 7) (4 * (lv : Int) + 0).toNat (mL M237 o 10)) (o + 7) (4 * (lv : Int) + 0 + 1).toNat (mL (sL M237 (o + 7) (4 * (lv : Int) + 0).toNat (mL M237 o 10)) o 11) = st2 M237 (o + 7) (4 * lv) (fmul (asS M (o + 7) (4 * lv)).2 (asS M fa kk).1) := by rw [ea, eb, x1, show mL (sL M237 (o + 7) (4 * lv) (fmul (asS M (o + 7) (4 * lv)).2 (asS M fa kk).1).1) o 11 = (fmul (asS M (o + 7) (4 * lv)).2 (asS M fa kk).1).2 from (tm_up_a _ _ (by omega)).trans y1]
                    rw [hC] at hW
                    have oC0 : mL (st2 M237 (o + 7) (4 * lv) (fmul (asS M (o + 7) (4 * lv)).2 (asS M fa kk).1)) (o + 7) (4 * lv) = (fmul (asS M (o + 7) (4 * lv)).2 (asS M fa kk).1).1 := st2_0 _ _ _ _
                    have oC1 : mL (st2 M237 (o + 7) (4 * lv) (fmul (asS M (o + 7) (4 * lv)).2 (asS M fa kk).1)) (o + 7) (4 * lv + 1) = (fmul (asS M (o + 7) (4 * lv)).2 (asS M fa kk).1).2 := st2_1 _ _ _ _
                    have oC : ∀ a k, (a ≠ o + 7 ∨ (k ≠ 4 * lv ∧ k ≠ 4 * lv + 1)) → a ≠ o → mL (st2 M237 (o + 7) (4 * lv) (fmul (asS M (o + 7) (4 * lv)).2 (asS M fa kk).1)) a k = mL M a k := fun a k q q2 => (st2_n _ _ q).trans (n1 a k q2)
                    have fC : fq (pF o lv) M (st2 M237 (o + 7) (4 * lv) (fmul (asS M (o + 7) (4 * lv)).2 (asS M fa kk).1)) := fq_tr f1 (fq_st2 (Or.inr (Or.inl ⟨rfl, by omega, by omega⟩)) (Or.inr (Or.inl ⟨rfl, by omega, by omega⟩)))
                    have sC : mI (st2 M237 (o + 7) (4 * lv) (fmul (asS M (o + 7) (4 * lv)).2 (asS M fa kk).1)) (o + 11) lv = -1 := s1
                    have rC : mR (st2 M237 (o + 7) (4 * lv) (fmul (asS M (o + 7) (4 * lv)).2 (asS M fa kk).1)) o 13 = some (o + 7) := r1
                    generalize st2 M237 (o + 7) (4 * lv) (fmul (asS M (o + 7) (4 * lv)).2 (asS M fa kk).1) = C at hW oC0 oC1 oC fC sC rC
                    refine ti_iinc (k := 2) (lv' := [(10, _), (13, _), (11, _), (8, _), (6, _), (5, _), (4, _), (3, _), (0, _), (1, _), (2, _)]) hx hb dX9_factor_282 hl rfl (by decide) rfl (fun ls hl => ?_)
                    refine lv_goto (tgt := 166) hx hb dX9_factor_285 (by decide) ?_
                    refine lv_iload hx hb dX9_factor_166 (lv_at hl 0 rfl) ?_
                    refine ti_iconst hx hb dX9_factor_168 ?_
                    refine ti_icmp_ge (tgt := 288) hx hb dX9_factor_169 (by decide) (by decide) (by decide) (fun h169 => ?_) (fun h169 => ?_)
                    · exact absurd h169 (by decide)
                    · refine lv_iload hx hb dX9_factor_172 (lv_at hl 5 rfl) ?_
                      refine ti_if_eq (tgt := 186) hx hb dX9_factor_174 (by decide) (by decide) (fun h174 => ?_) (fun h174 => ?_)
                      · exact absurd h174 (by decide)
                      · refine lv_aload_n hx hb dX9_factor_177 rfl (lv_at hl 9 rfl) ?_
                        refine lv_iload_n hx hb dX9_factor_178 rfl (lv_at hl 10 rfl) ?_
                        refine lv_iload hx hb dX9_factor_179 (lv_at hl 0 rfl) ?_
                        refine ti_iadd hx hb dX9_factor_181 ?_
                        refine tm_lald hx hb hK hW hfa (by omega) (by omega) (by omega) dX9_factor_182 ?_
                        refine lv_goto (tgt := 195) hx hb dX9_factor_183 (by decide) ?_
                        rw [kc, oC fa (kk + 2) (Or.inl hne) hfo]
                        refine lv_lstore (lv' := [(11, _), (10, _), (13, _), (8, _), (6, _), (5, _), (4, _), (3, _), (0, _), (1, _), (2, _)]) hx hb dX9_factor_195 hl (by decide) rfl (fun ls hl => ?_)
                        refine lv_iload hx hb dX9_factor_197 (lv_at hl 5 rfl) ?_
                        refine ti_if_eq (tgt := 213) hx hb dX9_factor_199 (by decide) (by decide) (fun h199 => ?_) (fun h199 => ?_)
                        · exact absurd h199 (by decide)
                        · refine lv_aload_n hx hb dX9_factor_202 rfl (lv_at hl 9 rfl) ?_
                          refine lv_iload_n hx hb dX9_factor_203 rfl (lv_at hl 10 rfl) ?_
                          refine lv_iload hx hb dX9_factor_204 (lv_at hl 1 rfl) ?_
                          refine ti_iadd hx hb dX9_factor_206 ?_
                          refine ti_iconst hx hb dX9_factor_207 ?_
                          refine ti_iadd hx hb dX9_factor_208 ?_
                          refine tm_lald hx hb hK hW hfa (by omega) (by omega) (by omega) dX9_factor_209 ?_
                          refine lv_goto (tgt := 224) hx hb dX9_factor_210 (by decide) ?_
                          rw [kd, oC fa (kk + 3) (Or.inl hne) hfo]
                          refine lv_lstore (lv' := [(13, _), (11, _), (10, _), (8, _), (6, _), (5, _), (4, _), (3, _), (0, _), (1, _), (2, _)]) hx hb dX9_factor_224 hl (by decide) rfl (fun ls hl => ?_)
                          refine lv_aload_n hx hb dX9_factor_226 rfl (lv_at hl 8 rfl) ?_
                          refine lv_lload hx hb dX9_factor_227 (lv_at hl 1 rfl) ?_
                          refine lv_lload hx hb dX9_factor_229 (lv_at hl 4 rfl) ?_
                          refine ti_lmul hx hb dX9_factor_231 ?_
                          refine lv_lload hx hb dX9_factor_232 (lv_at hl 0 rfl) ?_
                          refine lv_lload hx hb dX9_factor_234 (lv_at hl 3 rfl) ?_
                          refine ti_lmul hx hb dX9_factor_236 ?_
                          refine tm_callv (cs_X9_106 hx hb hml hown htw hK hW (by assumption) (c_X9_make b0 (tl_bd w2 v2).2.2.2.2.1 (tl_bd w2 v2).2.1 (tl_bd w2 v2).1) ⟨rfl, rfl, Nat.le_of_ble_eq_true rfl, Nat.le_of_ble_eq_true rfl⟩ hl.1 (Nat.le_of_ble_eq_true rfl) dX9_factor_237 ⟨Nat.le_of_ble_eq_true rfl, Nat.le_of_ble_eq_true rfl⟩) hS (fun M237 H locs hp237 hW hS => ?_)
                          have hp237 : M237 = mk C o (tl_norm ((asS M fa kk).2.1 * (asS M (o + 7) (4 * lv)).2.1) ((asS M fa kk).2.2 * (asS M (o + 7) (4 * lv)).2.2)) := hp237
                          rw [fmul_c (asS M fa kk).2 (asS M (o + 7) (4 * lv)).2] at hp237
                          have hp237 : M237 = mk C o (fmul (asS M (o + 7) (4 * lv)).2 (asS M fa kk).2) := hp237
                          have x2 : mL M237 o 10 = (fmul (asS M (o + 7) (4 * lv)).2 (asS M fa kk).2).1 := by rw [hp237]; exact mk_0 _ _ _
                          have y2 : mL M237 o 11 = (fmul (asS M (o + 7) (4 * lv)).2 (asS M fa kk).2).2 := by rw [hp237]; exact mk_1 _ _ _
                          have n2 : ∀ a k, a ≠ o → mL M237 a k = mL C a k := fun a k q => by rw [hp237, mk_n _ _ (Or.inl q)]
                          have f2 : fq (pF o lv) M M237 := fq_tr fC (by rw [hp237]; exact fq_mk (Or.inl ⟨rfl, by omega⟩) (Or.inl ⟨rfl, by omega⟩))
                          have s2 : mI M237 (o + 11) lv = -1 := by rw [hp237]; exact sC
                          have r2 : mR M237 o 13 = some (o + 7) := by rw [f2.1]; exact t13
                          refine lv_aload_n hx hb dX9_factor_240 rfl (lv_at hl 8 rfl) ?_
                          refine tm_calli (cs_X9_110 hx hb hml hown htw hK hW (by assumption) (c_X9_isGreat (f := fmul (asS M (o + 7) (4 * lv)).2 (asS M fa kk).2) b0 x2 y2 (fLok_mul v2 w2)) ⟨rfl, rfl, Nat.le_of_ble_eq_true rfl, Nat.le_of_ble_eq_true rfl⟩ hl.1 (Nat.le_of_ble_eq_true rfl) dX9_factor_241 ⟨Nat.le_of_ble_eq_true rfl, Nat.le_of_ble_eq_true rfl⟩) hS (fun x241 M241 H locs hp241 hW hS => ?_)
                          obtain ⟨ex241, eM241⟩ := hp241
                          rw [eM241] at hW
                          rw [ex241]
                          refine ti_if_eq (tgt := 254) hx hb dX9_factor_244 (by decide) (tl_b_r _) (fun h244 => ?_) (fun h244 => ?_)
                          · have ok2 := Decidable.not_not.mp (tl_b_0.mp h244)
                            refine lv_aload_n hx hb dX9_factor_254 rfl (lv_at hl 8 rfl) ?_
                            refine gf_X9_29 hx hb htw hown hK hW (by assumption) r2 dX9_factor_255 ?_
                            refine lv_iload_n hx hb dX9_factor_258 rfl (lv_at hl 7 rfl) ?_
                            refine lv_iload hx hb dX9_factor_259 (lv_at hl 2 rfl) ?_
                            refine ti_iadd hx hb dX9_factor_261 ?_
                            refine lv_aload_n hx hb dX9_factor_262 rfl (lv_at hl 8 rfl) ?_
                            refine gf_X9_56 hx hb htw hown hK hW (by assumption) dX9_factor_263 ?_
                            refine tm_last hx hb hK hW hS (by assumption) (by omega) (by omega) (by decide) dX9_factor_266 (fun H locs hW hS => ?_)
                            refine lv_aload_n hx hb dX9_factor_267 rfl (lv_at hl 8 rfl) ?_
                            refine gf_X9_29 hx hb htw hown hK hW (by assumption) r2 dX9_factor_268 ?_
                            refine lv_iload_n hx hb dX9_factor_271 rfl (lv_at hl 7 rfl) ?_
                            refine lv_iload hx hb dX9_factor_272 (lv_at hl 2 rfl) ?_
                            refine ti_iadd hx hb dX9_factor_274 ?_
                            refine ti_iconst hx hb dX9_factor_275 ?_
                            refine ti_iadd hx hb dX9_factor_276 ?_
                            refine lv_aload_n hx hb dX9_factor_277 rfl (lv_at hl 8 rfl) ?_
                            refine gf_X9_60 hx hb htw hown hK hW (by assumption) dX9_factor_278 ?_
                            refine tm_last hx hb hK hW hS (by assumption) (by omega) (by omega) (by decide) dX9_factor_281 (fun H locs hW hS => ?_)
                            have hC2 : sL (sL M237 (o + 7) (4 * (lv : Int) + (0 + 2)).toNat (mL M237 o 10)) (o + 7) (4 * (lv : Int) + (0 + 2) + 1).toNat (mL (sL M237 (o + 7) (4 * (lv : Int) + (0 + 2)).toNat (mL M237 o 10)) o 11) = st2 M237 (o + 7) (4 * lv + 2) (fmul (asS M (o + 7) (4 * lv)).2 (asS M fa kk).2) := by rw [ec, ed, x2, show mL (sL M237 (o + 7) (4 * lv + 2) (fmul (asS M (o + 7) (4 * lv)).2 (asS M fa kk).2).1) o 11 = (fmul (asS M (o + 7) (4 * lv)).2 (asS M fa kk).2).2 from (tm_up_a _ _ (by omega)).trans y2]
                            rw [hC2] at hW
                            refine ti_iinc (k := 2) (lv' := [(10, _), (13, _), (11, _), (8, _), (6, _), (5, _), (4, _), (3, _), (0, _), (1, _), (2, _)]) hx hb dX9_factor_282 hl rfl (by decide) rfl (fun ls hl => ?_)
                            refine lv_goto (tgt := 166) hx hb dX9_factor_285 (by decide) ?_
                            refine lv_iload hx hb dX9_factor_166 (lv_at hl 0 rfl) ?_
                            refine ti_iconst hx hb dX9_factor_168 ?_
                            refine ti_icmp_ge (tgt := 288) hx hb dX9_factor_169 (by decide) (by decide) (by decide) (fun h169 => ?_) (fun h169 => ?_)
                            · refine ti_iconst hx hb dX9_factor_288 ?_
                              exact tm_zret hx hb hr hlk (by first | exact Or.inl rfl | exact Or.inr rfl | assumption) hK hW hS ⟨fq_tr f2 (fq_st2 (Or.inr (Or.inl ⟨rfl, by omega, by omega⟩)) (Or.inr (Or.inl ⟨rfl, by omega, by omega⟩))), Or.inl ⟨rfl, fun q => q.1 h80, by rw [smulA h80]; exact ⟨ok1, ok2⟩, by rw [smulA h80]; exact as_eq ((st2_n _ _ (Or.inr (by omega))).trans ((n2 _ _ (by omega)).trans oC0)) ((st2_n _ _ (Or.inr (by omega))).trans ((n2 _ _ (by omega)).trans oC1)) (st2_0 _ _ _ _) (st2_1 _ _ _ _), s2⟩⟩ dX9_factor_289
                            · exact absurd h169 (by decide)
                          · refine lv_aload_n hx hb dX9_factor_247 rfl (lv_at hl 8 rfl) ?_
                            refine lv_iload hx hb dX9_factor_248 (lv_at hl 6 rfl) ?_
                            refine tm_calli (cs_X9_103 hx hb hml hown htw hK hW (by assumption) (c_X9_fails b0) ⟨rfl, rfl, Nat.le_of_ble_eq_true rfl, Nat.le_of_ble_eq_true rfl⟩ hl.1 (Nat.le_of_ble_eq_true rfl) dX9_factor_250 ⟨Nat.le_of_ble_eq_true rfl, Nat.le_of_ble_eq_true rfl⟩) hS (fun x250 M250 H locs hp250 hW hS => ?_)
                            obtain ⟨ex250, eM250⟩ := hp250
                            rw [ex250]
                            exact tm_zret hx hb hr hlk (by first | exact Or.inl rfl | exact Or.inr rfl | assumption) hK hW hS ⟨fq_tr f2 (by rw [eM250]; exact fq_sI (Or.inl ⟨rfl, by omega⟩)), Or.inr ⟨rfl, Or.inr (fun q => by rw [smulA h80] at q; exact tl_b_n.mp h244 q.2), by rw [eM250]; exact tm_up_s _ _ _ _⟩⟩ dX9_factor_253
                  · refine lv_aload_n hx hb dX9_factor_247 rfl (lv_at hl 8 rfl) ?_
                    refine lv_iload hx hb dX9_factor_248 (lv_at hl 6 rfl) ?_
                    refine tm_calli (cs_X9_103 hx hb hml hown htw hK hW (by assumption) (c_X9_fails b0) ⟨rfl, rfl, Nat.le_of_ble_eq_true rfl, Nat.le_of_ble_eq_true rfl⟩ hl.1 (Nat.le_of_ble_eq_true rfl) dX9_factor_250 ⟨Nat.le_of_ble_eq_true rfl, Nat.le_of_ble_eq_true rfl⟩) hS (fun x250 M250 H locs hp250 hW hS => ?_)
                    obtain ⟨ex250, eM250⟩ := hp250
                    rw [ex250]
                    exact tm_zret hx hb hr hlk (by first | exact Or.inl rfl | exact Or.inr rfl | assumption) hK hW hS ⟨fq_tr f1 (by rw [eM250]; exact fq_sI (Or.inl ⟨rfl, by omega⟩)), Or.inr ⟨rfl, Or.inr (fun q => by rw [smulA h80] at q; exact tl_b_n.mp h244 q.1), by rw [eM250]; exact tm_up_s _ _ _ _⟩⟩ dX9_factor_253
    · refine lv_aload_n hx hb dX9_factor_84 rfl (lv_at hl 3 rfl) ?_
      refine lv_iload_n hx hb dX9_factor_85 rfl (lv_at hl 4 rfl) ?_
      refine tm_lald hx hb hK hW hfa (by omega) (by omega) (by omega) dX9_factor_86 ?_
      rw [LA, k0]
      refine ti_lconst0 hx hb dX9_factor_87 ?_
      refine ti_lcmp_eq (tgt := 99) hx hb dX9_factor_88 dX9_factor_89 (by decide) (show inL (asS M fa kk).1.1 from (fok_L w1).1) (by decide) (fun h88 => ?_) (fun h88 => ?_)
      · refine lv_aload_n hx hb dX9_factor_99 rfl (lv_at hl 2 rfl) ?_
        refine gf_X9_29 hx hb htw hown hK hW (by assumption) t13A dX9_factor_100 ?_
        refine lv_iload_n hx hb dX9_factor_103 rfl (lv_at hl 1 rfl) ?_
        refine tm_lald hx hb hK hW (by assumption) (by omega) (by omega) (by decide) dX9_factor_104 ?_
        rw [LA, e0]
        refine ti_lconst0 hx hb dX9_factor_105 ?_
        refine ti_lcmp_ne (tgt := 114) hx hb dX9_factor_106 dX9_factor_107 (by decide) (show inL (asS M (o + 7) (4 * lv)).1.1 from (fok_L v1).1) (by decide) (fun h106 => ?_) (fun h106 => ?_)
        · refine ti_iconst hx hb dX9_factor_114 ?_
          refine lv_istore (lv' := [(5, _), (4, _), (3, _), (0, _), (1, _), (2, _)]) hx hb dX9_factor_115 hl (by decide) rfl (fun ls hl => ?_)
          refine lv_iload hx hb dX9_factor_117 (lv_at hl 0 rfl) ?_
          refine ti_if_eq (tgt := 133) hx hb dX9_factor_119 (by decide) (by decide) (fun h119 => ?_) (fun h119 => ?_)
          · refine lv_aload_n hx hb dX9_factor_133 rfl (lv_at hl 4 rfl) ?_
            refine lv_iload_n hx hb dX9_factor_134 rfl (lv_at hl 5 rfl) ?_
            refine ti_iconst hx hb dX9_factor_135 ?_
            refine ti_iadd hx hb dX9_factor_136 ?_
            refine tm_lald hx hb hK hW hfa (by omega) (by omega) (by omega) dX9_factor_137 ?_
            first | rw [LA, k2] | skip
            refine lv_lstore (lv' := [(6, _), (5, _), (4, _), (3, _), (0, _), (1, _), (2, _)]) hx hb dX9_factor_138 hl (by decide) rfl (fun ls hl => ?_)
            refine lv_iload hx hb dX9_factor_140 (lv_at hl 1 rfl) ?_
            refine ti_if_eq (tgt := 156) hx hb dX9_factor_142 (by decide) (by decide) (fun h142 => ?_) (fun h142 => ?_)
            · refine lv_aload_n hx hb dX9_factor_156 rfl (lv_at hl 5 rfl) ?_
              refine lv_iload_n hx hb dX9_factor_157 rfl (lv_at hl 6 rfl) ?_
              refine ti_iconst hx hb dX9_factor_158 ?_
              refine ti_iadd hx hb dX9_factor_159 ?_
              refine tm_lald hx hb hK hW hfa (by omega) (by omega) (by omega) dX9_factor_160 ?_
              first | rw [LA, k3] | skip
              refine lv_lstore (lv' := [(8, _), (6, _), (5, _), (4, _), (3, _), (0, _), (1, _), (2, _)]) hx hb dX9_factor_161 hl (by decide) rfl (fun ls hl => ?_)
              refine ti_iconst hx hb dX9_factor_163 ?_
              refine lv_istore (lv' := [(10, _), (8, _), (6, _), (5, _), (4, _), (3, _), (0, _), (1, _), (2, _)]) hx hb dX9_factor_164 hl (by decide) rfl (fun ls hl => ?_)
              refine lv_iload hx hb dX9_factor_166 (lv_at hl 0 rfl) ?_
              refine ti_iconst hx hb dX9_factor_168 ?_
              refine ti_icmp_ge (tgt := 288) hx hb dX9_factor_169 (by decide) (by decide) (by decide) (fun h169 => ?_) (fun h169 => ?_)
              · exact absurd h169 (by decide)
              · refine lv_iload hx hb dX9_factor_172 (lv_at hl 3 rfl) ?_
                refine ti_if_eq (tgt := 186) hx hb dX9_factor_174 (by decide) (by decide) (fun h174 => ?_) (fun h174 => ?_)
                · refine lv_aload_n hx hb dX9_factor_186 rfl (lv_at hl 6 rfl) ?_
                  refine gf_X9_29 hx hb htw hown hK hW (by assumption) t13A dX9_factor_187 ?_
                  refine lv_iload_n hx hb dX9_factor_190 rfl (lv_at hl 5 rfl) ?_
                  refine lv_iload hx hb dX9_factor_191 (lv_at hl 0 rfl) ?_
                  refine ti_iadd hx hb dX9_factor_193 ?_
                  refine tm_lald hx hb hK hW (by assumption) (by omega) (by omega) (by decide) dX9_factor_194 ?_
                  rw [LA, ea]
                  refine lv_lstore (lv' := [(11, _), (10, _), (8, _), (6, _), (5, _), (4, _), (3, _), (0, _), (1, _), (2, _)]) hx hb dX9_factor_195 hl (by decide) rfl (fun ls hl => ?_)
                  refine lv_iload hx hb dX9_factor_197 (lv_at hl 4 rfl) ?_
                  refine ti_if_eq (tgt := 213) hx hb dX9_factor_199 (by decide) (by decide) (fun h199 => ?_) (fun h199 => ?_)
                  · refine lv_aload_n hx hb dX9_factor_213 rfl (lv_at hl 7 rfl) ?_
                    refine gf_X9_29 hx hb htw hown hK hW (by assumption) t13A dX9_factor_214 ?_
                    refine lv_iload_n hx hb dX9_factor_217 rfl (lv_at hl 6 rfl) ?_
                    refine lv_iload hx hb dX9_factor_218 (lv_at hl 1 rfl) ?_
                    refine ti_iadd hx hb dX9_factor_220 ?_
                    refine ti_iconst hx hb dX9_factor_221 ?_
                    refine ti_iadd hx hb dX9_factor_222 ?_
                    refine tm_lald hx hb hK hW (by assumption) (by omega) (by omega) (by decide) dX9_factor_223 ?_
                    rw [LA, eb]
                    refine lv_lstore (lv' := [(13, _), (11, _), (10, _), (8, _), (6, _), (5, _), (4, _), (3, _), (0, _), (1, _), (2, _)]) hx hb dX9_factor_224 hl (by decide) rfl (fun ls hl => ?_)
                    refine lv_aload_n hx hb dX9_factor_226 rfl (lv_at hl 8 rfl) ?_
                    refine lv_lload hx hb dX9_factor_227 (lv_at hl 1 rfl) ?_
                    refine lv_lload hx hb dX9_factor_229 (lv_at hl 4 rfl) ?_
                    refine ti_lmul hx hb dX9_factor_231 ?_
                    refine lv_lload hx hb dX9_factor_232 (lv_at hl 0 rfl) ?_
                    refine lv_lload hx hb dX9_factor_234 (lv_at hl 3 rfl) ?_
                    refine ti_lmul hx hb dX9_factor_236 ?_
                    refine tm_callv (cs_X9_106 hx hb hml hown htw hK hW (by assumption) (c_X9_make b0 (tl_bd v1 w2).2.2.2.2.1 (tl_bd v1 w2).2.1 (tl_bd v1 w2).1) ⟨rfl, rfl, Nat.le_of_ble_eq_true rfl, Nat.le_of_ble_eq_true rfl⟩ hl.1 (Nat.le_of_ble_eq_true rfl) dX9_factor_237 ⟨Nat.le_of_ble_eq_true rfl, Nat.le_of_ble_eq_true rfl⟩) hS (fun M237 H locs hp237 hW hS => ?_)
                    have hp237 : M237 = mk A o (fmul (asS M (o + 7) (4 * lv)).1 (asS M fa kk).2) := hp237
                    have x1 : mL M237 o 10 = (fmul (asS M (o + 7) (4 * lv)).1 (asS M fa kk).2).1 := by rw [hp237]; exact mk_0 _ _ _
                    have y1 : mL M237 o 11 = (fmul (asS M (o + 7) (4 * lv)).1 (asS M fa kk).2).2 := by rw [hp237]; exact mk_1 _ _ _
                    have n1 : ∀ a k, a ≠ o → mL M237 a k = mL M a k := fun a k q => by rw [hp237, mk_n _ _ (Or.inl q), LA]
                    have f1 : fq (pF o lv) M M237 := fq_tr fA (by rw [hp237]; exact fq_mk (Or.inl ⟨rfl, by omega⟩) (Or.inl ⟨rfl, by omega⟩))
                    have s1 : mI M237 (o + 11) lv = -1 := by rw [hp237]; exact sA
                    have r1 : mR M237 o 13 = some (o + 7) := by rw [f1.1]; exact t13
                    refine lv_aload_n hx hb dX9_factor_240 rfl (lv_at hl 8 rfl) ?_
                    refine tm_calli (cs_X9_110 hx hb hml hown htw hK hW (by assumption) (c_X9_isGreat (f := fmul (asS M (o + 7) (4 * lv)).1 (asS M fa kk).2) b0 x1 y1 (fLok_mul v1 w2)) ⟨rfl, rfl, Nat.le_of_ble_eq_true rfl, Nat.le_of_ble_eq_true rfl⟩ hl.1 (Nat.le_of_ble_eq_true rfl) dX9_factor_241 ⟨Nat.le_of_ble_eq_true rfl, Nat.le_of_ble_eq_true rfl⟩) hS (fun x241 M241 H locs hp241 hW hS => ?_)
                    obtain ⟨ex241, eM241⟩ := hp241
                    rw [eM241] at hW
                    rw [ex241]
                    refine ti_if_eq (tgt := 254) hx hb dX9_factor_244 (by decide) (tl_b_r _) (fun h244 => ?_) (fun h244 => ?_)
                    · have ok1 := Decidable.not_not.mp (tl_b_0.mp h244)
                      refine lv_aload_n hx hb dX9_factor_254 rfl (lv_at hl 8 rfl) ?_
                      refine gf_X9_29 hx hb htw hown hK hW (by assumption) r1 dX9_factor_255 ?_
                      refine lv_iload_n hx hb dX9_factor_258 rfl (lv_at hl 7 rfl) ?_
                      refine lv_iload hx hb dX9_factor_259 (lv_at hl 2 rfl) ?_
                      refine ti_iadd hx hb dX9_factor_261 ?_
                      refine lv_aload_n hx hb dX9_factor_262 rfl (lv_at hl 8 rfl) ?_
                      refine gf_X9_56 hx hb htw hown hK hW (by assumption) dX9_factor_263 ?_
                      refine tm_last hx hb hK hW hS (by assumption) (by omega) (by omega) (by decide) dX9_factor_266 (fun H locs hW hS => ?_)
                      refine lv_aload_n hx hb dX9_factor_267 rfl (lv_at hl 8 rfl) ?_
                      refine gf_X9_29 hx hb htw hown hK hW (by assumption) r1 dX9_factor_268 ?_
                      refine lv_iload_n hx hb dX9_factor_271 rfl (lv_at hl 7 rfl) ?_
                      refine lv_iload hx hb dX9_factor_272 (lv_at hl 2 rfl) ?_
                      refine ti_iadd hx hb dX9_factor_274 ?_
                      refine ti_iconst hx hb dX9_factor_275 ?_
                      refine ti_iadd hx hb dX9_factor_276 ?_
                      refine lv_aload_n hx hb dX9_factor_277 rfl (lv_at hl 8 rfl) ?_
                      refine gf_X9_60 hx hb htw hown hK hW (by assumption) dX9_factor_278 ?_
                      refine tm_last hx hb hK hW hS (by assumption) (by omega) (by omega) (by decide) dX9_factor_281 (fun H locs hW hS => ?_)
                      have hC : sL (sL M237 (o + 7) (4 * (lv : Int) + 0).toNat (mL M237 o 10)) (o + 7) (4 * (lv : Int) + 0 + 1).toNat (mL (sL M237 (o + 7) (4 * (lv : Int) + 0).toNat (mL M237 o 10)) o 11) = st2 M237 (o + 7) (4 * lv) (fmul (asS M (o + 7) (4 * lv)).1 (asS M fa kk).2) := by rw [ea, eb, x1, show mL (sL M237 (o + 7) (4 * lv) (fmul (asS M (o + 7) (4 * lv)).1 (asS M fa kk).2).1) o 11 = (fmul (asS M (o + 7) (4 * lv)).1 (asS M fa kk).2).2 from (tm_up_a _ _ (by omega)).trans y1]
                      rw [hC] at hW
                      have oC0 : mL (st2 M237 (o + 7) (4 * lv) (fmul (asS M (o + 7) (4 * lv)).1 (asS M fa kk).2)) (o + 7) (4 * lv) = (fmul (asS M (o + 7) (4 * lv)).1 (asS M fa kk).2).1 := st2_0 _ _ _ _
                      have oC1 : mL (st2 M237 (o + 7) (4 * lv) (fmul (asS M (o + 7) (4 * lv)).1 (asS M fa kk).2)) (o + 7) (4 * lv + 1) = (fmul (asS M (o + 7) (4 * lv)).1 (asS M fa kk).2).2 := st2_1 _ _ _ _
                      have oC : ∀ a k, (a ≠ o + 7 ∨ (k ≠ 4 * lv ∧ k ≠ 4 * lv + 1)) → a ≠ o → mL (st2 M237 (o + 7) (4 * lv) (fmul (asS M (o + 7) (4 * lv)).1 (asS M fa kk).2)) a k = mL M a k := fun a k q q2 => (st2_n _ _ q).trans (n1 a k q2)
                      have fC : fq (pF o lv) M (st2 M237 (o + 7) (4 * lv) (fmul (asS M (o + 7) (4 * lv)).1 (asS M fa kk).2)) := fq_tr f1 (fq_st2 (Or.inr (Or.inl ⟨rfl, by omega, by omega⟩)) (Or.inr (Or.inl ⟨rfl, by omega, by omega⟩)))
                      have sC : mI (st2 M237 (o + 7) (4 * lv) (fmul (asS M (o + 7) (4 * lv)).1 (asS M fa kk).2)) (o + 11) lv = -1 := s1
                      have rC : mR (st2 M237 (o + 7) (4 * lv) (fmul (asS M (o + 7) (4 * lv)).1 (asS M fa kk).2)) o 13 = some (o + 7) := r1
                      generalize st2 M237 (o + 7) (4 * lv) (fmul (asS M (o + 7) (4 * lv)).1 (asS M fa kk).2) = C at hW oC0 oC1 oC fC sC rC
                      refine ti_iinc (k := 2) (lv' := [(10, _), (13, _), (11, _), (8, _), (6, _), (5, _), (4, _), (3, _), (0, _), (1, _), (2, _)]) hx hb dX9_factor_282 hl rfl (by decide) rfl (fun ls hl => ?_)
                      refine lv_goto (tgt := 166) hx hb dX9_factor_285 (by decide) ?_
                      refine lv_iload hx hb dX9_factor_166 (lv_at hl 0 rfl) ?_
                      refine ti_iconst hx hb dX9_factor_168 ?_
                      refine ti_icmp_ge (tgt := 288) hx hb dX9_factor_169 (by decide) (by decide) (by decide) (fun h169 => ?_) (fun h169 => ?_)
                      · exact absurd h169 (by decide)
                      · refine lv_iload hx hb dX9_factor_172 (lv_at hl 5 rfl) ?_
                        refine ti_if_eq (tgt := 186) hx hb dX9_factor_174 (by decide) (by decide) (fun h174 => ?_) (fun h174 => ?_)
                        · refine lv_aload_n hx hb dX9_factor_186 rfl (lv_at hl 8 rfl) ?_
                          refine gf_X9_29 hx hb htw hown hK hW (by assumption) rC dX9_factor_187 ?_
                          refine lv_iload_n hx hb dX9_factor_190 rfl (lv_at hl 7 rfl) ?_
                          refine lv_iload hx hb dX9_factor_191 (lv_at hl 0 rfl) ?_
                          refine ti_iadd hx hb dX9_factor_193 ?_
                          refine tm_lald hx hb hK hW (by assumption) (by omega) (by omega) (by decide) dX9_factor_194 ?_
                          rw [ec, oC (o + 7) (4 * lv + 2) (Or.inr (by omega)) (by omega)]
                          refine lv_lstore (lv' := [(11, _), (10, _), (13, _), (8, _), (6, _), (5, _), (4, _), (3, _), (0, _), (1, _), (2, _)]) hx hb dX9_factor_195 hl (by decide) rfl (fun ls hl => ?_)
                          refine lv_iload hx hb dX9_factor_197 (lv_at hl 5 rfl) ?_
                          refine ti_if_eq (tgt := 213) hx hb dX9_factor_199 (by decide) (by decide) (fun h199 => ?_) (fun h199 => ?_)
                          · refine lv_aload_n hx hb dX9_factor_213 rfl (lv_at hl 8 rfl) ?_
                            refine gf_X9_29 hx hb htw hown hK hW (by assumption) rC dX9_factor_214 ?_
                            refine lv_iload_n hx hb dX9_factor_217 rfl (lv_at hl 7 rfl) ?_
                            refine lv_iload hx hb dX9_factor_218 (lv_at hl 1 rfl) ?_
                            refine ti_iadd hx hb dX9_factor_220 ?_
                            refine ti_iconst hx hb dX9_factor_221 ?_
                            refine ti_iadd hx hb dX9_factor_222 ?_
                            refine tm_lald hx hb hK hW (by assumption) (by omega) (by omega) (by decide) dX9_factor_223 ?_
                            rw [ed, oC (o + 7) (4 * lv + 3) (Or.inr (by omega)) (by omega)]
                            refine lv_lstore (lv' := [(13, _), (11, _), (10, _), (8, _), (6, _), (5, _), (4, _), (3, _), (0, _), (1, _), (2, _)]) hx hb dX9_factor_224 hl (by decide) rfl (fun ls hl => ?_)
                            refine lv_aload_n hx hb dX9_factor_226 rfl (lv_at hl 8 rfl) ?_
                            refine lv_lload hx hb dX9_factor_227 (lv_at hl 1 rfl) ?_
                            refine lv_lload hx hb dX9_factor_229 (lv_at hl 4 rfl) ?_
                            refine ti_lmul hx hb dX9_factor_231 ?_
                            refine lv_lload hx hb dX9_factor_232 (lv_at hl 0 rfl) ?_
                            refine lv_lload hx hb dX9_factor_234 (lv_at hl 3 rfl) ?_
                            refine ti_lmul hx hb dX9_factor_236 ?_
                            refine tm_callv (cs_X9_106 hx hb hml hown htw hK hW (by assumption) (c_X9_make b0 (tl_bd v2 w2).2.2.2.2.1 (tl_bd v2 w2).2.1 (tl_bd v2 w2).1) ⟨rfl, rfl, Nat.le_of_ble_eq_true rfl, Nat.le_of_ble_eq_true rfl⟩ hl.1 (Nat.le_of_ble_eq_true rfl) dX9_factor_237 ⟨Nat.le_of_ble_eq_true rfl, Nat.le_of_ble_eq_true rfl⟩) hS (fun M237 H locs hp237 hW hS => ?_)
                            have hp237 : M237 = mk C o (fmul (asS M (o + 7) (4 * lv)).2 (asS M fa kk).2) := hp237
                            have x2 : mL M237 o 10 = (fmul (asS M (o + 7) (4 * lv)).2 (asS M fa kk).2).1 := by rw [hp237]; exact mk_0 _ _ _
                            have y2 : mL M237 o 11 = (fmul (asS M (o + 7) (4 * lv)).2 (asS M fa kk).2).2 := by rw [hp237]; exact mk_1 _ _ _
                            have n2 : ∀ a k, a ≠ o → mL M237 a k = mL C a k := fun a k q => by rw [hp237, mk_n _ _ (Or.inl q)]
                            have f2 : fq (pF o lv) M M237 := fq_tr fC (by rw [hp237]; exact fq_mk (Or.inl ⟨rfl, by omega⟩) (Or.inl ⟨rfl, by omega⟩))
                            have s2 : mI M237 (o + 11) lv = -1 := by rw [hp237]; exact sC
                            have r2 : mR M237 o 13 = some (o + 7) := by rw [f2.1]; exact t13
                            refine lv_aload_n hx hb dX9_factor_240 rfl (lv_at hl 8 rfl) ?_
                            refine tm_calli (cs_X9_110 hx hb hml hown htw hK hW (by assumption) (c_X9_isGreat (f := fmul (asS M (o + 7) (4 * lv)).2 (asS M fa kk).2) b0 x2 y2 (fLok_mul v2 w2)) ⟨rfl, rfl, Nat.le_of_ble_eq_true rfl, Nat.le_of_ble_eq_true rfl⟩ hl.1 (Nat.le_of_ble_eq_true rfl) dX9_factor_241 ⟨Nat.le_of_ble_eq_true rfl, Nat.le_of_ble_eq_true rfl⟩) hS (fun x241 M241 H locs hp241 hW hS => ?_)
                            obtain ⟨ex241, eM241⟩ := hp241
                            rw [eM241] at hW
                            rw [ex241]
                            refine ti_if_eq (tgt := 254) hx hb dX9_factor_244 (by decide) (tl_b_r _) (fun h244 => ?_) (fun h244 => ?_)
                            · have ok2 := Decidable.not_not.mp (tl_b_0.mp h244)
                              refine lv_aload_n hx hb dX9_factor_254 rfl (lv_at hl 8 rfl) ?_
                              refine gf_X9_29 hx hb htw hown hK hW (by assumption) r2 dX9_factor_255 ?_
                              refine lv_iload_n hx hb dX9_factor_258 rfl (lv_at hl 7 rfl) ?_
                              refine lv_iload hx hb dX9_factor_259 (lv_at hl 2 rfl) ?_
                              refine ti_iadd hx hb dX9_factor_261 ?_
                              refine lv_aload_n hx hb dX9_factor_262 rfl (lv_at hl 8 rfl) ?_
                              refine gf_X9_56 hx hb htw hown hK hW (by assumption) dX9_factor_263 ?_
                              refine tm_last hx hb hK hW hS (by assumption) (by omega) (by omega) (by decide) dX9_factor_266 (fun H locs hW hS => ?_)
                              refine lv_aload_n hx hb dX9_factor_267 rfl (lv_at hl 8 rfl) ?_
                              refine gf_X9_29 hx hb htw hown hK hW (by assumption) r2 dX9_factor_268 ?_
                              refine lv_iload_n hx hb dX9_factor_271 rfl (lv_at hl 7 rfl) ?_
                              refine lv_iload hx hb dX9_factor_272 (lv_at hl 2 rfl) ?_
                              refine ti_iadd hx hb dX9_factor_274 ?_
                              refine ti_iconst hx hb dX9_factor_275 ?_
                              refine ti_iadd hx hb dX9_factor_276 ?_
                              refine lv_aload_n hx hb dX9_factor_277 rfl (lv_at hl 8 rfl) ?_
                              refine gf_X9_60 hx hb htw hown hK hW (by assumption) dX9_factor_278 ?_
                              refine tm_last hx hb hK hW hS (by assumption) (by omega) (by omega) (by decide) dX9_factor_281 (fun H locs hW hS => ?_)
                              have hC2 : sL (sL M237 (o + 7) (4 * (lv : Int) + (0 + 2)).toNat (mL M237 o 10)) (o + 7) (4 * (lv : Int) + (0 + 2) + 1).toNat (mL (sL M237 (o + 7) (4 * (lv : Int) + (0 + 2)).toNat (mL M237 o 10)) o 11) = st2 M237 (o + 7) (4 * lv + 2) (fmul (asS M (o + 7) (4 * lv)).2 (asS M fa kk).2) := by rw [ec, ed, x2, show mL (sL M237 (o + 7) (4 * lv + 2) (fmul (asS M (o + 7) (4 * lv)).2 (asS M fa kk).2).1) o 11 = (fmul (asS M (o + 7) (4 * lv)).2 (asS M fa kk).2).2 from (tm_up_a _ _ (by omega)).trans y2]
                              rw [hC2] at hW
                              refine ti_iinc (k := 2) (lv' := [(10, _), (13, _), (11, _), (8, _), (6, _), (5, _), (4, _), (3, _), (0, _), (1, _), (2, _)]) hx hb dX9_factor_282 hl rfl (by decide) rfl (fun ls hl => ?_)
                              refine lv_goto (tgt := 166) hx hb dX9_factor_285 (by decide) ?_
                              refine lv_iload hx hb dX9_factor_166 (lv_at hl 0 rfl) ?_
                              refine ti_iconst hx hb dX9_factor_168 ?_
                              refine ti_icmp_ge (tgt := 288) hx hb dX9_factor_169 (by decide) (by decide) (by decide) (fun h169 => ?_) (fun h169 => ?_)
                              · refine ti_iconst hx hb dX9_factor_288 ?_
                                exact tm_zret hx hb hr hlk (by first | exact Or.inl rfl | exact Or.inr rfl | assumption) hK hW hS ⟨fq_tr f2 (fq_st2 (Or.inr (Or.inl ⟨rfl, by omega, by omega⟩)) (Or.inr (Or.inl ⟨rfl, by omega, by omega⟩))), Or.inl ⟨rfl, fun q => q.2 h88, by rw [smulB h80]; exact ⟨ok1, ok2⟩, by rw [smulB h80]; exact as_eq ((st2_n _ _ (Or.inr (by omega))).trans ((n2 _ _ (by omega)).trans oC0)) ((st2_n _ _ (Or.inr (by omega))).trans ((n2 _ _ (by omega)).trans oC1)) (st2_0 _ _ _ _) (st2_1 _ _ _ _), s2⟩⟩ dX9_factor_289
                              · exact absurd h169 (by decide)
                            · refine lv_aload_n hx hb dX9_factor_247 rfl (lv_at hl 8 rfl) ?_
                              refine lv_iload hx hb dX9_factor_248 (lv_at hl 6 rfl) ?_
                              refine tm_calli (cs_X9_103 hx hb hml hown htw hK hW (by assumption) (c_X9_fails b0) ⟨rfl, rfl, Nat.le_of_ble_eq_true rfl, Nat.le_of_ble_eq_true rfl⟩ hl.1 (Nat.le_of_ble_eq_true rfl) dX9_factor_250 ⟨Nat.le_of_ble_eq_true rfl, Nat.le_of_ble_eq_true rfl⟩) hS (fun x250 M250 H locs hp250 hW hS => ?_)
                              obtain ⟨ex250, eM250⟩ := hp250
                              rw [ex250]
                              exact tm_zret hx hb hr hlk (by first | exact Or.inl rfl | exact Or.inr rfl | assumption) hK hW hS ⟨fq_tr f2 (by rw [eM250]; exact fq_sI (Or.inl ⟨rfl, by omega⟩)), Or.inr ⟨rfl, Or.inr (fun q => by rw [smulB h80] at q; exact tl_b_n.mp h244 q.2), by rw [eM250]; exact tm_up_s _ _ _ _⟩⟩ dX9_factor_253
                          · exact absurd h199 (by decide)
                        · exact absurd h174 (by decide)
                    · refine lv_aload_n hx hb dX9_factor_247 rfl (lv_at hl 8 rfl) ?_
                      refine lv_iload hx hb dX9_factor_248 (lv_at hl 6 rfl) ?_
                      refine tm_calli (cs_X9_103 hx hb hml hown htw hK hW (by assumption) (c_X9_fails b0) ⟨rfl, rfl, Nat.le_of_ble_eq_true rfl, Nat.le_of_ble_eq_true rfl⟩ hl.1 (Nat.le_of_ble_eq_true rfl) dX9_factor_250 ⟨Nat.le_of_ble_eq_true rfl, Nat.le_of_ble_eq_true rfl⟩) hS (fun x250 M250 H locs hp250 hW hS => ?_)
                      obtain ⟨ex250, eM250⟩ := hp250
                      rw [ex250]
                      exact tm_zret hx hb hr hlk (by first | exact Or.inl rfl | exact Or.inr rfl | assumption) hK hW hS ⟨fq_tr f1 (by rw [eM250]; exact fq_sI (Or.inl ⟨rfl, by omega⟩)), Or.inr ⟨rfl, Or.inr (fun q => by rw [smulB h80] at q; exact tl_b_n.mp h244 q.1), by rw [eM250]; exact tm_up_s _ _ _ _⟩⟩ dX9_factor_253
                  · exact absurd h199 (by decide)
                · exact absurd h174 (by decide)
            · exact absurd h142 (by decide)
          · exact absurd h119 (by decide)
        · exact absurd h106 h80
      · refine lv_aload_n hx hb dX9_factor_92 rfl (lv_at hl 2 rfl) ?_
        refine lv_iload hx hb dX9_factor_93 (lv_at hl 0 rfl) ?_
        refine tm_calli (cs_X9_103 hx hb hml hown htw hK hW (by assumption) (c_X9_fails b0) ⟨rfl, rfl, Nat.le_of_ble_eq_true rfl, Nat.le_of_ble_eq_true rfl⟩ hl.1 (Nat.le_of_ble_eq_true rfl) dX9_factor_95 ⟨Nat.le_of_ble_eq_true rfl, Nat.le_of_ble_eq_true rfl⟩) hS (fun x95 M95 H locs hp95 hW hS => ?_)
        obtain ⟨ex95, eM95⟩ := hp95
        rw [ex95]
        exact tm_zret hx hb hr hlk (by first | exact Or.inl rfl | exact Or.inr rfl | assumption) hK hW hS ⟨fq_tr fA (by rw [eM95]; exact fq_sI (Or.inl ⟨rfl, by omega⟩)), Or.inr ⟨rfl, Or.inl ⟨h80, h88⟩, by rw [eM95]; exact tm_up_s _ _ _ _⟩⟩ dX9_factor_98
  · exact absurd h17 hst
theorem one_eq (M : tm_M) (o : Nat) (a b : Int) : asS (sL (sL (sL (sL M (o + 12) 0 a) (o + 12) 1 1) (o + 12) 2 b) (o + 12) 3 1) (o + 12) 0 = ((a, 1), (b, 1)) := by
  show ((mL (sL (sL (sL (sL M (o + 12) 0 a) (o + 12) 1 1) (o + 12) 2 b) (o + 12) 3 1) (o + 12) 0, mL (sL (sL (sL (sL M (o + 12) 0 a) (o + 12) 1 1) (o + 12) 2 b) (o + 12) 3 1) (o + 12) 1), (mL (sL (sL (sL (sL M (o + 12) 0 a) (o + 12) 1 1) (o + 12) 2 b) (o + 12) 3 1) (o + 12) 2, mL (sL (sL (sL (sL M (o + 12) 0 a) (o + 12) 1 1) (o + 12) 2 b) (o + 12) 3 1) (o + 12) 3)) = _
  rw [show mL (sL (sL (sL (sL M (o + 12) 0 a) (o + 12) 1 1) (o + 12) 2 b) (o + 12) 3 1) (o + 12) 0 = a from (tm_up_k _ _ (by decide)).trans ((tm_up_k _ _ (by decide)).trans ((tm_up_k _ _ (by decide)).trans (tm_up_s _ _ _ _))), show mL (sL (sL (sL (sL M (o + 12) 0 a) (o + 12) 1 1) (o + 12) 2 b) (o + 12) 3 1) (o + 12) 1 = 1 from (tm_up_k _ _ (by decide)).trans ((tm_up_k _ _ (by decide)).trans (tm_up_s _ _ _ _)), show mL (sL (sL (sL (sL M (o + 12) 0 a) (o + 12) 1 1) (o + 12) 2 b) (o + 12) 3 1) (o + 12) 2 = b from (tm_up_k _ _ (by decide)).trans (tm_up_s _ _ _ _), show mL (sL (sL (sL (sL M (o + 12) 0 a) (o + 12) 1 1) (o + 12) 2 b) (o + 12) 3 1) (o + 12) 3 = 1 from tm_up_s _ _ _ _]
theorem one_n (M : tm_M) (o lv : Nat) (a b : Int) : asS (sL (sL (sL (sL M (o + 12) 0 a) (o + 12) 1 1) (o + 12) 2 b) (o + 12) 3 1) (o + 7) (4 * lv) = asS M (o + 7) (4 * lv) := by
  have e : ∀ k, mL (sL (sL (sL (sL M (o + 12) 0 a) (o + 12) 1 1) (o + 12) 2 b) (o + 12) 3 1) (o + 7) k = mL M (o + 7) k := fun k => (tm_up_a _ _ (by omega)).trans ((tm_up_a _ _ (by omega)).trans ((tm_up_a _ _ (by omega)).trans (tm_up_a _ _ (by omega))))
  show ((mL (sL (sL (sL (sL M (o + 12) 0 a) (o + 12) 1 1) (o + 12) 2 b) (o + 12) 3 1) (o + 7) _, mL (sL (sL (sL (sL M (o + 12) 0 a) (o + 12) 1 1) (o + 12) 2 b) (o + 12) 3 1) (o + 7) _), (mL (sL (sL (sL (sL M (o + 12) 0 a) (o + 12) 1 1) (o + 12) 2 b) (o + 12) 3 1) (o + 7) _, mL (sL (sL (sL (sL M (o + 12) 0 a) (o + 12) 1 1) (o + 12) 2 b) (o + 12) 3 1) (o + 7) _)) = _
  rw [e, e, e, e]
def pS (o lv : Nat) (a k : Nat) : Prop := pF o lv a k ∨ a = o + 12
theorem fq_one (M : tm_M) (o lv : Nat) (a b : Int) : fq (pS o lv) M (sL (sL (sL (sL M (o + 12) 0 a) (o + 12) 1 1) (o + 12) 2 b) (o + 12) 3 1) := fq_tr (fq_tr (fq_tr (fq_sL (Or.inr rfl)) (fq_sL (Or.inr rfl))) (fq_sL (Or.inr rfl))) (fq_sL (Or.inr rfl))
theorem dX9_simple_0 : decode cX9_simple 0 = .ok (.aload_n 0, 1) := by decide +kernel
theorem dX9_simple_1 : decode cX9_simple 1 = .ok (.getfield 45, 3) := by decide +kernel
theorem dX9_simple_4 : decode cX9_simple 4 = .ok (.iconst 0, 1) := by decide +kernel
theorem dX9_simple_5 : decode cX9_simple 5 = .ok (.lload_n 1, 1) := by decide +kernel
theorem dX9_simple_6 : decode cX9_simple 6 = .ok (.lastore, 1) := by decide +kernel
theorem dX9_simple_7 : decode cX9_simple 7 = .ok (.aload_n 0, 1) := by decide +kernel
theorem dX9_simple_8 : decode cX9_simple 8 = .ok (.getfield 45, 3) := by decide +kernel
theorem dX9_simple_11 : decode cX9_simple 11 = .ok (.iconst 1, 1) := by decide +kernel
theorem dX9_simple_12 : decode cX9_simple 12 = .ok (.lconst 1, 1) := by decide +kernel
theorem dX9_simple_13 : decode cX9_simple 13 = .ok (.lastore, 1) := by decide +kernel
theorem dX9_simple_14 : decode cX9_simple 14 = .ok (.aload_n 0, 1) := by decide +kernel
theorem dX9_simple_15 : decode cX9_simple 15 = .ok (.getfield 45, 3) := by decide +kernel
theorem dX9_simple_18 : decode cX9_simple 18 = .ok (.iconst 2, 1) := by decide +kernel
theorem dX9_simple_19 : decode cX9_simple 19 = .ok (.lload_n 3, 1) := by decide +kernel
theorem dX9_simple_20 : decode cX9_simple 20 = .ok (.lastore, 1) := by decide +kernel
theorem dX9_simple_21 : decode cX9_simple 21 = .ok (.aload_n 0, 1) := by decide +kernel
theorem dX9_simple_22 : decode cX9_simple 22 = .ok (.getfield 45, 3) := by decide +kernel
theorem dX9_simple_25 : decode cX9_simple 25 = .ok (.iconst 3, 1) := by decide +kernel
theorem dX9_simple_26 : decode cX9_simple 26 = .ok (.lconst 1, 1) := by decide +kernel
theorem dX9_simple_27 : decode cX9_simple 27 = .ok (.lastore, 1) := by decide +kernel
theorem dX9_simple_28 : decode cX9_simple 28 = .ok (.aload_n 0, 1) := by decide +kernel
theorem dX9_simple_29 : decode cX9_simple 29 = .ok (.aload_n 0, 1) := by decide +kernel
theorem dX9_simple_30 : decode cX9_simple 30 = .ok (.getfield 45, 3) := by decide +kernel
theorem dX9_simple_33 : decode cX9_simple 33 = .ok (.iconst 0, 1) := by decide +kernel
theorem dX9_simple_34 : decode cX9_simple 34 = .ok (.invokevirtual 114, 3) := by decide +kernel
theorem dX9_simple_37 : decode cX9_simple 37 = .ok (.ireturn, 1) := by decide +kernel
set_option maxHeartbeats 4000000 in
set_option maxRecDepth 100000 in
/-- TutorLinesModel.simple, no star before it -/
theorem c_X9_simpleN {l : Launch} {G : tm_G} {Hb : Heap} {sh : tm_sh} {M : tm_M} {o lv : Nat} {a b : Int} (h : isMo sh M o) (hlv : mI M o 18 = lv) (hl9 : lv < 9) (hst : mI M (o + 11) lv = -1) : Met l yX9_simple (tws yX9_simple cX9_simple 5 (some .boolean)) ({ frames := 3, cells := 0, slots := 0, locals := 89 }) (va_Pc [.ref o, jl a, jl b] (tm_St G Hb sh M)) (tm_Qi G Hb sh (fun r M1 => r = 1 ∧ asS M1 (o + 7) (4 * lv) = ((a, 1), (b, 1)) ∧ mI M1 (o + 11) lv = -1 ∧ fq (pS o lv) M M1)) 0 0 (tm_A Hb) := by
  refine tm_begin (by decide) (Nat.le_of_ble_eq_true rfl) (fun p e s m below meth c ls hx hb hr hml hown htw hlk hnm hK hW hl => ?_)
  have hS : va_S (tm_A Hb) s.heap s.heap [] := va_S.rf
  have hl : lv_has ls 5 [(0, .ref o), (1, jl a), (3, jl b)] := hl
  obtain ⟨b0, ⟨t1, t2, t6, t7, t9, t12, t13, t14, t15, t16, t17, t24⟩, ⟨u1, u2, u3, u4, u5, u6, u7, u8, u9, u10, u11, u12⟩⟩ := (id h)
  refine lv_aload_n hx hb dX9_simple_0 rfl (lv_at hl 0 rfl) ?_
  refine gf_X9_45 hx hb htw hown hK hW (by assumption) (by assumption) dX9_simple_1 ?_
  refine ti_iconst hx hb dX9_simple_4 ?_
  refine lv_lload_n hx hb dX9_simple_5 rfl (lv_at hl 1 rfl) ?_
  refine tm_last hx hb hK hW hS (by assumption) (by decide) (by decide) (by decide) dX9_simple_6 (fun H locs hW hS => ?_)
  refine lv_aload_n hx hb dX9_simple_7 rfl (lv_at hl 0 rfl) ?_
  refine gf_X9_45 hx hb htw hown hK hW (by assumption) (by assumption) dX9_simple_8 ?_
  refine ti_iconst hx hb dX9_simple_11 ?_
  refine ti_lconst1 hx hb dX9_simple_12 ?_
  refine tm_last hx hb hK hW hS (by assumption) (by decide) (by decide) (by decide) dX9_simple_13 (fun H locs hW hS => ?_)
  refine lv_aload_n hx hb dX9_simple_14 rfl (lv_at hl 0 rfl) ?_
  refine gf_X9_45 hx hb htw hown hK hW (by assumption) (by assumption) dX9_simple_15 ?_
  refine ti_iconst hx hb dX9_simple_18 ?_
  refine lv_lload_n hx hb dX9_simple_19 rfl (lv_at hl 2 rfl) ?_
  refine tm_last hx hb hK hW hS (by assumption) (by decide) (by decide) (by decide) dX9_simple_20 (fun H locs hW hS => ?_)
  refine lv_aload_n hx hb dX9_simple_21 rfl (lv_at hl 0 rfl) ?_
  refine gf_X9_45 hx hb htw hown hK hW (by assumption) (by assumption) dX9_simple_22 ?_
  refine ti_iconst hx hb dX9_simple_25 ?_
  refine ti_lconst1 hx hb dX9_simple_26 ?_
  refine tm_last hx hb hK hW hS (by assumption) (by decide) (by decide) (by decide) dX9_simple_27 (fun H locs hW hS => ?_)
  refine lv_aload_n hx hb dX9_simple_28 rfl (lv_at hl 0 rfl) ?_
  refine lv_aload_n hx hb dX9_simple_29 rfl (lv_at hl 0 rfl) ?_
  refine gf_X9_45 hx hb htw hown hK hW (by assumption) (by assumption) dX9_simple_30 ?_
  refine ti_iconst hx hb dX9_simple_33 ?_
  refine tm_calli (cs_X9_114 hx hb hml hown htw hK hW (by assumption) (c_X9_factorN (kk := 0) (lv := lv) (M := (sL (sL (sL (sL M (o + 12) 0 a) (o + 12) 1 1) (o + 12) 2 b) (o + 12) 3 1)) (isMo_m h rfl) hlv hl9 u12 (by decide) (by omega) hst) ⟨rfl, rfl, Nat.le_of_ble_eq_true rfl, Nat.le_of_ble_eq_true rfl⟩ hl.1 (Nat.le_of_ble_eq_true rfl) dX9_simple_34 ⟨Nat.le_of_ble_eq_true rfl, Nat.le_of_ble_eq_true rfl⟩) hS (fun x34 M34 H locs hp34 hW hS => ?_)
  obtain ⟨ex34, e34, s34, f34⟩ := hp34
  rw [ex34]
  exact tm_zret hx hb hr hlk (by first | exact Or.inl rfl | exact Or.inr rfl | assumption) hK hW hS ⟨rfl, e34.trans (one_eq _ _ _ _), s34, fq_tr (fq_one M o lv a b) (fq_wd f34 (fun _ _ q => Or.inl q))⟩ dX9_simple_37
theorem tl_01 {r : Int} {P Q : Prop} (h : (r = 1 ∧ P) ∨ (r = 0 ∧ Q)) : r = 0 ∨ r = 1 := by
  rcases h with q | q
  · exact Or.inr q.1
  · exact Or.inl q.1
set_option maxHeartbeats 4000000 in
set_option maxRecDepth 100000 in
/-- TutorLinesModel.simple behind a star -/
theorem c_X9_simpleS {l : Launch} {G : tm_G} {Hb : Heap} {sh : tm_sh} {M : tm_M} {o lv : Nat} {a b : Int} (h : isMo sh M o) (hlv : mI M o 18 = lv) (hl9 : lv < 9) (hst : ¬ mI M (o + 11) lv = -1) (hsi : inI (mI M (o + 11) lv)) (hv : sok (asS M (o + 7) (4 * lv))) (hw : sok ((a, 1), (b, 1))) : Met l yX9_simple (tws yX9_simple cX9_simple 5 (some .boolean)) ({ frames := 3, cells := 0, slots := 0, locals := 89 }) (va_Pc [.ref o, jl a, jl b] (tm_St G Hb sh M)) (tm_Qi G Hb sh (fun r M1 => fq (pS o lv) M M1 ∧ ((r = 1 ∧ ¬ (¬ (asS M (o + 7) (4 * lv)).1.1 = 0 ∧ ¬ a = 0) ∧ sfit (smul (asS M (o + 7) (4 * lv)) ((a, 1), (b, 1))) ∧ asS M1 (o + 7) (4 * lv) = smul (asS M (o + 7) (4 * lv)) ((a, 1), (b, 1)) ∧ mI M1 (o + 11) lv = -1) ∨ (r = 0 ∧ ((¬ (asS M (o + 7) (4 * lv)).1.1 = 0 ∧ ¬ a = 0) ∨ ¬ sfit (smul (asS M (o + 7) (4 * lv)) ((a, 1), (b, 1)))) ∧ mI M1 o 21 = mI M (o + 11) lv)))) 0 0 (tm_A Hb) := by
  refine tm_begin (by decide) (Nat.le_of_ble_eq_true rfl) (fun p e s m below meth c ls hx hb hr hml hown htw hlk hnm hK hW hl => ?_)
  have hS : va_S (tm_A Hb) s.heap s.heap [] := va_S.rf
  have hl : lv_has ls 5 [(0, .ref o), (1, jl a), (3, jl b)] := hl
  obtain ⟨b0, ⟨t1, t2, t6, t7, t9, t12, t13, t14, t15, t16, t17, t24⟩, ⟨u1, u2, u3, u4, u5, u6, u7, u8, u9, u10, u11, u12⟩⟩ := (id h)
  refine lv_aload_n hx hb dX9_simple_0 rfl (lv_at hl 0 rfl) ?_
  refine gf_X9_45 hx hb htw hown hK hW (by assumption) (by assumption) dX9_simple_1 ?_
  refine ti_iconst hx hb dX9_simple_4 ?_
  refine lv_lload_n hx hb dX9_simple_5 rfl (lv_at hl 1 rfl) ?_
  refine tm_last hx hb hK hW hS (by assumption) (by decide) (by decide) (by decide) dX9_simple_6 (fun H locs hW hS => ?_)
  refine lv_aload_n hx hb dX9_simple_7 rfl (lv_at hl 0 rfl) ?_
  refine gf_X9_45 hx hb htw hown hK hW (by assumption) (by assumption) dX9_simple_8 ?_
  refine ti_iconst hx hb dX9_simple_11 ?_
  refine ti_lconst1 hx hb dX9_simple_12 ?_
  refine tm_last hx hb hK hW hS (by assumption) (by decide) (by decide) (by decide) dX9_simple_13 (fun H locs hW hS => ?_)
  refine lv_aload_n hx hb dX9_simple_14 rfl (lv_at hl 0 rfl) ?_
  refine gf_X9_45 hx hb htw hown hK hW (by assumption) (by assumption) dX9_simple_15 ?_
  refine ti_iconst hx hb dX9_simple_18 ?_
  refine lv_lload_n hx hb dX9_simple_19 rfl (lv_at hl 2 rfl) ?_
  refine tm_last hx hb hK hW hS (by assumption) (by decide) (by decide) (by decide) dX9_simple_20 (fun H locs hW hS => ?_)
  refine lv_aload_n hx hb dX9_simple_21 rfl (lv_at hl 0 rfl) ?_
  refine gf_X9_45 hx hb htw hown hK hW (by assumption) (by assumption) dX9_simple_22 ?_
  refine ti_iconst hx hb dX9_simple_25 ?_
  refine ti_lconst1 hx hb dX9_simple_26 ?_
  refine tm_last hx hb hK hW hS (by assumption) (by decide) (by decide) (by decide) dX9_simple_27 (fun H locs hW hS => ?_)
  refine lv_aload_n hx hb dX9_simple_28 rfl (lv_at hl 0 rfl) ?_
  refine lv_aload_n hx hb dX9_simple_29 rfl (lv_at hl 0 rfl) ?_
  refine gf_X9_45 hx hb htw hown hK hW (by assumption) (by assumption) dX9_simple_30 ?_
  refine ti_iconst hx hb dX9_simple_33 ?_
  refine tm_calli (cs_X9_114 hx hb hml hown htw hK hW (by assumption) (c_X9_factorS (kk := 0) (lv := lv) (M := (sL (sL (sL (sL M (o + 12) 0 a) (o + 12) 1 1) (o + 12) 2 b) (o + 12) 3 1)) (isMo_m h rfl) hlv hl9 u12 (by decide) (by omega) hst hsi (by rw [one_n]; exact hv) (by rw [one_eq]; exact hw)) ⟨rfl, rfl, Nat.le_of_ble_eq_true rfl, Nat.le_of_ble_eq_true rfl⟩ hl.1 (Nat.le_of_ble_eq_true rfl) dX9_simple_34 ⟨Nat.le_of_ble_eq_true rfl, Nat.le_of_ble_eq_true rfl⟩) hS (fun x34 M34 H locs hp34 hW hS => ?_)
  obtain ⟨f34, e34⟩ := hp34
  rw [one_eq, one_n] at e34
  have r34 : x34 = 0 ∨ x34 = 1 := tl_01 e34
  exact tm_zret hx hb hr hlk r34 hK hW hS ⟨fq_tr (fq_one M o lv a b) (fq_wd f34 (fun _ _ q => Or.inl q)), e34⟩ dX9_simple_37
