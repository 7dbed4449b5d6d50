/-! TutorLinesModel.read: the machine between its steps (by program: wip/whole/gen/mr1.py) -/
def pP (o lv : Nat) (a k : Nat) : Prop := (a = o ∧ (k = 10 ∨ k = 11 ∨ k = 18 ∨ k = 19 ∨ k = 21 ∨ k = 22 ∨ k = 23)) ∨ ((a = o + 6 ∨ a = o + 7) ∧ 4 * lv ≤ k) ∨ ((a = o + 8 ∨ a = o + 9 ∨ a = o + 10 ∨ a = o + 11) ∧ lv ≤ k) ∨ a = o + 12
def pT (o lv : Nat) (a k : Nat) : Prop := pP o (lv + 1) a k ∨ (a = o + 7 ∧ 4 * lv ≤ k ∧ k < 4 * lv + 4) ∨ (a = o + 11 ∧ k = lv)
def pR (o : Nat) (a k : Nat) : Prop := pP o 0 a k ∨ (a = o ∧ k = 20) ∨ (a = o + 2 ∧ 360 ≤ k ∧ k < 369)
def mdP (M0 : tm_M) (o : Nat) (t : Nat → Int) (n : Nat) (r : Int) (M1 : tm_M) : Prop := fq (pR o) M0 M1 ∧ ((r = 1 ∧ ∃ L : tl_L, tp_line t n = .inl L ∧ rl M1 o 40 = L ∧ lok L) ∨ (r = 0 ∧ ∃ f : Nat, tp_line t n = .inr f ∧ mI M1 o 21 = f))
def PSt (sh : tm_sh) (M0 M : tm_M) (o : Nat) (t : Nat → Int) (n p lv : Nat) : Prop := MS sh M o t n p ∧ mI M o 18 = lv ∧ lv < 9 ∧ fq (pR o) M0 M
def mpC (p : Program) (l : Launch) (e : Env) (s : State) (m : MethodId) (below : List Frame) (meth : Method) (c : Code) (G : tm_G) (o n : Nat) : Prop := p.tables.exec = Jvm.exec ∧ c.code = cX9_read ∧ meth.sig.returnType = some .boolean ∧ c.maxLocals = 10 ∧ s.vm.findClass RX9 = some m.cls ∧ (∀ w ∈ tw, w.before [.ref o, ji (n : Nat)].toArray s = true) ∧ meth.locks = false ∧ va_K G.1 vwCl (tm_tys G) s
abbrev mpW (p : Program) (l : Launch) (e : Env) (s : State) (m : MethodId) (below : List Frame) (meth : Method) (c : Code) (G : tm_G) (Hb : Heap) (sh : tm_sh) (M0 : tm_M) (o n : Nat) (t : Nat → Int) (pc : Nat) (H : Heap) (locs : List Loc) (ls : Array Slot) : Prop := W p l e ({ frames := 6, cells := 0, slots := 0, locals := 140 }) s m [.ref o, ji (n : Nat)].toArray below meth c H locs 0 0 (MQ below (tm_Qi G Hb sh (mdP M0 o t n)) [.ref o, ji (n : Nat)].toArray s 0 0 (tm_A Hb)) (F0 m pc ls [])
theorem PSt_m {sh : tm_sh} {M0 M M1 : tm_M} {o : Nat} {t : Nat → Int} {n p p1 lv lv1 : Nat} {P : Nat → Nat → Prop} (h : PSt sh M0 M o t n p lv) (f : fq P M M1) (w : ∀ a k, P a k → pP o 0 a k) (hp : mI M1 o 19 = p1) (hl : p1 ≤ n) (hv : mI M1 o 18 = lv1) (h9 : lv1 < 9) : PSt sh M0 M1 o t n p1 lv1 :=
  ⟨MS_m h.1 f (fun j q => by have := w _ _ q; unfold pP at this; omega) (fun q => by have := w _ _ q; unfold pP at this; omega) hp hl, hv, h9, fq_tr h.2.2.2 (fq_wd f (fun a k q => Or.inl (w a k q)))⟩
theorem p19_P {o a k : Nat} (h : p19 o a k) : pP o 0 a k := by unfold p19 at h; unfold pP; omega
theorem pT_P {o lv a k : Nat} (h : pT o lv a k) : pP o lv a k := by unfold pT pP at h; unfold pP; omega
theorem pP_0 {o lv a k : Nat} (h : pP o lv a k) : pP o 0 a k := by unfold pP at h ⊢; omega
theorem p19_T {o lv a k : Nat} (h : p19 o a k) : pT o lv a k := by unfold p19 at h; unfold pT pP; omega
theorem as_fq {P : Nat → Nat → Prop} {M M1 : tm_M} {a k : Nat} (f : fq P M M1) (h : ∀ j, j < 4 → ¬ P a (k + j)) : asS M1 a k = asS M a k := by
  show ((mL M1 a (k + 0), mL M1 a (k + 1)), (mL M1 a (k + 2), mL M1 a (k + 3))) = _
  rw [(f.2 _ _ (h 0 (by decide))).2, (f.2 _ _ (h 1 (by decide))).2, (f.2 _ _ (h 2 (by decide))).2, (f.2 _ _ (h 3 (by decide))).2]
  rfl
theorem dX9_read_0 : decode cX9_read 0 = .ok (.aload_n 0, 1) := by decide +kernel
theorem dX9_read_1 : decode cX9_read 1 = .ok (.iconst 0, 1) := by decide +kernel
theorem dX9_read_2 : decode cX9_read 2 = .ok (.putfield 76, 3) := by decide +kernel
theorem dX9_read_5 : decode cX9_read 5 = .ok (.aload_n 0, 1) := by decide +kernel
theorem dX9_read_6 : decode cX9_read 6 = .ok (.iload_n 1, 1) := by decide +kernel
theorem dX9_read_7 : decode cX9_read 7 = .ok (.putfield 79, 3) := by decide +kernel
theorem dX9_read_10 : decode cX9_read 10 = .ok (.iconst 0, 1) := by decide +kernel
theorem dX9_read_11 : decode cX9_read 11 = .ok (.istore_n 2, 1) := by decide +kernel
theorem dX9_read_12 : decode cX9_read 12 = .ok (.sipush 360, 3) := by decide +kernel
theorem dX9_read_15 : decode cX9_read 15 = .ok (.istore_n 3, 1) := by decide +kernel
theorem dX9_read_16 : decode cX9_read 16 = .ok (.iconst 1, 1) := by decide +kernel
theorem dX9_read_17 : decode cX9_read 17 = .ok (.istore 4, 2) := by decide +kernel
theorem dX9_read_19 : decode cX9_read 19 = .ok (.iconst 1, 1) := by decide +kernel
theorem dX9_read_20 : decode cX9_read 20 = .ok (.istore 5, 2) := by decide +kernel
theorem dX9_read_22 : decode cX9_read 22 = .ok (.aload_n 0, 1) := by decide +kernel
theorem dX9_read_23 : decode cX9_read 23 = .ok (.iconst 0, 1) := by decide +kernel
theorem dX9_read_24 : decode cX9_read 24 = .ok (.putfield 100, 3) := by decide +kernel
theorem dX9_read_27 : decode cX9_read 27 = .ok (.aload_n 0, 1) := by decide +kernel
theorem dX9_read_28 : decode cX9_read 28 = .ok (.iconst 0, 1) := by decide +kernel
theorem dX9_read_29 : decode cX9_read 29 = .ok (.invokevirtual 121, 3) := by decide +kernel
theorem dX9_read_32 : decode cX9_read 32 = .ok (.aload_n 0, 1) := by decide +kernel
theorem dX9_read_33 : decode cX9_read 33 = .ok (.invokevirtual 89, 3) := by decide +kernel
theorem dX9_read_36 : decode cX9_read 36 = .ok (.istore 6, 2) := by decide +kernel
theorem dX9_read_38 : decode cX9_read 38 = .ok (.iload 6, 2) := by decide +kernel
theorem dX9_read_40 : decode cX9_read 40 = .ok (.iconst (-1), 1) := by decide +kernel
theorem dX9_read_41 : decode cX9_read 41 = .ok (.if_icmp .ne 10, 3) := by decide +kernel
theorem dX9_read_44 : decode cX9_read 44 = .ok (.aload_n 0, 1) := by decide +kernel
theorem dX9_read_45 : decode cX9_read 45 = .ok (.getfield 79, 3) := by decide +kernel
theorem dX9_read_48 : decode cX9_read 48 = .ok (.goto 7, 3) := by decide +kernel
theorem dX9_read_51 : decode cX9_read 51 = .ok (.aload_n 0, 1) := by decide +kernel
theorem dX9_read_52 : decode cX9_read 52 = .ok (.getfield 76, 3) := by decide +kernel
theorem dX9_read_55 : decode cX9_read 55 = .ok (.istore 7, 2) := by decide +kernel
theorem dX9_read_57 : decode cX9_read 57 = .ok (.iload 5, 2) := by decide +kernel
theorem dX9_read_59 : decode cX9_read 59 = .ok (.ifCond .eq 203, 3) := by decide +kernel
theorem dX9_read_62 : decode cX9_read 62 = .ok (.iload 6, 2) := by decide +kernel
theorem dX9_read_64 : decode cX9_read 64 = .ok (.bipush 45, 2) := by decide +kernel
theorem dX9_read_66 : decode cX9_read 66 = .ok (.if_icmp .ne 35, 3) := by decide +kernel
theorem dX9_read_69 : decode cX9_read 69 = .ok (.iload 4, 2) := by decide +kernel
theorem dX9_read_71 : decode cX9_read 71 = .ok (.ifCond .eq 30, 3) := by decide +kernel
theorem dX9_read_74 : decode cX9_read 74 = .ok (.aload_n 0, 1) := by decide +kernel
theorem dX9_read_75 : decode cX9_read 75 = .ok (.getfield 36, 3) := by decide +kernel
theorem dX9_read_78 : decode cX9_read 78 = .ok (.aload_n 0, 1) := by decide +kernel
theorem dX9_read_79 : decode cX9_read 79 = .ok (.getfield 100, 3) := by decide +kernel
theorem dX9_read_82 : decode cX9_read 82 = .ok (.bipush 45, 2) := by decide +kernel
theorem dX9_read_84 : decode cX9_read 84 = .ok (.iastore, 1) := by decide +kernel
theorem dX9_read_85 : decode cX9_read 85 = .ok (.iconst 0, 1) := by decide +kernel
theorem dX9_read_86 : decode cX9_read 86 = .ok (.istore 4, 2) := by decide +kernel
theorem dX9_read_88 : decode cX9_read 88 = .ok (.aload_n 0, 1) := by decide +kernel
theorem dX9_read_89 : decode cX9_read 89 = .ok (.dup, 1) := by decide +kernel
theorem dX9_read_90 : decode cX9_read 90 = .ok (.getfield 76, 3) := by decide +kernel
theorem dX9_read_93 : decode cX9_read 93 = .ok (.iconst 1, 1) := by decide +kernel
theorem dX9_read_94 : decode cX9_read 94 = .ok (.iadd, 1) := by decide +kernel
theorem dX9_read_95 : decode cX9_read 95 = .ok (.putfield 76, 3) := by decide +kernel
theorem dX9_read_98 : decode cX9_read 98 = .ok (.goto (-66), 3) := by decide +kernel
theorem dX9_read_101 : decode cX9_read 101 = .ok (.iconst 0, 1) := by decide +kernel
theorem dX9_read_102 : decode cX9_read 102 = .ok (.istore 4, 2) := by decide +kernel
theorem dX9_read_104 : decode cX9_read 104 = .ok (.iload 6, 2) := by decide +kernel
theorem dX9_read_106 : decode cX9_read 106 = .ok (.bipush 40, 2) := by decide +kernel
theorem dX9_read_108 : decode cX9_read 108 = .ok (.if_icmp .ne 53, 3) := by decide +kernel
theorem dX9_read_111 : decode cX9_read 111 = .ok (.aload_n 0, 1) := by decide +kernel
theorem dX9_read_112 : decode cX9_read 112 = .ok (.getfield 100, 3) := by decide +kernel
theorem dX9_read_115 : decode cX9_read 115 = .ok (.bipush 8, 2) := by decide +kernel
theorem dX9_read_117 : decode cX9_read 117 = .ok (.if_icmp .ne 10, 3) := by decide +kernel
theorem dX9_read_120 : decode cX9_read 120 = .ok (.aload_n 0, 1) := by decide +kernel
theorem dX9_read_121 : decode cX9_read 121 = .ok (.iload 7, 2) := by decide +kernel
theorem dX9_read_123 : decode cX9_read 123 = .ok (.invokevirtual 103, 3) := by decide +kernel
theorem dX9_read_126 : decode cX9_read 126 = .ok (.ireturn, 1) := by decide +kernel
theorem dX9_read_127 : decode cX9_read 127 = .ok (.aload_n 0, 1) := by decide +kernel
theorem dX9_read_128 : decode cX9_read 128 = .ok (.dup, 1) := by decide +kernel
theorem dX9_read_129 : decode cX9_read 129 = .ok (.getfield 100, 3) := by decide +kernel
theorem dX9_read_132 : decode cX9_read 132 = .ok (.iconst 1, 1) := by decide +kernel
theorem dX9_read_133 : decode cX9_read 133 = .ok (.iadd, 1) := by decide +kernel
theorem dX9_read_134 : decode cX9_read 134 = .ok (.putfield 100, 3) := by decide +kernel
theorem dX9_read_137 : decode cX9_read 137 = .ok (.aload_n 0, 1) := by decide +kernel
theorem dX9_read_138 : decode cX9_read 138 = .ok (.aload_n 0, 1) := by decide +kernel
theorem dX9_read_139 : decode cX9_read 139 = .ok (.getfield 100, 3) := by decide +kernel
theorem dX9_read_142 : decode cX9_read 142 = .ok (.invokevirtual 121, 3) := by decide +kernel
theorem dX9_read_145 : decode cX9_read 145 = .ok (.iconst 1, 1) := by decide +kernel
theorem dX9_read_146 : decode cX9_read 146 = .ok (.istore 4, 2) := by decide +kernel
theorem dX9_read_148 : decode cX9_read 148 = .ok (.aload_n 0, 1) := by decide +kernel
theorem dX9_read_149 : decode cX9_read 149 = .ok (.dup, 1) := by decide +kernel
theorem dX9_read_150 : decode cX9_read 150 = .ok (.getfield 76, 3) := by decide +kernel
theorem dX9_read_153 : decode cX9_read 153 = .ok (.iconst 1, 1) := by decide +kernel
theorem dX9_read_154 : decode cX9_read 154 = .ok (.iadd, 1) := by decide +kernel
theorem dX9_read_155 : decode cX9_read 155 = .ok (.putfield 76, 3) := by decide +kernel
theorem dX9_read_158 : decode cX9_read 158 = .ok (.goto (-126), 3) := by decide +kernel
theorem dX9_read_161 : decode cX9_read 161 = .ok (.iload 6, 2) := by decide +kernel
theorem dX9_read_163 : decode cX9_read 163 = .ok (.bipush 120, 2) := by decide +kernel
theorem dX9_read_165 : decode cX9_read 165 = .ok (.if_icmp .eq 11, 3) := by decide +kernel
theorem dX9_read_168 : decode cX9_read 168 = .ok (.iload 6, 2) := by decide +kernel
theorem dX9_read_170 : decode cX9_read 170 = .ok (.invokestatic 93, 3) := by decide +kernel
theorem dX9_read_173 : decode cX9_read 173 = .ok (.ifCond .eq 7, 3) := by decide +kernel
theorem dX9_read_176 : decode cX9_read 176 = .ok (.iconst 1, 1) := by decide +kernel
theorem dX9_read_177 : decode cX9_read 177 = .ok (.goto 4, 3) := by decide +kernel
theorem dX9_read_180 : decode cX9_read 180 = .ok (.iconst 0, 1) := by decide +kernel
theorem dX9_read_181 : decode cX9_read 181 = .ok (.istore 8, 2) := by decide +kernel
theorem dX9_read_183 : decode cX9_read 183 = .ok (.iload 8, 2) := by decide +kernel
theorem dX9_read_185 : decode cX9_read 185 = .ok (.ifCond .ne 10, 3) := by decide +kernel
theorem dX9_read_188 : decode cX9_read 188 = .ok (.aload_n 0, 1) := by decide +kernel
theorem dX9_read_189 : decode cX9_read 189 = .ok (.iload 7, 2) := by decide +kernel
theorem dX9_read_191 : decode cX9_read 191 = .ok (.invokevirtual 103, 3) := by decide +kernel
theorem dX9_read_194 : decode cX9_read 194 = .ok (.ireturn, 1) := by decide +kernel
theorem dX9_read_195 : decode cX9_read 195 = .ok (.iload 6, 2) := by decide +kernel
theorem dX9_read_197 : decode cX9_read 197 = .ok (.bipush 120, 2) := by decide +kernel
theorem dX9_read_199 : decode cX9_read 199 = .ok (.if_icmp .ne 16, 3) := by decide +kernel
theorem dX9_read_202 : decode cX9_read 202 = .ok (.aload_n 0, 1) := by decide +kernel
theorem dX9_read_203 : decode cX9_read 203 = .ok (.dup, 1) := by decide +kernel
theorem dX9_read_204 : decode cX9_read 204 = .ok (.getfield 76, 3) := by decide +kernel
theorem dX9_read_207 : decode cX9_read 207 = .ok (.iconst 1, 1) := by decide +kernel
theorem dX9_read_208 : decode cX9_read 208 = .ok (.iadd, 1) := by decide +kernel
theorem dX9_read_209 : decode cX9_read 209 = .ok (.putfield 76, 3) := by decide +kernel
theorem dX9_read_212 : decode cX9_read 212 = .ok (.goto 7, 3) := by decide +kernel
theorem dX9_read_215 : decode cX9_read 215 = .ok (.aload_n 0, 1) := by decide +kernel
theorem dX9_read_216 : decode cX9_read 216 = .ok (.invokevirtual 118, 3) := by decide +kernel
theorem dX9_read_219 : decode cX9_read 219 = .ok (.aload_n 0, 1) := by decide +kernel
theorem dX9_read_220 : decode cX9_read 220 = .ok (.iload 6, 2) := by decide +kernel
theorem dX9_read_222 : decode cX9_read 222 = .ok (.bipush 120, 2) := by decide +kernel
theorem dX9_read_224 : decode cX9_read 224 = .ok (.if_icmp .ne 7, 3) := by decide +kernel
theorem dX9_read_227 : decode cX9_read 227 = .ok (.lconst 1, 1) := by decide +kernel
theorem dX9_read_228 : decode cX9_read 228 = .ok (.goto 4, 3) := by decide +kernel
theorem dX9_read_231 : decode cX9_read 231 = .ok (.lconst 0, 1) := by decide +kernel
theorem dX9_read_232 : decode cX9_read 232 = .ok (.iload 6, 2) := by decide +kernel
theorem dX9_read_234 : decode cX9_read 234 = .ok (.bipush 120, 2) := by decide +kernel
theorem dX9_read_236 : decode cX9_read 236 = .ok (.if_icmp .ne 7, 3) := by decide +kernel
theorem dX9_read_239 : decode cX9_read 239 = .ok (.lconst 0, 1) := by decide +kernel
theorem dX9_read_240 : decode cX9_read 240 = .ok (.goto 8, 3) := by decide +kernel
theorem dX9_read_243 : decode cX9_read 243 = .ok (.aload_n 0, 1) := by decide +kernel
theorem dX9_read_244 : decode cX9_read 244 = .ok (.getfield 86, 3) := by decide +kernel
theorem dX9_read_247 : decode cX9_read 247 = .ok (.i2l, 1) := by decide +kernel
theorem dX9_read_248 : decode cX9_read 248 = .ok (.invokevirtual 125, 3) := by decide +kernel
theorem dX9_read_251 : decode cX9_read 251 = .ok (.ifCond .ne 5, 3) := by decide +kernel
theorem dX9_read_254 : decode cX9_read 254 = .ok (.iconst 0, 1) := by decide +kernel
theorem dX9_read_255 : decode cX9_read 255 = .ok (.ireturn, 1) := by decide +kernel
theorem dX9_read_256 : decode cX9_read 256 = .ok (.iconst 0, 1) := by decide +kernel
theorem dX9_read_257 : decode cX9_read 257 = .ok (.istore 5, 2) := by decide +kernel
theorem dX9_read_259 : decode cX9_read 259 = .ok (.goto (-227), 3) := by decide +kernel
theorem dX9_read_262 : decode cX9_read 262 = .ok (.iload 6, 2) := by decide +kernel
theorem dX9_read_264 : decode cX9_read 264 = .ok (.bipush 42, 2) := by decide +kernel
theorem dX9_read_266 : decode cX9_read 266 = .ok (.if_icmp .ne 30, 3) := by decide +kernel
theorem dX9_read_269 : decode cX9_read 269 = .ok (.aload_n 0, 1) := by decide +kernel
theorem dX9_read_270 : decode cX9_read 270 = .ok (.getfield 42, 3) := by decide +kernel
theorem dX9_read_273 : decode cX9_read 273 = .ok (.aload_n 0, 1) := by decide +kernel
theorem dX9_read_274 : decode cX9_read 274 = .ok (.getfield 100, 3) := by decide +kernel
theorem dX9_read_277 : decode cX9_read 277 = .ok (.iload 7, 2) := by decide +kernel
theorem dX9_read_279 : decode cX9_read 279 = .ok (.iastore, 1) := by decide +kernel
theorem dX9_read_280 : decode cX9_read 280 = .ok (.aload_n 0, 1) := by decide +kernel
theorem dX9_read_281 : decode cX9_read 281 = .ok (.dup, 1) := by decide +kernel
theorem dX9_read_282 : decode cX9_read 282 = .ok (.getfield 76, 3) := by decide +kernel
theorem dX9_read_285 : decode cX9_read 285 = .ok (.iconst 1, 1) := by decide +kernel
theorem dX9_read_286 : decode cX9_read 286 = .ok (.iadd, 1) := by decide +kernel
theorem dX9_read_287 : decode cX9_read 287 = .ok (.putfield 76, 3) := by decide +kernel
theorem dX9_read_290 : decode cX9_read 290 = .ok (.iconst 1, 1) := by decide +kernel
theorem dX9_read_291 : decode cX9_read 291 = .ok (.istore 5, 2) := by decide +kernel
theorem dX9_read_293 : decode cX9_read 293 = .ok (.goto (-261), 3) := by decide +kernel
theorem dX9_read_296 : decode cX9_read 296 = .ok (.iload 6, 2) := by decide +kernel
theorem dX9_read_298 : decode cX9_read 298 = .ok (.bipush 47, 2) := by decide +kernel
theorem dX9_read_300 : decode cX9_read 300 = .ok (.if_icmp .ne 24, 3) := by decide +kernel
theorem dX9_read_303 : decode cX9_read 303 = .ok (.aload_n 0, 1) := by decide +kernel
theorem dX9_read_304 : decode cX9_read 304 = .ok (.dup, 1) := by decide +kernel
theorem dX9_read_305 : decode cX9_read 305 = .ok (.getfield 76, 3) := by decide +kernel
theorem dX9_read_308 : decode cX9_read 308 = .ok (.iconst 1, 1) := by decide +kernel
theorem dX9_read_309 : decode cX9_read 309 = .ok (.iadd, 1) := by decide +kernel
theorem dX9_read_310 : decode cX9_read 310 = .ok (.putfield 76, 3) := by decide +kernel
theorem dX9_read_313 : decode cX9_read 313 = .ok (.aload_n 0, 1) := by decide +kernel
theorem dX9_read_314 : decode cX9_read 314 = .ok (.iload 7, 2) := by decide +kernel
theorem dX9_read_316 : decode cX9_read 316 = .ok (.invokevirtual 129, 3) := by decide +kernel
theorem dX9_read_319 : decode cX9_read 319 = .ok (.ifCond .ne (-287), 3) := by decide +kernel
theorem dX9_read_322 : decode cX9_read 322 = .ok (.iconst 0, 1) := by decide +kernel
theorem dX9_read_323 : decode cX9_read 323 = .ok (.ireturn, 1) := by decide +kernel
theorem dX9_read_324 : decode cX9_read 324 = .ok (.aload_n 0, 1) := by decide +kernel
theorem dX9_read_325 : decode cX9_read 325 = .ok (.invokevirtual 132, 3) := by decide +kernel
theorem dX9_read_328 : decode cX9_read 328 = .ok (.ifCond .ne 5, 3) := by decide +kernel
theorem dX9_read_331 : decode cX9_read 331 = .ok (.iconst 0, 1) := by decide +kernel
theorem dX9_read_332 : decode cX9_read 332 = .ok (.ireturn, 1) := by decide +kernel
theorem dX9_read_333 : decode cX9_read 333 = .ok (.iload 6, 2) := by decide +kernel
theorem dX9_read_335 : decode cX9_read 335 = .ok (.bipush 43, 2) := by decide +kernel
theorem dX9_read_337 : decode cX9_read 337 = .ok (.if_icmp .eq 10, 3) := by decide +kernel
theorem dX9_read_340 : decode cX9_read 340 = .ok (.iload 6, 2) := by decide +kernel
theorem dX9_read_342 : decode cX9_read 342 = .ok (.bipush 45, 2) := by decide +kernel
theorem dX9_read_344 : decode cX9_read 344 = .ok (.if_icmp .ne 41, 3) := by decide +kernel
theorem dX9_read_347 : decode cX9_read 347 = .ok (.aload_n 0, 1) := by decide +kernel
theorem dX9_read_348 : decode cX9_read 348 = .ok (.getfield 36, 3) := by decide +kernel
theorem dX9_read_351 : decode cX9_read 351 = .ok (.aload_n 0, 1) := by decide +kernel
theorem dX9_read_352 : decode cX9_read 352 = .ok (.getfield 100, 3) := by decide +kernel
theorem dX9_read_355 : decode cX9_read 355 = .ok (.iload 6, 2) := by decide +kernel
theorem dX9_read_357 : decode cX9_read 357 = .ok (.iastore, 1) := by decide +kernel
theorem dX9_read_358 : decode cX9_read 358 = .ok (.aload_n 0, 1) := by decide +kernel
theorem dX9_read_359 : decode cX9_read 359 = .ok (.getfield 39, 3) := by decide +kernel
theorem dX9_read_362 : decode cX9_read 362 = .ok (.aload_n 0, 1) := by decide +kernel
theorem dX9_read_363 : decode cX9_read 363 = .ok (.getfield 100, 3) := by decide +kernel
theorem dX9_read_366 : decode cX9_read 366 = .ok (.iload 7, 2) := by decide +kernel
theorem dX9_read_368 : decode cX9_read 368 = .ok (.iastore, 1) := by decide +kernel
theorem dX9_read_369 : decode cX9_read 369 = .ok (.aload_n 0, 1) := by decide +kernel
theorem dX9_read_370 : decode cX9_read 370 = .ok (.dup, 1) := by decide +kernel
theorem dX9_read_371 : decode cX9_read 371 = .ok (.getfield 76, 3) := by decide +kernel
theorem dX9_read_374 : decode cX9_read 374 = .ok (.iconst 1, 1) := by decide +kernel
theorem dX9_read_375 : decode cX9_read 375 = .ok (.iadd, 1) := by decide +kernel
theorem dX9_read_376 : decode cX9_read 376 = .ok (.putfield 76, 3) := by decide +kernel
theorem dX9_read_379 : decode cX9_read 379 = .ok (.iconst 1, 1) := by decide +kernel
theorem dX9_read_380 : decode cX9_read 380 = .ok (.istore 5, 2) := by decide +kernel
theorem dX9_read_382 : decode cX9_read 382 = .ok (.goto (-350), 3) := by decide +kernel
theorem dX9_read_385 : decode cX9_read 385 = .ok (.iload 6, 2) := by decide +kernel
theorem dX9_read_387 : decode cX9_read 387 = .ok (.bipush 41, 2) := by decide +kernel
theorem dX9_read_389 : decode cX9_read 389 = .ok (.if_icmp .ne 51, 3) := by decide +kernel
theorem dX9_read_392 : decode cX9_read 392 = .ok (.aload_n 0, 1) := by decide +kernel
theorem dX9_read_393 : decode cX9_read 393 = .ok (.getfield 100, 3) := by decide +kernel
theorem dX9_read_396 : decode cX9_read 396 = .ok (.ifCond .le 44, 3) := by decide +kernel
theorem dX9_read_399 : decode cX9_read 399 = .ok (.aload_n 0, 1) := by decide +kernel
theorem dX9_read_400 : decode cX9_read 400 = .ok (.dup, 1) := by decide +kernel
theorem dX9_read_401 : decode cX9_read 401 = .ok (.getfield 100, 3) := by decide +kernel
theorem dX9_read_404 : decode cX9_read 404 = .ok (.iconst 1, 1) := by decide +kernel
theorem dX9_read_405 : decode cX9_read 405 = .ok (.isub, 1) := by decide +kernel
theorem dX9_read_406 : decode cX9_read 406 = .ok (.putfield 100, 3) := by decide +kernel
theorem dX9_read_409 : decode cX9_read 409 = .ok (.aload_n 0, 1) := by decide +kernel
theorem dX9_read_410 : decode cX9_read 410 = .ok (.dup, 1) := by decide +kernel
theorem dX9_read_411 : decode cX9_read 411 = .ok (.getfield 76, 3) := by decide +kernel
theorem dX9_read_414 : decode cX9_read 414 = .ok (.iconst 1, 1) := by decide +kernel
theorem dX9_read_415 : decode cX9_read 415 = .ok (.iadd, 1) := by decide +kernel
theorem dX9_read_416 : decode cX9_read 416 = .ok (.putfield 76, 3) := by decide +kernel
theorem dX9_read_419 : decode cX9_read 419 = .ok (.aload_n 0, 1) := by decide +kernel
theorem dX9_read_420 : decode cX9_read 420 = .ok (.aload_n 0, 1) := by decide +kernel
theorem dX9_read_421 : decode cX9_read 421 = .ok (.getfield 26, 3) := by decide +kernel
theorem dX9_read_424 : decode cX9_read 424 = .ok (.iconst 4, 1) := by decide +kernel
theorem dX9_read_425 : decode cX9_read 425 = .ok (.aload_n 0, 1) := by decide +kernel
theorem dX9_read_426 : decode cX9_read 426 = .ok (.getfield 100, 3) := by decide +kernel
theorem dX9_read_429 : decode cX9_read 429 = .ok (.imul, 1) := by decide +kernel
theorem dX9_read_430 : decode cX9_read 430 = .ok (.iconst 4, 1) := by decide +kernel
theorem dX9_read_431 : decode cX9_read 431 = .ok (.iadd, 1) := by decide +kernel
theorem dX9_read_432 : decode cX9_read 432 = .ok (.invokevirtual 114, 3) := by decide +kernel
theorem dX9_read_435 : decode cX9_read 435 = .ok (.ifCond .ne (-403), 3) := by decide +kernel
theorem dX9_read_438 : decode cX9_read 438 = .ok (.iconst 0, 1) := by decide +kernel
theorem dX9_read_439 : decode cX9_read 439 = .ok (.ireturn, 1) := by decide +kernel
theorem dX9_read_440 : decode cX9_read 440 = .ok (.aload_n 0, 1) := by decide +kernel
theorem dX9_read_441 : decode cX9_read 441 = .ok (.getfield 100, 3) := by decide +kernel
theorem dX9_read_444 : decode cX9_read 444 = .ok (.ifCond .le 10, 3) := by decide +kernel
theorem dX9_read_447 : decode cX9_read 447 = .ok (.aload_n 0, 1) := by decide +kernel
theorem dX9_read_448 : decode cX9_read 448 = .ok (.iload 7, 2) := by decide +kernel
theorem dX9_read_450 : decode cX9_read 450 = .ok (.invokevirtual 103, 3) := by decide +kernel
theorem dX9_read_453 : decode cX9_read 453 = .ok (.ireturn, 1) := by decide +kernel
theorem dX9_read_454 : decode cX9_read 454 = .ok (.iload 6, 2) := by decide +kernel
theorem dX9_read_456 : decode cX9_read 456 = .ok (.bipush 61, 2) := by decide +kernel
theorem dX9_read_458 : decode cX9_read 458 = .ok (.if_icmp .eq 17, 3) := by decide +kernel
theorem dX9_read_461 : decode cX9_read 461 = .ok (.iload 6, 2) := by decide +kernel
theorem dX9_read_463 : decode cX9_read 463 = .ok (.bipush 60, 2) := by decide +kernel
theorem dX9_read_465 : decode cX9_read 465 = .ok (.if_icmp .eq 10, 3) := by decide +kernel
theorem dX9_read_468 : decode cX9_read 468 = .ok (.iload 6, 2) := by decide +kernel
theorem dX9_read_470 : decode cX9_read 470 = .ok (.bipush 62, 2) := by decide +kernel
theorem dX9_read_472 : decode cX9_read 472 = .ok (.if_icmp .ne 7, 3) := by decide +kernel
theorem dX9_read_475 : decode cX9_read 475 = .ok (.iconst 1, 1) := by decide +kernel
theorem dX9_read_476 : decode cX9_read 476 = .ok (.goto 4, 3) := by decide +kernel
theorem dX9_read_479 : decode cX9_read 479 = .ok (.iconst 0, 1) := by decide +kernel
theorem dX9_read_480 : decode cX9_read 480 = .ok (.istore 8, 2) := by decide +kernel
theorem dX9_read_482 : decode cX9_read 482 = .ok (.iload_n 2, 1) := by decide +kernel
theorem dX9_read_483 : decode cX9_read 483 = .ok (.ifCond .ne 11, 3) := by decide +kernel
theorem dX9_read_486 : decode cX9_read 486 = .ok (.iload 8, 2) := by decide +kernel
theorem dX9_read_488 : decode cX9_read 488 = .ok (.ifCond .ne 19, 3) := by decide +kernel
theorem dX9_read_491 : decode cX9_read 491 = .ok (.goto 9, 3) := by decide +kernel
theorem dX9_read_494 : decode cX9_read 494 = .ok (.iload 6, 2) := by decide +kernel
theorem dX9_read_496 : decode cX9_read 496 = .ok (.iconst (-1), 1) := by decide +kernel
theorem dX9_read_497 : decode cX9_read 497 = .ok (.if_icmp .eq 10, 3) := by decide +kernel
theorem dX9_read_500 : decode cX9_read 500 = .ok (.aload_n 0, 1) := by decide +kernel
theorem dX9_read_501 : decode cX9_read 501 = .ok (.iload 7, 2) := by decide +kernel
theorem dX9_read_503 : decode cX9_read 503 = .ok (.invokevirtual 103, 3) := by decide +kernel
theorem dX9_read_506 : decode cX9_read 506 = .ok (.ireturn, 1) := by decide +kernel
theorem dX9_read_507 : decode cX9_read 507 = .ok (.iconst 0, 1) := by decide +kernel
theorem dX9_read_508 : decode cX9_read 508 = .ok (.istore 9, 2) := by decide +kernel
theorem dX9_read_510 : decode cX9_read 510 = .ok (.iload 9, 2) := by decide +kernel
theorem dX9_read_512 : decode cX9_read 512 = .ok (.iconst 4, 1) := by decide +kernel
theorem dX9_read_513 : decode cX9_read 513 = .ok (.if_icmp .ge 29, 3) := by decide +kernel
theorem dX9_read_516 : decode cX9_read 516 = .ok (.aload_n 0, 1) := by decide +kernel
theorem dX9_read_517 : decode cX9_read 517 = .ok (.getfield 13, 3) := by decide +kernel
theorem dX9_read_520 : decode cX9_read 520 = .ok (.iload_n 3, 1) := by decide +kernel
theorem dX9_read_521 : decode cX9_read 521 = .ok (.iconst 4, 1) := by decide +kernel
theorem dX9_read_522 : decode cX9_read 522 = .ok (.iload_n 2, 1) := by decide +kernel
theorem dX9_read_523 : decode cX9_read 523 = .ok (.imul, 1) := by decide +kernel
theorem dX9_read_524 : decode cX9_read 524 = .ok (.iadd, 1) := by decide +kernel
theorem dX9_read_525 : decode cX9_read 525 = .ok (.iload 9, 2) := by decide +kernel
theorem dX9_read_527 : decode cX9_read 527 = .ok (.iadd, 1) := by decide +kernel
theorem dX9_read_528 : decode cX9_read 528 = .ok (.aload_n 0, 1) := by decide +kernel
theorem dX9_read_529 : decode cX9_read 529 = .ok (.getfield 26, 3) := by decide +kernel
theorem dX9_read_532 : decode cX9_read 532 = .ok (.iload 9, 2) := by decide +kernel
theorem dX9_read_534 : decode cX9_read 534 = .ok (.laload, 1) := by decide +kernel
theorem dX9_read_535 : decode cX9_read 535 = .ok (.lastore, 1) := by decide +kernel
theorem dX9_read_536 : decode cX9_read 536 = .ok (.iinc 9 1, 3) := by decide +kernel
theorem dX9_read_539 : decode cX9_read 539 = .ok (.goto (-29), 3) := by decide +kernel
theorem dX9_read_542 : decode cX9_read 542 = .ok (.iload_n 2, 1) := by decide +kernel
theorem dX9_read_543 : decode cX9_read 543 = .ok (.iconst 1, 1) := by decide +kernel
theorem dX9_read_544 : decode cX9_read 544 = .ok (.if_icmp .ne 5, 3) := by decide +kernel
theorem dX9_read_547 : decode cX9_read 547 = .ok (.iconst 1, 1) := by decide +kernel
theorem dX9_read_548 : decode cX9_read 548 = .ok (.ireturn, 1) := by decide +kernel
theorem dX9_read_549 : decode cX9_read 549 = .ok (.aload_n 0, 1) := by decide +kernel
theorem dX9_read_550 : decode cX9_read 550 = .ok (.getfield 13, 3) := by decide +kernel
theorem dX9_read_553 : decode cX9_read 553 = .ok (.iload_n 3, 1) := by decide +kernel
theorem dX9_read_554 : decode cX9_read 554 = .ok (.bipush 8, 2) := by decide +kernel
theorem dX9_read_556 : decode cX9_read 556 = .ok (.iadd, 1) := by decide +kernel
theorem dX9_read_557 : decode cX9_read 557 = .ok (.iload 6, 2) := by decide +kernel
theorem dX9_read_559 : decode cX9_read 559 = .ok (.bipush 61, 2) := by decide +kernel
theorem dX9_read_561 : decode cX9_read 561 = .ok (.if_icmp .ne 7, 3) := by decide +kernel
theorem dX9_read_564 : decode cX9_read 564 = .ok (.lconst 0, 1) := by decide +kernel
theorem dX9_read_565 : decode cX9_read 565 = .ok (.goto 17, 3) := by decide +kernel
theorem dX9_read_568 : decode cX9_read 568 = .ok (.iload 6, 2) := by decide +kernel
theorem dX9_read_570 : decode cX9_read 570 = .ok (.bipush 60, 2) := by decide +kernel
theorem dX9_read_572 : decode cX9_read 572 = .ok (.if_icmp .ne 7, 3) := by decide +kernel
theorem dX9_read_575 : decode cX9_read 575 = .ok (.lconst 1, 1) := by decide +kernel
theorem dX9_read_576 : decode cX9_read 576 = .ok (.goto 6, 3) := by decide +kernel
theorem dX9_read_579 : decode cX9_read 579 = .ok (.ldc2_w 135, 3) := by decide +kernel
theorem dX9_read_582 : decode cX9_read 582 = .ok (.lastore, 1) := by decide +kernel
theorem dX9_read_583 : decode cX9_read 583 = .ok (.iconst 1, 1) := by decide +kernel
theorem dX9_read_584 : decode cX9_read 584 = .ok (.istore_n 2, 1) := by decide +kernel
theorem dX9_read_585 : decode cX9_read 585 = .ok (.aload_n 0, 1) := by decide +kernel
theorem dX9_read_586 : decode cX9_read 586 = .ok (.dup, 1) := by decide +kernel
theorem dX9_read_587 : decode cX9_read 587 = .ok (.getfield 76, 3) := by decide +kernel
theorem dX9_read_590 : decode cX9_read 590 = .ok (.iconst 1, 1) := by decide +kernel
theorem dX9_read_591 : decode cX9_read 591 = .ok (.iadd, 1) := by decide +kernel
theorem dX9_read_592 : decode cX9_read 592 = .ok (.putfield 76, 3) := by decide +kernel
theorem dX9_read_595 : decode cX9_read 595 = .ok (.aload_n 0, 1) := by decide +kernel
theorem dX9_read_596 : decode cX9_read 596 = .ok (.iconst 0, 1) := by decide +kernel
theorem dX9_read_597 : decode cX9_read 597 = .ok (.invokevirtual 121, 3) := by decide +kernel
theorem dX9_read_600 : decode cX9_read 600 = .ok (.iconst 1, 1) := by decide +kernel
theorem dX9_read_601 : decode cX9_read 601 = .ok (.istore 4, 2) := by decide +kernel
theorem dX9_read_603 : decode cX9_read 603 = .ok (.iconst 1, 1) := by decide +kernel
theorem dX9_read_604 : decode cX9_read 604 = .ok (.istore 5, 2) := by decide +kernel
theorem dX9_read_606 : decode cX9_read 606 = .ok (.goto (-574), 3) := by decide +kernel
theorem p9_P {o lv a k : Nat} (h : p19 o a k ∨ (a = o + 9 ∧ k = lv)) : pP o 0 a k := by unfold p19 at h; unfold pP; omega
set_option maxHeartbeats 4000000 in
theorem mp_w {p : Program} {l : Launch} {e : Env} {s : State} {m : MethodId} {below : List Frame} {meth : Method} {c : Code} {G : tm_G} {Hb : Heap} {sh : tm_sh} {M0 : tm_M} {o n : Nat} {t : Nat → Int} (Cx : mpC p l e s m below meth c G o n) {sd bg : Int} {q lv : Nat} {M : tm_M} {H : Heap} {locs : List Loc} {ls : Array Slot} (hbg : bg = 0 ∨ bg = 1) (hP : PSt sh M0 M o t n (q) lv) (k1 : bg = 1 → tp_ch t n (tp_nx t n q) = 45 → ∀ (M1 : tm_M) (H1 : Heap) (locs1 : List Loc) (ls1 : Array Slot), PSt sh M0 M1 o t n (tp_nx t n q + 1) lv → fq (fun a k => p19 o a k ∨ (a = o + 9 ∧ k = lv)) M M1 → mI M1 (o + 9) lv = 45 → tm_W G Hb sh M1 H1 → va_S (tm_A Hb) s.heap H1 locs1 → lv_has ls1 10 [(0, .ref o), (2, ji sd), (3, ji 360), (4, ji 0), (5, ji 1)] → mpW p l e s m below meth c G Hb sh M0 o n t 32 H1 locs1 ls1) (k2 : (bg = 0 ∨ ¬ tp_ch t n (tp_nx t n q) = 45) → ∀ (M1 : tm_M) (H1 : Heap) (locs1 : List Loc) (ls1 : Array Slot), PSt sh M0 M1 o t n (tp_nx t n q) lv → fq (p19 o) M M1 → tm_W G Hb sh M1 H1 → va_S (tm_A Hb) s.heap H1 locs1 → lv_has ls1 10 [(0, .ref o), (2, ji sd), (3, ji 360), (4, ji 0), (5, ji 1), (6, ji (tp_ch t n (tp_nx t n q))), (7, ji ((tp_nx t n q : Nat) : Int))] → mpW p l e s m below meth c G Hb sh M0 o n t 104 H1 locs1 ls1) (hW : tm_W G Hb sh M H) (hS : va_S (tm_A Hb) s.heap H locs) (hl : lv_has ls 10 [(0, .ref o), (2, ji sd), (3, ji 360), (4, ji bg), (5, ji 1)]) : mpW p l e s m below meth c G Hb sh M0 o n t 32 H locs ls := by
  obtain ⟨hx, hb, hr, hml, hown, htw, hlk, hK⟩ := Cx
  have hR := hP.1
  have h9 := hP.2.2.1
  have q0 := tp_nx_le (t := t) hR.2.2.2.2.2
  have cr := tp_ch_r (n := n) (p := tp_nx t n q) (MS_t hR)
  obtain ⟨b0, ⟨t1, t2, t6, t7, t9, t12, t13, t14, t15, t16, t17, t24⟩, ⟨u1, u2, u3, u4, u5, u6, u7, u8, u9, u10, u11, u12⟩⟩ := hR.1
  refine lv_aload_n hx hb dX9_read_32 rfl (lv_at hl 0 rfl) ?_
  refine tm_calli (cs_X9_89 hx hb hml hown htw hK hW (by assumption) (c_X9_here hR) ⟨rfl, rfl, Nat.le_of_ble_eq_true rfl, Nat.le_of_ble_eq_true rfl⟩ hl.1 (Nat.le_of_ble_eq_true rfl) dX9_read_33 ⟨Nat.le_of_ble_eq_true rfl, Nat.le_of_ble_eq_true rfl⟩) hS (fun x33 M33 H locs hp33 hW hS => ?_)
  obtain ⟨ex33, e33, n33⟩ := hp33
  rw [ex33]
  have P33 : PSt sh M0 M33 o t n (tp_nx t n q) lv := PSt_m hP n33 (fun a k z => p19_P z) e33 q0.2 ((n33.2 _ _ (by unfold p19; omega)).1.trans hP.2.1) hP.2.2.1
  obtain ⟨b0a, ⟨t1a, t2a, t6a, t7a, t9a, t12a, t13a, t14a, t15a, t16a, t17a, t24a⟩, ⟨u1a, u2a, u3a, u4a, u5a, u6a, u7a, u8a, u9a, u10a, u11a, u12a⟩⟩ := P33.1.1
  have en : tp_ch t n (tp_nx t n q) = -1 → n = tp_nx t n q := fun z => tl_end z q0.2 (MS_t hR)
  refine lv_istore (lv' := [(6, _), (0, _), (2, _), (3, _), (4, _), (5, _)]) hx hb dX9_read_36 hl (by decide) rfl (fun ls hl => ?_)
  refine lv_iload hx hb dX9_read_38 (lv_at hl 0 rfl) ?_
  refine ti_iconst hx hb dX9_read_40 ?_
  refine ti_icmp_ne (tgt := 51) hx hb dX9_read_41 (by decide) (by omega) (by decide) (fun h41 => ?_) (fun h41 => ?_)
  · refine lv_aload_n hx hb dX9_read_51 rfl (lv_at hl 1 rfl) ?_
    refine gf_X9_76 hx hb htw hown hK hW (by assumption) dX9_read_52 ?_
    rw [e33]
    refine lv_istore (lv' := [(7, _), (6, _), (0, _), (2, _), (3, _), (4, _), (5, _)]) hx hb dX9_read_55 hl (by decide) rfl (fun ls hl => ?_)
    refine lv_iload hx hb dX9_read_57 (lv_at hl 6 rfl) ?_
    refine ti_if_eq (tgt := 262) hx hb dX9_read_59 (by decide) (by decide) (fun h59 => ?_) (fun h59 => ?_)
    · exact absurd h59 (by decide)
    · refine lv_iload hx hb dX9_read_62 (lv_at hl 1 rfl) ?_
      refine ti_bipush hx hb dX9_read_64 (by decide) ?_
      refine ti_icmp_ne (tgt := 101) hx hb dX9_read_66 (by decide) (by omega) (by decide) (fun h66 => ?_) (fun h66 => ?_)
      · refine ti_iconst hx hb dX9_read_101 ?_
        refine lv_istore (lv' := [(4, _), (7, _), (6, _), (0, _), (2, _), (3, _), (5, _)]) hx hb dX9_read_102 hl (by decide) rfl (fun ls hl => ?_)
        exact k2 (by omega) M33 _ _ _ P33 n33 hW hS (lv_sub hl [3, 4, 5, 0, 6, 2, 1] rfl)
      · refine lv_iload hx hb dX9_read_69 (lv_at hl 5 rfl) ?_
        refine ti_if_eq (tgt := 101) hx hb dX9_read_71 (by decide) (by omega) (fun h71 => ?_) (fun h71 => ?_)
        · refine ti_iconst hx hb dX9_read_101 ?_
          refine lv_istore (lv' := [(4, _), (7, _), (6, _), (0, _), (2, _), (3, _), (5, _)]) hx hb dX9_read_102 hl (by decide) rfl (fun ls hl => ?_)
          exact k2 (by omega) M33 _ _ _ P33 n33 hW hS (lv_sub hl [3, 4, 5, 0, 6, 2, 1] rfl)
        · refine lv_aload_n hx hb dX9_read_74 rfl (lv_at hl 2 rfl) ?_
          refine gf_X9_36 hx hb htw hown hK hW (by assumption) (by assumption) dX9_read_75 ?_
          refine lv_aload_n hx hb dX9_read_78 rfl (lv_at hl 2 rfl) ?_
          refine gf_X9_100 hx hb htw hown hK hW (by assumption) dX9_read_79 ?_
          rw [P33.2.1]
          refine ti_bipush hx hb dX9_read_82 (by decide) ?_
          refine tm_iast hx hb hK hW hS (by assumption) (by omega) (by omega) (by decide) dX9_read_84 (fun H locs hW hS => ?_)
          refine ti_iconst hx hb dX9_read_85 ?_
          refine lv_istore (lv' := [(4, _), (7, _), (6, _), (0, _), (2, _), (3, _), (5, _)]) hx hb dX9_read_86 hl (by decide) rfl (fun ls hl => ?_)
          refine lv_aload_n hx hb dX9_read_88 rfl (lv_at hl 3 rfl) ?_
          refine lv_dup hx hb dX9_read_89 rfl ?_
          refine gf_X9_76 hx hb htw hown hK hW (by assumption) dX9_read_90 ?_
          refine ti_iconst hx hb dX9_read_93 ?_
          refine ti_iadd hx hb dX9_read_94 ?_
          refine pf_X9_76 hx hb htw hown hK hW (by assumption) hS dX9_read_95 (fun H locs hW hS => ?_)
          refine lv_goto (tgt := 32) hx hb dX9_read_98 (by decide) ?_
          exact k1 (by omega) h66 (sI (sI M33 (o + 9) (lv : Int).toNat 45) o 19 (mI (sI M33 (o + 9) (lv : Int).toNat 45) o 19 + 1)) _ _ _ (PSt_m (P := (fun a k => p19 o a k ∨ (a = o + 9 ∧ k = lv))) P33 (fq_tr (fq_sI (Or.inr ⟨rfl, by omega⟩)) (fq_sI (Or.inl ⟨rfl, rfl⟩))) (fun a k z => p9_P z) ((tm_up_s _ _ _ _).trans (by rw [show mI (sI M33 (o + 9) (lv : Int).toNat 45) o 19 = mI M33 o 19 from tm_up_a _ _ (by omega), e33]; rfl)) (tp_ch_lt (t := t) (n := n) (by rw [h66]; decide)) ((tm_up_k _ _ (by decide)).trans ((tm_up_a _ _ (by omega)).trans P33.2.1)) P33.2.2.1) (fq_tr (fq_wd n33 (fun _ _ z => Or.inl z)) (fq_tr (fq_sI (Or.inr ⟨rfl, by omega⟩)) (fq_sI (Or.inl ⟨rfl, rfl⟩)))) ((tm_up_a _ _ (by omega)).trans (by rw [show (lv : Int).toNat = lv by omega]; exact tm_up_s _ _ _ _)) hW hS (lv_sub hl [3, 4, 5, 0, 6] rfl)
  · refine lv_aload_n hx hb dX9_read_44 rfl (lv_at hl 1 rfl) ?_
    refine gf_X9_79 hx hb htw hown hK hW (by assumption) dX9_read_45 ?_
    refine lv_goto (tgt := 55) hx hb dX9_read_48 (by decide) ?_
    rw [show mI M33 o 20 = ((tp_nx t n q : Nat) : Int) by rw [P33.1.2.2.1, ← en h41]]
    refine lv_istore (lv' := [(7, _), (6, _), (0, _), (2, _), (3, _), (4, _), (5, _)]) hx hb dX9_read_55 hl (by decide) rfl (fun ls hl => ?_)
    refine lv_iload hx hb dX9_read_57 (lv_at hl 6 rfl) ?_
    refine ti_if_eq (tgt := 262) hx hb dX9_read_59 (by decide) (by decide) (fun h59 => ?_) (fun h59 => ?_)
    · exact absurd h59 (by decide)
    · refine lv_iload hx hb dX9_read_62 (lv_at hl 1 rfl) ?_
      refine ti_bipush hx hb dX9_read_64 (by decide) ?_
      refine ti_icmp_ne (tgt := 101) hx hb dX9_read_66 (by decide) (by omega) (by decide) (fun h66 => ?_) (fun h66 => ?_)
      · refine ti_iconst hx hb dX9_read_101 ?_
        refine lv_istore (lv' := [(4, _), (7, _), (6, _), (0, _), (2, _), (3, _), (5, _)]) hx hb dX9_read_102 hl (by decide) rfl (fun ls hl => ?_)
        exact k2 (by omega) M33 _ _ _ P33 n33 hW hS (lv_sub hl [3, 4, 5, 0, 6, 2, 1] rfl)
      · refine lv_iload hx hb dX9_read_69 (lv_at hl 5 rfl) ?_
        refine ti_if_eq (tgt := 101) hx hb dX9_read_71 (by decide) (by omega) (fun h71 => ?_) (fun h71 => ?_)
        · refine ti_iconst hx hb dX9_read_101 ?_
          refine lv_istore (lv' := [(4, _), (7, _), (6, _), (0, _), (2, _), (3, _), (5, _)]) hx hb dX9_read_102 hl (by decide) rfl (fun ls hl => ?_)
          exact k2 (by omega) M33 _ _ _ P33 n33 hW hS (lv_sub hl [3, 4, 5, 0, 6, 2, 1] rfl)
        · refine lv_aload_n hx hb dX9_read_74 rfl (lv_at hl 2 rfl) ?_
          refine gf_X9_36 hx hb htw hown hK hW (by assumption) (by assumption) dX9_read_75 ?_
          refine lv_aload_n hx hb dX9_read_78 rfl (lv_at hl 2 rfl) ?_
          refine gf_X9_100 hx hb htw hown hK hW (by assumption) dX9_read_79 ?_
          rw [P33.2.1]
          refine ti_bipush hx hb dX9_read_82 (by decide) ?_
          refine tm_iast hx hb hK hW hS (by assumption) (by omega) (by omega) (by decide) dX9_read_84 (fun H locs hW hS => ?_)
          refine ti_iconst hx hb dX9_read_85 ?_
          refine lv_istore (lv' := [(4, _), (7, _), (6, _), (0, _), (2, _), (3, _), (5, _)]) hx hb dX9_read_86 hl (by decide) rfl (fun ls hl => ?_)
          refine lv_aload_n hx hb dX9_read_88 rfl (lv_at hl 3 rfl) ?_
          refine lv_dup hx hb dX9_read_89 rfl ?_
          refine gf_X9_76 hx hb htw hown hK hW (by assumption) dX9_read_90 ?_
          refine ti_iconst hx hb dX9_read_93 ?_
          refine ti_iadd hx hb dX9_read_94 ?_
          refine pf_X9_76 hx hb htw hown hK hW (by assumption) hS dX9_read_95 (fun H locs hW hS => ?_)
          refine lv_goto (tgt := 32) hx hb dX9_read_98 (by decide) ?_
          exact k1 (by omega) h66 (sI (sI M33 (o + 9) (lv : Int).toNat 45) o 19 (mI (sI M33 (o + 9) (lv : Int).toNat 45) o 19 + 1)) _ _ _ (PSt_m (P := (fun a k => p19 o a k ∨ (a = o + 9 ∧ k = lv))) P33 (fq_tr (fq_sI (Or.inr ⟨rfl, by omega⟩)) (fq_sI (Or.inl ⟨rfl, rfl⟩))) (fun a k z => p9_P z) ((tm_up_s _ _ _ _).trans (by rw [show mI (sI M33 (o + 9) (lv : Int).toNat 45) o 19 = mI M33 o 19 from tm_up_a _ _ (by omega), e33]; rfl)) (tp_ch_lt (t := t) (n := n) (by rw [h66]; decide)) ((tm_up_k _ _ (by decide)).trans ((tm_up_a _ _ (by omega)).trans P33.2.1)) P33.2.2.1) (fq_tr (fq_wd n33 (fun _ _ z => Or.inl z)) (fq_tr (fq_sI (Or.inr ⟨rfl, by omega⟩)) (fq_sI (Or.inl ⟨rfl, rfl⟩)))) ((tm_up_a _ _ (by omega)).trans (by rw [show (lv : Int).toNat = lv by omega]; exact tm_up_s _ _ _ _)) hW hS (lv_sub hl [3, 4, 5, 0, 6] rfl)
set_option maxHeartbeats 4000000 in
theorem mp_0 {p : Program} {l : Launch} {e : Env} {s : State} {m : MethodId} {below : List Frame} {meth : Method} {c : Code} {G : tm_G} {Hb : Heap} {sh : tm_sh} {M0 : tm_M} {o n : Nat} {t : Nat → Int} (Cx : mpC p l e s m below meth c G o n) {sd : Int} {q lv : Nat} {M : tm_M} {H : Heap} {locs : List Loc} {ls : Array Slot} (hP : PSt sh M0 M o t n (q) lv) (k2 : ∀ (M1 : tm_M) (H1 : Heap) (locs1 : List Loc) (ls1 : Array Slot), PSt sh M0 M1 o t n (tp_nx t n q) lv → fq (p19 o) M M1 → tm_W G Hb sh M1 H1 → va_S (tm_A Hb) s.heap H1 locs1 → lv_has ls1 10 [(0, .ref o), (2, ji sd), (3, ji 360), (4, ji 0), (5, ji 0), (6, ji (tp_ch t n (tp_nx t n q))), (7, ji ((tp_nx t n q : Nat) : Int))] → mpW p l e s m below meth c G Hb sh M0 o n t 262 H1 locs1 ls1) (hW : tm_W G Hb sh M H) (hS : va_S (tm_A Hb) s.heap H locs) (hl : lv_has ls 10 [(0, .ref o), (2, ji sd), (3, ji 360), (4, ji 0), (5, ji 0)]) : mpW p l e s m below meth c G Hb sh M0 o n t 32 H locs ls := by
  obtain ⟨hx, hb, hr, hml, hown, htw, hlk, hK⟩ := Cx
  have hR := hP.1
  have h9 := hP.2.2.1
  have q0 := tp_nx_le (t := t) hR.2.2.2.2.2
  have cr := tp_ch_r (n := n) (p := tp_nx t n q) (MS_t hR)
  obtain ⟨b0, ⟨t1, t2, t6, t7, t9, t12, t13, t14, t15, t16, t17, t24⟩, ⟨u1, u2, u3, u4, u5, u6, u7, u8, u9, u10, u11, u12⟩⟩ := hR.1
  refine lv_aload_n hx hb dX9_read_32 rfl (lv_at hl 0 rfl) ?_
  refine tm_calli (cs_X9_89 hx hb hml hown htw hK hW (by assumption) (c_X9_here hR) ⟨rfl, rfl, Nat.le_of_ble_eq_true rfl, Nat.le_of_ble_eq_true rfl⟩ hl.1 (Nat.le_of_ble_eq_true rfl) dX9_read_33 ⟨Nat.le_of_ble_eq_true rfl, Nat.le_of_ble_eq_true rfl⟩) hS (fun x33 M33 H locs hp33 hW hS => ?_)
  obtain ⟨ex33, e33, n33⟩ := hp33
  rw [ex33]
  have P33 : PSt sh M0 M33 o t n (tp_nx t n q) lv := PSt_m hP n33 (fun a k z => p19_P z) e33 q0.2 ((n33.2 _ _ (by unfold p19; omega)).1.trans hP.2.1) hP.2.2.1
  obtain ⟨b0a, ⟨t1a, t2a, t6a, t7a, t9a, t12a, t13a, t14a, t15a, t16a, t17a, t24a⟩, ⟨u1a, u2a, u3a, u4a, u5a, u6a, u7a, u8a, u9a, u10a, u11a, u12a⟩⟩ := P33.1.1
  have en : tp_ch t n (tp_nx t n q) = -1 → n = tp_nx t n q := fun z => tl_end z q0.2 (MS_t hR)
  refine lv_istore (lv' := [(6, _), (0, _), (2, _), (3, _), (4, _), (5, _)]) hx hb dX9_read_36 hl (by decide) rfl (fun ls hl => ?_)
  refine lv_iload hx hb dX9_read_38 (lv_at hl 0 rfl) ?_
  refine ti_iconst hx hb dX9_read_40 ?_
  refine ti_icmp_ne (tgt := 51) hx hb dX9_read_41 (by decide) (by omega) (by decide) (fun h41 => ?_) (fun h41 => ?_)
  · refine lv_aload_n hx hb dX9_read_51 rfl (lv_at hl 1 rfl) ?_
    refine gf_X9_76 hx hb htw hown hK hW (by assumption) dX9_read_52 ?_
    rw [e33]
    refine lv_istore (lv' := [(7, _), (6, _), (0, _), (2, _), (3, _), (4, _), (5, _)]) hx hb dX9_read_55 hl (by decide) rfl (fun ls hl => ?_)
    refine lv_iload hx hb dX9_read_57 (lv_at hl 6 rfl) ?_
    refine ti_if_eq (tgt := 262) hx hb dX9_read_59 (by decide) (by decide) (fun h59 => ?_) (fun h59 => ?_)
    · exact k2 M33 _ _ _ P33 n33 hW hS (lv_sub hl [2, 3, 4, 5, 6, 1, 0] rfl)
    · exact absurd rfl h59
  · refine lv_aload_n hx hb dX9_read_44 rfl (lv_at hl 1 rfl) ?_
    refine gf_X9_79 hx hb htw hown hK hW (by assumption) dX9_read_45 ?_
    refine lv_goto (tgt := 55) hx hb dX9_read_48 (by decide) ?_
    rw [show mI M33 o 20 = ((tp_nx t n q : Nat) : Int) by rw [P33.1.2.2.1, ← en h41]]
    refine lv_istore (lv' := [(7, _), (6, _), (0, _), (2, _), (3, _), (4, _), (5, _)]) hx hb dX9_read_55 hl (by decide) rfl (fun ls hl => ?_)
    refine lv_iload hx hb dX9_read_57 (lv_at hl 6 rfl) ?_
    refine ti_if_eq (tgt := 262) hx hb dX9_read_59 (by decide) (by decide) (fun h59 => ?_) (fun h59 => ?_)
    · exact k2 M33 _ _ _ P33 n33 hW hS (lv_sub hl [2, 3, 4, 5, 6, 1, 0] rfl)
    · exact absurd rfl h59
