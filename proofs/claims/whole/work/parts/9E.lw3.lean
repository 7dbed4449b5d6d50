/-! the law's cases (by program: wip/whole/gen/lw3.py) -/
theorem tn_and15 (x : Int) : Int32.ofInt x &&& Int32.ofInt 15 = Int32.ofInt (x % 16) := by
  apply Int32.toInt_inj.mp
  have h1 := pk_and (Int32.ofInt x) (m := Int32.ofInt 15) 4 (by decide)
  rw [h1]
  have h2 : (Int32.ofInt x).toBitVec.toNat % 2 ^ 4 < 2 ^ 31 := Nat.lt_of_lt_of_le (Nat.mod_lt _ (by decide)) (by decide)
  rw [nI_toInt h2, tn_i (x := x % 16) (by omega)]
  have h3 : (Int32.ofInt x).toBitVec = BitVec.ofInt 32 x := rfl
  rw [h3, BitVec.toNat_ofInt]
  omega
theorem w_in (x : Int32) : inI x.toInt := by have h1 := Int32.le_toInt x; have h2 := Int32.toInt_lt x; omega
section LWR
variable {p : Program} {l : Launch} {e : Env} {R : Room} {s : State} {m : MethodId} {args : Array Value} {below : List Frame} {meth : Method} {c : Code} {H : Heap} {locs : List Loc} {cells slots : Nat} {Q : State → Prop}
variable {cc : ByteArray} {pc : Nat} {ls : Array Slot} {rest : List Value} {b L : Nat} {xs : Nat → Int32}
theorem ti_and15 (hexec : p.tables.exec = Jvm.exec) (hb : c.code = cc) {x : Int} (hdg : decode cc pc = .ok (.iand, 1)) (k : W p l e R s m args below meth c H locs cells slots Q (F0 m (pc + 1) ls (ji (x % 16) :: rest))) : W p l e R s m args below meth c H locs cells slots Q (F0 m pc ls (ji 15 :: ji x :: rest)) := lv_iand hexec hb hdg (by rw [tn_and15]; exact k)
theorem lw_ld (hexec : p.tables.exec = Jvm.exec) (hb : c.code = cc) (hX : va_X b L xs s s.heap) (hbl : b < s.heap.size) (hS : va_S (tm_A s.heap) s.heap H locs) {j w : Int} (h0 : 0 ≤ j) (h1 : j < L) (hL : L ≤ 1536) (hw : (xs j.toNat).toInt = w) (hdg : decode cc pc = .ok (.iaload, 1)) (k : W p l e R s m args below meth c H locs cells slots Q (F0 m (pc + 1) ls (ji w :: rest))) : W p l e R s m args below meth c H locs cells slots Q (F0 m pc ls (ji j :: .ref b :: rest)) := by
  obtain ⟨hin, hcl⟩ := tm_ix h0 h1 (by omega)
  refine va_sld hexec hb hX hbl (fun q => Nat.lt_irrefl _ (Nat.lt_of_lt_of_le hbl q)) hS hin hdg ?_
  rw [hcl]
  have e1 : Value.int (xs j.toNat) = ji w := by
    rw [← hw]
    show Value.int _ = Value.int (Int32.ofInt (xs j.toNat).toInt)
    rw [Int32.ofInt_toInt]
  rw [e1]
  exact k
theorem lw_len (hexec : p.tables.exec = Jvm.exec) (hb : c.code = cc) (hX : va_X b L xs s s.heap) (hbl : b < s.heap.size) (hS : va_S (tm_A s.heap) s.heap H locs) (hdg : decode cc pc = .ok (.arraylength, 1)) (k : W p l e R s m args below meth c H locs cells slots Q (F0 m (pc + 1) ls (ji (L : Int) :: rest))) : W p l e R s m args below meth c H locs cells slots Q (F0 m pc ls (.ref b :: rest)) := by
  refine va_slen hexec hb hX hbl (fun q => Nat.lt_irrefl _ (Nat.lt_of_lt_of_le hbl q)) hS hdg ?_
  exact k
end LWR
/-- what is fixed while the law runs -/
def lw_Fx (p : Program) (l : Launch) (s : State) (m : MethodId) (c : Code) (b L : Nat) (xs : Nat → Int32) (G : tm_G) : Prop := p.tables.exec = Jvm.exec ∧ c.code = cL_law ∧ c.maxLocals = 8 ∧ s.vm.findClass RL = some m.cls ∧ (∀ w ∈ tw, w.before #[Value.ref b] s = true) ∧ va_K G.1 vwCl (tm_tys G) s ∧ tm_Cs s.heap s ∧ NcX s ∧ l.stackTraces = false ∧ va_X b L xs s s.heap ∧ b < s.heap.size ∧ L ≤ 1536
/-- what holds at the loop's head and behind each case -/
def lw_J (s : State) (G : tm_G) (sh : tm_sh) (M : tm_M) (T b : Nat) (i : Int) (z : tl_Z) (px : List Int) (H : Heap) (locs : List Loc) (ls : Array Slot) : Prop := LJ sh M T z px z px ∧ ZI z ∧ PLt px ∧ tm_W G s.heap sh M H ∧ va_S (tm_A s.heap) s.heap H locs ∧ lv_has ls 8 [(0, .ref b), (1, .ref T), (2, .ref (T + 395)), (3, .ref (T + 408)), (4, ji i)]
theorem dL_law_0 : decode cL_law 0 = .ok (.new 8, 3) := by decide +kernel
theorem dL_law_3 : decode cL_law 3 = .ok (.dup, 1) := by decide +kernel
theorem dL_law_4 : decode cL_law 4 = .ok (.invokespecial 51, 3) := by decide +kernel
theorem dL_law_7 : decode cL_law 7 = .ok (.astore_n 1, 1) := by decide +kernel
theorem dL_law_8 : decode cL_law 8 = .ok (.new 52, 3) := by decide +kernel
theorem dL_law_11 : decode cL_law 11 = .ok (.dup, 1) := by decide +kernel
theorem dL_law_12 : decode cL_law 12 = .ok (.invokespecial 54, 3) := by decide +kernel
theorem dL_law_15 : decode cL_law 15 = .ok (.astore_n 2, 1) := by decide +kernel
theorem dL_law_16 : decode cL_law 16 = .ok (.iconst 1, 1) := by decide +kernel
theorem dL_law_17 : decode cL_law 17 = .ok (.newarray .long, 2) := by decide +kernel
theorem dL_law_19 : decode cL_law 19 = .ok (.astore_n 3, 1) := by decide +kernel
theorem dL_law_20 : decode cL_law 20 = .ok (.iconst 0, 1) := by decide +kernel
theorem dL_law_21 : decode cL_law 21 = .ok (.istore 4, 2) := by decide +kernel
theorem dL_law_23 : decode cL_law 23 = .ok (.iload 4, 2) := by decide +kernel
theorem dL_law_25 : decode cL_law 25 = .ok (.aload_n 0, 1) := by decide +kernel
theorem dL_law_26 : decode cL_law 26 = .ok (.arraylength, 1) := by decide +kernel
theorem dL_law_27 : decode cL_law 27 = .ok (.iconst 3, 1) := by decide +kernel
theorem dL_law_28 : decode cL_law 28 = .ok (.isub, 1) := by decide +kernel
theorem dL_law_29 : decode cL_law 29 = .ok (.if_icmp .gt 720, 3) := by decide +kernel
theorem dL_law_32 : decode cL_law 32 = .ok (.aload_n 0, 1) := by decide +kernel
theorem dL_law_33 : decode cL_law 33 = .ok (.iload 4, 2) := by decide +kernel
theorem dL_law_35 : decode cL_law 35 = .ok (.iaload, 1) := by decide +kernel
theorem dL_law_36 : decode cL_law 36 = .ok (.bipush 15, 2) := by decide +kernel
theorem dL_law_38 : decode cL_law 38 = .ok (.iand, 1) := by decide +kernel
theorem dL_law_39 : decode cL_law 39 = .ok (.tableswitch 704 0 13 #[69, 117, 173, 229, 242, 297, 341, 392, 443, 499, 554, 598, 623, 679], 69) := by decide +kernel
theorem dL_law_108 : decode cL_law 108 = .ok (.aload_n 1, 1) := by decide +kernel
theorem dL_law_109 : decode cL_law 109 = .ok (.aload_n 0, 1) := by decide +kernel
theorem dL_law_110 : decode cL_law 110 = .ok (.iload 4, 2) := by decide +kernel
theorem dL_law_112 : decode cL_law 112 = .ok (.iconst 1, 1) := by decide +kernel
theorem dL_law_113 : decode cL_law 113 = .ok (.iadd, 1) := by decide +kernel
theorem dL_law_114 : decode cL_law 114 = .ok (.iaload, 1) := by decide +kernel
theorem dL_law_115 : decode cL_law 115 = .ok (.aload_n 0, 1) := by decide +kernel
theorem dL_law_116 : decode cL_law 116 = .ok (.iload 4, 2) := by decide +kernel
theorem dL_law_118 : decode cL_law 118 = .ok (.iconst 2, 1) := by decide +kernel
theorem dL_law_119 : decode cL_law 119 = .ok (.iadd, 1) := by decide +kernel
theorem dL_law_120 : decode cL_law 120 = .ok (.iaload, 1) := by decide +kernel
theorem dL_law_121 : decode cL_law 121 = .ok (.invokestatic 55, 3) := by decide +kernel
theorem dL_law_124 : decode cL_law 124 = .ok (.istore 5, 2) := by decide +kernel
theorem dL_law_126 : decode cL_law 126 = .ok (.aload_n 2, 1) := by decide +kernel
theorem dL_law_127 : decode cL_law 127 = .ok (.aload_n 0, 1) := by decide +kernel
theorem dL_law_128 : decode cL_law 128 = .ok (.iload 4, 2) := by decide +kernel
theorem dL_law_130 : decode cL_law 130 = .ok (.iconst 1, 1) := by decide +kernel
theorem dL_law_131 : decode cL_law 131 = .ok (.iadd, 1) := by decide +kernel
theorem dL_law_132 : decode cL_law 132 = .ok (.iaload, 1) := by decide +kernel
theorem dL_law_133 : decode cL_law 133 = .ok (.aload_n 0, 1) := by decide +kernel
theorem dL_law_134 : decode cL_law 134 = .ok (.iload 4, 2) := by decide +kernel
theorem dL_law_136 : decode cL_law 136 = .ok (.iconst 2, 1) := by decide +kernel
theorem dL_law_137 : decode cL_law 137 = .ok (.iadd, 1) := by decide +kernel
theorem dL_law_138 : decode cL_law 138 = .ok (.iaload, 1) := by decide +kernel
theorem dL_law_139 : decode cL_law 139 = .ok (.invokevirtual 60, 3) := by decide +kernel
theorem dL_law_142 : decode cL_law 142 = .ok (.aload_n 2, 1) := by decide +kernel
theorem dL_law_143 : decode cL_law 143 = .ok (.invokevirtual 61, 3) := by decide +kernel
theorem dL_law_146 : decode cL_law 146 = .ok (.iload 5, 2) := by decide +kernel
theorem dL_law_148 : decode cL_law 148 = .ok (.if_icmp .eq 5, 3) := by decide +kernel
theorem dL_law_151 : decode cL_law 151 = .ok (.iconst 0, 1) := by decide +kernel
theorem dL_law_152 : decode cL_law 152 = .ok (.ireturn, 1) := by decide +kernel
theorem dL_law_153 : decode cL_law 153 = .ok (.goto 590, 3) := by decide +kernel
theorem dL_law_156 : decode cL_law 156 = .ok (.aload_n 1, 1) := by decide +kernel
theorem dL_law_157 : decode cL_law 157 = .ok (.aload_n 0, 1) := by decide +kernel
theorem dL_law_158 : decode cL_law 158 = .ok (.iload 4, 2) := by decide +kernel
theorem dL_law_160 : decode cL_law 160 = .ok (.iconst 1, 1) := by decide +kernel
theorem dL_law_161 : decode cL_law 161 = .ok (.iadd, 1) := by decide +kernel
theorem dL_law_162 : decode cL_law 162 = .ok (.iaload, 1) := by decide +kernel
theorem dL_law_163 : decode cL_law 163 = .ok (.aload_n 3, 1) := by decide +kernel
theorem dL_law_164 : decode cL_law 164 = .ok (.invokestatic 64, 3) := by decide +kernel
theorem dL_law_167 : decode cL_law 167 = .ok (.istore 5, 2) := by decide +kernel
theorem dL_law_169 : decode cL_law 169 = .ok (.aload_n 2, 1) := by decide +kernel
theorem dL_law_170 : decode cL_law 170 = .ok (.aload_n 0, 1) := by decide +kernel
theorem dL_law_171 : decode cL_law 171 = .ok (.iload 4, 2) := by decide +kernel
theorem dL_law_173 : decode cL_law 173 = .ok (.iconst 1, 1) := by decide +kernel
theorem dL_law_174 : decode cL_law 174 = .ok (.iadd, 1) := by decide +kernel
theorem dL_law_175 : decode cL_law 175 = .ok (.iaload, 1) := by decide +kernel
theorem dL_law_176 : decode cL_law 176 = .ok (.invokevirtual 67, 3) := by decide +kernel
theorem dL_law_179 : decode cL_law 179 = .ok (.istore 6, 2) := by decide +kernel
theorem dL_law_181 : decode cL_law 181 = .ok (.aload_n 2, 1) := by decide +kernel
theorem dL_law_182 : decode cL_law 182 = .ok (.invokevirtual 61, 3) := by decide +kernel
theorem dL_law_185 : decode cL_law 185 = .ok (.iload 5, 2) := by decide +kernel
theorem dL_law_187 : decode cL_law 187 = .ok (.if_icmp .eq 5, 3) := by decide +kernel
theorem dL_law_190 : decode cL_law 190 = .ok (.iconst 0, 1) := by decide +kernel
theorem dL_law_191 : decode cL_law 191 = .ok (.ireturn, 1) := by decide +kernel
theorem dL_law_192 : decode cL_law 192 = .ok (.iload 5, 2) := by decide +kernel
theorem dL_law_194 : decode cL_law 194 = .ok (.ifCond .ne 15, 3) := by decide +kernel
theorem dL_law_197 : decode cL_law 197 = .ok (.aload_n 3, 1) := by decide +kernel
theorem dL_law_198 : decode cL_law 198 = .ok (.iconst 0, 1) := by decide +kernel
theorem dL_law_199 : decode cL_law 199 = .ok (.laload, 1) := by decide +kernel
theorem dL_law_200 : decode cL_law 200 = .ok (.iload 6, 2) := by decide +kernel
theorem dL_law_202 : decode cL_law 202 = .ok (.i2l, 1) := by decide +kernel
theorem dL_law_203 : decode cL_law 203 = .ok (.lcmp, 1) := by decide +kernel
theorem dL_law_204 : decode cL_law 204 = .ok (.ifCond .eq 5, 3) := by decide +kernel
theorem dL_law_207 : decode cL_law 207 = .ok (.iconst 0, 1) := by decide +kernel
theorem dL_law_208 : decode cL_law 208 = .ok (.ireturn, 1) := by decide +kernel
theorem dL_law_209 : decode cL_law 209 = .ok (.goto 534, 3) := by decide +kernel
theorem dL_law_212 : decode cL_law 212 = .ok (.aload_n 1, 1) := by decide +kernel
theorem dL_law_213 : decode cL_law 213 = .ok (.aload_n 0, 1) := by decide +kernel
theorem dL_law_214 : decode cL_law 214 = .ok (.iload 4, 2) := by decide +kernel
theorem dL_law_216 : decode cL_law 216 = .ok (.iconst 1, 1) := by decide +kernel
theorem dL_law_217 : decode cL_law 217 = .ok (.iadd, 1) := by decide +kernel
theorem dL_law_218 : decode cL_law 218 = .ok (.iaload, 1) := by decide +kernel
theorem dL_law_219 : decode cL_law 219 = .ok (.aload_n 3, 1) := by decide +kernel
theorem dL_law_220 : decode cL_law 220 = .ok (.invokestatic 68, 3) := by decide +kernel
theorem dL_law_223 : decode cL_law 223 = .ok (.istore 5, 2) := by decide +kernel
theorem dL_law_225 : decode cL_law 225 = .ok (.aload_n 2, 1) := by decide +kernel
theorem dL_law_226 : decode cL_law 226 = .ok (.aload_n 0, 1) := by decide +kernel
theorem dL_law_227 : decode cL_law 227 = .ok (.iload 4, 2) := by decide +kernel
theorem dL_law_229 : decode cL_law 229 = .ok (.iconst 1, 1) := by decide +kernel
theorem dL_law_230 : decode cL_law 230 = .ok (.iadd, 1) := by decide +kernel
theorem dL_law_231 : decode cL_law 231 = .ok (.iaload, 1) := by decide +kernel
theorem dL_law_232 : decode cL_law 232 = .ok (.invokevirtual 70, 3) := by decide +kernel
theorem dL_law_235 : decode cL_law 235 = .ok (.istore 6, 2) := by decide +kernel
theorem dL_law_237 : decode cL_law 237 = .ok (.aload_n 2, 1) := by decide +kernel
theorem dL_law_238 : decode cL_law 238 = .ok (.invokevirtual 61, 3) := by decide +kernel
theorem dL_law_241 : decode cL_law 241 = .ok (.iload 5, 2) := by decide +kernel
theorem dL_law_243 : decode cL_law 243 = .ok (.if_icmp .eq 5, 3) := by decide +kernel
theorem dL_law_246 : decode cL_law 246 = .ok (.iconst 0, 1) := by decide +kernel
theorem dL_law_247 : decode cL_law 247 = .ok (.ireturn, 1) := by decide +kernel
theorem dL_law_248 : decode cL_law 248 = .ok (.iload 5, 2) := by decide +kernel
theorem dL_law_250 : decode cL_law 250 = .ok (.ifCond .ne 15, 3) := by decide +kernel
theorem dL_law_253 : decode cL_law 253 = .ok (.aload_n 3, 1) := by decide +kernel
theorem dL_law_254 : decode cL_law 254 = .ok (.iconst 0, 1) := by decide +kernel
theorem dL_law_255 : decode cL_law 255 = .ok (.laload, 1) := by decide +kernel
theorem dL_law_256 : decode cL_law 256 = .ok (.iload 6, 2) := by decide +kernel
theorem dL_law_258 : decode cL_law 258 = .ok (.i2l, 1) := by decide +kernel
theorem dL_law_259 : decode cL_law 259 = .ok (.lcmp, 1) := by decide +kernel
theorem dL_law_260 : decode cL_law 260 = .ok (.ifCond .eq 5, 3) := by decide +kernel
theorem dL_law_263 : decode cL_law 263 = .ok (.iconst 0, 1) := by decide +kernel
theorem dL_law_264 : decode cL_law 264 = .ok (.ireturn, 1) := by decide +kernel
theorem dL_law_265 : decode cL_law 265 = .ok (.goto 478, 3) := by decide +kernel
theorem dL_law_268 : decode cL_law 268 = .ok (.aload_n 1, 1) := by decide +kernel
theorem dL_law_269 : decode cL_law 269 = .ok (.invokevirtual 71, 3) := by decide +kernel
theorem dL_law_272 : decode cL_law 272 = .ok (.aload_n 2, 1) := by decide +kernel
theorem dL_law_273 : decode cL_law 273 = .ok (.invokevirtual 74, 3) := by decide +kernel
theorem dL_law_276 : decode cL_law 276 = .ok (.if_icmp .eq 467, 3) := by decide +kernel
theorem dL_law_279 : decode cL_law 279 = .ok (.iconst 0, 1) := by decide +kernel
theorem dL_law_280 : decode cL_law 280 = .ok (.ireturn, 1) := by decide +kernel
theorem dL_law_281 : decode cL_law 281 = .ok (.aload_n 1, 1) := by decide +kernel
theorem dL_law_282 : decode cL_law 282 = .ok (.aload_n 0, 1) := by decide +kernel
theorem dL_law_283 : decode cL_law 283 = .ok (.iload 4, 2) := by decide +kernel
theorem dL_law_285 : decode cL_law 285 = .ok (.iconst 1, 1) := by decide +kernel
theorem dL_law_286 : decode cL_law 286 = .ok (.iadd, 1) := by decide +kernel
theorem dL_law_287 : decode cL_law 287 = .ok (.iaload, 1) := by decide +kernel
theorem dL_law_288 : decode cL_law 288 = .ok (.aload_n 3, 1) := by decide +kernel
theorem dL_law_289 : decode cL_law 289 = .ok (.invokestatic 75, 3) := by decide +kernel
theorem dL_law_292 : decode cL_law 292 = .ok (.istore 5, 2) := by decide +kernel
theorem dL_law_294 : decode cL_law 294 = .ok (.aload_n 2, 1) := by decide +kernel
theorem dL_law_295 : decode cL_law 295 = .ok (.aload_n 0, 1) := by decide +kernel
theorem dL_law_296 : decode cL_law 296 = .ok (.iload 4, 2) := by decide +kernel
theorem dL_law_298 : decode cL_law 298 = .ok (.iconst 1, 1) := by decide +kernel
theorem dL_law_299 : decode cL_law 299 = .ok (.iadd, 1) := by decide +kernel
theorem dL_law_300 : decode cL_law 300 = .ok (.iaload, 1) := by decide +kernel
theorem dL_law_301 : decode cL_law 301 = .ok (.invokevirtual 77, 3) := by decide +kernel
theorem dL_law_304 : decode cL_law 304 = .ok (.lstore 6, 2) := by decide +kernel
theorem dL_law_306 : decode cL_law 306 = .ok (.aload_n 2, 1) := by decide +kernel
theorem dL_law_307 : decode cL_law 307 = .ok (.invokevirtual 61, 3) := by decide +kernel
theorem dL_law_310 : decode cL_law 310 = .ok (.iload 5, 2) := by decide +kernel
theorem dL_law_312 : decode cL_law 312 = .ok (.if_icmp .eq 5, 3) := by decide +kernel
theorem dL_law_315 : decode cL_law 315 = .ok (.iconst 0, 1) := by decide +kernel
theorem dL_law_316 : decode cL_law 316 = .ok (.ireturn, 1) := by decide +kernel
theorem dL_law_317 : decode cL_law 317 = .ok (.iload 5, 2) := by decide +kernel
theorem dL_law_319 : decode cL_law 319 = .ok (.ifCond .ne 14, 3) := by decide +kernel
theorem dL_law_322 : decode cL_law 322 = .ok (.aload_n 3, 1) := by decide +kernel
theorem dL_law_323 : decode cL_law 323 = .ok (.iconst 0, 1) := by decide +kernel
theorem dL_law_324 : decode cL_law 324 = .ok (.laload, 1) := by decide +kernel
theorem dL_law_325 : decode cL_law 325 = .ok (.lload 6, 2) := by decide +kernel
theorem dL_law_327 : decode cL_law 327 = .ok (.lcmp, 1) := by decide +kernel
theorem dL_law_328 : decode cL_law 328 = .ok (.ifCond .eq 5, 3) := by decide +kernel
theorem dL_law_331 : decode cL_law 331 = .ok (.iconst 0, 1) := by decide +kernel
theorem dL_law_332 : decode cL_law 332 = .ok (.ireturn, 1) := by decide +kernel
theorem dL_law_333 : decode cL_law 333 = .ok (.goto 410, 3) := by decide +kernel
theorem dL_law_336 : decode cL_law 336 = .ok (.aload_n 1, 1) := by decide +kernel
theorem dL_law_337 : decode cL_law 337 = .ok (.aload_n 3, 1) := by decide +kernel
theorem dL_law_338 : decode cL_law 338 = .ok (.invokestatic 78, 3) := by decide +kernel
theorem dL_law_341 : decode cL_law 341 = .ok (.istore 5, 2) := by decide +kernel
theorem dL_law_343 : decode cL_law 343 = .ok (.aload_n 2, 1) := by decide +kernel
theorem dL_law_344 : decode cL_law 344 = .ok (.invokevirtual 81, 3) := by decide +kernel
theorem dL_law_347 : decode cL_law 347 = .ok (.istore 6, 2) := by decide +kernel
theorem dL_law_349 : decode cL_law 349 = .ok (.aload_n 2, 1) := by decide +kernel
theorem dL_law_350 : decode cL_law 350 = .ok (.invokevirtual 61, 3) := by decide +kernel
theorem dL_law_353 : decode cL_law 353 = .ok (.iload 5, 2) := by decide +kernel
theorem dL_law_355 : decode cL_law 355 = .ok (.if_icmp .eq 5, 3) := by decide +kernel
theorem dL_law_358 : decode cL_law 358 = .ok (.iconst 0, 1) := by decide +kernel
theorem dL_law_359 : decode cL_law 359 = .ok (.ireturn, 1) := by decide +kernel
theorem dL_law_360 : decode cL_law 360 = .ok (.iload 5, 2) := by decide +kernel
theorem dL_law_362 : decode cL_law 362 = .ok (.ifCond .ne 15, 3) := by decide +kernel
theorem dL_law_365 : decode cL_law 365 = .ok (.aload_n 3, 1) := by decide +kernel
theorem dL_law_366 : decode cL_law 366 = .ok (.iconst 0, 1) := by decide +kernel
theorem dL_law_367 : decode cL_law 367 = .ok (.laload, 1) := by decide +kernel
theorem dL_law_368 : decode cL_law 368 = .ok (.iload 6, 2) := by decide +kernel
theorem dL_law_370 : decode cL_law 370 = .ok (.i2l, 1) := by decide +kernel
theorem dL_law_371 : decode cL_law 371 = .ok (.lcmp, 1) := by decide +kernel
theorem dL_law_372 : decode cL_law 372 = .ok (.ifCond .eq 5, 3) := by decide +kernel
theorem dL_law_375 : decode cL_law 375 = .ok (.iconst 0, 1) := by decide +kernel
theorem dL_law_376 : decode cL_law 376 = .ok (.ireturn, 1) := by decide +kernel
theorem dL_law_377 : decode cL_law 377 = .ok (.goto 366, 3) := by decide +kernel
theorem dL_law_380 : decode cL_law 380 = .ok (.aload_n 1, 1) := by decide +kernel
theorem dL_law_381 : decode cL_law 381 = .ok (.aload_n 3, 1) := by decide +kernel
theorem dL_law_382 : decode cL_law 382 = .ok (.invokestatic 82, 3) := by decide +kernel
theorem dL_law_385 : decode cL_law 385 = .ok (.istore 5, 2) := by decide +kernel
theorem dL_law_387 : decode cL_law 387 = .ok (.aload_n 2, 1) := by decide +kernel
theorem dL_law_388 : decode cL_law 388 = .ok (.invokevirtual 84, 3) := by decide +kernel
theorem dL_law_391 : decode cL_law 391 = .ok (.istore 6, 2) := by decide +kernel
theorem dL_law_393 : decode cL_law 393 = .ok (.aload_n 2, 1) := by decide +kernel
theorem dL_law_394 : decode cL_law 394 = .ok (.invokevirtual 61, 3) := by decide +kernel
theorem dL_law_397 : decode cL_law 397 = .ok (.iload 5, 2) := by decide +kernel
theorem dL_law_399 : decode cL_law 399 = .ok (.if_icmp .eq 5, 3) := by decide +kernel
theorem dL_law_402 : decode cL_law 402 = .ok (.iconst 0, 1) := by decide +kernel
theorem dL_law_403 : decode cL_law 403 = .ok (.ireturn, 1) := by decide +kernel
theorem dL_law_404 : decode cL_law 404 = .ok (.iload 5, 2) := by decide +kernel
theorem dL_law_406 : decode cL_law 406 = .ok (.ifCond .ne 22, 3) := by decide +kernel
theorem dL_law_409 : decode cL_law 409 = .ok (.aload_n 3, 1) := by decide +kernel
theorem dL_law_410 : decode cL_law 410 = .ok (.iconst 0, 1) := by decide +kernel
theorem dL_law_411 : decode cL_law 411 = .ok (.laload, 1) := by decide +kernel
theorem dL_law_412 : decode cL_law 412 = .ok (.iload 6, 2) := by decide +kernel
theorem dL_law_414 : decode cL_law 414 = .ok (.ifCond .eq 7, 3) := by decide +kernel
theorem dL_law_417 : decode cL_law 417 = .ok (.lconst 1, 1) := by decide +kernel
theorem dL_law_418 : decode cL_law 418 = .ok (.goto 4, 3) := by decide +kernel
theorem dL_law_421 : decode cL_law 421 = .ok (.lconst 0, 1) := by decide +kernel
theorem dL_law_422 : decode cL_law 422 = .ok (.lcmp, 1) := by decide +kernel
theorem dL_law_423 : decode cL_law 423 = .ok (.ifCond .eq 5, 3) := by decide +kernel
theorem dL_law_426 : decode cL_law 426 = .ok (.iconst 0, 1) := by decide +kernel
theorem dL_law_427 : decode cL_law 427 = .ok (.ireturn, 1) := by decide +kernel
theorem dL_law_428 : decode cL_law 428 = .ok (.goto 315, 3) := by decide +kernel
theorem dL_law_431 : decode cL_law 431 = .ok (.aload_n 1, 1) := by decide +kernel
theorem dL_law_432 : decode cL_law 432 = .ok (.aload_n 3, 1) := by decide +kernel
theorem dL_law_433 : decode cL_law 433 = .ok (.invokestatic 85, 3) := by decide +kernel
theorem dL_law_436 : decode cL_law 436 = .ok (.istore 5, 2) := by decide +kernel
theorem dL_law_438 : decode cL_law 438 = .ok (.aload_n 2, 1) := by decide +kernel
theorem dL_law_439 : decode cL_law 439 = .ok (.invokevirtual 87, 3) := by decide +kernel
theorem dL_law_442 : decode cL_law 442 = .ok (.istore 6, 2) := by decide +kernel
theorem dL_law_444 : decode cL_law 444 = .ok (.aload_n 2, 1) := by decide +kernel
theorem dL_law_445 : decode cL_law 445 = .ok (.invokevirtual 61, 3) := by decide +kernel
theorem dL_law_448 : decode cL_law 448 = .ok (.iload 5, 2) := by decide +kernel
theorem dL_law_450 : decode cL_law 450 = .ok (.if_icmp .eq 5, 3) := by decide +kernel
theorem dL_law_453 : decode cL_law 453 = .ok (.iconst 0, 1) := by decide +kernel
theorem dL_law_454 : decode cL_law 454 = .ok (.ireturn, 1) := by decide +kernel
theorem dL_law_455 : decode cL_law 455 = .ok (.iload 5, 2) := by decide +kernel
theorem dL_law_457 : decode cL_law 457 = .ok (.ifCond .ne 22, 3) := by decide +kernel
theorem dL_law_460 : decode cL_law 460 = .ok (.aload_n 3, 1) := by decide +kernel
theorem dL_law_461 : decode cL_law 461 = .ok (.iconst 0, 1) := by decide +kernel
theorem dL_law_462 : decode cL_law 462 = .ok (.laload, 1) := by decide +kernel
theorem dL_law_463 : decode cL_law 463 = .ok (.iload 6, 2) := by decide +kernel
theorem dL_law_465 : decode cL_law 465 = .ok (.ifCond .eq 7, 3) := by decide +kernel
theorem dL_law_468 : decode cL_law 468 = .ok (.lconst 1, 1) := by decide +kernel
theorem dL_law_469 : decode cL_law 469 = .ok (.goto 4, 3) := by decide +kernel
theorem dL_law_472 : decode cL_law 472 = .ok (.lconst 0, 1) := by decide +kernel
theorem dL_law_473 : decode cL_law 473 = .ok (.lcmp, 1) := by decide +kernel
theorem dL_law_474 : decode cL_law 474 = .ok (.ifCond .eq 5, 3) := by decide +kernel
theorem dL_law_477 : decode cL_law 477 = .ok (.iconst 0, 1) := by decide +kernel
theorem dL_law_478 : decode cL_law 478 = .ok (.ireturn, 1) := by decide +kernel
theorem dL_law_479 : decode cL_law 479 = .ok (.goto 264, 3) := by decide +kernel
theorem dL_law_482 : decode cL_law 482 = .ok (.aload_n 1, 1) := by decide +kernel
theorem dL_law_483 : decode cL_law 483 = .ok (.aload_n 0, 1) := by decide +kernel
theorem dL_law_484 : decode cL_law 484 = .ok (.iload 4, 2) := by decide +kernel
theorem dL_law_486 : decode cL_law 486 = .ok (.iconst 1, 1) := by decide +kernel
theorem dL_law_487 : decode cL_law 487 = .ok (.iadd, 1) := by decide +kernel
theorem dL_law_488 : decode cL_law 488 = .ok (.iaload, 1) := by decide +kernel
theorem dL_law_489 : decode cL_law 489 = .ok (.aload_n 3, 1) := by decide +kernel
theorem dL_law_490 : decode cL_law 490 = .ok (.invokestatic 88, 3) := by decide +kernel
theorem dL_law_493 : decode cL_law 493 = .ok (.istore 5, 2) := by decide +kernel
theorem dL_law_495 : decode cL_law 495 = .ok (.aload_n 2, 1) := by decide +kernel
theorem dL_law_496 : decode cL_law 496 = .ok (.aload_n 0, 1) := by decide +kernel
theorem dL_law_497 : decode cL_law 497 = .ok (.iload 4, 2) := by decide +kernel
theorem dL_law_499 : decode cL_law 499 = .ok (.iconst 1, 1) := by decide +kernel
theorem dL_law_500 : decode cL_law 500 = .ok (.iadd, 1) := by decide +kernel
theorem dL_law_501 : decode cL_law 501 = .ok (.iaload, 1) := by decide +kernel
theorem dL_law_502 : decode cL_law 502 = .ok (.invokevirtual 90, 3) := by decide +kernel
theorem dL_law_505 : decode cL_law 505 = .ok (.istore 6, 2) := by decide +kernel
theorem dL_law_507 : decode cL_law 507 = .ok (.aload_n 2, 1) := by decide +kernel
theorem dL_law_508 : decode cL_law 508 = .ok (.invokevirtual 61, 3) := by decide +kernel
theorem dL_law_511 : decode cL_law 511 = .ok (.iload 5, 2) := by decide +kernel
theorem dL_law_513 : decode cL_law 513 = .ok (.if_icmp .eq 5, 3) := by decide +kernel
theorem dL_law_516 : decode cL_law 516 = .ok (.iconst 0, 1) := by decide +kernel
theorem dL_law_517 : decode cL_law 517 = .ok (.ireturn, 1) := by decide +kernel
theorem dL_law_518 : decode cL_law 518 = .ok (.iload 5, 2) := by decide +kernel
theorem dL_law_520 : decode cL_law 520 = .ok (.ifCond .ne 15, 3) := by decide +kernel
theorem dL_law_523 : decode cL_law 523 = .ok (.aload_n 3, 1) := by decide +kernel
theorem dL_law_524 : decode cL_law 524 = .ok (.iconst 0, 1) := by decide +kernel
theorem dL_law_525 : decode cL_law 525 = .ok (.laload, 1) := by decide +kernel
theorem dL_law_526 : decode cL_law 526 = .ok (.iload 6, 2) := by decide +kernel
theorem dL_law_528 : decode cL_law 528 = .ok (.i2l, 1) := by decide +kernel
theorem dL_law_529 : decode cL_law 529 = .ok (.lcmp, 1) := by decide +kernel
theorem dL_law_530 : decode cL_law 530 = .ok (.ifCond .eq 5, 3) := by decide +kernel
theorem dL_law_533 : decode cL_law 533 = .ok (.iconst 0, 1) := by decide +kernel
theorem dL_law_534 : decode cL_law 534 = .ok (.ireturn, 1) := by decide +kernel
theorem dL_law_535 : decode cL_law 535 = .ok (.goto 208, 3) := by decide +kernel
theorem dL_law_538 : decode cL_law 538 = .ok (.aload_n 1, 1) := by decide +kernel
theorem dL_law_539 : decode cL_law 539 = .ok (.aload_n 0, 1) := by decide +kernel
theorem dL_law_540 : decode cL_law 540 = .ok (.iload 4, 2) := by decide +kernel
theorem dL_law_542 : decode cL_law 542 = .ok (.iconst 1, 1) := by decide +kernel
theorem dL_law_543 : decode cL_law 543 = .ok (.iadd, 1) := by decide +kernel
theorem dL_law_544 : decode cL_law 544 = .ok (.iaload, 1) := by decide +kernel
theorem dL_law_545 : decode cL_law 545 = .ok (.aload_n 3, 1) := by decide +kernel
theorem dL_law_546 : decode cL_law 546 = .ok (.invokestatic 91, 3) := by decide +kernel
theorem dL_law_549 : decode cL_law 549 = .ok (.istore 5, 2) := by decide +kernel
theorem dL_law_551 : decode cL_law 551 = .ok (.aload_n 2, 1) := by decide +kernel
theorem dL_law_552 : decode cL_law 552 = .ok (.aload_n 0, 1) := by decide +kernel
theorem dL_law_553 : decode cL_law 553 = .ok (.iload 4, 2) := by decide +kernel
theorem dL_law_555 : decode cL_law 555 = .ok (.iconst 1, 1) := by decide +kernel
theorem dL_law_556 : decode cL_law 556 = .ok (.iadd, 1) := by decide +kernel
theorem dL_law_557 : decode cL_law 557 = .ok (.iaload, 1) := by decide +kernel
theorem dL_law_558 : decode cL_law 558 = .ok (.invokevirtual 93, 3) := by decide +kernel
theorem dL_law_561 : decode cL_law 561 = .ok (.lstore 6, 2) := by decide +kernel
theorem dL_law_563 : decode cL_law 563 = .ok (.aload_n 2, 1) := by decide +kernel
theorem dL_law_564 : decode cL_law 564 = .ok (.invokevirtual 61, 3) := by decide +kernel
theorem dL_law_567 : decode cL_law 567 = .ok (.iload 5, 2) := by decide +kernel
theorem dL_law_569 : decode cL_law 569 = .ok (.if_icmp .eq 5, 3) := by decide +kernel
theorem dL_law_572 : decode cL_law 572 = .ok (.iconst 0, 1) := by decide +kernel
theorem dL_law_573 : decode cL_law 573 = .ok (.ireturn, 1) := by decide +kernel
theorem dL_law_574 : decode cL_law 574 = .ok (.iload 5, 2) := by decide +kernel
theorem dL_law_576 : decode cL_law 576 = .ok (.ifCond .ne 14, 3) := by decide +kernel
theorem dL_law_579 : decode cL_law 579 = .ok (.aload_n 3, 1) := by decide +kernel
theorem dL_law_580 : decode cL_law 580 = .ok (.iconst 0, 1) := by decide +kernel
theorem dL_law_581 : decode cL_law 581 = .ok (.laload, 1) := by decide +kernel
theorem dL_law_582 : decode cL_law 582 = .ok (.lload 6, 2) := by decide +kernel
theorem dL_law_584 : decode cL_law 584 = .ok (.lcmp, 1) := by decide +kernel
theorem dL_law_585 : decode cL_law 585 = .ok (.ifCond .eq 5, 3) := by decide +kernel
theorem dL_law_588 : decode cL_law 588 = .ok (.iconst 0, 1) := by decide +kernel
theorem dL_law_589 : decode cL_law 589 = .ok (.ireturn, 1) := by decide +kernel
theorem dL_law_590 : decode cL_law 590 = .ok (.goto 153, 3) := by decide +kernel
theorem dL_law_593 : decode cL_law 593 = .ok (.aload_n 1, 1) := by decide +kernel
theorem dL_law_594 : decode cL_law 594 = .ok (.aload_n 3, 1) := by decide +kernel
theorem dL_law_595 : decode cL_law 595 = .ok (.invokestatic 94, 3) := by decide +kernel
theorem dL_law_598 : decode cL_law 598 = .ok (.istore 5, 2) := by decide +kernel
theorem dL_law_600 : decode cL_law 600 = .ok (.aload_n 2, 1) := by decide +kernel
theorem dL_law_601 : decode cL_law 601 = .ok (.invokevirtual 96, 3) := by decide +kernel
theorem dL_law_604 : decode cL_law 604 = .ok (.istore 6, 2) := by decide +kernel
theorem dL_law_606 : decode cL_law 606 = .ok (.aload_n 2, 1) := by decide +kernel
theorem dL_law_607 : decode cL_law 607 = .ok (.invokevirtual 61, 3) := by decide +kernel
theorem dL_law_610 : decode cL_law 610 = .ok (.iload 5, 2) := by decide +kernel
theorem dL_law_612 : decode cL_law 612 = .ok (.if_icmp .eq 5, 3) := by decide +kernel
theorem dL_law_615 : decode cL_law 615 = .ok (.iconst 0, 1) := by decide +kernel
theorem dL_law_616 : decode cL_law 616 = .ok (.ireturn, 1) := by decide +kernel
theorem dL_law_617 : decode cL_law 617 = .ok (.iload 5, 2) := by decide +kernel
theorem dL_law_619 : decode cL_law 619 = .ok (.ifCond .ne 15, 3) := by decide +kernel
theorem dL_law_622 : decode cL_law 622 = .ok (.aload_n 3, 1) := by decide +kernel
theorem dL_law_623 : decode cL_law 623 = .ok (.iconst 0, 1) := by decide +kernel
theorem dL_law_624 : decode cL_law 624 = .ok (.laload, 1) := by decide +kernel
theorem dL_law_625 : decode cL_law 625 = .ok (.iload 6, 2) := by decide +kernel
theorem dL_law_627 : decode cL_law 627 = .ok (.i2l, 1) := by decide +kernel
theorem dL_law_628 : decode cL_law 628 = .ok (.lcmp, 1) := by decide +kernel
theorem dL_law_629 : decode cL_law 629 = .ok (.ifCond .eq 5, 3) := by decide +kernel
theorem dL_law_632 : decode cL_law 632 = .ok (.iconst 0, 1) := by decide +kernel
theorem dL_law_633 : decode cL_law 633 = .ok (.ireturn, 1) := by decide +kernel
theorem dL_law_634 : decode cL_law 634 = .ok (.goto 109, 3) := by decide +kernel
theorem dL_law_637 : decode cL_law 637 = .ok (.aload_n 1, 1) := by decide +kernel
theorem dL_law_638 : decode cL_law 638 = .ok (.aload_n 0, 1) := by decide +kernel
theorem dL_law_639 : decode cL_law 639 = .ok (.iload 4, 2) := by decide +kernel
theorem dL_law_641 : decode cL_law 641 = .ok (.iconst 1, 1) := by decide +kernel
theorem dL_law_642 : decode cL_law 642 = .ok (.iadd, 1) := by decide +kernel
theorem dL_law_643 : decode cL_law 643 = .ok (.iaload, 1) := by decide +kernel
theorem dL_law_644 : decode cL_law 644 = .ok (.invokevirtual 97, 3) := by decide +kernel
theorem dL_law_647 : decode cL_law 647 = .ok (.aload_n 2, 1) := by decide +kernel
theorem dL_law_648 : decode cL_law 648 = .ok (.aload_n 0, 1) := by decide +kernel
theorem dL_law_649 : decode cL_law 649 = .ok (.iload 4, 2) := by decide +kernel
theorem dL_law_651 : decode cL_law 651 = .ok (.iconst 1, 1) := by decide +kernel
theorem dL_law_652 : decode cL_law 652 = .ok (.iadd, 1) := by decide +kernel
theorem dL_law_653 : decode cL_law 653 = .ok (.iaload, 1) := by decide +kernel
theorem dL_law_654 : decode cL_law 654 = .ok (.invokevirtual 100, 3) := by decide +kernel
theorem dL_law_657 : decode cL_law 657 = .ok (.if_icmp .eq 86, 3) := by decide +kernel
theorem dL_law_660 : decode cL_law 660 = .ok (.iconst 0, 1) := by decide +kernel
theorem dL_law_661 : decode cL_law 661 = .ok (.ireturn, 1) := by decide +kernel
theorem dL_law_662 : decode cL_law 662 = .ok (.aload_n 1, 1) := by decide +kernel
theorem dL_law_663 : decode cL_law 663 = .ok (.aload_n 0, 1) := by decide +kernel
theorem dL_law_664 : decode cL_law 664 = .ok (.iload 4, 2) := by decide +kernel
theorem dL_law_666 : decode cL_law 666 = .ok (.iconst 1, 1) := by decide +kernel
theorem dL_law_667 : decode cL_law 667 = .ok (.iadd, 1) := by decide +kernel
theorem dL_law_668 : decode cL_law 668 = .ok (.iaload, 1) := by decide +kernel
theorem dL_law_669 : decode cL_law 669 = .ok (.aload_n 3, 1) := by decide +kernel
theorem dL_law_670 : decode cL_law 670 = .ok (.invokestatic 101, 3) := by decide +kernel
theorem dL_law_673 : decode cL_law 673 = .ok (.istore 5, 2) := by decide +kernel
theorem dL_law_675 : decode cL_law 675 = .ok (.aload_n 2, 1) := by decide +kernel
theorem dL_law_676 : decode cL_law 676 = .ok (.aload_n 0, 1) := by decide +kernel
theorem dL_law_677 : decode cL_law 677 = .ok (.iload 4, 2) := by decide +kernel
theorem dL_law_679 : decode cL_law 679 = .ok (.iconst 1, 1) := by decide +kernel
theorem dL_law_680 : decode cL_law 680 = .ok (.iadd, 1) := by decide +kernel
theorem dL_law_681 : decode cL_law 681 = .ok (.iaload, 1) := by decide +kernel
theorem dL_law_682 : decode cL_law 682 = .ok (.invokevirtual 103, 3) := by decide +kernel
theorem dL_law_685 : decode cL_law 685 = .ok (.istore 6, 2) := by decide +kernel
theorem dL_law_687 : decode cL_law 687 = .ok (.aload_n 2, 1) := by decide +kernel
theorem dL_law_688 : decode cL_law 688 = .ok (.invokevirtual 61, 3) := by decide +kernel
theorem dL_law_691 : decode cL_law 691 = .ok (.iload 5, 2) := by decide +kernel
theorem dL_law_693 : decode cL_law 693 = .ok (.if_icmp .eq 5, 3) := by decide +kernel
theorem dL_law_696 : decode cL_law 696 = .ok (.iconst 0, 1) := by decide +kernel
theorem dL_law_697 : decode cL_law 697 = .ok (.ireturn, 1) := by decide +kernel
theorem dL_law_698 : decode cL_law 698 = .ok (.iload 5, 2) := by decide +kernel
theorem dL_law_700 : decode cL_law 700 = .ok (.ifCond .ne 15, 3) := by decide +kernel
theorem dL_law_703 : decode cL_law 703 = .ok (.aload_n 3, 1) := by decide +kernel
theorem dL_law_704 : decode cL_law 704 = .ok (.iconst 0, 1) := by decide +kernel
theorem dL_law_705 : decode cL_law 705 = .ok (.laload, 1) := by decide +kernel
theorem dL_law_706 : decode cL_law 706 = .ok (.iload 6, 2) := by decide +kernel
theorem dL_law_708 : decode cL_law 708 = .ok (.i2l, 1) := by decide +kernel
theorem dL_law_709 : decode cL_law 709 = .ok (.lcmp, 1) := by decide +kernel
theorem dL_law_710 : decode cL_law 710 = .ok (.ifCond .eq 5, 3) := by decide +kernel
theorem dL_law_713 : decode cL_law 713 = .ok (.iconst 0, 1) := by decide +kernel
theorem dL_law_714 : decode cL_law 714 = .ok (.ireturn, 1) := by decide +kernel
theorem dL_law_715 : decode cL_law 715 = .ok (.goto 28, 3) := by decide +kernel
theorem dL_law_718 : decode cL_law 718 = .ok (.aload_n 1, 1) := by decide +kernel
theorem dL_law_719 : decode cL_law 719 = .ok (.aload_n 0, 1) := by decide +kernel
theorem dL_law_720 : decode cL_law 720 = .ok (.iload 4, 2) := by decide +kernel
theorem dL_law_722 : decode cL_law 722 = .ok (.iconst 1, 1) := by decide +kernel
theorem dL_law_723 : decode cL_law 723 = .ok (.iadd, 1) := by decide +kernel
theorem dL_law_724 : decode cL_law 724 = .ok (.iaload, 1) := by decide +kernel
theorem dL_law_725 : decode cL_law 725 = .ok (.invokevirtual 104, 3) := by decide +kernel
theorem dL_law_728 : decode cL_law 728 = .ok (.aload_n 2, 1) := by decide +kernel
theorem dL_law_729 : decode cL_law 729 = .ok (.aload_n 0, 1) := by decide +kernel
theorem dL_law_730 : decode cL_law 730 = .ok (.iload 4, 2) := by decide +kernel
theorem dL_law_732 : decode cL_law 732 = .ok (.iconst 1, 1) := by decide +kernel
theorem dL_law_733 : decode cL_law 733 = .ok (.iadd, 1) := by decide +kernel
theorem dL_law_734 : decode cL_law 734 = .ok (.iaload, 1) := by decide +kernel
theorem dL_law_735 : decode cL_law 735 = .ok (.invokevirtual 107, 3) := by decide +kernel
theorem dL_law_738 : decode cL_law 738 = .ok (.if_icmp .eq 5, 3) := by decide +kernel
theorem dL_law_741 : decode cL_law 741 = .ok (.iconst 0, 1) := by decide +kernel
theorem dL_law_742 : decode cL_law 742 = .ok (.ireturn, 1) := by decide +kernel
theorem dL_law_743 : decode cL_law 743 = .ok (.iinc 4 3, 3) := by decide +kernel
theorem dL_law_746 : decode cL_law 746 = .ok (.goto (-723), 3) := by decide +kernel
theorem dL_law_749 : decode cL_law 749 = .ok (.iconst 1, 1) := by decide +kernel
theorem dL_law_750 : decode cL_law 750 = .ok (.ireturn, 1) := by decide +kernel
set_option maxHeartbeats 1000000 in
/-- put -/
theorem lw_k0 {p : Program} {l : Launch} {e : Env} {s : State} {m : MethodId} {below : List Frame} {meth : Method} {c : Code} {H : Heap} {locs : List Loc} {cells slots : Nat} {Q : State → Prop} {ls : Array Slot} {G : tm_G} {sh : tm_sh} {M : tm_M} {T b L : Nat} {xs : Nat → Int32} {i : Int} {z : tl_Z} {px : List Int} (F : lw_Fx p l s m c b L xs G) (I : lw_J s G sh M T b i z px H locs ls) (hi : 0 ≤ i ∧ i + 2 < (L : Int)) (hf : cells + 21 ≤ 678900 ∧ slots + 8006 ≤ 7059405) (kk : ∀ (sh1 : tm_sh) (M1 : tm_M) (z1 : tl_Z) (px1 : List Int) (H1 : Heap) (locs1 : List Loc) (ls1 : Array Slot), lw_J s G sh1 M1 T b i z1 px1 H1 locs1 ls1 → W p l e room_1 s m #[Value.ref b] below meth c H1 locs1 (cells + 21) (slots + 8006) Q (F0 m 743 ls1 [])) : W p l e room_1 s m #[Value.ref b] below meth c H locs cells slots Q (F0 m 108 ls []) := by
  obtain ⟨hx, hb, hml, hown, htw, hK, hC, hN, h9, hX, hbl, hL⟩ := F
  obtain ⟨J, hI, hP, hW, hS, hl⟩ := I
  obtain ⟨w, hwe⟩ : ∃ w, (xs (i + 1).toNat).toInt = w := ⟨_, rfl⟩
  have hw : inI w := by rw [← hwe]; exact w_in _
  obtain ⟨v, hve⟩ : ∃ v, (xs (i + 2).toNat).toInt = v := ⟨_, rfl⟩
  have hv : inI v := by rw [← hve]; exact w_in _
  refine lv_aload_n hx hb dL_law_108 rfl (lv_at hl 1 rfl) ?_
  refine lv_aload_n hx hb dL_law_109 rfl (lv_at hl 0 rfl) ?_
  refine lv_iload hx hb dL_law_110 (lv_at hl 4 rfl) ?_
  refine ti_iconst hx hb dL_law_112 ?_
  refine ti_iadd hx hb dL_law_113 ?_
  refine lw_ld hx hb hX hbl hS (by omega) (by omega) hL hwe dL_law_114 ?_
  refine lv_aload_n hx hb dL_law_115 rfl (lv_at hl 0 rfl) ?_
  refine lv_iload hx hb dL_law_116 (lv_at hl 4 rfl) ?_
  refine ti_iconst hx hb dL_law_118 ?_
  refine ti_iadd hx hb dL_law_119 ?_
  refine lw_ld hx hb hX hbl hS (by omega) (by omega) hL hve dL_law_120 ?_
  refine tm_calli (cl_L_55 hx hb hml hown htw hK hW hC hN hS rfl (c_L_put h9 J hI hw hv) ⟨rfl, rfl, Nat.le_of_ble_eq_true rfl, Nat.le_of_ble_eq_true rfl⟩ hl.1 (Nat.le_of_ble_eq_true rfl) dL_law_121 ⟨(by show cells + 1 ≤ 678900; omega), (by show slots + 6 ≤ 7059405; omega)⟩) hS (fun x1 M1 H locs hp1 hW hS => ?_)
  rcases hp1 with ⟨rfl, hc, J1⟩ | ⟨rfl, hc, J1⟩
  · refine lv_istore (lv' := [(5, _), (0, _), (1, _), (2, _), (3, _), (4, _)]) hx hb dL_law_124 hl (by decide) rfl (fun ls hl => ?_)
    refine lv_aload_n hx hb dL_law_126 rfl (lv_at hl 3 rfl) ?_
    refine lv_aload_n hx hb dL_law_127 rfl (lv_at hl 1 rfl) ?_
    refine lv_iload hx hb dL_law_128 (lv_at hl 5 rfl) ?_
    refine ti_iconst hx hb dL_law_130 ?_
    refine ti_iadd hx hb dL_law_131 ?_
    refine lw_ld hx hb hX hbl hS (by omega) (by omega) hL hwe dL_law_132 ?_
    refine lv_aload_n hx hb dL_law_133 rfl (lv_at hl 1 rfl) ?_
    refine lv_iload hx hb dL_law_134 (lv_at hl 5 rfl) ?_
    refine ti_iconst hx hb dL_law_136 ?_
    refine ti_iadd hx hb dL_law_137 ?_
    refine lw_ld hx hb hX hbl hS (by omega) (by omega) hL hve dL_law_138 ?_
    refine tm_callv (cs_L_60 hx hb hml hown htw hK hW J1.2.2.2.2.1.1.1 (c_X9_put J1.2.2.2.2.1 hI hw hv) ⟨rfl, rfl, Nat.le_of_ble_eq_true rfl, Nat.le_of_ble_eq_true rfl⟩ hl.1 (Nat.le_of_ble_eq_true rfl) dL_law_139 ⟨(by show cells + 1 + 0 ≤ 678900; omega), (by show slots + 6 + 0 ≤ 7059405; omega)⟩) hS (fun M2 H locs hp2 hW hS => ?_)
    have J2 := LJ_m J1 (hp2.2.2 hc)
    have hI2 := ZI_put (i := w) (v := v) hI
    have hP2 := hP
    have eT : mI M2 (T + 395) 0 = 0 := by rw [hp2.1]; exact if_neg (fun q => q hc)
    have u0 := J2.2.2.2.2.2.2
    refine lv_aload_n hx hb dL_law_142 rfl (lv_at hl 3 rfl) ?_
    refine tm_calli (cs_L_61 hx hb hml hown htw hK hW J2.2.2.2.2.1.1.1 (c_X9_thrown J2.2.2.2.2.1.1.1) ⟨rfl, rfl, Nat.le_of_ble_eq_true rfl, Nat.le_of_ble_eq_true rfl⟩ hl.1 (Nat.le_of_ble_eq_true rfl) dL_law_143 ⟨(by show cells + 1 + 0 + 0 ≤ 678900; omega), (by show slots + 6 + 0 + 0 ≤ 7059405; omega)⟩) hS (fun x3 M3 H locs hp3 hW hS => ?_)
    obtain ⟨ex3, eM3⟩ := hp3
    rw [eM3] at hW
    rw [ex3]
    refine lv_iload hx hb dL_law_146 (lv_at hl 0 rfl) ?_
    refine ti_icmp_same (tgt := 153) hx hb dL_law_148 (by decide) eT ?_
    refine lv_goto (tgt := 743) hx hb dL_law_153 (by decide) ?_
    exact w_up (by omega) (by omega) (kk _ _ _ _ _ _ _ ⟨J2, hI2, hP2, hW, hS, lv_sub hl [1, 2, 3, 4, 5] rfl⟩)
  · refine lv_istore (lv' := [(5, _), (0, _), (1, _), (2, _), (3, _), (4, _)]) hx hb dL_law_124 hl (by decide) rfl (fun ls hl => ?_)
    refine lv_aload_n hx hb dL_law_126 rfl (lv_at hl 3 rfl) ?_
    refine lv_aload_n hx hb dL_law_127 rfl (lv_at hl 1 rfl) ?_
    refine lv_iload hx hb dL_law_128 (lv_at hl 5 rfl) ?_
    refine ti_iconst hx hb dL_law_130 ?_
    refine ti_iadd hx hb dL_law_131 ?_
    refine lw_ld hx hb hX hbl hS (by omega) (by omega) hL hwe dL_law_132 ?_
    refine lv_aload_n hx hb dL_law_133 rfl (lv_at hl 1 rfl) ?_
    refine lv_iload hx hb dL_law_134 (lv_at hl 5 rfl) ?_
    refine ti_iconst hx hb dL_law_136 ?_
    refine ti_iadd hx hb dL_law_137 ?_
    refine lw_ld hx hb hX hbl hS (by omega) (by omega) hL hve dL_law_138 ?_
    refine tm_callv (cs_L_60 hx hb hml hown htw hK hW J1.2.2.2.2.1.1.1 (c_X9_put J1.2.2.2.2.1 hI hw hv) ⟨rfl, rfl, Nat.le_of_ble_eq_true rfl, Nat.le_of_ble_eq_true rfl⟩ hl.1 (Nat.le_of_ble_eq_true rfl) dL_law_139 ⟨(by show cells + 1 + 0 ≤ 678900; omega), (by show slots + 6 + 0 ≤ 7059405; omega)⟩) hS (fun M2 H locs hp2 hW hS => ?_)
    have J2 := LJ_m J1 (hp2.2.1 hc)
    have hI2 := hI
    have hP2 := hP
    have eT : mI M2 (T + 395) 0 = 1 := by rw [hp2.1]; exact if_pos hc
    have u0 := J2.2.2.2.2.2.2
    refine lv_aload_n hx hb dL_law_142 rfl (lv_at hl 3 rfl) ?_
    refine tm_calli (cs_L_61 hx hb hml hown htw hK hW J2.2.2.2.2.1.1.1 (c_X9_thrown J2.2.2.2.2.1.1.1) ⟨rfl, rfl, Nat.le_of_ble_eq_true rfl, Nat.le_of_ble_eq_true rfl⟩ hl.1 (Nat.le_of_ble_eq_true rfl) dL_law_143 ⟨(by show cells + 1 + 0 + 0 ≤ 678900; omega), (by show slots + 6 + 0 + 0 ≤ 7059405; omega)⟩) hS (fun x3 M3 H locs hp3 hW hS => ?_)
    obtain ⟨ex3, eM3⟩ := hp3
    rw [eM3] at hW
    rw [ex3]
    refine lv_iload hx hb dL_law_146 (lv_at hl 0 rfl) ?_
    refine ti_icmp_same (tgt := 153) hx hb dL_law_148 (by decide) eT ?_
    refine lv_goto (tgt := 743) hx hb dL_law_153 (by decide) ?_
    exact w_up (by omega) (by omega) (kk _ _ _ _ _ _ _ ⟨J2, hI2, hP2, hW, hS, lv_sub hl [1, 2, 3, 4, 5] rfl⟩)
set_option maxHeartbeats 1000000 in
/-- begin -/
theorem lw_k1 {p : Program} {l : Launch} {e : Env} {s : State} {m : MethodId} {below : List Frame} {meth : Method} {c : Code} {H : Heap} {locs : List Loc} {cells slots : Nat} {Q : State → Prop} {ls : Array Slot} {G : tm_G} {sh : tm_sh} {M : tm_M} {T b L : Nat} {xs : Nat → Int32} {i : Int} {z : tl_Z} {px : List Int} (F : lw_Fx p l s m c b L xs G) (I : lw_J s G sh M T b i z px H locs ls) (hi : 0 ≤ i ∧ i + 2 < (L : Int)) (hf : cells + 21 ≤ 678900 ∧ slots + 8006 ≤ 7059405) (kk : ∀ (sh1 : tm_sh) (M1 : tm_M) (z1 : tl_Z) (px1 : List Int) (H1 : Heap) (locs1 : List Loc) (ls1 : Array Slot), lw_J s G sh1 M1 T b i z1 px1 H1 locs1 ls1 → W p l e room_1 s m #[Value.ref b] below meth c H1 locs1 (cells + 21) (slots + 8006) Q (F0 m 743 ls1 [])) : W p l e room_1 s m #[Value.ref b] below meth c H locs cells slots Q (F0 m 156 ls []) := by
  obtain ⟨hx, hb, hml, hown, htw, hK, hC, hN, h9, hX, hbl, hL⟩ := F
  obtain ⟨J, hI, hP, hW, hS, hl⟩ := I
  obtain ⟨w, hwe⟩ : ∃ w, (xs (i + 1).toNat).toInt = w := ⟨_, rfl⟩
  have hw : inI w := by rw [← hwe]; exact w_in _
  refine lv_aload_n hx hb dL_law_156 rfl (lv_at hl 1 rfl) ?_
  refine lv_aload_n hx hb dL_law_157 rfl (lv_at hl 0 rfl) ?_
  refine lv_iload hx hb dL_law_158 (lv_at hl 4 rfl) ?_
  refine ti_iconst hx hb dL_law_160 ?_
  refine ti_iadd hx hb dL_law_161 ?_
  refine lw_ld hx hb hX hbl hS (by omega) (by omega) hL hwe dL_law_162 ?_
  refine lv_aload_n hx hb dL_law_163 rfl (lv_at hl 3 rfl) ?_
  refine tm_calli (cl_L_64 hx hb hml hown htw hK hW hC hN hS rfl (c_L_begin h9 J hI hw) ⟨rfl, rfl, Nat.le_of_ble_eq_true rfl, Nat.le_of_ble_eq_true rfl⟩ hl.1 (Nat.le_of_ble_eq_true rfl) dL_law_164 ⟨(by show cells + 1 ≤ 678900; omega), (by show slots + 6 ≤ 7059405; omega)⟩) hS (fun x1 M1 H locs hp1 hW hS => ?_)
  rcases hp1 with ⟨rfl, hc, J1, eU⟩ | ⟨rfl, hc, J1⟩
  · refine lv_istore (lv' := [(5, _), (0, _), (1, _), (2, _), (3, _), (4, _)]) hx hb dL_law_167 hl (by decide) rfl (fun ls hl => ?_)
    refine lv_aload_n hx hb dL_law_169 rfl (lv_at hl 3 rfl) ?_
    refine lv_aload_n hx hb dL_law_170 rfl (lv_at hl 1 rfl) ?_
    refine lv_iload hx hb dL_law_171 (lv_at hl 5 rfl) ?_
    refine ti_iconst hx hb dL_law_173 ?_
    refine ti_iadd hx hb dL_law_174 ?_
    refine lw_ld hx hb hX hbl hS (by omega) (by omega) hL hwe dL_law_175 ?_
    refine tm_calli (cs_L_67 hx hb hml hown htw hK hW J1.2.2.2.2.1.1.1 (c_X9_begin J1.2.2.2.2.1 hI hw) ⟨rfl, rfl, Nat.le_of_ble_eq_true rfl, Nat.le_of_ble_eq_true rfl⟩ hl.1 (Nat.le_of_ble_eq_true rfl) dL_law_176 ⟨(by show cells + 1 + 0 ≤ 678900; omega), (by show slots + 6 + 0 ≤ 7059405; omega)⟩) hS (fun x2 M2 H locs hp2 hW hS => ?_)
    have J2 := LJ_m J1 (hp2.2.2 hc).2
    have hI2 := ZI_begin (n := w.toNat) hI
    have hP2 := hP
    have eT : mI M2 (T + 395) 0 = 0 := by rw [hp2.1]; exact if_neg (fun q => q hc)
    have u0 := J2.2.2.2.2.2.2
    have ex2 := (hp2.2.2 hc).1
    have eU2 := (((hp2.2.2 hc).2).2.2 (T + 408) 0 (by unfold mY; omega)).2.trans eU
    refine lv_istore (lv' := [(6, _), (5, _), (0, _), (1, _), (2, _), (3, _), (4, _)]) hx hb dL_law_179 hl (by decide) rfl (fun ls hl => ?_)
    refine lv_aload_n hx hb dL_law_181 rfl (lv_at hl 4 rfl) ?_
    refine tm_calli (cs_L_61 hx hb hml hown htw hK hW J2.2.2.2.2.1.1.1 (c_X9_thrown J2.2.2.2.2.1.1.1) ⟨rfl, rfl, Nat.le_of_ble_eq_true rfl, Nat.le_of_ble_eq_true rfl⟩ hl.1 (Nat.le_of_ble_eq_true rfl) dL_law_182 ⟨(by show cells + 1 + 0 + 0 ≤ 678900; omega), (by show slots + 6 + 0 + 0 ≤ 7059405; omega)⟩) hS (fun x3 M3 H locs hp3 hW hS => ?_)
    obtain ⟨ex3, eM3⟩ := hp3
    rw [eM3] at hW
    rw [ex3]
    refine lv_iload hx hb dL_law_185 (lv_at hl 1 rfl) ?_
    refine ti_icmp_same (tgt := 192) hx hb dL_law_187 (by decide) eT ?_
    refine lv_iload hx hb dL_law_192 (lv_at hl 1 rfl) ?_
    refine ti_if_ne (tgt := 209) hx hb dL_law_194 (by decide) (by omega) (fun h194 => ?_) (fun h194 => ?_)
    · exact absurd rfl h194
    · refine lv_aload_n hx hb dL_law_197 rfl (lv_at hl 5 rfl) ?_
      refine ti_iconst hx hb dL_law_198 ?_
      refine tm_lald hx hb hK hW u0 (by omega) (by omega) (by decide) dL_law_199 ?_
      refine lv_iload hx hb dL_law_200 (lv_at hl 0 rfl) ?_
      refine ti_i2lw hx hb dL_law_202 ?_
      refine ti_lcmp_same (tgt := 209) hx hb dL_law_203 dL_law_204 (by decide) (eU2.trans (congrArg w32 ex2).symm) ?_
      refine lv_goto (tgt := 743) hx hb dL_law_209 (by decide) ?_
      exact w_up (by omega) (by omega) (kk _ _ _ _ _ _ _ ⟨J2, hI2, hP2, hW, hS, lv_sub hl [2, 3, 4, 5, 6] rfl⟩)
  · refine lv_istore (lv' := [(5, _), (0, _), (1, _), (2, _), (3, _), (4, _)]) hx hb dL_law_167 hl (by decide) rfl (fun ls hl => ?_)
    refine lv_aload_n hx hb dL_law_169 rfl (lv_at hl 3 rfl) ?_
    refine lv_aload_n hx hb dL_law_170 rfl (lv_at hl 1 rfl) ?_
    refine lv_iload hx hb dL_law_171 (lv_at hl 5 rfl) ?_
    refine ti_iconst hx hb dL_law_173 ?_
    refine ti_iadd hx hb dL_law_174 ?_
    refine lw_ld hx hb hX hbl hS (by omega) (by omega) hL hwe dL_law_175 ?_
    refine tm_calli (cs_L_67 hx hb hml hown htw hK hW J1.2.2.2.2.1.1.1 (c_X9_begin J1.2.2.2.2.1 hI hw) ⟨rfl, rfl, Nat.le_of_ble_eq_true rfl, Nat.le_of_ble_eq_true rfl⟩ hl.1 (Nat.le_of_ble_eq_true rfl) dL_law_176 ⟨(by show cells + 1 + 0 ≤ 678900; omega), (by show slots + 6 + 0 ≤ 7059405; omega)⟩) hS (fun x2 M2 H locs hp2 hW hS => ?_)
    have J2 := LJ_m J1 (hp2.2.1 hc)
    have hI2 := hI
    have hP2 := hP
    have eT : mI M2 (T + 395) 0 = 1 := by rw [hp2.1]; exact if_pos hc
    have u0 := J2.2.2.2.2.2.2
    refine lv_istore (lv' := [(6, _), (5, _), (0, _), (1, _), (2, _), (3, _), (4, _)]) hx hb dL_law_179 hl (by decide) rfl (fun ls hl => ?_)
    refine lv_aload_n hx hb dL_law_181 rfl (lv_at hl 4 rfl) ?_
    refine tm_calli (cs_L_61 hx hb hml hown htw hK hW J2.2.2.2.2.1.1.1 (c_X9_thrown J2.2.2.2.2.1.1.1) ⟨rfl, rfl, Nat.le_of_ble_eq_true rfl, Nat.le_of_ble_eq_true rfl⟩ hl.1 (Nat.le_of_ble_eq_true rfl) dL_law_182 ⟨(by show cells + 1 + 0 + 0 ≤ 678900; omega), (by show slots + 6 + 0 + 0 ≤ 7059405; omega)⟩) hS (fun x3 M3 H locs hp3 hW hS => ?_)
    obtain ⟨ex3, eM3⟩ := hp3
    rw [eM3] at hW
    rw [ex3]
    refine lv_iload hx hb dL_law_185 (lv_at hl 1 rfl) ?_
    refine ti_icmp_same (tgt := 192) hx hb dL_law_187 (by decide) eT ?_
    refine lv_iload hx hb dL_law_192 (lv_at hl 1 rfl) ?_
    refine ti_if_ne (tgt := 209) hx hb dL_law_194 (by decide) (by omega) (fun h194 => ?_) (fun h194 => ?_)
    · refine lv_goto (tgt := 743) hx hb dL_law_209 (by decide) ?_
      exact w_up (by omega) (by omega) (kk _ _ _ _ _ _ _ ⟨J2, hI2, hP2, hW, hS, lv_sub hl [2, 3, 4, 5, 6] rfl⟩)
    · exact absurd h194 (by decide)
set_option maxHeartbeats 1000000 in
/-- step -/
theorem lw_k2 {p : Program} {l : Launch} {e : Env} {s : State} {m : MethodId} {below : List Frame} {meth : Method} {c : Code} {H : Heap} {locs : List Loc} {cells slots : Nat} {Q : State → Prop} {ls : Array Slot} {G : tm_G} {sh : tm_sh} {M : tm_M} {T b L : Nat} {xs : Nat → Int32} {i : Int} {z : tl_Z} {px : List Int} (F : lw_Fx p l s m c b L xs G) (I : lw_J s G sh M T b i z px H locs ls) (hi : 0 ≤ i ∧ i + 2 < (L : Int)) (hf : cells + 21 ≤ 678900 ∧ slots + 8006 ≤ 7059405) (kk : ∀ (sh1 : tm_sh) (M1 : tm_M) (z1 : tl_Z) (px1 : List Int) (H1 : Heap) (locs1 : List Loc) (ls1 : Array Slot), lw_J s G sh1 M1 T b i z1 px1 H1 locs1 ls1 → W p l e room_1 s m #[Value.ref b] below meth c H1 locs1 (cells + 21) (slots + 8006) Q (F0 m 743 ls1 [])) : W p l e room_1 s m #[Value.ref b] below meth c H locs cells slots Q (F0 m 212 ls []) := by
  obtain ⟨hx, hb, hml, hown, htw, hK, hC, hN, h9, hX, hbl, hL⟩ := F
  obtain ⟨J, hI, hP, hW, hS, hl⟩ := I
  obtain ⟨w, hwe⟩ : ∃ w, (xs (i + 1).toNat).toInt = w := ⟨_, rfl⟩
  have hw : inI w := by rw [← hwe]; exact w_in _
  refine lv_aload_n hx hb dL_law_212 rfl (lv_at hl 1 rfl) ?_
  refine lv_aload_n hx hb dL_law_213 rfl (lv_at hl 0 rfl) ?_
  refine lv_iload hx hb dL_law_214 (lv_at hl 4 rfl) ?_
  refine ti_iconst hx hb dL_law_216 ?_
  refine ti_iadd hx hb dL_law_217 ?_
  refine lw_ld hx hb hX hbl hS (by omega) (by omega) hL hwe dL_law_218 ?_
  refine lv_aload_n hx hb dL_law_219 rfl (lv_at hl 3 rfl) ?_
  refine tm_calli (cl_L_68 hx hb hml hown htw hK hW hC hN hS rfl (c_L_step h9 J hI hw) ⟨rfl, rfl, Nat.le_of_ble_eq_true rfl, Nat.le_of_ble_eq_true rfl⟩ hl.1 (Nat.le_of_ble_eq_true rfl) dL_law_220 ⟨(by show cells + 3 ≤ 678900; omega), (by show slots + 18 ≤ 7059405; omega)⟩) hS (fun x1 M1 H locs hp1 hW hS => ?_)
  rcases hp1 with ⟨rfl, hc, J1, eU⟩ | ⟨rfl, hc, J1⟩ | ⟨rfl, hc, J1⟩
  · refine lv_istore (lv' := [(5, _), (0, _), (1, _), (2, _), (3, _), (4, _)]) hx hb dL_law_223 hl (by decide) rfl (fun ls hl => ?_)
    refine lv_aload_n hx hb dL_law_225 rfl (lv_at hl 3 rfl) ?_
    refine lv_aload_n hx hb dL_law_226 rfl (lv_at hl 1 rfl) ?_
    refine lv_iload hx hb dL_law_227 (lv_at hl 5 rfl) ?_
    refine ti_iconst hx hb dL_law_229 ?_
    refine ti_iadd hx hb dL_law_230 ?_
    refine lw_ld hx hb hX hbl hS (by omega) (by omega) hL hwe dL_law_231 ?_
    refine tm_calli (cs_L_70 hx hb hml hown htw hK hW J1.2.2.2.2.1.1.1 (c_X9_step J1.2.2.2.2.1 hI hw) ⟨rfl, rfl, Nat.le_of_ble_eq_true rfl, Nat.le_of_ble_eq_true rfl⟩ hl.1 (Nat.le_of_ble_eq_true rfl) dL_law_232 ⟨(by show cells + 3 + 0 ≤ 678900; omega), (by show slots + 18 + 0 ≤ 7059405; omega)⟩) hS (fun x2 M2 H locs hp2 hW hS => ?_)
    have J2 := LJ_m J1 (hp2.2.2 hc.1 (by omega)).2
    have hI2 := ZI_step (n := w.toNat) hI hc.2.1 hc.2.2
    have hP2 := hP
    have eT : mI M2 (T + 395) 0 = 0 := by rw [hp2.1, if_neg (fun q => q hc.1), if_neg (by omega)]
    have u0 := J2.2.2.2.2.2.2
    have ex2 := (hp2.2.2 hc.1 (by omega)).1
    have eU2 := (((hp2.2.2 hc.1 (by omega)).2).2.2 (T + 408) 0 (by unfold mY; omega)).2.trans eU
    refine lv_istore (lv' := [(6, _), (5, _), (0, _), (1, _), (2, _), (3, _), (4, _)]) hx hb dL_law_235 hl (by decide) rfl (fun ls hl => ?_)
    refine lv_aload_n hx hb dL_law_237 rfl (lv_at hl 4 rfl) ?_
    refine tm_calli (cs_L_61 hx hb hml hown htw hK hW J2.2.2.2.2.1.1.1 (c_X9_thrown J2.2.2.2.2.1.1.1) ⟨rfl, rfl, Nat.le_of_ble_eq_true rfl, Nat.le_of_ble_eq_true rfl⟩ hl.1 (Nat.le_of_ble_eq_true rfl) dL_law_238 ⟨(by show cells + 3 + 0 + 0 ≤ 678900; omega), (by show slots + 18 + 0 + 0 ≤ 7059405; omega)⟩) hS (fun x3 M3 H locs hp3 hW hS => ?_)
    obtain ⟨ex3, eM3⟩ := hp3
    rw [eM3] at hW
    rw [ex3]
    refine lv_iload hx hb dL_law_241 (lv_at hl 1 rfl) ?_
    refine ti_icmp_same (tgt := 248) hx hb dL_law_243 (by decide) eT ?_
    refine lv_iload hx hb dL_law_248 (lv_at hl 1 rfl) ?_
    refine ti_if_ne (tgt := 265) hx hb dL_law_250 (by decide) (by omega) (fun h250 => ?_) (fun h250 => ?_)
    · exact absurd rfl h250
    · refine lv_aload_n hx hb dL_law_253 rfl (lv_at hl 5 rfl) ?_
      refine ti_iconst hx hb dL_law_254 ?_
      refine tm_lald hx hb hK hW u0 (by omega) (by omega) (by decide) dL_law_255 ?_
      refine lv_iload hx hb dL_law_256 (lv_at hl 0 rfl) ?_
      refine ti_i2lw hx hb dL_law_258 ?_
      refine ti_lcmp_same (tgt := 265) hx hb dL_law_259 dL_law_260 (by decide) (eU2.trans (congrArg w32 ex2).symm) ?_
      refine lv_goto (tgt := 743) hx hb dL_law_265 (by decide) ?_
      exact w_up (by omega) (by omega) (kk _ _ _ _ _ _ _ ⟨J2, hI2, hP2, hW, hS, lv_sub hl [2, 3, 4, 5, 6] rfl⟩)
  · refine lv_istore (lv' := [(5, _), (0, _), (1, _), (2, _), (3, _), (4, _)]) hx hb dL_law_223 hl (by decide) rfl (fun ls hl => ?_)
    refine lv_aload_n hx hb dL_law_225 rfl (lv_at hl 3 rfl) ?_
    refine lv_aload_n hx hb dL_law_226 rfl (lv_at hl 1 rfl) ?_
    refine lv_iload hx hb dL_law_227 (lv_at hl 5 rfl) ?_
    refine ti_iconst hx hb dL_law_229 ?_
    refine ti_iadd hx hb dL_law_230 ?_
    refine lw_ld hx hb hX hbl hS (by omega) (by omega) hL hwe dL_law_231 ?_
    refine tm_calli (cs_L_70 hx hb hml hown htw hK hW J1.2.2.2.2.1.1.1 (c_X9_step J1.2.2.2.2.1 hI hw) ⟨rfl, rfl, Nat.le_of_ble_eq_true rfl, Nat.le_of_ble_eq_true rfl⟩ hl.1 (Nat.le_of_ble_eq_true rfl) dL_law_232 ⟨(by show cells + 3 + 0 ≤ 678900; omega), (by show slots + 18 + 0 ≤ 7059405; omega)⟩) hS (fun x2 M2 H locs hp2 hW hS => ?_)
    have J2 := LJ_m J1 (hp2.2.1 (fun q => hc q.1))
    have hI2 := hI
    have hP2 := hP
    have eT : mI M2 (T + 395) 0 = 1 := by rw [hp2.1, if_pos hc]
    have u0 := J2.2.2.2.2.2.2
    refine lv_istore (lv' := [(6, _), (5, _), (0, _), (1, _), (2, _), (3, _), (4, _)]) hx hb dL_law_235 hl (by decide) rfl (fun ls hl => ?_)
    refine lv_aload_n hx hb dL_law_237 rfl (lv_at hl 4 rfl) ?_
    refine tm_calli (cs_L_61 hx hb hml hown htw hK hW J2.2.2.2.2.1.1.1 (c_X9_thrown J2.2.2.2.2.1.1.1) ⟨rfl, rfl, Nat.le_of_ble_eq_true rfl, Nat.le_of_ble_eq_true rfl⟩ hl.1 (Nat.le_of_ble_eq_true rfl) dL_law_238 ⟨(by show cells + 3 + 0 + 0 ≤ 678900; omega), (by show slots + 18 + 0 + 0 ≤ 7059405; omega)⟩) hS (fun x3 M3 H locs hp3 hW hS => ?_)
    obtain ⟨ex3, eM3⟩ := hp3
    rw [eM3] at hW
    rw [ex3]
    refine lv_iload hx hb dL_law_241 (lv_at hl 1 rfl) ?_
    refine ti_icmp_same (tgt := 248) hx hb dL_law_243 (by decide) eT ?_
    refine lv_iload hx hb dL_law_248 (lv_at hl 1 rfl) ?_
    refine ti_if_ne (tgt := 265) hx hb dL_law_250 (by decide) (by omega) (fun h250 => ?_) (fun h250 => ?_)
    · refine lv_goto (tgt := 743) hx hb dL_law_265 (by decide) ?_
      exact w_up (by omega) (by omega) (kk _ _ _ _ _ _ _ ⟨J2, hI2, hP2, hW, hS, lv_sub hl [2, 3, 4, 5, 6] rfl⟩)
    · exact absurd h250 (by decide)
  · refine lv_istore (lv' := [(5, _), (0, _), (1, _), (2, _), (3, _), (4, _)]) hx hb dL_law_223 hl (by decide) rfl (fun ls hl => ?_)
    refine lv_aload_n hx hb dL_law_225 rfl (lv_at hl 3 rfl) ?_
    refine lv_aload_n hx hb dL_law_226 rfl (lv_at hl 1 rfl) ?_
    refine lv_iload hx hb dL_law_227 (lv_at hl 5 rfl) ?_
    refine ti_iconst hx hb dL_law_229 ?_
    refine ti_iadd hx hb dL_law_230 ?_
    refine lw_ld hx hb hX hbl hS (by omega) (by omega) hL hwe dL_law_231 ?_
    refine tm_calli (cs_L_70 hx hb hml hown htw hK hW J1.2.2.2.2.1.1.1 (c_X9_step J1.2.2.2.2.1 hI hw) ⟨rfl, rfl, Nat.le_of_ble_eq_true rfl, Nat.le_of_ble_eq_true rfl⟩ hl.1 (Nat.le_of_ble_eq_true rfl) dL_law_232 ⟨(by show cells + 3 + 0 ≤ 678900; omega), (by show slots + 18 + 0 ≤ 7059405; omega)⟩) hS (fun x2 M2 H locs hp2 hW hS => ?_)
    have J2 := LJ_m J1 (hp2.2.1 (fun q => q.2 hc.2))
    have hI2 := hI
    have hP2 := hP
    have eT : mI M2 (T + 395) 0 = 2 := by rw [hp2.1, if_neg (fun q => q hc.1), if_pos hc.2]
    have u0 := J2.2.2.2.2.2.2
    refine lv_istore (lv' := [(6, _), (5, _), (0, _), (1, _), (2, _), (3, _), (4, _)]) hx hb dL_law_235 hl (by decide) rfl (fun ls hl => ?_)
    refine lv_aload_n hx hb dL_law_237 rfl (lv_at hl 4 rfl) ?_
    refine tm_calli (cs_L_61 hx hb hml hown htw hK hW J2.2.2.2.2.1.1.1 (c_X9_thrown J2.2.2.2.2.1.1.1) ⟨rfl, rfl, Nat.le_of_ble_eq_true rfl, Nat.le_of_ble_eq_true rfl⟩ hl.1 (Nat.le_of_ble_eq_true rfl) dL_law_238 ⟨(by show cells + 3 + 0 + 0 ≤ 678900; omega), (by show slots + 18 + 0 + 0 ≤ 7059405; omega)⟩) hS (fun x3 M3 H locs hp3 hW hS => ?_)
    obtain ⟨ex3, eM3⟩ := hp3
    rw [eM3] at hW
    rw [ex3]
    refine lv_iload hx hb dL_law_241 (lv_at hl 1 rfl) ?_
    refine ti_icmp_same (tgt := 248) hx hb dL_law_243 (by decide) eT ?_
    refine lv_iload hx hb dL_law_248 (lv_at hl 1 rfl) ?_
    refine ti_if_ne (tgt := 265) hx hb dL_law_250 (by decide) (by omega) (fun h250 => ?_) (fun h250 => ?_)
    · refine lv_goto (tgt := 743) hx hb dL_law_265 (by decide) ?_
      exact w_up (by omega) (by omega) (kk _ _ _ _ _ _ _ ⟨J2, hI2, hP2, hW, hS, lv_sub hl [2, 3, 4, 5, 6] rfl⟩)
    · exact absurd h250 (by decide)
set_option maxHeartbeats 1000000 in
/-- slip -/
theorem lw_k3 {p : Program} {l : Launch} {e : Env} {s : State} {m : MethodId} {below : List Frame} {meth : Method} {c : Code} {H : Heap} {locs : List Loc} {cells slots : Nat} {Q : State → Prop} {ls : Array Slot} {G : tm_G} {sh : tm_sh} {M : tm_M} {T b L : Nat} {xs : Nat → Int32} {i : Int} {z : tl_Z} {px : List Int} (F : lw_Fx p l s m c b L xs G) (I : lw_J s G sh M T b i z px H locs ls) (hi : 0 ≤ i ∧ i + 2 < (L : Int)) (hf : cells + 21 ≤ 678900 ∧ slots + 8006 ≤ 7059405) (kk : ∀ (sh1 : tm_sh) (M1 : tm_M) (z1 : tl_Z) (px1 : List Int) (H1 : Heap) (locs1 : List Loc) (ls1 : Array Slot), lw_J s G sh1 M1 T b i z1 px1 H1 locs1 ls1 → W p l e room_1 s m #[Value.ref b] below meth c H1 locs1 (cells + 21) (slots + 8006) Q (F0 m 743 ls1 [])) : W p l e room_1 s m #[Value.ref b] below meth c H locs cells slots Q (F0 m 268 ls []) := by
  obtain ⟨hx, hb, hml, hown, htw, hK, hC, hN, h9, hX, hbl, hL⟩ := F
  obtain ⟨J, hI, hP, hW, hS, hl⟩ := I
  refine lv_aload_n hx hb dL_law_268 rfl (lv_at hl 1 rfl) ?_
  refine tm_calli (cs_L_71 hx hb hml hown htw hK hW J.1.1 (c_X8_slip J.1 J.2.1) ⟨rfl, rfl, Nat.le_of_ble_eq_true rfl, Nat.le_of_ble_eq_true rfl⟩ hl.1 (Nat.le_of_ble_eq_true rfl) dL_law_269 ⟨(by show cells + 0 ≤ 678900; omega), (by show slots + 0 ≤ 7059405; omega)⟩) hS (fun x1 M1 H locs hp1 hW hS => ?_)
  obtain ⟨ex1, eM1⟩ := hp1
  rw [eM1] at hW
  refine lv_aload_n hx hb dL_law_272 rfl (lv_at hl 2 rfl) ?_
  refine tm_calli (cs_L_74 hx hb hml hown htw hK hW J.2.2.2.2.1.1.1 (c_X9_slip J.2.2.2.2.1 hI) ⟨rfl, rfl, Nat.le_of_ble_eq_true rfl, Nat.le_of_ble_eq_true rfl⟩ hl.1 (Nat.le_of_ble_eq_true rfl) dL_law_273 ⟨(by show cells + 0 + 0 ≤ 678900; omega), (by show slots + 0 + 0 ≤ 7059405; omega)⟩) hS (fun x2 M2 H locs hp2 hW hS => ?_)
  obtain ⟨ex2, g2⟩ := hp2
  have J2 := LJ_m J g2
  have hI2 := hI
  have hP2 := hP
  refine ti_icmp_same (tgt := 743) hx hb dL_law_276 (by decide) (ex1.trans ex2.symm) ?_
  exact w_up (by omega) (by omega) (kk _ _ _ _ _ _ _ ⟨J2, hI2, hP2, hW, hS, lv_sub hl [0, 1, 2, 3, 4] rfl⟩)
set_option maxHeartbeats 1000000 in
/-- witness -/
theorem lw_k4 {p : Program} {l : Launch} {e : Env} {s : State} {m : MethodId} {below : List Frame} {meth : Method} {c : Code} {H : Heap} {locs : List Loc} {cells slots : Nat} {Q : State → Prop} {ls : Array Slot} {G : tm_G} {sh : tm_sh} {M : tm_M} {T b L : Nat} {xs : Nat → Int32} {i : Int} {z : tl_Z} {px : List Int} (F : lw_Fx p l s m c b L xs G) (I : lw_J s G sh M T b i z px H locs ls) (hi : 0 ≤ i ∧ i + 2 < (L : Int)) (hf : cells + 21 ≤ 678900 ∧ slots + 8006 ≤ 7059405) (kk : ∀ (sh1 : tm_sh) (M1 : tm_M) (z1 : tl_Z) (px1 : List Int) (H1 : Heap) (locs1 : List Loc) (ls1 : Array Slot), lw_J s G sh1 M1 T b i z1 px1 H1 locs1 ls1 → W p l e room_1 s m #[Value.ref b] below meth c H1 locs1 (cells + 21) (slots + 8006) Q (F0 m 743 ls1 [])) : W p l e room_1 s m #[Value.ref b] below meth c H locs cells slots Q (F0 m 281 ls []) := by
  obtain ⟨hx, hb, hml, hown, htw, hK, hC, hN, h9, hX, hbl, hL⟩ := F
  obtain ⟨J, hI, hP, hW, hS, hl⟩ := I
  obtain ⟨w, hwe⟩ : ∃ w, (xs (i + 1).toNat).toInt = w := ⟨_, rfl⟩
  have hw : inI w := by rw [← hwe]; exact w_in _
  refine lv_aload_n hx hb dL_law_281 rfl (lv_at hl 1 rfl) ?_
  refine lv_aload_n hx hb dL_law_282 rfl (lv_at hl 0 rfl) ?_
  refine lv_iload hx hb dL_law_283 (lv_at hl 4 rfl) ?_
  refine ti_iconst hx hb dL_law_285 ?_
  refine ti_iadd hx hb dL_law_286 ?_
  refine lw_ld hx hb hX hbl hS (by omega) (by omega) hL hwe dL_law_287 ?_
  refine lv_aload_n hx hb dL_law_288 rfl (lv_at hl 3 rfl) ?_
  refine tm_calli (cl_L_75 hx hb hml hown htw hK hW hC hN hS rfl (c_L_witness h9 J hI hw) ⟨rfl, rfl, Nat.le_of_ble_eq_true rfl, Nat.le_of_ble_eq_true rfl⟩ hl.1 (Nat.le_of_ble_eq_true rfl) dL_law_289 ⟨(by show cells + 2 ≤ 678900; omega), (by show slots + 12 ≤ 7059405; omega)⟩) hS (fun x1 M1 H locs hp1 hW hS => ?_)
  rcases hp1 with ⟨rfl, hc, J1, eU⟩ | ⟨rfl, hc, J1⟩ | ⟨rfl, hc, J1⟩
  · refine lv_istore (lv' := [(5, _), (0, _), (1, _), (2, _), (3, _), (4, _)]) hx hb dL_law_292 hl (by decide) rfl (fun ls hl => ?_)
    refine lv_aload_n hx hb dL_law_294 rfl (lv_at hl 3 rfl) ?_
    refine lv_aload_n hx hb dL_law_295 rfl (lv_at hl 1 rfl) ?_
    refine lv_iload hx hb dL_law_296 (lv_at hl 5 rfl) ?_
    refine ti_iconst hx hb dL_law_298 ?_
    refine ti_iadd hx hb dL_law_299 ?_
    refine lw_ld hx hb hX hbl hS (by omega) (by omega) hL hwe dL_law_300 ?_
    refine tm_calll (cs_L_77 hx hb hml hown htw hK hW J1.2.2.2.2.1.1.1 (c_X9_witness J1.2.2.2.2.1 hI hw) ⟨rfl, rfl, Nat.le_of_ble_eq_true rfl, Nat.le_of_ble_eq_true rfl⟩ hl.1 (Nat.le_of_ble_eq_true rfl) dL_law_301 ⟨(by show cells + 2 + 0 ≤ 678900; omega), (by show slots + 12 + 0 ≤ 7059405; omega)⟩) hS (fun x2 M2 H locs hp2 hW hS => ?_)
    have J2 := LJ_m J1 hp2.2.2
    have hI2 := hI
    have hP2 := hP
    have eT : mI M2 (T + 395) 0 = 0 := by rw [hp2.1, if_neg (fun q => q hc.1), if_neg (by rw [hc.2]; decide)]
    have u0 := J2.2.2.2.2.2.2
    have ex2 := hp2.2.1 hc.1 hc.2
    have eU2 := ((hp2.2.2).2.2 (T + 408) 0 (by unfold mY; omega)).2.trans eU
    refine lv_lstore (lv' := [(6, _), (5, _), (0, _), (1, _), (2, _), (3, _), (4, _)]) hx hb dL_law_304 hl (by decide) rfl (fun ls hl => ?_)
    refine lv_aload_n hx hb dL_law_306 rfl (lv_at hl 4 rfl) ?_
    refine tm_calli (cs_L_61 hx hb hml hown htw hK hW J2.2.2.2.2.1.1.1 (c_X9_thrown J2.2.2.2.2.1.1.1) ⟨rfl, rfl, Nat.le_of_ble_eq_true rfl, Nat.le_of_ble_eq_true rfl⟩ hl.1 (Nat.le_of_ble_eq_true rfl) dL_law_307 ⟨(by show cells + 2 + 0 + 0 ≤ 678900; omega), (by show slots + 12 + 0 + 0 ≤ 7059405; omega)⟩) hS (fun x3 M3 H locs hp3 hW hS => ?_)
    obtain ⟨ex3, eM3⟩ := hp3
    rw [eM3] at hW
    rw [ex3]
    refine lv_iload hx hb dL_law_310 (lv_at hl 1 rfl) ?_
    refine ti_icmp_same (tgt := 317) hx hb dL_law_312 (by decide) eT ?_
    refine lv_iload hx hb dL_law_317 (lv_at hl 1 rfl) ?_
    refine ti_if_ne (tgt := 333) hx hb dL_law_319 (by decide) (by omega) (fun h319 => ?_) (fun h319 => ?_)
    · exact absurd rfl h319
    · refine lv_aload_n hx hb dL_law_322 rfl (lv_at hl 5 rfl) ?_
      refine ti_iconst hx hb dL_law_323 ?_
      refine tm_lald hx hb hK hW u0 (by omega) (by omega) (by decide) dL_law_324 ?_
      refine lv_lload hx hb dL_law_325 (lv_at hl 0 rfl) ?_
      refine ti_lcmp_same (tgt := 333) hx hb dL_law_327 dL_law_328 (by decide) (eU2.trans ex2.symm) ?_
      refine lv_goto (tgt := 743) hx hb dL_law_333 (by decide) ?_
      exact w_up (by omega) (by omega) (kk _ _ _ _ _ _ _ ⟨J2, hI2, hP2, hW, hS, lv_sub hl [2, 3, 4, 5, 6] rfl⟩)
  · refine lv_istore (lv' := [(5, _), (0, _), (1, _), (2, _), (3, _), (4, _)]) hx hb dL_law_292 hl (by decide) rfl (fun ls hl => ?_)
    refine lv_aload_n hx hb dL_law_294 rfl (lv_at hl 3 rfl) ?_
    refine lv_aload_n hx hb dL_law_295 rfl (lv_at hl 1 rfl) ?_
    refine lv_iload hx hb dL_law_296 (lv_at hl 5 rfl) ?_
    refine ti_iconst hx hb dL_law_298 ?_
    refine ti_iadd hx hb dL_law_299 ?_
    refine lw_ld hx hb hX hbl hS (by omega) (by omega) hL hwe dL_law_300 ?_
    refine tm_calll (cs_L_77 hx hb hml hown htw hK hW J1.2.2.2.2.1.1.1 (c_X9_witness J1.2.2.2.2.1 hI hw) ⟨rfl, rfl, Nat.le_of_ble_eq_true rfl, Nat.le_of_ble_eq_true rfl⟩ hl.1 (Nat.le_of_ble_eq_true rfl) dL_law_301 ⟨(by show cells + 2 + 0 ≤ 678900; omega), (by show slots + 12 + 0 ≤ 7059405; omega)⟩) hS (fun x2 M2 H locs hp2 hW hS => ?_)
    have J2 := LJ_m J1 hp2.2.2
    have hI2 := hI
    have hP2 := hP
    have eT : mI M2 (T + 395) 0 = 1 := by rw [hp2.1, if_pos hc]
    have u0 := J2.2.2.2.2.2.2
    refine lv_lstore (lv' := [(6, _), (5, _), (0, _), (1, _), (2, _), (3, _), (4, _)]) hx hb dL_law_304 hl (by decide) rfl (fun ls hl => ?_)
    refine lv_aload_n hx hb dL_law_306 rfl (lv_at hl 4 rfl) ?_
    refine tm_calli (cs_L_61 hx hb hml hown htw hK hW J2.2.2.2.2.1.1.1 (c_X9_thrown J2.2.2.2.2.1.1.1) ⟨rfl, rfl, Nat.le_of_ble_eq_true rfl, Nat.le_of_ble_eq_true rfl⟩ hl.1 (Nat.le_of_ble_eq_true rfl) dL_law_307 ⟨(by show cells + 2 + 0 + 0 ≤ 678900; omega), (by show slots + 12 + 0 + 0 ≤ 7059405; omega)⟩) hS (fun x3 M3 H locs hp3 hW hS => ?_)
    obtain ⟨ex3, eM3⟩ := hp3
    rw [eM3] at hW
    rw [ex3]
    refine lv_iload hx hb dL_law_310 (lv_at hl 1 rfl) ?_
    refine ti_icmp_same (tgt := 317) hx hb dL_law_312 (by decide) eT ?_
    refine lv_iload hx hb dL_law_317 (lv_at hl 1 rfl) ?_
    refine ti_if_ne (tgt := 333) hx hb dL_law_319 (by decide) (by omega) (fun h319 => ?_) (fun h319 => ?_)
    · refine lv_goto (tgt := 743) hx hb dL_law_333 (by decide) ?_
      exact w_up (by omega) (by omega) (kk _ _ _ _ _ _ _ ⟨J2, hI2, hP2, hW, hS, lv_sub hl [2, 3, 4, 5, 6] rfl⟩)
    · exact absurd h319 (by decide)
  · refine lv_istore (lv' := [(5, _), (0, _), (1, _), (2, _), (3, _), (4, _)]) hx hb dL_law_292 hl (by decide) rfl (fun ls hl => ?_)
    refine lv_aload_n hx hb dL_law_294 rfl (lv_at hl 3 rfl) ?_
    refine lv_aload_n hx hb dL_law_295 rfl (lv_at hl 1 rfl) ?_
    refine lv_iload hx hb dL_law_296 (lv_at hl 5 rfl) ?_
    refine ti_iconst hx hb dL_law_298 ?_
    refine ti_iadd hx hb dL_law_299 ?_
    refine lw_ld hx hb hX hbl hS (by omega) (by omega) hL hwe dL_law_300 ?_
    refine tm_calll (cs_L_77 hx hb hml hown htw hK hW J1.2.2.2.2.1.1.1 (c_X9_witness J1.2.2.2.2.1 hI hw) ⟨rfl, rfl, Nat.le_of_ble_eq_true rfl, Nat.le_of_ble_eq_true rfl⟩ hl.1 (Nat.le_of_ble_eq_true rfl) dL_law_301 ⟨(by show cells + 2 + 0 ≤ 678900; omega), (by show slots + 12 + 0 ≤ 7059405; omega)⟩) hS (fun x2 M2 H locs hp2 hW hS => ?_)
    have J2 := LJ_m J1 hp2.2.2
    have hI2 := hI
    have hP2 := hP
    have eT : mI M2 (T + 395) 0 = 2 := by rw [hp2.1, if_neg (fun q => q hc.1), if_pos hc.2]
    have u0 := J2.2.2.2.2.2.2
    refine lv_lstore (lv' := [(6, _), (5, _), (0, _), (1, _), (2, _), (3, _), (4, _)]) hx hb dL_law_304 hl (by decide) rfl (fun ls hl => ?_)
    refine lv_aload_n hx hb dL_law_306 rfl (lv_at hl 4 rfl) ?_
    refine tm_calli (cs_L_61 hx hb hml hown htw hK hW J2.2.2.2.2.1.1.1 (c_X9_thrown J2.2.2.2.2.1.1.1) ⟨rfl, rfl, Nat.le_of_ble_eq_true rfl, Nat.le_of_ble_eq_true rfl⟩ hl.1 (Nat.le_of_ble_eq_true rfl) dL_law_307 ⟨(by show cells + 2 + 0 + 0 ≤ 678900; omega), (by show slots + 12 + 0 + 0 ≤ 7059405; omega)⟩) hS (fun x3 M3 H locs hp3 hW hS => ?_)
    obtain ⟨ex3, eM3⟩ := hp3
    rw [eM3] at hW
    rw [ex3]
    refine lv_iload hx hb dL_law_310 (lv_at hl 1 rfl) ?_
    refine ti_icmp_same (tgt := 317) hx hb dL_law_312 (by decide) eT ?_
    refine lv_iload hx hb dL_law_317 (lv_at hl 1 rfl) ?_
    refine ti_if_ne (tgt := 333) hx hb dL_law_319 (by decide) (by omega) (fun h319 => ?_) (fun h319 => ?_)
    · refine lv_goto (tgt := 743) hx hb dL_law_333 (by decide) ?_
      exact w_up (by omega) (by omega) (kk _ _ _ _ _ _ _ ⟨J2, hI2, hP2, hW, hS, lv_sub hl [2, 3, 4, 5, 6] rfl⟩)
    · exact absurd h319 (by decide)
set_option maxHeartbeats 1000000 in
/-- hint -/
theorem lw_k5 {p : Program} {l : Launch} {e : Env} {s : State} {m : MethodId} {below : List Frame} {meth : Method} {c : Code} {H : Heap} {locs : List Loc} {cells slots : Nat} {Q : State → Prop} {ls : Array Slot} {G : tm_G} {sh : tm_sh} {M : tm_M} {T b L : Nat} {xs : Nat → Int32} {i : Int} {z : tl_Z} {px : List Int} (F : lw_Fx p l s m c b L xs G) (I : lw_J s G sh M T b i z px H locs ls) (hi : 0 ≤ i ∧ i + 2 < (L : Int)) (hf : cells + 21 ≤ 678900 ∧ slots + 8006 ≤ 7059405) (kk : ∀ (sh1 : tm_sh) (M1 : tm_M) (z1 : tl_Z) (px1 : List Int) (H1 : Heap) (locs1 : List Loc) (ls1 : Array Slot), lw_J s G sh1 M1 T b i z1 px1 H1 locs1 ls1 → W p l e room_1 s m #[Value.ref b] below meth c H1 locs1 (cells + 21) (slots + 8006) Q (F0 m 743 ls1 [])) : W p l e room_1 s m #[Value.ref b] below meth c H locs cells slots Q (F0 m 336 ls []) := by
  obtain ⟨hx, hb, hml, hown, htw, hK, hC, hN, h9, hX, hbl, hL⟩ := F
  obtain ⟨J, hI, hP, hW, hS, hl⟩ := I
  refine lv_aload_n hx hb dL_law_336 rfl (lv_at hl 1 rfl) ?_
  refine lv_aload_n hx hb dL_law_337 rfl (lv_at hl 3 rfl) ?_
  refine tm_calli (cl_L_78 hx hb hml hown htw hK hW hC hN hS rfl (c_L_hint h9 J hI) ⟨rfl, rfl, Nat.le_of_ble_eq_true rfl, Nat.le_of_ble_eq_true rfl⟩ hl.1 (Nat.le_of_ble_eq_true rfl) dL_law_338 ⟨(by show cells + 1 ≤ 678900; omega), (by show slots + 6 ≤ 7059405; omega)⟩) hS (fun x1 M1 H locs hp1 hW hS => ?_)
  rcases hp1 with ⟨rfl, hc, J1, eU⟩ | ⟨rfl, hc, J1⟩
  · refine lv_istore (lv' := [(5, _), (0, _), (1, _), (2, _), (3, _), (4, _)]) hx hb dL_law_341 hl (by decide) rfl (fun ls hl => ?_)
    refine lv_aload_n hx hb dL_law_343 rfl (lv_at hl 3 rfl) ?_
    refine tm_calli (cs_L_81 hx hb hml hown htw hK hW J1.2.2.2.2.1.1.1 (c_X9_hint J1.2.2.2.2.1 hI) ⟨rfl, rfl, Nat.le_of_ble_eq_true rfl, Nat.le_of_ble_eq_true rfl⟩ hl.1 (Nat.le_of_ble_eq_true rfl) dL_law_344 ⟨(by show cells + 1 + 0 ≤ 678900; omega), (by show slots + 6 + 0 ≤ 7059405; omega)⟩) hS (fun x2 M2 H locs hp2 hW hS => ?_)
    have J2 := LJ_m J1 hp2.2.2
    have hI2 := hI
    have hP2 := hP
    have eT : mI M2 (T + 395) 0 = 0 := by rw [hp2.1]; exact if_neg (by omega)
    have u0 := J2.2.2.2.2.2.2
    have ex2 := hp2.2.1 hc
    have eU2 := ((hp2.2.2).2.2 (T + 408) 0 (by unfold mY; omega)).2.trans eU
    refine lv_istore (lv' := [(6, _), (5, _), (0, _), (1, _), (2, _), (3, _), (4, _)]) hx hb dL_law_347 hl (by decide) rfl (fun ls hl => ?_)
    refine lv_aload_n hx hb dL_law_349 rfl (lv_at hl 4 rfl) ?_
    refine tm_calli (cs_L_61 hx hb hml hown htw hK hW J2.2.2.2.2.1.1.1 (c_X9_thrown J2.2.2.2.2.1.1.1) ⟨rfl, rfl, Nat.le_of_ble_eq_true rfl, Nat.le_of_ble_eq_true rfl⟩ hl.1 (Nat.le_of_ble_eq_true rfl) dL_law_350 ⟨(by show cells + 1 + 0 + 0 ≤ 678900; omega), (by show slots + 6 + 0 + 0 ≤ 7059405; omega)⟩) hS (fun x3 M3 H locs hp3 hW hS => ?_)
    obtain ⟨ex3, eM3⟩ := hp3
    rw [eM3] at hW
    rw [ex3]
    refine lv_iload hx hb dL_law_353 (lv_at hl 1 rfl) ?_
    refine ti_icmp_same (tgt := 360) hx hb dL_law_355 (by decide) eT ?_
    refine lv_iload hx hb dL_law_360 (lv_at hl 1 rfl) ?_
    refine ti_if_ne (tgt := 377) hx hb dL_law_362 (by decide) (by omega) (fun h362 => ?_) (fun h362 => ?_)
    · exact absurd rfl h362
    · refine lv_aload_n hx hb dL_law_365 rfl (lv_at hl 5 rfl) ?_
      refine ti_iconst hx hb dL_law_366 ?_
      refine tm_lald hx hb hK hW u0 (by omega) (by omega) (by decide) dL_law_367 ?_
      refine lv_iload hx hb dL_law_368 (lv_at hl 0 rfl) ?_
      refine ti_i2lw hx hb dL_law_370 ?_
      refine ti_lcmp_same (tgt := 377) hx hb dL_law_371 dL_law_372 (by decide) (eU2.trans (congrArg w32 ex2).symm) ?_
      refine lv_goto (tgt := 743) hx hb dL_law_377 (by decide) ?_
      exact w_up (by omega) (by omega) (kk _ _ _ _ _ _ _ ⟨J2, hI2, hP2, hW, hS, lv_sub hl [2, 3, 4, 5, 6] rfl⟩)
  · refine lv_istore (lv' := [(5, _), (0, _), (1, _), (2, _), (3, _), (4, _)]) hx hb dL_law_341 hl (by decide) rfl (fun ls hl => ?_)
    refine lv_aload_n hx hb dL_law_343 rfl (lv_at hl 3 rfl) ?_
    refine tm_calli (cs_L_81 hx hb hml hown htw hK hW J1.2.2.2.2.1.1.1 (c_X9_hint J1.2.2.2.2.1 hI) ⟨rfl, rfl, Nat.le_of_ble_eq_true rfl, Nat.le_of_ble_eq_true rfl⟩ hl.1 (Nat.le_of_ble_eq_true rfl) dL_law_344 ⟨(by show cells + 1 + 0 ≤ 678900; omega), (by show slots + 6 + 0 ≤ 7059405; omega)⟩) hS (fun x2 M2 H locs hp2 hW hS => ?_)
    have J2 := LJ_m J1 hp2.2.2
    have hI2 := hI
    have hP2 := hP
    have eT : mI M2 (T + 395) 0 = 1 := by rw [hp2.1]; exact if_pos hc
    have u0 := J2.2.2.2.2.2.2
    refine lv_istore (lv' := [(6, _), (5, _), (0, _), (1, _), (2, _), (3, _), (4, _)]) hx hb dL_law_347 hl (by decide) rfl (fun ls hl => ?_)
    refine lv_aload_n hx hb dL_law_349 rfl (lv_at hl 4 rfl) ?_
    refine tm_calli (cs_L_61 hx hb hml hown htw hK hW J2.2.2.2.2.1.1.1 (c_X9_thrown J2.2.2.2.2.1.1.1) ⟨rfl, rfl, Nat.le_of_ble_eq_true rfl, Nat.le_of_ble_eq_true rfl⟩ hl.1 (Nat.le_of_ble_eq_true rfl) dL_law_350 ⟨(by show cells + 1 + 0 + 0 ≤ 678900; omega), (by show slots + 6 + 0 + 0 ≤ 7059405; omega)⟩) hS (fun x3 M3 H locs hp3 hW hS => ?_)
    obtain ⟨ex3, eM3⟩ := hp3
    rw [eM3] at hW
    rw [ex3]
    refine lv_iload hx hb dL_law_353 (lv_at hl 1 rfl) ?_
    refine ti_icmp_same (tgt := 360) hx hb dL_law_355 (by decide) eT ?_
    refine lv_iload hx hb dL_law_360 (lv_at hl 1 rfl) ?_
    refine ti_if_ne (tgt := 377) hx hb dL_law_362 (by decide) (by omega) (fun h362 => ?_) (fun h362 => ?_)
    · refine lv_goto (tgt := 743) hx hb dL_law_377 (by decide) ?_
      exact w_up (by omega) (by omega) (kk _ _ _ _ _ _ _ ⟨J2, hI2, hP2, hW, hS, lv_sub hl [2, 3, 4, 5, 6] rfl⟩)
    · exact absurd h362 (by decide)
set_option maxHeartbeats 1000000 in
/-- take -/
theorem lw_k6 {p : Program} {l : Launch} {e : Env} {s : State} {m : MethodId} {below : List Frame} {meth : Method} {c : Code} {H : Heap} {locs : List Loc} {cells slots : Nat} {Q : State → Prop} {ls : Array Slot} {G : tm_G} {sh : tm_sh} {M : tm_M} {T b L : Nat} {xs : Nat → Int32} {i : Int} {z : tl_Z} {px : List Int} (F : lw_Fx p l s m c b L xs G) (I : lw_J s G sh M T b i z px H locs ls) (hi : 0 ≤ i ∧ i + 2 < (L : Int)) (hf : cells + 21 ≤ 678900 ∧ slots + 8006 ≤ 7059405) (kk : ∀ (sh1 : tm_sh) (M1 : tm_M) (z1 : tl_Z) (px1 : List Int) (H1 : Heap) (locs1 : List Loc) (ls1 : Array Slot), lw_J s G sh1 M1 T b i z1 px1 H1 locs1 ls1 → W p l e room_1 s m #[Value.ref b] below meth c H1 locs1 (cells + 21) (slots + 8006) Q (F0 m 743 ls1 [])) : W p l e room_1 s m #[Value.ref b] below meth c H locs cells slots Q (F0 m 380 ls []) := by
  obtain ⟨hx, hb, hml, hown, htw, hK, hC, hN, h9, hX, hbl, hL⟩ := F
  obtain ⟨J, hI, hP, hW, hS, hl⟩ := I
  refine lv_aload_n hx hb dL_law_380 rfl (lv_at hl 1 rfl) ?_
  refine lv_aload_n hx hb dL_law_381 rfl (lv_at hl 3 rfl) ?_
  refine tm_calli (cl_L_82 hx hb hml hown htw hK hW hC hN hS rfl (c_L_take h9 J hI) ⟨rfl, rfl, Nat.le_of_ble_eq_true rfl, Nat.le_of_ble_eq_true rfl⟩ hl.1 (Nat.le_of_ble_eq_true rfl) dL_law_382 ⟨(by show cells + 2 ≤ 678900; omega), (by show slots + 12 ≤ 7059405; omega)⟩) hS (fun x1 M1 H locs hp1 hW hS => ?_)
  rcases hp1 with ⟨rfl, hc, J1, eU⟩ | ⟨rfl, hc, J1⟩
  · refine lv_istore (lv' := [(5, _), (0, _), (1, _), (2, _), (3, _), (4, _)]) hx hb dL_law_385 hl (by decide) rfl (fun ls hl => ?_)
    refine lv_aload_n hx hb dL_law_387 rfl (lv_at hl 3 rfl) ?_
    refine tm_calli (cs_L_84 hx hb hml hown htw hK hW J1.2.2.2.2.1.1.1 (c_X9_take J1.2.2.2.2.1 hI) ⟨rfl, rfl, Nat.le_of_ble_eq_true rfl, Nat.le_of_ble_eq_true rfl⟩ hl.1 (Nat.le_of_ble_eq_true rfl) dL_law_388 ⟨(by show cells + 2 + 0 ≤ 678900; omega), (by show slots + 12 + 0 ≤ 7059405; omega)⟩) hS (fun x2 M2 H locs hp2 hW hS => ?_)
    have J2 := LJ_m J1 (hp2.2.2 hc.1 hc.2).2
    have hI2 := ZI_take hI hc.1 hc.2
    have hP2 := hP
    have eT : mI M2 (T + 395) 0 = 0 := by rw [hp2.1]; exact if_neg (by omega)
    have u0 := J2.2.2.2.2.2.2
    have ex2 := (hp2.2.2 hc.1 hc.2).1
    have eU2 := (((hp2.2.2 hc.1 hc.2).2).2.2 (T + 408) 0 (by unfold mY; omega)).2.trans eU
    refine lv_istore (lv' := [(6, _), (5, _), (0, _), (1, _), (2, _), (3, _), (4, _)]) hx hb dL_law_391 hl (by decide) rfl (fun ls hl => ?_)
    refine lv_aload_n hx hb dL_law_393 rfl (lv_at hl 4 rfl) ?_
    refine tm_calli (cs_L_61 hx hb hml hown htw hK hW J2.2.2.2.2.1.1.1 (c_X9_thrown J2.2.2.2.2.1.1.1) ⟨rfl, rfl, Nat.le_of_ble_eq_true rfl, Nat.le_of_ble_eq_true rfl⟩ hl.1 (Nat.le_of_ble_eq_true rfl) dL_law_394 ⟨(by show cells + 2 + 0 + 0 ≤ 678900; omega), (by show slots + 12 + 0 + 0 ≤ 7059405; omega)⟩) hS (fun x3 M3 H locs hp3 hW hS => ?_)
    obtain ⟨ex3, eM3⟩ := hp3
    rw [eM3] at hW
    rw [ex3]
    refine lv_iload hx hb dL_law_397 (lv_at hl 1 rfl) ?_
    refine ti_icmp_same (tgt := 404) hx hb dL_law_399 (by decide) eT ?_
    refine lv_iload hx hb dL_law_404 (lv_at hl 1 rfl) ?_
    refine ti_if_ne (tgt := 428) hx hb dL_law_406 (by decide) (by omega) (fun h406 => ?_) (fun h406 => ?_)
    · exact absurd rfl h406
    · refine lv_aload_n hx hb dL_law_409 rfl (lv_at hl 5 rfl) ?_
      refine ti_iconst hx hb dL_law_410 ?_
      refine tm_lald hx hb hK hW u0 (by omega) (by omega) (by decide) dL_law_411 ?_
      refine lv_iload hx hb dL_law_412 (lv_at hl 0 rfl) ?_
      refine ti_if_eq (tgt := 421) hx hb dL_law_414 (by decide) (by rw [ex2]; split <;> decide) (fun h414 => ?_) (fun h414 => ?_)
      · refine ti_lconst0 hx hb dL_law_421 ?_
        refine ti_lcmp_same (tgt := 428) hx hb dL_law_422 dL_law_423 (by decide) (eU2.trans (ex2.symm.trans h414)) ?_
        refine lv_goto (tgt := 743) hx hb dL_law_428 (by decide) ?_
        exact w_up (by omega) (by omega) (kk _ _ _ _ _ _ _ ⟨J2, hI2, hP2, hW, hS, lv_sub hl [2, 3, 4, 5, 6] rfl⟩)
      · refine ti_lconst1 hx hb dL_law_417 ?_
        refine lv_goto (tgt := 422) hx hb dL_law_418 (by decide) ?_
        refine ti_lcmp_same (tgt := 428) hx hb dL_law_422 dL_law_423 (by decide) (eU2.trans (tl_bi ex2 h414).symm) ?_
        refine lv_goto (tgt := 743) hx hb dL_law_428 (by decide) ?_
        exact w_up (by omega) (by omega) (kk _ _ _ _ _ _ _ ⟨J2, hI2, hP2, hW, hS, lv_sub hl [2, 3, 4, 5, 6] rfl⟩)
  · refine lv_istore (lv' := [(5, _), (0, _), (1, _), (2, _), (3, _), (4, _)]) hx hb dL_law_385 hl (by decide) rfl (fun ls hl => ?_)
    refine lv_aload_n hx hb dL_law_387 rfl (lv_at hl 3 rfl) ?_
    refine tm_calli (cs_L_84 hx hb hml hown htw hK hW J1.2.2.2.2.1.1.1 (c_X9_take J1.2.2.2.2.1 hI) ⟨rfl, rfl, Nat.le_of_ble_eq_true rfl, Nat.le_of_ble_eq_true rfl⟩ hl.1 (Nat.le_of_ble_eq_true rfl) dL_law_388 ⟨(by show cells + 2 + 0 ≤ 678900; omega), (by show slots + 12 + 0 ≤ 7059405; omega)⟩) hS (fun x2 M2 H locs hp2 hW hS => ?_)
    have J2 := LJ_m J1 (hp2.2.1 hc)
    have hI2 := hI
    have hP2 := hP
    have eT : mI M2 (T + 395) 0 = 1 := by rw [hp2.1]; exact if_pos hc
    have u0 := J2.2.2.2.2.2.2
    refine lv_istore (lv' := [(6, _), (5, _), (0, _), (1, _), (2, _), (3, _), (4, _)]) hx hb dL_law_391 hl (by decide) rfl (fun ls hl => ?_)
    refine lv_aload_n hx hb dL_law_393 rfl (lv_at hl 4 rfl) ?_
    refine tm_calli (cs_L_61 hx hb hml hown htw hK hW J2.2.2.2.2.1.1.1 (c_X9_thrown J2.2.2.2.2.1.1.1) ⟨rfl, rfl, Nat.le_of_ble_eq_true rfl, Nat.le_of_ble_eq_true rfl⟩ hl.1 (Nat.le_of_ble_eq_true rfl) dL_law_394 ⟨(by show cells + 2 + 0 + 0 ≤ 678900; omega), (by show slots + 12 + 0 + 0 ≤ 7059405; omega)⟩) hS (fun x3 M3 H locs hp3 hW hS => ?_)
    obtain ⟨ex3, eM3⟩ := hp3
    rw [eM3] at hW
    rw [ex3]
    refine lv_iload hx hb dL_law_397 (lv_at hl 1 rfl) ?_
    refine ti_icmp_same (tgt := 404) hx hb dL_law_399 (by decide) eT ?_
    refine lv_iload hx hb dL_law_404 (lv_at hl 1 rfl) ?_
    refine ti_if_ne (tgt := 428) hx hb dL_law_406 (by decide) (by omega) (fun h406 => ?_) (fun h406 => ?_)
    · refine lv_goto (tgt := 743) hx hb dL_law_428 (by decide) ?_
      exact w_up (by omega) (by omega) (kk _ _ _ _ _ _ _ ⟨J2, hI2, hP2, hW, hS, lv_sub hl [2, 3, 4, 5, 6] rfl⟩)
    · exact absurd h406 (by decide)
set_option maxHeartbeats 1000000 in
/-- undo -/
theorem lw_k7 {p : Program} {l : Launch} {e : Env} {s : State} {m : MethodId} {below : List Frame} {meth : Method} {c : Code} {H : Heap} {locs : List Loc} {cells slots : Nat} {Q : State → Prop} {ls : Array Slot} {G : tm_G} {sh : tm_sh} {M : tm_M} {T b L : Nat} {xs : Nat → Int32} {i : Int} {z : tl_Z} {px : List Int} (F : lw_Fx p l s m c b L xs G) (I : lw_J s G sh M T b i z px H locs ls) (hi : 0 ≤ i ∧ i + 2 < (L : Int)) (hf : cells + 21 ≤ 678900 ∧ slots + 8006 ≤ 7059405) (kk : ∀ (sh1 : tm_sh) (M1 : tm_M) (z1 : tl_Z) (px1 : List Int) (H1 : Heap) (locs1 : List Loc) (ls1 : Array Slot), lw_J s G sh1 M1 T b i z1 px1 H1 locs1 ls1 → W p l e room_1 s m #[Value.ref b] below meth c H1 locs1 (cells + 21) (slots + 8006) Q (F0 m 743 ls1 [])) : W p l e room_1 s m #[Value.ref b] below meth c H locs cells slots Q (F0 m 431 ls []) := by
  obtain ⟨hx, hb, hml, hown, htw, hK, hC, hN, h9, hX, hbl, hL⟩ := F
  obtain ⟨J, hI, hP, hW, hS, hl⟩ := I
  refine lv_aload_n hx hb dL_law_431 rfl (lv_at hl 1 rfl) ?_
  refine lv_aload_n hx hb dL_law_432 rfl (lv_at hl 3 rfl) ?_
  refine tm_calli (cl_L_85 hx hb hml hown htw hK hW hC hN hS rfl (c_L_undo h9 J hI) ⟨rfl, rfl, Nat.le_of_ble_eq_true rfl, Nat.le_of_ble_eq_true rfl⟩ hl.1 (Nat.le_of_ble_eq_true rfl) dL_law_433 ⟨(by show cells + 1 ≤ 678900; omega), (by show slots + 6 ≤ 7059405; omega)⟩) hS (fun x1 M1 H locs hp1 hW hS => ?_)
  rcases hp1 with ⟨rfl, hc, J1, eU⟩ | ⟨rfl, hc, J1⟩
  · refine lv_istore (lv' := [(5, _), (0, _), (1, _), (2, _), (3, _), (4, _)]) hx hb dL_law_436 hl (by decide) rfl (fun ls hl => ?_)
    refine lv_aload_n hx hb dL_law_438 rfl (lv_at hl 3 rfl) ?_
    refine tm_calli (cs_L_87 hx hb hml hown htw hK hW J1.2.2.2.2.1.1.1 (c_X9_undo J1.2.2.2.2.1 hI) ⟨rfl, rfl, Nat.le_of_ble_eq_true rfl, Nat.le_of_ble_eq_true rfl⟩ hl.1 (Nat.le_of_ble_eq_true rfl) dL_law_439 ⟨(by show cells + 1 + 0 ≤ 678900; omega), (by show slots + 6 + 0 ≤ 7059405; omega)⟩) hS (fun x2 M2 H locs hp2 hW hS => ?_)
    have J2 := LJ_m J1 (hp2.2.2 hc).2
    have hI2 := ZI_undo hI
    have hP2 := hP
    have eT : mI M2 (T + 395) 0 = 0 := by rw [hp2.1]; exact if_neg (by omega)
    have u0 := J2.2.2.2.2.2.2
    have ex2 := (hp2.2.2 hc).1
    have eU2 := (((hp2.2.2 hc).2).2.2 (T + 408) 0 (by unfold mY; omega)).2.trans eU
    refine lv_istore (lv' := [(6, _), (5, _), (0, _), (1, _), (2, _), (3, _), (4, _)]) hx hb dL_law_442 hl (by decide) rfl (fun ls hl => ?_)
    refine lv_aload_n hx hb dL_law_444 rfl (lv_at hl 4 rfl) ?_
    refine tm_calli (cs_L_61 hx hb hml hown htw hK hW J2.2.2.2.2.1.1.1 (c_X9_thrown J2.2.2.2.2.1.1.1) ⟨rfl, rfl, Nat.le_of_ble_eq_true rfl, Nat.le_of_ble_eq_true rfl⟩ hl.1 (Nat.le_of_ble_eq_true rfl) dL_law_445 ⟨(by show cells + 1 + 0 + 0 ≤ 678900; omega), (by show slots + 6 + 0 + 0 ≤ 7059405; omega)⟩) hS (fun x3 M3 H locs hp3 hW hS => ?_)
    obtain ⟨ex3, eM3⟩ := hp3
    rw [eM3] at hW
    rw [ex3]
    refine lv_iload hx hb dL_law_448 (lv_at hl 1 rfl) ?_
    refine ti_icmp_same (tgt := 455) hx hb dL_law_450 (by decide) eT ?_
    refine lv_iload hx hb dL_law_455 (lv_at hl 1 rfl) ?_
    refine ti_if_ne (tgt := 479) hx hb dL_law_457 (by decide) (by omega) (fun h457 => ?_) (fun h457 => ?_)
    · exact absurd rfl h457
    · refine lv_aload_n hx hb dL_law_460 rfl (lv_at hl 5 rfl) ?_
      refine ti_iconst hx hb dL_law_461 ?_
      refine tm_lald hx hb hK hW u0 (by omega) (by omega) (by decide) dL_law_462 ?_
      refine lv_iload hx hb dL_law_463 (lv_at hl 0 rfl) ?_
      refine ti_if_eq (tgt := 472) hx hb dL_law_465 (by decide) (by rw [ex2]; split <;> decide) (fun h465 => ?_) (fun h465 => ?_)
      · refine ti_lconst0 hx hb dL_law_472 ?_
        refine ti_lcmp_same (tgt := 479) hx hb dL_law_473 dL_law_474 (by decide) (eU2.trans (ex2.symm.trans h465)) ?_
        refine lv_goto (tgt := 743) hx hb dL_law_479 (by decide) ?_
        exact w_up (by omega) (by omega) (kk _ _ _ _ _ _ _ ⟨J2, hI2, hP2, hW, hS, lv_sub hl [2, 3, 4, 5, 6] rfl⟩)
      · refine ti_lconst1 hx hb dL_law_468 ?_
        refine lv_goto (tgt := 473) hx hb dL_law_469 (by decide) ?_
        refine ti_lcmp_same (tgt := 479) hx hb dL_law_473 dL_law_474 (by decide) (eU2.trans (tl_bj ex2 h465).symm) ?_
        refine lv_goto (tgt := 743) hx hb dL_law_479 (by decide) ?_
        exact w_up (by omega) (by omega) (kk _ _ _ _ _ _ _ ⟨J2, hI2, hP2, hW, hS, lv_sub hl [2, 3, 4, 5, 6] rfl⟩)
  · refine lv_istore (lv' := [(5, _), (0, _), (1, _), (2, _), (3, _), (4, _)]) hx hb dL_law_436 hl (by decide) rfl (fun ls hl => ?_)
    refine lv_aload_n hx hb dL_law_438 rfl (lv_at hl 3 rfl) ?_
    refine tm_calli (cs_L_87 hx hb hml hown htw hK hW J1.2.2.2.2.1.1.1 (c_X9_undo J1.2.2.2.2.1 hI) ⟨rfl, rfl, Nat.le_of_ble_eq_true rfl, Nat.le_of_ble_eq_true rfl⟩ hl.1 (Nat.le_of_ble_eq_true rfl) dL_law_439 ⟨(by show cells + 1 + 0 ≤ 678900; omega), (by show slots + 6 + 0 ≤ 7059405; omega)⟩) hS (fun x2 M2 H locs hp2 hW hS => ?_)
    have J2 := LJ_m J1 (hp2.2.1 hc)
    have hI2 := hI
    have hP2 := hP
    have eT : mI M2 (T + 395) 0 = 1 := by rw [hp2.1]; exact if_pos hc
    have u0 := J2.2.2.2.2.2.2
    refine lv_istore (lv' := [(6, _), (5, _), (0, _), (1, _), (2, _), (3, _), (4, _)]) hx hb dL_law_442 hl (by decide) rfl (fun ls hl => ?_)
    refine lv_aload_n hx hb dL_law_444 rfl (lv_at hl 4 rfl) ?_
    refine tm_calli (cs_L_61 hx hb hml hown htw hK hW J2.2.2.2.2.1.1.1 (c_X9_thrown J2.2.2.2.2.1.1.1) ⟨rfl, rfl, Nat.le_of_ble_eq_true rfl, Nat.le_of_ble_eq_true rfl⟩ hl.1 (Nat.le_of_ble_eq_true rfl) dL_law_445 ⟨(by show cells + 1 + 0 + 0 ≤ 678900; omega), (by show slots + 6 + 0 + 0 ≤ 7059405; omega)⟩) hS (fun x3 M3 H locs hp3 hW hS => ?_)
    obtain ⟨ex3, eM3⟩ := hp3
    rw [eM3] at hW
    rw [ex3]
    refine lv_iload hx hb dL_law_448 (lv_at hl 1 rfl) ?_
    refine ti_icmp_same (tgt := 455) hx hb dL_law_450 (by decide) eT ?_
    refine lv_iload hx hb dL_law_455 (lv_at hl 1 rfl) ?_
    refine ti_if_ne (tgt := 479) hx hb dL_law_457 (by decide) (by omega) (fun h457 => ?_) (fun h457 => ?_)
    · refine lv_goto (tgt := 743) hx hb dL_law_479 (by decide) ?_
      exact w_up (by omega) (by omega) (kk _ _ _ _ _ _ _ ⟨J2, hI2, hP2, hW, hS, lv_sub hl [2, 3, 4, 5, 6] rfl⟩)
    · exact absurd h457 (by decide)
set_option maxHeartbeats 1000000 in
/-- line -/
theorem lw_k8 {p : Program} {l : Launch} {e : Env} {s : State} {m : MethodId} {below : List Frame} {meth : Method} {c : Code} {H : Heap} {locs : List Loc} {cells slots : Nat} {Q : State → Prop} {ls : Array Slot} {G : tm_G} {sh : tm_sh} {M : tm_M} {T b L : Nat} {xs : Nat → Int32} {i : Int} {z : tl_Z} {px : List Int} (F : lw_Fx p l s m c b L xs G) (I : lw_J s G sh M T b i z px H locs ls) (hi : 0 ≤ i ∧ i + 2 < (L : Int)) (hf : cells + 21 ≤ 678900 ∧ slots + 8006 ≤ 7059405) (kk : ∀ (sh1 : tm_sh) (M1 : tm_M) (z1 : tl_Z) (px1 : List Int) (H1 : Heap) (locs1 : List Loc) (ls1 : Array Slot), lw_J s G sh1 M1 T b i z1 px1 H1 locs1 ls1 → W p l e room_1 s m #[Value.ref b] below meth c H1 locs1 (cells + 21) (slots + 8006) Q (F0 m 743 ls1 [])) : W p l e room_1 s m #[Value.ref b] below meth c H locs cells slots Q (F0 m 482 ls []) := by
  obtain ⟨hx, hb, hml, hown, htw, hK, hC, hN, h9, hX, hbl, hL⟩ := F
  obtain ⟨J, hI, hP, hW, hS, hl⟩ := I
  obtain ⟨w, hwe⟩ : ∃ w, (xs (i + 1).toNat).toInt = w := ⟨_, rfl⟩
  have hw : inI w := by rw [← hwe]; exact w_in _
  refine lv_aload_n hx hb dL_law_482 rfl (lv_at hl 1 rfl) ?_
  refine lv_aload_n hx hb dL_law_483 rfl (lv_at hl 0 rfl) ?_
  refine lv_iload hx hb dL_law_484 (lv_at hl 4 rfl) ?_
  refine ti_iconst hx hb dL_law_486 ?_
  refine ti_iadd hx hb dL_law_487 ?_
  refine lw_ld hx hb hX hbl hS (by omega) (by omega) hL hwe dL_law_488 ?_
  refine lv_aload_n hx hb dL_law_489 rfl (lv_at hl 3 rfl) ?_
  refine tm_calli (cl_L_88 hx hb hml hown htw hK hW hC hN hS rfl (c_L_line h9 J hI hw) ⟨rfl, rfl, Nat.le_of_ble_eq_true rfl, Nat.le_of_ble_eq_true rfl⟩ hl.1 (Nat.le_of_ble_eq_true rfl) dL_law_490 ⟨(by show cells + 2 ≤ 678900; omega), (by show slots + 12 ≤ 7059405; omega)⟩) hS (fun x1 M1 H locs hp1 hW hS => ?_)
  rcases hp1 with ⟨rfl, hc, J1, eU⟩ | ⟨rfl, hc, J1⟩ | ⟨rfl, hc, J1⟩
  · refine lv_istore (lv' := [(5, _), (0, _), (1, _), (2, _), (3, _), (4, _)]) hx hb dL_law_493 hl (by decide) rfl (fun ls hl => ?_)
    refine lv_aload_n hx hb dL_law_495 rfl (lv_at hl 3 rfl) ?_
    refine lv_aload_n hx hb dL_law_496 rfl (lv_at hl 1 rfl) ?_
    refine lv_iload hx hb dL_law_497 (lv_at hl 5 rfl) ?_
    refine ti_iconst hx hb dL_law_499 ?_
    refine ti_iadd hx hb dL_law_500 ?_
    refine lw_ld hx hb hX hbl hS (by omega) (by omega) hL hwe dL_law_501 ?_
    refine tm_calli (cs_L_90 hx hb hml hown htw hK hW J1.2.2.2.2.1.1.1 (c_X9_line J1.2.2.2.2.1 hI hw) ⟨rfl, rfl, Nat.le_of_ble_eq_true rfl, Nat.le_of_ble_eq_true rfl⟩ hl.1 (Nat.le_of_ble_eq_true rfl) dL_law_502 ⟨(by show cells + 2 + 0 ≤ 678900; omega), (by show slots + 12 + 0 ≤ 7059405; omega)⟩) hS (fun x2 M2 H locs hp2 hW hS => ?_)
    have J2 := LJ_m J1 hp2.2.2
    have hI2 := hI
    have hP2 := hP
    have eT : mI M2 (T + 395) 0 = 0 := by rw [hp2.1, if_neg (fun q => q hc.1), if_neg (by omega)]
    have u0 := J2.2.2.2.2.2.2
    have ex2 := hp2.2.1 hc.1 hc.2
    have eU2 := ((hp2.2.2).2.2 (T + 408) 0 (by unfold mY; omega)).2.trans eU
    refine lv_istore (lv' := [(6, _), (5, _), (0, _), (1, _), (2, _), (3, _), (4, _)]) hx hb dL_law_505 hl (by decide) rfl (fun ls hl => ?_)
    refine lv_aload_n hx hb dL_law_507 rfl (lv_at hl 4 rfl) ?_
    refine tm_calli (cs_L_61 hx hb hml hown htw hK hW J2.2.2.2.2.1.1.1 (c_X9_thrown J2.2.2.2.2.1.1.1) ⟨rfl, rfl, Nat.le_of_ble_eq_true rfl, Nat.le_of_ble_eq_true rfl⟩ hl.1 (Nat.le_of_ble_eq_true rfl) dL_law_508 ⟨(by show cells + 2 + 0 + 0 ≤ 678900; omega), (by show slots + 12 + 0 + 0 ≤ 7059405; omega)⟩) hS (fun x3 M3 H locs hp3 hW hS => ?_)
    obtain ⟨ex3, eM3⟩ := hp3
    rw [eM3] at hW
    rw [ex3]
    refine lv_iload hx hb dL_law_511 (lv_at hl 1 rfl) ?_
    refine ti_icmp_same (tgt := 518) hx hb dL_law_513 (by decide) eT ?_
    refine lv_iload hx hb dL_law_518 (lv_at hl 1 rfl) ?_
    refine ti_if_ne (tgt := 535) hx hb dL_law_520 (by decide) (by omega) (fun h520 => ?_) (fun h520 => ?_)
    · exact absurd rfl h520
    · refine lv_aload_n hx hb dL_law_523 rfl (lv_at hl 5 rfl) ?_
      refine ti_iconst hx hb dL_law_524 ?_
      refine tm_lald hx hb hK hW u0 (by omega) (by omega) (by decide) dL_law_525 ?_
      refine lv_iload hx hb dL_law_526 (lv_at hl 0 rfl) ?_
      refine ti_i2lw hx hb dL_law_528 ?_
      refine ti_lcmp_same (tgt := 535) hx hb dL_law_529 dL_law_530 (by decide) (eU2.trans (congrArg w32 ex2).symm) ?_
      refine lv_goto (tgt := 743) hx hb dL_law_535 (by decide) ?_
      exact w_up (by omega) (by omega) (kk _ _ _ _ _ _ _ ⟨J2, hI2, hP2, hW, hS, lv_sub hl [2, 3, 4, 5, 6] rfl⟩)
  · refine lv_istore (lv' := [(5, _), (0, _), (1, _), (2, _), (3, _), (4, _)]) hx hb dL_law_493 hl (by decide) rfl (fun ls hl => ?_)
    refine lv_aload_n hx hb dL_law_495 rfl (lv_at hl 3 rfl) ?_
    refine lv_aload_n hx hb dL_law_496 rfl (lv_at hl 1 rfl) ?_
    refine lv_iload hx hb dL_law_497 (lv_at hl 5 rfl) ?_
    refine ti_iconst hx hb dL_law_499 ?_
    refine ti_iadd hx hb dL_law_500 ?_
    refine lw_ld hx hb hX hbl hS (by omega) (by omega) hL hwe dL_law_501 ?_
    refine tm_calli (cs_L_90 hx hb hml hown htw hK hW J1.2.2.2.2.1.1.1 (c_X9_line J1.2.2.2.2.1 hI hw) ⟨rfl, rfl, Nat.le_of_ble_eq_true rfl, Nat.le_of_ble_eq_true rfl⟩ hl.1 (Nat.le_of_ble_eq_true rfl) dL_law_502 ⟨(by show cells + 2 + 0 ≤ 678900; omega), (by show slots + 12 + 0 ≤ 7059405; omega)⟩) hS (fun x2 M2 H locs hp2 hW hS => ?_)
    have J2 := LJ_m J1 hp2.2.2
    have hI2 := hI
    have hP2 := hP
    have eT : mI M2 (T + 395) 0 = 1 := by rw [hp2.1, if_pos hc]
    have u0 := J2.2.2.2.2.2.2
    refine lv_istore (lv' := [(6, _), (5, _), (0, _), (1, _), (2, _), (3, _), (4, _)]) hx hb dL_law_505 hl (by decide) rfl (fun ls hl => ?_)
    refine lv_aload_n hx hb dL_law_507 rfl (lv_at hl 4 rfl) ?_
    refine tm_calli (cs_L_61 hx hb hml hown htw hK hW J2.2.2.2.2.1.1.1 (c_X9_thrown J2.2.2.2.2.1.1.1) ⟨rfl, rfl, Nat.le_of_ble_eq_true rfl, Nat.le_of_ble_eq_true rfl⟩ hl.1 (Nat.le_of_ble_eq_true rfl) dL_law_508 ⟨(by show cells + 2 + 0 + 0 ≤ 678900; omega), (by show slots + 12 + 0 + 0 ≤ 7059405; omega)⟩) hS (fun x3 M3 H locs hp3 hW hS => ?_)
    obtain ⟨ex3, eM3⟩ := hp3
    rw [eM3] at hW
    rw [ex3]
    refine lv_iload hx hb dL_law_511 (lv_at hl 1 rfl) ?_
    refine ti_icmp_same (tgt := 518) hx hb dL_law_513 (by decide) eT ?_
    refine lv_iload hx hb dL_law_518 (lv_at hl 1 rfl) ?_
    refine ti_if_ne (tgt := 535) hx hb dL_law_520 (by decide) (by omega) (fun h520 => ?_) (fun h520 => ?_)
    · refine lv_goto (tgt := 743) hx hb dL_law_535 (by decide) ?_
      exact w_up (by omega) (by omega) (kk _ _ _ _ _ _ _ ⟨J2, hI2, hP2, hW, hS, lv_sub hl [2, 3, 4, 5, 6] rfl⟩)
    · exact absurd h520 (by decide)
  · refine lv_istore (lv' := [(5, _), (0, _), (1, _), (2, _), (3, _), (4, _)]) hx hb dL_law_493 hl (by decide) rfl (fun ls hl => ?_)
    refine lv_aload_n hx hb dL_law_495 rfl (lv_at hl 3 rfl) ?_
    refine lv_aload_n hx hb dL_law_496 rfl (lv_at hl 1 rfl) ?_
    refine lv_iload hx hb dL_law_497 (lv_at hl 5 rfl) ?_
    refine ti_iconst hx hb dL_law_499 ?_
    refine ti_iadd hx hb dL_law_500 ?_
    refine lw_ld hx hb hX hbl hS (by omega) (by omega) hL hwe dL_law_501 ?_
    refine tm_calli (cs_L_90 hx hb hml hown htw hK hW J1.2.2.2.2.1.1.1 (c_X9_line J1.2.2.2.2.1 hI hw) ⟨rfl, rfl, Nat.le_of_ble_eq_true rfl, Nat.le_of_ble_eq_true rfl⟩ hl.1 (Nat.le_of_ble_eq_true rfl) dL_law_502 ⟨(by show cells + 2 + 0 ≤ 678900; omega), (by show slots + 12 + 0 ≤ 7059405; omega)⟩) hS (fun x2 M2 H locs hp2 hW hS => ?_)
    have J2 := LJ_m J1 hp2.2.2
    have hI2 := hI
    have hP2 := hP
    have eT : mI M2 (T + 395) 0 = 2 := by rw [hp2.1, if_neg (fun q => q hc.1), if_pos hc.2]
    have u0 := J2.2.2.2.2.2.2
    refine lv_istore (lv' := [(6, _), (5, _), (0, _), (1, _), (2, _), (3, _), (4, _)]) hx hb dL_law_505 hl (by decide) rfl (fun ls hl => ?_)
    refine lv_aload_n hx hb dL_law_507 rfl (lv_at hl 4 rfl) ?_
    refine tm_calli (cs_L_61 hx hb hml hown htw hK hW J2.2.2.2.2.1.1.1 (c_X9_thrown J2.2.2.2.2.1.1.1) ⟨rfl, rfl, Nat.le_of_ble_eq_true rfl, Nat.le_of_ble_eq_true rfl⟩ hl.1 (Nat.le_of_ble_eq_true rfl) dL_law_508 ⟨(by show cells + 2 + 0 + 0 ≤ 678900; omega), (by show slots + 12 + 0 + 0 ≤ 7059405; omega)⟩) hS (fun x3 M3 H locs hp3 hW hS => ?_)
    obtain ⟨ex3, eM3⟩ := hp3
    rw [eM3] at hW
    rw [ex3]
    refine lv_iload hx hb dL_law_511 (lv_at hl 1 rfl) ?_
    refine ti_icmp_same (tgt := 518) hx hb dL_law_513 (by decide) eT ?_
    refine lv_iload hx hb dL_law_518 (lv_at hl 1 rfl) ?_
    refine ti_if_ne (tgt := 535) hx hb dL_law_520 (by decide) (by omega) (fun h520 => ?_) (fun h520 => ?_)
    · refine lv_goto (tgt := 743) hx hb dL_law_535 (by decide) ?_
      exact w_up (by omega) (by omega) (kk _ _ _ _ _ _ _ ⟨J2, hI2, hP2, hW, hS, lv_sub hl [2, 3, 4, 5, 6] rfl⟩)
    · exact absurd h520 (by decide)
set_option maxHeartbeats 1000000 in
/-- solutions -/
theorem lw_k9 {p : Program} {l : Launch} {e : Env} {s : State} {m : MethodId} {below : List Frame} {meth : Method} {c : Code} {H : Heap} {locs : List Loc} {cells slots : Nat} {Q : State → Prop} {ls : Array Slot} {G : tm_G} {sh : tm_sh} {M : tm_M} {T b L : Nat} {xs : Nat → Int32} {i : Int} {z : tl_Z} {px : List Int} (F : lw_Fx p l s m c b L xs G) (I : lw_J s G sh M T b i z px H locs ls) (hi : 0 ≤ i ∧ i + 2 < (L : Int)) (hf : cells + 21 ≤ 678900 ∧ slots + 8006 ≤ 7059405) (kk : ∀ (sh1 : tm_sh) (M1 : tm_M) (z1 : tl_Z) (px1 : List Int) (H1 : Heap) (locs1 : List Loc) (ls1 : Array Slot), lw_J s G sh1 M1 T b i z1 px1 H1 locs1 ls1 → W p l e room_1 s m #[Value.ref b] below meth c H1 locs1 (cells + 21) (slots + 8006) Q (F0 m 743 ls1 [])) : W p l e room_1 s m #[Value.ref b] below meth c H locs cells slots Q (F0 m 538 ls []) := by
  obtain ⟨hx, hb, hml, hown, htw, hK, hC, hN, h9, hX, hbl, hL⟩ := F
  obtain ⟨J, hI, hP, hW, hS, hl⟩ := I
  obtain ⟨w, hwe⟩ : ∃ w, (xs (i + 1).toNat).toInt = w := ⟨_, rfl⟩
  have hw : inI w := by rw [← hwe]; exact w_in _
  refine lv_aload_n hx hb dL_law_538 rfl (lv_at hl 1 rfl) ?_
  refine lv_aload_n hx hb dL_law_539 rfl (lv_at hl 0 rfl) ?_
  refine lv_iload hx hb dL_law_540 (lv_at hl 4 rfl) ?_
  refine ti_iconst hx hb dL_law_542 ?_
  refine ti_iadd hx hb dL_law_543 ?_
  refine lw_ld hx hb hX hbl hS (by omega) (by omega) hL hwe dL_law_544 ?_
  refine lv_aload_n hx hb dL_law_545 rfl (lv_at hl 3 rfl) ?_
  refine tm_calli (cl_L_91 hx hb hml hown htw hK hW hC hN hS rfl (c_L_solutions h9 J hI hw) ⟨rfl, rfl, Nat.le_of_ble_eq_true rfl, Nat.le_of_ble_eq_true rfl⟩ hl.1 (Nat.le_of_ble_eq_true rfl) dL_law_546 ⟨(by show cells + 2 ≤ 678900; omega), (by show slots + 12 ≤ 7059405; omega)⟩) hS (fun x1 M1 H locs hp1 hW hS => ?_)
  rcases hp1 with ⟨rfl, hc, J1, eU⟩ | ⟨rfl, hc, J1⟩ | ⟨rfl, hc, J1⟩
  · refine lv_istore (lv' := [(5, _), (0, _), (1, _), (2, _), (3, _), (4, _)]) hx hb dL_law_549 hl (by decide) rfl (fun ls hl => ?_)
    refine lv_aload_n hx hb dL_law_551 rfl (lv_at hl 3 rfl) ?_
    refine lv_aload_n hx hb dL_law_552 rfl (lv_at hl 1 rfl) ?_
    refine lv_iload hx hb dL_law_553 (lv_at hl 5 rfl) ?_
    refine ti_iconst hx hb dL_law_555 ?_
    refine ti_iadd hx hb dL_law_556 ?_
    refine lw_ld hx hb hX hbl hS (by omega) (by omega) hL hwe dL_law_557 ?_
    refine tm_calll (cs_L_93 hx hb hml hown htw hK hW J1.2.2.2.2.1.1.1 (c_X9_solutions J1.2.2.2.2.1 hI hw) ⟨rfl, rfl, Nat.le_of_ble_eq_true rfl, Nat.le_of_ble_eq_true rfl⟩ hl.1 (Nat.le_of_ble_eq_true rfl) dL_law_558 ⟨(by show cells + 2 + 0 ≤ 678900; omega), (by show slots + 12 + 0 ≤ 7059405; omega)⟩) hS (fun x2 M2 H locs hp2 hW hS => ?_)
    have J2 := LJ_m J1 hp2.2.2
    have hI2 := hI
    have hP2 := hP
    have eT : mI M2 (T + 395) 0 = 0 := by rw [hp2.1, if_neg (fun q => q hc.1), if_neg (by omega)]
    have u0 := J2.2.2.2.2.2.2
    have ex2 := hp2.2.1 hc.1 hc.2
    have eU2 := ((hp2.2.2).2.2 (T + 408) 0 (by unfold mY; omega)).2.trans eU
    refine lv_lstore (lv' := [(6, _), (5, _), (0, _), (1, _), (2, _), (3, _), (4, _)]) hx hb dL_law_561 hl (by decide) rfl (fun ls hl => ?_)
    refine lv_aload_n hx hb dL_law_563 rfl (lv_at hl 4 rfl) ?_
    refine tm_calli (cs_L_61 hx hb hml hown htw hK hW J2.2.2.2.2.1.1.1 (c_X9_thrown J2.2.2.2.2.1.1.1) ⟨rfl, rfl, Nat.le_of_ble_eq_true rfl, Nat.le_of_ble_eq_true rfl⟩ hl.1 (Nat.le_of_ble_eq_true rfl) dL_law_564 ⟨(by show cells + 2 + 0 + 0 ≤ 678900; omega), (by show slots + 12 + 0 + 0 ≤ 7059405; omega)⟩) hS (fun x3 M3 H locs hp3 hW hS => ?_)
    obtain ⟨ex3, eM3⟩ := hp3
    rw [eM3] at hW
    rw [ex3]
    refine lv_iload hx hb dL_law_567 (lv_at hl 1 rfl) ?_
    refine ti_icmp_same (tgt := 574) hx hb dL_law_569 (by decide) eT ?_
    refine lv_iload hx hb dL_law_574 (lv_at hl 1 rfl) ?_
    refine ti_if_ne (tgt := 590) hx hb dL_law_576 (by decide) (by omega) (fun h576 => ?_) (fun h576 => ?_)
    · exact absurd rfl h576
    · refine lv_aload_n hx hb dL_law_579 rfl (lv_at hl 5 rfl) ?_
      refine ti_iconst hx hb dL_law_580 ?_
      refine tm_lald hx hb hK hW u0 (by omega) (by omega) (by decide) dL_law_581 ?_
      refine lv_lload hx hb dL_law_582 (lv_at hl 0 rfl) ?_
      refine ti_lcmp_same (tgt := 590) hx hb dL_law_584 dL_law_585 (by decide) (eU2.trans ex2.symm) ?_
      refine lv_goto (tgt := 743) hx hb dL_law_590 (by decide) ?_
      exact w_up (by omega) (by omega) (kk _ _ _ _ _ _ _ ⟨J2, hI2, hP2, hW, hS, lv_sub hl [2, 3, 4, 5, 6] rfl⟩)
  · refine lv_istore (lv' := [(5, _), (0, _), (1, _), (2, _), (3, _), (4, _)]) hx hb dL_law_549 hl (by decide) rfl (fun ls hl => ?_)
    refine lv_aload_n hx hb dL_law_551 rfl (lv_at hl 3 rfl) ?_
    refine lv_aload_n hx hb dL_law_552 rfl (lv_at hl 1 rfl) ?_
    refine lv_iload hx hb dL_law_553 (lv_at hl 5 rfl) ?_
    refine ti_iconst hx hb dL_law_555 ?_
    refine ti_iadd hx hb dL_law_556 ?_
    refine lw_ld hx hb hX hbl hS (by omega) (by omega) hL hwe dL_law_557 ?_
    refine tm_calll (cs_L_93 hx hb hml hown htw hK hW J1.2.2.2.2.1.1.1 (c_X9_solutions J1.2.2.2.2.1 hI hw) ⟨rfl, rfl, Nat.le_of_ble_eq_true rfl, Nat.le_of_ble_eq_true rfl⟩ hl.1 (Nat.le_of_ble_eq_true rfl) dL_law_558 ⟨(by show cells + 2 + 0 ≤ 678900; omega), (by show slots + 12 + 0 ≤ 7059405; omega)⟩) hS (fun x2 M2 H locs hp2 hW hS => ?_)
    have J2 := LJ_m J1 hp2.2.2
    have hI2 := hI
    have hP2 := hP
    have eT : mI M2 (T + 395) 0 = 1 := by rw [hp2.1, if_pos hc]
    have u0 := J2.2.2.2.2.2.2
    refine lv_lstore (lv' := [(6, _), (5, _), (0, _), (1, _), (2, _), (3, _), (4, _)]) hx hb dL_law_561 hl (by decide) rfl (fun ls hl => ?_)
    refine lv_aload_n hx hb dL_law_563 rfl (lv_at hl 4 rfl) ?_
    refine tm_calli (cs_L_61 hx hb hml hown htw hK hW J2.2.2.2.2.1.1.1 (c_X9_thrown J2.2.2.2.2.1.1.1) ⟨rfl, rfl, Nat.le_of_ble_eq_true rfl, Nat.le_of_ble_eq_true rfl⟩ hl.1 (Nat.le_of_ble_eq_true rfl) dL_law_564 ⟨(by show cells + 2 + 0 + 0 ≤ 678900; omega), (by show slots + 12 + 0 + 0 ≤ 7059405; omega)⟩) hS (fun x3 M3 H locs hp3 hW hS => ?_)
    obtain ⟨ex3, eM3⟩ := hp3
    rw [eM3] at hW
    rw [ex3]
    refine lv_iload hx hb dL_law_567 (lv_at hl 1 rfl) ?_
    refine ti_icmp_same (tgt := 574) hx hb dL_law_569 (by decide) eT ?_
    refine lv_iload hx hb dL_law_574 (lv_at hl 1 rfl) ?_
    refine ti_if_ne (tgt := 590) hx hb dL_law_576 (by decide) (by omega) (fun h576 => ?_) (fun h576 => ?_)
    · refine lv_goto (tgt := 743) hx hb dL_law_590 (by decide) ?_
      exact w_up (by omega) (by omega) (kk _ _ _ _ _ _ _ ⟨J2, hI2, hP2, hW, hS, lv_sub hl [2, 3, 4, 5, 6] rfl⟩)
    · exact absurd h576 (by decide)
  · refine lv_istore (lv' := [(5, _), (0, _), (1, _), (2, _), (3, _), (4, _)]) hx hb dL_law_549 hl (by decide) rfl (fun ls hl => ?_)
    refine lv_aload_n hx hb dL_law_551 rfl (lv_at hl 3 rfl) ?_
    refine lv_aload_n hx hb dL_law_552 rfl (lv_at hl 1 rfl) ?_
    refine lv_iload hx hb dL_law_553 (lv_at hl 5 rfl) ?_
    refine ti_iconst hx hb dL_law_555 ?_
    refine ti_iadd hx hb dL_law_556 ?_
    refine lw_ld hx hb hX hbl hS (by omega) (by omega) hL hwe dL_law_557 ?_
    refine tm_calll (cs_L_93 hx hb hml hown htw hK hW J1.2.2.2.2.1.1.1 (c_X9_solutions J1.2.2.2.2.1 hI hw) ⟨rfl, rfl, Nat.le_of_ble_eq_true rfl, Nat.le_of_ble_eq_true rfl⟩ hl.1 (Nat.le_of_ble_eq_true rfl) dL_law_558 ⟨(by show cells + 2 + 0 ≤ 678900; omega), (by show slots + 12 + 0 ≤ 7059405; omega)⟩) hS (fun x2 M2 H locs hp2 hW hS => ?_)
    have J2 := LJ_m J1 hp2.2.2
    have hI2 := hI
    have hP2 := hP
    have eT : mI M2 (T + 395) 0 = 2 := by rw [hp2.1, if_neg (fun q => q hc.1), if_pos hc.2]
    have u0 := J2.2.2.2.2.2.2
    refine lv_lstore (lv' := [(6, _), (5, _), (0, _), (1, _), (2, _), (3, _), (4, _)]) hx hb dL_law_561 hl (by decide) rfl (fun ls hl => ?_)
    refine lv_aload_n hx hb dL_law_563 rfl (lv_at hl 4 rfl) ?_
    refine tm_calli (cs_L_61 hx hb hml hown htw hK hW J2.2.2.2.2.1.1.1 (c_X9_thrown J2.2.2.2.2.1.1.1) ⟨rfl, rfl, Nat.le_of_ble_eq_true rfl, Nat.le_of_ble_eq_true rfl⟩ hl.1 (Nat.le_of_ble_eq_true rfl) dL_law_564 ⟨(by show cells + 2 + 0 + 0 ≤ 678900; omega), (by show slots + 12 + 0 + 0 ≤ 7059405; omega)⟩) hS (fun x3 M3 H locs hp3 hW hS => ?_)
    obtain ⟨ex3, eM3⟩ := hp3
    rw [eM3] at hW
    rw [ex3]
    refine lv_iload hx hb dL_law_567 (lv_at hl 1 rfl) ?_
    refine ti_icmp_same (tgt := 574) hx hb dL_law_569 (by decide) eT ?_
    refine lv_iload hx hb dL_law_574 (lv_at hl 1 rfl) ?_
    refine ti_if_ne (tgt := 590) hx hb dL_law_576 (by decide) (by omega) (fun h576 => ?_) (fun h576 => ?_)
    · refine lv_goto (tgt := 743) hx hb dL_law_590 (by decide) ?_
      exact w_up (by omega) (by omega) (kk _ _ _ _ _ _ _ ⟨J2, hI2, hP2, hW, hS, lv_sub hl [2, 3, 4, 5, 6] rfl⟩)
    · exact absurd h576 (by decide)
set_option maxHeartbeats 1000000 in
/-- print -/
theorem lw_k10 {p : Program} {l : Launch} {e : Env} {s : State} {m : MethodId} {below : List Frame} {meth : Method} {c : Code} {H : Heap} {locs : List Loc} {cells slots : Nat} {Q : State → Prop} {ls : Array Slot} {G : tm_G} {sh : tm_sh} {M : tm_M} {T b L : Nat} {xs : Nat → Int32} {i : Int} {z : tl_Z} {px : List Int} (F : lw_Fx p l s m c b L xs G) (I : lw_J s G sh M T b i z px H locs ls) (hi : 0 ≤ i ∧ i + 2 < (L : Int)) (hf : cells + 21 ≤ 678900 ∧ slots + 8006 ≤ 7059405) (kk : ∀ (sh1 : tm_sh) (M1 : tm_M) (z1 : tl_Z) (px1 : List Int) (H1 : Heap) (locs1 : List Loc) (ls1 : Array Slot), lw_J s G sh1 M1 T b i z1 px1 H1 locs1 ls1 → W p l e room_1 s m #[Value.ref b] below meth c H1 locs1 (cells + 21) (slots + 8006) Q (F0 m 743 ls1 [])) : W p l e room_1 s m #[Value.ref b] below meth c H locs cells slots Q (F0 m 593 ls []) := by
  obtain ⟨hx, hb, hml, hown, htw, hK, hC, hN, h9, hX, hbl, hL⟩ := F
  obtain ⟨J, hI, hP, hW, hS, hl⟩ := I
  refine lv_aload_n hx hb dL_law_593 rfl (lv_at hl 1 rfl) ?_
  refine lv_aload_n hx hb dL_law_594 rfl (lv_at hl 3 rfl) ?_
  refine tz_calli (cl_L_94 hx hb hml hown htw hK hW hC hN hS rfl (c_L_print h9 J hI) ⟨rfl, rfl, Nat.le_of_ble_eq_true rfl, Nat.le_of_ble_eq_true rfl⟩ hl.1 (Nat.le_of_ble_eq_true rfl) dL_law_595 ⟨(by show cells + 21 ≤ 678900; omega), (by show slots + 8006 ≤ 7059405; omega)⟩) hS (fun x1 sh1 M1 h1 H locs hp1 hW hS hz1 => ?_)
  rcases hp1 with ⟨rfl, hc, J1, eU⟩ | ⟨rfl, hc, J1⟩
  · refine lv_istore (lv' := [(5, _), (0, _), (1, _), (2, _), (3, _), (4, _)]) hx hb dL_law_598 hl (by decide) rfl (fun ls hl => ?_)
    refine lv_aload_n hx hb dL_law_600 rfl (lv_at hl 3 rfl) ?_
    refine tm_calli (cs_L_96 hx hb hml hown htw hK hW J1.2.2.2.2.1.1.1 (c_X9_print J1.2.2.2.2.1 hI J1.2.2.2.2.2.1) ⟨rfl, rfl, Nat.le_of_ble_eq_true rfl, Nat.le_of_ble_eq_true rfl⟩ hl.1 (Nat.le_of_ble_eq_true rfl) dL_law_601 ⟨(by show cells + 21 + 0 ≤ 678900; omega), (by show slots + 8006 + 0 ≤ 7059405; omega)⟩) hS (fun x2 M2 H locs hp2 hW hS => ?_)
    have J2 := LJ_mp J1 hp2.2.1 (hp2.2.2.2.1 hc).2 hp2.2.2.2.2
    have hI2 := hI
    have hP2 := PLt_prt (hI.2.2.1 (zn z - 1) (by omega)).1
    have eT : mI M2 (T + 395) 0 = 0 := by rw [hp2.1]; exact if_neg (by omega)
    have u0 := J2.2.2.2.2.2.2
    have ex2 := (hp2.2.2.2.1 hc).1
    have eU2 := ((hp2.2.2.2.2).2 (T + 408) 0 (by unfold mZ; omega)).2.trans eU
    refine lv_istore (lv' := [(6, _), (5, _), (0, _), (1, _), (2, _), (3, _), (4, _)]) hx hb dL_law_604 hl (by decide) rfl (fun ls hl => ?_)
    refine lv_aload_n hx hb dL_law_606 rfl (lv_at hl 4 rfl) ?_
    refine tm_calli (cs_L_61 hx hb hml hown htw hK hW J2.2.2.2.2.1.1.1 (c_X9_thrown J2.2.2.2.2.1.1.1) ⟨rfl, rfl, Nat.le_of_ble_eq_true rfl, Nat.le_of_ble_eq_true rfl⟩ hl.1 (Nat.le_of_ble_eq_true rfl) dL_law_607 ⟨(by show cells + 21 + 0 + 0 ≤ 678900; omega), (by show slots + 8006 + 0 + 0 ≤ 7059405; omega)⟩) hS (fun x3 M3 H locs hp3 hW hS => ?_)
    obtain ⟨ex3, eM3⟩ := hp3
    rw [eM3] at hW
    rw [ex3]
    refine lv_iload hx hb dL_law_610 (lv_at hl 1 rfl) ?_
    refine ti_icmp_same (tgt := 617) hx hb dL_law_612 (by decide) eT ?_
    refine lv_iload hx hb dL_law_617 (lv_at hl 1 rfl) ?_
    refine ti_if_ne (tgt := 634) hx hb dL_law_619 (by decide) (by omega) (fun h619 => ?_) (fun h619 => ?_)
    · exact absurd rfl h619
    · refine lv_aload_n hx hb dL_law_622 rfl (lv_at hl 5 rfl) ?_
      refine ti_iconst hx hb dL_law_623 ?_
      refine tm_lald hx hb hK hW u0 (by omega) (by omega) (by decide) dL_law_624 ?_
      refine lv_iload hx hb dL_law_625 (lv_at hl 0 rfl) ?_
      refine ti_i2lw hx hb dL_law_627 ?_
      refine ti_lcmp_same (tgt := 634) hx hb dL_law_628 dL_law_629 (by decide) (eU2.trans (congrArg w32 ex2).symm) ?_
      refine lv_goto (tgt := 743) hx hb dL_law_634 (by decide) ?_
      exact w_up (by omega) (by omega) (kk _ _ _ _ _ _ _ ⟨J2, hI2, hP2, hW, hS, lv_sub hl [2, 3, 4, 5, 6] rfl⟩)
  · refine lv_istore (lv' := [(5, _), (0, _), (1, _), (2, _), (3, _), (4, _)]) hx hb dL_law_598 hl (by decide) rfl (fun ls hl => ?_)
    refine lv_aload_n hx hb dL_law_600 rfl (lv_at hl 3 rfl) ?_
    refine tm_calli (cs_L_96 hx hb hml hown htw hK hW J1.2.2.2.2.1.1.1 (c_X9_print J1.2.2.2.2.1 hI J1.2.2.2.2.2.1) ⟨rfl, rfl, Nat.le_of_ble_eq_true rfl, Nat.le_of_ble_eq_true rfl⟩ hl.1 (Nat.le_of_ble_eq_true rfl) dL_law_601 ⟨(by show cells + 21 + 0 ≤ 678900; omega), (by show slots + 8006 + 0 ≤ 7059405; omega)⟩) hS (fun x2 M2 H locs hp2 hW hS => ?_)
    have J2 := LJ_mp J1 hp2.2.1 (hp2.2.2.1 hc) hp2.2.2.2.2
    have hI2 := hI
    have hP2 := hP
    have eT : mI M2 (T + 395) 0 = 1 := by rw [hp2.1]; exact if_pos hc
    have u0 := J2.2.2.2.2.2.2
    refine lv_istore (lv' := [(6, _), (5, _), (0, _), (1, _), (2, _), (3, _), (4, _)]) hx hb dL_law_604 hl (by decide) rfl (fun ls hl => ?_)
    refine lv_aload_n hx hb dL_law_606 rfl (lv_at hl 4 rfl) ?_
    refine tm_calli (cs_L_61 hx hb hml hown htw hK hW J2.2.2.2.2.1.1.1 (c_X9_thrown J2.2.2.2.2.1.1.1) ⟨rfl, rfl, Nat.le_of_ble_eq_true rfl, Nat.le_of_ble_eq_true rfl⟩ hl.1 (Nat.le_of_ble_eq_true rfl) dL_law_607 ⟨(by show cells + 21 + 0 + 0 ≤ 678900; omega), (by show slots + 8006 + 0 + 0 ≤ 7059405; omega)⟩) hS (fun x3 M3 H locs hp3 hW hS => ?_)
    obtain ⟨ex3, eM3⟩ := hp3
    rw [eM3] at hW
    rw [ex3]
    refine lv_iload hx hb dL_law_610 (lv_at hl 1 rfl) ?_
    refine ti_icmp_same (tgt := 617) hx hb dL_law_612 (by decide) eT ?_
    refine lv_iload hx hb dL_law_617 (lv_at hl 1 rfl) ?_
    refine ti_if_ne (tgt := 634) hx hb dL_law_619 (by decide) (by omega) (fun h619 => ?_) (fun h619 => ?_)
    · refine lv_goto (tgt := 743) hx hb dL_law_634 (by decide) ?_
      exact w_up (by omega) (by omega) (kk _ _ _ _ _ _ _ ⟨J2, hI2, hP2, hW, hS, lv_sub hl [2, 3, 4, 5, 6] rfl⟩)
    · exact absurd h619 (by decide)
set_option maxHeartbeats 1000000 in
/-- printed -/
theorem lw_k11 {p : Program} {l : Launch} {e : Env} {s : State} {m : MethodId} {below : List Frame} {meth : Method} {c : Code} {H : Heap} {locs : List Loc} {cells slots : Nat} {Q : State → Prop} {ls : Array Slot} {G : tm_G} {sh : tm_sh} {M : tm_M} {T b L : Nat} {xs : Nat → Int32} {i : Int} {z : tl_Z} {px : List Int} (F : lw_Fx p l s m c b L xs G) (I : lw_J s G sh M T b i z px H locs ls) (hi : 0 ≤ i ∧ i + 2 < (L : Int)) (hf : cells + 21 ≤ 678900 ∧ slots + 8006 ≤ 7059405) (kk : ∀ (sh1 : tm_sh) (M1 : tm_M) (z1 : tl_Z) (px1 : List Int) (H1 : Heap) (locs1 : List Loc) (ls1 : Array Slot), lw_J s G sh1 M1 T b i z1 px1 H1 locs1 ls1 → W p l e room_1 s m #[Value.ref b] below meth c H1 locs1 (cells + 21) (slots + 8006) Q (F0 m 743 ls1 [])) : W p l e room_1 s m #[Value.ref b] below meth c H locs cells slots Q (F0 m 637 ls []) := by
  obtain ⟨hx, hb, hml, hown, htw, hK, hC, hN, h9, hX, hbl, hL⟩ := F
  obtain ⟨J, hI, hP, hW, hS, hl⟩ := I
  obtain ⟨w, hwe⟩ : ∃ w, (xs (i + 1).toNat).toInt = w := ⟨_, rfl⟩
  have hw : inI w := by rw [← hwe]; exact w_in _
  obtain ⟨V, cap, s1, -⟩ := J.2.2.2.1
  refine lv_aload_n hx hb dL_law_637 rfl (lv_at hl 1 rfl) ?_
  refine lv_aload_n hx hb dL_law_638 rfl (lv_at hl 0 rfl) ?_
  refine lv_iload hx hb dL_law_639 (lv_at hl 4 rfl) ?_
  refine ti_iconst hx hb dL_law_641 ?_
  refine ti_iadd hx hb dL_law_642 ?_
  refine lw_ld hx hb hX hbl hS (by omega) (by omega) hL hwe dL_law_643 ?_
  refine tm_calli (cs_L_97 hx hb hml hown htw hK hW hC hS rfl J.1.1 (c_X8_printed J.1 J.2.2.1 s1 hw hP) ⟨rfl, rfl, Nat.le_of_ble_eq_true rfl, Nat.le_of_ble_eq_true rfl⟩ hl.1 (Nat.le_of_ble_eq_true rfl) dL_law_644 ⟨(by show cells + 0 ≤ 678900; omega), (by show slots + 0 ≤ 7059405; omega)⟩) hS (fun x1 M1 H locs hp1 hW hS => ?_)
  obtain ⟨ex1, eM1⟩ := hp1
  rw [eM1] at hW
  refine lv_aload_n hx hb dL_law_647 rfl (lv_at hl 2 rfl) ?_
  refine lv_aload_n hx hb dL_law_648 rfl (lv_at hl 0 rfl) ?_
  refine lv_iload hx hb dL_law_649 (lv_at hl 4 rfl) ?_
  refine ti_iconst hx hb dL_law_651 ?_
  refine ti_iadd hx hb dL_law_652 ?_
  refine lw_ld hx hb hX hbl hS (by omega) (by omega) hL hwe dL_law_653 ?_
  refine tm_calli (cs_L_100 hx hb hml hown htw hK hW J.2.2.2.2.1.1.1 (c_X9_printed J.2.2.2.2.1 hI J.2.2.2.2.2.1 hw hP.1) ⟨rfl, rfl, Nat.le_of_ble_eq_true rfl, Nat.le_of_ble_eq_true rfl⟩ hl.1 (Nat.le_of_ble_eq_true rfl) dL_law_654 ⟨(by show cells + 0 + 0 ≤ 678900; omega), (by show slots + 0 + 0 ≤ 7059405; omega)⟩) hS (fun x2 M2 H locs hp2 hW hS => ?_)
  obtain ⟨ex2, g2⟩ := hp2
  have J2 := LJ_m J g2
  have hI2 := hI
  have hP2 := hP
  refine ti_icmp_same (tgt := 743) hx hb dL_law_657 (by decide) (ex1.trans ex2.symm) ?_
  exact w_up (by omega) (by omega) (kk _ _ _ _ _ _ _ ⟨J2, hI2, hP2, hW, hS, lv_sub hl [0, 1, 2, 3, 4] rfl⟩)
set_option maxHeartbeats 1000000 in
/-- points -/
theorem lw_k12 {p : Program} {l : Launch} {e : Env} {s : State} {m : MethodId} {below : List Frame} {meth : Method} {c : Code} {H : Heap} {locs : List Loc} {cells slots : Nat} {Q : State → Prop} {ls : Array Slot} {G : tm_G} {sh : tm_sh} {M : tm_M} {T b L : Nat} {xs : Nat → Int32} {i : Int} {z : tl_Z} {px : List Int} (F : lw_Fx p l s m c b L xs G) (I : lw_J s G sh M T b i z px H locs ls) (hi : 0 ≤ i ∧ i + 2 < (L : Int)) (hf : cells + 21 ≤ 678900 ∧ slots + 8006 ≤ 7059405) (kk : ∀ (sh1 : tm_sh) (M1 : tm_M) (z1 : tl_Z) (px1 : List Int) (H1 : Heap) (locs1 : List Loc) (ls1 : Array Slot), lw_J s G sh1 M1 T b i z1 px1 H1 locs1 ls1 → W p l e room_1 s m #[Value.ref b] below meth c H1 locs1 (cells + 21) (slots + 8006) Q (F0 m 743 ls1 [])) : W p l e room_1 s m #[Value.ref b] below meth c H locs cells slots Q (F0 m 662 ls []) := by
  obtain ⟨hx, hb, hml, hown, htw, hK, hC, hN, h9, hX, hbl, hL⟩ := F
  obtain ⟨J, hI, hP, hW, hS, hl⟩ := I
  obtain ⟨w, hwe⟩ : ∃ w, (xs (i + 1).toNat).toInt = w := ⟨_, rfl⟩
  have hw : inI w := by rw [← hwe]; exact w_in _
  refine lv_aload_n hx hb dL_law_662 rfl (lv_at hl 1 rfl) ?_
  refine lv_aload_n hx hb dL_law_663 rfl (lv_at hl 0 rfl) ?_
  refine lv_iload hx hb dL_law_664 (lv_at hl 4 rfl) ?_
  refine ti_iconst hx hb dL_law_666 ?_
  refine ti_iadd hx hb dL_law_667 ?_
  refine lw_ld hx hb hX hbl hS (by omega) (by omega) hL hwe dL_law_668 ?_
  refine lv_aload_n hx hb dL_law_669 rfl (lv_at hl 3 rfl) ?_
  refine tm_calli (cl_L_101 hx hb hml hown htw hK hW hC hN hS rfl (c_L_points h9 J hI hw) ⟨rfl, rfl, Nat.le_of_ble_eq_true rfl, Nat.le_of_ble_eq_true rfl⟩ hl.1 (Nat.le_of_ble_eq_true rfl) dL_law_670 ⟨(by show cells + 1 ≤ 678900; omega), (by show slots + 6 ≤ 7059405; omega)⟩) hS (fun x1 M1 H locs hp1 hW hS => ?_)
  rcases hp1 with ⟨rfl, hc, J1, eU⟩ | ⟨rfl, hc, J1⟩
  · refine lv_istore (lv' := [(5, _), (0, _), (1, _), (2, _), (3, _), (4, _)]) hx hb dL_law_673 hl (by decide) rfl (fun ls hl => ?_)
    refine lv_aload_n hx hb dL_law_675 rfl (lv_at hl 3 rfl) ?_
    refine lv_aload_n hx hb dL_law_676 rfl (lv_at hl 1 rfl) ?_
    refine lv_iload hx hb dL_law_677 (lv_at hl 5 rfl) ?_
    refine ti_iconst hx hb dL_law_679 ?_
    refine ti_iadd hx hb dL_law_680 ?_
    refine lw_ld hx hb hX hbl hS (by omega) (by omega) hL hwe dL_law_681 ?_
    refine tm_calli (cs_L_103 hx hb hml hown htw hK hW J1.2.2.2.2.1.1.1 (c_X9_points J1.2.2.2.2.1 hI hw) ⟨rfl, rfl, Nat.le_of_ble_eq_true rfl, Nat.le_of_ble_eq_true rfl⟩ hl.1 (Nat.le_of_ble_eq_true rfl) dL_law_682 ⟨(by show cells + 1 + 0 ≤ 678900; omega), (by show slots + 6 + 0 ≤ 7059405; omega)⟩) hS (fun x2 M2 H locs hp2 hW hS => ?_)
    have J2 := LJ_m J1 hp2.2.2
    have hI2 := hI
    have hP2 := hP
    have eT : mI M2 (T + 395) 0 = 0 := by rw [hp2.1]; exact if_neg (fun q => q hc)
    have u0 := J2.2.2.2.2.2.2
    have ex2 := hp2.2.1 hc
    have eU2 := ((hp2.2.2).2.2 (T + 408) 0 (by unfold mY; omega)).2.trans eU
    refine lv_istore (lv' := [(6, _), (5, _), (0, _), (1, _), (2, _), (3, _), (4, _)]) hx hb dL_law_685 hl (by decide) rfl (fun ls hl => ?_)
    refine lv_aload_n hx hb dL_law_687 rfl (lv_at hl 4 rfl) ?_
    refine tm_calli (cs_L_61 hx hb hml hown htw hK hW J2.2.2.2.2.1.1.1 (c_X9_thrown J2.2.2.2.2.1.1.1) ⟨rfl, rfl, Nat.le_of_ble_eq_true rfl, Nat.le_of_ble_eq_true rfl⟩ hl.1 (Nat.le_of_ble_eq_true rfl) dL_law_688 ⟨(by show cells + 1 + 0 + 0 ≤ 678900; omega), (by show slots + 6 + 0 + 0 ≤ 7059405; omega)⟩) hS (fun x3 M3 H locs hp3 hW hS => ?_)
    obtain ⟨ex3, eM3⟩ := hp3
    rw [eM3] at hW
    rw [ex3]
    refine lv_iload hx hb dL_law_691 (lv_at hl 1 rfl) ?_
    refine ti_icmp_same (tgt := 698) hx hb dL_law_693 (by decide) eT ?_
    refine lv_iload hx hb dL_law_698 (lv_at hl 1 rfl) ?_
    refine ti_if_ne (tgt := 715) hx hb dL_law_700 (by decide) (by omega) (fun h700 => ?_) (fun h700 => ?_)
    · exact absurd rfl h700
    · refine lv_aload_n hx hb dL_law_703 rfl (lv_at hl 5 rfl) ?_
      refine ti_iconst hx hb dL_law_704 ?_
      refine tm_lald hx hb hK hW u0 (by omega) (by omega) (by decide) dL_law_705 ?_
      refine lv_iload hx hb dL_law_706 (lv_at hl 0 rfl) ?_
      refine ti_i2lw hx hb dL_law_708 ?_
      refine ti_lcmp_same (tgt := 715) hx hb dL_law_709 dL_law_710 (by decide) (eU2.trans (congrArg w32 ex2).symm) ?_
      refine lv_goto (tgt := 743) hx hb dL_law_715 (by decide) ?_
      exact w_up (by omega) (by omega) (kk _ _ _ _ _ _ _ ⟨J2, hI2, hP2, hW, hS, lv_sub hl [2, 3, 4, 5, 6] rfl⟩)
  · refine lv_istore (lv' := [(5, _), (0, _), (1, _), (2, _), (3, _), (4, _)]) hx hb dL_law_673 hl (by decide) rfl (fun ls hl => ?_)
    refine lv_aload_n hx hb dL_law_675 rfl (lv_at hl 3 rfl) ?_
    refine lv_aload_n hx hb dL_law_676 rfl (lv_at hl 1 rfl) ?_
    refine lv_iload hx hb dL_law_677 (lv_at hl 5 rfl) ?_
    refine ti_iconst hx hb dL_law_679 ?_
    refine ti_iadd hx hb dL_law_680 ?_
    refine lw_ld hx hb hX hbl hS (by omega) (by omega) hL hwe dL_law_681 ?_
    refine tm_calli (cs_L_103 hx hb hml hown htw hK hW J1.2.2.2.2.1.1.1 (c_X9_points J1.2.2.2.2.1 hI hw) ⟨rfl, rfl, Nat.le_of_ble_eq_true rfl, Nat.le_of_ble_eq_true rfl⟩ hl.1 (Nat.le_of_ble_eq_true rfl) dL_law_682 ⟨(by show cells + 1 + 0 ≤ 678900; omega), (by show slots + 6 + 0 ≤ 7059405; omega)⟩) hS (fun x2 M2 H locs hp2 hW hS => ?_)
    have J2 := LJ_m J1 hp2.2.2
    have hI2 := hI
    have hP2 := hP
    have eT : mI M2 (T + 395) 0 = 1 := by rw [hp2.1]; exact if_pos hc
    have u0 := J2.2.2.2.2.2.2
    refine lv_istore (lv' := [(6, _), (5, _), (0, _), (1, _), (2, _), (3, _), (4, _)]) hx hb dL_law_685 hl (by decide) rfl (fun ls hl => ?_)
    refine lv_aload_n hx hb dL_law_687 rfl (lv_at hl 4 rfl) ?_
    refine tm_calli (cs_L_61 hx hb hml hown htw hK hW J2.2.2.2.2.1.1.1 (c_X9_thrown J2.2.2.2.2.1.1.1) ⟨rfl, rfl, Nat.le_of_ble_eq_true rfl, Nat.le_of_ble_eq_true rfl⟩ hl.1 (Nat.le_of_ble_eq_true rfl) dL_law_688 ⟨(by show cells + 1 + 0 + 0 ≤ 678900; omega), (by show slots + 6 + 0 + 0 ≤ 7059405; omega)⟩) hS (fun x3 M3 H locs hp3 hW hS => ?_)
    obtain ⟨ex3, eM3⟩ := hp3
    rw [eM3] at hW
    rw [ex3]
    refine lv_iload hx hb dL_law_691 (lv_at hl 1 rfl) ?_
    refine ti_icmp_same (tgt := 698) hx hb dL_law_693 (by decide) eT ?_
    refine lv_iload hx hb dL_law_698 (lv_at hl 1 rfl) ?_
    refine ti_if_ne (tgt := 715) hx hb dL_law_700 (by decide) (by omega) (fun h700 => ?_) (fun h700 => ?_)
    · refine lv_goto (tgt := 743) hx hb dL_law_715 (by decide) ?_
      exact w_up (by omega) (by omega) (kk _ _ _ _ _ _ _ ⟨J2, hI2, hP2, hW, hS, lv_sub hl [2, 3, 4, 5, 6] rfl⟩)
    · exact absurd h700 (by decide)
set_option maxHeartbeats 1000000 in
/-- count -/
theorem lw_k13 {p : Program} {l : Launch} {e : Env} {s : State} {m : MethodId} {below : List Frame} {meth : Method} {c : Code} {H : Heap} {locs : List Loc} {cells slots : Nat} {Q : State → Prop} {ls : Array Slot} {G : tm_G} {sh : tm_sh} {M : tm_M} {T b L : Nat} {xs : Nat → Int32} {i : Int} {z : tl_Z} {px : List Int} (F : lw_Fx p l s m c b L xs G) (I : lw_J s G sh M T b i z px H locs ls) (hi : 0 ≤ i ∧ i + 2 < (L : Int)) (hf : cells + 21 ≤ 678900 ∧ slots + 8006 ≤ 7059405) (kk : ∀ (sh1 : tm_sh) (M1 : tm_M) (z1 : tl_Z) (px1 : List Int) (H1 : Heap) (locs1 : List Loc) (ls1 : Array Slot), lw_J s G sh1 M1 T b i z1 px1 H1 locs1 ls1 → W p l e room_1 s m #[Value.ref b] below meth c H1 locs1 (cells + 21) (slots + 8006) Q (F0 m 743 ls1 [])) : W p l e room_1 s m #[Value.ref b] below meth c H locs cells slots Q (F0 m 718 ls []) := by
  obtain ⟨hx, hb, hml, hown, htw, hK, hC, hN, h9, hX, hbl, hL⟩ := F
  obtain ⟨J, hI, hP, hW, hS, hl⟩ := I
  obtain ⟨w, hwe⟩ : ∃ w, (xs (i + 1).toNat).toInt = w := ⟨_, rfl⟩
  have hw : inI w := by rw [← hwe]; exact w_in _
  refine lv_aload_n hx hb dL_law_718 rfl (lv_at hl 1 rfl) ?_
  refine lv_aload_n hx hb dL_law_719 rfl (lv_at hl 0 rfl) ?_
  refine lv_iload hx hb dL_law_720 (lv_at hl 4 rfl) ?_
  refine ti_iconst hx hb dL_law_722 ?_
  refine ti_iadd hx hb dL_law_723 ?_
  refine lw_ld hx hb hX hbl hS (by omega) (by omega) hL hwe dL_law_724 ?_
  refine tm_calli (cs_L_104 hx hb hml hown htw hK hW J.1.1 (c_X8_count J.1 J.2.1 hw) ⟨rfl, rfl, Nat.le_of_ble_eq_true rfl, Nat.le_of_ble_eq_true rfl⟩ hl.1 (Nat.le_of_ble_eq_true rfl) dL_law_725 ⟨(by show cells + 0 ≤ 678900; omega), (by show slots + 0 ≤ 7059405; omega)⟩) hS (fun x1 M1 H locs hp1 hW hS => ?_)
  obtain ⟨ex1, eM1⟩ := hp1
  rw [eM1] at hW
  refine lv_aload_n hx hb dL_law_728 rfl (lv_at hl 2 rfl) ?_
  refine lv_aload_n hx hb dL_law_729 rfl (lv_at hl 0 rfl) ?_
  refine lv_iload hx hb dL_law_730 (lv_at hl 4 rfl) ?_
  refine ti_iconst hx hb dL_law_732 ?_
  refine ti_iadd hx hb dL_law_733 ?_
  refine lw_ld hx hb hX hbl hS (by omega) (by omega) hL hwe dL_law_734 ?_
  refine tm_calli (cs_L_107 hx hb hml hown htw hK hW J.2.2.2.2.1.1.1 (c_X9_count J.2.2.2.2.1 hI hw) ⟨rfl, rfl, Nat.le_of_ble_eq_true rfl, Nat.le_of_ble_eq_true rfl⟩ hl.1 (Nat.le_of_ble_eq_true rfl) dL_law_735 ⟨(by show cells + 0 + 0 ≤ 678900; omega), (by show slots + 0 + 0 ≤ 7059405; omega)⟩) hS (fun x2 M2 H locs hp2 hW hS => ?_)
  obtain ⟨ex2, g2⟩ := hp2
  have J2 := LJ_m J g2
  have hI2 := hI
  have hP2 := hP
  refine ti_icmp_same (tgt := 743) hx hb dL_law_738 (by decide) (ex1.trans ex2.symm) ?_
  exact w_up (by omega) (by omega) (kk _ _ _ _ _ _ _ ⟨J2, hI2, hP2, hW, hS, lv_sub hl [0, 1, 2, 3, 4] rfl⟩)
