/-! TutorLinesModel: solve, solves, isPart (by program: wip/whole/gen/mo3.py) -/
/-- cells that mean nothing between calls: up, low, kind, bound, fits, the rows 42 and 43 -/
def mP (o : Nat) (a k : Nat) : Prop := (a = o ∧ (k = 10 ∨ k = 11 ∨ (25 ≤ k ∧ k ≤ 28))) ∨ (a = o + 2 ∧ 378 ≤ k)
abbrev ms (M : tm_M) (o : Nat) : Int × tl_F := (mI M o 25, (mL M o 26, mL M o 27))
theorem tl_msA {M : tm_M} {o : Nat} {a b kd : Int} : ms (sI (sL (sL M o 26 a) o 27 b) o 25 kd) o = (kd, (a, b)) := by
  show (mI (sI (sL (sL M o 26 a) o 27 b) o 25 kd) o 25, (mL (sL (sL M o 26 a) o 27 b) o 26, mL (sL (sL M o 26 a) o 27 b) o 27)) = _
  rw [show mI (sI (sL (sL M o 26 a) o 27 b) o 25 kd) o 25 = kd from tm_up_s _ _ _ _, show mL (sL (sL M o 26 a) o 27 b) o 26 = a from (tm_up_k _ _ (by decide)).trans (tm_up_s _ _ _ _), show mL (sL (sL M o 26 a) o 27 b) o 27 = b from tm_up_s _ _ _ _]
theorem fq_ms {M : tm_M} {o : Nat} {a b kd : Int} : fq (mP o) M (sI (sL (sL M o 26 a) o 27 b) o 25 kd) := fq_tr (fq_tr (fq_sL (Or.inl ⟨rfl, by omega⟩)) (fq_sL (Or.inl ⟨rfl, by omega⟩))) (fq_sI (Or.inl ⟨rfl, by omega⟩))
theorem fq_mkP {M : tm_M} {o : Nat} {f : tl_F} : fq (mP o) M (mk M o f) := fq_mk (Or.inl ⟨rfl, by omega⟩) (Or.inl ⟨rfl, by omega⟩)
theorem fqP_L {M M1 : tm_M} {o k : Nat} (h : fq (mP o) M M1) (hk : k < 378) : mL M1 (o + 2) k = mL M (o + 2) k := (h.2 _ _ (by unfold mP; omega)).2
theorem tl_solve_0 {v : tl_L} (h : (tl_sl v).1 = 0) : tl_solve v = (tl_tz v.2.2 (tl_pl v).1, (0, 1)) := if_pos h
theorem tl_solve_1 {v : tl_L} (h : ¬ (tl_sl v).1 = 0) : tl_solve v = (if v.2.2 = 0 then 2 else if (v.2.2 = 1 ↔ 0 < (tl_sl v).1) then 3 else 4, fdiv (tl_pl v) (tl_sl v)) := if_neg h
theorem tl_tzA {r x : Int} (h : r = 0) : (x = 0 → 1 = tl_tz r x) ∧ (¬ x = 0 → 0 = tl_tz r x) := by
  unfold tl_tz
  rw [if_neg (by omega), if_neg (by omega)]
  exact ⟨fun q => tl_b_t q, fun q => tl_b_f q⟩
theorem tl_tzB {r x : Int} (h : r = 1) : (0 < x → 1 = tl_tz r x) ∧ (¬ 0 < x → 0 = tl_tz r x) := by
  unfold tl_tz
  rw [if_pos h]
  exact ⟨fun q => tl_b_t q, fun q => tl_b_f q⟩
theorem tl_tzC {r x : Int} (h : r = 2) : (x < 0 → 1 = tl_tz r x) ∧ (¬ x < 0 → 0 = tl_tz r x) := by
  unfold tl_tz
  rw [if_neg (by omega), if_pos h]
  exact ⟨fun q => tl_b_t q, fun q => tl_b_f q⟩
theorem dX9_solve_0 : decode cX9_solve 0 = .ok (.bipush 9, 2) := by decide +kernel
theorem dX9_solve_2 : decode cX9_solve 2 = .ok (.iload_n 1, 1) := by decide +kernel
theorem dX9_solve_3 : decode cX9_solve 3 = .ok (.imul, 1) := by decide +kernel
theorem dX9_solve_4 : decode cX9_solve 4 = .ok (.istore_n 2, 1) := by decide +kernel
theorem dX9_solve_5 : decode cX9_solve 5 = .ok (.aload_n 0, 1) := by decide +kernel
theorem dX9_solve_6 : decode cX9_solve 6 = .ok (.getfield 13, 3) := by decide +kernel
theorem dX9_solve_9 : decode cX9_solve 9 = .ok (.iload_n 2, 1) := by decide +kernel
theorem dX9_solve_10 : decode cX9_solve 10 = .ok (.bipush 8, 2) := by decide +kernel
theorem dX9_solve_12 : decode cX9_solve 12 = .ok (.iadd, 1) := by decide +kernel
theorem dX9_solve_13 : decode cX9_solve 13 = .ok (.laload, 1) := by decide +kernel
theorem dX9_solve_14 : decode cX9_solve 14 = .ok (.lstore_n 3, 1) := by decide +kernel
theorem dX9_solve_15 : decode cX9_solve 15 = .ok (.aload_n 0, 1) := by decide +kernel
theorem dX9_solve_16 : decode cX9_solve 16 = .ok (.aload_n 0, 1) := by decide +kernel
theorem dX9_solve_17 : decode cX9_solve 17 = .ok (.getfield 13, 3) := by decide +kernel
theorem dX9_solve_20 : decode cX9_solve 20 = .ok (.iload_n 2, 1) := by decide +kernel
theorem dX9_solve_21 : decode cX9_solve 21 = .ok (.laload, 1) := by decide +kernel
theorem dX9_solve_22 : decode cX9_solve 22 = .ok (.aload_n 0, 1) := by decide +kernel
theorem dX9_solve_23 : decode cX9_solve 23 = .ok (.getfield 13, 3) := by decide +kernel
theorem dX9_solve_26 : decode cX9_solve 26 = .ok (.iload_n 2, 1) := by decide +kernel
theorem dX9_solve_27 : decode cX9_solve 27 = .ok (.iconst 5, 1) := by decide +kernel
theorem dX9_solve_28 : decode cX9_solve 28 = .ok (.iadd, 1) := by decide +kernel
theorem dX9_solve_29 : decode cX9_solve 29 = .ok (.laload, 1) := by decide +kernel
theorem dX9_solve_30 : decode cX9_solve 30 = .ok (.lmul, 1) := by decide +kernel
theorem dX9_solve_31 : decode cX9_solve 31 = .ok (.aload_n 0, 1) := by decide +kernel
theorem dX9_solve_32 : decode cX9_solve 32 = .ok (.getfield 13, 3) := by decide +kernel
theorem dX9_solve_35 : decode cX9_solve 35 = .ok (.iload_n 2, 1) := by decide +kernel
theorem dX9_solve_36 : decode cX9_solve 36 = .ok (.iconst 4, 1) := by decide +kernel
theorem dX9_solve_37 : decode cX9_solve 37 = .ok (.iadd, 1) := by decide +kernel
theorem dX9_solve_38 : decode cX9_solve 38 = .ok (.laload, 1) := by decide +kernel
theorem dX9_solve_39 : decode cX9_solve 39 = .ok (.aload_n 0, 1) := by decide +kernel
theorem dX9_solve_40 : decode cX9_solve 40 = .ok (.getfield 13, 3) := by decide +kernel
theorem dX9_solve_43 : decode cX9_solve 43 = .ok (.iload_n 2, 1) := by decide +kernel
theorem dX9_solve_44 : decode cX9_solve 44 = .ok (.iconst 1, 1) := by decide +kernel
theorem dX9_solve_45 : decode cX9_solve 45 = .ok (.iadd, 1) := by decide +kernel
theorem dX9_solve_46 : decode cX9_solve 46 = .ok (.laload, 1) := by decide +kernel
theorem dX9_solve_47 : decode cX9_solve 47 = .ok (.lmul, 1) := by decide +kernel
theorem dX9_solve_48 : decode cX9_solve 48 = .ok (.lsub, 1) := by decide +kernel
theorem dX9_solve_49 : decode cX9_solve 49 = .ok (.aload_n 0, 1) := by decide +kernel
theorem dX9_solve_50 : decode cX9_solve 50 = .ok (.getfield 13, 3) := by decide +kernel
theorem dX9_solve_53 : decode cX9_solve 53 = .ok (.iload_n 2, 1) := by decide +kernel
theorem dX9_solve_54 : decode cX9_solve 54 = .ok (.iconst 1, 1) := by decide +kernel
theorem dX9_solve_55 : decode cX9_solve 55 = .ok (.iadd, 1) := by decide +kernel
theorem dX9_solve_56 : decode cX9_solve 56 = .ok (.laload, 1) := by decide +kernel
theorem dX9_solve_57 : decode cX9_solve 57 = .ok (.aload_n 0, 1) := by decide +kernel
theorem dX9_solve_58 : decode cX9_solve 58 = .ok (.getfield 13, 3) := by decide +kernel
theorem dX9_solve_61 : decode cX9_solve 61 = .ok (.iload_n 2, 1) := by decide +kernel
theorem dX9_solve_62 : decode cX9_solve 62 = .ok (.iconst 5, 1) := by decide +kernel
theorem dX9_solve_63 : decode cX9_solve 63 = .ok (.iadd, 1) := by decide +kernel
theorem dX9_solve_64 : decode cX9_solve 64 = .ok (.laload, 1) := by decide +kernel
theorem dX9_solve_65 : decode cX9_solve 65 = .ok (.lmul, 1) := by decide +kernel
theorem dX9_solve_66 : decode cX9_solve 66 = .ok (.invokevirtual 106, 3) := by decide +kernel
theorem dX9_solve_69 : decode cX9_solve 69 = .ok (.aload_n 0, 1) := by decide +kernel
theorem dX9_solve_70 : decode cX9_solve 70 = .ok (.getfield 56, 3) := by decide +kernel
theorem dX9_solve_73 : decode cX9_solve 73 = .ok (.lstore 5, 2) := by decide +kernel
theorem dX9_solve_75 : decode cX9_solve 75 = .ok (.aload_n 0, 1) := by decide +kernel
theorem dX9_solve_76 : decode cX9_solve 76 = .ok (.getfield 60, 3) := by decide +kernel
theorem dX9_solve_79 : decode cX9_solve 79 = .ok (.lstore 7, 2) := by decide +kernel
theorem dX9_solve_81 : decode cX9_solve 81 = .ok (.aload_n 0, 1) := by decide +kernel
theorem dX9_solve_82 : decode cX9_solve 82 = .ok (.aload_n 0, 1) := by decide +kernel
theorem dX9_solve_83 : decode cX9_solve 83 = .ok (.getfield 13, 3) := by decide +kernel
theorem dX9_solve_86 : decode cX9_solve 86 = .ok (.iload_n 2, 1) := by decide +kernel
theorem dX9_solve_87 : decode cX9_solve 87 = .ok (.bipush 6, 2) := by decide +kernel
theorem dX9_solve_89 : decode cX9_solve 89 = .ok (.iadd, 1) := by decide +kernel
theorem dX9_solve_90 : decode cX9_solve 90 = .ok (.laload, 1) := by decide +kernel
theorem dX9_solve_91 : decode cX9_solve 91 = .ok (.aload_n 0, 1) := by decide +kernel
theorem dX9_solve_92 : decode cX9_solve 92 = .ok (.getfield 13, 3) := by decide +kernel
theorem dX9_solve_95 : decode cX9_solve 95 = .ok (.iload_n 2, 1) := by decide +kernel
theorem dX9_solve_96 : decode cX9_solve 96 = .ok (.iconst 3, 1) := by decide +kernel
theorem dX9_solve_97 : decode cX9_solve 97 = .ok (.iadd, 1) := by decide +kernel
theorem dX9_solve_98 : decode cX9_solve 98 = .ok (.laload, 1) := by decide +kernel
theorem dX9_solve_99 : decode cX9_solve 99 = .ok (.lmul, 1) := by decide +kernel
theorem dX9_solve_100 : decode cX9_solve 100 = .ok (.aload_n 0, 1) := by decide +kernel
theorem dX9_solve_101 : decode cX9_solve 101 = .ok (.getfield 13, 3) := by decide +kernel
theorem dX9_solve_104 : decode cX9_solve 104 = .ok (.iload_n 2, 1) := by decide +kernel
theorem dX9_solve_105 : decode cX9_solve 105 = .ok (.iconst 2, 1) := by decide +kernel
theorem dX9_solve_106 : decode cX9_solve 106 = .ok (.iadd, 1) := by decide +kernel
theorem dX9_solve_107 : decode cX9_solve 107 = .ok (.laload, 1) := by decide +kernel
theorem dX9_solve_108 : decode cX9_solve 108 = .ok (.aload_n 0, 1) := by decide +kernel
theorem dX9_solve_109 : decode cX9_solve 109 = .ok (.getfield 13, 3) := by decide +kernel
theorem dX9_solve_112 : decode cX9_solve 112 = .ok (.iload_n 2, 1) := by decide +kernel
theorem dX9_solve_113 : decode cX9_solve 113 = .ok (.bipush 7, 2) := by decide +kernel
theorem dX9_solve_115 : decode cX9_solve 115 = .ok (.iadd, 1) := by decide +kernel
theorem dX9_solve_116 : decode cX9_solve 116 = .ok (.laload, 1) := by decide +kernel
theorem dX9_solve_117 : decode cX9_solve 117 = .ok (.lmul, 1) := by decide +kernel
theorem dX9_solve_118 : decode cX9_solve 118 = .ok (.lsub, 1) := by decide +kernel
theorem dX9_solve_119 : decode cX9_solve 119 = .ok (.aload_n 0, 1) := by decide +kernel
theorem dX9_solve_120 : decode cX9_solve 120 = .ok (.getfield 13, 3) := by decide +kernel
theorem dX9_solve_123 : decode cX9_solve 123 = .ok (.iload_n 2, 1) := by decide +kernel
theorem dX9_solve_124 : decode cX9_solve 124 = .ok (.bipush 7, 2) := by decide +kernel
theorem dX9_solve_126 : decode cX9_solve 126 = .ok (.iadd, 1) := by decide +kernel
theorem dX9_solve_127 : decode cX9_solve 127 = .ok (.laload, 1) := by decide +kernel
theorem dX9_solve_128 : decode cX9_solve 128 = .ok (.aload_n 0, 1) := by decide +kernel
theorem dX9_solve_129 : decode cX9_solve 129 = .ok (.getfield 13, 3) := by decide +kernel
theorem dX9_solve_132 : decode cX9_solve 132 = .ok (.iload_n 2, 1) := by decide +kernel
theorem dX9_solve_133 : decode cX9_solve 133 = .ok (.iconst 3, 1) := by decide +kernel
theorem dX9_solve_134 : decode cX9_solve 134 = .ok (.iadd, 1) := by decide +kernel
theorem dX9_solve_135 : decode cX9_solve 135 = .ok (.laload, 1) := by decide +kernel
theorem dX9_solve_136 : decode cX9_solve 136 = .ok (.lmul, 1) := by decide +kernel
theorem dX9_solve_137 : decode cX9_solve 137 = .ok (.invokevirtual 106, 3) := by decide +kernel
theorem dX9_solve_140 : decode cX9_solve 140 = .ok (.aload_n 0, 1) := by decide +kernel
theorem dX9_solve_141 : decode cX9_solve 141 = .ok (.lconst 0, 1) := by decide +kernel
theorem dX9_solve_142 : decode cX9_solve 142 = .ok (.putfield 137, 3) := by decide +kernel
theorem dX9_solve_145 : decode cX9_solve 145 = .ok (.aload_n 0, 1) := by decide +kernel
theorem dX9_solve_146 : decode cX9_solve 146 = .ok (.lconst 1, 1) := by decide +kernel
theorem dX9_solve_147 : decode cX9_solve 147 = .ok (.putfield 140, 3) := by decide +kernel
theorem dX9_solve_150 : decode cX9_solve 150 = .ok (.lload 5, 2) := by decide +kernel
theorem dX9_solve_152 : decode cX9_solve 152 = .ok (.lconst 0, 1) := by decide +kernel
theorem dX9_solve_153 : decode cX9_solve 153 = .ok (.lcmp, 1) := by decide +kernel
theorem dX9_solve_154 : decode cX9_solve 154 = .ok (.ifCond .ne 80, 3) := by decide +kernel
theorem dX9_solve_157 : decode cX9_solve 157 = .ok (.lload_n 3, 1) := by decide +kernel
theorem dX9_solve_158 : decode cX9_solve 158 = .ok (.lconst 0, 1) := by decide +kernel
theorem dX9_solve_159 : decode cX9_solve 159 = .ok (.lcmp, 1) := by decide +kernel
theorem dX9_solve_160 : decode cX9_solve 160 = .ok (.ifCond .ne 20, 3) := by decide +kernel
theorem dX9_solve_163 : decode cX9_solve 163 = .ok (.aload_n 0, 1) := by decide +kernel
theorem dX9_solve_164 : decode cX9_solve 164 = .ok (.getfield 56, 3) := by decide +kernel
theorem dX9_solve_167 : decode cX9_solve 167 = .ok (.lconst 0, 1) := by decide +kernel
theorem dX9_solve_168 : decode cX9_solve 168 = .ok (.lcmp, 1) := by decide +kernel
theorem dX9_solve_169 : decode cX9_solve 169 = .ok (.ifCond .ne 7, 3) := by decide +kernel
theorem dX9_solve_172 : decode cX9_solve 172 = .ok (.iconst 1, 1) := by decide +kernel
theorem dX9_solve_173 : decode cX9_solve 173 = .ok (.goto 44, 3) := by decide +kernel
theorem dX9_solve_176 : decode cX9_solve 176 = .ok (.iconst 0, 1) := by decide +kernel
theorem dX9_solve_177 : decode cX9_solve 177 = .ok (.goto 40, 3) := by decide +kernel
theorem dX9_solve_180 : decode cX9_solve 180 = .ok (.lload_n 3, 1) := by decide +kernel
theorem dX9_solve_181 : decode cX9_solve 181 = .ok (.lconst 1, 1) := by decide +kernel
theorem dX9_solve_182 : decode cX9_solve 182 = .ok (.lcmp, 1) := by decide +kernel
theorem dX9_solve_183 : decode cX9_solve 183 = .ok (.ifCond .ne 20, 3) := by decide +kernel
theorem dX9_solve_186 : decode cX9_solve 186 = .ok (.aload_n 0, 1) := by decide +kernel
theorem dX9_solve_187 : decode cX9_solve 187 = .ok (.getfield 56, 3) := by decide +kernel
theorem dX9_solve_190 : decode cX9_solve 190 = .ok (.lconst 0, 1) := by decide +kernel
theorem dX9_solve_191 : decode cX9_solve 191 = .ok (.lcmp, 1) := by decide +kernel
theorem dX9_solve_192 : decode cX9_solve 192 = .ok (.ifCond .le 7, 3) := by decide +kernel
theorem dX9_solve_195 : decode cX9_solve 195 = .ok (.iconst 1, 1) := by decide +kernel
theorem dX9_solve_196 : decode cX9_solve 196 = .ok (.goto 21, 3) := by decide +kernel
theorem dX9_solve_199 : decode cX9_solve 199 = .ok (.iconst 0, 1) := by decide +kernel
theorem dX9_solve_200 : decode cX9_solve 200 = .ok (.goto 17, 3) := by decide +kernel
theorem dX9_solve_203 : decode cX9_solve 203 = .ok (.aload_n 0, 1) := by decide +kernel
theorem dX9_solve_204 : decode cX9_solve 204 = .ok (.getfield 56, 3) := by decide +kernel
theorem dX9_solve_207 : decode cX9_solve 207 = .ok (.lconst 0, 1) := by decide +kernel
theorem dX9_solve_208 : decode cX9_solve 208 = .ok (.lcmp, 1) := by decide +kernel
theorem dX9_solve_209 : decode cX9_solve 209 = .ok (.ifCond .ge 7, 3) := by decide +kernel
theorem dX9_solve_212 : decode cX9_solve 212 = .ok (.iconst 1, 1) := by decide +kernel
theorem dX9_solve_213 : decode cX9_solve 213 = .ok (.goto 4, 3) := by decide +kernel
theorem dX9_solve_216 : decode cX9_solve 216 = .ok (.iconst 0, 1) := by decide +kernel
theorem dX9_solve_217 : decode cX9_solve 217 = .ok (.istore 9, 2) := by decide +kernel
theorem dX9_solve_219 : decode cX9_solve 219 = .ok (.aload_n 0, 1) := by decide +kernel
theorem dX9_solve_220 : decode cX9_solve 220 = .ok (.iload 9, 2) := by decide +kernel
theorem dX9_solve_222 : decode cX9_solve 222 = .ok (.ifCond .eq 7, 3) := by decide +kernel
theorem dX9_solve_225 : decode cX9_solve 225 = .ok (.iconst 1, 1) := by decide +kernel
theorem dX9_solve_226 : decode cX9_solve 226 = .ok (.goto 4, 3) := by decide +kernel
theorem dX9_solve_229 : decode cX9_solve 229 = .ok (.iconst 0, 1) := by decide +kernel
theorem dX9_solve_230 : decode cX9_solve 230 = .ok (.putfield 143, 3) := by decide +kernel
theorem dX9_solve_233 : decode cX9_solve 233 = .ok (.return_, 1) := by decide +kernel
theorem dX9_solve_234 : decode cX9_solve 234 = .ok (.aload_n 0, 1) := by decide +kernel
theorem dX9_solve_235 : decode cX9_solve 235 = .ok (.aload_n 0, 1) := by decide +kernel
theorem dX9_solve_236 : decode cX9_solve 236 = .ok (.getfield 56, 3) := by decide +kernel
theorem dX9_solve_239 : decode cX9_solve 239 = .ok (.lload 7, 2) := by decide +kernel
theorem dX9_solve_241 : decode cX9_solve 241 = .ok (.lmul, 1) := by decide +kernel
theorem dX9_solve_242 : decode cX9_solve 242 = .ok (.aload_n 0, 1) := by decide +kernel
theorem dX9_solve_243 : decode cX9_solve 243 = .ok (.getfield 60, 3) := by decide +kernel
theorem dX9_solve_246 : decode cX9_solve 246 = .ok (.lload 5, 2) := by decide +kernel
theorem dX9_solve_248 : decode cX9_solve 248 = .ok (.lmul, 1) := by decide +kernel
theorem dX9_solve_249 : decode cX9_solve 249 = .ok (.invokevirtual 106, 3) := by decide +kernel
theorem dX9_solve_252 : decode cX9_solve 252 = .ok (.aload_n 0, 1) := by decide +kernel
theorem dX9_solve_253 : decode cX9_solve 253 = .ok (.aload_n 0, 1) := by decide +kernel
theorem dX9_solve_254 : decode cX9_solve 254 = .ok (.getfield 56, 3) := by decide +kernel
theorem dX9_solve_257 : decode cX9_solve 257 = .ok (.putfield 137, 3) := by decide +kernel
theorem dX9_solve_260 : decode cX9_solve 260 = .ok (.aload_n 0, 1) := by decide +kernel
theorem dX9_solve_261 : decode cX9_solve 261 = .ok (.aload_n 0, 1) := by decide +kernel
theorem dX9_solve_262 : decode cX9_solve 262 = .ok (.getfield 60, 3) := by decide +kernel
theorem dX9_solve_265 : decode cX9_solve 265 = .ok (.putfield 140, 3) := by decide +kernel
theorem dX9_solve_268 : decode cX9_solve 268 = .ok (.aload_n 0, 1) := by decide +kernel
theorem dX9_solve_269 : decode cX9_solve 269 = .ok (.lload_n 3, 1) := by decide +kernel
theorem dX9_solve_270 : decode cX9_solve 270 = .ok (.lconst 0, 1) := by decide +kernel
theorem dX9_solve_271 : decode cX9_solve 271 = .ok (.lcmp, 1) := by decide +kernel
theorem dX9_solve_272 : decode cX9_solve 272 = .ok (.ifCond .ne 7, 3) := by decide +kernel
theorem dX9_solve_275 : decode cX9_solve 275 = .ok (.iconst 2, 1) := by decide +kernel
theorem dX9_solve_276 : decode cX9_solve 276 = .ok (.goto 34, 3) := by decide +kernel
theorem dX9_solve_279 : decode cX9_solve 279 = .ok (.lload_n 3, 1) := by decide +kernel
theorem dX9_solve_280 : decode cX9_solve 280 = .ok (.lconst 1, 1) := by decide +kernel
theorem dX9_solve_281 : decode cX9_solve 281 = .ok (.lcmp, 1) := by decide +kernel
theorem dX9_solve_282 : decode cX9_solve 282 = .ok (.ifCond .ne 7, 3) := by decide +kernel
theorem dX9_solve_285 : decode cX9_solve 285 = .ok (.iconst 1, 1) := by decide +kernel
theorem dX9_solve_286 : decode cX9_solve 286 = .ok (.goto 4, 3) := by decide +kernel
theorem dX9_solve_289 : decode cX9_solve 289 = .ok (.iconst 0, 1) := by decide +kernel
theorem dX9_solve_290 : decode cX9_solve 290 = .ok (.lload 5, 2) := by decide +kernel
theorem dX9_solve_292 : decode cX9_solve 292 = .ok (.lconst 0, 1) := by decide +kernel
theorem dX9_solve_293 : decode cX9_solve 293 = .ok (.lcmp, 1) := by decide +kernel
theorem dX9_solve_294 : decode cX9_solve 294 = .ok (.ifCond .le 7, 3) := by decide +kernel
theorem dX9_solve_297 : decode cX9_solve 297 = .ok (.iconst 1, 1) := by decide +kernel
theorem dX9_solve_298 : decode cX9_solve 298 = .ok (.goto 4, 3) := by decide +kernel
theorem dX9_solve_301 : decode cX9_solve 301 = .ok (.iconst 0, 1) := by decide +kernel
theorem dX9_solve_302 : decode cX9_solve 302 = .ok (.if_icmp .ne 7, 3) := by decide +kernel
theorem dX9_solve_305 : decode cX9_solve 305 = .ok (.iconst 3, 1) := by decide +kernel
theorem dX9_solve_306 : decode cX9_solve 306 = .ok (.goto 4, 3) := by decide +kernel
theorem dX9_solve_309 : decode cX9_solve 309 = .ok (.iconst 4, 1) := by decide +kernel
theorem dX9_solve_310 : decode cX9_solve 310 = .ok (.putfield 143, 3) := by decide +kernel
theorem dX9_solve_313 : decode cX9_solve 313 = .ok (.return_, 1) := by decide +kernel
set_option maxHeartbeats 4000000 in
set_option maxRecDepth 100000 in
/-- TutorLinesModel.solve -/
theorem c_X9_solve {l : Launch} {G : tm_G} {Hb : Heap} {sh : tm_sh} {M : tm_M} {o i : Nat} (h : isMo sh M o) (hi : i < 42) (hv : lok (rl M o i)) : Met l yX9_solve (tws yX9_solve cX9_solve 10 none) ({ frames := 2, cells := 0, slots := 0, locals := 55 }) (va_Pc [.ref o, ji (i : Nat)] (tm_St G Hb sh M)) (tm_Qv G Hb sh (fun M1 => ms M1 o = tl_solve (rl M o i) ∧ fq (mP o) M M1)) 0 0 (tm_A Hb) := by
  refine tm_begin (by decide) (Nat.le_of_ble_eq_true rfl) (fun p e s m below meth c ls hx hb hr hml hown htw hlk hnm hK hW hl => ?_)
  have hS : va_S (tm_A Hb) s.heap s.heap [] := va_S.rf
  have hl : lv_has ls 10 [(0, .ref o), (1, ji (i : Nat))] := hl
  have ov := hv
  have h9 : 0 ≤ mL M (o + 2) (9 * i + 8) ∧ mL M (o + 2) (9 * i + 8) ≤ 2 := hv.2.2
  obtain ⟨b0, ⟨t1, t2, t6, t7, t9, t12, t13, t14, t15, t16, t17, t24⟩, ⟨u1, u2, u3, u4, u5, u6, u7, u8, u9, u10, u11, u12⟩⟩ := h
  have e0 : (9 * (i : Int)).toNat = 9 * i := by omega
  have e1 : (9 * (i : Int) + 1).toNat = 9 * i + 1 := by omega
  have e2 : (9 * (i : Int) + 2).toNat = 9 * i + 2 := by omega
  have e3 : (9 * (i : Int) + 3).toNat = 9 * i + 3 := by omega
  have e4 : (9 * (i : Int) + 4).toNat = 9 * i + 4 := by omega
  have e5 : (9 * (i : Int) + 5).toNat = 9 * i + 5 := by omega
  have e6 : (9 * (i : Int) + 6).toNat = 9 * i + 6 := by omega
  have e7 : (9 * (i : Int) + 7).toNat = 9 * i + 7 := by omega
  have e8 : (9 * (i : Int) + 8).toNat = 9 * i + 8 := by omega
  obtain ⟨⟨q1, q2⟩, ⟨q3, q4⟩, q5⟩ := hv
  have b1 := tl_fsub_bd q1 q3
  have b2 := tl_fsub_bd q4 q2
  have z1 : (tl_sl (rl M o i)).1.natAbs ≤ 199960002 := b1.1
  have z2 : (tl_pl (rl M o i)).1.natAbs ≤ 199960002 := b2.1
  refine ti_bipush hx hb dX9_solve_0 (by decide) ?_
  refine lv_iload_n hx hb dX9_solve_2 rfl (lv_at hl 1 rfl) ?_
  refine ti_imul hx hb dX9_solve_3 ?_
  refine lv_istore_n (lv' := [(2, _), (0, _), (1, _)]) hx hb dX9_solve_4 rfl hl (by decide) rfl (fun ls hl => ?_)
  refine lv_aload_n hx hb dX9_solve_5 rfl (lv_at hl 1 rfl) ?_
  refine gf_X9_13 hx hb htw hown hK hW (by assumption) (by assumption) dX9_solve_6 ?_
  refine lv_iload_n hx hb dX9_solve_9 rfl (lv_at hl 0 rfl) ?_
  refine ti_bipush hx hb dX9_solve_10 (by decide) ?_
  refine ti_iadd hx hb dX9_solve_12 ?_
  refine tm_lald hx hb hK hW (by assumption) (by omega) (by omega) (by decide) dX9_solve_13 ?_
  rw [e8]
  refine lv_lstore_n (lv' := [(3, _), (2, _), (0, _), (1, _)]) hx hb dX9_solve_14 rfl hl (by decide) rfl (fun ls hl => ?_)
  refine lv_aload_n hx hb dX9_solve_15 rfl (lv_at hl 2 rfl) ?_
  refine lv_aload_n hx hb dX9_solve_16 rfl (lv_at hl 2 rfl) ?_
  refine gf_X9_13 hx hb htw hown hK hW (by assumption) (by assumption) dX9_solve_17 ?_
  refine lv_iload_n hx hb dX9_solve_20 rfl (lv_at hl 1 rfl) ?_
  refine tm_lald hx hb hK hW (by assumption) (by omega) (by omega) (by decide) dX9_solve_21 ?_
  refine lv_aload_n hx hb dX9_solve_22 rfl (lv_at hl 2 rfl) ?_
  refine gf_X9_13 hx hb htw hown hK hW (by assumption) (by assumption) dX9_solve_23 ?_
  refine lv_iload_n hx hb dX9_solve_26 rfl (lv_at hl 1 rfl) ?_
  refine ti_iconst hx hb dX9_solve_27 ?_
  refine ti_iadd hx hb dX9_solve_28 ?_
  refine tm_lald hx hb hK hW (by assumption) (by omega) (by omega) (by decide) dX9_solve_29 ?_
  refine ti_lmul hx hb dX9_solve_30 ?_
  refine lv_aload_n hx hb dX9_solve_31 rfl (lv_at hl 2 rfl) ?_
  refine gf_X9_13 hx hb htw hown hK hW (by assumption) (by assumption) dX9_solve_32 ?_
  refine lv_iload_n hx hb dX9_solve_35 rfl (lv_at hl 1 rfl) ?_
  refine ti_iconst hx hb dX9_solve_36 ?_
  refine ti_iadd hx hb dX9_solve_37 ?_
  refine tm_lald hx hb hK hW (by assumption) (by omega) (by omega) (by decide) dX9_solve_38 ?_
  refine lv_aload_n hx hb dX9_solve_39 rfl (lv_at hl 2 rfl) ?_
  refine gf_X9_13 hx hb htw hown hK hW (by assumption) (by assumption) dX9_solve_40 ?_
  refine lv_iload_n hx hb dX9_solve_43 rfl (lv_at hl 1 rfl) ?_
  refine ti_iconst hx hb dX9_solve_44 ?_
  refine ti_iadd hx hb dX9_solve_45 ?_
  refine tm_lald hx hb hK hW (by assumption) (by omega) (by omega) (by decide) dX9_solve_46 ?_
  refine ti_lmul hx hb dX9_solve_47 ?_
  refine ti_lsub hx hb dX9_solve_48 ?_
  refine lv_aload_n hx hb dX9_solve_49 rfl (lv_at hl 2 rfl) ?_
  refine gf_X9_13 hx hb htw hown hK hW (by assumption) (by assumption) dX9_solve_50 ?_
  refine lv_iload_n hx hb dX9_solve_53 rfl (lv_at hl 1 rfl) ?_
  refine ti_iconst hx hb dX9_solve_54 ?_
  refine ti_iadd hx hb dX9_solve_55 ?_
  refine tm_lald hx hb hK hW (by assumption) (by omega) (by omega) (by decide) dX9_solve_56 ?_
  refine lv_aload_n hx hb dX9_solve_57 rfl (lv_at hl 2 rfl) ?_
  refine gf_X9_13 hx hb htw hown hK hW (by assumption) (by assumption) dX9_solve_58 ?_
  refine lv_iload_n hx hb dX9_solve_61 rfl (lv_at hl 1 rfl) ?_
  refine ti_iconst hx hb dX9_solve_62 ?_
  refine ti_iadd hx hb dX9_solve_63 ?_
  refine tm_lald hx hb hK hW (by assumption) (by omega) (by omega) (by decide) dX9_solve_64 ?_
  refine ti_lmul hx hb dX9_solve_65 ?_
  rw [e0, e5, e4, e1]
  refine tm_callv (cs_X9_106 hx hb hml hown htw hK hW (by assumption) (c_X9_make b0 (tl_bd q1 q3).2.2.2.1 (tl_bd q1 q3).2.1 (tl_bd q1 q3).1) ⟨rfl, rfl, Nat.le_of_ble_eq_true rfl, Nat.le_of_ble_eq_true rfl⟩ hl.1 (Nat.le_of_ble_eq_true rfl) dX9_solve_66 ⟨Nat.le_of_ble_eq_true rfl, Nat.le_of_ble_eq_true rfl⟩) hS (fun M66 H locs hp66 hW hS => ?_)
  have hp66 : M66 = mk M o (tl_sl (rl M o i)) := hp66
  have F66 : fq (mP o) M M66 := by rw [hp66]; exact fq_mkP
  have x66 : mL M66 o 10 = ((tl_sl (rl M o i))).1 := by rw [hp66]; exact mk_0 _ _ _
  have y66 : mL M66 o 11 = ((tl_sl (rl M o i))).2 := by rw [hp66]; exact mk_1 _ _ _
  have t66 : mR M66 o 2 = some (o + 2) := by rw [F66.1]; exact t2
  have n66 : ∀ k, mL M66 (o + 2) k = mL M (o + 2) k := fun k => by rw [hp66]; exact mk_n _ _ (Or.inl (by omega))
  refine lv_aload_n hx hb dX9_solve_69 rfl (lv_at hl 2 rfl) ?_
  refine gf_X9_56 hx hb htw hown hK hW (by assumption) dX9_solve_70 ?_
  rw [x66]
  refine lv_lstore (lv' := [(5, _), (3, _), (2, _), (0, _), (1, _)]) hx hb dX9_solve_73 hl (by decide) rfl (fun ls hl => ?_)
  refine lv_aload_n hx hb dX9_solve_75 rfl (lv_at hl 3 rfl) ?_
  refine gf_X9_60 hx hb htw hown hK hW (by assumption) dX9_solve_76 ?_
  rw [y66]
  refine lv_lstore (lv' := [(7, _), (5, _), (3, _), (2, _), (0, _), (1, _)]) hx hb dX9_solve_79 hl (by decide) rfl (fun ls hl => ?_)
  refine lv_aload_n hx hb dX9_solve_81 rfl (lv_at hl 4 rfl) ?_
  refine lv_aload_n hx hb dX9_solve_82 rfl (lv_at hl 4 rfl) ?_
  refine gf_X9_13 hx hb htw hown hK hW (by assumption) t66 dX9_solve_83 ?_
  refine lv_iload_n hx hb dX9_solve_86 rfl (lv_at hl 3 rfl) ?_
  refine ti_bipush hx hb dX9_solve_87 (by decide) ?_
  refine ti_iadd hx hb dX9_solve_89 ?_
  refine tm_lald hx hb hK hW (by assumption) (by omega) (by omega) (by decide) dX9_solve_90 ?_
  refine lv_aload_n hx hb dX9_solve_91 rfl (lv_at hl 4 rfl) ?_
  refine gf_X9_13 hx hb htw hown hK hW (by assumption) t66 dX9_solve_92 ?_
  refine lv_iload_n hx hb dX9_solve_95 rfl (lv_at hl 3 rfl) ?_
  refine ti_iconst hx hb dX9_solve_96 ?_
  refine ti_iadd hx hb dX9_solve_97 ?_
  refine tm_lald hx hb hK hW (by assumption) (by omega) (by omega) (by decide) dX9_solve_98 ?_
  refine ti_lmul hx hb dX9_solve_99 ?_
  refine lv_aload_n hx hb dX9_solve_100 rfl (lv_at hl 4 rfl) ?_
  refine gf_X9_13 hx hb htw hown hK hW (by assumption) t66 dX9_solve_101 ?_
  refine lv_iload_n hx hb dX9_solve_104 rfl (lv_at hl 3 rfl) ?_
  refine ti_iconst hx hb dX9_solve_105 ?_
  refine ti_iadd hx hb dX9_solve_106 ?_
  refine tm_lald hx hb hK hW (by assumption) (by omega) (by omega) (by decide) dX9_solve_107 ?_
  refine lv_aload_n hx hb dX9_solve_108 rfl (lv_at hl 4 rfl) ?_
  refine gf_X9_13 hx hb htw hown hK hW (by assumption) t66 dX9_solve_109 ?_
  refine lv_iload_n hx hb dX9_solve_112 rfl (lv_at hl 3 rfl) ?_
  refine ti_bipush hx hb dX9_solve_113 (by decide) ?_
  refine ti_iadd hx hb dX9_solve_115 ?_
  refine tm_lald hx hb hK hW (by assumption) (by omega) (by omega) (by decide) dX9_solve_116 ?_
  refine ti_lmul hx hb dX9_solve_117 ?_
  refine ti_lsub hx hb dX9_solve_118 ?_
  refine lv_aload_n hx hb dX9_solve_119 rfl (lv_at hl 4 rfl) ?_
  refine gf_X9_13 hx hb htw hown hK hW (by assumption) t66 dX9_solve_120 ?_
  refine lv_iload_n hx hb dX9_solve_123 rfl (lv_at hl 3 rfl) ?_
  refine ti_bipush hx hb dX9_solve_124 (by decide) ?_
  refine ti_iadd hx hb dX9_solve_126 ?_
  refine tm_lald hx hb hK hW (by assumption) (by omega) (by omega) (by decide) dX9_solve_127 ?_
  refine lv_aload_n hx hb dX9_solve_128 rfl (lv_at hl 4 rfl) ?_
  refine gf_X9_13 hx hb htw hown hK hW (by assumption) t66 dX9_solve_129 ?_
  refine lv_iload_n hx hb dX9_solve_132 rfl (lv_at hl 3 rfl) ?_
  refine ti_iconst hx hb dX9_solve_133 ?_
  refine ti_iadd hx hb dX9_solve_134 ?_
  refine tm_lald hx hb hK hW (by assumption) (by omega) (by omega) (by decide) dX9_solve_135 ?_
  refine ti_lmul hx hb dX9_solve_136 ?_
  rw [e6, e3, e2, e7, n66, n66, n66, n66]
  refine tm_callv (cs_X9_106 hx hb hml hown htw hK hW (by assumption) (c_X9_make b0 (tl_bd q4 q2).2.2.2.1 (tl_bd q4 q2).2.1 (tl_bd q4 q2).1) ⟨rfl, rfl, Nat.le_of_ble_eq_true rfl, Nat.le_of_ble_eq_true rfl⟩ hl.1 (Nat.le_of_ble_eq_true rfl) dX9_solve_137 ⟨Nat.le_of_ble_eq_true rfl, Nat.le_of_ble_eq_true rfl⟩) hS (fun M137 H locs hp137 hW hS => ?_)
  have hp137 : M137 = mk M66 o (tl_pl (rl M o i)) := hp137
  have F137 : fq (mP o) M66 M137 := by rw [hp137]; exact fq_mkP
  have x137 : mL M137 o 10 = ((tl_pl (rl M o i))).1 := by rw [hp137]; exact mk_0 _ _ _
  have y137 : mL M137 o 11 = ((tl_pl (rl M o i))).2 := by rw [hp137]; exact mk_1 _ _ _
  have t137 : mR M137 o 2 = some (o + 2) := by rw [F137.1]; exact t66
  refine lv_aload_n hx hb dX9_solve_140 rfl (lv_at hl 4 rfl) ?_
  refine ti_lconst0 hx hb dX9_solve_141 ?_
  refine pf_X9_137 hx hb htw hown hK hW (by assumption) hS dX9_solve_142 (fun H locs hW hS => ?_)
  refine lv_aload_n hx hb dX9_solve_145 rfl (lv_at hl 4 rfl) ?_
  refine ti_lconst1 hx hb dX9_solve_146 ?_
  refine pf_X9_140 hx hb htw hown hK hW (by assumption) hS dX9_solve_147 (fun H locs hW hS => ?_)
  refine lv_lload hx hb dX9_solve_150 (lv_at hl 1 rfl) ?_
  refine ti_lconst0 hx hb dX9_solve_152 ?_
  refine ti_lcmp_ne (tgt := 234) hx hb dX9_solve_153 dX9_solve_154 (by decide) (show inL (tl_sl (rl M o i)).1 by omega) (by decide) (fun h153 => ?_) (fun h153 => ?_)
  · refine lv_aload_n hx hb dX9_solve_234 rfl (lv_at hl 4 rfl) ?_
    refine lv_aload_n hx hb dX9_solve_235 rfl (lv_at hl 4 rfl) ?_
    refine gf_X9_56 hx hb htw hown hK hW (by assumption) dX9_solve_236 ?_
    rw [show mL (sL (sL M137 o 26 0) o 27 1) o 10 = (tl_pl (rl M o i)).1 from (tm_up_k _ _ (by decide)).trans ((tm_up_k _ _ (by decide)).trans x137)]
    refine lv_lload hx hb dX9_solve_239 (lv_at hl 0 rfl) ?_
    refine ti_lmul hx hb dX9_solve_241 ?_
    refine lv_aload_n hx hb dX9_solve_242 rfl (lv_at hl 4 rfl) ?_
    refine gf_X9_60 hx hb htw hown hK hW (by assumption) dX9_solve_243 ?_
    rw [show mL (sL (sL M137 o 26 0) o 27 1) o 11 = (tl_pl (rl M o i)).2 from (tm_up_k _ _ (by decide)).trans ((tm_up_k _ _ (by decide)).trans y137)]
    refine lv_lload hx hb dX9_solve_246 (lv_at hl 1 rfl) ?_
    refine ti_lmul hx hb dX9_solve_248 ?_
    refine tm_callv (cs_X9_106 hx hb hml hown htw hK hW (by assumption) (c_X9_make b0 (by have := (tl_quo_bd (f := tl_pl (rl M o i)) (g := tl_sl (rl M o i)) ⟨b2.1, b2.2.1, b2.2.2.1⟩ ⟨b1.1, b1.2.1, b1.2.2.1⟩ h153).2.1; omega) (by have := (tl_quo_bd (f := tl_pl (rl M o i)) (g := tl_sl (rl M o i)) ⟨b2.1, b2.2.1, b2.2.2.1⟩ ⟨b1.1, b1.2.1, b1.2.2.1⟩ h153).2.2; omega) (tl_quo_bd (f := tl_pl (rl M o i)) (g := tl_sl (rl M o i)) ⟨b2.1, b2.2.1, b2.2.2.1⟩ ⟨b1.1, b1.2.1, b1.2.2.1⟩ h153).1) ⟨rfl, rfl, Nat.le_of_ble_eq_true rfl, Nat.le_of_ble_eq_true rfl⟩ hl.1 (Nat.le_of_ble_eq_true rfl) dX9_solve_249 ⟨Nat.le_of_ble_eq_true rfl, Nat.le_of_ble_eq_true rfl⟩) hS (fun M249 H locs hp249 hW hS => ?_)
    have hp249 : M249 = mk (sL (sL M137 o 26 0) o 27 1) o (fdiv (tl_pl (rl M o i)) (tl_sl (rl M o i))) := hp249
    have F249 : fq (mP o) M M249 := fq_tr (fq_tr F66 F137) (by rw [hp249]; exact fq_tr (fq_tr (fq_sL (Or.inl ⟨rfl, by omega⟩)) (fq_sL (Or.inl ⟨rfl, by omega⟩))) fq_mkP)
    have x249 : mL M249 o 10 = (fdiv (tl_pl (rl M o i)) (tl_sl (rl M o i))).1 := by rw [hp249]; exact mk_0 _ _ _
    have y249 : mL M249 o 11 = (fdiv (tl_pl (rl M o i)) (tl_sl (rl M o i))).2 := by rw [hp249]; exact mk_1 _ _ _
    refine lv_aload_n hx hb dX9_solve_252 rfl (lv_at hl 4 rfl) ?_
    refine lv_aload_n hx hb dX9_solve_253 rfl (lv_at hl 4 rfl) ?_
    refine gf_X9_56 hx hb htw hown hK hW (by assumption) dX9_solve_254 ?_
    rw [x249]
    refine pf_X9_137 hx hb htw hown hK hW (by assumption) hS dX9_solve_257 (fun H locs hW hS => ?_)
    refine lv_aload_n hx hb dX9_solve_260 rfl (lv_at hl 4 rfl) ?_
    refine lv_aload_n hx hb dX9_solve_261 rfl (lv_at hl 4 rfl) ?_
    refine gf_X9_60 hx hb htw hown hK hW (by assumption) dX9_solve_262 ?_
    rw [show mL (sL M249 o 26 (fdiv (tl_pl (rl M o i)) (tl_sl (rl M o i))).1) o 11 = (fdiv (tl_pl (rl M o i)) (tl_sl (rl M o i))).2 from (tm_up_k _ _ (by decide)).trans y249]
    refine pf_X9_140 hx hb htw hown hK hW (by assumption) hS dX9_solve_265 (fun H locs hW hS => ?_)
    refine lv_aload_n hx hb dX9_solve_268 rfl (lv_at hl 4 rfl) ?_
    refine lv_lload_n hx hb dX9_solve_269 rfl (lv_at hl 2 rfl) ?_
    refine ti_lconst0 hx hb dX9_solve_270 ?_
    refine ti_lcmp_ne (tgt := 279) hx hb dX9_solve_271 dX9_solve_272 (by decide) (by omega) (by decide) (fun h271 => ?_) (fun h271 => ?_)
    · refine lv_lload_n hx hb dX9_solve_279 rfl (lv_at hl 2 rfl) ?_
      refine ti_lconst1 hx hb dX9_solve_280 ?_
      refine ti_lcmp_ne (tgt := 289) hx hb dX9_solve_281 dX9_solve_282 (by decide) (by omega) (by decide) (fun h281 => ?_) (fun h281 => ?_)
      · refine ti_iconst hx hb dX9_solve_289 ?_
        refine lv_lload hx hb dX9_solve_290 (lv_at hl 1 rfl) ?_
        refine ti_lconst0 hx hb dX9_solve_292 ?_
        refine ti_lcmp_le (tgt := 301) hx hb dX9_solve_293 dX9_solve_294 (by decide) (show inL (tl_sl (rl M o i)).1 by omega) (by decide) (fun h293 => ?_) (fun h293 => ?_)
        · refine ti_iconst hx hb dX9_solve_301 ?_
          refine ti_icmp_ne (tgt := 309) hx hb dX9_solve_302 (by decide) (by decide) (by decide) (fun h302 => ?_) (fun h302 => ?_)
          · refine ti_iconst hx hb dX9_solve_309 ?_
            refine pf_X9_143 hx hb htw hown hK hW (by assumption) hS dX9_solve_310 (fun H locs hW hS => ?_)
            exact tm_vret hx hb hr hlk hK hW hS ⟨by rw [tl_solve_1 h153, tl_msA]; exact congrArg (fun q => (q, (fdiv (tl_pl (rl M o i)) (tl_sl (rl M o i))))) (show _ = (if (mL M (o + 2) (9 * i + 8)) = 0 then (2 : Int) else if ((mL M (o + 2) (9 * i + 8)) = 1 ↔ 0 < (tl_sl (rl M o i)).1) then 3 else 4) from by first | (exfalso; revert h302; decide) | rw [if_pos h271] | rw [if_neg h271, if_pos (by omega)] | rw [if_neg h271, if_neg (by omega)]), fq_tr F249 fq_ms⟩ dX9_solve_313
          · refine ti_iconst hx hb dX9_solve_305 ?_
            refine lv_goto (tgt := 310) hx hb dX9_solve_306 (by decide) ?_
            refine pf_X9_143 hx hb htw hown hK hW (by assumption) hS dX9_solve_310 (fun H locs hW hS => ?_)
            exact tm_vret hx hb hr hlk hK hW hS ⟨by rw [tl_solve_1 h153, tl_msA]; exact congrArg (fun q => (q, (fdiv (tl_pl (rl M o i)) (tl_sl (rl M o i))))) (show _ = (if (mL M (o + 2) (9 * i + 8)) = 0 then (2 : Int) else if ((mL M (o + 2) (9 * i + 8)) = 1 ↔ 0 < (tl_sl (rl M o i)).1) then 3 else 4) from by first | (exfalso; revert h302; decide) | rw [if_pos h271] | rw [if_neg h271, if_pos (by omega)] | rw [if_neg h271, if_neg (by omega)]), fq_tr F249 fq_ms⟩ dX9_solve_313
        · refine ti_iconst hx hb dX9_solve_297 ?_
          refine lv_goto (tgt := 302) hx hb dX9_solve_298 (by decide) ?_
          refine ti_icmp_ne (tgt := 309) hx hb dX9_solve_302 (by decide) (by decide) (by decide) (fun h302 => ?_) (fun h302 => ?_)
          · refine ti_iconst hx hb dX9_solve_309 ?_
            refine pf_X9_143 hx hb htw hown hK hW (by assumption) hS dX9_solve_310 (fun H locs hW hS => ?_)
            exact tm_vret hx hb hr hlk hK hW hS ⟨by rw [tl_solve_1 h153, tl_msA]; exact congrArg (fun q => (q, (fdiv (tl_pl (rl M o i)) (tl_sl (rl M o i))))) (show _ = (if (mL M (o + 2) (9 * i + 8)) = 0 then (2 : Int) else if ((mL M (o + 2) (9 * i + 8)) = 1 ↔ 0 < (tl_sl (rl M o i)).1) then 3 else 4) from by first | (exfalso; revert h302; decide) | rw [if_pos h271] | rw [if_neg h271, if_pos (by omega)] | rw [if_neg h271, if_neg (by omega)]), fq_tr F249 fq_ms⟩ dX9_solve_313
          · refine ti_iconst hx hb dX9_solve_305 ?_
            refine lv_goto (tgt := 310) hx hb dX9_solve_306 (by decide) ?_
            refine pf_X9_143 hx hb htw hown hK hW (by assumption) hS dX9_solve_310 (fun H locs hW hS => ?_)
            exact tm_vret hx hb hr hlk hK hW hS ⟨by rw [tl_solve_1 h153, tl_msA]; exact congrArg (fun q => (q, (fdiv (tl_pl (rl M o i)) (tl_sl (rl M o i))))) (show _ = (if (mL M (o + 2) (9 * i + 8)) = 0 then (2 : Int) else if ((mL M (o + 2) (9 * i + 8)) = 1 ↔ 0 < (tl_sl (rl M o i)).1) then 3 else 4) from by first | (exfalso; revert h302; decide) | rw [if_pos h271] | rw [if_neg h271, if_pos (by omega)] | rw [if_neg h271, if_neg (by omega)]), fq_tr F249 fq_ms⟩ dX9_solve_313
      · refine ti_iconst hx hb dX9_solve_285 ?_
        refine lv_goto (tgt := 290) hx hb dX9_solve_286 (by decide) ?_
        refine lv_lload hx hb dX9_solve_290 (lv_at hl 1 rfl) ?_
        refine ti_lconst0 hx hb dX9_solve_292 ?_
        refine ti_lcmp_le (tgt := 301) hx hb dX9_solve_293 dX9_solve_294 (by decide) (show inL (tl_sl (rl M o i)).1 by omega) (by decide) (fun h293 => ?_) (fun h293 => ?_)
        · refine ti_iconst hx hb dX9_solve_301 ?_
          refine ti_icmp_ne (tgt := 309) hx hb dX9_solve_302 (by decide) (by decide) (by decide) (fun h302 => ?_) (fun h302 => ?_)
          · refine ti_iconst hx hb dX9_solve_309 ?_
            refine pf_X9_143 hx hb htw hown hK hW (by assumption) hS dX9_solve_310 (fun H locs hW hS => ?_)
            exact tm_vret hx hb hr hlk hK hW hS ⟨by rw [tl_solve_1 h153, tl_msA]; exact congrArg (fun q => (q, (fdiv (tl_pl (rl M o i)) (tl_sl (rl M o i))))) (show _ = (if (mL M (o + 2) (9 * i + 8)) = 0 then (2 : Int) else if ((mL M (o + 2) (9 * i + 8)) = 1 ↔ 0 < (tl_sl (rl M o i)).1) then 3 else 4) from by first | (exfalso; revert h302; decide) | rw [if_pos h271] | rw [if_neg h271, if_pos (by omega)] | rw [if_neg h271, if_neg (by omega)]), fq_tr F249 fq_ms⟩ dX9_solve_313
          · refine ti_iconst hx hb dX9_solve_305 ?_
            refine lv_goto (tgt := 310) hx hb dX9_solve_306 (by decide) ?_
            refine pf_X9_143 hx hb htw hown hK hW (by assumption) hS dX9_solve_310 (fun H locs hW hS => ?_)
            exact tm_vret hx hb hr hlk hK hW hS ⟨by rw [tl_solve_1 h153, tl_msA]; exact congrArg (fun q => (q, (fdiv (tl_pl (rl M o i)) (tl_sl (rl M o i))))) (show _ = (if (mL M (o + 2) (9 * i + 8)) = 0 then (2 : Int) else if ((mL M (o + 2) (9 * i + 8)) = 1 ↔ 0 < (tl_sl (rl M o i)).1) then 3 else 4) from by first | (exfalso; revert h302; decide) | rw [if_pos h271] | rw [if_neg h271, if_pos (by omega)] | rw [if_neg h271, if_neg (by omega)]), fq_tr F249 fq_ms⟩ dX9_solve_313
        · refine ti_iconst hx hb dX9_solve_297 ?_
          refine lv_goto (tgt := 302) hx hb dX9_solve_298 (by decide) ?_
          refine ti_icmp_ne (tgt := 309) hx hb dX9_solve_302 (by decide) (by decide) (by decide) (fun h302 => ?_) (fun h302 => ?_)
          · refine ti_iconst hx hb dX9_solve_309 ?_
            refine pf_X9_143 hx hb htw hown hK hW (by assumption) hS dX9_solve_310 (fun H locs hW hS => ?_)
            exact tm_vret hx hb hr hlk hK hW hS ⟨by rw [tl_solve_1 h153, tl_msA]; exact congrArg (fun q => (q, (fdiv (tl_pl (rl M o i)) (tl_sl (rl M o i))))) (show _ = (if (mL M (o + 2) (9 * i + 8)) = 0 then (2 : Int) else if ((mL M (o + 2) (9 * i + 8)) = 1 ↔ 0 < (tl_sl (rl M o i)).1) then 3 else 4) from by first | (exfalso; revert h302; decide) | rw [if_pos h271] | rw [if_neg h271, if_pos (by omega)] | rw [if_neg h271, if_neg (by omega)]), fq_tr F249 fq_ms⟩ dX9_solve_313
          · refine ti_iconst hx hb dX9_solve_305 ?_
            refine lv_goto (tgt := 310) hx hb dX9_solve_306 (by decide) ?_
            refine pf_X9_143 hx hb htw hown hK hW (by assumption) hS dX9_solve_310 (fun H locs hW hS => ?_)
            exact tm_vret hx hb hr hlk hK hW hS ⟨by rw [tl_solve_1 h153, tl_msA]; exact congrArg (fun q => (q, (fdiv (tl_pl (rl M o i)) (tl_sl (rl M o i))))) (show _ = (if (mL M (o + 2) (9 * i + 8)) = 0 then (2 : Int) else if ((mL M (o + 2) (9 * i + 8)) = 1 ↔ 0 < (tl_sl (rl M o i)).1) then 3 else 4) from by first | (exfalso; revert h302; decide) | rw [if_pos h271] | rw [if_neg h271, if_pos (by omega)] | rw [if_neg h271, if_neg (by omega)]), fq_tr F249 fq_ms⟩ dX9_solve_313
    · refine ti_iconst hx hb dX9_solve_275 ?_
      refine lv_goto (tgt := 310) hx hb dX9_solve_276 (by decide) ?_
      refine pf_X9_143 hx hb htw hown hK hW (by assumption) hS dX9_solve_310 (fun H locs hW hS => ?_)
      exact tm_vret hx hb hr hlk hK hW hS ⟨by rw [tl_solve_1 h153, tl_msA]; exact congrArg (fun q => (q, (fdiv (tl_pl (rl M o i)) (tl_sl (rl M o i))))) (show _ = (if (mL M (o + 2) (9 * i + 8)) = 0 then (2 : Int) else if ((mL M (o + 2) (9 * i + 8)) = 1 ↔ 0 < (tl_sl (rl M o i)).1) then 3 else 4) from by first | (exfalso; revert h302; decide) | rw [if_pos h271] | rw [if_neg h271, if_pos (by omega)] | rw [if_neg h271, if_neg (by omega)]), fq_tr F249 fq_ms⟩ dX9_solve_313
  · refine lv_lload_n hx hb dX9_solve_157 rfl (lv_at hl 2 rfl) ?_
    refine ti_lconst0 hx hb dX9_solve_158 ?_
    refine ti_lcmp_ne (tgt := 180) hx hb dX9_solve_159 dX9_solve_160 (by decide) (by omega) (by decide) (fun h159 => ?_) (fun h159 => ?_)
    · refine lv_lload_n hx hb dX9_solve_180 rfl (lv_at hl 2 rfl) ?_
      refine ti_lconst1 hx hb dX9_solve_181 ?_
      refine ti_lcmp_ne (tgt := 203) hx hb dX9_solve_182 dX9_solve_183 (by decide) (by omega) (by decide) (fun h182 => ?_) (fun h182 => ?_)
      · refine lv_aload_n hx hb dX9_solve_203 rfl (lv_at hl 4 rfl) ?_
        refine gf_X9_56 hx hb htw hown hK hW (by assumption) dX9_solve_204 ?_
        rw [show mL (sL (sL M137 o 26 0) o 27 1) o 10 = (tl_pl (rl M o i)).1 from (tm_up_k _ _ (by decide)).trans ((tm_up_k _ _ (by decide)).trans x137)]
        refine ti_lconst0 hx hb dX9_solve_207 ?_
        refine ti_lcmp_ge (tgt := 216) hx hb dX9_solve_208 dX9_solve_209 (by decide) (show inL (tl_pl (rl M o i)).1 by omega) (by decide) (fun h208 => ?_) (fun h208 => ?_)
        · refine ti_iconst hx hb dX9_solve_216 ?_
          refine lv_istore (lv' := [(9, _), (7, _), (5, _), (3, _), (2, _), (0, _), (1, _)]) hx hb dX9_solve_217 hl (by decide) rfl (fun ls hl => ?_)
          refine lv_aload_n hx hb dX9_solve_219 rfl (lv_at hl 5 rfl) ?_
          refine lv_iload hx hb dX9_solve_220 (lv_at hl 0 rfl) ?_
          refine ti_if_eq (tgt := 229) hx hb dX9_solve_222 (by decide) (by decide) (fun h222 => ?_) (fun h222 => ?_)
          · refine ti_iconst hx hb dX9_solve_229 ?_
            refine pf_X9_143 hx hb htw hown hK hW (by assumption) hS dX9_solve_230 (fun H locs hW hS => ?_)
            exact tm_vret hx hb hr hlk hK hW hS ⟨by rw [tl_solve_0 h153, tl_msA]; exact congrArg (fun q => (q, ((0 : Int), (1 : Int)))) (show _ = tl_tz (mL M (o + 2) (9 * i + 8)) _ from by first | exact (tl_tzA h159).1 h168 | exact (tl_tzA h159).2 h168 | exact (tl_tzB h182).1 (by omega) | exact (tl_tzB h182).2 (by omega) | exact (tl_tzC (by omega)).1 (by omega) | exact (tl_tzC (by omega)).2 (by omega)), fq_tr (fq_tr F66 F137) fq_ms⟩ dX9_solve_233
          · refine ti_iconst hx hb dX9_solve_225 ?_
            refine lv_goto (tgt := 230) hx hb dX9_solve_226 (by decide) ?_
            refine pf_X9_143 hx hb htw hown hK hW (by assumption) hS dX9_solve_230 (fun H locs hW hS => ?_)
            exact tm_vret hx hb hr hlk hK hW hS ⟨by rw [tl_solve_0 h153, tl_msA]; exact congrArg (fun q => (q, ((0 : Int), (1 : Int)))) (show _ = tl_tz (mL M (o + 2) (9 * i + 8)) _ from by first | exact (tl_tzA h159).1 h168 | exact (tl_tzA h159).2 h168 | exact (tl_tzB h182).1 (by omega) | exact (tl_tzB h182).2 (by omega) | exact (tl_tzC (by omega)).1 (by omega) | exact (tl_tzC (by omega)).2 (by omega)), fq_tr (fq_tr F66 F137) fq_ms⟩ dX9_solve_233
        · refine ti_iconst hx hb dX9_solve_212 ?_
          refine lv_goto (tgt := 217) hx hb dX9_solve_213 (by decide) ?_
          refine lv_istore (lv' := [(9, _), (7, _), (5, _), (3, _), (2, _), (0, _), (1, _)]) hx hb dX9_solve_217 hl (by decide) rfl (fun ls hl => ?_)
          refine lv_aload_n hx hb dX9_solve_219 rfl (lv_at hl 5 rfl) ?_
          refine lv_iload hx hb dX9_solve_220 (lv_at hl 0 rfl) ?_
          refine ti_if_eq (tgt := 229) hx hb dX9_solve_222 (by decide) (by decide) (fun h222 => ?_) (fun h222 => ?_)
          · refine ti_iconst hx hb dX9_solve_229 ?_
            refine pf_X9_143 hx hb htw hown hK hW (by assumption) hS dX9_solve_230 (fun H locs hW hS => ?_)
            exact tm_vret hx hb hr hlk hK hW hS ⟨by rw [tl_solve_0 h153, tl_msA]; exact congrArg (fun q => (q, ((0 : Int), (1 : Int)))) (show _ = tl_tz (mL M (o + 2) (9 * i + 8)) _ from by first | exact (tl_tzA h159).1 h168 | exact (tl_tzA h159).2 h168 | exact (tl_tzB h182).1 (by omega) | exact (tl_tzB h182).2 (by omega) | exact (tl_tzC (by omega)).1 (by omega) | exact (tl_tzC (by omega)).2 (by omega)), fq_tr (fq_tr F66 F137) fq_ms⟩ dX9_solve_233
          · refine ti_iconst hx hb dX9_solve_225 ?_
            refine lv_goto (tgt := 230) hx hb dX9_solve_226 (by decide) ?_
            refine pf_X9_143 hx hb htw hown hK hW (by assumption) hS dX9_solve_230 (fun H locs hW hS => ?_)
            exact tm_vret hx hb hr hlk hK hW hS ⟨by rw [tl_solve_0 h153, tl_msA]; exact congrArg (fun q => (q, ((0 : Int), (1 : Int)))) (show _ = tl_tz (mL M (o + 2) (9 * i + 8)) _ from by first | exact (tl_tzA h159).1 h168 | exact (tl_tzA h159).2 h168 | exact (tl_tzB h182).1 (by omega) | exact (tl_tzB h182).2 (by omega) | exact (tl_tzC (by omega)).1 (by omega) | exact (tl_tzC (by omega)).2 (by omega)), fq_tr (fq_tr F66 F137) fq_ms⟩ dX9_solve_233
      · refine lv_aload_n hx hb dX9_solve_186 rfl (lv_at hl 4 rfl) ?_
        refine gf_X9_56 hx hb htw hown hK hW (by assumption) dX9_solve_187 ?_
        rw [show mL (sL (sL M137 o 26 0) o 27 1) o 10 = (tl_pl (rl M o i)).1 from (tm_up_k _ _ (by decide)).trans ((tm_up_k _ _ (by decide)).trans x137)]
        refine ti_lconst0 hx hb dX9_solve_190 ?_
        refine ti_lcmp_le (tgt := 199) hx hb dX9_solve_191 dX9_solve_192 (by decide) (show inL (tl_pl (rl M o i)).1 by omega) (by decide) (fun h191 => ?_) (fun h191 => ?_)
        · refine ti_iconst hx hb dX9_solve_199 ?_
          refine lv_goto (tgt := 217) hx hb dX9_solve_200 (by decide) ?_
          refine lv_istore (lv' := [(9, _), (7, _), (5, _), (3, _), (2, _), (0, _), (1, _)]) hx hb dX9_solve_217 hl (by decide) rfl (fun ls hl => ?_)
          refine lv_aload_n hx hb dX9_solve_219 rfl (lv_at hl 5 rfl) ?_
          refine lv_iload hx hb dX9_solve_220 (lv_at hl 0 rfl) ?_
          refine ti_if_eq (tgt := 229) hx hb dX9_solve_222 (by decide) (by decide) (fun h222 => ?_) (fun h222 => ?_)
          · refine ti_iconst hx hb dX9_solve_229 ?_
            refine pf_X9_143 hx hb htw hown hK hW (by assumption) hS dX9_solve_230 (fun H locs hW hS => ?_)
            exact tm_vret hx hb hr hlk hK hW hS ⟨by rw [tl_solve_0 h153, tl_msA]; exact congrArg (fun q => (q, ((0 : Int), (1 : Int)))) (show _ = tl_tz (mL M (o + 2) (9 * i + 8)) _ from by first | exact (tl_tzA h159).1 h168 | exact (tl_tzA h159).2 h168 | exact (tl_tzB h182).1 (by omega) | exact (tl_tzB h182).2 (by omega) | exact (tl_tzC (by omega)).1 (by omega) | exact (tl_tzC (by omega)).2 (by omega)), fq_tr (fq_tr F66 F137) fq_ms⟩ dX9_solve_233
          · refine ti_iconst hx hb dX9_solve_225 ?_
            refine lv_goto (tgt := 230) hx hb dX9_solve_226 (by decide) ?_
            refine pf_X9_143 hx hb htw hown hK hW (by assumption) hS dX9_solve_230 (fun H locs hW hS => ?_)
            exact tm_vret hx hb hr hlk hK hW hS ⟨by rw [tl_solve_0 h153, tl_msA]; exact congrArg (fun q => (q, ((0 : Int), (1 : Int)))) (show _ = tl_tz (mL M (o + 2) (9 * i + 8)) _ from by first | exact (tl_tzA h159).1 h168 | exact (tl_tzA h159).2 h168 | exact (tl_tzB h182).1 (by omega) | exact (tl_tzB h182).2 (by omega) | exact (tl_tzC (by omega)).1 (by omega) | exact (tl_tzC (by omega)).2 (by omega)), fq_tr (fq_tr F66 F137) fq_ms⟩ dX9_solve_233
        · refine ti_iconst hx hb dX9_solve_195 ?_
          refine lv_goto (tgt := 217) hx hb dX9_solve_196 (by decide) ?_
          refine lv_istore (lv' := [(9, _), (7, _), (5, _), (3, _), (2, _), (0, _), (1, _)]) hx hb dX9_solve_217 hl (by decide) rfl (fun ls hl => ?_)
          refine lv_aload_n hx hb dX9_solve_219 rfl (lv_at hl 5 rfl) ?_
          refine lv_iload hx hb dX9_solve_220 (lv_at hl 0 rfl) ?_
          refine ti_if_eq (tgt := 229) hx hb dX9_solve_222 (by decide) (by decide) (fun h222 => ?_) (fun h222 => ?_)
          · refine ti_iconst hx hb dX9_solve_229 ?_
            refine pf_X9_143 hx hb htw hown hK hW (by assumption) hS dX9_solve_230 (fun H locs hW hS => ?_)
            exact tm_vret hx hb hr hlk hK hW hS ⟨by rw [tl_solve_0 h153, tl_msA]; exact congrArg (fun q => (q, ((0 : Int), (1 : Int)))) (show _ = tl_tz (mL M (o + 2) (9 * i + 8)) _ from by first | exact (tl_tzA h159).1 h168 | exact (tl_tzA h159).2 h168 | exact (tl_tzB h182).1 (by omega) | exact (tl_tzB h182).2 (by omega) | exact (tl_tzC (by omega)).1 (by omega) | exact (tl_tzC (by omega)).2 (by omega)), fq_tr (fq_tr F66 F137) fq_ms⟩ dX9_solve_233
          · refine ti_iconst hx hb dX9_solve_225 ?_
            refine lv_goto (tgt := 230) hx hb dX9_solve_226 (by decide) ?_
            refine pf_X9_143 hx hb htw hown hK hW (by assumption) hS dX9_solve_230 (fun H locs hW hS => ?_)
            exact tm_vret hx hb hr hlk hK hW hS ⟨by rw [tl_solve_0 h153, tl_msA]; exact congrArg (fun q => (q, ((0 : Int), (1 : Int)))) (show _ = tl_tz (mL M (o + 2) (9 * i + 8)) _ from by first | exact (tl_tzA h159).1 h168 | exact (tl_tzA h159).2 h168 | exact (tl_tzB h182).1 (by omega) | exact (tl_tzB h182).2 (by omega) | exact (tl_tzC (by omega)).1 (by omega) | exact (tl_tzC (by omega)).2 (by omega)), fq_tr (fq_tr F66 F137) fq_ms⟩ dX9_solve_233
    · refine lv_aload_n hx hb dX9_solve_163 rfl (lv_at hl 4 rfl) ?_
      refine gf_X9_56 hx hb htw hown hK hW (by assumption) dX9_solve_164 ?_
      rw [show mL (sL (sL M137 o 26 0) o 27 1) o 10 = (tl_pl (rl M o i)).1 from (tm_up_k _ _ (by decide)).trans ((tm_up_k _ _ (by decide)).trans x137)]
      refine ti_lconst0 hx hb dX9_solve_167 ?_
      refine ti_lcmp_ne (tgt := 176) hx hb dX9_solve_168 dX9_solve_169 (by decide) (show inL (tl_pl (rl M o i)).1 by omega) (by decide) (fun h168 => ?_) (fun h168 => ?_)
      · refine ti_iconst hx hb dX9_solve_176 ?_
        refine lv_goto (tgt := 217) hx hb dX9_solve_177 (by decide) ?_
        refine lv_istore (lv' := [(9, _), (7, _), (5, _), (3, _), (2, _), (0, _), (1, _)]) hx hb dX9_solve_217 hl (by decide) rfl (fun ls hl => ?_)
        refine lv_aload_n hx hb dX9_solve_219 rfl (lv_at hl 5 rfl) ?_
        refine lv_iload hx hb dX9_solve_220 (lv_at hl 0 rfl) ?_
        refine ti_if_eq (tgt := 229) hx hb dX9_solve_222 (by decide) (by decide) (fun h222 => ?_) (fun h222 => ?_)
        · refine ti_iconst hx hb dX9_solve_229 ?_
          refine pf_X9_143 hx hb htw hown hK hW (by assumption) hS dX9_solve_230 (fun H locs hW hS => ?_)
          exact tm_vret hx hb hr hlk hK hW hS ⟨by rw [tl_solve_0 h153, tl_msA]; exact congrArg (fun q => (q, ((0 : Int), (1 : Int)))) (show _ = tl_tz (mL M (o + 2) (9 * i + 8)) _ from by first | exact (tl_tzA h159).1 h168 | exact (tl_tzA h159).2 h168 | exact (tl_tzB h182).1 (by omega) | exact (tl_tzB h182).2 (by omega) | exact (tl_tzC (by omega)).1 (by omega) | exact (tl_tzC (by omega)).2 (by omega)), fq_tr (fq_tr F66 F137) fq_ms⟩ dX9_solve_233
        · refine ti_iconst hx hb dX9_solve_225 ?_
          refine lv_goto (tgt := 230) hx hb dX9_solve_226 (by decide) ?_
          refine pf_X9_143 hx hb htw hown hK hW (by assumption) hS dX9_solve_230 (fun H locs hW hS => ?_)
          exact tm_vret hx hb hr hlk hK hW hS ⟨by rw [tl_solve_0 h153, tl_msA]; exact congrArg (fun q => (q, ((0 : Int), (1 : Int)))) (show _ = tl_tz (mL M (o + 2) (9 * i + 8)) _ from by first | exact (tl_tzA h159).1 h168 | exact (tl_tzA h159).2 h168 | exact (tl_tzB h182).1 (by omega) | exact (tl_tzB h182).2 (by omega) | exact (tl_tzC (by omega)).1 (by omega) | exact (tl_tzC (by omega)).2 (by omega)), fq_tr (fq_tr F66 F137) fq_ms⟩ dX9_solve_233
      · refine ti_iconst hx hb dX9_solve_172 ?_
        refine lv_goto (tgt := 217) hx hb dX9_solve_173 (by decide) ?_
        refine lv_istore (lv' := [(9, _), (7, _), (5, _), (3, _), (2, _), (0, _), (1, _)]) hx hb dX9_solve_217 hl (by decide) rfl (fun ls hl => ?_)
        refine lv_aload_n hx hb dX9_solve_219 rfl (lv_at hl 5 rfl) ?_
        refine lv_iload hx hb dX9_solve_220 (lv_at hl 0 rfl) ?_
        refine ti_if_eq (tgt := 229) hx hb dX9_solve_222 (by decide) (by decide) (fun h222 => ?_) (fun h222 => ?_)
        · refine ti_iconst hx hb dX9_solve_229 ?_
          refine pf_X9_143 hx hb htw hown hK hW (by assumption) hS dX9_solve_230 (fun H locs hW hS => ?_)
          exact tm_vret hx hb hr hlk hK hW hS ⟨by rw [tl_solve_0 h153, tl_msA]; exact congrArg (fun q => (q, ((0 : Int), (1 : Int)))) (show _ = tl_tz (mL M (o + 2) (9 * i + 8)) _ from by first | exact (tl_tzA h159).1 h168 | exact (tl_tzA h159).2 h168 | exact (tl_tzB h182).1 (by omega) | exact (tl_tzB h182).2 (by omega) | exact (tl_tzC (by omega)).1 (by omega) | exact (tl_tzC (by omega)).2 (by omega)), fq_tr (fq_tr F66 F137) fq_ms⟩ dX9_solve_233
        · refine ti_iconst hx hb dX9_solve_225 ?_
          refine lv_goto (tgt := 230) hx hb dX9_solve_226 (by decide) ?_
          refine pf_X9_143 hx hb htw hown hK hW (by assumption) hS dX9_solve_230 (fun H locs hW hS => ?_)
          exact tm_vret hx hb hr hlk hK hW hS ⟨by rw [tl_solve_0 h153, tl_msA]; exact congrArg (fun q => (q, ((0 : Int), (1 : Int)))) (show _ = tl_tz (mL M (o + 2) (9 * i + 8)) _ from by first | exact (tl_tzA h159).1 h168 | exact (tl_tzA h159).2 h168 | exact (tl_tzB h182).1 (by omega) | exact (tl_tzB h182).2 (by omega) | exact (tl_tzC (by omega)).1 (by omega) | exact (tl_tzC (by omega)).2 (by omega)), fq_tr (fq_tr F66 F137) fq_ms⟩ dX9_solve_233
theorem tl_holds_c {v : Int × tl_F} {x : tl_F} (h1 : Int.gcd x.1 x.2 = 1) (h2 : Int.gcd v.2.1 v.2.2 = 1) (hx : 0 < x.2) (hv : 0 < v.2.2) : (cmpF x v.2 = 0 ↔ x = v.2) := (tl_cmp_same hx hv h1 h2).trans ⟨fun q => Prod.ext q.1 q.2, fun q => ⟨congrArg Prod.fst q, congrArg Prod.snd q⟩⟩
theorem tl_hA {v : Int × tl_F} {x : tl_F} (h : v.1 < 2) (h0 : 0 ≤ v.1) : (v.1 = 1 → 1 = tl_holds v x) ∧ (¬ v.1 = 1 → 0 = tl_holds v x) := by
  unfold tl_holds
  refine ⟨fun q => by rw [if_pos q], fun q => by rw [if_neg q, if_neg (by omega), if_neg (by omega), if_neg (by omega)]⟩
theorem tl_hB {v : Int × tl_F} {x : tl_F} (h : v.1 = 2) (hc : cmpF x v.2 = 0 ↔ x = v.2) : (cmpF x v.2 = 0 → 1 = tl_holds v x) ∧ (¬ cmpF x v.2 = 0 → 0 = tl_holds v x) := by
  unfold tl_holds
  rw [if_neg (by omega), if_pos h]
  exact ⟨fun q => tl_b_t (hc.mp q), fun q => tl_b_f (fun z => q (hc.mpr z))⟩
theorem tl_hC {v : Int × tl_F} {x : tl_F} (h : v.1 = 3) : (cmpF x v.2 < 0 → 1 = tl_holds v x) ∧ (¬ cmpF x v.2 < 0 → 0 = tl_holds v x) := by
  unfold tl_holds
  rw [if_neg (by omega), if_neg (by omega), if_pos h]
  exact ⟨fun q => tl_b_t q, fun q => tl_b_f q⟩
theorem tl_hD {v : Int × tl_F} {x : tl_F} (h : v.1 = 4) : (0 < cmpF x v.2 → 1 = tl_holds v x) ∧ (¬ 0 < cmpF x v.2 → 0 = tl_holds v x) := by
  unfold tl_holds
  rw [if_neg (by omega), if_neg (by omega), if_neg (by omega), if_pos h]
  exact ⟨fun q => tl_b_t q, fun q => tl_b_f q⟩
def nok (f : tl_F) : Prop := pok f ∧ Int.gcd f.1 f.2 = 1
theorem nok_solve {v : tl_L} (h : lok v) : nok (tl_solve v).2 := ⟨(sook_solve h).1.2.2, (sook_solve h).2.2.2.2⟩
theorem dX9_solves_0 : decode cX9_solves 0 = .ok (.aload_n 0, 1) := by decide +kernel
theorem dX9_solves_1 : decode cX9_solves 1 = .ok (.getfield 143, 3) := by decide +kernel
theorem dX9_solves_4 : decode cX9_solves 4 = .ok (.iconst 2, 1) := by decide +kernel
theorem dX9_solves_5 : decode cX9_solves 5 = .ok (.if_icmp .ge 17, 3) := by decide +kernel
theorem dX9_solves_8 : decode cX9_solves 8 = .ok (.aload_n 0, 1) := by decide +kernel
theorem dX9_solves_9 : decode cX9_solves 9 = .ok (.getfield 143, 3) := by decide +kernel
theorem dX9_solves_12 : decode cX9_solves 12 = .ok (.iconst 1, 1) := by decide +kernel
theorem dX9_solves_13 : decode cX9_solves 13 = .ok (.if_icmp .ne 7, 3) := by decide +kernel
theorem dX9_solves_16 : decode cX9_solves 16 = .ok (.iconst 1, 1) := by decide +kernel
theorem dX9_solves_17 : decode cX9_solves 17 = .ok (.goto 4, 3) := by decide +kernel
theorem dX9_solves_20 : decode cX9_solves 20 = .ok (.iconst 0, 1) := by decide +kernel
theorem dX9_solves_21 : decode cX9_solves 21 = .ok (.ireturn, 1) := by decide +kernel
theorem dX9_solves_22 : decode cX9_solves 22 = .ok (.aload_n 0, 1) := by decide +kernel
theorem dX9_solves_23 : decode cX9_solves 23 = .ok (.lload_n 1, 1) := by decide +kernel
theorem dX9_solves_24 : decode cX9_solves 24 = .ok (.lload_n 3, 1) := by decide +kernel
theorem dX9_solves_25 : decode cX9_solves 25 = .ok (.invokevirtual 149, 3) := by decide +kernel
theorem dX9_solves_28 : decode cX9_solves 28 = .ok (.istore 5, 2) := by decide +kernel
theorem dX9_solves_30 : decode cX9_solves 30 = .ok (.aload_n 0, 1) := by decide +kernel
theorem dX9_solves_31 : decode cX9_solves 31 = .ok (.getfield 143, 3) := by decide +kernel
theorem dX9_solves_34 : decode cX9_solves 34 = .ok (.iconst 2, 1) := by decide +kernel
theorem dX9_solves_35 : decode cX9_solves 35 = .ok (.if_icmp .ne 16, 3) := by decide +kernel
theorem dX9_solves_38 : decode cX9_solves 38 = .ok (.iload 5, 2) := by decide +kernel
theorem dX9_solves_40 : decode cX9_solves 40 = .ok (.ifCond .ne 7, 3) := by decide +kernel
theorem dX9_solves_43 : decode cX9_solves 43 = .ok (.iconst 1, 1) := by decide +kernel
theorem dX9_solves_44 : decode cX9_solves 44 = .ok (.goto 38, 3) := by decide +kernel
theorem dX9_solves_47 : decode cX9_solves 47 = .ok (.iconst 0, 1) := by decide +kernel
theorem dX9_solves_48 : decode cX9_solves 48 = .ok (.goto 34, 3) := by decide +kernel
theorem dX9_solves_51 : decode cX9_solves 51 = .ok (.aload_n 0, 1) := by decide +kernel
theorem dX9_solves_52 : decode cX9_solves 52 = .ok (.getfield 143, 3) := by decide +kernel
theorem dX9_solves_55 : decode cX9_solves 55 = .ok (.iconst 3, 1) := by decide +kernel
theorem dX9_solves_56 : decode cX9_solves 56 = .ok (.if_icmp .ne 16, 3) := by decide +kernel
theorem dX9_solves_59 : decode cX9_solves 59 = .ok (.iload 5, 2) := by decide +kernel
theorem dX9_solves_61 : decode cX9_solves 61 = .ok (.ifCond .ge 7, 3) := by decide +kernel
theorem dX9_solves_64 : decode cX9_solves 64 = .ok (.iconst 1, 1) := by decide +kernel
theorem dX9_solves_65 : decode cX9_solves 65 = .ok (.goto 17, 3) := by decide +kernel
theorem dX9_solves_68 : decode cX9_solves 68 = .ok (.iconst 0, 1) := by decide +kernel
theorem dX9_solves_69 : decode cX9_solves 69 = .ok (.goto 13, 3) := by decide +kernel
theorem dX9_solves_72 : decode cX9_solves 72 = .ok (.iload 5, 2) := by decide +kernel
theorem dX9_solves_74 : decode cX9_solves 74 = .ok (.ifCond .le 7, 3) := by decide +kernel
theorem dX9_solves_77 : decode cX9_solves 77 = .ok (.iconst 1, 1) := by decide +kernel
theorem dX9_solves_78 : decode cX9_solves 78 = .ok (.goto 4, 3) := by decide +kernel
theorem dX9_solves_81 : decode cX9_solves 81 = .ok (.iconst 0, 1) := by decide +kernel
theorem dX9_solves_82 : decode cX9_solves 82 = .ok (.ireturn, 1) := by decide +kernel
set_option maxHeartbeats 4000000 in
set_option maxRecDepth 100000 in
/-- TutorLinesModel.solves -/
theorem c_X9_solves {l : Launch} {G : tm_G} {Hb : Heap} {sh : tm_sh} {M : tm_M} {o : Nat} {x y : Int} (h0 : sh o = some (9, 0)) (hk : 0 ≤ (ms M o).1 ∧ (ms M o).1 ≤ 4) (hn : nok (ms M o).2) (hx1 : nok (x, y)) : Met l yX9_solves (tws yX9_solves cX9_solves 6 (some .boolean)) ({ frames := 2, cells := 0, slots := 0, locals := 63 }) (va_Pc [.ref o, jl x, jl y] (tm_St G Hb sh M)) (tm_Qi G Hb sh (fun r M1 => r = tl_holds (ms M o) (x, y) ∧ M1 = M)) 0 0 (tm_A Hb) := by
  refine tm_begin (by decide) (Nat.le_of_ble_eq_true rfl) (fun p e s m below meth c ls hx hb hr hml hown htw hlk hnm hK hW hl => ?_)
  have hS : va_S (tm_A Hb) s.heap s.heap [] := va_S.rf
  have hl : lv_has ls 6 [(0, .ref o), (1, jl x), (3, jl y)] := hl
  have hk2 : 0 ≤ mI M o 25 ∧ mI M o 25 ≤ 4 := hk
  refine lv_aload_n hx hb dX9_solves_0 rfl (lv_at hl 0 rfl) ?_
  refine gf_X9_143 hx hb htw hown hK hW (by assumption) dX9_solves_1 ?_
  refine ti_iconst hx hb dX9_solves_4 ?_
  refine ti_icmp_ge (tgt := 22) hx hb dX9_solves_5 (by decide) (by omega) (by decide) (fun h5 => ?_) (fun h5 => ?_)
  · refine lv_aload_n hx hb dX9_solves_22 rfl (lv_at hl 0 rfl) ?_
    refine lv_lload_n hx hb dX9_solves_23 rfl (lv_at hl 1 rfl) ?_
    refine lv_lload_n hx hb dX9_solves_24 rfl (lv_at hl 2 rfl) ?_
    refine tm_calli (cs_X9_149 hx hb hml hown htw hK hW (by assumption) (c_X9_order h0 hx1.1 hn.1) ⟨rfl, rfl, Nat.le_of_ble_eq_true rfl, Nat.le_of_ble_eq_true rfl⟩ hl.1 (Nat.le_of_ble_eq_true rfl) dX9_solves_25 ⟨Nat.le_of_ble_eq_true rfl, Nat.le_of_ble_eq_true rfl⟩) hS (fun x25 M25 H locs hp25 hW hS => ?_)
    obtain ⟨ex25, eM25⟩ := hp25
    rw [eM25] at hW
    rw [ex25]
    have hk2 : 0 ≤ mI M o 25 ∧ mI M o 25 ≤ 4 := hk
    refine lv_istore (lv' := [(5, _), (0, _), (1, _), (3, _)]) hx hb dX9_solves_28 hl (by decide) rfl (fun ls hl => ?_)
    refine lv_aload_n hx hb dX9_solves_30 rfl (lv_at hl 1 rfl) ?_
    refine gf_X9_143 hx hb htw hown hK hW (by assumption) dX9_solves_31 ?_
    refine ti_iconst hx hb dX9_solves_34 ?_
    refine ti_icmp_ne (tgt := 51) hx hb dX9_solves_35 (by decide) (by omega) (by decide) (fun h35 => ?_) (fun h35 => ?_)
    · refine lv_aload_n hx hb dX9_solves_51 rfl (lv_at hl 1 rfl) ?_
      refine gf_X9_143 hx hb htw hown hK hW (by assumption) dX9_solves_52 ?_
      refine ti_iconst hx hb dX9_solves_55 ?_
      refine ti_icmp_ne (tgt := 72) hx hb dX9_solves_56 (by decide) (by omega) (by decide) (fun h56 => ?_) (fun h56 => ?_)
      · refine lv_iload hx hb dX9_solves_72 (lv_at hl 0 rfl) ?_
        refine ti_if_le (tgt := 81) hx hb dX9_solves_74 (by decide) (tl_cmp_r _ _ _ _) (fun h74 => ?_) (fun h74 => ?_)
        · refine ti_iconst hx hb dX9_solves_81 ?_
          exact tm_zret hx hb hr hlk (by first | exact Or.inl rfl | exact Or.inr rfl | assumption) hK hW hS ⟨by first | exact (tl_hA (v := ms M o) (show mI M o 25 < 2 by omega) (show 0 ≤ mI M o 25 by omega)).1 (show mI M o 25 = 1 by omega) | exact (tl_hA (v := ms M o) (show mI M o 25 < 2 by omega) (show 0 ≤ mI M o 25 by omega)).2 (show ¬ mI M o 25 = 1 by omega) | exact (tl_hB (v := ms M o) h35 (tl_holds_c hx1.2 hn.2 hx1.1.2.1 hn.1.2.1)).1 h40 | exact (tl_hB (v := ms M o) h35 (tl_holds_c hx1.2 hn.2 hx1.1.2.1 hn.1.2.1)).2 h40 | exact (tl_hC (v := ms M o) h56).1 (show tl_cmp x y (mL M o 26) (mL M o 27) < 0 by omega) | exact (tl_hC (v := ms M o) h56).2 (show ¬ tl_cmp x y (mL M o 26) (mL M o 27) < 0 by omega) | exact (tl_hD (v := ms M o) (show mI M o 25 = 4 by omega)).1 (show 0 < tl_cmp x y (mL M o 26) (mL M o 27) by omega) | exact (tl_hD (v := ms M o) (show mI M o 25 = 4 by omega)).2 (show ¬ 0 < tl_cmp x y (mL M o 26) (mL M o 27) by omega), rfl⟩ dX9_solves_82
        · refine ti_iconst hx hb dX9_solves_77 ?_
          refine lv_goto (tgt := 82) hx hb dX9_solves_78 (by decide) ?_
          exact tm_zret hx hb hr hlk (by first | exact Or.inl rfl | exact Or.inr rfl | assumption) hK hW hS ⟨by first | exact (tl_hA (v := ms M o) (show mI M o 25 < 2 by omega) (show 0 ≤ mI M o 25 by omega)).1 (show mI M o 25 = 1 by omega) | exact (tl_hA (v := ms M o) (show mI M o 25 < 2 by omega) (show 0 ≤ mI M o 25 by omega)).2 (show ¬ mI M o 25 = 1 by omega) | exact (tl_hB (v := ms M o) h35 (tl_holds_c hx1.2 hn.2 hx1.1.2.1 hn.1.2.1)).1 h40 | exact (tl_hB (v := ms M o) h35 (tl_holds_c hx1.2 hn.2 hx1.1.2.1 hn.1.2.1)).2 h40 | exact (tl_hC (v := ms M o) h56).1 (show tl_cmp x y (mL M o 26) (mL M o 27) < 0 by omega) | exact (tl_hC (v := ms M o) h56).2 (show ¬ tl_cmp x y (mL M o 26) (mL M o 27) < 0 by omega) | exact (tl_hD (v := ms M o) (show mI M o 25 = 4 by omega)).1 (show 0 < tl_cmp x y (mL M o 26) (mL M o 27) by omega) | exact (tl_hD (v := ms M o) (show mI M o 25 = 4 by omega)).2 (show ¬ 0 < tl_cmp x y (mL M o 26) (mL M o 27) by omega), rfl⟩ dX9_solves_82
      · refine lv_iload hx hb dX9_solves_59 (lv_at hl 0 rfl) ?_
        refine ti_if_ge (tgt := 68) hx hb dX9_solves_61 (by decide) (tl_cmp_r _ _ _ _) (fun h61 => ?_) (fun h61 => ?_)
        · refine ti_iconst hx hb dX9_solves_68 ?_
          refine lv_goto (tgt := 82) hx hb dX9_solves_69 (by decide) ?_
          exact tm_zret hx hb hr hlk (by first | exact Or.inl rfl | exact Or.inr rfl | assumption) hK hW hS ⟨by first | exact (tl_hA (v := ms M o) (show mI M o 25 < 2 by omega) (show 0 ≤ mI M o 25 by omega)).1 (show mI M o 25 = 1 by omega) | exact (tl_hA (v := ms M o) (show mI M o 25 < 2 by omega) (show 0 ≤ mI M o 25 by omega)).2 (show ¬ mI M o 25 = 1 by omega) | exact (tl_hB (v := ms M o) h35 (tl_holds_c hx1.2 hn.2 hx1.1.2.1 hn.1.2.1)).1 h40 | exact (tl_hB (v := ms M o) h35 (tl_holds_c hx1.2 hn.2 hx1.1.2.1 hn.1.2.1)).2 h40 | exact (tl_hC (v := ms M o) h56).1 (show tl_cmp x y (mL M o 26) (mL M o 27) < 0 by omega) | exact (tl_hC (v := ms M o) h56).2 (show ¬ tl_cmp x y (mL M o 26) (mL M o 27) < 0 by omega) | exact (tl_hD (v := ms M o) (show mI M o 25 = 4 by omega)).1 (show 0 < tl_cmp x y (mL M o 26) (mL M o 27) by omega) | exact (tl_hD (v := ms M o) (show mI M o 25 = 4 by omega)).2 (show ¬ 0 < tl_cmp x y (mL M o 26) (mL M o 27) by omega), rfl⟩ dX9_solves_82
        · refine ti_iconst hx hb dX9_solves_64 ?_
          refine lv_goto (tgt := 82) hx hb dX9_solves_65 (by decide) ?_
          exact tm_zret hx hb hr hlk (by first | exact Or.inl rfl | exact Or.inr rfl | assumption) hK hW hS ⟨by first | exact (tl_hA (v := ms M o) (show mI M o 25 < 2 by omega) (show 0 ≤ mI M o 25 by omega)).1 (show mI M o 25 = 1 by omega) | exact (tl_hA (v := ms M o) (show mI M o 25 < 2 by omega) (show 0 ≤ mI M o 25 by omega)).2 (show ¬ mI M o 25 = 1 by omega) | exact (tl_hB (v := ms M o) h35 (tl_holds_c hx1.2 hn.2 hx1.1.2.1 hn.1.2.1)).1 h40 | exact (tl_hB (v := ms M o) h35 (tl_holds_c hx1.2 hn.2 hx1.1.2.1 hn.1.2.1)).2 h40 | exact (tl_hC (v := ms M o) h56).1 (show tl_cmp x y (mL M o 26) (mL M o 27) < 0 by omega) | exact (tl_hC (v := ms M o) h56).2 (show ¬ tl_cmp x y (mL M o 26) (mL M o 27) < 0 by omega) | exact (tl_hD (v := ms M o) (show mI M o 25 = 4 by omega)).1 (show 0 < tl_cmp x y (mL M o 26) (mL M o 27) by omega) | exact (tl_hD (v := ms M o) (show mI M o 25 = 4 by omega)).2 (show ¬ 0 < tl_cmp x y (mL M o 26) (mL M o 27) by omega), rfl⟩ dX9_solves_82
    · refine lv_iload hx hb dX9_solves_38 (lv_at hl 0 rfl) ?_
      refine ti_if_ne (tgt := 47) hx hb dX9_solves_40 (by decide) (tl_cmp_r _ _ _ _) (fun h40 => ?_) (fun h40 => ?_)
      · refine ti_iconst hx hb dX9_solves_47 ?_
        refine lv_goto (tgt := 82) hx hb dX9_solves_48 (by decide) ?_
        exact tm_zret hx hb hr hlk (by first | exact Or.inl rfl | exact Or.inr rfl | assumption) hK hW hS ⟨by first | exact (tl_hA (v := ms M o) (show mI M o 25 < 2 by omega) (show 0 ≤ mI M o 25 by omega)).1 (show mI M o 25 = 1 by omega) | exact (tl_hA (v := ms M o) (show mI M o 25 < 2 by omega) (show 0 ≤ mI M o 25 by omega)).2 (show ¬ mI M o 25 = 1 by omega) | exact (tl_hB (v := ms M o) h35 (tl_holds_c hx1.2 hn.2 hx1.1.2.1 hn.1.2.1)).1 h40 | exact (tl_hB (v := ms M o) h35 (tl_holds_c hx1.2 hn.2 hx1.1.2.1 hn.1.2.1)).2 h40 | exact (tl_hC (v := ms M o) h56).1 (show tl_cmp x y (mL M o 26) (mL M o 27) < 0 by omega) | exact (tl_hC (v := ms M o) h56).2 (show ¬ tl_cmp x y (mL M o 26) (mL M o 27) < 0 by omega) | exact (tl_hD (v := ms M o) (show mI M o 25 = 4 by omega)).1 (show 0 < tl_cmp x y (mL M o 26) (mL M o 27) by omega) | exact (tl_hD (v := ms M o) (show mI M o 25 = 4 by omega)).2 (show ¬ 0 < tl_cmp x y (mL M o 26) (mL M o 27) by omega), rfl⟩ dX9_solves_82
      · refine ti_iconst hx hb dX9_solves_43 ?_
        refine lv_goto (tgt := 82) hx hb dX9_solves_44 (by decide) ?_
        exact tm_zret hx hb hr hlk (by first | exact Or.inl rfl | exact Or.inr rfl | assumption) hK hW hS ⟨by first | exact (tl_hA (v := ms M o) (show mI M o 25 < 2 by omega) (show 0 ≤ mI M o 25 by omega)).1 (show mI M o 25 = 1 by omega) | exact (tl_hA (v := ms M o) (show mI M o 25 < 2 by omega) (show 0 ≤ mI M o 25 by omega)).2 (show ¬ mI M o 25 = 1 by omega) | exact (tl_hB (v := ms M o) h35 (tl_holds_c hx1.2 hn.2 hx1.1.2.1 hn.1.2.1)).1 h40 | exact (tl_hB (v := ms M o) h35 (tl_holds_c hx1.2 hn.2 hx1.1.2.1 hn.1.2.1)).2 h40 | exact (tl_hC (v := ms M o) h56).1 (show tl_cmp x y (mL M o 26) (mL M o 27) < 0 by omega) | exact (tl_hC (v := ms M o) h56).2 (show ¬ tl_cmp x y (mL M o 26) (mL M o 27) < 0 by omega) | exact (tl_hD (v := ms M o) (show mI M o 25 = 4 by omega)).1 (show 0 < tl_cmp x y (mL M o 26) (mL M o 27) by omega) | exact (tl_hD (v := ms M o) (show mI M o 25 = 4 by omega)).2 (show ¬ 0 < tl_cmp x y (mL M o 26) (mL M o 27) by omega), rfl⟩ dX9_solves_82
  · refine lv_aload_n hx hb dX9_solves_8 rfl (lv_at hl 0 rfl) ?_
    refine gf_X9_143 hx hb htw hown hK hW (by assumption) dX9_solves_9 ?_
    refine ti_iconst hx hb dX9_solves_12 ?_
    refine ti_icmp_ne (tgt := 20) hx hb dX9_solves_13 (by decide) (by omega) (by decide) (fun h13 => ?_) (fun h13 => ?_)
    · refine ti_iconst hx hb dX9_solves_20 ?_
      exact tm_zret hx hb hr hlk (by first | exact Or.inl rfl | exact Or.inr rfl | assumption) hK hW hS ⟨by first | exact (tl_hA (v := ms M o) (show mI M o 25 < 2 by omega) (show 0 ≤ mI M o 25 by omega)).1 (show mI M o 25 = 1 by omega) | exact (tl_hA (v := ms M o) (show mI M o 25 < 2 by omega) (show 0 ≤ mI M o 25 by omega)).2 (show ¬ mI M o 25 = 1 by omega) | exact (tl_hB (v := ms M o) h35 (tl_holds_c hx1.2 hn.2 hx1.1.2.1 hn.1.2.1)).1 h40 | exact (tl_hB (v := ms M o) h35 (tl_holds_c hx1.2 hn.2 hx1.1.2.1 hn.1.2.1)).2 h40 | exact (tl_hC (v := ms M o) h56).1 (show tl_cmp x y (mL M o 26) (mL M o 27) < 0 by omega) | exact (tl_hC (v := ms M o) h56).2 (show ¬ tl_cmp x y (mL M o 26) (mL M o 27) < 0 by omega) | exact (tl_hD (v := ms M o) (show mI M o 25 = 4 by omega)).1 (show 0 < tl_cmp x y (mL M o 26) (mL M o 27) by omega) | exact (tl_hD (v := ms M o) (show mI M o 25 = 4 by omega)).2 (show ¬ 0 < tl_cmp x y (mL M o 26) (mL M o 27) by omega), rfl⟩ dX9_solves_21
    · refine ti_iconst hx hb dX9_solves_16 ?_
      refine lv_goto (tgt := 21) hx hb dX9_solves_17 (by decide) ?_
      exact tm_zret hx hb hr hlk (by first | exact Or.inl rfl | exact Or.inr rfl | assumption) hK hW hS ⟨by first | exact (tl_hA (v := ms M o) (show mI M o 25 < 2 by omega) (show 0 ≤ mI M o 25 by omega)).1 (show mI M o 25 = 1 by omega) | exact (tl_hA (v := ms M o) (show mI M o 25 < 2 by omega) (show 0 ≤ mI M o 25 by omega)).2 (show ¬ mI M o 25 = 1 by omega) | exact (tl_hB (v := ms M o) h35 (tl_holds_c hx1.2 hn.2 hx1.1.2.1 hn.1.2.1)).1 h40 | exact (tl_hB (v := ms M o) h35 (tl_holds_c hx1.2 hn.2 hx1.1.2.1 hn.1.2.1)).2 h40 | exact (tl_hC (v := ms M o) h56).1 (show tl_cmp x y (mL M o 26) (mL M o 27) < 0 by omega) | exact (tl_hC (v := ms M o) h56).2 (show ¬ tl_cmp x y (mL M o 26) (mL M o 27) < 0 by omega) | exact (tl_hD (v := ms M o) (show mI M o 25 = 4 by omega)).1 (show 0 < tl_cmp x y (mL M o 26) (mL M o 27) by omega) | exact (tl_hD (v := ms M o) (show mI M o 25 = 4 by omega)).2 (show ¬ 0 < tl_cmp x y (mL M o 26) (mL M o 27) by omega), rfl⟩ dX9_solves_21
theorem tl_pA {a b : Int × tl_F} (h : a.1 = 0 ∨ b.1 = 1) : 1 = tl_part a b := by
  unfold tl_part
  rw [if_pos h]
theorem tl_pB {a b : Int × tl_F} (h : ¬ (a.1 = 0 ∨ b.1 = 1)) (h2 : a.1 = 2) : tl_holds b a.2 = tl_part a b := by
  unfold tl_part
  rw [if_neg h, if_pos h2]
theorem tl_pC {a b : Int × tl_F} (h : ¬ (a.1 = 0 ∨ b.1 = 1)) (h2 : ¬ a.1 = 2) (h3 : a.1 ≠ b.1) : 0 = tl_part a b := by
  unfold tl_part
  rw [if_neg h, if_neg h2, if_pos h3]
theorem tl_pD {a b : Int × tl_F} (h : ¬ (a.1 = 0 ∨ b.1 = 1)) (h2 : ¬ a.1 = 2) (h3 : a.1 = b.1) (h4 : a.1 = 3) : (cmpF a.2 b.2 ≤ 0 → 1 = tl_part a b) ∧ (¬ cmpF a.2 b.2 ≤ 0 → 0 = tl_part a b) := by
  unfold tl_part
  rw [if_neg h, if_neg h2, if_neg (fun q => q h3), if_pos h4]
  exact ⟨fun q => tl_b_t q, fun q => tl_b_f q⟩
theorem tl_pE {a b : Int × tl_F} (h : ¬ (a.1 = 0 ∨ b.1 = 1)) (h2 : ¬ a.1 = 2) (h3 : a.1 = b.1) (h4 : ¬ a.1 = 3) : (0 ≤ cmpF a.2 b.2 → 1 = tl_part a b) ∧ (¬ 0 ≤ cmpF a.2 b.2 → 0 = tl_part a b) := by
  unfold tl_part
  rw [if_neg h, if_neg h2, if_neg (fun q => q h3), if_neg h4]
  exact ⟨fun q => tl_b_t q, fun q => tl_b_f q⟩
theorem dX9_isPart_0 : decode cX9_isPart 0 = .ok (.aload_n 0, 1) := by decide +kernel
theorem dX9_isPart_1 : decode cX9_isPart 1 = .ok (.iload_n 1, 1) := by decide +kernel
theorem dX9_isPart_2 : decode cX9_isPart 2 = .ok (.invokevirtual 153, 3) := by decide +kernel
theorem dX9_isPart_5 : decode cX9_isPart 5 = .ok (.aload_n 0, 1) := by decide +kernel
theorem dX9_isPart_6 : decode cX9_isPart 6 = .ok (.getfield 143, 3) := by decide +kernel
theorem dX9_isPart_9 : decode cX9_isPart 9 = .ok (.istore_n 3, 1) := by decide +kernel
theorem dX9_isPart_10 : decode cX9_isPart 10 = .ok (.aload_n 0, 1) := by decide +kernel
theorem dX9_isPart_11 : decode cX9_isPart 11 = .ok (.getfield 137, 3) := by decide +kernel
theorem dX9_isPart_14 : decode cX9_isPart 14 = .ok (.lstore 4, 2) := by decide +kernel
theorem dX9_isPart_16 : decode cX9_isPart 16 = .ok (.aload_n 0, 1) := by decide +kernel
theorem dX9_isPart_17 : decode cX9_isPart 17 = .ok (.getfield 140, 3) := by decide +kernel
theorem dX9_isPart_20 : decode cX9_isPart 20 = .ok (.lstore 6, 2) := by decide +kernel
theorem dX9_isPart_22 : decode cX9_isPart 22 = .ok (.aload_n 0, 1) := by decide +kernel
theorem dX9_isPart_23 : decode cX9_isPart 23 = .ok (.iload_n 2, 1) := by decide +kernel
theorem dX9_isPart_24 : decode cX9_isPart 24 = .ok (.invokevirtual 153, 3) := by decide +kernel
theorem dX9_isPart_27 : decode cX9_isPart 27 = .ok (.iload_n 3, 1) := by decide +kernel
theorem dX9_isPart_28 : decode cX9_isPart 28 = .ok (.ifCond .eq 11, 3) := by decide +kernel
theorem dX9_isPart_31 : decode cX9_isPart 31 = .ok (.aload_n 0, 1) := by decide +kernel
theorem dX9_isPart_32 : decode cX9_isPart 32 = .ok (.getfield 143, 3) := by decide +kernel
theorem dX9_isPart_35 : decode cX9_isPart 35 = .ok (.iconst 1, 1) := by decide +kernel
theorem dX9_isPart_36 : decode cX9_isPart 36 = .ok (.if_icmp .ne 5, 3) := by decide +kernel
theorem dX9_isPart_39 : decode cX9_isPart 39 = .ok (.iconst 1, 1) := by decide +kernel
theorem dX9_isPart_40 : decode cX9_isPart 40 = .ok (.ireturn, 1) := by decide +kernel
theorem dX9_isPart_41 : decode cX9_isPart 41 = .ok (.iload_n 3, 1) := by decide +kernel
theorem dX9_isPart_42 : decode cX9_isPart 42 = .ok (.iconst 2, 1) := by decide +kernel
theorem dX9_isPart_43 : decode cX9_isPart 43 = .ok (.if_icmp .ne 12, 3) := by decide +kernel
theorem dX9_isPart_46 : decode cX9_isPart 46 = .ok (.aload_n 0, 1) := by decide +kernel
theorem dX9_isPart_47 : decode cX9_isPart 47 = .ok (.lload 4, 2) := by decide +kernel
theorem dX9_isPart_49 : decode cX9_isPart 49 = .ok (.lload 6, 2) := by decide +kernel
theorem dX9_isPart_51 : decode cX9_isPart 51 = .ok (.invokevirtual 156, 3) := by decide +kernel
theorem dX9_isPart_54 : decode cX9_isPart 54 = .ok (.ireturn, 1) := by decide +kernel
theorem dX9_isPart_55 : decode cX9_isPart 55 = .ok (.iload_n 3, 1) := by decide +kernel
theorem dX9_isPart_56 : decode cX9_isPart 56 = .ok (.iconst 2, 1) := by decide +kernel
theorem dX9_isPart_57 : decode cX9_isPart 57 = .ok (.if_icmp .le 45, 3) := by decide +kernel
theorem dX9_isPart_60 : decode cX9_isPart 60 = .ok (.iload_n 3, 1) := by decide +kernel
theorem dX9_isPart_61 : decode cX9_isPart 61 = .ok (.aload_n 0, 1) := by decide +kernel
theorem dX9_isPart_62 : decode cX9_isPart 62 = .ok (.getfield 143, 3) := by decide +kernel
theorem dX9_isPart_65 : decode cX9_isPart 65 = .ok (.if_icmp .ne 37, 3) := by decide +kernel
theorem dX9_isPart_68 : decode cX9_isPart 68 = .ok (.iload_n 3, 1) := by decide +kernel
theorem dX9_isPart_69 : decode cX9_isPart 69 = .ok (.iconst 3, 1) := by decide +kernel
theorem dX9_isPart_70 : decode cX9_isPart 70 = .ok (.if_icmp .ne 17, 3) := by decide +kernel
theorem dX9_isPart_73 : decode cX9_isPart 73 = .ok (.aload_n 0, 1) := by decide +kernel
theorem dX9_isPart_74 : decode cX9_isPart 74 = .ok (.lload 4, 2) := by decide +kernel
theorem dX9_isPart_76 : decode cX9_isPart 76 = .ok (.lload 6, 2) := by decide +kernel
theorem dX9_isPart_78 : decode cX9_isPart 78 = .ok (.invokevirtual 149, 3) := by decide +kernel
theorem dX9_isPart_81 : decode cX9_isPart 81 = .ok (.ifCond .gt 21, 3) := by decide +kernel
theorem dX9_isPart_84 : decode cX9_isPart 84 = .ok (.goto 14, 3) := by decide +kernel
theorem dX9_isPart_87 : decode cX9_isPart 87 = .ok (.aload_n 0, 1) := by decide +kernel
theorem dX9_isPart_88 : decode cX9_isPart 88 = .ok (.lload 4, 2) := by decide +kernel
theorem dX9_isPart_90 : decode cX9_isPart 90 = .ok (.lload 6, 2) := by decide +kernel
theorem dX9_isPart_92 : decode cX9_isPart 92 = .ok (.invokevirtual 149, 3) := by decide +kernel
theorem dX9_isPart_95 : decode cX9_isPart 95 = .ok (.ifCond .lt 7, 3) := by decide +kernel
theorem dX9_isPart_98 : decode cX9_isPart 98 = .ok (.iconst 1, 1) := by decide +kernel
theorem dX9_isPart_99 : decode cX9_isPart 99 = .ok (.goto 4, 3) := by decide +kernel
theorem dX9_isPart_102 : decode cX9_isPart 102 = .ok (.iconst 0, 1) := by decide +kernel
theorem dX9_isPart_103 : decode cX9_isPart 103 = .ok (.ireturn, 1) := by decide +kernel
set_option maxHeartbeats 4000000 in
set_option maxRecDepth 100000 in
/-- TutorLinesModel.isPart -/
theorem c_X9_isPart {l : Launch} {G : tm_G} {Hb : Heap} {sh : tm_sh} {M : tm_M} {o i j : Nat} (h : isMo sh M o) (hi : i < 42) (hj : j < 42) (hv : lok (rl M o i)) (hw : lok (rl M o j)) : Met l yX9_isPart (tws yX9_isPart cX9_isPart 8 (some .boolean)) ({ frames := 3, cells := 0, slots := 0, locals := 88 }) (va_Pc [.ref o, ji (i : Nat), ji (j : Nat)] (tm_St G Hb sh M)) (tm_Qi G Hb sh (fun r M1 => r = tl_part (tl_solve (rl M o i)) (tl_solve (rl M o j)) ∧ fq (mP o) M M1)) 0 0 (tm_A Hb) := by
  refine tm_begin (by decide) (Nat.le_of_ble_eq_true rfl) (fun p e s m below meth c ls hx hb hr hml hown htw hlk hnm hK hW hl => ?_)
  have hS : va_S (tm_A Hb) s.heap s.heap [] := va_S.rf
  have hl : lv_has ls 8 [(0, .ref o), (1, ji (i : Nat)), (2, ji (j : Nat))] := hl
  have h8 := h.1
  obtain ⟨b0, ⟨t1, t2, t6, t7, t9, t12, t13, t14, t15, t16, t17, t24⟩, ⟨u1, u2, u3, u4, u5, u6, u7, u8, u9, u10, u11, u12⟩⟩ := (id h)
  have ka := (sook_solve hv).1
  have kb := (sook_solve hw).1
  obtain ⟨ka1, ka2, -⟩ := ka
  obtain ⟨kb1, kb2, -⟩ := kb
  refine lv_aload_n hx hb dX9_isPart_0 rfl (lv_at hl 0 rfl) ?_
  refine lv_iload_n hx hb dX9_isPart_1 rfl (lv_at hl 1 rfl) ?_
  refine tm_callv (cs_X9_153 hx hb hml hown htw hK hW (by assumption) (c_X9_solve h hi hv) ⟨rfl, rfl, Nat.le_of_ble_eq_true rfl, Nat.le_of_ble_eq_true rfl⟩ hl.1 (Nat.le_of_ble_eq_true rfl) dX9_isPart_2 ⟨Nat.le_of_ble_eq_true rfl, Nat.le_of_ble_eq_true rfl⟩) hS (fun M2 H locs hp2 hW hS => ?_)
  obtain ⟨e2, f2⟩ := hp2
  have k2 : mI M2 o 25 = (tl_solve (rl M o i)).1 := congrArg Prod.fst e2
  have x2 : mL M2 o 26 = (tl_solve (rl M o i)).2.1 := congrArg (fun q => q.2.1) e2
  have y2 : mL M2 o 27 = (tl_solve (rl M o i)).2.2 := congrArg (fun q => q.2.2) e2
  have l2 : rl M2 o j = rl M o j := fq_rl f2 (fun k hk => by unfold mP; omega)
  refine lv_aload_n hx hb dX9_isPart_5 rfl (lv_at hl 0 rfl) ?_
  refine gf_X9_143 hx hb htw hown hK hW (by assumption) dX9_isPart_6 ?_
  rw [k2]
  refine lv_istore_n (lv' := [(3, _), (0, _), (1, _), (2, _)]) hx hb dX9_isPart_9 rfl hl (by decide) rfl (fun ls hl => ?_)
  refine lv_aload_n hx hb dX9_isPart_10 rfl (lv_at hl 1 rfl) ?_
  refine gf_X9_137 hx hb htw hown hK hW (by assumption) dX9_isPart_11 ?_
  rw [x2]
  refine lv_lstore (lv' := [(4, _), (3, _), (0, _), (1, _), (2, _)]) hx hb dX9_isPart_14 hl (by decide) rfl (fun ls hl => ?_)
  refine lv_aload_n hx hb dX9_isPart_16 rfl (lv_at hl 2 rfl) ?_
  refine gf_X9_140 hx hb htw hown hK hW (by assumption) dX9_isPart_17 ?_
  rw [y2]
  refine lv_lstore (lv' := [(6, _), (4, _), (3, _), (0, _), (1, _), (2, _)]) hx hb dX9_isPart_20 hl (by decide) rfl (fun ls hl => ?_)
  refine lv_aload_n hx hb dX9_isPart_22 rfl (lv_at hl 3 rfl) ?_
  refine lv_iload_n hx hb dX9_isPart_23 rfl (lv_at hl 5 rfl) ?_
  refine tm_callv (cs_X9_153 hx hb hml hown htw hK hW (by assumption) (c_X9_solve (isMo_m h f2.1) hj (by rw [l2]; exact hw)) ⟨rfl, rfl, Nat.le_of_ble_eq_true rfl, Nat.le_of_ble_eq_true rfl⟩ hl.1 (Nat.le_of_ble_eq_true rfl) dX9_isPart_24 ⟨Nat.le_of_ble_eq_true rfl, Nat.le_of_ble_eq_true rfl⟩) hS (fun M24 H locs hp24 hW hS => ?_)
  obtain ⟨e24, f24⟩ := hp24
  rw [l2] at e24
  have k24 : mI M24 o 25 = (tl_solve (rl M o j)).1 := congrArg Prod.fst e24
  have F24 := fq_tr f2 f24
  have p24 : (mL M24 o 26, mL M24 o 27) = (tl_solve (rl M o j)).2 := congrArg Prod.snd e24
  refine lv_iload_n hx hb dX9_isPart_27 rfl (lv_at hl 2 rfl) ?_
  refine ti_if_eq (tgt := 39) hx hb dX9_isPart_28 (by decide) (by omega) (fun h28 => ?_) (fun h28 => ?_)
  · refine ti_iconst hx hb dX9_isPart_39 ?_
    exact tm_zret hx hb hr hlk (by first | exact Or.inl rfl | exact Or.inr rfl | assumption) hK hW hS ⟨by first | exact tl_pA (Or.inl h28) | exact tl_pA (Or.inr h36) | exact tl_pC (by omega) (by omega) (by omega) | exact (tl_pD (by omega) (by omega) (by omega) h70).1 (show tl_cmp (tl_solve (rl M o i)).2.1 (tl_solve (rl M o i)).2.2 (tl_solve (rl M o j)).2.1 (tl_solve (rl M o j)).2.2 ≤ 0 by omega) | exact (tl_pD (by omega) (by omega) (by omega) h70).2 (show ¬ tl_cmp (tl_solve (rl M o i)).2.1 (tl_solve (rl M o i)).2.2 (tl_solve (rl M o j)).2.1 (tl_solve (rl M o j)).2.2 ≤ 0 by omega) | exact (tl_pE (by omega) (by omega) (by omega) h70).1 (show 0 ≤ tl_cmp (tl_solve (rl M o i)).2.1 (tl_solve (rl M o i)).2.2 (tl_solve (rl M o j)).2.1 (tl_solve (rl M o j)).2.2 by omega) | exact (tl_pE (by omega) (by omega) (by omega) h70).2 (show ¬ 0 ≤ tl_cmp (tl_solve (rl M o i)).2.1 (tl_solve (rl M o i)).2.2 (tl_solve (rl M o j)).2.1 (tl_solve (rl M o j)).2.2 by omega), F24⟩ dX9_isPart_40
  · refine lv_aload_n hx hb dX9_isPart_31 rfl (lv_at hl 3 rfl) ?_
    refine gf_X9_143 hx hb htw hown hK hW (by assumption) dX9_isPart_32 ?_
    refine ti_iconst hx hb dX9_isPart_35 ?_
    rw [k24]
    refine ti_icmp_ne (tgt := 41) hx hb dX9_isPart_36 (by decide) (by omega) (by decide) (fun h36 => ?_) (fun h36 => ?_)
    · refine lv_iload_n hx hb dX9_isPart_41 rfl (lv_at hl 2 rfl) ?_
      refine ti_iconst hx hb dX9_isPart_42 ?_
      refine ti_icmp_ne (tgt := 55) hx hb dX9_isPart_43 (by decide) (by omega) (by decide) (fun h43 => ?_) (fun h43 => ?_)
      · refine lv_iload_n hx hb dX9_isPart_55 rfl (lv_at hl 2 rfl) ?_
        refine ti_iconst hx hb dX9_isPart_56 ?_
        refine ti_icmp_le (tgt := 102) hx hb dX9_isPart_57 (by decide) (by omega) (by decide) (fun h57 => ?_) (fun h57 => ?_)
        · refine ti_iconst hx hb dX9_isPart_102 ?_
          exact tm_zret hx hb hr hlk (by first | exact Or.inl rfl | exact Or.inr rfl | assumption) hK hW hS ⟨by first | exact tl_pA (Or.inl h28) | exact tl_pA (Or.inr h36) | exact tl_pC (by omega) (by omega) (by omega) | exact (tl_pD (by omega) (by omega) (by omega) h70).1 (show tl_cmp (tl_solve (rl M o i)).2.1 (tl_solve (rl M o i)).2.2 (tl_solve (rl M o j)).2.1 (tl_solve (rl M o j)).2.2 ≤ 0 by omega) | exact (tl_pD (by omega) (by omega) (by omega) h70).2 (show ¬ tl_cmp (tl_solve (rl M o i)).2.1 (tl_solve (rl M o i)).2.2 (tl_solve (rl M o j)).2.1 (tl_solve (rl M o j)).2.2 ≤ 0 by omega) | exact (tl_pE (by omega) (by omega) (by omega) h70).1 (show 0 ≤ tl_cmp (tl_solve (rl M o i)).2.1 (tl_solve (rl M o i)).2.2 (tl_solve (rl M o j)).2.1 (tl_solve (rl M o j)).2.2 by omega) | exact (tl_pE (by omega) (by omega) (by omega) h70).2 (show ¬ 0 ≤ tl_cmp (tl_solve (rl M o i)).2.1 (tl_solve (rl M o i)).2.2 (tl_solve (rl M o j)).2.1 (tl_solve (rl M o j)).2.2 by omega), F24⟩ dX9_isPart_103
        · refine lv_iload_n hx hb dX9_isPart_60 rfl (lv_at hl 2 rfl) ?_
          refine lv_aload_n hx hb dX9_isPart_61 rfl (lv_at hl 3 rfl) ?_
          refine gf_X9_143 hx hb htw hown hK hW (by assumption) dX9_isPart_62 ?_
          rw [k24]
          refine ti_icmp_ne (tgt := 102) hx hb dX9_isPart_65 (by decide) (by omega) (by omega) (fun h65 => ?_) (fun h65 => ?_)
          · refine ti_iconst hx hb dX9_isPart_102 ?_
            exact tm_zret hx hb hr hlk (by first | exact Or.inl rfl | exact Or.inr rfl | assumption) hK hW hS ⟨by first | exact tl_pA (Or.inl h28) | exact tl_pA (Or.inr h36) | exact tl_pC (by omega) (by omega) (by omega) | exact (tl_pD (by omega) (by omega) (by omega) h70).1 (show tl_cmp (tl_solve (rl M o i)).2.1 (tl_solve (rl M o i)).2.2 (tl_solve (rl M o j)).2.1 (tl_solve (rl M o j)).2.2 ≤ 0 by omega) | exact (tl_pD (by omega) (by omega) (by omega) h70).2 (show ¬ tl_cmp (tl_solve (rl M o i)).2.1 (tl_solve (rl M o i)).2.2 (tl_solve (rl M o j)).2.1 (tl_solve (rl M o j)).2.2 ≤ 0 by omega) | exact (tl_pE (by omega) (by omega) (by omega) h70).1 (show 0 ≤ tl_cmp (tl_solve (rl M o i)).2.1 (tl_solve (rl M o i)).2.2 (tl_solve (rl M o j)).2.1 (tl_solve (rl M o j)).2.2 by omega) | exact (tl_pE (by omega) (by omega) (by omega) h70).2 (show ¬ 0 ≤ tl_cmp (tl_solve (rl M o i)).2.1 (tl_solve (rl M o i)).2.2 (tl_solve (rl M o j)).2.1 (tl_solve (rl M o j)).2.2 by omega), F24⟩ dX9_isPart_103
          · refine lv_iload_n hx hb dX9_isPart_68 rfl (lv_at hl 2 rfl) ?_
            refine ti_iconst hx hb dX9_isPart_69 ?_
            refine ti_icmp_ne (tgt := 87) hx hb dX9_isPart_70 (by decide) (by omega) (by decide) (fun h70 => ?_) (fun h70 => ?_)
            · refine lv_aload_n hx hb dX9_isPart_87 rfl (lv_at hl 3 rfl) ?_
              refine lv_lload hx hb dX9_isPart_88 (lv_at hl 1 rfl) ?_
              refine lv_lload hx hb dX9_isPart_90 (lv_at hl 0 rfl) ?_
              refine tm_calli (cs_X9_149 hx hb hml hown htw hK hW (by assumption) (c_X9_order b0 (nok_solve hv).1 (by rw [p24]; exact (nok_solve hw).1)) ⟨rfl, rfl, Nat.le_of_ble_eq_true rfl, Nat.le_of_ble_eq_true rfl⟩ hl.1 (Nat.le_of_ble_eq_true rfl) dX9_isPart_92 ⟨Nat.le_of_ble_eq_true rfl, Nat.le_of_ble_eq_true rfl⟩) hS (fun x92 M92 H locs hp92 hW hS => ?_)
              obtain ⟨ex92, eM92⟩ := hp92
              rw [eM92] at hW
              rw [show mL M24 o 26 = (tl_solve (rl M o j)).2.1 from congrArg Prod.fst p24, show mL M24 o 27 = (tl_solve (rl M o j)).2.2 from congrArg Prod.snd p24] at ex92
              rw [ex92]
              refine ti_if_lt (tgt := 102) hx hb dX9_isPart_95 (by decide) (tl_cmp_r _ _ _ _) (fun h95 => ?_) (fun h95 => ?_)
              · refine ti_iconst hx hb dX9_isPart_102 ?_
                exact tm_zret hx hb hr hlk (by first | exact Or.inl rfl | exact Or.inr rfl | assumption) hK hW hS ⟨by first | exact tl_pA (Or.inl h28) | exact tl_pA (Or.inr h36) | exact tl_pC (by omega) (by omega) (by omega) | exact (tl_pD (by omega) (by omega) (by omega) h70).1 (show tl_cmp (tl_solve (rl M o i)).2.1 (tl_solve (rl M o i)).2.2 (tl_solve (rl M o j)).2.1 (tl_solve (rl M o j)).2.2 ≤ 0 by omega) | exact (tl_pD (by omega) (by omega) (by omega) h70).2 (show ¬ tl_cmp (tl_solve (rl M o i)).2.1 (tl_solve (rl M o i)).2.2 (tl_solve (rl M o j)).2.1 (tl_solve (rl M o j)).2.2 ≤ 0 by omega) | exact (tl_pE (by omega) (by omega) (by omega) h70).1 (show 0 ≤ tl_cmp (tl_solve (rl M o i)).2.1 (tl_solve (rl M o i)).2.2 (tl_solve (rl M o j)).2.1 (tl_solve (rl M o j)).2.2 by omega) | exact (tl_pE (by omega) (by omega) (by omega) h70).2 (show ¬ 0 ≤ tl_cmp (tl_solve (rl M o i)).2.1 (tl_solve (rl M o i)).2.2 (tl_solve (rl M o j)).2.1 (tl_solve (rl M o j)).2.2 by omega), F24⟩ dX9_isPart_103
              · refine ti_iconst hx hb dX9_isPart_98 ?_
                refine lv_goto (tgt := 103) hx hb dX9_isPart_99 (by decide) ?_
                exact tm_zret hx hb hr hlk (by first | exact Or.inl rfl | exact Or.inr rfl | assumption) hK hW hS ⟨by first | exact tl_pA (Or.inl h28) | exact tl_pA (Or.inr h36) | exact tl_pC (by omega) (by omega) (by omega) | exact (tl_pD (by omega) (by omega) (by omega) h70).1 (show tl_cmp (tl_solve (rl M o i)).2.1 (tl_solve (rl M o i)).2.2 (tl_solve (rl M o j)).2.1 (tl_solve (rl M o j)).2.2 ≤ 0 by omega) | exact (tl_pD (by omega) (by omega) (by omega) h70).2 (show ¬ tl_cmp (tl_solve (rl M o i)).2.1 (tl_solve (rl M o i)).2.2 (tl_solve (rl M o j)).2.1 (tl_solve (rl M o j)).2.2 ≤ 0 by omega) | exact (tl_pE (by omega) (by omega) (by omega) h70).1 (show 0 ≤ tl_cmp (tl_solve (rl M o i)).2.1 (tl_solve (rl M o i)).2.2 (tl_solve (rl M o j)).2.1 (tl_solve (rl M o j)).2.2 by omega) | exact (tl_pE (by omega) (by omega) (by omega) h70).2 (show ¬ 0 ≤ tl_cmp (tl_solve (rl M o i)).2.1 (tl_solve (rl M o i)).2.2 (tl_solve (rl M o j)).2.1 (tl_solve (rl M o j)).2.2 by omega), F24⟩ dX9_isPart_103
            · refine lv_aload_n hx hb dX9_isPart_73 rfl (lv_at hl 3 rfl) ?_
              refine lv_lload hx hb dX9_isPart_74 (lv_at hl 1 rfl) ?_
              refine lv_lload hx hb dX9_isPart_76 (lv_at hl 0 rfl) ?_
              refine tm_calli (cs_X9_149 hx hb hml hown htw hK hW (by assumption) (c_X9_order b0 (nok_solve hv).1 (by rw [p24]; exact (nok_solve hw).1)) ⟨rfl, rfl, Nat.le_of_ble_eq_true rfl, Nat.le_of_ble_eq_true rfl⟩ hl.1 (Nat.le_of_ble_eq_true rfl) dX9_isPart_78 ⟨Nat.le_of_ble_eq_true rfl, Nat.le_of_ble_eq_true rfl⟩) hS (fun x78 M78 H locs hp78 hW hS => ?_)
              obtain ⟨ex78, eM78⟩ := hp78
              rw [eM78] at hW
              rw [show mL M24 o 26 = (tl_solve (rl M o j)).2.1 from congrArg Prod.fst p24, show mL M24 o 27 = (tl_solve (rl M o j)).2.2 from congrArg Prod.snd p24] at ex78
              rw [ex78]
              refine ti_if_gt (tgt := 102) hx hb dX9_isPart_81 (by decide) (tl_cmp_r _ _ _ _) (fun h81 => ?_) (fun h81 => ?_)
              · refine ti_iconst hx hb dX9_isPart_102 ?_
                exact tm_zret hx hb hr hlk (by first | exact Or.inl rfl | exact Or.inr rfl | assumption) hK hW hS ⟨by first | exact tl_pA (Or.inl h28) | exact tl_pA (Or.inr h36) | exact tl_pC (by omega) (by omega) (by omega) | exact (tl_pD (by omega) (by omega) (by omega) h70).1 (show tl_cmp (tl_solve (rl M o i)).2.1 (tl_solve (rl M o i)).2.2 (tl_solve (rl M o j)).2.1 (tl_solve (rl M o j)).2.2 ≤ 0 by omega) | exact (tl_pD (by omega) (by omega) (by omega) h70).2 (show ¬ tl_cmp (tl_solve (rl M o i)).2.1 (tl_solve (rl M o i)).2.2 (tl_solve (rl M o j)).2.1 (tl_solve (rl M o j)).2.2 ≤ 0 by omega) | exact (tl_pE (by omega) (by omega) (by omega) h70).1 (show 0 ≤ tl_cmp (tl_solve (rl M o i)).2.1 (tl_solve (rl M o i)).2.2 (tl_solve (rl M o j)).2.1 (tl_solve (rl M o j)).2.2 by omega) | exact (tl_pE (by omega) (by omega) (by omega) h70).2 (show ¬ 0 ≤ tl_cmp (tl_solve (rl M o i)).2.1 (tl_solve (rl M o i)).2.2 (tl_solve (rl M o j)).2.1 (tl_solve (rl M o j)).2.2 by omega), F24⟩ dX9_isPart_103
              · refine lv_goto (tgt := 98) hx hb dX9_isPart_84 (by decide) ?_
                refine ti_iconst hx hb dX9_isPart_98 ?_
                refine lv_goto (tgt := 103) hx hb dX9_isPart_99 (by decide) ?_
                exact tm_zret hx hb hr hlk (by first | exact Or.inl rfl | exact Or.inr rfl | assumption) hK hW hS ⟨by first | exact tl_pA (Or.inl h28) | exact tl_pA (Or.inr h36) | exact tl_pC (by omega) (by omega) (by omega) | exact (tl_pD (by omega) (by omega) (by omega) h70).1 (show tl_cmp (tl_solve (rl M o i)).2.1 (tl_solve (rl M o i)).2.2 (tl_solve (rl M o j)).2.1 (tl_solve (rl M o j)).2.2 ≤ 0 by omega) | exact (tl_pD (by omega) (by omega) (by omega) h70).2 (show ¬ tl_cmp (tl_solve (rl M o i)).2.1 (tl_solve (rl M o i)).2.2 (tl_solve (rl M o j)).2.1 (tl_solve (rl M o j)).2.2 ≤ 0 by omega) | exact (tl_pE (by omega) (by omega) (by omega) h70).1 (show 0 ≤ tl_cmp (tl_solve (rl M o i)).2.1 (tl_solve (rl M o i)).2.2 (tl_solve (rl M o j)).2.1 (tl_solve (rl M o j)).2.2 by omega) | exact (tl_pE (by omega) (by omega) (by omega) h70).2 (show ¬ 0 ≤ tl_cmp (tl_solve (rl M o i)).2.1 (tl_solve (rl M o i)).2.2 (tl_solve (rl M o j)).2.1 (tl_solve (rl M o j)).2.2 by omega), F24⟩ dX9_isPart_103
      · refine lv_aload_n hx hb dX9_isPart_46 rfl (lv_at hl 3 rfl) ?_
        refine lv_lload hx hb dX9_isPart_47 (lv_at hl 1 rfl) ?_
        refine lv_lload hx hb dX9_isPart_49 (lv_at hl 0 rfl) ?_
        refine tm_calli (cs_X9_156 hx hb hml hown htw hK hW (by assumption) (c_X9_solves b0 (by rw [e24]; have := (sook_solve hw).1; exact ⟨this.1, this.2.1⟩) (by rw [e24]; exact nok_solve hw) (nok_solve hv)) ⟨rfl, rfl, Nat.le_of_ble_eq_true rfl, Nat.le_of_ble_eq_true rfl⟩ hl.1 (Nat.le_of_ble_eq_true rfl) dX9_isPart_51 ⟨Nat.le_of_ble_eq_true rfl, Nat.le_of_ble_eq_true rfl⟩) hS (fun x51 M51 H locs hp51 hW hS => ?_)
        obtain ⟨ex51, eM51⟩ := hp51
        rw [eM51] at hW
        rw [e24] at ex51
        rw [ex51]
        exact tm_zret hx hb hr hlk (tl_holds_z _ _) hK hW hS ⟨tl_pB (by omega) h43, F24⟩ dX9_isPart_54
    · refine ti_iconst hx hb dX9_isPart_39 ?_
      exact tm_zret hx hb hr hlk (by first | exact Or.inl rfl | exact Or.inr rfl | assumption) hK hW hS ⟨by first | exact tl_pA (Or.inl h28) | exact tl_pA (Or.inr h36) | exact tl_pC (by omega) (by omega) (by omega) | exact (tl_pD (by omega) (by omega) (by omega) h70).1 (show tl_cmp (tl_solve (rl M o i)).2.1 (tl_solve (rl M o i)).2.2 (tl_solve (rl M o j)).2.1 (tl_solve (rl M o j)).2.2 ≤ 0 by omega) | exact (tl_pD (by omega) (by omega) (by omega) h70).2 (show ¬ tl_cmp (tl_solve (rl M o i)).2.1 (tl_solve (rl M o i)).2.2 (tl_solve (rl M o j)).2.1 (tl_solve (rl M o j)).2.2 ≤ 0 by omega) | exact (tl_pE (by omega) (by omega) (by omega) h70).1 (show 0 ≤ tl_cmp (tl_solve (rl M o i)).2.1 (tl_solve (rl M o i)).2.2 (tl_solve (rl M o j)).2.1 (tl_solve (rl M o j)).2.2 by omega) | exact (tl_pE (by omega) (by omega) (by omega) h70).2 (show ¬ 0 ≤ tl_cmp (tl_solve (rl M o i)).2.1 (tl_solve (rl M o i)).2.2 (tl_solve (rl M o j)).2.1 (tl_solve (rl M o j)).2.2 by omega), F24⟩ dX9_isPart_40
