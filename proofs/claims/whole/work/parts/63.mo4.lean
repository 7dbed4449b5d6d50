/-! TutorLinesModel: plan (by program: wip/whole/gen/mo4.py) -/
theorem ffit_ok {f : tl_F} (h : fok f) : ffit f := ⟨h.1, h.2.1, h.2.2.2⟩
theorem ffit_0 : ffit (0, 1) := by decide
theorem ffit_1 : ffit (1, 1) := by decide
theorem norm_01 : tl_norm 0 1 = (0, 1) := by decide
theorem norm_11 : tl_norm 1 1 = (1, 1) := by decide
theorem lfit_ok {v : tl_L} (h : lok v) : lfit v := ⟨⟨ffit_ok h.1.1, ffit_ok h.1.2⟩, ffit_ok h.2.1.1, ffit_ok h.2.1.2⟩
theorem planvA {v : tl_L} (e : tl_kind v = 1) : tl_planv v = ((fsub v.1.1 v.2.1.1, v.1.2), ((0, 1), v.2.1.2), v.2.2) := by unfold tl_planv; rw [if_pos e]
theorem planvB {v : tl_L} (e : tl_kind v = 2) : tl_planv v = ((v.1.1, (0, 1)), (v.2.1.1, fsub v.2.1.2 v.1.2), v.2.2) := by unfold tl_planv; rw [if_neg (by omega), if_pos e]
theorem planvC {v : tl_L} (e : tl_kind v = 3) : tl_planv v = (((1, 1), v.1.2), (v.2.1.1, fdiv v.2.1.2 v.1.1), if v.1.1.1 < 0 ∧ ¬ v.2.2 = 0 then 3 - v.2.2 else v.2.2) := by unfold tl_planv; rw [if_neg (by omega), if_neg (by omega), if_pos e]
theorem planv0 {v : tl_L} (e : tl_kind v = 0) : tl_planv v = v := by unfold tl_planv; rw [if_neg (by omega), if_neg (by omega), if_neg (by omega)]
theorem planA {v : tl_L} (h : lok v) (e : tl_kind v = 1) : tl_plan v = if ffit (fsub v.1.1 v.2.1.1) then 1 else -1 := by
  unfold tl_plan
  rw [planvA e, e]
  by_cases q : ffit (fsub v.1.1 v.2.1.1)
  · rw [if_pos q, if_pos ⟨⟨q, ffit_ok h.1.2⟩, ffit_0, ffit_ok h.2.1.2⟩]
  · rw [if_neg q, if_neg (fun z => q z.1.1)]
theorem planB {v : tl_L} (h : lok v) (e : tl_kind v = 2) : tl_plan v = if ffit (fsub v.2.1.2 v.1.2) then 2 else -1 := by
  unfold tl_plan
  rw [planvB e, e]
  by_cases q : ffit (fsub v.2.1.2 v.1.2)
  · rw [if_pos q, if_pos ⟨⟨ffit_ok h.1.1, ffit_0⟩, ffit_ok h.2.1.1, q⟩]
  · rw [if_neg q, if_neg (fun z => q z.2.2)]
theorem planC {v : tl_L} (h : lok v) (e : tl_kind v = 3) : tl_plan v = if ffit (fdiv v.2.1.2 v.1.1) then 3 else -1 := by
  unfold tl_plan
  rw [planvC e, e]
  by_cases q : ffit (fdiv v.2.1.2 v.1.1)
  · rw [if_pos q, if_pos ⟨⟨ffit_1, ffit_ok h.1.2⟩, ffit_ok h.2.1.1, q⟩]
  · rw [if_neg q, if_neg (fun z => q z.2.2)]
theorem plan0 {v : tl_L} (h : lok v) (e : tl_kind v = 0) : tl_plan v = 0 := by
  unfold tl_plan
  rw [planv0 e, e, if_pos (lfit_ok h)]
theorem kindA {v : tl_L} (h : ¬ v.2.1.1.1 = 0) : tl_kind v = 1 := if_pos h
theorem kindB {v : tl_L} (h : v.2.1.1.1 = 0) (h2 : ¬ v.1.2.1 = 0) : tl_kind v = 2 := by unfold tl_kind; rw [if_neg (fun q => q h), if_pos h2]
theorem kind0 {v : tl_L} (h : v.2.1.1.1 = 0) (h2 : v.1.2.1 = 0) (h3 : v.1.1.1 = 0 ∨ v.1.1 = (1, 1)) : tl_kind v = 0 := by unfold tl_kind; rw [if_neg (fun q => q h), if_neg (fun q => q h2), if_pos h3]
theorem kindC {v : tl_L} (h : v.2.1.1.1 = 0) (h2 : v.1.2.1 = 0) (h3 : ¬ (v.1.1.1 = 0 ∨ v.1.1 = (1, 1))) : tl_kind v = 3 := by unfold tl_kind; rw [if_neg (fun q => q h), if_neg (fun q => q h2), if_neg h3]
theorem rl_at {M : tm_M} {o i : Nat} {v : tl_L} (h : rl M o i = v) : rf M o i 0 = v.1.1 ∧ rf M o i 1 = v.1.2 ∧ rf M o i 2 = v.2.1.1 ∧ rf M o i 3 = v.2.1.2 ∧ mL M (o + 2) (9 * i + 8) = v.2.2 := by
  subst h
  exact ⟨rfl, rfl, rfl, rfl, rfl⟩
theorem rl_ext {M : tm_M} {o i : Nat} {A B C D : tl_F} {r : Int} (h1 : rf M o i 0 = A) (h2 : rf M o i 1 = B) (h3 : rf M o i 2 = C) (h4 : rf M o i 3 = D) (h5 : mL M (o + 2) (9 * i + 8) = r) : rl M o i = ((A, B), (C, D), r) := by
  subst h1 h2 h3 h4 h5
  rfl
theorem fq_wrP {M : tm_M} {o i n : Nat} {f : tl_F} (hi : 42 ≤ i) (hn : n < 4) : fq (mP o) M (wr M o i n f) := fq_wr (Or.inl ⟨rfl, by omega⟩) (Or.inl ⟨rfl, by omega⟩) (Or.inl ⟨rfl, by omega⟩) (Or.inr ⟨rfl, by omega⟩) (Or.inr ⟨rfl, by omega⟩)
/-- a row is being rewritten: the last line is v, the row i as said, fits as said -/
def mo1 (sh : tm_sh) (M A : tm_M) (o N : Nat) (v : tl_L) (i : Nat) (u : tl_L) (F : Prop) : Prop := moN sh A o N ∧ rl A o (N - 1) = v ∧ rl A o i = u ∧ (mI A o 28 = 0 ∨ mI A o 28 = 1) ∧ (mI A o 28 = 1 ↔ F) ∧ fq (mP o) M A
theorem moN_wr {sh : tm_sh} {A : tm_M} {o N i n : Nat} {f : tl_F} (h : moN sh A o N) : moN sh (wr A o i n f) o N := ⟨isMo_m h.1 rfl, (wr_I (Or.inr (by decide))).trans h.2.1, h.2.2⟩
theorem rl_wr {A : tm_M} {o i j n : Nat} {f : tl_F} (hn : n < 4) (hj : j ≠ i) : rl (wr A o i n f) o j = rl A o j := rl_ext (wr_o hn (by decide) (Or.inl hj)) (wr_o hn (by decide) (Or.inl hj)) (wr_o hn (by decide) (Or.inl hj)) (wr_o hn (by decide) (Or.inl hj)) (wr_L (by omega))
def lset (u : tl_L) (n : Nat) (f : tl_F) : tl_L := if n = 0 then ((f, u.1.2), u.2.1, u.2.2) else if n = 1 then ((u.1.1, f), u.2.1, u.2.2) else if n = 2 then (u.1, (f, u.2.1.2), u.2.2) else (u.1, (u.2.1.1, f), u.2.2)
theorem rl_wrs {A : tm_M} {o i n : Nat} {f : tl_F} {u : tl_L} (hn : n < 4) (h : rl A o i = u) : rl (wr A o i n f) o i = lset u n f := by
  obtain ⟨h0, h1, h2, h3, h4⟩ := rl_at h
  have e4 : mL (wr A o i n f) (o + 2) (9 * i + 8) = u.2.2 := (wr_L (by omega)).trans h4
  match n, hn with
  | 0, _ => exact rl_ext wr_s ((wr_o (by decide) (by decide) (Or.inr (by decide))).trans h1) ((wr_o (by decide) (by decide) (Or.inr (by decide))).trans h2) ((wr_o (by decide) (by decide) (Or.inr (by decide))).trans h3) e4
  | 1, _ => exact rl_ext ((wr_o (by decide) (by decide) (Or.inr (by decide))).trans h0) wr_s ((wr_o (by decide) (by decide) (Or.inr (by decide))).trans h2) ((wr_o (by decide) (by decide) (Or.inr (by decide))).trans h3) e4
  | 2, _ => exact rl_ext ((wr_o (by decide) (by decide) (Or.inr (by decide))).trans h0) ((wr_o (by decide) (by decide) (Or.inr (by decide))).trans h1) wr_s ((wr_o (by decide) (by decide) (Or.inr (by decide))).trans h3) e4
  | 3, _ => exact rl_ext ((wr_o (by decide) (by decide) (Or.inr (by decide))).trans h0) ((wr_o (by decide) (by decide) (Or.inr (by decide))).trans h1) ((wr_o (by decide) (by decide) (Or.inr (by decide))).trans h2) wr_s e4
theorem mo1_wr {sh : tm_sh} {M A : tm_M} {o N i n : Nat} {v u : tl_L} {f : tl_F} {F : Prop} (h : mo1 sh M A o N v i u F) (hi : 42 ≤ i ∧ i < 44) (hn : n < 4) : mo1 sh M (wr A o i n f) o N v i (lset u n f) (F ∧ ffit f) := by
  obtain ⟨h1, h2, h3, h4, h5, h6⟩ := h
  have hN := h1.2.2.2
  refine ⟨moN_wr h1, (rl_wr hn (by omega)).trans h2, rl_wrs hn h3, by rw [wr_28]; exact tl_b_z _, ?_, fq_tr h6 (fq_wrP hi.1 hn)⟩
  rw [wr_28]
  refine ⟨fun q => ?_, fun q => ?_⟩
  · have z := tl_b_n.mp (show ¬ tl_b (¬ mI A o 28 = 0 ∧ ffit f) = 0 by omega)
    exact ⟨h5.mp (by have := z.1; omega), z.2⟩
  · exact (tl_b_t ⟨by have := h5.mpr q.1; omega, q.2⟩).symm
theorem mo1_0 {sh : tm_sh} {M A : tm_M} {o N i : Nat} {v : tl_L} (h : moN sh M o N) (hi : 42 ≤ i ∧ i < 44) (hv : rl M o (N - 1) = v) (e : rl A o i = rl M o (N - 1)) (f : fq (fun a k => a = o + 2 ∧ 9 * i ≤ k ∧ k < 9 * i + 9) M A) : mo1 sh M (sI A o 28 1) o N v i v True := by
  have hN := h.2.2.2
  have g : fq (mP o) M (sI A o 28 1) := fq_tr (fq_wd f (fun a k q => Or.inr ⟨q.1, by omega⟩)) (fq_sI (Or.inl ⟨rfl, by omega⟩))
  exact ⟨moN_m h g (by unfold mP; omega), (fq_rl g (fun k hk => by unfold mP; omega)).trans hv, e.trans hv, Or.inr (tm_up_s _ _ _ _), ⟨fun _ => trivial, fun _ => tm_up_s _ _ _ _⟩, g⟩
theorem dX9_plan_0 : decode cX9_plan 0 = .ok (.aload_n 0, 1) := by decide +kernel
theorem dX9_plan_1 : decode cX9_plan 1 = .ok (.aload_n 0, 1) := by decide +kernel
theorem dX9_plan_2 : decode cX9_plan 2 = .ok (.invokevirtual 166, 3) := by decide +kernel
theorem dX9_plan_5 : decode cX9_plan 5 = .ok (.bipush 42, 2) := by decide +kernel
theorem dX9_plan_7 : decode cX9_plan 7 = .ok (.invokevirtual 180, 3) := by decide +kernel
theorem dX9_plan_10 : decode cX9_plan 10 = .ok (.aload_n 0, 1) := by decide +kernel
theorem dX9_plan_11 : decode cX9_plan 11 = .ok (.iconst 1, 1) := by decide +kernel
theorem dX9_plan_12 : decode cX9_plan 12 = .ok (.putfield 162, 3) := by decide +kernel
theorem dX9_plan_15 : decode cX9_plan 15 = .ok (.aload_n 0, 1) := by decide +kernel
theorem dX9_plan_16 : decode cX9_plan 16 = .ok (.iconst 2, 1) := by decide +kernel
theorem dX9_plan_17 : decode cX9_plan 17 = .ok (.invokevirtual 169, 3) := by decide +kernel
theorem dX9_plan_20 : decode cX9_plan 20 = .ok (.lconst 0, 1) := by decide +kernel
theorem dX9_plan_21 : decode cX9_plan 21 = .ok (.lcmp, 1) := by decide +kernel
theorem dX9_plan_22 : decode cX9_plan 22 = .ok (.ifCond .eq 35, 3) := by decide +kernel
theorem dX9_plan_25 : decode cX9_plan 25 = .ok (.aload_n 0, 1) := by decide +kernel
theorem dX9_plan_26 : decode cX9_plan 26 = .ok (.bipush 42, 2) := by decide +kernel
theorem dX9_plan_28 : decode cX9_plan 28 = .ok (.iconst 0, 1) := by decide +kernel
theorem dX9_plan_29 : decode cX9_plan 29 = .ok (.iconst 0, 1) := by decide +kernel
theorem dX9_plan_30 : decode cX9_plan 30 = .ok (.iconst 2, 1) := by decide +kernel
theorem dX9_plan_31 : decode cX9_plan 31 = .ok (.iconst 1, 1) := by decide +kernel
theorem dX9_plan_32 : decode cX9_plan 32 = .ok (.invokevirtual 184, 3) := by decide +kernel
theorem dX9_plan_35 : decode cX9_plan 35 = .ok (.aload_n 0, 1) := by decide +kernel
theorem dX9_plan_36 : decode cX9_plan 36 = .ok (.bipush 42, 2) := by decide +kernel
theorem dX9_plan_38 : decode cX9_plan 38 = .ok (.iconst 2, 1) := by decide +kernel
theorem dX9_plan_39 : decode cX9_plan 39 = .ok (.lconst 0, 1) := by decide +kernel
theorem dX9_plan_40 : decode cX9_plan 40 = .ok (.lconst 1, 1) := by decide +kernel
theorem dX9_plan_41 : decode cX9_plan 41 = .ok (.invokevirtual 176, 3) := by decide +kernel
theorem dX9_plan_44 : decode cX9_plan 44 = .ok (.aload_n 0, 1) := by decide +kernel
theorem dX9_plan_45 : decode cX9_plan 45 = .ok (.getfield 162, 3) := by decide +kernel
theorem dX9_plan_48 : decode cX9_plan 48 = .ok (.ifCond .eq 7, 3) := by decide +kernel
theorem dX9_plan_51 : decode cX9_plan 51 = .ok (.iconst 1, 1) := by decide +kernel
theorem dX9_plan_52 : decode cX9_plan 52 = .ok (.goto 4, 3) := by decide +kernel
theorem dX9_plan_55 : decode cX9_plan 55 = .ok (.iconst (-1), 1) := by decide +kernel
theorem dX9_plan_56 : decode cX9_plan 56 = .ok (.ireturn, 1) := by decide +kernel
theorem dX9_plan_57 : decode cX9_plan 57 = .ok (.aload_n 0, 1) := by decide +kernel
theorem dX9_plan_58 : decode cX9_plan 58 = .ok (.iconst 1, 1) := by decide +kernel
theorem dX9_plan_59 : decode cX9_plan 59 = .ok (.invokevirtual 169, 3) := by decide +kernel
theorem dX9_plan_62 : decode cX9_plan 62 = .ok (.lconst 0, 1) := by decide +kernel
theorem dX9_plan_63 : decode cX9_plan 63 = .ok (.lcmp, 1) := by decide +kernel
theorem dX9_plan_64 : decode cX9_plan 64 = .ok (.ifCond .eq 35, 3) := by decide +kernel
theorem dX9_plan_67 : decode cX9_plan 67 = .ok (.aload_n 0, 1) := by decide +kernel
theorem dX9_plan_68 : decode cX9_plan 68 = .ok (.bipush 42, 2) := by decide +kernel
theorem dX9_plan_70 : decode cX9_plan 70 = .ok (.iconst 3, 1) := by decide +kernel
theorem dX9_plan_71 : decode cX9_plan 71 = .ok (.iconst 3, 1) := by decide +kernel
theorem dX9_plan_72 : decode cX9_plan 72 = .ok (.iconst 1, 1) := by decide +kernel
theorem dX9_plan_73 : decode cX9_plan 73 = .ok (.iconst 1, 1) := by decide +kernel
theorem dX9_plan_74 : decode cX9_plan 74 = .ok (.invokevirtual 184, 3) := by decide +kernel
theorem dX9_plan_77 : decode cX9_plan 77 = .ok (.aload_n 0, 1) := by decide +kernel
theorem dX9_plan_78 : decode cX9_plan 78 = .ok (.bipush 42, 2) := by decide +kernel
theorem dX9_plan_80 : decode cX9_plan 80 = .ok (.iconst 1, 1) := by decide +kernel
theorem dX9_plan_81 : decode cX9_plan 81 = .ok (.lconst 0, 1) := by decide +kernel
theorem dX9_plan_82 : decode cX9_plan 82 = .ok (.lconst 1, 1) := by decide +kernel
theorem dX9_plan_83 : decode cX9_plan 83 = .ok (.invokevirtual 176, 3) := by decide +kernel
theorem dX9_plan_86 : decode cX9_plan 86 = .ok (.aload_n 0, 1) := by decide +kernel
theorem dX9_plan_87 : decode cX9_plan 87 = .ok (.getfield 162, 3) := by decide +kernel
theorem dX9_plan_90 : decode cX9_plan 90 = .ok (.ifCond .eq 7, 3) := by decide +kernel
theorem dX9_plan_93 : decode cX9_plan 93 = .ok (.iconst 2, 1) := by decide +kernel
theorem dX9_plan_94 : decode cX9_plan 94 = .ok (.goto 4, 3) := by decide +kernel
theorem dX9_plan_97 : decode cX9_plan 97 = .ok (.iconst (-1), 1) := by decide +kernel
theorem dX9_plan_98 : decode cX9_plan 98 = .ok (.ireturn, 1) := by decide +kernel
theorem dX9_plan_99 : decode cX9_plan 99 = .ok (.aload_n 0, 1) := by decide +kernel
theorem dX9_plan_100 : decode cX9_plan 100 = .ok (.iconst 0, 1) := by decide +kernel
theorem dX9_plan_101 : decode cX9_plan 101 = .ok (.invokevirtual 169, 3) := by decide +kernel
theorem dX9_plan_104 : decode cX9_plan 104 = .ok (.lconst 0, 1) := by decide +kernel
theorem dX9_plan_105 : decode cX9_plan 105 = .ok (.lcmp, 1) := by decide +kernel
theorem dX9_plan_106 : decode cX9_plan 106 = .ok (.ifCond .eq 11, 3) := by decide +kernel
theorem dX9_plan_109 : decode cX9_plan 109 = .ok (.aload_n 0, 1) := by decide +kernel
theorem dX9_plan_110 : decode cX9_plan 110 = .ok (.iconst 0, 1) := by decide +kernel
theorem dX9_plan_111 : decode cX9_plan 111 = .ok (.invokevirtual 188, 3) := by decide +kernel
theorem dX9_plan_114 : decode cX9_plan 114 = .ok (.ifCond .eq 5, 3) := by decide +kernel
theorem dX9_plan_117 : decode cX9_plan 117 = .ok (.iconst 0, 1) := by decide +kernel
theorem dX9_plan_118 : decode cX9_plan 118 = .ok (.ireturn, 1) := by decide +kernel
theorem dX9_plan_119 : decode cX9_plan 119 = .ok (.aload_n 0, 1) := by decide +kernel
theorem dX9_plan_120 : decode cX9_plan 120 = .ok (.bipush 42, 2) := by decide +kernel
theorem dX9_plan_122 : decode cX9_plan 122 = .ok (.iconst 0, 1) := by decide +kernel
theorem dX9_plan_123 : decode cX9_plan 123 = .ok (.lconst 1, 1) := by decide +kernel
theorem dX9_plan_124 : decode cX9_plan 124 = .ok (.lconst 1, 1) := by decide +kernel
theorem dX9_plan_125 : decode cX9_plan 125 = .ok (.invokevirtual 176, 3) := by decide +kernel
theorem dX9_plan_128 : decode cX9_plan 128 = .ok (.aload_n 0, 1) := by decide +kernel
theorem dX9_plan_129 : decode cX9_plan 129 = .ok (.bipush 42, 2) := by decide +kernel
theorem dX9_plan_131 : decode cX9_plan 131 = .ok (.iconst 3, 1) := by decide +kernel
theorem dX9_plan_132 : decode cX9_plan 132 = .ok (.aload_n 0, 1) := by decide +kernel
theorem dX9_plan_133 : decode cX9_plan 133 = .ok (.iconst 3, 1) := by decide +kernel
theorem dX9_plan_134 : decode cX9_plan 134 = .ok (.invokevirtual 169, 3) := by decide +kernel
theorem dX9_plan_137 : decode cX9_plan 137 = .ok (.aload_n 0, 1) := by decide +kernel
theorem dX9_plan_138 : decode cX9_plan 138 = .ok (.iconst 0, 1) := by decide +kernel
theorem dX9_plan_139 : decode cX9_plan 139 = .ok (.invokevirtual 173, 3) := by decide +kernel
theorem dX9_plan_142 : decode cX9_plan 142 = .ok (.lmul, 1) := by decide +kernel
theorem dX9_plan_143 : decode cX9_plan 143 = .ok (.aload_n 0, 1) := by decide +kernel
theorem dX9_plan_144 : decode cX9_plan 144 = .ok (.iconst 3, 1) := by decide +kernel
theorem dX9_plan_145 : decode cX9_plan 145 = .ok (.invokevirtual 173, 3) := by decide +kernel
theorem dX9_plan_148 : decode cX9_plan 148 = .ok (.aload_n 0, 1) := by decide +kernel
theorem dX9_plan_149 : decode cX9_plan 149 = .ok (.iconst 0, 1) := by decide +kernel
theorem dX9_plan_150 : decode cX9_plan 150 = .ok (.invokevirtual 169, 3) := by decide +kernel
theorem dX9_plan_153 : decode cX9_plan 153 = .ok (.lmul, 1) := by decide +kernel
theorem dX9_plan_154 : decode cX9_plan 154 = .ok (.invokevirtual 176, 3) := by decide +kernel
theorem dX9_plan_157 : decode cX9_plan 157 = .ok (.aload_n 0, 1) := by decide +kernel
theorem dX9_plan_158 : decode cX9_plan 158 = .ok (.getfield 13, 3) := by decide +kernel
theorem dX9_plan_161 : decode cX9_plan 161 = .ok (.sipush 386, 3) := by decide +kernel
theorem dX9_plan_164 : decode cX9_plan 164 = .ok (.laload, 1) := by decide +kernel
theorem dX9_plan_165 : decode cX9_plan 165 = .ok (.lstore_n 1, 1) := by decide +kernel
theorem dX9_plan_166 : decode cX9_plan 166 = .ok (.aload_n 0, 1) := by decide +kernel
theorem dX9_plan_167 : decode cX9_plan 167 = .ok (.iconst 0, 1) := by decide +kernel
theorem dX9_plan_168 : decode cX9_plan 168 = .ok (.invokevirtual 169, 3) := by decide +kernel
theorem dX9_plan_171 : decode cX9_plan 171 = .ok (.lconst 0, 1) := by decide +kernel
theorem dX9_plan_172 : decode cX9_plan 172 = .ok (.lcmp, 1) := by decide +kernel
theorem dX9_plan_173 : decode cX9_plan 173 = .ok (.ifCond .ge 22, 3) := by decide +kernel
theorem dX9_plan_176 : decode cX9_plan 176 = .ok (.lload_n 1, 1) := by decide +kernel
theorem dX9_plan_177 : decode cX9_plan 177 = .ok (.lconst 0, 1) := by decide +kernel
theorem dX9_plan_178 : decode cX9_plan 178 = .ok (.lcmp, 1) := by decide +kernel
theorem dX9_plan_179 : decode cX9_plan 179 = .ok (.ifCond .le 16, 3) := by decide +kernel
theorem dX9_plan_182 : decode cX9_plan 182 = .ok (.aload_n 0, 1) := by decide +kernel
theorem dX9_plan_183 : decode cX9_plan 183 = .ok (.getfield 13, 3) := by decide +kernel
theorem dX9_plan_186 : decode cX9_plan 186 = .ok (.sipush 386, 3) := by decide +kernel
theorem dX9_plan_189 : decode cX9_plan 189 = .ok (.ldc2_w 191, 3) := by decide +kernel
theorem dX9_plan_192 : decode cX9_plan 192 = .ok (.lload_n 1, 1) := by decide +kernel
theorem dX9_plan_193 : decode cX9_plan 193 = .ok (.lsub, 1) := by decide +kernel
theorem dX9_plan_194 : decode cX9_plan 194 = .ok (.lastore, 1) := by decide +kernel
theorem dX9_plan_195 : decode cX9_plan 195 = .ok (.aload_n 0, 1) := by decide +kernel
theorem dX9_plan_196 : decode cX9_plan 196 = .ok (.getfield 162, 3) := by decide +kernel
theorem dX9_plan_199 : decode cX9_plan 199 = .ok (.ifCond .eq 7, 3) := by decide +kernel
theorem dX9_plan_202 : decode cX9_plan 202 = .ok (.iconst 3, 1) := by decide +kernel
theorem dX9_plan_203 : decode cX9_plan 203 = .ok (.goto 4, 3) := by decide +kernel
theorem dX9_plan_206 : decode cX9_plan 206 = .ok (.iconst (-1), 1) := by decide +kernel
theorem dX9_plan_207 : decode cX9_plan 207 = .ok (.ireturn, 1) := by decide +kernel
theorem tl_no {p q : Prop} (h1 : ¬ p) (h2 : ¬ q) : ¬ (p ∨ q) := fun z => z.elim h1 h2
theorem rl_st {B : tm_M} {o : Nat} {u : tl_L} {x : Int} (h : rl B o 42 = u) : rl (sL B (o + 2) (386 : Int).toNat x) o 42 = (u.1, u.2.1, x) := by
  obtain ⟨h0, h1, h2, h3, h4⟩ := rl_at h
  have e : ∀ k, k ≠ 386 → mL (sL B (o + 2) (386 : Int).toNat x) (o + 2) k = mL B (o + 2) k := fun k hk => tm_up_k _ _ hk
  refine rl_ext (A := u.1.1) (B := u.1.2) (C := u.2.1.1) (D := u.2.1.2) ?_ ?_ ?_ ?_ (tm_up_s _ _ _ _)
  · rw [← h0]; show (mL _ (o + 2) _, mL _ (o + 2) _) = _; rw [e _ (by decide), e _ (by decide)]
  · rw [← h1]; show (mL _ (o + 2) _, mL _ (o + 2) _) = _; rw [e _ (by decide), e _ (by decide)]
  · rw [← h2]; show (mL _ (o + 2) _, mL _ (o + 2) _) = _; rw [e _ (by decide), e _ (by decide)]
  · rw [← h3]; show (mL _ (o + 2) _, mL _ (o + 2) _) = _; rw [e _ (by decide), e _ (by decide)]
set_option maxHeartbeats 4000000 in
set_option maxRecDepth 100000 in
/-- TutorLinesModel.plan -/
theorem c_X9_plan {l : Launch} {G : tm_G} {Hb : Heap} {sh : tm_sh} {M : tm_M} {o N : Nat} {v : tl_L} (h : moN sh M o N) (hr0 : rl M o (N - 1) = v) (hv : lok v) : Met l yX9_plan (tws yX9_plan cX9_plan 3 (some .int)) ({ frames := 4, cells := 0, slots := 0, locals := 108 }) (va_Pc [.ref o] (tm_St G Hb sh M)) (tm_Qi G Hb sh (fun r M1 => r = tl_plan v ∧ rl M1 o 42 = tl_planv v ∧ fq (mP o) M M1)) 0 0 (tm_A Hb) := by
  refine tm_begin (by decide) (Nat.le_of_ble_eq_true rfl) (fun p e s m below meth c ls hx hb hr hml hown htw hlk hnm hK hW hl => ?_)
  have hS : va_S (tm_A Hb) s.heap s.heap [] := va_S.rf
  have hl : lv_has ls 3 [(0, .ref o)] := hl
  have hN := h.2.2
  have b0 := h.1.1
  have t2 := h.1.2.1.2.1
  have u2 := h.1.2.2.2.1
  have h9 := hv.2.2
  obtain ⟨⟨q1, q2⟩, ⟨q3, q4⟩, q5⟩ := id hv
  have tail : ∀ (u : tl_L) (B : tm_M) (H : Heap) (locs : List Loc) (ls : Array Slot), tl_kind v = 3 → tl_planv v = u → rl B o 42 = u → (mI B o 28 = 0 ∨ mI B o 28 = 1) → (mI B o 28 = 1 ↔ ffit (fdiv v.2.1.2 v.1.1)) → fq (mP o) M B → tm_W G Hb sh B H → va_S (tm_A Hb) s.heap H locs → lv_has ls 3 [(0, .ref o)] → W p l e ({ frames := 4, cells := 0, slots := 0, locals := 108 }) s m [.ref o].toArray below meth c H locs 0 0 (MQ below (tm_Qi G Hb sh (fun r M1 => r = tl_plan v ∧ rl M1 o 42 = tl_planv v ∧ fq (mP o) M M1)) [.ref o].toArray s 0 0 (tm_A Hb)) (F0 m 195 ls []) := by
    intro u B H locs ls hk hu hl9 h01 hF hf hW hS hl
    refine lv_aload_n hx hb dX9_plan_195 rfl (lv_at hl 0 rfl) ?_
    refine gf_X9_162 hx hb htw hown hK hW (by assumption) dX9_plan_196 ?_
    refine ti_if_eq (tgt := 206) hx hb dX9_plan_199 (by decide) (by omega) (fun h199 => ?_) (fun h199 => ?_)
    · refine ti_iconst hx hb dX9_plan_206 ?_
      exact tm_iret hx hb hr hlk hK hW hS ⟨by rw [planC hv hk]; first | rw [if_pos (hF.mp (by omega))] | rw [if_neg (fun q => absurd (hF.mpr q) (by omega))], by rw [hu]; exact hl9, hf⟩ dX9_plan_207
    · refine ti_iconst hx hb dX9_plan_202 ?_
      refine lv_goto (tgt := 207) hx hb dX9_plan_203 (by decide) ?_
      exact tm_iret hx hb hr hlk hK hW hS ⟨by rw [planC hv hk]; first | rw [if_pos (hF.mp (by omega))] | rw [if_neg (fun q => absurd (hF.mpr q) (by omega))], by rw [hu]; exact hl9, hf⟩ dX9_plan_207
  refine lv_aload_n hx hb dX9_plan_0 rfl (lv_at hl 0 rfl) ?_
  refine lv_aload_n hx hb dX9_plan_1 rfl (lv_at hl 0 rfl) ?_
  refine tm_calli (cs_X9_166 hx hb hml hown htw hK hW (by assumption) (c_X9_last h) ⟨rfl, rfl, Nat.le_of_ble_eq_true rfl, Nat.le_of_ble_eq_true rfl⟩ hl.1 (Nat.le_of_ble_eq_true rfl) dX9_plan_2 ⟨Nat.le_of_ble_eq_true rfl, Nat.le_of_ble_eq_true rfl⟩) hS (fun x2 M2 H locs hp2 hW hS => ?_)
  obtain ⟨ex2, eM2⟩ := hp2
  rw [eM2] at hW
  rw [ex2]
  refine ti_bipush hx hb dX9_plan_5 (by decide) ?_
  refine tm_callv (cs_X9_180 hx hb hml hown htw hK hW (by assumption) (c_X9_copyLine (i := N - 1) (j := 42) h.1 (by omega) (by decide) (by omega)) ⟨rfl, rfl, Nat.le_of_ble_eq_true rfl, Nat.le_of_ble_eq_true rfl⟩ hl.1 (Nat.le_of_ble_eq_true rfl) dX9_plan_7 ⟨Nat.le_of_ble_eq_true rfl, Nat.le_of_ble_eq_true rfl⟩) hS (fun M7 H locs hp7 hW hS => ?_)
  obtain ⟨e7, f7⟩ := hp7
  refine lv_aload_n hx hb dX9_plan_10 rfl (lv_at hl 0 rfl) ?_
  refine ti_iconst hx hb dX9_plan_11 ?_
  refine pf_X9_162 hx hb htw hown hK hW (by assumption) hS (Or.inr rfl) dX9_plan_12 (fun H locs hW hS => ?_)
  have g := mo1_0 (i := 42) h (by decide) hr0 e7 f7
  generalize (sI M7 o 28 1) = A at hW g
  obtain ⟨a0, a1, a2, a3, a4⟩ := rl_at g.2.1
  have w28 : inI (mI A o 28) := by have := g.2.2.2.1; omega
  refine lv_aload_n hx hb dX9_plan_15 rfl (lv_at hl 0 rfl) ?_
  refine ti_iconst hx hb dX9_plan_16 ?_
  refine tm_calll (cs_X9_169 hx hb hml hown htw hK hW (by assumption) (c_X9_above (n := 2) g.1 (by decide)) ⟨rfl, rfl, Nat.le_of_ble_eq_true rfl, Nat.le_of_ble_eq_true rfl⟩ hl.1 (Nat.le_of_ble_eq_true rfl) dX9_plan_17 ⟨Nat.le_of_ble_eq_true rfl, Nat.le_of_ble_eq_true rfl⟩) hS (fun x17 M17 H locs hp17 hW hS => ?_)
  obtain ⟨ex17, eM17⟩ := hp17
  rw [eM17] at hW
  rw [ex17, a2]
  refine ti_lconst0 hx hb dX9_plan_20 ?_
  refine ti_lcmp_eq (tgt := 57) hx hb dX9_plan_21 dX9_plan_22 (by decide) (by unfold fok at q3; omega) (by decide) (fun h21 => ?_) (fun h21 => ?_)
  · refine lv_aload_n hx hb dX9_plan_57 rfl (lv_at hl 0 rfl) ?_
    refine ti_iconst hx hb dX9_plan_58 ?_
    refine tm_calll (cs_X9_169 hx hb hml hown htw hK hW (by assumption) (c_X9_above (n := 1) g.1 (by decide)) ⟨rfl, rfl, Nat.le_of_ble_eq_true rfl, Nat.le_of_ble_eq_true rfl⟩ hl.1 (Nat.le_of_ble_eq_true rfl) dX9_plan_59 ⟨Nat.le_of_ble_eq_true rfl, Nat.le_of_ble_eq_true rfl⟩) hS (fun x59 M59 H locs hp59 hW hS => ?_)
    obtain ⟨ex59, eM59⟩ := hp59
    rw [eM59] at hW
    rw [ex59, a1]
    refine ti_lconst0 hx hb dX9_plan_62 ?_
    refine ti_lcmp_eq (tgt := 99) hx hb dX9_plan_63 dX9_plan_64 (by decide) (by unfold fok at q2; omega) (by decide) (fun h63 => ?_) (fun h63 => ?_)
    · refine lv_aload_n hx hb dX9_plan_99 rfl (lv_at hl 0 rfl) ?_
      refine ti_iconst hx hb dX9_plan_100 ?_
      refine tm_calll (cs_X9_169 hx hb hml hown htw hK hW (by assumption) (c_X9_above (n := 0) g.1 (by decide)) ⟨rfl, rfl, Nat.le_of_ble_eq_true rfl, Nat.le_of_ble_eq_true rfl⟩ hl.1 (Nat.le_of_ble_eq_true rfl) dX9_plan_101 ⟨Nat.le_of_ble_eq_true rfl, Nat.le_of_ble_eq_true rfl⟩) hS (fun x101 M101 H locs hp101 hW hS => ?_)
      obtain ⟨ex101, eM101⟩ := hp101
      rw [eM101] at hW
      rw [ex101, a0]
      refine ti_lconst0 hx hb dX9_plan_104 ?_
      refine ti_lcmp_eq (tgt := 117) hx hb dX9_plan_105 dX9_plan_106 (by decide) (by unfold fok at q1; omega) (by decide) (fun h105 => ?_) (fun h105 => ?_)
      · refine ti_iconst hx hb dX9_plan_117 ?_
        exact tm_iret hx hb hr hlk hK hW hS ⟨by first | rw [plan0 hv (kind0 h21 h63 (Or.inl h105))] | rw [plan0 hv (kind0 h21 h63 (Or.inr (tl_b_n.mp h114)))], by first | rw [planv0 (kind0 h21 h63 (Or.inl h105))]; exact g.2.2.1 | (rw [planv0 (kind0 h21 h63 (Or.inr (tl_b_n.mp h114)))]; exact g.2.2.1), g.2.2.2.2.2⟩ dX9_plan_118
      · refine lv_aload_n hx hb dX9_plan_109 rfl (lv_at hl 0 rfl) ?_
        refine ti_iconst hx hb dX9_plan_110 ?_
        refine tm_calli (cs_X9_188 hx hb hml hown htw hK hW (by assumption) (c_X9_isOne (n := 0) g.1 (by decide) (by rw [a0]; exact fLok_of q1)) ⟨rfl, rfl, Nat.le_of_ble_eq_true rfl, Nat.le_of_ble_eq_true rfl⟩ hl.1 (Nat.le_of_ble_eq_true rfl) dX9_plan_111 ⟨Nat.le_of_ble_eq_true rfl, Nat.le_of_ble_eq_true rfl⟩) hS (fun x111 M111 H locs hp111 hW hS => ?_)
        obtain ⟨ex111, eM111⟩ := hp111
        rw [eM111] at hW
        rw [ex111, a0]
        refine ti_if_eq (tgt := 119) hx hb dX9_plan_114 (by decide) (tl_b_r _) (fun h114 => ?_) (fun h114 => ?_)
        · refine lv_aload_n hx hb dX9_plan_119 rfl (lv_at hl 0 rfl) ?_
          refine ti_bipush hx hb dX9_plan_120 (by decide) ?_
          refine ti_iconst hx hb dX9_plan_122 ?_
          refine ti_lconst1 hx hb dX9_plan_123 ?_
          refine ti_lconst1 hx hb dX9_plan_124 ?_
          refine tm_callv (cs_X9_176 hx hb hml hown htw hK hW (by assumption) (c_X9_write (i := 42) (n := 0) g.1.1 (by decide) (by decide) (by decide) (by decide) (by decide) w28) ⟨rfl, rfl, Nat.le_of_ble_eq_true rfl, Nat.le_of_ble_eq_true rfl⟩ hl.1 (Nat.le_of_ble_eq_true rfl) dX9_plan_125 ⟨Nat.le_of_ble_eq_true rfl, Nat.le_of_ble_eq_true rfl⟩) hS (fun M125 H locs hp125 hW hS => ?_)
          rw [norm_11] at hp125
          rw [hp125] at hW
          have g1 := mo1_wr (n := 0) (f := ((1, 1) : tl_F)) g (by decide) (by decide)
          generalize hz125 : wr A o 42 0 (((1, 1) : tl_F)) = B125 at hW g1
          obtain ⟨c0, c1, c2, c3, c4⟩ := rl_at g1.2.1
          refine lv_aload_n hx hb dX9_plan_128 rfl (lv_at hl 0 rfl) ?_
          refine ti_bipush hx hb dX9_plan_129 (by decide) ?_
          refine ti_iconst hx hb dX9_plan_131 ?_
          refine lv_aload_n hx hb dX9_plan_132 rfl (lv_at hl 0 rfl) ?_
          refine ti_iconst hx hb dX9_plan_133 ?_
          refine tm_calll (cs_X9_169 hx hb hml hown htw hK hW (by assumption) (c_X9_above (n := 3) g1.1 (by decide)) ⟨rfl, rfl, Nat.le_of_ble_eq_true rfl, Nat.le_of_ble_eq_true rfl⟩ hl.1 (Nat.le_of_ble_eq_true rfl) dX9_plan_134 ⟨Nat.le_of_ble_eq_true rfl, Nat.le_of_ble_eq_true rfl⟩) hS (fun x134 M134 H locs hp134 hW hS => ?_)
          obtain ⟨ex134, eM134⟩ := hp134
          rw [eM134] at hW
          rw [ex134, c3]
          refine lv_aload_n hx hb dX9_plan_137 rfl (lv_at hl 0 rfl) ?_
          refine ti_iconst hx hb dX9_plan_138 ?_
          refine tm_calll (cs_X9_173 hx hb hml hown htw hK hW (by assumption) (c_X9_below (n := 0) g1.1 (by decide)) ⟨rfl, rfl, Nat.le_of_ble_eq_true rfl, Nat.le_of_ble_eq_true rfl⟩ hl.1 (Nat.le_of_ble_eq_true rfl) dX9_plan_139 ⟨Nat.le_of_ble_eq_true rfl, Nat.le_of_ble_eq_true rfl⟩) hS (fun x139 M139 H locs hp139 hW hS => ?_)
          obtain ⟨ex139, eM139⟩ := hp139
          rw [eM139] at hW
          rw [ex139, c0]
          refine ti_lmul hx hb dX9_plan_142 ?_
          refine lv_aload_n hx hb dX9_plan_143 rfl (lv_at hl 0 rfl) ?_
          refine ti_iconst hx hb dX9_plan_144 ?_
          refine tm_calll (cs_X9_173 hx hb hml hown htw hK hW (by assumption) (c_X9_below (n := 3) g1.1 (by decide)) ⟨rfl, rfl, Nat.le_of_ble_eq_true rfl, Nat.le_of_ble_eq_true rfl⟩ hl.1 (Nat.le_of_ble_eq_true rfl) dX9_plan_145 ⟨Nat.le_of_ble_eq_true rfl, Nat.le_of_ble_eq_true rfl⟩) hS (fun x145 M145 H locs hp145 hW hS => ?_)
          obtain ⟨ex145, eM145⟩ := hp145
          rw [eM145] at hW
          rw [ex145, c3]
          refine lv_aload_n hx hb dX9_plan_148 rfl (lv_at hl 0 rfl) ?_
          refine ti_iconst hx hb dX9_plan_149 ?_
          refine tm_calll (cs_X9_169 hx hb hml hown htw hK hW (by assumption) (c_X9_above (n := 0) g1.1 (by decide)) ⟨rfl, rfl, Nat.le_of_ble_eq_true rfl, Nat.le_of_ble_eq_true rfl⟩ hl.1 (Nat.le_of_ble_eq_true rfl) dX9_plan_150 ⟨Nat.le_of_ble_eq_true rfl, Nat.le_of_ble_eq_true rfl⟩) hS (fun x150 M150 H locs hp150 hW hS => ?_)
          obtain ⟨ex150, eM150⟩ := hp150
          rw [eM150] at hW
          rw [ex150, c0]
          refine ti_lmul hx hb dX9_plan_153 ?_
          refine tm_callv (cs_X9_176 hx hb hml hown htw hK hW (by assumption) (c_X9_write (i := 42) (n := 3) g1.1.1 (by decide) (by decide) (tl_bd q4 q1).2.2.2.2.2.1 (tl_bd q4 q1).2.2.2.2.2.2 (tl_n0 (fok_ab q4).2.2 h105) (by have := g1.2.2.2.1; omega)) ⟨rfl, rfl, Nat.le_of_ble_eq_true rfl, Nat.le_of_ble_eq_true rfl⟩ hl.1 (Nat.le_of_ble_eq_true rfl) dX9_plan_154 ⟨Nat.le_of_ble_eq_true rfl, Nat.le_of_ble_eq_true rfl⟩) hS (fun M154 H locs hp154 hW hS => ?_)
          rw [hp154] at hW
          have g2 := mo1_wr (n := 3) (f := fdiv v.2.1.2 v.1.1) g1 (by decide) (by decide)
          generalize hz154 : wr B125 o 42 3 (fdiv v.2.1.2 v.1.1) = B154 at hW g2
          obtain ⟨d0, d1, d2, d3, d4⟩ := rl_at g2.2.2.1
          have t154 := g2.1.1.2.1.2.1
          refine lv_aload_n hx hb dX9_plan_157 rfl (lv_at hl 0 rfl) ?_
          refine gf_X9_13 hx hb htw hown hK hW (by assumption) t154 dX9_plan_158 ?_
          refine ti_sipush hx hb dX9_plan_161 (by decide) ?_
          refine tm_lald hx hb hK hW (by assumption) (by decide) (by decide) (by decide) dX9_plan_164 ?_
          rw [show mL B154 (o + 2) (386 : Int).toNat = v.2.2 from d4]
          refine lv_lstore_n (lv' := [(1, _), (0, _)]) hx hb dX9_plan_165 rfl hl (by decide) rfl (fun ls hl => ?_)
          refine lv_aload_n hx hb dX9_plan_166 rfl (lv_at hl 1 rfl) ?_
          refine ti_iconst hx hb dX9_plan_167 ?_
          refine tm_calll (cs_X9_169 hx hb hml hown htw hK hW (by assumption) (c_X9_above (n := 0) g2.1 (by decide)) ⟨rfl, rfl, Nat.le_of_ble_eq_true rfl, Nat.le_of_ble_eq_true rfl⟩ hl.1 (Nat.le_of_ble_eq_true rfl) dX9_plan_168 ⟨Nat.le_of_ble_eq_true rfl, Nat.le_of_ble_eq_true rfl⟩) hS (fun x168 M168 H locs hp168 hW hS => ?_)
          obtain ⟨ex168, eM168⟩ := hp168
          rw [eM168] at hW
          rw [ex168, (rl_at g2.2.1).1]
          refine ti_lconst0 hx hb dX9_plan_171 ?_
          refine ti_lcmp_ge (tgt := 195) hx hb dX9_plan_172 dX9_plan_173 (by decide) (by unfold fok at q1; omega) (by decide) (fun h172 => ?_) (fun h172 => ?_)
          · first
            | exact tail _ _ _ _ _ (kindC h21 h63 (tl_no h105 (tl_b_0.mp h114))) ((planvC (kindC h21 h63 (tl_no h105 (tl_b_0.mp h114)))).trans (by rw [if_pos ⟨by omega, by omega⟩])) (rl_st (show rl B154 o 42 = (((1, 1), v.1.2), (v.2.1.1, fdiv v.2.1.2 v.1.1), v.2.2) from g2.2.2.1)) g2.2.2.2.1 ⟨fun q => (g2.2.2.2.2.1.mp q).2, fun q => g2.2.2.2.2.1.mpr ⟨⟨trivial, ffit_1⟩, q⟩⟩ (fq_tr g2.2.2.2.2.2 (fq_sL (Or.inr ⟨rfl, by decide⟩))) hW hS (lv_sub hl [1] rfl)
            | exact tail _ B154 _ _ _ (kindC h21 h63 (tl_no h105 (tl_b_0.mp h114))) ((planvC (kindC h21 h63 (tl_no h105 (tl_b_0.mp h114)))).trans (by rw [if_neg (by omega)])) (show rl B154 o 42 = (((1, 1), v.1.2), (v.2.1.1, fdiv v.2.1.2 v.1.1), v.2.2) from g2.2.2.1) g2.2.2.2.1 ⟨fun q => (g2.2.2.2.2.1.mp q).2, fun q => g2.2.2.2.2.1.mpr ⟨⟨trivial, ffit_1⟩, q⟩⟩ g2.2.2.2.2.2 hW hS (lv_sub hl [1] rfl)
          · refine lv_lload_n hx hb dX9_plan_176 rfl (lv_at hl 0 rfl) ?_
            refine ti_lconst0 hx hb dX9_plan_177 ?_
            refine ti_lcmp_le (tgt := 195) hx hb dX9_plan_178 dX9_plan_179 (by decide) (by omega) (by decide) (fun h178 => ?_) (fun h178 => ?_)
            · first
              | exact tail _ _ _ _ _ (kindC h21 h63 (tl_no h105 (tl_b_0.mp h114))) ((planvC (kindC h21 h63 (tl_no h105 (tl_b_0.mp h114)))).trans (by rw [if_pos ⟨by omega, by omega⟩])) (rl_st (show rl B154 o 42 = (((1, 1), v.1.2), (v.2.1.1, fdiv v.2.1.2 v.1.1), v.2.2) from g2.2.2.1)) g2.2.2.2.1 ⟨fun q => (g2.2.2.2.2.1.mp q).2, fun q => g2.2.2.2.2.1.mpr ⟨⟨trivial, ffit_1⟩, q⟩⟩ (fq_tr g2.2.2.2.2.2 (fq_sL (Or.inr ⟨rfl, by decide⟩))) hW hS (lv_sub hl [1] rfl)
              | exact tail _ B154 _ _ _ (kindC h21 h63 (tl_no h105 (tl_b_0.mp h114))) ((planvC (kindC h21 h63 (tl_no h105 (tl_b_0.mp h114)))).trans (by rw [if_neg (by omega)])) (show rl B154 o 42 = (((1, 1), v.1.2), (v.2.1.1, fdiv v.2.1.2 v.1.1), v.2.2) from g2.2.2.1) g2.2.2.2.1 ⟨fun q => (g2.2.2.2.2.1.mp q).2, fun q => g2.2.2.2.2.1.mpr ⟨⟨trivial, ffit_1⟩, q⟩⟩ g2.2.2.2.2.2 hW hS (lv_sub hl [1] rfl)
            · refine lv_aload_n hx hb dX9_plan_182 rfl (lv_at hl 1 rfl) ?_
              refine gf_X9_13 hx hb htw hown hK hW (by assumption) t154 dX9_plan_183 ?_
              refine ti_sipush hx hb dX9_plan_186 (by decide) ?_
              refine lv_ldc2 hx hb hown (htw _ cl_X9_191) dX9_plan_189 ?_
              refine lv_lload_n hx hb dX9_plan_192 rfl (lv_at hl 0 rfl) ?_
              refine ti_lsub hx hb dX9_plan_193 ?_
              refine tm_last hx hb hK hW hS (by assumption) (by decide) (by decide) (by decide) dX9_plan_194 (fun H locs hW hS => ?_)
              first
              | exact tail _ _ _ _ _ (kindC h21 h63 (tl_no h105 (tl_b_0.mp h114))) ((planvC (kindC h21 h63 (tl_no h105 (tl_b_0.mp h114)))).trans (by rw [if_pos ⟨by omega, by omega⟩])) (rl_st (show rl B154 o 42 = (((1, 1), v.1.2), (v.2.1.1, fdiv v.2.1.2 v.1.1), v.2.2) from g2.2.2.1)) g2.2.2.2.1 ⟨fun q => (g2.2.2.2.2.1.mp q).2, fun q => g2.2.2.2.2.1.mpr ⟨⟨trivial, ffit_1⟩, q⟩⟩ (fq_tr g2.2.2.2.2.2 (fq_sL (Or.inr ⟨rfl, by decide⟩))) hW hS (lv_sub hl [1] rfl)
              | exact tail _ B154 _ _ _ (kindC h21 h63 (tl_no h105 (tl_b_0.mp h114))) ((planvC (kindC h21 h63 (tl_no h105 (tl_b_0.mp h114)))).trans (by rw [if_neg (by omega)])) (show rl B154 o 42 = (((1, 1), v.1.2), (v.2.1.1, fdiv v.2.1.2 v.1.1), v.2.2) from g2.2.2.1) g2.2.2.2.1 ⟨fun q => (g2.2.2.2.2.1.mp q).2, fun q => g2.2.2.2.2.1.mpr ⟨⟨trivial, ffit_1⟩, q⟩⟩ g2.2.2.2.2.2 hW hS (lv_sub hl [1] rfl)
        · refine ti_iconst hx hb dX9_plan_117 ?_
          exact tm_iret hx hb hr hlk hK hW hS ⟨by first | rw [plan0 hv (kind0 h21 h63 (Or.inl h105))] | rw [plan0 hv (kind0 h21 h63 (Or.inr (tl_b_n.mp h114)))], by first | rw [planv0 (kind0 h21 h63 (Or.inl h105))]; exact g.2.2.1 | (rw [planv0 (kind0 h21 h63 (Or.inr (tl_b_n.mp h114)))]; exact g.2.2.1), g.2.2.2.2.2⟩ dX9_plan_118
    · refine lv_aload_n hx hb dX9_plan_67 rfl (lv_at hl 0 rfl) ?_
      refine ti_bipush hx hb dX9_plan_68 (by decide) ?_
      refine ti_iconst hx hb dX9_plan_70 ?_
      refine ti_iconst hx hb dX9_plan_71 ?_
      refine ti_iconst hx hb dX9_plan_72 ?_
      refine ti_iconst hx hb dX9_plan_73 ?_
      refine tm_callv (cs_X9_184 hx hb hml hown htw hK hW (by assumption) (c_X9_join (i := 42) (n := 3) (x := 3) (y := 1) (ls0 := 1) g.1 (by decide) (by decide) (by decide) (by decide) (Or.inr rfl) (by rw [a3]; exact q4) (by rw [a1]; exact q2) w28) ⟨rfl, rfl, Nat.le_of_ble_eq_true rfl, Nat.le_of_ble_eq_true rfl⟩ hl.1 (Nat.le_of_ble_eq_true rfl) dX9_plan_74 ⟨Nat.le_of_ble_eq_true rfl, Nat.le_of_ble_eq_true rfl⟩) hS (fun M74 H locs hp74 hW hS => ?_)
      rw [if_pos rfl, a3, a1] at hp74
      rw [hp74] at hW
      have g1 := mo1_wr (n := 3) (f := fsub v.2.1.2 v.1.2) g (by decide) (by decide)
      generalize hz74 : wr A o 42 3 (fsub v.2.1.2 v.1.2) = B74 at hW g1
      refine lv_aload_n hx hb dX9_plan_77 rfl (lv_at hl 0 rfl) ?_
      refine ti_bipush hx hb dX9_plan_78 (by decide) ?_
      refine ti_iconst hx hb dX9_plan_80 ?_
      refine ti_lconst0 hx hb dX9_plan_81 ?_
      refine ti_lconst1 hx hb dX9_plan_82 ?_
      refine tm_callv (cs_X9_176 hx hb hml hown htw hK hW (by assumption) (c_X9_write (i := 42) (n := 1) g1.1.1 (by decide) (by decide) (by decide) (by decide) (by decide) (by have := g1.2.2.2.1; omega)) ⟨rfl, rfl, Nat.le_of_ble_eq_true rfl, Nat.le_of_ble_eq_true rfl⟩ hl.1 (Nat.le_of_ble_eq_true rfl) dX9_plan_83 ⟨Nat.le_of_ble_eq_true rfl, Nat.le_of_ble_eq_true rfl⟩) hS (fun M83 H locs hp83 hW hS => ?_)
      rw [norm_01] at hp83
      rw [hp83] at hW
      have g2 := mo1_wr (n := 1) (f := ((0, 1) : tl_F)) g1 (by decide) (by decide)
      generalize hz83 : wr B74 o 42 1 (((0, 1) : tl_F)) = B83 at hW g2
      refine lv_aload_n hx hb dX9_plan_86 rfl (lv_at hl 0 rfl) ?_
      refine gf_X9_162 hx hb htw hown hK hW (by assumption) dX9_plan_87 ?_
      refine ti_if_eq (tgt := 97) hx hb dX9_plan_90 (by decide) (by have := g2.2.2.2.1; omega) (fun h90 => ?_) (fun h90 => ?_)
      · refine ti_iconst hx hb dX9_plan_97 ?_
        exact tm_iret hx hb hr hlk hK hW hS ⟨by rw [planB hv (kindB h21 h63)]; first | rw [if_pos (g2.2.2.2.2.1.mp (by have := g2.2.2.2.1; omega)).1.2] | rw [if_neg (fun q => absurd (g2.2.2.2.2.1.mpr ⟨⟨trivial, q⟩, ffit_0⟩) (by omega))], by rw [planvB (kindB h21 h63)]; exact g2.2.2.1, g2.2.2.2.2.2⟩ dX9_plan_98
      · refine ti_iconst hx hb dX9_plan_93 ?_
        refine lv_goto (tgt := 98) hx hb dX9_plan_94 (by decide) ?_
        exact tm_iret hx hb hr hlk hK hW hS ⟨by rw [planB hv (kindB h21 h63)]; first | rw [if_pos (g2.2.2.2.2.1.mp (by have := g2.2.2.2.1; omega)).1.2] | rw [if_neg (fun q => absurd (g2.2.2.2.2.1.mpr ⟨⟨trivial, q⟩, ffit_0⟩) (by omega))], by rw [planvB (kindB h21 h63)]; exact g2.2.2.1, g2.2.2.2.2.2⟩ dX9_plan_98
  · refine lv_aload_n hx hb dX9_plan_25 rfl (lv_at hl 0 rfl) ?_
    refine ti_bipush hx hb dX9_plan_26 (by decide) ?_
    refine ti_iconst hx hb dX9_plan_28 ?_
    refine ti_iconst hx hb dX9_plan_29 ?_
    refine ti_iconst hx hb dX9_plan_30 ?_
    refine ti_iconst hx hb dX9_plan_31 ?_
    refine tm_callv (cs_X9_184 hx hb hml hown htw hK hW (by assumption) (c_X9_join (i := 42) (n := 0) (x := 0) (y := 2) (ls0 := 1) g.1 (by decide) (by decide) (by decide) (by decide) (Or.inr rfl) (by rw [a0]; exact q1) (by rw [a2]; exact q3) w28) ⟨rfl, rfl, Nat.le_of_ble_eq_true rfl, Nat.le_of_ble_eq_true rfl⟩ hl.1 (Nat.le_of_ble_eq_true rfl) dX9_plan_32 ⟨Nat.le_of_ble_eq_true rfl, Nat.le_of_ble_eq_true rfl⟩) hS (fun M32 H locs hp32 hW hS => ?_)
    rw [if_pos rfl, a0, a2] at hp32
    rw [hp32] at hW
    have g1 := mo1_wr (n := 0) (f := fsub v.1.1 v.2.1.1) g (by decide) (by decide)
    generalize hz32 : wr A o 42 0 (fsub v.1.1 v.2.1.1) = B32 at hW g1
    refine lv_aload_n hx hb dX9_plan_35 rfl (lv_at hl 0 rfl) ?_
    refine ti_bipush hx hb dX9_plan_36 (by decide) ?_
    refine ti_iconst hx hb dX9_plan_38 ?_
    refine ti_lconst0 hx hb dX9_plan_39 ?_
    refine ti_lconst1 hx hb dX9_plan_40 ?_
    refine tm_callv (cs_X9_176 hx hb hml hown htw hK hW (by assumption) (c_X9_write (i := 42) (n := 2) g1.1.1 (by decide) (by decide) (by decide) (by decide) (by decide) (by have := g1.2.2.2.1; omega)) ⟨rfl, rfl, Nat.le_of_ble_eq_true rfl, Nat.le_of_ble_eq_true rfl⟩ hl.1 (Nat.le_of_ble_eq_true rfl) dX9_plan_41 ⟨Nat.le_of_ble_eq_true rfl, Nat.le_of_ble_eq_true rfl⟩) hS (fun M41 H locs hp41 hW hS => ?_)
    rw [norm_01] at hp41
    rw [hp41] at hW
    have g2 := mo1_wr (n := 2) (f := ((0, 1) : tl_F)) g1 (by decide) (by decide)
    generalize hz41 : wr B32 o 42 2 (((0, 1) : tl_F)) = B41 at hW g2
    refine lv_aload_n hx hb dX9_plan_44 rfl (lv_at hl 0 rfl) ?_
    refine gf_X9_162 hx hb htw hown hK hW (by assumption) dX9_plan_45 ?_
    refine ti_if_eq (tgt := 55) hx hb dX9_plan_48 (by decide) (by have := g2.2.2.2.1; omega) (fun h48 => ?_) (fun h48 => ?_)
    · refine ti_iconst hx hb dX9_plan_55 ?_
      exact tm_iret hx hb hr hlk hK hW hS ⟨by rw [planA hv (kindA h21)]; first | rw [if_pos (g2.2.2.2.2.1.mp (by have := g2.2.2.2.1; omega)).1.2] | rw [if_neg (fun q => absurd (g2.2.2.2.2.1.mpr ⟨⟨trivial, q⟩, ffit_0⟩) (by omega))], by rw [planvA (kindA h21)]; exact g2.2.2.1, g2.2.2.2.2.2⟩ dX9_plan_56
    · refine ti_iconst hx hb dX9_plan_51 ?_
      refine lv_goto (tgt := 56) hx hb dX9_plan_52 (by decide) ?_
      exact tm_iret hx hb hr hlk hK hW hS ⟨by rw [planA hv (kindA h21)]; first | rw [if_pos (g2.2.2.2.2.1.mp (by have := g2.2.2.2.1; omega)).1.2] | rw [if_neg (fun q => absurd (g2.2.2.2.2.1.mpr ⟨⟨trivial, q⟩, ffit_0⟩) (by omega))], by rw [planvA (kindA h21)]; exact g2.2.2.1, g2.2.2.2.2.2⟩ dX9_plan_56
