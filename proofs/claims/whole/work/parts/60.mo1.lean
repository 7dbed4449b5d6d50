/-! TutorLinesModel: numbers (by program: wip/whole/gen/mo1.py) -/
/-- the model at o: text o+1, row o+2, counts o+3, points o+4, output o+5, sums o+6, terms o+7, has o+8, sign o+9, signAt o+10, starAt o+11, one o+12 -/
def isMo (sh : tm_sh) (M : tm_M) (o : Nat) : Prop := sh o = some (9, 0) ∧ (mR M o 1 = some (o + 1) ∧ mR M o 2 = some (o + 2) ∧ mR M o 6 = some (o + 3) ∧ mR M o 7 = some (o + 4) ∧ mR M o 9 = some (o + 5) ∧ mR M o 12 = some (o + 6) ∧ mR M o 13 = some (o + 7) ∧ mR M o 14 = some (o + 8) ∧ mR M o 15 = some (o + 9) ∧ mR M o 16 = some (o + 10) ∧ mR M o 17 = some (o + 11) ∧ mR M o 24 = some (o + 12)) ∧ (sh (o + 1) = some (20, 80) ∧ sh (o + 2) = some (21, 396) ∧ sh (o + 3) = some (20, 4) ∧ sh (o + 4) = some (20, 4) ∧ sh (o + 5) = some (20, 128) ∧ sh (o + 6) = some (21, 36) ∧ sh (o + 7) = some (21, 36) ∧ sh (o + 8) = some (23, 9) ∧ sh (o + 9) = some (20, 9) ∧ sh (o + 10) = some (20, 9) ∧ sh (o + 11) = some (20, 9) ∧ sh (o + 12) = some (21, 4))
theorem isMo_m {sh : tm_sh} {M M1 : tm_M} {o : Nat} (h : isMo sh M o) (e : mR M1 = mR M) : isMo sh M1 o := ⟨h.1, by rw [e]; exact h.2.1, h.2.2⟩
/-- a frame by cells and slots -/
def fq (P : Nat → Nat → Prop) (M M1 : tm_M) : Prop := mR M1 = mR M ∧ ∀ a k, ¬ P a k → mI M1 a k = mI M a k ∧ mL M1 a k = mL M a k
theorem fq_rf {P : Nat → Nat → Prop} {M : tm_M} : fq P M M := ⟨rfl, fun _ _ _ => ⟨rfl, rfl⟩⟩
theorem fq_tr {P : Nat → Nat → Prop} {M M1 M2 : tm_M} (h : fq P M M1) (g : fq P M1 M2) : fq P M M2 := ⟨g.1.trans h.1, fun a k q => ⟨(g.2 a k q).1.trans (h.2 a k q).1, (g.2 a k q).2.trans (h.2 a k q).2⟩⟩
theorem fq_wd {P Q : Nat → Nat → Prop} {M M1 : tm_M} (h : fq P M M1) (w : ∀ a k, P a k → Q a k) : fq Q M M1 := ⟨h.1, fun a k q => h.2 a k (fun z => q (w a k z))⟩
theorem fq_sI {P : Nat → Nat → Prop} {M : tm_M} {a k : Nat} {v : Int} (h : P a k) : fq P M (sI M a k v) := ⟨rfl, fun x j q => ⟨if_neg (fun z => q (by rw [z.1, z.2]; exact h)), rfl⟩⟩
theorem fq_sL {P : Nat → Nat → Prop} {M : tm_M} {a k : Nat} {v : Int} (h : P a k) : fq P M (sL M a k v) := ⟨rfl, fun x j q => ⟨rfl, if_neg (fun z => q (by rw [z.1, z.2]; exact h))⟩⟩
abbrev mk (M : tm_M) (o : Nat) (f : tl_F) : tm_M := sL (sL M o 10 f.1) o 11 f.2
theorem fq_mk {P : Nat → Nat → Prop} {M : tm_M} {o : Nat} {f : tl_F} (h1 : P o 10) (h2 : P o 11) : fq P M (mk M o f) := fq_tr (fq_sL h1) (fq_sL h2)
theorem mk_0 (M : tm_M) (o : Nat) (f : tl_F) : mL (mk M o f) o 10 = f.1 := (tm_up_k _ _ (by decide)).trans (tm_up_s _ _ _ _)
theorem mk_1 (M : tm_M) (o : Nat) (f : tl_F) : mL (mk M o f) o 11 = f.2 := tm_up_s _ _ _ _
theorem mk_n (M : tm_M) {o a k : Nat} (f : tl_F) (h : a ≠ o ∨ (k ≠ 10 ∧ k ≠ 11)) : mL (mk M o f) a k = mL M a k := by
  rcases h with h | h
  · exact (tm_up_a _ _ h).trans (tm_up_a _ _ h)
  · exact (tm_up_k _ _ h.2).trans (tm_up_k _ _ h.1)
theorem dX9_in_0 : decode cX9_in 0 = .ok (.lload_n 0, 1) := by decide +kernel
theorem dX9_in_1 : decode cX9_in 1 = .ok (.lload_n 2, 1) := by decide +kernel
theorem dX9_in_2 : decode cX9_in 2 = .ok (.lcmp, 1) := by decide +kernel
theorem dX9_in_3 : decode cX9_in 3 = .ok (.ifCond .lt 14, 3) := by decide +kernel
theorem dX9_in_6 : decode cX9_in 6 = .ok (.lload_n 0, 1) := by decide +kernel
theorem dX9_in_7 : decode cX9_in 7 = .ok (.lload 4, 2) := by decide +kernel
theorem dX9_in_9 : decode cX9_in 9 = .ok (.lcmp, 1) := by decide +kernel
theorem dX9_in_10 : decode cX9_in 10 = .ok (.ifCond .gt 7, 3) := by decide +kernel
theorem dX9_in_13 : decode cX9_in 13 = .ok (.iconst 1, 1) := by decide +kernel
theorem dX9_in_14 : decode cX9_in 14 = .ok (.goto 4, 3) := by decide +kernel
theorem dX9_in_17 : decode cX9_in 17 = .ok (.iconst 0, 1) := by decide +kernel
theorem dX9_in_18 : decode cX9_in 18 = .ok (.ireturn, 1) := by decide +kernel
set_option maxHeartbeats 4000000 in
set_option maxRecDepth 100000 in
/-- TutorLinesModel.in -/
theorem c_X9_in {l : Launch} {G : tm_G} {Hb : Heap} {sh : tm_sh} {M : tm_M} {v a b : Int} (hv : inL v) (ha : inL a) (hb1 : inL b) : Met l yX9_in (tws yX9_in cX9_in 6 (some .boolean)) ({ frames := 0, cells := 0, slots := 0, locals := 0 }) (va_Pc [jl v, jl a, jl b] (tm_St G Hb sh M)) (tm_Qi G Hb sh (fun x M1 => x = tl_b (a ≤ v ∧ v ≤ b) ∧ M1 = M)) 0 0 (tm_A Hb) := by
  refine tm_begin (by decide) (Nat.le_of_ble_eq_true rfl) (fun p e s m below meth c ls hx hb hr hml hown htw hlk hnm hK hW hl => ?_)
  have hS : va_S (tm_A Hb) s.heap s.heap [] := va_S.rf
  have hl : lv_has ls 6 [(0, jl v), (2, jl a), (4, jl b)] := hl
  refine lv_lload_n hx hb dX9_in_0 rfl (lv_at hl 0 rfl) ?_
  refine lv_lload_n hx hb dX9_in_1 rfl (lv_at hl 1 rfl) ?_
  refine ti_lcmp_lt (tgt := 17) hx hb dX9_in_2 dX9_in_3 (by decide) (by omega) (by omega) (fun h2 => ?_) (fun h2 => ?_)
  · refine ti_iconst hx hb dX9_in_17 ?_
    exact tm_zret hx hb hr hlk (by first | exact Or.inl rfl | exact Or.inr rfl | assumption) hK hW hS ⟨by first | exact tl_b_t (by omega) | exact tl_b_f (by omega), rfl⟩ dX9_in_18
  · refine lv_lload_n hx hb dX9_in_6 rfl (lv_at hl 0 rfl) ?_
    refine lv_lload hx hb dX9_in_7 (lv_at hl 2 rfl) ?_
    refine ti_lcmp_gt (tgt := 17) hx hb dX9_in_9 dX9_in_10 (by decide) (by omega) (by omega) (fun h9 => ?_) (fun h9 => ?_)
    · refine ti_iconst hx hb dX9_in_17 ?_
      exact tm_zret hx hb hr hlk (by first | exact Or.inl rfl | exact Or.inr rfl | assumption) hK hW hS ⟨by first | exact tl_b_t (by omega) | exact tl_b_f (by omega), rfl⟩ dX9_in_18
    · refine ti_iconst hx hb dX9_in_13 ?_
      refine lv_goto (tgt := 18) hx hb dX9_in_14 (by decide) ?_
      exact tm_zret hx hb hr hlk (by first | exact Or.inl rfl | exact Or.inr rfl | assumption) hK hW hS ⟨by first | exact tl_b_t (by omega) | exact tl_b_f (by omega), rfl⟩ dX9_in_18
theorem dX9_gcd_0 : decode cX9_gcd 0 = .ok (.lload_n 0, 1) := by decide +kernel
theorem dX9_gcd_1 : decode cX9_gcd 1 = .ok (.lconst 0, 1) := by decide +kernel
theorem dX9_gcd_2 : decode cX9_gcd 2 = .ok (.lcmp, 1) := by decide +kernel
theorem dX9_gcd_3 : decode cX9_gcd 3 = .ok (.ifCond .ge 8, 3) := by decide +kernel
theorem dX9_gcd_6 : decode cX9_gcd 6 = .ok (.lload_n 0, 1) := by decide +kernel
theorem dX9_gcd_7 : decode cX9_gcd 7 = .ok (.lneg, 1) := by decide +kernel
theorem dX9_gcd_8 : decode cX9_gcd 8 = .ok (.goto 4, 3) := by decide +kernel
theorem dX9_gcd_11 : decode cX9_gcd 11 = .ok (.lload_n 0, 1) := by decide +kernel
theorem dX9_gcd_12 : decode cX9_gcd 12 = .ok (.lstore 4, 2) := by decide +kernel
theorem dX9_gcd_14 : decode cX9_gcd 14 = .ok (.lload_n 2, 1) := by decide +kernel
theorem dX9_gcd_15 : decode cX9_gcd 15 = .ok (.lconst 0, 1) := by decide +kernel
theorem dX9_gcd_16 : decode cX9_gcd 16 = .ok (.lcmp, 1) := by decide +kernel
theorem dX9_gcd_17 : decode cX9_gcd 17 = .ok (.ifCond .ge 8, 3) := by decide +kernel
theorem dX9_gcd_20 : decode cX9_gcd 20 = .ok (.lload_n 2, 1) := by decide +kernel
theorem dX9_gcd_21 : decode cX9_gcd 21 = .ok (.lneg, 1) := by decide +kernel
theorem dX9_gcd_22 : decode cX9_gcd 22 = .ok (.goto 4, 3) := by decide +kernel
theorem dX9_gcd_25 : decode cX9_gcd 25 = .ok (.lload_n 2, 1) := by decide +kernel
theorem dX9_gcd_26 : decode cX9_gcd 26 = .ok (.lstore 6, 2) := by decide +kernel
theorem dX9_gcd_28 : decode cX9_gcd 28 = .ok (.lload 6, 2) := by decide +kernel
theorem dX9_gcd_30 : decode cX9_gcd 30 = .ok (.lconst 0, 1) := by decide +kernel
theorem dX9_gcd_31 : decode cX9_gcd 31 = .ok (.lcmp, 1) := by decide +kernel
theorem dX9_gcd_32 : decode cX9_gcd 32 = .ok (.ifCond .eq 21, 3) := by decide +kernel
theorem dX9_gcd_35 : decode cX9_gcd 35 = .ok (.lload 4, 2) := by decide +kernel
theorem dX9_gcd_37 : decode cX9_gcd 37 = .ok (.lload 6, 2) := by decide +kernel
theorem dX9_gcd_39 : decode cX9_gcd 39 = .ok (.lrem, 1) := by decide +kernel
theorem dX9_gcd_40 : decode cX9_gcd 40 = .ok (.lstore 8, 2) := by decide +kernel
theorem dX9_gcd_42 : decode cX9_gcd 42 = .ok (.lload 6, 2) := by decide +kernel
theorem dX9_gcd_44 : decode cX9_gcd 44 = .ok (.lstore 4, 2) := by decide +kernel
theorem dX9_gcd_46 : decode cX9_gcd 46 = .ok (.lload 8, 2) := by decide +kernel
theorem dX9_gcd_48 : decode cX9_gcd 48 = .ok (.lstore 6, 2) := by decide +kernel
theorem dX9_gcd_50 : decode cX9_gcd 50 = .ok (.goto (-22), 3) := by decide +kernel
theorem dX9_gcd_53 : decode cX9_gcd 53 = .ok (.lload 4, 2) := by decide +kernel
theorem dX9_gcd_55 : decode cX9_gcd 55 = .ok (.lreturn, 1) := by decide +kernel
set_option maxHeartbeats 4000000 in
set_option maxRecDepth 100000 in
/-- TutorLinesModel.gcd -/
theorem c_X9_gcd {l : Launch} {G : tm_G} {Hb : Heap} {sh : tm_sh} {M : tm_M} {a b : Int} (ha : a.natAbs ≤ 4611686018427387904) (hb1 : b.natAbs ≤ 4611686018427387904) : Met l yX9_gcd (tws yX9_gcd cX9_gcd 10 (some .long)) ({ frames := 0, cells := 0, slots := 0, locals := 0 }) (va_Pc [jl a, jl b] (tm_St G Hb sh M)) (tm_Ql G Hb sh (fun x M1 => x = (Int.gcd a b : Int) ∧ M1 = M)) 0 0 (tm_A Hb) := by
  refine tm_begin (by decide) (Nat.le_of_ble_eq_true rfl) (fun p e s m below meth c ls hx hb hr hml hown htw hlk hnm hK hW hl => ?_)
  have hS : va_S (tm_A Hb) s.heap s.heap [] := va_S.rf
  have hl : lv_has ls 10 [(0, jl a), (2, jl b)] := hl
  have loop : ∀ (k : Nat) (x y : Int) (H : Heap) (locs : List Loc) (ls : Array Slot), y.natAbs ≤ k → 0 ≤ x → 0 ≤ y → x.natAbs ≤ 4611686018427387904 → y.natAbs ≤ 4611686018427387904 → Int.gcd x y = Int.gcd a b → tm_W G Hb sh M H → va_S (tm_A Hb) s.heap H locs → lv_has ls 10 [(4, jl x), (6, jl y)] → W p l e ({ frames := 0, cells := 0, slots := 0, locals := 0 }) s m [jl a, jl b].toArray below meth c H locs 0 0 (MQ below (tm_Ql G Hb sh (fun x M1 => x = (Int.gcd a b : Int) ∧ M1 = M)) [jl a, jl b].toArray s 0 0 (tm_A Hb)) (F0 m 28 ls []) := by
    intro k
    induction k with
    | zero =>
      intro x y H locs ls hk hx0 hy0 hxb hyb hg hW hS hl
      have y0 : y = 0 := by omega
      subst y0
      refine lv_lload hx hb dX9_gcd_28 (lv_at hl 1 rfl) ?_
      refine ti_lconst0 hx hb dX9_gcd_30 ?_
      refine ti_lcmp_eq (tgt := 53) hx hb dX9_gcd_31 dX9_gcd_32 (by decide) (by omega) (by omega) (fun h31 => ?_) (fun h31 => ?_)
      · refine lv_lload hx hb dX9_gcd_53 (lv_at hl 0 rfl) ?_
        exact tm_lret hx hb hr hlk hK hW hS ⟨by rw [← hg, Int.gcd_zero_right]; omega, rfl⟩ dX9_gcd_55
      · exact absurd rfl h31
    | succ k ih =>
      intro x y H locs ls hk hx0 hy0 hxb hyb hg hW hS hl
      refine lv_lload hx hb dX9_gcd_28 (lv_at hl 1 rfl) ?_
      refine ti_lconst0 hx hb dX9_gcd_30 ?_
      refine ti_lcmp_eq (tgt := 53) hx hb dX9_gcd_31 dX9_gcd_32 (by decide) (by omega) (by omega) (fun h31 => ?_) (fun h31 => ?_)
      · subst h31
        refine lv_lload hx hb dX9_gcd_53 (lv_at hl 0 rfl) ?_
        exact tm_lret hx hb hr hlk hK hW hS ⟨by rw [← hg, Int.gcd_zero_right]; omega, rfl⟩ dX9_gcd_55
      · refine lv_lload hx hb dX9_gcd_35 (lv_at hl 0 rfl) ?_
        refine lv_lload hx hb dX9_gcd_37 (lv_at hl 1 rfl) ?_
        refine ti_lrem hx hb dX9_gcd_39 (by omega) (by omega) (by omega) ?_
        refine lv_lstore (lv' := [(8, _), (4, _), (6, _)]) hx hb dX9_gcd_40 hl (by decide) rfl (fun ls hl => ?_)
        refine lv_lload hx hb dX9_gcd_42 (lv_at hl 2 rfl) ?_
        refine lv_lstore (lv' := [(4, _), (8, _), (6, _)]) hx hb dX9_gcd_44 hl (by decide) rfl (fun ls hl => ?_)
        refine lv_lload hx hb dX9_gcd_46 (lv_at hl 1 rfl) ?_
        refine lv_lstore (lv' := [(6, _), (4, _), (8, _)]) hx hb dX9_gcd_48 hl (by decide) rfl (fun ls hl => ?_)
        refine lv_goto (tgt := 28) hx hb dX9_gcd_50 (by decide) ?_
        exact ih y (x.tmod y) _ _ _ (by have := tl_tmod_lt (d := x) h31; omega) hy0 (Int.tmod_nonneg y hx0) hyb (by have := tl_tmod_lt (d := x) h31; omega) (by rw [tl_gcd_step]; exact hg) hW hS (lv_sub hl [1, 0] rfl)
  refine lv_lload_n hx hb dX9_gcd_0 rfl (lv_at hl 0 rfl) ?_
  refine ti_lconst0 hx hb dX9_gcd_1 ?_
  refine ti_lcmp_ge (tgt := 11) hx hb dX9_gcd_2 dX9_gcd_3 (by decide) (by omega) (by omega) (fun h2 => ?_) (fun h2 => ?_)
  · refine lv_lload_n hx hb dX9_gcd_11 rfl (lv_at hl 0 rfl) ?_
    refine lv_lstore (lv' := [(4, _), (0, _), (2, _)]) hx hb dX9_gcd_12 hl (by decide) rfl (fun ls hl => ?_)
    refine lv_lload_n hx hb dX9_gcd_14 rfl (lv_at hl 2 rfl) ?_
    refine ti_lconst0 hx hb dX9_gcd_15 ?_
    refine ti_lcmp_ge (tgt := 25) hx hb dX9_gcd_16 dX9_gcd_17 (by decide) (by omega) (by omega) (fun h16 => ?_) (fun h16 => ?_)
    · refine lv_lload_n hx hb dX9_gcd_25 rfl (lv_at hl 2 rfl) ?_
      refine lv_lstore (lv' := [(6, _), (4, _), (0, _), (2, _)]) hx hb dX9_gcd_26 hl (by decide) rfl (fun ls hl => ?_)
      first
      | exact loop _ (-a) (-b) _ _ _ (Nat.le_refl _) (by omega) (by omega) (by omega) (by omega) (by rw [Int.neg_gcd, Int.gcd_neg]) hW hS (lv_sub hl [1, 0] rfl)
      | exact loop _ (-a) b _ _ _ (Nat.le_refl _) (by omega) (by omega) (by omega) (by omega) (by rw [Int.neg_gcd]) hW hS (lv_sub hl [1, 0] rfl)
      | exact loop _ a (-b) _ _ _ (Nat.le_refl _) (by omega) (by omega) (by omega) (by omega) (by rw [Int.gcd_neg]) hW hS (lv_sub hl [1, 0] rfl)
      | exact loop _ a b _ _ _ (Nat.le_refl _) (by omega) (by omega) (by omega) (by omega) rfl hW hS (lv_sub hl [1, 0] rfl)
    · refine lv_lload_n hx hb dX9_gcd_20 rfl (lv_at hl 2 rfl) ?_
      refine ti_lneg hx hb dX9_gcd_21 ?_
      refine lv_goto (tgt := 26) hx hb dX9_gcd_22 (by decide) ?_
      refine lv_lstore (lv' := [(6, _), (4, _), (0, _), (2, _)]) hx hb dX9_gcd_26 hl (by decide) rfl (fun ls hl => ?_)
      first
      | exact loop _ (-a) (-b) _ _ _ (Nat.le_refl _) (by omega) (by omega) (by omega) (by omega) (by rw [Int.neg_gcd, Int.gcd_neg]) hW hS (lv_sub hl [1, 0] rfl)
      | exact loop _ (-a) b _ _ _ (Nat.le_refl _) (by omega) (by omega) (by omega) (by omega) (by rw [Int.neg_gcd]) hW hS (lv_sub hl [1, 0] rfl)
      | exact loop _ a (-b) _ _ _ (Nat.le_refl _) (by omega) (by omega) (by omega) (by omega) (by rw [Int.gcd_neg]) hW hS (lv_sub hl [1, 0] rfl)
      | exact loop _ a b _ _ _ (Nat.le_refl _) (by omega) (by omega) (by omega) (by omega) rfl hW hS (lv_sub hl [1, 0] rfl)
  · refine lv_lload_n hx hb dX9_gcd_6 rfl (lv_at hl 0 rfl) ?_
    refine ti_lneg hx hb dX9_gcd_7 ?_
    refine lv_goto (tgt := 12) hx hb dX9_gcd_8 (by decide) ?_
    refine lv_lstore (lv' := [(4, _), (0, _), (2, _)]) hx hb dX9_gcd_12 hl (by decide) rfl (fun ls hl => ?_)
    refine lv_lload_n hx hb dX9_gcd_14 rfl (lv_at hl 2 rfl) ?_
    refine ti_lconst0 hx hb dX9_gcd_15 ?_
    refine ti_lcmp_ge (tgt := 25) hx hb dX9_gcd_16 dX9_gcd_17 (by decide) (by omega) (by omega) (fun h16 => ?_) (fun h16 => ?_)
    · refine lv_lload_n hx hb dX9_gcd_25 rfl (lv_at hl 2 rfl) ?_
      refine lv_lstore (lv' := [(6, _), (4, _), (0, _), (2, _)]) hx hb dX9_gcd_26 hl (by decide) rfl (fun ls hl => ?_)
      first
      | exact loop _ (-a) (-b) _ _ _ (Nat.le_refl _) (by omega) (by omega) (by omega) (by omega) (by rw [Int.neg_gcd, Int.gcd_neg]) hW hS (lv_sub hl [1, 0] rfl)
      | exact loop _ (-a) b _ _ _ (Nat.le_refl _) (by omega) (by omega) (by omega) (by omega) (by rw [Int.neg_gcd]) hW hS (lv_sub hl [1, 0] rfl)
      | exact loop _ a (-b) _ _ _ (Nat.le_refl _) (by omega) (by omega) (by omega) (by omega) (by rw [Int.gcd_neg]) hW hS (lv_sub hl [1, 0] rfl)
      | exact loop _ a b _ _ _ (Nat.le_refl _) (by omega) (by omega) (by omega) (by omega) rfl hW hS (lv_sub hl [1, 0] rfl)
    · refine lv_lload_n hx hb dX9_gcd_20 rfl (lv_at hl 2 rfl) ?_
      refine ti_lneg hx hb dX9_gcd_21 ?_
      refine lv_goto (tgt := 26) hx hb dX9_gcd_22 (by decide) ?_
      refine lv_lstore (lv' := [(6, _), (4, _), (0, _), (2, _)]) hx hb dX9_gcd_26 hl (by decide) rfl (fun ls hl => ?_)
      first
      | exact loop _ (-a) (-b) _ _ _ (Nat.le_refl _) (by omega) (by omega) (by omega) (by omega) (by rw [Int.neg_gcd, Int.gcd_neg]) hW hS (lv_sub hl [1, 0] rfl)
      | exact loop _ (-a) b _ _ _ (Nat.le_refl _) (by omega) (by omega) (by omega) (by omega) (by rw [Int.neg_gcd]) hW hS (lv_sub hl [1, 0] rfl)
      | exact loop _ a (-b) _ _ _ (Nat.le_refl _) (by omega) (by omega) (by omega) (by omega) (by rw [Int.gcd_neg]) hW hS (lv_sub hl [1, 0] rfl)
      | exact loop _ a b _ _ _ (Nat.le_refl _) (by omega) (by omega) (by omega) (by omega) rfl hW hS (lv_sub hl [1, 0] rfl)
theorem tl_mk1 {a b : Int} (hb : b ≠ 0) (h : b < 0) : (-a).tdiv (Int.gcd a b : Int) = (tl_norm a b).1 ∧ (-b).tdiv (Int.gcd a b : Int) = (tl_norm a b).2 := by
  unfold tl_norm
  rw [if_pos h]
  exact ⟨Int.tdiv_eq_ediv_of_dvd (Int.dvd_neg.mpr (Int.gcd_dvd_left a b)), Int.tdiv_eq_ediv_of_dvd (Int.dvd_neg.mpr (Int.gcd_dvd_right a b))⟩
theorem tl_mk2 {a b : Int} (h : ¬ b < 0) : a.tdiv (Int.gcd a b : Int) = (tl_norm a b).1 ∧ b.tdiv (Int.gcd a b : Int) = (tl_norm a b).2 := by
  unfold tl_norm
  rw [if_neg h]
  exact ⟨Int.tdiv_eq_ediv_of_dvd (Int.gcd_dvd_left a b), Int.tdiv_eq_ediv_of_dvd (Int.gcd_dvd_right a b)⟩
theorem tl_gcd_le {a b : Int} (hb : b ≠ 0) : Int.gcd a b ≤ b.natAbs := Nat.le_of_dvd (by omega) (Nat.gcd_dvd_right a.natAbs b.natAbs)
theorem dX9_make_0 : decode cX9_make 0 = .ok (.lload_n 1, 1) := by decide +kernel
theorem dX9_make_1 : decode cX9_make 1 = .ok (.lload_n 3, 1) := by decide +kernel
theorem dX9_make_2 : decode cX9_make 2 = .ok (.invokestatic 52, 3) := by decide +kernel
theorem dX9_make_5 : decode cX9_make 5 = .ok (.lstore 5, 2) := by decide +kernel
theorem dX9_make_7 : decode cX9_make 7 = .ok (.aload_n 0, 1) := by decide +kernel
theorem dX9_make_8 : decode cX9_make 8 = .ok (.lload_n 3, 1) := by decide +kernel
theorem dX9_make_9 : decode cX9_make 9 = .ok (.lconst 0, 1) := by decide +kernel
theorem dX9_make_10 : decode cX9_make 10 = .ok (.lcmp, 1) := by decide +kernel
theorem dX9_make_11 : decode cX9_make 11 = .ok (.ifCond .ge 11, 3) := by decide +kernel
theorem dX9_make_14 : decode cX9_make 14 = .ok (.lload_n 1, 1) := by decide +kernel
theorem dX9_make_15 : decode cX9_make 15 = .ok (.lneg, 1) := by decide +kernel
theorem dX9_make_16 : decode cX9_make 16 = .ok (.lload 5, 2) := by decide +kernel
theorem dX9_make_18 : decode cX9_make 18 = .ok (.ldiv, 1) := by decide +kernel
theorem dX9_make_19 : decode cX9_make 19 = .ok (.goto 7, 3) := by decide +kernel
theorem dX9_make_22 : decode cX9_make 22 = .ok (.lload_n 1, 1) := by decide +kernel
theorem dX9_make_23 : decode cX9_make 23 = .ok (.lload 5, 2) := by decide +kernel
theorem dX9_make_25 : decode cX9_make 25 = .ok (.ldiv, 1) := by decide +kernel
theorem dX9_make_26 : decode cX9_make 26 = .ok (.putfield 56, 3) := by decide +kernel
theorem dX9_make_29 : decode cX9_make 29 = .ok (.aload_n 0, 1) := by decide +kernel
theorem dX9_make_30 : decode cX9_make 30 = .ok (.lload_n 3, 1) := by decide +kernel
theorem dX9_make_31 : decode cX9_make 31 = .ok (.lconst 0, 1) := by decide +kernel
theorem dX9_make_32 : decode cX9_make 32 = .ok (.lcmp, 1) := by decide +kernel
theorem dX9_make_33 : decode cX9_make 33 = .ok (.ifCond .ge 11, 3) := by decide +kernel
theorem dX9_make_36 : decode cX9_make 36 = .ok (.lload_n 3, 1) := by decide +kernel
theorem dX9_make_37 : decode cX9_make 37 = .ok (.lneg, 1) := by decide +kernel
theorem dX9_make_38 : decode cX9_make 38 = .ok (.lload 5, 2) := by decide +kernel
theorem dX9_make_40 : decode cX9_make 40 = .ok (.ldiv, 1) := by decide +kernel
theorem dX9_make_41 : decode cX9_make 41 = .ok (.goto 7, 3) := by decide +kernel
theorem dX9_make_44 : decode cX9_make 44 = .ok (.lload_n 3, 1) := by decide +kernel
theorem dX9_make_45 : decode cX9_make 45 = .ok (.lload 5, 2) := by decide +kernel
theorem dX9_make_47 : decode cX9_make 47 = .ok (.ldiv, 1) := by decide +kernel
theorem dX9_make_48 : decode cX9_make 48 = .ok (.putfield 60, 3) := by decide +kernel
theorem dX9_make_51 : decode cX9_make 51 = .ok (.return_, 1) := by decide +kernel
set_option maxHeartbeats 4000000 in
set_option maxRecDepth 100000 in
/-- TutorLinesModel.make -/
theorem c_X9_make {l : Launch} {G : tm_G} {Hb : Heap} {sh : tm_sh} {M : tm_M} {o : Nat} {a b : Int} (h0 : sh o = some (9, 0)) (ha : a.natAbs ≤ 4611686018427387904) (hb1 : b.natAbs ≤ 4611686018427387904) (hnz : b ≠ 0) : Met l yX9_make (tws yX9_make cX9_make 7 none) ({ frames := 1, cells := 0, slots := 0, locals := 29 }) (va_Pc [.ref o, jl a, jl b] (tm_St G Hb sh M)) (tm_Qv G Hb sh (fun M1 => M1 = mk M o (tl_norm a b))) 0 0 (tm_A Hb) := by
  refine tm_begin (by decide) (Nat.le_of_ble_eq_true rfl) (fun p e s m below meth c ls hx hb hr hml hown htw hlk hnm hK hW hl => ?_)
  have hS : va_S (tm_A Hb) s.heap s.heap [] := va_S.rf
  have hl : lv_has ls 7 [(0, .ref o), (1, jl a), (3, jl b)] := hl
  have g1 := tl_gcd_pos (a := a) hnz
  have g2 := tl_gcd_le (a := a) hnz
  refine lv_lload_n hx hb dX9_make_0 rfl (lv_at hl 1 rfl) ?_
  refine lv_lload_n hx hb dX9_make_1 rfl (lv_at hl 2 rfl) ?_
  refine tm_calll (cs_X9_52 hx hb hml hown htw hK hW (c_X9_gcd ha hb1) ⟨rfl, rfl, Nat.le_of_ble_eq_true rfl, Nat.le_of_ble_eq_true rfl⟩ hl.1 (Nat.le_of_ble_eq_true rfl) dX9_make_2 ⟨Nat.le_of_ble_eq_true rfl, Nat.le_of_ble_eq_true rfl⟩) hS (fun x2 M2 H locs hp2 hW hS => ?_)
  obtain ⟨ex2, eM2⟩ := hp2
  rw [eM2] at hW
  rw [ex2]
  refine lv_lstore (lv' := [(5, _), (0, _), (1, _), (3, _)]) hx hb dX9_make_5 hl (by decide) rfl (fun ls hl => ?_)
  refine lv_aload_n hx hb dX9_make_7 rfl (lv_at hl 1 rfl) ?_
  refine lv_lload_n hx hb dX9_make_8 rfl (lv_at hl 3 rfl) ?_
  refine ti_lconst0 hx hb dX9_make_9 ?_
  refine ti_lcmp_ge (tgt := 22) hx hb dX9_make_10 dX9_make_11 (by decide) (by omega) (by omega) (fun h10 => ?_) (fun h10 => ?_)
  · refine lv_lload_n hx hb dX9_make_22 rfl (lv_at hl 2 rfl) ?_
    refine lv_lload hx hb dX9_make_23 (lv_at hl 0 rfl) ?_
    refine ti_ldiv hx hb dX9_make_25 (by omega) (by omega) (by omega) ?_
    refine pf_X9_56 hx hb htw hown hK hW (by assumption) hS dX9_make_26 (fun H locs hW hS => ?_)
    refine lv_aload_n hx hb dX9_make_29 rfl (lv_at hl 1 rfl) ?_
    refine lv_lload_n hx hb dX9_make_30 rfl (lv_at hl 3 rfl) ?_
    refine ti_lconst0 hx hb dX9_make_31 ?_
    refine ti_lcmp_ge (tgt := 44) hx hb dX9_make_32 dX9_make_33 (by decide) (by omega) (by omega) (fun h32 => ?_) (fun h32 => ?_)
    · refine lv_lload_n hx hb dX9_make_44 rfl (lv_at hl 3 rfl) ?_
      refine lv_lload hx hb dX9_make_45 (lv_at hl 0 rfl) ?_
      refine ti_ldiv hx hb dX9_make_47 (by omega) (by omega) (by omega) ?_
      refine pf_X9_60 hx hb htw hown hK hW (by assumption) hS dX9_make_48 (fun H locs hW hS => ?_)
      exact tm_vret hx hb hr hlk hK hW hS (by first | (exfalso; omega) | (obtain ⟨q1, q2⟩ := tl_mk1 (a := a) hnz (by omega); rw [q1, q2]) | (obtain ⟨q1, q2⟩ := tl_mk2 (a := a) (b := b) (by omega); rw [q1, q2])) dX9_make_51
    · refine lv_lload_n hx hb dX9_make_36 rfl (lv_at hl 3 rfl) ?_
      refine ti_lneg hx hb dX9_make_37 ?_
      refine lv_lload hx hb dX9_make_38 (lv_at hl 0 rfl) ?_
      refine ti_ldiv hx hb dX9_make_40 (by omega) (by omega) (by omega) ?_
      refine lv_goto (tgt := 48) hx hb dX9_make_41 (by decide) ?_
      refine pf_X9_60 hx hb htw hown hK hW (by assumption) hS dX9_make_48 (fun H locs hW hS => ?_)
      exact tm_vret hx hb hr hlk hK hW hS (by first | (exfalso; omega) | (obtain ⟨q1, q2⟩ := tl_mk1 (a := a) hnz (by omega); rw [q1, q2]) | (obtain ⟨q1, q2⟩ := tl_mk2 (a := a) (b := b) (by omega); rw [q1, q2])) dX9_make_51
  · refine lv_lload_n hx hb dX9_make_14 rfl (lv_at hl 2 rfl) ?_
    refine ti_lneg hx hb dX9_make_15 ?_
    refine lv_lload hx hb dX9_make_16 (lv_at hl 0 rfl) ?_
    refine ti_ldiv hx hb dX9_make_18 (by omega) (by omega) (by omega) ?_
    refine lv_goto (tgt := 26) hx hb dX9_make_19 (by decide) ?_
    refine pf_X9_56 hx hb htw hown hK hW (by assumption) hS dX9_make_26 (fun H locs hW hS => ?_)
    refine lv_aload_n hx hb dX9_make_29 rfl (lv_at hl 1 rfl) ?_
    refine lv_lload_n hx hb dX9_make_30 rfl (lv_at hl 3 rfl) ?_
    refine ti_lconst0 hx hb dX9_make_31 ?_
    refine ti_lcmp_ge (tgt := 44) hx hb dX9_make_32 dX9_make_33 (by decide) (by omega) (by omega) (fun h32 => ?_) (fun h32 => ?_)
    · refine lv_lload_n hx hb dX9_make_44 rfl (lv_at hl 3 rfl) ?_
      refine lv_lload hx hb dX9_make_45 (lv_at hl 0 rfl) ?_
      refine ti_ldiv hx hb dX9_make_47 (by omega) (by omega) (by omega) ?_
      refine pf_X9_60 hx hb htw hown hK hW (by assumption) hS dX9_make_48 (fun H locs hW hS => ?_)
      exact tm_vret hx hb hr hlk hK hW hS (by first | (exfalso; omega) | (obtain ⟨q1, q2⟩ := tl_mk1 (a := a) hnz (by omega); rw [q1, q2]) | (obtain ⟨q1, q2⟩ := tl_mk2 (a := a) (b := b) (by omega); rw [q1, q2])) dX9_make_51
    · refine lv_lload_n hx hb dX9_make_36 rfl (lv_at hl 3 rfl) ?_
      refine ti_lneg hx hb dX9_make_37 ?_
      refine lv_lload hx hb dX9_make_38 (lv_at hl 0 rfl) ?_
      refine ti_ldiv hx hb dX9_make_40 (by omega) (by omega) (by omega) ?_
      refine lv_goto (tgt := 48) hx hb dX9_make_41 (by decide) ?_
      refine pf_X9_60 hx hb htw hown hK hW (by assumption) hS dX9_make_48 (fun H locs hW hS => ?_)
      exact tm_vret hx hb hr hlk hK hW hS (by first | (exfalso; omega) | (obtain ⟨q1, q2⟩ := tl_mk1 (a := a) hnz (by omega); rw [q1, q2]) | (obtain ⟨q1, q2⟩ := tl_mk2 (a := a) (b := b) (by omega); rw [q1, q2])) dX9_make_51
theorem dX9_isGreat_0 : decode cX9_isGreat 0 = .ok (.aload_n 0, 1) := by decide +kernel
theorem dX9_isGreat_1 : decode cX9_isGreat 1 = .ok (.getfield 56, 3) := by decide +kernel
theorem dX9_isGreat_4 : decode cX9_isGreat 4 = .ok (.ldc2_w 63, 3) := by decide +kernel
theorem dX9_isGreat_7 : decode cX9_isGreat 7 = .ok (.ldc2_w 65, 3) := by decide +kernel
theorem dX9_isGreat_10 : decode cX9_isGreat 10 = .ok (.invokestatic 67, 3) := by decide +kernel
theorem dX9_isGreat_13 : decode cX9_isGreat 13 = .ok (.ifCond .eq 14, 3) := by decide +kernel
theorem dX9_isGreat_16 : decode cX9_isGreat 16 = .ok (.aload_n 0, 1) := by decide +kernel
theorem dX9_isGreat_17 : decode cX9_isGreat 17 = .ok (.getfield 60, 3) := by decide +kernel
theorem dX9_isGreat_20 : decode cX9_isGreat 20 = .ok (.ldc2_w 65, 3) := by decide +kernel
theorem dX9_isGreat_23 : decode cX9_isGreat 23 = .ok (.lcmp, 1) := by decide +kernel
theorem dX9_isGreat_24 : decode cX9_isGreat 24 = .ok (.ifCond .le 7, 3) := by decide +kernel
theorem dX9_isGreat_27 : decode cX9_isGreat 27 = .ok (.iconst 1, 1) := by decide +kernel
theorem dX9_isGreat_28 : decode cX9_isGreat 28 = .ok (.goto 4, 3) := by decide +kernel
theorem dX9_isGreat_31 : decode cX9_isGreat 31 = .ok (.iconst 0, 1) := by decide +kernel
theorem dX9_isGreat_32 : decode cX9_isGreat 32 = .ok (.ireturn, 1) := by decide +kernel
set_option maxHeartbeats 4000000 in
set_option maxRecDepth 100000 in
/-- TutorLinesModel.isGreat -/
theorem c_X9_isGreat {l : Launch} {G : tm_G} {Hb : Heap} {sh : tm_sh} {M : tm_M} {o : Nat} {f : tl_F} (h0 : sh o = some (9, 0)) (e0 : mL M o 10 = f.1) (e1 : mL M o 11 = f.2) (hf : fLok f) : Met l yX9_isGreat (tws yX9_isGreat cX9_isGreat 1 (some .boolean)) ({ frames := 1, cells := 0, slots := 0, locals := 25 }) (va_Pc [.ref o] (tm_St G Hb sh M)) (tm_Qi G Hb sh (fun x M1 => x = tl_b (¬ ffit f) ∧ M1 = M)) 0 0 (tm_A Hb) := by
  refine tm_begin (by decide) (Nat.le_of_ble_eq_true rfl) (fun p e s m below meth c ls hx hb hr hml hown htw hlk hnm hK hW hl => ?_)
  have hS : va_S (tm_A Hb) s.heap s.heap [] := va_S.rf
  have hl : lv_has ls 1 [(0, .ref o)] := hl
  refine lv_aload_n hx hb dX9_isGreat_0 rfl (lv_at hl 0 rfl) ?_
  refine gf_X9_56 hx hb htw hown hK hW (by assumption) dX9_isGreat_1 ?_
  refine lv_ldc2 hx hb hown (htw _ cl_X9_63) dX9_isGreat_4 ?_
  refine lv_ldc2 hx hb hown (htw _ cl_X9_65) dX9_isGreat_7 ?_
  refine tm_calli (cs_X9_67 hx hb hml hown htw hK hW (c_X9_in (by rw [e0]; exact hf.1) (by decide) (by decide)) ⟨rfl, rfl, Nat.le_of_ble_eq_true rfl, Nat.le_of_ble_eq_true rfl⟩ hl.1 (Nat.le_of_ble_eq_true rfl) dX9_isGreat_10 ⟨Nat.le_of_ble_eq_true rfl, Nat.le_of_ble_eq_true rfl⟩) hS (fun x10 M10 H locs hp10 hW hS => ?_)
  obtain ⟨ex10, eM10⟩ := hp10
  rw [eM10] at hW
  rw [ex10]
  refine ti_if_eq (tgt := 27) hx hb dX9_isGreat_13 (by decide) (tl_b_r _) (fun h13 => ?_) (fun h13 => ?_)
  · refine ti_iconst hx hb dX9_isGreat_27 ?_
    refine lv_goto (tgt := 32) hx hb dX9_isGreat_28 (by decide) ?_
    exact tm_zret hx hb hr hlk (by first | exact Or.inl rfl | exact Or.inr rfl | assumption) hK hW hS ⟨by rw [e0] at h13; first | exact tl_b_t (fun q => absurd (tl_b_0.mp h13) (fun z => z ⟨q.1, q.2.1⟩)) | (rw [e1] at h23; first | exact tl_b_t (fun q => absurd q.2.2 (by omega)) | exact tl_b_f (fun z => z ⟨(tl_b_n.mp h13).1, (tl_b_n.mp h13).2, by omega⟩)), rfl⟩ dX9_isGreat_32
  · refine lv_aload_n hx hb dX9_isGreat_16 rfl (lv_at hl 0 rfl) ?_
    refine gf_X9_60 hx hb htw hown hK hW (by assumption) dX9_isGreat_17 ?_
    refine lv_ldc2 hx hb hown (htw _ cl_X9_65) dX9_isGreat_20 ?_
    refine ti_lcmp_le (tgt := 31) hx hb dX9_isGreat_23 dX9_isGreat_24 (by decide) (by rw [e1]; exact hf.2) (by decide) (fun h23 => ?_) (fun h23 => ?_)
    · refine ti_iconst hx hb dX9_isGreat_31 ?_
      exact tm_zret hx hb hr hlk (by first | exact Or.inl rfl | exact Or.inr rfl | assumption) hK hW hS ⟨by rw [e0] at h13; first | exact tl_b_t (fun q => absurd (tl_b_0.mp h13) (fun z => z ⟨q.1, q.2.1⟩)) | (rw [e1] at h23; first | exact tl_b_t (fun q => absurd q.2.2 (by omega)) | exact tl_b_f (fun z => z ⟨(tl_b_n.mp h13).1, (tl_b_n.mp h13).2, by omega⟩)), rfl⟩ dX9_isGreat_32
    · refine ti_iconst hx hb dX9_isGreat_27 ?_
      refine lv_goto (tgt := 32) hx hb dX9_isGreat_28 (by decide) ?_
      exact tm_zret hx hb hr hlk (by first | exact Or.inl rfl | exact Or.inr rfl | assumption) hK hW hS ⟨by rw [e0] at h13; first | exact tl_b_t (fun q => absurd (tl_b_0.mp h13) (fun z => z ⟨q.1, q.2.1⟩)) | (rw [e1] at h23; first | exact tl_b_t (fun q => absurd q.2.2 (by omega)) | exact tl_b_f (fun z => z ⟨(tl_b_n.mp h13).1, (tl_b_n.mp h13).2, by omega⟩)), rfl⟩ dX9_isGreat_32
theorem dX9_fails_0 : decode cX9_fails 0 = .ok (.aload_n 0, 1) := by decide +kernel
theorem dX9_fails_1 : decode cX9_fails 1 = .ok (.iload_n 1, 1) := by decide +kernel
theorem dX9_fails_2 : decode cX9_fails 2 = .ok (.putfield 73, 3) := by decide +kernel
theorem dX9_fails_5 : decode cX9_fails 5 = .ok (.iconst 0, 1) := by decide +kernel
theorem dX9_fails_6 : decode cX9_fails 6 = .ok (.ireturn, 1) := by decide +kernel
set_option maxHeartbeats 4000000 in
set_option maxRecDepth 100000 in
/-- TutorLinesModel.fails -/
theorem c_X9_fails {l : Launch} {G : tm_G} {Hb : Heap} {sh : tm_sh} {M : tm_M} {o : Nat} {x : Int} (h0 : sh o = some (9, 0)) : Met l yX9_fails (tws yX9_fails cX9_fails 2 (some .boolean)) ({ frames := 0, cells := 0, slots := 0, locals := 0 }) (va_Pc [.ref o, ji x] (tm_St G Hb sh M)) (tm_Qi G Hb sh (fun r M1 => r = 0 ∧ M1 = sI M o 21 x)) 0 0 (tm_A Hb) := by
  refine tm_begin (by decide) (Nat.le_of_ble_eq_true rfl) (fun p e s m below meth c ls hx hb hr hml hown htw hlk hnm hK hW hl => ?_)
  have hS : va_S (tm_A Hb) s.heap s.heap [] := va_S.rf
  have hl : lv_has ls 2 [(0, .ref o), (1, ji x)] := hl
  refine lv_aload_n hx hb dX9_fails_0 rfl (lv_at hl 0 rfl) ?_
  refine lv_iload_n hx hb dX9_fails_1 rfl (lv_at hl 1 rfl) ?_
  refine pf_X9_73 hx hb htw hown hK hW (by assumption) hS dX9_fails_2 (fun H locs hW hS => ?_)
  refine ti_iconst hx hb dX9_fails_5 ?_
  exact tm_zret hx hb hr hlk (by first | exact Or.inl rfl | exact Or.inr rfl | assumption) hK hW hS ⟨rfl, rfl⟩ dX9_fails_6
theorem dX9_isDigit_0 : decode cX9_isDigit 0 = .ok (.iload_n 0, 1) := by decide +kernel
theorem dX9_isDigit_1 : decode cX9_isDigit 1 = .ok (.i2l, 1) := by decide +kernel
theorem dX9_isDigit_2 : decode cX9_isDigit 2 = .ok (.ldc2_w 82, 3) := by decide +kernel
theorem dX9_isDigit_5 : decode cX9_isDigit 5 = .ok (.ldc2_w 84, 3) := by decide +kernel
theorem dX9_isDigit_8 : decode cX9_isDigit 8 = .ok (.invokestatic 67, 3) := by decide +kernel
theorem dX9_isDigit_11 : decode cX9_isDigit 11 = .ok (.ireturn, 1) := by decide +kernel
set_option maxHeartbeats 4000000 in
set_option maxRecDepth 100000 in
/-- TutorLinesModel.isDigit -/
theorem c_X9_isDigit {l : Launch} {G : tm_G} {Hb : Heap} {sh : tm_sh} {M : tm_M} {x : Int} (hx1 : inI x) : Met l yX9_isDigit (tws yX9_isDigit cX9_isDigit 1 (some .boolean)) ({ frames := 1, cells := 0, slots := 0, locals := 25 }) (va_Pc [ji x] (tm_St G Hb sh M)) (tm_Qi G Hb sh (fun r M1 => r = tl_b (48 ≤ x ∧ x ≤ 57) ∧ M1 = M)) 0 0 (tm_A Hb) := by
  refine tm_begin (by decide) (Nat.le_of_ble_eq_true rfl) (fun p e s m below meth c ls hx hb hr hml hown htw hlk hnm hK hW hl => ?_)
  have hS : va_S (tm_A Hb) s.heap s.heap [] := va_S.rf
  have hl : lv_has ls 1 [(0, ji x)] := hl
  refine lv_iload_n hx hb dX9_isDigit_0 rfl (lv_at hl 0 rfl) ?_
  refine ti_i2l hx hb dX9_isDigit_1 (by omega) ?_
  refine lv_ldc2 hx hb hown (htw _ cl_X9_82) dX9_isDigit_2 ?_
  refine lv_ldc2 hx hb hown (htw _ cl_X9_84) dX9_isDigit_5 ?_
  refine tm_calli (cs_X9_67 hx hb hml hown htw hK hW (c_X9_in (by omega) (by decide) (by decide)) ⟨rfl, rfl, Nat.le_of_ble_eq_true rfl, Nat.le_of_ble_eq_true rfl⟩ hl.1 (Nat.le_of_ble_eq_true rfl) dX9_isDigit_8 ⟨Nat.le_of_ble_eq_true rfl, Nat.le_of_ble_eq_true rfl⟩) hS (fun x8 M8 H locs hp8 hW hS => ?_)
  obtain ⟨ex8, eM8⟩ := hp8
  rw [eM8] at hW
  rw [ex8]
  exact tm_zret hx hb hr hlk (tl_b_z _) hK hW hS ⟨rfl, rfl⟩ dX9_isDigit_11
theorem tl_down {x y : Int} (hy : 0 < y) : (x.tmod y < 0 → x.tdiv y - 1 = x / y) ∧ (¬ x.tmod y < 0 → x.tdiv y = x / y) := by
  have h1 := Int.mul_tdiv_add_tmod x y
  have hc : y * x.tdiv y = x.tdiv y * y := Int.mul_comm _ _
  obtain ⟨f1, f2, f3⟩ := tl_floor (x := x) hy
  refine ⟨fun h => ?_, fun h => ?_⟩
  · rcases Int.lt_or_le x 0 with z | z
    · exact f3 z (fun q => by omega)
    · have := Int.tmod_nonneg y z
      omega
  · rcases Int.lt_or_le x 0 with z | z
    · refine f2 z ?_
      have := Int.tmod_nonneg (a := -x) y (by omega)
      rw [Int.neg_tmod] at this
      omega
    · exact f1 z
theorem dX9_down_0 : decode cX9_down 0 = .ok (.lload_n 0, 1) := by decide +kernel
theorem dX9_down_1 : decode cX9_down 1 = .ok (.lload_n 2, 1) := by decide +kernel
theorem dX9_down_2 : decode cX9_down 2 = .ok (.lrem, 1) := by decide +kernel
theorem dX9_down_3 : decode cX9_down 3 = .ok (.lconst 0, 1) := by decide +kernel
theorem dX9_down_4 : decode cX9_down 4 = .ok (.lcmp, 1) := by decide +kernel
theorem dX9_down_5 : decode cX9_down 5 = .ok (.ifCond .ge 11, 3) := by decide +kernel
theorem dX9_down_8 : decode cX9_down 8 = .ok (.lload_n 0, 1) := by decide +kernel
theorem dX9_down_9 : decode cX9_down 9 = .ok (.lload_n 2, 1) := by decide +kernel
theorem dX9_down_10 : decode cX9_down 10 = .ok (.ldiv, 1) := by decide +kernel
theorem dX9_down_11 : decode cX9_down 11 = .ok (.lconst 1, 1) := by decide +kernel
theorem dX9_down_12 : decode cX9_down 12 = .ok (.lsub, 1) := by decide +kernel
theorem dX9_down_13 : decode cX9_down 13 = .ok (.goto 6, 3) := by decide +kernel
theorem dX9_down_16 : decode cX9_down 16 = .ok (.lload_n 0, 1) := by decide +kernel
theorem dX9_down_17 : decode cX9_down 17 = .ok (.lload_n 2, 1) := by decide +kernel
theorem dX9_down_18 : decode cX9_down 18 = .ok (.ldiv, 1) := by decide +kernel
theorem dX9_down_19 : decode cX9_down 19 = .ok (.lreturn, 1) := by decide +kernel
set_option maxHeartbeats 4000000 in
set_option maxRecDepth 100000 in
/-- TutorLinesModel.down -/
theorem c_X9_down {l : Launch} {G : tm_G} {Hb : Heap} {sh : tm_sh} {M : tm_M} {a b : Int} (ha : inL a) (hb1 : 0 < b ∧ inL b) : Met l yX9_down (tws yX9_down cX9_down 4 (some .long)) ({ frames := 0, cells := 0, slots := 0, locals := 0 }) (va_Pc [jl a, jl b] (tm_St G Hb sh M)) (tm_Ql G Hb sh (fun x M1 => x = a / b ∧ M1 = M)) 0 0 (tm_A Hb) := by
  refine tm_begin (by decide) (Nat.le_of_ble_eq_true rfl) (fun p e s m below meth c ls hx hb hr hml hown htw hlk hnm hK hW hl => ?_)
  have hS : va_S (tm_A Hb) s.heap s.heap [] := va_S.rf
  have hl : lv_has ls 4 [(0, jl a), (2, jl b)] := hl
  have hm : inL (a.tmod b) := by have := tl_tmod_lt (d := a) (r := b) (by omega); omega
  refine lv_lload_n hx hb dX9_down_0 rfl (lv_at hl 0 rfl) ?_
  refine lv_lload_n hx hb dX9_down_1 rfl (lv_at hl 1 rfl) ?_
  refine ti_lrem hx hb dX9_down_2 (by omega) (by omega) (by omega) ?_
  refine ti_lconst0 hx hb dX9_down_3 ?_
  refine ti_lcmp_ge (tgt := 16) hx hb dX9_down_4 dX9_down_5 (by decide) hm (by decide) (fun h4 => ?_) (fun h4 => ?_)
  · refine lv_lload_n hx hb dX9_down_16 rfl (lv_at hl 0 rfl) ?_
    refine lv_lload_n hx hb dX9_down_17 rfl (lv_at hl 1 rfl) ?_
    refine ti_ldiv hx hb dX9_down_18 (by omega) (by omega) (by omega) ?_
    exact tm_lret hx hb hr hlk hK hW hS ⟨by first | exact (tl_down hb1.1).1 (by omega) | exact (tl_down hb1.1).2 (by omega), rfl⟩ dX9_down_19
  · refine lv_lload_n hx hb dX9_down_8 rfl (lv_at hl 0 rfl) ?_
    refine lv_lload_n hx hb dX9_down_9 rfl (lv_at hl 1 rfl) ?_
    refine ti_ldiv hx hb dX9_down_10 (by omega) (by omega) (by omega) ?_
    refine ti_lconst1 hx hb dX9_down_11 ?_
    refine ti_lsub hx hb dX9_down_12 ?_
    refine lv_goto (tgt := 19) hx hb dX9_down_13 (by decide) ?_
    exact tm_lret hx hb hr hlk hK hW hS ⟨by first | exact (tl_down hb1.1).1 (by omega) | exact (tl_down hb1.1).2 (by omega), rfl⟩ dX9_down_19
theorem dX9_order_0 : decode cX9_order 0 = .ok (.lload_n 1, 1) := by decide +kernel
theorem dX9_order_1 : decode cX9_order 1 = .ok (.lstore 5, 2) := by decide +kernel
theorem dX9_order_3 : decode cX9_order 3 = .ok (.lload_n 3, 1) := by decide +kernel
theorem dX9_order_4 : decode cX9_order 4 = .ok (.lstore 7, 2) := by decide +kernel
theorem dX9_order_6 : decode cX9_order 6 = .ok (.aload_n 0, 1) := by decide +kernel
theorem dX9_order_7 : decode cX9_order 7 = .ok (.getfield 137, 3) := by decide +kernel
theorem dX9_order_10 : decode cX9_order 10 = .ok (.lstore 9, 2) := by decide +kernel
theorem dX9_order_12 : decode cX9_order 12 = .ok (.aload_n 0, 1) := by decide +kernel
theorem dX9_order_13 : decode cX9_order 13 = .ok (.getfield 140, 3) := by decide +kernel
theorem dX9_order_16 : decode cX9_order 16 = .ok (.lstore 11, 2) := by decide +kernel
theorem dX9_order_18 : decode cX9_order 18 = .ok (.lload 5, 2) := by decide +kernel
theorem dX9_order_20 : decode cX9_order 20 = .ok (.lload 7, 2) := by decide +kernel
theorem dX9_order_22 : decode cX9_order 22 = .ok (.invokestatic 146, 3) := by decide +kernel
theorem dX9_order_25 : decode cX9_order 25 = .ok (.lstore 13, 2) := by decide +kernel
theorem dX9_order_27 : decode cX9_order 27 = .ok (.lload 9, 2) := by decide +kernel
theorem dX9_order_29 : decode cX9_order 29 = .ok (.lload 11, 2) := by decide +kernel
theorem dX9_order_31 : decode cX9_order 31 = .ok (.invokestatic 146, 3) := by decide +kernel
theorem dX9_order_34 : decode cX9_order 34 = .ok (.lstore 15, 2) := by decide +kernel
theorem dX9_order_36 : decode cX9_order 36 = .ok (.lload 13, 2) := by decide +kernel
theorem dX9_order_38 : decode cX9_order 38 = .ok (.lload 15, 2) := by decide +kernel
theorem dX9_order_40 : decode cX9_order 40 = .ok (.lcmp, 1) := by decide +kernel
theorem dX9_order_41 : decode cX9_order 41 = .ok (.ifCond .eq 17, 3) := by decide +kernel
theorem dX9_order_44 : decode cX9_order 44 = .ok (.lload 13, 2) := by decide +kernel
theorem dX9_order_46 : decode cX9_order 46 = .ok (.lload 15, 2) := by decide +kernel
theorem dX9_order_48 : decode cX9_order 48 = .ok (.lcmp, 1) := by decide +kernel
theorem dX9_order_49 : decode cX9_order 49 = .ok (.ifCond .ge 7, 3) := by decide +kernel
theorem dX9_order_52 : decode cX9_order 52 = .ok (.iconst (-1), 1) := by decide +kernel
theorem dX9_order_53 : decode cX9_order 53 = .ok (.goto 4, 3) := by decide +kernel
theorem dX9_order_56 : decode cX9_order 56 = .ok (.iconst 1, 1) := by decide +kernel
theorem dX9_order_57 : decode cX9_order 57 = .ok (.ireturn, 1) := by decide +kernel
theorem dX9_order_58 : decode cX9_order 58 = .ok (.lload 5, 2) := by decide +kernel
theorem dX9_order_60 : decode cX9_order 60 = .ok (.lload 13, 2) := by decide +kernel
theorem dX9_order_62 : decode cX9_order 62 = .ok (.lload 7, 2) := by decide +kernel
theorem dX9_order_64 : decode cX9_order 64 = .ok (.lmul, 1) := by decide +kernel
theorem dX9_order_65 : decode cX9_order 65 = .ok (.lsub, 1) := by decide +kernel
theorem dX9_order_66 : decode cX9_order 66 = .ok (.lstore 5, 2) := by decide +kernel
theorem dX9_order_68 : decode cX9_order 68 = .ok (.lload 9, 2) := by decide +kernel
theorem dX9_order_70 : decode cX9_order 70 = .ok (.lload 15, 2) := by decide +kernel
theorem dX9_order_72 : decode cX9_order 72 = .ok (.lload 11, 2) := by decide +kernel
theorem dX9_order_74 : decode cX9_order 74 = .ok (.lmul, 1) := by decide +kernel
theorem dX9_order_75 : decode cX9_order 75 = .ok (.lsub, 1) := by decide +kernel
theorem dX9_order_76 : decode cX9_order 76 = .ok (.lstore 9, 2) := by decide +kernel
theorem dX9_order_78 : decode cX9_order 78 = .ok (.lload 5, 2) := by decide +kernel
theorem dX9_order_80 : decode cX9_order 80 = .ok (.lconst 0, 1) := by decide +kernel
theorem dX9_order_81 : decode cX9_order 81 = .ok (.lcmp, 1) := by decide +kernel
theorem dX9_order_82 : decode cX9_order 82 = .ok (.ifCond .eq 10, 3) := by decide +kernel
theorem dX9_order_85 : decode cX9_order 85 = .ok (.lload 9, 2) := by decide +kernel
theorem dX9_order_87 : decode cX9_order 87 = .ok (.lconst 0, 1) := by decide +kernel
theorem dX9_order_88 : decode cX9_order 88 = .ok (.lcmp, 1) := by decide +kernel
theorem dX9_order_89 : decode cX9_order 89 = .ok (.ifCond .ne 28, 3) := by decide +kernel
theorem dX9_order_92 : decode cX9_order 92 = .ok (.lload 5, 2) := by decide +kernel
theorem dX9_order_94 : decode cX9_order 94 = .ok (.lload 9, 2) := by decide +kernel
theorem dX9_order_96 : decode cX9_order 96 = .ok (.lcmp, 1) := by decide +kernel
theorem dX9_order_97 : decode cX9_order 97 = .ok (.ifCond .ne 7, 3) := by decide +kernel
theorem dX9_order_100 : decode cX9_order 100 = .ok (.iconst 0, 1) := by decide +kernel
theorem dX9_order_101 : decode cX9_order 101 = .ok (.goto 15, 3) := by decide +kernel
theorem dX9_order_104 : decode cX9_order 104 = .ok (.lload 5, 2) := by decide +kernel
theorem dX9_order_106 : decode cX9_order 106 = .ok (.lconst 0, 1) := by decide +kernel
theorem dX9_order_107 : decode cX9_order 107 = .ok (.lcmp, 1) := by decide +kernel
theorem dX9_order_108 : decode cX9_order 108 = .ok (.ifCond .ne 7, 3) := by decide +kernel
theorem dX9_order_111 : decode cX9_order 111 = .ok (.iconst (-1), 1) := by decide +kernel
theorem dX9_order_112 : decode cX9_order 112 = .ok (.goto 4, 3) := by decide +kernel
theorem dX9_order_115 : decode cX9_order 115 = .ok (.iconst 1, 1) := by decide +kernel
theorem dX9_order_116 : decode cX9_order 116 = .ok (.ireturn, 1) := by decide +kernel
theorem dX9_order_117 : decode cX9_order 117 = .ok (.lload 5, 2) := by decide +kernel
theorem dX9_order_119 : decode cX9_order 119 = .ok (.lstore 17, 2) := by decide +kernel
theorem dX9_order_121 : decode cX9_order 121 = .ok (.lload 7, 2) := by decide +kernel
theorem dX9_order_123 : decode cX9_order 123 = .ok (.lstore 19, 2) := by decide +kernel
theorem dX9_order_125 : decode cX9_order 125 = .ok (.lload 11, 2) := by decide +kernel
theorem dX9_order_127 : decode cX9_order 127 = .ok (.lstore 5, 2) := by decide +kernel
theorem dX9_order_129 : decode cX9_order 129 = .ok (.lload 9, 2) := by decide +kernel
theorem dX9_order_131 : decode cX9_order 131 = .ok (.lstore 7, 2) := by decide +kernel
theorem dX9_order_133 : decode cX9_order 133 = .ok (.lload 19, 2) := by decide +kernel
theorem dX9_order_135 : decode cX9_order 135 = .ok (.lstore 9, 2) := by decide +kernel
theorem dX9_order_137 : decode cX9_order 137 = .ok (.lload 17, 2) := by decide +kernel
theorem dX9_order_139 : decode cX9_order 139 = .ok (.lstore 11, 2) := by decide +kernel
theorem dX9_order_141 : decode cX9_order 141 = .ok (.goto (-123), 3) := by decide +kernel
theorem tl_dvL {a b : Int} (hb : 0 < b) (ha : a.natAbs ≤ 4611686018427387904) : inL (a / b) := by
  have h1 : (a / b).natAbs ≤ a.natAbs := Int.natAbs_ediv_le_natAbs a b
  omega
set_option maxHeartbeats 4000000 in
set_option maxRecDepth 100000 in
/-- TutorLinesModel.order -/
theorem c_X9_order {l : Launch} {G : tm_G} {Hb : Heap} {sh : tm_sh} {M : tm_M} {o : Nat} {x y : Int} (h0 : sh o = some (9, 0)) (hf : pok (x, y)) (hg : pok (mL M o 26, mL M o 27)) : Met l yX9_order (tws yX9_order cX9_order 21 (some .int)) ({ frames := 1, cells := 0, slots := 0, locals := 23 }) (va_Pc [.ref o, jl x, jl y] (tm_St G Hb sh M)) (tm_Qi G Hb sh (fun r M1 => r = tl_cmp x y (mL M o 26) (mL M o 27) ∧ M1 = M)) 0 0 (tm_A Hb) := by
  refine tm_begin (by decide) (Nat.le_of_ble_eq_true rfl) (fun p e s m below meth cd ls hx hb hr hml hown htw hlk hnm hK hW hl => ?_)
  have hS : va_S (tm_A Hb) s.heap s.heap [] := va_S.rf
  have hl : lv_has ls 21 [(0, .ref o), (1, jl x), (3, jl y)] := hl
  have loop : ∀ (k : Nat) (a b c d : Int) (H : Heap) (locs : List Loc) (ls : Array Slot), b.natAbs + d.natAbs ≤ k → pok (a, b) → pok (c, d) → tl_cmp a b c d = tl_cmp x y (mL M o 26) (mL M o 27) → tm_W G Hb sh M H → va_S (tm_A Hb) s.heap H locs → lv_has ls 21 [(5, jl a), (7, jl b), (9, jl c), (11, jl d)] → W p l e ({ frames := 1, cells := 0, slots := 0, locals := 23 }) s m [.ref o, jl x, jl y].toArray below meth cd H locs 0 0 (MQ below (tm_Qi G Hb sh (fun r M1 => r = tl_cmp x y (mL M o 26) (mL M o 27) ∧ M1 = M)) [.ref o, jl x, jl y].toArray s 0 0 (tm_A Hb)) (F0 m 18 ls []) := by
    intro k
    induction k with
    | zero =>
      intro a b c d H locs ls hk hA hB he hW hS hl
      unfold pok at hA
      omega
    | succ k ih =>
      intro a b c d H locs ls hk hA hB he hW hS hl
      unfold pok at hA hB
      have m1 := Int.emod_nonneg a (show b ≠ 0 by omega)
      have m2 := Int.emod_lt_of_pos a (show 0 < b by omega)
      have m3 := Int.emod_nonneg c (show d ≠ 0 by omega)
      have m4 := Int.emod_lt_of_pos c (show 0 < d by omega)
      have e1 : a - a / b * b = a % b := by have := Int.emod_add_mul_ediv a b; rw [Int.mul_comm] at this; omega
      have e2 : c - c / d * d = c % d := by have := Int.emod_add_mul_ediv c d; rw [Int.mul_comm] at this; omega
      have r1 : inL (a / b) := tl_dvL (by omega) (by omega)
      have r2 : inL (c / d) := tl_dvL (by omega) (by omega)
      refine lv_lload hx hb dX9_order_18 (lv_at hl 0 rfl) ?_
      refine lv_lload hx hb dX9_order_20 (lv_at hl 1 rfl) ?_
      refine tm_calll (cs_X9_146 hx hb hml hown htw hK hW (c_X9_down (by omega) (by omega)) ⟨rfl, rfl, Nat.le_of_ble_eq_true rfl, Nat.le_of_ble_eq_true rfl⟩ hl.1 (Nat.le_of_ble_eq_true rfl) dX9_order_22 ⟨Nat.le_of_ble_eq_true rfl, Nat.le_of_ble_eq_true rfl⟩) hS (fun x22 M22 H locs hp22 hW hS => ?_)
      obtain ⟨ex22, eM22⟩ := hp22
      rw [eM22] at hW
      rw [ex22]
      refine lv_lstore (lv' := [(13, _), (5, _), (7, _), (9, _), (11, _)]) hx hb dX9_order_25 hl (by decide) rfl (fun ls hl => ?_)
      refine lv_lload hx hb dX9_order_27 (lv_at hl 3 rfl) ?_
      refine lv_lload hx hb dX9_order_29 (lv_at hl 4 rfl) ?_
      refine tm_calll (cs_X9_146 hx hb hml hown htw hK hW (c_X9_down (by omega) (by omega)) ⟨rfl, rfl, Nat.le_of_ble_eq_true rfl, Nat.le_of_ble_eq_true rfl⟩ hl.1 (Nat.le_of_ble_eq_true rfl) dX9_order_31 ⟨Nat.le_of_ble_eq_true rfl, Nat.le_of_ble_eq_true rfl⟩) hS (fun x31 M31 H locs hp31 hW hS => ?_)
      obtain ⟨ex31, eM31⟩ := hp31
      rw [eM31] at hW
      rw [ex31]
      refine lv_lstore (lv' := [(15, _), (13, _), (5, _), (7, _), (9, _), (11, _)]) hx hb dX9_order_34 hl (by decide) rfl (fun ls hl => ?_)
      refine lv_lload hx hb dX9_order_36 (lv_at hl 1 rfl) ?_
      refine lv_lload hx hb dX9_order_38 (lv_at hl 0 rfl) ?_
      refine ti_lcmp_eq (tgt := 58) hx hb dX9_order_40 dX9_order_41 (by decide) r1 r2 (fun h40 => ?_) (fun h40 => ?_)
      · refine lv_lload hx hb dX9_order_58 (lv_at hl 2 rfl) ?_
        refine lv_lload hx hb dX9_order_60 (lv_at hl 1 rfl) ?_
        refine lv_lload hx hb dX9_order_62 (lv_at hl 3 rfl) ?_
        refine ti_lmul hx hb dX9_order_64 ?_
        refine ti_lsub hx hb dX9_order_65 ?_
        rw [e1]
        refine lv_lstore (lv' := [(5, _), (15, _), (13, _), (7, _), (9, _), (11, _)]) hx hb dX9_order_66 hl (by decide) rfl (fun ls hl => ?_)
        refine lv_lload hx hb dX9_order_68 (lv_at hl 4 rfl) ?_
        refine lv_lload hx hb dX9_order_70 (lv_at hl 1 rfl) ?_
        refine lv_lload hx hb dX9_order_72 (lv_at hl 5 rfl) ?_
        refine ti_lmul hx hb dX9_order_74 ?_
        refine ti_lsub hx hb dX9_order_75 ?_
        rw [e2]
        have em := tl_cmp_mod (a := a) (b := b) (c := c) (d := d) (by omega)
        have he2 := em.symm.trans he
        refine lv_lstore (lv' := [(9, _), (5, _), (15, _), (13, _), (7, _), (11, _)]) hx hb dX9_order_76 hl (by decide) rfl (fun ls hl => ?_)
        refine lv_lload hx hb dX9_order_78 (lv_at hl 1 rfl) ?_
        refine ti_lconst0 hx hb dX9_order_80 ?_
        refine ti_lcmp_eq (tgt := 92) hx hb dX9_order_81 dX9_order_82 (by decide) (by omega) (by omega) (fun h81 => ?_) (fun h81 => ?_)
        · refine lv_lload hx hb dX9_order_92 (lv_at hl 1 rfl) ?_
          refine lv_lload hx hb dX9_order_94 (lv_at hl 0 rfl) ?_
          refine ti_lcmp_ne (tgt := 104) hx hb dX9_order_96 dX9_order_97 (by decide) (by omega) (by omega) (fun h96 => ?_) (fun h96 => ?_)
          · refine lv_lload hx hb dX9_order_104 (lv_at hl 1 rfl) ?_
            refine ti_lconst0 hx hb dX9_order_106 ?_
            refine ti_lcmp_ne (tgt := 115) hx hb dX9_order_107 dX9_order_108 (by decide) (by omega) (by omega) (fun h107 => ?_) (fun h107 => ?_)
            · refine ti_iconst hx hb dX9_order_115 ?_
              exact tm_iret hx hb hr hlk hK hW hS ⟨by rw [← he2]; first | (rw [show a % b = 0 by omega, show c % d = 0 by omega, tl_cmp_00]; done) | (rw [show a % b = 0 by omega]; exact (tl_cmp_0p (by omega) (by omega)).symm) | (rw [show c % d = 0 by omega]; exact (tl_cmp_p0 (by omega) (by omega)).symm), rfl⟩ dX9_order_116
            · refine ti_iconst hx hb dX9_order_111 ?_
              refine lv_goto (tgt := 116) hx hb dX9_order_112 (by decide) ?_
              exact tm_iret hx hb hr hlk hK hW hS ⟨by rw [← he2]; first | (rw [show a % b = 0 by omega, show c % d = 0 by omega, tl_cmp_00]; done) | (rw [show a % b = 0 by omega]; exact (tl_cmp_0p (by omega) (by omega)).symm) | (rw [show c % d = 0 by omega]; exact (tl_cmp_p0 (by omega) (by omega)).symm), rfl⟩ dX9_order_116
          · refine ti_iconst hx hb dX9_order_100 ?_
            refine lv_goto (tgt := 116) hx hb dX9_order_101 (by decide) ?_
            exact tm_iret hx hb hr hlk hK hW hS ⟨by rw [← he2]; first | (rw [show a % b = 0 by omega, show c % d = 0 by omega, tl_cmp_00]; done) | (rw [show a % b = 0 by omega]; exact (tl_cmp_0p (by omega) (by omega)).symm) | (rw [show c % d = 0 by omega]; exact (tl_cmp_p0 (by omega) (by omega)).symm), rfl⟩ dX9_order_116
        · refine lv_lload hx hb dX9_order_85 (lv_at hl 0 rfl) ?_
          refine ti_lconst0 hx hb dX9_order_87 ?_
          refine ti_lcmp_ne (tgt := 117) hx hb dX9_order_88 dX9_order_89 (by decide) (by omega) (by omega) (fun h88 => ?_) (fun h88 => ?_)
          · refine lv_lload hx hb dX9_order_117 (lv_at hl 1 rfl) ?_
            refine lv_lstore (lv' := [(17, _), (9, _), (5, _), (15, _), (13, _), (7, _), (11, _)]) hx hb dX9_order_119 hl (by decide) rfl (fun ls hl => ?_)
            refine lv_lload hx hb dX9_order_121 (lv_at hl 5 rfl) ?_
            refine lv_lstore (lv' := [(19, _), (17, _), (9, _), (5, _), (15, _), (13, _), (7, _), (11, _)]) hx hb dX9_order_123 hl (by decide) rfl (fun ls hl => ?_)
            refine lv_lload hx hb dX9_order_125 (lv_at hl 7 rfl) ?_
            refine lv_lstore (lv' := [(5, _), (19, _), (17, _), (9, _), (15, _), (13, _), (7, _), (11, _)]) hx hb dX9_order_127 hl (by decide) rfl (fun ls hl => ?_)
            refine lv_lload hx hb dX9_order_129 (lv_at hl 3 rfl) ?_
            refine lv_lstore (lv' := [(7, _), (5, _), (19, _), (17, _), (9, _), (15, _), (13, _), (11, _)]) hx hb dX9_order_131 hl (by decide) rfl (fun ls hl => ?_)
            refine lv_lload hx hb dX9_order_133 (lv_at hl 2 rfl) ?_
            refine lv_lstore (lv' := [(9, _), (7, _), (5, _), (19, _), (17, _), (15, _), (13, _), (11, _)]) hx hb dX9_order_135 hl (by decide) rfl (fun ls hl => ?_)
            refine lv_lload hx hb dX9_order_137 (lv_at hl 4 rfl) ?_
            refine lv_lstore (lv' := [(11, _), (9, _), (7, _), (5, _), (19, _), (17, _), (15, _), (13, _)]) hx hb dX9_order_139 hl (by decide) rfl (fun ls hl => ?_)
            refine lv_goto (tgt := 18) hx hb dX9_order_141 (by decide) ?_
            exact ih d (c % d) b (a % b) _ _ _ (by omega) (by unfold pok; omega) (by unfold pok; omega) (by rw [← tl_cmp_inv]; exact he2) hW hS (lv_sub hl [3, 2, 1, 0] rfl)
          · refine lv_lload hx hb dX9_order_92 (lv_at hl 1 rfl) ?_
            refine lv_lload hx hb dX9_order_94 (lv_at hl 0 rfl) ?_
            refine ti_lcmp_ne (tgt := 104) hx hb dX9_order_96 dX9_order_97 (by decide) (by omega) (by omega) (fun h96 => ?_) (fun h96 => ?_)
            · refine lv_lload hx hb dX9_order_104 (lv_at hl 1 rfl) ?_
              refine ti_lconst0 hx hb dX9_order_106 ?_
              refine ti_lcmp_ne (tgt := 115) hx hb dX9_order_107 dX9_order_108 (by decide) (by omega) (by omega) (fun h107 => ?_) (fun h107 => ?_)
              · refine ti_iconst hx hb dX9_order_115 ?_
                exact tm_iret hx hb hr hlk hK hW hS ⟨by rw [← he2]; first | (rw [show a % b = 0 by omega, show c % d = 0 by omega, tl_cmp_00]; done) | (rw [show a % b = 0 by omega]; exact (tl_cmp_0p (by omega) (by omega)).symm) | (rw [show c % d = 0 by omega]; exact (tl_cmp_p0 (by omega) (by omega)).symm), rfl⟩ dX9_order_116
              · refine ti_iconst hx hb dX9_order_111 ?_
                refine lv_goto (tgt := 116) hx hb dX9_order_112 (by decide) ?_
                exact tm_iret hx hb hr hlk hK hW hS ⟨by rw [← he2]; first | (rw [show a % b = 0 by omega, show c % d = 0 by omega, tl_cmp_00]; done) | (rw [show a % b = 0 by omega]; exact (tl_cmp_0p (by omega) (by omega)).symm) | (rw [show c % d = 0 by omega]; exact (tl_cmp_p0 (by omega) (by omega)).symm), rfl⟩ dX9_order_116
            · refine ti_iconst hx hb dX9_order_100 ?_
              refine lv_goto (tgt := 116) hx hb dX9_order_101 (by decide) ?_
              exact tm_iret hx hb hr hlk hK hW hS ⟨by rw [← he2]; first | (rw [show a % b = 0 by omega, show c % d = 0 by omega, tl_cmp_00]; done) | (rw [show a % b = 0 by omega]; exact (tl_cmp_0p (by omega) (by omega)).symm) | (rw [show c % d = 0 by omega]; exact (tl_cmp_p0 (by omega) (by omega)).symm), rfl⟩ dX9_order_116
      · refine lv_lload hx hb dX9_order_44 (lv_at hl 1 rfl) ?_
        refine lv_lload hx hb dX9_order_46 (lv_at hl 0 rfl) ?_
        refine ti_lcmp_ge (tgt := 56) hx hb dX9_order_48 dX9_order_49 (by decide) r1 r2 (fun h48 => ?_) (fun h48 => ?_)
        · refine ti_iconst hx hb dX9_order_56 ?_
          exact tm_iret hx hb hr hlk hK hW hS ⟨by rw [← he]; first | exact (tl_cmp_lt (by omega) (by omega) (by omega)).symm | exact (tl_cmp_gt (by omega) (by omega) (by omega)).symm, rfl⟩ dX9_order_57
        · refine ti_iconst hx hb dX9_order_52 ?_
          refine lv_goto (tgt := 57) hx hb dX9_order_53 (by decide) ?_
          exact tm_iret hx hb hr hlk hK hW hS ⟨by rw [← he]; first | exact (tl_cmp_lt (by omega) (by omega) (by omega)).symm | exact (tl_cmp_gt (by omega) (by omega) (by omega)).symm, rfl⟩ dX9_order_57
  refine lv_lload_n hx hb dX9_order_0 rfl (lv_at hl 1 rfl) ?_
  refine lv_lstore (lv' := [(5, _), (0, _), (1, _), (3, _)]) hx hb dX9_order_1 hl (by decide) rfl (fun ls hl => ?_)
  refine lv_lload_n hx hb dX9_order_3 rfl (lv_at hl 3 rfl) ?_
  refine lv_lstore (lv' := [(7, _), (5, _), (0, _), (1, _), (3, _)]) hx hb dX9_order_4 hl (by decide) rfl (fun ls hl => ?_)
  refine lv_aload_n hx hb dX9_order_6 rfl (lv_at hl 2 rfl) ?_
  refine gf_X9_137 hx hb htw hown hK hW (by assumption) dX9_order_7 ?_
  refine lv_lstore (lv' := [(9, _), (7, _), (5, _), (0, _), (1, _), (3, _)]) hx hb dX9_order_10 hl (by decide) rfl (fun ls hl => ?_)
  refine lv_aload_n hx hb dX9_order_12 rfl (lv_at hl 3 rfl) ?_
  refine gf_X9_140 hx hb htw hown hK hW (by assumption) dX9_order_13 ?_
  refine lv_lstore (lv' := [(11, _), (9, _), (7, _), (5, _), (0, _), (1, _), (3, _)]) hx hb dX9_order_16 hl (by decide) rfl (fun ls hl => ?_)
  exact loop _ x y (mL M o 26) (mL M o 27) _ _ _ (Nat.le_refl _) hf hg rfl hW hS (lv_sub hl [3, 2, 1, 0] rfl)
