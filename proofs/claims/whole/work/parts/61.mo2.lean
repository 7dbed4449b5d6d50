/-! TutorLinesModel: rows of lines (by program: wip/whole/gen/mo2.py) -/
abbrev rf (M : tm_M) (o i n : Nat) : tl_F := (mL M (o + 2) (9 * i + 2 * n), mL M (o + 2) (9 * i + 2 * n + 1))
abbrev rl (M : tm_M) (o i : Nat) : tl_L := ((rf M o i 0, rf M o i 1), (rf M o i 2, rf M o i 3), mL M (o + 2) (9 * i + 8))
/-- the fraction n of row i is written -/
abbrev wr (M : tm_M) (o i n : Nat) (f : tl_F) : tm_M := sL (sL (sI (mk M o f) o 28 (tl_b (¬ mI M o 28 = 0 ∧ ffit f))) (o + 2) (9 * i + 2 * n) f.1) (o + 2) (9 * i + 2 * n + 1) f.2
theorem wr_L {M : tm_M} {o i n k : Nat} {f : tl_F} (h : k ≠ 9 * i + 2 * n ∧ k ≠ 9 * i + 2 * n + 1) : mL (wr M o i n f) (o + 2) k = mL M (o + 2) k := (tm_up_k _ _ h.2).trans ((tm_up_k _ _ h.1).trans (mk_n _ _ (Or.inl (by omega))))
theorem wr_s {M : tm_M} {o i n : Nat} {f : tl_F} : rf (wr M o i n f) o i n = f := by
  show (mL (wr M o i n f) (o + 2) (9 * i + 2 * n), mL (wr M o i n f) (o + 2) (9 * i + 2 * n + 1)) = f
  rw [show mL (wr M o i n f) (o + 2) (9 * i + 2 * n) = f.1 from (tm_up_k _ _ (by omega)).trans (tm_up_s _ _ _ _), show mL (wr M o i n f) (o + 2) (9 * i + 2 * n + 1) = f.2 from tm_up_s _ _ _ _]
theorem wr_o {M : tm_M} {o i n i' n' : Nat} {f : tl_F} (h1 : n < 4) (h2 : n' < 4) (h : i' ≠ i ∨ n' ≠ n) : rf (wr M o i n f) o i' n' = rf M o i' n' := by
  show (mL (wr M o i n f) (o + 2) (9 * i' + 2 * n'), mL (wr M o i n f) (o + 2) (9 * i' + 2 * n' + 1)) = _
  rw [wr_L (by omega), wr_L (by omega)]
theorem wr_28 {M : tm_M} {o i n : Nat} {f : tl_F} : mI (wr M o i n f) o 28 = tl_b (¬ mI M o 28 = 0 ∧ ffit f) := tm_up_s _ _ _ _
theorem wr_I {M : tm_M} {o i n a k : Nat} {f : tl_F} (h : a ≠ o ∨ k ≠ 28) : mI (wr M o i n f) a k = mI M a k := if_neg (fun z => by omega)
theorem fq_wr {P : Nat → Nat → Prop} {M : tm_M} {o i n : Nat} {f : tl_F} (h1 : P o 10) (h2 : P o 11) (h3 : P o 28) (h4 : P (o + 2) (9 * i + 2 * n)) (h5 : P (o + 2) (9 * i + 2 * n + 1)) : fq P M (wr M o i n f) := fq_tr (fq_tr (fq_tr (fq_mk h1 h2) (fq_sI h3)) (fq_sL h4)) (fq_sL h5)
theorem fq_rl {P : Nat → Nat → Prop} {M M1 : tm_M} {o i : Nat} (h : fq P M M1) (g : ∀ k, k < 9 → ¬ P (o + 2) (9 * i + k)) : rl M1 o i = rl M o i := by
  have e : ∀ k, k < 9 → mL M1 (o + 2) (9 * i + k) = mL M (o + 2) (9 * i + k) := fun k hk => (h.2 _ _ (g k hk)).2
  show (((mL M1 (o + 2) (9 * i + 0), mL M1 (o + 2) (9 * i + 1)), (mL M1 (o + 2) (9 * i + 2), mL M1 (o + 2) (9 * i + 3))), ((mL M1 (o + 2) (9 * i + 4), mL M1 (o + 2) (9 * i + 5)), (mL M1 (o + 2) (9 * i + 6), mL M1 (o + 2) (9 * i + 7))), mL M1 (o + 2) (9 * i + 8)) = _
  rw [e 0 (by decide), e 1 (by decide), e 2 (by decide), e 3 (by decide), e 4 (by decide), e 5 (by decide), e 6 (by decide), e 7 (by decide), e 8 (by decide)]
/-- the model has N lines -/
def moN (sh : tm_sh) (M : tm_M) (o N : Nat) : Prop := isMo sh M o ∧ mI M o 3 = N ∧ 0 < N ∧ N ≤ 40
theorem moN_m {sh : tm_sh} {M M1 : tm_M} {o N : Nat} {P : Nat → Nat → Prop} (h : moN sh M o N) (f : fq P M M1) (g : ¬ P o 3) : moN sh M1 o N := ⟨isMo_m h.1 f.1, (f.2 o 3 g).1.trans h.2.1, h.2.2⟩
theorem dX9_last_0 : decode cX9_last 0 = .ok (.aload_n 0, 1) := by decide +kernel
theorem dX9_last_1 : decode cX9_last 1 = .ok (.getfield 159, 3) := by decide +kernel
theorem dX9_last_4 : decode cX9_last 4 = .ok (.iconst 1, 1) := by decide +kernel
theorem dX9_last_5 : decode cX9_last 5 = .ok (.isub, 1) := by decide +kernel
theorem dX9_last_6 : decode cX9_last 6 = .ok (.ireturn, 1) := by decide +kernel
set_option maxHeartbeats 4000000 in
set_option maxRecDepth 100000 in
/-- TutorLinesModel.last -/
theorem c_X9_last {l : Launch} {G : tm_G} {Hb : Heap} {sh : tm_sh} {M : tm_M} {o N : Nat} (h : moN sh M o N) : Met l yX9_last (tws yX9_last cX9_last 1 (some .int)) ({ frames := 0, cells := 0, slots := 0, locals := 0 }) (va_Pc [.ref o] (tm_St G Hb sh M)) (tm_Qi G Hb sh (fun x M1 => x = ((N - 1 : Nat) : Int) ∧ M1 = M)) 0 0 (tm_A Hb) := by
  refine tm_begin (by decide) (Nat.le_of_ble_eq_true rfl) (fun p e s m below meth c ls hx hb hr hml hown htw hlk hnm hK hW hl => ?_)
  have hS : va_S (tm_A Hb) s.heap s.heap [] := va_S.rf
  have hl : lv_has ls 1 [(0, .ref o)] := hl
  have h9 := h.2
  obtain ⟨b0, ⟨t1, t2, t6, t7, t9, t12, t13, t14, t15, t16, t17, t24⟩, ⟨u1, u2, u3, u4, u5, u6, u7, u8, u9, u10, u11, u12⟩⟩ := h.1
  refine lv_aload_n hx hb dX9_last_0 rfl (lv_at hl 0 rfl) ?_
  refine gf_X9_159 hx hb htw hown hK hW (by assumption) dX9_last_1 ?_
  refine ti_iconst hx hb dX9_last_4 ?_
  refine ti_isub hx hb dX9_last_5 ?_
  exact tm_iret hx hb hr hlk hK hW hS ⟨by rw [h.2.1]; omega, rfl⟩ dX9_last_6
theorem dX9_above_0 : decode cX9_above 0 = .ok (.aload_n 0, 1) := by decide +kernel
theorem dX9_above_1 : decode cX9_above 1 = .ok (.getfield 13, 3) := by decide +kernel
theorem dX9_above_4 : decode cX9_above 4 = .ok (.bipush 9, 2) := by decide +kernel
theorem dX9_above_6 : decode cX9_above 6 = .ok (.aload_n 0, 1) := by decide +kernel
theorem dX9_above_7 : decode cX9_above 7 = .ok (.invokevirtual 166, 3) := by decide +kernel
theorem dX9_above_10 : decode cX9_above 10 = .ok (.imul, 1) := by decide +kernel
theorem dX9_above_11 : decode cX9_above 11 = .ok (.iconst 2, 1) := by decide +kernel
theorem dX9_above_12 : decode cX9_above 12 = .ok (.iload_n 1, 1) := by decide +kernel
theorem dX9_above_13 : decode cX9_above 13 = .ok (.imul, 1) := by decide +kernel
theorem dX9_above_14 : decode cX9_above 14 = .ok (.iadd, 1) := by decide +kernel
theorem dX9_above_15 : decode cX9_above 15 = .ok (.laload, 1) := by decide +kernel
theorem dX9_above_16 : decode cX9_above 16 = .ok (.lreturn, 1) := by decide +kernel
set_option maxHeartbeats 4000000 in
set_option maxRecDepth 100000 in
/-- TutorLinesModel.above -/
theorem c_X9_above {l : Launch} {G : tm_G} {Hb : Heap} {sh : tm_sh} {M : tm_M} {o N n : Nat} (h : moN sh M o N) (hn : n < 4) : Met l yX9_above (tws yX9_above cX9_above 2 (some .long)) ({ frames := 1, cells := 0, slots := 0, locals := 20 }) (va_Pc [.ref o, ji (n : Nat)] (tm_St G Hb sh M)) (tm_Ql G Hb sh (fun x M1 => x = (rf M o (N - 1) n).1 ∧ M1 = M)) 0 0 (tm_A Hb) := by
  refine tm_begin (by decide) (Nat.le_of_ble_eq_true rfl) (fun p e s m below meth c ls hx hb hr hml hown htw hlk hnm hK hW hl => ?_)
  have hS : va_S (tm_A Hb) s.heap s.heap [] := va_S.rf
  have hl : lv_has ls 2 [(0, .ref o), (1, ji (n : Nat))] := hl
  have h9 := h.2
  have ix : (9 * ((N - 1 : Nat) : Int) + 2 * (n : Int)).toNat = 9 * (N - 1) + 2 * n := by omega
  obtain ⟨b0, ⟨t1, t2, t6, t7, t9, t12, t13, t14, t15, t16, t17, t24⟩, ⟨u1, u2, u3, u4, u5, u6, u7, u8, u9, u10, u11, u12⟩⟩ := h.1
  refine lv_aload_n hx hb dX9_above_0 rfl (lv_at hl 0 rfl) ?_
  refine gf_X9_13 hx hb htw hown hK hW (by assumption) (by assumption) dX9_above_1 ?_
  refine ti_bipush hx hb dX9_above_4 (by decide) ?_
  refine lv_aload_n hx hb dX9_above_6 rfl (lv_at hl 0 rfl) ?_
  refine tm_calli (cs_X9_166 hx hb hml hown htw hK hW (by assumption) (c_X9_last h) ⟨rfl, rfl, Nat.le_of_ble_eq_true rfl, Nat.le_of_ble_eq_true rfl⟩ hl.1 (Nat.le_of_ble_eq_true rfl) dX9_above_7 ⟨Nat.le_of_ble_eq_true rfl, Nat.le_of_ble_eq_true rfl⟩) hS (fun x7 M7 H locs hp7 hW hS => ?_)
  obtain ⟨ex7, eM7⟩ := hp7
  rw [eM7] at hW
  rw [ex7]
  refine ti_imul hx hb dX9_above_10 ?_
  refine ti_iconst hx hb dX9_above_11 ?_
  refine lv_iload_n hx hb dX9_above_12 rfl (lv_at hl 1 rfl) ?_
  refine ti_imul hx hb dX9_above_13 ?_
  refine ti_iadd hx hb dX9_above_14 ?_
  refine tm_lald hx hb hK hW (by assumption) (by omega) (by omega) (by decide) dX9_above_15 ?_
  exact tm_lret hx hb hr hlk hK hW hS ⟨by rw [ix], rfl⟩ dX9_above_16
theorem dX9_below_0 : decode cX9_below 0 = .ok (.aload_n 0, 1) := by decide +kernel
theorem dX9_below_1 : decode cX9_below 1 = .ok (.getfield 13, 3) := by decide +kernel
theorem dX9_below_4 : decode cX9_below 4 = .ok (.bipush 9, 2) := by decide +kernel
theorem dX9_below_6 : decode cX9_below 6 = .ok (.aload_n 0, 1) := by decide +kernel
theorem dX9_below_7 : decode cX9_below 7 = .ok (.invokevirtual 166, 3) := by decide +kernel
theorem dX9_below_10 : decode cX9_below 10 = .ok (.imul, 1) := by decide +kernel
theorem dX9_below_11 : decode cX9_below 11 = .ok (.iconst 2, 1) := by decide +kernel
theorem dX9_below_12 : decode cX9_below 12 = .ok (.iload_n 1, 1) := by decide +kernel
theorem dX9_below_13 : decode cX9_below 13 = .ok (.imul, 1) := by decide +kernel
theorem dX9_below_14 : decode cX9_below 14 = .ok (.iadd, 1) := by decide +kernel
theorem dX9_below_15 : decode cX9_below 15 = .ok (.iconst 1, 1) := by decide +kernel
theorem dX9_below_16 : decode cX9_below 16 = .ok (.iadd, 1) := by decide +kernel
theorem dX9_below_17 : decode cX9_below 17 = .ok (.laload, 1) := by decide +kernel
theorem dX9_below_18 : decode cX9_below 18 = .ok (.lreturn, 1) := by decide +kernel
set_option maxHeartbeats 4000000 in
set_option maxRecDepth 100000 in
/-- TutorLinesModel.below -/
theorem c_X9_below {l : Launch} {G : tm_G} {Hb : Heap} {sh : tm_sh} {M : tm_M} {o N n : Nat} (h : moN sh M o N) (hn : n < 4) : Met l yX9_below (tws yX9_below cX9_below 2 (some .long)) ({ frames := 1, cells := 0, slots := 0, locals := 20 }) (va_Pc [.ref o, ji (n : Nat)] (tm_St G Hb sh M)) (tm_Ql G Hb sh (fun x M1 => x = (rf M o (N - 1) n).2 ∧ M1 = M)) 0 0 (tm_A Hb) := by
  refine tm_begin (by decide) (Nat.le_of_ble_eq_true rfl) (fun p e s m below meth c ls hx hb hr hml hown htw hlk hnm hK hW hl => ?_)
  have hS : va_S (tm_A Hb) s.heap s.heap [] := va_S.rf
  have hl : lv_has ls 2 [(0, .ref o), (1, ji (n : Nat))] := hl
  have h9 := h.2
  have ix : (9 * ((N - 1 : Nat) : Int) + 2 * (n : Int) + 1).toNat = 9 * (N - 1) + 2 * n + 1 := by omega
  obtain ⟨b0, ⟨t1, t2, t6, t7, t9, t12, t13, t14, t15, t16, t17, t24⟩, ⟨u1, u2, u3, u4, u5, u6, u7, u8, u9, u10, u11, u12⟩⟩ := h.1
  refine lv_aload_n hx hb dX9_below_0 rfl (lv_at hl 0 rfl) ?_
  refine gf_X9_13 hx hb htw hown hK hW (by assumption) (by assumption) dX9_below_1 ?_
  refine ti_bipush hx hb dX9_below_4 (by decide) ?_
  refine lv_aload_n hx hb dX9_below_6 rfl (lv_at hl 0 rfl) ?_
  refine tm_calli (cs_X9_166 hx hb hml hown htw hK hW (by assumption) (c_X9_last h) ⟨rfl, rfl, Nat.le_of_ble_eq_true rfl, Nat.le_of_ble_eq_true rfl⟩ hl.1 (Nat.le_of_ble_eq_true rfl) dX9_below_7 ⟨Nat.le_of_ble_eq_true rfl, Nat.le_of_ble_eq_true rfl⟩) hS (fun x7 M7 H locs hp7 hW hS => ?_)
  obtain ⟨ex7, eM7⟩ := hp7
  rw [eM7] at hW
  rw [ex7]
  refine ti_imul hx hb dX9_below_10 ?_
  refine ti_iconst hx hb dX9_below_11 ?_
  refine lv_iload_n hx hb dX9_below_12 rfl (lv_at hl 1 rfl) ?_
  refine ti_imul hx hb dX9_below_13 ?_
  refine ti_iadd hx hb dX9_below_14 ?_
  refine ti_iconst hx hb dX9_below_15 ?_
  refine ti_iadd hx hb dX9_below_16 ?_
  refine tm_lald hx hb hK hW (by assumption) (by omega) (by omega) (by decide) dX9_below_17 ?_
  exact tm_lret hx hb hr hlk hK hW hS ⟨by rw [ix], rfl⟩ dX9_below_18
theorem dX9_isOne_0 : decode cX9_isOne 0 = .ok (.aload_n 0, 1) := by decide +kernel
theorem dX9_isOne_1 : decode cX9_isOne 1 = .ok (.iload_n 1, 1) := by decide +kernel
theorem dX9_isOne_2 : decode cX9_isOne 2 = .ok (.invokevirtual 169, 3) := by decide +kernel
theorem dX9_isOne_5 : decode cX9_isOne 5 = .ok (.lconst 1, 1) := by decide +kernel
theorem dX9_isOne_6 : decode cX9_isOne 6 = .ok (.lcmp, 1) := by decide +kernel
theorem dX9_isOne_7 : decode cX9_isOne 7 = .ok (.ifCond .ne 17, 3) := by decide +kernel
theorem dX9_isOne_10 : decode cX9_isOne 10 = .ok (.aload_n 0, 1) := by decide +kernel
theorem dX9_isOne_11 : decode cX9_isOne 11 = .ok (.iload_n 1, 1) := by decide +kernel
theorem dX9_isOne_12 : decode cX9_isOne 12 = .ok (.invokevirtual 173, 3) := by decide +kernel
theorem dX9_isOne_15 : decode cX9_isOne 15 = .ok (.lconst 1, 1) := by decide +kernel
theorem dX9_isOne_16 : decode cX9_isOne 16 = .ok (.lcmp, 1) := by decide +kernel
theorem dX9_isOne_17 : decode cX9_isOne 17 = .ok (.ifCond .ne 7, 3) := by decide +kernel
theorem dX9_isOne_20 : decode cX9_isOne 20 = .ok (.iconst 1, 1) := by decide +kernel
theorem dX9_isOne_21 : decode cX9_isOne 21 = .ok (.goto 4, 3) := by decide +kernel
theorem dX9_isOne_24 : decode cX9_isOne 24 = .ok (.iconst 0, 1) := by decide +kernel
theorem dX9_isOne_25 : decode cX9_isOne 25 = .ok (.ireturn, 1) := by decide +kernel
set_option maxHeartbeats 4000000 in
set_option maxRecDepth 100000 in
/-- TutorLinesModel.isOne -/
theorem c_X9_isOne {l : Launch} {G : tm_G} {Hb : Heap} {sh : tm_sh} {M : tm_M} {o N n : Nat} (h : moN sh M o N) (hn : n < 4) (hf : fLok (rf M o (N - 1) n)) : Met l yX9_isOne (tws yX9_isOne cX9_isOne 2 (some .boolean)) ({ frames := 2, cells := 0, slots := 0, locals := 41 }) (va_Pc [.ref o, ji (n : Nat)] (tm_St G Hb sh M)) (tm_Qi G Hb sh (fun x M1 => x = tl_b (rf M o (N - 1) n = (1, 1)) ∧ M1 = M)) 0 0 (tm_A Hb) := by
  refine tm_begin (by decide) (Nat.le_of_ble_eq_true rfl) (fun p e s m below meth c ls hx hb hr hml hown htw hlk hnm hK hW hl => ?_)
  have hS : va_S (tm_A Hb) s.heap s.heap [] := va_S.rf
  have hl : lv_has ls 2 [(0, .ref o), (1, ji (n : Nat))] := hl
  have h8 := h.1.1
  refine lv_aload_n hx hb dX9_isOne_0 rfl (lv_at hl 0 rfl) ?_
  refine lv_iload_n hx hb dX9_isOne_1 rfl (lv_at hl 1 rfl) ?_
  refine tm_calll (cs_X9_169 hx hb hml hown htw hK hW (by assumption) (c_X9_above h hn) ⟨rfl, rfl, Nat.le_of_ble_eq_true rfl, Nat.le_of_ble_eq_true rfl⟩ hl.1 (Nat.le_of_ble_eq_true rfl) dX9_isOne_2 ⟨Nat.le_of_ble_eq_true rfl, Nat.le_of_ble_eq_true rfl⟩) hS (fun x2 M2 H locs hp2 hW hS => ?_)
  obtain ⟨ex2, eM2⟩ := hp2
  rw [eM2] at hW
  rw [ex2]
  refine ti_lconst1 hx hb dX9_isOne_5 ?_
  refine ti_lcmp_ne (tgt := 24) hx hb dX9_isOne_6 dX9_isOne_7 (by decide) hf.1 (by decide) (fun h6 => ?_) (fun h6 => ?_)
  · refine ti_iconst hx hb dX9_isOne_24 ?_
    exact tm_zret hx hb hr hlk (by first | exact Or.inl rfl | exact Or.inr rfl | assumption) hK hW hS ⟨by first | exact tl_b_t (Prod.ext h6 h16) | exact tl_b_f (fun q => h6 (congrArg Prod.fst q)) | exact tl_b_f (fun q => h16 (congrArg Prod.snd q)), rfl⟩ dX9_isOne_25
  · refine lv_aload_n hx hb dX9_isOne_10 rfl (lv_at hl 0 rfl) ?_
    refine lv_iload_n hx hb dX9_isOne_11 rfl (lv_at hl 1 rfl) ?_
    refine tm_calll (cs_X9_173 hx hb hml hown htw hK hW (by assumption) (c_X9_below h hn) ⟨rfl, rfl, Nat.le_of_ble_eq_true rfl, Nat.le_of_ble_eq_true rfl⟩ hl.1 (Nat.le_of_ble_eq_true rfl) dX9_isOne_12 ⟨Nat.le_of_ble_eq_true rfl, Nat.le_of_ble_eq_true rfl⟩) hS (fun x12 M12 H locs hp12 hW hS => ?_)
    obtain ⟨ex12, eM12⟩ := hp12
    rw [eM12] at hW
    rw [ex12]
    refine ti_lconst1 hx hb dX9_isOne_15 ?_
    refine ti_lcmp_ne (tgt := 24) hx hb dX9_isOne_16 dX9_isOne_17 (by decide) hf.2 (by decide) (fun h16 => ?_) (fun h16 => ?_)
    · refine ti_iconst hx hb dX9_isOne_24 ?_
      exact tm_zret hx hb hr hlk (by first | exact Or.inl rfl | exact Or.inr rfl | assumption) hK hW hS ⟨by first | exact tl_b_t (Prod.ext h6 h16) | exact tl_b_f (fun q => h6 (congrArg Prod.fst q)) | exact tl_b_f (fun q => h16 (congrArg Prod.snd q)), rfl⟩ dX9_isOne_25
    · refine ti_iconst hx hb dX9_isOne_20 ?_
      refine lv_goto (tgt := 25) hx hb dX9_isOne_21 (by decide) ?_
      exact tm_zret hx hb hr hlk (by first | exact Or.inl rfl | exact Or.inr rfl | assumption) hK hW hS ⟨by first | exact tl_b_t (Prod.ext h6 h16) | exact tl_b_f (fun q => h6 (congrArg Prod.fst q)) | exact tl_b_f (fun q => h16 (congrArg Prod.snd q)), rfl⟩ dX9_isOne_25
theorem dX9_copyLine_0 : decode cX9_copyLine 0 = .ok (.iconst 0, 1) := by decide +kernel
theorem dX9_copyLine_1 : decode cX9_copyLine 1 = .ok (.istore_n 3, 1) := by decide +kernel
theorem dX9_copyLine_2 : decode cX9_copyLine 2 = .ok (.iload_n 3, 1) := by decide +kernel
theorem dX9_copyLine_3 : decode cX9_copyLine 3 = .ok (.bipush 9, 2) := by decide +kernel
theorem dX9_copyLine_5 : decode cX9_copyLine 5 = .ok (.if_icmp .ge 31, 3) := by decide +kernel
theorem dX9_copyLine_8 : decode cX9_copyLine 8 = .ok (.aload_n 0, 1) := by decide +kernel
theorem dX9_copyLine_9 : decode cX9_copyLine 9 = .ok (.getfield 13, 3) := by decide +kernel
theorem dX9_copyLine_12 : decode cX9_copyLine 12 = .ok (.bipush 9, 2) := by decide +kernel
theorem dX9_copyLine_14 : decode cX9_copyLine 14 = .ok (.iload_n 2, 1) := by decide +kernel
theorem dX9_copyLine_15 : decode cX9_copyLine 15 = .ok (.imul, 1) := by decide +kernel
theorem dX9_copyLine_16 : decode cX9_copyLine 16 = .ok (.iload_n 3, 1) := by decide +kernel
theorem dX9_copyLine_17 : decode cX9_copyLine 17 = .ok (.iadd, 1) := by decide +kernel
theorem dX9_copyLine_18 : decode cX9_copyLine 18 = .ok (.aload_n 0, 1) := by decide +kernel
theorem dX9_copyLine_19 : decode cX9_copyLine 19 = .ok (.getfield 13, 3) := by decide +kernel
theorem dX9_copyLine_22 : decode cX9_copyLine 22 = .ok (.bipush 9, 2) := by decide +kernel
theorem dX9_copyLine_24 : decode cX9_copyLine 24 = .ok (.iload_n 1, 1) := by decide +kernel
theorem dX9_copyLine_25 : decode cX9_copyLine 25 = .ok (.imul, 1) := by decide +kernel
theorem dX9_copyLine_26 : decode cX9_copyLine 26 = .ok (.iload_n 3, 1) := by decide +kernel
theorem dX9_copyLine_27 : decode cX9_copyLine 27 = .ok (.iadd, 1) := by decide +kernel
theorem dX9_copyLine_28 : decode cX9_copyLine 28 = .ok (.laload, 1) := by decide +kernel
theorem dX9_copyLine_29 : decode cX9_copyLine 29 = .ok (.lastore, 1) := by decide +kernel
theorem dX9_copyLine_30 : decode cX9_copyLine 30 = .ok (.iinc 3 1, 3) := by decide +kernel
theorem dX9_copyLine_33 : decode cX9_copyLine 33 = .ok (.goto (-31), 3) := by decide +kernel
theorem dX9_copyLine_36 : decode cX9_copyLine 36 = .ok (.return_, 1) := by decide +kernel
theorem tl_cp {M M1 : tm_M} {o i j k c : Nat} {x y : Int} (i1 : x.toNat = 9 * i + k) (i2 : y.toNat = 9 * j + k) (h : mL M1 (o + 2) (9 * i + k) = mL M (o + 2) (9 * i + k)) (hc : c < k → mL M1 (o + 2) (9 * j + c) = mL M (o + 2) (9 * i + c)) (hk : c < k + 1) : mL (sL M1 (o + 2) y.toNat (mL M1 (o + 2) x.toNat)) (o + 2) (9 * j + c) = mL M (o + 2) (9 * i + c) := by
  rw [i1, i2]
  by_cases e : c = k
  · subst e
    exact (tm_up_s _ _ _ _).trans h
  · exact (tm_up_k _ _ (by omega)).trans (hc (by omega))
set_option maxHeartbeats 4000000 in
set_option maxRecDepth 100000 in
/-- TutorLinesModel.copyLine -/
theorem c_X9_copyLine {l : Launch} {G : tm_G} {Hb : Heap} {sh : tm_sh} {M : tm_M} {o i j : Nat} (h : isMo sh M o) (hi : i < 44) (hj : j < 44) (hne : i ≠ j) : Met l yX9_copyLine (tws yX9_copyLine cX9_copyLine 4 none) ({ frames := 0, cells := 0, slots := 0, locals := 0 }) (va_Pc [.ref o, ji (i : Nat), ji (j : Nat)] (tm_St G Hb sh M)) (tm_Qv G Hb sh (fun M1 => rl M1 o j = rl M o i ∧ fq (fun a k => a = o + 2 ∧ 9 * j ≤ k ∧ k < 9 * j + 9) M M1)) 0 0 (tm_A Hb) := by
  refine tm_begin (by decide) (Nat.le_of_ble_eq_true rfl) (fun p e s m below meth c ls hx hb hr hml hown htw hlk hnm hK hW hl => ?_)
  have hS : va_S (tm_A Hb) s.heap s.heap [] := va_S.rf
  have hl : lv_has ls 4 [(0, .ref o), (1, ji (i : Nat)), (2, ji (j : Nat))] := hl
  obtain ⟨b0, ⟨t1, t2, t6, t7, t9, t12, t13, t14, t15, t16, t17, t24⟩, ⟨u1, u2, u3, u4, u5, u6, u7, u8, u9, u10, u11, u12⟩⟩ := h
  have loop : ∀ (n k : Nat) (M1 : tm_M) (H : Heap) (locs : List Loc) (ls : Array Slot), k + n = 9 → (∀ c, c < k → mL M1 (o + 2) (9 * j + c) = mL M (o + 2) (9 * i + c)) → fq (fun a k => a = o + 2 ∧ 9 * j ≤ k ∧ k < 9 * j + 9) M M1 → tm_W G Hb sh M1 H → va_S (tm_A Hb) s.heap H locs → lv_has ls 4 [(0, .ref o), (1, ji (i : Nat)), (2, ji (j : Nat)), (3, ji (k : Nat))] → W p l e ({ frames := 0, cells := 0, slots := 0, locals := 0 }) s m [.ref o, ji (i : Nat), ji (j : Nat)].toArray below meth c H locs 0 0 (MQ below (tm_Qv G Hb sh (fun M1 => rl M1 o j = rl M o i ∧ fq (fun a k => a = o + 2 ∧ 9 * j ≤ k ∧ k < 9 * j + 9) M M1)) [.ref o, ji (i : Nat), ji (j : Nat)].toArray s 0 0 (tm_A Hb)) (F0 m 2 ls []) := by
    intro n
    induction n with
    | zero =>
      intro k M1 H locs ls hk hc hf hW hS hl
      have fin : rl M1 o j = rl M o i := by
        show (((mL M1 (o + 2) (9 * j + 0), mL M1 (o + 2) (9 * j + 1)), (mL M1 (o + 2) (9 * j + 2), mL M1 (o + 2) (9 * j + 3))), ((mL M1 (o + 2) (9 * j + 4), mL M1 (o + 2) (9 * j + 5)), (mL M1 (o + 2) (9 * j + 6), mL M1 (o + 2) (9 * j + 7))), mL M1 (o + 2) (9 * j + 8)) = _
        rw [hc 0 (by omega), hc 1 (by omega), hc 2 (by omega), hc 3 (by omega), hc 4 (by omega), hc 5 (by omega), hc 6 (by omega), hc 7 (by omega), hc 8 (by omega)]
      refine lv_iload_n hx hb dX9_copyLine_2 rfl (lv_at hl 3 rfl) ?_
      refine ti_bipush hx hb dX9_copyLine_3 (by decide) ?_
      refine ti_icmp_ge (tgt := 36) hx hb dX9_copyLine_5 (by decide) (by omega) (by omega) (fun h5 => ?_) (fun h5 => ?_)
      · exact tm_vret hx hb hr hlk hK hW hS ⟨fin, hf⟩ dX9_copyLine_36
      · exact absurd (show (9 : Int) ≤ (k : Int) by omega) h5
    | succ n ih =>
      intro k M1 H locs ls hk hc hf hW hS hl
      have t2a : mR M1 o 2 = some (o + 2) := by rw [hf.1]; exact t2
      have i1 : (9 * (i : Int) + (k : Int)).toNat = 9 * i + k := by omega
      have i2 : (9 * (j : Int) + (k : Int)).toNat = 9 * j + k := by omega
      refine lv_iload_n hx hb dX9_copyLine_2 rfl (lv_at hl 3 rfl) ?_
      refine ti_bipush hx hb dX9_copyLine_3 (by decide) ?_
      refine ti_icmp_ge (tgt := 36) hx hb dX9_copyLine_5 (by decide) (by omega) (by omega) (fun h5 => ?_) (fun h5 => ?_)
      · exact absurd h5 (by omega)
      · refine lv_aload_n hx hb dX9_copyLine_8 rfl (lv_at hl 0 rfl) ?_
        refine gf_X9_13 hx hb htw hown hK hW (by assumption) t2a dX9_copyLine_9 ?_
        refine ti_bipush hx hb dX9_copyLine_12 (by decide) ?_
        refine lv_iload_n hx hb dX9_copyLine_14 rfl (lv_at hl 2 rfl) ?_
        refine ti_imul hx hb dX9_copyLine_15 ?_
        refine lv_iload_n hx hb dX9_copyLine_16 rfl (lv_at hl 3 rfl) ?_
        refine ti_iadd hx hb dX9_copyLine_17 ?_
        refine lv_aload_n hx hb dX9_copyLine_18 rfl (lv_at hl 0 rfl) ?_
        refine gf_X9_13 hx hb htw hown hK hW (by assumption) t2a dX9_copyLine_19 ?_
        refine ti_bipush hx hb dX9_copyLine_22 (by decide) ?_
        refine lv_iload_n hx hb dX9_copyLine_24 rfl (lv_at hl 1 rfl) ?_
        refine ti_imul hx hb dX9_copyLine_25 ?_
        refine lv_iload_n hx hb dX9_copyLine_26 rfl (lv_at hl 3 rfl) ?_
        refine ti_iadd hx hb dX9_copyLine_27 ?_
        refine tm_lald hx hb hK hW (by assumption) (by omega) (by omega) (by decide) dX9_copyLine_28 ?_
        refine tm_last hx hb hK hW hS (by assumption) (by omega) (by omega) (by decide) dX9_copyLine_29 (fun H locs hW hS => ?_)
        refine ti_iinc (k := 3) (lv' := [(3, _), (0, _), (1, _), (2, _)]) hx hb dX9_copyLine_30 hl rfl (by decide) rfl (fun ls hl => ?_)
        refine lv_goto (tgt := 2) hx hb dX9_copyLine_33 (by decide) ?_
        exact ih (k + 1) _ _ _ _ (by omega) (fun c hk2 => tl_cp i1 i2 (hf.2 _ _ (by omega)).2 (hc c) hk2) (fq_tr hf (fq_sL ⟨rfl, by rw [i2]; omega, by rw [i2]; omega⟩)) hW hS (lv_sub hl [1, 2, 3, 0] rfl)
  refine ti_iconst hx hb dX9_copyLine_0 ?_
  refine lv_istore_n (lv' := [(3, _), (0, _), (1, _), (2, _)]) hx hb dX9_copyLine_1 rfl hl (by decide) rfl (fun ls hl => ?_)
  exact loop 9 0 M _ _ _ rfl (fun c q => absurd q (by omega)) fq_rf hW hS (lv_sub hl [1, 2, 3, 0] rfl)
theorem dX9_isSame_0 : decode cX9_isSame 0 = .ok (.iconst 1, 1) := by decide +kernel
theorem dX9_isSame_1 : decode cX9_isSame 1 = .ok (.istore_n 3, 1) := by decide +kernel
theorem dX9_isSame_2 : decode cX9_isSame 2 = .ok (.iconst 0, 1) := by decide +kernel
theorem dX9_isSame_3 : decode cX9_isSame 3 = .ok (.istore 4, 2) := by decide +kernel
theorem dX9_isSame_5 : decode cX9_isSame 5 = .ok (.iload 4, 2) := by decide +kernel
theorem dX9_isSame_7 : decode cX9_isSame 7 = .ok (.bipush 9, 2) := by decide +kernel
theorem dX9_isSame_9 : decode cX9_isSame 9 = .ok (.if_icmp .ge 47, 3) := by decide +kernel
theorem dX9_isSame_12 : decode cX9_isSame 12 = .ok (.iload_n 3, 1) := by decide +kernel
theorem dX9_isSame_13 : decode cX9_isSame 13 = .ok (.ifCond .eq 35, 3) := by decide +kernel
theorem dX9_isSame_16 : decode cX9_isSame 16 = .ok (.aload_n 0, 1) := by decide +kernel
theorem dX9_isSame_17 : decode cX9_isSame 17 = .ok (.getfield 13, 3) := by decide +kernel
theorem dX9_isSame_20 : decode cX9_isSame 20 = .ok (.bipush 9, 2) := by decide +kernel
theorem dX9_isSame_22 : decode cX9_isSame 22 = .ok (.iload_n 1, 1) := by decide +kernel
theorem dX9_isSame_23 : decode cX9_isSame 23 = .ok (.imul, 1) := by decide +kernel
theorem dX9_isSame_24 : decode cX9_isSame 24 = .ok (.iload 4, 2) := by decide +kernel
theorem dX9_isSame_26 : decode cX9_isSame 26 = .ok (.iadd, 1) := by decide +kernel
theorem dX9_isSame_27 : decode cX9_isSame 27 = .ok (.laload, 1) := by decide +kernel
theorem dX9_isSame_28 : decode cX9_isSame 28 = .ok (.aload_n 0, 1) := by decide +kernel
theorem dX9_isSame_29 : decode cX9_isSame 29 = .ok (.getfield 13, 3) := by decide +kernel
theorem dX9_isSame_32 : decode cX9_isSame 32 = .ok (.bipush 9, 2) := by decide +kernel
theorem dX9_isSame_34 : decode cX9_isSame 34 = .ok (.iload_n 2, 1) := by decide +kernel
theorem dX9_isSame_35 : decode cX9_isSame 35 = .ok (.imul, 1) := by decide +kernel
theorem dX9_isSame_36 : decode cX9_isSame 36 = .ok (.iload 4, 2) := by decide +kernel
theorem dX9_isSame_38 : decode cX9_isSame 38 = .ok (.iadd, 1) := by decide +kernel
theorem dX9_isSame_39 : decode cX9_isSame 39 = .ok (.laload, 1) := by decide +kernel
theorem dX9_isSame_40 : decode cX9_isSame 40 = .ok (.lcmp, 1) := by decide +kernel
theorem dX9_isSame_41 : decode cX9_isSame 41 = .ok (.ifCond .ne 7, 3) := by decide +kernel
theorem dX9_isSame_44 : decode cX9_isSame 44 = .ok (.iconst 1, 1) := by decide +kernel
theorem dX9_isSame_45 : decode cX9_isSame 45 = .ok (.goto 4, 3) := by decide +kernel
theorem dX9_isSame_48 : decode cX9_isSame 48 = .ok (.iconst 0, 1) := by decide +kernel
theorem dX9_isSame_49 : decode cX9_isSame 49 = .ok (.istore_n 3, 1) := by decide +kernel
theorem dX9_isSame_50 : decode cX9_isSame 50 = .ok (.iinc 4 1, 3) := by decide +kernel
theorem dX9_isSame_53 : decode cX9_isSame 53 = .ok (.goto (-48), 3) := by decide +kernel
theorem dX9_isSame_56 : decode cX9_isSame 56 = .ok (.iload_n 3, 1) := by decide +kernel
theorem dX9_isSame_57 : decode cX9_isSame 57 = .ok (.ireturn, 1) := by decide +kernel
theorem rl_eq {M : tm_M} {o i j : Nat} : rl M o i = rl M o j ↔ ∀ c, c < 9 → mL M (o + 2) (9 * i + c) = mL M (o + 2) (9 * j + c) := by
  refine ⟨fun h c hc => ?_, fun hc => ?_⟩
  · have h0 : mL M (o + 2) (9 * i + 0) = mL M (o + 2) (9 * j + 0) := congrArg (fun v => v.1.1.1) h
    have h1 : mL M (o + 2) (9 * i + 1) = mL M (o + 2) (9 * j + 1) := congrArg (fun v => v.1.1.2) h
    have h2 : mL M (o + 2) (9 * i + 2) = mL M (o + 2) (9 * j + 2) := congrArg (fun v => v.1.2.1) h
    have h3 : mL M (o + 2) (9 * i + 3) = mL M (o + 2) (9 * j + 3) := congrArg (fun v => v.1.2.2) h
    have h4 : mL M (o + 2) (9 * i + 4) = mL M (o + 2) (9 * j + 4) := congrArg (fun v => v.2.1.1.1) h
    have h5 : mL M (o + 2) (9 * i + 5) = mL M (o + 2) (9 * j + 5) := congrArg (fun v => v.2.1.1.2) h
    have h6 : mL M (o + 2) (9 * i + 6) = mL M (o + 2) (9 * j + 6) := congrArg (fun v => v.2.1.2.1) h
    have h7 : mL M (o + 2) (9 * i + 7) = mL M (o + 2) (9 * j + 7) := congrArg (fun v => v.2.1.2.2) h
    have h8 : mL M (o + 2) (9 * i + 8) = mL M (o + 2) (9 * j + 8) := congrArg (fun v => v.2.2) h
    match c, hc with
    | 0, _ => exact h0
    | 1, _ => exact h1
    | 2, _ => exact h2
    | 3, _ => exact h3
    | 4, _ => exact h4
    | 5, _ => exact h5
    | 6, _ => exact h6
    | 7, _ => exact h7
    | 8, _ => exact h8
  · show (((mL M (o + 2) (9 * i + 0), mL M (o + 2) (9 * i + 1)), (mL M (o + 2) (9 * i + 2), mL M (o + 2) (9 * i + 3))), ((mL M (o + 2) (9 * i + 4), mL M (o + 2) (9 * i + 5)), (mL M (o + 2) (9 * i + 6), mL M (o + 2) (9 * i + 7))), mL M (o + 2) (9 * i + 8)) = _
    rw [hc 0 (by omega), hc 1 (by omega), hc 2 (by omega), hc 3 (by omega), hc 4 (by omega), hc 5 (by omega), hc 6 (by omega), hc 7 (by omega), hc 8 (by omega)]
theorem rl_L {M : tm_M} {o i : Nat} (h : lLok (rl M o i)) (hr : inL (rl M o i).2.2) : ∀ c, c < 9 → inL (mL M (o + 2) (9 * i + c)) := fun c hc => by
  obtain ⟨⟨⟨h0, h1⟩, ⟨h2, h3⟩⟩, ⟨h4, h5⟩, ⟨h6, h7⟩⟩ := h
  match c, hc with
  | 0, _ => exact h0
  | 1, _ => exact h1
  | 2, _ => exact h2
  | 3, _ => exact h3
  | 4, _ => exact h4
  | 5, _ => exact h5
  | 6, _ => exact h6
  | 7, _ => exact h7
  | 8, _ => exact hr
theorem tl_sm {M : tm_M} {o i j : Nat} {x : Int} (h01 : x = 0 ∨ x = 1) (hx : x = 1 ↔ ∀ c, c < 9 → mL M (o + 2) (9 * i + c) = mL M (o + 2) (9 * j + c)) : x = tl_b (rl M o i = rl M o j) := by
  rcases h01 with q | q
  · rw [q]
    exact tl_b_f (fun z => by have := hx.mpr (rl_eq.mp z); omega)
  · rw [q]
    exact tl_b_t (rl_eq.mpr (hx.mp q))
theorem tl_sm1 {M : tm_M} {o i j k : Nat} {x : Int} (hx : x = 1 ↔ ∀ c, c < k → mL M (o + 2) (9 * i + c) = mL M (o + 2) (9 * j + c)) (h1 : ¬ x = 0) (h01 : x = 0 ∨ x = 1) (e : mL M (o + 2) (9 * i + k) = mL M (o + 2) (9 * j + k)) : (1 : Int) = 1 ↔ ∀ c, c < k + 1 → mL M (o + 2) (9 * i + c) = mL M (o + 2) (9 * j + c) := by
  refine ⟨fun _ c hc => ?_, fun _ => rfl⟩
  by_cases z : c = k
  · rw [z]; exact e
  · exact hx.mp (by omega) c (by omega)
theorem tl_sm0 {M : tm_M} {o i j k : Nat} (e : ¬ mL M (o + 2) (9 * i + k) = mL M (o + 2) (9 * j + k)) : (0 : Int) = 1 ↔ ∀ c, c < k + 1 → mL M (o + 2) (9 * i + c) = mL M (o + 2) (9 * j + c) := ⟨fun z => absurd z (by decide), fun z => absurd (z k (by omega)) e⟩
theorem tl_sm2 {M : tm_M} {o i j k : Nat} {x : Int} (hx : x = 1 ↔ ∀ c, c < k → mL M (o + 2) (9 * i + c) = mL M (o + 2) (9 * j + c)) (h1 : x = 0) : (0 : Int) = 1 ↔ ∀ c, c < k + 1 → mL M (o + 2) (9 * i + c) = mL M (o + 2) (9 * j + c) := ⟨fun z => absurd z (by decide), fun z => by have := hx.mpr (fun c hc => z c (by omega)); omega⟩
set_option maxHeartbeats 4000000 in
set_option maxRecDepth 100000 in
/-- TutorLinesModel.isSame -/
theorem c_X9_isSame {l : Launch} {G : tm_G} {Hb : Heap} {sh : tm_sh} {M : tm_M} {o i j : Nat} (h : isMo sh M o) (hi : i < 44) (hj : j < 44) (hL1 : ∀ c, c < 9 → inL (mL M (o + 2) (9 * i + c))) (hL2 : ∀ c, c < 9 → inL (mL M (o + 2) (9 * j + c))) : Met l yX9_isSame (tws yX9_isSame cX9_isSame 5 (some .boolean)) ({ frames := 0, cells := 0, slots := 0, locals := 0 }) (va_Pc [.ref o, ji (i : Nat), ji (j : Nat)] (tm_St G Hb sh M)) (tm_Qi G Hb sh (fun x M1 => x = tl_b (rl M o i = rl M o j) ∧ M1 = M)) 0 0 (tm_A Hb) := by
  refine tm_begin (by decide) (Nat.le_of_ble_eq_true rfl) (fun p e s m below meth c ls hx hb hr hml hown htw hlk hnm hK hW hl => ?_)
  have hS : va_S (tm_A Hb) s.heap s.heap [] := va_S.rf
  have hl : lv_has ls 5 [(0, .ref o), (1, ji (i : Nat)), (2, ji (j : Nat))] := hl
  obtain ⟨b0, ⟨t1, t2, t6, t7, t9, t12, t13, t14, t15, t16, t17, t24⟩, ⟨u1, u2, u3, u4, u5, u6, u7, u8, u9, u10, u11, u12⟩⟩ := h
  have loop : ∀ (n k : Nat) (x : Int) (H : Heap) (locs : List Loc) (ls : Array Slot), k + n = 9 → (x = 0 ∨ x = 1) → (x = 1 ↔ (∀ c, c < k → mL M (o + 2) (9 * i + c) = mL M (o + 2) (9 * j + c))) → tm_W G Hb sh M H → va_S (tm_A Hb) s.heap H locs → lv_has ls 5 [(0, .ref o), (1, ji (i : Nat)), (2, ji (j : Nat)), (3, ji x), (4, ji (k : Nat))] → W p l e ({ frames := 0, cells := 0, slots := 0, locals := 0 }) s m [.ref o, ji (i : Nat), ji (j : Nat)].toArray below meth c H locs 0 0 (MQ below (tm_Qi G Hb sh (fun x M1 => x = tl_b (rl M o i = rl M o j) ∧ M1 = M)) [.ref o, ji (i : Nat), ji (j : Nat)].toArray s 0 0 (tm_A Hb)) (F0 m 5 ls []) := by
    intro n
    induction n with
    | zero =>
      intro k x H locs ls hk h01 hx1 hW hS hl
      have k9 : k = 9 := by omega
      subst k9
      refine lv_iload hx hb dX9_isSame_5 (lv_at hl 4 rfl) ?_
      refine ti_bipush hx hb dX9_isSame_7 (by decide) ?_
      refine ti_icmp_ge (tgt := 56) hx hb dX9_isSame_9 (by decide) (by omega) (by omega) (fun h9 => ?_) (fun h9 => ?_)
      · refine lv_iload_n hx hb dX9_isSame_56 rfl (lv_at hl 3 rfl) ?_
        exact tm_zret hx hb hr hlk h01 hK hW hS ⟨tl_sm h01 hx1, rfl⟩ dX9_isSame_57
      · exact absurd (show (9 : Int) ≤ ((9 : Nat) : Int) by omega) h9
    | succ n ih =>
      intro k x H locs ls hk h01 hx1 hW hS hl
      have i1 : (9 * (i : Int) + (k : Int)).toNat = 9 * i + k := by omega
      have i2 : (9 * (j : Int) + (k : Int)).toNat = 9 * j + k := by omega
      refine lv_iload hx hb dX9_isSame_5 (lv_at hl 4 rfl) ?_
      refine ti_bipush hx hb dX9_isSame_7 (by decide) ?_
      refine ti_icmp_ge (tgt := 56) hx hb dX9_isSame_9 (by decide) (by omega) (by omega) (fun h9 => ?_) (fun h9 => ?_)
      · exact absurd h9 (by omega)
      · refine lv_iload_n hx hb dX9_isSame_12 rfl (lv_at hl 3 rfl) ?_
        refine ti_if_eq (tgt := 48) hx hb dX9_isSame_13 (by decide) (by omega) (fun h13 => ?_) (fun h13 => ?_)
        · refine ti_iconst hx hb dX9_isSame_48 ?_
          refine lv_istore_n (lv' := [(3, _), (0, _), (1, _), (2, _), (4, _)]) hx hb dX9_isSame_49 rfl hl (by decide) rfl (fun ls hl => ?_)
          refine ti_iinc (k := 4) (lv' := [(4, _), (3, _), (0, _), (1, _), (2, _)]) hx hb dX9_isSame_50 hl rfl (by decide) rfl (fun ls hl => ?_)
          refine lv_goto (tgt := 5) hx hb dX9_isSame_53 (by decide) ?_
          first
          | exact ih (k + 1) 1 _ _ _ (by omega) (Or.inr rfl) (tl_sm1 hx1 h13 h01 (by rw [i1, i2] at h40; exact h40)) hW hS (lv_sub hl [2, 3, 4, 1, 0] rfl)
          | exact ih (k + 1) 0 _ _ _ (by omega) (Or.inl rfl) (tl_sm0 (by rw [i1, i2] at h40; exact h40)) hW hS (lv_sub hl [2, 3, 4, 1, 0] rfl)
          | exact ih (k + 1) 0 _ _ _ (by omega) (Or.inl rfl) (tl_sm2 hx1 h13) hW hS (lv_sub hl [2, 3, 4, 1, 0] rfl)
        · refine lv_aload_n hx hb dX9_isSame_16 rfl (lv_at hl 0 rfl) ?_
          refine gf_X9_13 hx hb htw hown hK hW (by assumption) (by assumption) dX9_isSame_17 ?_
          refine ti_bipush hx hb dX9_isSame_20 (by decide) ?_
          refine lv_iload_n hx hb dX9_isSame_22 rfl (lv_at hl 1 rfl) ?_
          refine ti_imul hx hb dX9_isSame_23 ?_
          refine lv_iload hx hb dX9_isSame_24 (lv_at hl 4 rfl) ?_
          refine ti_iadd hx hb dX9_isSame_26 ?_
          refine tm_lald hx hb hK hW (by assumption) (by omega) (by omega) (by decide) dX9_isSame_27 ?_
          refine lv_aload_n hx hb dX9_isSame_28 rfl (lv_at hl 0 rfl) ?_
          refine gf_X9_13 hx hb htw hown hK hW (by assumption) (by assumption) dX9_isSame_29 ?_
          refine ti_bipush hx hb dX9_isSame_32 (by decide) ?_
          refine lv_iload_n hx hb dX9_isSame_34 rfl (lv_at hl 2 rfl) ?_
          refine ti_imul hx hb dX9_isSame_35 ?_
          refine lv_iload hx hb dX9_isSame_36 (lv_at hl 4 rfl) ?_
          refine ti_iadd hx hb dX9_isSame_38 ?_
          refine tm_lald hx hb hK hW (by assumption) (by omega) (by omega) (by decide) dX9_isSame_39 ?_
          refine ti_lcmp_ne (tgt := 48) hx hb dX9_isSame_40 dX9_isSame_41 (by decide) (by rw [i1]; exact hL1 k (by omega)) (by rw [i2]; exact hL2 k (by omega)) (fun h40 => ?_) (fun h40 => ?_)
          · refine ti_iconst hx hb dX9_isSame_48 ?_
            refine lv_istore_n (lv' := [(3, _), (0, _), (1, _), (2, _), (4, _)]) hx hb dX9_isSame_49 rfl hl (by decide) rfl (fun ls hl => ?_)
            refine ti_iinc (k := 4) (lv' := [(4, _), (3, _), (0, _), (1, _), (2, _)]) hx hb dX9_isSame_50 hl rfl (by decide) rfl (fun ls hl => ?_)
            refine lv_goto (tgt := 5) hx hb dX9_isSame_53 (by decide) ?_
            first
            | exact ih (k + 1) 1 _ _ _ (by omega) (Or.inr rfl) (tl_sm1 hx1 h13 h01 (by rw [i1, i2] at h40; exact h40)) hW hS (lv_sub hl [2, 3, 4, 1, 0] rfl)
            | exact ih (k + 1) 0 _ _ _ (by omega) (Or.inl rfl) (tl_sm0 (by rw [i1, i2] at h40; exact h40)) hW hS (lv_sub hl [2, 3, 4, 1, 0] rfl)
            | exact ih (k + 1) 0 _ _ _ (by omega) (Or.inl rfl) (tl_sm2 hx1 h13) hW hS (lv_sub hl [2, 3, 4, 1, 0] rfl)
          · refine ti_iconst hx hb dX9_isSame_44 ?_
            refine lv_goto (tgt := 49) hx hb dX9_isSame_45 (by decide) ?_
            refine lv_istore_n (lv' := [(3, _), (0, _), (1, _), (2, _), (4, _)]) hx hb dX9_isSame_49 rfl hl (by decide) rfl (fun ls hl => ?_)
            refine ti_iinc (k := 4) (lv' := [(4, _), (3, _), (0, _), (1, _), (2, _)]) hx hb dX9_isSame_50 hl rfl (by decide) rfl (fun ls hl => ?_)
            refine lv_goto (tgt := 5) hx hb dX9_isSame_53 (by decide) ?_
            first
            | exact ih (k + 1) 1 _ _ _ (by omega) (Or.inr rfl) (tl_sm1 hx1 h13 h01 (by rw [i1, i2] at h40; exact h40)) hW hS (lv_sub hl [2, 3, 4, 1, 0] rfl)
            | exact ih (k + 1) 0 _ _ _ (by omega) (Or.inl rfl) (tl_sm0 (by rw [i1, i2] at h40; exact h40)) hW hS (lv_sub hl [2, 3, 4, 1, 0] rfl)
            | exact ih (k + 1) 0 _ _ _ (by omega) (Or.inl rfl) (tl_sm2 hx1 h13) hW hS (lv_sub hl [2, 3, 4, 1, 0] rfl)
  refine ti_iconst hx hb dX9_isSame_0 ?_
  refine lv_istore_n (lv' := [(3, _), (0, _), (1, _), (2, _)]) hx hb dX9_isSame_1 rfl hl (by decide) rfl (fun ls hl => ?_)
  refine ti_iconst hx hb dX9_isSame_2 ?_
  refine lv_istore (lv' := [(4, _), (3, _), (0, _), (1, _), (2, _)]) hx hb dX9_isSame_3 hl (by decide) rfl (fun ls hl => ?_)
  exact loop 9 0 1 _ _ _ rfl (Or.inr rfl) ⟨fun _ c q => absurd q (by omega), fun _ => rfl⟩ hW hS (lv_sub hl [2, 3, 4, 1, 0] rfl)
theorem dX9_write_0 : decode cX9_write 0 = .ok (.aload_n 0, 1) := by decide +kernel
theorem dX9_write_1 : decode cX9_write 1 = .ok (.lload_n 3, 1) := by decide +kernel
theorem dX9_write_2 : decode cX9_write 2 = .ok (.lload 5, 2) := by decide +kernel
theorem dX9_write_4 : decode cX9_write 4 = .ok (.invokevirtual 106, 3) := by decide +kernel
theorem dX9_write_7 : decode cX9_write 7 = .ok (.aload_n 0, 1) := by decide +kernel
theorem dX9_write_8 : decode cX9_write 8 = .ok (.aload_n 0, 1) := by decide +kernel
theorem dX9_write_9 : decode cX9_write 9 = .ok (.getfield 162, 3) := by decide +kernel
theorem dX9_write_12 : decode cX9_write 12 = .ok (.ifCond .eq 14, 3) := by decide +kernel
theorem dX9_write_15 : decode cX9_write 15 = .ok (.aload_n 0, 1) := by decide +kernel
theorem dX9_write_16 : decode cX9_write 16 = .ok (.invokevirtual 110, 3) := by decide +kernel
theorem dX9_write_19 : decode cX9_write 19 = .ok (.ifCond .ne 7, 3) := by decide +kernel
theorem dX9_write_22 : decode cX9_write 22 = .ok (.iconst 1, 1) := by decide +kernel
theorem dX9_write_23 : decode cX9_write 23 = .ok (.goto 4, 3) := by decide +kernel
theorem dX9_write_26 : decode cX9_write 26 = .ok (.iconst 0, 1) := by decide +kernel
theorem dX9_write_27 : decode cX9_write 27 = .ok (.putfield 162, 3) := by decide +kernel
theorem dX9_write_30 : decode cX9_write 30 = .ok (.aload_n 0, 1) := by decide +kernel
theorem dX9_write_31 : decode cX9_write 31 = .ok (.getfield 13, 3) := by decide +kernel
theorem dX9_write_34 : decode cX9_write 34 = .ok (.bipush 9, 2) := by decide +kernel
theorem dX9_write_36 : decode cX9_write 36 = .ok (.iload_n 1, 1) := by decide +kernel
theorem dX9_write_37 : decode cX9_write 37 = .ok (.imul, 1) := by decide +kernel
theorem dX9_write_38 : decode cX9_write 38 = .ok (.iconst 2, 1) := by decide +kernel
theorem dX9_write_39 : decode cX9_write 39 = .ok (.iload_n 2, 1) := by decide +kernel
theorem dX9_write_40 : decode cX9_write 40 = .ok (.imul, 1) := by decide +kernel
theorem dX9_write_41 : decode cX9_write 41 = .ok (.iadd, 1) := by decide +kernel
theorem dX9_write_42 : decode cX9_write 42 = .ok (.aload_n 0, 1) := by decide +kernel
theorem dX9_write_43 : decode cX9_write 43 = .ok (.getfield 56, 3) := by decide +kernel
theorem dX9_write_46 : decode cX9_write 46 = .ok (.lastore, 1) := by decide +kernel
theorem dX9_write_47 : decode cX9_write 47 = .ok (.aload_n 0, 1) := by decide +kernel
theorem dX9_write_48 : decode cX9_write 48 = .ok (.getfield 13, 3) := by decide +kernel
theorem dX9_write_51 : decode cX9_write 51 = .ok (.bipush 9, 2) := by decide +kernel
theorem dX9_write_53 : decode cX9_write 53 = .ok (.iload_n 1, 1) := by decide +kernel
theorem dX9_write_54 : decode cX9_write 54 = .ok (.imul, 1) := by decide +kernel
theorem dX9_write_55 : decode cX9_write 55 = .ok (.iconst 2, 1) := by decide +kernel
theorem dX9_write_56 : decode cX9_write 56 = .ok (.iload_n 2, 1) := by decide +kernel
theorem dX9_write_57 : decode cX9_write 57 = .ok (.imul, 1) := by decide +kernel
theorem dX9_write_58 : decode cX9_write 58 = .ok (.iadd, 1) := by decide +kernel
theorem dX9_write_59 : decode cX9_write 59 = .ok (.iconst 1, 1) := by decide +kernel
theorem dX9_write_60 : decode cX9_write 60 = .ok (.iadd, 1) := by decide +kernel
theorem dX9_write_61 : decode cX9_write 61 = .ok (.aload_n 0, 1) := by decide +kernel
theorem dX9_write_62 : decode cX9_write 62 = .ok (.getfield 60, 3) := by decide +kernel
theorem dX9_write_65 : decode cX9_write 65 = .ok (.lastore, 1) := by decide +kernel
theorem dX9_write_66 : decode cX9_write 66 = .ok (.return_, 1) := by decide +kernel
set_option maxHeartbeats 4000000 in
set_option maxRecDepth 100000 in
/-- TutorLinesModel.write -/
theorem c_X9_write {l : Launch} {G : tm_G} {Hb : Heap} {sh : tm_sh} {M : tm_M} {o i n : Nat} {a b : Int} (h : isMo sh M o) (hi : i < 44) (hn : n < 4) (ha : a.natAbs ≤ 4611686018427387904) (hb1 : b.natAbs ≤ 4611686018427387904) (hnz : b ≠ 0) (h28 : inI (mI M o 28)) : Met l yX9_write (tws yX9_write cX9_write 7 none) ({ frames := 2, cells := 0, slots := 0, locals := 55 }) (va_Pc [.ref o, ji (i : Nat), ji (n : Nat), jl a, jl b] (tm_St G Hb sh M)) (tm_Qv G Hb sh (fun M1 => M1 = wr M o i n (tl_norm a b))) 0 0 (tm_A Hb) := by
  refine tm_begin (by decide) (Nat.le_of_ble_eq_true rfl) (fun p e s m below meth c ls hx hb hr hml hown htw hlk hnm hK hW hl => ?_)
  have hS : va_S (tm_A Hb) s.heap s.heap [] := va_S.rf
  have hl : lv_has ls 7 [(0, .ref o), (1, ji (i : Nat)), (2, ji (n : Nat)), (3, jl a), (5, jl b)] := hl
  obtain ⟨b0, ⟨t1, t2, t6, t7, t9, t12, t13, t14, t15, t16, t17, t24⟩, ⟨u1, u2, u3, u4, u5, u6, u7, u8, u9, u10, u11, u12⟩⟩ := h
  have i1 : (9 * (i : Int) + 2 * (n : Int)).toNat = 9 * i + 2 * n := by omega
  have i2 : (9 * (i : Int) + 2 * (n : Int) + 1).toNat = 9 * i + 2 * n + 1 := by omega
  refine lv_aload_n hx hb dX9_write_0 rfl (lv_at hl 0 rfl) ?_
  refine lv_lload_n hx hb dX9_write_1 rfl (lv_at hl 3 rfl) ?_
  refine lv_lload hx hb dX9_write_2 (lv_at hl 4 rfl) ?_
  refine tm_callv (cs_X9_106 hx hb hml hown htw hK hW (by assumption) (c_X9_make b0 ha hb1 hnz) ⟨rfl, rfl, Nat.le_of_ble_eq_true rfl, Nat.le_of_ble_eq_true rfl⟩ hl.1 (Nat.le_of_ble_eq_true rfl) dX9_write_4 ⟨Nat.le_of_ble_eq_true rfl, Nat.le_of_ble_eq_true rfl⟩) hS (fun M4 H locs hp4 hW hS => ?_)
  rw [hp4] at hW
  refine lv_aload_n hx hb dX9_write_7 rfl (lv_at hl 0 rfl) ?_
  refine lv_aload_n hx hb dX9_write_8 rfl (lv_at hl 0 rfl) ?_
  refine gf_X9_162 hx hb htw hown hK hW (by assumption) dX9_write_9 ?_
  refine ti_if_eq (tgt := 26) hx hb dX9_write_12 (by decide) (show inI (mI M o 28) from h28) (fun h12 => ?_) (fun h12 => ?_)
  · refine ti_iconst hx hb dX9_write_26 ?_
    refine pf_X9_162 hx hb htw hown hK hW (by assumption) hS (by first | exact Or.inl rfl | exact Or.inr rfl) dX9_write_27 (fun H locs hW hS => ?_)
    first | rw [show (1 : Int) = tl_b (¬ mI M o 28 = 0 ∧ ffit (tl_norm a b)) from tl_b_t ⟨h12, Decidable.not_not.mp (tl_b_0.mp h19)⟩] at hW | rw [show (0 : Int) = tl_b (¬ mI M o 28 = 0 ∧ ffit (tl_norm a b)) from tl_b_f (fun q => tl_b_n.mp h19 q.2)] at hW | rw [show (0 : Int) = tl_b (¬ mI M o 28 = 0 ∧ ffit (tl_norm a b)) from tl_b_f (fun q => q.1 h12)] at hW
    refine lv_aload_n hx hb dX9_write_30 rfl (lv_at hl 0 rfl) ?_
    refine gf_X9_13 hx hb htw hown hK hW (by assumption) (by assumption) dX9_write_31 ?_
    refine ti_bipush hx hb dX9_write_34 (by decide) ?_
    refine lv_iload_n hx hb dX9_write_36 rfl (lv_at hl 1 rfl) ?_
    refine ti_imul hx hb dX9_write_37 ?_
    refine ti_iconst hx hb dX9_write_38 ?_
    refine lv_iload_n hx hb dX9_write_39 rfl (lv_at hl 2 rfl) ?_
    refine ti_imul hx hb dX9_write_40 ?_
    refine ti_iadd hx hb dX9_write_41 ?_
    refine lv_aload_n hx hb dX9_write_42 rfl (lv_at hl 0 rfl) ?_
    refine gf_X9_56 hx hb htw hown hK hW (by assumption) dX9_write_43 ?_
    refine tm_last hx hb hK hW hS (by assumption) (by omega) (by omega) (by decide) dX9_write_46 (fun H locs hW hS => ?_)
    refine lv_aload_n hx hb dX9_write_47 rfl (lv_at hl 0 rfl) ?_
    refine gf_X9_13 hx hb htw hown hK hW (by assumption) (by assumption) dX9_write_48 ?_
    refine ti_bipush hx hb dX9_write_51 (by decide) ?_
    refine lv_iload_n hx hb dX9_write_53 rfl (lv_at hl 1 rfl) ?_
    refine ti_imul hx hb dX9_write_54 ?_
    refine ti_iconst hx hb dX9_write_55 ?_
    refine lv_iload_n hx hb dX9_write_56 rfl (lv_at hl 2 rfl) ?_
    refine ti_imul hx hb dX9_write_57 ?_
    refine ti_iadd hx hb dX9_write_58 ?_
    refine ti_iconst hx hb dX9_write_59 ?_
    refine ti_iadd hx hb dX9_write_60 ?_
    refine lv_aload_n hx hb dX9_write_61 rfl (lv_at hl 0 rfl) ?_
    refine gf_X9_60 hx hb htw hown hK hW (by assumption) dX9_write_62 ?_
    refine tm_last hx hb hK hW hS (by assumption) (by omega) (by omega) (by decide) dX9_write_65 (fun H locs hW hS => ?_)
    exact tm_vret hx hb hr hlk hK hW hS (by rw [i1, i2, show mL (sI (mk M o (tl_norm a b)) o 28 (tl_b (¬ mI M o 28 = 0 ∧ ffit (tl_norm a b)))) o 10 = (tl_norm a b).1 from mk_0 _ _ _, show mL (sL (sI (mk M o (tl_norm a b)) o 28 (tl_b (¬ mI M o 28 = 0 ∧ ffit (tl_norm a b)))) (o + 2) (9 * i + 2 * n) (tl_norm a b).1) o 11 = (tl_norm a b).2 from (tm_up_a _ _ (by omega)).trans (mk_1 _ _ _)]) dX9_write_66
  · refine lv_aload_n hx hb dX9_write_15 rfl (lv_at hl 0 rfl) ?_
    refine tm_calli (cs_X9_110 hx hb hml hown htw hK hW (by assumption) (c_X9_isGreat b0 (mk_0 _ _ _) (mk_1 _ _ _) (fLok_norm hnz ha hb1)) ⟨rfl, rfl, Nat.le_of_ble_eq_true rfl, Nat.le_of_ble_eq_true rfl⟩ hl.1 (Nat.le_of_ble_eq_true rfl) dX9_write_16 ⟨Nat.le_of_ble_eq_true rfl, Nat.le_of_ble_eq_true rfl⟩) hS (fun x16 M16 H locs hp16 hW hS => ?_)
    obtain ⟨ex16, eM16⟩ := hp16
    rw [eM16] at hW
    rw [ex16]
    refine ti_if_ne (tgt := 26) hx hb dX9_write_19 (by decide) (tl_b_r _) (fun h19 => ?_) (fun h19 => ?_)
    · refine ti_iconst hx hb dX9_write_26 ?_
      refine pf_X9_162 hx hb htw hown hK hW (by assumption) hS (by first | exact Or.inl rfl | exact Or.inr rfl) dX9_write_27 (fun H locs hW hS => ?_)
      first | rw [show (1 : Int) = tl_b (¬ mI M o 28 = 0 ∧ ffit (tl_norm a b)) from tl_b_t ⟨h12, Decidable.not_not.mp (tl_b_0.mp h19)⟩] at hW | rw [show (0 : Int) = tl_b (¬ mI M o 28 = 0 ∧ ffit (tl_norm a b)) from tl_b_f (fun q => tl_b_n.mp h19 q.2)] at hW | rw [show (0 : Int) = tl_b (¬ mI M o 28 = 0 ∧ ffit (tl_norm a b)) from tl_b_f (fun q => q.1 h12)] at hW
      refine lv_aload_n hx hb dX9_write_30 rfl (lv_at hl 0 rfl) ?_
      refine gf_X9_13 hx hb htw hown hK hW (by assumption) (by assumption) dX9_write_31 ?_
      refine ti_bipush hx hb dX9_write_34 (by decide) ?_
      refine lv_iload_n hx hb dX9_write_36 rfl (lv_at hl 1 rfl) ?_
      refine ti_imul hx hb dX9_write_37 ?_
      refine ti_iconst hx hb dX9_write_38 ?_
      refine lv_iload_n hx hb dX9_write_39 rfl (lv_at hl 2 rfl) ?_
      refine ti_imul hx hb dX9_write_40 ?_
      refine ti_iadd hx hb dX9_write_41 ?_
      refine lv_aload_n hx hb dX9_write_42 rfl (lv_at hl 0 rfl) ?_
      refine gf_X9_56 hx hb htw hown hK hW (by assumption) dX9_write_43 ?_
      refine tm_last hx hb hK hW hS (by assumption) (by omega) (by omega) (by decide) dX9_write_46 (fun H locs hW hS => ?_)
      refine lv_aload_n hx hb dX9_write_47 rfl (lv_at hl 0 rfl) ?_
      refine gf_X9_13 hx hb htw hown hK hW (by assumption) (by assumption) dX9_write_48 ?_
      refine ti_bipush hx hb dX9_write_51 (by decide) ?_
      refine lv_iload_n hx hb dX9_write_53 rfl (lv_at hl 1 rfl) ?_
      refine ti_imul hx hb dX9_write_54 ?_
      refine ti_iconst hx hb dX9_write_55 ?_
      refine lv_iload_n hx hb dX9_write_56 rfl (lv_at hl 2 rfl) ?_
      refine ti_imul hx hb dX9_write_57 ?_
      refine ti_iadd hx hb dX9_write_58 ?_
      refine ti_iconst hx hb dX9_write_59 ?_
      refine ti_iadd hx hb dX9_write_60 ?_
      refine lv_aload_n hx hb dX9_write_61 rfl (lv_at hl 0 rfl) ?_
      refine gf_X9_60 hx hb htw hown hK hW (by assumption) dX9_write_62 ?_
      refine tm_last hx hb hK hW hS (by assumption) (by omega) (by omega) (by decide) dX9_write_65 (fun H locs hW hS => ?_)
      exact tm_vret hx hb hr hlk hK hW hS (by rw [i1, i2, show mL (sI (mk M o (tl_norm a b)) o 28 (tl_b (¬ mI M o 28 = 0 ∧ ffit (tl_norm a b)))) o 10 = (tl_norm a b).1 from mk_0 _ _ _, show mL (sL (sI (mk M o (tl_norm a b)) o 28 (tl_b (¬ mI M o 28 = 0 ∧ ffit (tl_norm a b)))) (o + 2) (9 * i + 2 * n) (tl_norm a b).1) o 11 = (tl_norm a b).2 from (tm_up_a _ _ (by omega)).trans (mk_1 _ _ _)]) dX9_write_66
    · refine ti_iconst hx hb dX9_write_22 ?_
      refine lv_goto (tgt := 27) hx hb dX9_write_23 (by decide) ?_
      refine pf_X9_162 hx hb htw hown hK hW (by assumption) hS (by first | exact Or.inl rfl | exact Or.inr rfl) dX9_write_27 (fun H locs hW hS => ?_)
      first | rw [show (1 : Int) = tl_b (¬ mI M o 28 = 0 ∧ ffit (tl_norm a b)) from tl_b_t ⟨h12, Decidable.not_not.mp (tl_b_0.mp h19)⟩] at hW | rw [show (0 : Int) = tl_b (¬ mI M o 28 = 0 ∧ ffit (tl_norm a b)) from tl_b_f (fun q => tl_b_n.mp h19 q.2)] at hW | rw [show (0 : Int) = tl_b (¬ mI M o 28 = 0 ∧ ffit (tl_norm a b)) from tl_b_f (fun q => q.1 h12)] at hW
      refine lv_aload_n hx hb dX9_write_30 rfl (lv_at hl 0 rfl) ?_
      refine gf_X9_13 hx hb htw hown hK hW (by assumption) (by assumption) dX9_write_31 ?_
      refine ti_bipush hx hb dX9_write_34 (by decide) ?_
      refine lv_iload_n hx hb dX9_write_36 rfl (lv_at hl 1 rfl) ?_
      refine ti_imul hx hb dX9_write_37 ?_
      refine ti_iconst hx hb dX9_write_38 ?_
      refine lv_iload_n hx hb dX9_write_39 rfl (lv_at hl 2 rfl) ?_
      refine ti_imul hx hb dX9_write_40 ?_
      refine ti_iadd hx hb dX9_write_41 ?_
      refine lv_aload_n hx hb dX9_write_42 rfl (lv_at hl 0 rfl) ?_
      refine gf_X9_56 hx hb htw hown hK hW (by assumption) dX9_write_43 ?_
      refine tm_last hx hb hK hW hS (by assumption) (by omega) (by omega) (by decide) dX9_write_46 (fun H locs hW hS => ?_)
      refine lv_aload_n hx hb dX9_write_47 rfl (lv_at hl 0 rfl) ?_
      refine gf_X9_13 hx hb htw hown hK hW (by assumption) (by assumption) dX9_write_48 ?_
      refine ti_bipush hx hb dX9_write_51 (by decide) ?_
      refine lv_iload_n hx hb dX9_write_53 rfl (lv_at hl 1 rfl) ?_
      refine ti_imul hx hb dX9_write_54 ?_
      refine ti_iconst hx hb dX9_write_55 ?_
      refine lv_iload_n hx hb dX9_write_56 rfl (lv_at hl 2 rfl) ?_
      refine ti_imul hx hb dX9_write_57 ?_
      refine ti_iadd hx hb dX9_write_58 ?_
      refine ti_iconst hx hb dX9_write_59 ?_
      refine ti_iadd hx hb dX9_write_60 ?_
      refine lv_aload_n hx hb dX9_write_61 rfl (lv_at hl 0 rfl) ?_
      refine gf_X9_60 hx hb htw hown hK hW (by assumption) dX9_write_62 ?_
      refine tm_last hx hb hK hW hS (by assumption) (by omega) (by omega) (by decide) dX9_write_65 (fun H locs hW hS => ?_)
      exact tm_vret hx hb hr hlk hK hW hS (by rw [i1, i2, show mL (sI (mk M o (tl_norm a b)) o 28 (tl_b (¬ mI M o 28 = 0 ∧ ffit (tl_norm a b)))) o 10 = (tl_norm a b).1 from mk_0 _ _ _, show mL (sL (sI (mk M o (tl_norm a b)) o 28 (tl_b (¬ mI M o 28 = 0 ∧ ffit (tl_norm a b)))) (o + 2) (9 * i + 2 * n) (tl_norm a b).1) o 11 = (tl_norm a b).2 from (tm_up_a _ _ (by omega)).trans (mk_1 _ _ _)]) dX9_write_66
theorem fsub_j (f g : tl_F) : tl_norm (f.1 * g.2 + -g.1 * f.2) (f.2 * g.2) = fsub f g := by
  rw [Int.neg_mul, ← Int.sub_eq_add_neg]
theorem fsub_b {f g : tl_F} (hf : fok f) (hg : fok g) : (f.1 * g.2 + -g.1 * f.2).natAbs ≤ 4611686018427387904 := by
  rw [Int.neg_mul, ← Int.sub_eq_add_neg]
  exact (tl_bd hf hg).2.2.2.1
theorem dX9_join_0 : decode cX9_join 0 = .ok (.iload 5, 2) := by decide +kernel
theorem dX9_join_2 : decode cX9_join 2 = .ok (.ifCond .eq 13, 3) := by decide +kernel
theorem dX9_join_5 : decode cX9_join 5 = .ok (.aload_n 0, 1) := by decide +kernel
theorem dX9_join_6 : decode cX9_join 6 = .ok (.iload 4, 2) := by decide +kernel
theorem dX9_join_8 : decode cX9_join 8 = .ok (.invokevirtual 169, 3) := by decide +kernel
theorem dX9_join_11 : decode cX9_join 11 = .ok (.lneg, 1) := by decide +kernel
theorem dX9_join_12 : decode cX9_join 12 = .ok (.goto 9, 3) := by decide +kernel
theorem dX9_join_15 : decode cX9_join 15 = .ok (.aload_n 0, 1) := by decide +kernel
theorem dX9_join_16 : decode cX9_join 16 = .ok (.iload 4, 2) := by decide +kernel
theorem dX9_join_18 : decode cX9_join 18 = .ok (.invokevirtual 169, 3) := by decide +kernel
theorem dX9_join_21 : decode cX9_join 21 = .ok (.lstore 6, 2) := by decide +kernel
theorem dX9_join_23 : decode cX9_join 23 = .ok (.aload_n 0, 1) := by decide +kernel
theorem dX9_join_24 : decode cX9_join 24 = .ok (.iload_n 1, 1) := by decide +kernel
theorem dX9_join_25 : decode cX9_join 25 = .ok (.iload_n 2, 1) := by decide +kernel
theorem dX9_join_26 : decode cX9_join 26 = .ok (.aload_n 0, 1) := by decide +kernel
theorem dX9_join_27 : decode cX9_join 27 = .ok (.iload_n 3, 1) := by decide +kernel
theorem dX9_join_28 : decode cX9_join 28 = .ok (.invokevirtual 169, 3) := by decide +kernel
theorem dX9_join_31 : decode cX9_join 31 = .ok (.aload_n 0, 1) := by decide +kernel
theorem dX9_join_32 : decode cX9_join 32 = .ok (.iload 4, 2) := by decide +kernel
theorem dX9_join_34 : decode cX9_join 34 = .ok (.invokevirtual 173, 3) := by decide +kernel
theorem dX9_join_37 : decode cX9_join 37 = .ok (.lmul, 1) := by decide +kernel
theorem dX9_join_38 : decode cX9_join 38 = .ok (.lload 6, 2) := by decide +kernel
theorem dX9_join_40 : decode cX9_join 40 = .ok (.aload_n 0, 1) := by decide +kernel
theorem dX9_join_41 : decode cX9_join 41 = .ok (.iload_n 3, 1) := by decide +kernel
theorem dX9_join_42 : decode cX9_join 42 = .ok (.invokevirtual 173, 3) := by decide +kernel
theorem dX9_join_45 : decode cX9_join 45 = .ok (.lmul, 1) := by decide +kernel
theorem dX9_join_46 : decode cX9_join 46 = .ok (.ladd, 1) := by decide +kernel
theorem dX9_join_47 : decode cX9_join 47 = .ok (.aload_n 0, 1) := by decide +kernel
theorem dX9_join_48 : decode cX9_join 48 = .ok (.iload_n 3, 1) := by decide +kernel
theorem dX9_join_49 : decode cX9_join 49 = .ok (.invokevirtual 173, 3) := by decide +kernel
theorem dX9_join_52 : decode cX9_join 52 = .ok (.aload_n 0, 1) := by decide +kernel
theorem dX9_join_53 : decode cX9_join 53 = .ok (.iload 4, 2) := by decide +kernel
theorem dX9_join_55 : decode cX9_join 55 = .ok (.invokevirtual 173, 3) := by decide +kernel
theorem dX9_join_58 : decode cX9_join 58 = .ok (.lmul, 1) := by decide +kernel
theorem dX9_join_59 : decode cX9_join 59 = .ok (.invokevirtual 176, 3) := by decide +kernel
theorem dX9_join_62 : decode cX9_join 62 = .ok (.return_, 1) := by decide +kernel
set_option maxHeartbeats 4000000 in
set_option maxRecDepth 100000 in
/-- TutorLinesModel.join -/
theorem c_X9_join {l : Launch} {G : tm_G} {Hb : Heap} {sh : tm_sh} {M : tm_M} {o N i n x y : Nat} {ls0 : Int} (h : moN sh M o N) (hi : i < 44) (hn : n < 4) (hx1 : x < 4) (hy1 : y < 4) (hl0 : ls0 = 0 ∨ ls0 = 1) (hf : fok (rf M o (N - 1) x)) (hg : fok (rf M o (N - 1) y)) (h28 : inI (mI M o 28)) : Met l yX9_join (tws yX9_join cX9_join 8 none) ({ frames := 3, cells := 0, slots := 0, locals := 81 }) (va_Pc [.ref o, ji (i : Nat), ji (n : Nat), ji (x : Nat), ji (y : Nat), ji ls0] (tm_St G Hb sh M)) (tm_Qv G Hb sh (fun M1 => M1 = wr M o i n (if ls0 = 1 then fsub (rf M o (N - 1) x) (rf M o (N - 1) y) else fadd (rf M o (N - 1) x) (rf M o (N - 1) y)))) 0 0 (tm_A Hb) := by
  refine tm_begin (by decide) (Nat.le_of_ble_eq_true rfl) (fun p e s m below meth c ls hx hb hr hml hown htw hlk hnm hK hW hl => ?_)
  have hS : va_S (tm_A Hb) s.heap s.heap [] := va_S.rf
  have hl : lv_has ls 8 [(0, .ref o), (1, ji (i : Nat)), (2, ji (n : Nat)), (3, ji (x : Nat)), (4, ji (y : Nat)), (5, ji ls0)] := hl
  have h8 := h.1.1
  refine lv_iload hx hb dX9_join_0 (lv_at hl 5 rfl) ?_
  refine ti_if_eq (tgt := 15) hx hb dX9_join_2 (by decide) (by omega) (fun h2 => ?_) (fun h2 => ?_)
  · refine lv_aload_n hx hb dX9_join_15 rfl (lv_at hl 0 rfl) ?_
    refine lv_iload hx hb dX9_join_16 (lv_at hl 4 rfl) ?_
    refine tm_calll (cs_X9_169 hx hb hml hown htw hK hW (by assumption) (c_X9_above h hy1) ⟨rfl, rfl, Nat.le_of_ble_eq_true rfl, Nat.le_of_ble_eq_true rfl⟩ hl.1 (Nat.le_of_ble_eq_true rfl) dX9_join_18 ⟨Nat.le_of_ble_eq_true rfl, Nat.le_of_ble_eq_true rfl⟩) hS (fun x18 M18 H locs hp18 hW hS => ?_)
    obtain ⟨ex18, eM18⟩ := hp18
    rw [eM18] at hW
    rw [ex18]
    refine lv_lstore (lv' := [(6, _), (0, _), (1, _), (2, _), (3, _), (4, _), (5, _)]) hx hb dX9_join_21 hl (by decide) rfl (fun ls hl => ?_)
    refine lv_aload_n hx hb dX9_join_23 rfl (lv_at hl 1 rfl) ?_
    refine lv_iload_n hx hb dX9_join_24 rfl (lv_at hl 2 rfl) ?_
    refine lv_iload_n hx hb dX9_join_25 rfl (lv_at hl 3 rfl) ?_
    refine lv_aload_n hx hb dX9_join_26 rfl (lv_at hl 1 rfl) ?_
    refine lv_iload_n hx hb dX9_join_27 rfl (lv_at hl 4 rfl) ?_
    refine tm_calll (cs_X9_169 hx hb hml hown htw hK hW (by assumption) (c_X9_above h hx1) ⟨rfl, rfl, Nat.le_of_ble_eq_true rfl, Nat.le_of_ble_eq_true rfl⟩ hl.1 (Nat.le_of_ble_eq_true rfl) dX9_join_28 ⟨Nat.le_of_ble_eq_true rfl, Nat.le_of_ble_eq_true rfl⟩) hS (fun x28 M28 H locs hp28 hW hS => ?_)
    obtain ⟨ex28, eM28⟩ := hp28
    rw [eM28] at hW
    rw [ex28]
    refine lv_aload_n hx hb dX9_join_31 rfl (lv_at hl 1 rfl) ?_
    refine lv_iload hx hb dX9_join_32 (lv_at hl 5 rfl) ?_
    refine tm_calll (cs_X9_173 hx hb hml hown htw hK hW (by assumption) (c_X9_below h hy1) ⟨rfl, rfl, Nat.le_of_ble_eq_true rfl, Nat.le_of_ble_eq_true rfl⟩ hl.1 (Nat.le_of_ble_eq_true rfl) dX9_join_34 ⟨Nat.le_of_ble_eq_true rfl, Nat.le_of_ble_eq_true rfl⟩) hS (fun x34 M34 H locs hp34 hW hS => ?_)
    obtain ⟨ex34, eM34⟩ := hp34
    rw [eM34] at hW
    rw [ex34]
    refine ti_lmul hx hb dX9_join_37 ?_
    refine lv_lload hx hb dX9_join_38 (lv_at hl 0 rfl) ?_
    refine lv_aload_n hx hb dX9_join_40 rfl (lv_at hl 1 rfl) ?_
    refine lv_iload_n hx hb dX9_join_41 rfl (lv_at hl 4 rfl) ?_
    refine tm_calll (cs_X9_173 hx hb hml hown htw hK hW (by assumption) (c_X9_below h hx1) ⟨rfl, rfl, Nat.le_of_ble_eq_true rfl, Nat.le_of_ble_eq_true rfl⟩ hl.1 (Nat.le_of_ble_eq_true rfl) dX9_join_42 ⟨Nat.le_of_ble_eq_true rfl, Nat.le_of_ble_eq_true rfl⟩) hS (fun x42 M42 H locs hp42 hW hS => ?_)
    obtain ⟨ex42, eM42⟩ := hp42
    rw [eM42] at hW
    rw [ex42]
    refine ti_lmul hx hb dX9_join_45 ?_
    refine ti_ladd hx hb dX9_join_46 ?_
    refine lv_aload_n hx hb dX9_join_47 rfl (lv_at hl 1 rfl) ?_
    refine lv_iload_n hx hb dX9_join_48 rfl (lv_at hl 4 rfl) ?_
    refine tm_calll (cs_X9_173 hx hb hml hown htw hK hW (by assumption) (c_X9_below h hx1) ⟨rfl, rfl, Nat.le_of_ble_eq_true rfl, Nat.le_of_ble_eq_true rfl⟩ hl.1 (Nat.le_of_ble_eq_true rfl) dX9_join_49 ⟨Nat.le_of_ble_eq_true rfl, Nat.le_of_ble_eq_true rfl⟩) hS (fun x49 M49 H locs hp49 hW hS => ?_)
    obtain ⟨ex49, eM49⟩ := hp49
    rw [eM49] at hW
    rw [ex49]
    refine lv_aload_n hx hb dX9_join_52 rfl (lv_at hl 1 rfl) ?_
    refine lv_iload hx hb dX9_join_53 (lv_at hl 5 rfl) ?_
    refine tm_calll (cs_X9_173 hx hb hml hown htw hK hW (by assumption) (c_X9_below h hy1) ⟨rfl, rfl, Nat.le_of_ble_eq_true rfl, Nat.le_of_ble_eq_true rfl⟩ hl.1 (Nat.le_of_ble_eq_true rfl) dX9_join_55 ⟨Nat.le_of_ble_eq_true rfl, Nat.le_of_ble_eq_true rfl⟩) hS (fun x55 M55 H locs hp55 hW hS => ?_)
    obtain ⟨ex55, eM55⟩ := hp55
    rw [eM55] at hW
    rw [ex55]
    refine ti_lmul hx hb dX9_join_58 ?_
    refine tm_callv (cs_X9_176 hx hb hml hown htw hK hW (by assumption) (c_X9_write h.1 hi hn (tl_bd hf hg).2.2.1 (tl_bd hf hg).2.1 (tl_bd hf hg).1 h28) ⟨rfl, rfl, Nat.le_of_ble_eq_true rfl, Nat.le_of_ble_eq_true rfl⟩ hl.1 (Nat.le_of_ble_eq_true rfl) dX9_join_59 ⟨Nat.le_of_ble_eq_true rfl, Nat.le_of_ble_eq_true rfl⟩) hS (fun M59 H locs hp59 hW hS => ?_)
    exact tm_vret hx hb hr hlk hK hW hS (by rw [hp59]; first | rw [if_neg (by omega)] | (rw [if_pos (by omega)]; exact congrArg _ (fsub_j _ _))) dX9_join_62
  · refine lv_aload_n hx hb dX9_join_5 rfl (lv_at hl 0 rfl) ?_
    refine lv_iload hx hb dX9_join_6 (lv_at hl 4 rfl) ?_
    refine tm_calll (cs_X9_169 hx hb hml hown htw hK hW (by assumption) (c_X9_above h hy1) ⟨rfl, rfl, Nat.le_of_ble_eq_true rfl, Nat.le_of_ble_eq_true rfl⟩ hl.1 (Nat.le_of_ble_eq_true rfl) dX9_join_8 ⟨Nat.le_of_ble_eq_true rfl, Nat.le_of_ble_eq_true rfl⟩) hS (fun x8 M8 H locs hp8 hW hS => ?_)
    obtain ⟨ex8, eM8⟩ := hp8
    rw [eM8] at hW
    rw [ex8]
    refine ti_lneg hx hb dX9_join_11 ?_
    refine lv_goto (tgt := 21) hx hb dX9_join_12 (by decide) ?_
    refine lv_lstore (lv' := [(6, _), (0, _), (1, _), (2, _), (3, _), (4, _), (5, _)]) hx hb dX9_join_21 hl (by decide) rfl (fun ls hl => ?_)
    refine lv_aload_n hx hb dX9_join_23 rfl (lv_at hl 1 rfl) ?_
    refine lv_iload_n hx hb dX9_join_24 rfl (lv_at hl 2 rfl) ?_
    refine lv_iload_n hx hb dX9_join_25 rfl (lv_at hl 3 rfl) ?_
    refine lv_aload_n hx hb dX9_join_26 rfl (lv_at hl 1 rfl) ?_
    refine lv_iload_n hx hb dX9_join_27 rfl (lv_at hl 4 rfl) ?_
    refine tm_calll (cs_X9_169 hx hb hml hown htw hK hW (by assumption) (c_X9_above h hx1) ⟨rfl, rfl, Nat.le_of_ble_eq_true rfl, Nat.le_of_ble_eq_true rfl⟩ hl.1 (Nat.le_of_ble_eq_true rfl) dX9_join_28 ⟨Nat.le_of_ble_eq_true rfl, Nat.le_of_ble_eq_true rfl⟩) hS (fun x28 M28 H locs hp28 hW hS => ?_)
    obtain ⟨ex28, eM28⟩ := hp28
    rw [eM28] at hW
    rw [ex28]
    refine lv_aload_n hx hb dX9_join_31 rfl (lv_at hl 1 rfl) ?_
    refine lv_iload hx hb dX9_join_32 (lv_at hl 5 rfl) ?_
    refine tm_calll (cs_X9_173 hx hb hml hown htw hK hW (by assumption) (c_X9_below h hy1) ⟨rfl, rfl, Nat.le_of_ble_eq_true rfl, Nat.le_of_ble_eq_true rfl⟩ hl.1 (Nat.le_of_ble_eq_true rfl) dX9_join_34 ⟨Nat.le_of_ble_eq_true rfl, Nat.le_of_ble_eq_true rfl⟩) hS (fun x34 M34 H locs hp34 hW hS => ?_)
    obtain ⟨ex34, eM34⟩ := hp34
    rw [eM34] at hW
    rw [ex34]
    refine ti_lmul hx hb dX9_join_37 ?_
    refine lv_lload hx hb dX9_join_38 (lv_at hl 0 rfl) ?_
    refine lv_aload_n hx hb dX9_join_40 rfl (lv_at hl 1 rfl) ?_
    refine lv_iload_n hx hb dX9_join_41 rfl (lv_at hl 4 rfl) ?_
    refine tm_calll (cs_X9_173 hx hb hml hown htw hK hW (by assumption) (c_X9_below h hx1) ⟨rfl, rfl, Nat.le_of_ble_eq_true rfl, Nat.le_of_ble_eq_true rfl⟩ hl.1 (Nat.le_of_ble_eq_true rfl) dX9_join_42 ⟨Nat.le_of_ble_eq_true rfl, Nat.le_of_ble_eq_true rfl⟩) hS (fun x42 M42 H locs hp42 hW hS => ?_)
    obtain ⟨ex42, eM42⟩ := hp42
    rw [eM42] at hW
    rw [ex42]
    refine ti_lmul hx hb dX9_join_45 ?_
    refine ti_ladd hx hb dX9_join_46 ?_
    refine lv_aload_n hx hb dX9_join_47 rfl (lv_at hl 1 rfl) ?_
    refine lv_iload_n hx hb dX9_join_48 rfl (lv_at hl 4 rfl) ?_
    refine tm_calll (cs_X9_173 hx hb hml hown htw hK hW (by assumption) (c_X9_below h hx1) ⟨rfl, rfl, Nat.le_of_ble_eq_true rfl, Nat.le_of_ble_eq_true rfl⟩ hl.1 (Nat.le_of_ble_eq_true rfl) dX9_join_49 ⟨Nat.le_of_ble_eq_true rfl, Nat.le_of_ble_eq_true rfl⟩) hS (fun x49 M49 H locs hp49 hW hS => ?_)
    obtain ⟨ex49, eM49⟩ := hp49
    rw [eM49] at hW
    rw [ex49]
    refine lv_aload_n hx hb dX9_join_52 rfl (lv_at hl 1 rfl) ?_
    refine lv_iload hx hb dX9_join_53 (lv_at hl 5 rfl) ?_
    refine tm_calll (cs_X9_173 hx hb hml hown htw hK hW (by assumption) (c_X9_below h hy1) ⟨rfl, rfl, Nat.le_of_ble_eq_true rfl, Nat.le_of_ble_eq_true rfl⟩ hl.1 (Nat.le_of_ble_eq_true rfl) dX9_join_55 ⟨Nat.le_of_ble_eq_true rfl, Nat.le_of_ble_eq_true rfl⟩) hS (fun x55 M55 H locs hp55 hW hS => ?_)
    obtain ⟨ex55, eM55⟩ := hp55
    rw [eM55] at hW
    rw [ex55]
    refine ti_lmul hx hb dX9_join_58 ?_
    refine tm_callv (cs_X9_176 hx hb hml hown htw hK hW (by assumption) (c_X9_write h.1 hi hn (fsub_b hf hg) (tl_bd hf hg).2.1 (tl_bd hf hg).1 h28) ⟨rfl, rfl, Nat.le_of_ble_eq_true rfl, Nat.le_of_ble_eq_true rfl⟩ hl.1 (Nat.le_of_ble_eq_true rfl) dX9_join_59 ⟨Nat.le_of_ble_eq_true rfl, Nat.le_of_ble_eq_true rfl⟩) hS (fun M59 H locs hp59 hW hS => ?_)
    exact tm_vret hx hb hr hlk hK hW hS (by rw [hp59]; first | rw [if_neg (by omega)] | (rw [if_pos (by omega)]; exact congrArg _ (fsub_j _ _))) dX9_join_62
