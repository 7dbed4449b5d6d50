/-! TutorLinesModel: the state that its cells mean; its plain calls (by program: wip/whole/gen/mm1.py) -/
/-- what helpers may change: no line, no text, no answer, nothing printed -/
def mX (o : Nat) (a k : Nat) : Prop := (a = o ∧ k ≠ 3 ∧ k ≠ 4 ∧ k ≠ 5 ∧ k ≠ 8) ∨ (a = o + 2 ∧ 360 ≤ k ∧ ¬ (369 ≤ k ∧ k < 378)) ∨ (o + 6 ≤ a ∧ a < o + 13)
/-- what a call but print may change -/
def mY (o : Nat) (a k : Nat) : Prop := (a = o ∧ k ≠ 8) ∨ (o + 1 ≤ a ∧ a < o + 13 ∧ a ≠ o + 5)
def MLv (sh : tm_sh) (M : tm_M) (o : Nat) (z : tl_Z) : Prop := isMo sh M o ∧ (∀ j, mI M (o + 1) j = zt z j) ∧ mI M o 3 = zn z ∧ (∀ i, i < zn z → rl M o i = zl z i) ∧ mI M o 4 = zr z ∧ (zr z = 1 → mI M o 5 = zs z ∧ rl M o 41 = zw z) ∧ (∀ k, 1 ≤ k → k ≤ 3 → mI M (o + 4) k = zp z k) ∧ mI M (o + 3) 1 = za z 1 ∧ mI M (o + 3) 2 = za z 0 ∧ mI M (o + 3) 3 = za z 2
/-- what holds of every state that calls lead to -/
def ZI (z : tl_Z) : Prop := (∀ j, 0 ≤ zt z j ∧ zt z j < 256) ∧ zn z ≤ 40 ∧ (∀ i, i < zn z → lok (zl z i) ∧ lg (zl z i)) ∧ (zr z = 0 ∨ zr z = 1) ∧ (zr z = 1 → 0 < zn z ∧ inI (zs z) ∧ lok (zw z)) ∧ ∀ k, 1 ≤ k → k ≤ 3 → 0 ≤ zp z k ∧ zp z k ≤ 10
def MLp (sh : tm_sh) (o : Nat) (M : tm_M) (z : tl_Z) (M1 : tm_M) : Prop := MLv sh M1 o z ∧ fq (mY o) M M1
theorem mX_Y {o a k : Nat} (h : mX o a k) : mY o a k := by unfold mX at h; unfold mY; omega
theorem mP_X {o a k : Nat} (h : mP o a k) : mX o a k := by unfold mP at h; unfold mX; omega
theorem pR_X {o a k : Nat} (h : pR o a k) : mX o a k := by unfold pR pP at h; unfold mX; omega
def pc0 (o : Nat) (a k : Nat) : Prop := a = o ∧ k = 0
theorem pc0_X {o a k : Nat} (h : pc0 o a k) : mX o a k := by unfold pc0 at h; unfold mX; omega
theorem MLv_m {sh : tm_sh} {M M1 : tm_M} {o : Nat} {z : tl_Z} (h : MLv sh M o z) (hn : zn z ≤ 40) (f : fq (mX o) M M1) : MLv sh M1 o z := by
  obtain ⟨h1, h2, h3, h4, h5, h6, h7, h8, h9, h10⟩ := h
  exact ⟨isMo_m h1 f.1, fun j => (f.2 _ _ (by unfold mX; omega)).1.trans (h2 j), (f.2 _ _ (by unfold mX; omega)).1.trans h3, fun i hi => (fq_rl f (fun k hk => by unfold mX; omega)).trans (h4 i hi), (f.2 _ _ (by unfold mX; omega)).1.trans h5, fun q => ⟨(f.2 _ _ (by unfold mX; omega)).1.trans (h6 q).1, (fq_rl f (fun k hk => by unfold mX; omega)).trans (h6 q).2⟩, fun k k1 k2 => (f.2 _ _ (by unfold mX; omega)).1.trans (h7 k k1 k2), (f.2 _ _ (by unfold mX; omega)).1.trans h8, (f.2 _ _ (by unfold mX; omega)).1.trans h9, (f.2 _ _ (by unfold mX; omega)).1.trans h10⟩
theorem MLp_m {sh : tm_sh} {M M1 : tm_M} {o : Nat} {z : tl_Z} (h : MLv sh M o z) (hn : zn z ≤ 40) (f : fq (mX o) M M1) : MLp sh o M z M1 := ⟨MLv_m h hn f, fq_wd f (fun _ _ => mX_Y)⟩
theorem fq_c0 {o : Nat} {M : tm_M} {v : Int} : fq (mX o) M (sI M o 0 v) := fq_sI (pc0_X ⟨rfl, rfl⟩)
theorem MLv_N {sh : tm_sh} {M : tm_M} {o : Nat} {z : tl_Z} (h : MLv sh M o z) (hn : zn z ≤ 40) (h0 : 0 < zn z) : moN sh M o (zn z) := ⟨h.1, h.2.2.1, h0, hn⟩
theorem MLv_l {sh : tm_sh} {M : tm_M} {o : Nat} {z : tl_Z} (h : MLv sh M o z) (h0 : 0 < zn z) : rl M o (zn z - 1) = zl z (zn z - 1) := h.2.2.2.1 _ (by omega)
theorem ZI_l {z : tl_Z} (h : ZI z) (h0 : 0 < zn z) : lok (zl z (zn z - 1)) ∧ lg (zl z (zn z - 1)) := h.2.2.1 _ (by omega)
theorem dX9_thrown_0 : decode cX9_thrown 0 = .ok (.aload_n 0, 1) := by decide +kernel
theorem dX9_thrown_1 : decode cX9_thrown 1 = .ok (.getfield 48, 3) := by decide +kernel
theorem dX9_thrown_4 : decode cX9_thrown 4 = .ok (.ireturn, 1) := by decide +kernel
set_option maxHeartbeats 4000000 in
set_option maxRecDepth 100000 in
/-- TutorLinesModel.thrown -/
theorem c_X9_thrown {l : Launch} {G : tm_G} {Hb : Heap} {sh : tm_sh} {M : tm_M} {o : Nat} (h0 : sh o = some (9, 0)) : Met l yX9_thrown (tws yX9_thrown cX9_thrown 1 (some .int)) ({ frames := 0, cells := 0, slots := 0, locals := 0 }) (va_Pc [.ref o] (tm_St G Hb sh M)) (tm_Qi G Hb sh (fun x M1 => x = mI M o 0 ∧ M1 = M)) 0 0 (tm_A Hb) := by
  refine tm_begin (by decide) (Nat.le_of_ble_eq_true rfl) (fun p e s m below meth c ls hx hb hr hml hown htw hlk hnm hK hW hl => ?_)
  have hS : va_S (tm_A Hb) s.heap s.heap [] := va_S.rf
  have hl : lv_has ls 1 [(0, .ref o)] := hl
  refine lv_aload_n hx hb dX9_thrown_0 rfl (lv_at hl 0 rfl) ?_
  refine gf_X9_48 hx hb htw hown hK hW (by assumption) dX9_thrown_1 ?_
  exact tm_iret hx hb hr hlk hK hW hS ⟨rfl, rfl⟩ dX9_thrown_4
theorem dX9_isLength_0 : decode cX9_isLength 0 = .ok (.aload_n 0, 1) := by decide +kernel
theorem dX9_isLength_1 : decode cX9_isLength 1 = .ok (.iload_n 1, 1) := by decide +kernel
theorem dX9_isLength_2 : decode cX9_isLength 2 = .ok (.i2l, 1) := by decide +kernel
theorem dX9_isLength_3 : decode cX9_isLength 3 = .ok (.lconst 0, 1) := by decide +kernel
theorem dX9_isLength_4 : decode cX9_isLength 4 = .ok (.ldc2_w 203, 3) := by decide +kernel
theorem dX9_isLength_7 : decode cX9_isLength 7 = .ok (.invokestatic 67, 3) := by decide +kernel
theorem dX9_isLength_10 : decode cX9_isLength 10 = .ok (.ifCond .eq 7, 3) := by decide +kernel
theorem dX9_isLength_13 : decode cX9_isLength 13 = .ok (.iconst 0, 1) := by decide +kernel
theorem dX9_isLength_14 : decode cX9_isLength 14 = .ok (.goto 4, 3) := by decide +kernel
theorem dX9_isLength_17 : decode cX9_isLength 17 = .ok (.iconst 1, 1) := by decide +kernel
theorem dX9_isLength_18 : decode cX9_isLength 18 = .ok (.putfield 48, 3) := by decide +kernel
theorem dX9_isLength_21 : decode cX9_isLength 21 = .ok (.aload_n 0, 1) := by decide +kernel
theorem dX9_isLength_22 : decode cX9_isLength 22 = .ok (.getfield 48, 3) := by decide +kernel
theorem dX9_isLength_25 : decode cX9_isLength 25 = .ok (.ifCond .ne 7, 3) := by decide +kernel
theorem dX9_isLength_28 : decode cX9_isLength 28 = .ok (.iconst 1, 1) := by decide +kernel
theorem dX9_isLength_29 : decode cX9_isLength 29 = .ok (.goto 4, 3) := by decide +kernel
theorem dX9_isLength_32 : decode cX9_isLength 32 = .ok (.iconst 0, 1) := by decide +kernel
theorem dX9_isLength_33 : decode cX9_isLength 33 = .ok (.ireturn, 1) := by decide +kernel
set_option maxHeartbeats 4000000 in
set_option maxRecDepth 100000 in
/-- TutorLinesModel.isLength -/
theorem c_X9_isLength {l : Launch} {G : tm_G} {Hb : Heap} {sh : tm_sh} {M : tm_M} {o : Nat} {n : Int} (h0 : sh o = some (9, 0)) (hn : inI n) : Met l yX9_isLength (tws yX9_isLength cX9_isLength 2 (some .boolean)) ({ frames := 1, cells := 0, slots := 0, locals := 25 }) (va_Pc [.ref o, ji n] (tm_St G Hb sh M)) (tm_Qi G Hb sh (fun r M1 => r = tl_b (0 ≤ n ∧ n ≤ 80) ∧ M1 = sI M o 0 (tl_b (¬ (0 ≤ n ∧ n ≤ 80))))) 0 0 (tm_A Hb) := by
  refine tm_begin (by decide) (Nat.le_of_ble_eq_true rfl) (fun p e s m below meth c ls hx hb hr hml hown htw hlk hnm hK hW hl => ?_)
  have hS : va_S (tm_A Hb) s.heap s.heap [] := va_S.rf
  have hl : lv_has ls 2 [(0, .ref o), (1, ji n)] := hl
  refine lv_aload_n hx hb dX9_isLength_0 rfl (lv_at hl 0 rfl) ?_
  refine lv_iload_n hx hb dX9_isLength_1 rfl (lv_at hl 1 rfl) ?_
  refine ti_i2l hx hb dX9_isLength_2 hn ?_
  refine ti_lconst0 hx hb dX9_isLength_3 ?_
  refine lv_ldc2 hx hb hown (htw _ cl_X9_203) dX9_isLength_4 ?_
  refine tm_calli (cs_X9_67 hx hb hml hown htw hK hW (c_X9_in (by omega) (by decide) (by decide)) ⟨rfl, rfl, Nat.le_of_ble_eq_true rfl, Nat.le_of_ble_eq_true rfl⟩ hl.1 (Nat.le_of_ble_eq_true rfl) dX9_isLength_7 ⟨Nat.le_of_ble_eq_true rfl, Nat.le_of_ble_eq_true rfl⟩) hS (fun x7 M7 H locs hp7 hW hS => ?_)
  obtain ⟨ex7, eM7⟩ := hp7
  rw [eM7] at hW
  rw [ex7]
  refine ti_if_eq (tgt := 17) hx hb dX9_isLength_10 (by decide) (tl_b_r _) (fun h10 => ?_) (fun h10 => ?_)
  · refine ti_iconst hx hb dX9_isLength_17 ?_
    refine pf_X9_48 hx hb htw hown hK hW (by assumption) hS dX9_isLength_18 (fun H locs hW hS => ?_)
    refine lv_aload_n hx hb dX9_isLength_21 rfl (lv_at hl 0 rfl) ?_
    refine gf_X9_48 hx hb htw hown hK hW (by assumption) dX9_isLength_22 ?_
    rw [show mI (sI M o 0 1) o 0 = 1 from tm_up_s _ _ _ _]
    refine ti_if_ne (tgt := 32) hx hb dX9_isLength_25 (by decide) (by decide) (fun h25 => ?_) (fun h25 => ?_)
    · refine ti_iconst hx hb dX9_isLength_32 ?_
      exact tm_zret hx hb hr hlk (by first | exact Or.inl rfl | exact Or.inr rfl | assumption) hK hW hS ⟨(tl_b_f (tl_b_0.mp h10)), by rw [show tl_b (¬ (0 ≤ n ∧ n ≤ 80)) = 1 from (tl_b_t (tl_b_0.mp h10)).symm]⟩ dX9_isLength_33
    · exact absurd h25 (by decide)
  · refine ti_iconst hx hb dX9_isLength_13 ?_
    refine lv_goto (tgt := 18) hx hb dX9_isLength_14 (by decide) ?_
    refine pf_X9_48 hx hb htw hown hK hW (by assumption) hS dX9_isLength_18 (fun H locs hW hS => ?_)
    refine lv_aload_n hx hb dX9_isLength_21 rfl (lv_at hl 0 rfl) ?_
    refine gf_X9_48 hx hb htw hown hK hW (by assumption) dX9_isLength_22 ?_
    rw [show mI (sI M o 0 0) o 0 = 0 from tm_up_s _ _ _ _]
    refine ti_if_ne (tgt := 32) hx hb dX9_isLength_25 (by decide) (by decide) (fun h25 => ?_) (fun h25 => ?_)
    · exact absurd rfl h25
    · refine ti_iconst hx hb dX9_isLength_28 ?_
      refine lv_goto (tgt := 33) hx hb dX9_isLength_29 (by decide) ?_
      exact tm_zret hx hb hr hlk (by first | exact Or.inl rfl | exact Or.inr rfl | assumption) hK hW hS ⟨(tl_b_t (tl_b_n.mp h10)), by rw [show tl_b (¬ (0 ≤ n ∧ n ≤ 80)) = 0 from (tl_b_f (fun q => q (tl_b_n.mp h10))).symm]⟩ dX9_isLength_33
theorem dX9_isTask_0 : decode cX9_isTask 0 = .ok (.aload_n 0, 1) := by decide +kernel
theorem dX9_isTask_1 : decode cX9_isTask 1 = .ok (.aload_n 0, 1) := by decide +kernel
theorem dX9_isTask_2 : decode cX9_isTask 2 = .ok (.getfield 159, 3) := by decide +kernel
theorem dX9_isTask_5 : decode cX9_isTask 5 = .ok (.ifCond .ne 7, 3) := by decide +kernel
theorem dX9_isTask_8 : decode cX9_isTask 8 = .ok (.iconst 1, 1) := by decide +kernel
theorem dX9_isTask_9 : decode cX9_isTask 9 = .ok (.goto 4, 3) := by decide +kernel
theorem dX9_isTask_12 : decode cX9_isTask 12 = .ok (.iconst 0, 1) := by decide +kernel
theorem dX9_isTask_13 : decode cX9_isTask 13 = .ok (.putfield 48, 3) := by decide +kernel
theorem dX9_isTask_16 : decode cX9_isTask 16 = .ok (.aload_n 0, 1) := by decide +kernel
theorem dX9_isTask_17 : decode cX9_isTask 17 = .ok (.getfield 48, 3) := by decide +kernel
theorem dX9_isTask_20 : decode cX9_isTask 20 = .ok (.ifCond .ne 7, 3) := by decide +kernel
theorem dX9_isTask_23 : decode cX9_isTask 23 = .ok (.iconst 1, 1) := by decide +kernel
theorem dX9_isTask_24 : decode cX9_isTask 24 = .ok (.goto 4, 3) := by decide +kernel
theorem dX9_isTask_27 : decode cX9_isTask 27 = .ok (.iconst 0, 1) := by decide +kernel
theorem dX9_isTask_28 : decode cX9_isTask 28 = .ok (.ireturn, 1) := by decide +kernel
set_option maxHeartbeats 4000000 in
set_option maxRecDepth 100000 in
/-- TutorLinesModel.isTask -/
theorem c_X9_isTask {l : Launch} {G : tm_G} {Hb : Heap} {sh : tm_sh} {M : tm_M} {o : Nat} (h0 : sh o = some (9, 0)) (hn : inI (mI M o 3)) : Met l yX9_isTask (tws yX9_isTask cX9_isTask 1 (some .boolean)) ({ frames := 0, cells := 0, slots := 0, locals := 0 }) (va_Pc [.ref o] (tm_St G Hb sh M)) (tm_Qi G Hb sh (fun r M1 => r = tl_b (¬ (mI M o 3 = 0)) ∧ M1 = sI M o 0 (tl_b (mI M o 3 = 0)))) 0 0 (tm_A Hb) := by
  refine tm_begin (by decide) (Nat.le_of_ble_eq_true rfl) (fun p e s m below meth c ls hx hb hr hml hown htw hlk hnm hK hW hl => ?_)
  have hS : va_S (tm_A Hb) s.heap s.heap [] := va_S.rf
  have hl : lv_has ls 1 [(0, .ref o)] := hl
  refine lv_aload_n hx hb dX9_isTask_0 rfl (lv_at hl 0 rfl) ?_
  refine lv_aload_n hx hb dX9_isTask_1 rfl (lv_at hl 0 rfl) ?_
  refine gf_X9_159 hx hb htw hown hK hW (by assumption) dX9_isTask_2 ?_
  refine ti_if_ne (tgt := 12) hx hb dX9_isTask_5 (by decide) hn (fun h5 => ?_) (fun h5 => ?_)
  · refine ti_iconst hx hb dX9_isTask_12 ?_
    refine pf_X9_48 hx hb htw hown hK hW (by assumption) hS dX9_isTask_13 (fun H locs hW hS => ?_)
    refine lv_aload_n hx hb dX9_isTask_16 rfl (lv_at hl 0 rfl) ?_
    refine gf_X9_48 hx hb htw hown hK hW (by assumption) dX9_isTask_17 ?_
    rw [show mI (sI M o 0 0) o 0 = 0 from tm_up_s _ _ _ _]
    refine ti_if_ne (tgt := 27) hx hb dX9_isTask_20 (by decide) (by decide) (fun h20 => ?_) (fun h20 => ?_)
    · exact absurd rfl h20
    · refine ti_iconst hx hb dX9_isTask_23 ?_
      refine lv_goto (tgt := 28) hx hb dX9_isTask_24 (by decide) ?_
      exact tm_zret hx hb hr hlk (by first | exact Or.inl rfl | exact Or.inr rfl | assumption) hK hW hS ⟨(tl_b_t h5), by rw [show tl_b (mI M o 3 = 0) = 0 from (tl_b_f h5).symm]⟩ dX9_isTask_28
  · refine ti_iconst hx hb dX9_isTask_8 ?_
    refine lv_goto (tgt := 13) hx hb dX9_isTask_9 (by decide) ?_
    refine pf_X9_48 hx hb htw hown hK hW (by assumption) hS dX9_isTask_13 (fun H locs hW hS => ?_)
    refine lv_aload_n hx hb dX9_isTask_16 rfl (lv_at hl 0 rfl) ?_
    refine gf_X9_48 hx hb htw hown hK hW (by assumption) dX9_isTask_17 ?_
    rw [show mI (sI M o 0 1) o 0 = 1 from tm_up_s _ _ _ _]
    refine ti_if_ne (tgt := 27) hx hb dX9_isTask_20 (by decide) (by decide) (fun h20 => ?_) (fun h20 => ?_)
    · refine ti_iconst hx hb dX9_isTask_27 ?_
      exact tm_zret hx hb hr hlk (by first | exact Or.inl rfl | exact Or.inr rfl | assumption) hK hW hS ⟨(tl_b_f (fun q => q h5)), by rw [show tl_b (mI M o 3 = 0) = 1 from (tl_b_t h5).symm]⟩ dX9_isTask_28
    · exact absurd h20 (by decide)
theorem dX9_slip_0 : decode cX9_slip 0 = .ok (.aload_n 0, 1) := by decide +kernel
theorem dX9_slip_1 : decode cX9_slip 1 = .ok (.iconst 0, 1) := by decide +kernel
theorem dX9_slip_2 : decode cX9_slip 2 = .ok (.putfield 48, 3) := by decide +kernel
theorem dX9_slip_5 : decode cX9_slip 5 = .ok (.aload_n 0, 1) := by decide +kernel
theorem dX9_slip_6 : decode cX9_slip 6 = .ok (.getfield 211, 3) := by decide +kernel
theorem dX9_slip_9 : decode cX9_slip 9 = .ok (.ifCond .eq 10, 3) := by decide +kernel
theorem dX9_slip_12 : decode cX9_slip 12 = .ok (.aload_n 0, 1) := by decide +kernel
theorem dX9_slip_13 : decode cX9_slip 13 = .ok (.getfield 223, 3) := by decide +kernel
theorem dX9_slip_16 : decode cX9_slip 16 = .ok (.goto 4, 3) := by decide +kernel
theorem dX9_slip_19 : decode cX9_slip 19 = .ok (.iconst 0, 1) := by decide +kernel
theorem dX9_slip_20 : decode cX9_slip 20 = .ok (.ireturn, 1) := by decide +kernel
set_option maxHeartbeats 4000000 in
set_option maxRecDepth 100000 in
/-- TutorLinesModel.slip -/
theorem c_X9_slip {l : Launch} {G : tm_G} {Hb : Heap} {sh : tm_sh} {M : tm_M} {o : Nat} {z : tl_Z} (hz : MLv sh M o z) (hI : ZI z) : Met l yX9_slip (tws yX9_slip cX9_slip 1 (some .int)) ({ frames := 0, cells := 0, slots := 0, locals := 0 }) (va_Pc [.ref o] (tm_St G Hb sh M)) (tm_Qi G Hb sh (fun x M1 => x = (if zr z = 1 then zs z else 0) ∧ MLp sh o M z M1)) 0 0 (tm_A Hb) := by
  refine tm_begin (by decide) (Nat.le_of_ble_eq_true rfl) (fun p e s m below meth c ls hx hb hr hml hown htw hlk hnm hK hW hl => ?_)
  have hS : va_S (tm_A Hb) s.heap s.heap [] := va_S.rf
  have hl : lv_has ls 1 [(0, .ref o)] := hl
  have h40 := hI.2.1
  obtain ⟨b0, ⟨t1, t2, t6, t7, t9, t12, t13, t14, t15, t16, t17, t24⟩, ⟨u1, u2, u3, u4, u5, u6, u7, u8, u9, u10, u11, u12⟩⟩ := hz.1
  have e3 := hz.2.2.1
  have hzr := hI.2.2.2.1
  refine lv_aload_n hx hb dX9_slip_0 rfl (lv_at hl 0 rfl) ?_
  refine ti_iconst hx hb dX9_slip_1 ?_
  refine pf_X9_48 hx hb htw hown hK hW (by assumption) hS dX9_slip_2 (fun H locs hW hS => ?_)
  refine lv_aload_n hx hb dX9_slip_5 rfl (lv_at hl 0 rfl) ?_
  refine gf_X9_211 hx hb htw hown hK hW (by assumption) dX9_slip_6 ?_
  rw [show mI (sI M o 0 0) o 4 = zr z from (tm_up_k _ _ (by decide)).trans hz.2.2.2.2.1]
  refine ti_if_eq (tgt := 19) hx hb dX9_slip_9 (by decide) (by omega) (fun h9 => ?_) (fun h9 => ?_)
  · refine ti_iconst hx hb dX9_slip_19 ?_
    exact tm_iret hx hb hr hlk hK hW hS ⟨by rw [if_neg (by omega)], MLp_m hz h40 fq_c0⟩ dX9_slip_20
  · refine lv_aload_n hx hb dX9_slip_12 rfl (lv_at hl 0 rfl) ?_
    refine gf_X9_223 hx hb htw hown hK hW (by assumption) dX9_slip_13 ?_
    rw [show mI (sI M o 0 0) o 5 = zs z from (tm_up_k _ _ (by decide)).trans (hz.2.2.2.2.2.1 (by omega)).1]
    refine lv_goto (tgt := 20) hx hb dX9_slip_16 (by decide) ?_
    exact tm_iret hx hb hr hlk hK hW hS ⟨by rw [if_pos (by omega)], MLp_m hz h40 fq_c0⟩ dX9_slip_20
theorem dX9_points_0 : decode cX9_points 0 = .ok (.aload_n 0, 1) := by decide +kernel
theorem dX9_points_1 : decode cX9_points 1 = .ok (.iload_n 1, 1) := by decide +kernel
theorem dX9_points_2 : decode cX9_points 2 = .ok (.i2l, 1) := by decide +kernel
theorem dX9_points_3 : decode cX9_points 3 = .ok (.lconst 1, 1) := by decide +kernel
theorem dX9_points_4 : decode cX9_points 4 = .ok (.ldc2_w 191, 3) := by decide +kernel
theorem dX9_points_7 : decode cX9_points 7 = .ok (.invokestatic 67, 3) := by decide +kernel
theorem dX9_points_10 : decode cX9_points 10 = .ok (.ifCond .eq 7, 3) := by decide +kernel
theorem dX9_points_13 : decode cX9_points 13 = .ok (.iconst 0, 1) := by decide +kernel
theorem dX9_points_14 : decode cX9_points 14 = .ok (.goto 4, 3) := by decide +kernel
theorem dX9_points_17 : decode cX9_points 17 = .ok (.iconst 1, 1) := by decide +kernel
theorem dX9_points_18 : decode cX9_points 18 = .ok (.putfield 48, 3) := by decide +kernel
theorem dX9_points_21 : decode cX9_points 21 = .ok (.aload_n 0, 1) := by decide +kernel
theorem dX9_points_22 : decode cX9_points 22 = .ok (.getfield 48, 3) := by decide +kernel
theorem dX9_points_25 : decode cX9_points 25 = .ok (.ifCond .le 7, 3) := by decide +kernel
theorem dX9_points_28 : decode cX9_points 28 = .ok (.iconst 0, 1) := by decide +kernel
theorem dX9_points_29 : decode cX9_points 29 = .ok (.goto 9, 3) := by decide +kernel
theorem dX9_points_32 : decode cX9_points 32 = .ok (.aload_n 0, 1) := by decide +kernel
theorem dX9_points_33 : decode cX9_points 33 = .ok (.getfield 20, 3) := by decide +kernel
theorem dX9_points_36 : decode cX9_points 36 = .ok (.iload_n 1, 1) := by decide +kernel
theorem dX9_points_37 : decode cX9_points 37 = .ok (.iaload, 1) := by decide +kernel
theorem dX9_points_38 : decode cX9_points 38 = .ok (.ireturn, 1) := by decide +kernel
set_option maxHeartbeats 4000000 in
set_option maxRecDepth 100000 in
/-- TutorLinesModel.points -/
theorem c_X9_points {l : Launch} {G : tm_G} {Hb : Heap} {sh : tm_sh} {M : tm_M} {o : Nat} {z : tl_Z} (hz : MLv sh M o z) (hI : ZI z) {w : Int} (hw : inI w) : Met l yX9_points (tws yX9_points cX9_points 2 (some .int)) ({ frames := 1, cells := 0, slots := 0, locals := 25 }) (va_Pc [.ref o, ji w] (tm_St G Hb sh M)) (tm_Qi G Hb sh (fun x M1 => mI M1 o 0 = tl_b (¬ (1 ≤ w ∧ w ≤ 3)) ∧ ((1 ≤ w ∧ w ≤ 3) → x = zp z w.toNat) ∧ MLp sh o M z M1)) 0 0 (tm_A Hb) := by
  refine tm_begin (by decide) (Nat.le_of_ble_eq_true rfl) (fun p e s m below meth c ls hx hb hr hml hown htw hlk hnm hK hW hl => ?_)
  have hS : va_S (tm_A Hb) s.heap s.heap [] := va_S.rf
  have hl : lv_has ls 2 [(0, .ref o), (1, ji w)] := hl
  have h40 := hI.2.1
  obtain ⟨b0, ⟨t1, t2, t6, t7, t9, t12, t13, t14, t15, t16, t17, t24⟩, ⟨u1, u2, u3, u4, u5, u6, u7, u8, u9, u10, u11, u12⟩⟩ := hz.1
  have e3 := hz.2.2.1
  refine lv_aload_n hx hb dX9_points_0 rfl (lv_at hl 0 rfl) ?_
  refine lv_iload_n hx hb dX9_points_1 rfl (lv_at hl 1 rfl) ?_
  refine ti_i2l hx hb dX9_points_2 hw ?_
  refine ti_lconst1 hx hb dX9_points_3 ?_
  refine lv_ldc2 hx hb hown (htw _ cl_X9_191) dX9_points_4 ?_
  refine tm_calli (cs_X9_67 hx hb hml hown htw hK hW (c_X9_in (by omega) (by decide) (by decide)) ⟨rfl, rfl, Nat.le_of_ble_eq_true rfl, Nat.le_of_ble_eq_true rfl⟩ hl.1 (Nat.le_of_ble_eq_true rfl) dX9_points_7 ⟨Nat.le_of_ble_eq_true rfl, Nat.le_of_ble_eq_true rfl⟩) hS (fun x7 M7 H locs hp7 hW hS => ?_)
  obtain ⟨ex7, eM7⟩ := hp7
  rw [eM7] at hW
  rw [ex7]
  refine ti_if_eq (tgt := 17) hx hb dX9_points_10 (by decide) (tl_b_r _) (fun h10 => ?_) (fun h10 => ?_)
  · refine ti_iconst hx hb dX9_points_17 ?_
    refine pf_X9_48 hx hb htw hown hK hW (by assumption) hS dX9_points_18 (fun H locs hW hS => ?_)
    refine lv_aload_n hx hb dX9_points_21 rfl (lv_at hl 0 rfl) ?_
    refine gf_X9_48 hx hb htw hown hK hW (by assumption) dX9_points_22 ?_
    rw [show mI (sI M o 0 1) o 0 = 1 from tm_up_s _ _ _ _]
    refine ti_if_le (tgt := 32) hx hb dX9_points_25 (by decide) (by decide) (fun h25 => ?_) (fun h25 => ?_)
    · exact absurd h25 (by decide)
    · refine ti_iconst hx hb dX9_points_28 ?_
      refine lv_goto (tgt := 38) hx hb dX9_points_29 (by decide) ?_
      exact tm_iret hx hb hr hlk hK hW hS ⟨(tm_up_s _ _ _ _).trans (tl_b_t (tl_b_0.mp h10)), fun q => absurd q (tl_b_0.mp h10), MLp_m hz h40 fq_c0⟩ dX9_points_38
  · refine ti_iconst hx hb dX9_points_13 ?_
    refine lv_goto (tgt := 18) hx hb dX9_points_14 (by decide) ?_
    refine pf_X9_48 hx hb htw hown hK hW (by assumption) hS dX9_points_18 (fun H locs hW hS => ?_)
    refine lv_aload_n hx hb dX9_points_21 rfl (lv_at hl 0 rfl) ?_
    refine gf_X9_48 hx hb htw hown hK hW (by assumption) dX9_points_22 ?_
    rw [show mI (sI M o 0 0) o 0 = 0 from tm_up_s _ _ _ _]
    refine ti_if_le (tgt := 32) hx hb dX9_points_25 (by decide) (by decide) (fun h25 => ?_) (fun h25 => ?_)
    · refine lv_aload_n hx hb dX9_points_32 rfl (lv_at hl 0 rfl) ?_
      refine gf_X9_20 hx hb htw hown hK hW (by assumption) (by assumption) dX9_points_33 ?_
      refine lv_iload_n hx hb dX9_points_36 rfl (lv_at hl 1 rfl) ?_
      refine tm_iald hx hb hK hW (by assumption) (by have := tl_b_n.mp h10; omega) (by have := tl_b_n.mp h10; omega) (by decide) dX9_points_37 ?_
      exact tm_iret hx hb hr hlk hK hW hS ⟨(tm_up_s _ _ _ _).trans (tl_b_f (fun q => q (tl_b_n.mp h10))), fun q => (tm_up_a _ _ (by omega)).trans (hz.2.2.2.2.2.2.1 w.toNat (by omega) (by omega)), MLp_m hz h40 fq_c0⟩ dX9_points_38
    · exact absurd (show (0 : Int) ≤ 0 by decide) h25
theorem tl_lnr {M : tm_M} {o i : Nat} {w : Int} (h : 0 ≤ w ∧ w ≤ 8) : mL M (o + 2) (9 * i + w.toNat) = tl_lnat (rl M o i) w := by
  have e : w = 0 ∨ w = 1 ∨ w = 2 ∨ w = 3 ∨ w = 4 ∨ w = 5 ∨ w = 6 ∨ w = 7 ∨ w = 8 := by omega
  rcases e with rfl | rfl | rfl | rfl | rfl | rfl | rfl | rfl | rfl <;> rfl
theorem tl_lnI {v : tl_L} {w : Int} (h : lok v) : inI (tl_lnat v w) := by
  obtain ⟨⟨⟨a1, a2, a3, a4⟩, b1, b2, b3, b4⟩, ⟨⟨c1, c2, c3, c4⟩, d1, d2, d3, d4⟩, e1, e2⟩ := h
  unfold tl_lnat
  repeat' split
  all_goals omega
theorem dX9_line_0 : decode cX9_line 0 = .ok (.aload_n 0, 1) := by decide +kernel
theorem dX9_line_1 : decode cX9_line 1 = .ok (.iload_n 1, 1) := by decide +kernel
theorem dX9_line_2 : decode cX9_line 2 = .ok (.i2l, 1) := by decide +kernel
theorem dX9_line_3 : decode cX9_line 3 = .ok (.lconst 0, 1) := by decide +kernel
theorem dX9_line_4 : decode cX9_line 4 = .ok (.ldc2_w 234, 3) := by decide +kernel
theorem dX9_line_7 : decode cX9_line 7 = .ok (.invokestatic 67, 3) := by decide +kernel
theorem dX9_line_10 : decode cX9_line 10 = .ok (.ifCond .ne 7, 3) := by decide +kernel
theorem dX9_line_13 : decode cX9_line 13 = .ok (.iconst 1, 1) := by decide +kernel
theorem dX9_line_14 : decode cX9_line 14 = .ok (.goto 15, 3) := by decide +kernel
theorem dX9_line_17 : decode cX9_line 17 = .ok (.aload_n 0, 1) := by decide +kernel
theorem dX9_line_18 : decode cX9_line 18 = .ok (.getfield 159, 3) := by decide +kernel
theorem dX9_line_21 : decode cX9_line 21 = .ok (.ifCond .ne 7, 3) := by decide +kernel
theorem dX9_line_24 : decode cX9_line 24 = .ok (.iconst 2, 1) := by decide +kernel
theorem dX9_line_25 : decode cX9_line 25 = .ok (.goto 4, 3) := by decide +kernel
theorem dX9_line_28 : decode cX9_line 28 = .ok (.iconst 0, 1) := by decide +kernel
theorem dX9_line_29 : decode cX9_line 29 = .ok (.putfield 48, 3) := by decide +kernel
theorem dX9_line_32 : decode cX9_line 32 = .ok (.aload_n 0, 1) := by decide +kernel
theorem dX9_line_33 : decode cX9_line 33 = .ok (.getfield 48, 3) := by decide +kernel
theorem dX9_line_36 : decode cX9_line 36 = .ok (.ifCond .le 7, 3) := by decide +kernel
theorem dX9_line_39 : decode cX9_line 39 = .ok (.iconst 0, 1) := by decide +kernel
theorem dX9_line_40 : decode cX9_line 40 = .ok (.goto 18, 3) := by decide +kernel
theorem dX9_line_43 : decode cX9_line 43 = .ok (.aload_n 0, 1) := by decide +kernel
theorem dX9_line_44 : decode cX9_line 44 = .ok (.getfield 13, 3) := by decide +kernel
theorem dX9_line_47 : decode cX9_line 47 = .ok (.bipush 9, 2) := by decide +kernel
theorem dX9_line_49 : decode cX9_line 49 = .ok (.aload_n 0, 1) := by decide +kernel
theorem dX9_line_50 : decode cX9_line 50 = .ok (.invokevirtual 166, 3) := by decide +kernel
theorem dX9_line_53 : decode cX9_line 53 = .ok (.imul, 1) := by decide +kernel
theorem dX9_line_54 : decode cX9_line 54 = .ok (.iload_n 1, 1) := by decide +kernel
theorem dX9_line_55 : decode cX9_line 55 = .ok (.iadd, 1) := by decide +kernel
theorem dX9_line_56 : decode cX9_line 56 = .ok (.laload, 1) := by decide +kernel
theorem dX9_line_57 : decode cX9_line 57 = .ok (.l2i, 1) := by decide +kernel
theorem dX9_line_58 : decode cX9_line 58 = .ok (.ireturn, 1) := by decide +kernel
set_option maxHeartbeats 4000000 in
set_option maxRecDepth 100000 in
/-- TutorLinesModel.line -/
theorem c_X9_line {l : Launch} {G : tm_G} {Hb : Heap} {sh : tm_sh} {M : tm_M} {o : Nat} {z : tl_Z} (hz : MLv sh M o z) (hI : ZI z) {w : Int} (hw : inI w) : Met l yX9_line (tws yX9_line cX9_line 2 (some .int)) ({ frames := 1, cells := 0, slots := 0, locals := 25 }) (va_Pc [.ref o, ji w] (tm_St G Hb sh M)) (tm_Qi G Hb sh (fun x M1 => mI M1 o 0 = (if ¬ (0 ≤ w ∧ w ≤ 8) then 1 else if zn z = 0 then 2 else 0) ∧ ((0 ≤ w ∧ w ≤ 8) → 0 < zn z → x = tl_lnat (zl z (zn z - 1)) w) ∧ MLp sh o M z M1)) 0 0 (tm_A Hb) := by
  refine tm_begin (by decide) (Nat.le_of_ble_eq_true rfl) (fun p e s m below meth c ls hx hb hr hml hown htw hlk hnm hK hW hl => ?_)
  have hS : va_S (tm_A Hb) s.heap s.heap [] := va_S.rf
  have hl : lv_has ls 2 [(0, .ref o), (1, ji w)] := hl
  have h40 := hI.2.1
  obtain ⟨b0, ⟨t1, t2, t6, t7, t9, t12, t13, t14, t15, t16, t17, t24⟩, ⟨u1, u2, u3, u4, u5, u6, u7, u8, u9, u10, u11, u12⟩⟩ := hz.1
  have e3 := hz.2.2.1
  refine lv_aload_n hx hb dX9_line_0 rfl (lv_at hl 0 rfl) ?_
  refine lv_iload_n hx hb dX9_line_1 rfl (lv_at hl 1 rfl) ?_
  refine ti_i2l hx hb dX9_line_2 hw ?_
  refine ti_lconst0 hx hb dX9_line_3 ?_
  refine lv_ldc2 hx hb hown (htw _ cl_X9_234) dX9_line_4 ?_
  refine tm_calli (cs_X9_67 hx hb hml hown htw hK hW (c_X9_in (by omega) (by decide) (by decide)) ⟨rfl, rfl, Nat.le_of_ble_eq_true rfl, Nat.le_of_ble_eq_true rfl⟩ hl.1 (Nat.le_of_ble_eq_true rfl) dX9_line_7 ⟨Nat.le_of_ble_eq_true rfl, Nat.le_of_ble_eq_true rfl⟩) hS (fun x7 M7 H locs hp7 hW hS => ?_)
  obtain ⟨ex7, eM7⟩ := hp7
  rw [eM7] at hW
  rw [ex7]
  refine ti_if_ne (tgt := 17) hx hb dX9_line_10 (by decide) (tl_b_r _) (fun h10 => ?_) (fun h10 => ?_)
  · refine lv_aload_n hx hb dX9_line_17 rfl (lv_at hl 0 rfl) ?_
    refine gf_X9_159 hx hb htw hown hK hW (by assumption) dX9_line_18 ?_
    refine ti_if_ne (tgt := 28) hx hb dX9_line_21 (by decide) (by omega) (fun h21 => ?_) (fun h21 => ?_)
    · refine ti_iconst hx hb dX9_line_28 ?_
      refine pf_X9_48 hx hb htw hown hK hW (by assumption) hS dX9_line_29 (fun H locs hW hS => ?_)
      refine lv_aload_n hx hb dX9_line_32 rfl (lv_at hl 0 rfl) ?_
      refine gf_X9_48 hx hb htw hown hK hW (by assumption) dX9_line_33 ?_
      rw [show mI (sI M o 0 0) o 0 = 0 from tm_up_s _ _ _ _]
      refine ti_if_le (tgt := 43) hx hb dX9_line_36 (by decide) (by decide) (fun h36 => ?_) (fun h36 => ?_)
      · refine lv_aload_n hx hb dX9_line_43 rfl (lv_at hl 0 rfl) ?_
        refine gf_X9_13 hx hb htw hown hK hW (by assumption) (by assumption) dX9_line_44 ?_
        refine ti_bipush hx hb dX9_line_47 (by decide) ?_
        refine lv_aload_n hx hb dX9_line_49 rfl (lv_at hl 0 rfl) ?_
        refine tm_calli (cs_X9_166 hx hb hml hown htw hK hW (by assumption) (c_X9_last (moN_m (MLv_N hz h40 (by omega)) (fq_c0 (v := 0)) (by unfold mX; omega))) ⟨rfl, rfl, Nat.le_of_ble_eq_true rfl, Nat.le_of_ble_eq_true rfl⟩ hl.1 (Nat.le_of_ble_eq_true rfl) dX9_line_50 ⟨Nat.le_of_ble_eq_true rfl, Nat.le_of_ble_eq_true rfl⟩) hS (fun x50 M50 H locs hp50 hW hS => ?_)
        obtain ⟨ex50, eM50⟩ := hp50
        rw [eM50] at hW
        rw [ex50]
        have hw8 := tl_b_n.mp h10
        have eR : mL (sI M o 0 0) (o + 2) (9 * ((zn z - 1 : Nat) : Int) + w).toNat = tl_lnat (zl z (zn z - 1)) w := by rw [show (9 * ((zn z - 1 : Nat) : Int) + w).toNat = 9 * (zn z - 1) + w.toNat by omega]; exact (tl_lnr hw8).trans (by rw [← MLv_l hz (by omega)])
        refine ti_imul hx hb dX9_line_53 ?_
        refine lv_iload_n hx hb dX9_line_54 rfl (lv_at hl 1 rfl) ?_
        refine ti_iadd hx hb dX9_line_55 ?_
        refine tm_lald hx hb hK hW (by assumption) (by omega) (by omega) (by decide) dX9_line_56 ?_
        refine ti_l2i hx hb dX9_line_57 (by rw [eR]; exact tl_lnI (ZI_l hI (by omega)).1) ?_
        exact tm_iret hx hb hr hlk hK hW hS ⟨(tm_up_s _ _ _ _).trans (by rw [if_neg (fun q => q (tl_b_n.mp h10)), if_neg (by omega)]), fun _ _ => eR, MLp_m hz h40 fq_c0⟩ dX9_line_58
      · exact absurd (show (0 : Int) ≤ 0 by decide) h36
    · refine ti_iconst hx hb dX9_line_24 ?_
      refine lv_goto (tgt := 29) hx hb dX9_line_25 (by decide) ?_
      refine pf_X9_48 hx hb htw hown hK hW (by assumption) hS dX9_line_29 (fun H locs hW hS => ?_)
      refine lv_aload_n hx hb dX9_line_32 rfl (lv_at hl 0 rfl) ?_
      refine gf_X9_48 hx hb htw hown hK hW (by assumption) dX9_line_33 ?_
      rw [show mI (sI M o 0 2) o 0 = 2 from tm_up_s _ _ _ _]
      refine ti_if_le (tgt := 43) hx hb dX9_line_36 (by decide) (by decide) (fun h36 => ?_) (fun h36 => ?_)
      · exact absurd h36 (by decide)
      · refine ti_iconst hx hb dX9_line_39 ?_
        refine lv_goto (tgt := 58) hx hb dX9_line_40 (by decide) ?_
        exact tm_iret hx hb hr hlk hK hW hS ⟨(tm_up_s _ _ _ _).trans (by rw [if_neg (fun q => q (tl_b_n.mp h10)), if_pos (by omega)]), fun _ q => absurd q (by omega), MLp_m hz h40 fq_c0⟩ dX9_line_58
  · refine ti_iconst hx hb dX9_line_13 ?_
    refine lv_goto (tgt := 29) hx hb dX9_line_14 (by decide) ?_
    refine pf_X9_48 hx hb htw hown hK hW (by assumption) hS dX9_line_29 (fun H locs hW hS => ?_)
    refine lv_aload_n hx hb dX9_line_32 rfl (lv_at hl 0 rfl) ?_
    refine gf_X9_48 hx hb htw hown hK hW (by assumption) dX9_line_33 ?_
    rw [show mI (sI M o 0 1) o 0 = 1 from tm_up_s _ _ _ _]
    refine ti_if_le (tgt := 43) hx hb dX9_line_36 (by decide) (by decide) (fun h36 => ?_) (fun h36 => ?_)
    · exact absurd h36 (by decide)
    · refine ti_iconst hx hb dX9_line_39 ?_
      refine lv_goto (tgt := 58) hx hb dX9_line_40 (by decide) ?_
      exact tm_iret hx hb hr hlk hK hW hS ⟨(tm_up_s _ _ _ _).trans (if_pos (tl_b_0.mp h10)).symm, fun q => absurd q (tl_b_0.mp h10), MLp_m hz h40 fq_c0⟩ dX9_line_58
theorem tl_cn0 {z : tl_Z} : tl_cnt z 0 = zn z := if_pos rfl
theorem tl_cnN {z : tl_Z} {w : Int} (h0 : ¬ w = 0) (h : ¬ (1 ≤ w ∧ w ≤ 3)) : tl_cnt z w = -1 := by
  unfold tl_cnt
  rw [if_neg h0, if_neg (by omega), if_neg (by omega), if_neg (by omega)]
theorem tl_cnA {sh : tm_sh} {M : tm_M} {o : Nat} {z : tl_Z} {w : Int} (hz : MLv sh M o z) (h : 1 ≤ w ∧ w ≤ 3) : mI M (o + 3) w.toNat = tl_cnt z w := by
  obtain ⟨-, -, -, -, -, -, -, h8, h9, h10⟩ := hz
  have e : w = 1 ∨ w = 2 ∨ w = 3 := by omega
  rcases e with rfl | rfl | rfl
  · exact h8
  · exact h9
  · exact h10
theorem dX9_count_0 : decode cX9_count 0 = .ok (.aload_n 0, 1) := by decide +kernel
theorem dX9_count_1 : decode cX9_count 1 = .ok (.iconst 0, 1) := by decide +kernel
theorem dX9_count_2 : decode cX9_count 2 = .ok (.putfield 48, 3) := by decide +kernel
theorem dX9_count_5 : decode cX9_count 5 = .ok (.iload_n 1, 1) := by decide +kernel
theorem dX9_count_6 : decode cX9_count 6 = .ok (.ifCond .ne 10, 3) := by decide +kernel
theorem dX9_count_9 : decode cX9_count 9 = .ok (.aload_n 0, 1) := by decide +kernel
theorem dX9_count_10 : decode cX9_count 10 = .ok (.getfield 159, 3) := by decide +kernel
theorem dX9_count_13 : decode cX9_count 13 = .ok (.goto 25, 3) := by decide +kernel
theorem dX9_count_16 : decode cX9_count 16 = .ok (.iload_n 1, 1) := by decide +kernel
theorem dX9_count_17 : decode cX9_count 17 = .ok (.i2l, 1) := by decide +kernel
theorem dX9_count_18 : decode cX9_count 18 = .ok (.lconst 1, 1) := by decide +kernel
theorem dX9_count_19 : decode cX9_count 19 = .ok (.ldc2_w 191, 3) := by decide +kernel
theorem dX9_count_22 : decode cX9_count 22 = .ok (.invokestatic 67, 3) := by decide +kernel
theorem dX9_count_25 : decode cX9_count 25 = .ok (.ifCond .eq 12, 3) := by decide +kernel
theorem dX9_count_28 : decode cX9_count 28 = .ok (.aload_n 0, 1) := by decide +kernel
theorem dX9_count_29 : decode cX9_count 29 = .ok (.getfield 17, 3) := by decide +kernel
theorem dX9_count_32 : decode cX9_count 32 = .ok (.iload_n 1, 1) := by decide +kernel
theorem dX9_count_33 : decode cX9_count 33 = .ok (.iaload, 1) := by decide +kernel
theorem dX9_count_34 : decode cX9_count 34 = .ok (.goto 4, 3) := by decide +kernel
theorem dX9_count_37 : decode cX9_count 37 = .ok (.iconst (-1), 1) := by decide +kernel
theorem dX9_count_38 : decode cX9_count 38 = .ok (.ireturn, 1) := by decide +kernel
set_option maxHeartbeats 4000000 in
set_option maxRecDepth 100000 in
/-- TutorLinesModel.count -/
theorem c_X9_count {l : Launch} {G : tm_G} {Hb : Heap} {sh : tm_sh} {M : tm_M} {o : Nat} {z : tl_Z} (hz : MLv sh M o z) (hI : ZI z) {w : Int} (hw : inI w) : Met l yX9_count (tws yX9_count cX9_count 2 (some .int)) ({ frames := 1, cells := 0, slots := 0, locals := 25 }) (va_Pc [.ref o, ji w] (tm_St G Hb sh M)) (tm_Qi G Hb sh (fun x M1 => x = tl_cnt z w ∧ MLp sh o M z M1)) 0 0 (tm_A Hb) := by
  refine tm_begin (by decide) (Nat.le_of_ble_eq_true rfl) (fun p e s m below meth c ls hx hb hr hml hown htw hlk hnm hK hW hl => ?_)
  have hS : va_S (tm_A Hb) s.heap s.heap [] := va_S.rf
  have hl : lv_has ls 2 [(0, .ref o), (1, ji w)] := hl
  have h40 := hI.2.1
  obtain ⟨b0, ⟨t1, t2, t6, t7, t9, t12, t13, t14, t15, t16, t17, t24⟩, ⟨u1, u2, u3, u4, u5, u6, u7, u8, u9, u10, u11, u12⟩⟩ := hz.1
  have e3 := hz.2.2.1
  refine lv_aload_n hx hb dX9_count_0 rfl (lv_at hl 0 rfl) ?_
  refine ti_iconst hx hb dX9_count_1 ?_
  refine pf_X9_48 hx hb htw hown hK hW (by assumption) hS dX9_count_2 (fun H locs hW hS => ?_)
  refine lv_iload_n hx hb dX9_count_5 rfl (lv_at hl 1 rfl) ?_
  refine ti_if_ne (tgt := 16) hx hb dX9_count_6 (by decide) hw (fun h6 => ?_) (fun h6 => ?_)
  · refine lv_iload_n hx hb dX9_count_16 rfl (lv_at hl 1 rfl) ?_
    refine ti_i2l hx hb dX9_count_17 hw ?_
    refine ti_lconst1 hx hb dX9_count_18 ?_
    refine lv_ldc2 hx hb hown (htw _ cl_X9_191) dX9_count_19 ?_
    refine tm_calli (cs_X9_67 hx hb hml hown htw hK hW (c_X9_in (by omega) (by decide) (by decide)) ⟨rfl, rfl, Nat.le_of_ble_eq_true rfl, Nat.le_of_ble_eq_true rfl⟩ hl.1 (Nat.le_of_ble_eq_true rfl) dX9_count_22 ⟨Nat.le_of_ble_eq_true rfl, Nat.le_of_ble_eq_true rfl⟩) hS (fun x22 M22 H locs hp22 hW hS => ?_)
    obtain ⟨ex22, eM22⟩ := hp22
    rw [eM22] at hW
    rw [ex22]
    refine ti_if_eq (tgt := 37) hx hb dX9_count_25 (by decide) (tl_b_r _) (fun h25 => ?_) (fun h25 => ?_)
    · refine ti_iconst hx hb dX9_count_37 ?_
      exact tm_iret hx hb hr hlk hK hW hS ⟨(tl_cnN h6 (tl_b_0.mp h25)).symm, MLp_m hz h40 fq_c0⟩ dX9_count_38
    · refine lv_aload_n hx hb dX9_count_28 rfl (lv_at hl 0 rfl) ?_
      refine gf_X9_17 hx hb htw hown hK hW (by assumption) (by assumption) dX9_count_29 ?_
      refine lv_iload_n hx hb dX9_count_32 rfl (lv_at hl 1 rfl) ?_
      refine tm_iald hx hb hK hW (by assumption) (by have := tl_b_n.mp h25; omega) (by have := tl_b_n.mp h25; omega) (by decide) dX9_count_33 ?_
      refine lv_goto (tgt := 38) hx hb dX9_count_34 (by decide) ?_
      exact tm_iret hx hb hr hlk hK hW hS ⟨(tm_up_a _ _ (by omega)).trans (tl_cnA hz (tl_b_n.mp h25)), MLp_m hz h40 fq_c0⟩ dX9_count_38
  · refine lv_aload_n hx hb dX9_count_9 rfl (lv_at hl 0 rfl) ?_
    refine gf_X9_159 hx hb htw hown hK hW (by assumption) dX9_count_10 ?_
    refine lv_goto (tgt := 38) hx hb dX9_count_13 (by decide) ?_
    exact tm_iret hx hb hr hlk hK hW hS ⟨by rw [h6, tl_cn0]; exact (tm_up_k _ _ (by decide)).trans e3, MLp_m hz h40 fq_c0⟩ dX9_count_38
theorem dX9_put_0 : decode cX9_put 0 = .ok (.aload_n 0, 1) := by decide +kernel
theorem dX9_put_1 : decode cX9_put 1 = .ok (.iload_n 1, 1) := by decide +kernel
theorem dX9_put_2 : decode cX9_put 2 = .ok (.i2l, 1) := by decide +kernel
theorem dX9_put_3 : decode cX9_put 3 = .ok (.lconst 0, 1) := by decide +kernel
theorem dX9_put_4 : decode cX9_put 4 = .ok (.ldc2_w 71, 3) := by decide +kernel
theorem dX9_put_7 : decode cX9_put 7 = .ok (.invokestatic 67, 3) := by decide +kernel
theorem dX9_put_10 : decode cX9_put 10 = .ok (.ifCond .eq 7, 3) := by decide +kernel
theorem dX9_put_13 : decode cX9_put 13 = .ok (.iconst 0, 1) := by decide +kernel
theorem dX9_put_14 : decode cX9_put 14 = .ok (.goto 4, 3) := by decide +kernel
theorem dX9_put_17 : decode cX9_put 17 = .ok (.iconst 1, 1) := by decide +kernel
theorem dX9_put_18 : decode cX9_put 18 = .ok (.putfield 48, 3) := by decide +kernel
theorem dX9_put_21 : decode cX9_put 21 = .ok (.iconst 0, 1) := by decide +kernel
theorem dX9_put_22 : decode cX9_put 22 = .ok (.istore_n 3, 1) := by decide +kernel
theorem dX9_put_23 : decode cX9_put 23 = .ok (.iload_n 3, 1) := by decide +kernel
theorem dX9_put_24 : decode cX9_put 24 = .ok (.iconst 4, 1) := by decide +kernel
theorem dX9_put_25 : decode cX9_put 25 = .ok (.if_icmp .ge 42, 3) := by decide +kernel
theorem dX9_put_28 : decode cX9_put 28 = .ok (.aload_n 0, 1) := by decide +kernel
theorem dX9_put_29 : decode cX9_put 29 = .ok (.getfield 48, 3) := by decide +kernel
theorem dX9_put_32 : decode cX9_put 32 = .ok (.ifCond .ne 35, 3) := by decide +kernel
theorem dX9_put_35 : decode cX9_put 35 = .ok (.iload_n 1, 1) := by decide +kernel
theorem dX9_put_36 : decode cX9_put 36 = .ok (.iload_n 3, 1) := by decide +kernel
theorem dX9_put_37 : decode cX9_put 37 = .ok (.iadd, 1) := by decide +kernel
theorem dX9_put_38 : decode cX9_put 38 = .ok (.bipush 80, 2) := by decide +kernel
theorem dX9_put_40 : decode cX9_put 40 = .ok (.if_icmp .ge 27, 3) := by decide +kernel
theorem dX9_put_43 : decode cX9_put 43 = .ok (.aload_n 0, 1) := by decide +kernel
theorem dX9_put_44 : decode cX9_put 44 = .ok (.getfield 7, 3) := by decide +kernel
theorem dX9_put_47 : decode cX9_put 47 = .ok (.iload_n 1, 1) := by decide +kernel
theorem dX9_put_48 : decode cX9_put 48 = .ok (.iload_n 3, 1) := by decide +kernel
theorem dX9_put_49 : decode cX9_put 49 = .ok (.iadd, 1) := by decide +kernel
theorem dX9_put_50 : decode cX9_put 50 = .ok (.iload_n 2, 1) := by decide +kernel
theorem dX9_put_51 : decode cX9_put 51 = .ok (.bipush 8, 2) := by decide +kernel
theorem dX9_put_53 : decode cX9_put 53 = .ok (.iload_n 3, 1) := by decide +kernel
theorem dX9_put_54 : decode cX9_put 54 = .ok (.imul, 1) := by decide +kernel
theorem dX9_put_55 : decode cX9_put 55 = .ok (.ishr, 1) := by decide +kernel
theorem dX9_put_56 : decode cX9_put 56 = .ok (.sipush 255, 3) := by decide +kernel
theorem dX9_put_59 : decode cX9_put 59 = .ok (.iand, 1) := by decide +kernel
theorem dX9_put_60 : decode cX9_put 60 = .ok (.iastore, 1) := by decide +kernel
theorem dX9_put_61 : decode cX9_put 61 = .ok (.iinc 3 1, 3) := by decide +kernel
theorem dX9_put_64 : decode cX9_put 64 = .ok (.goto (-41), 3) := by decide +kernel
theorem dX9_put_67 : decode cX9_put 67 = .ok (.return_, 1) := by decide +kernel
theorem ML_tx {sh : tm_sh} {M : tm_M} {o : Nat} {z : tl_Z} {j : Nat} {b : Int} (h : MLv sh M o z) : MLp sh o M (ztx z j b) (sI M (o + 1) j b) := by
  obtain ⟨h1, h2, h3, h4, h5, h6, h7, h8, h9, h10⟩ := h
  refine ⟨⟨isMo_m h1 rfl, fun i => ?_, (tm_up_a _ _ (by omega)).trans h3, h4, (tm_up_a _ _ (by omega)).trans h5, fun q => ⟨(tm_up_a _ _ (by omega)).trans (h6 q).1, (h6 q).2⟩, fun k k1 k2 => (tm_up_a _ _ (by omega)).trans (h7 k k1 k2), (tm_up_a _ _ (by omega)).trans h8, (tm_up_a _ _ (by omega)).trans h9, (tm_up_a _ _ (by omega)).trans h10⟩, fq_sI (Or.inr ⟨by omega, by omega, by omega⟩)⟩
  show mI (sI M (o + 1) j b) (o + 1) i = tl_up (zt z) j b i
  by_cases e : i = j
  · subst e
    rw [tl_up_s]
    exact tm_up_s _ _ _ _
  · rw [tl_up_n _ _ e]
    exact (tm_up_k _ _ e).trans (h2 i)
theorem MLp_tr {sh : tm_sh} {M M1 M2 : tm_M} {o : Nat} {z z1 : tl_Z} (h : MLp sh o M z M1) (g : MLp sh o M1 z1 M2) : MLp sh o M z1 M2 := ⟨g.1, fq_tr h.2 g.2⟩
set_option maxHeartbeats 4000000 in
set_option maxRecDepth 100000 in
/-- TutorLinesModel.put -/
theorem c_X9_put {l : Launch} {G : tm_G} {Hb : Heap} {sh : tm_sh} {M : tm_M} {o : Nat} {z : tl_Z} (hz : MLv sh M o z) (hI : ZI z) {i v : Int} (hi : inI i) (hv : inI v) : Met l yX9_put (tws yX9_put cX9_put 4 none) ({ frames := 1, cells := 0, slots := 0, locals := 25 }) (va_Pc [.ref o, ji i, ji v] (tm_St G Hb sh M)) (tm_Qv G Hb sh (fun M1 => mI M1 o 0 = tl_b (¬ (0 ≤ i ∧ i ≤ 79)) ∧ (¬ (0 ≤ i ∧ i ≤ 79) → MLp sh o M z M1) ∧ ((0 ≤ i ∧ i ≤ 79) → MLp sh o M (zputk z i v 4) M1))) 0 0 (tm_A Hb) := by
  refine tm_begin (by decide) (Nat.le_of_ble_eq_true rfl) (fun p e s m below meth c ls hx hb hr hml hown htw hlk hnm hK hW hl => ?_)
  have hS : va_S (tm_A Hb) s.heap s.heap [] := va_S.rf
  have hl : lv_has ls 4 [(0, .ref o), (1, ji i), (2, ji v)] := hl
  have h40 := hI.2.1
  obtain ⟨b0, ⟨t1, t2, t6, t7, t9, t12, t13, t14, t15, t16, t17, t24⟩, ⟨u1, u2, u3, u4, u5, u6, u7, u8, u9, u10, u11, u12⟩⟩ := hz.1
  have e3 := hz.2.2.1
  have loop : ∀ (j k : Nat) (M1 : tm_M) (H : Heap) (locs : List Loc) (ls : Array Slot), k + j = 4 → (0 ≤ i ∧ i ≤ 79) → mI M1 o 0 = 0 → MLp sh o M (zputk z i v k) M1 → tm_W G Hb sh M1 H → va_S (tm_A Hb) s.heap H locs → lv_has ls 4 [(0, .ref o), (1, ji i), (2, ji v), (3, ji (k : Nat))] → W p l e ({ frames := 1, cells := 0, slots := 0, locals := 25 }) s m [.ref o, ji i, ji v].toArray below meth c H locs 0 0 (MQ below (tm_Qv G Hb sh (fun M1 => mI M1 o 0 = tl_b (¬ (0 ≤ i ∧ i ≤ 79)) ∧ (¬ (0 ≤ i ∧ i ≤ 79) → MLp sh o M z M1) ∧ ((0 ≤ i ∧ i ≤ 79) → MLp sh o M (zputk z i v 4) M1))) [.ref o, ji i, ji v].toArray s 0 0 (tm_A Hb)) (F0 m 23 ls []) := by
    intro j
    induction j with
    | zero =>
      intro k M1 H locs ls hk hin h00 hP hW hS hl
      refine lv_iload_n hx hb dX9_put_23 rfl (lv_at hl 3 rfl) ?_
      refine ti_iconst hx hb dX9_put_24 ?_
      refine ti_icmp_ge (tgt := 67) hx hb dX9_put_25 (by decide) (by omega) (by decide) (fun h25 => ?_) (fun h25 => ?_)
      · exact tm_vret hx hb hr hlk hK hW hS ⟨h00.trans (tl_b_f (fun q => q hin)), fun q => absurd hin q, fun _ => by rw [show k = 4 by omega] at hP; exact hP⟩ dX9_put_67
      · exact absurd (show (4 : Int) ≤ (k : Int) by omega) h25
    | succ j ih =>
      intro k M1 H locs ls hk hin h00 hP hW hS hl
      obtain ⟨b0a, ⟨t1a, t2a, t6a, t7a, t9a, t12a, t13a, t14a, t15a, t16a, t17a, t24a⟩, ⟨u1a, u2a, u3a, u4a, u5a, u6a, u7a, u8a, u9a, u10a, u11a, u12a⟩⟩ := hP.1.1
      refine lv_iload_n hx hb dX9_put_23 rfl (lv_at hl 3 rfl) ?_
      refine ti_iconst hx hb dX9_put_24 ?_
      refine ti_icmp_ge (tgt := 67) hx hb dX9_put_25 (by decide) (by omega) (by decide) (fun h25 => ?_) (fun h25 => ?_)
      · exact absurd h25 (by omega)
      · refine lv_aload_n hx hb dX9_put_28 rfl (lv_at hl 0 rfl) ?_
        refine gf_X9_48 hx hb htw hown hK hW (by assumption) dX9_put_29 ?_
        refine ti_if_ne (tgt := 67) hx hb dX9_put_32 (by decide) (by rw [h00]; decide) (fun h32 => ?_) (fun h32 => ?_)
        · exact absurd h00 h32
        · refine lv_iload_n hx hb dX9_put_35 rfl (lv_at hl 1 rfl) ?_
          refine lv_iload_n hx hb dX9_put_36 rfl (lv_at hl 3 rfl) ?_
          refine ti_iadd hx hb dX9_put_37 ?_
          refine ti_bipush hx hb dX9_put_38 (by decide) ?_
          refine ti_icmp_ge (tgt := 67) hx hb dX9_put_40 (by decide) (by omega) (by decide) (fun h40 => ?_) (fun h40 => ?_)
          · exact tm_vret hx hb hr hlk hK hW hS ⟨h00.trans (tl_b_f (fun q => q hin)), fun q => absurd hin q, fun _ => by rw [← zputk_e (k := k) (by omega) (by omega)]; exact hP⟩ dX9_put_67
          · refine lv_aload_n hx hb dX9_put_43 rfl (lv_at hl 0 rfl) ?_
            refine gf_X9_7 hx hb htw hown hK hW (by assumption) (by assumption) dX9_put_44 ?_
            refine lv_iload_n hx hb dX9_put_47 rfl (lv_at hl 1 rfl) ?_
            refine lv_iload_n hx hb dX9_put_48 rfl (lv_at hl 3 rfl) ?_
            refine ti_iadd hx hb dX9_put_49 ?_
            refine lv_iload_n hx hb dX9_put_50 rfl (lv_at hl 2 rfl) ?_
            refine ti_bipush hx hb dX9_put_51 (by decide) ?_
            refine lv_iload_n hx hb dX9_put_53 rfl (lv_at hl 3 rfl) ?_
            refine ti_imul hx hb dX9_put_54 ?_
            refine ti_shr8 hx hb dX9_put_55 hv (by omega) (by omega) ?_
            refine ti_sipush hx hb dX9_put_56 (by decide) ?_
            refine ti_and255 hx hb dX9_put_59 ?_
            refine tm_iast hx hb hK hW hS (by assumption) (by omega) (by omega) (by decide) dX9_put_60 (fun H locs hW hS => ?_)
            refine ti_iinc (k := 3) (lv' := [(3, _), (0, _), (1, _), (2, _)]) hx hb dX9_put_61 hl rfl (by decide) rfl (fun ls hl => ?_)
            refine lv_goto (tgt := 23) hx hb dX9_put_64 (by decide) ?_
            exact ih (k + 1) _ _ _ _ (by omega) hin ((tm_up_a _ _ (by omega)).trans h00) (by rw [← zputk_s hin.1 (by omega)]; exact MLp_tr hP (ML_tx hP.1)) hW hS (lv_sub hl [1, 2, 3, 0] rfl)
  refine lv_aload_n hx hb dX9_put_0 rfl (lv_at hl 0 rfl) ?_
  refine lv_iload_n hx hb dX9_put_1 rfl (lv_at hl 1 rfl) ?_
  refine ti_i2l hx hb dX9_put_2 hi ?_
  refine ti_lconst0 hx hb dX9_put_3 ?_
  refine lv_ldc2 hx hb hown (htw _ cl_X9_71) dX9_put_4 ?_
  refine tm_calli (cs_X9_67 hx hb hml hown htw hK hW (c_X9_in (by omega) (by decide) (by decide)) ⟨rfl, rfl, Nat.le_of_ble_eq_true rfl, Nat.le_of_ble_eq_true rfl⟩ hl.1 (Nat.le_of_ble_eq_true rfl) dX9_put_7 ⟨Nat.le_of_ble_eq_true rfl, Nat.le_of_ble_eq_true rfl⟩) hS (fun x7 M7 H locs hp7 hW hS => ?_)
  obtain ⟨ex7, eM7⟩ := hp7
  rw [eM7] at hW
  rw [ex7]
  refine ti_if_eq (tgt := 17) hx hb dX9_put_10 (by decide) (tl_b_r _) (fun h10 => ?_) (fun h10 => ?_)
  · refine ti_iconst hx hb dX9_put_17 ?_
    refine pf_X9_48 hx hb htw hown hK hW (by assumption) hS dX9_put_18 (fun H locs hW hS => ?_)
    refine ti_iconst hx hb dX9_put_21 ?_
    refine lv_istore_n (lv' := [(3, _), (0, _), (1, _), (2, _)]) hx hb dX9_put_22 rfl hl (by decide) rfl (fun ls hl => ?_)
    refine lv_iload_n hx hb dX9_put_23 rfl (lv_at hl 0 rfl) ?_
    refine ti_iconst hx hb dX9_put_24 ?_
    refine ti_icmp_ge (tgt := 67) hx hb dX9_put_25 (by decide) (by decide) (by decide) (fun h25 => ?_) (fun h25 => ?_)
    · exact absurd h25 (by decide)
    · refine lv_aload_n hx hb dX9_put_28 rfl (lv_at hl 1 rfl) ?_
      refine gf_X9_48 hx hb htw hown hK hW (by assumption) dX9_put_29 ?_
      rw [show mI (sI M o 0 1) o 0 = 1 from tm_up_s _ _ _ _]
      refine ti_if_ne (tgt := 67) hx hb dX9_put_32 (by decide) (by decide) (fun h32 => ?_) (fun h32 => ?_)
      · exact tm_vret hx hb hr hlk hK hW hS ⟨(tm_up_s _ _ _ _).trans (tl_b_t (tl_b_0.mp h10)), fun _ => MLp_m hz h40 fq_c0, fun q => absurd q (tl_b_0.mp h10)⟩ dX9_put_67
      · exact absurd h32 (by decide)
  · refine ti_iconst hx hb dX9_put_13 ?_
    refine lv_goto (tgt := 18) hx hb dX9_put_14 (by decide) ?_
    refine pf_X9_48 hx hb htw hown hK hW (by assumption) hS dX9_put_18 (fun H locs hW hS => ?_)
    refine ti_iconst hx hb dX9_put_21 ?_
    refine lv_istore_n (lv' := [(3, _), (0, _), (1, _), (2, _)]) hx hb dX9_put_22 rfl hl (by decide) rfl (fun ls hl => ?_)
    exact loop 4 0 (sI M o 0 0) _ _ _ rfl (tl_b_n.mp h10) (tm_up_s _ _ _ _) (by rw [zputk_0]; exact MLp_m hz h40 fq_c0) hW hS (lv_sub hl [1, 2, 3, 0] rfl)
theorem tl_bz {sh : tm_sh} {M : tm_M} {o : Nat} {z : tl_Z} (hz : MLv sh M o z) : tl_b (mI M o 3 = 0) = tl_b (zn z = 0) := by
  have e3 := hz.2.2.1
  by_cases q : zn z = 0
  · rw [← tl_b_t q, ← tl_b_t (show mI M o 3 = 0 by omega)]
  · rw [← tl_b_f q, ← tl_b_f (show ¬ mI M o 3 = 0 by omega)]
theorem dX9_hint_0 : decode cX9_hint 0 = .ok (.aload_n 0, 1) := by decide +kernel
theorem dX9_hint_1 : decode cX9_hint 1 = .ok (.invokevirtual 231, 3) := by decide +kernel
theorem dX9_hint_4 : decode cX9_hint 4 = .ok (.ifCond .eq 10, 3) := by decide +kernel
theorem dX9_hint_7 : decode cX9_hint 7 = .ok (.aload_n 0, 1) := by decide +kernel
theorem dX9_hint_8 : decode cX9_hint 8 = .ok (.invokevirtual 217, 3) := by decide +kernel
theorem dX9_hint_11 : decode cX9_hint 11 = .ok (.goto 4, 3) := by decide +kernel
theorem dX9_hint_14 : decode cX9_hint 14 = .ok (.iconst 0, 1) := by decide +kernel
theorem dX9_hint_15 : decode cX9_hint 15 = .ok (.ireturn, 1) := by decide +kernel
set_option maxHeartbeats 4000000 in
set_option maxRecDepth 100000 in
/-- TutorLinesModel.hint -/
theorem c_X9_hint {l : Launch} {G : tm_G} {Hb : Heap} {sh : tm_sh} {M : tm_M} {o : Nat} {z : tl_Z} (hz : MLv sh M o z) (hI : ZI z) : Met l yX9_hint (tws yX9_hint cX9_hint 1 (some .int)) ({ frames := 5, cells := 0, slots := 0, locals := 130 }) (va_Pc [.ref o] (tm_St G Hb sh M)) (tm_Qi G Hb sh (fun x M1 => mI M1 o 0 = tl_b (zn z = 0) ∧ (0 < zn z → x = tl_plan (zl z (zn z - 1))) ∧ MLp sh o M z M1)) 0 0 (tm_A Hb) := by
  refine tm_begin (by decide) (Nat.le_of_ble_eq_true rfl) (fun p e s m below meth c ls hx hb hr hml hown htw hlk hnm hK hW hl => ?_)
  have hS : va_S (tm_A Hb) s.heap s.heap [] := va_S.rf
  have hl : lv_has ls 1 [(0, .ref o)] := hl
  have h40 := hI.2.1
  obtain ⟨b0, ⟨t1, t2, t6, t7, t9, t12, t13, t14, t15, t16, t17, t24⟩, ⟨u1, u2, u3, u4, u5, u6, u7, u8, u9, u10, u11, u12⟩⟩ := hz.1
  have e3 := hz.2.2.1
  refine lv_aload_n hx hb dX9_hint_0 rfl (lv_at hl 0 rfl) ?_
  refine tm_calli (cs_X9_231 hx hb hml hown htw hK hW (by assumption) (c_X9_isTask b0 (by omega)) ⟨rfl, rfl, Nat.le_of_ble_eq_true rfl, Nat.le_of_ble_eq_true rfl⟩ hl.1 (Nat.le_of_ble_eq_true rfl) dX9_hint_1 ⟨Nat.le_of_ble_eq_true rfl, Nat.le_of_ble_eq_true rfl⟩) hS (fun x1 M1 H locs hp1 hW hS => ?_)
  obtain ⟨ex1, eM1⟩ := hp1
  rw [eM1] at hW
  rw [ex1]
  refine ti_if_eq (tgt := 14) hx hb dX9_hint_4 (by decide) (tl_b_r _) (fun h4 => ?_) (fun h4 => ?_)
  · refine ti_iconst hx hb dX9_hint_14 ?_
    exact tm_iret hx hb hr hlk hK hW hS ⟨(tm_up_s _ _ _ _).trans (tl_bz hz), fun q => absurd (tl_b_0.mp h4) (fun z => z (by omega)), MLp_m hz h40 fq_c0⟩ dX9_hint_15
  · refine lv_aload_n hx hb dX9_hint_7 rfl (lv_at hl 0 rfl) ?_
    have hn0 : 0 < zn z := by have := tl_b_n.mp h4; omega
    refine tm_calli (cs_X9_217 hx hb hml hown htw hK hW (by assumption) (c_X9_plan (moN_m (MLv_N hz h40 hn0) fq_c0 (by unfold mX; omega)) ((fq_rl (fq_c0 (o := o)) (fun k hk => by unfold mX; omega)).trans (MLv_l hz hn0)) (ZI_l hI hn0).1) ⟨rfl, rfl, Nat.le_of_ble_eq_true rfl, Nat.le_of_ble_eq_true rfl⟩ hl.1 (Nat.le_of_ble_eq_true rfl) dX9_hint_8 ⟨Nat.le_of_ble_eq_true rfl, Nat.le_of_ble_eq_true rfl⟩) hS (fun x8 M8 H locs hp8 hW hS => ?_)
    obtain ⟨ex8, g8, f8⟩ := hp8
    rw [ex8]
    refine lv_goto (tgt := 15) hx hb dX9_hint_11 (by decide) ?_
    exact tm_iret hx hb hr hlk hK hW hS ⟨(f8.2 _ _ (by unfold mP; omega)).1.trans ((tm_up_s _ _ _ _).trans (tl_bz hz)), fun _ => rfl, MLp_m hz h40 (fq_tr fq_c0 (fq_wd f8 (fun _ _ => mP_X)))⟩ dX9_hint_15
theorem ML_und {sh : tm_sh} {M : tm_M} {o : Nat} {z : tl_Z} (h : MLv sh M o z) (h0 : 0 < zn z) (hn : zn z ≤ 40) : MLp sh o M (zund z) (sI (sI M o 3 (mI M o 3 - 1)) o 4 0) := by
  obtain ⟨h1, h2, h3, h4, h5, h6, h7, h8, h9, h10⟩ := h
  have ea : ∀ a k, a ≠ o → mI (sI (sI M o 3 (mI M o 3 - 1)) o 4 0) a k = mI M a k := fun a k ha => (tm_up_a _ _ ha).trans (tm_up_a _ _ ha)
  refine ⟨⟨isMo_m h1 rfl, fun i => (ea _ _ (by omega)).trans (h2 i), (tm_up_k _ _ (by decide)).trans ((tm_up_s _ _ _ _).trans ?_), fun i hi => h4 i ?_, tm_up_s _ _ _ _, fun q => absurd (show (0 : Int) = 1 from q) (by decide), fun k k1 k2 => (ea _ _ (by omega)).trans (h7 k k1 k2), (ea _ _ (by omega)).trans h8, (ea _ _ (by omega)).trans h9, (ea _ _ (by omega)).trans h10⟩, fq_tr (fq_sI (Or.inl ⟨rfl, by decide⟩)) (fq_sI (Or.inl ⟨rfl, by decide⟩))⟩
  · show mI M o 3 - 1 = ((zn z - 1 : Nat) : Int)
    omega
  · have hi : i < zn z - 1 := hi
    omega
theorem dX9_undo_0 : decode cX9_undo 0 = .ok (.aload_n 0, 1) := by decide +kernel
theorem dX9_undo_1 : decode cX9_undo 1 = .ok (.invokevirtual 231, 3) := by decide +kernel
theorem dX9_undo_4 : decode cX9_undo 4 = .ok (.ifCond .eq 11, 3) := by decide +kernel
theorem dX9_undo_7 : decode cX9_undo 7 = .ok (.aload_n 0, 1) := by decide +kernel
theorem dX9_undo_8 : decode cX9_undo 8 = .ok (.getfield 159, 3) := by decide +kernel
theorem dX9_undo_11 : decode cX9_undo 11 = .ok (.iconst 1, 1) := by decide +kernel
theorem dX9_undo_12 : decode cX9_undo 12 = .ok (.if_icmp .ne 5, 3) := by decide +kernel
theorem dX9_undo_15 : decode cX9_undo 15 = .ok (.iconst 0, 1) := by decide +kernel
theorem dX9_undo_16 : decode cX9_undo 16 = .ok (.ireturn, 1) := by decide +kernel
theorem dX9_undo_17 : decode cX9_undo 17 = .ok (.aload_n 0, 1) := by decide +kernel
theorem dX9_undo_18 : decode cX9_undo 18 = .ok (.dup, 1) := by decide +kernel
theorem dX9_undo_19 : decode cX9_undo 19 = .ok (.getfield 159, 3) := by decide +kernel
theorem dX9_undo_22 : decode cX9_undo 22 = .ok (.iconst 1, 1) := by decide +kernel
theorem dX9_undo_23 : decode cX9_undo 23 = .ok (.isub, 1) := by decide +kernel
theorem dX9_undo_24 : decode cX9_undo 24 = .ok (.putfield 159, 3) := by decide +kernel
theorem dX9_undo_27 : decode cX9_undo 27 = .ok (.aload_n 0, 1) := by decide +kernel
theorem dX9_undo_28 : decode cX9_undo 28 = .ok (.iconst 0, 1) := by decide +kernel
theorem dX9_undo_29 : decode cX9_undo 29 = .ok (.putfield 211, 3) := by decide +kernel
theorem dX9_undo_32 : decode cX9_undo 32 = .ok (.iconst 1, 1) := by decide +kernel
theorem dX9_undo_33 : decode cX9_undo 33 = .ok (.ireturn, 1) := by decide +kernel
set_option maxHeartbeats 4000000 in
set_option maxRecDepth 100000 in
/-- TutorLinesModel.undo -/
theorem c_X9_undo {l : Launch} {G : tm_G} {Hb : Heap} {sh : tm_sh} {M : tm_M} {o : Nat} {z : tl_Z} (hz : MLv sh M o z) (hI : ZI z) : Met l yX9_undo (tws yX9_undo cX9_undo 1 (some .boolean)) ({ frames := 1, cells := 0, slots := 0, locals := 20 }) (va_Pc [.ref o] (tm_St G Hb sh M)) (tm_Qi G Hb sh (fun x M1 => mI M1 o 0 = tl_b (zn z = 0) ∧ (zn z = 0 → MLp sh o M z M1) ∧ (0 < zn z → x = (if zn z = 1 then 0 else 1) ∧ MLp sh o M (if zn z = 1 then z else zund z) M1))) 0 0 (tm_A Hb) := by
  refine tm_begin (by decide) (Nat.le_of_ble_eq_true rfl) (fun p e s m below meth c ls hx hb hr hml hown htw hlk hnm hK hW hl => ?_)
  have hS : va_S (tm_A Hb) s.heap s.heap [] := va_S.rf
  have hl : lv_has ls 1 [(0, .ref o)] := hl
  have h40 := hI.2.1
  obtain ⟨b0, ⟨t1, t2, t6, t7, t9, t12, t13, t14, t15, t16, t17, t24⟩, ⟨u1, u2, u3, u4, u5, u6, u7, u8, u9, u10, u11, u12⟩⟩ := hz.1
  have e3 := hz.2.2.1
  refine lv_aload_n hx hb dX9_undo_0 rfl (lv_at hl 0 rfl) ?_
  refine tm_calli (cs_X9_231 hx hb hml hown htw hK hW (by assumption) (c_X9_isTask b0 (by omega)) ⟨rfl, rfl, Nat.le_of_ble_eq_true rfl, Nat.le_of_ble_eq_true rfl⟩ hl.1 (Nat.le_of_ble_eq_true rfl) dX9_undo_1 ⟨Nat.le_of_ble_eq_true rfl, Nat.le_of_ble_eq_true rfl⟩) hS (fun x1 M1 H locs hp1 hW hS => ?_)
  obtain ⟨ex1, eM1⟩ := hp1
  rw [eM1] at hW
  rw [ex1]
  refine ti_if_eq (tgt := 15) hx hb dX9_undo_4 (by decide) (tl_b_r _) (fun h4 => ?_) (fun h4 => ?_)
  · refine ti_iconst hx hb dX9_undo_15 ?_
    exact tm_zret hx hb hr hlk (Or.inl rfl) hK hW hS ⟨(tm_up_s _ _ _ _).trans (tl_bz hz), fun _ => MLp_m hz h40 fq_c0, fun q => absurd (tl_b_0.mp h4) (fun z => z (by omega))⟩ dX9_undo_16
  · have hn0 : 0 < zn z := by have := tl_b_n.mp h4; omega
    refine lv_aload_n hx hb dX9_undo_7 rfl (lv_at hl 0 rfl) ?_
    refine gf_X9_159 hx hb htw hown hK hW (by assumption) dX9_undo_8 ?_
    rw [show mI (sI M o 0 (tl_b (mI M o 3 = 0))) o 3 = zn z from (tm_up_k _ _ (by decide)).trans e3]
    refine ti_iconst hx hb dX9_undo_11 ?_
    refine ti_icmp_ne (tgt := 17) hx hb dX9_undo_12 (by decide) (by omega) (by decide) (fun h12 => ?_) (fun h12 => ?_)
    · refine lv_aload_n hx hb dX9_undo_17 rfl (lv_at hl 0 rfl) ?_
      refine lv_dup hx hb dX9_undo_18 rfl ?_
      refine gf_X9_159 hx hb htw hown hK hW (by assumption) dX9_undo_19 ?_
      refine ti_iconst hx hb dX9_undo_22 ?_
      refine ti_isub hx hb dX9_undo_23 ?_
      refine pf_X9_159 hx hb htw hown hK hW (by assumption) hS dX9_undo_24 (fun H locs hW hS => ?_)
      refine lv_aload_n hx hb dX9_undo_27 rfl (lv_at hl 0 rfl) ?_
      refine ti_iconst hx hb dX9_undo_28 ?_
      refine pf_X9_211 hx hb htw hown hK hW (by assumption) hS (Or.inl rfl) dX9_undo_29 (fun H locs hW hS => ?_)
      refine ti_iconst hx hb dX9_undo_32 ?_
      exact tm_zret hx hb hr hlk (Or.inr rfl) hK hW hS ⟨(tm_up_k _ _ (by decide)).trans ((tm_up_k _ _ (by decide)).trans ((tm_up_s _ _ _ _).trans (tl_bz hz))), fun q => absurd q (by omega), fun _ => ⟨(if_neg (by omega)).symm, by rw [if_neg (by omega)]; exact MLp_tr (MLp_m hz h40 fq_c0) (ML_und (MLv_m hz h40 fq_c0) hn0 h40)⟩⟩ dX9_undo_33
    · refine ti_iconst hx hb dX9_undo_15 ?_
      exact tm_zret hx hb hr hlk (Or.inl rfl) hK hW hS ⟨(tm_up_s _ _ _ _).trans (tl_bz hz), fun q => absurd q (by omega), fun _ => ⟨(if_pos (by omega)).symm, by rw [if_pos (by omega)]; exact MLp_m hz h40 fq_c0⟩⟩ dX9_undo_16
