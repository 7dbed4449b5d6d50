/-! Side, the rest, and Line (by program: wip/whole/gen/side2.py) -/
theorem v_setSum {l : Launch} {G : tm_G} {Hb : Heap} {sh : tm_sh} {M : tm_M} {q p1 p2 : Nat} {f g : tl_F} (h0 : sh q = some (2, 0)) (h1 : sh p1 = some (2, 0)) (h2 : sh p2 = some (2, 0)) (e1 : fr M p1 = f) (e2 : fr M p2 = g) (hf : fok f) (hg : fok g) : Met l yX0_setSum (tws yX0_setSum cX0_setSum 3 none) ({ frames := 2, cells := 0, slots := 0, locals := 53 }) (va_Pc [.ref q, .ref p1, .ref p2] (tm_St G Hb sh M)) (tm_Qv G Hb sh (fun M1 => M1 = fS M q (fadd f g))) 0 0 (tm_A Hb) := by
  subst e1 e2
  exact c_X0_setSum h0 h1 h2 (tl_bd hf hg).1 (tl_bd hf hg).2.2.1 (tl_bd hf hg).2.1
theorem v_setDifference {l : Launch} {G : tm_G} {Hb : Heap} {sh : tm_sh} {M : tm_M} {q p1 p2 : Nat} {f g : tl_F} (h0 : sh q = some (2, 0)) (h1 : sh p1 = some (2, 0)) (h2 : sh p2 = some (2, 0)) (e1 : fr M p1 = f) (e2 : fr M p2 = g) (hf : fok f) (hg : fok g) : Met l yX0_setDifference (tws yX0_setDifference cX0_setDifference 3 none) ({ frames := 2, cells := 0, slots := 0, locals := 53 }) (va_Pc [.ref q, .ref p1, .ref p2] (tm_St G Hb sh M)) (tm_Qv G Hb sh (fun M1 => M1 = fS M q (fsub f g))) 0 0 (tm_A Hb) := by
  subst e1 e2
  exact c_X0_setDifference h0 h1 h2 (tl_bd hf hg).1 (tl_bd hf hg).2.2.2.1 (tl_bd hf hg).2.1
theorem v_setProduct {l : Launch} {G : tm_G} {Hb : Heap} {sh : tm_sh} {M : tm_M} {q p1 p2 : Nat} {f g : tl_F} (h0 : sh q = some (2, 0)) (h1 : sh p1 = some (2, 0)) (h2 : sh p2 = some (2, 0)) (e1 : fr M p1 = f) (e2 : fr M p2 = g) (hf : fok f) (hg : fok g) : Met l yX0_setProduct (tws yX0_setProduct cX0_setProduct 3 none) ({ frames := 2, cells := 0, slots := 0, locals := 53 }) (va_Pc [.ref q, .ref p1, .ref p2] (tm_St G Hb sh M)) (tm_Qv G Hb sh (fun M1 => M1 = fS M q (fmul f g))) 0 0 (tm_A Hb) := by
  subst e1 e2
  exact c_X0_setProduct h0 h1 h2 (tl_bd hf hg).1 (tl_bd hf hg).2.2.2.2.1 (tl_bd hf hg).2.1
theorem v_setQuotient {l : Launch} {G : tm_G} {Hb : Heap} {sh : tm_sh} {M : tm_M} {q p1 p2 : Nat} {f g : tl_F} (h0 : sh q = some (2, 0)) (h1 : sh p1 = some (2, 0)) (h2 : sh p2 = some (2, 0)) (e1 : fr M p1 = f) (e2 : fr M p2 = g) (hf : fok f) (hg : fok g) (hz : g.1 ≠ 0) : Met l yX0_setQuotient (tws yX0_setQuotient cX0_setQuotient 3 none) ({ frames := 2, cells := 0, slots := 0, locals := 53 }) (va_Pc [.ref q, .ref p1, .ref p2] (tm_St G Hb sh M)) (tm_Qv G Hb sh (fun M1 => M1 = fS M q (fdiv f g))) 0 0 (tm_A Hb) := by
  subst e1 e2
  exact c_X0_setQuotient h0 h1 h2 (tl_n0 (fok_ab hf).2.2 hz) (tl_bd hf hg).2.2.2.2.2.1 (tl_bd hf hg).2.2.2.2.2.2
theorem tl_b_r (p : Prop) [Decidable p] : inI (tl_b p) := by
  unfold tl_b
  split <;> omega
theorem tl_b_0 {p : Prop} [Decidable p] : tl_b p = 0 ↔ ¬ p := by
  unfold tl_b
  split <;> simp_all
theorem tl_b_n {p : Prop} [Decidable p] : ¬ tl_b p = 0 ↔ p := by
  rw [tl_b_0]
  exact Decidable.not_not
theorem tl_b_z (p : Prop) [Decidable p] : tl_b p = 0 ∨ tl_b p = 1 := by
  unfold tl_b
  split <;> simp
abbrev smul (s t : tl_S) : tl_S := (if s.1.1 = 0 then fmul s.2 t.1 else fmul s.1 t.2, fmul s.2 t.2)
abbrev sdiv (s : tl_S) (f : tl_F) : tl_S := (fdiv s.1 f, fdiv s.2 f)
def sok (s : tl_S) : Prop := fok s.1 ∧ fok s.2
abbrev ffit (f : tl_F) : Prop := -9999 ≤ f.1 ∧ f.1 ≤ 9999 ∧ f.2 ≤ 9999
def fLok (f : tl_F) : Prop := inL f.1 ∧ inL f.2
theorem fLok_of {f : tl_F} (h : fok f) : fLok f := fok_L h
/-- a fraction in lowest terms of small numbers is within a long -/
theorem fLok_norm {a b : Int} (hb : b ≠ 0) (h1 : a.natAbs ≤ 4611686018427387904) (h2 : b.natAbs ≤ 4611686018427387904) : fLok (tl_norm a b) := by
  obtain ⟨h3, h4⟩ := tl_norm_le (a := a) hb
  exact ⟨by omega, by omega⟩
theorem dX5_multiply_0 : decode cX5_multiply 0 = .ok (.aload_n 0, 1) := by decide +kernel
theorem dX5_multiply_1 : decode cX5_multiply 1 = .ok (.getfield 10, 3) := by decide +kernel
theorem dX5_multiply_4 : decode cX5_multiply 4 = .ok (.invokevirtual 37, 3) := by decide +kernel
theorem dX5_multiply_7 : decode cX5_multiply 7 = .ok (.ifCond .eq 21, 3) := by decide +kernel
theorem dX5_multiply_10 : decode cX5_multiply 10 = .ok (.aload_n 0, 1) := by decide +kernel
theorem dX5_multiply_11 : decode cX5_multiply 11 = .ok (.getfield 10, 3) := by decide +kernel
theorem dX5_multiply_14 : decode cX5_multiply 14 = .ok (.aload_n 0, 1) := by decide +kernel
theorem dX5_multiply_15 : decode cX5_multiply 15 = .ok (.getfield 16, 3) := by decide +kernel
theorem dX5_multiply_18 : decode cX5_multiply 18 = .ok (.aload_n 1, 1) := by decide +kernel
theorem dX5_multiply_19 : decode cX5_multiply 19 = .ok (.getfield 10, 3) := by decide +kernel
theorem dX5_multiply_22 : decode cX5_multiply 22 = .ok (.invokevirtual 41, 3) := by decide +kernel
theorem dX5_multiply_25 : decode cX5_multiply 25 = .ok (.goto 18, 3) := by decide +kernel
theorem dX5_multiply_28 : decode cX5_multiply 28 = .ok (.aload_n 0, 1) := by decide +kernel
theorem dX5_multiply_29 : decode cX5_multiply 29 = .ok (.getfield 10, 3) := by decide +kernel
theorem dX5_multiply_32 : decode cX5_multiply 32 = .ok (.aload_n 0, 1) := by decide +kernel
theorem dX5_multiply_33 : decode cX5_multiply 33 = .ok (.getfield 10, 3) := by decide +kernel
theorem dX5_multiply_36 : decode cX5_multiply 36 = .ok (.aload_n 1, 1) := by decide +kernel
theorem dX5_multiply_37 : decode cX5_multiply 37 = .ok (.getfield 16, 3) := by decide +kernel
theorem dX5_multiply_40 : decode cX5_multiply 40 = .ok (.invokevirtual 41, 3) := by decide +kernel
theorem dX5_multiply_43 : decode cX5_multiply 43 = .ok (.aload_n 0, 1) := by decide +kernel
theorem dX5_multiply_44 : decode cX5_multiply 44 = .ok (.getfield 16, 3) := by decide +kernel
theorem dX5_multiply_47 : decode cX5_multiply 47 = .ok (.aload_n 0, 1) := by decide +kernel
theorem dX5_multiply_48 : decode cX5_multiply 48 = .ok (.getfield 16, 3) := by decide +kernel
theorem dX5_multiply_51 : decode cX5_multiply 51 = .ok (.aload_n 1, 1) := by decide +kernel
theorem dX5_multiply_52 : decode cX5_multiply 52 = .ok (.getfield 16, 3) := by decide +kernel
theorem dX5_multiply_55 : decode cX5_multiply 55 = .ok (.invokevirtual 41, 3) := by decide +kernel
theorem dX5_multiply_58 : decode cX5_multiply 58 = .ok (.return_, 1) := by decide +kernel
set_option maxHeartbeats 4000000 in
set_option maxRecDepth 100000 in
/-- Side.multiply -/
theorem c_X5_multiply {l : Launch} {G : tm_G} {Hb : Heap} {sh : tm_sh} {M : tm_M} {q o : Nat} (hs : isSd sh M q) (ht : isSd sh M o) (hne : o + 3 ≤ q ∨ q + 3 ≤ o) (hq : sok (sd M q)) (ho : sok (sd M o)) : Met l yX5_multiply (tws yX5_multiply cX5_multiply 2 none) ({ frames := 3, cells := 0, slots := 0, locals := 75 }) (va_Pc [.ref q, .ref o] (tm_St G Hb sh M)) (tm_Qv G Hb sh (fun M1 => M1 = sS M q (smul (sd M q) (sd M o)))) 0 0 (tm_A Hb) := by
  refine tm_begin (by decide) (Nat.le_of_ble_eq_true rfl) (fun p e s m below meth c ls hx hb hr hml hown htw hlk hnm hK hW hl => ?_)
  have hS : va_S (tm_A Hb) s.heap s.heap [] := va_S.rf
  have hl : lv_has ls 2 [(0, .ref q), (1, .ref o)] := hl
  obtain ⟨s0, s1, s2, r0, r1⟩ := hs
  obtain ⟨t0, t1, t2, u0, u1⟩ := ht
  refine lv_aload_n hx hb dX5_multiply_0 rfl (lv_at hl 0 rfl) ?_
  refine gf_X5_10 hx hb htw hown hK hW (by assumption) (by assumption) dX5_multiply_1 ?_
  refine tm_calli (cs_X5_37 hx hb hml hown htw hK hW (by assumption) (c_X0_isZero (by assumption) (fok_L hq.1).1) ⟨rfl, rfl, Nat.le_of_ble_eq_true rfl, Nat.le_of_ble_eq_true rfl⟩ hl.1 (Nat.le_of_ble_eq_true rfl) dX5_multiply_4 ⟨Nat.le_of_ble_eq_true rfl, Nat.le_of_ble_eq_true rfl⟩) hS (fun x4 M4 H locs hp4 hW hS => ?_)
  obtain ⟨ex4, eM4⟩ := hp4
  rw [eM4] at hW
  rw [ex4]
  refine ti_if_eq (tgt := 28) hx hb dX5_multiply_7 (by decide) (tl_b_r _) (fun h7 => ?_) (fun h7 => ?_)
  · have hz := tl_b_0.mp h7
    refine lv_aload_n hx hb dX5_multiply_28 rfl (lv_at hl 0 rfl) ?_
    refine gf_X5_10 hx hb htw hown hK hW (by assumption) (by assumption) dX5_multiply_29 ?_
    refine lv_aload_n hx hb dX5_multiply_32 rfl (lv_at hl 0 rfl) ?_
    refine gf_X5_10 hx hb htw hown hK hW (by assumption) (by assumption) dX5_multiply_33 ?_
    refine lv_aload_n hx hb dX5_multiply_36 rfl (lv_at hl 1 rfl) ?_
    refine gf_X5_16 hx hb htw hown hK hW (by assumption) (by assumption) dX5_multiply_37 ?_
    refine tm_callv (cs_X5_41 hx hb hml hown htw hK hW (by assumption) (v_setProduct (f := fr M (q + 1)) (g := fr M (o + 2)) (by assumption) (by assumption) (by assumption) rfl rfl hq.1 ho.2) ⟨rfl, rfl, Nat.le_of_ble_eq_true rfl, Nat.le_of_ble_eq_true rfl⟩ hl.1 (Nat.le_of_ble_eq_true rfl) dX5_multiply_40 ⟨Nat.le_of_ble_eq_true rfl, Nat.le_of_ble_eq_true rfl⟩) hS (fun M40 H locs hp40 hW hS => ?_)
    rw [hp40] at hW
    refine lv_aload_n hx hb dX5_multiply_43 rfl (lv_at hl 0 rfl) ?_
    refine gf_X5_16 hx hb htw hown hK hW (by assumption) (by assumption) dX5_multiply_44 ?_
    refine lv_aload_n hx hb dX5_multiply_47 rfl (lv_at hl 0 rfl) ?_
    refine gf_X5_16 hx hb htw hown hK hW (by assumption) (by assumption) dX5_multiply_48 ?_
    refine lv_aload_n hx hb dX5_multiply_51 rfl (lv_at hl 1 rfl) ?_
    refine gf_X5_16 hx hb htw hown hK hW (by assumption) (by assumption) dX5_multiply_52 ?_
    refine tm_callv (cs_X5_41 hx hb hml hown htw hK hW (by assumption) (v_setProduct (f := fr M (q + 2)) (g := fr M (o + 2)) (by assumption) (by assumption) (by assumption) (fr_n M _ (by omega)) (fr_n M _ (by omega)) hq.2 ho.2) ⟨rfl, rfl, Nat.le_of_ble_eq_true rfl, Nat.le_of_ble_eq_true rfl⟩ hl.1 (Nat.le_of_ble_eq_true rfl) dX5_multiply_55 ⟨Nat.le_of_ble_eq_true rfl, Nat.le_of_ble_eq_true rfl⟩) hS (fun M55 H locs hp55 hW hS => ?_)
    rw [hp55] at hW
    exact tm_vret hx hb hr hlk hK hW hS (by first | rw [show smul (sd M q) (sd M o) = (fmul (fr M (q + 2)) (fr M (o + 1)), fmul (fr M (q + 2)) (fr M (o + 2))) from by rw [smul, if_pos hz]] | rw [show smul (sd M q) (sd M o) = (fmul (fr M (q + 1)) (fr M (o + 2)), fmul (fr M (q + 2)) (fr M (o + 2))) from by rw [smul, if_neg hz]]) dX5_multiply_58
  · have hz := tl_b_n.mp h7
    refine lv_aload_n hx hb dX5_multiply_10 rfl (lv_at hl 0 rfl) ?_
    refine gf_X5_10 hx hb htw hown hK hW (by assumption) (by assumption) dX5_multiply_11 ?_
    refine lv_aload_n hx hb dX5_multiply_14 rfl (lv_at hl 0 rfl) ?_
    refine gf_X5_16 hx hb htw hown hK hW (by assumption) (by assumption) dX5_multiply_15 ?_
    refine lv_aload_n hx hb dX5_multiply_18 rfl (lv_at hl 1 rfl) ?_
    refine gf_X5_10 hx hb htw hown hK hW (by assumption) (by assumption) dX5_multiply_19 ?_
    refine tm_callv (cs_X5_41 hx hb hml hown htw hK hW (by assumption) (v_setProduct (f := fr M (q + 2)) (g := fr M (o + 1)) (by assumption) (by assumption) (by assumption) rfl rfl hq.2 ho.1) ⟨rfl, rfl, Nat.le_of_ble_eq_true rfl, Nat.le_of_ble_eq_true rfl⟩ hl.1 (Nat.le_of_ble_eq_true rfl) dX5_multiply_22 ⟨Nat.le_of_ble_eq_true rfl, Nat.le_of_ble_eq_true rfl⟩) hS (fun M22 H locs hp22 hW hS => ?_)
    rw [hp22] at hW
    refine lv_goto (tgt := 43) hx hb dX5_multiply_25 (by decide) ?_
    refine lv_aload_n hx hb dX5_multiply_43 rfl (lv_at hl 0 rfl) ?_
    refine gf_X5_16 hx hb htw hown hK hW (by assumption) (by assumption) dX5_multiply_44 ?_
    refine lv_aload_n hx hb dX5_multiply_47 rfl (lv_at hl 0 rfl) ?_
    refine gf_X5_16 hx hb htw hown hK hW (by assumption) (by assumption) dX5_multiply_48 ?_
    refine lv_aload_n hx hb dX5_multiply_51 rfl (lv_at hl 1 rfl) ?_
    refine gf_X5_16 hx hb htw hown hK hW (by assumption) (by assumption) dX5_multiply_52 ?_
    refine tm_callv (cs_X5_41 hx hb hml hown htw hK hW (by assumption) (v_setProduct (f := fr M (q + 2)) (g := fr M (o + 2)) (by assumption) (by assumption) (by assumption) (fr_n M _ (by omega)) (fr_n M _ (by omega)) hq.2 ho.2) ⟨rfl, rfl, Nat.le_of_ble_eq_true rfl, Nat.le_of_ble_eq_true rfl⟩ hl.1 (Nat.le_of_ble_eq_true rfl) dX5_multiply_55 ⟨Nat.le_of_ble_eq_true rfl, Nat.le_of_ble_eq_true rfl⟩) hS (fun M55 H locs hp55 hW hS => ?_)
    rw [hp55] at hW
    exact tm_vret hx hb hr hlk hK hW hS (by first | rw [show smul (sd M q) (sd M o) = (fmul (fr M (q + 2)) (fr M (o + 1)), fmul (fr M (q + 2)) (fr M (o + 2))) from by rw [smul, if_pos hz]] | rw [show smul (sd M q) (sd M o) = (fmul (fr M (q + 1)) (fr M (o + 2)), fmul (fr M (q + 2)) (fr M (o + 2))) from by rw [smul, if_neg hz]]) dX5_multiply_58
theorem dX5_divide_0 : decode cX5_divide 0 = .ok (.aload_n 0, 1) := by decide +kernel
theorem dX5_divide_1 : decode cX5_divide 1 = .ok (.getfield 10, 3) := by decide +kernel
theorem dX5_divide_4 : decode cX5_divide 4 = .ok (.aload_n 0, 1) := by decide +kernel
theorem dX5_divide_5 : decode cX5_divide 5 = .ok (.getfield 10, 3) := by decide +kernel
theorem dX5_divide_8 : decode cX5_divide 8 = .ok (.aload_n 1, 1) := by decide +kernel
theorem dX5_divide_9 : decode cX5_divide 9 = .ok (.invokevirtual 44, 3) := by decide +kernel
theorem dX5_divide_12 : decode cX5_divide 12 = .ok (.aload_n 0, 1) := by decide +kernel
theorem dX5_divide_13 : decode cX5_divide 13 = .ok (.getfield 16, 3) := by decide +kernel
theorem dX5_divide_16 : decode cX5_divide 16 = .ok (.aload_n 0, 1) := by decide +kernel
theorem dX5_divide_17 : decode cX5_divide 17 = .ok (.getfield 16, 3) := by decide +kernel
theorem dX5_divide_20 : decode cX5_divide 20 = .ok (.aload_n 1, 1) := by decide +kernel
theorem dX5_divide_21 : decode cX5_divide 21 = .ok (.invokevirtual 44, 3) := by decide +kernel
theorem dX5_divide_24 : decode cX5_divide 24 = .ok (.return_, 1) := by decide +kernel
set_option maxHeartbeats 4000000 in
set_option maxRecDepth 100000 in
/-- Side.divide -/
theorem c_X5_divide {l : Launch} {G : tm_G} {Hb : Heap} {sh : tm_sh} {M : tm_M} {q o : Nat} (hs : isSd sh M q) (ht : sh o = some (2, 0)) (hne : o ≠ q + 1) (hq : sok (sd M q)) (ho : fok (fr M o)) (hz : (fr M o).1 ≠ 0) : Met l yX5_divide (tws yX5_divide cX5_divide 2 none) ({ frames := 3, cells := 0, slots := 0, locals := 75 }) (va_Pc [.ref q, .ref o] (tm_St G Hb sh M)) (tm_Qv G Hb sh (fun M1 => M1 = sS M q (sdiv (sd M q) (fr M o)))) 0 0 (tm_A Hb) := by
  refine tm_begin (by decide) (Nat.le_of_ble_eq_true rfl) (fun p e s m below meth c ls hx hb hr hml hown htw hlk hnm hK hW hl => ?_)
  have hS : va_S (tm_A Hb) s.heap s.heap [] := va_S.rf
  have hl : lv_has ls 2 [(0, .ref q), (1, .ref o)] := hl
  obtain ⟨s0, s1, s2, r0, r1⟩ := hs
  refine lv_aload_n hx hb dX5_divide_0 rfl (lv_at hl 0 rfl) ?_
  refine gf_X5_10 hx hb htw hown hK hW (by assumption) (by assumption) dX5_divide_1 ?_
  refine lv_aload_n hx hb dX5_divide_4 rfl (lv_at hl 0 rfl) ?_
  refine gf_X5_10 hx hb htw hown hK hW (by assumption) (by assumption) dX5_divide_5 ?_
  refine lv_aload_n hx hb dX5_divide_8 rfl (lv_at hl 1 rfl) ?_
  refine tm_callv (cs_X5_44 hx hb hml hown htw hK hW (by assumption) (v_setQuotient (f := fr M (q + 1)) (g := fr M o) (by assumption) (by assumption) (by assumption) rfl rfl hq.1 ho hz) ⟨rfl, rfl, Nat.le_of_ble_eq_true rfl, Nat.le_of_ble_eq_true rfl⟩ hl.1 (Nat.le_of_ble_eq_true rfl) dX5_divide_9 ⟨Nat.le_of_ble_eq_true rfl, Nat.le_of_ble_eq_true rfl⟩) hS (fun M9 H locs hp9 hW hS => ?_)
  rw [hp9] at hW
  refine lv_aload_n hx hb dX5_divide_12 rfl (lv_at hl 0 rfl) ?_
  refine gf_X5_16 hx hb htw hown hK hW (by assumption) (by assumption) dX5_divide_13 ?_
  refine lv_aload_n hx hb dX5_divide_16 rfl (lv_at hl 0 rfl) ?_
  refine gf_X5_16 hx hb htw hown hK hW (by assumption) (by assumption) dX5_divide_17 ?_
  refine lv_aload_n hx hb dX5_divide_20 rfl (lv_at hl 1 rfl) ?_
  refine tm_callv (cs_X5_44 hx hb hml hown htw hK hW (by assumption) (v_setQuotient (f := fr M (q + 2)) (g := fr M o) (by assumption) (by assumption) (by assumption) (fr_n M _ (by omega)) (fr_n M _ hne) hq.2 ho hz) ⟨rfl, rfl, Nat.le_of_ble_eq_true rfl, Nat.le_of_ble_eq_true rfl⟩ hl.1 (Nat.le_of_ble_eq_true rfl) dX5_divide_21 ⟨Nat.le_of_ble_eq_true rfl, Nat.le_of_ble_eq_true rfl⟩) hS (fun M21 H locs hp21 hW hS => ?_)
  rw [hp21] at hW
  exact tm_vret hx hb hr hlk hK hW hS rfl dX5_divide_24
theorem dX5_sameAs_0 : decode cX5_sameAs 0 = .ok (.aload_n 0, 1) := by decide +kernel
theorem dX5_sameAs_1 : decode cX5_sameAs 1 = .ok (.getfield 10, 3) := by decide +kernel
theorem dX5_sameAs_4 : decode cX5_sameAs 4 = .ok (.aload_n 1, 1) := by decide +kernel
theorem dX5_sameAs_5 : decode cX5_sameAs 5 = .ok (.getfield 10, 3) := by decide +kernel
theorem dX5_sameAs_8 : decode cX5_sameAs 8 = .ok (.invokevirtual 47, 3) := by decide +kernel
theorem dX5_sameAs_11 : decode cX5_sameAs 11 = .ok (.ifCond .eq 21, 3) := by decide +kernel
theorem dX5_sameAs_14 : decode cX5_sameAs 14 = .ok (.aload_n 0, 1) := by decide +kernel
theorem dX5_sameAs_15 : decode cX5_sameAs 15 = .ok (.getfield 16, 3) := by decide +kernel
theorem dX5_sameAs_18 : decode cX5_sameAs 18 = .ok (.aload_n 1, 1) := by decide +kernel
theorem dX5_sameAs_19 : decode cX5_sameAs 19 = .ok (.getfield 16, 3) := by decide +kernel
theorem dX5_sameAs_22 : decode cX5_sameAs 22 = .ok (.invokevirtual 47, 3) := by decide +kernel
theorem dX5_sameAs_25 : decode cX5_sameAs 25 = .ok (.ifCond .eq 7, 3) := by decide +kernel
theorem dX5_sameAs_28 : decode cX5_sameAs 28 = .ok (.iconst 1, 1) := by decide +kernel
theorem dX5_sameAs_29 : decode cX5_sameAs 29 = .ok (.goto 4, 3) := by decide +kernel
theorem dX5_sameAs_32 : decode cX5_sameAs 32 = .ok (.iconst 0, 1) := by decide +kernel
theorem dX5_sameAs_33 : decode cX5_sameAs 33 = .ok (.ireturn, 1) := by decide +kernel
set_option maxHeartbeats 4000000 in
set_option maxRecDepth 100000 in
/-- Side.sameAs -/
theorem c_X5_sameAs {l : Launch} {G : tm_G} {Hb : Heap} {sh : tm_sh} {M : tm_M} {q o : Nat} (hs : isSd sh M q) (ht : isSd sh M o) (hq : fLok (fr M (q + 1)) ∧ fLok (fr M (q + 2))) (ho : fLok (fr M (o + 1)) ∧ fLok (fr M (o + 2))) : Met l yX5_sameAs (tws yX5_sameAs cX5_sameAs 2 (some .boolean)) ({ frames := 1, cells := 0, slots := 0, locals := 21 }) (va_Pc [.ref q, .ref o] (tm_St G Hb sh M)) (tm_Qi G Hb sh (fun x M1 => x = tl_b (sd M q = sd M o) ∧ M1 = M)) 0 0 (tm_A Hb) := by
  refine tm_begin (by decide) (Nat.le_of_ble_eq_true rfl) (fun p e s m below meth c ls hx hb hr hml hown htw hlk hnm hK hW hl => ?_)
  have hS : va_S (tm_A Hb) s.heap s.heap [] := va_S.rf
  have hl : lv_has ls 2 [(0, .ref q), (1, .ref o)] := hl
  obtain ⟨s0, s1, s2, r0, r1⟩ := hs
  obtain ⟨t0, t1, t2, u0, u1⟩ := ht
  refine lv_aload_n hx hb dX5_sameAs_0 rfl (lv_at hl 0 rfl) ?_
  refine gf_X5_10 hx hb htw hown hK hW (by assumption) (by assumption) dX5_sameAs_1 ?_
  refine lv_aload_n hx hb dX5_sameAs_4 rfl (lv_at hl 1 rfl) ?_
  refine gf_X5_10 hx hb htw hown hK hW (by assumption) (by assumption) dX5_sameAs_5 ?_
  refine tm_calli (cs_X5_47 hx hb hml hown htw hK hW (by assumption) (c_X0_sameAs (by assumption) (by assumption) hq.1 ho.1) ⟨rfl, rfl, Nat.le_of_ble_eq_true rfl, Nat.le_of_ble_eq_true rfl⟩ hl.1 (Nat.le_of_ble_eq_true rfl) dX5_sameAs_8 ⟨Nat.le_of_ble_eq_true rfl, Nat.le_of_ble_eq_true rfl⟩) hS (fun x8 M8 H locs hp8 hW hS => ?_)
  obtain ⟨ex8, eM8⟩ := hp8
  rw [eM8] at hW
  rw [ex8]
  refine ti_if_eq (tgt := 32) hx hb dX5_sameAs_11 (by decide) (tl_b_r _) (fun h11 => ?_) (fun h11 => ?_)
  · have hz3 : ¬ sd M q = sd M o := fun z => by first | exact tl_b_0.mp h11 (congrArg Prod.fst z) | exact tl_b_0.mp h25 (congrArg Prod.snd z)
    refine ti_iconst hx hb dX5_sameAs_32 ?_
    exact tm_zret hx hb hr hlk (by first | exact Or.inl rfl | exact Or.inr rfl | assumption) hK hW hS ⟨by first | exact tl_b_f hz3 | exact tl_b_t (Prod.ext hz hz2), rfl⟩ dX5_sameAs_33
  · have hz := tl_b_n.mp h11
    refine lv_aload_n hx hb dX5_sameAs_14 rfl (lv_at hl 0 rfl) ?_
    refine gf_X5_16 hx hb htw hown hK hW (by assumption) (by assumption) dX5_sameAs_15 ?_
    refine lv_aload_n hx hb dX5_sameAs_18 rfl (lv_at hl 1 rfl) ?_
    refine gf_X5_16 hx hb htw hown hK hW (by assumption) (by assumption) dX5_sameAs_19 ?_
    refine tm_calli (cs_X5_47 hx hb hml hown htw hK hW (by assumption) (c_X0_sameAs (by assumption) (by assumption) hq.2 ho.2) ⟨rfl, rfl, Nat.le_of_ble_eq_true rfl, Nat.le_of_ble_eq_true rfl⟩ hl.1 (Nat.le_of_ble_eq_true rfl) dX5_sameAs_22 ⟨Nat.le_of_ble_eq_true rfl, Nat.le_of_ble_eq_true rfl⟩) hS (fun x22 M22 H locs hp22 hW hS => ?_)
    obtain ⟨ex22, eM22⟩ := hp22
    rw [eM22] at hW
    rw [ex22]
    refine ti_if_eq (tgt := 32) hx hb dX5_sameAs_25 (by decide) (tl_b_r _) (fun h25 => ?_) (fun h25 => ?_)
    · have hz3 : ¬ sd M q = sd M o := fun z => by first | exact tl_b_0.mp h11 (congrArg Prod.fst z) | exact tl_b_0.mp h25 (congrArg Prod.snd z)
      refine ti_iconst hx hb dX5_sameAs_32 ?_
      exact tm_zret hx hb hr hlk (by first | exact Or.inl rfl | exact Or.inr rfl | assumption) hK hW hS ⟨by first | exact tl_b_f hz3 | exact tl_b_t (Prod.ext hz hz2), rfl⟩ dX5_sameAs_33
    · have hz2 := tl_b_n.mp h25
      refine ti_iconst hx hb dX5_sameAs_28 ?_
      refine lv_goto (tgt := 33) hx hb dX5_sameAs_29 (by decide) ?_
      exact tm_zret hx hb hr hlk (by first | exact Or.inl rfl | exact Or.inr rfl | assumption) hK hW hS ⟨by first | exact tl_b_f hz3 | exact tl_b_t (Prod.ext hz hz2), rfl⟩ dX5_sameAs_33
theorem dX5_fits_0 : decode cX5_fits 0 = .ok (.aload_n 0, 1) := by decide +kernel
theorem dX5_fits_1 : decode cX5_fits 1 = .ok (.getfield 10, 3) := by decide +kernel
theorem dX5_fits_4 : decode cX5_fits 4 = .ok (.invokevirtual 51, 3) := by decide +kernel
theorem dX5_fits_7 : decode cX5_fits 7 = .ok (.ifCond .eq 17, 3) := by decide +kernel
theorem dX5_fits_10 : decode cX5_fits 10 = .ok (.aload_n 0, 1) := by decide +kernel
theorem dX5_fits_11 : decode cX5_fits 11 = .ok (.getfield 16, 3) := by decide +kernel
theorem dX5_fits_14 : decode cX5_fits 14 = .ok (.invokevirtual 51, 3) := by decide +kernel
theorem dX5_fits_17 : decode cX5_fits 17 = .ok (.ifCond .eq 7, 3) := by decide +kernel
theorem dX5_fits_20 : decode cX5_fits 20 = .ok (.iconst 1, 1) := by decide +kernel
theorem dX5_fits_21 : decode cX5_fits 21 = .ok (.goto 4, 3) := by decide +kernel
theorem dX5_fits_24 : decode cX5_fits 24 = .ok (.iconst 0, 1) := by decide +kernel
theorem dX5_fits_25 : decode cX5_fits 25 = .ok (.ireturn, 1) := by decide +kernel
set_option maxHeartbeats 4000000 in
set_option maxRecDepth 100000 in
/-- Side.fits -/
theorem c_X5_fits {l : Launch} {G : tm_G} {Hb : Heap} {sh : tm_sh} {M : tm_M} {q : Nat} (hs : isSd sh M q) (hq : fLok (fr M (q + 1)) ∧ fLok (fr M (q + 2))) : Met l yX5_fits (tws yX5_fits cX5_fits 1 (some .boolean)) ({ frames := 1, cells := 0, slots := 0, locals := 20 }) (va_Pc [.ref q] (tm_St G Hb sh M)) (tm_Qi G Hb sh (fun x M1 => x = tl_b (ffit (fr M (q + 1)) ∧ ffit (fr M (q + 2))) ∧ M1 = M)) 0 0 (tm_A Hb) := by
  refine tm_begin (by decide) (Nat.le_of_ble_eq_true rfl) (fun p e s m below meth c ls hx hb hr hml hown htw hlk hnm hK hW hl => ?_)
  have hS : va_S (tm_A Hb) s.heap s.heap [] := va_S.rf
  have hl : lv_has ls 1 [(0, .ref q)] := hl
  obtain ⟨s0, s1, s2, r0, r1⟩ := hs
  refine lv_aload_n hx hb dX5_fits_0 rfl (lv_at hl 0 rfl) ?_
  refine gf_X5_10 hx hb htw hown hK hW (by assumption) (by assumption) dX5_fits_1 ?_
  refine tm_calli (cs_X5_51 hx hb hml hown htw hK hW (by assumption) (c_X0_fits (by assumption) hq.1) ⟨rfl, rfl, Nat.le_of_ble_eq_true rfl, Nat.le_of_ble_eq_true rfl⟩ hl.1 (Nat.le_of_ble_eq_true rfl) dX5_fits_4 ⟨Nat.le_of_ble_eq_true rfl, Nat.le_of_ble_eq_true rfl⟩) hS (fun x4 M4 H locs hp4 hW hS => ?_)
  obtain ⟨ex4, eM4⟩ := hp4
  rw [eM4] at hW
  rw [ex4]
  refine ti_if_eq (tgt := 24) hx hb dX5_fits_7 (by decide) (tl_b_r _) (fun h7 => ?_) (fun h7 => ?_)
  · have hz3 : ¬ (ffit (fr M (q + 1)) ∧ ffit (fr M (q + 2))) := fun z => by first | exact tl_b_0.mp h7 z.1 | exact tl_b_0.mp h17 z.2
    refine ti_iconst hx hb dX5_fits_24 ?_
    exact tm_zret hx hb hr hlk (by first | exact Or.inl rfl | exact Or.inr rfl | assumption) hK hW hS ⟨by first | exact tl_b_f hz3 | exact tl_b_t ⟨hz, hz2⟩, rfl⟩ dX5_fits_25
  · have hz := tl_b_n.mp h7
    refine lv_aload_n hx hb dX5_fits_10 rfl (lv_at hl 0 rfl) ?_
    refine gf_X5_16 hx hb htw hown hK hW (by assumption) (by assumption) dX5_fits_11 ?_
    refine tm_calli (cs_X5_51 hx hb hml hown htw hK hW (by assumption) (c_X0_fits (by assumption) hq.2) ⟨rfl, rfl, Nat.le_of_ble_eq_true rfl, Nat.le_of_ble_eq_true rfl⟩ hl.1 (Nat.le_of_ble_eq_true rfl) dX5_fits_14 ⟨Nat.le_of_ble_eq_true rfl, Nat.le_of_ble_eq_true rfl⟩) hS (fun x14 M14 H locs hp14 hW hS => ?_)
    obtain ⟨ex14, eM14⟩ := hp14
    rw [eM14] at hW
    rw [ex14]
    refine ti_if_eq (tgt := 24) hx hb dX5_fits_17 (by decide) (tl_b_r _) (fun h17 => ?_) (fun h17 => ?_)
    · have hz3 : ¬ (ffit (fr M (q + 1)) ∧ ffit (fr M (q + 2))) := fun z => by first | exact tl_b_0.mp h7 z.1 | exact tl_b_0.mp h17 z.2
      refine ti_iconst hx hb dX5_fits_24 ?_
      exact tm_zret hx hb hr hlk (by first | exact Or.inl rfl | exact Or.inr rfl | assumption) hK hW hS ⟨by first | exact tl_b_f hz3 | exact tl_b_t ⟨hz, hz2⟩, rfl⟩ dX5_fits_25
    · have hz2 := tl_b_n.mp h17
      refine ti_iconst hx hb dX5_fits_20 ?_
      refine lv_goto (tgt := 25) hx hb dX5_fits_21 (by decide) ?_
      exact tm_zret hx hb hr hlk (by first | exact Or.inl rfl | exact Or.inr rfl | assumption) hK hW hS ⟨by first | exact tl_b_f hz3 | exact tl_b_t ⟨hz, hz2⟩, rfl⟩ dX5_fits_25
abbrev tl_L : Type := tl_S × tl_S × Int
def isLn (sh : tm_sh) (M : tm_M) (q : Nat) : Prop := sh q = some (3, 0) ∧ mR M q 0 = some (q + 1) ∧ mR M q 1 = some (q + 4) ∧ isSd sh M (q + 1) ∧ isSd sh M (q + 4)
abbrev ln (M : tm_M) (q : Nat) : tl_L := (sd M (q + 1), sd M (q + 4), mI M q 2)
abbrev lS (M : tm_M) (q : Nat) (v : tl_L) : tm_M := sI (sS (sS M (q + 1) v.1) (q + 4) v.2.1) q 2 v.2.2
/-- sides apart from what was written -/
theorem fr_sS (M : tm_M) {q a : Nat} (v : tl_S) (h : a ≠ q + 1) (h2 : a ≠ q + 2) : fr (sS M q v) a = fr M a := (fr_n _ _ h2).trans (fr_n _ _ h)
theorem sd_sS (M : tm_M) {q o : Nat} (v : tl_S) (h : o + 3 ≤ q ∨ q + 3 ≤ o) : sd (sS M q v) o = sd M o := by
  show (fr (sS M q v) (o + 1), fr (sS M q v) (o + 2)) = _
  rw [fr_sS M v (by omega) (by omega), fr_sS M v (by omega) (by omega)]
theorem sd_self (M : tm_M) (q : Nat) (v : tl_S) : sd (sS M q v) q = v := by
  show (fr (sS M q v) (q + 1), fr (sS M q v) (q + 2)) = v
  rw [show fr (sS M q v) (q + 1) = v.1 from (fr_n _ _ (by omega)).trans (fr_s _ _ _), show fr (sS M q v) (q + 2) = v.2 from fr_s _ _ _]
theorem ln_self (M : tm_M) (q : Nat) (v : tl_L) : ln (lS M q v) q = v := by
  show (sd (sS (sS M (q + 1) v.1) (q + 4) v.2.1) (q + 1), sd (sS (sS M (q + 1) v.1) (q + 4) v.2.1) (q + 4), mI (lS M q v) q 2) = v
  rw [sd_self, sd_sS _ _ (by omega), sd_self, show mI (lS M q v) q 2 = v.2.2 from tm_up_s _ _ _ _]
theorem ln_n (M : tm_M) {q o : Nat} (v : tl_L) (h : o + 7 ≤ q ∨ q + 7 ≤ o) : ln (lS M q v) o = ln M o := by
  show (sd (sS (sS M (q + 1) v.1) (q + 4) v.2.1) (o + 1), sd (sS (sS M (q + 1) v.1) (q + 4) v.2.1) (o + 4), mI (lS M q v) o 2) = _
  rw [sd_sS _ _ (by omega), sd_sS _ _ (by omega), sd_sS _ _ (by omega), sd_sS _ _ (by omega), show mI (lS M q v) o 2 = mI M o 2 from tm_up_a _ _ (by omega)]
theorem dX1_copy_0 : decode cX1_copy 0 = .ok (.aload_n 0, 1) := by decide +kernel
theorem dX1_copy_1 : decode cX1_copy 1 = .ok (.getfield 10, 3) := by decide +kernel
theorem dX1_copy_4 : decode cX1_copy 4 = .ok (.aload_n 1, 1) := by decide +kernel
theorem dX1_copy_5 : decode cX1_copy 5 = .ok (.getfield 10, 3) := by decide +kernel
theorem dX1_copy_8 : decode cX1_copy 8 = .ok (.invokevirtual 19, 3) := by decide +kernel
theorem dX1_copy_11 : decode cX1_copy 11 = .ok (.aload_n 0, 1) := by decide +kernel
theorem dX1_copy_12 : decode cX1_copy 12 = .ok (.getfield 16, 3) := by decide +kernel
theorem dX1_copy_15 : decode cX1_copy 15 = .ok (.aload_n 1, 1) := by decide +kernel
theorem dX1_copy_16 : decode cX1_copy 16 = .ok (.getfield 16, 3) := by decide +kernel
theorem dX1_copy_19 : decode cX1_copy 19 = .ok (.invokevirtual 19, 3) := by decide +kernel
theorem dX1_copy_22 : decode cX1_copy 22 = .ok (.aload_n 0, 1) := by decide +kernel
theorem dX1_copy_23 : decode cX1_copy 23 = .ok (.aload_n 1, 1) := by decide +kernel
theorem dX1_copy_24 : decode cX1_copy 24 = .ok (.getfield 23, 3) := by decide +kernel
theorem dX1_copy_27 : decode cX1_copy 27 = .ok (.putfield 23, 3) := by decide +kernel
theorem dX1_copy_30 : decode cX1_copy 30 = .ok (.return_, 1) := by decide +kernel
set_option maxHeartbeats 4000000 in
set_option maxRecDepth 100000 in
/-- Line.copy -/
theorem c_X1_copy {l : Launch} {G : tm_G} {Hb : Heap} {sh : tm_sh} {M : tm_M} {q o : Nat} (hs : isLn sh M q) (ht : isLn sh M o) (hne : o + 7 ≤ q ∨ q + 7 ≤ o) : Met l yX1_copy (tws yX1_copy cX1_copy 2 none) ({ frames := 2, cells := 0, slots := 0, locals := 42 }) (va_Pc [.ref q, .ref o] (tm_St G Hb sh M)) (tm_Qv G Hb sh (fun M1 => M1 = lS M q (ln M o))) 0 0 (tm_A Hb) := by
  refine tm_begin (by decide) (Nat.le_of_ble_eq_true rfl) (fun p e s m below meth c ls hx hb hr hml hown htw hlk hnm hK hW hl => ?_)
  have hS : va_S (tm_A Hb) s.heap s.heap [] := va_S.rf
  have hl : lv_has ls 2 [(0, .ref q), (1, .ref o)] := hl
  obtain ⟨l0, l1, l2, l3, l4⟩ := hs
  obtain ⟨k0, k1, k2, k3, k4⟩ := ht
  have l30 := l3.1
  have l40 := l4.1
  have k30 := k3.1
  have k40 := k4.1
  refine lv_aload_n hx hb dX1_copy_0 rfl (lv_at hl 0 rfl) ?_
  refine gf_X1_10 hx hb htw hown hK hW (by assumption) (by assumption) dX1_copy_1 ?_
  refine lv_aload_n hx hb dX1_copy_4 rfl (lv_at hl 1 rfl) ?_
  refine gf_X1_10 hx hb htw hown hK hW (by assumption) (by assumption) dX1_copy_5 ?_
  refine tm_callv (cs_X1_19 hx hb hml hown htw hK hW (by assumption) (c_X5_copy l3 k3 (by omega)) ⟨rfl, rfl, Nat.le_of_ble_eq_true rfl, Nat.le_of_ble_eq_true rfl⟩ hl.1 (Nat.le_of_ble_eq_true rfl) dX1_copy_8 ⟨Nat.le_of_ble_eq_true rfl, Nat.le_of_ble_eq_true rfl⟩) hS (fun M8 H locs hp8 hW hS => ?_)
  rw [hp8] at hW
  refine lv_aload_n hx hb dX1_copy_11 rfl (lv_at hl 0 rfl) ?_
  refine gf_X1_16 hx hb htw hown hK hW (by assumption) (by assumption) dX1_copy_12 ?_
  refine lv_aload_n hx hb dX1_copy_15 rfl (lv_at hl 1 rfl) ?_
  refine gf_X1_16 hx hb htw hown hK hW (by assumption) (by assumption) dX1_copy_16 ?_
  refine tm_callv (cs_X1_19 hx hb hml hown htw hK hW (by assumption) (c_X5_copy l4 k4 (by omega)) ⟨rfl, rfl, Nat.le_of_ble_eq_true rfl, Nat.le_of_ble_eq_true rfl⟩ hl.1 (Nat.le_of_ble_eq_true rfl) dX1_copy_19 ⟨Nat.le_of_ble_eq_true rfl, Nat.le_of_ble_eq_true rfl⟩) hS (fun M19 H locs hp19 hW hS => ?_)
  rw [hp19] at hW
  rw [sd_sS M _ (by omega)] at hW
  refine lv_aload_n hx hb dX1_copy_22 rfl (lv_at hl 0 rfl) ?_
  refine lv_aload_n hx hb dX1_copy_23 rfl (lv_at hl 1 rfl) ?_
  refine gf_X1_23 hx hb htw hown hK hW (by assumption) dX1_copy_24 ?_
  refine pf_X1_23 hx hb htw hown hK hW (by assumption) hS dX1_copy_27 (fun H locs hW hS => ?_)
  exact tm_vret hx hb hr hlk hK hW hS rfl dX1_copy_30
theorem dX1_turnRelation_0 : decode cX1_turnRelation 0 = .ok (.aload_n 0, 1) := by decide +kernel
theorem dX1_turnRelation_1 : decode cX1_turnRelation 1 = .ok (.getfield 23, 3) := by decide +kernel
theorem dX1_turnRelation_4 : decode cX1_turnRelation 4 = .ok (.ifCond .eq 20, 3) := by decide +kernel
theorem dX1_turnRelation_7 : decode cX1_turnRelation 7 = .ok (.aload_n 0, 1) := by decide +kernel
theorem dX1_turnRelation_8 : decode cX1_turnRelation 8 = .ok (.aload_n 0, 1) := by decide +kernel
theorem dX1_turnRelation_9 : decode cX1_turnRelation 9 = .ok (.getfield 23, 3) := by decide +kernel
theorem dX1_turnRelation_12 : decode cX1_turnRelation 12 = .ok (.iconst 1, 1) := by decide +kernel
theorem dX1_turnRelation_13 : decode cX1_turnRelation 13 = .ok (.if_icmp .ne 7, 3) := by decide +kernel
theorem dX1_turnRelation_16 : decode cX1_turnRelation 16 = .ok (.iconst 2, 1) := by decide +kernel
theorem dX1_turnRelation_17 : decode cX1_turnRelation 17 = .ok (.goto 4, 3) := by decide +kernel
theorem dX1_turnRelation_20 : decode cX1_turnRelation 20 = .ok (.iconst 1, 1) := by decide +kernel
theorem dX1_turnRelation_21 : decode cX1_turnRelation 21 = .ok (.putfield 23, 3) := by decide +kernel
theorem dX1_turnRelation_24 : decode cX1_turnRelation 24 = .ok (.return_, 1) := by decide +kernel
set_option maxHeartbeats 4000000 in
set_option maxRecDepth 100000 in
/-- Line.turnRelation -/
theorem c_X1_turnRelation {l : Launch} {G : tm_G} {Hb : Heap} {sh : tm_sh} {M : tm_M} {q : Nat} (hs : isLn sh M q) (hr1 : 0 ≤ mI M q 2 ∧ mI M q 2 ≤ 2) : Met l yX1_turnRelation (tws yX1_turnRelation cX1_turnRelation 1 none) ({ frames := 0, cells := 0, slots := 0, locals := 0 }) (va_Pc [.ref q] (tm_St G Hb sh M)) (tm_Qv G Hb sh (fun M1 => M1 = if mI M q 2 = 0 then M else sI M q 2 (3 - mI M q 2))) 0 0 (tm_A Hb) := by
  refine tm_begin (by decide) (Nat.le_of_ble_eq_true rfl) (fun p e s m below meth c ls hx hb hr hml hown htw hlk hnm hK hW hl => ?_)
  have hS : va_S (tm_A Hb) s.heap s.heap [] := va_S.rf
  have hl : lv_has ls 1 [(0, .ref q)] := hl
  obtain ⟨l0, l1, l2, l3, l4⟩ := hs
  refine lv_aload_n hx hb dX1_turnRelation_0 rfl (lv_at hl 0 rfl) ?_
  refine gf_X1_23 hx hb htw hown hK hW (by assumption) dX1_turnRelation_1 ?_
  refine ti_if_eq (tgt := 24) hx hb dX1_turnRelation_4 (by decide) (by omega) (fun h4 => ?_) (fun h4 => ?_)
  · exact tm_vret hx hb hr hlk hK hW hS (by first | rw [if_pos h4] | rw [if_neg h4, show (3 - mI M q 2) = 2 by omega] | rw [if_neg h4, show (3 - mI M q 2) = 1 by omega]) dX1_turnRelation_24
  · refine lv_aload_n hx hb dX1_turnRelation_7 rfl (lv_at hl 0 rfl) ?_
    refine lv_aload_n hx hb dX1_turnRelation_8 rfl (lv_at hl 0 rfl) ?_
    refine gf_X1_23 hx hb htw hown hK hW (by assumption) dX1_turnRelation_9 ?_
    refine ti_iconst hx hb dX1_turnRelation_12 ?_
    refine ti_icmp_ne (tgt := 20) hx hb dX1_turnRelation_13 (by decide) (by omega) (by omega) (fun h13 => ?_) (fun h13 => ?_)
    · refine ti_iconst hx hb dX1_turnRelation_20 ?_
      refine pf_X1_23 hx hb htw hown hK hW (by assumption) hS dX1_turnRelation_21 (fun H locs hW hS => ?_)
      exact tm_vret hx hb hr hlk hK hW hS (by first | rw [if_pos h4] | rw [if_neg h4, show (3 - mI M q 2) = 2 by omega] | rw [if_neg h4, show (3 - mI M q 2) = 1 by omega]) dX1_turnRelation_24
    · refine ti_iconst hx hb dX1_turnRelation_16 ?_
      refine lv_goto (tgt := 21) hx hb dX1_turnRelation_17 (by decide) ?_
      refine pf_X1_23 hx hb htw hown hK hW (by assumption) hS dX1_turnRelation_21 (fun H locs hW hS => ?_)
      exact tm_vret hx hb hr hlk hK hW hS (by first | rw [if_pos h4] | rw [if_neg h4, show (3 - mI M q 2) = 2 by omega] | rw [if_neg h4, show (3 - mI M q 2) = 1 by omega]) dX1_turnRelation_24
theorem dX1_sameAs_0 : decode cX1_sameAs 0 = .ok (.aload_n 0, 1) := by decide +kernel
theorem dX1_sameAs_1 : decode cX1_sameAs 1 = .ok (.getfield 23, 3) := by decide +kernel
theorem dX1_sameAs_4 : decode cX1_sameAs 4 = .ok (.aload_n 1, 1) := by decide +kernel
theorem dX1_sameAs_5 : decode cX1_sameAs 5 = .ok (.getfield 23, 3) := by decide +kernel
theorem dX1_sameAs_8 : decode cX1_sameAs 8 = .ok (.if_icmp .ne 35, 3) := by decide +kernel
theorem dX1_sameAs_11 : decode cX1_sameAs 11 = .ok (.aload_n 0, 1) := by decide +kernel
theorem dX1_sameAs_12 : decode cX1_sameAs 12 = .ok (.getfield 10, 3) := by decide +kernel
theorem dX1_sameAs_15 : decode cX1_sameAs 15 = .ok (.aload_n 1, 1) := by decide +kernel
theorem dX1_sameAs_16 : decode cX1_sameAs 16 = .ok (.getfield 10, 3) := by decide +kernel
theorem dX1_sameAs_19 : decode cX1_sameAs 19 = .ok (.invokevirtual 27, 3) := by decide +kernel
theorem dX1_sameAs_22 : decode cX1_sameAs 22 = .ok (.ifCond .eq 21, 3) := by decide +kernel
theorem dX1_sameAs_25 : decode cX1_sameAs 25 = .ok (.aload_n 0, 1) := by decide +kernel
theorem dX1_sameAs_26 : decode cX1_sameAs 26 = .ok (.getfield 16, 3) := by decide +kernel
theorem dX1_sameAs_29 : decode cX1_sameAs 29 = .ok (.aload_n 1, 1) := by decide +kernel
theorem dX1_sameAs_30 : decode cX1_sameAs 30 = .ok (.getfield 16, 3) := by decide +kernel
theorem dX1_sameAs_33 : decode cX1_sameAs 33 = .ok (.invokevirtual 27, 3) := by decide +kernel
theorem dX1_sameAs_36 : decode cX1_sameAs 36 = .ok (.ifCond .eq 7, 3) := by decide +kernel
theorem dX1_sameAs_39 : decode cX1_sameAs 39 = .ok (.iconst 1, 1) := by decide +kernel
theorem dX1_sameAs_40 : decode cX1_sameAs 40 = .ok (.goto 4, 3) := by decide +kernel
theorem dX1_sameAs_43 : decode cX1_sameAs 43 = .ok (.iconst 0, 1) := by decide +kernel
theorem dX1_sameAs_44 : decode cX1_sameAs 44 = .ok (.ireturn, 1) := by decide +kernel
set_option maxHeartbeats 4000000 in
set_option maxRecDepth 100000 in
/-- Line.sameAs -/
theorem c_X1_sameAs {l : Launch} {G : tm_G} {Hb : Heap} {sh : tm_sh} {M : tm_M} {q o : Nat} (hs : isLn sh M q) (ht : isLn sh M o) (hq : (fLok (fr M (q + 2)) ∧ fLok (fr M (q + 3))) ∧ fLok (fr M (q + 5)) ∧ fLok (fr M (q + 6))) (ho : (fLok (fr M (o + 2)) ∧ fLok (fr M (o + 3))) ∧ fLok (fr M (o + 5)) ∧ fLok (fr M (o + 6))) (hrq : inI (mI M q 2)) (hro : inI (mI M o 2)) : Met l yX1_sameAs (tws yX1_sameAs cX1_sameAs 2 (some .boolean)) ({ frames := 2, cells := 0, slots := 0, locals := 42 }) (va_Pc [.ref q, .ref o] (tm_St G Hb sh M)) (tm_Qi G Hb sh (fun x M1 => x = tl_b (ln M q = ln M o) ∧ M1 = M)) 0 0 (tm_A Hb) := by
  refine tm_begin (by decide) (Nat.le_of_ble_eq_true rfl) (fun p e s m below meth c ls hx hb hr hml hown htw hlk hnm hK hW hl => ?_)
  have hS : va_S (tm_A Hb) s.heap s.heap [] := va_S.rf
  have hl : lv_has ls 2 [(0, .ref q), (1, .ref o)] := hl
  obtain ⟨l0, l1, l2, l3, l4⟩ := hs
  obtain ⟨k0, k1, k2, k3, k4⟩ := ht
  have l30 := l3.1
  have l40 := l4.1
  have k30 := k3.1
  have k40 := k4.1
  refine lv_aload_n hx hb dX1_sameAs_0 rfl (lv_at hl 0 rfl) ?_
  refine gf_X1_23 hx hb htw hown hK hW (by assumption) dX1_sameAs_1 ?_
  refine lv_aload_n hx hb dX1_sameAs_4 rfl (lv_at hl 1 rfl) ?_
  refine gf_X1_23 hx hb htw hown hK hW (by assumption) dX1_sameAs_5 ?_
  refine ti_icmp_ne (tgt := 43) hx hb dX1_sameAs_8 (by decide) (by omega) (by omega) (fun h8 => ?_) (fun h8 => ?_)
  · have hz3 : ¬ ln M q = ln M o := fun z => by first | exact tl_b_0.mp h36 (congrArg (fun v => v.2.1) z) | exact tl_b_0.mp h22 (congrArg Prod.fst z) | exact h8 (congrArg (fun v => v.2.2) z)
    refine ti_iconst hx hb dX1_sameAs_43 ?_
    exact tm_zret hx hb hr hlk (by first | exact Or.inl rfl | exact Or.inr rfl | assumption) hK hW hS ⟨by first | exact tl_b_f hz3 | exact tl_b_t (Prod.ext hz (Prod.ext hz2 h8)), rfl⟩ dX1_sameAs_44
  · refine lv_aload_n hx hb dX1_sameAs_11 rfl (lv_at hl 0 rfl) ?_
    refine gf_X1_10 hx hb htw hown hK hW (by assumption) (by assumption) dX1_sameAs_12 ?_
    refine lv_aload_n hx hb dX1_sameAs_15 rfl (lv_at hl 1 rfl) ?_
    refine gf_X1_10 hx hb htw hown hK hW (by assumption) (by assumption) dX1_sameAs_16 ?_
    refine tm_calli (cs_X1_27 hx hb hml hown htw hK hW (by assumption) (c_X5_sameAs l3 k3 hq.1 ho.1) ⟨rfl, rfl, Nat.le_of_ble_eq_true rfl, Nat.le_of_ble_eq_true rfl⟩ hl.1 (Nat.le_of_ble_eq_true rfl) dX1_sameAs_19 ⟨Nat.le_of_ble_eq_true rfl, Nat.le_of_ble_eq_true rfl⟩) hS (fun x19 M19 H locs hp19 hW hS => ?_)
    obtain ⟨ex19, eM19⟩ := hp19
    rw [eM19] at hW
    rw [ex19]
    refine ti_if_eq (tgt := 43) hx hb dX1_sameAs_22 (by decide) (tl_b_r _) (fun h22 => ?_) (fun h22 => ?_)
    · have hz3 : ¬ ln M q = ln M o := fun z => by first | exact tl_b_0.mp h36 (congrArg (fun v => v.2.1) z) | exact tl_b_0.mp h22 (congrArg Prod.fst z) | exact h8 (congrArg (fun v => v.2.2) z)
      refine ti_iconst hx hb dX1_sameAs_43 ?_
      exact tm_zret hx hb hr hlk (by first | exact Or.inl rfl | exact Or.inr rfl | assumption) hK hW hS ⟨by first | exact tl_b_f hz3 | exact tl_b_t (Prod.ext hz (Prod.ext hz2 h8)), rfl⟩ dX1_sameAs_44
    · have hz := tl_b_n.mp h22
      refine lv_aload_n hx hb dX1_sameAs_25 rfl (lv_at hl 0 rfl) ?_
      refine gf_X1_16 hx hb htw hown hK hW (by assumption) (by assumption) dX1_sameAs_26 ?_
      refine lv_aload_n hx hb dX1_sameAs_29 rfl (lv_at hl 1 rfl) ?_
      refine gf_X1_16 hx hb htw hown hK hW (by assumption) (by assumption) dX1_sameAs_30 ?_
      refine tm_calli (cs_X1_27 hx hb hml hown htw hK hW (by assumption) (c_X5_sameAs l4 k4 hq.2 ho.2) ⟨rfl, rfl, Nat.le_of_ble_eq_true rfl, Nat.le_of_ble_eq_true rfl⟩ hl.1 (Nat.le_of_ble_eq_true rfl) dX1_sameAs_33 ⟨Nat.le_of_ble_eq_true rfl, Nat.le_of_ble_eq_true rfl⟩) hS (fun x33 M33 H locs hp33 hW hS => ?_)
      obtain ⟨ex33, eM33⟩ := hp33
      rw [eM33] at hW
      rw [ex33]
      refine ti_if_eq (tgt := 43) hx hb dX1_sameAs_36 (by decide) (tl_b_r _) (fun h36 => ?_) (fun h36 => ?_)
      · have hz3 : ¬ ln M q = ln M o := fun z => by first | exact tl_b_0.mp h36 (congrArg (fun v => v.2.1) z) | exact tl_b_0.mp h22 (congrArg Prod.fst z) | exact h8 (congrArg (fun v => v.2.2) z)
        refine ti_iconst hx hb dX1_sameAs_43 ?_
        exact tm_zret hx hb hr hlk (by first | exact Or.inl rfl | exact Or.inr rfl | assumption) hK hW hS ⟨by first | exact tl_b_f hz3 | exact tl_b_t (Prod.ext hz (Prod.ext hz2 h8)), rfl⟩ dX1_sameAs_44
      · have hz2 := tl_b_n.mp h36
        refine ti_iconst hx hb dX1_sameAs_39 ?_
        refine lv_goto (tgt := 44) hx hb dX1_sameAs_40 (by decide) ?_
        exact tm_zret hx hb hr hlk (by first | exact Or.inl rfl | exact Or.inr rfl | assumption) hK hW hS ⟨by first | exact tl_b_f hz3 | exact tl_b_t (Prod.ext hz (Prod.ext hz2 h8)), rfl⟩ dX1_sameAs_44
theorem dX1_fits_0 : decode cX1_fits 0 = .ok (.aload_n 0, 1) := by decide +kernel
theorem dX1_fits_1 : decode cX1_fits 1 = .ok (.getfield 10, 3) := by decide +kernel
theorem dX1_fits_4 : decode cX1_fits 4 = .ok (.invokevirtual 31, 3) := by decide +kernel
theorem dX1_fits_7 : decode cX1_fits 7 = .ok (.ifCond .eq 17, 3) := by decide +kernel
theorem dX1_fits_10 : decode cX1_fits 10 = .ok (.aload_n 0, 1) := by decide +kernel
theorem dX1_fits_11 : decode cX1_fits 11 = .ok (.getfield 16, 3) := by decide +kernel
theorem dX1_fits_14 : decode cX1_fits 14 = .ok (.invokevirtual 31, 3) := by decide +kernel
theorem dX1_fits_17 : decode cX1_fits 17 = .ok (.ifCond .eq 7, 3) := by decide +kernel
theorem dX1_fits_20 : decode cX1_fits 20 = .ok (.iconst 1, 1) := by decide +kernel
theorem dX1_fits_21 : decode cX1_fits 21 = .ok (.goto 4, 3) := by decide +kernel
theorem dX1_fits_24 : decode cX1_fits 24 = .ok (.iconst 0, 1) := by decide +kernel
theorem dX1_fits_25 : decode cX1_fits 25 = .ok (.ireturn, 1) := by decide +kernel
set_option maxHeartbeats 4000000 in
set_option maxRecDepth 100000 in
/-- Line.fits -/
theorem c_X1_fits {l : Launch} {G : tm_G} {Hb : Heap} {sh : tm_sh} {M : tm_M} {q : Nat} (hs : isLn sh M q) (hq : (fLok (fr M (q + 2)) ∧ fLok (fr M (q + 3))) ∧ fLok (fr M (q + 5)) ∧ fLok (fr M (q + 6))) : Met l yX1_fits (tws yX1_fits cX1_fits 1 (some .boolean)) ({ frames := 2, cells := 0, slots := 0, locals := 40 }) (va_Pc [.ref q] (tm_St G Hb sh M)) (tm_Qi G Hb sh (fun x M1 => x = tl_b ((ffit (fr M (q + 2)) ∧ ffit (fr M (q + 3))) ∧ ffit (fr M (q + 5)) ∧ ffit (fr M (q + 6))) ∧ M1 = M)) 0 0 (tm_A Hb) := by
  refine tm_begin (by decide) (Nat.le_of_ble_eq_true rfl) (fun p e s m below meth c ls hx hb hr hml hown htw hlk hnm hK hW hl => ?_)
  have hS : va_S (tm_A Hb) s.heap s.heap [] := va_S.rf
  have hl : lv_has ls 1 [(0, .ref q)] := hl
  obtain ⟨l0, l1, l2, l3, l4⟩ := hs
  have l30 := l3.1
  have l40 := l4.1
  refine lv_aload_n hx hb dX1_fits_0 rfl (lv_at hl 0 rfl) ?_
  refine gf_X1_10 hx hb htw hown hK hW (by assumption) (by assumption) dX1_fits_1 ?_
  refine tm_calli (cs_X1_31 hx hb hml hown htw hK hW (by assumption) (c_X5_fits l3 hq.1) ⟨rfl, rfl, Nat.le_of_ble_eq_true rfl, Nat.le_of_ble_eq_true rfl⟩ hl.1 (Nat.le_of_ble_eq_true rfl) dX1_fits_4 ⟨Nat.le_of_ble_eq_true rfl, Nat.le_of_ble_eq_true rfl⟩) hS (fun x4 M4 H locs hp4 hW hS => ?_)
  obtain ⟨ex4, eM4⟩ := hp4
  rw [eM4] at hW
  rw [ex4]
  refine ti_if_eq (tgt := 24) hx hb dX1_fits_7 (by decide) (tl_b_r _) (fun h7 => ?_) (fun h7 => ?_)
  · have hz3 : ¬ ((ffit (fr M (q + 2)) ∧ ffit (fr M (q + 3))) ∧ ffit (fr M (q + 5)) ∧ ffit (fr M (q + 6))) := fun z => by first | exact tl_b_0.mp h7 z.1 | exact tl_b_0.mp h17 z.2
    refine ti_iconst hx hb dX1_fits_24 ?_
    exact tm_zret hx hb hr hlk (by first | exact Or.inl rfl | exact Or.inr rfl | assumption) hK hW hS ⟨by first | exact tl_b_f hz3 | exact tl_b_t ⟨hz, hz2⟩, rfl⟩ dX1_fits_25
  · have hz := tl_b_n.mp h7
    refine lv_aload_n hx hb dX1_fits_10 rfl (lv_at hl 0 rfl) ?_
    refine gf_X1_16 hx hb htw hown hK hW (by assumption) (by assumption) dX1_fits_11 ?_
    refine tm_calli (cs_X1_31 hx hb hml hown htw hK hW (by assumption) (c_X5_fits l4 hq.2) ⟨rfl, rfl, Nat.le_of_ble_eq_true rfl, Nat.le_of_ble_eq_true rfl⟩ hl.1 (Nat.le_of_ble_eq_true rfl) dX1_fits_14 ⟨Nat.le_of_ble_eq_true rfl, Nat.le_of_ble_eq_true rfl⟩) hS (fun x14 M14 H locs hp14 hW hS => ?_)
    obtain ⟨ex14, eM14⟩ := hp14
    rw [eM14] at hW
    rw [ex14]
    refine ti_if_eq (tgt := 24) hx hb dX1_fits_17 (by decide) (tl_b_r _) (fun h17 => ?_) (fun h17 => ?_)
    · have hz3 : ¬ ((ffit (fr M (q + 2)) ∧ ffit (fr M (q + 3))) ∧ ffit (fr M (q + 5)) ∧ ffit (fr M (q + 6))) := fun z => by first | exact tl_b_0.mp h7 z.1 | exact tl_b_0.mp h17 z.2
      refine ti_iconst hx hb dX1_fits_24 ?_
      exact tm_zret hx hb hr hlk (by first | exact Or.inl rfl | exact Or.inr rfl | assumption) hK hW hS ⟨by first | exact tl_b_f hz3 | exact tl_b_t ⟨hz, hz2⟩, rfl⟩ dX1_fits_25
    · have hz2 := tl_b_n.mp h17
      refine ti_iconst hx hb dX1_fits_20 ?_
      refine lv_goto (tgt := 25) hx hb dX1_fits_21 (by decide) ?_
      exact tm_zret hx hb hr hlk (by first | exact Or.inl rfl | exact Or.inr rfl | assumption) hK hW hS ⟨by first | exact tl_b_f hz3 | exact tl_b_t ⟨hz, hz2⟩, rfl⟩ dX1_fits_25
