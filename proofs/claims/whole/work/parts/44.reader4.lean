/-! Reader: multiply, divide, readTerm (by program: wip/whole/gen/reader3.py) -/
theorem dX4_multiply_0 : decode cX4_multiply 0 = .ok (.aload_n 0, 1) := by decide +kernel
theorem dX4_multiply_1 : decode cX4_multiply 1 = .ok (.iload_n 1, 1) := by decide +kernel
theorem dX4_multiply_2 : decode cX4_multiply 2 = .ok (.invokevirtual 91, 3) := by decide +kernel
theorem dX4_multiply_5 : decode cX4_multiply 5 = .ok (.ifCond .ne 5, 3) := by decide +kernel
theorem dX4_multiply_8 : decode cX4_multiply 8 = .ok (.iconst 0, 1) := by decide +kernel
theorem dX4_multiply_9 : decode cX4_multiply 9 = .ok (.ireturn, 1) := by decide +kernel
theorem dX4_multiply_10 : decode cX4_multiply 10 = .ok (.aload_n 0, 1) := by decide +kernel
theorem dX4_multiply_11 : decode cX4_multiply 11 = .ok (.getfield 21, 3) := by decide +kernel
theorem dX4_multiply_14 : decode cX4_multiply 14 = .ok (.iload_n 1, 1) := by decide +kernel
theorem dX4_multiply_15 : decode cX4_multiply 15 = .ok (.aaload, 1) := by decide +kernel
theorem dX4_multiply_16 : decode cX4_multiply 16 = .ok (.getfield 101, 3) := by decide +kernel
theorem dX4_multiply_19 : decode cX4_multiply 19 = .ok (.invokevirtual 105, 3) := by decide +kernel
theorem dX4_multiply_22 : decode cX4_multiply 22 = .ok (.ifCond .ne 24, 3) := by decide +kernel
theorem dX4_multiply_25 : decode cX4_multiply 25 = .ok (.aload_n 0, 1) := by decide +kernel
theorem dX4_multiply_26 : decode cX4_multiply 26 = .ok (.getfield 24, 3) := by decide +kernel
theorem dX4_multiply_29 : decode cX4_multiply 29 = .ok (.iload_n 1, 1) := by decide +kernel
theorem dX4_multiply_30 : decode cX4_multiply 30 = .ok (.aaload, 1) := by decide +kernel
theorem dX4_multiply_31 : decode cX4_multiply 31 = .ok (.getfield 101, 3) := by decide +kernel
theorem dX4_multiply_34 : decode cX4_multiply 34 = .ok (.invokevirtual 105, 3) := by decide +kernel
theorem dX4_multiply_37 : decode cX4_multiply 37 = .ok (.ifCond .ne 9, 3) := by decide +kernel
theorem dX4_multiply_40 : decode cX4_multiply 40 = .ok (.aload_n 0, 1) := by decide +kernel
theorem dX4_multiply_41 : decode cX4_multiply 41 = .ok (.iload_n 2, 1) := by decide +kernel
theorem dX4_multiply_42 : decode cX4_multiply 42 = .ok (.invokevirtual 69, 3) := by decide +kernel
theorem dX4_multiply_45 : decode cX4_multiply 45 = .ok (.ireturn, 1) := by decide +kernel
theorem dX4_multiply_46 : decode cX4_multiply 46 = .ok (.aload_n 0, 1) := by decide +kernel
theorem dX4_multiply_47 : decode cX4_multiply 47 = .ok (.getfield 21, 3) := by decide +kernel
theorem dX4_multiply_50 : decode cX4_multiply 50 = .ok (.iload_n 1, 1) := by decide +kernel
theorem dX4_multiply_51 : decode cX4_multiply 51 = .ok (.aaload, 1) := by decide +kernel
theorem dX4_multiply_52 : decode cX4_multiply 52 = .ok (.aload_n 0, 1) := by decide +kernel
theorem dX4_multiply_53 : decode cX4_multiply 53 = .ok (.getfield 24, 3) := by decide +kernel
theorem dX4_multiply_56 : decode cX4_multiply 56 = .ok (.iload_n 1, 1) := by decide +kernel
theorem dX4_multiply_57 : decode cX4_multiply 57 = .ok (.aaload, 1) := by decide +kernel
theorem dX4_multiply_58 : decode cX4_multiply 58 = .ok (.invokevirtual 110, 3) := by decide +kernel
theorem dX4_multiply_61 : decode cX4_multiply 61 = .ok (.iconst 1, 1) := by decide +kernel
theorem dX4_multiply_62 : decode cX4_multiply 62 = .ok (.ireturn, 1) := by decide +kernel
set_option maxHeartbeats 4000000 in
set_option maxRecDepth 100000 in
/-- Reader.multiply -/
theorem c_X4_multiply {l : Launch} {G : tm_G} {Hb : Heap} {sh : tm_sh} {M : tm_M} {rd ta n p1 r d pl : Nat} {t : Nat → Int} (hR : RS sh M rd ta t n p1) (hd : d + r = 8) (hpl : pl ≤ n) (hv : sok (sd M (rd + 8 + 9 * d))) (ih : ∀ r1, r1 + 1 = r → tl_CS l G Hb sh rd ta n t r1) : Met l yX4_multiply (tws yX4_multiply cX4_multiply 3 (some .boolean)) ({ frames := 18 + 6 * r, cells := 0, slots := 0, locals := 350 + 130 * r }) (va_Pc [.ref rd, ji d, ji (pl : Nat)] (tm_St G Hb sh M)) (tm_Qi G Hb sh (fun x M1 => rdM rd (rd + 8 + 9 * d) (rd + 8 + 9 * d) n M M1 (tp_mul (sd M (rd + 8 + 9 * d)) pl (tp_factor t n (tp_in t n r) p1)) x)) 0 0 (tm_A Hb) := by
  refine tm_begin (by decide) (Nat.le_of_ble_eq_true rfl) (fun p e s m below meth c ls hx hb hr hml hown htw hlk hnm hK hW hl => ?_)
  have hS : va_S (tm_A Hb) s.heap s.heap [] := va_S.rf
  have hl : lv_has ls 3 [(0, .ref rd), (1, ji d), (2, ji (pl : Nat))] := hl
  obtain ⟨y0, y1, y2, ⟨y3, y4, y5⟩, ⟨y6, y7, y8⟩, -⟩ := hR.1
  obtain ⟨z0, z1, z2, z3, z4, z5⟩ := rdA hR.1 (d := d) (by omega)
  have w3 := z3.1
  have w4 := z4.1
  have w5 := z5.1
  refine lv_aload_n hx hb dX4_multiply_0 rfl (lv_at hl 0 rfl) ?_
  refine lv_iload_n hx hb dX4_multiply_1 rfl (lv_at hl 1 rfl) ?_
  refine tm_calli (cs_X4_91 hx hb hml hown htw hK hW (by assumption) (c_X4_readFactor hR hd ih) ⟨rfl, rfl, by dsimp only; omega, by dsimp only; omega⟩ hl.1 (Nat.le_of_ble_eq_true rfl) dX4_multiply_2 ⟨Nat.le_of_ble_eq_true rfl, Nat.le_of_ble_eq_true rfl⟩) hS (fun x2 M2 H locs hp2 hW hS => ?_)
  refine ti_if_ne (tgt := 10) hx hb dX4_multiply_5 (by decide) (rdR_r hp2) (fun h5 => ?_) (fun h5 => ?_)
  · obtain ⟨x2v, e2, g2, l2, v2, k2, s2⟩ := rdR_1 hp2 h5
    have F2 := rdf_wd (lo' := (rd + 8 + 9 * d)) s2 (by omega)
    have R2 := RS_m hR F2 g2 l2
    obtain ⟨y0a, y1a, y2a, ⟨y3a, y4a, y5a⟩, ⟨y6a, y7a, y8a⟩, -⟩ := R2.1
    obtain ⟨z0a, z1a, z2a, z3a, z4a, z5a⟩ := rdA R2.1 (d := d) (by omega)
    have w3a := z3a.1
    have w4a := z4a.1
    have w5a := z5a.1
    have u2 : sd M2 (rd + 8 + 9 * d) = sd M (rd + 8 + 9 * d) := rdf_sd s2 (by omega)
    have v0 : mL M2 (rd + 8 + 9 * d + 1) 0 = (sd M (rd + 8 + 9 * d)).1.1 := congrArg (fun v => v.1.1) u2
    have v1 : mL M2 (rd + 11 + 9 * d + 1) 0 = x2v.2.1.1 := congrArg (fun v => v.1.1) v2
    refine lv_aload_n hx hb dX4_multiply_10 rfl (lv_at hl 0 rfl) ?_
    refine gf_X4_21 hx hb htw hown hK hW (by assumption) (by assumption) dX4_multiply_11 ?_
    refine lv_iload_n hx hb dX4_multiply_14 rfl (lv_at hl 1 rfl) ?_
    refine tm_aaldS hx hb hK hW (by assumption) (by omega) (by omega) (by decide) z1a dX4_multiply_15 ?_
    refine gf_X4_101 hx hb htw hown hK hW w4a z4a.2.2.2.1 dX4_multiply_16 ?_
    refine tm_calli (cs_X4_105 hx hb hml hown htw hK hW z4a.2.1 (c_X0_isZero z4a.2.1 (by rw [v0]; exact (fok_L hv.1).1)) ⟨rfl, rfl, by dsimp only; omega, by dsimp only; omega⟩ hl.1 (Nat.le_of_ble_eq_true rfl) dX4_multiply_19 ⟨Nat.le_of_ble_eq_true rfl, Nat.le_of_ble_eq_true rfl⟩) hS (fun x19 M19 H locs hp19 hW hS => ?_)
    obtain ⟨ex19, eM19⟩ := hp19
    rw [eM19] at hW
    rw [ex19]
    refine ti_if_ne (tgt := 46) hx hb dX4_multiply_22 (by decide) (tl_b_r _) (fun h22 => ?_) (fun h22 => ?_)
    · have zz : ¬ (¬ (sd M (rd + 8 + 9 * d)).1.1 = 0 ∧ ¬ x2v.2.1.1 = 0) := by
            intro z
            first | exact z.1 (by rw [← v0]; exact tl_b_n.mp h22) | exact z.2 (by rw [← v1]; exact tl_b_n.mp h37)
      refine lv_aload_n hx hb dX4_multiply_46 rfl (lv_at hl 0 rfl) ?_
      refine gf_X4_21 hx hb htw hown hK hW (by assumption) (by assumption) dX4_multiply_47 ?_
      refine lv_iload_n hx hb dX4_multiply_50 rfl (lv_at hl 1 rfl) ?_
      refine tm_aaldS hx hb hK hW (by assumption) (by omega) (by omega) (by decide) z1a dX4_multiply_51 ?_
      refine lv_aload_n hx hb dX4_multiply_52 rfl (lv_at hl 0 rfl) ?_
      refine gf_X4_24 hx hb htw hown hK hW (by assumption) (by assumption) dX4_multiply_53 ?_
      refine lv_iload_n hx hb dX4_multiply_56 rfl (lv_at hl 1 rfl) ?_
      refine tm_aaldS hx hb hK hW (by assumption) (by omega) (by omega) (by decide) z2a dX4_multiply_57 ?_
      refine tm_callv (cs_X4_110 hx hb hml hown htw hK hW w4a (c_X5_multiply z4a z5a (by omega) (by rw [u2]; exact hv) (by rw [v2]; exact k2)) ⟨rfl, rfl, by dsimp only; omega, by dsimp only; omega⟩ hl.1 (Nat.le_of_ble_eq_true rfl) dX4_multiply_58 ⟨Nat.le_of_ble_eq_true rfl, Nat.le_of_ble_eq_true rfl⟩) hS (fun M58 H locs hp58 hW hS => ?_)
      refine ti_iconst hx hb dX4_multiply_61 ?_
      exact tm_zret hx hb hr hlk (by first | exact Or.inl rfl | exact Or.inr rfl | assumption) hK hW hS (rdM_T (x := (x2v.1, smul (sd M (rd + 8 + 9 * d)) x2v.2)) (by rw [hp58]; exact rdf_tr F2 (rdf_sS (by omega) (by omega))) (by rw [e2]; exact if_neg zz) (by rw [hp58]; exact g2) l2 (by rw [hp58, u2, v2]; exact sd_self _ _ _) (sLok_smul hv k2) (sok_smul hv k2)) dX4_multiply_62
    · refine lv_aload_n hx hb dX4_multiply_25 rfl (lv_at hl 0 rfl) ?_
      refine gf_X4_24 hx hb htw hown hK hW (by assumption) (by assumption) dX4_multiply_26 ?_
      refine lv_iload_n hx hb dX4_multiply_29 rfl (lv_at hl 1 rfl) ?_
      refine tm_aaldS hx hb hK hW (by assumption) (by omega) (by omega) (by decide) z2a dX4_multiply_30 ?_
      refine gf_X4_101 hx hb htw hown hK hW w5a z5a.2.2.2.1 dX4_multiply_31 ?_
      refine tm_calli (cs_X4_105 hx hb hml hown htw hK hW z5a.2.1 (c_X0_isZero z5a.2.1 (by rw [v1]; exact (fok_L k2.1).1)) ⟨rfl, rfl, by dsimp only; omega, by dsimp only; omega⟩ hl.1 (Nat.le_of_ble_eq_true rfl) dX4_multiply_34 ⟨Nat.le_of_ble_eq_true rfl, Nat.le_of_ble_eq_true rfl⟩) hS (fun x34 M34 H locs hp34 hW hS => ?_)
      obtain ⟨ex34, eM34⟩ := hp34
      rw [eM34] at hW
      rw [ex34]
      refine ti_if_ne (tgt := 46) hx hb dX4_multiply_37 (by decide) (tl_b_r _) (fun h37 => ?_) (fun h37 => ?_)
      · have zz : ¬ (¬ (sd M (rd + 8 + 9 * d)).1.1 = 0 ∧ ¬ x2v.2.1.1 = 0) := by
            intro z
            first | exact z.1 (by rw [← v0]; exact tl_b_n.mp h22) | exact z.2 (by rw [← v1]; exact tl_b_n.mp h37)
        refine lv_aload_n hx hb dX4_multiply_46 rfl (lv_at hl 0 rfl) ?_
        refine gf_X4_21 hx hb htw hown hK hW (by assumption) (by assumption) dX4_multiply_47 ?_
        refine lv_iload_n hx hb dX4_multiply_50 rfl (lv_at hl 1 rfl) ?_
        refine tm_aaldS hx hb hK hW (by assumption) (by omega) (by omega) (by decide) z1a dX4_multiply_51 ?_
        refine lv_aload_n hx hb dX4_multiply_52 rfl (lv_at hl 0 rfl) ?_
        refine gf_X4_24 hx hb htw hown hK hW (by assumption) (by assumption) dX4_multiply_53 ?_
        refine lv_iload_n hx hb dX4_multiply_56 rfl (lv_at hl 1 rfl) ?_
        refine tm_aaldS hx hb hK hW (by assumption) (by omega) (by omega) (by decide) z2a dX4_multiply_57 ?_
        refine tm_callv (cs_X4_110 hx hb hml hown htw hK hW w4a (c_X5_multiply z4a z5a (by omega) (by rw [u2]; exact hv) (by rw [v2]; exact k2)) ⟨rfl, rfl, by dsimp only; omega, by dsimp only; omega⟩ hl.1 (Nat.le_of_ble_eq_true rfl) dX4_multiply_58 ⟨Nat.le_of_ble_eq_true rfl, Nat.le_of_ble_eq_true rfl⟩) hS (fun M58 H locs hp58 hW hS => ?_)
        refine ti_iconst hx hb dX4_multiply_61 ?_
        exact tm_zret hx hb hr hlk (by first | exact Or.inl rfl | exact Or.inr rfl | assumption) hK hW hS (rdM_T (x := (x2v.1, smul (sd M (rd + 8 + 9 * d)) x2v.2)) (by rw [hp58]; exact rdf_tr F2 (rdf_sS (by omega) (by omega))) (by rw [e2]; exact if_neg zz) (by rw [hp58]; exact g2) l2 (by rw [hp58, u2, v2]; exact sd_self _ _ _) (sLok_smul hv k2) (sok_smul hv k2)) dX4_multiply_62
      · have zz : ¬ (sd M (rd + 8 + 9 * d)).1.1 = 0 ∧ ¬ x2v.2.1.1 = 0 := ⟨by rw [← v0]; exact tl_b_0.mp h22, by rw [← v1]; exact tl_b_0.mp h37⟩
        refine lv_aload_n hx hb dX4_multiply_40 rfl (lv_at hl 0 rfl) ?_
        refine lv_iload_n hx hb dX4_multiply_41 rfl (lv_at hl 2 rfl) ?_
        refine tm_calli (cs_X4_69 hx hb hml hown htw hK hW (by assumption) (c_X4_failAt (by assumption)) ⟨rfl, rfl, by dsimp only; omega, by dsimp only; omega⟩ hl.1 (Nat.le_of_ble_eq_true rfl) dX4_multiply_42 ⟨Nat.le_of_ble_eq_true rfl, Nat.le_of_ble_eq_true rfl⟩) hS (fun x42 M42 H locs hp42 hW hS => ?_)
        obtain ⟨ex42, eM42⟩ := hp42
        rw [ex42]
        exact tm_zret hx hb hr hlk (Or.inl rfl) hK hW hS (rdM_F F2 (f := pl) (by rw [e2]; exact if_pos zz) eM42 rfl) dX4_multiply_45
  · obtain ⟨f2, e2, g2⟩ := rdR_0 hp2 h5
    refine ti_iconst hx hb dX4_multiply_8 ?_
    exact tm_zret hx hb hr hlk (by first | exact Or.inl rfl | exact Or.inr rfl | assumption) hK hW hS ⟨rdx_wd hp2.1 (by omega), Or.inr ⟨f2, by rw [e2]; rfl, rfl, g2⟩⟩ dX4_multiply_9
theorem dX4_divide_0 : decode cX4_divide 0 = .ok (.aload_n 0, 1) := by decide +kernel
theorem dX4_divide_1 : decode cX4_divide 1 = .ok (.aload_n 0, 1) := by decide +kernel
theorem dX4_divide_2 : decode cX4_divide 2 = .ok (.getfield 24, 3) := by decide +kernel
theorem dX4_divide_5 : decode cX4_divide 5 = .ok (.iload_n 1, 1) := by decide +kernel
theorem dX4_divide_6 : decode cX4_divide 6 = .ok (.aaload, 1) := by decide +kernel
theorem dX4_divide_7 : decode cX4_divide 7 = .ok (.invokevirtual 112, 3) := by decide +kernel
theorem dX4_divide_10 : decode cX4_divide 10 = .ok (.ifCond .ne 5, 3) := by decide +kernel
theorem dX4_divide_13 : decode cX4_divide 13 = .ok (.iconst 0, 1) := by decide +kernel
theorem dX4_divide_14 : decode cX4_divide 14 = .ok (.ireturn, 1) := by decide +kernel
theorem dX4_divide_15 : decode cX4_divide 15 = .ok (.aload_n 0, 1) := by decide +kernel
theorem dX4_divide_16 : decode cX4_divide 16 = .ok (.getfield 24, 3) := by decide +kernel
theorem dX4_divide_19 : decode cX4_divide 19 = .ok (.iload_n 1, 1) := by decide +kernel
theorem dX4_divide_20 : decode cX4_divide 20 = .ok (.aaload, 1) := by decide +kernel
theorem dX4_divide_21 : decode cX4_divide 21 = .ok (.getfield 116, 3) := by decide +kernel
theorem dX4_divide_24 : decode cX4_divide 24 = .ok (.astore_n 2, 1) := by decide +kernel
theorem dX4_divide_25 : decode cX4_divide 25 = .ok (.aload_n 2, 1) := by decide +kernel
theorem dX4_divide_26 : decode cX4_divide 26 = .ok (.invokevirtual 105, 3) := by decide +kernel
theorem dX4_divide_29 : decode cX4_divide 29 = .ok (.ifCond .eq 12, 3) := by decide +kernel
theorem dX4_divide_32 : decode cX4_divide 32 = .ok (.aload_n 0, 1) := by decide +kernel
theorem dX4_divide_33 : decode cX4_divide 33 = .ok (.aload_n 0, 1) := by decide +kernel
theorem dX4_divide_34 : decode cX4_divide 34 = .ok (.getfield 119, 3) := by decide +kernel
theorem dX4_divide_37 : decode cX4_divide 37 = .ok (.invokevirtual 69, 3) := by decide +kernel
theorem dX4_divide_40 : decode cX4_divide 40 = .ok (.ireturn, 1) := by decide +kernel
theorem dX4_divide_41 : decode cX4_divide 41 = .ok (.aload_n 0, 1) := by decide +kernel
theorem dX4_divide_42 : decode cX4_divide 42 = .ok (.getfield 21, 3) := by decide +kernel
theorem dX4_divide_45 : decode cX4_divide 45 = .ok (.iload_n 1, 1) := by decide +kernel
theorem dX4_divide_46 : decode cX4_divide 46 = .ok (.aaload, 1) := by decide +kernel
theorem dX4_divide_47 : decode cX4_divide 47 = .ok (.aload_n 2, 1) := by decide +kernel
theorem dX4_divide_48 : decode cX4_divide 48 = .ok (.invokevirtual 122, 3) := by decide +kernel
theorem dX4_divide_51 : decode cX4_divide 51 = .ok (.iconst 1, 1) := by decide +kernel
theorem dX4_divide_52 : decode cX4_divide 52 = .ok (.ireturn, 1) := by decide +kernel
set_option maxHeartbeats 4000000 in
set_option maxRecDepth 100000 in
/-- Reader.divide -/
theorem c_X4_divide {l : Launch} {G : tm_G} {Hb : Heap} {sh : tm_sh} {M : tm_M} {rd ta n p1 r d : Nat} {t : Nat → Int} (hR : RS sh M rd ta t n p1) (hd : d + r = 8) (hv : sok (sd M (rd + 8 + 9 * d))) : Met l yX4_divide (tws yX4_divide cX4_divide 3 (some .boolean)) ({ frames := 18 + 6 * r, cells := 0, slots := 0, locals := 350 + 130 * r }) (va_Pc [.ref rd, ji d] (tm_St G Hb sh M)) (tm_Qi G Hb sh (fun x M1 => rdM rd (rd + 8 + 9 * d) (rd + 8 + 9 * d) n M M1 (tp_dvd (sd M (rd + 8 + 9 * d)) (tp_num t n p1)) x)) 0 0 (tm_A Hb) := by
  refine tm_begin (by decide) (Nat.le_of_ble_eq_true rfl) (fun p e s m below meth c ls hx hb hr hml hown htw hlk hnm hK hW hl => ?_)
  have hS : va_S (tm_A Hb) s.heap s.heap [] := va_S.rf
  have hl : lv_has ls 3 [(0, .ref rd), (1, ji d)] := hl
  obtain ⟨y0, y1, y2, ⟨y3, y4, y5⟩, ⟨y6, y7, y8⟩, -⟩ := hR.1
  obtain ⟨z0, z1, z2, z3, z4, z5⟩ := rdA hR.1 (d := d) (by omega)
  have w3 := z3.1
  have w4 := z4.1
  have w5 := z5.1
  have hp0 := hR.2.2.2.2.2.2
  refine lv_aload_n hx hb dX4_divide_0 rfl (lv_at hl 0 rfl) ?_
  refine lv_aload_n hx hb dX4_divide_1 rfl (lv_at hl 0 rfl) ?_
  refine gf_X4_24 hx hb htw hown hK hW (by assumption) (by assumption) dX4_divide_2 ?_
  refine lv_iload_n hx hb dX4_divide_5 rfl (lv_at hl 1 rfl) ?_
  refine tm_aaldS hx hb hK hW (by assumption) (by omega) (by omega) (by decide) z2 dX4_divide_6 ?_
  refine tm_calli (cs_X4_112 hx hb hml hown htw hK hW (by assumption) (c_X4_readNumber hR z5 (by omega)) ⟨rfl, rfl, by dsimp only; omega, by dsimp only; omega⟩ hl.1 (Nat.le_of_ble_eq_true rfl) dX4_divide_7 ⟨Nat.le_of_ble_eq_true rfl, Nat.le_of_ble_eq_true rfl⟩) hS (fun x7 M7 H locs hp7 hW hS => ?_)
  refine ti_if_ne (tgt := 15) hx hb dX4_divide_10 (by decide) (by rcases rdN_r hp7 with z | z <;> omega) (fun h10 => ?_) (fun h10 => ?_)
  · obtain ⟨x7v, e7, g7, d7, v7, s7⟩ := rdN_1 hp7 h10
    have ok7 := tp_num_ok hp0 e7
    have F7 := rdf_wd (lo' := (rd + 8 + 9 * d)) s7 (by omega)
    have R7 := RS_m hR F7 g7 ok7.1
    obtain ⟨y0a, y1a, y2a, ⟨y3a, y4a, y5a⟩, ⟨y6a, y7a, y8a⟩, -⟩ := R7.1
    obtain ⟨z0a, z1a, z2a, z3a, z4a, z5a⟩ := rdA R7.1 (d := d) (by omega)
    have w3a := z3a.1
    have w4a := z4a.1
    have w5a := z5a.1
    have u7 : sd M7 (rd + 8 + 9 * d) = sd M (rd + 8 + 9 * d) := rdf_sd s7 (by omega)
    have bf : fr M7 (rd + 11 + 9 * d + 2) = (x7v.2.1, 1) := congrArg (fun v => v.2) v7
    have b0 : mL M7 (rd + 11 + 9 * d + 2) 0 = x7v.2.1 := congrArg (fun v => v.2.1) v7
    refine lv_aload_n hx hb dX4_divide_15 rfl (lv_at hl 0 rfl) ?_
    refine gf_X4_24 hx hb htw hown hK hW (by assumption) (by assumption) dX4_divide_16 ?_
    refine lv_iload_n hx hb dX4_divide_19 rfl (lv_at hl 1 rfl) ?_
    refine tm_aaldS hx hb hK hW (by assumption) (by omega) (by omega) (by decide) z2a dX4_divide_20 ?_
    refine gf_X4_116 hx hb htw hown hK hW w5a z5a.2.2.2.2 dX4_divide_21 ?_
    refine lv_astore_n (lv' := [(2, _), (0, _), (1, _)]) hx hb dX4_divide_24 rfl hl (by decide) rfl (fun ls hl => ?_)
    refine lv_aload_n hx hb dX4_divide_25 rfl (lv_at hl 0 rfl) ?_
    refine tm_calli (cs_X4_105 hx hb hml hown htw hK hW z5a.2.2.1 (c_X0_isZero z5a.2.2.1 (by rw [b0]; omega)) ⟨rfl, rfl, by dsimp only; omega, by dsimp only; omega⟩ hl.1 (Nat.le_of_ble_eq_true rfl) dX4_divide_26 ⟨Nat.le_of_ble_eq_true rfl, Nat.le_of_ble_eq_true rfl⟩) hS (fun x26 M26 H locs hp26 hW hS => ?_)
    obtain ⟨ex26, eM26⟩ := hp26
    rw [eM26] at hW
    rw [ex26]
    refine ti_if_eq (tgt := 41) hx hb dX4_divide_29 (by decide) (tl_b_r _) (fun h29 => ?_) (fun h29 => ?_)
    · have zz : ¬ x7v.2.1 = 0 := by rw [← b0]; exact tl_b_0.mp h29
      refine lv_aload_n hx hb dX4_divide_41 rfl (lv_at hl 1 rfl) ?_
      refine gf_X4_21 hx hb htw hown hK hW (by assumption) (by assumption) dX4_divide_42 ?_
      refine lv_iload_n hx hb dX4_divide_45 rfl (lv_at hl 2 rfl) ?_
      refine tm_aaldS hx hb hK hW (by assumption) (by omega) (by omega) (by decide) z1a dX4_divide_46 ?_
      refine lv_aload_n hx hb dX4_divide_47 rfl (lv_at hl 0 rfl) ?_
      refine tm_callv (cs_X4_122 hx hb hml hown htw hK hW w4a (c_X5_divide z4a z5a.2.2.1 (by omega) (by rw [u7]; exact hv) (by rw [bf]; exact fok_num ok7.2.1 ok7.2.2.1) (by rw [bf]; exact zz)) ⟨rfl, rfl, by dsimp only; omega, by dsimp only; omega⟩ hl.1 (Nat.le_of_ble_eq_true rfl) dX4_divide_48 ⟨Nat.le_of_ble_eq_true rfl, Nat.le_of_ble_eq_true rfl⟩) hS (fun M48 H locs hp48 hW hS => ?_)
      refine ti_iconst hx hb dX4_divide_51 ?_
      exact tm_zret hx hb hr hlk (by first | exact Or.inl rfl | exact Or.inr rfl | assumption) hK hW hS (rdM_T (x := (x7v.1, sdiv (sd M (rd + 8 + 9 * d)) (x7v.2.1, 1))) (by rw [hp48]; exact rdf_tr F7 (rdf_sS (by omega) (by omega))) (by rw [e7]; exact if_neg zz) (by rw [hp48]; exact g7) ok7.1 (by rw [hp48, u7, bf]; exact sd_self _ _ _) (sLok_sdiv hv (fok_num ok7.2.1 ok7.2.2.1) zz) (sok_sdiv hv (fok_num ok7.2.1 ok7.2.2.1) zz)) dX4_divide_52
    · have zz : x7v.2.1 = 0 := by rw [← b0]; exact tl_b_n.mp h29
      refine lv_aload_n hx hb dX4_divide_32 rfl (lv_at hl 1 rfl) ?_
      refine lv_aload_n hx hb dX4_divide_33 rfl (lv_at hl 1 rfl) ?_
      refine gf_X4_119 hx hb htw hown hK hW (by assumption) dX4_divide_34 ?_
      refine tm_calli (cs_X4_69 hx hb hml hown htw hK hW (by assumption) (c_X4_failAt (by assumption)) ⟨rfl, rfl, by dsimp only; omega, by dsimp only; omega⟩ hl.1 (Nat.le_of_ble_eq_true rfl) dX4_divide_37 ⟨Nat.le_of_ble_eq_true rfl, Nat.le_of_ble_eq_true rfl⟩) hS (fun x37 M37 H locs hp37 hW hS => ?_)
      obtain ⟨ex37, eM37⟩ := hp37
      rw [ex37]
      exact tm_zret hx hb hr hlk (Or.inl rfl) hK hW hS (rdM_F F7 (f := x7v.2.2) (by rw [e7]; exact if_pos zz) eM37 d7) dX4_divide_40
  · obtain ⟨f7, e7, g7⟩ := rdN_0 hp7 h10
    refine ti_iconst hx hb dX4_divide_13 ?_
    exact tm_zret hx hb hr hlk (by first | exact Or.inl rfl | exact Or.inr rfl | assumption) hK hW hS ⟨rdx_wd hp7.1 (by omega), Or.inr ⟨f7, by rw [e7]; rfl, rfl, g7⟩⟩ dX4_divide_14
