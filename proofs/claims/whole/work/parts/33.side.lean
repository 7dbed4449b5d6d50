/-! Side and Line (by program: wip/whole/gen/side.py). A Side at q has its fractions at q + 1, q + 2; a Line at q its sides at q + 1, q + 4 -/
abbrev tl_F : Type := Int × Int
abbrev tl_S : Type := tl_F × tl_F
def isSd (sh : tm_sh) (M : tm_M) (q : Nat) : Prop := sh q = some (6, 0) ∧ sh (q + 1) = some (2, 0) ∧ sh (q + 2) = some (2, 0) ∧ mR M q 0 = some (q + 1) ∧ mR M q 1 = some (q + 2)
abbrev sd (M : tm_M) (q : Nat) : tl_S := (fr M (q + 1), fr M (q + 2))
abbrev sS (M : tm_M) (q : Nat) (v : tl_S) : tm_M := fS (fS M (q + 1) v.1) (q + 2) v.2
def fok (f : tl_F) : Prop := -9999 ≤ f.1 ∧ f.1 ≤ 9999 ∧ 0 < f.2 ∧ f.2 ≤ 9999
abbrev fadd (f g : tl_F) : tl_F := tl_norm (f.1 * g.2 + g.1 * f.2) (f.2 * g.2)
abbrev fsub (f g : tl_F) : tl_F := tl_norm (f.1 * g.2 - g.1 * f.2) (f.2 * g.2)
abbrev fmul (f g : tl_F) : tl_F := tl_norm (f.1 * g.1) (f.2 * g.2)
abbrev fdiv (f g : tl_F) : tl_F := tl_norm (f.1 * g.2) (f.2 * g.1)
theorem tl_mb {x y : Int} {A B : Nat} (hx : x.natAbs ≤ A) (hy : y.natAbs ≤ B) : (x * y).natAbs ≤ A * B := by
  rw [Int.natAbs_mul]
  exact Nat.mul_le_mul hx hy
theorem fok_ab {f : tl_F} (h : fok f) : f.1.natAbs ≤ 9999 ∧ f.2.natAbs ≤ 9999 ∧ f.2 ≠ 0 := by
  obtain ⟨h1, h2, h3, h4⟩ := h
  exact ⟨by omega, by omega, by omega⟩
theorem fok_L {f : tl_F} (h : fok f) : inL f.1 ∧ inL f.2 := by
  obtain ⟨h1, h2, h3, h4⟩ := h
  exact ⟨by omega, by omega⟩
theorem tl_n0 {x y : Int} (hx : x ≠ 0) (hy : y ≠ 0) : x * y ≠ 0 := fun h => (Int.mul_eq_zero.mp h).elim hx hy
/-- the numbers of a sum, a difference, a product, a quotient of two such fractions are small -/
theorem tl_bd {f g : tl_F} (hf : fok f) (hg : fok g) : f.2 * g.2 ≠ 0 ∧ (f.2 * g.2).natAbs ≤ 4611686018427387904 ∧ (f.1 * g.2 + g.1 * f.2).natAbs ≤ 4611686018427387904 ∧ (f.1 * g.2 - g.1 * f.2).natAbs ≤ 4611686018427387904 ∧ (f.1 * g.1).natAbs ≤ 4611686018427387904 ∧ (f.1 * g.2).natAbs ≤ 4611686018427387904 ∧ (f.2 * g.1).natAbs ≤ 4611686018427387904 := by
  obtain ⟨a1, a2, a3⟩ := fok_ab hf
  obtain ⟨b1, b2, b3⟩ := fok_ab hg
  have h1 := tl_mb a2 b2
  have h2 := tl_mb a1 b2
  have h3 := tl_mb b1 a2
  have h4 := tl_mb a1 b1
  have h5 := tl_mb a2 b1
  refine ⟨tl_n0 a3 b3, by omega, by omega, by omega, by omega, by omega, by omega⟩
theorem sd_s1 (M : tm_M) (q : Nat) (f : tl_F) {a : Nat} (h : a ≠ q + 1) : fr (fS M (q + 1) f) a = fr M a := fr_n M f h
theorem mb1 {x : Int} (M : tm_M) {q a k : Nat} {f : tl_F} (h : a ≠ q) (e : mL M a k = x) : mL (fS M q f) a k = x := (fL_n M f h).trans e
theorem dX5_copy_0 : decode cX5_copy 0 = .ok (.aload_n 0, 1) := by decide +kernel
theorem dX5_copy_1 : decode cX5_copy 1 = .ok (.getfield 10, 3) := by decide +kernel
theorem dX5_copy_4 : decode cX5_copy 4 = .ok (.aload_n 1, 1) := by decide +kernel
theorem dX5_copy_5 : decode cX5_copy 5 = .ok (.getfield 10, 3) := by decide +kernel
theorem dX5_copy_8 : decode cX5_copy 8 = .ok (.invokevirtual 23, 3) := by decide +kernel
theorem dX5_copy_11 : decode cX5_copy 11 = .ok (.aload_n 0, 1) := by decide +kernel
theorem dX5_copy_12 : decode cX5_copy 12 = .ok (.getfield 16, 3) := by decide +kernel
theorem dX5_copy_15 : decode cX5_copy 15 = .ok (.aload_n 1, 1) := by decide +kernel
theorem dX5_copy_16 : decode cX5_copy 16 = .ok (.getfield 16, 3) := by decide +kernel
theorem dX5_copy_19 : decode cX5_copy 19 = .ok (.invokevirtual 23, 3) := by decide +kernel
theorem dX5_copy_22 : decode cX5_copy 22 = .ok (.return_, 1) := by decide +kernel
set_option maxHeartbeats 4000000 in
set_option maxRecDepth 100000 in
/-- Side.copy -/
theorem c_X5_copy {l : Launch} {G : tm_G} {Hb : Heap} {sh : tm_sh} {M : tm_M} {q o : Nat} (hs : isSd sh M q) (ht : isSd sh M o) (hne : o + 2 ≠ q + 1) : Met l yX5_copy (tws yX5_copy cX5_copy 2 none) ({ frames := 1, cells := 0, slots := 0, locals := 21 }) (va_Pc [.ref q, .ref o] (tm_St G Hb sh M)) (tm_Qv G Hb sh (fun M1 => M1 = sS M q (sd M o))) 0 0 (tm_A Hb) := by
  refine tm_begin (by decide) (Nat.le_of_ble_eq_true rfl) (fun p e s m below meth c ls hx hb hr hml hown htw hlk hnm hK hW hl => ?_)
  have hS : va_S (tm_A Hb) s.heap s.heap [] := va_S.rf
  have hl : lv_has ls 2 [(0, .ref q), (1, .ref o)] := hl
  obtain ⟨s0, s1, s2, r0, r1⟩ := hs
  obtain ⟨t0, t1, t2, u0, u1⟩ := ht
  refine lv_aload_n hx hb dX5_copy_0 rfl (lv_at hl 0 rfl) ?_
  refine gf_X5_10 hx hb htw hown hK hW (by assumption) (by assumption) dX5_copy_1 ?_
  refine lv_aload_n hx hb dX5_copy_4 rfl (lv_at hl 1 rfl) ?_
  refine gf_X5_10 hx hb htw hown hK hW (by assumption) (by assumption) dX5_copy_5 ?_
  refine tm_callv (cs_X5_23 hx hb hml hown htw hK hW (by assumption) (c_X0_copy (by assumption) (by assumption)) ⟨rfl, rfl, Nat.le_of_ble_eq_true rfl, Nat.le_of_ble_eq_true rfl⟩ hl.1 (Nat.le_of_ble_eq_true rfl) dX5_copy_8 ⟨Nat.le_of_ble_eq_true rfl, Nat.le_of_ble_eq_true rfl⟩) hS (fun M8 H locs hp8 hW hS => ?_)
  rw [hp8] at hW
  refine lv_aload_n hx hb dX5_copy_11 rfl (lv_at hl 0 rfl) ?_
  refine gf_X5_16 hx hb htw hown hK hW (by assumption) (by assumption) dX5_copy_12 ?_
  refine lv_aload_n hx hb dX5_copy_15 rfl (lv_at hl 1 rfl) ?_
  refine gf_X5_16 hx hb htw hown hK hW (by assumption) (by assumption) dX5_copy_16 ?_
  refine tm_callv (cs_X5_23 hx hb hml hown htw hK hW (by assumption) (c_X0_copy (by assumption) (by assumption)) ⟨rfl, rfl, Nat.le_of_ble_eq_true rfl, Nat.le_of_ble_eq_true rfl⟩ hl.1 (Nat.le_of_ble_eq_true rfl) dX5_copy_19 ⟨Nat.le_of_ble_eq_true rfl, Nat.le_of_ble_eq_true rfl⟩) hS (fun M19 H locs hp19 hW hS => ?_)
  rw [hp19] at hW
  rw [fr_n M _ hne] at hW
  exact tm_vret hx hb hr hlk hK hW hS rfl dX5_copy_22
theorem dX5_setWhole_0 : decode cX5_setWhole 0 = .ok (.aload_n 0, 1) := by decide +kernel
theorem dX5_setWhole_1 : decode cX5_setWhole 1 = .ok (.getfield 10, 3) := by decide +kernel
theorem dX5_setWhole_4 : decode cX5_setWhole 4 = .ok (.iload_n 1, 1) := by decide +kernel
theorem dX5_setWhole_5 : decode cX5_setWhole 5 = .ok (.i2l, 1) := by decide +kernel
theorem dX5_setWhole_6 : decode cX5_setWhole 6 = .ok (.invokevirtual 19, 3) := by decide +kernel
theorem dX5_setWhole_9 : decode cX5_setWhole 9 = .ok (.aload_n 0, 1) := by decide +kernel
theorem dX5_setWhole_10 : decode cX5_setWhole 10 = .ok (.getfield 16, 3) := by decide +kernel
theorem dX5_setWhole_13 : decode cX5_setWhole 13 = .ok (.iload_n 2, 1) := by decide +kernel
theorem dX5_setWhole_14 : decode cX5_setWhole 14 = .ok (.i2l, 1) := by decide +kernel
theorem dX5_setWhole_15 : decode cX5_setWhole 15 = .ok (.invokevirtual 19, 3) := by decide +kernel
theorem dX5_setWhole_18 : decode cX5_setWhole 18 = .ok (.return_, 1) := by decide +kernel
set_option maxHeartbeats 4000000 in
set_option maxRecDepth 100000 in
/-- Side.setWhole -/
theorem c_X5_setWhole {l : Launch} {G : tm_G} {Hb : Heap} {sh : tm_sh} {M : tm_M} {q : Nat} {a b : Int} (hs : isSd sh M q) (ha : inI a) (hb1 : inI b) : Met l yX5_setWhole (tws yX5_setWhole cX5_setWhole 3 none) ({ frames := 1, cells := 0, slots := 0, locals := 22 }) (va_Pc [.ref q, ji a, ji b] (tm_St G Hb sh M)) (tm_Qv G Hb sh (fun M1 => M1 = sS M q ((a, 1), (b, 1)))) 0 0 (tm_A Hb) := by
  refine tm_begin (by decide) (Nat.le_of_ble_eq_true rfl) (fun p e s m below meth c ls hx hb hr hml hown htw hlk hnm hK hW hl => ?_)
  have hS : va_S (tm_A Hb) s.heap s.heap [] := va_S.rf
  have hl : lv_has ls 3 [(0, .ref q), (1, ji a), (2, ji b)] := hl
  obtain ⟨s0, s1, s2, r0, r1⟩ := hs
  refine lv_aload_n hx hb dX5_setWhole_0 rfl (lv_at hl 0 rfl) ?_
  refine gf_X5_10 hx hb htw hown hK hW (by assumption) (by assumption) dX5_setWhole_1 ?_
  refine lv_iload_n hx hb dX5_setWhole_4 rfl (lv_at hl 1 rfl) ?_
  refine ti_i2l hx hb dX5_setWhole_5 (by omega) ?_
  refine tm_callv (cs_X5_19 hx hb hml hown htw hK hW (by assumption) (c_X0_setWhole (by assumption)) ⟨rfl, rfl, Nat.le_of_ble_eq_true rfl, Nat.le_of_ble_eq_true rfl⟩ hl.1 (Nat.le_of_ble_eq_true rfl) dX5_setWhole_6 ⟨Nat.le_of_ble_eq_true rfl, Nat.le_of_ble_eq_true rfl⟩) hS (fun M6 H locs hp6 hW hS => ?_)
  rw [hp6] at hW
  refine lv_aload_n hx hb dX5_setWhole_9 rfl (lv_at hl 0 rfl) ?_
  refine gf_X5_16 hx hb htw hown hK hW (by assumption) (by assumption) dX5_setWhole_10 ?_
  refine lv_iload_n hx hb dX5_setWhole_13 rfl (lv_at hl 2 rfl) ?_
  refine ti_i2l hx hb dX5_setWhole_14 (by omega) ?_
  refine tm_callv (cs_X5_19 hx hb hml hown htw hK hW (by assumption) (c_X0_setWhole (by assumption)) ⟨rfl, rfl, Nat.le_of_ble_eq_true rfl, Nat.le_of_ble_eq_true rfl⟩ hl.1 (Nat.le_of_ble_eq_true rfl) dX5_setWhole_15 ⟨Nat.le_of_ble_eq_true rfl, Nat.le_of_ble_eq_true rfl⟩) hS (fun M15 H locs hp15 hW hS => ?_)
  rw [hp15] at hW
  exact tm_vret hx hb hr hlk hK hW hS rfl dX5_setWhole_18
theorem dX5_turnToOpposite_0 : decode cX5_turnToOpposite 0 = .ok (.aload_n 0, 1) := by decide +kernel
theorem dX5_turnToOpposite_1 : decode cX5_turnToOpposite 1 = .ok (.getfield 10, 3) := by decide +kernel
theorem dX5_turnToOpposite_4 : decode cX5_turnToOpposite 4 = .ok (.aload_n 0, 1) := by decide +kernel
theorem dX5_turnToOpposite_5 : decode cX5_turnToOpposite 5 = .ok (.getfield 10, 3) := by decide +kernel
theorem dX5_turnToOpposite_8 : decode cX5_turnToOpposite 8 = .ok (.invokevirtual 27, 3) := by decide +kernel
theorem dX5_turnToOpposite_11 : decode cX5_turnToOpposite 11 = .ok (.aload_n 0, 1) := by decide +kernel
theorem dX5_turnToOpposite_12 : decode cX5_turnToOpposite 12 = .ok (.getfield 16, 3) := by decide +kernel
theorem dX5_turnToOpposite_15 : decode cX5_turnToOpposite 15 = .ok (.aload_n 0, 1) := by decide +kernel
theorem dX5_turnToOpposite_16 : decode cX5_turnToOpposite 16 = .ok (.getfield 16, 3) := by decide +kernel
theorem dX5_turnToOpposite_19 : decode cX5_turnToOpposite 19 = .ok (.invokevirtual 27, 3) := by decide +kernel
theorem dX5_turnToOpposite_22 : decode cX5_turnToOpposite 22 = .ok (.return_, 1) := by decide +kernel
set_option maxHeartbeats 4000000 in
set_option maxRecDepth 100000 in
/-- Side.turnToOpposite -/
theorem c_X5_turnToOpposite {l : Launch} {G : tm_G} {Hb : Heap} {sh : tm_sh} {M : tm_M} {q : Nat} (hs : isSd sh M q) : Met l yX5_turnToOpposite (tws yX5_turnToOpposite cX5_turnToOpposite 1 none) ({ frames := 1, cells := 0, slots := 0, locals := 21 }) (va_Pc [.ref q] (tm_St G Hb sh M)) (tm_Qv G Hb sh (fun M1 => M1 = sS M q ((-(fr M (q + 1)).1, (fr M (q + 1)).2), (-(fr M (q + 2)).1, (fr M (q + 2)).2)))) 0 0 (tm_A Hb) := by
  refine tm_begin (by decide) (Nat.le_of_ble_eq_true rfl) (fun p e s m below meth c ls hx hb hr hml hown htw hlk hnm hK hW hl => ?_)
  have hS : va_S (tm_A Hb) s.heap s.heap [] := va_S.rf
  have hl : lv_has ls 1 [(0, .ref q)] := hl
  obtain ⟨s0, s1, s2, r0, r1⟩ := hs
  refine lv_aload_n hx hb dX5_turnToOpposite_0 rfl (lv_at hl 0 rfl) ?_
  refine gf_X5_10 hx hb htw hown hK hW (by assumption) (by assumption) dX5_turnToOpposite_1 ?_
  refine lv_aload_n hx hb dX5_turnToOpposite_4 rfl (lv_at hl 0 rfl) ?_
  refine gf_X5_10 hx hb htw hown hK hW (by assumption) (by assumption) dX5_turnToOpposite_5 ?_
  refine tm_callv (cs_X5_27 hx hb hml hown htw hK hW (by assumption) (c_X0_setOpposite (by assumption) (by assumption)) ⟨rfl, rfl, Nat.le_of_ble_eq_true rfl, Nat.le_of_ble_eq_true rfl⟩ hl.1 (Nat.le_of_ble_eq_true rfl) dX5_turnToOpposite_8 ⟨Nat.le_of_ble_eq_true rfl, Nat.le_of_ble_eq_true rfl⟩) hS (fun M8 H locs hp8 hW hS => ?_)
  rw [hp8] at hW
  refine lv_aload_n hx hb dX5_turnToOpposite_11 rfl (lv_at hl 0 rfl) ?_
  refine gf_X5_16 hx hb htw hown hK hW (by assumption) (by assumption) dX5_turnToOpposite_12 ?_
  refine lv_aload_n hx hb dX5_turnToOpposite_15 rfl (lv_at hl 0 rfl) ?_
  refine gf_X5_16 hx hb htw hown hK hW (by assumption) (by assumption) dX5_turnToOpposite_16 ?_
  refine tm_callv (cs_X5_27 hx hb hml hown htw hK hW (by assumption) (c_X0_setOpposite (by assumption) (by assumption)) ⟨rfl, rfl, Nat.le_of_ble_eq_true rfl, Nat.le_of_ble_eq_true rfl⟩ hl.1 (Nat.le_of_ble_eq_true rfl) dX5_turnToOpposite_19 ⟨Nat.le_of_ble_eq_true rfl, Nat.le_of_ble_eq_true rfl⟩) hS (fun M19 H locs hp19 hW hS => ?_)
  rw [hp19] at hW
  rw [fr_n M _ (by omega)] at hW
  exact tm_vret hx hb hr hlk hK hW hS rfl dX5_turnToOpposite_22
theorem dX5_add_0 : decode cX5_add 0 = .ok (.aload_n 0, 1) := by decide +kernel
theorem dX5_add_1 : decode cX5_add 1 = .ok (.getfield 10, 3) := by decide +kernel
theorem dX5_add_4 : decode cX5_add 4 = .ok (.aload_n 0, 1) := by decide +kernel
theorem dX5_add_5 : decode cX5_add 5 = .ok (.getfield 10, 3) := by decide +kernel
theorem dX5_add_8 : decode cX5_add 8 = .ok (.aload_n 1, 1) := by decide +kernel
theorem dX5_add_9 : decode cX5_add 9 = .ok (.getfield 10, 3) := by decide +kernel
theorem dX5_add_12 : decode cX5_add 12 = .ok (.invokevirtual 30, 3) := by decide +kernel
theorem dX5_add_15 : decode cX5_add 15 = .ok (.aload_n 0, 1) := by decide +kernel
theorem dX5_add_16 : decode cX5_add 16 = .ok (.getfield 16, 3) := by decide +kernel
theorem dX5_add_19 : decode cX5_add 19 = .ok (.aload_n 0, 1) := by decide +kernel
theorem dX5_add_20 : decode cX5_add 20 = .ok (.getfield 16, 3) := by decide +kernel
theorem dX5_add_23 : decode cX5_add 23 = .ok (.aload_n 1, 1) := by decide +kernel
theorem dX5_add_24 : decode cX5_add 24 = .ok (.getfield 16, 3) := by decide +kernel
theorem dX5_add_27 : decode cX5_add 27 = .ok (.invokevirtual 30, 3) := by decide +kernel
theorem dX5_add_30 : decode cX5_add 30 = .ok (.return_, 1) := by decide +kernel
set_option maxHeartbeats 4000000 in
set_option maxRecDepth 100000 in
/-- Side.add -/
theorem c_X5_add {l : Launch} {G : tm_G} {Hb : Heap} {sh : tm_sh} {M : tm_M} {q o : Nat} (hs : isSd sh M q) (ht : isSd sh M o) (hne : o + 3 ≤ q ∨ q + 3 ≤ o) (ha : fok (fr M (q + 1))) (hb1 : fok (fr M (q + 2))) (hc : fok (fr M (o + 1))) (hd : fok (fr M (o + 2))) : Met l yX5_add (tws yX5_add cX5_add 2 none) ({ frames := 3, cells := 0, slots := 0, locals := 75 }) (va_Pc [.ref q, .ref o] (tm_St G Hb sh M)) (tm_Qv G Hb sh (fun M1 => M1 = sS M q (fadd (fr M (q + 1)) (fr M (o + 1)), fadd (fr M (q + 2)) (fr M (o + 2))))) 0 0 (tm_A Hb) := by
  refine tm_begin (by decide) (Nat.le_of_ble_eq_true rfl) (fun p e s m below meth c ls hx hb hr hml hown htw hlk hnm hK hW hl => ?_)
  have hS : va_S (tm_A Hb) s.heap s.heap [] := va_S.rf
  have hl : lv_has ls 2 [(0, .ref q), (1, .ref o)] := hl
  obtain ⟨s0, s1, s2, r0, r1⟩ := hs
  obtain ⟨t0, t1, t2, u0, u1⟩ := ht
  refine lv_aload_n hx hb dX5_add_0 rfl (lv_at hl 0 rfl) ?_
  refine gf_X5_10 hx hb htw hown hK hW (by assumption) (by assumption) dX5_add_1 ?_
  refine lv_aload_n hx hb dX5_add_4 rfl (lv_at hl 0 rfl) ?_
  refine gf_X5_10 hx hb htw hown hK hW (by assumption) (by assumption) dX5_add_5 ?_
  refine lv_aload_n hx hb dX5_add_8 rfl (lv_at hl 1 rfl) ?_
  refine gf_X5_10 hx hb htw hown hK hW (by assumption) (by assumption) dX5_add_9 ?_
  refine tm_callv (cs_X5_30 hx hb hml hown htw hK hW (by assumption) (c_X0_setSum (by assumption) (by assumption) (by assumption) (tl_bd ha hc).1 (tl_bd ha hc).2.2.1 (tl_bd ha hc).2.1) ⟨rfl, rfl, Nat.le_of_ble_eq_true rfl, Nat.le_of_ble_eq_true rfl⟩ hl.1 (Nat.le_of_ble_eq_true rfl) dX5_add_12 ⟨Nat.le_of_ble_eq_true rfl, Nat.le_of_ble_eq_true rfl⟩) hS (fun M12 H locs hp12 hW hS => ?_)
  rw [hp12] at hW
  refine lv_aload_n hx hb dX5_add_15 rfl (lv_at hl 0 rfl) ?_
  refine gf_X5_16 hx hb htw hown hK hW (by assumption) (by assumption) dX5_add_16 ?_
  refine lv_aload_n hx hb dX5_add_19 rfl (lv_at hl 0 rfl) ?_
  refine gf_X5_16 hx hb htw hown hK hW (by assumption) (by assumption) dX5_add_20 ?_
  refine lv_aload_n hx hb dX5_add_23 rfl (lv_at hl 1 rfl) ?_
  refine gf_X5_16 hx hb htw hown hK hW (by assumption) (by assumption) dX5_add_24 ?_
  have e0 := fL_n M (q := q + 1) (a := q + 2) (k := 0) (fadd (fr M (q + 1)) (fr M (o + 1))) (by omega)
  have e1 := fL_n M (q := q + 1) (a := q + 2) (k := 1) (fadd (fr M (q + 1)) (fr M (o + 1))) (by omega)
  have e2 := fL_n M (q := q + 1) (a := o + 2) (k := 0) (fadd (fr M (q + 1)) (fr M (o + 1))) (by omega)
  have e3 := fL_n M (q := q + 1) (a := o + 2) (k := 1) (fadd (fr M (q + 1)) (fr M (o + 1))) (by omega)
  have w1 := (tl_bd hb1 hd).1
  have w2 := (tl_bd hb1 hd).2.2.1
  have w3 := (tl_bd hb1 hd).2.1
  simp only [fr, ← e0, ← e1, ← e2, ← e3] at w1 w2 w3
  refine tm_callv (cs_X5_30 hx hb hml hown htw hK hW (by assumption) (c_X0_setSum (p1 := q + 2) (p2 := o + 2) (by assumption) (by assumption) (by assumption) w1 w2 w3) ⟨rfl, rfl, Nat.le_of_ble_eq_true rfl, Nat.le_of_ble_eq_true rfl⟩ hl.1 (Nat.le_of_ble_eq_true rfl) dX5_add_27 ⟨Nat.le_of_ble_eq_true rfl, Nat.le_of_ble_eq_true rfl⟩) hS (fun M27 H locs hp27 hW hS => ?_)
  rw [hp27] at hW
  rw [e0, e1, e2, e3] at hW
  exact tm_vret hx hb hr hlk hK hW hS rfl dX5_add_30
theorem dX5_subtract_0 : decode cX5_subtract 0 = .ok (.aload_n 0, 1) := by decide +kernel
theorem dX5_subtract_1 : decode cX5_subtract 1 = .ok (.getfield 10, 3) := by decide +kernel
theorem dX5_subtract_4 : decode cX5_subtract 4 = .ok (.aload_n 0, 1) := by decide +kernel
theorem dX5_subtract_5 : decode cX5_subtract 5 = .ok (.getfield 10, 3) := by decide +kernel
theorem dX5_subtract_8 : decode cX5_subtract 8 = .ok (.aload_n 1, 1) := by decide +kernel
theorem dX5_subtract_9 : decode cX5_subtract 9 = .ok (.getfield 10, 3) := by decide +kernel
theorem dX5_subtract_12 : decode cX5_subtract 12 = .ok (.invokevirtual 34, 3) := by decide +kernel
theorem dX5_subtract_15 : decode cX5_subtract 15 = .ok (.aload_n 0, 1) := by decide +kernel
theorem dX5_subtract_16 : decode cX5_subtract 16 = .ok (.getfield 16, 3) := by decide +kernel
theorem dX5_subtract_19 : decode cX5_subtract 19 = .ok (.aload_n 0, 1) := by decide +kernel
theorem dX5_subtract_20 : decode cX5_subtract 20 = .ok (.getfield 16, 3) := by decide +kernel
theorem dX5_subtract_23 : decode cX5_subtract 23 = .ok (.aload_n 1, 1) := by decide +kernel
theorem dX5_subtract_24 : decode cX5_subtract 24 = .ok (.getfield 16, 3) := by decide +kernel
theorem dX5_subtract_27 : decode cX5_subtract 27 = .ok (.invokevirtual 34, 3) := by decide +kernel
theorem dX5_subtract_30 : decode cX5_subtract 30 = .ok (.return_, 1) := by decide +kernel
set_option maxHeartbeats 4000000 in
set_option maxRecDepth 100000 in
/-- Side.subtract -/
theorem c_X5_subtract {l : Launch} {G : tm_G} {Hb : Heap} {sh : tm_sh} {M : tm_M} {q o : Nat} (hs : isSd sh M q) (ht : isSd sh M o) (hne : o + 3 ≤ q ∨ q + 3 ≤ o) (ha : fok (fr M (q + 1))) (hb1 : fok (fr M (q + 2))) (hc : fok (fr M (o + 1))) (hd : fok (fr M (o + 2))) : Met l yX5_subtract (tws yX5_subtract cX5_subtract 2 none) ({ frames := 3, cells := 0, slots := 0, locals := 75 }) (va_Pc [.ref q, .ref o] (tm_St G Hb sh M)) (tm_Qv G Hb sh (fun M1 => M1 = sS M q (fsub (fr M (q + 1)) (fr M (o + 1)), fsub (fr M (q + 2)) (fr M (o + 2))))) 0 0 (tm_A Hb) := by
  refine tm_begin (by decide) (Nat.le_of_ble_eq_true rfl) (fun p e s m below meth c ls hx hb hr hml hown htw hlk hnm hK hW hl => ?_)
  have hS : va_S (tm_A Hb) s.heap s.heap [] := va_S.rf
  have hl : lv_has ls 2 [(0, .ref q), (1, .ref o)] := hl
  obtain ⟨s0, s1, s2, r0, r1⟩ := hs
  obtain ⟨t0, t1, t2, u0, u1⟩ := ht
  refine lv_aload_n hx hb dX5_subtract_0 rfl (lv_at hl 0 rfl) ?_
  refine gf_X5_10 hx hb htw hown hK hW (by assumption) (by assumption) dX5_subtract_1 ?_
  refine lv_aload_n hx hb dX5_subtract_4 rfl (lv_at hl 0 rfl) ?_
  refine gf_X5_10 hx hb htw hown hK hW (by assumption) (by assumption) dX5_subtract_5 ?_
  refine lv_aload_n hx hb dX5_subtract_8 rfl (lv_at hl 1 rfl) ?_
  refine gf_X5_10 hx hb htw hown hK hW (by assumption) (by assumption) dX5_subtract_9 ?_
  refine tm_callv (cs_X5_34 hx hb hml hown htw hK hW (by assumption) (c_X0_setDifference (by assumption) (by assumption) (by assumption) (tl_bd ha hc).1 (tl_bd ha hc).2.2.2.1 (tl_bd ha hc).2.1) ⟨rfl, rfl, Nat.le_of_ble_eq_true rfl, Nat.le_of_ble_eq_true rfl⟩ hl.1 (Nat.le_of_ble_eq_true rfl) dX5_subtract_12 ⟨Nat.le_of_ble_eq_true rfl, Nat.le_of_ble_eq_true rfl⟩) hS (fun M12 H locs hp12 hW hS => ?_)
  rw [hp12] at hW
  refine lv_aload_n hx hb dX5_subtract_15 rfl (lv_at hl 0 rfl) ?_
  refine gf_X5_16 hx hb htw hown hK hW (by assumption) (by assumption) dX5_subtract_16 ?_
  refine lv_aload_n hx hb dX5_subtract_19 rfl (lv_at hl 0 rfl) ?_
  refine gf_X5_16 hx hb htw hown hK hW (by assumption) (by assumption) dX5_subtract_20 ?_
  refine lv_aload_n hx hb dX5_subtract_23 rfl (lv_at hl 1 rfl) ?_
  refine gf_X5_16 hx hb htw hown hK hW (by assumption) (by assumption) dX5_subtract_24 ?_
  have e0 := fL_n M (q := q + 1) (a := q + 2) (k := 0) (fsub (fr M (q + 1)) (fr M (o + 1))) (by omega)
  have e1 := fL_n M (q := q + 1) (a := q + 2) (k := 1) (fsub (fr M (q + 1)) (fr M (o + 1))) (by omega)
  have e2 := fL_n M (q := q + 1) (a := o + 2) (k := 0) (fsub (fr M (q + 1)) (fr M (o + 1))) (by omega)
  have e3 := fL_n M (q := q + 1) (a := o + 2) (k := 1) (fsub (fr M (q + 1)) (fr M (o + 1))) (by omega)
  have w1 := (tl_bd hb1 hd).1
  have w2 := (tl_bd hb1 hd).2.2.2.1
  have w3 := (tl_bd hb1 hd).2.1
  simp only [fr, ← e0, ← e1, ← e2, ← e3] at w1 w2 w3
  refine tm_callv (cs_X5_34 hx hb hml hown htw hK hW (by assumption) (c_X0_setDifference (p1 := q + 2) (p2 := o + 2) (by assumption) (by assumption) (by assumption) w1 w2 w3) ⟨rfl, rfl, Nat.le_of_ble_eq_true rfl, Nat.le_of_ble_eq_true rfl⟩ hl.1 (Nat.le_of_ble_eq_true rfl) dX5_subtract_27 ⟨Nat.le_of_ble_eq_true rfl, Nat.le_of_ble_eq_true rfl⟩) hS (fun M27 H locs hp27 hW hS => ?_)
  rw [hp27] at hW
  rw [e0, e1, e2, e3] at hW
  exact tm_vret hx hb hr hlk hK hW hS rfl dX5_subtract_30
