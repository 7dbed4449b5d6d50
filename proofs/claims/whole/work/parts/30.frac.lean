/-! Fraction: contracts of its short methods (rows by program: wip/whole/gen/frac.py) -/
section TIC
variable {p : Program} {l : Launch} {e : Env} {R : Room} {s : State} {m : MethodId} {args : Array Value} {below : List Frame} {meth : Method} {c : Code} {H : Heap} {locs : List Loc} {cells slots : Nat} {Q : State → Prop}
variable {cc : ByteArray} {pc : Nat} {ls : Array Slot} {rest : List Value}
theorem ti_iinc (hexec : p.tables.exec = Jvm.exec) (hb : c.code = cc) {i nL k : Nat} {n x : Int} {lv lv' : List (Nat × Value)} (hdg : decode cc pc = .ok (.iinc i n, 3)) (h : lv_has ls nL lv) (hk : lv[k]? = some (i, ji x)) (hn : i < nL) (hl : (i, ji (x + n)) :: lv.filter (fun q => !(q.1 == i) && !(q.1 + 1 == i && q.2.category == 2)) = lv')
    (kk : ∀ ls' : Array Slot, lv_has ls' nL lv' → W p l e R s m args below meth c H locs cells slots Q (F0 m (pc + 3) ls' rest)) : W p l e R s m args below meth c H locs cells slots Q (F0 m pc ls rest) := lv_iinc (v := Int32.ofInt (x + n)) hexec hb hdg h hk (Int32.ofInt_add x n).symm hn hl kk
end TIC
/-- a fraction's parts; a fraction written -/
abbrev fr (M : tm_M) (q : Nat) : Int × Int := (mL M q 0, mL M q 1)
abbrev fS (M : tm_M) (q : Nat) (f : Int × Int) : tm_M := sL (sL M q 0 f.1) q 1 f.2
theorem fr_s (M : tm_M) (q : Nat) (f : Int × Int) : fr (fS M q f) q = f := by
  have h1 : mL (fS M q f) q 0 = f.1 := (tm_up_k _ _ (by decide)).trans (tm_up_s _ _ _ _)
  have h2 : mL (fS M q f) q 1 = f.2 := tm_up_s _ _ _ _
  show (mL (fS M q f) q 0, mL (fS M q f) q 1) = f
  rw [h1, h2]
theorem fL_n (M : tm_M) {q a k : Nat} (f : Int × Int) (h : a ≠ q) : mL (fS M q f) a k = mL M a k := (tm_up_a _ _ h).trans (tm_up_a _ _ h)
theorem fr_n (M : tm_M) {q a : Nat} (f : Int × Int) (h : a ≠ q) : fr (fS M q f) a = fr M a := by
  show (mL (fS M q f) a 0, mL (fS M q f) a 1) = _
  rw [fL_n M f h, fL_n M f h]
theorem fS_eq {M : tm_M} {q : Nat} {x y x' y' : Int} (h1 : x = x') (h2 : y = y') : sL (sL M q 0 x) q 1 y = fS M q (x', y') := by rw [h1, h2]
theorem fL_1 (M : tm_M) (q a : Nat) (x : Int) : mL (sL M q 0 x) a 1 = mL M a 1 := tm_up_k _ _ (by decide)
def tl_b (p : Prop) [Decidable p] : Int := if p then 1 else 0
theorem tl_b_t {p : Prop} [Decidable p] (h : p) : 1 = tl_b p := by simp [tl_b, h]
theorem tl_b_f {p : Prop} [Decidable p] (h : ¬ p) : 0 = tl_b p := by simp [tl_b, h]
theorem dX0_setWhole_0 : decode cX0_setWhole 0 = .ok (.aload_n 0, 1) := by decide +kernel
theorem dX0_setWhole_1 : decode cX0_setWhole 1 = .ok (.lload_n 1, 1) := by decide +kernel
theorem dX0_setWhole_2 : decode cX0_setWhole 2 = .ok (.putfield 17, 3) := by decide +kernel
theorem dX0_setWhole_5 : decode cX0_setWhole 5 = .ok (.aload_n 0, 1) := by decide +kernel
theorem dX0_setWhole_6 : decode cX0_setWhole 6 = .ok (.lconst 1, 1) := by decide +kernel
theorem dX0_setWhole_7 : decode cX0_setWhole 7 = .ok (.putfield 7, 3) := by decide +kernel
theorem dX0_setWhole_10 : decode cX0_setWhole 10 = .ok (.return_, 1) := by decide +kernel
set_option maxHeartbeats 4000000 in
set_option maxRecDepth 100000 in
/-- setWhole(w): w over 1 -/
theorem c_X0_setWhole {l : Launch} {G : tm_G} {Hb : Heap} {sh : tm_sh} {M : tm_M} {q : Nat} {w : Int} (h0 : sh q = some (2, 0)) : Met l yX0_setWhole (tws yX0_setWhole cX0_setWhole 3 none) ({ frames := 0, cells := 0, slots := 0, locals := 0 }) (va_Pc [.ref q, jl w] (tm_St G Hb sh M)) (tm_Qv G Hb sh (fun M1 => M1 = fS M q (w, 1))) 0 0 (tm_A Hb) := by
  refine tm_begin (by decide) (Nat.le_of_ble_eq_true rfl) (fun p e s m below meth c ls hx hb hr hml hown htw hlk hnm hK hW hl => ?_)
  have hS : va_S (tm_A Hb) s.heap s.heap [] := va_S.rf
  have hl : lv_has ls 3 [(0, .ref q), (1, jl w)] := hl
  refine lv_aload_n hx hb dX0_setWhole_0 rfl (lv_at hl 0 rfl) ?_
  refine lv_lload_n hx hb dX0_setWhole_1 rfl (lv_at hl 1 rfl) ?_
  refine pf_X0_17 hx hb htw hown hK hW (by assumption) hS dX0_setWhole_2 (fun H locs hW hS => ?_)
  refine lv_aload_n hx hb dX0_setWhole_5 rfl (lv_at hl 0 rfl) ?_
  refine ti_lconst1 hx hb dX0_setWhole_6 ?_
  refine pf_X0_7 hx hb htw hown hK hW (by assumption) hS dX0_setWhole_7 (fun H locs hW hS => ?_)
  exact tm_vret hx hb hr hlk hK hW hS rfl dX0_setWhole_10
theorem dX0_copy_0 : decode cX0_copy 0 = .ok (.aload_n 0, 1) := by decide +kernel
theorem dX0_copy_1 : decode cX0_copy 1 = .ok (.aload_n 1, 1) := by decide +kernel
theorem dX0_copy_2 : decode cX0_copy 2 = .ok (.getfield 17, 3) := by decide +kernel
theorem dX0_copy_5 : decode cX0_copy 5 = .ok (.putfield 17, 3) := by decide +kernel
theorem dX0_copy_8 : decode cX0_copy 8 = .ok (.aload_n 0, 1) := by decide +kernel
theorem dX0_copy_9 : decode cX0_copy 9 = .ok (.aload_n 1, 1) := by decide +kernel
theorem dX0_copy_10 : decode cX0_copy 10 = .ok (.getfield 7, 3) := by decide +kernel
theorem dX0_copy_13 : decode cX0_copy 13 = .ok (.putfield 7, 3) := by decide +kernel
theorem dX0_copy_16 : decode cX0_copy 16 = .ok (.return_, 1) := by decide +kernel
set_option maxHeartbeats 4000000 in
set_option maxRecDepth 100000 in
/-- copy -/
theorem c_X0_copy {l : Launch} {G : tm_G} {Hb : Heap} {sh : tm_sh} {M : tm_M} {q o : Nat} (h0 : sh q = some (2, 0)) (h1 : sh o = some (2, 0)) : Met l yX0_copy (tws yX0_copy cX0_copy 2 none) ({ frames := 0, cells := 0, slots := 0, locals := 0 }) (va_Pc [.ref q, .ref o] (tm_St G Hb sh M)) (tm_Qv G Hb sh (fun M1 => M1 = fS M q (fr M o))) 0 0 (tm_A Hb) := by
  refine tm_begin (by decide) (Nat.le_of_ble_eq_true rfl) (fun p e s m below meth c ls hx hb hr hml hown htw hlk hnm hK hW hl => ?_)
  have hS : va_S (tm_A Hb) s.heap s.heap [] := va_S.rf
  have hl : lv_has ls 2 [(0, .ref q), (1, .ref o)] := hl
  refine lv_aload_n hx hb dX0_copy_0 rfl (lv_at hl 0 rfl) ?_
  refine lv_aload_n hx hb dX0_copy_1 rfl (lv_at hl 1 rfl) ?_
  refine gf_X0_17 hx hb htw hown hK hW (by assumption) dX0_copy_2 ?_
  refine pf_X0_17 hx hb htw hown hK hW (by assumption) hS dX0_copy_5 (fun H locs hW hS => ?_)
  refine lv_aload_n hx hb dX0_copy_8 rfl (lv_at hl 0 rfl) ?_
  refine lv_aload_n hx hb dX0_copy_9 rfl (lv_at hl 1 rfl) ?_
  refine gf_X0_7 hx hb htw hown hK hW (by assumption) dX0_copy_10 ?_
  refine pf_X0_7 hx hb htw hown hK hW (by assumption) hS dX0_copy_13 (fun H locs hW hS => ?_)
  exact tm_vret hx hb hr hlk hK hW hS (fS_eq rfl (fL_1 M q o _)) dX0_copy_16
theorem dX0_setShifted_0 : decode cX0_setShifted 0 = .ok (.aload_n 0, 1) := by decide +kernel
theorem dX0_setShifted_1 : decode cX0_setShifted 1 = .ok (.aload_n 1, 1) := by decide +kernel
theorem dX0_setShifted_2 : decode cX0_setShifted 2 = .ok (.getfield 17, 3) := by decide +kernel
theorem dX0_setShifted_5 : decode cX0_setShifted 5 = .ok (.iload_n 2, 1) := by decide +kernel
theorem dX0_setShifted_6 : decode cX0_setShifted 6 = .ok (.i2l, 1) := by decide +kernel
theorem dX0_setShifted_7 : decode cX0_setShifted 7 = .ok (.aload_n 1, 1) := by decide +kernel
theorem dX0_setShifted_8 : decode cX0_setShifted 8 = .ok (.getfield 7, 3) := by decide +kernel
theorem dX0_setShifted_11 : decode cX0_setShifted 11 = .ok (.lmul, 1) := by decide +kernel
theorem dX0_setShifted_12 : decode cX0_setShifted 12 = .ok (.ladd, 1) := by decide +kernel
theorem dX0_setShifted_13 : decode cX0_setShifted 13 = .ok (.putfield 17, 3) := by decide +kernel
theorem dX0_setShifted_16 : decode cX0_setShifted 16 = .ok (.aload_n 0, 1) := by decide +kernel
theorem dX0_setShifted_17 : decode cX0_setShifted 17 = .ok (.aload_n 1, 1) := by decide +kernel
theorem dX0_setShifted_18 : decode cX0_setShifted 18 = .ok (.getfield 7, 3) := by decide +kernel
theorem dX0_setShifted_21 : decode cX0_setShifted 21 = .ok (.putfield 7, 3) := by decide +kernel
theorem dX0_setShifted_24 : decode cX0_setShifted 24 = .ok (.return_, 1) := by decide +kernel
set_option maxHeartbeats 4000000 in
set_option maxRecDepth 100000 in
/-- setShifted -/
theorem c_X0_setShifted {l : Launch} {G : tm_G} {Hb : Heap} {sh : tm_sh} {M : tm_M} {q o : Nat} {k : Int} (h0 : sh q = some (2, 0)) (h1 : sh o = some (2, 0)) (hk : inI k) : Met l yX0_setShifted (tws yX0_setShifted cX0_setShifted 3 none) ({ frames := 0, cells := 0, slots := 0, locals := 0 }) (va_Pc [.ref q, .ref o, ji k] (tm_St G Hb sh M)) (tm_Qv G Hb sh (fun M1 => M1 = fS M q ((fr M o).1 + k * (fr M o).2, (fr M o).2))) 0 0 (tm_A Hb) := by
  refine tm_begin (by decide) (Nat.le_of_ble_eq_true rfl) (fun p e s m below meth c ls hx hb hr hml hown htw hlk hnm hK hW hl => ?_)
  have hS : va_S (tm_A Hb) s.heap s.heap [] := va_S.rf
  have hl : lv_has ls 3 [(0, .ref q), (1, .ref o), (2, ji k)] := hl
  refine lv_aload_n hx hb dX0_setShifted_0 rfl (lv_at hl 0 rfl) ?_
  refine lv_aload_n hx hb dX0_setShifted_1 rfl (lv_at hl 1 rfl) ?_
  refine gf_X0_17 hx hb htw hown hK hW (by assumption) dX0_setShifted_2 ?_
  refine lv_iload_n hx hb dX0_setShifted_5 rfl (lv_at hl 2 rfl) ?_
  refine ti_i2l hx hb dX0_setShifted_6 (by omega) ?_
  refine lv_aload_n hx hb dX0_setShifted_7 rfl (lv_at hl 1 rfl) ?_
  refine gf_X0_7 hx hb htw hown hK hW (by assumption) dX0_setShifted_8 ?_
  refine ti_lmul hx hb dX0_setShifted_11 ?_
  refine ti_ladd hx hb dX0_setShifted_12 ?_
  refine pf_X0_17 hx hb htw hown hK hW (by assumption) hS dX0_setShifted_13 (fun H locs hW hS => ?_)
  refine lv_aload_n hx hb dX0_setShifted_16 rfl (lv_at hl 0 rfl) ?_
  refine lv_aload_n hx hb dX0_setShifted_17 rfl (lv_at hl 1 rfl) ?_
  refine gf_X0_7 hx hb htw hown hK hW (by assumption) dX0_setShifted_18 ?_
  refine pf_X0_7 hx hb htw hown hK hW (by assumption) hS dX0_setShifted_21 (fun H locs hW hS => ?_)
  exact tm_vret hx hb hr hlk hK hW hS (fS_eq rfl (fL_1 M q o _)) dX0_setShifted_24
theorem dX0_setOpposite_0 : decode cX0_setOpposite 0 = .ok (.aload_n 0, 1) := by decide +kernel
theorem dX0_setOpposite_1 : decode cX0_setOpposite 1 = .ok (.aload_n 1, 1) := by decide +kernel
theorem dX0_setOpposite_2 : decode cX0_setOpposite 2 = .ok (.getfield 17, 3) := by decide +kernel
theorem dX0_setOpposite_5 : decode cX0_setOpposite 5 = .ok (.lneg, 1) := by decide +kernel
theorem dX0_setOpposite_6 : decode cX0_setOpposite 6 = .ok (.putfield 17, 3) := by decide +kernel
theorem dX0_setOpposite_9 : decode cX0_setOpposite 9 = .ok (.aload_n 0, 1) := by decide +kernel
theorem dX0_setOpposite_10 : decode cX0_setOpposite 10 = .ok (.aload_n 1, 1) := by decide +kernel
theorem dX0_setOpposite_11 : decode cX0_setOpposite 11 = .ok (.getfield 7, 3) := by decide +kernel
theorem dX0_setOpposite_14 : decode cX0_setOpposite 14 = .ok (.putfield 7, 3) := by decide +kernel
theorem dX0_setOpposite_17 : decode cX0_setOpposite 17 = .ok (.return_, 1) := by decide +kernel
set_option maxHeartbeats 4000000 in
set_option maxRecDepth 100000 in
/-- setOpposite -/
theorem c_X0_setOpposite {l : Launch} {G : tm_G} {Hb : Heap} {sh : tm_sh} {M : tm_M} {q o : Nat} (h0 : sh q = some (2, 0)) (h1 : sh o = some (2, 0)) : Met l yX0_setOpposite (tws yX0_setOpposite cX0_setOpposite 2 none) ({ frames := 0, cells := 0, slots := 0, locals := 0 }) (va_Pc [.ref q, .ref o] (tm_St G Hb sh M)) (tm_Qv G Hb sh (fun M1 => M1 = fS M q (-(fr M o).1, (fr M o).2))) 0 0 (tm_A Hb) := by
  refine tm_begin (by decide) (Nat.le_of_ble_eq_true rfl) (fun p e s m below meth c ls hx hb hr hml hown htw hlk hnm hK hW hl => ?_)
  have hS : va_S (tm_A Hb) s.heap s.heap [] := va_S.rf
  have hl : lv_has ls 2 [(0, .ref q), (1, .ref o)] := hl
  refine lv_aload_n hx hb dX0_setOpposite_0 rfl (lv_at hl 0 rfl) ?_
  refine lv_aload_n hx hb dX0_setOpposite_1 rfl (lv_at hl 1 rfl) ?_
  refine gf_X0_17 hx hb htw hown hK hW (by assumption) dX0_setOpposite_2 ?_
  refine ti_lneg hx hb dX0_setOpposite_5 ?_
  refine pf_X0_17 hx hb htw hown hK hW (by assumption) hS dX0_setOpposite_6 (fun H locs hW hS => ?_)
  refine lv_aload_n hx hb dX0_setOpposite_9 rfl (lv_at hl 0 rfl) ?_
  refine lv_aload_n hx hb dX0_setOpposite_10 rfl (lv_at hl 1 rfl) ?_
  refine gf_X0_7 hx hb htw hown hK hW (by assumption) dX0_setOpposite_11 ?_
  refine pf_X0_7 hx hb htw hown hK hW (by assumption) hS dX0_setOpposite_14 (fun H locs hW hS => ?_)
  exact tm_vret hx hb hr hlk hK hW hS (fS_eq rfl (fL_1 M q o _)) dX0_setOpposite_17
theorem dX0_isWhole_0 : decode cX0_isWhole 0 = .ok (.aload_n 0, 1) := by decide +kernel
theorem dX0_isWhole_1 : decode cX0_isWhole 1 = .ok (.getfield 17, 3) := by decide +kernel
theorem dX0_isWhole_4 : decode cX0_isWhole 4 = .ok (.lload_n 1, 1) := by decide +kernel
theorem dX0_isWhole_5 : decode cX0_isWhole 5 = .ok (.lcmp, 1) := by decide +kernel
theorem dX0_isWhole_6 : decode cX0_isWhole 6 = .ok (.ifCond .ne 16, 3) := by decide +kernel
theorem dX0_isWhole_9 : decode cX0_isWhole 9 = .ok (.aload_n 0, 1) := by decide +kernel
theorem dX0_isWhole_10 : decode cX0_isWhole 10 = .ok (.getfield 7, 3) := by decide +kernel
theorem dX0_isWhole_13 : decode cX0_isWhole 13 = .ok (.lconst 1, 1) := by decide +kernel
theorem dX0_isWhole_14 : decode cX0_isWhole 14 = .ok (.lcmp, 1) := by decide +kernel
theorem dX0_isWhole_15 : decode cX0_isWhole 15 = .ok (.ifCond .ne 7, 3) := by decide +kernel
theorem dX0_isWhole_18 : decode cX0_isWhole 18 = .ok (.iconst 1, 1) := by decide +kernel
theorem dX0_isWhole_19 : decode cX0_isWhole 19 = .ok (.goto 4, 3) := by decide +kernel
theorem dX0_isWhole_22 : decode cX0_isWhole 22 = .ok (.iconst 0, 1) := by decide +kernel
theorem dX0_isWhole_23 : decode cX0_isWhole 23 = .ok (.ireturn, 1) := by decide +kernel
set_option maxHeartbeats 4000000 in
set_option maxRecDepth 100000 in
/-- isWhole -/
theorem c_X0_isWhole {l : Launch} {G : tm_G} {Hb : Heap} {sh : tm_sh} {M : tm_M} {q : Nat} {w : Int} (h0 : sh q = some (2, 0)) (hg : inL (mL M q 0) ∧ inL (mL M q 1)) (hw : inL w) : Met l yX0_isWhole (tws yX0_isWhole cX0_isWhole 3 (some .boolean)) ({ frames := 0, cells := 0, slots := 0, locals := 0 }) (va_Pc [.ref q, jl w] (tm_St G Hb sh M)) (tm_Qi G Hb sh (fun x M1 => x = tl_b (fr M q = (w, 1)) ∧ M1 = M)) 0 0 (tm_A Hb) := by
  refine tm_begin (by decide) (Nat.le_of_ble_eq_true rfl) (fun p e s m below meth c ls hx hb hr hml hown htw hlk hnm hK hW hl => ?_)
  have hS : va_S (tm_A Hb) s.heap s.heap [] := va_S.rf
  have hl : lv_has ls 3 [(0, .ref q), (1, jl w)] := hl
  refine lv_aload_n hx hb dX0_isWhole_0 rfl (lv_at hl 0 rfl) ?_
  refine gf_X0_17 hx hb htw hown hK hW (by assumption) dX0_isWhole_1 ?_
  refine lv_lload_n hx hb dX0_isWhole_4 rfl (lv_at hl 1 rfl) ?_
  refine ti_lcmp_ne (tgt := 22) hx hb dX0_isWhole_5 dX0_isWhole_6 (by decide) (by omega) (by omega) (fun h5 => ?_) (fun h5 => ?_)
  · refine ti_iconst hx hb dX0_isWhole_22 ?_
    exact tm_zret hx hb hr hlk (by first | exact Or.inl rfl | exact Or.inr rfl | assumption) hK hW hS ⟨by simp [tl_b, *], rfl⟩ dX0_isWhole_23
  · refine lv_aload_n hx hb dX0_isWhole_9 rfl (lv_at hl 0 rfl) ?_
    refine gf_X0_7 hx hb htw hown hK hW (by assumption) dX0_isWhole_10 ?_
    refine ti_lconst1 hx hb dX0_isWhole_13 ?_
    refine ti_lcmp_ne (tgt := 22) hx hb dX0_isWhole_14 dX0_isWhole_15 (by decide) (by omega) (by omega) (fun h14 => ?_) (fun h14 => ?_)
    · refine ti_iconst hx hb dX0_isWhole_22 ?_
      exact tm_zret hx hb hr hlk (by first | exact Or.inl rfl | exact Or.inr rfl | assumption) hK hW hS ⟨by simp [tl_b, *], rfl⟩ dX0_isWhole_23
    · refine ti_iconst hx hb dX0_isWhole_18 ?_
      refine lv_goto (tgt := 23) hx hb dX0_isWhole_19 (by decide) ?_
      exact tm_zret hx hb hr hlk (by first | exact Or.inl rfl | exact Or.inr rfl | assumption) hK hW hS ⟨by simp [tl_b, *], rfl⟩ dX0_isWhole_23
theorem dX0_isZero_0 : decode cX0_isZero 0 = .ok (.aload_n 0, 1) := by decide +kernel
theorem dX0_isZero_1 : decode cX0_isZero 1 = .ok (.getfield 17, 3) := by decide +kernel
theorem dX0_isZero_4 : decode cX0_isZero 4 = .ok (.lconst 0, 1) := by decide +kernel
theorem dX0_isZero_5 : decode cX0_isZero 5 = .ok (.lcmp, 1) := by decide +kernel
theorem dX0_isZero_6 : decode cX0_isZero 6 = .ok (.ifCond .ne 7, 3) := by decide +kernel
theorem dX0_isZero_9 : decode cX0_isZero 9 = .ok (.iconst 1, 1) := by decide +kernel
theorem dX0_isZero_10 : decode cX0_isZero 10 = .ok (.goto 4, 3) := by decide +kernel
theorem dX0_isZero_13 : decode cX0_isZero 13 = .ok (.iconst 0, 1) := by decide +kernel
theorem dX0_isZero_14 : decode cX0_isZero 14 = .ok (.ireturn, 1) := by decide +kernel
set_option maxHeartbeats 4000000 in
set_option maxRecDepth 100000 in
/-- isZero -/
theorem c_X0_isZero {l : Launch} {G : tm_G} {Hb : Heap} {sh : tm_sh} {M : tm_M} {q : Nat} (h0 : sh q = some (2, 0)) (hg : inL (mL M q 0)) : Met l yX0_isZero (tws yX0_isZero cX0_isZero 1 (some .boolean)) ({ frames := 0, cells := 0, slots := 0, locals := 0 }) (va_Pc [.ref q] (tm_St G Hb sh M)) (tm_Qi G Hb sh (fun x M1 => x = tl_b (mL M q 0 = 0) ∧ M1 = M)) 0 0 (tm_A Hb) := by
  refine tm_begin (by decide) (Nat.le_of_ble_eq_true rfl) (fun p e s m below meth c ls hx hb hr hml hown htw hlk hnm hK hW hl => ?_)
  have hS : va_S (tm_A Hb) s.heap s.heap [] := va_S.rf
  have hl : lv_has ls 1 [(0, .ref q)] := hl
  refine lv_aload_n hx hb dX0_isZero_0 rfl (lv_at hl 0 rfl) ?_
  refine gf_X0_17 hx hb htw hown hK hW (by assumption) dX0_isZero_1 ?_
  refine ti_lconst0 hx hb dX0_isZero_4 ?_
  refine ti_lcmp_ne (tgt := 13) hx hb dX0_isZero_5 dX0_isZero_6 (by decide) (by omega) (by omega) (fun h5 => ?_) (fun h5 => ?_)
  · refine ti_iconst hx hb dX0_isZero_13 ?_
    exact tm_zret hx hb hr hlk (by first | exact Or.inl rfl | exact Or.inr rfl | assumption) hK hW hS ⟨by simp [tl_b, *], rfl⟩ dX0_isZero_14
  · refine ti_iconst hx hb dX0_isZero_9 ?_
    refine lv_goto (tgt := 14) hx hb dX0_isZero_10 (by decide) ?_
    exact tm_zret hx hb hr hlk (by first | exact Or.inl rfl | exact Or.inr rfl | assumption) hK hW hS ⟨by simp [tl_b, *], rfl⟩ dX0_isZero_14
theorem dX0_sameAs_0 : decode cX0_sameAs 0 = .ok (.aload_n 0, 1) := by decide +kernel
theorem dX0_sameAs_1 : decode cX0_sameAs 1 = .ok (.getfield 17, 3) := by decide +kernel
theorem dX0_sameAs_4 : decode cX0_sameAs 4 = .ok (.aload_n 1, 1) := by decide +kernel
theorem dX0_sameAs_5 : decode cX0_sameAs 5 = .ok (.getfield 17, 3) := by decide +kernel
theorem dX0_sameAs_8 : decode cX0_sameAs 8 = .ok (.lcmp, 1) := by decide +kernel
theorem dX0_sameAs_9 : decode cX0_sameAs 9 = .ok (.ifCond .ne 19, 3) := by decide +kernel
theorem dX0_sameAs_12 : decode cX0_sameAs 12 = .ok (.aload_n 0, 1) := by decide +kernel
theorem dX0_sameAs_13 : decode cX0_sameAs 13 = .ok (.getfield 7, 3) := by decide +kernel
theorem dX0_sameAs_16 : decode cX0_sameAs 16 = .ok (.aload_n 1, 1) := by decide +kernel
theorem dX0_sameAs_17 : decode cX0_sameAs 17 = .ok (.getfield 7, 3) := by decide +kernel
theorem dX0_sameAs_20 : decode cX0_sameAs 20 = .ok (.lcmp, 1) := by decide +kernel
theorem dX0_sameAs_21 : decode cX0_sameAs 21 = .ok (.ifCond .ne 7, 3) := by decide +kernel
theorem dX0_sameAs_24 : decode cX0_sameAs 24 = .ok (.iconst 1, 1) := by decide +kernel
theorem dX0_sameAs_25 : decode cX0_sameAs 25 = .ok (.goto 4, 3) := by decide +kernel
theorem dX0_sameAs_28 : decode cX0_sameAs 28 = .ok (.iconst 0, 1) := by decide +kernel
theorem dX0_sameAs_29 : decode cX0_sameAs 29 = .ok (.ireturn, 1) := by decide +kernel
set_option maxHeartbeats 4000000 in
set_option maxRecDepth 100000 in
/-- sameAs -/
theorem c_X0_sameAs {l : Launch} {G : tm_G} {Hb : Heap} {sh : tm_sh} {M : tm_M} {q o : Nat} (h0 : sh q = some (2, 0)) (h1 : sh o = some (2, 0)) (hg : inL (mL M q 0) ∧ inL (mL M q 1)) (hg2 : inL (mL M o 0) ∧ inL (mL M o 1)) : Met l yX0_sameAs (tws yX0_sameAs cX0_sameAs 2 (some .boolean)) ({ frames := 0, cells := 0, slots := 0, locals := 0 }) (va_Pc [.ref q, .ref o] (tm_St G Hb sh M)) (tm_Qi G Hb sh (fun x M1 => x = tl_b (fr M q = fr M o) ∧ M1 = M)) 0 0 (tm_A Hb) := by
  refine tm_begin (by decide) (Nat.le_of_ble_eq_true rfl) (fun p e s m below meth c ls hx hb hr hml hown htw hlk hnm hK hW hl => ?_)
  have hS : va_S (tm_A Hb) s.heap s.heap [] := va_S.rf
  have hl : lv_has ls 2 [(0, .ref q), (1, .ref o)] := hl
  refine lv_aload_n hx hb dX0_sameAs_0 rfl (lv_at hl 0 rfl) ?_
  refine gf_X0_17 hx hb htw hown hK hW (by assumption) dX0_sameAs_1 ?_
  refine lv_aload_n hx hb dX0_sameAs_4 rfl (lv_at hl 1 rfl) ?_
  refine gf_X0_17 hx hb htw hown hK hW (by assumption) dX0_sameAs_5 ?_
  refine ti_lcmp_ne (tgt := 28) hx hb dX0_sameAs_8 dX0_sameAs_9 (by decide) (by omega) (by omega) (fun h8 => ?_) (fun h8 => ?_)
  · refine ti_iconst hx hb dX0_sameAs_28 ?_
    exact tm_zret hx hb hr hlk (by first | exact Or.inl rfl | exact Or.inr rfl | assumption) hK hW hS ⟨by simp [tl_b, *], rfl⟩ dX0_sameAs_29
  · refine lv_aload_n hx hb dX0_sameAs_12 rfl (lv_at hl 0 rfl) ?_
    refine gf_X0_7 hx hb htw hown hK hW (by assumption) dX0_sameAs_13 ?_
    refine lv_aload_n hx hb dX0_sameAs_16 rfl (lv_at hl 1 rfl) ?_
    refine gf_X0_7 hx hb htw hown hK hW (by assumption) dX0_sameAs_17 ?_
    refine ti_lcmp_ne (tgt := 28) hx hb dX0_sameAs_20 dX0_sameAs_21 (by decide) (by omega) (by omega) (fun h20 => ?_) (fun h20 => ?_)
    · refine ti_iconst hx hb dX0_sameAs_28 ?_
      exact tm_zret hx hb hr hlk (by first | exact Or.inl rfl | exact Or.inr rfl | assumption) hK hW hS ⟨by simp [tl_b, *], rfl⟩ dX0_sameAs_29
    · refine ti_iconst hx hb dX0_sameAs_24 ?_
      refine lv_goto (tgt := 29) hx hb dX0_sameAs_25 (by decide) ?_
      exact tm_zret hx hb hr hlk (by first | exact Or.inl rfl | exact Or.inr rfl | assumption) hK hW hS ⟨by simp [tl_b, *], rfl⟩ dX0_sameAs_29
theorem dX0_fits_0 : decode cX0_fits 0 = .ok (.aload_n 0, 1) := by decide +kernel
theorem dX0_fits_1 : decode cX0_fits 1 = .ok (.getfield 17, 3) := by decide +kernel
theorem dX0_fits_4 : decode cX0_fits 4 = .ok (.ldc2_w 24, 3) := by decide +kernel
theorem dX0_fits_7 : decode cX0_fits 7 = .ok (.lcmp, 1) := by decide +kernel
theorem dX0_fits_8 : decode cX0_fits 8 = .ok (.ifCond .lt 29, 3) := by decide +kernel
theorem dX0_fits_11 : decode cX0_fits 11 = .ok (.aload_n 0, 1) := by decide +kernel
theorem dX0_fits_12 : decode cX0_fits 12 = .ok (.getfield 17, 3) := by decide +kernel
theorem dX0_fits_15 : decode cX0_fits 15 = .ok (.ldc2_w 26, 3) := by decide +kernel
theorem dX0_fits_18 : decode cX0_fits 18 = .ok (.lcmp, 1) := by decide +kernel
theorem dX0_fits_19 : decode cX0_fits 19 = .ok (.ifCond .gt 18, 3) := by decide +kernel
theorem dX0_fits_22 : decode cX0_fits 22 = .ok (.aload_n 0, 1) := by decide +kernel
theorem dX0_fits_23 : decode cX0_fits 23 = .ok (.getfield 7, 3) := by decide +kernel
theorem dX0_fits_26 : decode cX0_fits 26 = .ok (.ldc2_w 26, 3) := by decide +kernel
theorem dX0_fits_29 : decode cX0_fits 29 = .ok (.lcmp, 1) := by decide +kernel
theorem dX0_fits_30 : decode cX0_fits 30 = .ok (.ifCond .gt 7, 3) := by decide +kernel
theorem dX0_fits_33 : decode cX0_fits 33 = .ok (.iconst 1, 1) := by decide +kernel
theorem dX0_fits_34 : decode cX0_fits 34 = .ok (.goto 4, 3) := by decide +kernel
theorem dX0_fits_37 : decode cX0_fits 37 = .ok (.iconst 0, 1) := by decide +kernel
theorem dX0_fits_38 : decode cX0_fits 38 = .ok (.ireturn, 1) := by decide +kernel
set_option maxHeartbeats 4000000 in
set_option maxRecDepth 100000 in
/-- fits -/
theorem c_X0_fits {l : Launch} {G : tm_G} {Hb : Heap} {sh : tm_sh} {M : tm_M} {q : Nat} (h0 : sh q = some (2, 0)) (hg : inL (mL M q 0) ∧ inL (mL M q 1)) : Met l yX0_fits (tws yX0_fits cX0_fits 1 (some .boolean)) ({ frames := 0, cells := 0, slots := 0, locals := 0 }) (va_Pc [.ref q] (tm_St G Hb sh M)) (tm_Qi G Hb sh (fun x M1 => x = tl_b (-9999 ≤ mL M q 0 ∧ mL M q 0 ≤ 9999 ∧ mL M q 1 ≤ 9999) ∧ M1 = M)) 0 0 (tm_A Hb) := by
  refine tm_begin (by decide) (Nat.le_of_ble_eq_true rfl) (fun p e s m below meth c ls hx hb hr hml hown htw hlk hnm hK hW hl => ?_)
  have hS : va_S (tm_A Hb) s.heap s.heap [] := va_S.rf
  have hl : lv_has ls 1 [(0, .ref q)] := hl
  refine lv_aload_n hx hb dX0_fits_0 rfl (lv_at hl 0 rfl) ?_
  refine gf_X0_17 hx hb htw hown hK hW (by assumption) dX0_fits_1 ?_
  refine lv_ldc2 hx hb hown (htw _ cl_X0_24) dX0_fits_4 ?_
  refine ti_lcmp_lt (tgt := 37) hx hb dX0_fits_7 dX0_fits_8 (by decide) (by omega) (by omega) (fun h7 => ?_) (fun h7 => ?_)
  · refine ti_iconst hx hb dX0_fits_37 ?_
    exact tm_zret hx hb hr hlk (by first | exact Or.inl rfl | exact Or.inr rfl | assumption) hK hW hS ⟨by first | exact tl_b_t (by omega) | exact tl_b_f (by omega), rfl⟩ dX0_fits_38
  · refine lv_aload_n hx hb dX0_fits_11 rfl (lv_at hl 0 rfl) ?_
    refine gf_X0_17 hx hb htw hown hK hW (by assumption) dX0_fits_12 ?_
    refine lv_ldc2 hx hb hown (htw _ cl_X0_26) dX0_fits_15 ?_
    refine ti_lcmp_gt (tgt := 37) hx hb dX0_fits_18 dX0_fits_19 (by decide) (by omega) (by omega) (fun h18 => ?_) (fun h18 => ?_)
    · refine ti_iconst hx hb dX0_fits_37 ?_
      exact tm_zret hx hb hr hlk (by first | exact Or.inl rfl | exact Or.inr rfl | assumption) hK hW hS ⟨by first | exact tl_b_t (by omega) | exact tl_b_f (by omega), rfl⟩ dX0_fits_38
    · refine lv_aload_n hx hb dX0_fits_22 rfl (lv_at hl 0 rfl) ?_
      refine gf_X0_7 hx hb htw hown hK hW (by assumption) dX0_fits_23 ?_
      refine lv_ldc2 hx hb hown (htw _ cl_X0_26) dX0_fits_26 ?_
      refine ti_lcmp_gt (tgt := 37) hx hb dX0_fits_29 dX0_fits_30 (by decide) (by omega) (by omega) (fun h29 => ?_) (fun h29 => ?_)
      · refine ti_iconst hx hb dX0_fits_37 ?_
        exact tm_zret hx hb hr hlk (by first | exact Or.inl rfl | exact Or.inr rfl | assumption) hK hW hS ⟨by first | exact tl_b_t (by omega) | exact tl_b_f (by omega), rfl⟩ dX0_fits_38
      · refine ti_iconst hx hb dX0_fits_33 ?_
        refine lv_goto (tgt := 38) hx hb dX0_fits_34 (by decide) ?_
        exact tm_zret hx hb hr hlk (by first | exact Or.inl rfl | exact Or.inr rfl | assumption) hK hW hS ⟨by first | exact tl_b_t (by omega) | exact tl_b_f (by omega), rfl⟩ dX0_fits_38
