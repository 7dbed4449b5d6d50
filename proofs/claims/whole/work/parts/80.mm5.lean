/-! TutorLinesModel: print (by program: wip/whole/gen/mm5.py) -/
/-- how a number of at most four digits is written, a part, a side, a line -/
def tl_dec (v : Int) : List Int := if v ≤ 9 then [48 + v] else if v ≤ 99 then [48 + v / 10, 48 + v % 10] else if v ≤ 999 then [48 + v / 100, 48 + v / 10 % 10, 48 + v % 10] else [48 + v / 1000, 48 + v / 100 % 10, 48 + v / 10 % 10, 48 + v % 10]
def tl_abs (v : Int) : Int := if v < 0 then -v else v
def tl_siz (f : tl_F) : List Int := tl_dec (tl_abs f.1) ++ if f.2 = 1 then [] else 47 :: tl_dec f.2
def tl_mns (v : Int) : List Int := if v < 0 then [45] else []
def tl_sid (v : tl_S) : List Int := if v.1.1 = 0 then tl_mns v.2.1 ++ tl_siz v.2 else tl_mns v.1.1 ++ (if (-1 ≤ v.1.1 ∧ v.1.1 ≤ 1) ∧ v.1.2 = 1 then [] else tl_siz v.1) ++ [120] ++ if v.2.1 = 0 then [] else [32, if v.2.1 < 0 then 45 else 43, 32] ++ tl_siz v.2
def tl_rch (r : Int) : Int := if r = 0 then 61 else if r = 1 then 60 else 62
def tl_prt (v : tl_L) : List Int := tl_sid v.1 ++ [32, tl_rch v.2.2, 32] ++ tl_sid v.2.1
/-- what the model has printed -/
def MO (M : tm_M) (o : Nat) (pr : List Int) : Prop := mI M o 8 = pr.length ∧ ∀ j, j < pr.length → mI M (o + 5) j = pr.getD j 0
def pO (o : Nat) (a k : Nat) : Prop := (a = o ∧ k = 8) ∨ a = o + 5
theorem MO_m {M M1 : tm_M} {o : Nat} {pr : List Int} {P : Nat → Nat → Prop} (h : MO M o pr) (f : fq P M M1) (g : ∀ a k, P a k → ¬ pO o a k) : MO M1 o pr := ⟨(f.2 _ _ (fun z => g _ _ z (Or.inl ⟨rfl, rfl⟩))).1.trans h.1, fun j hj => (f.2 _ _ (fun z => g _ _ z (Or.inr rfl))).1.trans (h.2 j hj)⟩
theorem tl_gd {pr : List Int} {c : Int} {j : Nat} (hj : j < pr.length) : (pr ++ [c]).getD j 0 = pr.getD j 0 := by
  rw [List.getD_eq_getElem?_getD, List.getD_eq_getElem?_getD, List.getElem?_append_left hj]
theorem tl_ge {pr : List Int} {c : Int} : (pr ++ [c]).getD pr.length 0 = c := by
  rw [List.getD_eq_getElem?_getD, List.getElem?_append_right (Nat.le_refl _), Nat.sub_self]
  rfl
theorem MO_app {M : tm_M} {o : Nat} {pr : List Int} {c : Int} (h : MO M o pr) : MO (sI (sI M (o + 5) pr.length c) o 8 ((pr.length : Int) + 1)) o (pr ++ [c]) := by
  refine ⟨(tm_up_s _ _ _ _).trans (by rw [List.length_append]; rfl), fun j hj => ?_⟩
  rw [List.length_append] at hj
  have hj : j < pr.length + 1 := hj
  refine (tm_up_a _ _ (by omega)).trans ?_
  by_cases e : j = pr.length
  · subst e
    rw [tl_ge]
    exact tm_up_s _ _ _ _
  · rw [tl_gd (by omega)]
    exact (tm_up_k _ _ e).trans (h.2 j (by omega))
theorem tl_dec_l (v : Int) : (tl_dec v).length ≤ 4 := by
  unfold tl_dec
  repeat' split
  all_goals exact Nat.le_of_ble_eq_true rfl
theorem tl_siz_l (f : tl_F) : (tl_siz f).length ≤ 9 := by
  have h1 := tl_dec_l (tl_abs f.1)
  have h2 := tl_dec_l f.2
  unfold tl_siz
  rw [List.length_append]
  split
  · show _ + 0 ≤ 9; omega
  · show _ + ((tl_dec f.2).length + 1) ≤ 9; omega
theorem tl_mns_l (v : Int) : (tl_mns v).length ≤ 1 := by
  unfold tl_mns
  split <;> decide
theorem tl_td {v u : Int} (hv : 0 ≤ v) : v.tdiv u = v / u := Int.tdiv_eq_ediv_of_nonneg hv
theorem tl_dg {v u : Int} (hv : 0 ≤ v) (hu : 0 < u) : (v.tdiv u).tmod 10 = v / u % 10 := by
  rw [tl_td hv]
  exact Int.tmod_eq_emod_of_nonneg (Int.ediv_nonneg hv (by omega))
theorem dX9_give_0 : decode cX9_give 0 = .ok (.aload_n 0, 1) := by decide +kernel
theorem dX9_give_1 : decode cX9_give 1 = .ok (.getfield 23, 3) := by decide +kernel
theorem dX9_give_4 : decode cX9_give 4 = .ok (.aload_n 0, 1) := by decide +kernel
theorem dX9_give_5 : decode cX9_give 5 = .ok (.getfield 236, 3) := by decide +kernel
theorem dX9_give_8 : decode cX9_give 8 = .ok (.iload_n 1, 1) := by decide +kernel
theorem dX9_give_9 : decode cX9_give 9 = .ok (.iastore, 1) := by decide +kernel
theorem dX9_give_10 : decode cX9_give 10 = .ok (.aload_n 0, 1) := by decide +kernel
theorem dX9_give_11 : decode cX9_give 11 = .ok (.dup, 1) := by decide +kernel
theorem dX9_give_12 : decode cX9_give 12 = .ok (.getfield 236, 3) := by decide +kernel
theorem dX9_give_15 : decode cX9_give 15 = .ok (.iconst 1, 1) := by decide +kernel
theorem dX9_give_16 : decode cX9_give 16 = .ok (.iadd, 1) := by decide +kernel
theorem dX9_give_17 : decode cX9_give 17 = .ok (.putfield 236, 3) := by decide +kernel
theorem dX9_give_20 : decode cX9_give 20 = .ok (.return_, 1) := by decide +kernel
set_option maxHeartbeats 4000000 in
set_option maxRecDepth 100000 in
/-- TutorLinesModel.give -/
theorem c_X9_give {l : Launch} {G : tm_G} {Hb : Heap} {sh : tm_sh} {M : tm_M} {o : Nat} {pr : List Int} (h : isMo sh M o) (hp : MO M o pr) {ch : Int} (hl1 : pr.length < 128) : Met l yX9_give (tws yX9_give cX9_give 2 none) ({ frames := 0, cells := 0, slots := 0, locals := 0 }) (va_Pc [.ref o, ji ch] (tm_St G Hb sh M)) (tm_Qv G Hb sh (fun M1 => MO M1 o (pr ++ [ch]) ∧ fq (pO o) M M1)) 0 0 (tm_A Hb) := by
  refine tm_begin (by decide) (Nat.le_of_ble_eq_true rfl) (fun p e s m below meth c ls hx hb hr hml hown htw hlk hnm hK hW hl => ?_)
  have hS : va_S (tm_A Hb) s.heap s.heap [] := va_S.rf
  have hl : lv_has ls 2 [(0, .ref o), (1, ji ch)] := hl
  obtain ⟨b0, ⟨t1, t2, t6, t7, t9, t12, t13, t14, t15, t16, t17, t24⟩, ⟨u1, u2, u3, u4, u5, u6, u7, u8, u9, u10, u11, u12⟩⟩ := h
  refine lv_aload_n hx hb dX9_give_0 rfl (lv_at hl 0 rfl) ?_
  refine gf_X9_23 hx hb htw hown hK hW (by assumption) (by assumption) dX9_give_1 ?_
  refine lv_aload_n hx hb dX9_give_4 rfl (lv_at hl 0 rfl) ?_
  refine gf_X9_236 hx hb htw hown hK hW (by assumption) dX9_give_5 ?_
  refine lv_iload_n hx hb dX9_give_8 rfl (lv_at hl 1 rfl) ?_
  refine tm_iast hx hb hK hW hS (by assumption) (by rw [hp.1]; omega) (by rw [hp.1]; omega) (by decide) dX9_give_9 (fun H locs hW hS => ?_)
  refine lv_aload_n hx hb dX9_give_10 rfl (lv_at hl 0 rfl) ?_
  refine lv_dup hx hb dX9_give_11 rfl ?_
  refine gf_X9_236 hx hb htw hown hK hW (by assumption) dX9_give_12 ?_
  refine ti_iconst hx hb dX9_give_15 ?_
  refine ti_iadd hx hb dX9_give_16 ?_
  refine pf_X9_236 hx hb htw hown hK hW (by assumption) hS dX9_give_17 (fun H locs hW hS => ?_)
  exact tm_vret hx hb hr hlk hK hW hS ⟨by rw [show mI (sI M (o + 5) (mI M o 8).toNat ch) o 8 = mI M o 8 from tm_up_a _ _ (by omega), hp.1]; exact MO_app hp, fq_tr (fq_sI (Or.inr rfl)) (fq_sI (Or.inl ⟨rfl, rfl⟩))⟩ dX9_give_20
theorem tl_dcl0 {M1 : tm_M} {o : Nat} {pr : List Int} {v : Int} (hv : 0 ≤ v)  (q : v / 1 ≤ 9) (h : MO M1 o (pr ++ [48 + v / 1 % 10])) : MO M1 o (pr ++ tl_dec v) := by
  have e : (pr ++ [48 + v / 1 % 10]) = pr ++ tl_dec v := by
    unfold tl_dec
    rw [if_pos (show v ≤ 9 by omega)]
    rw [show v / 1 % 10 = v / 1 by omega, show v / 1 = v by omega]
  rw [← e]
  exact h
theorem tl_dcl1 {M1 : tm_M} {o : Nat} {pr : List Int} {v : Int} (hv : 0 ≤ v) (k0 : ¬ v / 1 ≤ 9) (q : v / 10 ≤ 9) (h : MO M1 o ((pr ++ [48 + v / 10 % 10]) ++ [48 + v / 1 % 10])) : MO M1 o (pr ++ tl_dec v) := by
  have e : ((pr ++ [48 + v / 10 % 10]) ++ [48 + v / 1 % 10]) = pr ++ tl_dec v := by
    unfold tl_dec
    rw [if_neg (show ¬ v ≤ 9 by omega), if_pos (show v ≤ 99 by omega)]
    simp only [List.append_assoc, List.cons_append, List.nil_append]
    rw [show v / 10 % 10 = v / 10 by omega, show v / 1 % 10 = v % 10 by omega]
  rw [← e]
  exact h
theorem tl_dcl2 {M1 : tm_M} {o : Nat} {pr : List Int} {v : Int} (hv : 0 ≤ v) (k0 : ¬ v / 1 ≤ 9) (k1 : ¬ v / 10 ≤ 9) (q : v / 100 ≤ 9) (h : MO M1 o (((pr ++ [48 + v / 100 % 10]) ++ [48 + v / 10 % 10]) ++ [48 + v / 1 % 10])) : MO M1 o (pr ++ tl_dec v) := by
  have e : (((pr ++ [48 + v / 100 % 10]) ++ [48 + v / 10 % 10]) ++ [48 + v / 1 % 10]) = pr ++ tl_dec v := by
    unfold tl_dec
    rw [if_neg (show ¬ v ≤ 9 by omega), if_neg (show ¬ v ≤ 99 by omega), if_pos (show v ≤ 999 by omega)]
    simp only [List.append_assoc, List.cons_append, List.nil_append]
    rw [show v / 100 % 10 = v / 100 by omega, show v / 1 % 10 = v % 10 by omega]
  rw [← e]
  exact h
theorem tl_dcl3 {M1 : tm_M} {o : Nat} {pr : List Int} {v : Int} (hv : 0 ≤ v) (k0 : ¬ v / 1 ≤ 9) (k1 : ¬ v / 10 ≤ 9) (k2 : ¬ v / 100 ≤ 9) (q : v / 1000 ≤ 9) (h : MO M1 o ((((pr ++ [48 + v / 1000 % 10]) ++ [48 + v / 100 % 10]) ++ [48 + v / 10 % 10]) ++ [48 + v / 1 % 10])) : MO M1 o (pr ++ tl_dec v) := by
  have e : ((((pr ++ [48 + v / 1000 % 10]) ++ [48 + v / 100 % 10]) ++ [48 + v / 10 % 10]) ++ [48 + v / 1 % 10]) = pr ++ tl_dec v := by
    unfold tl_dec
    rw [if_neg (show ¬ v ≤ 9 by omega), if_neg (show ¬ v ≤ 99 by omega), if_neg (show ¬ v ≤ 999 by omega)]
    simp only [List.append_assoc, List.cons_append, List.nil_append]
    rw [show v / 1000 % 10 = v / 1000 by omega, show v / 1 % 10 = v % 10 by omega]
  rw [← e]
  exact h
theorem dX9_decimal_0 : decode cX9_decimal 0 = .ok (.iconst 1, 1) := by decide +kernel
theorem dX9_decimal_1 : decode cX9_decimal 1 = .ok (.istore_n 3, 1) := by decide +kernel
theorem dX9_decimal_2 : decode cX9_decimal 2 = .ok (.lload_n 1, 1) := by decide +kernel
theorem dX9_decimal_3 : decode cX9_decimal 3 = .ok (.iload_n 3, 1) := by decide +kernel
theorem dX9_decimal_4 : decode cX9_decimal 4 = .ok (.i2l, 1) := by decide +kernel
theorem dX9_decimal_5 : decode cX9_decimal 5 = .ok (.ldiv, 1) := by decide +kernel
theorem dX9_decimal_6 : decode cX9_decimal 6 = .ok (.ldc2_w 239, 3) := by decide +kernel
theorem dX9_decimal_9 : decode cX9_decimal 9 = .ok (.lcmp, 1) := by decide +kernel
theorem dX9_decimal_10 : decode cX9_decimal 10 = .ok (.ifCond .le 11, 3) := by decide +kernel
theorem dX9_decimal_13 : decode cX9_decimal 13 = .ok (.iload_n 3, 1) := by decide +kernel
theorem dX9_decimal_14 : decode cX9_decimal 14 = .ok (.bipush 10, 2) := by decide +kernel
theorem dX9_decimal_16 : decode cX9_decimal 16 = .ok (.imul, 1) := by decide +kernel
theorem dX9_decimal_17 : decode cX9_decimal 17 = .ok (.istore_n 3, 1) := by decide +kernel
theorem dX9_decimal_18 : decode cX9_decimal 18 = .ok (.goto (-16), 3) := by decide +kernel
theorem dX9_decimal_21 : decode cX9_decimal 21 = .ok (.iload_n 3, 1) := by decide +kernel
theorem dX9_decimal_22 : decode cX9_decimal 22 = .ok (.ifCond .le 27, 3) := by decide +kernel
theorem dX9_decimal_25 : decode cX9_decimal 25 = .ok (.aload_n 0, 1) := by decide +kernel
theorem dX9_decimal_26 : decode cX9_decimal 26 = .ok (.bipush 48, 2) := by decide +kernel
theorem dX9_decimal_28 : decode cX9_decimal 28 = .ok (.lload_n 1, 1) := by decide +kernel
theorem dX9_decimal_29 : decode cX9_decimal 29 = .ok (.iload_n 3, 1) := by decide +kernel
theorem dX9_decimal_30 : decode cX9_decimal 30 = .ok (.i2l, 1) := by decide +kernel
theorem dX9_decimal_31 : decode cX9_decimal 31 = .ok (.ldiv, 1) := by decide +kernel
theorem dX9_decimal_32 : decode cX9_decimal 32 = .ok (.ldc2_w 241, 3) := by decide +kernel
theorem dX9_decimal_35 : decode cX9_decimal 35 = .ok (.lrem, 1) := by decide +kernel
theorem dX9_decimal_36 : decode cX9_decimal 36 = .ok (.l2i, 1) := by decide +kernel
theorem dX9_decimal_37 : decode cX9_decimal 37 = .ok (.iadd, 1) := by decide +kernel
theorem dX9_decimal_38 : decode cX9_decimal 38 = .ok (.invokevirtual 243, 3) := by decide +kernel
theorem dX9_decimal_41 : decode cX9_decimal 41 = .ok (.iload_n 3, 1) := by decide +kernel
theorem dX9_decimal_42 : decode cX9_decimal 42 = .ok (.bipush 10, 2) := by decide +kernel
theorem dX9_decimal_44 : decode cX9_decimal 44 = .ok (.idiv, 1) := by decide +kernel
theorem dX9_decimal_45 : decode cX9_decimal 45 = .ok (.istore_n 3, 1) := by decide +kernel
theorem dX9_decimal_46 : decode cX9_decimal 46 = .ok (.goto (-25), 3) := by decide +kernel
theorem dX9_decimal_49 : decode cX9_decimal 49 = .ok (.return_, 1) := by decide +kernel
set_option maxHeartbeats 4000000 in
set_option maxRecDepth 100000 in
/-- TutorLinesModel.decimal -/
theorem c_X9_decimal {l : Launch} {G : tm_G} {Hb : Heap} {sh : tm_sh} {M : tm_M} {o : Nat} {pr : List Int} (h : isMo sh M o) (hp : MO M o pr) {v : Int} (hv : 0 ≤ v ∧ v ≤ 9999) (hl1 : pr.length + 4 ≤ 128) : Met l yX9_decimal (tws yX9_decimal cX9_decimal 4 none) ({ frames := 1, cells := 0, slots := 0, locals := 21 }) (va_Pc [.ref o, jl v] (tm_St G Hb sh M)) (tm_Qv G Hb sh (fun M1 => MO M1 o (pr ++ tl_dec v) ∧ fq (pO o) M M1)) 0 0 (tm_A Hb) := by
  refine tm_begin (by decide) (Nat.le_of_ble_eq_true rfl) (fun p e s m below meth c ls hx hb hr hml hown htw hlk hnm hK hW hl => ?_)
  have hS : va_S (tm_A Hb) s.heap s.heap [] := va_S.rf
  have hl : lv_has ls 4 [(0, .ref o), (1, jl v)] := hl
  have b0 := h.1
  refine ti_iconst hx hb dX9_decimal_0 ?_
  refine lv_istore_n (lv' := [(3, _), (0, _), (1, _)]) hx hb dX9_decimal_1 rfl hl (by decide) rfl (fun ls hl => ?_)
  refine lv_lload_n hx hb dX9_decimal_2 rfl (lv_at hl 2 rfl) ?_
  refine lv_iload_n hx hb dX9_decimal_3 rfl (lv_at hl 0 rfl) ?_
  refine ti_i2l hx hb dX9_decimal_4 (by decide) ?_
  refine ti_ldiv hx hb dX9_decimal_5 (by omega) (by decide) (by decide) ?_
  refine lv_ldc2 hx hb hown (htw _ cl_X9_239) dX9_decimal_6 ?_
  refine ti_lcmp_le (tgt := 21) hx hb dX9_decimal_9 dX9_decimal_10 (by decide) (by rw [tl_td hv.1]; omega) (by decide) (fun h9 => ?_) (fun h9 => ?_)
  · refine lv_iload_n hx hb dX9_decimal_21 rfl (lv_at hl 0 rfl) ?_
    refine ti_if_le (tgt := 49) hx hb dX9_decimal_22 (by decide) (by decide) (fun h22 => ?_) (fun h22 => ?_)
    · exact absurd h22 (by decide)
    · refine lv_aload_n hx hb dX9_decimal_25 rfl (lv_at hl 1 rfl) ?_
      refine ti_bipush hx hb dX9_decimal_26 (by decide) ?_
      refine lv_lload_n hx hb dX9_decimal_28 rfl (lv_at hl 2 rfl) ?_
      refine lv_iload_n hx hb dX9_decimal_29 rfl (lv_at hl 0 rfl) ?_
      refine ti_i2l hx hb dX9_decimal_30 (by decide) ?_
      refine ti_ldiv hx hb dX9_decimal_31 (by omega) (by decide) (by decide) ?_
      refine lv_ldc2 hx hb hown (htw _ cl_X9_241) dX9_decimal_32 ?_
      refine ti_lrem hx hb dX9_decimal_35 (by rw [tl_td hv.1]; omega) (by decide) (by decide) ?_
      refine ti_l2i hx hb dX9_decimal_36 (by rw [tl_dg hv.1 (by decide)]; omega) ?_
      refine ti_iadd hx hb dX9_decimal_37 ?_
      rw [tl_dg hv.1 (by decide : (0 : Int) < 1)]
      refine tm_callv (cs_X9_243 hx hb hml hown htw hK hW (by assumption) (c_X9_give (pr := pr) (ch := (48 + v / 1 % 10)) h hp (by omega)) ⟨rfl, rfl, Nat.le_of_ble_eq_true rfl, Nat.le_of_ble_eq_true rfl⟩ hl.1 (Nat.le_of_ble_eq_true rfl) dX9_decimal_38 ⟨Nat.le_of_ble_eq_true rfl, Nat.le_of_ble_eq_true rfl⟩) hS (fun M38 H locs hp38 hW hS => ?_)
      obtain ⟨P0, G0⟩ := hp38
      have F0 := G0
      refine lv_iload_n hx hb dX9_decimal_41 rfl (lv_at hl 0 rfl) ?_
      refine ti_bipush hx hb dX9_decimal_42 (by decide) ?_
      refine ti_idiv hx hb dX9_decimal_44 (by decide) (by decide) (by decide) ?_
      refine lv_istore_n (lv' := [(3, _), (0, _), (1, _)]) hx hb dX9_decimal_45 rfl hl (by decide) rfl (fun ls hl => ?_)
      have hl : lv_has ls 4 [(3, ji 0), (0, .ref o), (1, jl v)] := hl
      refine lv_goto (tgt := 21) hx hb dX9_decimal_46 (by decide) ?_
      refine lv_iload_n hx hb dX9_decimal_21 rfl (lv_at hl 0 rfl) ?_
      refine ti_if_le (tgt := 49) hx hb dX9_decimal_22 (by decide) (by decide) (fun h22 => ?_) (fun h22 => ?_)
      · exact tm_vret hx hb hr hlk hK hW hS ⟨tl_dcl0 hv.1 (by rw [tl_td hv.1] at h9; omega) P0, F0⟩ dX9_decimal_49
      · exact absurd (show (0 : Int) ≤ 0 by decide) h22
  · have k0 : ¬ v / 1 ≤ 9 := by rw [← tl_td hv.1]; exact h9
    refine lv_iload_n hx hb dX9_decimal_13 rfl (lv_at hl 0 rfl) ?_
    refine ti_bipush hx hb dX9_decimal_14 (by decide) ?_
    refine ti_imul hx hb dX9_decimal_16 ?_
    refine lv_istore_n (lv' := [(3, _), (0, _), (1, _)]) hx hb dX9_decimal_17 rfl hl (by decide) rfl (fun ls hl => ?_)
    have hl : lv_has ls 4 [(3, ji 10), (0, .ref o), (1, jl v)] := hl
    refine lv_goto (tgt := 2) hx hb dX9_decimal_18 (by decide) ?_
    refine lv_lload_n hx hb dX9_decimal_2 rfl (lv_at hl 2 rfl) ?_
    refine lv_iload_n hx hb dX9_decimal_3 rfl (lv_at hl 0 rfl) ?_
    refine ti_i2l hx hb dX9_decimal_4 (by decide) ?_
    refine ti_ldiv hx hb dX9_decimal_5 (by omega) (by decide) (by decide) ?_
    refine lv_ldc2 hx hb hown (htw _ cl_X9_239) dX9_decimal_6 ?_
    refine ti_lcmp_le (tgt := 21) hx hb dX9_decimal_9 dX9_decimal_10 (by decide) (by rw [tl_td hv.1]; omega) (by decide) (fun h9 => ?_) (fun h9 => ?_)
    · refine lv_iload_n hx hb dX9_decimal_21 rfl (lv_at hl 0 rfl) ?_
      refine ti_if_le (tgt := 49) hx hb dX9_decimal_22 (by decide) (by decide) (fun h22 => ?_) (fun h22 => ?_)
      · exact absurd h22 (by decide)
      · refine lv_aload_n hx hb dX9_decimal_25 rfl (lv_at hl 1 rfl) ?_
        refine ti_bipush hx hb dX9_decimal_26 (by decide) ?_
        refine lv_lload_n hx hb dX9_decimal_28 rfl (lv_at hl 2 rfl) ?_
        refine lv_iload_n hx hb dX9_decimal_29 rfl (lv_at hl 0 rfl) ?_
        refine ti_i2l hx hb dX9_decimal_30 (by decide) ?_
        refine ti_ldiv hx hb dX9_decimal_31 (by omega) (by decide) (by decide) ?_
        refine lv_ldc2 hx hb hown (htw _ cl_X9_241) dX9_decimal_32 ?_
        refine ti_lrem hx hb dX9_decimal_35 (by rw [tl_td hv.1]; omega) (by decide) (by decide) ?_
        refine ti_l2i hx hb dX9_decimal_36 (by rw [tl_dg hv.1 (by decide)]; omega) ?_
        refine ti_iadd hx hb dX9_decimal_37 ?_
        rw [tl_dg hv.1 (by decide : (0 : Int) < 10)]
        refine tm_callv (cs_X9_243 hx hb hml hown htw hK hW (by assumption) (c_X9_give (pr := pr) (ch := (48 + v / 10 % 10)) h hp (by omega)) ⟨rfl, rfl, Nat.le_of_ble_eq_true rfl, Nat.le_of_ble_eq_true rfl⟩ hl.1 (Nat.le_of_ble_eq_true rfl) dX9_decimal_38 ⟨Nat.le_of_ble_eq_true rfl, Nat.le_of_ble_eq_true rfl⟩) hS (fun M38 H locs hp38 hW hS => ?_)
        obtain ⟨P0, G0⟩ := hp38
        have F0 := G0
        refine lv_iload_n hx hb dX9_decimal_41 rfl (lv_at hl 0 rfl) ?_
        refine ti_bipush hx hb dX9_decimal_42 (by decide) ?_
        refine ti_idiv hx hb dX9_decimal_44 (by decide) (by decide) (by decide) ?_
        refine lv_istore_n (lv' := [(3, _), (0, _), (1, _)]) hx hb dX9_decimal_45 rfl hl (by decide) rfl (fun ls hl => ?_)
        have hl : lv_has ls 4 [(3, ji 1), (0, .ref o), (1, jl v)] := hl
        refine lv_goto (tgt := 21) hx hb dX9_decimal_46 (by decide) ?_
        refine lv_iload_n hx hb dX9_decimal_21 rfl (lv_at hl 0 rfl) ?_
        refine ti_if_le (tgt := 49) hx hb dX9_decimal_22 (by decide) (by decide) (fun h22 => ?_) (fun h22 => ?_)
        · exact absurd h22 (by decide)
        · refine lv_aload_n hx hb dX9_decimal_25 rfl (lv_at hl 1 rfl) ?_
          refine ti_bipush hx hb dX9_decimal_26 (by decide) ?_
          refine lv_lload_n hx hb dX9_decimal_28 rfl (lv_at hl 2 rfl) ?_
          refine lv_iload_n hx hb dX9_decimal_29 rfl (lv_at hl 0 rfl) ?_
          refine ti_i2l hx hb dX9_decimal_30 (by decide) ?_
          refine ti_ldiv hx hb dX9_decimal_31 (by omega) (by decide) (by decide) ?_
          refine lv_ldc2 hx hb hown (htw _ cl_X9_241) dX9_decimal_32 ?_
          refine ti_lrem hx hb dX9_decimal_35 (by rw [tl_td hv.1]; omega) (by decide) (by decide) ?_
          refine ti_l2i hx hb dX9_decimal_36 (by rw [tl_dg hv.1 (by decide)]; omega) ?_
          refine ti_iadd hx hb dX9_decimal_37 ?_
          rw [tl_dg hv.1 (by decide : (0 : Int) < 1)]
          refine tm_callv (cs_X9_243 hx hb hml hown htw hK hW (by assumption) (c_X9_give (pr := (pr ++ [(48 + v / 10 % 10)])) (ch := (48 + v / 1 % 10)) (isMo_m h F0.1) P0 (by simp only [List.length_append, List.length_cons, List.length_nil]; omega)) ⟨rfl, rfl, Nat.le_of_ble_eq_true rfl, Nat.le_of_ble_eq_true rfl⟩ hl.1 (Nat.le_of_ble_eq_true rfl) dX9_decimal_38 ⟨Nat.le_of_ble_eq_true rfl, Nat.le_of_ble_eq_true rfl⟩) hS (fun M38 H locs hp38 hW hS => ?_)
          obtain ⟨P1, G1⟩ := hp38
          have F1 := fq_tr F0 G1
          refine lv_iload_n hx hb dX9_decimal_41 rfl (lv_at hl 0 rfl) ?_
          refine ti_bipush hx hb dX9_decimal_42 (by decide) ?_
          refine ti_idiv hx hb dX9_decimal_44 (by decide) (by decide) (by decide) ?_
          refine lv_istore_n (lv' := [(3, _), (0, _), (1, _)]) hx hb dX9_decimal_45 rfl hl (by decide) rfl (fun ls hl => ?_)
          have hl : lv_has ls 4 [(3, ji 0), (0, .ref o), (1, jl v)] := hl
          refine lv_goto (tgt := 21) hx hb dX9_decimal_46 (by decide) ?_
          refine lv_iload_n hx hb dX9_decimal_21 rfl (lv_at hl 0 rfl) ?_
          refine ti_if_le (tgt := 49) hx hb dX9_decimal_22 (by decide) (by decide) (fun h22 => ?_) (fun h22 => ?_)
          · exact tm_vret hx hb hr hlk hK hW hS ⟨tl_dcl1 hv.1 k0 (by rw [tl_td hv.1] at h9; omega) P1, F1⟩ dX9_decimal_49
          · exact absurd (show (0 : Int) ≤ 0 by decide) h22
    · have k1 : ¬ v / 10 ≤ 9 := by rw [← tl_td hv.1]; exact h9
      refine lv_iload_n hx hb dX9_decimal_13 rfl (lv_at hl 0 rfl) ?_
      refine ti_bipush hx hb dX9_decimal_14 (by decide) ?_
      refine ti_imul hx hb dX9_decimal_16 ?_
      refine lv_istore_n (lv' := [(3, _), (0, _), (1, _)]) hx hb dX9_decimal_17 rfl hl (by decide) rfl (fun ls hl => ?_)
      have hl : lv_has ls 4 [(3, ji 100), (0, .ref o), (1, jl v)] := hl
      refine lv_goto (tgt := 2) hx hb dX9_decimal_18 (by decide) ?_
      refine lv_lload_n hx hb dX9_decimal_2 rfl (lv_at hl 2 rfl) ?_
      refine lv_iload_n hx hb dX9_decimal_3 rfl (lv_at hl 0 rfl) ?_
      refine ti_i2l hx hb dX9_decimal_4 (by decide) ?_
      refine ti_ldiv hx hb dX9_decimal_5 (by omega) (by decide) (by decide) ?_
      refine lv_ldc2 hx hb hown (htw _ cl_X9_239) dX9_decimal_6 ?_
      refine ti_lcmp_le (tgt := 21) hx hb dX9_decimal_9 dX9_decimal_10 (by decide) (by rw [tl_td hv.1]; omega) (by decide) (fun h9 => ?_) (fun h9 => ?_)
      · refine lv_iload_n hx hb dX9_decimal_21 rfl (lv_at hl 0 rfl) ?_
        refine ti_if_le (tgt := 49) hx hb dX9_decimal_22 (by decide) (by decide) (fun h22 => ?_) (fun h22 => ?_)
        · exact absurd h22 (by decide)
        · refine lv_aload_n hx hb dX9_decimal_25 rfl (lv_at hl 1 rfl) ?_
          refine ti_bipush hx hb dX9_decimal_26 (by decide) ?_
          refine lv_lload_n hx hb dX9_decimal_28 rfl (lv_at hl 2 rfl) ?_
          refine lv_iload_n hx hb dX9_decimal_29 rfl (lv_at hl 0 rfl) ?_
          refine ti_i2l hx hb dX9_decimal_30 (by decide) ?_
          refine ti_ldiv hx hb dX9_decimal_31 (by omega) (by decide) (by decide) ?_
          refine lv_ldc2 hx hb hown (htw _ cl_X9_241) dX9_decimal_32 ?_
          refine ti_lrem hx hb dX9_decimal_35 (by rw [tl_td hv.1]; omega) (by decide) (by decide) ?_
          refine ti_l2i hx hb dX9_decimal_36 (by rw [tl_dg hv.1 (by decide)]; omega) ?_
          refine ti_iadd hx hb dX9_decimal_37 ?_
          rw [tl_dg hv.1 (by decide : (0 : Int) < 100)]
          refine tm_callv (cs_X9_243 hx hb hml hown htw hK hW (by assumption) (c_X9_give (pr := pr) (ch := (48 + v / 100 % 10)) h hp (by omega)) ⟨rfl, rfl, Nat.le_of_ble_eq_true rfl, Nat.le_of_ble_eq_true rfl⟩ hl.1 (Nat.le_of_ble_eq_true rfl) dX9_decimal_38 ⟨Nat.le_of_ble_eq_true rfl, Nat.le_of_ble_eq_true rfl⟩) hS (fun M38 H locs hp38 hW hS => ?_)
          obtain ⟨P0, G0⟩ := hp38
          have F0 := G0
          refine lv_iload_n hx hb dX9_decimal_41 rfl (lv_at hl 0 rfl) ?_
          refine ti_bipush hx hb dX9_decimal_42 (by decide) ?_
          refine ti_idiv hx hb dX9_decimal_44 (by decide) (by decide) (by decide) ?_
          refine lv_istore_n (lv' := [(3, _), (0, _), (1, _)]) hx hb dX9_decimal_45 rfl hl (by decide) rfl (fun ls hl => ?_)
          have hl : lv_has ls 4 [(3, ji 10), (0, .ref o), (1, jl v)] := hl
          refine lv_goto (tgt := 21) hx hb dX9_decimal_46 (by decide) ?_
          refine lv_iload_n hx hb dX9_decimal_21 rfl (lv_at hl 0 rfl) ?_
          refine ti_if_le (tgt := 49) hx hb dX9_decimal_22 (by decide) (by decide) (fun h22 => ?_) (fun h22 => ?_)
          · exact absurd h22 (by decide)
          · refine lv_aload_n hx hb dX9_decimal_25 rfl (lv_at hl 1 rfl) ?_
            refine ti_bipush hx hb dX9_decimal_26 (by decide) ?_
            refine lv_lload_n hx hb dX9_decimal_28 rfl (lv_at hl 2 rfl) ?_
            refine lv_iload_n hx hb dX9_decimal_29 rfl (lv_at hl 0 rfl) ?_
            refine ti_i2l hx hb dX9_decimal_30 (by decide) ?_
            refine ti_ldiv hx hb dX9_decimal_31 (by omega) (by decide) (by decide) ?_
            refine lv_ldc2 hx hb hown (htw _ cl_X9_241) dX9_decimal_32 ?_
            refine ti_lrem hx hb dX9_decimal_35 (by rw [tl_td hv.1]; omega) (by decide) (by decide) ?_
            refine ti_l2i hx hb dX9_decimal_36 (by rw [tl_dg hv.1 (by decide)]; omega) ?_
            refine ti_iadd hx hb dX9_decimal_37 ?_
            rw [tl_dg hv.1 (by decide : (0 : Int) < 10)]
            refine tm_callv (cs_X9_243 hx hb hml hown htw hK hW (by assumption) (c_X9_give (pr := (pr ++ [(48 + v / 100 % 10)])) (ch := (48 + v / 10 % 10)) (isMo_m h F0.1) P0 (by simp only [List.length_append, List.length_cons, List.length_nil]; omega)) ⟨rfl, rfl, Nat.le_of_ble_eq_true rfl, Nat.le_of_ble_eq_true rfl⟩ hl.1 (Nat.le_of_ble_eq_true rfl) dX9_decimal_38 ⟨Nat.le_of_ble_eq_true rfl, Nat.le_of_ble_eq_true rfl⟩) hS (fun M38 H locs hp38 hW hS => ?_)
            obtain ⟨P1, G1⟩ := hp38
            have F1 := fq_tr F0 G1
            refine lv_iload_n hx hb dX9_decimal_41 rfl (lv_at hl 0 rfl) ?_
            refine ti_bipush hx hb dX9_decimal_42 (by decide) ?_
            refine ti_idiv hx hb dX9_decimal_44 (by decide) (by decide) (by decide) ?_
            refine lv_istore_n (lv' := [(3, _), (0, _), (1, _)]) hx hb dX9_decimal_45 rfl hl (by decide) rfl (fun ls hl => ?_)
            have hl : lv_has ls 4 [(3, ji 1), (0, .ref o), (1, jl v)] := hl
            refine lv_goto (tgt := 21) hx hb dX9_decimal_46 (by decide) ?_
            refine lv_iload_n hx hb dX9_decimal_21 rfl (lv_at hl 0 rfl) ?_
            refine ti_if_le (tgt := 49) hx hb dX9_decimal_22 (by decide) (by decide) (fun h22 => ?_) (fun h22 => ?_)
            · exact absurd h22 (by decide)
            · refine lv_aload_n hx hb dX9_decimal_25 rfl (lv_at hl 1 rfl) ?_
              refine ti_bipush hx hb dX9_decimal_26 (by decide) ?_
              refine lv_lload_n hx hb dX9_decimal_28 rfl (lv_at hl 2 rfl) ?_
              refine lv_iload_n hx hb dX9_decimal_29 rfl (lv_at hl 0 rfl) ?_
              refine ti_i2l hx hb dX9_decimal_30 (by decide) ?_
              refine ti_ldiv hx hb dX9_decimal_31 (by omega) (by decide) (by decide) ?_
              refine lv_ldc2 hx hb hown (htw _ cl_X9_241) dX9_decimal_32 ?_
              refine ti_lrem hx hb dX9_decimal_35 (by rw [tl_td hv.1]; omega) (by decide) (by decide) ?_
              refine ti_l2i hx hb dX9_decimal_36 (by rw [tl_dg hv.1 (by decide)]; omega) ?_
              refine ti_iadd hx hb dX9_decimal_37 ?_
              rw [tl_dg hv.1 (by decide : (0 : Int) < 1)]
              refine tm_callv (cs_X9_243 hx hb hml hown htw hK hW (by assumption) (c_X9_give (pr := ((pr ++ [(48 + v / 100 % 10)]) ++ [(48 + v / 10 % 10)])) (ch := (48 + v / 1 % 10)) (isMo_m h F1.1) P1 (by simp only [List.length_append, List.length_cons, List.length_nil]; omega)) ⟨rfl, rfl, Nat.le_of_ble_eq_true rfl, Nat.le_of_ble_eq_true rfl⟩ hl.1 (Nat.le_of_ble_eq_true rfl) dX9_decimal_38 ⟨Nat.le_of_ble_eq_true rfl, Nat.le_of_ble_eq_true rfl⟩) hS (fun M38 H locs hp38 hW hS => ?_)
              obtain ⟨P2, G2⟩ := hp38
              have F2 := fq_tr F1 G2
              refine lv_iload_n hx hb dX9_decimal_41 rfl (lv_at hl 0 rfl) ?_
              refine ti_bipush hx hb dX9_decimal_42 (by decide) ?_
              refine ti_idiv hx hb dX9_decimal_44 (by decide) (by decide) (by decide) ?_
              refine lv_istore_n (lv' := [(3, _), (0, _), (1, _)]) hx hb dX9_decimal_45 rfl hl (by decide) rfl (fun ls hl => ?_)
              have hl : lv_has ls 4 [(3, ji 0), (0, .ref o), (1, jl v)] := hl
              refine lv_goto (tgt := 21) hx hb dX9_decimal_46 (by decide) ?_
              refine lv_iload_n hx hb dX9_decimal_21 rfl (lv_at hl 0 rfl) ?_
              refine ti_if_le (tgt := 49) hx hb dX9_decimal_22 (by decide) (by decide) (fun h22 => ?_) (fun h22 => ?_)
              · exact tm_vret hx hb hr hlk hK hW hS ⟨tl_dcl2 hv.1 k0 k1 (by rw [tl_td hv.1] at h9; omega) P2, F2⟩ dX9_decimal_49
              · exact absurd (show (0 : Int) ≤ 0 by decide) h22
      · have k2 : ¬ v / 100 ≤ 9 := by rw [← tl_td hv.1]; exact h9
        refine lv_iload_n hx hb dX9_decimal_13 rfl (lv_at hl 0 rfl) ?_
        refine ti_bipush hx hb dX9_decimal_14 (by decide) ?_
        refine ti_imul hx hb dX9_decimal_16 ?_
        refine lv_istore_n (lv' := [(3, _), (0, _), (1, _)]) hx hb dX9_decimal_17 rfl hl (by decide) rfl (fun ls hl => ?_)
        have hl : lv_has ls 4 [(3, ji 1000), (0, .ref o), (1, jl v)] := hl
        refine lv_goto (tgt := 2) hx hb dX9_decimal_18 (by decide) ?_
        refine lv_lload_n hx hb dX9_decimal_2 rfl (lv_at hl 2 rfl) ?_
        refine lv_iload_n hx hb dX9_decimal_3 rfl (lv_at hl 0 rfl) ?_
        refine ti_i2l hx hb dX9_decimal_4 (by decide) ?_
        refine ti_ldiv hx hb dX9_decimal_5 (by omega) (by decide) (by decide) ?_
        refine lv_ldc2 hx hb hown (htw _ cl_X9_239) dX9_decimal_6 ?_
        refine ti_lcmp_le (tgt := 21) hx hb dX9_decimal_9 dX9_decimal_10 (by decide) (by rw [tl_td hv.1]; omega) (by decide) (fun h9 => ?_) (fun h9 => ?_)
        · refine lv_iload_n hx hb dX9_decimal_21 rfl (lv_at hl 0 rfl) ?_
          refine ti_if_le (tgt := 49) hx hb dX9_decimal_22 (by decide) (by decide) (fun h22 => ?_) (fun h22 => ?_)
          · exact absurd h22 (by decide)
          · refine lv_aload_n hx hb dX9_decimal_25 rfl (lv_at hl 1 rfl) ?_
            refine ti_bipush hx hb dX9_decimal_26 (by decide) ?_
            refine lv_lload_n hx hb dX9_decimal_28 rfl (lv_at hl 2 rfl) ?_
            refine lv_iload_n hx hb dX9_decimal_29 rfl (lv_at hl 0 rfl) ?_
            refine ti_i2l hx hb dX9_decimal_30 (by decide) ?_
            refine ti_ldiv hx hb dX9_decimal_31 (by omega) (by decide) (by decide) ?_
            refine lv_ldc2 hx hb hown (htw _ cl_X9_241) dX9_decimal_32 ?_
            refine ti_lrem hx hb dX9_decimal_35 (by rw [tl_td hv.1]; omega) (by decide) (by decide) ?_
            refine ti_l2i hx hb dX9_decimal_36 (by rw [tl_dg hv.1 (by decide)]; omega) ?_
            refine ti_iadd hx hb dX9_decimal_37 ?_
            rw [tl_dg hv.1 (by decide : (0 : Int) < 1000)]
            refine tm_callv (cs_X9_243 hx hb hml hown htw hK hW (by assumption) (c_X9_give (pr := pr) (ch := (48 + v / 1000 % 10)) h hp (by omega)) ⟨rfl, rfl, Nat.le_of_ble_eq_true rfl, Nat.le_of_ble_eq_true rfl⟩ hl.1 (Nat.le_of_ble_eq_true rfl) dX9_decimal_38 ⟨Nat.le_of_ble_eq_true rfl, Nat.le_of_ble_eq_true rfl⟩) hS (fun M38 H locs hp38 hW hS => ?_)
            obtain ⟨P0, G0⟩ := hp38
            have F0 := G0
            refine lv_iload_n hx hb dX9_decimal_41 rfl (lv_at hl 0 rfl) ?_
            refine ti_bipush hx hb dX9_decimal_42 (by decide) ?_
            refine ti_idiv hx hb dX9_decimal_44 (by decide) (by decide) (by decide) ?_
            refine lv_istore_n (lv' := [(3, _), (0, _), (1, _)]) hx hb dX9_decimal_45 rfl hl (by decide) rfl (fun ls hl => ?_)
            have hl : lv_has ls 4 [(3, ji 100), (0, .ref o), (1, jl v)] := hl
            refine lv_goto (tgt := 21) hx hb dX9_decimal_46 (by decide) ?_
            refine lv_iload_n hx hb dX9_decimal_21 rfl (lv_at hl 0 rfl) ?_
            refine ti_if_le (tgt := 49) hx hb dX9_decimal_22 (by decide) (by decide) (fun h22 => ?_) (fun h22 => ?_)
            · exact absurd h22 (by decide)
            · refine lv_aload_n hx hb dX9_decimal_25 rfl (lv_at hl 1 rfl) ?_
              refine ti_bipush hx hb dX9_decimal_26 (by decide) ?_
              refine lv_lload_n hx hb dX9_decimal_28 rfl (lv_at hl 2 rfl) ?_
              refine lv_iload_n hx hb dX9_decimal_29 rfl (lv_at hl 0 rfl) ?_
              refine ti_i2l hx hb dX9_decimal_30 (by decide) ?_
              refine ti_ldiv hx hb dX9_decimal_31 (by omega) (by decide) (by decide) ?_
              refine lv_ldc2 hx hb hown (htw _ cl_X9_241) dX9_decimal_32 ?_
              refine ti_lrem hx hb dX9_decimal_35 (by rw [tl_td hv.1]; omega) (by decide) (by decide) ?_
              refine ti_l2i hx hb dX9_decimal_36 (by rw [tl_dg hv.1 (by decide)]; omega) ?_
              refine ti_iadd hx hb dX9_decimal_37 ?_
              rw [tl_dg hv.1 (by decide : (0 : Int) < 100)]
              refine tm_callv (cs_X9_243 hx hb hml hown htw hK hW (by assumption) (c_X9_give (pr := (pr ++ [(48 + v / 1000 % 10)])) (ch := (48 + v / 100 % 10)) (isMo_m h F0.1) P0 (by simp only [List.length_append, List.length_cons, List.length_nil]; omega)) ⟨rfl, rfl, Nat.le_of_ble_eq_true rfl, Nat.le_of_ble_eq_true rfl⟩ hl.1 (Nat.le_of_ble_eq_true rfl) dX9_decimal_38 ⟨Nat.le_of_ble_eq_true rfl, Nat.le_of_ble_eq_true rfl⟩) hS (fun M38 H locs hp38 hW hS => ?_)
              obtain ⟨P1, G1⟩ := hp38
              have F1 := fq_tr F0 G1
              refine lv_iload_n hx hb dX9_decimal_41 rfl (lv_at hl 0 rfl) ?_
              refine ti_bipush hx hb dX9_decimal_42 (by decide) ?_
              refine ti_idiv hx hb dX9_decimal_44 (by decide) (by decide) (by decide) ?_
              refine lv_istore_n (lv' := [(3, _), (0, _), (1, _)]) hx hb dX9_decimal_45 rfl hl (by decide) rfl (fun ls hl => ?_)
              have hl : lv_has ls 4 [(3, ji 10), (0, .ref o), (1, jl v)] := hl
              refine lv_goto (tgt := 21) hx hb dX9_decimal_46 (by decide) ?_
              refine lv_iload_n hx hb dX9_decimal_21 rfl (lv_at hl 0 rfl) ?_
              refine ti_if_le (tgt := 49) hx hb dX9_decimal_22 (by decide) (by decide) (fun h22 => ?_) (fun h22 => ?_)
              · exact absurd h22 (by decide)
              · refine lv_aload_n hx hb dX9_decimal_25 rfl (lv_at hl 1 rfl) ?_
                refine ti_bipush hx hb dX9_decimal_26 (by decide) ?_
                refine lv_lload_n hx hb dX9_decimal_28 rfl (lv_at hl 2 rfl) ?_
                refine lv_iload_n hx hb dX9_decimal_29 rfl (lv_at hl 0 rfl) ?_
                refine ti_i2l hx hb dX9_decimal_30 (by decide) ?_
                refine ti_ldiv hx hb dX9_decimal_31 (by omega) (by decide) (by decide) ?_
                refine lv_ldc2 hx hb hown (htw _ cl_X9_241) dX9_decimal_32 ?_
                refine ti_lrem hx hb dX9_decimal_35 (by rw [tl_td hv.1]; omega) (by decide) (by decide) ?_
                refine ti_l2i hx hb dX9_decimal_36 (by rw [tl_dg hv.1 (by decide)]; omega) ?_
                refine ti_iadd hx hb dX9_decimal_37 ?_
                rw [tl_dg hv.1 (by decide : (0 : Int) < 10)]
                refine tm_callv (cs_X9_243 hx hb hml hown htw hK hW (by assumption) (c_X9_give (pr := ((pr ++ [(48 + v / 1000 % 10)]) ++ [(48 + v / 100 % 10)])) (ch := (48 + v / 10 % 10)) (isMo_m h F1.1) P1 (by simp only [List.length_append, List.length_cons, List.length_nil]; omega)) ⟨rfl, rfl, Nat.le_of_ble_eq_true rfl, Nat.le_of_ble_eq_true rfl⟩ hl.1 (Nat.le_of_ble_eq_true rfl) dX9_decimal_38 ⟨Nat.le_of_ble_eq_true rfl, Nat.le_of_ble_eq_true rfl⟩) hS (fun M38 H locs hp38 hW hS => ?_)
                obtain ⟨P2, G2⟩ := hp38
                have F2 := fq_tr F1 G2
                refine lv_iload_n hx hb dX9_decimal_41 rfl (lv_at hl 0 rfl) ?_
                refine ti_bipush hx hb dX9_decimal_42 (by decide) ?_
                refine ti_idiv hx hb dX9_decimal_44 (by decide) (by decide) (by decide) ?_
                refine lv_istore_n (lv' := [(3, _), (0, _), (1, _)]) hx hb dX9_decimal_45 rfl hl (by decide) rfl (fun ls hl => ?_)
                have hl : lv_has ls 4 [(3, ji 1), (0, .ref o), (1, jl v)] := hl
                refine lv_goto (tgt := 21) hx hb dX9_decimal_46 (by decide) ?_
                refine lv_iload_n hx hb dX9_decimal_21 rfl (lv_at hl 0 rfl) ?_
                refine ti_if_le (tgt := 49) hx hb dX9_decimal_22 (by decide) (by decide) (fun h22 => ?_) (fun h22 => ?_)
                · exact absurd h22 (by decide)
                · refine lv_aload_n hx hb dX9_decimal_25 rfl (lv_at hl 1 rfl) ?_
                  refine ti_bipush hx hb dX9_decimal_26 (by decide) ?_
                  refine lv_lload_n hx hb dX9_decimal_28 rfl (lv_at hl 2 rfl) ?_
                  refine lv_iload_n hx hb dX9_decimal_29 rfl (lv_at hl 0 rfl) ?_
                  refine ti_i2l hx hb dX9_decimal_30 (by decide) ?_
                  refine ti_ldiv hx hb dX9_decimal_31 (by omega) (by decide) (by decide) ?_
                  refine lv_ldc2 hx hb hown (htw _ cl_X9_241) dX9_decimal_32 ?_
                  refine ti_lrem hx hb dX9_decimal_35 (by rw [tl_td hv.1]; omega) (by decide) (by decide) ?_
                  refine ti_l2i hx hb dX9_decimal_36 (by rw [tl_dg hv.1 (by decide)]; omega) ?_
                  refine ti_iadd hx hb dX9_decimal_37 ?_
                  rw [tl_dg hv.1 (by decide : (0 : Int) < 1)]
                  refine tm_callv (cs_X9_243 hx hb hml hown htw hK hW (by assumption) (c_X9_give (pr := (((pr ++ [(48 + v / 1000 % 10)]) ++ [(48 + v / 100 % 10)]) ++ [(48 + v / 10 % 10)])) (ch := (48 + v / 1 % 10)) (isMo_m h F2.1) P2 (by simp only [List.length_append, List.length_cons, List.length_nil]; omega)) ⟨rfl, rfl, Nat.le_of_ble_eq_true rfl, Nat.le_of_ble_eq_true rfl⟩ hl.1 (Nat.le_of_ble_eq_true rfl) dX9_decimal_38 ⟨Nat.le_of_ble_eq_true rfl, Nat.le_of_ble_eq_true rfl⟩) hS (fun M38 H locs hp38 hW hS => ?_)
                  obtain ⟨P3, G3⟩ := hp38
                  have F3 := fq_tr F2 G3
                  refine lv_iload_n hx hb dX9_decimal_41 rfl (lv_at hl 0 rfl) ?_
                  refine ti_bipush hx hb dX9_decimal_42 (by decide) ?_
                  refine ti_idiv hx hb dX9_decimal_44 (by decide) (by decide) (by decide) ?_
                  refine lv_istore_n (lv' := [(3, _), (0, _), (1, _)]) hx hb dX9_decimal_45 rfl hl (by decide) rfl (fun ls hl => ?_)
                  have hl : lv_has ls 4 [(3, ji 0), (0, .ref o), (1, jl v)] := hl
                  refine lv_goto (tgt := 21) hx hb dX9_decimal_46 (by decide) ?_
                  refine lv_iload_n hx hb dX9_decimal_21 rfl (lv_at hl 0 rfl) ?_
                  refine ti_if_le (tgt := 49) hx hb dX9_decimal_22 (by decide) (by decide) (fun h22 => ?_) (fun h22 => ?_)
                  · exact tm_vret hx hb hr hlk hK hW hS ⟨tl_dcl3 hv.1 k0 k1 k2 (by rw [tl_td hv.1] at h9; omega) P3, F3⟩ dX9_decimal_49
                  · exact absurd (show (0 : Int) ≤ 0 by decide) h22
        · exact absurd (show v.tdiv 1000 ≤ 9 by rw [tl_td hv.1]; omega) h9
theorem tl_sz1 {M1 : tm_M} {o : Nat} {pr : List Int} {a b : Int} (hb : b = 1) (h : MO M1 o (pr ++ tl_dec (tl_abs a))) : MO M1 o (pr ++ tl_siz (a, b)) := by
  have e : tl_siz (a, b) = tl_dec (tl_abs a) := by
    show tl_dec (tl_abs a) ++ (if b = 1 then [] else 47 :: tl_dec b) = _
    rw [if_pos hb, List.append_nil]
  rw [e]
  exact h
theorem tl_sz2 {M1 : tm_M} {o : Nat} {pr : List Int} {a b : Int} (hb : ¬ b = 1) (h : MO M1 o (pr ++ tl_dec (tl_abs a) ++ [47] ++ tl_dec b)) : MO M1 o (pr ++ tl_siz (a, b)) := by
  have e : pr ++ tl_siz (a, b) = pr ++ tl_dec (tl_abs a) ++ [47] ++ tl_dec b := by
    show pr ++ (tl_dec (tl_abs a) ++ (if b = 1 then [] else 47 :: tl_dec b)) = _
    rw [if_neg hb]
    simp only [List.append_assoc, List.cons_append, List.nil_append]
  rw [e]
  exact h
theorem dX9_size_0 : decode cX9_size 0 = .ok (.aload_n 0, 1) := by decide +kernel
theorem dX9_size_1 : decode cX9_size 1 = .ok (.lload_n 1, 1) := by decide +kernel
theorem dX9_size_2 : decode cX9_size 2 = .ok (.lconst 0, 1) := by decide +kernel
theorem dX9_size_3 : decode cX9_size 3 = .ok (.lcmp, 1) := by decide +kernel
theorem dX9_size_4 : decode cX9_size 4 = .ok (.ifCond .ge 8, 3) := by decide +kernel
theorem dX9_size_7 : decode cX9_size 7 = .ok (.lload_n 1, 1) := by decide +kernel
theorem dX9_size_8 : decode cX9_size 8 = .ok (.lneg, 1) := by decide +kernel
theorem dX9_size_9 : decode cX9_size 9 = .ok (.goto 4, 3) := by decide +kernel
theorem dX9_size_12 : decode cX9_size 12 = .ok (.lload_n 1, 1) := by decide +kernel
theorem dX9_size_13 : decode cX9_size 13 = .ok (.invokevirtual 246, 3) := by decide +kernel
theorem dX9_size_16 : decode cX9_size 16 = .ok (.lload_n 3, 1) := by decide +kernel
theorem dX9_size_17 : decode cX9_size 17 = .ok (.lconst 1, 1) := by decide +kernel
theorem dX9_size_18 : decode cX9_size 18 = .ok (.lcmp, 1) := by decide +kernel
theorem dX9_size_19 : decode cX9_size 19 = .ok (.ifCond .ne 4, 3) := by decide +kernel
theorem dX9_size_22 : decode cX9_size 22 = .ok (.return_, 1) := by decide +kernel
theorem dX9_size_23 : decode cX9_size 23 = .ok (.aload_n 0, 1) := by decide +kernel
theorem dX9_size_24 : decode cX9_size 24 = .ok (.bipush 47, 2) := by decide +kernel
theorem dX9_size_26 : decode cX9_size 26 = .ok (.invokevirtual 243, 3) := by decide +kernel
theorem dX9_size_29 : decode cX9_size 29 = .ok (.aload_n 0, 1) := by decide +kernel
theorem dX9_size_30 : decode cX9_size 30 = .ok (.lload_n 3, 1) := by decide +kernel
theorem dX9_size_31 : decode cX9_size 31 = .ok (.invokevirtual 246, 3) := by decide +kernel
theorem dX9_size_34 : decode cX9_size 34 = .ok (.return_, 1) := by decide +kernel
set_option maxHeartbeats 4000000 in
set_option maxRecDepth 100000 in
/-- TutorLinesModel.size -/
theorem c_X9_size {l : Launch} {G : tm_G} {Hb : Heap} {sh : tm_sh} {M : tm_M} {o : Nat} {pr : List Int} (h : isMo sh M o) (hp : MO M o pr) {a b : Int} (ha : fok (a, b)) (hl1 : pr.length + 9 ≤ 128) : Met l yX9_size (tws yX9_size cX9_size 5 none) ({ frames := 2, cells := 0, slots := 0, locals := 44 }) (va_Pc [.ref o, jl a, jl b] (tm_St G Hb sh M)) (tm_Qv G Hb sh (fun M1 => MO M1 o (pr ++ tl_siz (a, b)) ∧ fq (pO o) M M1)) 0 0 (tm_A Hb) := by
  refine tm_begin (by decide) (Nat.le_of_ble_eq_true rfl) (fun p e s m below meth c ls hx hb hr hml hown htw hlk hnm hK hW hl => ?_)
  have hS : va_S (tm_A Hb) s.heap s.heap [] := va_S.rf
  have hl : lv_has ls 5 [(0, .ref o), (1, jl a), (3, jl b)] := hl
  have b0 := h.1
  obtain ⟨a1, a2, a3, a4⟩ := ha
  have a1 : -9999 ≤ a := a1
  have a2 : a ≤ 9999 := a2
  have a3 : 0 < b := a3
  have a4 : b ≤ 9999 := a4
  refine lv_aload_n hx hb dX9_size_0 rfl (lv_at hl 0 rfl) ?_
  refine lv_lload_n hx hb dX9_size_1 rfl (lv_at hl 1 rfl) ?_
  refine ti_lconst0 hx hb dX9_size_2 ?_
  refine ti_lcmp_ge (tgt := 12) hx hb dX9_size_3 dX9_size_4 (by decide) (by omega) (by decide) (fun h3 => ?_) (fun h3 => ?_)
  · refine lv_lload_n hx hb dX9_size_12 rfl (lv_at hl 1 rfl) ?_
    refine tm_callv (cs_X9_246 hx hb hml hown htw hK hW (by assumption) (c_X9_decimal (pr := pr) (v := a) h hp (by omega) (by omega)) ⟨rfl, rfl, Nat.le_of_ble_eq_true rfl, Nat.le_of_ble_eq_true rfl⟩ hl.1 (Nat.le_of_ble_eq_true rfl) dX9_size_13 ⟨Nat.le_of_ble_eq_true rfl, Nat.le_of_ble_eq_true rfl⟩) hS (fun M13 H locs hp13 hW hS => ?_)
    obtain ⟨P13, F13⟩ := hp13
    have ea : tl_abs a = a := by unfold tl_abs; first | rw [if_pos (by omega)] | rw [if_neg (by omega)]
    rw [← ea] at P13
    refine lv_lload_n hx hb dX9_size_16 rfl (lv_at hl 2 rfl) ?_
    refine ti_lconst1 hx hb dX9_size_17 ?_
    refine ti_lcmp_ne (tgt := 23) hx hb dX9_size_18 dX9_size_19 (by decide) (by omega) (by decide) (fun h18 => ?_) (fun h18 => ?_)
    · refine lv_aload_n hx hb dX9_size_23 rfl (lv_at hl 0 rfl) ?_
      refine ti_bipush hx hb dX9_size_24 (by decide) ?_
      refine tm_callv (cs_X9_243 hx hb hml hown htw hK hW (by assumption) (c_X9_give (pr := pr ++ tl_dec (tl_abs a)) (ch := 47) (isMo_m h F13.1) P13 (by rw [List.length_append]; have := tl_dec_l (tl_abs a); omega)) ⟨rfl, rfl, Nat.le_of_ble_eq_true rfl, Nat.le_of_ble_eq_true rfl⟩ hl.1 (Nat.le_of_ble_eq_true rfl) dX9_size_26 ⟨Nat.le_of_ble_eq_true rfl, Nat.le_of_ble_eq_true rfl⟩) hS (fun M26 H locs hp26 hW hS => ?_)
      obtain ⟨P26, F26⟩ := hp26
      refine lv_aload_n hx hb dX9_size_29 rfl (lv_at hl 0 rfl) ?_
      refine lv_lload_n hx hb dX9_size_30 rfl (lv_at hl 2 rfl) ?_
      refine tm_callv (cs_X9_246 hx hb hml hown htw hK hW (by assumption) (c_X9_decimal (v := b) (isMo_m h (fq_tr F13 F26).1) P26 (by omega) (by simp only [List.length_append, List.length_cons, List.length_nil]; have := tl_dec_l (tl_abs a); omega)) ⟨rfl, rfl, Nat.le_of_ble_eq_true rfl, Nat.le_of_ble_eq_true rfl⟩ hl.1 (Nat.le_of_ble_eq_true rfl) dX9_size_31 ⟨Nat.le_of_ble_eq_true rfl, Nat.le_of_ble_eq_true rfl⟩) hS (fun M31 H locs hp31 hW hS => ?_)
      obtain ⟨P31, F31⟩ := hp31
      exact tm_vret hx hb hr hlk hK hW hS ⟨tl_sz2 h18 P31, fq_tr (fq_tr F13 F26) F31⟩ dX9_size_34
    · exact tm_vret hx hb hr hlk hK hW hS ⟨tl_sz1 h18 P13, F13⟩ dX9_size_22
  · refine lv_lload_n hx hb dX9_size_7 rfl (lv_at hl 1 rfl) ?_
    refine ti_lneg hx hb dX9_size_8 ?_
    refine lv_goto (tgt := 13) hx hb dX9_size_9 (by decide) ?_
    refine tm_callv (cs_X9_246 hx hb hml hown htw hK hW (by assumption) (c_X9_decimal (pr := pr) (v := (-a)) h hp (by omega) (by omega)) ⟨rfl, rfl, Nat.le_of_ble_eq_true rfl, Nat.le_of_ble_eq_true rfl⟩ hl.1 (Nat.le_of_ble_eq_true rfl) dX9_size_13 ⟨Nat.le_of_ble_eq_true rfl, Nat.le_of_ble_eq_true rfl⟩) hS (fun M13 H locs hp13 hW hS => ?_)
    obtain ⟨P13, F13⟩ := hp13
    have ea : tl_abs a = (-a) := by unfold tl_abs; first | rw [if_pos (by omega)] | rw [if_neg (by omega)]
    rw [← ea] at P13
    refine lv_lload_n hx hb dX9_size_16 rfl (lv_at hl 2 rfl) ?_
    refine ti_lconst1 hx hb dX9_size_17 ?_
    refine ti_lcmp_ne (tgt := 23) hx hb dX9_size_18 dX9_size_19 (by decide) (by omega) (by decide) (fun h18 => ?_) (fun h18 => ?_)
    · refine lv_aload_n hx hb dX9_size_23 rfl (lv_at hl 0 rfl) ?_
      refine ti_bipush hx hb dX9_size_24 (by decide) ?_
      refine tm_callv (cs_X9_243 hx hb hml hown htw hK hW (by assumption) (c_X9_give (pr := pr ++ tl_dec (tl_abs a)) (ch := 47) (isMo_m h F13.1) P13 (by rw [List.length_append]; have := tl_dec_l (tl_abs a); omega)) ⟨rfl, rfl, Nat.le_of_ble_eq_true rfl, Nat.le_of_ble_eq_true rfl⟩ hl.1 (Nat.le_of_ble_eq_true rfl) dX9_size_26 ⟨Nat.le_of_ble_eq_true rfl, Nat.le_of_ble_eq_true rfl⟩) hS (fun M26 H locs hp26 hW hS => ?_)
      obtain ⟨P26, F26⟩ := hp26
      refine lv_aload_n hx hb dX9_size_29 rfl (lv_at hl 0 rfl) ?_
      refine lv_lload_n hx hb dX9_size_30 rfl (lv_at hl 2 rfl) ?_
      refine tm_callv (cs_X9_246 hx hb hml hown htw hK hW (by assumption) (c_X9_decimal (v := b) (isMo_m h (fq_tr F13 F26).1) P26 (by omega) (by simp only [List.length_append, List.length_cons, List.length_nil]; have := tl_dec_l (tl_abs a); omega)) ⟨rfl, rfl, Nat.le_of_ble_eq_true rfl, Nat.le_of_ble_eq_true rfl⟩ hl.1 (Nat.le_of_ble_eq_true rfl) dX9_size_31 ⟨Nat.le_of_ble_eq_true rfl, Nat.le_of_ble_eq_true rfl⟩) hS (fun M31 H locs hp31 hW hS => ?_)
      obtain ⟨P31, F31⟩ := hp31
      exact tm_vret hx hb hr hlk hK hW hS ⟨tl_sz2 h18 P31, fq_tr (fq_tr F13 F26) F31⟩ dX9_size_34
    · exact tm_vret hx hb hr hlk hK hW hS ⟨tl_sz1 h18 P13, F13⟩ dX9_size_22
