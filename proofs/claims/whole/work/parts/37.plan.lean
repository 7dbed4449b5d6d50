/-! Plan (by program: wip/whole/gen/plan.py) -/
def tl_kind (v : tl_L) : Int := if ¬ v.2.1.1.1 = 0 then 1 else if ¬ v.1.2.1 = 0 then 2 else if v.1.1.1 = 0 ∨ v.1.1 = (1, 1) then 0 else 3
def tl_planv (v : tl_L) : tl_L := if tl_kind v = 1 then ((fsub v.1.1 v.2.1.1, v.1.2), ((0, 1), v.2.1.2), v.2.2) else if tl_kind v = 2 then ((v.1.1, (0, 1)), (v.2.1.1, fsub v.2.1.2 v.1.2), v.2.2) else if tl_kind v = 3 then (((1, 1), v.1.2), (v.2.1.1, fdiv v.2.1.2 v.1.1), if v.1.1.1 < 0 ∧ ¬ v.2.2 = 0 then 3 - v.2.2 else v.2.2) else v
abbrev lfit (v : tl_L) : Prop := (ffit v.1.1 ∧ ffit v.1.2) ∧ ffit v.2.1.1 ∧ ffit v.2.1.2
def lLok (v : tl_L) : Prop := (fLok v.1.1 ∧ fLok v.1.2) ∧ fLok v.2.1.1 ∧ fLok v.2.1.2
def tl_plan (v : tl_L) : Int := if lfit (tl_planv v) then tl_kind v else -1
theorem tl_kind_r (v : tl_L) : 0 ≤ tl_kind v ∧ tl_kind v ≤ 3 := by
  unfold tl_kind
  split
  · omega
  · split
    · omega
    · split <;> omega
theorem fLok_1 : fLok (1, 1) := by unfold fLok; omega
theorem fLok_0 : fLok (0, 1) := by unfold fLok; omega
theorem fLok_sub {f g : tl_F} (hf : fok f) (hg : fok g) : fLok (fsub f g) := fLok_norm (tl_bd hf hg).1 (tl_bd hf hg).2.2.2.1 (tl_bd hf hg).2.1
theorem fLok_add {f g : tl_F} (hf : fok f) (hg : fok g) : fLok (fadd f g) := fLok_norm (tl_bd hf hg).1 (tl_bd hf hg).2.2.1 (tl_bd hf hg).2.1
theorem fLok_mul {f g : tl_F} (hf : fok f) (hg : fok g) : fLok (fmul f g) := fLok_norm (tl_bd hf hg).1 (tl_bd hf hg).2.2.2.2.1 (tl_bd hf hg).2.1
theorem fLok_div {f g : tl_F} (hf : fok f) (hg : fok g) (hz : g.1 ≠ 0) : fLok (fdiv f g) := fLok_norm (tl_n0 (fok_ab hf).2.2 hz) (tl_bd hf hg).2.2.2.2.2.1 (tl_bd hf hg).2.2.2.2.2.2
theorem lLok_of {v : tl_L} (h : lok v) : lLok v := ⟨⟨fLok_of h.1.1, fLok_of h.1.2⟩, fLok_of h.2.1.1, fLok_of h.2.1.2⟩
theorem tl_kind3 {v : tl_L} (h : tl_kind v = 3) : ¬ v.1.1.1 = 0 := by
  unfold tl_kind at h
  split at h
  · omega
  · split at h
    · omega
    · split at h
      · omega
      · rename_i z
        exact fun e => z (Or.inl e)
theorem lLok_plan {v : tl_L} (h : lok v) : lLok (tl_planv v) := by
  unfold tl_planv
  split
  · exact ⟨⟨fLok_sub h.1.1 h.2.1.1, fLok_of h.1.2⟩, fLok_0, fLok_of h.2.1.2⟩
  · split
    · exact ⟨⟨fLok_of h.1.1, fLok_0⟩, fLok_of h.2.1.1, fLok_sub h.2.1.2 h.1.2⟩
    · split
      · rename_i z
        exact ⟨⟨fLok_1, fLok_of h.1.2⟩, fLok_of h.2.1.1, fLok_div h.2.1.2 h.1.1 (tl_kind3 z)⟩
      · exact lLok_of h
theorem isSd_m {sh : tm_sh} {M M1 : tm_M} {q : Nat} (h : isSd sh M q) (e : mR M1 = mR M) : isSd sh M1 q := ⟨h.1, h.2.1, h.2.2.1, by rw [e]; exact h.2.2.2.1, by rw [e]; exact h.2.2.2.2⟩
theorem isLn_m {sh : tm_sh} {M M1 : tm_M} {q : Nat} (h : isLn sh M q) (e : mR M1 = mR M) : isLn sh M1 q := ⟨h.1, by rw [e]; exact h.2.1, by rw [e]; exact h.2.2.1, isSd_m h.2.2.2.1 e, isSd_m h.2.2.2.2 e⟩
theorem ln_ext {M : tm_M} {q : Nat} {A B C D : tl_F} {r : Int} (h1 : fr M (q + 2) = A) (h2 : fr M (q + 3) = B) (h3 : fr M (q + 5) = C) (h4 : fr M (q + 6) = D) (h5 : mI M q 2 = r) : ln M q = ((A, B), (C, D), r) := by
  subst h1 h2 h3 h4 h5
  rfl
theorem fw_lS {q : Nat} {M : tm_M} (v : tl_L) : tm_fr q (q + 7) M (lS M q v) := fw_tr (fw_tr (fw_tr (fw_tr (fw_fS _ (by omega) (by omega)) (fw_fS _ (by omega) (by omega))) (fw_fS _ (by omega) (by omega))) (fw_fS _ (by omega) (by omega))) (fw_sI _ (by omega) (by omega))
/-- the parts of a line, out of its value -/
theorem ln_at {M : tm_M} {q : Nat} {v : tl_L} (h : ln M q = v) : fr M (q + 2) = v.1.1 ∧ fr M (q + 3) = v.1.2 ∧ fr M (q + 5) = v.2.1.1 ∧ fr M (q + 6) = v.2.1.2 ∧ mI M q 2 = v.2.2 := by
  subst h
  exact ⟨rfl, rfl, rfl, rfl, rfl⟩
theorem tl_turn {M2 : tm_M} {q : Nat} {x r : Int} (hr : mI M2 q 2 = r) (hx : x < 0) : (if mI M2 q 2 = 0 then M2 else sI M2 q 2 (3 - mI M2 q 2)) = if x < 0 ∧ ¬ r = 0 then sI M2 q 2 (3 - r) else M2 := by
  rw [hr]
  by_cases z : r = 0
  · rw [if_pos z, if_neg (fun h => h.2 z)]
  · rw [if_neg z, if_pos ⟨hx, z⟩]
theorem dX3_kindFor_0 : decode cX3_kindFor 0 = .ok (.aload_n 0, 1) := by decide +kernel
theorem dX3_kindFor_1 : decode cX3_kindFor 1 = .ok (.getfield 29, 3) := by decide +kernel
theorem dX3_kindFor_4 : decode cX3_kindFor 4 = .ok (.getfield 23, 3) := by decide +kernel
theorem dX3_kindFor_7 : decode cX3_kindFor 7 = .ok (.invokevirtual 53, 3) := by decide +kernel
theorem dX3_kindFor_10 : decode cX3_kindFor 10 = .ok (.ifCond .ne 5, 3) := by decide +kernel
theorem dX3_kindFor_13 : decode cX3_kindFor 13 = .ok (.iconst 1, 1) := by decide +kernel
theorem dX3_kindFor_14 : decode cX3_kindFor 14 = .ok (.ireturn, 1) := by decide +kernel
theorem dX3_kindFor_15 : decode cX3_kindFor 15 = .ok (.aload_n 0, 1) := by decide +kernel
theorem dX3_kindFor_16 : decode cX3_kindFor 16 = .ok (.getfield 19, 3) := by decide +kernel
theorem dX3_kindFor_19 : decode cX3_kindFor 19 = .ok (.getfield 42, 3) := by decide +kernel
theorem dX3_kindFor_22 : decode cX3_kindFor 22 = .ok (.invokevirtual 53, 3) := by decide +kernel
theorem dX3_kindFor_25 : decode cX3_kindFor 25 = .ok (.ifCond .ne 5, 3) := by decide +kernel
theorem dX3_kindFor_28 : decode cX3_kindFor 28 = .ok (.iconst 2, 1) := by decide +kernel
theorem dX3_kindFor_29 : decode cX3_kindFor 29 = .ok (.ireturn, 1) := by decide +kernel
theorem dX3_kindFor_30 : decode cX3_kindFor 30 = .ok (.aload_n 0, 1) := by decide +kernel
theorem dX3_kindFor_31 : decode cX3_kindFor 31 = .ok (.getfield 19, 3) := by decide +kernel
theorem dX3_kindFor_34 : decode cX3_kindFor 34 = .ok (.getfield 23, 3) := by decide +kernel
theorem dX3_kindFor_37 : decode cX3_kindFor 37 = .ok (.invokevirtual 53, 3) := by decide +kernel
theorem dX3_kindFor_40 : decode cX3_kindFor 40 = .ok (.ifCond .ne 17, 3) := by decide +kernel
theorem dX3_kindFor_43 : decode cX3_kindFor 43 = .ok (.aload_n 0, 1) := by decide +kernel
theorem dX3_kindFor_44 : decode cX3_kindFor 44 = .ok (.getfield 19, 3) := by decide +kernel
theorem dX3_kindFor_47 : decode cX3_kindFor 47 = .ok (.getfield 23, 3) := by decide +kernel
theorem dX3_kindFor_50 : decode cX3_kindFor 50 = .ok (.lconst 1, 1) := by decide +kernel
theorem dX3_kindFor_51 : decode cX3_kindFor 51 = .ok (.invokevirtual 56, 3) := by decide +kernel
theorem dX3_kindFor_54 : decode cX3_kindFor 54 = .ok (.ifCond .eq 7, 3) := by decide +kernel
theorem dX3_kindFor_57 : decode cX3_kindFor 57 = .ok (.iconst 0, 1) := by decide +kernel
theorem dX3_kindFor_58 : decode cX3_kindFor 58 = .ok (.goto 4, 3) := by decide +kernel
theorem dX3_kindFor_61 : decode cX3_kindFor 61 = .ok (.iconst 3, 1) := by decide +kernel
theorem dX3_kindFor_62 : decode cX3_kindFor 62 = .ok (.ireturn, 1) := by decide +kernel
set_option maxHeartbeats 4000000 in
set_option maxRecDepth 100000 in
/-- Plan.kindFor -/
theorem c_X3_kindFor {l : Launch} {G : tm_G} {Hb : Heap} {sh : tm_sh} {M : tm_M} {o : Nat} (ht : isLn sh M o) (hv : lok (ln M o)) : Met l yX3_kindFor (tws yX3_kindFor cX3_kindFor 1 (some .int)) ({ frames := 1, cells := 0, slots := 0, locals := 22 }) (va_Pc [.ref o] (tm_St G Hb sh M)) (tm_Qi G Hb sh (fun r M1 => r = tl_kind (ln M o) ∧ M1 = M)) 0 0 (tm_A Hb) := by
  refine tm_begin (by decide) (Nat.le_of_ble_eq_true rfl) (fun p e s m below meth c ls hx hb hr hml hown htw hlk hnm hK hW hl => ?_)
  have hS : va_S (tm_A Hb) s.heap s.heap [] := va_S.rf
  have hl : lv_has ls 1 [(0, .ref o)] := hl
  obtain ⟨t0, t1, t2, ⟨t3, t4, t5, t6, t7⟩, ⟨u3, u4, u5, u6, u7⟩⟩ := ht
  obtain ⟨⟨hA, hB⟩, ⟨hC, hD⟩, hR1, hR2⟩ := hv
  refine lv_aload_n hx hb dX3_kindFor_0 rfl (lv_at hl 0 rfl) ?_
  refine gf_X3_29 hx hb htw hown hK hW (by assumption) (by assumption) dX3_kindFor_1 ?_
  refine gf_X3_23 hx hb htw hown hK hW (by assumption) (by assumption) dX3_kindFor_4 ?_
  refine tm_calli (cs_X3_53 hx hb hml hown htw hK hW (by assumption) (c_X0_isZero (by assumption) (fok_L hC).1) ⟨rfl, rfl, Nat.le_of_ble_eq_true rfl, Nat.le_of_ble_eq_true rfl⟩ hl.1 (Nat.le_of_ble_eq_true rfl) dX3_kindFor_7 ⟨Nat.le_of_ble_eq_true rfl, Nat.le_of_ble_eq_true rfl⟩) hS (fun x7 M7 H locs hp7 hW hS => ?_)
  obtain ⟨ex7, eM7⟩ := hp7
  rw [eM7] at hW
  rw [ex7]
  refine ti_if_ne (tgt := 15) hx hb dX3_kindFor_10 (by decide) (tl_b_r _) (fun h10 => ?_) (fun h10 => ?_)
  · have z1 : (ln M o).2.1.1.1 = 0 := tl_b_n.mp h10
    refine lv_aload_n hx hb dX3_kindFor_15 rfl (lv_at hl 0 rfl) ?_
    refine gf_X3_19 hx hb htw hown hK hW (by assumption) (by assumption) dX3_kindFor_16 ?_
    refine gf_X3_42 hx hb htw hown hK hW (by assumption) (by assumption) dX3_kindFor_19 ?_
    refine tm_calli (cs_X3_53 hx hb hml hown htw hK hW (by assumption) (c_X0_isZero (by assumption) (fok_L hB).1) ⟨rfl, rfl, Nat.le_of_ble_eq_true rfl, Nat.le_of_ble_eq_true rfl⟩ hl.1 (Nat.le_of_ble_eq_true rfl) dX3_kindFor_22 ⟨Nat.le_of_ble_eq_true rfl, Nat.le_of_ble_eq_true rfl⟩) hS (fun x22 M22 H locs hp22 hW hS => ?_)
    obtain ⟨ex22, eM22⟩ := hp22
    rw [eM22] at hW
    rw [ex22]
    refine ti_if_ne (tgt := 30) hx hb dX3_kindFor_25 (by decide) (tl_b_r _) (fun h25 => ?_) (fun h25 => ?_)
    · have z2 : (ln M o).1.2.1 = 0 := tl_b_n.mp h25
      refine lv_aload_n hx hb dX3_kindFor_30 rfl (lv_at hl 0 rfl) ?_
      refine gf_X3_19 hx hb htw hown hK hW (by assumption) (by assumption) dX3_kindFor_31 ?_
      refine gf_X3_23 hx hb htw hown hK hW (by assumption) (by assumption) dX3_kindFor_34 ?_
      refine tm_calli (cs_X3_53 hx hb hml hown htw hK hW (by assumption) (c_X0_isZero (by assumption) (fok_L hA).1) ⟨rfl, rfl, Nat.le_of_ble_eq_true rfl, Nat.le_of_ble_eq_true rfl⟩ hl.1 (Nat.le_of_ble_eq_true rfl) dX3_kindFor_37 ⟨Nat.le_of_ble_eq_true rfl, Nat.le_of_ble_eq_true rfl⟩) hS (fun x37 M37 H locs hp37 hW hS => ?_)
      obtain ⟨ex37, eM37⟩ := hp37
      rw [eM37] at hW
      rw [ex37]
      refine ti_if_ne (tgt := 57) hx hb dX3_kindFor_40 (by decide) (tl_b_r _) (fun h40 => ?_) (fun h40 => ?_)
      · have z4 : (ln M o).1.1.1 = 0 ∨ (ln M o).1.1 = (1, 1) := by first | exact Or.inl (tl_b_n.mp h40) | exact Or.inr (tl_b_n.mp h54)
        refine ti_iconst hx hb dX3_kindFor_57 ?_
        refine lv_goto (tgt := 62) hx hb dX3_kindFor_58 (by decide) ?_
        exact tm_iret hx hb hr hlk hK hW hS (by first | exact ⟨by show _ = tl_kind (ln M o); unfold tl_kind; rw [if_neg (fun z => z z1), if_neg (fun z => z z2), if_pos z4], rfl⟩ | exact ⟨by show _ = tl_kind (ln M o); unfold tl_kind; rw [if_neg (fun z => z z1), if_neg (fun z => z z2), if_neg z4], rfl⟩) dX3_kindFor_62
      · have z3 : ¬ (ln M o).1.1.1 = 0 := tl_b_0.mp h40
        refine lv_aload_n hx hb dX3_kindFor_43 rfl (lv_at hl 0 rfl) ?_
        refine gf_X3_19 hx hb htw hown hK hW (by assumption) (by assumption) dX3_kindFor_44 ?_
        refine gf_X3_23 hx hb htw hown hK hW (by assumption) (by assumption) dX3_kindFor_47 ?_
        refine ti_lconst1 hx hb dX3_kindFor_50 ?_
        refine tm_calli (cs_X3_56 hx hb hml hown htw hK hW (by assumption) (c_X0_isWhole (by assumption) (fok_L hA) (by decide)) ⟨rfl, rfl, Nat.le_of_ble_eq_true rfl, Nat.le_of_ble_eq_true rfl⟩ hl.1 (Nat.le_of_ble_eq_true rfl) dX3_kindFor_51 ⟨Nat.le_of_ble_eq_true rfl, Nat.le_of_ble_eq_true rfl⟩) hS (fun x51 M51 H locs hp51 hW hS => ?_)
        obtain ⟨ex51, eM51⟩ := hp51
        rw [eM51] at hW
        rw [ex51]
        refine ti_if_eq (tgt := 61) hx hb dX3_kindFor_54 (by decide) (tl_b_r _) (fun h54 => ?_) (fun h54 => ?_)
        · have z4 : ¬ ((ln M o).1.1.1 = 0 ∨ (ln M o).1.1 = (1, 1)) := fun z => z.elim z3 (tl_b_0.mp h54)
          refine ti_iconst hx hb dX3_kindFor_61 ?_
          exact tm_iret hx hb hr hlk hK hW hS (by first | exact ⟨by show _ = tl_kind (ln M o); unfold tl_kind; rw [if_neg (fun z => z z1), if_neg (fun z => z z2), if_pos z4], rfl⟩ | exact ⟨by show _ = tl_kind (ln M o); unfold tl_kind; rw [if_neg (fun z => z z1), if_neg (fun z => z z2), if_neg z4], rfl⟩) dX3_kindFor_62
        · have z4 : (ln M o).1.1.1 = 0 ∨ (ln M o).1.1 = (1, 1) := by first | exact Or.inl (tl_b_n.mp h40) | exact Or.inr (tl_b_n.mp h54)
          refine ti_iconst hx hb dX3_kindFor_57 ?_
          refine lv_goto (tgt := 62) hx hb dX3_kindFor_58 (by decide) ?_
          exact tm_iret hx hb hr hlk hK hW hS (by first | exact ⟨by show _ = tl_kind (ln M o); unfold tl_kind; rw [if_neg (fun z => z z1), if_neg (fun z => z z2), if_pos z4], rfl⟩ | exact ⟨by show _ = tl_kind (ln M o); unfold tl_kind; rw [if_neg (fun z => z z1), if_neg (fun z => z z2), if_neg z4], rfl⟩) dX3_kindFor_62
    · have z2 : ¬ (ln M o).1.2.1 = 0 := tl_b_0.mp h25
      refine ti_iconst hx hb dX3_kindFor_28 ?_
      exact tm_iret hx hb hr hlk hK hW hS ⟨by show _ = tl_kind (ln M o); unfold tl_kind; rw [if_neg (fun z => z z1), if_pos z2], rfl⟩ dX3_kindFor_29
  · have z1 : ¬ (ln M o).2.1.1.1 = 0 := tl_b_0.mp h10
    refine ti_iconst hx hb dX3_kindFor_13 ?_
    exact tm_iret hx hb hr hlk hK hW hS ⟨by show _ = tl_kind (ln M o); unfold tl_kind; rw [if_pos z1], rfl⟩ dX3_kindFor_14
theorem dX3_divide_0 : decode cX3_divide 0 = .ok (.aload_n 1, 1) := by decide +kernel
theorem dX3_divide_1 : decode cX3_divide 1 = .ok (.getfield 19, 3) := by decide +kernel
theorem dX3_divide_4 : decode cX3_divide 4 = .ok (.getfield 23, 3) := by decide +kernel
theorem dX3_divide_7 : decode cX3_divide 7 = .ok (.lconst 1, 1) := by decide +kernel
theorem dX3_divide_8 : decode cX3_divide 8 = .ok (.invokevirtual 38, 3) := by decide +kernel
theorem dX3_divide_11 : decode cX3_divide 11 = .ok (.aload_n 1, 1) := by decide +kernel
theorem dX3_divide_12 : decode cX3_divide 12 = .ok (.getfield 29, 3) := by decide +kernel
theorem dX3_divide_15 : decode cX3_divide 15 = .ok (.getfield 42, 3) := by decide +kernel
theorem dX3_divide_18 : decode cX3_divide 18 = .ok (.aload_n 0, 1) := by decide +kernel
theorem dX3_divide_19 : decode cX3_divide 19 = .ok (.getfield 29, 3) := by decide +kernel
theorem dX3_divide_22 : decode cX3_divide 22 = .ok (.getfield 42, 3) := by decide +kernel
theorem dX3_divide_25 : decode cX3_divide 25 = .ok (.aload_n 0, 1) := by decide +kernel
theorem dX3_divide_26 : decode cX3_divide 26 = .ok (.getfield 19, 3) := by decide +kernel
theorem dX3_divide_29 : decode cX3_divide 29 = .ok (.getfield 23, 3) := by decide +kernel
theorem dX3_divide_32 : decode cX3_divide 32 = .ok (.invokevirtual 60, 3) := by decide +kernel
theorem dX3_divide_35 : decode cX3_divide 35 = .ok (.aload_n 0, 1) := by decide +kernel
theorem dX3_divide_36 : decode cX3_divide 36 = .ok (.getfield 19, 3) := by decide +kernel
theorem dX3_divide_39 : decode cX3_divide 39 = .ok (.getfield 23, 3) := by decide +kernel
theorem dX3_divide_42 : decode cX3_divide 42 = .ok (.getfield 63, 3) := by decide +kernel
theorem dX3_divide_45 : decode cX3_divide 45 = .ok (.lconst 0, 1) := by decide +kernel
theorem dX3_divide_46 : decode cX3_divide 46 = .ok (.lcmp, 1) := by decide +kernel
theorem dX3_divide_47 : decode cX3_divide 47 = .ok (.ifCond .ge 7, 3) := by decide +kernel
theorem dX3_divide_50 : decode cX3_divide 50 = .ok (.aload_n 1, 1) := by decide +kernel
theorem dX3_divide_51 : decode cX3_divide 51 = .ok (.invokevirtual 67, 3) := by decide +kernel
theorem dX3_divide_54 : decode cX3_divide 54 = .ok (.return_, 1) := by decide +kernel
set_option maxHeartbeats 4000000 in
set_option maxRecDepth 100000 in
/-- Plan.divide -/
theorem c_X3_divide {l : Launch} {G : tm_G} {Hb : Heap} {sh : tm_sh} {M : tm_M} {q o : Nat} (ht : isLn sh M o) (hs : isLn sh M q) (hne : o + 7 ≤ q ∨ q + 7 ≤ o) (hD : fok (fr M (o + 6))) (hA : fok (fr M (o + 2))) (hz : ¬ (fr M (o + 2)).1 = 0) (hR : 0 ≤ mI M q 2 ∧ mI M q 2 ≤ 2) : Met l yX3_divide (tws yX3_divide cX3_divide 2 none) ({ frames := 3, cells := 0, slots := 0, locals := 75 }) (va_Pc [.ref o, .ref q] (tm_St G Hb sh M)) (tm_Qv G Hb sh (fun M1 => M1 = if (fr M (o + 2)).1 < 0 ∧ ¬ mI M q 2 = 0 then sI (fS (fS M (q + 2) (1, 1)) (q + 6) (fdiv (fr M (o + 6)) (fr M (o + 2)))) q 2 (3 - mI M q 2) else fS (fS M (q + 2) (1, 1)) (q + 6) (fdiv (fr M (o + 6)) (fr M (o + 2))))) 0 0 (tm_A Hb) := by
  refine tm_begin (by decide) (Nat.le_of_ble_eq_true rfl) (fun p e s m below meth c ls hx hb hr hml hown htw hlk hnm hK hW hl => ?_)
  have hS : va_S (tm_A Hb) s.heap s.heap [] := va_S.rf
  have hl : lv_has ls 2 [(0, .ref o), (1, .ref q)] := hl
  have hs2 := hs
  obtain ⟨t0, t1, t2, ⟨t3, t4, t5, t6, t7⟩, ⟨u3, u4, u5, u6, u7⟩⟩ := ht
  obtain ⟨s0, s1, s2, ⟨s3, s4, s5, s6, s7⟩, ⟨r3, r4, r5, r6, r7⟩⟩ := hs
  refine lv_aload_n hx hb dX3_divide_0 rfl (lv_at hl 1 rfl) ?_
  refine gf_X3_19 hx hb htw hown hK hW (by assumption) (by assumption) dX3_divide_1 ?_
  refine gf_X3_23 hx hb htw hown hK hW (by assumption) (by assumption) dX3_divide_4 ?_
  refine ti_lconst1 hx hb dX3_divide_7 ?_
  refine tm_callv (cs_X3_38 hx hb hml hown htw hK hW (by assumption) (c_X0_setWhole (by assumption)) ⟨rfl, rfl, Nat.le_of_ble_eq_true rfl, Nat.le_of_ble_eq_true rfl⟩ hl.1 (Nat.le_of_ble_eq_true rfl) dX3_divide_8 ⟨Nat.le_of_ble_eq_true rfl, Nat.le_of_ble_eq_true rfl⟩) hS (fun M8 H locs hp8 hW hS => ?_)
  rw [hp8] at hW
  refine lv_aload_n hx hb dX3_divide_11 rfl (lv_at hl 1 rfl) ?_
  refine gf_X3_29 hx hb htw hown hK hW (by assumption) (by assumption) dX3_divide_12 ?_
  refine gf_X3_42 hx hb htw hown hK hW (by assumption) (by assumption) dX3_divide_15 ?_
  refine lv_aload_n hx hb dX3_divide_18 rfl (lv_at hl 0 rfl) ?_
  refine gf_X3_29 hx hb htw hown hK hW (by assumption) (by assumption) dX3_divide_19 ?_
  refine gf_X3_42 hx hb htw hown hK hW (by assumption) (by assumption) dX3_divide_22 ?_
  refine lv_aload_n hx hb dX3_divide_25 rfl (lv_at hl 0 rfl) ?_
  refine gf_X3_19 hx hb htw hown hK hW (by assumption) (by assumption) dX3_divide_26 ?_
  refine gf_X3_23 hx hb htw hown hK hW (by assumption) (by assumption) dX3_divide_29 ?_
  refine tm_callv (cs_X3_60 hx hb hml hown htw hK hW (by assumption) (v_setQuotient (f := fr M (o + 6)) (g := fr M (o + 2)) (by assumption) (by assumption) (by assumption) (fr_n M _ (by omega)) (fr_n M _ (by omega)) hD hA hz) ⟨rfl, rfl, Nat.le_of_ble_eq_true rfl, Nat.le_of_ble_eq_true rfl⟩ hl.1 (Nat.le_of_ble_eq_true rfl) dX3_divide_32 ⟨Nat.le_of_ble_eq_true rfl, Nat.le_of_ble_eq_true rfl⟩) hS (fun M32 H locs hp32 hW hS => ?_)
  rw [hp32] at hW
  refine lv_aload_n hx hb dX3_divide_35 rfl (lv_at hl 0 rfl) ?_
  refine gf_X3_19 hx hb htw hown hK hW (by assumption) (by assumption) dX3_divide_36 ?_
  refine gf_X3_23 hx hb htw hown hK hW (by assumption) (by assumption) dX3_divide_39 ?_
  refine gf_X3_63 hx hb htw hown hK hW (by assumption) dX3_divide_42 ?_
  refine ti_lconst0 hx hb dX3_divide_45 ?_
  have eA : mL (fS (fS M (q + 2) (1, 1)) (q + 6) (fdiv (fr M (o + 6)) (fr M (o + 2)))) (o + 2) 0 = (fr M (o + 2)).1 := (fL_n _ _ (by omega)).trans (fL_n _ _ (by omega))
  refine ti_lcmp_ge (tgt := 54) hx hb dX3_divide_46 dX3_divide_47 (by decide) (by rw [eA]; exact (fok_L hA).1) (by decide) (fun h46 => ?_) (fun h46 => ?_)
  · exact tm_vret hx hb hr hlk hK hW hS (by first | (rw [eA] at h46; rw [if_neg (by omega)]) | exact hp51.trans (tl_turn rfl (by omega))) dX3_divide_54
  · rw [eA] at h46
    refine lv_aload_n hx hb dX3_divide_50 rfl (lv_at hl 1 rfl) ?_
    refine tm_callv (cs_X3_67 hx hb hml hown htw hK hW (by assumption) (c_X1_turnRelation (isLn_m hs2 rfl) hR) ⟨rfl, rfl, Nat.le_of_ble_eq_true rfl, Nat.le_of_ble_eq_true rfl⟩ hl.1 (Nat.le_of_ble_eq_true rfl) dX3_divide_51 ⟨Nat.le_of_ble_eq_true rfl, Nat.le_of_ble_eq_true rfl⟩) hS (fun M51 H locs hp51 hW hS => ?_)
    exact tm_vret hx hb hr hlk hK hW hS (by first | (rw [eA] at h46; rw [if_neg (by omega)]) | exact hp51.trans (tl_turn rfl (by omega))) dX3_divide_54
theorem dX3_write_0 : decode cX3_write 0 = .ok (.aload_n 0, 1) := by decide +kernel
theorem dX3_write_1 : decode cX3_write 1 = .ok (.invokestatic 7, 3) := by decide +kernel
theorem dX3_write_4 : decode cX3_write 4 = .ok (.istore_n 2, 1) := by decide +kernel
theorem dX3_write_5 : decode cX3_write 5 = .ok (.aload_n 1, 1) := by decide +kernel
theorem dX3_write_6 : decode cX3_write 6 = .ok (.aload_n 0, 1) := by decide +kernel
theorem dX3_write_7 : decode cX3_write 7 = .ok (.invokevirtual 13, 3) := by decide +kernel
theorem dX3_write_10 : decode cX3_write 10 = .ok (.iload_n 2, 1) := by decide +kernel
theorem dX3_write_11 : decode cX3_write 11 = .ok (.tableswitch 109 1 3 #[25, 63, 101], 25) := by decide +kernel
theorem dX3_write_36 : decode cX3_write 36 = .ok (.aload_n 1, 1) := by decide +kernel
theorem dX3_write_37 : decode cX3_write 37 = .ok (.getfield 19, 3) := by decide +kernel
theorem dX3_write_40 : decode cX3_write 40 = .ok (.getfield 23, 3) := by decide +kernel
theorem dX3_write_43 : decode cX3_write 43 = .ok (.aload_n 0, 1) := by decide +kernel
theorem dX3_write_44 : decode cX3_write 44 = .ok (.getfield 19, 3) := by decide +kernel
theorem dX3_write_47 : decode cX3_write 47 = .ok (.getfield 23, 3) := by decide +kernel
theorem dX3_write_50 : decode cX3_write 50 = .ok (.aload_n 0, 1) := by decide +kernel
theorem dX3_write_51 : decode cX3_write 51 = .ok (.getfield 29, 3) := by decide +kernel
theorem dX3_write_54 : decode cX3_write 54 = .ok (.getfield 23, 3) := by decide +kernel
theorem dX3_write_57 : decode cX3_write 57 = .ok (.invokevirtual 32, 3) := by decide +kernel
theorem dX3_write_60 : decode cX3_write 60 = .ok (.aload_n 1, 1) := by decide +kernel
theorem dX3_write_61 : decode cX3_write 61 = .ok (.getfield 29, 3) := by decide +kernel
theorem dX3_write_64 : decode cX3_write 64 = .ok (.getfield 23, 3) := by decide +kernel
theorem dX3_write_67 : decode cX3_write 67 = .ok (.lconst 0, 1) := by decide +kernel
theorem dX3_write_68 : decode cX3_write 68 = .ok (.invokevirtual 38, 3) := by decide +kernel
theorem dX3_write_71 : decode cX3_write 71 = .ok (.goto 49, 3) := by decide +kernel
theorem dX3_write_74 : decode cX3_write 74 = .ok (.aload_n 1, 1) := by decide +kernel
theorem dX3_write_75 : decode cX3_write 75 = .ok (.getfield 19, 3) := by decide +kernel
theorem dX3_write_78 : decode cX3_write 78 = .ok (.getfield 42, 3) := by decide +kernel
theorem dX3_write_81 : decode cX3_write 81 = .ok (.lconst 0, 1) := by decide +kernel
theorem dX3_write_82 : decode cX3_write 82 = .ok (.invokevirtual 38, 3) := by decide +kernel
theorem dX3_write_85 : decode cX3_write 85 = .ok (.aload_n 1, 1) := by decide +kernel
theorem dX3_write_86 : decode cX3_write 86 = .ok (.getfield 29, 3) := by decide +kernel
theorem dX3_write_89 : decode cX3_write 89 = .ok (.getfield 42, 3) := by decide +kernel
theorem dX3_write_92 : decode cX3_write 92 = .ok (.aload_n 0, 1) := by decide +kernel
theorem dX3_write_93 : decode cX3_write 93 = .ok (.getfield 29, 3) := by decide +kernel
theorem dX3_write_96 : decode cX3_write 96 = .ok (.getfield 42, 3) := by decide +kernel
theorem dX3_write_99 : decode cX3_write 99 = .ok (.aload_n 0, 1) := by decide +kernel
theorem dX3_write_100 : decode cX3_write 100 = .ok (.getfield 19, 3) := by decide +kernel
theorem dX3_write_103 : decode cX3_write 103 = .ok (.getfield 42, 3) := by decide +kernel
theorem dX3_write_106 : decode cX3_write 106 = .ok (.invokevirtual 32, 3) := by decide +kernel
theorem dX3_write_109 : decode cX3_write 109 = .ok (.goto 11, 3) := by decide +kernel
theorem dX3_write_112 : decode cX3_write 112 = .ok (.aload_n 0, 1) := by decide +kernel
theorem dX3_write_113 : decode cX3_write 113 = .ok (.aload_n 1, 1) := by decide +kernel
theorem dX3_write_114 : decode cX3_write 114 = .ok (.invokestatic 45, 3) := by decide +kernel
theorem dX3_write_117 : decode cX3_write 117 = .ok (.goto 3, 3) := by decide +kernel
theorem dX3_write_120 : decode cX3_write 120 = .ok (.aload_n 1, 1) := by decide +kernel
theorem dX3_write_121 : decode cX3_write 121 = .ok (.invokevirtual 49, 3) := by decide +kernel
theorem dX3_write_124 : decode cX3_write 124 = .ok (.ifCond .eq 7, 3) := by decide +kernel
theorem dX3_write_127 : decode cX3_write 127 = .ok (.iload_n 2, 1) := by decide +kernel
theorem dX3_write_128 : decode cX3_write 128 = .ok (.goto 4, 3) := by decide +kernel
theorem dX3_write_131 : decode cX3_write 131 = .ok (.iconst (-1), 1) := by decide +kernel
theorem dX3_write_132 : decode cX3_write 132 = .ok (.ireturn, 1) := by decide +kernel
theorem tl_dv1 {M0 : tm_M} {q : Nat} {f : tl_F} {c : Prop} [Decidable c] {x : Int} (hq : q < q + 7) : tm_fr q (q + 7) M0 (if c then sI (fS (fS M0 (q + 2) (1, 1)) (q + 6) f) q 2 x else fS (fS M0 (q + 2) (1, 1)) (q + 6) f) := by
  have h := fw_tr (fw_fS (M := M0) (lo := q) (hi := q + 7) (q := q + 2) (1, 1) (by omega) (by omega)) (fw_fS (q := q + 6) f (by omega) (by omega))
  split
  · exact fw_tr h (fw_sI _ (by omega) (by omega))
  · exact h
theorem tl_dv2 {M0 : tm_M} {q o : Nat} {v : tl_L} (a2 : fr M0 (q + 3) = v.1.2) (a3 : fr M0 (q + 5) = v.2.1.1) (b1 : fr M0 (o + 2) = v.1.1) (b4 : fr M0 (o + 6) = v.2.1.2) (a5 : mI M0 q 2 = v.2.2) : ln (if (fr M0 (o + 2)).1 < 0 ∧ ¬ mI M0 q 2 = 0 then sI (fS (fS M0 (q + 2) (1, 1)) (q + 6) (fdiv (fr M0 (o + 6)) (fr M0 (o + 2)))) q 2 (3 - mI M0 q 2) else fS (fS M0 (q + 2) (1, 1)) (q + 6) (fdiv (fr M0 (o + 6)) (fr M0 (o + 2)))) q = (((1, 1), v.1.2), (v.2.1.1, fdiv v.2.1.2 v.1.1), if v.1.1.1 < 0 ∧ ¬ v.2.2 = 0 then 3 - v.2.2 else v.2.2) := by
  rw [b1, b4, a5]
  have h1 : fr (fS (fS M0 (q + 2) (1, 1)) (q + 6) (fdiv v.2.1.2 v.1.1)) (q + 2) = (1, 1) := (fr_n _ _ (by omega)).trans (fr_s _ _ _)
  have h2 : fr (fS (fS M0 (q + 2) (1, 1)) (q + 6) (fdiv v.2.1.2 v.1.1)) (q + 3) = v.1.2 := ((fr_n _ _ (by omega)).trans (fr_n _ _ (by omega))).trans a2
  have h3 : fr (fS (fS M0 (q + 2) (1, 1)) (q + 6) (fdiv v.2.1.2 v.1.1)) (q + 5) = v.2.1.1 := ((fr_n _ _ (by omega)).trans (fr_n _ _ (by omega))).trans a3
  have h4 : fr (fS (fS M0 (q + 2) (1, 1)) (q + 6) (fdiv v.2.1.2 v.1.1)) (q + 6) = fdiv v.2.1.2 v.1.1 := fr_s _ _ _
  split
  · exact ln_ext h1 h2 h3 h4 (tm_up_s _ _ _ _)
  · exact ln_ext h1 h2 h3 h4 a5
set_option maxHeartbeats 4000000 in
set_option maxRecDepth 100000 in
/-- Plan.write(from, to): the plan of the line; its line -/
theorem c_X3_write {l : Launch} {G : tm_G} {Hb : Heap} {sh : tm_sh} {M : tm_M} {q o : Nat} (ht : isLn sh M o) (hs : isLn sh M q) (hne : o + 7 ≤ q ∨ q + 7 ≤ o) (hv : lok (ln M o)) : Met l yX3_write (tws yX3_write cX3_write 3 (some .int)) ({ frames := 4, cells := 0, slots := 0, locals := 96 }) (va_Pc [.ref o, .ref q] (tm_St G Hb sh M)) (tm_Qi G Hb sh (fun r M1 => r = tl_plan (ln M o) ∧ ln M1 q = tl_planv (ln M o) ∧ tm_fr q (q + 7) M M1)) 0 0 (tm_A Hb) := by
  refine tm_begin (by decide) (Nat.le_of_ble_eq_true rfl) (fun p e s m below meth c ls hx hb hr hml hown htw hlk hnm hK hW hl => ?_)
  have hS : va_S (tm_A Hb) s.heap s.heap [] := va_S.rf
  have hl : lv_has ls 3 [(0, .ref o), (1, .ref q)] := hl
  have hs0 := hs
  have ht0 := ht
  have hv0 := hv
  obtain ⟨t0, t1, t2, ⟨t3, t4, t5, t6, t7⟩, ⟨u3, u4, u5, u6, u7⟩⟩ := ht
  obtain ⟨s0, s1, s2, ⟨s3, s4, s5, s6, s7⟩, ⟨r3, r4, r5, r6, r7⟩⟩ := hs
  obtain ⟨⟨hA, hB⟩, ⟨hC, hD⟩, hR1, hR2⟩ := hv
  have hkr := tl_kind_r (ln M o)
  have tail : ∀ (M2 : tm_M) (H : Heap) (locs : List Loc) (ls : Array Slot), tm_W G Hb sh M2 H → va_S (tm_A Hb) s.heap H locs → tm_fr q (q + 7) M M2 → ln M2 q = tl_planv (ln M o) → lv_has ls 3 [(0, .ref o), (1, .ref q), (2, ji (tl_kind (ln M o)))] → W p l e ({ frames := 4, cells := 0, slots := 0, locals := 96 }) s m [.ref o, .ref q].toArray below meth c H locs 0 0 (MQ below (tm_Qi G Hb sh (fun r M1 => r = tl_plan (ln M o) ∧ ln M1 q = tl_planv (ln M o) ∧ tm_fr q (q + 7) M M1)) [.ref o, .ref q].toArray s 0 0 (tm_A Hb)) (F0 m 120 ls []) := by
    intro M2 H locs ls hW hS hf he hl
    have hL := lLok_plan hv0
    rw [← he] at hL
    refine lv_aload_n hx hb dX3_write_120 rfl (lv_at hl 1 rfl) ?_
    refine tm_calli (cs_X3_49 hx hb hml hown htw hK hW (by assumption) (c_X1_fits (isLn_m hs0 hf.1) hL) ⟨rfl, rfl, Nat.le_of_ble_eq_true rfl, Nat.le_of_ble_eq_true rfl⟩ hl.1 (Nat.le_of_ble_eq_true rfl) dX3_write_121 ⟨Nat.le_of_ble_eq_true rfl, Nat.le_of_ble_eq_true rfl⟩) hS (fun x121 M121 H locs hp121 hW hS => ?_)
    obtain ⟨ex121, eM121⟩ := hp121
    rw [eM121] at hW
    rw [ex121]
    refine ti_if_eq (tgt := 131) hx hb dX3_write_124 (by decide) (tl_b_r _) (fun h124 => ?_) (fun h124 => ?_)
    · refine ti_iconst hx hb dX3_write_131 ?_
      exact tm_iret hx hb hr hlk hK hW hS (by first | exact ⟨by have z : lfit (ln M2 q) := tl_b_n.mp h124; rw [he] at z; rw [tl_plan, if_pos z], he, hf⟩ | exact ⟨by have z : ¬ lfit (ln M2 q) := tl_b_0.mp h124; rw [he] at z; rw [tl_plan, if_neg z], he, hf⟩) dX3_write_132
    · refine lv_iload_n hx hb dX3_write_127 rfl (lv_at hl 2 rfl) ?_
      refine lv_goto (tgt := 132) hx hb dX3_write_128 (by decide) ?_
      exact tm_iret hx hb hr hlk hK hW hS (by first | exact ⟨by have z : lfit (ln M2 q) := tl_b_n.mp h124; rw [he] at z; rw [tl_plan, if_pos z], he, hf⟩ | exact ⟨by have z : ¬ lfit (ln M2 q) := tl_b_0.mp h124; rw [he] at z; rw [tl_plan, if_neg z], he, hf⟩) dX3_write_132
  refine lv_aload_n hx hb dX3_write_0 rfl (lv_at hl 0 rfl) ?_
  refine tm_calli (cs_X3_7 hx hb hml hown htw hK hW (c_X3_kindFor ht0 hv0) ⟨rfl, rfl, Nat.le_of_ble_eq_true rfl, Nat.le_of_ble_eq_true rfl⟩ hl.1 (Nat.le_of_ble_eq_true rfl) dX3_write_1 ⟨Nat.le_of_ble_eq_true rfl, Nat.le_of_ble_eq_true rfl⟩) hS (fun x1 M1 H locs hp1 hW hS => ?_)
  obtain ⟨ex1, eM1⟩ := hp1
  rw [eM1] at hW
  rw [ex1]
  refine lv_istore_n (lv' := [(2, _), (0, _), (1, _)]) hx hb dX3_write_4 rfl hl (by decide) rfl (fun ls hl => ?_)
  refine lv_aload_n hx hb dX3_write_5 rfl (lv_at hl 2 rfl) ?_
  refine lv_aload_n hx hb dX3_write_6 rfl (lv_at hl 1 rfl) ?_
  refine tm_callv (cs_X3_13 hx hb hml hown htw hK hW (by assumption) (c_X1_copy hs0 ht0 hne) ⟨rfl, rfl, Nat.le_of_ble_eq_true rfl, Nat.le_of_ble_eq_true rfl⟩ hl.1 (Nat.le_of_ble_eq_true rfl) dX3_write_7 ⟨Nat.le_of_ble_eq_true rfl, Nat.le_of_ble_eq_true rfl⟩) hS (fun M7 H locs hp7 hW hS => ?_)
  rw [hp7] at hW
  have e0 : ln (lS M q (ln M o)) q = ln M o := ln_self _ _ _
  have f0 : tm_fr q (q + 7) M (lS M q (ln M o)) := fw_lS _
  generalize hg : lS M q (ln M o) = M0 at hW e0 f0
  have em := f0.1
  have sA : mR M0 q 0 = some (q + 1) := by rw [em]; exact s1
  have sB : mR M0 q 1 = some (q + 4) := by rw [em]; exact s2
  have sC := isSd_m hs0.2.2.2.1 em
  have sD := isSd_m hs0.2.2.2.2 em
  obtain ⟨-, -, -, sC1, sC2⟩ := sC
  obtain ⟨-, -, -, sD1, sD2⟩ := sD
  have tA : mR M0 o 0 = some (o + 1) := by rw [em]; exact t1
  have tB : mR M0 o 1 = some (o + 4) := by rw [em]; exact t2
  have tC := isSd_m ht0.2.2.2.1 em
  have tD := isSd_m ht0.2.2.2.2 em
  obtain ⟨-, -, -, tC1, tC2⟩ := tC
  obtain ⟨-, -, -, tD1, tD2⟩ := tD
  obtain ⟨a1, a2, a3, a4, a5⟩ := ln_at e0
  have b1 : fr M0 (o + 2) = (ln M o).1.1 := fw_fr f0 (by omega)
  have b2 : fr M0 (o + 3) = (ln M o).1.2 := fw_fr f0 (by omega)
  have b3 : fr M0 (o + 5) = (ln M o).2.1.1 := fw_fr f0 (by omega)
  have b4 : fr M0 (o + 6) = (ln M o).2.1.2 := fw_fr f0 (by omega)
  refine lv_iload_n hx hb dX3_write_10 rfl (lv_at hl 0 rfl) ?_
  refine ti_ts_1_3 (td := 120) (t1 := 36) (t2 := 74) (t3 := 112) hx hb dX3_write_11 (by omega) (by decide) (by decide) (by decide) (by decide) (fun h11 => ?_) (fun h11 => ?_) (fun h11 => ?_) (fun h11 => ?_)
  · refine lv_aload_n hx hb dX3_write_36 rfl (lv_at hl 2 rfl) ?_
    refine gf_X3_19 hx hb htw hown hK hW (by assumption) (by assumption) dX3_write_37 ?_
    refine gf_X3_23 hx hb htw hown hK hW (by assumption) (by assumption) dX3_write_40 ?_
    refine lv_aload_n hx hb dX3_write_43 rfl (lv_at hl 1 rfl) ?_
    refine gf_X3_19 hx hb htw hown hK hW (by assumption) (by assumption) dX3_write_44 ?_
    refine gf_X3_23 hx hb htw hown hK hW (by assumption) (by assumption) dX3_write_47 ?_
    refine lv_aload_n hx hb dX3_write_50 rfl (lv_at hl 1 rfl) ?_
    refine gf_X3_29 hx hb htw hown hK hW (by assumption) (by assumption) dX3_write_51 ?_
    refine gf_X3_23 hx hb htw hown hK hW (by assumption) (by assumption) dX3_write_54 ?_
    refine tm_callv (cs_X3_32 hx hb hml hown htw hK hW (by assumption) (v_setDifference (f := (ln M o).1.1) (g := (ln M o).2.1.1) (by assumption) (by assumption) (by assumption) b1 b3 hA hC) ⟨rfl, rfl, Nat.le_of_ble_eq_true rfl, Nat.le_of_ble_eq_true rfl⟩ hl.1 (Nat.le_of_ble_eq_true rfl) dX3_write_57 ⟨Nat.le_of_ble_eq_true rfl, Nat.le_of_ble_eq_true rfl⟩) hS (fun M57 H locs hp57 hW hS => ?_)
    rw [hp57] at hW
    refine lv_aload_n hx hb dX3_write_60 rfl (lv_at hl 2 rfl) ?_
    refine gf_X3_29 hx hb htw hown hK hW (by assumption) (by assumption) dX3_write_61 ?_
    refine gf_X3_23 hx hb htw hown hK hW (by assumption) (by assumption) dX3_write_64 ?_
    refine ti_lconst0 hx hb dX3_write_67 ?_
    refine tm_callv (cs_X3_38 hx hb hml hown htw hK hW (by assumption) (c_X0_setWhole (by assumption)) ⟨rfl, rfl, Nat.le_of_ble_eq_true rfl, Nat.le_of_ble_eq_true rfl⟩ hl.1 (Nat.le_of_ble_eq_true rfl) dX3_write_68 ⟨Nat.le_of_ble_eq_true rfl, Nat.le_of_ble_eq_true rfl⟩) hS (fun M68 H locs hp68 hW hS => ?_)
    rw [hp68] at hW
    refine lv_goto (tgt := 120) hx hb dX3_write_71 (by decide) ?_
    first
    | (exact tail _ _ _ _ hW hS (fw_tr (fw_tr f0 (fw_fS _ (by omega) (by omega))) (fw_fS _ (by omega) (by omega))) (by rw [tl_planv, if_pos (show tl_kind (ln M o) = 1 by omega)]; exact ln_ext ((fr_n _ _ (by omega)).trans (fr_s _ _ _)) (((fr_n _ _ (by omega)).trans (fr_n _ _ (by omega))).trans a2) (fr_s _ _ _) (((fr_n _ _ (by omega)).trans (fr_n _ _ (by omega))).trans a4) a5) (lv_sub hl [1, 2, 0] rfl))
    | (exact tail _ _ _ _ hW hS (fw_tr (fw_tr f0 (fw_fS _ (by omega) (by omega))) (fw_fS _ (by omega) (by omega))) (by rw [tl_planv, if_neg (show ¬ tl_kind (ln M o) = 1 by omega), if_pos (show tl_kind (ln M o) = 2 by omega)]; exact ln_ext (((fr_n _ _ (by omega)).trans (fr_n _ _ (by omega))).trans a1) ((fr_n _ _ (by omega)).trans (fr_s _ _ _)) (((fr_n _ _ (by omega)).trans (fr_n _ _ (by omega))).trans a3) (fr_s _ _ _) a5) (lv_sub hl [1, 2, 0] rfl))
    | (exact tail _ _ _ _ hW hS f3 e3 (lv_sub hl [1, 2, 0] rfl))
    | (exact tail _ _ _ _ hW hS f0 (by rw [tl_planv, if_neg (show ¬ tl_kind (ln M o) = 1 by omega), if_neg (show ¬ tl_kind (ln M o) = 2 by omega), if_neg (show ¬ tl_kind (ln M o) = 3 by omega)]; exact e0) (lv_sub hl [1, 2, 0] rfl))
  · refine lv_aload_n hx hb dX3_write_74 rfl (lv_at hl 2 rfl) ?_
    refine gf_X3_19 hx hb htw hown hK hW (by assumption) (by assumption) dX3_write_75 ?_
    refine gf_X3_42 hx hb htw hown hK hW (by assumption) (by assumption) dX3_write_78 ?_
    refine ti_lconst0 hx hb dX3_write_81 ?_
    refine tm_callv (cs_X3_38 hx hb hml hown htw hK hW (by assumption) (c_X0_setWhole (by assumption)) ⟨rfl, rfl, Nat.le_of_ble_eq_true rfl, Nat.le_of_ble_eq_true rfl⟩ hl.1 (Nat.le_of_ble_eq_true rfl) dX3_write_82 ⟨Nat.le_of_ble_eq_true rfl, Nat.le_of_ble_eq_true rfl⟩) hS (fun M82 H locs hp82 hW hS => ?_)
    rw [hp82] at hW
    refine lv_aload_n hx hb dX3_write_85 rfl (lv_at hl 2 rfl) ?_
    refine gf_X3_29 hx hb htw hown hK hW (by assumption) (by assumption) dX3_write_86 ?_
    refine gf_X3_42 hx hb htw hown hK hW (by assumption) (by assumption) dX3_write_89 ?_
    refine lv_aload_n hx hb dX3_write_92 rfl (lv_at hl 1 rfl) ?_
    refine gf_X3_29 hx hb htw hown hK hW (by assumption) (by assumption) dX3_write_93 ?_
    refine gf_X3_42 hx hb htw hown hK hW (by assumption) (by assumption) dX3_write_96 ?_
    refine lv_aload_n hx hb dX3_write_99 rfl (lv_at hl 1 rfl) ?_
    refine gf_X3_19 hx hb htw hown hK hW (by assumption) (by assumption) dX3_write_100 ?_
    refine gf_X3_42 hx hb htw hown hK hW (by assumption) (by assumption) dX3_write_103 ?_
    refine tm_callv (cs_X3_32 hx hb hml hown htw hK hW (by assumption) (v_setDifference (f := (ln M o).2.1.2) (g := (ln M o).1.2) (by assumption) (by assumption) (by assumption) ((fr_n _ _ (by omega)).trans b4) ((fr_n _ _ (by omega)).trans b2) hD hB) ⟨rfl, rfl, Nat.le_of_ble_eq_true rfl, Nat.le_of_ble_eq_true rfl⟩ hl.1 (Nat.le_of_ble_eq_true rfl) dX3_write_106 ⟨Nat.le_of_ble_eq_true rfl, Nat.le_of_ble_eq_true rfl⟩) hS (fun M106 H locs hp106 hW hS => ?_)
    rw [hp106] at hW
    refine lv_goto (tgt := 120) hx hb dX3_write_109 (by decide) ?_
    first
    | (exact tail _ _ _ _ hW hS (fw_tr (fw_tr f0 (fw_fS _ (by omega) (by omega))) (fw_fS _ (by omega) (by omega))) (by rw [tl_planv, if_pos (show tl_kind (ln M o) = 1 by omega)]; exact ln_ext ((fr_n _ _ (by omega)).trans (fr_s _ _ _)) (((fr_n _ _ (by omega)).trans (fr_n _ _ (by omega))).trans a2) (fr_s _ _ _) (((fr_n _ _ (by omega)).trans (fr_n _ _ (by omega))).trans a4) a5) (lv_sub hl [1, 2, 0] rfl))
    | (exact tail _ _ _ _ hW hS (fw_tr (fw_tr f0 (fw_fS _ (by omega) (by omega))) (fw_fS _ (by omega) (by omega))) (by rw [tl_planv, if_neg (show ¬ tl_kind (ln M o) = 1 by omega), if_pos (show tl_kind (ln M o) = 2 by omega)]; exact ln_ext (((fr_n _ _ (by omega)).trans (fr_n _ _ (by omega))).trans a1) ((fr_n _ _ (by omega)).trans (fr_s _ _ _)) (((fr_n _ _ (by omega)).trans (fr_n _ _ (by omega))).trans a3) (fr_s _ _ _) a5) (lv_sub hl [1, 2, 0] rfl))
    | (exact tail _ _ _ _ hW hS f3 e3 (lv_sub hl [1, 2, 0] rfl))
    | (exact tail _ _ _ _ hW hS f0 (by rw [tl_planv, if_neg (show ¬ tl_kind (ln M o) = 1 by omega), if_neg (show ¬ tl_kind (ln M o) = 2 by omega), if_neg (show ¬ tl_kind (ln M o) = 3 by omega)]; exact e0) (lv_sub hl [1, 2, 0] rfl))
  · refine lv_aload_n hx hb dX3_write_112 rfl (lv_at hl 1 rfl) ?_
    refine lv_aload_n hx hb dX3_write_113 rfl (lv_at hl 2 rfl) ?_
    refine tm_callv (cs_X3_45 hx hb hml hown htw hK hW (c_X3_divide (isLn_m ht0 em) (isLn_m hs0 em) hne (by rw [b4]; exact hD) (by rw [b1]; exact hA) (by rw [b1]; exact tl_kind3 h11) (by rw [a5]; exact ⟨hR1, hR2⟩)) ⟨rfl, rfl, Nat.le_of_ble_eq_true rfl, Nat.le_of_ble_eq_true rfl⟩ hl.1 (Nat.le_of_ble_eq_true rfl) dX3_write_114 ⟨Nat.le_of_ble_eq_true rfl, Nat.le_of_ble_eq_true rfl⟩) hS (fun M114 H locs hp114 hW hS => ?_)
    rw [hp114] at hW
    have f3 : tm_fr q (q + 7) M (if (fr M0 (o + 2)).1 < 0 ∧ ¬ mI M0 q 2 = 0 then sI (fS (fS M0 (q + 2) (1, 1)) (q + 6) (fdiv (fr M0 (o + 6)) (fr M0 (o + 2)))) q 2 (3 - mI M0 q 2) else fS (fS M0 (q + 2) (1, 1)) (q + 6) (fdiv (fr M0 (o + 6)) (fr M0 (o + 2)))) := fw_tr f0 (tl_dv1 (by omega))
    have e3 : ln (if (fr M0 (o + 2)).1 < 0 ∧ ¬ mI M0 q 2 = 0 then sI (fS (fS M0 (q + 2) (1, 1)) (q + 6) (fdiv (fr M0 (o + 6)) (fr M0 (o + 2)))) q 2 (3 - mI M0 q 2) else fS (fS M0 (q + 2) (1, 1)) (q + 6) (fdiv (fr M0 (o + 6)) (fr M0 (o + 2)))) q = tl_planv (ln M o) := by
      rw [tl_planv, if_neg (show ¬ tl_kind (ln M o) = 1 by omega), if_neg (show ¬ tl_kind (ln M o) = 2 by omega), if_pos (show tl_kind (ln M o) = 3 by omega), tl_dv2 a2 a3 b1 b4 a5]
    refine lv_goto (tgt := 120) hx hb dX3_write_117 (by decide) ?_
    first
    | (exact tail _ _ _ _ hW hS (fw_tr (fw_tr f0 (fw_fS _ (by omega) (by omega))) (fw_fS _ (by omega) (by omega))) (by rw [tl_planv, if_pos (show tl_kind (ln M o) = 1 by omega)]; exact ln_ext ((fr_n _ _ (by omega)).trans (fr_s _ _ _)) (((fr_n _ _ (by omega)).trans (fr_n _ _ (by omega))).trans a2) (fr_s _ _ _) (((fr_n _ _ (by omega)).trans (fr_n _ _ (by omega))).trans a4) a5) (lv_sub hl [1, 2, 0] rfl))
    | (exact tail _ _ _ _ hW hS (fw_tr (fw_tr f0 (fw_fS _ (by omega) (by omega))) (fw_fS _ (by omega) (by omega))) (by rw [tl_planv, if_neg (show ¬ tl_kind (ln M o) = 1 by omega), if_pos (show tl_kind (ln M o) = 2 by omega)]; exact ln_ext (((fr_n _ _ (by omega)).trans (fr_n _ _ (by omega))).trans a1) ((fr_n _ _ (by omega)).trans (fr_s _ _ _)) (((fr_n _ _ (by omega)).trans (fr_n _ _ (by omega))).trans a3) (fr_s _ _ _) a5) (lv_sub hl [1, 2, 0] rfl))
    | (exact tail _ _ _ _ hW hS f3 e3 (lv_sub hl [1, 2, 0] rfl))
    | (exact tail _ _ _ _ hW hS f0 (by rw [tl_planv, if_neg (show ¬ tl_kind (ln M o) = 1 by omega), if_neg (show ¬ tl_kind (ln M o) = 2 by omega), if_neg (show ¬ tl_kind (ln M o) = 3 by omega)]; exact e0) (lv_sub hl [1, 2, 0] rfl))
  · first
    | (exact tail _ _ _ _ hW hS (fw_tr (fw_tr f0 (fw_fS _ (by omega) (by omega))) (fw_fS _ (by omega) (by omega))) (by rw [tl_planv, if_pos (show tl_kind (ln M o) = 1 by omega)]; exact ln_ext ((fr_n _ _ (by omega)).trans (fr_s _ _ _)) (((fr_n _ _ (by omega)).trans (fr_n _ _ (by omega))).trans a2) (fr_s _ _ _) (((fr_n _ _ (by omega)).trans (fr_n _ _ (by omega))).trans a4) a5) (lv_sub hl [1, 2, 0] rfl))
    | (exact tail _ _ _ _ hW hS (fw_tr (fw_tr f0 (fw_fS _ (by omega) (by omega))) (fw_fS _ (by omega) (by omega))) (by rw [tl_planv, if_neg (show ¬ tl_kind (ln M o) = 1 by omega), if_pos (show tl_kind (ln M o) = 2 by omega)]; exact ln_ext (((fr_n _ _ (by omega)).trans (fr_n _ _ (by omega))).trans a1) ((fr_n _ _ (by omega)).trans (fr_s _ _ _)) (((fr_n _ _ (by omega)).trans (fr_n _ _ (by omega))).trans a3) (fr_s _ _ _) a5) (lv_sub hl [1, 2, 0] rfl))
    | (exact tail _ _ _ _ hW hS f3 e3 (lv_sub hl [1, 2, 0] rfl))
    | (exact tail _ _ _ _ hW hS f0 (by rw [tl_planv, if_neg (show ¬ tl_kind (ln M o) = 1 by omega), if_neg (show ¬ tl_kind (ln M o) = 2 by omega), if_neg (show ¬ tl_kind (ln M o) = 3 by omega)]; exact e0) (lv_sub hl [1, 2, 0] rfl))
