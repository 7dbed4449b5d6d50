/-! SolutionSet, the rest (by program: wip/whole/gen/sol.py) -/
def pok (f : tl_F) : Prop := f.1.natAbs ≤ 4611686018427387904 ∧ 0 < f.2 ∧ f.2 ≤ 4611686018427387904
theorem pok_L {f : tl_F} (h : pok f) : fLok f := ⟨by have := h.1; omega, by have := h.2; omega⟩
abbrev cmpF (f g : tl_F) : Int := tl_cmp f.1 f.2 g.1 g.2
theorem tl_cmp_r (a b c d : Int) : inI (tl_cmp a b c d) := by
  unfold tl_cmp
  split
  · omega
  · split <;> omega
def tl_holds (v : Int × tl_F) (x : tl_F) : Int := if v.1 = 1 then 1 else if v.1 = 2 then tl_b (x = v.2) else if v.1 = 3 then tl_b (cmpF x v.2 < 0) else if v.1 = 4 then tl_b (0 < cmpF x v.2) else 0
def tl_part (a b : Int × tl_F) : Int := if a.1 = 0 ∨ b.1 = 1 then 1 else if a.1 = 2 then tl_holds b a.2 else if a.1 ≠ b.1 then 0 else if a.1 = 3 then tl_b (cmpF a.2 b.2 ≤ 0) else tl_b (0 ≤ cmpF a.2 b.2)
def tl_judge (a b : Int × tl_F) : Int := if tl_part a b = 0 then 0 else if tl_part b a = 0 then 2 else 1
abbrev so (M : tm_M) (q : Nat) : Int × tl_F := (mI M q 0, fr M (q + 1))
def sook (v : Int × tl_F) : Prop := 0 ≤ v.1 ∧ v.1 ≤ 4 ∧ pok v.2
theorem tl_holds_z (v : Int × tl_F) (x : tl_F) : tl_holds v x = 0 ∨ tl_holds v x = 1 := by
  unfold tl_holds
  split
  · exact Or.inr rfl
  · split
    · exact tl_b_z _
    · split
      · exact tl_b_z _
      · split
        · exact tl_b_z _
        · exact Or.inl rfl
theorem tl_part_z (a b : Int × tl_F) : tl_part a b = 0 ∨ tl_part a b = 1 := by
  unfold tl_part
  split
  · exact Or.inr rfl
  · split
    · exact tl_holds_z _ _
    · split
      · exact Or.inl rfl
      · split <;> exact tl_b_z _
theorem dX7_holds_0 : decode cX7_holds 0 = .ok (.aload_n 0, 1) := by decide +kernel
theorem dX7_holds_1 : decode cX7_holds 1 = .ok (.getfield 52, 3) := by decide +kernel
theorem dX7_holds_4 : decode cX7_holds 4 = .ok (.tableswitch 77 1 4 #[32, 34, 43, 60], 32) := by decide +kernel
theorem dX7_holds_36 : decode cX7_holds 36 = .ok (.iconst 1, 1) := by decide +kernel
theorem dX7_holds_37 : decode cX7_holds 37 = .ok (.ireturn, 1) := by decide +kernel
theorem dX7_holds_38 : decode cX7_holds 38 = .ok (.aload_n 1, 1) := by decide +kernel
theorem dX7_holds_39 : decode cX7_holds 39 = .ok (.aload_n 0, 1) := by decide +kernel
theorem dX7_holds_40 : decode cX7_holds 40 = .ok (.getfield 10, 3) := by decide +kernel
theorem dX7_holds_43 : decode cX7_holds 43 = .ok (.invokevirtual 66, 3) := by decide +kernel
theorem dX7_holds_46 : decode cX7_holds 46 = .ok (.ireturn, 1) := by decide +kernel
theorem dX7_holds_47 : decode cX7_holds 47 = .ok (.aload_n 1, 1) := by decide +kernel
theorem dX7_holds_48 : decode cX7_holds 48 = .ok (.aload_n 0, 1) := by decide +kernel
theorem dX7_holds_49 : decode cX7_holds 49 = .ok (.getfield 10, 3) := by decide +kernel
theorem dX7_holds_52 : decode cX7_holds 52 = .ok (.invokevirtual 70, 3) := by decide +kernel
theorem dX7_holds_55 : decode cX7_holds 55 = .ok (.ifCond .ge 7, 3) := by decide +kernel
theorem dX7_holds_58 : decode cX7_holds 58 = .ok (.iconst 1, 1) := by decide +kernel
theorem dX7_holds_59 : decode cX7_holds 59 = .ok (.goto 4, 3) := by decide +kernel
theorem dX7_holds_62 : decode cX7_holds 62 = .ok (.iconst 0, 1) := by decide +kernel
theorem dX7_holds_63 : decode cX7_holds 63 = .ok (.ireturn, 1) := by decide +kernel
theorem dX7_holds_64 : decode cX7_holds 64 = .ok (.aload_n 1, 1) := by decide +kernel
theorem dX7_holds_65 : decode cX7_holds 65 = .ok (.aload_n 0, 1) := by decide +kernel
theorem dX7_holds_66 : decode cX7_holds 66 = .ok (.getfield 10, 3) := by decide +kernel
theorem dX7_holds_69 : decode cX7_holds 69 = .ok (.invokevirtual 70, 3) := by decide +kernel
theorem dX7_holds_72 : decode cX7_holds 72 = .ok (.ifCond .le 7, 3) := by decide +kernel
theorem dX7_holds_75 : decode cX7_holds 75 = .ok (.iconst 1, 1) := by decide +kernel
theorem dX7_holds_76 : decode cX7_holds 76 = .ok (.goto 4, 3) := by decide +kernel
theorem dX7_holds_79 : decode cX7_holds 79 = .ok (.iconst 0, 1) := by decide +kernel
theorem dX7_holds_80 : decode cX7_holds 80 = .ok (.ireturn, 1) := by decide +kernel
theorem dX7_holds_81 : decode cX7_holds 81 = .ok (.iconst 0, 1) := by decide +kernel
theorem dX7_holds_82 : decode cX7_holds 82 = .ok (.ireturn, 1) := by decide +kernel
set_option maxHeartbeats 4000000 in
set_option maxRecDepth 100000 in
/-- SolutionSet.holds -/
theorem c_X7_holds {l : Launch} {G : tm_G} {Hb : Heap} {sh : tm_sh} {M : tm_M} {q x : Nat} (hs : isSo sh M q) (h1 : sh x = some (2, 0)) (hv : sook (so M q)) (hxo : pok (fr M x)) : Met l yX7_holds (tws yX7_holds cX7_holds 2 (some .boolean)) ({ frames := 2, cells := 0, slots := 0, locals := 64 }) (va_Pc [.ref q, .ref x] (tm_St G Hb sh M)) (tm_Qi G Hb sh (fun r M1 => r = tl_holds (so M q) (fr M x) ∧ M1 = M)) 0 0 (tm_A Hb) := by
  refine tm_begin (by decide) (Nat.le_of_ble_eq_true rfl) (fun p e s m below meth c ls hx hb hr hml hown htw hlk hnm hK hW hl => ?_)
  have hS : va_S (tm_A Hb) s.heap s.heap [] := va_S.rf
  have hl : lv_has ls 2 [(0, .ref q), (1, .ref x)] := hl
  obtain ⟨s0, s1, s2, s3, s4⟩ := hs
  obtain ⟨v1, v2, v3⟩ := hv
  have pL := pok_L v3
  have c1 : cmpF (fr M x) (so M q).2 = tl_cmp (mL M x 0) (mL M x 1) (mL M (q + 1) 0) (mL M (q + 1) 1) := rfl
  refine lv_aload_n hx hb dX7_holds_0 rfl (lv_at hl 0 rfl) ?_
  refine gf_X7_52 hx hb htw hown hK hW (by assumption) dX7_holds_1 ?_
  refine ti_ts_1_4 (td := 81) (t1 := 36) (t2 := 38) (t3 := 47) (t4 := 64) hx hb dX7_holds_4 (show inI (mI M q 0) by have a1 : 0 ≤ mI M q 0 := v1; have a2 : mI M q 0 ≤ 4 := v2; omega) (by decide) (by decide) (by decide) (by decide) (by decide) (fun h4 => ?_) (fun h4 => ?_) (fun h4 => ?_) (fun h4 => ?_) (fun h4 => ?_)
  · refine ti_iconst hx hb dX7_holds_36 ?_
    exact tm_zret hx hb hr hlk (by first | exact Or.inl rfl | exact Or.inr rfl | assumption) hK hW hS ⟨(by show _ = tl_holds (so M q) (fr M x); unfold tl_holds; rw [if_pos (show (so M q).1 = 1 by have : (so M q).1 = mI M q 0 := rfl; omega)]), rfl⟩ dX7_holds_37
  · refine lv_aload_n hx hb dX7_holds_38 rfl (lv_at hl 1 rfl) ?_
    refine lv_aload_n hx hb dX7_holds_39 rfl (lv_at hl 0 rfl) ?_
    refine gf_X7_10 hx hb htw hown hK hW (by assumption) (by assumption) dX7_holds_40 ?_
    refine tm_calli (cs_X7_66 hx hb hml hown htw hK hW (by assumption) (c_X0_sameAs (by assumption) (by assumption) (pok_L hxo) pL) ⟨rfl, rfl, Nat.le_of_ble_eq_true rfl, Nat.le_of_ble_eq_true rfl⟩ hl.1 (Nat.le_of_ble_eq_true rfl) dX7_holds_43 ⟨Nat.le_of_ble_eq_true rfl, Nat.le_of_ble_eq_true rfl⟩) hS (fun x43 M43 H locs hp43 hW hS => ?_)
    obtain ⟨ex43, eM43⟩ := hp43
    rw [eM43] at hW
    rw [ex43]
    exact tm_zret hx hb hr hlk (tl_b_z _) hK hW hS ⟨(by show _ = tl_holds (so M q) (fr M x); unfold tl_holds; rw [if_neg (show ¬ (so M q).1 = 1 by have : (so M q).1 = mI M q 0 := rfl; omega), if_pos (show (so M q).1 = 2 by have : (so M q).1 = mI M q 0 := rfl; omega)]), rfl⟩ dX7_holds_46
  · refine lv_aload_n hx hb dX7_holds_47 rfl (lv_at hl 1 rfl) ?_
    refine lv_aload_n hx hb dX7_holds_48 rfl (lv_at hl 0 rfl) ?_
    refine gf_X7_10 hx hb htw hown hK hW (by assumption) (by assumption) dX7_holds_49 ?_
    refine tm_calli (cs_X7_70 hx hb hml hown htw hK hW (by assumption) (c_X0_compareWith (by assumption) (by assumption) hxo.1 hxo.2 v3.1 v3.2) ⟨rfl, rfl, Nat.le_of_ble_eq_true rfl, Nat.le_of_ble_eq_true rfl⟩ hl.1 (Nat.le_of_ble_eq_true rfl) dX7_holds_52 ⟨Nat.le_of_ble_eq_true rfl, Nat.le_of_ble_eq_true rfl⟩) hS (fun x52 M52 H locs hp52 hW hS => ?_)
    obtain ⟨ex52, eM52⟩ := hp52
    rw [eM52] at hW
    rw [ex52]
    refine ti_if_ge (tgt := 62) hx hb dX7_holds_55 (by decide) (tl_cmp_r _ _ _ _) (fun h55 => ?_) (fun h55 => ?_)
    · refine ti_iconst hx hb dX7_holds_62 ?_
      exact tm_zret hx hb hr hlk (by first | exact Or.inl rfl | exact Or.inr rfl | assumption) hK hW hS ⟨(by show _ = tl_holds (so M q) (fr M x); unfold tl_holds; rw [if_neg (show ¬ (so M q).1 = 1 by have : (so M q).1 = mI M q 0 := rfl; omega), if_neg (show ¬ (so M q).1 = 2 by have : (so M q).1 = mI M q 0 := rfl; omega), if_pos (show (so M q).1 = 3 by have : (so M q).1 = mI M q 0 := rfl; omega)]; first | exact tl_b_f (by omega) | exact tl_b_t (by omega)), rfl⟩ dX7_holds_63
    · refine ti_iconst hx hb dX7_holds_58 ?_
      refine lv_goto (tgt := 63) hx hb dX7_holds_59 (by decide) ?_
      exact tm_zret hx hb hr hlk (by first | exact Or.inl rfl | exact Or.inr rfl | assumption) hK hW hS ⟨(by show _ = tl_holds (so M q) (fr M x); unfold tl_holds; rw [if_neg (show ¬ (so M q).1 = 1 by have : (so M q).1 = mI M q 0 := rfl; omega), if_neg (show ¬ (so M q).1 = 2 by have : (so M q).1 = mI M q 0 := rfl; omega), if_pos (show (so M q).1 = 3 by have : (so M q).1 = mI M q 0 := rfl; omega)]; first | exact tl_b_f (by omega) | exact tl_b_t (by omega)), rfl⟩ dX7_holds_63
  · refine lv_aload_n hx hb dX7_holds_64 rfl (lv_at hl 1 rfl) ?_
    refine lv_aload_n hx hb dX7_holds_65 rfl (lv_at hl 0 rfl) ?_
    refine gf_X7_10 hx hb htw hown hK hW (by assumption) (by assumption) dX7_holds_66 ?_
    refine tm_calli (cs_X7_70 hx hb hml hown htw hK hW (by assumption) (c_X0_compareWith (by assumption) (by assumption) hxo.1 hxo.2 v3.1 v3.2) ⟨rfl, rfl, Nat.le_of_ble_eq_true rfl, Nat.le_of_ble_eq_true rfl⟩ hl.1 (Nat.le_of_ble_eq_true rfl) dX7_holds_69 ⟨Nat.le_of_ble_eq_true rfl, Nat.le_of_ble_eq_true rfl⟩) hS (fun x69 M69 H locs hp69 hW hS => ?_)
    obtain ⟨ex69, eM69⟩ := hp69
    rw [eM69] at hW
    rw [ex69]
    refine ti_if_le (tgt := 79) hx hb dX7_holds_72 (by decide) (tl_cmp_r _ _ _ _) (fun h72 => ?_) (fun h72 => ?_)
    · refine ti_iconst hx hb dX7_holds_79 ?_
      exact tm_zret hx hb hr hlk (by first | exact Or.inl rfl | exact Or.inr rfl | assumption) hK hW hS ⟨(by show _ = tl_holds (so M q) (fr M x); unfold tl_holds; rw [if_neg (show ¬ (so M q).1 = 1 by have : (so M q).1 = mI M q 0 := rfl; omega), if_neg (show ¬ (so M q).1 = 2 by have : (so M q).1 = mI M q 0 := rfl; omega), if_neg (show ¬ (so M q).1 = 3 by have : (so M q).1 = mI M q 0 := rfl; omega), if_pos (show (so M q).1 = 4 by have : (so M q).1 = mI M q 0 := rfl; omega)]; first | exact tl_b_f (by omega) | exact tl_b_t (by omega)), rfl⟩ dX7_holds_80
    · refine ti_iconst hx hb dX7_holds_75 ?_
      refine lv_goto (tgt := 80) hx hb dX7_holds_76 (by decide) ?_
      exact tm_zret hx hb hr hlk (by first | exact Or.inl rfl | exact Or.inr rfl | assumption) hK hW hS ⟨(by show _ = tl_holds (so M q) (fr M x); unfold tl_holds; rw [if_neg (show ¬ (so M q).1 = 1 by have : (so M q).1 = mI M q 0 := rfl; omega), if_neg (show ¬ (so M q).1 = 2 by have : (so M q).1 = mI M q 0 := rfl; omega), if_neg (show ¬ (so M q).1 = 3 by have : (so M q).1 = mI M q 0 := rfl; omega), if_pos (show (so M q).1 = 4 by have : (so M q).1 = mI M q 0 := rfl; omega)]; first | exact tl_b_f (by omega) | exact tl_b_t (by omega)), rfl⟩ dX7_holds_80
  · refine ti_iconst hx hb dX7_holds_81 ?_
    exact tm_zret hx hb hr hlk (by first | exact Or.inl rfl | exact Or.inr rfl | assumption) hK hW hS ⟨(by show _ = tl_holds (so M q) (fr M x); unfold tl_holds; rw [if_neg (show ¬ (so M q).1 = 1 by have : (so M q).1 = mI M q 0 := rfl; omega), if_neg (show ¬ (so M q).1 = 2 by have : (so M q).1 = mI M q 0 := rfl; omega), if_neg (show ¬ (so M q).1 = 3 by have : (so M q).1 = mI M q 0 := rfl; omega), if_neg (show ¬ (so M q).1 = 4 by have : (so M q).1 = mI M q 0 := rfl; omega)]), rfl⟩ dX7_holds_82
theorem dX7_isPartOf_0 : decode cX7_isPartOf 0 = .ok (.aload_n 0, 1) := by decide +kernel
theorem dX7_isPartOf_1 : decode cX7_isPartOf 1 = .ok (.getfield 52, 3) := by decide +kernel
theorem dX7_isPartOf_4 : decode cX7_isPartOf 4 = .ok (.ifCond .eq 11, 3) := by decide +kernel
theorem dX7_isPartOf_7 : decode cX7_isPartOf 7 = .ok (.aload_n 1, 1) := by decide +kernel
theorem dX7_isPartOf_8 : decode cX7_isPartOf 8 = .ok (.getfield 52, 3) := by decide +kernel
theorem dX7_isPartOf_11 : decode cX7_isPartOf 11 = .ok (.iconst 1, 1) := by decide +kernel
theorem dX7_isPartOf_12 : decode cX7_isPartOf 12 = .ok (.if_icmp .ne 5, 3) := by decide +kernel
theorem dX7_isPartOf_15 : decode cX7_isPartOf 15 = .ok (.iconst 1, 1) := by decide +kernel
theorem dX7_isPartOf_16 : decode cX7_isPartOf 16 = .ok (.ireturn, 1) := by decide +kernel
theorem dX7_isPartOf_17 : decode cX7_isPartOf 17 = .ok (.aload_n 0, 1) := by decide +kernel
theorem dX7_isPartOf_18 : decode cX7_isPartOf 18 = .ok (.getfield 52, 3) := by decide +kernel
theorem dX7_isPartOf_21 : decode cX7_isPartOf 21 = .ok (.iconst 2, 1) := by decide +kernel
theorem dX7_isPartOf_22 : decode cX7_isPartOf 22 = .ok (.if_icmp .ne 12, 3) := by decide +kernel
theorem dX7_isPartOf_25 : decode cX7_isPartOf 25 = .ok (.aload_n 1, 1) := by decide +kernel
theorem dX7_isPartOf_26 : decode cX7_isPartOf 26 = .ok (.aload_n 0, 1) := by decide +kernel
theorem dX7_isPartOf_27 : decode cX7_isPartOf 27 = .ok (.getfield 10, 3) := by decide +kernel
theorem dX7_isPartOf_30 : decode cX7_isPartOf 30 = .ok (.invokevirtual 78, 3) := by decide +kernel
theorem dX7_isPartOf_33 : decode cX7_isPartOf 33 = .ok (.ireturn, 1) := by decide +kernel
theorem dX7_isPartOf_34 : decode cX7_isPartOf 34 = .ok (.aload_n 0, 1) := by decide +kernel
theorem dX7_isPartOf_35 : decode cX7_isPartOf 35 = .ok (.getfield 52, 3) := by decide +kernel
theorem dX7_isPartOf_38 : decode cX7_isPartOf 38 = .ok (.aload_n 1, 1) := by decide +kernel
theorem dX7_isPartOf_39 : decode cX7_isPartOf 39 = .ok (.getfield 52, 3) := by decide +kernel
theorem dX7_isPartOf_42 : decode cX7_isPartOf 42 = .ok (.if_icmp .eq 5, 3) := by decide +kernel
theorem dX7_isPartOf_45 : decode cX7_isPartOf 45 = .ok (.iconst 0, 1) := by decide +kernel
theorem dX7_isPartOf_46 : decode cX7_isPartOf 46 = .ok (.ireturn, 1) := by decide +kernel
theorem dX7_isPartOf_47 : decode cX7_isPartOf 47 = .ok (.aload_n 0, 1) := by decide +kernel
theorem dX7_isPartOf_48 : decode cX7_isPartOf 48 = .ok (.getfield 10, 3) := by decide +kernel
theorem dX7_isPartOf_51 : decode cX7_isPartOf 51 = .ok (.aload_n 1, 1) := by decide +kernel
theorem dX7_isPartOf_52 : decode cX7_isPartOf 52 = .ok (.getfield 10, 3) := by decide +kernel
theorem dX7_isPartOf_55 : decode cX7_isPartOf 55 = .ok (.invokevirtual 70, 3) := by decide +kernel
theorem dX7_isPartOf_58 : decode cX7_isPartOf 58 = .ok (.istore_n 2, 1) := by decide +kernel
theorem dX7_isPartOf_59 : decode cX7_isPartOf 59 = .ok (.aload_n 0, 1) := by decide +kernel
theorem dX7_isPartOf_60 : decode cX7_isPartOf 60 = .ok (.getfield 52, 3) := by decide +kernel
theorem dX7_isPartOf_63 : decode cX7_isPartOf 63 = .ok (.iconst 3, 1) := by decide +kernel
theorem dX7_isPartOf_64 : decode cX7_isPartOf 64 = .ok (.if_icmp .ne 15, 3) := by decide +kernel
theorem dX7_isPartOf_67 : decode cX7_isPartOf 67 = .ok (.iload_n 2, 1) := by decide +kernel
theorem dX7_isPartOf_68 : decode cX7_isPartOf 68 = .ok (.ifCond .gt 7, 3) := by decide +kernel
theorem dX7_isPartOf_71 : decode cX7_isPartOf 71 = .ok (.iconst 1, 1) := by decide +kernel
theorem dX7_isPartOf_72 : decode cX7_isPartOf 72 = .ok (.goto 16, 3) := by decide +kernel
theorem dX7_isPartOf_75 : decode cX7_isPartOf 75 = .ok (.iconst 0, 1) := by decide +kernel
theorem dX7_isPartOf_76 : decode cX7_isPartOf 76 = .ok (.goto 12, 3) := by decide +kernel
theorem dX7_isPartOf_79 : decode cX7_isPartOf 79 = .ok (.iload_n 2, 1) := by decide +kernel
theorem dX7_isPartOf_80 : decode cX7_isPartOf 80 = .ok (.ifCond .lt 7, 3) := by decide +kernel
theorem dX7_isPartOf_83 : decode cX7_isPartOf 83 = .ok (.iconst 1, 1) := by decide +kernel
theorem dX7_isPartOf_84 : decode cX7_isPartOf 84 = .ok (.goto 4, 3) := by decide +kernel
theorem dX7_isPartOf_87 : decode cX7_isPartOf 87 = .ok (.iconst 0, 1) := by decide +kernel
theorem dX7_isPartOf_88 : decode cX7_isPartOf 88 = .ok (.ireturn, 1) := by decide +kernel
set_option maxHeartbeats 4000000 in
set_option maxRecDepth 100000 in
/-- SolutionSet.isPartOf -/
theorem c_X7_isPartOf {l : Launch} {G : tm_G} {Hb : Heap} {sh : tm_sh} {M : tm_M} {q o : Nat} (hs : isSo sh M q) (ht : isSo sh M o) (hv : sook (so M q)) (hw : sook (so M o)) : Met l yX7_isPartOf (tws yX7_isPartOf cX7_isPartOf 3 (some .boolean)) ({ frames := 3, cells := 0, slots := 0, locals := 85 }) (va_Pc [.ref q, .ref o] (tm_St G Hb sh M)) (tm_Qi G Hb sh (fun r M1 => r = tl_part (so M q) (so M o) ∧ M1 = M)) 0 0 (tm_A Hb) := by
  refine tm_begin (by decide) (Nat.le_of_ble_eq_true rfl) (fun p e s m below meth c ls hx hb hr hml hown htw hlk hnm hK hW hl => ?_)
  have hS : va_S (tm_A Hb) s.heap s.heap [] := va_S.rf
  have hl : lv_has ls 3 [(0, .ref q), (1, .ref o)] := hl
  obtain ⟨s0, s1, s2, s3, s4⟩ := hs
  obtain ⟨t0, t1, t2, t3, t4⟩ := ht
  have v1 : 0 ≤ mI M q 0 := hv.1
  have v2 : mI M q 0 ≤ 4 := hv.2.1
  have w1 : 0 ≤ mI M o 0 := hw.1
  have w2 : mI M o 0 ≤ 4 := hw.2.1
  have a1 : (so M q).1 = mI M q 0 := rfl
  have a2 : (so M o).1 = mI M o 0 := rfl
  have c1 : cmpF (so M q).2 (so M o).2 = tl_cmp (mL M (q + 1) 0) (mL M (q + 1) 1) (mL M (o + 1) 0) (mL M (o + 1) 1) := rfl
  refine lv_aload_n hx hb dX7_isPartOf_0 rfl (lv_at hl 0 rfl) ?_
  refine gf_X7_52 hx hb htw hown hK hW (by assumption) dX7_isPartOf_1 ?_
  refine ti_if_eq (tgt := 15) hx hb dX7_isPartOf_4 (by decide) (by omega) (fun h4 => ?_) (fun h4 => ?_)
  · refine ti_iconst hx hb dX7_isPartOf_15 ?_
    exact tm_zret hx hb hr hlk (by first | exact Or.inl rfl | exact Or.inr rfl | assumption) hK hW hS ⟨(by show _ = tl_part (so M q) (so M o); unfold tl_part; rw [if_pos (show (so M q).1 = 0 ∨ (so M o).1 = 1 by omega)]), rfl⟩ dX7_isPartOf_16
  · refine lv_aload_n hx hb dX7_isPartOf_7 rfl (lv_at hl 1 rfl) ?_
    refine gf_X7_52 hx hb htw hown hK hW (by assumption) dX7_isPartOf_8 ?_
    refine ti_iconst hx hb dX7_isPartOf_11 ?_
    refine ti_icmp_ne (tgt := 17) hx hb dX7_isPartOf_12 (by decide) (by omega) (by omega) (fun h12 => ?_) (fun h12 => ?_)
    · refine lv_aload_n hx hb dX7_isPartOf_17 rfl (lv_at hl 0 rfl) ?_
      refine gf_X7_52 hx hb htw hown hK hW (by assumption) dX7_isPartOf_18 ?_
      refine ti_iconst hx hb dX7_isPartOf_21 ?_
      refine ti_icmp_ne (tgt := 34) hx hb dX7_isPartOf_22 (by decide) (by omega) (by omega) (fun h22 => ?_) (fun h22 => ?_)
      · refine lv_aload_n hx hb dX7_isPartOf_34 rfl (lv_at hl 0 rfl) ?_
        refine gf_X7_52 hx hb htw hown hK hW (by assumption) dX7_isPartOf_35 ?_
        refine lv_aload_n hx hb dX7_isPartOf_38 rfl (lv_at hl 1 rfl) ?_
        refine gf_X7_52 hx hb htw hown hK hW (by assumption) dX7_isPartOf_39 ?_
        refine ti_icmp_eq (tgt := 47) hx hb dX7_isPartOf_42 (by decide) (by omega) (by omega) (fun h42 => ?_) (fun h42 => ?_)
        · refine lv_aload_n hx hb dX7_isPartOf_47 rfl (lv_at hl 0 rfl) ?_
          refine gf_X7_10 hx hb htw hown hK hW (by assumption) (by assumption) dX7_isPartOf_48 ?_
          refine lv_aload_n hx hb dX7_isPartOf_51 rfl (lv_at hl 1 rfl) ?_
          refine gf_X7_10 hx hb htw hown hK hW (by assumption) (by assumption) dX7_isPartOf_52 ?_
          refine tm_calli (cs_X7_70 hx hb hml hown htw hK hW (by assumption) (c_X0_compareWith (by assumption) (by assumption) hv.2.2.1 hv.2.2.2 hw.2.2.1 hw.2.2.2) ⟨rfl, rfl, Nat.le_of_ble_eq_true rfl, Nat.le_of_ble_eq_true rfl⟩ hl.1 (Nat.le_of_ble_eq_true rfl) dX7_isPartOf_55 ⟨Nat.le_of_ble_eq_true rfl, Nat.le_of_ble_eq_true rfl⟩) hS (fun x55 M55 H locs hp55 hW hS => ?_)
          obtain ⟨ex55, eM55⟩ := hp55
          rw [eM55] at hW
          rw [ex55]
          refine lv_istore_n (lv' := [(2, _), (0, _), (1, _)]) hx hb dX7_isPartOf_58 rfl hl (by decide) rfl (fun ls hl => ?_)
          refine lv_aload_n hx hb dX7_isPartOf_59 rfl (lv_at hl 1 rfl) ?_
          refine gf_X7_52 hx hb htw hown hK hW (by assumption) dX7_isPartOf_60 ?_
          refine ti_iconst hx hb dX7_isPartOf_63 ?_
          refine ti_icmp_ne (tgt := 79) hx hb dX7_isPartOf_64 (by decide) (by omega) (by omega) (fun h64 => ?_) (fun h64 => ?_)
          · refine lv_iload_n hx hb dX7_isPartOf_79 rfl (lv_at hl 0 rfl) ?_
            refine ti_if_lt (tgt := 87) hx hb dX7_isPartOf_80 (by decide) (tl_cmp_r _ _ _ _) (fun h80 => ?_) (fun h80 => ?_)
            · refine ti_iconst hx hb dX7_isPartOf_87 ?_
              exact tm_zret hx hb hr hlk (by first | exact Or.inl rfl | exact Or.inr rfl | assumption) hK hW hS (by first | exact ⟨(by show _ = tl_part (so M q) (so M o); unfold tl_part; rw [if_neg (show ¬ ((so M q).1 = 0 ∨ (so M o).1 = 1) by omega), if_neg (show ¬ (so M q).1 = 2 by omega), if_neg (show ¬ (so M q).1 ≠ (so M o).1 by omega), if_pos (show (so M q).1 = 3 by omega)]; first | exact tl_b_f (by omega) | exact tl_b_t (by omega)), rfl⟩ | exact ⟨(by show _ = tl_part (so M q) (so M o); unfold tl_part; rw [if_neg (show ¬ ((so M q).1 = 0 ∨ (so M o).1 = 1) by omega), if_neg (show ¬ (so M q).1 = 2 by omega), if_neg (show ¬ (so M q).1 ≠ (so M o).1 by omega), if_neg (show ¬ (so M q).1 = 3 by omega)]; first | exact tl_b_f (by omega) | exact tl_b_t (by omega)), rfl⟩) dX7_isPartOf_88
            · refine ti_iconst hx hb dX7_isPartOf_83 ?_
              refine lv_goto (tgt := 88) hx hb dX7_isPartOf_84 (by decide) ?_
              exact tm_zret hx hb hr hlk (by first | exact Or.inl rfl | exact Or.inr rfl | assumption) hK hW hS (by first | exact ⟨(by show _ = tl_part (so M q) (so M o); unfold tl_part; rw [if_neg (show ¬ ((so M q).1 = 0 ∨ (so M o).1 = 1) by omega), if_neg (show ¬ (so M q).1 = 2 by omega), if_neg (show ¬ (so M q).1 ≠ (so M o).1 by omega), if_pos (show (so M q).1 = 3 by omega)]; first | exact tl_b_f (by omega) | exact tl_b_t (by omega)), rfl⟩ | exact ⟨(by show _ = tl_part (so M q) (so M o); unfold tl_part; rw [if_neg (show ¬ ((so M q).1 = 0 ∨ (so M o).1 = 1) by omega), if_neg (show ¬ (so M q).1 = 2 by omega), if_neg (show ¬ (so M q).1 ≠ (so M o).1 by omega), if_neg (show ¬ (so M q).1 = 3 by omega)]; first | exact tl_b_f (by omega) | exact tl_b_t (by omega)), rfl⟩) dX7_isPartOf_88
          · refine lv_iload_n hx hb dX7_isPartOf_67 rfl (lv_at hl 0 rfl) ?_
            refine ti_if_gt (tgt := 75) hx hb dX7_isPartOf_68 (by decide) (tl_cmp_r _ _ _ _) (fun h68 => ?_) (fun h68 => ?_)
            · refine ti_iconst hx hb dX7_isPartOf_75 ?_
              refine lv_goto (tgt := 88) hx hb dX7_isPartOf_76 (by decide) ?_
              exact tm_zret hx hb hr hlk (by first | exact Or.inl rfl | exact Or.inr rfl | assumption) hK hW hS (by first | exact ⟨(by show _ = tl_part (so M q) (so M o); unfold tl_part; rw [if_neg (show ¬ ((so M q).1 = 0 ∨ (so M o).1 = 1) by omega), if_neg (show ¬ (so M q).1 = 2 by omega), if_neg (show ¬ (so M q).1 ≠ (so M o).1 by omega), if_pos (show (so M q).1 = 3 by omega)]; first | exact tl_b_f (by omega) | exact tl_b_t (by omega)), rfl⟩ | exact ⟨(by show _ = tl_part (so M q) (so M o); unfold tl_part; rw [if_neg (show ¬ ((so M q).1 = 0 ∨ (so M o).1 = 1) by omega), if_neg (show ¬ (so M q).1 = 2 by omega), if_neg (show ¬ (so M q).1 ≠ (so M o).1 by omega), if_neg (show ¬ (so M q).1 = 3 by omega)]; first | exact tl_b_f (by omega) | exact tl_b_t (by omega)), rfl⟩) dX7_isPartOf_88
            · refine ti_iconst hx hb dX7_isPartOf_71 ?_
              refine lv_goto (tgt := 88) hx hb dX7_isPartOf_72 (by decide) ?_
              exact tm_zret hx hb hr hlk (by first | exact Or.inl rfl | exact Or.inr rfl | assumption) hK hW hS (by first | exact ⟨(by show _ = tl_part (so M q) (so M o); unfold tl_part; rw [if_neg (show ¬ ((so M q).1 = 0 ∨ (so M o).1 = 1) by omega), if_neg (show ¬ (so M q).1 = 2 by omega), if_neg (show ¬ (so M q).1 ≠ (so M o).1 by omega), if_pos (show (so M q).1 = 3 by omega)]; first | exact tl_b_f (by omega) | exact tl_b_t (by omega)), rfl⟩ | exact ⟨(by show _ = tl_part (so M q) (so M o); unfold tl_part; rw [if_neg (show ¬ ((so M q).1 = 0 ∨ (so M o).1 = 1) by omega), if_neg (show ¬ (so M q).1 = 2 by omega), if_neg (show ¬ (so M q).1 ≠ (so M o).1 by omega), if_neg (show ¬ (so M q).1 = 3 by omega)]; first | exact tl_b_f (by omega) | exact tl_b_t (by omega)), rfl⟩) dX7_isPartOf_88
        · refine ti_iconst hx hb dX7_isPartOf_45 ?_
          exact tm_zret hx hb hr hlk (by first | exact Or.inl rfl | exact Or.inr rfl | assumption) hK hW hS ⟨(by show _ = tl_part (so M q) (so M o); unfold tl_part; rw [if_neg (show ¬ ((so M q).1 = 0 ∨ (so M o).1 = 1) by omega), if_neg (show ¬ (so M q).1 = 2 by omega), if_pos (show (so M q).1 ≠ (so M o).1 by omega)]), rfl⟩ dX7_isPartOf_46
      · refine lv_aload_n hx hb dX7_isPartOf_25 rfl (lv_at hl 1 rfl) ?_
        refine lv_aload_n hx hb dX7_isPartOf_26 rfl (lv_at hl 0 rfl) ?_
        refine gf_X7_10 hx hb htw hown hK hW (by assumption) (by assumption) dX7_isPartOf_27 ?_
        refine tm_calli (cs_X7_78 hx hb hml hown htw hK hW (by assumption) (c_X7_holds ⟨t0, t1, t2, t3, t4⟩ (by assumption) hw hv.2.2) ⟨rfl, rfl, Nat.le_of_ble_eq_true rfl, Nat.le_of_ble_eq_true rfl⟩ hl.1 (Nat.le_of_ble_eq_true rfl) dX7_isPartOf_30 ⟨Nat.le_of_ble_eq_true rfl, Nat.le_of_ble_eq_true rfl⟩) hS (fun x30 M30 H locs hp30 hW hS => ?_)
        obtain ⟨ex30, eM30⟩ := hp30
        rw [eM30] at hW
        rw [ex30]
        exact tm_zret hx hb hr hlk (tl_holds_z _ _) hK hW hS ⟨(by show _ = tl_part (so M q) (so M o); unfold tl_part; rw [if_neg (show ¬ ((so M q).1 = 0 ∨ (so M o).1 = 1) by omega), if_pos (show (so M q).1 = 2 by omega)]), rfl⟩ dX7_isPartOf_33
    · refine ti_iconst hx hb dX7_isPartOf_15 ?_
      exact tm_zret hx hb hr hlk (by first | exact Or.inl rfl | exact Or.inr rfl | assumption) hK hW hS ⟨(by show _ = tl_part (so M q) (so M o); unfold tl_part; rw [if_pos (show (so M q).1 = 0 ∨ (so M o).1 = 1 by omega)]), rfl⟩ dX7_isPartOf_16
theorem dX7_judge_0 : decode cX7_judge 0 = .ok (.aload_n 0, 1) := by decide +kernel
theorem dX7_judge_1 : decode cX7_judge 1 = .ok (.aload_n 1, 1) := by decide +kernel
theorem dX7_judge_2 : decode cX7_judge 2 = .ok (.invokevirtual 74, 3) := by decide +kernel
theorem dX7_judge_5 : decode cX7_judge 5 = .ok (.ifCond .ne 5, 3) := by decide +kernel
theorem dX7_judge_8 : decode cX7_judge 8 = .ok (.iconst 0, 1) := by decide +kernel
theorem dX7_judge_9 : decode cX7_judge 9 = .ok (.ireturn, 1) := by decide +kernel
theorem dX7_judge_10 : decode cX7_judge 10 = .ok (.aload_n 1, 1) := by decide +kernel
theorem dX7_judge_11 : decode cX7_judge 11 = .ok (.aload_n 0, 1) := by decide +kernel
theorem dX7_judge_12 : decode cX7_judge 12 = .ok (.invokevirtual 74, 3) := by decide +kernel
theorem dX7_judge_15 : decode cX7_judge 15 = .ok (.ifCond .eq 7, 3) := by decide +kernel
theorem dX7_judge_18 : decode cX7_judge 18 = .ok (.iconst 1, 1) := by decide +kernel
theorem dX7_judge_19 : decode cX7_judge 19 = .ok (.goto 4, 3) := by decide +kernel
theorem dX7_judge_22 : decode cX7_judge 22 = .ok (.iconst 2, 1) := by decide +kernel
theorem dX7_judge_23 : decode cX7_judge 23 = .ok (.ireturn, 1) := by decide +kernel
set_option maxHeartbeats 4000000 in
set_option maxRecDepth 100000 in
/-- SolutionSet.judge -/
theorem c_X7_judge {l : Launch} {G : tm_G} {Hb : Heap} {sh : tm_sh} {M : tm_M} {q o : Nat} (hs : isSo sh M q) (ht : isSo sh M o) (hv : sook (so M q)) (hw : sook (so M o)) : Met l yX7_judge (tws yX7_judge cX7_judge 2 (some .int)) ({ frames := 4, cells := 0, slots := 0, locals := 107 }) (va_Pc [.ref q, .ref o] (tm_St G Hb sh M)) (tm_Qi G Hb sh (fun r M1 => r = tl_judge (so M q) (so M o) ∧ M1 = M)) 0 0 (tm_A Hb) := by
  refine tm_begin (by decide) (Nat.le_of_ble_eq_true rfl) (fun p e s m below meth c ls hx hb hr hml hown htw hlk hnm hK hW hl => ?_)
  have hS : va_S (tm_A Hb) s.heap s.heap [] := va_S.rf
  have hl : lv_has ls 2 [(0, .ref q), (1, .ref o)] := hl
  have s0 := hs.1
  have t0 := ht.1
  refine lv_aload_n hx hb dX7_judge_0 rfl (lv_at hl 0 rfl) ?_
  refine lv_aload_n hx hb dX7_judge_1 rfl (lv_at hl 1 rfl) ?_
  refine tm_calli (cs_X7_74 hx hb hml hown htw hK hW (by assumption) (c_X7_isPartOf hs ht hv hw) ⟨rfl, rfl, Nat.le_of_ble_eq_true rfl, Nat.le_of_ble_eq_true rfl⟩ hl.1 (Nat.le_of_ble_eq_true rfl) dX7_judge_2 ⟨Nat.le_of_ble_eq_true rfl, Nat.le_of_ble_eq_true rfl⟩) hS (fun x2 M2 H locs hp2 hW hS => ?_)
  obtain ⟨ex2, eM2⟩ := hp2
  rw [eM2] at hW
  rw [ex2]
  refine ti_if_ne (tgt := 10) hx hb dX7_judge_5 (by decide) (by rcases tl_part_z (so M q) (so M o) with z | z <;> omega) (fun h5 => ?_) (fun h5 => ?_)
  · refine lv_aload_n hx hb dX7_judge_10 rfl (lv_at hl 1 rfl) ?_
    refine lv_aload_n hx hb dX7_judge_11 rfl (lv_at hl 0 rfl) ?_
    refine tm_calli (cs_X7_74 hx hb hml hown htw hK hW (by assumption) (c_X7_isPartOf ht hs hw hv) ⟨rfl, rfl, Nat.le_of_ble_eq_true rfl, Nat.le_of_ble_eq_true rfl⟩ hl.1 (Nat.le_of_ble_eq_true rfl) dX7_judge_12 ⟨Nat.le_of_ble_eq_true rfl, Nat.le_of_ble_eq_true rfl⟩) hS (fun x12 M12 H locs hp12 hW hS => ?_)
    obtain ⟨ex12, eM12⟩ := hp12
    rw [eM12] at hW
    rw [ex12]
    refine ti_if_eq (tgt := 22) hx hb dX7_judge_15 (by decide) (by rcases tl_part_z (so M o) (so M q) with z | z <;> omega) (fun h15 => ?_) (fun h15 => ?_)
    · refine ti_iconst hx hb dX7_judge_22 ?_
      exact tm_iret hx hb hr hlk hK hW hS ⟨by first | rw [tl_judge, if_neg h5, if_pos h15] | rw [tl_judge, if_neg h5, if_neg h15], rfl⟩ dX7_judge_23
    · refine ti_iconst hx hb dX7_judge_18 ?_
      refine lv_goto (tgt := 23) hx hb dX7_judge_19 (by decide) ?_
      exact tm_iret hx hb hr hlk hK hW hS ⟨by first | rw [tl_judge, if_neg h5, if_pos h15] | rw [tl_judge, if_neg h5, if_neg h15], rfl⟩ dX7_judge_23
  · refine ti_iconst hx hb dX7_judge_8 ?_
    exact tm_iret hx hb hr hlk hK hW hS ⟨by rw [tl_judge, if_pos h5], rfl⟩ dX7_judge_9
