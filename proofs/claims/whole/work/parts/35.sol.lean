/-! SolutionSet (by program: wip/whole/gen/sol.py): at q, its place at q + 1, its slope at q + 2 -/
/-- only cells lo .. hi - 1 have changed -/
def tm_fr (lo hi : Nat) (M M1 : tm_M) : Prop := mR M1 = mR M ∧ ∀ a k, (a < lo ∨ hi ≤ a) → mI M1 a k = mI M a k ∧ mL M1 a k = mL M a k
theorem fw_rf {lo hi : Nat} {M : tm_M} : tm_fr lo hi M M := ⟨rfl, fun _ _ _ => ⟨rfl, rfl⟩⟩
theorem fw_tr {lo hi : Nat} {M M1 M2 : tm_M} (h : tm_fr lo hi M M1) (g : tm_fr lo hi M1 M2) : tm_fr lo hi M M2 := ⟨g.1.trans h.1, fun a k q => ⟨((g.2 a k q).1).trans (h.2 a k q).1, ((g.2 a k q).2).trans (h.2 a k q).2⟩⟩
theorem fw_wd {lo hi lo' hi' : Nat} {M M1 : tm_M} (h : tm_fr lo hi M M1) (h1 : lo' ≤ lo) (h2 : hi ≤ hi') : tm_fr lo' hi' M M1 := ⟨h.1, fun a k q => h.2 a k (by omega)⟩
theorem fw_fS {lo hi q : Nat} {M : tm_M} (f : tl_F) (h1 : lo ≤ q) (h2 : q < hi) : tm_fr lo hi M (fS M q f) := ⟨rfl, fun a k g => ⟨rfl, fL_n M f (by omega)⟩⟩
theorem fw_sI {lo hi q j : Nat} {M : tm_M} (v : Int) (h1 : lo ≤ q) (h2 : q < hi) : tm_fr lo hi M (sI M q j v) := ⟨rfl, fun a k g => ⟨tm_up_a _ _ (by omega), rfl⟩⟩
theorem fw_sL {lo hi q j : Nat} {M : tm_M} (v : Int) (h1 : lo ≤ q) (h2 : q < hi) : tm_fr lo hi M (sL M q j v) := ⟨rfl, fun a k g => ⟨rfl, tm_up_a _ _ (by omega)⟩⟩
theorem fw_fr {lo hi a : Nat} {M M1 : tm_M} (h : tm_fr lo hi M M1) (g : a < lo ∨ hi ≤ a) : fr M1 a = fr M a := by
  show (mL M1 a 0, mL M1 a 1) = _
  rw [(h.2 a 0 g).2, (h.2 a 1 g).2]
theorem fw_ln {lo hi a : Nat} {M M1 : tm_M} (h : tm_fr lo hi M M1) (g : a + 7 ≤ lo ∨ hi ≤ a) : ln M1 a = ln M a := by
  show ((fr M1 (a + 1 + 1), fr M1 (a + 1 + 2)), (fr M1 (a + 4 + 1), fr M1 (a + 4 + 2)), mI M1 a 2) = _
  rw [fw_fr h (by omega), fw_fr h (by omega), fw_fr h (by omega), fw_fr h (by omega), (h.2 a 2 (by omega)).1]
def isSo (sh : tm_sh) (M : tm_M) (q : Nat) : Prop := sh q = some (7, 0) ∧ mR M q 1 = some (q + 1) ∧ mR M q 2 = some (q + 2) ∧ sh (q + 1) = some (2, 0) ∧ sh (q + 2) = some (2, 0)
/-- the kind of a line's solutions, and their point or bound -/
def tl_sl (v : tl_L) : tl_F := fsub v.1.1 v.2.1.1
def tl_pl (v : tl_L) : tl_F := fsub v.2.1.2 v.1.2
def tl_tz (r x : Int) : Int := if r = 1 then tl_b (0 < x) else if r = 2 then tl_b (x < 0) else tl_b (x = 0)
def tl_solve (v : tl_L) : Int × tl_F := if (tl_sl v).1 = 0 then (tl_tz v.2.2 (tl_pl v).1, (0, 1)) else (if v.2.2 = 0 then 2 else if (v.2.2 = 1 ↔ 0 < (tl_sl v).1) then 3 else 4, fdiv (tl_pl v) (tl_sl v))
def lok (v : tl_L) : Prop := sok v.1 ∧ sok v.2.1 ∧ 0 ≤ v.2.2 ∧ v.2.2 ≤ 2
theorem tl_tz_z (r x : Int) : tl_tz r x = 0 ∨ tl_tz r x = 1 := by
  unfold tl_tz
  split
  · exact tl_b_z _
  · split <;> exact tl_b_z _
/-- the difference of two small fractions: its parts -/
theorem tl_fsub_bd {f g : tl_F} (hf : fok f) (hg : fok g) : (fsub f g).1.natAbs ≤ 199960002 ∧ (fsub f g).2.natAbs ≤ 99980001 ∧ 0 < (fsub f g).2 ∧ Int.gcd (fsub f g).1 (fsub f g).2 = 1 := by
  obtain ⟨a1, a2, a3⟩ := fok_ab hf
  obtain ⟨b1, b2, b3⟩ := fok_ab hg
  have h1 := tl_mb a2 b2
  have h2 := tl_mb a1 b2
  have h3 := tl_mb b1 a2
  have h0 := tl_n0 a3 b3
  have h4 := tl_norm_le (a := f.1 * g.2 - g.1 * f.2) h0
  exact ⟨Nat.le_trans h4.1 (by omega), Nat.le_trans h4.2 (by omega), tl_norm_pos h0, tl_norm_gcd h0⟩
/-- the quotient of two such differences -/
theorem tl_quo_bd {f g : tl_F} (hf : f.1.natAbs ≤ 199960002 ∧ f.2.natAbs ≤ 99980001 ∧ 0 < f.2) (hg : g.1.natAbs ≤ 199960002 ∧ g.2.natAbs ≤ 99980001 ∧ 0 < g.2) (hz : g.1 ≠ 0) : f.2 * g.1 ≠ 0 ∧ (f.1 * g.2).natAbs ≤ 19992001499960002 ∧ (f.2 * g.1).natAbs ≤ 19992001499960002 := by
  have h1 := tl_mb hf.1 hg.2.1
  have h2 := tl_mb hf.2.1 hg.1
  exact ⟨tl_n0 (by omega) hz, by omega, by omega⟩
theorem tl_ff {M M3 : tm_M} {q : Nat} {kd : Int} {pl : tl_F} {v : tl_L} (hp : fr M3 (q + 1) = pl) (hf : tm_fr q (q + 3) M M3) (hs : tl_solve v = (kd, pl)) : (mI (sI M3 q 0 kd) q 0, fr (sI M3 q 0 kd) (q + 1)) = tl_solve v ∧ tm_fr q (q + 3) M (sI M3 q 0 kd) := by
  refine ⟨?_, fw_tr hf (fw_sI _ (by omega) (by omega))⟩
  rw [hs, show mI (sI M3 q 0 kd) q 0 = kd from tm_up_s _ _ _ _, ← hp]
theorem tl_ff0 {M M3 : tm_M} {q : Nat} {kd : Int} {v : tl_L} (hf : tm_fr q (q + 3) M M3) (hs : tl_solve v = (kd, (0, 1))) : (mI (fS (sI M3 q 0 kd) (q + 1) (0, 1)) q 0, fr (fS (sI M3 q 0 kd) (q + 1) (0, 1)) (q + 1)) = tl_solve v ∧ tm_fr q (q + 3) M (fS (sI M3 q 0 kd) (q + 1) (0, 1)) := by
  refine ⟨?_, fw_tr (fw_tr hf (fw_sI _ (by omega) (by omega))) (fw_fS _ (by omega) (by omega))⟩
  rw [hs, fr_s, show mI (fS (sI M3 q 0 kd) (q + 1) (0, 1)) q 0 = kd from tm_up_s _ _ _ _]
theorem dX7_isTrueOfZero_0 : decode cX7_isTrueOfZero 0 = .ok (.iload_n 0, 1) := by decide +kernel
theorem dX7_isTrueOfZero_1 : decode cX7_isTrueOfZero 1 = .ok (.lookupswitch 57 #[(1, 27), (2, 42)], 27) := by decide +kernel
theorem dX7_isTrueOfZero_28 : decode cX7_isTrueOfZero 28 = .ok (.aload_n 1, 1) := by decide +kernel
theorem dX7_isTrueOfZero_29 : decode cX7_isTrueOfZero 29 = .ok (.getfield 62, 3) := by decide +kernel
theorem dX7_isTrueOfZero_32 : decode cX7_isTrueOfZero 32 = .ok (.lconst 0, 1) := by decide +kernel
theorem dX7_isTrueOfZero_33 : decode cX7_isTrueOfZero 33 = .ok (.lcmp, 1) := by decide +kernel
theorem dX7_isTrueOfZero_34 : decode cX7_isTrueOfZero 34 = .ok (.ifCond .le 7, 3) := by decide +kernel
theorem dX7_isTrueOfZero_37 : decode cX7_isTrueOfZero 37 = .ok (.iconst 1, 1) := by decide +kernel
theorem dX7_isTrueOfZero_38 : decode cX7_isTrueOfZero 38 = .ok (.goto 4, 3) := by decide +kernel
theorem dX7_isTrueOfZero_41 : decode cX7_isTrueOfZero 41 = .ok (.iconst 0, 1) := by decide +kernel
theorem dX7_isTrueOfZero_42 : decode cX7_isTrueOfZero 42 = .ok (.ireturn, 1) := by decide +kernel
theorem dX7_isTrueOfZero_43 : decode cX7_isTrueOfZero 43 = .ok (.aload_n 1, 1) := by decide +kernel
theorem dX7_isTrueOfZero_44 : decode cX7_isTrueOfZero 44 = .ok (.getfield 62, 3) := by decide +kernel
theorem dX7_isTrueOfZero_47 : decode cX7_isTrueOfZero 47 = .ok (.lconst 0, 1) := by decide +kernel
theorem dX7_isTrueOfZero_48 : decode cX7_isTrueOfZero 48 = .ok (.lcmp, 1) := by decide +kernel
theorem dX7_isTrueOfZero_49 : decode cX7_isTrueOfZero 49 = .ok (.ifCond .ge 7, 3) := by decide +kernel
theorem dX7_isTrueOfZero_52 : decode cX7_isTrueOfZero 52 = .ok (.iconst 1, 1) := by decide +kernel
theorem dX7_isTrueOfZero_53 : decode cX7_isTrueOfZero 53 = .ok (.goto 4, 3) := by decide +kernel
theorem dX7_isTrueOfZero_56 : decode cX7_isTrueOfZero 56 = .ok (.iconst 0, 1) := by decide +kernel
theorem dX7_isTrueOfZero_57 : decode cX7_isTrueOfZero 57 = .ok (.ireturn, 1) := by decide +kernel
theorem dX7_isTrueOfZero_58 : decode cX7_isTrueOfZero 58 = .ok (.aload_n 1, 1) := by decide +kernel
theorem dX7_isTrueOfZero_59 : decode cX7_isTrueOfZero 59 = .ok (.getfield 62, 3) := by decide +kernel
theorem dX7_isTrueOfZero_62 : decode cX7_isTrueOfZero 62 = .ok (.lconst 0, 1) := by decide +kernel
theorem dX7_isTrueOfZero_63 : decode cX7_isTrueOfZero 63 = .ok (.lcmp, 1) := by decide +kernel
theorem dX7_isTrueOfZero_64 : decode cX7_isTrueOfZero 64 = .ok (.ifCond .ne 7, 3) := by decide +kernel
theorem dX7_isTrueOfZero_67 : decode cX7_isTrueOfZero 67 = .ok (.iconst 1, 1) := by decide +kernel
theorem dX7_isTrueOfZero_68 : decode cX7_isTrueOfZero 68 = .ok (.goto 4, 3) := by decide +kernel
theorem dX7_isTrueOfZero_71 : decode cX7_isTrueOfZero 71 = .ok (.iconst 0, 1) := by decide +kernel
theorem dX7_isTrueOfZero_72 : decode cX7_isTrueOfZero 72 = .ok (.ireturn, 1) := by decide +kernel
set_option maxHeartbeats 4000000 in
set_option maxRecDepth 100000 in
/-- SolutionSet.isTrueOfZero -/
theorem c_X7_isTrueOfZero {l : Launch} {G : tm_G} {Hb : Heap} {sh : tm_sh} {M : tm_M} {r : Int} {q : Nat} (h0 : sh q = some (2, 0)) (hr1 : inI r) (hg : inL (mL M q 0)) : Met l yX7_isTrueOfZero (tws yX7_isTrueOfZero cX7_isTrueOfZero 2 (some .boolean)) ({ frames := 0, cells := 0, slots := 0, locals := 0 }) (va_Pc [ji r, .ref q] (tm_St G Hb sh M)) (tm_Qi G Hb sh (fun x M1 => x = tl_tz r (mL M q 0) ∧ M1 = M)) 0 0 (tm_A Hb) := by
  refine tm_begin (by decide) (Nat.le_of_ble_eq_true rfl) (fun p e s m below meth c ls hx hb hr hml hown htw hlk hnm hK hW hl => ?_)
  have hS : va_S (tm_A Hb) s.heap s.heap [] := va_S.rf
  have hl : lv_has ls 2 [(0, ji r), (1, .ref q)] := hl
  refine lv_iload_n hx hb dX7_isTrueOfZero_0 rfl (lv_at hl 0 rfl) ?_
  refine ti_lk_1_2 (td := 58) (t1 := 28) (t2 := 43) hx hb dX7_isTrueOfZero_1 (by omega) (by decide) (by decide) (by decide) (fun h1 => ?_) (fun h1 => ?_) (fun h1 => ?_)
  · refine lv_aload_n hx hb dX7_isTrueOfZero_28 rfl (lv_at hl 1 rfl) ?_
    refine gf_X7_62 hx hb htw hown hK hW (by assumption) dX7_isTrueOfZero_29 ?_
    refine ti_lconst0 hx hb dX7_isTrueOfZero_32 ?_
    refine ti_lcmp_le (tgt := 41) hx hb dX7_isTrueOfZero_33 dX7_isTrueOfZero_34 (by decide) (by omega) (by omega) (fun h33 => ?_) (fun h33 => ?_)
    · refine ti_iconst hx hb dX7_isTrueOfZero_41 ?_
      exact tm_zret hx hb hr hlk (by first | exact Or.inl rfl | exact Or.inr rfl | assumption) hK hW hS ⟨by first | (subst h1; first | exact tl_b_t (by omega) | exact tl_b_f (by omega)) | (unfold tl_tz; rw [if_neg h1.1, if_neg h1.2]; first | exact tl_b_t (by omega) | exact tl_b_f (by omega)), rfl⟩ dX7_isTrueOfZero_42
    · refine ti_iconst hx hb dX7_isTrueOfZero_37 ?_
      refine lv_goto (tgt := 42) hx hb dX7_isTrueOfZero_38 (by decide) ?_
      exact tm_zret hx hb hr hlk (by first | exact Or.inl rfl | exact Or.inr rfl | assumption) hK hW hS ⟨by first | (subst h1; first | exact tl_b_t (by omega) | exact tl_b_f (by omega)) | (unfold tl_tz; rw [if_neg h1.1, if_neg h1.2]; first | exact tl_b_t (by omega) | exact tl_b_f (by omega)), rfl⟩ dX7_isTrueOfZero_42
  · refine lv_aload_n hx hb dX7_isTrueOfZero_43 rfl (lv_at hl 1 rfl) ?_
    refine gf_X7_62 hx hb htw hown hK hW (by assumption) dX7_isTrueOfZero_44 ?_
    refine ti_lconst0 hx hb dX7_isTrueOfZero_47 ?_
    refine ti_lcmp_ge (tgt := 56) hx hb dX7_isTrueOfZero_48 dX7_isTrueOfZero_49 (by decide) (by omega) (by omega) (fun h48 => ?_) (fun h48 => ?_)
    · refine ti_iconst hx hb dX7_isTrueOfZero_56 ?_
      exact tm_zret hx hb hr hlk (by first | exact Or.inl rfl | exact Or.inr rfl | assumption) hK hW hS ⟨by first | (subst h1; first | exact tl_b_t (by omega) | exact tl_b_f (by omega)) | (unfold tl_tz; rw [if_neg h1.1, if_neg h1.2]; first | exact tl_b_t (by omega) | exact tl_b_f (by omega)), rfl⟩ dX7_isTrueOfZero_57
    · refine ti_iconst hx hb dX7_isTrueOfZero_52 ?_
      refine lv_goto (tgt := 57) hx hb dX7_isTrueOfZero_53 (by decide) ?_
      exact tm_zret hx hb hr hlk (by first | exact Or.inl rfl | exact Or.inr rfl | assumption) hK hW hS ⟨by first | (subst h1; first | exact tl_b_t (by omega) | exact tl_b_f (by omega)) | (unfold tl_tz; rw [if_neg h1.1, if_neg h1.2]; first | exact tl_b_t (by omega) | exact tl_b_f (by omega)), rfl⟩ dX7_isTrueOfZero_57
  · refine lv_aload_n hx hb dX7_isTrueOfZero_58 rfl (lv_at hl 1 rfl) ?_
    refine gf_X7_62 hx hb htw hown hK hW (by assumption) dX7_isTrueOfZero_59 ?_
    refine ti_lconst0 hx hb dX7_isTrueOfZero_62 ?_
    refine ti_lcmp_ne (tgt := 71) hx hb dX7_isTrueOfZero_63 dX7_isTrueOfZero_64 (by decide) (by omega) (by omega) (fun h63 => ?_) (fun h63 => ?_)
    · refine ti_iconst hx hb dX7_isTrueOfZero_71 ?_
      exact tm_zret hx hb hr hlk (by first | exact Or.inl rfl | exact Or.inr rfl | assumption) hK hW hS ⟨by first | (subst h1; first | exact tl_b_t (by omega) | exact tl_b_f (by omega)) | (unfold tl_tz; rw [if_neg h1.1, if_neg h1.2]; first | exact tl_b_t (by omega) | exact tl_b_f (by omega)), rfl⟩ dX7_isTrueOfZero_72
    · refine ti_iconst hx hb dX7_isTrueOfZero_67 ?_
      refine lv_goto (tgt := 72) hx hb dX7_isTrueOfZero_68 (by decide) ?_
      exact tm_zret hx hb hr hlk (by first | exact Or.inl rfl | exact Or.inr rfl | assumption) hK hW hS ⟨by first | (subst h1; first | exact tl_b_t (by omega) | exact tl_b_f (by omega)) | (unfold tl_tz; rw [if_neg h1.1, if_neg h1.2]; first | exact tl_b_t (by omega) | exact tl_b_f (by omega)), rfl⟩ dX7_isTrueOfZero_72
theorem dX7_hasPlace_0 : decode cX7_hasPlace 0 = .ok (.aload_n 0, 1) := by decide +kernel
theorem dX7_hasPlace_1 : decode cX7_hasPlace 1 = .ok (.getfield 52, 3) := by decide +kernel
theorem dX7_hasPlace_4 : decode cX7_hasPlace 4 = .ok (.iconst 2, 1) := by decide +kernel
theorem dX7_hasPlace_5 : decode cX7_hasPlace 5 = .ok (.if_icmp .lt 7, 3) := by decide +kernel
theorem dX7_hasPlace_8 : decode cX7_hasPlace 8 = .ok (.iconst 1, 1) := by decide +kernel
theorem dX7_hasPlace_9 : decode cX7_hasPlace 9 = .ok (.goto 4, 3) := by decide +kernel
theorem dX7_hasPlace_12 : decode cX7_hasPlace 12 = .ok (.iconst 0, 1) := by decide +kernel
theorem dX7_hasPlace_13 : decode cX7_hasPlace 13 = .ok (.ireturn, 1) := by decide +kernel
set_option maxHeartbeats 4000000 in
set_option maxRecDepth 100000 in
/-- SolutionSet.hasPlace -/
theorem c_X7_hasPlace {l : Launch} {G : tm_G} {Hb : Heap} {sh : tm_sh} {M : tm_M} {q : Nat} (h0 : sh q = some (7, 0)) (hk : inI (mI M q 0)) : Met l yX7_hasPlace (tws yX7_hasPlace cX7_hasPlace 1 (some .boolean)) ({ frames := 0, cells := 0, slots := 0, locals := 0 }) (va_Pc [.ref q] (tm_St G Hb sh M)) (tm_Qi G Hb sh (fun x M1 => x = tl_b (2 ≤ mI M q 0) ∧ M1 = M)) 0 0 (tm_A Hb) := by
  refine tm_begin (by decide) (Nat.le_of_ble_eq_true rfl) (fun p e s m below meth c ls hx hb hr hml hown htw hlk hnm hK hW hl => ?_)
  have hS : va_S (tm_A Hb) s.heap s.heap [] := va_S.rf
  have hl : lv_has ls 1 [(0, .ref q)] := hl
  refine lv_aload_n hx hb dX7_hasPlace_0 rfl (lv_at hl 0 rfl) ?_
  refine gf_X7_52 hx hb htw hown hK hW (by assumption) dX7_hasPlace_1 ?_
  refine ti_iconst hx hb dX7_hasPlace_4 ?_
  refine ti_icmp_lt (tgt := 12) hx hb dX7_hasPlace_5 (by decide) (by omega) (by omega) (fun h5 => ?_) (fun h5 => ?_)
  · refine ti_iconst hx hb dX7_hasPlace_12 ?_
    exact tm_zret hx hb hr hlk (by first | exact Or.inl rfl | exact Or.inr rfl | assumption) hK hW hS ⟨by first | exact tl_b_t (by omega) | exact tl_b_f (by omega), rfl⟩ dX7_hasPlace_13
  · refine ti_iconst hx hb dX7_hasPlace_8 ?_
    refine lv_goto (tgt := 13) hx hb dX7_hasPlace_9 (by decide) ?_
    exact tm_zret hx hb hr hlk (by first | exact Or.inl rfl | exact Or.inr rfl | assumption) hK hW hS ⟨by first | exact tl_b_t (by omega) | exact tl_b_f (by omega), rfl⟩ dX7_hasPlace_13
theorem dX7_find_0 : decode cX7_find 0 = .ok (.aload_n 0, 1) := by decide +kernel
theorem dX7_find_1 : decode cX7_find 1 = .ok (.getfield 16, 3) := by decide +kernel
theorem dX7_find_4 : decode cX7_find 4 = .ok (.aload_n 1, 1) := by decide +kernel
theorem dX7_find_5 : decode cX7_find 5 = .ok (.getfield 19, 3) := by decide +kernel
theorem dX7_find_8 : decode cX7_find 8 = .ok (.getfield 25, 3) := by decide +kernel
theorem dX7_find_11 : decode cX7_find 11 = .ok (.aload_n 1, 1) := by decide +kernel
theorem dX7_find_12 : decode cX7_find 12 = .ok (.getfield 30, 3) := by decide +kernel
theorem dX7_find_15 : decode cX7_find 15 = .ok (.getfield 25, 3) := by decide +kernel
theorem dX7_find_18 : decode cX7_find 18 = .ok (.invokevirtual 33, 3) := by decide +kernel
theorem dX7_find_21 : decode cX7_find 21 = .ok (.aload_n 0, 1) := by decide +kernel
theorem dX7_find_22 : decode cX7_find 22 = .ok (.getfield 10, 3) := by decide +kernel
theorem dX7_find_25 : decode cX7_find 25 = .ok (.aload_n 1, 1) := by decide +kernel
theorem dX7_find_26 : decode cX7_find 26 = .ok (.getfield 30, 3) := by decide +kernel
theorem dX7_find_29 : decode cX7_find 29 = .ok (.getfield 37, 3) := by decide +kernel
theorem dX7_find_32 : decode cX7_find 32 = .ok (.aload_n 1, 1) := by decide +kernel
theorem dX7_find_33 : decode cX7_find 33 = .ok (.getfield 19, 3) := by decide +kernel
theorem dX7_find_36 : decode cX7_find 36 = .ok (.getfield 37, 3) := by decide +kernel
theorem dX7_find_39 : decode cX7_find 39 = .ok (.invokevirtual 33, 3) := by decide +kernel
theorem dX7_find_42 : decode cX7_find 42 = .ok (.aload_n 0, 1) := by decide +kernel
theorem dX7_find_43 : decode cX7_find 43 = .ok (.getfield 16, 3) := by decide +kernel
theorem dX7_find_46 : decode cX7_find 46 = .ok (.invokevirtual 40, 3) := by decide +kernel
theorem dX7_find_49 : decode cX7_find 49 = .ok (.ifCond .eq 35, 3) := by decide +kernel
theorem dX7_find_52 : decode cX7_find 52 = .ok (.aload_n 0, 1) := by decide +kernel
theorem dX7_find_53 : decode cX7_find 53 = .ok (.aload_n 1, 1) := by decide +kernel
theorem dX7_find_54 : decode cX7_find 54 = .ok (.getfield 44, 3) := by decide +kernel
theorem dX7_find_57 : decode cX7_find 57 = .ok (.aload_n 0, 1) := by decide +kernel
theorem dX7_find_58 : decode cX7_find 58 = .ok (.getfield 10, 3) := by decide +kernel
theorem dX7_find_61 : decode cX7_find 61 = .ok (.invokestatic 48, 3) := by decide +kernel
theorem dX7_find_64 : decode cX7_find 64 = .ok (.ifCond .eq 7, 3) := by decide +kernel
theorem dX7_find_67 : decode cX7_find 67 = .ok (.iconst 1, 1) := by decide +kernel
theorem dX7_find_68 : decode cX7_find 68 = .ok (.goto 4, 3) := by decide +kernel
theorem dX7_find_71 : decode cX7_find 71 = .ok (.iconst 0, 1) := by decide +kernel
theorem dX7_find_72 : decode cX7_find 72 = .ok (.putfield 52, 3) := by decide +kernel
theorem dX7_find_75 : decode cX7_find 75 = .ok (.aload_n 0, 1) := by decide +kernel
theorem dX7_find_76 : decode cX7_find 76 = .ok (.getfield 10, 3) := by decide +kernel
theorem dX7_find_79 : decode cX7_find 79 = .ok (.lconst 0, 1) := by decide +kernel
theorem dX7_find_80 : decode cX7_find 80 = .ok (.invokevirtual 55, 3) := by decide +kernel
theorem dX7_find_83 : decode cX7_find 83 = .ok (.return_, 1) := by decide +kernel
theorem dX7_find_84 : decode cX7_find 84 = .ok (.aload_n 0, 1) := by decide +kernel
theorem dX7_find_85 : decode cX7_find 85 = .ok (.getfield 10, 3) := by decide +kernel
theorem dX7_find_88 : decode cX7_find 88 = .ok (.aload_n 0, 1) := by decide +kernel
theorem dX7_find_89 : decode cX7_find 89 = .ok (.getfield 10, 3) := by decide +kernel
theorem dX7_find_92 : decode cX7_find 92 = .ok (.aload_n 0, 1) := by decide +kernel
theorem dX7_find_93 : decode cX7_find 93 = .ok (.getfield 16, 3) := by decide +kernel
theorem dX7_find_96 : decode cX7_find 96 = .ok (.invokevirtual 59, 3) := by decide +kernel
theorem dX7_find_99 : decode cX7_find 99 = .ok (.aload_n 1, 1) := by decide +kernel
theorem dX7_find_100 : decode cX7_find 100 = .ok (.getfield 44, 3) := by decide +kernel
theorem dX7_find_103 : decode cX7_find 103 = .ok (.ifCond .ne 11, 3) := by decide +kernel
theorem dX7_find_106 : decode cX7_find 106 = .ok (.aload_n 0, 1) := by decide +kernel
theorem dX7_find_107 : decode cX7_find 107 = .ok (.iconst 2, 1) := by decide +kernel
theorem dX7_find_108 : decode cX7_find 108 = .ok (.putfield 52, 3) := by decide +kernel
theorem dX7_find_111 : decode cX7_find 111 = .ok (.goto 45, 3) := by decide +kernel
theorem dX7_find_114 : decode cX7_find 114 = .ok (.aload_n 0, 1) := by decide +kernel
theorem dX7_find_115 : decode cX7_find 115 = .ok (.aload_n 1, 1) := by decide +kernel
theorem dX7_find_116 : decode cX7_find 116 = .ok (.getfield 44, 3) := by decide +kernel
theorem dX7_find_119 : decode cX7_find 119 = .ok (.iconst 1, 1) := by decide +kernel
theorem dX7_find_120 : decode cX7_find 120 = .ok (.if_icmp .ne 7, 3) := by decide +kernel
theorem dX7_find_123 : decode cX7_find 123 = .ok (.iconst 1, 1) := by decide +kernel
theorem dX7_find_124 : decode cX7_find 124 = .ok (.goto 4, 3) := by decide +kernel
theorem dX7_find_127 : decode cX7_find 127 = .ok (.iconst 0, 1) := by decide +kernel
theorem dX7_find_128 : decode cX7_find 128 = .ok (.aload_n 0, 1) := by decide +kernel
theorem dX7_find_129 : decode cX7_find 129 = .ok (.getfield 16, 3) := by decide +kernel
theorem dX7_find_132 : decode cX7_find 132 = .ok (.getfield 62, 3) := by decide +kernel
theorem dX7_find_135 : decode cX7_find 135 = .ok (.lconst 0, 1) := by decide +kernel
theorem dX7_find_136 : decode cX7_find 136 = .ok (.lcmp, 1) := by decide +kernel
theorem dX7_find_137 : decode cX7_find 137 = .ok (.ifCond .le 7, 3) := by decide +kernel
theorem dX7_find_140 : decode cX7_find 140 = .ok (.iconst 1, 1) := by decide +kernel
theorem dX7_find_141 : decode cX7_find 141 = .ok (.goto 4, 3) := by decide +kernel
theorem dX7_find_144 : decode cX7_find 144 = .ok (.iconst 0, 1) := by decide +kernel
theorem dX7_find_145 : decode cX7_find 145 = .ok (.if_icmp .ne 7, 3) := by decide +kernel
theorem dX7_find_148 : decode cX7_find 148 = .ok (.iconst 3, 1) := by decide +kernel
theorem dX7_find_149 : decode cX7_find 149 = .ok (.goto 4, 3) := by decide +kernel
theorem dX7_find_152 : decode cX7_find 152 = .ok (.iconst 4, 1) := by decide +kernel
theorem dX7_find_153 : decode cX7_find 153 = .ok (.putfield 52, 3) := by decide +kernel
theorem dX7_find_156 : decode cX7_find 156 = .ok (.return_, 1) := by decide +kernel
set_option maxHeartbeats 4000000 in
set_option maxRecDepth 100000 in
/-- SolutionSet.find -/
theorem c_X7_find {l : Launch} {G : tm_G} {Hb : Heap} {sh : tm_sh} {M : tm_M} {q o : Nat} (hs : isSo sh M q) (ht : isLn sh M o) (hne : o + 7 ≤ q ∨ q + 3 ≤ o) (hv : lok (ln M o)) : Met l yX7_find (tws yX7_find cX7_find 2 none) ({ frames := 3, cells := 0, slots := 0, locals := 75 }) (va_Pc [.ref q, .ref o] (tm_St G Hb sh M)) (tm_Qv G Hb sh (fun M1 => (mI M1 q 0, fr M1 (q + 1)) = tl_solve (ln M o) ∧ tm_fr q (q + 3) M M1)) 0 0 (tm_A Hb) := by
  refine tm_begin (by decide) (Nat.le_of_ble_eq_true rfl) (fun p e s m below meth c ls hx hb hr hml hown htw hlk hnm hK hW hl => ?_)
  have hS : va_S (tm_A Hb) s.heap s.heap [] := va_S.rf
  have hl : lv_has ls 2 [(0, .ref q), (1, .ref o)] := hl
  obtain ⟨s0, s1, s2, s3, s4⟩ := hs
  obtain ⟨t0, t1, t2, ⟨t3, t4, t5, t6, t7⟩, ⟨u3, u4, u5, u6, u7⟩⟩ := ht
  obtain ⟨⟨hA, hB⟩, ⟨hC, hD⟩, hR1, hR2⟩ := hv
  have dS : (tl_sl (ln M o)).1.natAbs ≤ 199960002 ∧ (tl_sl (ln M o)).2.natAbs ≤ 99980001 ∧ 0 < (tl_sl (ln M o)).2 ∧ _ := tl_fsub_bd hA hC
  have dP : (tl_pl (ln M o)).1.natAbs ≤ 199960002 ∧ (tl_pl (ln M o)).2.natAbs ≤ 99980001 ∧ 0 < (tl_pl (ln M o)).2 ∧ _ := tl_fsub_bd hD hB
  have eS : tl_sl (ln M o) = fsub (fr M (o + 2)) (fr M (o + 5)) := rfl
  have eP : tl_pl (ln M o) = fsub (fr M (o + 6)) (fr M (o + 3)) := rfl
  refine lv_aload_n hx hb dX7_find_0 rfl (lv_at hl 0 rfl) ?_
  refine gf_X7_16 hx hb htw hown hK hW (by assumption) (by assumption) dX7_find_1 ?_
  refine lv_aload_n hx hb dX7_find_4 rfl (lv_at hl 1 rfl) ?_
  refine gf_X7_19 hx hb htw hown hK hW (by assumption) (by assumption) dX7_find_5 ?_
  refine gf_X7_25 hx hb htw hown hK hW (by assumption) (by assumption) dX7_find_8 ?_
  refine lv_aload_n hx hb dX7_find_11 rfl (lv_at hl 1 rfl) ?_
  refine gf_X7_30 hx hb htw hown hK hW (by assumption) (by assumption) dX7_find_12 ?_
  refine gf_X7_25 hx hb htw hown hK hW (by assumption) (by assumption) dX7_find_15 ?_
  refine tm_callv (cs_X7_33 hx hb hml hown htw hK hW (by assumption) (v_setDifference (f := fr M (o + 2)) (g := fr M (o + 5)) (by assumption) (by assumption) (by assumption) rfl rfl hA hC) ⟨rfl, rfl, Nat.le_of_ble_eq_true rfl, Nat.le_of_ble_eq_true rfl⟩ hl.1 (Nat.le_of_ble_eq_true rfl) dX7_find_18 ⟨Nat.le_of_ble_eq_true rfl, Nat.le_of_ble_eq_true rfl⟩) hS (fun M18 H locs hp18 hW hS => ?_)
  rw [hp18, ← eS] at hW
  refine lv_aload_n hx hb dX7_find_21 rfl (lv_at hl 0 rfl) ?_
  refine gf_X7_10 hx hb htw hown hK hW (by assumption) (by assumption) dX7_find_22 ?_
  refine lv_aload_n hx hb dX7_find_25 rfl (lv_at hl 1 rfl) ?_
  refine gf_X7_30 hx hb htw hown hK hW (by assumption) (by assumption) dX7_find_26 ?_
  refine gf_X7_37 hx hb htw hown hK hW (by assumption) (by assumption) dX7_find_29 ?_
  refine lv_aload_n hx hb dX7_find_32 rfl (lv_at hl 1 rfl) ?_
  refine gf_X7_19 hx hb htw hown hK hW (by assumption) (by assumption) dX7_find_33 ?_
  refine gf_X7_37 hx hb htw hown hK hW (by assumption) (by assumption) dX7_find_36 ?_
  refine tm_callv (cs_X7_33 hx hb hml hown htw hK hW (by assumption) (v_setDifference (f := fr M (o + 6)) (g := fr M (o + 3)) (by assumption) (by assumption) (by assumption) (fr_n M _ (by omega)) (fr_n M _ (by omega)) hD hB) ⟨rfl, rfl, Nat.le_of_ble_eq_true rfl, Nat.le_of_ble_eq_true rfl⟩ hl.1 (Nat.le_of_ble_eq_true rfl) dX7_find_39 ⟨Nat.le_of_ble_eq_true rfl, Nat.le_of_ble_eq_true rfl⟩) hS (fun M39 H locs hp39 hW hS => ?_)
  rw [hp39, ← eP] at hW
  have eq2 : fr (fS (fS M (q + 2) (tl_sl (ln M o))) (q + 1) (tl_pl (ln M o))) (q + 2) = tl_sl (ln M o) := (fr_n _ _ (by omega)).trans (fr_s _ _ _)
  have eq1 : fr (fS (fS M (q + 2) (tl_sl (ln M o))) (q + 1) (tl_pl (ln M o))) (q + 1) = tl_pl (ln M o) := fr_s _ _ _
  have f0 : tm_fr q (q + 3) M (fS (fS M (q + 2) (tl_sl (ln M o))) (q + 1) (tl_pl (ln M o))) := fw_tr (fw_fS _ (by omega) (by omega)) (fw_fS _ (by omega) (by omega))
  generalize hM2 : fS (fS M (q + 2) (tl_sl (ln M o))) (q + 1) (tl_pl (ln M o)) = M2 at hW eq1 eq2 f0
  have eq20 : mL M2 (q + 2) 0 = (tl_sl (ln M o)).1 := congrArg Prod.fst eq2
  have eq10 : mL M2 (q + 1) 0 = (tl_pl (ln M o)).1 := congrArg Prod.fst eq1
  have er : mI M2 o 2 = (ln M o).2.2 := (f0.2 o 2 (by omega)).1
  have hR1 : 0 ≤ mI M2 o 2 := by rw [er]; exact hR1
  have hR2 : mI M2 o 2 ≤ 2 := by rw [er]; exact hR2
  have em := f0.1
  have s1 : mR M2 q 1 = some (q + 1) := by rw [em]; exact s1
  have s2 : mR M2 q 2 = some (q + 2) := by rw [em]; exact s2
  refine lv_aload_n hx hb dX7_find_42 rfl (lv_at hl 0 rfl) ?_
  refine gf_X7_16 hx hb htw hown hK hW (by assumption) (by assumption) dX7_find_43 ?_
  refine tm_calli (cs_X7_40 hx hb hml hown htw hK hW (by assumption) (c_X0_isZero (by assumption) (by rw [eq20]; omega)) ⟨rfl, rfl, Nat.le_of_ble_eq_true rfl, Nat.le_of_ble_eq_true rfl⟩ hl.1 (Nat.le_of_ble_eq_true rfl) dX7_find_46 ⟨Nat.le_of_ble_eq_true rfl, Nat.le_of_ble_eq_true rfl⟩) hS (fun x46 M46 H locs hp46 hW hS => ?_)
  obtain ⟨ex46, eM46⟩ := hp46
  rw [eM46] at hW
  rw [ex46]
  refine ti_if_eq (tgt := 84) hx hb dX7_find_49 (by decide) (tl_b_r _) (fun h49 => ?_) (fun h49 => ?_)
  · have hz := tl_b_0.mp h49
    have hz1 : ¬ (tl_sl (ln M o)).1 = 0 := by rw [← eq20]; exact hz
    have wq : mL M2 (q + 1) 1 * mL M2 (q + 2) 0 ≠ 0 ∧ (mL M2 (q + 1) 0 * mL M2 (q + 2) 1).natAbs ≤ 4611686018427387904 ∧ (mL M2 (q + 1) 1 * mL M2 (q + 2) 0).natAbs ≤ 4611686018427387904 := by
      have w := tl_quo_bd (f := fr M2 (q + 1)) (g := fr M2 (q + 2)) (by rw [eq1]; exact ⟨dP.1, dP.2.1, dP.2.2.1⟩) (by rw [eq2]; exact ⟨dS.1, dS.2.1, dS.2.2.1⟩) hz
      exact ⟨w.1, Nat.le_trans w.2.1 (by decide), Nat.le_trans w.2.2 (by decide)⟩
    refine lv_aload_n hx hb dX7_find_84 rfl (lv_at hl 0 rfl) ?_
    refine gf_X7_10 hx hb htw hown hK hW (by assumption) (by assumption) dX7_find_85 ?_
    refine lv_aload_n hx hb dX7_find_88 rfl (lv_at hl 0 rfl) ?_
    refine gf_X7_10 hx hb htw hown hK hW (by assumption) (by assumption) dX7_find_89 ?_
    refine lv_aload_n hx hb dX7_find_92 rfl (lv_at hl 0 rfl) ?_
    refine gf_X7_16 hx hb htw hown hK hW (by assumption) (by assumption) dX7_find_93 ?_
    refine tm_callv (cs_X7_59 hx hb hml hown htw hK hW (by assumption) (c_X0_setQuotient (by assumption) (by assumption) (by assumption) wq.1 wq.2.1 wq.2.2) ⟨rfl, rfl, Nat.le_of_ble_eq_true rfl, Nat.le_of_ble_eq_true rfl⟩ hl.1 (Nat.le_of_ble_eq_true rfl) dX7_find_96 ⟨Nat.le_of_ble_eq_true rfl, Nat.le_of_ble_eq_true rfl⟩) hS (fun M96 H locs hp96 hW hS => ?_)
    rw [hp96] at hW
    have f1 : tm_fr q (q + 3) M (fS M2 (q + 1) (tl_norm (mL M2 (q + 1) 0 * mL M2 (q + 2) 1) (mL M2 (q + 1) 1 * mL M2 (q + 2) 0))) := fw_tr f0 (fw_fS _ (by omega) (by omega))
    have eq3 : fr (fS M2 (q + 1) (tl_norm (mL M2 (q + 1) 0 * mL M2 (q + 2) 1) (mL M2 (q + 1) 1 * mL M2 (q + 2) 0))) (q + 1) = fdiv (tl_pl (ln M o)) (tl_sl (ln M o)) := by rw [fr_s, ← eq1, ← eq2]
    have e30 : mL (fS M2 (q + 1) (tl_norm (mL M2 (q + 1) 0 * mL M2 (q + 2) 1) (mL M2 (q + 1) 1 * mL M2 (q + 2) 0))) (q + 2) 0 = (tl_sl (ln M o)).1 := (fL_n _ _ (by omega)).trans eq20
    have er3 : mI (fS M2 (q + 1) (tl_norm (mL M2 (q + 1) 0 * mL M2 (q + 2) 1) (mL M2 (q + 1) 1 * mL M2 (q + 2) 0))) o 2 = (ln M o).2.2 := er
    have em3 := f1.1
    generalize fS M2 (q + 1) (tl_norm (mL M2 (q + 1) 0 * mL M2 (q + 2) 1) (mL M2 (q + 1) 1 * mL M2 (q + 2) 0)) = M3 at hW f1 eq3 e30 er3 em3
    have s1 : mR M3 q 1 = some (q + 1) := by rw [em3, ← em]; exact s1
    have s2 : mR M3 q 2 = some (q + 2) := by rw [em3, ← em]; exact s2
    refine lv_aload_n hx hb dX7_find_99 rfl (lv_at hl 1 rfl) ?_
    refine gf_X7_44 hx hb htw hown hK hW (by assumption) dX7_find_100 ?_
    refine ti_if_ne (tgt := 114) hx hb dX7_find_103 (by decide) (by omega) (fun h103 => ?_) (fun h103 => ?_)
    · refine lv_aload_n hx hb dX7_find_114 rfl (lv_at hl 0 rfl) ?_
      refine lv_aload_n hx hb dX7_find_115 rfl (lv_at hl 1 rfl) ?_
      refine gf_X7_44 hx hb htw hown hK hW (by assumption) dX7_find_116 ?_
      refine ti_iconst hx hb dX7_find_119 ?_
      refine ti_icmp_ne (tgt := 127) hx hb dX7_find_120 (by decide) (by omega) (by omega) (fun h120 => ?_) (fun h120 => ?_)
      · refine ti_iconst hx hb dX7_find_127 ?_
        refine lv_aload_n hx hb dX7_find_128 rfl (lv_at hl 0 rfl) ?_
        refine gf_X7_16 hx hb htw hown hK hW (by assumption) (by assumption) dX7_find_129 ?_
        refine gf_X7_62 hx hb htw hown hK hW (by assumption) dX7_find_132 ?_
        refine ti_lconst0 hx hb dX7_find_135 ?_
        refine ti_lcmp_le (tgt := 144) hx hb dX7_find_136 dX7_find_137 (by decide) (by omega) (by omega) (fun h136 => ?_) (fun h136 => ?_)
        · refine ti_iconst hx hb dX7_find_144 ?_
          refine ti_icmp_ne (tgt := 152) hx hb dX7_find_145 (by decide) (by omega) (by omega) (fun h145 => ?_) (fun h145 => ?_)
          · refine ti_iconst hx hb dX7_find_152 ?_
            refine pf_X7_52 hx hb htw hown hK hW (by assumption) hS dX7_find_153 (fun H locs hW hS => ?_)
            exact tm_vret hx hb hr hlk hK hW hS (by first | exact absurd h145 (by decide) | exact tl_ff eq3 f1 (by rw [tl_solve, if_neg hz1, if_pos (by omega)]) | exact tl_ff eq3 f1 (by rw [tl_solve, if_neg hz1, if_neg (by omega), if_pos (by omega)]) | exact tl_ff eq3 f1 (by rw [tl_solve, if_neg hz1, if_neg (by omega), if_neg (by omega)])) dX7_find_156
          · refine ti_iconst hx hb dX7_find_148 ?_
            refine lv_goto (tgt := 153) hx hb dX7_find_149 (by decide) ?_
            refine pf_X7_52 hx hb htw hown hK hW (by assumption) hS dX7_find_153 (fun H locs hW hS => ?_)
            exact tm_vret hx hb hr hlk hK hW hS (by first | exact absurd h145 (by decide) | exact tl_ff eq3 f1 (by rw [tl_solve, if_neg hz1, if_pos (by omega)]) | exact tl_ff eq3 f1 (by rw [tl_solve, if_neg hz1, if_neg (by omega), if_pos (by omega)]) | exact tl_ff eq3 f1 (by rw [tl_solve, if_neg hz1, if_neg (by omega), if_neg (by omega)])) dX7_find_156
        · refine ti_iconst hx hb dX7_find_140 ?_
          refine lv_goto (tgt := 145) hx hb dX7_find_141 (by decide) ?_
          refine ti_icmp_ne (tgt := 152) hx hb dX7_find_145 (by decide) (by omega) (by omega) (fun h145 => ?_) (fun h145 => ?_)
          · refine ti_iconst hx hb dX7_find_152 ?_
            refine pf_X7_52 hx hb htw hown hK hW (by assumption) hS dX7_find_153 (fun H locs hW hS => ?_)
            exact tm_vret hx hb hr hlk hK hW hS (by first | exact absurd h145 (by decide) | exact tl_ff eq3 f1 (by rw [tl_solve, if_neg hz1, if_pos (by omega)]) | exact tl_ff eq3 f1 (by rw [tl_solve, if_neg hz1, if_neg (by omega), if_pos (by omega)]) | exact tl_ff eq3 f1 (by rw [tl_solve, if_neg hz1, if_neg (by omega), if_neg (by omega)])) dX7_find_156
          · refine ti_iconst hx hb dX7_find_148 ?_
            refine lv_goto (tgt := 153) hx hb dX7_find_149 (by decide) ?_
            refine pf_X7_52 hx hb htw hown hK hW (by assumption) hS dX7_find_153 (fun H locs hW hS => ?_)
            exact tm_vret hx hb hr hlk hK hW hS (by first | exact absurd h145 (by decide) | exact tl_ff eq3 f1 (by rw [tl_solve, if_neg hz1, if_pos (by omega)]) | exact tl_ff eq3 f1 (by rw [tl_solve, if_neg hz1, if_neg (by omega), if_pos (by omega)]) | exact tl_ff eq3 f1 (by rw [tl_solve, if_neg hz1, if_neg (by omega), if_neg (by omega)])) dX7_find_156
      · refine ti_iconst hx hb dX7_find_123 ?_
        refine lv_goto (tgt := 128) hx hb dX7_find_124 (by decide) ?_
        refine lv_aload_n hx hb dX7_find_128 rfl (lv_at hl 0 rfl) ?_
        refine gf_X7_16 hx hb htw hown hK hW (by assumption) (by assumption) dX7_find_129 ?_
        refine gf_X7_62 hx hb htw hown hK hW (by assumption) dX7_find_132 ?_
        refine ti_lconst0 hx hb dX7_find_135 ?_
        refine ti_lcmp_le (tgt := 144) hx hb dX7_find_136 dX7_find_137 (by decide) (by omega) (by omega) (fun h136 => ?_) (fun h136 => ?_)
        · refine ti_iconst hx hb dX7_find_144 ?_
          refine ti_icmp_ne (tgt := 152) hx hb dX7_find_145 (by decide) (by omega) (by omega) (fun h145 => ?_) (fun h145 => ?_)
          · refine ti_iconst hx hb dX7_find_152 ?_
            refine pf_X7_52 hx hb htw hown hK hW (by assumption) hS dX7_find_153 (fun H locs hW hS => ?_)
            exact tm_vret hx hb hr hlk hK hW hS (by first | exact absurd h145 (by decide) | exact tl_ff eq3 f1 (by rw [tl_solve, if_neg hz1, if_pos (by omega)]) | exact tl_ff eq3 f1 (by rw [tl_solve, if_neg hz1, if_neg (by omega), if_pos (by omega)]) | exact tl_ff eq3 f1 (by rw [tl_solve, if_neg hz1, if_neg (by omega), if_neg (by omega)])) dX7_find_156
          · refine ti_iconst hx hb dX7_find_148 ?_
            refine lv_goto (tgt := 153) hx hb dX7_find_149 (by decide) ?_
            refine pf_X7_52 hx hb htw hown hK hW (by assumption) hS dX7_find_153 (fun H locs hW hS => ?_)
            exact tm_vret hx hb hr hlk hK hW hS (by first | exact absurd h145 (by decide) | exact tl_ff eq3 f1 (by rw [tl_solve, if_neg hz1, if_pos (by omega)]) | exact tl_ff eq3 f1 (by rw [tl_solve, if_neg hz1, if_neg (by omega), if_pos (by omega)]) | exact tl_ff eq3 f1 (by rw [tl_solve, if_neg hz1, if_neg (by omega), if_neg (by omega)])) dX7_find_156
        · refine ti_iconst hx hb dX7_find_140 ?_
          refine lv_goto (tgt := 145) hx hb dX7_find_141 (by decide) ?_
          refine ti_icmp_ne (tgt := 152) hx hb dX7_find_145 (by decide) (by omega) (by omega) (fun h145 => ?_) (fun h145 => ?_)
          · refine ti_iconst hx hb dX7_find_152 ?_
            refine pf_X7_52 hx hb htw hown hK hW (by assumption) hS dX7_find_153 (fun H locs hW hS => ?_)
            exact tm_vret hx hb hr hlk hK hW hS (by first | exact absurd h145 (by decide) | exact tl_ff eq3 f1 (by rw [tl_solve, if_neg hz1, if_pos (by omega)]) | exact tl_ff eq3 f1 (by rw [tl_solve, if_neg hz1, if_neg (by omega), if_pos (by omega)]) | exact tl_ff eq3 f1 (by rw [tl_solve, if_neg hz1, if_neg (by omega), if_neg (by omega)])) dX7_find_156
          · refine ti_iconst hx hb dX7_find_148 ?_
            refine lv_goto (tgt := 153) hx hb dX7_find_149 (by decide) ?_
            refine pf_X7_52 hx hb htw hown hK hW (by assumption) hS dX7_find_153 (fun H locs hW hS => ?_)
            exact tm_vret hx hb hr hlk hK hW hS (by first | exact absurd h145 (by decide) | exact tl_ff eq3 f1 (by rw [tl_solve, if_neg hz1, if_pos (by omega)]) | exact tl_ff eq3 f1 (by rw [tl_solve, if_neg hz1, if_neg (by omega), if_pos (by omega)]) | exact tl_ff eq3 f1 (by rw [tl_solve, if_neg hz1, if_neg (by omega), if_neg (by omega)])) dX7_find_156
    · refine lv_aload_n hx hb dX7_find_106 rfl (lv_at hl 0 rfl) ?_
      refine ti_iconst hx hb dX7_find_107 ?_
      refine pf_X7_52 hx hb htw hown hK hW (by assumption) hS dX7_find_108 (fun H locs hW hS => ?_)
      refine lv_goto (tgt := 156) hx hb dX7_find_111 (by decide) ?_
      exact tm_vret hx hb hr hlk hK hW hS (by first | exact absurd h145 (by decide) | exact tl_ff eq3 f1 (by rw [tl_solve, if_neg hz1, if_pos (by omega)]) | exact tl_ff eq3 f1 (by rw [tl_solve, if_neg hz1, if_neg (by omega), if_pos (by omega)]) | exact tl_ff eq3 f1 (by rw [tl_solve, if_neg hz1, if_neg (by omega), if_neg (by omega)])) dX7_find_156
  · have hz := tl_b_n.mp h49
    have hz1 : (tl_sl (ln M o)).1 = 0 := by rw [← eq20]; exact hz
    refine lv_aload_n hx hb dX7_find_52 rfl (lv_at hl 0 rfl) ?_
    refine lv_aload_n hx hb dX7_find_53 rfl (lv_at hl 1 rfl) ?_
    refine gf_X7_44 hx hb htw hown hK hW (by assumption) dX7_find_54 ?_
    refine lv_aload_n hx hb dX7_find_57 rfl (lv_at hl 0 rfl) ?_
    refine gf_X7_10 hx hb htw hown hK hW (by assumption) (by assumption) dX7_find_58 ?_
    refine tm_calli (cs_X7_48 hx hb hml hown htw hK hW (c_X7_isTrueOfZero (by assumption) (by omega) (by rw [eq10]; omega)) ⟨rfl, rfl, Nat.le_of_ble_eq_true rfl, Nat.le_of_ble_eq_true rfl⟩ hl.1 (Nat.le_of_ble_eq_true rfl) dX7_find_61 ⟨Nat.le_of_ble_eq_true rfl, Nat.le_of_ble_eq_true rfl⟩) hS (fun x61 M61 H locs hp61 hW hS => ?_)
    obtain ⟨ex61, eM61⟩ := hp61
    rw [eM61] at hW
    rw [ex61]
    refine ti_if_eq (tgt := 71) hx hb dX7_find_64 (by decide) (by rcases tl_tz_z (mI M2 o 2) (mL M2 (q + 1) 0) with z | z <;> omega) (fun h64 => ?_) (fun h64 => ?_)
    · refine ti_iconst hx hb dX7_find_71 ?_
      refine pf_X7_52 hx hb htw hown hK hW (by assumption) hS dX7_find_72 (fun H locs hW hS => ?_)
      refine lv_aload_n hx hb dX7_find_75 rfl (lv_at hl 0 rfl) ?_
      refine gf_X7_10 hx hb htw hown hK hW (by assumption) (by assumption) dX7_find_76 ?_
      refine ti_lconst0 hx hb dX7_find_79 ?_
      refine tm_callv (cs_X7_55 hx hb hml hown htw hK hW (by assumption) (c_X0_setWhole (by assumption)) ⟨rfl, rfl, Nat.le_of_ble_eq_true rfl, Nat.le_of_ble_eq_true rfl⟩ hl.1 (Nat.le_of_ble_eq_true rfl) dX7_find_80 ⟨Nat.le_of_ble_eq_true rfl, Nat.le_of_ble_eq_true rfl⟩) hS (fun M80 H locs hp80 hW hS => ?_)
      rw [hp80] at hW
      exact tm_vret hx hb hr hlk hK hW hS (tl_ff0 f0 (by first | (rw [tl_solve, if_pos hz1, ← er, ← eq10]; rcases tl_tz_z (mI M2 o 2) (mL M2 (q + 1) 0) with z | z <;> first | exact absurd z h64 | rw [h64] | rw [z]))) dX7_find_83
    · refine ti_iconst hx hb dX7_find_67 ?_
      refine lv_goto (tgt := 72) hx hb dX7_find_68 (by decide) ?_
      refine pf_X7_52 hx hb htw hown hK hW (by assumption) hS dX7_find_72 (fun H locs hW hS => ?_)
      refine lv_aload_n hx hb dX7_find_75 rfl (lv_at hl 0 rfl) ?_
      refine gf_X7_10 hx hb htw hown hK hW (by assumption) (by assumption) dX7_find_76 ?_
      refine ti_lconst0 hx hb dX7_find_79 ?_
      refine tm_callv (cs_X7_55 hx hb hml hown htw hK hW (by assumption) (c_X0_setWhole (by assumption)) ⟨rfl, rfl, Nat.le_of_ble_eq_true rfl, Nat.le_of_ble_eq_true rfl⟩ hl.1 (Nat.le_of_ble_eq_true rfl) dX7_find_80 ⟨Nat.le_of_ble_eq_true rfl, Nat.le_of_ble_eq_true rfl⟩) hS (fun M80 H locs hp80 hW hS => ?_)
      rw [hp80] at hW
      exact tm_vret hx hb hr hlk hK hW hS (tl_ff0 f0 (by first | (rw [tl_solve, if_pos hz1, ← er, ← eq10]; rcases tl_tz_z (mI M2 o 2) (mL M2 (q + 1) 0) with z | z <;> first | exact absurd z h64 | rw [h64] | rw [z]))) dX7_find_83
