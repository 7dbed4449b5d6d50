/-! TutorLinesModel: take, solutions, begin, step (by program: wip/whole/gen/mm2.py) -/
def pL (o c : Nat) (a k : Nat) : Prop := a = o + 2 ∧ 9 * c ≤ k ∧ k < 9 * c + 9
/-- a line more, behind the first c -/
theorem ML_ap {sh : tm_sh} {M M1 : tm_M} {o c : Nat} {z z1 : tl_Z} {w : tl_L} {v : Int} (h : MLv sh M o z) (hc : c ≤ zn z) (h40 : c < 40) (f : fq (pL o c) M M1) (hw : rl M1 o c = w) (hv : v = ((c + 1 : Nat) : Int)) (ez : z1 = (zt z, c + 1, tl_up (zl z) c w, 0, zs z, zw z, zp z, za z)) : MLp sh o M z1 (sI (sI M1 o 3 v) o 4 0) := by
  obtain ⟨h1, h2, h3, h4, h5, h6, h7, h8, h9, h10⟩ := h
  have ea : ∀ a k, a ≠ o → mI (sI (sI M1 o 3 v) o 4 0) a k = mI M1 a k := fun a k ha => (tm_up_a _ _ ha).trans (tm_up_a _ _ ha)
  subst ez
  refine ⟨⟨isMo_m h1 f.1, fun i => (ea _ _ (by omega)).trans ((f.2 _ _ (by unfold pL; omega)).1.trans (h2 i)), (tm_up_k _ _ (by decide)).trans ((tm_up_s _ _ _ _).trans hv), fun i hi => ?_, tm_up_s _ _ _ _, fun q => absurd (show (0 : Int) = 1 from q) (by decide), fun k k1 k2 => (ea _ _ (by omega)).trans ((f.2 _ _ (by unfold pL; omega)).1.trans (h7 k k1 k2)), (ea _ _ (by omega)).trans ((f.2 _ _ (by unfold pL; omega)).1.trans h8), (ea _ _ (by omega)).trans ((f.2 _ _ (by unfold pL; omega)).1.trans h9), (ea _ _ (by omega)).trans ((f.2 _ _ (by unfold pL; omega)).1.trans h10)⟩, fq_tr (fq_wd f (fun a k q => by unfold pL at q; unfold mY; omega)) (fq_tr (fq_sI (Or.inl ⟨rfl, by decide⟩)) (fq_sI (Or.inl ⟨rfl, by decide⟩)))⟩
  have hi : i < c + 1 := hi
  show rl M1 o i = tl_up (zl z) c w i
  by_cases e : i = c
  · rw [e, tl_up_s]
    exact hw
  · rw [tl_up_n _ _ e, fq_rl f (fun k hk => by unfold pL; omega)]
    exact h4 i (by omega)
theorem tl_so2 {v : tl_L} (h : (tl_solve v).1 < 2) : (tl_solve v).2 = (0, 1) := by
  by_cases q : (tl_sl v).1 = 0
  · rw [tl_solve_0 q]
  · rw [tl_solve_1 q] at h
    have h : (if v.2.2 = 0 then (2 : Int) else if (v.2.2 = 1 ↔ 0 < (tl_sl v).1) then 3 else 4) < 2 := h
    split at h
    · omega
    · split at h <;> omega
theorem dX9_take_0 : decode cX9_take 0 = .ok (.aload_n 0, 1) := by decide +kernel
theorem dX9_take_1 : decode cX9_take 1 = .ok (.aload_n 0, 1) := by decide +kernel
theorem dX9_take_2 : decode cX9_take 2 = .ok (.getfield 159, 3) := by decide +kernel
theorem dX9_take_5 : decode cX9_take 5 = .ok (.ifCond .eq 12, 3) := by decide +kernel
theorem dX9_take_8 : decode cX9_take 8 = .ok (.aload_n 0, 1) := by decide +kernel
theorem dX9_take_9 : decode cX9_take 9 = .ok (.getfield 159, 3) := by decide +kernel
theorem dX9_take_12 : decode cX9_take 12 = .ok (.bipush 40, 2) := by decide +kernel
theorem dX9_take_14 : decode cX9_take 14 = .ok (.if_icmp .ne 7, 3) := by decide +kernel
theorem dX9_take_17 : decode cX9_take 17 = .ok (.iconst 1, 1) := by decide +kernel
theorem dX9_take_18 : decode cX9_take 18 = .ok (.goto 4, 3) := by decide +kernel
theorem dX9_take_21 : decode cX9_take 21 = .ok (.iconst 0, 1) := by decide +kernel
theorem dX9_take_22 : decode cX9_take 22 = .ok (.putfield 48, 3) := by decide +kernel
theorem dX9_take_25 : decode cX9_take 25 = .ok (.aload_n 0, 1) := by decide +kernel
theorem dX9_take_26 : decode cX9_take 26 = .ok (.getfield 48, 3) := by decide +kernel
theorem dX9_take_29 : decode cX9_take 29 = .ok (.ifCond .gt 11, 3) := by decide +kernel
theorem dX9_take_32 : decode cX9_take 32 = .ok (.aload_n 0, 1) := by decide +kernel
theorem dX9_take_33 : decode cX9_take 33 = .ok (.invokevirtual 217, 3) := by decide +kernel
theorem dX9_take_36 : decode cX9_take 36 = .ok (.iconst 1, 1) := by decide +kernel
theorem dX9_take_37 : decode cX9_take 37 = .ok (.if_icmp .ge 5, 3) := by decide +kernel
theorem dX9_take_40 : decode cX9_take 40 = .ok (.iconst 0, 1) := by decide +kernel
theorem dX9_take_41 : decode cX9_take 41 = .ok (.ireturn, 1) := by decide +kernel
theorem dX9_take_42 : decode cX9_take 42 = .ok (.aload_n 0, 1) := by decide +kernel
theorem dX9_take_43 : decode cX9_take 43 = .ok (.bipush 42, 2) := by decide +kernel
theorem dX9_take_45 : decode cX9_take 45 = .ok (.aload_n 0, 1) := by decide +kernel
theorem dX9_take_46 : decode cX9_take 46 = .ok (.getfield 159, 3) := by decide +kernel
theorem dX9_take_49 : decode cX9_take 49 = .ok (.invokevirtual 180, 3) := by decide +kernel
theorem dX9_take_52 : decode cX9_take 52 = .ok (.aload_n 0, 1) := by decide +kernel
theorem dX9_take_53 : decode cX9_take 53 = .ok (.dup, 1) := by decide +kernel
theorem dX9_take_54 : decode cX9_take 54 = .ok (.getfield 159, 3) := by decide +kernel
theorem dX9_take_57 : decode cX9_take 57 = .ok (.iconst 1, 1) := by decide +kernel
theorem dX9_take_58 : decode cX9_take 58 = .ok (.iadd, 1) := by decide +kernel
theorem dX9_take_59 : decode cX9_take 59 = .ok (.putfield 159, 3) := by decide +kernel
theorem dX9_take_62 : decode cX9_take 62 = .ok (.aload_n 0, 1) := by decide +kernel
theorem dX9_take_63 : decode cX9_take 63 = .ok (.iconst 0, 1) := by decide +kernel
theorem dX9_take_64 : decode cX9_take 64 = .ok (.putfield 211, 3) := by decide +kernel
theorem dX9_take_67 : decode cX9_take 67 = .ok (.iconst 1, 1) := by decide +kernel
theorem dX9_take_68 : decode cX9_take 68 = .ok (.ireturn, 1) := by decide +kernel
set_option maxHeartbeats 4000000 in
set_option maxRecDepth 100000 in
/-- TutorLinesModel.take -/
theorem c_X9_take {l : Launch} {G : tm_G} {Hb : Heap} {sh : tm_sh} {M : tm_M} {o : Nat} {z : tl_Z} (hz : MLv sh M o z) (hI : ZI z) : Met l yX9_take (tws yX9_take cX9_take 1 (some .boolean)) ({ frames := 5, cells := 0, slots := 0, locals := 130 }) (va_Pc [.ref o] (tm_St G Hb sh M)) (tm_Qi G Hb sh (fun x M1 => mI M1 o 0 = tl_b (zn z = 0 ∨ zn z = 40) ∧ ((zn z = 0 ∨ zn z = 40) → MLp sh o M z M1) ∧ (0 < zn z → zn z < 40 → x = (if 0 < tl_plan (zl z (zn z - 1)) then 1 else 0) ∧ MLp sh o M (if 0 < tl_plan (zl z (zn z - 1)) then zapp z (tl_planv (zl z (zn z - 1))) else z) M1))) 0 0 (tm_A Hb) := by
  refine tm_begin (by decide) (Nat.le_of_ble_eq_true rfl) (fun p e s m below meth c ls hx hb hr hml hown htw hlk hnm hK hW hl => ?_)
  have hS : va_S (tm_A Hb) s.heap s.heap [] := va_S.rf
  have hl : lv_has ls 1 [(0, .ref o)] := hl
  have h40 := hI.2.1
  obtain ⟨b0, ⟨t1, t2, t6, t7, t9, t12, t13, t14, t15, t16, t17, t24⟩, ⟨u1, u2, u3, u4, u5, u6, u7, u8, u9, u10, u11, u12⟩⟩ := hz.1
  have e3 := hz.2.2.1
  refine lv_aload_n hx hb dX9_take_0 rfl (lv_at hl 0 rfl) ?_
  refine lv_aload_n hx hb dX9_take_1 rfl (lv_at hl 0 rfl) ?_
  refine gf_X9_159 hx hb htw hown hK hW (by assumption) dX9_take_2 ?_
  refine ti_if_eq (tgt := 17) hx hb dX9_take_5 (by decide) (by omega) (fun h5 => ?_) (fun h5 => ?_)
  · refine ti_iconst hx hb dX9_take_17 ?_
    refine lv_goto (tgt := 22) hx hb dX9_take_18 (by decide) ?_
    refine pf_X9_48 hx hb htw hown hK hW (by assumption) hS dX9_take_22 (fun H locs hW hS => ?_)
    refine lv_aload_n hx hb dX9_take_25 rfl (lv_at hl 0 rfl) ?_
    refine gf_X9_48 hx hb htw hown hK hW (by assumption) dX9_take_26 ?_
    rw [show mI (sI M o 0 1) o 0 = 1 from tm_up_s _ _ _ _]
    refine ti_if_gt (tgt := 40) hx hb dX9_take_29 (by decide) (by decide) (fun h29 => ?_) (fun h29 => ?_)
    · refine ti_iconst hx hb dX9_take_40 ?_
      exact tm_zret hx hb hr hlk (Or.inl rfl) hK hW hS ⟨(tm_up_s _ _ _ _).trans (tl_b_t (by omega)), fun _ => MLp_m hz h40 fq_c0, fun q1 q2 => absurd q1 (by omega)⟩ dX9_take_41
    · exact absurd (show (0 : Int) < 1 by decide) h29
  · refine lv_aload_n hx hb dX9_take_8 rfl (lv_at hl 0 rfl) ?_
    refine gf_X9_159 hx hb htw hown hK hW (by assumption) dX9_take_9 ?_
    refine ti_bipush hx hb dX9_take_12 (by decide) ?_
    refine ti_icmp_ne (tgt := 21) hx hb dX9_take_14 (by decide) (by omega) (by decide) (fun h14 => ?_) (fun h14 => ?_)
    · refine ti_iconst hx hb dX9_take_21 ?_
      refine pf_X9_48 hx hb htw hown hK hW (by assumption) hS dX9_take_22 (fun H locs hW hS => ?_)
      refine lv_aload_n hx hb dX9_take_25 rfl (lv_at hl 0 rfl) ?_
      refine gf_X9_48 hx hb htw hown hK hW (by assumption) dX9_take_26 ?_
      rw [show mI (sI M o 0 0) o 0 = 0 from tm_up_s _ _ _ _]
      have hn0 : 0 < zn z := by omega
      refine ti_if_gt (tgt := 40) hx hb dX9_take_29 (by decide) (by decide) (fun h29 => ?_) (fun h29 => ?_)
      · exact absurd h29 (by decide)
      · refine lv_aload_n hx hb dX9_take_32 rfl (lv_at hl 0 rfl) ?_
        refine tm_calli (cs_X9_217 hx hb hml hown htw hK hW (by assumption) (c_X9_plan (moN_m (MLv_N hz h40 hn0) fq_c0 (by unfold mX; omega)) ((fq_rl (fq_c0 (o := o)) (fun k hk => by unfold mX; omega)).trans (MLv_l hz hn0)) (ZI_l hI hn0).1) ⟨rfl, rfl, Nat.le_of_ble_eq_true rfl, Nat.le_of_ble_eq_true rfl⟩ hl.1 (Nat.le_of_ble_eq_true rfl) dX9_take_33 ⟨Nat.le_of_ble_eq_true rfl, Nat.le_of_ble_eq_true rfl⟩) hS (fun x33 M33 H locs hp33 hW hS => ?_)
        obtain ⟨ex33, g33, f33⟩ := hp33
        rw [ex33]
        have pr := tl_plan_r (zl z (zn z - 1))
        have F := fq_tr (fq_c0 (o := o) (M := M) (v := 0)) (fq_wd f33 (fun _ _ => mP_X))
        have V := MLv_m hz h40 F
        refine ti_iconst hx hb dX9_take_36 ?_
        refine ti_icmp_ge (tgt := 42) hx hb dX9_take_37 (by decide) (by omega) (by decide) (fun h37 => ?_) (fun h37 => ?_)
        · refine lv_aload_n hx hb dX9_take_42 rfl (lv_at hl 0 rfl) ?_
          refine ti_bipush hx hb dX9_take_43 (by decide) ?_
          refine lv_aload_n hx hb dX9_take_45 rfl (lv_at hl 0 rfl) ?_
          refine gf_X9_159 hx hb htw hown hK hW (by assumption) dX9_take_46 ?_
          rw [V.2.2.1]
          refine tm_callv (cs_X9_180 hx hb hml hown htw hK hW (by assumption) (c_X9_copyLine (i := 42) (j := zn z) V.1 (by decide) (by omega) (by omega)) ⟨rfl, rfl, Nat.le_of_ble_eq_true rfl, Nat.le_of_ble_eq_true rfl⟩ hl.1 (Nat.le_of_ble_eq_true rfl) dX9_take_49 ⟨Nat.le_of_ble_eq_true rfl, Nat.le_of_ble_eq_true rfl⟩) hS (fun M49 H locs hp49 hW hS => ?_)
          obtain ⟨c49, f49⟩ := hp49
          rw [g33] at c49
          have e49 : mI M49 o 3 = zn z := (f49.2 _ _ (by omega)).1.trans V.2.2.1
          refine lv_aload_n hx hb dX9_take_52 rfl (lv_at hl 0 rfl) ?_
          refine lv_dup hx hb dX9_take_53 rfl ?_
          refine gf_X9_159 hx hb htw hown hK hW (by assumption) dX9_take_54 ?_
          refine ti_iconst hx hb dX9_take_57 ?_
          refine ti_iadd hx hb dX9_take_58 ?_
          refine pf_X9_159 hx hb htw hown hK hW (by assumption) hS dX9_take_59 (fun H locs hW hS => ?_)
          refine lv_aload_n hx hb dX9_take_62 rfl (lv_at hl 0 rfl) ?_
          refine ti_iconst hx hb dX9_take_63 ?_
          refine pf_X9_211 hx hb htw hown hK hW (by assumption) hS (Or.inl rfl) dX9_take_64 (fun H locs hW hS => ?_)
          refine ti_iconst hx hb dX9_take_67 ?_
          exact tm_zret hx hb hr hlk (Or.inr rfl) hK hW hS ⟨(tm_up_k _ _ (by decide)).trans ((tm_up_k _ _ (by decide)).trans ((f49.2 _ _ (by omega)).1.trans ((f33.2 _ _ (by unfold mP; omega)).1.trans ((tm_up_s _ _ _ _).trans (tl_b_f (by omega)))))), fun q => absurd q (by omega), fun _ _ => ⟨(if_pos (by omega)).symm, by rw [if_pos (by omega)]; exact MLp_tr (MLp_m hz h40 F) (ML_ap V (Nat.le_refl _) (by omega) f49 c49 (by rw [e49]; rfl) rfl)⟩⟩ dX9_take_68
        · refine ti_iconst hx hb dX9_take_40 ?_
          exact tm_zret hx hb hr hlk (Or.inl rfl) hK hW hS ⟨(f33.2 _ _ (by unfold mP; omega)).1.trans ((tm_up_s _ _ _ _).trans (tl_b_f (by omega))), fun q => absurd q (by omega), fun _ _ => ⟨(if_neg (by omega)).symm, by rw [if_neg (by omega)]; exact MLp_m hz h40 F⟩⟩ dX9_take_41
    · refine ti_iconst hx hb dX9_take_17 ?_
      refine lv_goto (tgt := 22) hx hb dX9_take_18 (by decide) ?_
      refine pf_X9_48 hx hb htw hown hK hW (by assumption) hS dX9_take_22 (fun H locs hW hS => ?_)
      refine lv_aload_n hx hb dX9_take_25 rfl (lv_at hl 0 rfl) ?_
      refine gf_X9_48 hx hb htw hown hK hW (by assumption) dX9_take_26 ?_
      rw [show mI (sI M o 0 1) o 0 = 1 from tm_up_s _ _ _ _]
      refine ti_if_gt (tgt := 40) hx hb dX9_take_29 (by decide) (by decide) (fun h29 => ?_) (fun h29 => ?_)
      · refine ti_iconst hx hb dX9_take_40 ?_
        exact tm_zret hx hb hr hlk (Or.inl rfl) hK hW hS ⟨(tm_up_s _ _ _ _).trans (tl_b_t (by omega)), fun _ => MLp_m hz h40 fq_c0, fun q1 q2 => absurd q1 (by omega)⟩ dX9_take_41
      · exact absurd (show (0 : Int) < 1 by decide) h29
theorem tl_so3 {v : tl_L} {w : Int} (h0 : ¬ w = 0) (h : 0 ≤ w ∧ w ≤ 2) (hk : (tl_solve v).1 < 2) : tl_sol (tl_solve v) w = w - 1 := by
  unfold tl_sol
  rw [if_neg h0, tl_so2 hk]
  have e : w = 1 ∨ w = 2 := by omega
  rcases e with rfl | rfl <;> rfl
theorem dX9_solutions_0 : decode cX9_solutions 0 = .ok (.aload_n 0, 1) := by decide +kernel
theorem dX9_solutions_1 : decode cX9_solutions 1 = .ok (.iload_n 1, 1) := by decide +kernel
theorem dX9_solutions_2 : decode cX9_solutions 2 = .ok (.i2l, 1) := by decide +kernel
theorem dX9_solutions_3 : decode cX9_solutions 3 = .ok (.lconst 0, 1) := by decide +kernel
theorem dX9_solutions_4 : decode cX9_solutions 4 = .ok (.ldc2_w 135, 3) := by decide +kernel
theorem dX9_solutions_7 : decode cX9_solutions 7 = .ok (.invokestatic 67, 3) := by decide +kernel
theorem dX9_solutions_10 : decode cX9_solutions 10 = .ok (.ifCond .ne 7, 3) := by decide +kernel
theorem dX9_solutions_13 : decode cX9_solutions 13 = .ok (.iconst 1, 1) := by decide +kernel
theorem dX9_solutions_14 : decode cX9_solutions 14 = .ok (.goto 15, 3) := by decide +kernel
theorem dX9_solutions_17 : decode cX9_solutions 17 = .ok (.aload_n 0, 1) := by decide +kernel
theorem dX9_solutions_18 : decode cX9_solutions 18 = .ok (.getfield 159, 3) := by decide +kernel
theorem dX9_solutions_21 : decode cX9_solutions 21 = .ok (.ifCond .ne 7, 3) := by decide +kernel
theorem dX9_solutions_24 : decode cX9_solutions 24 = .ok (.iconst 2, 1) := by decide +kernel
theorem dX9_solutions_25 : decode cX9_solutions 25 = .ok (.goto 4, 3) := by decide +kernel
theorem dX9_solutions_28 : decode cX9_solutions 28 = .ok (.iconst 0, 1) := by decide +kernel
theorem dX9_solutions_29 : decode cX9_solutions 29 = .ok (.putfield 48, 3) := by decide +kernel
theorem dX9_solutions_32 : decode cX9_solutions 32 = .ok (.aload_n 0, 1) := by decide +kernel
theorem dX9_solutions_33 : decode cX9_solutions 33 = .ok (.getfield 48, 3) := by decide +kernel
theorem dX9_solutions_36 : decode cX9_solutions 36 = .ok (.ifCond .le 5, 3) := by decide +kernel
theorem dX9_solutions_39 : decode cX9_solutions 39 = .ok (.lconst 0, 1) := by decide +kernel
theorem dX9_solutions_40 : decode cX9_solutions 40 = .ok (.lreturn, 1) := by decide +kernel
theorem dX9_solutions_41 : decode cX9_solutions 41 = .ok (.aload_n 0, 1) := by decide +kernel
theorem dX9_solutions_42 : decode cX9_solutions 42 = .ok (.aload_n 0, 1) := by decide +kernel
theorem dX9_solutions_43 : decode cX9_solutions 43 = .ok (.invokevirtual 166, 3) := by decide +kernel
theorem dX9_solutions_46 : decode cX9_solutions 46 = .ok (.invokevirtual 153, 3) := by decide +kernel
theorem dX9_solutions_49 : decode cX9_solutions 49 = .ok (.iload_n 1, 1) := by decide +kernel
theorem dX9_solutions_50 : decode cX9_solutions 50 = .ok (.ifCond .ne 11, 3) := by decide +kernel
theorem dX9_solutions_53 : decode cX9_solutions 53 = .ok (.aload_n 0, 1) := by decide +kernel
theorem dX9_solutions_54 : decode cX9_solutions 54 = .ok (.getfield 143, 3) := by decide +kernel
theorem dX9_solutions_57 : decode cX9_solutions 57 = .ok (.i2l, 1) := by decide +kernel
theorem dX9_solutions_58 : decode cX9_solutions 58 = .ok (.goto 34, 3) := by decide +kernel
theorem dX9_solutions_61 : decode cX9_solutions 61 = .ok (.aload_n 0, 1) := by decide +kernel
theorem dX9_solutions_62 : decode cX9_solutions 62 = .ok (.getfield 143, 3) := by decide +kernel
theorem dX9_solutions_65 : decode cX9_solutions 65 = .ok (.iconst 2, 1) := by decide +kernel
theorem dX9_solutions_66 : decode cX9_solutions 66 = .ok (.if_icmp .ge 10, 3) := by decide +kernel
theorem dX9_solutions_69 : decode cX9_solutions 69 = .ok (.iload_n 1, 1) := by decide +kernel
theorem dX9_solutions_70 : decode cX9_solutions 70 = .ok (.i2l, 1) := by decide +kernel
theorem dX9_solutions_71 : decode cX9_solutions 71 = .ok (.lconst 1, 1) := by decide +kernel
theorem dX9_solutions_72 : decode cX9_solutions 72 = .ok (.lsub, 1) := by decide +kernel
theorem dX9_solutions_73 : decode cX9_solutions 73 = .ok (.goto 19, 3) := by decide +kernel
theorem dX9_solutions_76 : decode cX9_solutions 76 = .ok (.iload_n 1, 1) := by decide +kernel
theorem dX9_solutions_77 : decode cX9_solutions 77 = .ok (.iconst 1, 1) := by decide +kernel
theorem dX9_solutions_78 : decode cX9_solutions 78 = .ok (.if_icmp .ne 10, 3) := by decide +kernel
theorem dX9_solutions_81 : decode cX9_solutions 81 = .ok (.aload_n 0, 1) := by decide +kernel
theorem dX9_solutions_82 : decode cX9_solutions 82 = .ok (.getfield 137, 3) := by decide +kernel
theorem dX9_solutions_85 : decode cX9_solutions 85 = .ok (.goto 7, 3) := by decide +kernel
theorem dX9_solutions_88 : decode cX9_solutions 88 = .ok (.aload_n 0, 1) := by decide +kernel
theorem dX9_solutions_89 : decode cX9_solutions 89 = .ok (.getfield 140, 3) := by decide +kernel
theorem dX9_solutions_92 : decode cX9_solutions 92 = .ok (.lreturn, 1) := by decide +kernel
set_option maxHeartbeats 4000000 in
set_option maxRecDepth 100000 in
/-- TutorLinesModel.solutions -/
theorem c_X9_solutions {l : Launch} {G : tm_G} {Hb : Heap} {sh : tm_sh} {M : tm_M} {o : Nat} {z : tl_Z} (hz : MLv sh M o z) (hI : ZI z) {w : Int} (hw : inI w) : Met l yX9_solutions (tws yX9_solutions cX9_solutions 2 (some .long)) ({ frames := 3, cells := 0, slots := 0, locals := 84 }) (va_Pc [.ref o, ji w] (tm_St G Hb sh M)) (tm_Ql G Hb sh (fun x M1 => mI M1 o 0 = (if ¬ (0 ≤ w ∧ w ≤ 2) then 1 else if zn z = 0 then 2 else 0) ∧ ((0 ≤ w ∧ w ≤ 2) → 0 < zn z → x = tl_sol (tl_solve (zl z (zn z - 1))) w) ∧ MLp sh o M z M1)) 0 0 (tm_A Hb) := by
  refine tm_begin (by decide) (Nat.le_of_ble_eq_true rfl) (fun p e s m below meth c ls hx hb hr hml hown htw hlk hnm hK hW hl => ?_)
  have hS : va_S (tm_A Hb) s.heap s.heap [] := va_S.rf
  have hl : lv_has ls 2 [(0, .ref o), (1, ji w)] := hl
  have h40 := hI.2.1
  obtain ⟨b0, ⟨t1, t2, t6, t7, t9, t12, t13, t14, t15, t16, t17, t24⟩, ⟨u1, u2, u3, u4, u5, u6, u7, u8, u9, u10, u11, u12⟩⟩ := hz.1
  have e3 := hz.2.2.1
  refine lv_aload_n hx hb dX9_solutions_0 rfl (lv_at hl 0 rfl) ?_
  refine lv_iload_n hx hb dX9_solutions_1 rfl (lv_at hl 1 rfl) ?_
  refine ti_i2l hx hb dX9_solutions_2 hw ?_
  refine ti_lconst0 hx hb dX9_solutions_3 ?_
  refine lv_ldc2 hx hb hown (htw _ cl_X9_135) dX9_solutions_4 ?_
  refine tm_calli (cs_X9_67 hx hb hml hown htw hK hW (c_X9_in (by omega) (by decide) (by decide)) ⟨rfl, rfl, Nat.le_of_ble_eq_true rfl, Nat.le_of_ble_eq_true rfl⟩ hl.1 (Nat.le_of_ble_eq_true rfl) dX9_solutions_7 ⟨Nat.le_of_ble_eq_true rfl, Nat.le_of_ble_eq_true rfl⟩) hS (fun x7 M7 H locs hp7 hW hS => ?_)
  obtain ⟨ex7, eM7⟩ := hp7
  rw [eM7] at hW
  rw [ex7]
  refine ti_if_ne (tgt := 17) hx hb dX9_solutions_10 (by decide) (tl_b_r _) (fun h10 => ?_) (fun h10 => ?_)
  · refine lv_aload_n hx hb dX9_solutions_17 rfl (lv_at hl 0 rfl) ?_
    refine gf_X9_159 hx hb htw hown hK hW (by assumption) dX9_solutions_18 ?_
    refine ti_if_ne (tgt := 28) hx hb dX9_solutions_21 (by decide) (by omega) (fun h21 => ?_) (fun h21 => ?_)
    · refine ti_iconst hx hb dX9_solutions_28 ?_
      refine pf_X9_48 hx hb htw hown hK hW (by assumption) hS dX9_solutions_29 (fun H locs hW hS => ?_)
      refine lv_aload_n hx hb dX9_solutions_32 rfl (lv_at hl 0 rfl) ?_
      refine gf_X9_48 hx hb htw hown hK hW (by assumption) dX9_solutions_33 ?_
      rw [show mI (sI M o 0 0) o 0 = 0 from tm_up_s _ _ _ _]
      refine ti_if_le (tgt := 41) hx hb dX9_solutions_36 (by decide) (by decide) (fun h36 => ?_) (fun h36 => ?_)
      · have hn0 : 0 < zn z := by omega
        refine lv_aload_n hx hb dX9_solutions_41 rfl (lv_at hl 0 rfl) ?_
        refine lv_aload_n hx hb dX9_solutions_42 rfl (lv_at hl 0 rfl) ?_
        refine tm_calli (cs_X9_166 hx hb hml hown htw hK hW (by assumption) (c_X9_last (moN_m (MLv_N hz h40 hn0) (fq_c0 (v := 0)) (by unfold mX; omega))) ⟨rfl, rfl, Nat.le_of_ble_eq_true rfl, Nat.le_of_ble_eq_true rfl⟩ hl.1 (Nat.le_of_ble_eq_true rfl) dX9_solutions_43 ⟨Nat.le_of_ble_eq_true rfl, Nat.le_of_ble_eq_true rfl⟩) hS (fun x43 M43 H locs hp43 hW hS => ?_)
        obtain ⟨ex43, eM43⟩ := hp43
        rw [eM43] at hW
        rw [ex43]
        refine tm_callv (cs_X9_153 hx hb hml hown htw hK hW (by assumption) (c_X9_solve (i := zn z - 1) (isMo_m hz.1 rfl) (by omega) (by rw [show rl (sI M o 0 0) o (zn z - 1) = zl z (zn z - 1) from (MLv_l hz hn0 : rl M o (zn z - 1) = zl z (zn z - 1))]; exact (ZI_l hI hn0).1)) ⟨rfl, rfl, Nat.le_of_ble_eq_true rfl, Nat.le_of_ble_eq_true rfl⟩ hl.1 (Nat.le_of_ble_eq_true rfl) dX9_solutions_46 ⟨Nat.le_of_ble_eq_true rfl, Nat.le_of_ble_eq_true rfl⟩) hS (fun M46 H locs hp46 hW hS => ?_)
        obtain ⟨e46, f46⟩ := hp46
        rw [show rl (sI M o 0 0) o (zn z - 1) = zl z (zn z - 1) from (MLv_l hz hn0 : rl M o (zn z - 1) = zl z (zn z - 1))] at e46
        have k0 : mI M46 o 25 = (tl_solve (zl z (zn z - 1))).1 := congrArg (fun q => q.1) e46
        have k1 : mL M46 o 26 = (tl_solve (zl z (zn z - 1))).2.1 := congrArg (fun q => q.2.1) e46
        have k2 : mL M46 o 27 = (tl_solve (zl z (zn z - 1))).2.2 := congrArg (fun q => q.2.2) e46
        have F := fq_tr (fq_c0 (o := o) (M := M) (v := 0)) (fq_wd f46 (fun _ _ => mP_X))
        have sr : 0 ≤ (tl_solve (zl z (zn z - 1))).1 ∧ (tl_solve (zl z (zn z - 1))).1 ≤ 4 := ⟨(sook_solve (ZI_l hI hn0).1).1.1, (sook_solve (ZI_l hI hn0).1).1.2.1⟩
        have C0 : mI M46 o 0 = (if ¬ (0 ≤ w ∧ w ≤ 2) then 1 else if zn z = 0 then 2 else 0) := (f46.2 _ _ (by unfold mP; omega)).1.trans ((tm_up_s _ _ _ _).trans (by rw [if_neg (fun q => q (tl_b_n.mp h10)), if_neg (by omega)]))
        refine lv_iload_n hx hb dX9_solutions_49 rfl (lv_at hl 1 rfl) ?_
        refine ti_if_ne (tgt := 61) hx hb dX9_solutions_50 (by decide) hw (fun h50 => ?_) (fun h50 => ?_)
        · refine lv_aload_n hx hb dX9_solutions_61 rfl (lv_at hl 0 rfl) ?_
          refine gf_X9_143 hx hb htw hown hK hW (by assumption) dX9_solutions_62 ?_
          refine ti_iconst hx hb dX9_solutions_65 ?_
          refine ti_icmp_ge (tgt := 76) hx hb dX9_solutions_66 (by decide) (by rw [k0]; omega) (by decide) (fun h66 => ?_) (fun h66 => ?_)
          · refine lv_iload_n hx hb dX9_solutions_76 rfl (lv_at hl 1 rfl) ?_
            refine ti_iconst hx hb dX9_solutions_77 ?_
            refine ti_icmp_ne (tgt := 88) hx hb dX9_solutions_78 (by decide) hw (by decide) (fun h78 => ?_) (fun h78 => ?_)
            · refine lv_aload_n hx hb dX9_solutions_88 rfl (lv_at hl 0 rfl) ?_
              refine gf_X9_140 hx hb htw hown hK hW (by assumption) dX9_solutions_89 ?_
              exact tm_lret hx hb hr hlk hK hW hS ⟨C0, fun _ _ => by rw [k2, tl_sol, if_neg (by omega), if_neg (by omega)], MLp_m hz h40 F⟩ dX9_solutions_92
            · refine lv_aload_n hx hb dX9_solutions_81 rfl (lv_at hl 0 rfl) ?_
              refine gf_X9_137 hx hb htw hown hK hW (by assumption) dX9_solutions_82 ?_
              refine lv_goto (tgt := 92) hx hb dX9_solutions_85 (by decide) ?_
              exact tm_lret hx hb hr hlk hK hW hS ⟨C0, fun _ _ => by rw [k1, tl_sol, if_neg (by omega), if_pos (by omega)], MLp_m hz h40 F⟩ dX9_solutions_92
          · refine lv_iload_n hx hb dX9_solutions_69 rfl (lv_at hl 1 rfl) ?_
            refine ti_i2l hx hb dX9_solutions_70 hw ?_
            refine ti_lconst1 hx hb dX9_solutions_71 ?_
            refine ti_lsub hx hb dX9_solutions_72 ?_
            refine lv_goto (tgt := 92) hx hb dX9_solutions_73 (by decide) ?_
            exact tm_lret hx hb hr hlk hK hW hS ⟨C0, fun _ _ => by rw [tl_so3 h50 (tl_b_n.mp h10) (by rw [← k0]; omega)], MLp_m hz h40 F⟩ dX9_solutions_92
        · refine lv_aload_n hx hb dX9_solutions_53 rfl (lv_at hl 0 rfl) ?_
          refine gf_X9_143 hx hb htw hown hK hW (by assumption) dX9_solutions_54 ?_
          refine ti_i2l hx hb dX9_solutions_57 (by rw [k0]; omega) ?_
          refine lv_goto (tgt := 92) hx hb dX9_solutions_58 (by decide) ?_
          exact tm_lret hx hb hr hlk hK hW hS ⟨C0, fun _ _ => by rw [k0, tl_sol, if_pos h50], MLp_m hz h40 F⟩ dX9_solutions_92
      · exact absurd (show (0 : Int) ≤ 0 by decide) h36
    · refine ti_iconst hx hb dX9_solutions_24 ?_
      refine lv_goto (tgt := 29) hx hb dX9_solutions_25 (by decide) ?_
      refine pf_X9_48 hx hb htw hown hK hW (by assumption) hS dX9_solutions_29 (fun H locs hW hS => ?_)
      refine lv_aload_n hx hb dX9_solutions_32 rfl (lv_at hl 0 rfl) ?_
      refine gf_X9_48 hx hb htw hown hK hW (by assumption) dX9_solutions_33 ?_
      rw [show mI (sI M o 0 2) o 0 = 2 from tm_up_s _ _ _ _]
      refine ti_if_le (tgt := 41) hx hb dX9_solutions_36 (by decide) (by decide) (fun h36 => ?_) (fun h36 => ?_)
      · exact absurd h36 (by decide)
      · refine ti_lconst0 hx hb dX9_solutions_39 ?_
        exact tm_lret hx hb hr hlk hK hW hS ⟨(tm_up_s _ _ _ _).trans (by rw [if_neg (fun q => q (tl_b_n.mp h10)), if_pos (by omega)]), fun _ q => absurd q (by omega), MLp_m hz h40 fq_c0⟩ dX9_solutions_40
  · refine ti_iconst hx hb dX9_solutions_13 ?_
    refine lv_goto (tgt := 29) hx hb dX9_solutions_14 (by decide) ?_
    refine pf_X9_48 hx hb htw hown hK hW (by assumption) hS dX9_solutions_29 (fun H locs hW hS => ?_)
    refine lv_aload_n hx hb dX9_solutions_32 rfl (lv_at hl 0 rfl) ?_
    refine gf_X9_48 hx hb htw hown hK hW (by assumption) dX9_solutions_33 ?_
    rw [show mI (sI M o 0 1) o 0 = 1 from tm_up_s _ _ _ _]
    refine ti_if_le (tgt := 41) hx hb dX9_solutions_36 (by decide) (by decide) (fun h36 => ?_) (fun h36 => ?_)
    · exact absurd h36 (by decide)
    · refine ti_lconst0 hx hb dX9_solutions_39 ?_
      exact tm_lret hx hb hr hlk hK hW hS ⟨(tm_up_s _ _ _ _).trans (if_pos (tl_b_0.mp h10)).symm, fun q => absurd q (tl_b_0.mp h10), MLp_m hz h40 fq_c0⟩ dX9_solutions_40
theorem c_X9_readw {l : Launch} {G : tm_G} {Hb : Heap} {sh : tm_sh} {M : tm_M} {o n : Nat} {t : Nat → Int} {x : Int} (hx : x = (n : Int)) (h : isMo sh M o) (ht : ∀ j, mI M (o + 1) j = t j ∧ 0 ≤ t j ∧ t j < 256) (hn : n ≤ 80) : Met l yX9_read (tws yX9_read cX9_read 10 (some .boolean)) ({ frames := 6, cells := 0, slots := 0, locals := 140 }) (va_Pc [.ref o, ji x] (tm_St G Hb sh M)) (tm_Qi G Hb sh (mdP M o t n)) 0 0 (tm_A Hb) := by
  rw [hx]
  exact c_X9_read h ht hn
theorem tl_rdi {M0 M : tm_M} {o n : Nat} {t : Nat → Int} {r : Int} (hn : n ≤ 80) (h : (r = 1 ∧ ∃ L : tl_L, tp_line t n = .inl L ∧ rl M o 40 = L ∧ lok L) ∨ (r = 0 ∧ ∃ f : Nat, tp_line t n = .inr f ∧ mI M o 21 = f)) (h0 : r = 0) : ∃ f : Nat, tp_line t n = .inr f ∧ mI M o 21 = f ∧ f ≤ 80 := by
  obtain ⟨f, h1, h2⟩ := tl_r0 h h0
  exact ⟨f, h1, h2, Nat.le_trans (tp_line_f h1) hn⟩
theorem dX9_begin_0 : decode cX9_begin 0 = .ok (.aload_n 0, 1) := by decide +kernel
theorem dX9_begin_1 : decode cX9_begin 1 = .ok (.iload_n 1, 1) := by decide +kernel
theorem dX9_begin_2 : decode cX9_begin 2 = .ok (.invokevirtual 205, 3) := by decide +kernel
theorem dX9_begin_5 : decode cX9_begin 5 = .ok (.ifCond .ne 5, 3) := by decide +kernel
theorem dX9_begin_8 : decode cX9_begin 8 = .ok (.iconst 0, 1) := by decide +kernel
theorem dX9_begin_9 : decode cX9_begin 9 = .ok (.ireturn, 1) := by decide +kernel
theorem dX9_begin_10 : decode cX9_begin 10 = .ok (.aload_n 0, 1) := by decide +kernel
theorem dX9_begin_11 : decode cX9_begin 11 = .ok (.iload_n 1, 1) := by decide +kernel
theorem dX9_begin_12 : decode cX9_begin 12 = .ok (.invokevirtual 208, 3) := by decide +kernel
theorem dX9_begin_15 : decode cX9_begin 15 = .ok (.ifCond .ne 10, 3) := by decide +kernel
theorem dX9_begin_18 : decode cX9_begin 18 = .ok (.iconst (-1), 1) := by decide +kernel
theorem dX9_begin_19 : decode cX9_begin 19 = .ok (.aload_n 0, 1) := by decide +kernel
theorem dX9_begin_20 : decode cX9_begin 20 = .ok (.getfield 73, 3) := by decide +kernel
theorem dX9_begin_23 : decode cX9_begin 23 = .ok (.isub, 1) := by decide +kernel
theorem dX9_begin_24 : decode cX9_begin 24 = .ok (.ireturn, 1) := by decide +kernel
theorem dX9_begin_25 : decode cX9_begin 25 = .ok (.aload_n 0, 1) := by decide +kernel
theorem dX9_begin_26 : decode cX9_begin 26 = .ok (.bipush 40, 2) := by decide +kernel
theorem dX9_begin_28 : decode cX9_begin 28 = .ok (.iconst 0, 1) := by decide +kernel
theorem dX9_begin_29 : decode cX9_begin 29 = .ok (.invokevirtual 180, 3) := by decide +kernel
theorem dX9_begin_32 : decode cX9_begin 32 = .ok (.aload_n 0, 1) := by decide +kernel
theorem dX9_begin_33 : decode cX9_begin 33 = .ok (.iconst 1, 1) := by decide +kernel
theorem dX9_begin_34 : decode cX9_begin 34 = .ok (.putfield 159, 3) := by decide +kernel
theorem dX9_begin_37 : decode cX9_begin 37 = .ok (.aload_n 0, 1) := by decide +kernel
theorem dX9_begin_38 : decode cX9_begin 38 = .ok (.iconst 0, 1) := by decide +kernel
theorem dX9_begin_39 : decode cX9_begin 39 = .ok (.putfield 211, 3) := by decide +kernel
theorem dX9_begin_42 : decode cX9_begin 42 = .ok (.iconst 0, 1) := by decide +kernel
theorem dX9_begin_43 : decode cX9_begin 43 = .ok (.ireturn, 1) := by decide +kernel
set_option maxHeartbeats 4000000 in
set_option maxRecDepth 100000 in
/-- TutorLinesModel.begin -/
theorem c_X9_begin {l : Launch} {G : tm_G} {Hb : Heap} {sh : tm_sh} {M : tm_M} {o : Nat} {z : tl_Z} (hz : MLv sh M o z) (hI : ZI z) {w : Int} (hw : inI w) : Met l yX9_begin (tws yX9_begin cX9_begin 2 (some .int)) ({ frames := 7, cells := 0, slots := 0, locals := 169 }) (va_Pc [.ref o, ji w] (tm_St G Hb sh M)) (tm_Qi G Hb sh (fun x M1 => mI M1 o 0 = tl_b (¬ (0 ≤ w ∧ w ≤ 80)) ∧ (¬ (0 ≤ w ∧ w ≤ 80) → MLp sh o M z M1) ∧ ((0 ≤ w ∧ w ≤ 80) → x = (sp_begin z w.toNat).1 ∧ MLp sh o M (sp_begin z w.toNat).2 M1))) 0 0 (tm_A Hb) := by
  refine tm_begin (by decide) (Nat.le_of_ble_eq_true rfl) (fun p e s m below meth c ls hx hb hr hml hown htw hlk hnm hK hW hl => ?_)
  have hS : va_S (tm_A Hb) s.heap s.heap [] := va_S.rf
  have hl : lv_has ls 2 [(0, .ref o), (1, ji w)] := hl
  have h40 := hI.2.1
  obtain ⟨b0, ⟨t1, t2, t6, t7, t9, t12, t13, t14, t15, t16, t17, t24⟩, ⟨u1, u2, u3, u4, u5, u6, u7, u8, u9, u10, u11, u12⟩⟩ := hz.1
  have e3 := hz.2.2.1
  refine lv_aload_n hx hb dX9_begin_0 rfl (lv_at hl 0 rfl) ?_
  refine lv_iload_n hx hb dX9_begin_1 rfl (lv_at hl 1 rfl) ?_
  refine tm_calli (cs_X9_205 hx hb hml hown htw hK hW (by assumption) (c_X9_isLength b0 hw) ⟨rfl, rfl, Nat.le_of_ble_eq_true rfl, Nat.le_of_ble_eq_true rfl⟩ hl.1 (Nat.le_of_ble_eq_true rfl) dX9_begin_2 ⟨Nat.le_of_ble_eq_true rfl, Nat.le_of_ble_eq_true rfl⟩) hS (fun x2 M2 H locs hp2 hW hS => ?_)
  obtain ⟨ex2, eM2⟩ := hp2
  rw [eM2] at hW
  rw [ex2]
  refine ti_if_ne (tgt := 10) hx hb dX9_begin_5 (by decide) (tl_b_r _) (fun h5 => ?_) (fun h5 => ?_)
  · refine lv_aload_n hx hb dX9_begin_10 rfl (lv_at hl 0 rfl) ?_
    refine lv_iload_n hx hb dX9_begin_11 rfl (lv_at hl 1 rfl) ?_
    refine tm_calli (cs_X9_208 hx hb hml hown htw hK hW (by assumption) (c_X9_readw (n := w.toNat) (t := zt z) (by have := tl_b_n.mp h5; omega) (isMo_m hz.1 rfl) (fun j => ⟨((fq_c0 (o := o) (M := M) (v := tl_b (¬ (0 ≤ w ∧ w ≤ 80)))).2 _ _ (by unfold mX; omega)).1.trans (hz.2.1 j), hI.1 j⟩) (by have := tl_b_n.mp h5; omega)) ⟨rfl, rfl, Nat.le_of_ble_eq_true rfl, Nat.le_of_ble_eq_true rfl⟩ hl.1 (Nat.le_of_ble_eq_true rfl) dX9_begin_12 ⟨Nat.le_of_ble_eq_true rfl, Nat.le_of_ble_eq_true rfl⟩) hS (fun x12 M12 H locs hp12 hW hS => ?_)
    obtain ⟨f12, e12⟩ := hp12
    have F := fq_tr (fq_c0 (o := o) (M := M) (v := tl_b (¬ (0 ≤ w ∧ w ≤ 80)))) (fq_wd f12 (fun _ _ => pR_X))
    have V := MLv_m hz h40 F
    refine ti_if_ne (tgt := 25) hx hb dX9_begin_15 (by decide) (by rcases tl_01 e12 with z | z <;> omega) (fun h15 => ?_) (fun h15 => ?_)
    · refine lv_aload_n hx hb dX9_begin_25 rfl (lv_at hl 0 rfl) ?_
      refine ti_bipush hx hb dX9_begin_26 (by decide) ?_
      refine ti_iconst hx hb dX9_begin_28 ?_
      refine tm_callv (cs_X9_180 hx hb hml hown htw hK hW (by assumption) (c_X9_copyLine (i := 40) (j := 0) V.1 (by decide) (by decide) (by decide)) ⟨rfl, rfl, Nat.le_of_ble_eq_true rfl, Nat.le_of_ble_eq_true rfl⟩ hl.1 (Nat.le_of_ble_eq_true rfl) dX9_begin_29 ⟨Nat.le_of_ble_eq_true rfl, Nat.le_of_ble_eq_true rfl⟩) hS (fun M29 H locs hp29 hW hS => ?_)
      obtain ⟨c29, f29⟩ := hp29
      obtain ⟨L, l1, l2, l3⟩ := tl_r1 e12 h15
      rw [l2] at c29
      refine lv_aload_n hx hb dX9_begin_32 rfl (lv_at hl 0 rfl) ?_
      refine ti_iconst hx hb dX9_begin_33 ?_
      refine pf_X9_159 hx hb htw hown hK hW (by assumption) hS dX9_begin_34 (fun H locs hW hS => ?_)
      refine lv_aload_n hx hb dX9_begin_37 rfl (lv_at hl 0 rfl) ?_
      refine ti_iconst hx hb dX9_begin_38 ?_
      refine pf_X9_211 hx hb htw hown hK hW (by assumption) hS (Or.inl rfl) dX9_begin_39 (fun H locs hW hS => ?_)
      refine ti_iconst hx hb dX9_begin_42 ?_
      exact tm_iret hx hb hr hlk hK hW hS ⟨(tm_up_k _ _ (by decide)).trans ((tm_up_k _ _ (by decide)).trans ((f29.2 _ _ (by omega)).1.trans ((f12.2 _ _ (by unfold pR pP; omega)).1.trans (tm_up_s _ _ _ _)))), fun q => absurd (tl_b_n.mp h5) q, fun _ => ⟨by rw [sp_begin_l l1], by rw [sp_begin_l l1]; exact MLp_tr (MLp_m hz h40 F) (ML_ap (c := 0) V (Nat.zero_le _) (by decide) f29 c29 rfl rfl)⟩⟩ dX9_begin_43
    · obtain ⟨f, l1, l2, l3⟩ := tl_rdi (M0 := M) (by have := tl_b_n.mp h5; omega) e12 h15
      refine ti_iconst hx hb dX9_begin_18 ?_
      refine lv_aload_n hx hb dX9_begin_19 rfl (lv_at hl 0 rfl) ?_
      refine gf_X9_73 hx hb htw hown hK hW (by assumption) dX9_begin_20 ?_
      refine ti_isub hx hb dX9_begin_23 ?_
      exact tm_iret hx hb hr hlk hK hW hS ⟨(f12.2 _ _ (by unfold pR pP; omega)).1.trans (tm_up_s _ _ _ _), fun q => absurd (tl_b_n.mp h5) q, fun _ => ⟨by rw [sp_begin_r l1, l2], by rw [sp_begin_r l1]; exact MLp_m hz h40 F⟩⟩ dX9_begin_24
  · refine ti_iconst hx hb dX9_begin_8 ?_
    exact tm_iret hx hb hr hlk hK hW hS ⟨tm_up_s _ _ _ _, fun _ => MLp_m hz h40 fq_c0, fun q => absurd q (tl_b_0.mp h5)⟩ dX9_begin_9
