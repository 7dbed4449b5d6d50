/-! TutorLines: accept, refuse, tellsApart, findWitness (by program: wip/whole/gen/tl2.py) -/
theorem TLp_tr {sh : tm_sh} {T : Nat} {M M1 M2 : tm_M} {z1 z2 : tl_Z} (h : TLp sh T M z1 M1) (g : TLp sh T M1 z2 M2) : TLp sh T M z2 M2 := ⟨g.1, g.2.1, fT_tr h.2.2 g.2.2⟩
theorem TLp_c {sh : tm_sh} {T : Nat} {M M1 M2 : tm_M} {z2 : tl_Z} (h : fT T M M1) (g : TLp sh T M1 z2 M2) : TLp sh T M z2 M2 := ⟨g.1, g.2.1, fT_tr h g.2.2⟩
theorem lLok_at {M : tm_M} {q : Nat} (h : lLok (ln M q)) : (fLok (fr M (q + 2)) ∧ fLok (fr M (q + 3))) ∧ fLok (fr M (q + 5)) ∧ fLok (fr M (q + 6)) := h
theorem tl_planv_r {v : tl_L} (h : lok v) : 0 ≤ (tl_planv v).2.2 ∧ (tl_planv v).2.2 ≤ 3 := by
  have h1 := h.2.2
  unfold tl_planv
  split
  · show 0 ≤ v.2.2 ∧ v.2.2 ≤ 3; omega
  · split
    · show 0 ≤ v.2.2 ∧ v.2.2 ≤ 3; omega
    · split
      · show 0 ≤ (if v.1.1.1 < 0 ∧ ¬ v.2.2 = 0 then 3 - v.2.2 else v.2.2) ∧ (if v.1.1.1 < 0 ∧ ¬ v.2.2 = 0 then 3 - v.2.2 else v.2.2) ≤ 3
        split <;> omega
      · omega
theorem tl_plan_r (v : tl_L) : -1 ≤ tl_plan v ∧ tl_plan v ≤ 3 := by
  have := tl_kind_r v
  unfold tl_plan
  split <;> omega
theorem tl_up10 {x : Int} (h0 : 0 ≤ x) (h1 : x ≤ 10) : 0 ≤ (if 10 < x + 1 then 10 else x + 1) ∧ (if 10 < x + 1 then 10 else x + 1) ≤ 10 := by
  split <;> omega
theorem tl_dn0 {x : Int} (h0 : 0 ≤ x) (h1 : x ≤ 10) : 0 ≤ (if x - 1 < 0 then 0 else x - 1) ∧ (if x - 1 < 0 then 0 else x - 1) ≤ 10 := by
  split <;> omega
theorem tl_k3 {x : Int} (h0 : 0 < x) : 1 ≤ (if 3 < x then 3 else x) ∧ (if 3 < x then 3 else x) ≤ 3 := by
  split <;> omega
theorem tl_exp_r (v w : tl_L) : ∀ (k : Nat) (n : Int), 0 ≤ n → n + k ≤ 7 → 0 ≤ tl_exp v w k n ∧ tl_exp v w k n ≤ 6
  | 0, n, h, g => by unfold tl_exp; omega
  | k + 1, n, h, g => by
    unfold tl_exp
    split
    · omega
    · exact tl_exp_r v w k (n + 1) (by omega) (by omega)
/-- the step w is taken: points for the plan's own step, one more line -/
def zacc (z : tl_Z) (w : tl_L) : tl_Z := zapp (if 0 < tl_plan (zl z (zn z - 1)) ∧ tl_planv (zl z (zn z - 1)) = w then zpt z (tl_plan (zl z (zn z - 1))).toNat (if 10 < zp z (tl_plan (zl z (zn z - 1))).toNat + 1 then 10 else zp z (tl_plan (zl z (zn z - 1))).toNat + 1) else z) w
def zrf0 (z : tl_Z) (w : tl_L) : tl_Z := (zt z, zn z, zl z, 1, tl_exp (zl z (zn z - 1)) w 6 1, w, zp z, za z)
/-- the step w is refused: its slip, points lost -/
def zref (z : tl_Z) (w : tl_L) : tl_Z := if 0 < tl_exp (zl z (zn z - 1)) w 6 1 then zpt (zrf0 z w) (if 3 < tl_exp (zl z (zn z - 1)) w 6 1 then 3 else tl_exp (zl z (zn z - 1)) w 6 1).toNat (if zp z (if 3 < tl_exp (zl z (zn z - 1)) w 6 1 then 3 else tl_exp (zl z (zn z - 1)) w 6 1).toNat - 1 < 0 then 0 else zp z (if 3 < tl_exp (zl z (zn z - 1)) w 6 1 then 3 else tl_exp (zl z (zn z - 1)) w 6 1).toNat - 1) else zrf0 z w
theorem so_fr {lo hi a : Nat} {M M1 : tm_M} (h : tm_fr lo hi M M1) (g : a + 3 ≤ lo ∨ hi ≤ a) : so M1 a = so M a := by
  show (mI M1 a 0, fr M1 (a + 1)) = _
  rw [(h.2 a 0 (by omega)).1, fw_fr h (by omega)]
theorem TL_rf0 {sh : tm_sh} {M M1 : tm_M} {T : Nat} {z : tl_Z} {w : tl_L} (hT : isTL sh M T) (h : TLv M T z) (hn : 0 < zn z) (f : tm_fr (T + 376) (T + 383) (sI M T 8 1) M1) (hw : lok w) (hs : so M (T + 386) = tl_solve w) : TLp sh T M (zrf0 z w) (sI M1 T 9 (tl_exp (zl z (zn z - 1)) w 6 1)) := by
  obtain ⟨h1, h2, h3, h4, h5, h6⟩ := h
  have eo : ∀ a j, a ≠ T → (a < T + 376 ∨ T + 383 ≤ a) → mI (sI M1 T 9 (tl_exp (zl z (zn z - 1)) w 6 1)) a j = mI M a j := fun a j ha hb => (tm_up_a _ _ ha).trans ((f.2 a j hb).1.trans (tm_up_a _ _ ha))
  have el : ∀ a j, (a < T + 376 ∨ T + 383 ≤ a) → mL (sI M1 T 9 (tl_exp (zl z (zn z - 1)) w 6 1)) a j = mL M a j := fun a j hb => (f.2 a j hb).2
  have rr := tl_exp_r (zl z (zn z - 1)) w 6 1 (by decide) (by decide)
  refine ⟨isTL_m hT f.1, ⟨fun j => by rw [eo _ _ (by omega) (by omega)]; exact h1 j, ⟨?_, h2.2⟩, fun i hi => ?_, ⟨?_, Or.inr rfl, fun q => ⟨?_, ?_, ?_, hw⟩⟩, fun j k1 k2 => by rw [eo _ _ (by omega) (by omega)]; exact h5 j k1 k2, fun j hj => by rw [eo _ _ (by omega) (by omega)]; exact h6 j hj⟩, fun a k q => ⟨by rw [show mR (sI M1 T 9 (tl_exp (zl z (zn z - 1)) w 6 1)) = mR M from f.1], eo a k (by omega) (by omega), el a k (by omega)⟩⟩
  · exact (tm_up_k _ _ (by decide)).trans ((f.2 T 3 (by omega)).1.trans ((tm_up_k _ _ (by decide)).trans h2.1))
  · have hi' : i < zn z := hi
    have := h2.2
    rw [ln_sI (by omega), fw_ln f (by omega), ln_sI (by omega)]; exact h3 i hi
  · exact (tm_up_k _ _ (by decide)).trans ((f.2 T 8 (by omega)).1.trans (tm_up_s _ _ _ _))
  · exact tm_up_s _ _ _ _
  · show inI (tl_exp (zl z (zn z - 1)) w 6 1); omega
  · rw [show zw (zrf0 z w) = w from rfl, ← hs]
    show (mI (sI M1 T 9 (tl_exp (zl z (zn z - 1)) w 6 1)) (T + 386) 0, fr M1 (T + 386 + 1)) = (mI M (T + 386) 0, fr (sI M T 8 1) (T + 386 + 1))
    rw [eo _ _ (by omega) (by omega), fw_fr f (by omega)]
theorem dX8_accept_0 : decode cX8_accept 0 = .ok (.aload_n 0, 1) := by decide +kernel
theorem dX8_accept_1 : decode cX8_accept 1 = .ok (.invokevirtual 87, 3) := by decide +kernel
theorem dX8_accept_4 : decode cX8_accept 4 = .ok (.aload_n 0, 1) := by decide +kernel
theorem dX8_accept_5 : decode cX8_accept 5 = .ok (.getfield 31, 3) := by decide +kernel
theorem dX8_accept_8 : decode cX8_accept 8 = .ok (.invokestatic 124, 3) := by decide +kernel
theorem dX8_accept_11 : decode cX8_accept 11 = .ok (.istore_n 1, 1) := by decide +kernel
theorem dX8_accept_12 : decode cX8_accept 12 = .ok (.iload_n 1, 1) := by decide +kernel
theorem dX8_accept_13 : decode cX8_accept 13 = .ok (.ifCond .le 36, 3) := by decide +kernel
theorem dX8_accept_16 : decode cX8_accept 16 = .ok (.aload_n 0, 1) := by decide +kernel
theorem dX8_accept_17 : decode cX8_accept 17 = .ok (.getfield 31, 3) := by decide +kernel
theorem dX8_accept_20 : decode cX8_accept 20 = .ok (.aload_n 0, 1) := by decide +kernel
theorem dX8_accept_21 : decode cX8_accept 21 = .ok (.getfield 27, 3) := by decide +kernel
theorem dX8_accept_24 : decode cX8_accept 24 = .ok (.invokevirtual 170, 3) := by decide +kernel
theorem dX8_accept_27 : decode cX8_accept 27 = .ok (.ifCond .eq 22, 3) := by decide +kernel
theorem dX8_accept_30 : decode cX8_accept 30 = .ok (.aload_n 0, 1) := by decide +kernel
theorem dX8_accept_31 : decode cX8_accept 31 = .ok (.getfield 58, 3) := by decide +kernel
theorem dX8_accept_34 : decode cX8_accept 34 = .ok (.iload_n 1, 1) := by decide +kernel
theorem dX8_accept_35 : decode cX8_accept 35 = .ok (.aload_n 0, 1) := by decide +kernel
theorem dX8_accept_36 : decode cX8_accept 36 = .ok (.getfield 58, 3) := by decide +kernel
theorem dX8_accept_39 : decode cX8_accept 39 = .ok (.iload_n 1, 1) := by decide +kernel
theorem dX8_accept_40 : decode cX8_accept 40 = .ok (.iaload, 1) := by decide +kernel
theorem dX8_accept_41 : decode cX8_accept 41 = .ok (.iconst 1, 1) := by decide +kernel
theorem dX8_accept_42 : decode cX8_accept 42 = .ok (.iadd, 1) := by decide +kernel
theorem dX8_accept_43 : decode cX8_accept 43 = .ok (.bipush 10, 2) := by decide +kernel
theorem dX8_accept_45 : decode cX8_accept 45 = .ok (.invokestatic 174, 3) := by decide +kernel
theorem dX8_accept_48 : decode cX8_accept 48 = .ok (.iastore, 1) := by decide +kernel
theorem dX8_accept_49 : decode cX8_accept 49 = .ok (.aload_n 0, 1) := by decide +kernel
theorem dX8_accept_50 : decode cX8_accept 50 = .ok (.aload_n 0, 1) := by decide +kernel
theorem dX8_accept_51 : decode cX8_accept 51 = .ok (.getfield 27, 3) := by decide +kernel
theorem dX8_accept_54 : decode cX8_accept 54 = .ok (.invokevirtual 77, 3) := by decide +kernel
theorem dX8_accept_57 : decode cX8_accept 57 = .ok (.return_, 1) := by decide +kernel
set_option maxHeartbeats 4000000 in
set_option maxRecDepth 100000 in
/-- TutorLines.accept -/
theorem c_X8_accept {l : Launch} {G : tm_G} {Hb : Heap} {sh : tm_sh} {M : tm_M} {T : Nat} {z : tl_Z} (hT : isTL sh M T) (hz : TLv M T z) (hn : 0 < zn z ∧ zn z < 40) (hv : lok (ln M (T + 369))) : Met l yX8_accept (tws yX8_accept cX8_accept 2 none) ({ frames := 5, cells := 0, slots := 0, locals := 118 }) (va_Pc [.ref T] (tm_St G Hb sh M)) (tm_Qv G Hb sh (fun M1 => TLp sh T M (zacc z (ln M (T + 369))) M1)) 0 0 (tm_A Hb) := by
  refine tm_begin (by decide) (Nat.le_of_ble_eq_true rfl) (fun p e s m below meth c ls hx hb hr hml hown htw hlk hnm hK hW hl => ?_)
  have hS : va_S (tm_A Hb) s.heap s.heap [] := va_S.rf
  have hl : lv_has ls 2 [(0, .ref T)] := hl
  have hT0 := hT
  have hrow := tl_row hT hz hn.1
  have h3 := hz.2.1
  obtain ⟨a0, ⟨r0, r1, r2, r4, r5, r6, r7, r10, r11, r12, r13⟩, ⟨s1, s2, s88, s389, s390, s393, s394⟩, hRd, hLs, hWr, hSc, hPs, hWs⟩ := hT
  have tail : ∀ (z9 : tl_Z) (M9 : tm_M) (H : Heap) (locs : List Loc) (ls : Array Slot), zapp z9 (ln M (T + 369)) = zacc z (ln M (T + 369)) → TLp sh T M z9 M9 → zn z9 = zn z → ln M9 (T + 369) = ln M (T + 369) → tm_W G Hb sh M9 H → va_S (tm_A Hb) s.heap H locs → lv_has ls 2 [(0, .ref T)] → W p l e ({ frames := 5, cells := 0, slots := 0, locals := 118 }) s m [.ref T].toArray below meth c H locs 0 0 (MQ below (tm_Qv G Hb sh (fun M1 => TLp sh T M (zacc z (ln M (T + 369))) M1)) [.ref T].toArray s 0 0 (tm_A Hb)) (F0 m 49 ls []) := by
    intro z9 M9 H locs ls hz9 hP hn9 hl9 hW hS hl
    obtain ⟨a0b, ⟨r0b, r1b, r2b, r4b, r5b, r6b, r7b, r10b, r11b, r12b, r13b⟩, ⟨s1b, s2b, s88b, s389b, s390b, s393b, s394b⟩, hRdb, hLsb, hWrb, hScb, hPsb, hWsb⟩ := hP.1
    refine lv_aload_n hx hb dX8_accept_49 rfl (lv_at hl 0 rfl) ?_
    refine lv_aload_n hx hb dX8_accept_50 rfl (lv_at hl 0 rfl) ?_
    refine gf_X8_27 hx hb htw hown hK hW (by assumption) (by assumption) dX8_accept_51 ?_
    refine tm_callv (cs_X8_77 hx hb hml hown htw hK hW (by assumption) (c_X8_append hP.1 hP.2.1 (by omega) hWrb (by omega) (by rw [hl9]; exact hv)) ⟨rfl, rfl, Nat.le_of_ble_eq_true rfl, Nat.le_of_ble_eq_true rfl⟩ hl.1 (Nat.le_of_ble_eq_true rfl) dX8_accept_54 ⟨Nat.le_of_ble_eq_true rfl, Nat.le_of_ble_eq_true rfl⟩) hS (fun M54 H locs hp54 hW hS => ?_)
    exact tm_vret hx hb hr hlk hK hW hS (by rw [← hz9, ← hl9]; exact TLp_tr hP hp54) dX8_accept_57
  refine lv_aload_n hx hb dX8_accept_0 rfl (lv_at hl 0 rfl) ?_
  refine tm_calla (cs_X8_87 hx hb hml hown htw hK hW (by assumption) (c_X8_present hT0 h3.1 (by omega)) ⟨rfl, rfl, Nat.le_of_ble_eq_true rfl, Nat.le_of_ble_eq_true rfl⟩ hl.1 (Nat.le_of_ble_eq_true rfl) dX8_accept_1 ⟨Nat.le_of_ble_eq_true rfl, Nat.le_of_ble_eq_true rfl⟩) hS (fun x1 M1 H locs hp1 hW hS => ?_)
  obtain ⟨ex1, eM1⟩ := hp1
  rw [eM1] at hW
  rw [ex1]
  refine lv_aload_n hx hb dX8_accept_4 rfl (lv_at hl 0 rfl) ?_
  refine gf_X8_31 hx hb htw hown hK hW (by assumption) (by assumption) dX8_accept_5 ?_
  refine tm_calli (cs_X8_124 hx hb hml hown htw hK hW (c_X3_write hrow.2.1 hSc (by omega) (by rw [hrow.2.2.1]; exact hrow.2.2.2)) ⟨rfl, rfl, Nat.le_of_ble_eq_true rfl, Nat.le_of_ble_eq_true rfl⟩ hl.1 (Nat.le_of_ble_eq_true rfl) dX8_accept_8 ⟨Nat.le_of_ble_eq_true rfl, Nat.le_of_ble_eq_true rfl⟩) hS (fun x8 M8 H locs hp8 hW hS => ?_)
  obtain ⟨ex8, el8, f8⟩ := hp8
  rw [hrow.2.2.1] at ex8 el8
  rw [ex8]
  have T8 : isTL sh M8 T := isTL_m hT0 f8.1
  have v8 : TLv M8 T z := TLv_fr hz f8 (by omega)
  have w8 : ln M8 (T + 369) = ln M (T + 369) := fw_ln f8 (by omega)
  have P8 : TLp sh T M z M8 := ⟨T8, v8, fT_fr f8 (by omega) (by omega)⟩
  have pr := tl_plan_r (zl z (zn z - 1))
  have T8a := T8
  obtain ⟨a0a, ⟨r0a, r1a, r2a, r4a, r5a, r6a, r7a, r10a, r11a, r12a, r13a⟩, ⟨s1a, s2a, s88a, s389a, s390a, s393a, s394a⟩, hRda, hLsa, hWra, hSca, hPsa, hWsa⟩ := T8a
  refine lv_istore_n (lv' := [(1, _), (0, _)]) hx hb dX8_accept_11 rfl hl (by decide) rfl (fun ls hl => ?_)
  refine lv_iload_n hx hb dX8_accept_12 rfl (lv_at hl 0 rfl) ?_
  refine ti_if_le (tgt := 49) hx hb dX8_accept_13 (by decide) (by omega) (fun h13 => ?_) (fun h13 => ?_)
  · first
    | exact tail z M8 _ _ _ (by unfold zacc; rw [if_neg (fun q => tl_b_0.mp h27 q.2)]) P8 rfl w8 hW hS (lv_sub hl [1] rfl)
    | exact tail z M8 _ _ _ (by unfold zacc; rw [if_neg (fun q => absurd q.1 (by omega))]) P8 rfl w8 hW hS (lv_sub hl [1] rfl)
    | (rw [pv] at hW; exact tail (zpt z (tl_plan (zl z (zn z - 1))).toNat (if 10 < zp z (tl_plan (zl z (zn z - 1))).toNat + 1 then 10 else zp z (tl_plan (zl z (zn z - 1))).toNat + 1)) _ _ _ _ (by unfold zacc; exact congrArg (fun q => zapp q (ln M (T + 369))) (if_pos ⟨by omega, same⟩).symm) (TLp_tr P8 (TL_pt T8 v8 (by omega) (tl_up10 p1 p2))) rfl ((ln_sI (by omega)).trans w8) hW hS (lv_sub hl [1] rfl))
  · refine lv_aload_n hx hb dX8_accept_16 rfl (lv_at hl 1 rfl) ?_
    refine gf_X8_31 hx hb htw hown hK hW (by assumption) (by assumption) dX8_accept_17 ?_
    refine lv_aload_n hx hb dX8_accept_20 rfl (lv_at hl 1 rfl) ?_
    refine gf_X8_27 hx hb htw hown hK hW (by assumption) (by assumption) dX8_accept_21 ?_
    refine tm_calli (cs_X8_170 hx hb hml hown htw hK hW hSca.1 (c_X1_sameAs hSca hWra (lLok_at (by rw [el8]; exact lLok_plan hrow.2.2.2)) (lLok_at (by rw [w8]; exact lLok_of hv)) (by have := tl_planv_r hrow.2.2.2; rw [show mI M8 (T + 376) 2 = (tl_planv (zl z (zn z - 1))).2.2 from congrArg (fun v => v.2.2) el8]; omega) (by have := hv.2.2; rw [show mI M8 (T + 369) 2 = (ln M (T + 369)).2.2 from congrArg (fun v => v.2.2) w8]; omega)) ⟨rfl, rfl, Nat.le_of_ble_eq_true rfl, Nat.le_of_ble_eq_true rfl⟩ hl.1 (Nat.le_of_ble_eq_true rfl) dX8_accept_24 ⟨Nat.le_of_ble_eq_true rfl, Nat.le_of_ble_eq_true rfl⟩) hS (fun x24 M24 H locs hp24 hW hS => ?_)
    obtain ⟨ex24, eM24⟩ := hp24
    rw [eM24] at hW
    rw [ex24, el8, w8]
    refine ti_if_eq (tgt := 49) hx hb dX8_accept_27 (by decide) (tl_b_r _) (fun h27 => ?_) (fun h27 => ?_)
    · first
      | exact tail z M8 _ _ _ (by unfold zacc; rw [if_neg (fun q => tl_b_0.mp h27 q.2)]) P8 rfl w8 hW hS (lv_sub hl [1] rfl)
      | exact tail z M8 _ _ _ (by unfold zacc; rw [if_neg (fun q => absurd q.1 (by omega))]) P8 rfl w8 hW hS (lv_sub hl [1] rfl)
      | (rw [pv] at hW; exact tail (zpt z (tl_plan (zl z (zn z - 1))).toNat (if 10 < zp z (tl_plan (zl z (zn z - 1))).toNat + 1 then 10 else zp z (tl_plan (zl z (zn z - 1))).toNat + 1)) _ _ _ _ (by unfold zacc; exact congrArg (fun q => zapp q (ln M (T + 369))) (if_pos ⟨by omega, same⟩).symm) (TLp_tr P8 (TL_pt T8 v8 (by omega) (tl_up10 p1 p2))) rfl ((ln_sI (by omega)).trans w8) hW hS (lv_sub hl [1] rfl))
    · have same := tl_b_n.mp h27
      obtain ⟨pv, p1, p2⟩ := v8.2.2.2.2.1 (tl_plan (zl z (zn z - 1))).toNat (by omega) (by omega)
      refine lv_aload_n hx hb dX8_accept_30 rfl (lv_at hl 1 rfl) ?_
      refine gf_X8_58 hx hb htw hown hK hW (by assumption) (by assumption) dX8_accept_31 ?_
      refine lv_iload_n hx hb dX8_accept_34 rfl (lv_at hl 0 rfl) ?_
      refine lv_aload_n hx hb dX8_accept_35 rfl (lv_at hl 1 rfl) ?_
      refine gf_X8_58 hx hb htw hown hK hW (by assumption) (by assumption) dX8_accept_36 ?_
      refine lv_iload_n hx hb dX8_accept_39 rfl (lv_at hl 0 rfl) ?_
      refine tm_iald hx hb hK hW (by assumption) (by omega) (by omega) (by decide) dX8_accept_40 ?_
      refine ti_iconst hx hb dX8_accept_41 ?_
      refine ti_iadd hx hb dX8_accept_42 ?_
      refine ti_bipush hx hb dX8_accept_43 (by decide) ?_
      refine tm_min hx hb hml hl.1 hown htw mm_X8_174 ⟨Nat.le_of_ble_eq_true rfl, Nat.le_of_ble_eq_true rfl⟩ (Nat.le_of_ble_eq_true rfl) ⟨Nat.zero_le _, Nat.zero_le _⟩ (by rw [pv]; omega) (by decide) dX8_accept_45 ?_
      refine tm_iast hx hb hK hW hS (by assumption) (by omega) (by omega) (by decide) dX8_accept_48 (fun H locs hW hS => ?_)
      first
      | exact tail z M8 _ _ _ (by unfold zacc; rw [if_neg (fun q => tl_b_0.mp h27 q.2)]) P8 rfl w8 hW hS (lv_sub hl [1] rfl)
      | exact tail z M8 _ _ _ (by unfold zacc; rw [if_neg (fun q => absurd q.1 (by omega))]) P8 rfl w8 hW hS (lv_sub hl [1] rfl)
      | (rw [pv] at hW; exact tail (zpt z (tl_plan (zl z (zn z - 1))).toNat (if 10 < zp z (tl_plan (zl z (zn z - 1))).toNat + 1 then 10 else zp z (tl_plan (zl z (zn z - 1))).toNat + 1)) _ _ _ _ (by unfold zacc; exact congrArg (fun q => zapp q (ln M (T + 369))) (if_pos ⟨by omega, same⟩).symm) (TLp_tr P8 (TL_pt T8 v8 (by omega) (tl_up10 p1 p2))) rfl ((ln_sI (by omega)).trans w8) hW hS (lv_sub hl [1] rfl))
theorem dX8_refuse_0 : decode cX8_refuse 0 = .ok (.aload_n 0, 1) := by decide +kernel
theorem dX8_refuse_1 : decode cX8_refuse 1 = .ok (.iconst 1, 1) := by decide +kernel
theorem dX8_refuse_2 : decode cX8_refuse 2 = .ok (.putfield 104, 3) := by decide +kernel
theorem dX8_refuse_5 : decode cX8_refuse 5 = .ok (.aload_n 0, 1) := by decide +kernel
theorem dX8_refuse_6 : decode cX8_refuse 6 = .ok (.aload_n 0, 1) := by decide +kernel
theorem dX8_refuse_7 : decode cX8_refuse 7 = .ok (.invokevirtual 87, 3) := by decide +kernel
theorem dX8_refuse_10 : decode cX8_refuse 10 = .ok (.aload_n 0, 1) := by decide +kernel
theorem dX8_refuse_11 : decode cX8_refuse 11 = .ok (.getfield 27, 3) := by decide +kernel
theorem dX8_refuse_14 : decode cX8_refuse 14 = .ok (.aload_n 0, 1) := by decide +kernel
theorem dX8_refuse_15 : decode cX8_refuse 15 = .ok (.getfield 31, 3) := by decide +kernel
theorem dX8_refuse_18 : decode cX8_refuse 18 = .ok (.invokestatic 180, 3) := by decide +kernel
theorem dX8_refuse_21 : decode cX8_refuse 21 = .ok (.putfield 108, 3) := by decide +kernel
theorem dX8_refuse_24 : decode cX8_refuse 24 = .ok (.aload_n 0, 1) := by decide +kernel
theorem dX8_refuse_25 : decode cX8_refuse 25 = .ok (.getfield 108, 3) := by decide +kernel
theorem dX8_refuse_28 : decode cX8_refuse 28 = .ok (.ifCond .le 30, 3) := by decide +kernel
theorem dX8_refuse_31 : decode cX8_refuse 31 = .ok (.aload_n 0, 1) := by decide +kernel
theorem dX8_refuse_32 : decode cX8_refuse 32 = .ok (.getfield 108, 3) := by decide +kernel
theorem dX8_refuse_35 : decode cX8_refuse 35 = .ok (.iconst 3, 1) := by decide +kernel
theorem dX8_refuse_36 : decode cX8_refuse 36 = .ok (.invokestatic 174, 3) := by decide +kernel
theorem dX8_refuse_39 : decode cX8_refuse 39 = .ok (.istore_n 1, 1) := by decide +kernel
theorem dX8_refuse_40 : decode cX8_refuse 40 = .ok (.aload_n 0, 1) := by decide +kernel
theorem dX8_refuse_41 : decode cX8_refuse 41 = .ok (.getfield 58, 3) := by decide +kernel
theorem dX8_refuse_44 : decode cX8_refuse 44 = .ok (.iload_n 1, 1) := by decide +kernel
theorem dX8_refuse_45 : decode cX8_refuse 45 = .ok (.aload_n 0, 1) := by decide +kernel
theorem dX8_refuse_46 : decode cX8_refuse 46 = .ok (.getfield 58, 3) := by decide +kernel
theorem dX8_refuse_49 : decode cX8_refuse 49 = .ok (.iload_n 1, 1) := by decide +kernel
theorem dX8_refuse_50 : decode cX8_refuse 50 = .ok (.iaload, 1) := by decide +kernel
theorem dX8_refuse_51 : decode cX8_refuse 51 = .ok (.iconst 1, 1) := by decide +kernel
theorem dX8_refuse_52 : decode cX8_refuse 52 = .ok (.isub, 1) := by decide +kernel
theorem dX8_refuse_53 : decode cX8_refuse 53 = .ok (.iconst 0, 1) := by decide +kernel
theorem dX8_refuse_54 : decode cX8_refuse 54 = .ok (.invokestatic 186, 3) := by decide +kernel
theorem dX8_refuse_57 : decode cX8_refuse 57 = .ok (.iastore, 1) := by decide +kernel
theorem dX8_refuse_58 : decode cX8_refuse 58 = .ok (.return_, 1) := by decide +kernel
set_option maxHeartbeats 4000000 in
set_option maxRecDepth 100000 in
/-- TutorLines.refuse -/
theorem c_X8_refuse {l : Launch} {G : tm_G} {Hb : Heap} {sh : tm_sh} {M : tm_M} {T : Nat} {z : tl_Z} (hT : isTL sh M T) (hz : TLv M T z) (hn : 0 < zn z) (hv : lok (ln M (T + 369))) (hs : so M (T + 386) = tl_solve (ln M (T + 369))) : Met l yX8_refuse (tws yX8_refuse cX8_refuse 2 none) ({ frames := 6, cells := 0, slots := 0, locals := 143 }) (va_Pc [.ref T] (tm_St G Hb sh M)) (tm_Qv G Hb sh (fun M1 => TLp sh T M (zref z (ln M (T + 369))) M1)) 0 0 (tm_A Hb) := by
  refine tm_begin (by decide) (Nat.le_of_ble_eq_true rfl) (fun p e s m below meth c ls hx hb hr hml hown htw hlk hnm hK hW hl => ?_)
  have hS : va_S (tm_A Hb) s.heap s.heap [] := va_S.rf
  have hl : lv_has ls 2 [(0, .ref T)] := hl
  have hT0 := hT
  have hrow := tl_row hT hz hn
  have h3 := hz.2.1
  have sr := tl_exp_r (zl z (zn z - 1)) (ln M (T + 369)) 6 1 (by decide) (by decide)
  obtain ⟨a0, ⟨r0, r1, r2, r4, r5, r6, r7, r10, r11, r12, r13⟩, ⟨s1, s2, s88, s389, s390, s393, s394⟩, hRd, hLs, hWr, hSc, hPs, hWs⟩ := hT
  have e3 : mI (sI M T 8 1) T 3 = zn z := (tm_up_k _ _ (by decide)).trans h3.1
  have l2 : ln (sI M T 8 1) (T + 89 + 7 * (zn z - 1)) = (zl z (zn z - 1)) := (ln_sI (by omega)).trans hrow.2.2.1
  have w2 : ln (sI M T 8 1) (T + 369) = ln M (T + 369) := ln_sI (by omega)
  refine lv_aload_n hx hb dX8_refuse_0 rfl (lv_at hl 0 rfl) ?_
  refine ti_iconst hx hb dX8_refuse_1 ?_
  refine pf_X8_104 hx hb htw hown hK hW (by assumption) hS (Or.inr rfl) dX8_refuse_2 (fun H locs hW hS => ?_)
  refine lv_aload_n hx hb dX8_refuse_5 rfl (lv_at hl 0 rfl) ?_
  refine lv_aload_n hx hb dX8_refuse_6 rfl (lv_at hl 0 rfl) ?_
  refine tm_calla (cs_X8_87 hx hb hml hown htw hK hW (by assumption) (c_X8_present (isTL_m hT0 rfl) e3 (by omega)) ⟨rfl, rfl, Nat.le_of_ble_eq_true rfl, Nat.le_of_ble_eq_true rfl⟩ hl.1 (Nat.le_of_ble_eq_true rfl) dX8_refuse_7 ⟨Nat.le_of_ble_eq_true rfl, Nat.le_of_ble_eq_true rfl⟩) hS (fun x7 M7 H locs hp7 hW hS => ?_)
  obtain ⟨ex7, eM7⟩ := hp7
  rw [eM7] at hW
  rw [ex7]
  refine lv_aload_n hx hb dX8_refuse_10 rfl (lv_at hl 0 rfl) ?_
  refine gf_X8_27 hx hb htw hown hK hW (by assumption) r4 dX8_refuse_11 ?_
  refine lv_aload_n hx hb dX8_refuse_14 rfl (lv_at hl 0 rfl) ?_
  refine gf_X8_31 hx hb htw hown hK hW (by assumption) r5 dX8_refuse_15 ?_
  refine tm_calli (cs_X8_180 hx hb hml hown htw hK hW (c_X6_explain (isLn_m hrow.2.1 rfl) (isLn_m hWr rfl) (isLn_m hSc rfl) (by omega) (by omega) (by rw [l2]; exact hrow.2.2.2) (by rw [w2]; exact lLok_of hv) (by rw [w2]; have := hv.2.2; omega)) ⟨rfl, rfl, Nat.le_of_ble_eq_true rfl, Nat.le_of_ble_eq_true rfl⟩ hl.1 (Nat.le_of_ble_eq_true rfl) dX8_refuse_18 ⟨Nat.le_of_ble_eq_true rfl, Nat.le_of_ble_eq_true rfl⟩) hS (fun x18 M18 H locs hp18 hW hS => ?_)
  obtain ⟨ex18, f18⟩ := hp18
  rw [l2, w2] at ex18
  rw [ex18]
  have P21 := TL_rf0 hT0 hz hn f18 hv hs
  refine pf_X8_108 hx hb htw hown hK hW (by assumption) hS dX8_refuse_21 (fun H locs hW hS => ?_)
  generalize h21 : (sI M18 T 9 (tl_exp (zl z (zn z - 1)) (ln M (T + 369)) 6 1)) = M21 at hW P21
  have e9 : mI M21 T 9 = (tl_exp (zl z (zn z - 1)) (ln M (T + 369)) 6 1) := by rw [← h21]; exact tm_up_s _ _ _ _
  have q21 := P21
  refine lv_aload_n hx hb dX8_refuse_24 rfl (lv_at hl 0 rfl) ?_
  refine gf_X8_108 hx hb htw hown hK hW (by assumption) dX8_refuse_25 ?_
  rw [e9]
  refine ti_if_le (tgt := 58) hx hb dX8_refuse_28 (by decide) (by omega) (fun h28 => ?_) (fun h28 => ?_)
  · first
    | (rw [pv] at hW; exact tm_vret hx hb hr hlk hK hW hS (by unfold zref; rw [if_pos (by omega)]; exact TLp_tr P21 (TL_pt P21.1 P21.2.1 (by omega) (tl_dn0 p1 p2))) dX8_refuse_58)
    | exact tm_vret hx hb hr hlk hK hW hS (by unfold zref; rw [if_neg (by omega)]; exact P21) dX8_refuse_58
  · refine lv_aload_n hx hb dX8_refuse_31 rfl (lv_at hl 0 rfl) ?_
    refine gf_X8_108 hx hb htw hown hK hW (by assumption) dX8_refuse_32 ?_
    rw [e9]
    refine ti_iconst hx hb dX8_refuse_35 ?_
    refine tm_min hx hb hml hl.1 hown htw mm_X8_174 ⟨Nat.le_of_ble_eq_true rfl, Nat.le_of_ble_eq_true rfl⟩ (Nat.le_of_ble_eq_true rfl) ⟨Nat.zero_le _, Nat.zero_le _⟩ (by omega) (by decide) dX8_refuse_36 ?_
    refine lv_istore_n (lv' := [(1, _), (0, _)]) hx hb dX8_refuse_39 rfl hl (by decide) rfl (fun ls hl => ?_)
    have kb := tl_k3 (x := (tl_exp (zl z (zn z - 1)) (ln M (T + 369)) 6 1)) (by omega)
    obtain ⟨pv, p1, p2⟩ := P21.2.1.2.2.2.2.1 (if 3 < (tl_exp (zl z (zn z - 1)) (ln M (T + 369)) 6 1) then 3 else (tl_exp (zl z (zn z - 1)) (ln M (T + 369)) 6 1)).toNat (by omega) (by omega)
    have pv : mI M21 (T + 393) (if 3 < (tl_exp (zl z (zn z - 1)) (ln M (T + 369)) 6 1) then 3 else (tl_exp (zl z (zn z - 1)) (ln M (T + 369)) 6 1)).toNat = zp z (if 3 < (tl_exp (zl z (zn z - 1)) (ln M (T + 369)) 6 1) then 3 else (tl_exp (zl z (zn z - 1)) (ln M (T + 369)) 6 1)).toNat := pv
    have p1 : 0 ≤ zp z (if 3 < (tl_exp (zl z (zn z - 1)) (ln M (T + 369)) 6 1) then 3 else (tl_exp (zl z (zn z - 1)) (ln M (T + 369)) 6 1)).toNat := p1
    have p2 : zp z (if 3 < (tl_exp (zl z (zn z - 1)) (ln M (T + 369)) 6 1) then 3 else (tl_exp (zl z (zn z - 1)) (ln M (T + 369)) 6 1)).toNat ≤ 10 := p2
    refine lv_aload_n hx hb dX8_refuse_40 rfl (lv_at hl 1 rfl) ?_
    refine gf_X8_58 hx hb htw hown hK hW (by assumption) (show mR M21 T 12 = some (T + 393) from q21.1.2.1.2.2.2.2.2.2.2.2.2.1) dX8_refuse_41 ?_
    refine lv_iload_n hx hb dX8_refuse_44 rfl (lv_at hl 0 rfl) ?_
    refine lv_aload_n hx hb dX8_refuse_45 rfl (lv_at hl 1 rfl) ?_
    refine gf_X8_58 hx hb htw hown hK hW (by assumption) (show mR M21 T 12 = some (T + 393) from q21.1.2.1.2.2.2.2.2.2.2.2.2.1) dX8_refuse_46 ?_
    refine lv_iload_n hx hb dX8_refuse_49 rfl (lv_at hl 0 rfl) ?_
    refine tm_iald hx hb hK hW (by assumption) (by omega) (by omega) (by decide) dX8_refuse_50 ?_
    refine ti_iconst hx hb dX8_refuse_51 ?_
    refine ti_isub hx hb dX8_refuse_52 ?_
    refine ti_iconst hx hb dX8_refuse_53 ?_
    refine tm_max hx hb hml hl.1 hown htw mm_X8_186 ⟨Nat.le_of_ble_eq_true rfl, Nat.le_of_ble_eq_true rfl⟩ (Nat.le_of_ble_eq_true rfl) ⟨Nat.zero_le _, Nat.zero_le _⟩ (by rw [pv]; omega) (by decide) dX8_refuse_54 ?_
    refine tm_iast hx hb hK hW hS (by assumption) (by omega) (by omega) (by decide) dX8_refuse_57 (fun H locs hW hS => ?_)
    first
    | (rw [pv] at hW; exact tm_vret hx hb hr hlk hK hW hS (by unfold zref; rw [if_pos (by omega)]; exact TLp_tr P21 (TL_pt P21.1 P21.2.1 (by omega) (tl_dn0 p1 p2))) dX8_refuse_58)
    | exact tm_vret hx hb hr hlk hK hW hS (by unfold zref; rw [if_neg (by omega)]; exact P21) dX8_refuse_58
