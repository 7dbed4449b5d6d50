/-! TutorLines: begin, step, take, witness, line, solutions (by program: wip/whole/gen/tl5.py) -/
theorem lok_planv {v : tl_L} (h : lok v) (hp : 0 < tl_plan v) : lok (tl_planv v) := by
  have hf : lfit (tl_planv v) := by
    unfold tl_plan at hp
    by_cases q : lfit (tl_planv v)
    · exact q
    · rw [if_neg q] at hp
      exact absurd hp (by decide)
  have hk := tl_kind_r v
  have hkp : 0 < tl_kind v := by
    unfold tl_plan at hp
    rw [if_pos hf] at hp
    exact hp
  have z3 : tl_kind v = 3 → ¬ v.1.1.1 = 0 := tl_kind3
  have e : tl_kind v = 1 ∨ tl_kind v = 2 ∨ tl_kind v = 3 := by omega
  have o1 : fok (1, 1) := fok_num (by decide) (by decide)
  have o0 : fok (0, 1) := fok_num (by decide) (by decide)
  rcases e with e | e | e
  · rw [show tl_planv v = ((fsub v.1.1 v.2.1.1, v.1.2), ((0, 1), v.2.1.2), v.2.2) by unfold tl_planv; rw [if_pos e]] at hf ⊢
    exact ⟨⟨fok_norm (tl_bd h.1.1 h.2.1.1).1 hf.1.1, h.1.2⟩, ⟨o0, h.2.1.2⟩, h.2.2⟩
  · rw [show tl_planv v = ((v.1.1, (0, 1)), (v.2.1.1, fsub v.2.1.2 v.1.2), v.2.2) by unfold tl_planv; rw [if_neg (by omega), if_pos e]] at hf ⊢
    exact ⟨⟨h.1.1, o0⟩, ⟨h.2.1.1, fok_norm (tl_bd h.2.1.2 h.1.2).1 hf.2.2⟩, h.2.2⟩
  · rw [show tl_planv v = (((1, 1), v.1.2), (v.2.1.1, fdiv v.2.1.2 v.1.1), if v.1.1.1 < 0 ∧ ¬ v.2.2 = 0 then 3 - v.2.2 else v.2.2) by unfold tl_planv; rw [if_neg (by omega), if_neg (by omega), if_pos e]] at hf ⊢
    have h2 := h.2.2
    refine ⟨⟨o1, h.1.2⟩, ⟨h.2.1.1, fok_norm (tl_n0 (fok_ab h.2.1.2).2.2 (z3 e)) hf.2.2⟩, ?_⟩
    show 0 ≤ (if v.1.1.1 < 0 ∧ ¬ v.2.2 = 0 then 3 - v.2.2 else v.2.2) ∧ (if v.1.1.1 < 0 ∧ ¬ v.2.2 = 0 then 3 - v.2.2 else v.2.2) ≤ 2
    split <;> omega
/-- read leaves the state as it is -/
theorem TL_rd {sh : tm_sh} {M M1 : tm_M} {T : Nat} {z : tl_Z} (hT : isTL sh M T) (h : TLv M T z) (f : rdW (T + 2) (T + 1) (T + 369) M M1) : TLp sh T M z M1 := by
  refine ⟨isTL_up hT f.1, TLv_same h (fun a k q => ⟨f.2.1 a k (by omega) (by omega), f.2.2 a k (by omega) (by omega)⟩), fun a k q => ⟨?_, f.2.1 a k (by omega) (by omega), f.2.2 a k (by omega) (by omega)⟩⟩
  rw [f.1]
  exact tm_up_a _ _ (by omega)
def z0n (z : tl_Z) : tl_Z := (zt z, 0, zl z, zr z, zs z, zw z, zp z, za z)
theorem TL_0n {sh : tm_sh} {M : tm_M} {T : Nat} {z : tl_Z} (hT : isTL sh M T) (h : TLv M T z) : TLp sh T M (z0n z) (sI M T 3 0) := by
  obtain ⟨h1, h2, h3, h4, h5, h6⟩ := h
  have eo : ∀ a k, (a ≠ T ∨ k ≠ 3) → mI (sI M T 3 0) a k = mI M a k := fun a k ha => by
    rcases ha with ha | ha
    · exact tm_up_a _ _ ha
    · exact tm_up_k _ _ ha
  refine ⟨isTL_m hT rfl, ⟨fun j => by rw [eo _ _ (by omega)]; exact h1 j, ⟨tm_up_s _ _ _ _, Nat.zero_le _⟩, fun i hi => absurd (show i < 0 from hi) (by omega), ⟨by rw [eo _ _ (by omega)]; exact h4.1, h4.2.1, fun q => ?_⟩, fun k k1 k2 => by rw [eo _ _ (by omega)]; exact h5 k k1 k2, fun k hk => by rw [eo _ _ (by omega)]; exact h6 k hk⟩, fun a k q => ⟨rfl, eo a k (by omega), rfl⟩⟩
  obtain ⟨a2, a3, a4, a5⟩ := h4.2.2 q
  refine ⟨by rw [eo _ _ (by omega)]; exact a2, a3, ?_, a5⟩
  rw [show zw (z0n z) = zw z from rfl, ← a4]
  show (mI (sI M T 3 0) (T + 386) 0, fr M (T + 386 + 1)) = _
  rw [eo _ _ (by omega)]
def sp_begin (z : tl_Z) (n : Nat) : Int × tl_Z := match tp_line (zt z) n with
  | .inr f => (-1 - (f : Int), z)
  | .inl w => (0, zapp (z0n z) w)
theorem sp_begin_r {z : tl_Z} {n f : Nat} (h : tp_line (zt z) n = .inr f) : sp_begin z n = (-1 - (f : Int), z) := by unfold sp_begin; rw [h]
theorem sp_begin_l {z : tl_Z} {n : Nat} {w : tl_L} (h : tp_line (zt z) n = .inl w) : sp_begin z n = (0, zapp (z0n z) w) := by unfold sp_begin; rw [h]
/-- the line of the latest step, whose solutions the set holds -/
def zsw (z : tl_Z) (w : tl_L) : tl_Z := (zt z, zn z, zl z, zr z, zs z, w, zp z, za z)
theorem TL_sw {sh : tm_sh} {M M1 : tm_M} {T : Nat} {z : tl_Z} {w : tl_L} (hT : isTL sh M T) (h : TLv M T z) (f : tm_fr (T + 386) (T + 389) M M1) (hw : lok w) (hs : so M1 (T + 386) = tl_solve w) : TLp sh T M (zsw z w) M1 := by
  obtain ⟨h1, h2, h3, h4, h5, h6⟩ := h
  refine ⟨isTL_m hT f.1, ⟨fun j => by rw [(f.2 (T + 1) j (by omega)).1]; exact h1 j, ⟨by rw [(f.2 T 3 (by omega)).1]; exact h2.1, h2.2⟩, fun i hi => ?_, ⟨by rw [(f.2 T 8 (by omega)).1]; exact h4.1, h4.2.1, fun q => ?_⟩, fun k k1 k2 => by rw [(f.2 (T + 393) k (by omega)).1]; exact h5 k k1 k2, fun k hk => by rw [(f.2 (T + 394) k (by omega)).1]; exact h6 k hk⟩, fT_fr f (by omega) (by omega)⟩
  · have hi' : i < zn z := hi
    have := h2.2
    rw [fw_ln f (by omega)]; exact h3 i hi
  · obtain ⟨a2, a3, a4, a5⟩ := h4.2.2 q
    exact ⟨by rw [(f.2 T 9 (by omega)).1]; exact a2, a3, hs, hw⟩
def sp_step (z : tl_Z) (n : Nat) : Int × tl_Z := match tp_line (zt z) n with
  | .inr f => (-1 - (f : Int), z)
  | .inl w => (tl_judge (tl_solve (zl z (zn z - 1))) (tl_solve w), if tl_judge (tl_solve (zl z (zn z - 1))) (tl_solve w) = 1 then zacc (zan (zsw z w) (tl_judge (tl_solve (zl z (zn z - 1))) (tl_solve w)).toNat) w else zref (zan (zsw z w) (tl_judge (tl_solve (zl z (zn z - 1))) (tl_solve w)).toNat) w)
theorem sp_step_r {z : tl_Z} {n f : Nat} (h : tp_line (zt z) n = .inr f) : sp_step z n = (-1 - (f : Int), z) := by unfold sp_step; rw [h]
theorem sp_step_l {z : tl_Z} {n : Nat} {w : tl_L} {a : Int} (h : tp_line (zt z) n = .inl w) (ha : a = tl_judge (tl_solve (zl z (zn z - 1))) (tl_solve w)) : sp_step z n = (a, if a = 1 then zacc (zan (zsw z w) a.toNat) w else zref (zan (zsw z w) a.toNat) w) := by unfold sp_step; rw [h, ha]
theorem tl_judge_r (a b : Int × tl_F) : 0 ≤ tl_judge a b ∧ tl_judge a b ≤ 2 := by
  unfold tl_judge
  split
  · omega
  · split <;> omega
theorem c_X4_readw {l : Launch} {G : tm_G} {Hb : Heap} {sh : tm_sh} {M : tm_M} {rd ta n w : Nat} {t : Nat → Int} {x : Int} (hx : x = (n : Int)) (hR : RD0 sh M rd ta t) (hn : n ≤ 80) (hw : isLn sh M w) (hd : w + 7 ≤ rd ∨ rd + 86 ≤ w) : Met l yX4_read (tws yX4_read cX4_read 4 (some .int)) ({ frames := 69, cells := 0, slots := 0, locals := 1466 }) (va_Pc [.ref rd, .ref ta, ji x, .ref w] (tm_St G Hb sh M)) (tm_Qi G Hb sh (rdP rd ta w n t M)) 0 0 (tm_A Hb) := by
  subst hx
  exact c_X4_read hR hn hw hd
theorem tl_rdF {t : Nat → Int} {n w : Nat} {x : Int} {M9 : tm_M} (h : (∃ L : tl_L, tp_line t n = .inl L ∧ x = -1 ∧ ln M9 w = L ∧ lok L) ∨ ∃ f : Nat, tp_line t n = .inr f ∧ x = f) (hx : ¬ x = -1) : ∃ f : Nat, tp_line t n = .inr f ∧ x = f := by
  rcases h with ⟨L, -, q, -⟩ | q
  · exact absurd q hx
  · exact q
theorem tl_rdL {t : Nat → Int} {n w : Nat} {x : Int} {M9 : tm_M} (h : (∃ L : tl_L, tp_line t n = .inl L ∧ x = -1 ∧ ln M9 w = L ∧ lok L) ∨ ∃ f : Nat, tp_line t n = .inr f ∧ x = f) (hx : x = -1) : ∃ L : tl_L, tp_line t n = .inl L ∧ x = -1 ∧ ln M9 w = L ∧ lok L := by
  rcases h with q | ⟨f, -, q⟩
  · exact q
  · omega
theorem tl_rdr {t : Nat → Int} {n w : Nat} {x : Int} {M9 : tm_M} (h : (∃ L : tl_L, tp_line t n = .inl L ∧ x = -1 ∧ ln M9 w = L ∧ lok L) ∨ ∃ f : Nat, tp_line t n = .inr f ∧ x = f) (hn : n ≤ 80) : inI x := by
  rcases h with ⟨L, -, q, -⟩ | ⟨f, e, q⟩
  · omega
  · have := tp_line_f e
    omega
theorem dX8_begin_0 : decode cX8_begin 0 = .ok (.iload_n 1, 1) := by decide +kernel
theorem dX8_begin_1 : decode cX8_begin 1 = .ok (.iconst 0, 1) := by decide +kernel
theorem dX8_begin_2 : decode cX8_begin 2 = .ok (.bipush 80, 2) := by decide +kernel
theorem dX8_begin_4 : decode cX8_begin 4 = .ok (.invokestatic 65, 3) := by decide +kernel
theorem dX8_begin_7 : decode cX8_begin 7 = .ok (.aload_n 0, 1) := by decide +kernel
theorem dX8_begin_8 : decode cX8_begin 8 = .ok (.getfield 16, 3) := by decide +kernel
theorem dX8_begin_11 : decode cX8_begin 11 = .ok (.aload_n 0, 1) := by decide +kernel
theorem dX8_begin_12 : decode cX8_begin 12 = .ok (.getfield 9, 3) := by decide +kernel
theorem dX8_begin_15 : decode cX8_begin 15 = .ok (.iload_n 1, 1) := by decide +kernel
theorem dX8_begin_16 : decode cX8_begin 16 = .ok (.aload_n 0, 1) := by decide +kernel
theorem dX8_begin_17 : decode cX8_begin 17 = .ok (.getfield 27, 3) := by decide +kernel
theorem dX8_begin_20 : decode cX8_begin 20 = .ok (.invokevirtual 69, 3) := by decide +kernel
theorem dX8_begin_23 : decode cX8_begin 23 = .ok (.istore_n 2, 1) := by decide +kernel
theorem dX8_begin_24 : decode cX8_begin 24 = .ok (.iload_n 2, 1) := by decide +kernel
theorem dX8_begin_25 : decode cX8_begin 25 = .ok (.iconst (-1), 1) := by decide +kernel
theorem dX8_begin_26 : decode cX8_begin 26 = .ok (.if_icmp .eq 7, 3) := by decide +kernel
theorem dX8_begin_29 : decode cX8_begin 29 = .ok (.iconst (-1), 1) := by decide +kernel
theorem dX8_begin_30 : decode cX8_begin 30 = .ok (.iload_n 2, 1) := by decide +kernel
theorem dX8_begin_31 : decode cX8_begin 31 = .ok (.isub, 1) := by decide +kernel
theorem dX8_begin_32 : decode cX8_begin 32 = .ok (.ireturn, 1) := by decide +kernel
theorem dX8_begin_33 : decode cX8_begin 33 = .ok (.aload_n 0, 1) := by decide +kernel
theorem dX8_begin_34 : decode cX8_begin 34 = .ok (.iconst 0, 1) := by decide +kernel
theorem dX8_begin_35 : decode cX8_begin 35 = .ok (.putfield 73, 3) := by decide +kernel
theorem dX8_begin_38 : decode cX8_begin 38 = .ok (.aload_n 0, 1) := by decide +kernel
theorem dX8_begin_39 : decode cX8_begin 39 = .ok (.aload_n 0, 1) := by decide +kernel
theorem dX8_begin_40 : decode cX8_begin 40 = .ok (.getfield 27, 3) := by decide +kernel
theorem dX8_begin_43 : decode cX8_begin 43 = .ok (.invokevirtual 77, 3) := by decide +kernel
theorem dX8_begin_46 : decode cX8_begin 46 = .ok (.iconst 0, 1) := by decide +kernel
theorem dX8_begin_47 : decode cX8_begin 47 = .ok (.ireturn, 1) := by decide +kernel
set_option maxHeartbeats 4000000 in
set_option maxRecDepth 100000 in
/-- TutorLines.begin -/
theorem c_X8_begin {l : Launch} {G : tm_G} {Hb : Heap} {sh : tm_sh} {M : tm_M} {T : Nat} {z : tl_Z} (h9 : l.stackTraces = false) (hT : isTL sh M T) (hz : TLv M T z) {w : Int} (hw : inI w) : vx_Met l yX8_begin (tws yX8_begin cX8_begin 3 (some .int)) ({ frames := 70, cells := 1, slots := 6, locals := 1489 }) (va_Pc [.ref T, ji w] (tx_St G Hb sh M)) (tm_Qi G Hb sh (fun x M1 => (0 ≤ w ∧ w ≤ 80) ∧ x = (sp_begin z w.toNat).1 ∧ TLp sh T M (sp_begin z w.toNat).2 M1)) (tx_X G Hb sh (fun E M1 => E = "java/lang/IllegalArgumentException" ∧ ¬ (0 ≤ w ∧ w ≤ 80) ∧ M1 = M)) 1 6 (tm_A Hb) := by
  refine tx_begin (by decide) (Nat.le_of_ble_eq_true rfl) (fun p e s m below meth c ls hx hb hr hml hown htw hlk htab hK hW hB hl => ?_)
  have hS : va_S (tm_A Hb) s.heap s.heap [] := va_S.rf
  have hl : lv_has ls 3 [(0, .ref T), (1, ji w)] := hl
  have hT0 := hT
  obtain ⟨a0, ⟨r0, r1, r2, r4, r5, r6, r7, r10, r11, r12, r13⟩, ⟨s1, s2, s88, s389, s390, s393, s394⟩, hRd, hLs, hWr, hSc, hPs, hWs⟩ := hT
  refine lv_iload_n hx hb dX8_begin_0 rfl (lv_at hl 1 rfl) ?_
  refine ti_iconst hx hb dX8_begin_1 ?_
  refine ti_bipush hx hb dX8_begin_2 (by decide) ?_
  refine tx_callv (cx_X8_65 hx hb hml hown htw hK hW hB hS (c_X8_requireNumber h9 hw (by decide) (by decide)) ⟨rfl, rfl, Nat.le_of_ble_eq_true rfl, Nat.le_of_ble_eq_true rfl⟩ hl.1 (Nat.le_of_ble_eq_true rfl) dX8_begin_4 ⟨Nat.le_of_ble_eq_true rfl, Nat.le_of_ble_eq_true rfl⟩) hS (fun E9 ce9 q9 M9 H locs hp9 hW hS h91 h92 h93 => tx_out htab hlk hK hW hS h91 h92 h93 hp9 ⟨Nat.le_of_ble_eq_true rfl, Nat.le_of_ble_eq_true rfl⟩) (fun M4 H locs hp4 hW hS => ?_)
  obtain ⟨hin, eM4⟩ := hp4
  rw [eM4] at hW
  refine lv_aload_n hx hb dX8_begin_7 rfl (lv_at hl 0 rfl) ?_
  refine gf_X8_16 hx hb htw hown hK hW (by assumption) (by assumption) dX8_begin_8 ?_
  refine lv_aload_n hx hb dX8_begin_11 rfl (lv_at hl 0 rfl) ?_
  refine gf_X8_9 hx hb htw hown hK hW (by assumption) (by assumption) dX8_begin_12 ?_
  refine lv_iload_n hx hb dX8_begin_15 rfl (lv_at hl 1 rfl) ?_
  refine lv_aload_n hx hb dX8_begin_16 rfl (lv_at hl 0 rfl) ?_
  refine gf_X8_27 hx hb htw hown hK hW (by assumption) (by assumption) dX8_begin_17 ?_
  refine tm_calli (cs_X8_69 hx hb hml hown htw hK hW s2 (c_X4_readw (n := w.toNat) (t := zt z) (by omega) ⟨hRd, by omega, hz.1⟩ (by omega) hWr (by omega)) ⟨rfl, rfl, Nat.le_of_ble_eq_true rfl, Nat.le_of_ble_eq_true rfl⟩ hl.1 (Nat.le_of_ble_eq_true rfl) dX8_begin_20 ⟨Nat.le_of_ble_eq_true rfl, Nat.le_of_ble_eq_true rfl⟩) hS (fun x20 M20 H locs hp20 hW hS => ?_)
  obtain ⟨f20, r20x⟩ := hp20
  have P20 := TL_rd hT0 hz f20
  refine lv_istore_n (lv' := [(2, _), (0, _), (1, _)]) hx hb dX8_begin_23 rfl hl (by decide) rfl (fun ls hl => ?_)
  refine lv_iload_n hx hb dX8_begin_24 rfl (lv_at hl 0 rfl) ?_
  refine ti_iconst hx hb dX8_begin_25 ?_
  refine ti_icmp_eq (tgt := 33) hx hb dX8_begin_26 (by decide) (tl_rdr r20x (by omega)) (by decide) (fun h26 => ?_) (fun h26 => ?_)
  · obtain ⟨L, eL1, -, eL, hL⟩ := tl_rdL r20x h26
    have h0b := P20.1.1
    refine lv_aload_n hx hb dX8_begin_33 rfl (lv_at hl 1 rfl) ?_
    refine ti_iconst hx hb dX8_begin_34 ?_
    refine pf_X8_73 hx hb htw hown hK hW (by assumption) hS dX8_begin_35 (fun H locs hW hS => ?_)
    have P35 := TLp_tr P20 (TL_0n P20.1 P20.2.1)
    have l35 : ln (sI M20 T 3 0) (T + 369) = ln M20 (T + 369) := ln_sI (by omega)
    obtain ⟨a0c, ⟨r0c, r1c, r2c, r4c, r5c, r6c, r7c, r10c, r11c, r12c, r13c⟩, ⟨s1c, s2c, s88c, s389c, s390c, s393c, s394c⟩, hRdc, hLsc, hWrc, hScc, hPsc, hWsc⟩ := P35.1
    refine lv_aload_n hx hb dX8_begin_38 rfl (lv_at hl 1 rfl) ?_
    refine lv_aload_n hx hb dX8_begin_39 rfl (lv_at hl 1 rfl) ?_
    refine gf_X8_27 hx hb htw hown hK hW (by assumption) r4c dX8_begin_40 ?_
    refine tm_callv (cs_X8_77 hx hb hml hown htw hK hW (by assumption) (c_X8_append P35.1 P35.2.1 (show 0 < 40 by decide) hWrc (by omega) (by rw [l35, eL]; exact hL)) ⟨rfl, rfl, Nat.le_of_ble_eq_true rfl, Nat.le_of_ble_eq_true rfl⟩ hl.1 (Nat.le_of_ble_eq_true rfl) dX8_begin_43 ⟨Nat.le_of_ble_eq_true rfl, Nat.le_of_ble_eq_true rfl⟩) hS (fun M43 H locs hp43 hW hS => ?_)
    refine ti_iconst hx hb dX8_begin_46 ?_
    exact vx_ret (W.widen (k := 1) (n := 6) (Nat.le_of_ble_eq_true rfl) (Nat.le_of_ble_eq_true rfl) (tm_iret hx hb hr hlk hK hW hS ⟨hin, by rw [sp_begin_l eL1], by rw [sp_begin_l eL1, ← eL, ← l35]; exact TLp_tr P35 hp43⟩ dX8_begin_47))
  · obtain ⟨fv, ef, xf⟩ := tl_rdF r20x h26
    refine ti_iconst hx hb dX8_begin_29 ?_
    refine lv_iload_n hx hb dX8_begin_30 rfl (lv_at hl 0 rfl) ?_
    refine ti_isub hx hb dX8_begin_31 ?_
    exact vx_ret (W.widen (k := 1) (n := 6) (Nat.le_of_ble_eq_true rfl) (Nat.le_of_ble_eq_true rfl) (tm_iret hx hb hr hlk hK hW hS ⟨hin, by rw [sp_begin_r ef, xf], by rw [sp_begin_r ef]; exact P20⟩ dX8_begin_32))
theorem dX8_take_0 : decode cX8_take 0 = .ok (.aload_n 0, 1) := by decide +kernel
theorem dX8_take_1 : decode cX8_take 1 = .ok (.invokevirtual 81, 3) := by decide +kernel
theorem dX8_take_4 : decode cX8_take 4 = .ok (.aload_n 0, 1) := by decide +kernel
theorem dX8_take_5 : decode cX8_take 5 = .ok (.invokevirtual 84, 3) := by decide +kernel
theorem dX8_take_8 : decode cX8_take 8 = .ok (.aload_n 0, 1) := by decide +kernel
theorem dX8_take_9 : decode cX8_take 9 = .ok (.invokevirtual 87, 3) := by decide +kernel
theorem dX8_take_12 : decode cX8_take 12 = .ok (.aload_n 0, 1) := by decide +kernel
theorem dX8_take_13 : decode cX8_take 13 = .ok (.getfield 31, 3) := by decide +kernel
theorem dX8_take_16 : decode cX8_take 16 = .ok (.invokestatic 124, 3) := by decide +kernel
theorem dX8_take_19 : decode cX8_take 19 = .ok (.ifCond .gt 5, 3) := by decide +kernel
theorem dX8_take_22 : decode cX8_take 22 = .ok (.iconst 0, 1) := by decide +kernel
theorem dX8_take_23 : decode cX8_take 23 = .ok (.ireturn, 1) := by decide +kernel
theorem dX8_take_24 : decode cX8_take 24 = .ok (.aload_n 0, 1) := by decide +kernel
theorem dX8_take_25 : decode cX8_take 25 = .ok (.aload_n 0, 1) := by decide +kernel
theorem dX8_take_26 : decode cX8_take 26 = .ok (.getfield 31, 3) := by decide +kernel
theorem dX8_take_29 : decode cX8_take 29 = .ok (.invokevirtual 77, 3) := by decide +kernel
theorem dX8_take_32 : decode cX8_take 32 = .ok (.iconst 1, 1) := by decide +kernel
theorem dX8_take_33 : decode cX8_take 33 = .ok (.ireturn, 1) := by decide +kernel
set_option maxHeartbeats 4000000 in
set_option maxRecDepth 100000 in
/-- TutorLines.take -/
theorem c_X8_take {l : Launch} {G : tm_G} {Hb : Heap} {sh : tm_sh} {M : tm_M} {T : Nat} {z : tl_Z} (h9 : l.stackTraces = false) (hT : isTL sh M T) (hz : TLv M T z) : vx_Met l yX8_take (tws yX8_take cX8_take 1 (some .boolean)) ({ frames := 7, cells := 2, slots := 12, locals := 118 }) (va_Pc [.ref T] (tx_St G Hb sh M)) (tm_Qi G Hb sh (fun x M1 => (0 < zn z ∧ zn z < 40) ∧ x = (if 0 < tl_plan (zl z (zn z - 1)) then 1 else 0) ∧ TLp sh T M (if 0 < tl_plan (zl z (zn z - 1)) then zapp z (tl_planv (zl z (zn z - 1))) else z) M1)) (tx_X G Hb sh (fun E M1 => E = "java/lang/IllegalStateException" ∧ (zn z = 0 ∨ zn z = 40) ∧ M1 = M)) 2 12 (tm_A Hb) := by
  refine tx_begin (by decide) (Nat.le_of_ble_eq_true rfl) (fun p e s m below meth c ls hx hb hr hml hown htw hlk htab hK hW hB hl => ?_)
  have hS : va_S (tm_A Hb) s.heap s.heap [] := va_S.rf
  have hl : lv_has ls 1 [(0, .ref T)] := hl
  have hT0 := hT
  have h3 := hz.2.1
  obtain ⟨a0, ⟨r0, r1, r2, r4, r5, r6, r7, r10, r11, r12, r13⟩, ⟨s1, s2, s88, s389, s390, s393, s394⟩, hRd, hLs, hWr, hSc, hPs, hWs⟩ := hT
  refine lv_aload_n hx hb dX8_take_0 rfl (lv_at hl 0 rfl) ?_
  refine tx_callv (cx_X8_81 hx hb hml hown htw hK hW hB hS (by assumption) (c_X8_requireTask h9 a0 (by omega)) ⟨rfl, rfl, Nat.le_of_ble_eq_true rfl, Nat.le_of_ble_eq_true rfl⟩ hl.1 (Nat.le_of_ble_eq_true rfl) dX8_take_1 ⟨Nat.le_of_ble_eq_true rfl, Nat.le_of_ble_eq_true rfl⟩) hS (fun E9 ce9 q9 M9 H locs hp9 hW hS h91 h92 h93 => tx_out htab hlk hK hW hS h91 h92 h93 ⟨hp9.1, Or.inl (by have := hp9.2.1; omega), hp9.2.2⟩ ⟨Nat.le_of_ble_eq_true rfl, Nat.le_of_ble_eq_true rfl⟩) (fun M1 H locs hp1 hW hS => ?_)
  obtain ⟨n0, eM1⟩ := hp1
  rw [eM1] at hW
  have hn : 0 < zn z := by omega
  have hrow := tl_row hT0 hz hn
  refine lv_aload_n hx hb dX8_take_4 rfl (lv_at hl 0 rfl) ?_
  refine tx_callv (cx_X8_84 hx hb hml hown htw hK hW hB hS (by assumption) (c_X8_requireRoom h9 a0 (by omega)) ⟨rfl, rfl, Nat.le_of_ble_eq_true rfl, Nat.le_of_ble_eq_true rfl⟩ hl.1 (Nat.le_of_ble_eq_true rfl) dX8_take_5 ⟨Nat.le_of_ble_eq_true rfl, Nat.le_of_ble_eq_true rfl⟩) hS (fun E9 ce9 q9 M9 H locs hp9 hW hS h91 h92 h93 => tx_out htab hlk hK hW hS h91 h92 h93 ⟨hp9.1, Or.inr (by have := hp9.2.1; omega), hp9.2.2⟩ ⟨Nat.le_of_ble_eq_true rfl, Nat.le_of_ble_eq_true rfl⟩) (fun M5 H locs hp5 hW hS => ?_)
  obtain ⟨n1, eM5⟩ := hp5
  rw [eM5] at hW
  refine lv_aload_n hx hb dX8_take_8 rfl (lv_at hl 0 rfl) ?_
  refine tm_calla (cs_X8_87 hx hb hml hown htw hK hW (by assumption) (c_X8_present hT0 h3.1 (by omega)) ⟨rfl, rfl, Nat.le_of_ble_eq_true rfl, Nat.le_of_ble_eq_true rfl⟩ hl.1 (Nat.le_of_ble_eq_true rfl) dX8_take_9 ⟨Nat.le_of_ble_eq_true rfl, Nat.le_of_ble_eq_true rfl⟩) hS (fun x9 M9 H locs hp9 hW hS => ?_)
  obtain ⟨ex9, eM9⟩ := hp9
  rw [eM9] at hW
  rw [ex9]
  refine lv_aload_n hx hb dX8_take_12 rfl (lv_at hl 0 rfl) ?_
  refine gf_X8_31 hx hb htw hown hK hW (by assumption) (by assumption) dX8_take_13 ?_
  refine tm_calli (cs_X8_124 hx hb hml hown htw hK hW (c_X3_write hrow.2.1 hSc (by omega) (by rw [hrow.2.2.1]; exact hrow.2.2.2)) ⟨rfl, rfl, Nat.le_of_ble_eq_true rfl, Nat.le_of_ble_eq_true rfl⟩ hl.1 (Nat.le_of_ble_eq_true rfl) dX8_take_16 ⟨Nat.le_of_ble_eq_true rfl, Nat.le_of_ble_eq_true rfl⟩) hS (fun x16 M16 H locs hp16 hW hS => ?_)
  obtain ⟨ex16, el16, f16⟩ := hp16
  rw [hrow.2.2.1] at ex16 el16
  rw [ex16]
  have P16 : TLp sh T M z M16 := ⟨isTL_m hT0 f16.1, TLv_fr hz f16 (by omega), fT_fr f16 (by omega) (by omega)⟩
  refine ti_if_gt (tgt := 24) hx hb dX8_take_19 (by decide) (by have := tl_plan_r (zl z (zn z - 1)); omega) (fun h19 => ?_) (fun h19 => ?_)
  · obtain ⟨a0a, ⟨r0a, r1a, r2a, r4a, r5a, r6a, r7a, r10a, r11a, r12a, r13a⟩, ⟨s1a, s2a, s88a, s389a, s390a, s393a, s394a⟩, hRda, hLsa, hWra, hSca, hPsa, hWsa⟩ := P16.1
    refine lv_aload_n hx hb dX8_take_24 rfl (lv_at hl 0 rfl) ?_
    refine lv_aload_n hx hb dX8_take_25 rfl (lv_at hl 0 rfl) ?_
    refine gf_X8_31 hx hb htw hown hK hW (by assumption) r5a dX8_take_26 ?_
    refine tm_callv (cs_X8_77 hx hb hml hown htw hK hW (by assumption) (c_X8_append P16.1 P16.2.1 (by omega) hSca (by omega) (by rw [el16]; exact lok_planv hrow.2.2.2 (by omega))) ⟨rfl, rfl, Nat.le_of_ble_eq_true rfl, Nat.le_of_ble_eq_true rfl⟩ hl.1 (Nat.le_of_ble_eq_true rfl) dX8_take_29 ⟨Nat.le_of_ble_eq_true rfl, Nat.le_of_ble_eq_true rfl⟩) hS (fun M29 H locs hp29 hW hS => ?_)
    refine ti_iconst hx hb dX8_take_32 ?_
    exact vx_ret (W.widen (k := 2) (n := 12) (Nat.le_of_ble_eq_true rfl) (Nat.le_of_ble_eq_true rfl) (tm_zret hx hb hr hlk (by first | exact Or.inl rfl | exact Or.inr rfl | assumption) hK hW hS ⟨by omega, (if_pos (by omega)).symm, by rw [if_pos (by omega), ← el16]; exact TLp_tr P16 hp29⟩ dX8_take_33))
  · refine ti_iconst hx hb dX8_take_22 ?_
    exact vx_ret (W.widen (k := 2) (n := 12) (Nat.le_of_ble_eq_true rfl) (Nat.le_of_ble_eq_true rfl) (tm_zret hx hb hr hlk (by first | exact Or.inl rfl | exact Or.inr rfl | assumption) hK hW hS ⟨by omega, (if_neg (by omega)).symm, by rw [if_neg (by omega)]; exact P16⟩ dX8_take_23))
def tl_lnat (v : tl_L) (w : Int) : Int := if w = 8 then v.2.2 else if w = 0 then v.1.1.1 else if w = 1 then v.1.1.2 else if w = 2 then v.1.2.1 else if w = 3 then v.1.2.2 else if w = 4 then v.2.1.1.1 else if w = 5 then v.2.1.1.2 else if w = 6 then v.2.1.2.1 else v.2.1.2.2
theorem ti_irem_n {x y : Int} (h : 0 ≤ x) (hy : 0 < y) : x.tmod y = x % y := Int.tmod_eq_emod_of_nonneg h
theorem dX8_line_0 : decode cX8_line 0 = .ok (.iload_n 1, 1) := by decide +kernel
theorem dX8_line_1 : decode cX8_line 1 = .ok (.iconst 0, 1) := by decide +kernel
theorem dX8_line_2 : decode cX8_line 2 = .ok (.bipush 8, 2) := by decide +kernel
theorem dX8_line_4 : decode cX8_line 4 = .ok (.invokestatic 65, 3) := by decide +kernel
theorem dX8_line_7 : decode cX8_line 7 = .ok (.aload_n 0, 1) := by decide +kernel
theorem dX8_line_8 : decode cX8_line 8 = .ok (.invokevirtual 81, 3) := by decide +kernel
theorem dX8_line_11 : decode cX8_line 11 = .ok (.aload_n 0, 1) := by decide +kernel
theorem dX8_line_12 : decode cX8_line 12 = .ok (.invokevirtual 87, 3) := by decide +kernel
theorem dX8_line_15 : decode cX8_line 15 = .ok (.astore_n 2, 1) := by decide +kernel
theorem dX8_line_16 : decode cX8_line 16 = .ok (.iload_n 1, 1) := by decide +kernel
theorem dX8_line_17 : decode cX8_line 17 = .ok (.bipush 8, 2) := by decide +kernel
theorem dX8_line_19 : decode cX8_line 19 = .ok (.if_icmp .ne 8, 3) := by decide +kernel
theorem dX8_line_22 : decode cX8_line 22 = .ok (.aload_n 2, 1) := by decide +kernel
theorem dX8_line_23 : decode cX8_line 23 = .ok (.getfield 130, 3) := by decide +kernel
theorem dX8_line_26 : decode cX8_line 26 = .ok (.ireturn, 1) := by decide +kernel
theorem dX8_line_27 : decode cX8_line 27 = .ok (.iload_n 1, 1) := by decide +kernel
theorem dX8_line_28 : decode cX8_line 28 = .ok (.iconst 4, 1) := by decide +kernel
theorem dX8_line_29 : decode cX8_line 29 = .ok (.if_icmp .ge 10, 3) := by decide +kernel
theorem dX8_line_32 : decode cX8_line 32 = .ok (.aload_n 2, 1) := by decide +kernel
theorem dX8_line_33 : decode cX8_line 33 = .ok (.getfield 133, 3) := by decide +kernel
theorem dX8_line_36 : decode cX8_line 36 = .ok (.goto 7, 3) := by decide +kernel
theorem dX8_line_39 : decode cX8_line 39 = .ok (.aload_n 2, 1) := by decide +kernel
theorem dX8_line_40 : decode cX8_line 40 = .ok (.getfield 137, 3) := by decide +kernel
theorem dX8_line_43 : decode cX8_line 43 = .ok (.astore_n 3, 1) := by decide +kernel
theorem dX8_line_44 : decode cX8_line 44 = .ok (.iload_n 1, 1) := by decide +kernel
theorem dX8_line_45 : decode cX8_line 45 = .ok (.iconst 4, 1) := by decide +kernel
theorem dX8_line_46 : decode cX8_line 46 = .ok (.irem, 1) := by decide +kernel
theorem dX8_line_47 : decode cX8_line 47 = .ok (.iconst 2, 1) := by decide +kernel
theorem dX8_line_48 : decode cX8_line 48 = .ok (.if_icmp .ge 10, 3) := by decide +kernel
theorem dX8_line_51 : decode cX8_line 51 = .ok (.aload_n 3, 1) := by decide +kernel
theorem dX8_line_52 : decode cX8_line 52 = .ok (.getfield 140, 3) := by decide +kernel
theorem dX8_line_55 : decode cX8_line 55 = .ok (.goto 7, 3) := by decide +kernel
theorem dX8_line_58 : decode cX8_line 58 = .ok (.aload_n 3, 1) := by decide +kernel
theorem dX8_line_59 : decode cX8_line 59 = .ok (.getfield 145, 3) := by decide +kernel
theorem dX8_line_62 : decode cX8_line 62 = .ok (.astore 4, 2) := by decide +kernel
theorem dX8_line_64 : decode cX8_line 64 = .ok (.iload_n 1, 1) := by decide +kernel
theorem dX8_line_65 : decode cX8_line 65 = .ok (.iconst 2, 1) := by decide +kernel
theorem dX8_line_66 : decode cX8_line 66 = .ok (.irem, 1) := by decide +kernel
theorem dX8_line_67 : decode cX8_line 67 = .ok (.ifCond .ne 11, 3) := by decide +kernel
theorem dX8_line_70 : decode cX8_line 70 = .ok (.aload 4, 2) := by decide +kernel
theorem dX8_line_72 : decode cX8_line 72 = .ok (.getfield 117, 3) := by decide +kernel
theorem dX8_line_75 : decode cX8_line 75 = .ok (.goto 8, 3) := by decide +kernel
theorem dX8_line_78 : decode cX8_line 78 = .ok (.aload 4, 2) := by decide +kernel
theorem dX8_line_80 : decode cX8_line 80 = .ok (.getfield 121, 3) := by decide +kernel
theorem dX8_line_83 : decode cX8_line 83 = .ok (.l2i, 1) := by decide +kernel
theorem dX8_line_84 : decode cX8_line 84 = .ok (.ireturn, 1) := by decide +kernel
set_option maxHeartbeats 4000000 in
set_option maxRecDepth 100000 in
/-- TutorLines.line -/
theorem c_X8_line {l : Launch} {G : tm_G} {Hb : Heap} {sh : tm_sh} {M : tm_M} {T : Nat} {z : tl_Z} (h9 : l.stackTraces = false) (hT : isTL sh M T) (hz : TLv M T z) {w : Int} (hw : inI w) : vx_Met l yX8_line (tws yX8_line cX8_line 5 (some .int)) ({ frames := 7, cells := 2, slots := 12, locals := 111 }) (va_Pc [.ref T, ji w] (tx_St G Hb sh M)) (tm_Qi G Hb sh (fun x M1 => (0 ≤ w ∧ w ≤ 8) ∧ 0 < zn z ∧ x = tl_lnat (zl z (zn z - 1)) w ∧ M1 = M)) (tx_X G Hb sh (fun E M1 => ((E = "java/lang/IllegalArgumentException" ∧ ¬ (0 ≤ w ∧ w ≤ 8)) ∨ (E = "java/lang/IllegalStateException" ∧ (0 ≤ w ∧ w ≤ 8) ∧ zn z = 0)) ∧ M1 = M)) 2 12 (tm_A Hb) := by
  refine tx_begin (by decide) (Nat.le_of_ble_eq_true rfl) (fun p e s m below meth c ls hx hb hr hml hown htw hlk htab hK hW hB hl => ?_)
  have hS : va_S (tm_A Hb) s.heap s.heap [] := va_S.rf
  have hl : lv_has ls 5 [(0, .ref T), (1, ji w)] := hl
  have hT0 := hT
  have h3 := hz.2.1
  obtain ⟨a0, ⟨r0, r1, r2, r4, r5, r6, r7, r10, r11, r12, r13⟩, ⟨s1, s2, s88, s389, s390, s393, s394⟩, hRd, hLs, hWr, hSc, hPs, hWs⟩ := hT
  refine lv_iload_n hx hb dX8_line_0 rfl (lv_at hl 1 rfl) ?_
  refine ti_iconst hx hb dX8_line_1 ?_
  refine ti_bipush hx hb dX8_line_2 (by decide) ?_
  refine tx_callv (cx_X8_65 hx hb hml hown htw hK hW hB hS (c_X8_requireNumber h9 hw (by decide) (by decide)) ⟨rfl, rfl, Nat.le_of_ble_eq_true rfl, Nat.le_of_ble_eq_true rfl⟩ hl.1 (Nat.le_of_ble_eq_true rfl) dX8_line_4 ⟨Nat.le_of_ble_eq_true rfl, Nat.le_of_ble_eq_true rfl⟩) hS (fun E9 ce9 q9 M9 H locs hp9 hW hS h91 h92 h93 => tx_out htab hlk hK hW hS h91 h92 h93 ⟨Or.inl ⟨hp9.1, hp9.2.1⟩, hp9.2.2⟩ ⟨Nat.le_of_ble_eq_true rfl, Nat.le_of_ble_eq_true rfl⟩) (fun M4 H locs hp4 hW hS => ?_)
  obtain ⟨hin, eM4⟩ := hp4
  rw [eM4] at hW
  refine lv_aload_n hx hb dX8_line_7 rfl (lv_at hl 0 rfl) ?_
  refine tx_callv (cx_X8_81 hx hb hml hown htw hK hW hB hS (by assumption) (c_X8_requireTask h9 a0 (by omega)) ⟨rfl, rfl, Nat.le_of_ble_eq_true rfl, Nat.le_of_ble_eq_true rfl⟩ hl.1 (Nat.le_of_ble_eq_true rfl) dX8_line_8 ⟨Nat.le_of_ble_eq_true rfl, Nat.le_of_ble_eq_true rfl⟩) hS (fun E9 ce9 q9 M9 H locs hp9 hW hS h91 h92 h93 => tx_out htab hlk hK hW hS h91 h92 h93 ⟨Or.inr ⟨hp9.1, hin, by have := hp9.2.1; omega⟩, hp9.2.2⟩ ⟨Nat.le_of_ble_eq_true rfl, Nat.le_of_ble_eq_true rfl⟩) (fun M8 H locs hp8 hW hS => ?_)
  obtain ⟨n0, eM8⟩ := hp8
  rw [eM8] at hW
  have hn : 0 < zn z := by omega
  have hrow := tl_row hT0 hz hn
  refine lv_aload_n hx hb dX8_line_11 rfl (lv_at hl 0 rfl) ?_
  refine tm_calla (cs_X8_87 hx hb hml hown htw hK hW (by assumption) (c_X8_present hT0 h3.1 (by omega)) ⟨rfl, rfl, Nat.le_of_ble_eq_true rfl, Nat.le_of_ble_eq_true rfl⟩ hl.1 (Nat.le_of_ble_eq_true rfl) dX8_line_12 ⟨Nat.le_of_ble_eq_true rfl, Nat.le_of_ble_eq_true rfl⟩) hS (fun x12 M12 H locs hp12 hW hS => ?_)
  obtain ⟨ex12, eM12⟩ := hp12
  rw [eM12] at hW
  rw [ex12]
  obtain ⟨g1, g2, g3, g4, g5⟩ := ln_at hrow.2.2.1
  have k1 := hrow.2.1.1
  have k2 := hrow.2.1.2.1
  have k3 := hrow.2.1.2.2.1
  have k4 := hrow.2.1.2.2.2.1.1
  have k5 := hrow.2.1.2.2.2.2.1
  have k6 := hrow.2.1.2.2.2.1.2.1
  have k7 := hrow.2.1.2.2.2.1.2.2.1
  have k8 := hrow.2.1.2.2.2.2.2.1
  have k9 := hrow.2.1.2.2.2.2.2.2.1
  have m1 := hrow.2.1.2.2.2.1.2.2.2.1
  have m2 := hrow.2.1.2.2.2.1.2.2.2.2
  have m3 := hrow.2.1.2.2.2.2.2.2.2.1
  have m4 := hrow.2.1.2.2.2.2.2.2.2.2
  obtain ⟨⟨o1, o2⟩, ⟨o3, o4⟩, o5⟩ := hrow.2.2.2
  unfold fok at o1 o2 o3 o4
  refine lv_astore_n (lv' := [(2, _), (0, _), (1, _)]) hx hb dX8_line_15 rfl hl (by decide) rfl (fun ls hl => ?_)
  refine lv_iload_n hx hb dX8_line_16 rfl (lv_at hl 2 rfl) ?_
  refine ti_bipush hx hb dX8_line_17 (by decide) ?_
  refine ti_icmp_ne (tgt := 27) hx hb dX8_line_19 (by decide) (by omega) (by decide) (fun h19 => ?_) (fun h19 => ?_)
  · refine lv_iload_n hx hb dX8_line_27 rfl (lv_at hl 2 rfl) ?_
    refine ti_iconst hx hb dX8_line_28 ?_
    refine ti_icmp_ge (tgt := 39) hx hb dX8_line_29 (by decide) (by omega) (by decide) (fun h29 => ?_) (fun h29 => ?_)
    · refine lv_aload_n hx hb dX8_line_39 rfl (lv_at hl 0 rfl) ?_
      refine gf_X8_137 hx hb htw hown hK hW (by assumption) (by assumption) dX8_line_40 ?_
      refine lv_astore_n (lv' := [(3, _), (2, _), (0, _), (1, _)]) hx hb dX8_line_43 rfl hl (by decide) rfl (fun ls hl => ?_)
      refine lv_iload_n hx hb dX8_line_44 rfl (lv_at hl 3 rfl) ?_
      refine ti_iconst hx hb dX8_line_45 ?_
      refine ti_irem hx hb dX8_line_46 (by omega) (by decide) (by decide) ?_
      refine ti_iconst hx hb dX8_line_47 ?_
      refine ti_icmp_ge (tgt := 58) hx hb dX8_line_48 (by decide) (by rw [ti_irem_n hin.1 (by decide)]; omega) (by decide) (fun h48 => ?_) (fun h48 => ?_)
      · rw [ti_irem_n hin.1 (by decide)] at h48
        refine lv_aload_n hx hb dX8_line_58 rfl (lv_at hl 0 rfl) ?_
        refine gf_X8_145 hx hb htw hown hK hW (by assumption) (by assumption) dX8_line_59 ?_
        refine lv_astore (lv' := [(4, _), (3, _), (2, _), (0, _), (1, _)]) hx hb dX8_line_62 hl (by decide) rfl (fun ls hl => ?_)
        refine lv_iload_n hx hb dX8_line_64 rfl (lv_at hl 4 rfl) ?_
        refine ti_iconst hx hb dX8_line_65 ?_
        refine ti_irem hx hb dX8_line_66 (by omega) (by decide) (by decide) ?_
        refine ti_if_ne (tgt := 78) hx hb dX8_line_67 (by decide) (by rw [ti_irem_n hin.1 (by decide)]; omega) (fun h67 => ?_) (fun h67 => ?_)
        · rw [ti_irem_n hin.1 (by decide)] at h67
          refine lv_aload hx hb dX8_line_78 (lv_at hl 0 rfl) ?_
          refine gf_X8_121 hx hb htw hown hK hW (by assumption) dX8_line_80 ?_
          refine ti_l2i hx hb dX8_line_83 (by rw [show mL M ((T + 89 + 7 * (zn z - 1)) + 6) 1 = _ from congrArg Prod.snd g4]; omega) ?_
          exact vx_ret (W.widen (k := 2) (n := 12) (Nat.le_of_ble_eq_true rfl) (Nat.le_of_ble_eq_true rfl) (tm_iret hx hb hr hlk hK hW hS ⟨hin, hn, by rw [show w = 7 by omega]; exact congrArg Prod.snd g4, rfl⟩ dX8_line_84))
        · rw [ti_irem_n hin.1 (by decide)] at h67
          refine lv_aload hx hb dX8_line_70 (lv_at hl 0 rfl) ?_
          refine gf_X8_117 hx hb htw hown hK hW (by assumption) dX8_line_72 ?_
          refine lv_goto (tgt := 83) hx hb dX8_line_75 (by decide) ?_
          refine ti_l2i hx hb dX8_line_83 (by rw [show mL M ((T + 89 + 7 * (zn z - 1)) + 6) 0 = _ from congrArg Prod.fst g4]; omega) ?_
          exact vx_ret (W.widen (k := 2) (n := 12) (Nat.le_of_ble_eq_true rfl) (Nat.le_of_ble_eq_true rfl) (tm_iret hx hb hr hlk hK hW hS ⟨hin, hn, by rw [show w = 6 by omega]; exact congrArg Prod.fst g4, rfl⟩ dX8_line_84))
      · rw [ti_irem_n hin.1 (by decide)] at h48
        refine lv_aload_n hx hb dX8_line_51 rfl (lv_at hl 0 rfl) ?_
        refine gf_X8_140 hx hb htw hown hK hW (by assumption) (by assumption) dX8_line_52 ?_
        refine lv_goto (tgt := 62) hx hb dX8_line_55 (by decide) ?_
        refine lv_astore (lv' := [(4, _), (3, _), (2, _), (0, _), (1, _)]) hx hb dX8_line_62 hl (by decide) rfl (fun ls hl => ?_)
        refine lv_iload_n hx hb dX8_line_64 rfl (lv_at hl 4 rfl) ?_
        refine ti_iconst hx hb dX8_line_65 ?_
        refine ti_irem hx hb dX8_line_66 (by omega) (by decide) (by decide) ?_
        refine ti_if_ne (tgt := 78) hx hb dX8_line_67 (by decide) (by rw [ti_irem_n hin.1 (by decide)]; omega) (fun h67 => ?_) (fun h67 => ?_)
        · rw [ti_irem_n hin.1 (by decide)] at h67
          refine lv_aload hx hb dX8_line_78 (lv_at hl 0 rfl) ?_
          refine gf_X8_121 hx hb htw hown hK hW (by assumption) dX8_line_80 ?_
          refine ti_l2i hx hb dX8_line_83 (by rw [show mL M ((T + 89 + 7 * (zn z - 1)) + 5) 1 = _ from congrArg Prod.snd g3]; omega) ?_
          exact vx_ret (W.widen (k := 2) (n := 12) (Nat.le_of_ble_eq_true rfl) (Nat.le_of_ble_eq_true rfl) (tm_iret hx hb hr hlk hK hW hS ⟨hin, hn, by rw [show w = 5 by omega]; exact congrArg Prod.snd g3, rfl⟩ dX8_line_84))
        · rw [ti_irem_n hin.1 (by decide)] at h67
          refine lv_aload hx hb dX8_line_70 (lv_at hl 0 rfl) ?_
          refine gf_X8_117 hx hb htw hown hK hW (by assumption) dX8_line_72 ?_
          refine lv_goto (tgt := 83) hx hb dX8_line_75 (by decide) ?_
          refine ti_l2i hx hb dX8_line_83 (by rw [show mL M ((T + 89 + 7 * (zn z - 1)) + 5) 0 = _ from congrArg Prod.fst g3]; omega) ?_
          exact vx_ret (W.widen (k := 2) (n := 12) (Nat.le_of_ble_eq_true rfl) (Nat.le_of_ble_eq_true rfl) (tm_iret hx hb hr hlk hK hW hS ⟨hin, hn, by rw [show w = 4 by omega]; exact congrArg Prod.fst g3, rfl⟩ dX8_line_84))
    · refine lv_aload_n hx hb dX8_line_32 rfl (lv_at hl 0 rfl) ?_
      refine gf_X8_133 hx hb htw hown hK hW (by assumption) (by assumption) dX8_line_33 ?_
      refine lv_goto (tgt := 43) hx hb dX8_line_36 (by decide) ?_
      refine lv_astore_n (lv' := [(3, _), (2, _), (0, _), (1, _)]) hx hb dX8_line_43 rfl hl (by decide) rfl (fun ls hl => ?_)
      refine lv_iload_n hx hb dX8_line_44 rfl (lv_at hl 3 rfl) ?_
      refine ti_iconst hx hb dX8_line_45 ?_
      refine ti_irem hx hb dX8_line_46 (by omega) (by decide) (by decide) ?_
      refine ti_iconst hx hb dX8_line_47 ?_
      refine ti_icmp_ge (tgt := 58) hx hb dX8_line_48 (by decide) (by rw [ti_irem_n hin.1 (by decide)]; omega) (by decide) (fun h48 => ?_) (fun h48 => ?_)
      · rw [ti_irem_n hin.1 (by decide)] at h48
        refine lv_aload_n hx hb dX8_line_58 rfl (lv_at hl 0 rfl) ?_
        refine gf_X8_145 hx hb htw hown hK hW (by assumption) (by assumption) dX8_line_59 ?_
        refine lv_astore (lv' := [(4, _), (3, _), (2, _), (0, _), (1, _)]) hx hb dX8_line_62 hl (by decide) rfl (fun ls hl => ?_)
        refine lv_iload_n hx hb dX8_line_64 rfl (lv_at hl 4 rfl) ?_
        refine ti_iconst hx hb dX8_line_65 ?_
        refine ti_irem hx hb dX8_line_66 (by omega) (by decide) (by decide) ?_
        refine ti_if_ne (tgt := 78) hx hb dX8_line_67 (by decide) (by rw [ti_irem_n hin.1 (by decide)]; omega) (fun h67 => ?_) (fun h67 => ?_)
        · rw [ti_irem_n hin.1 (by decide)] at h67
          refine lv_aload hx hb dX8_line_78 (lv_at hl 0 rfl) ?_
          refine gf_X8_121 hx hb htw hown hK hW (by assumption) dX8_line_80 ?_
          refine ti_l2i hx hb dX8_line_83 (by rw [show mL M ((T + 89 + 7 * (zn z - 1)) + 3) 1 = _ from congrArg Prod.snd g2]; omega) ?_
          exact vx_ret (W.widen (k := 2) (n := 12) (Nat.le_of_ble_eq_true rfl) (Nat.le_of_ble_eq_true rfl) (tm_iret hx hb hr hlk hK hW hS ⟨hin, hn, by rw [show w = 3 by omega]; exact congrArg Prod.snd g2, rfl⟩ dX8_line_84))
        · rw [ti_irem_n hin.1 (by decide)] at h67
          refine lv_aload hx hb dX8_line_70 (lv_at hl 0 rfl) ?_
          refine gf_X8_117 hx hb htw hown hK hW (by assumption) dX8_line_72 ?_
          refine lv_goto (tgt := 83) hx hb dX8_line_75 (by decide) ?_
          refine ti_l2i hx hb dX8_line_83 (by rw [show mL M ((T + 89 + 7 * (zn z - 1)) + 3) 0 = _ from congrArg Prod.fst g2]; omega) ?_
          exact vx_ret (W.widen (k := 2) (n := 12) (Nat.le_of_ble_eq_true rfl) (Nat.le_of_ble_eq_true rfl) (tm_iret hx hb hr hlk hK hW hS ⟨hin, hn, by rw [show w = 2 by omega]; exact congrArg Prod.fst g2, rfl⟩ dX8_line_84))
      · rw [ti_irem_n hin.1 (by decide)] at h48
        refine lv_aload_n hx hb dX8_line_51 rfl (lv_at hl 0 rfl) ?_
        refine gf_X8_140 hx hb htw hown hK hW (by assumption) (by assumption) dX8_line_52 ?_
        refine lv_goto (tgt := 62) hx hb dX8_line_55 (by decide) ?_
        refine lv_astore (lv' := [(4, _), (3, _), (2, _), (0, _), (1, _)]) hx hb dX8_line_62 hl (by decide) rfl (fun ls hl => ?_)
        refine lv_iload_n hx hb dX8_line_64 rfl (lv_at hl 4 rfl) ?_
        refine ti_iconst hx hb dX8_line_65 ?_
        refine ti_irem hx hb dX8_line_66 (by omega) (by decide) (by decide) ?_
        refine ti_if_ne (tgt := 78) hx hb dX8_line_67 (by decide) (by rw [ti_irem_n hin.1 (by decide)]; omega) (fun h67 => ?_) (fun h67 => ?_)
        · rw [ti_irem_n hin.1 (by decide)] at h67
          refine lv_aload hx hb dX8_line_78 (lv_at hl 0 rfl) ?_
          refine gf_X8_121 hx hb htw hown hK hW (by assumption) dX8_line_80 ?_
          refine ti_l2i hx hb dX8_line_83 (by rw [show mL M ((T + 89 + 7 * (zn z - 1)) + 2) 1 = _ from congrArg Prod.snd g1]; omega) ?_
          exact vx_ret (W.widen (k := 2) (n := 12) (Nat.le_of_ble_eq_true rfl) (Nat.le_of_ble_eq_true rfl) (tm_iret hx hb hr hlk hK hW hS ⟨hin, hn, by rw [show w = 1 by omega]; exact congrArg Prod.snd g1, rfl⟩ dX8_line_84))
        · rw [ti_irem_n hin.1 (by decide)] at h67
          refine lv_aload hx hb dX8_line_70 (lv_at hl 0 rfl) ?_
          refine gf_X8_117 hx hb htw hown hK hW (by assumption) dX8_line_72 ?_
          refine lv_goto (tgt := 83) hx hb dX8_line_75 (by decide) ?_
          refine ti_l2i hx hb dX8_line_83 (by rw [show mL M ((T + 89 + 7 * (zn z - 1)) + 2) 0 = _ from congrArg Prod.fst g1]; omega) ?_
          exact vx_ret (W.widen (k := 2) (n := 12) (Nat.le_of_ble_eq_true rfl) (Nat.le_of_ble_eq_true rfl) (tm_iret hx hb hr hlk hK hW hS ⟨hin, hn, by rw [show w = 0 by omega]; exact congrArg Prod.fst g1, rfl⟩ dX8_line_84))
  · refine lv_aload_n hx hb dX8_line_22 rfl (lv_at hl 0 rfl) ?_
    refine gf_X8_130 hx hb htw hown hK hW (by assumption) dX8_line_23 ?_
    exact vx_ret (W.widen (k := 2) (n := 12) (Nat.le_of_ble_eq_true rfl) (Nat.le_of_ble_eq_true rfl) (tm_iret hx hb hr hlk hK hW hS ⟨hin, hn, by rw [h19]; exact g5, rfl⟩ dX8_line_26))
