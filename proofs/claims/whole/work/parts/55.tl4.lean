/-! TutorLines: its calls, but for print and printed (by program: wip/whole/gen/tl4.py) -/
def ztx (z : tl_Z) (j : Nat) (b : Int) : tl_Z := (tl_up (zt z) j b, zn z, zl z, zr z, zs z, zw z, zp z, za z)
theorem TL_tx {sh : tm_sh} {M : tm_M} {T : Nat} {z : tl_Z} {j : Nat} {b : Int} (hT : isTL sh M T) (h : TLv M T z) (hb : -128 ≤ b ∧ b < 128) : TLp sh T M (ztx z j (b % 256)) (sI M (T + 1) j b) := by
  have F1 : tm_fr (T + 1) (T + 2) M (sI M (T + 1) j b) := fw_sI b (by omega) (by omega)
  obtain ⟨h1, h2, h3, h4, h5, h6⟩ := h
  have eo : ∀ a i, a ≠ T + 1 → mI (sI M (T + 1) j b) a i = mI M a i := fun a i ha => tm_up_a _ _ ha
  refine ⟨isTL_m hT rfl, ⟨fun i => ?_, ⟨by rw [eo _ _ (by omega)]; exact h2.1, h2.2⟩, fun i hi => ?_, ⟨by rw [eo _ _ (by omega)]; exact h4.1, h4.2.1, fun q => ?_⟩, fun k k1 k2 => by rw [eo _ _ (by omega)]; exact h5 k k1 k2, fun k hk => by rw [eo _ _ (by omega)]; exact h6 k hk⟩, fT_fr F1 (by omega) (by omega)⟩
  · show mI (sI M (T + 1) j b) (T + 1) i % 256 = tl_up (zt z) j (b % 256) i ∧ _
    by_cases e : i = j
    · subst e
      rw [tl_up_s, show mI (sI M (T + 1) i b) (T + 1) i = b from tm_up_s _ _ _ _]
      exact ⟨rfl, hb⟩
    · rw [tl_up_n _ _ e, show mI (sI M (T + 1) j b) (T + 1) i = mI M (T + 1) i from tm_up_k _ _ e]
      exact h1 i
  · have hi' : i < zn z := hi
    have := h2.2
    rw [ln_sI (by omega)]; exact h3 i hi
  · obtain ⟨a2, a3, a4, a5⟩ := h4.2.2 q
    refine ⟨by rw [eo _ _ (by omega)]; exact a2, a3, ?_, a5⟩
    rw [show zw (ztx z j (b % 256)) = zw z from rfl, ← a4]
    show (mI (sI M (T + 1) j b) (T + 386) 0, fr M (T + 386 + 1)) = _
    rw [eo _ _ (by omega)]
/-- k bytes of v from place i on -/
def zputk (z : tl_Z) (i v : Int) (k : Nat) : tl_Z := (fun j => if i ≤ j ∧ (j : Int) < i + k ∧ j < 80 then v / tl_pw (j - i).toNat % 256 else zt z j, zn z, zl z, zr z, zs z, zw z, zp z, za z)
theorem zputk_0 (z : tl_Z) (i v : Int) : zputk z i v 0 = z := by
  have e : (fun j : Nat => if i ≤ j ∧ (j : Int) < i + (0 : Nat) ∧ j < 80 then v / tl_pw (j - i).toNat % 256 else zt z j) = zt z := funext fun j => if_neg (by omega)
  unfold zputk
  rw [e]
theorem zputk_s {z : tl_Z} {i v : Int} {k : Nat} (h0 : 0 ≤ i) (h : i + k < 80) : ztx (zputk z i v k) (i + k).toNat (v / tl_pw k % 256) = zputk z i v (k + 1) := by
  have e : tl_up (zt (zputk z i v k)) (i + k).toNat (v / tl_pw k % 256) = zt (zputk z i v (k + 1)) := funext fun j => by
    show (if j = (i + k).toNat then v / tl_pw k % 256 else if i ≤ j ∧ (j : Int) < i + k ∧ j < 80 then v / tl_pw (j - i).toNat % 256 else zt z j) = if i ≤ j ∧ (j : Int) < i + ((k + 1 : Nat) : Int) ∧ j < 80 then v / tl_pw (j - i).toNat % 256 else zt z j
    by_cases q : j = (i + k).toNat
    · rw [if_pos q, if_pos (by omega), show ((j : Int) - i).toNat = k by omega]
    · rw [if_neg q]
      by_cases q2 : i ≤ j ∧ (j : Int) < i + k ∧ j < 80
      · rw [if_pos q2, if_pos (by omega)]
      · rw [if_neg q2, if_neg (by omega)]
  unfold ztx
  rw [e]
  rfl
theorem zputk_e {z : tl_Z} {i v : Int} {k : Nat} (h : 80 ≤ i + k) (hk : k ≤ 4) : zputk z i v k = zputk z i v 4 := by
  have e : zt (zputk z i v k) = zt (zputk z i v 4) := funext fun j => by
    show (if i ≤ j ∧ (j : Int) < i + k ∧ j < 80 then v / tl_pw (j - i).toNat % 256 else zt z j) = if i ≤ j ∧ (j : Int) < i + (4 : Nat) ∧ j < 80 then v / tl_pw (j - i).toNat % 256 else zt z j
    by_cases q2 : i ≤ j ∧ (j : Int) < i + k ∧ j < 80
    · rw [if_pos q2, if_pos (by omega)]
    · rw [if_neg q2, if_neg (by omega)]
  show (zt (zputk z i v k), _) = (zt (zputk z i v 4), _)
  rw [e]
theorem bmod256 (x : Int) : (-128 ≤ x.bmod 256 ∧ x.bmod 256 < 128) ∧ x.bmod 256 % 256 = x % 256 := by
  have h1 := Int.bmod_lt (x := x) (m := 256) (by decide)
  have h2 := Int.le_bmod (x := x) (m := 256) (by decide)
  exact ⟨by omega, Int.bmod_emod⟩
theorem dX8_put_0 : decode cX8_put 0 = .ok (.iload_n 1, 1) := by decide +kernel
theorem dX8_put_1 : decode cX8_put 1 = .ok (.iconst 0, 1) := by decide +kernel
theorem dX8_put_2 : decode cX8_put 2 = .ok (.bipush 79, 2) := by decide +kernel
theorem dX8_put_4 : decode cX8_put 4 = .ok (.invokestatic 65, 3) := by decide +kernel
theorem dX8_put_7 : decode cX8_put 7 = .ok (.iconst 0, 1) := by decide +kernel
theorem dX8_put_8 : decode cX8_put 8 = .ok (.istore_n 3, 1) := by decide +kernel
theorem dX8_put_9 : decode cX8_put 9 = .ok (.iload_n 3, 1) := by decide +kernel
theorem dX8_put_10 : decode cX8_put 10 = .ok (.iconst 4, 1) := by decide +kernel
theorem dX8_put_11 : decode cX8_put 11 = .ok (.if_icmp .ge 32, 3) := by decide +kernel
theorem dX8_put_14 : decode cX8_put 14 = .ok (.iload_n 1, 1) := by decide +kernel
theorem dX8_put_15 : decode cX8_put 15 = .ok (.iload_n 3, 1) := by decide +kernel
theorem dX8_put_16 : decode cX8_put 16 = .ok (.iadd, 1) := by decide +kernel
theorem dX8_put_17 : decode cX8_put 17 = .ok (.bipush 80, 2) := by decide +kernel
theorem dX8_put_19 : decode cX8_put 19 = .ok (.if_icmp .ge 24, 3) := by decide +kernel
theorem dX8_put_22 : decode cX8_put 22 = .ok (.aload_n 0, 1) := by decide +kernel
theorem dX8_put_23 : decode cX8_put 23 = .ok (.getfield 9, 3) := by decide +kernel
theorem dX8_put_26 : decode cX8_put 26 = .ok (.iload_n 1, 1) := by decide +kernel
theorem dX8_put_27 : decode cX8_put 27 = .ok (.iload_n 3, 1) := by decide +kernel
theorem dX8_put_28 : decode cX8_put 28 = .ok (.iadd, 1) := by decide +kernel
theorem dX8_put_29 : decode cX8_put 29 = .ok (.iload_n 2, 1) := by decide +kernel
theorem dX8_put_30 : decode cX8_put 30 = .ok (.bipush 8, 2) := by decide +kernel
theorem dX8_put_32 : decode cX8_put 32 = .ok (.iload_n 3, 1) := by decide +kernel
theorem dX8_put_33 : decode cX8_put 33 = .ok (.imul, 1) := by decide +kernel
theorem dX8_put_34 : decode cX8_put 34 = .ok (.ishr, 1) := by decide +kernel
theorem dX8_put_35 : decode cX8_put 35 = .ok (.i2b, 1) := by decide +kernel
theorem dX8_put_36 : decode cX8_put 36 = .ok (.bastore, 1) := by decide +kernel
theorem dX8_put_37 : decode cX8_put 37 = .ok (.iinc 3 1, 3) := by decide +kernel
theorem dX8_put_40 : decode cX8_put 40 = .ok (.goto (-31), 3) := by decide +kernel
theorem dX8_put_43 : decode cX8_put 43 = .ok (.return_, 1) := by decide +kernel
set_option maxHeartbeats 4000000 in
set_option maxRecDepth 100000 in
/-- TutorLines.put -/
theorem c_X8_put {l : Launch} {G : tm_G} {Hb : Heap} {sh : tm_sh} {M : tm_M} {T : Nat} {z : tl_Z} (h9 : l.stackTraces = false) (hT : isTL sh M T) (hz : TLv M T z) {i v : Int} (hi : inI i) (hv : inI v) : vx_Met l yX8_put (tws yX8_put cX8_put 4 none) ({ frames := 7, cells := 1, slots := 6, locals := 111 }) (va_Pc [.ref T, ji i, ji v] (tx_St G Hb sh M)) (tm_Qv G Hb sh (fun M1 => (0 ≤ i ∧ i ≤ 79) ∧ TLp sh T M (zputk z i v 4) M1)) (tx_X G Hb sh (fun E M1 => E = "java/lang/IllegalArgumentException" ∧ ¬ (0 ≤ i ∧ i ≤ 79) ∧ M1 = M)) 1 6 (tm_A Hb) := by
  refine tx_begin (by decide) (Nat.le_of_ble_eq_true rfl) (fun p e s m below meth c ls hx hb hr hml hown htw hlk htab hK hW hB hl => ?_)
  have hS : va_S (tm_A Hb) s.heap s.heap [] := va_S.rf
  have hl : lv_has ls 4 [(0, .ref T), (1, ji i), (2, ji v)] := hl
  have hT0 := hT
  obtain ⟨a0, ⟨r0, r1, r2, r4, r5, r6, r7, r10, r11, r12, r13⟩, ⟨s1, s2, s88, s389, s390, s393, s394⟩, hRd, hLs, hWr, hSc, hPs, hWs⟩ := hT
  have loop : ∀ (j k : Nat) (M1 : tm_M) (H : Heap) (locs : List Loc) (ls : Array Slot), k + j = 4 → 0 ≤ i ∧ i ≤ 79 → TLp sh T M (zputk z i v k) M1 → tm_W G Hb sh M1 H → va_S (tm_A Hb) s.heap H locs → lv_has ls 4 [(0, .ref T), (1, ji i), (2, ji v), (3, ji (k : Nat))] → W p l e ({ frames := 7, cells := 1, slots := 6, locals := 111 }) s m [.ref T, ji i, ji v].toArray below meth c H locs (0 + 1) (0 + 6) (vx_MQ below (tm_Qv G Hb sh (fun M1 => (0 ≤ i ∧ i ≤ 79) ∧ TLp sh T M (zputk z i v 4) M1)) (tx_X G Hb sh (fun E M1 => E = "java/lang/IllegalArgumentException" ∧ ¬ (0 ≤ i ∧ i ≤ 79) ∧ M1 = M)) [.ref T, ji i, ji v].toArray s 1 6 (tm_A Hb)) (F0 m 9 ls []) := by
    intro j
    induction j with
    | zero =>
      intro k M1 H locs ls hk hin hP hW hS hl
      refine lv_iload_n hx hb dX8_put_9 rfl (lv_at hl 3 rfl) ?_
      refine ti_iconst hx hb dX8_put_10 ?_
      refine ti_icmp_ge (tgt := 43) hx hb dX8_put_11 (by decide) (by omega) (by decide) (fun h11 => ?_) (fun h11 => ?_)
      · exact vx_ret (W.widen (k := 1) (n := 6) (Nat.le_of_ble_eq_true rfl) (Nat.le_of_ble_eq_true rfl) (tm_vret hx hb hr hlk hK hW hS ⟨hin, by rw [show k = 4 by omega] at hP; exact hP⟩ dX8_put_43))
      · exact absurd (show (4 : Int) ≤ (k : Int) by omega) h11
    | succ j ih =>
      intro k M1 H locs ls hk hin hP hW hS hl
      obtain ⟨a0a, ⟨r0a, r1a, r2a, r4a, r5a, r6a, r7a, r10a, r11a, r12a, r13a⟩, ⟨s1a, s2a, s88a, s389a, s390a, s393a, s394a⟩, hRda, hLsa, hWra, hSca, hPsa, hWsa⟩ := hP.1
      have bm := bmod256 (v / tl_pw k)
      refine lv_iload_n hx hb dX8_put_9 rfl (lv_at hl 3 rfl) ?_
      refine ti_iconst hx hb dX8_put_10 ?_
      refine ti_icmp_ge (tgt := 43) hx hb dX8_put_11 (by decide) (by omega) (by decide) (fun h11 => ?_) (fun h11 => ?_)
      · exact absurd h11 (by omega)
      · refine lv_iload_n hx hb dX8_put_14 rfl (lv_at hl 1 rfl) ?_
        refine lv_iload_n hx hb dX8_put_15 rfl (lv_at hl 3 rfl) ?_
        refine ti_iadd hx hb dX8_put_16 ?_
        refine ti_bipush hx hb dX8_put_17 (by decide) ?_
        refine ti_icmp_ge (tgt := 43) hx hb dX8_put_19 (by decide) (by omega) (by decide) (fun h19 => ?_) (fun h19 => ?_)
        · exact vx_ret (W.widen (k := 1) (n := 6) (Nat.le_of_ble_eq_true rfl) (Nat.le_of_ble_eq_true rfl) (tm_vret hx hb hr hlk hK hW hS ⟨hin, by rw [← zputk_e (k := k) (by omega) (by omega)]; exact hP⟩ dX8_put_43))
        · refine lv_aload_n hx hb dX8_put_22 rfl (lv_at hl 0 rfl) ?_
          refine gf_X8_9 hx hb htw hown hK hW (by assumption) (by assumption) dX8_put_23 ?_
          refine lv_iload_n hx hb dX8_put_26 rfl (lv_at hl 1 rfl) ?_
          refine lv_iload_n hx hb dX8_put_27 rfl (lv_at hl 3 rfl) ?_
          refine ti_iadd hx hb dX8_put_28 ?_
          refine lv_iload_n hx hb dX8_put_29 rfl (lv_at hl 2 rfl) ?_
          refine ti_bipush hx hb dX8_put_30 (by decide) ?_
          refine lv_iload_n hx hb dX8_put_32 rfl (lv_at hl 3 rfl) ?_
          refine ti_imul hx hb dX8_put_33 ?_
          refine ti_shr8 hx hb dX8_put_34 hv (by omega) (by omega) ?_
          refine ti_i2b hx hb dX8_put_35 ?_
          refine tm_bast hx hb hK hW hS s1a (by omega) (by omega) (by decide) (bmod256 _).1 dX8_put_36 (fun H locs hW hS => ?_)
          refine ti_iinc (k := 3) (lv' := [(3, _), (0, _), (1, _), (2, _)]) hx hb dX8_put_37 hl rfl (by decide) rfl (fun ls hl => ?_)
          refine lv_goto (tgt := 9) hx hb dX8_put_40 (by decide) ?_
          exact ih (k + 1) _ _ _ _ (by omega) hin (by rw [← zputk_s hin.1 (by omega), ← bm.2]; exact TLp_tr hP (TL_tx hP.1 hP.2.1 bm.1)) hW hS (lv_sub hl [1, 2, 3, 0] rfl)
  refine lv_iload_n hx hb dX8_put_0 rfl (lv_at hl 1 rfl) ?_
  refine ti_iconst hx hb dX8_put_1 ?_
  refine ti_bipush hx hb dX8_put_2 (by decide) ?_
  refine tx_callv (cx_X8_65 hx hb hml hown htw hK hW hB hS (c_X8_requireNumber h9 hi (by decide) (by decide)) ⟨rfl, rfl, Nat.le_of_ble_eq_true rfl, Nat.le_of_ble_eq_true rfl⟩ hl.1 (Nat.le_of_ble_eq_true rfl) dX8_put_4 ⟨Nat.le_of_ble_eq_true rfl, Nat.le_of_ble_eq_true rfl⟩) hS (fun E9 ce9 q9 M9 H locs hp9 hW hS h91 h92 h93 => tx_out htab hlk hK hW hS h91 h92 h93 hp9 ⟨Nat.le_of_ble_eq_true rfl, Nat.le_of_ble_eq_true rfl⟩) (fun M4 H locs hp4 hW hS => ?_)
  obtain ⟨hin, eM4⟩ := hp4
  rw [eM4] at hW
  refine ti_iconst hx hb dX8_put_7 ?_
  refine lv_istore_n (lv' := [(3, _), (0, _), (1, _), (2, _)]) hx hb dX8_put_8 rfl hl (by decide) rfl (fun ls hl => ?_)
  exact loop 4 0 M _ _ _ rfl hin (by rw [zputk_0]; exact ⟨hT0, hz, fT_rf⟩) hW hS (lv_sub hl [1, 2, 3, 0] rfl)
theorem dX8_slip_0 : decode cX8_slip 0 = .ok (.aload_n 0, 1) := by decide +kernel
theorem dX8_slip_1 : decode cX8_slip 1 = .ok (.getfield 104, 3) := by decide +kernel
theorem dX8_slip_4 : decode cX8_slip 4 = .ok (.ifCond .eq 10, 3) := by decide +kernel
theorem dX8_slip_7 : decode cX8_slip 7 = .ok (.aload_n 0, 1) := by decide +kernel
theorem dX8_slip_8 : decode cX8_slip 8 = .ok (.getfield 108, 3) := by decide +kernel
theorem dX8_slip_11 : decode cX8_slip 11 = .ok (.goto 4, 3) := by decide +kernel
theorem dX8_slip_14 : decode cX8_slip 14 = .ok (.iconst 0, 1) := by decide +kernel
theorem dX8_slip_15 : decode cX8_slip 15 = .ok (.ireturn, 1) := by decide +kernel
set_option maxHeartbeats 4000000 in
set_option maxRecDepth 100000 in
/-- TutorLines.slip -/
theorem c_X8_slip {l : Launch} {G : tm_G} {Hb : Heap} {sh : tm_sh} {M : tm_M} {T : Nat} {z : tl_Z} (hT : isTL sh M T) (hz : TLv M T z) : Met l yX8_slip (tws yX8_slip cX8_slip 1 (some .int)) ({ frames := 0, cells := 0, slots := 0, locals := 0 }) (va_Pc [.ref T] (tm_St G Hb sh M)) (tm_Qi G Hb sh (fun x M1 => x = (if zr z = 1 then zs z else 0) ∧ M1 = M)) 0 0 (tm_A Hb) := by
  refine tm_begin (by decide) (Nat.le_of_ble_eq_true rfl) (fun p e s m below meth c ls hx hb hr hml hown htw hlk hnm hK hW hl => ?_)
  have hS : va_S (tm_A Hb) s.heap s.heap [] := va_S.rf
  have hl : lv_has ls 1 [(0, .ref T)] := hl
  have h8 := hz.2.2.2.1
  obtain ⟨a0, ⟨r0, r1, r2, r4, r5, r6, r7, r10, r11, r12, r13⟩, ⟨s1, s2, s88, s389, s390, s393, s394⟩, hRd, hLs, hWr, hSc, hPs, hWs⟩ := hT
  refine lv_aload_n hx hb dX8_slip_0 rfl (lv_at hl 0 rfl) ?_
  refine gf_X8_104 hx hb htw hown hK hW (by assumption) dX8_slip_1 ?_
  rw [h8.1]
  refine ti_if_eq (tgt := 14) hx hb dX8_slip_4 (by decide) (by omega) (fun h4 => ?_) (fun h4 => ?_)
  · refine ti_iconst hx hb dX8_slip_14 ?_
    exact tm_iret hx hb hr hlk hK hW hS ⟨by first | rw [if_pos (by omega)] | rw [if_neg (by omega)], rfl⟩ dX8_slip_15
  · refine lv_aload_n hx hb dX8_slip_7 rfl (lv_at hl 0 rfl) ?_
    refine gf_X8_108 hx hb htw hown hK hW (by assumption) dX8_slip_8 ?_
    rw [(h8.2.2 (by omega)).1]
    refine lv_goto (tgt := 15) hx hb dX8_slip_11 (by decide) ?_
    exact tm_iret hx hb hr hlk hK hW hS ⟨by first | rw [if_pos (by omega)] | rw [if_neg (by omega)], rfl⟩ dX8_slip_15
def tl_cnt (z : tl_Z) (w : Int) : Int := if w = 0 then (zn z : Int) else if w = 1 then za z 1 else if w = 2 then za z 0 else if w = 3 then za z 2 else -1
theorem dX8_count_0 : decode cX8_count 0 = .ok (.iload_n 1, 1) := by decide +kernel
theorem dX8_count_1 : decode cX8_count 1 = .ok (.tableswitch 57 0 3 #[31, 36, 43, 50], 31) := by decide +kernel
theorem dX8_count_32 : decode cX8_count 32 = .ok (.aload_n 0, 1) := by decide +kernel
theorem dX8_count_33 : decode cX8_count 33 = .ok (.getfield 73, 3) := by decide +kernel
theorem dX8_count_36 : decode cX8_count 36 = .ok (.ireturn, 1) := by decide +kernel
theorem dX8_count_37 : decode cX8_count 37 = .ok (.aload_n 0, 1) := by decide +kernel
theorem dX8_count_38 : decode cX8_count 38 = .ok (.getfield 62, 3) := by decide +kernel
theorem dX8_count_41 : decode cX8_count 41 = .ok (.iconst 1, 1) := by decide +kernel
theorem dX8_count_42 : decode cX8_count 42 = .ok (.iaload, 1) := by decide +kernel
theorem dX8_count_43 : decode cX8_count 43 = .ok (.ireturn, 1) := by decide +kernel
theorem dX8_count_44 : decode cX8_count 44 = .ok (.aload_n 0, 1) := by decide +kernel
theorem dX8_count_45 : decode cX8_count 45 = .ok (.getfield 62, 3) := by decide +kernel
theorem dX8_count_48 : decode cX8_count 48 = .ok (.iconst 0, 1) := by decide +kernel
theorem dX8_count_49 : decode cX8_count 49 = .ok (.iaload, 1) := by decide +kernel
theorem dX8_count_50 : decode cX8_count 50 = .ok (.ireturn, 1) := by decide +kernel
theorem dX8_count_51 : decode cX8_count 51 = .ok (.aload_n 0, 1) := by decide +kernel
theorem dX8_count_52 : decode cX8_count 52 = .ok (.getfield 62, 3) := by decide +kernel
theorem dX8_count_55 : decode cX8_count 55 = .ok (.iconst 2, 1) := by decide +kernel
theorem dX8_count_56 : decode cX8_count 56 = .ok (.iaload, 1) := by decide +kernel
theorem dX8_count_57 : decode cX8_count 57 = .ok (.ireturn, 1) := by decide +kernel
theorem dX8_count_58 : decode cX8_count 58 = .ok (.iconst (-1), 1) := by decide +kernel
theorem dX8_count_59 : decode cX8_count 59 = .ok (.ireturn, 1) := by decide +kernel
set_option maxHeartbeats 4000000 in
set_option maxRecDepth 100000 in
/-- TutorLines.count -/
theorem c_X8_count {l : Launch} {G : tm_G} {Hb : Heap} {sh : tm_sh} {M : tm_M} {T : Nat} {z : tl_Z} {w : Int} (hT : isTL sh M T) (hz : TLv M T z) (hw : inI w) : Met l yX8_count (tws yX8_count cX8_count 2 (some .int)) ({ frames := 0, cells := 0, slots := 0, locals := 0 }) (va_Pc [.ref T, ji w] (tm_St G Hb sh M)) (tm_Qi G Hb sh (fun x M1 => x = tl_cnt z w ∧ M1 = M)) 0 0 (tm_A Hb) := by
  refine tm_begin (by decide) (Nat.le_of_ble_eq_true rfl) (fun p e s m below meth c ls hx hb hr hml hown htw hlk hnm hK hW hl => ?_)
  have hS : va_S (tm_A Hb) s.heap s.heap [] := va_S.rf
  have hl : lv_has ls 2 [(0, .ref T), (1, ji w)] := hl
  have h3 := hz.2.1
  have ha := hz.2.2.2.2.2
  obtain ⟨a0, ⟨r0, r1, r2, r4, r5, r6, r7, r10, r11, r12, r13⟩, ⟨s1, s2, s88, s389, s390, s393, s394⟩, hRd, hLs, hWr, hSc, hPs, hWs⟩ := hT
  refine lv_iload_n hx hb dX8_count_0 rfl (lv_at hl 1 rfl) ?_
  refine ti_ts_0_3 (td := 58) (t0 := 32) (t1 := 37) (t2 := 44) (t3 := 51) hx hb dX8_count_1 (by omega) (by decide) (by decide) (by decide) (by decide) (by decide) (fun h1 => ?_) (fun h1 => ?_) (fun h1 => ?_) (fun h1 => ?_) (fun h1 => ?_)
  · refine lv_aload_n hx hb dX8_count_32 rfl (lv_at hl 0 rfl) ?_
    refine gf_X8_73 hx hb htw hown hK hW (by assumption) dX8_count_33 ?_
    exact tm_iret hx hb hr hlk hK hW hS ⟨by rw [tl_cnt, if_pos h1]; exact h3.1, rfl⟩ dX8_count_36
  · refine lv_aload_n hx hb dX8_count_37 rfl (lv_at hl 0 rfl) ?_
    refine gf_X8_62 hx hb htw hown hK hW (by assumption) (by assumption) dX8_count_38 ?_
    refine ti_iconst hx hb dX8_count_41 ?_
    refine tm_iald hx hb hK hW (by assumption) (by decide) (by decide) (by decide) dX8_count_42 ?_
    exact tm_iret hx hb hr hlk hK hW hS ⟨by rw [tl_cnt, if_neg (by omega), if_pos h1]; exact ha 1 (by decide), rfl⟩ dX8_count_43
  · refine lv_aload_n hx hb dX8_count_44 rfl (lv_at hl 0 rfl) ?_
    refine gf_X8_62 hx hb htw hown hK hW (by assumption) (by assumption) dX8_count_45 ?_
    refine ti_iconst hx hb dX8_count_48 ?_
    refine tm_iald hx hb hK hW (by assumption) (by decide) (by decide) (by decide) dX8_count_49 ?_
    exact tm_iret hx hb hr hlk hK hW hS ⟨by rw [tl_cnt, if_neg (by omega), if_neg (by omega), if_pos h1]; exact ha 0 (by decide), rfl⟩ dX8_count_50
  · refine lv_aload_n hx hb dX8_count_51 rfl (lv_at hl 0 rfl) ?_
    refine gf_X8_62 hx hb htw hown hK hW (by assumption) (by assumption) dX8_count_52 ?_
    refine ti_iconst hx hb dX8_count_55 ?_
    refine tm_iald hx hb hK hW (by assumption) (by decide) (by decide) (by decide) dX8_count_56 ?_
    exact tm_iret hx hb hr hlk hK hW hS ⟨by rw [tl_cnt, if_neg (by omega), if_neg (by omega), if_neg (by omega), if_pos h1]; exact ha 2 (by decide), rfl⟩ dX8_count_57
  · refine ti_iconst hx hb dX8_count_58 ?_
    exact tm_iret hx hb hr hlk hK hW hS ⟨by rw [tl_cnt, if_neg (by omega), if_neg (by omega), if_neg (by omega), if_neg (by omega)], rfl⟩ dX8_count_59
theorem dX8_points_0 : decode cX8_points 0 = .ok (.iload_n 1, 1) := by decide +kernel
theorem dX8_points_1 : decode cX8_points 1 = .ok (.iconst 1, 1) := by decide +kernel
theorem dX8_points_2 : decode cX8_points 2 = .ok (.iconst 3, 1) := by decide +kernel
theorem dX8_points_3 : decode cX8_points 3 = .ok (.invokestatic 65, 3) := by decide +kernel
theorem dX8_points_6 : decode cX8_points 6 = .ok (.aload_n 0, 1) := by decide +kernel
theorem dX8_points_7 : decode cX8_points 7 = .ok (.getfield 58, 3) := by decide +kernel
theorem dX8_points_10 : decode cX8_points 10 = .ok (.iload_n 1, 1) := by decide +kernel
theorem dX8_points_11 : decode cX8_points 11 = .ok (.iaload, 1) := by decide +kernel
theorem dX8_points_12 : decode cX8_points 12 = .ok (.ireturn, 1) := by decide +kernel
set_option maxHeartbeats 4000000 in
set_option maxRecDepth 100000 in
/-- TutorLines.points -/
theorem c_X8_points {l : Launch} {G : tm_G} {Hb : Heap} {sh : tm_sh} {M : tm_M} {T : Nat} {z : tl_Z} (h9 : l.stackTraces = false) (hT : isTL sh M T) (hz : TLv M T z) {w : Int} (hw : inI w) : vx_Met l yX8_points (tws yX8_points cX8_points 2 (some .int)) ({ frames := 7, cells := 1, slots := 6, locals := 111 }) (va_Pc [.ref T, ji w] (tx_St G Hb sh M)) (tm_Qi G Hb sh (fun x M1 => (1 ≤ w ∧ w ≤ 3) ∧ x = zp z w.toNat ∧ M1 = M)) (tx_X G Hb sh (fun E M1 => E = "java/lang/IllegalArgumentException" ∧ ¬ (1 ≤ w ∧ w ≤ 3) ∧ M1 = M)) 1 6 (tm_A Hb) := by
  refine tx_begin (by decide) (Nat.le_of_ble_eq_true rfl) (fun p e s m below meth c ls hx hb hr hml hown htw hlk htab hK hW hB hl => ?_)
  have hS : va_S (tm_A Hb) s.heap s.heap [] := va_S.rf
  have hl : lv_has ls 2 [(0, .ref T), (1, ji w)] := hl
  obtain ⟨a0, ⟨r0, r1, r2, r4, r5, r6, r7, r10, r11, r12, r13⟩, ⟨s1, s2, s88, s389, s390, s393, s394⟩, hRd, hLs, hWr, hSc, hPs, hWs⟩ := hT
  refine lv_iload_n hx hb dX8_points_0 rfl (lv_at hl 1 rfl) ?_
  refine ti_iconst hx hb dX8_points_1 ?_
  refine ti_iconst hx hb dX8_points_2 ?_
  refine tx_callv (cx_X8_65 hx hb hml hown htw hK hW hB hS (c_X8_requireNumber h9 hw (by decide) (by decide)) ⟨rfl, rfl, Nat.le_of_ble_eq_true rfl, Nat.le_of_ble_eq_true rfl⟩ hl.1 (Nat.le_of_ble_eq_true rfl) dX8_points_3 ⟨Nat.le_of_ble_eq_true rfl, Nat.le_of_ble_eq_true rfl⟩) hS (fun E9 ce9 q9 M9 H locs hp9 hW hS h91 h92 h93 => tx_out htab hlk hK hW hS h91 h92 h93 hp9 ⟨Nat.le_of_ble_eq_true rfl, Nat.le_of_ble_eq_true rfl⟩) (fun M3 H locs hp3 hW hS => ?_)
  obtain ⟨hin, eM3⟩ := hp3
  rw [eM3] at hW
  refine lv_aload_n hx hb dX8_points_6 rfl (lv_at hl 0 rfl) ?_
  refine gf_X8_58 hx hb htw hown hK hW (by assumption) (by assumption) dX8_points_7 ?_
  refine lv_iload_n hx hb dX8_points_10 rfl (lv_at hl 1 rfl) ?_
  refine tm_iald hx hb hK hW (by assumption) (by omega) (by omega) (by decide) dX8_points_11 ?_
  exact vx_ret (W.widen (k := 1) (n := 6) (Nat.le_of_ble_eq_true rfl) (Nat.le_of_ble_eq_true rfl) (tm_iret hx hb hr hlk hK hW hS ⟨hin, (hz.2.2.2.2.1 w.toNat (by omega) (by omega)).1, rfl⟩ dX8_points_12))
theorem dX8_hint_0 : decode cX8_hint 0 = .ok (.aload_n 0, 1) := by decide +kernel
theorem dX8_hint_1 : decode cX8_hint 1 = .ok (.invokevirtual 81, 3) := by decide +kernel
theorem dX8_hint_4 : decode cX8_hint 4 = .ok (.aload_n 0, 1) := by decide +kernel
theorem dX8_hint_5 : decode cX8_hint 5 = .ok (.invokevirtual 87, 3) := by decide +kernel
theorem dX8_hint_8 : decode cX8_hint 8 = .ok (.aload_n 0, 1) := by decide +kernel
theorem dX8_hint_9 : decode cX8_hint 9 = .ok (.getfield 31, 3) := by decide +kernel
theorem dX8_hint_12 : decode cX8_hint 12 = .ok (.invokestatic 124, 3) := by decide +kernel
theorem dX8_hint_15 : decode cX8_hint 15 = .ok (.ireturn, 1) := by decide +kernel
set_option maxHeartbeats 4000000 in
set_option maxRecDepth 100000 in
/-- TutorLines.hint -/
theorem c_X8_hint {l : Launch} {G : tm_G} {Hb : Heap} {sh : tm_sh} {M : tm_M} {T : Nat} {z : tl_Z} (h9 : l.stackTraces = false) (hT : isTL sh M T) (hz : TLv M T z) : vx_Met l yX8_hint (tws yX8_hint cX8_hint 1 (some .int)) ({ frames := 7, cells := 1, slots := 6, locals := 118 }) (va_Pc [.ref T] (tx_St G Hb sh M)) (tm_Qi G Hb sh (fun x M1 => 0 < zn z ∧ x = tl_plan (zl z (zn z - 1)) ∧ TLp sh T M z M1)) (tx_X G Hb sh (fun E M1 => E = "java/lang/IllegalStateException" ∧ zn z = 0 ∧ M1 = M)) 1 6 (tm_A Hb) := by
  refine tx_begin (by decide) (Nat.le_of_ble_eq_true rfl) (fun p e s m below meth c ls hx hb hr hml hown htw hlk htab hK hW hB hl => ?_)
  have hS : va_S (tm_A Hb) s.heap s.heap [] := va_S.rf
  have hl : lv_has ls 1 [(0, .ref T)] := hl
  have hT0 := hT
  have h3 := hz.2.1
  obtain ⟨a0, ⟨r0, r1, r2, r4, r5, r6, r7, r10, r11, r12, r13⟩, ⟨s1, s2, s88, s389, s390, s393, s394⟩, hRd, hLs, hWr, hSc, hPs, hWs⟩ := hT
  refine lv_aload_n hx hb dX8_hint_0 rfl (lv_at hl 0 rfl) ?_
  refine tx_callv (cx_X8_81 hx hb hml hown htw hK hW hB hS (by assumption) (c_X8_requireTask h9 a0 (by omega)) ⟨rfl, rfl, Nat.le_of_ble_eq_true rfl, Nat.le_of_ble_eq_true rfl⟩ hl.1 (Nat.le_of_ble_eq_true rfl) dX8_hint_1 ⟨Nat.le_of_ble_eq_true rfl, Nat.le_of_ble_eq_true rfl⟩) hS (fun E9 ce9 q9 M9 H locs hp9 hW hS h91 h92 h93 => tx_out htab hlk hK hW hS h91 h92 h93 ⟨hp9.1, by have := hp9.2.1; omega, hp9.2.2⟩ ⟨Nat.le_of_ble_eq_true rfl, Nat.le_of_ble_eq_true rfl⟩) (fun M1 H locs hp1 hW hS => ?_)
  obtain ⟨n0, eM1⟩ := hp1
  rw [eM1] at hW
  have hn : 0 < zn z := by omega
  have hrow := tl_row hT0 hz hn
  refine lv_aload_n hx hb dX8_hint_4 rfl (lv_at hl 0 rfl) ?_
  refine tm_calla (cs_X8_87 hx hb hml hown htw hK hW (by assumption) (c_X8_present hT0 h3.1 (by omega)) ⟨rfl, rfl, Nat.le_of_ble_eq_true rfl, Nat.le_of_ble_eq_true rfl⟩ hl.1 (Nat.le_of_ble_eq_true rfl) dX8_hint_5 ⟨Nat.le_of_ble_eq_true rfl, Nat.le_of_ble_eq_true rfl⟩) hS (fun x5 M5 H locs hp5 hW hS => ?_)
  obtain ⟨ex5, eM5⟩ := hp5
  rw [eM5] at hW
  rw [ex5]
  refine lv_aload_n hx hb dX8_hint_8 rfl (lv_at hl 0 rfl) ?_
  refine gf_X8_31 hx hb htw hown hK hW (by assumption) (by assumption) dX8_hint_9 ?_
  refine tm_calli (cs_X8_124 hx hb hml hown htw hK hW (c_X3_write hrow.2.1 hSc (by omega) (by rw [hrow.2.2.1]; exact hrow.2.2.2)) ⟨rfl, rfl, Nat.le_of_ble_eq_true rfl, Nat.le_of_ble_eq_true rfl⟩ hl.1 (Nat.le_of_ble_eq_true rfl) dX8_hint_12 ⟨Nat.le_of_ble_eq_true rfl, Nat.le_of_ble_eq_true rfl⟩) hS (fun x12 M12 H locs hp12 hW hS => ?_)
  obtain ⟨ex12, el12, f12⟩ := hp12
  rw [hrow.2.2.1] at ex12 el12
  rw [ex12]
  have P12 : TLp sh T M z M12 := ⟨isTL_m hT0 f12.1, TLv_fr hz f12 (by omega), fT_fr f12 (by omega) (by omega)⟩
  exact vx_ret (W.widen (k := 1) (n := 6) (Nat.le_of_ble_eq_true rfl) (Nat.le_of_ble_eq_true rfl) (tm_iret hx hb hr hlk hK hW hS ⟨hn, rfl, P12⟩ dX8_hint_15))
def zund (z : tl_Z) : tl_Z := (zt z, zn z - 1, zl z, 0, zs z, zw z, zp z, za z)
theorem TL_und {sh : tm_sh} {M : tm_M} {T : Nat} {z : tl_Z} (hT : isTL sh M T) (h : TLv M T z) (hn : 0 < zn z) : TLp sh T M (zund z) (sI (sI M T 3 (mI M T 3 - 1)) T 8 0) := by
  obtain ⟨h1, h2, h3, h4, h5, h6⟩ := h
  have eo : ∀ a k, a ≠ T → mI (sI (sI M T 3 (mI M T 3 - 1)) T 8 0) a k = mI M a k := fun a k ha => (tm_up_a _ _ ha).trans (tm_up_a _ _ ha)
  refine ⟨isTL_m hT rfl, ⟨fun j => by rw [eo _ _ (by omega)]; exact h1 j, ⟨?_, ?_⟩, fun i hi => ?_, ⟨?_, Or.inl rfl, fun q => absurd (show (0 : Int) = 1 from q) (by decide)⟩, fun k k1 k2 => by rw [eo _ _ (by omega)]; exact h5 k k1 k2, fun k hk => by rw [eo _ _ (by omega)]; exact h6 k hk⟩, fun a k q => ⟨rfl, eo a k (by omega), rfl⟩⟩
  · exact (tm_up_k _ _ (by decide)).trans ((tm_up_s _ _ _ _).trans (by show _ = ((zn z - 1 : Nat) : Int); rw [h2.1]; omega))
  · show zn z - 1 ≤ 40; have := h2.2; omega
  · have hi' : i < zn z - 1 := hi
    rw [ln_sI (by omega), ln_sI (by omega)]; exact h3 i (by omega)
  · exact tm_up_s _ _ _ _
theorem dX8_undo_0 : decode cX8_undo 0 = .ok (.aload_n 0, 1) := by decide +kernel
theorem dX8_undo_1 : decode cX8_undo 1 = .ok (.invokevirtual 81, 3) := by decide +kernel
theorem dX8_undo_4 : decode cX8_undo 4 = .ok (.aload_n 0, 1) := by decide +kernel
theorem dX8_undo_5 : decode cX8_undo 5 = .ok (.getfield 73, 3) := by decide +kernel
theorem dX8_undo_8 : decode cX8_undo 8 = .ok (.iconst 1, 1) := by decide +kernel
theorem dX8_undo_9 : decode cX8_undo 9 = .ok (.if_icmp .ne 5, 3) := by decide +kernel
theorem dX8_undo_12 : decode cX8_undo 12 = .ok (.iconst 0, 1) := by decide +kernel
theorem dX8_undo_13 : decode cX8_undo 13 = .ok (.ireturn, 1) := by decide +kernel
theorem dX8_undo_14 : decode cX8_undo 14 = .ok (.aload_n 0, 1) := by decide +kernel
theorem dX8_undo_15 : decode cX8_undo 15 = .ok (.dup, 1) := by decide +kernel
theorem dX8_undo_16 : decode cX8_undo 16 = .ok (.getfield 73, 3) := by decide +kernel
theorem dX8_undo_19 : decode cX8_undo 19 = .ok (.iconst 1, 1) := by decide +kernel
theorem dX8_undo_20 : decode cX8_undo 20 = .ok (.isub, 1) := by decide +kernel
theorem dX8_undo_21 : decode cX8_undo 21 = .ok (.putfield 73, 3) := by decide +kernel
theorem dX8_undo_24 : decode cX8_undo 24 = .ok (.aload_n 0, 1) := by decide +kernel
theorem dX8_undo_25 : decode cX8_undo 25 = .ok (.iconst 0, 1) := by decide +kernel
theorem dX8_undo_26 : decode cX8_undo 26 = .ok (.putfield 104, 3) := by decide +kernel
theorem dX8_undo_29 : decode cX8_undo 29 = .ok (.iconst 1, 1) := by decide +kernel
theorem dX8_undo_30 : decode cX8_undo 30 = .ok (.ireturn, 1) := by decide +kernel
set_option maxHeartbeats 4000000 in
set_option maxRecDepth 100000 in
/-- TutorLines.undo -/
theorem c_X8_undo {l : Launch} {G : tm_G} {Hb : Heap} {sh : tm_sh} {M : tm_M} {T : Nat} {z : tl_Z} (h9 : l.stackTraces = false) (hT : isTL sh M T) (hz : TLv M T z) : vx_Met l yX8_undo (tws yX8_undo cX8_undo 1 (some .boolean)) ({ frames := 7, cells := 1, slots := 6, locals := 109 }) (va_Pc [.ref T] (tx_St G Hb sh M)) (tm_Qi G Hb sh (fun x M1 => 0 < zn z ∧ x = (if zn z = 1 then 0 else 1) ∧ TLp sh T M (if zn z = 1 then z else zund z) M1)) (tx_X G Hb sh (fun E M1 => E = "java/lang/IllegalStateException" ∧ zn z = 0 ∧ M1 = M)) 1 6 (tm_A Hb) := by
  refine tx_begin (by decide) (Nat.le_of_ble_eq_true rfl) (fun p e s m below meth c ls hx hb hr hml hown htw hlk htab hK hW hB hl => ?_)
  have hS : va_S (tm_A Hb) s.heap s.heap [] := va_S.rf
  have hl : lv_has ls 1 [(0, .ref T)] := hl
  have hT0 := hT
  have h3 := hz.2.1
  obtain ⟨a0, ⟨r0, r1, r2, r4, r5, r6, r7, r10, r11, r12, r13⟩, ⟨s1, s2, s88, s389, s390, s393, s394⟩, hRd, hLs, hWr, hSc, hPs, hWs⟩ := hT
  refine lv_aload_n hx hb dX8_undo_0 rfl (lv_at hl 0 rfl) ?_
  refine tx_callv (cx_X8_81 hx hb hml hown htw hK hW hB hS (by assumption) (c_X8_requireTask h9 a0 (by omega)) ⟨rfl, rfl, Nat.le_of_ble_eq_true rfl, Nat.le_of_ble_eq_true rfl⟩ hl.1 (Nat.le_of_ble_eq_true rfl) dX8_undo_1 ⟨Nat.le_of_ble_eq_true rfl, Nat.le_of_ble_eq_true rfl⟩) hS (fun E9 ce9 q9 M9 H locs hp9 hW hS h91 h92 h93 => tx_out htab hlk hK hW hS h91 h92 h93 ⟨hp9.1, by have := hp9.2.1; omega, hp9.2.2⟩ ⟨Nat.le_of_ble_eq_true rfl, Nat.le_of_ble_eq_true rfl⟩) (fun M1 H locs hp1 hW hS => ?_)
  obtain ⟨n0, eM1⟩ := hp1
  rw [eM1] at hW
  have hn : 0 < zn z := by omega
  have hrow := tl_row hT0 hz hn
  refine lv_aload_n hx hb dX8_undo_4 rfl (lv_at hl 0 rfl) ?_
  refine gf_X8_73 hx hb htw hown hK hW (by assumption) dX8_undo_5 ?_
  refine ti_iconst hx hb dX8_undo_8 ?_
  refine ti_icmp_ne (tgt := 14) hx hb dX8_undo_9 (by decide) (by omega) (by decide) (fun h9 => ?_) (fun h9 => ?_)
  · refine lv_aload_n hx hb dX8_undo_14 rfl (lv_at hl 0 rfl) ?_
    refine lv_dup hx hb dX8_undo_15 rfl ?_
    refine gf_X8_73 hx hb htw hown hK hW (by assumption) dX8_undo_16 ?_
    refine ti_iconst hx hb dX8_undo_19 ?_
    refine ti_isub hx hb dX8_undo_20 ?_
    refine pf_X8_73 hx hb htw hown hK hW (by assumption) hS dX8_undo_21 (fun H locs hW hS => ?_)
    refine lv_aload_n hx hb dX8_undo_24 rfl (lv_at hl 0 rfl) ?_
    refine ti_iconst hx hb dX8_undo_25 ?_
    refine pf_X8_104 hx hb htw hown hK hW (by assumption) hS (Or.inl rfl) dX8_undo_26 (fun H locs hW hS => ?_)
    refine ti_iconst hx hb dX8_undo_29 ?_
    exact vx_ret (W.widen (k := 1) (n := 6) (Nat.le_of_ble_eq_true rfl) (Nat.le_of_ble_eq_true rfl) (tm_zret hx hb hr hlk (by first | exact Or.inl rfl | exact Or.inr rfl | assumption) hK hW hS ⟨hn, (if_neg (by omega)).symm, by rw [if_neg (by omega)]; exact TL_und hT0 hz hn⟩ dX8_undo_30))
  · refine ti_iconst hx hb dX8_undo_12 ?_
    exact vx_ret (W.widen (k := 1) (n := 6) (Nat.le_of_ble_eq_true rfl) (Nat.le_of_ble_eq_true rfl) (tm_zret hx hb hr hlk (by first | exact Or.inl rfl | exact Or.inr rfl | assumption) hK hW hS ⟨hn, (if_pos (by omega)).symm, by rw [if_pos (by omega)]; exact ⟨hT0, hz, fT_rf⟩⟩ dX8_undo_13))
