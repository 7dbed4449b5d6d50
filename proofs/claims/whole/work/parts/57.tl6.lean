/-! TutorLines: solutions, witness, step (by program: wip/whole/gen/tl6.py) -/
theorem so_of {M : tm_M} {q : Nat} {v : Int × tl_F} (h : (mI M q 0, fr M (q + 1)) = v) : so M q = v := h
def tl_sol (v : Int × tl_F) (w : Int) : Int := if w = 0 then v.1 else if w = 1 then v.2.1 else v.2.2
theorem dX8_solutions_0 : decode cX8_solutions 0 = .ok (.iload_n 1, 1) := by decide +kernel
theorem dX8_solutions_1 : decode cX8_solutions 1 = .ok (.iconst 0, 1) := by decide +kernel
theorem dX8_solutions_2 : decode cX8_solutions 2 = .ok (.iconst 2, 1) := by decide +kernel
theorem dX8_solutions_3 : decode cX8_solutions 3 = .ok (.invokestatic 65, 3) := by decide +kernel
theorem dX8_solutions_6 : decode cX8_solutions 6 = .ok (.aload_n 0, 1) := by decide +kernel
theorem dX8_solutions_7 : decode cX8_solutions 7 = .ok (.invokevirtual 81, 3) := by decide +kernel
theorem dX8_solutions_10 : decode cX8_solutions 10 = .ok (.aload_n 0, 1) := by decide +kernel
theorem dX8_solutions_11 : decode cX8_solutions 11 = .ok (.getfield 37, 3) := by decide +kernel
theorem dX8_solutions_14 : decode cX8_solutions 14 = .ok (.aload_n 0, 1) := by decide +kernel
theorem dX8_solutions_15 : decode cX8_solutions 15 = .ok (.invokevirtual 87, 3) := by decide +kernel
theorem dX8_solutions_18 : decode cX8_solutions 18 = .ok (.invokevirtual 91, 3) := by decide +kernel
theorem dX8_solutions_21 : decode cX8_solutions 21 = .ok (.iload_n 1, 1) := by decide +kernel
theorem dX8_solutions_22 : decode cX8_solutions 22 = .ok (.ifCond .ne 12, 3) := by decide +kernel
theorem dX8_solutions_25 : decode cX8_solutions 25 = .ok (.aload_n 0, 1) := by decide +kernel
theorem dX8_solutions_26 : decode cX8_solutions 26 = .ok (.getfield 37, 3) := by decide +kernel
theorem dX8_solutions_29 : decode cX8_solutions 29 = .ok (.getfield 148, 3) := by decide +kernel
theorem dX8_solutions_32 : decode cX8_solutions 32 = .ok (.i2l, 1) := by decide +kernel
theorem dX8_solutions_33 : decode cX8_solutions 33 = .ok (.lreturn, 1) := by decide +kernel
theorem dX8_solutions_34 : decode cX8_solutions 34 = .ok (.iload_n 1, 1) := by decide +kernel
theorem dX8_solutions_35 : decode cX8_solutions 35 = .ok (.iconst 1, 1) := by decide +kernel
theorem dX8_solutions_36 : decode cX8_solutions 36 = .ok (.if_icmp .ne 16, 3) := by decide +kernel
theorem dX8_solutions_39 : decode cX8_solutions 39 = .ok (.aload_n 0, 1) := by decide +kernel
theorem dX8_solutions_40 : decode cX8_solutions 40 = .ok (.getfield 37, 3) := by decide +kernel
theorem dX8_solutions_43 : decode cX8_solutions 43 = .ok (.getfield 151, 3) := by decide +kernel
theorem dX8_solutions_46 : decode cX8_solutions 46 = .ok (.getfield 117, 3) := by decide +kernel
theorem dX8_solutions_49 : decode cX8_solutions 49 = .ok (.goto 13, 3) := by decide +kernel
theorem dX8_solutions_52 : decode cX8_solutions 52 = .ok (.aload_n 0, 1) := by decide +kernel
theorem dX8_solutions_53 : decode cX8_solutions 53 = .ok (.getfield 37, 3) := by decide +kernel
theorem dX8_solutions_56 : decode cX8_solutions 56 = .ok (.getfield 151, 3) := by decide +kernel
theorem dX8_solutions_59 : decode cX8_solutions 59 = .ok (.getfield 121, 3) := by decide +kernel
theorem dX8_solutions_62 : decode cX8_solutions 62 = .ok (.lreturn, 1) := by decide +kernel
set_option maxHeartbeats 4000000 in
set_option maxRecDepth 100000 in
/-- TutorLines.solutions -/
theorem c_X8_solutions {l : Launch} {G : tm_G} {Hb : Heap} {sh : tm_sh} {M : tm_M} {T : Nat} {z : tl_Z} (h9 : l.stackTraces = false) (hT : isTL sh M T) (hz : TLv M T z) {w : Int} (hw : inI w) : vx_Met l yX8_solutions (tws yX8_solutions cX8_solutions 2 (some .long)) ({ frames := 7, cells := 2, slots := 12, locals := 111 }) (va_Pc [.ref T, ji w] (tx_St G Hb sh M)) (tm_Ql G Hb sh (fun x M1 => (0 ≤ w ∧ w ≤ 2) ∧ 0 < zn z ∧ x = tl_sol (tl_solve (zl z (zn z - 1))) w ∧ TLp sh T M z M1)) (tx_X G Hb sh (fun E M1 => ((E = "java/lang/IllegalArgumentException" ∧ ¬ (0 ≤ w ∧ w ≤ 2)) ∨ (E = "java/lang/IllegalStateException" ∧ (0 ≤ w ∧ w ≤ 2) ∧ zn z = 0)) ∧ M1 = M)) 2 12 (tm_A Hb) := by
  refine tx_begin (by decide) (Nat.le_of_ble_eq_true rfl) (fun p e s m below meth c ls hx hb hr hml hown htw hlk htab hK hW hB hl => ?_)
  have hS : va_S (tm_A Hb) s.heap s.heap [] := va_S.rf
  have hl : lv_has ls 2 [(0, .ref T), (1, ji w)] := hl
  have hT0 := hT
  have h3 := hz.2.1
  obtain ⟨a0, ⟨r0, r1, r2, r4, r5, r6, r7, r10, r11, r12, r13⟩, ⟨s1, s2, s88, s389, s390, s393, s394⟩, hRd, hLs, hWr, hSc, hPs, hWs⟩ := hT
  refine lv_iload_n hx hb dX8_solutions_0 rfl (lv_at hl 1 rfl) ?_
  refine ti_iconst hx hb dX8_solutions_1 ?_
  refine ti_iconst hx hb dX8_solutions_2 ?_
  refine tx_callv (cx_X8_65 hx hb hml hown htw hK hW hB hS (c_X8_requireNumber h9 hw (by decide) (by decide)) ⟨rfl, rfl, Nat.le_of_ble_eq_true rfl, Nat.le_of_ble_eq_true rfl⟩ hl.1 (Nat.le_of_ble_eq_true rfl) dX8_solutions_3 ⟨Nat.le_of_ble_eq_true rfl, Nat.le_of_ble_eq_true rfl⟩) hS (fun E9 ce9 q9 M9 H locs hp9 hW hS h91 h92 h93 => tx_out htab hlk hK hW hS h91 h92 h93 ⟨Or.inl ⟨hp9.1, hp9.2.1⟩, hp9.2.2⟩ ⟨Nat.le_of_ble_eq_true rfl, Nat.le_of_ble_eq_true rfl⟩) (fun M3 H locs hp3 hW hS => ?_)
  obtain ⟨hin, eM3⟩ := hp3
  rw [eM3] at hW
  refine lv_aload_n hx hb dX8_solutions_6 rfl (lv_at hl 0 rfl) ?_
  refine tx_callv (cx_X8_81 hx hb hml hown htw hK hW hB hS (by assumption) (c_X8_requireTask h9 a0 (by omega)) ⟨rfl, rfl, Nat.le_of_ble_eq_true rfl, Nat.le_of_ble_eq_true rfl⟩ hl.1 (Nat.le_of_ble_eq_true rfl) dX8_solutions_7 ⟨Nat.le_of_ble_eq_true rfl, Nat.le_of_ble_eq_true rfl⟩) hS (fun E9 ce9 q9 M9 H locs hp9 hW hS h91 h92 h93 => tx_out htab hlk hK hW hS h91 h92 h93 ⟨Or.inr ⟨hp9.1, hin, by have := hp9.2.1; omega⟩, hp9.2.2⟩ ⟨Nat.le_of_ble_eq_true rfl, Nat.le_of_ble_eq_true rfl⟩) (fun M7 H locs hp7 hW hS => ?_)
  obtain ⟨n0, eM7⟩ := hp7
  rw [eM7] at hW
  have hn : 0 < zn z := by omega
  have hrow := tl_row hT0 hz hn
  refine lv_aload_n hx hb dX8_solutions_10 rfl (lv_at hl 0 rfl) ?_
  refine gf_X8_37 hx hb htw hown hK hW (by assumption) (by assumption) dX8_solutions_11 ?_
  refine lv_aload_n hx hb dX8_solutions_14 rfl (lv_at hl 0 rfl) ?_
  refine tm_calla (cs_X8_87 hx hb hml hown htw hK hW (by assumption) (c_X8_present hT0 h3.1 (by omega)) ⟨rfl, rfl, Nat.le_of_ble_eq_true rfl, Nat.le_of_ble_eq_true rfl⟩ hl.1 (Nat.le_of_ble_eq_true rfl) dX8_solutions_15 ⟨Nat.le_of_ble_eq_true rfl, Nat.le_of_ble_eq_true rfl⟩) hS (fun x15 M15 H locs hp15 hW hS => ?_)
  obtain ⟨ex15, eM15⟩ := hp15
  rw [eM15] at hW
  rw [ex15]
  refine tm_callv (cs_X8_91 hx hb hml hown htw hK hW hPs.1 (c_X7_find hPs hrow.2.1 (by omega) (by rw [hrow.2.2.1]; exact hrow.2.2.2)) ⟨rfl, rfl, Nat.le_of_ble_eq_true rfl, Nat.le_of_ble_eq_true rfl⟩ hl.1 (Nat.le_of_ble_eq_true rfl) dX8_solutions_18 ⟨Nat.le_of_ble_eq_true rfl, Nat.le_of_ble_eq_true rfl⟩) hS (fun M18 H locs hp18 hW hS => ?_)
  obtain ⟨es18, f18⟩ := hp18
  rw [hrow.2.2.1] at es18
  have es18 := so_of es18
  have P18 : TLp sh T M z M18 := ⟨isTL_m hT0 f18.1, TLv_fr hz f18 (by omega), fT_fr f18 (by omega) (by omega)⟩
  obtain ⟨a0a, ⟨r0a, r1a, r2a, r4a, r5a, r6a, r7a, r10a, r11a, r12a, r13a⟩, ⟨s1a, s2a, s88a, s389a, s390a, s393a, s394a⟩, hRda, hLsa, hWra, hSca, hPsa, hWsa⟩ := P18.1
  have k0 := (sook_solve hrow.2.2.2).1
  have kk : mI M18 (T + 383) 0 = (tl_solve (zl z (zn z - 1))).1 := congrArg Prod.fst es18
  refine lv_iload_n hx hb dX8_solutions_21 rfl (lv_at hl 1 rfl) ?_
  refine ti_if_ne (tgt := 34) hx hb dX8_solutions_22 (by decide) (by omega) (fun h22 => ?_) (fun h22 => ?_)
  · refine lv_iload_n hx hb dX8_solutions_34 rfl (lv_at hl 1 rfl) ?_
    refine ti_iconst hx hb dX8_solutions_35 ?_
    refine ti_icmp_ne (tgt := 52) hx hb dX8_solutions_36 (by decide) (by omega) (by decide) (fun h36 => ?_) (fun h36 => ?_)
    · refine lv_aload_n hx hb dX8_solutions_52 rfl (lv_at hl 0 rfl) ?_
      refine gf_X8_37 hx hb htw hown hK hW (by assumption) r6a dX8_solutions_53 ?_
      refine gf_X8_151 hx hb htw hown hK hW hPsa.1 hPsa.2.1 dX8_solutions_56 ?_
      refine gf_X8_121 hx hb htw hown hK hW hPsa.2.2.2.1 dX8_solutions_59 ?_
      first
      | exact vx_ret (W.widen (k := 2) (n := 12) (Nat.le_of_ble_eq_true rfl) (Nat.le_of_ble_eq_true rfl) (tm_lret hx hb hr hlk hK hW hS ⟨hin, hn, by rw [tl_sol, if_neg h22, if_pos (by omega)]; exact congrArg (fun v => v.2.1) es18, P18⟩ dX8_solutions_62))
      | exact vx_ret (W.widen (k := 2) (n := 12) (Nat.le_of_ble_eq_true rfl) (Nat.le_of_ble_eq_true rfl) (tm_lret hx hb hr hlk hK hW hS ⟨hin, hn, by rw [tl_sol, if_neg h22, if_neg (by omega)]; exact congrArg (fun v => v.2.2) es18, P18⟩ dX8_solutions_62))
    · refine lv_aload_n hx hb dX8_solutions_39 rfl (lv_at hl 0 rfl) ?_
      refine gf_X8_37 hx hb htw hown hK hW (by assumption) r6a dX8_solutions_40 ?_
      refine gf_X8_151 hx hb htw hown hK hW hPsa.1 hPsa.2.1 dX8_solutions_43 ?_
      refine gf_X8_117 hx hb htw hown hK hW hPsa.2.2.2.1 dX8_solutions_46 ?_
      refine lv_goto (tgt := 62) hx hb dX8_solutions_49 (by decide) ?_
      first
      | exact vx_ret (W.widen (k := 2) (n := 12) (Nat.le_of_ble_eq_true rfl) (Nat.le_of_ble_eq_true rfl) (tm_lret hx hb hr hlk hK hW hS ⟨hin, hn, by rw [tl_sol, if_neg h22, if_pos (by omega)]; exact congrArg (fun v => v.2.1) es18, P18⟩ dX8_solutions_62))
      | exact vx_ret (W.widen (k := 2) (n := 12) (Nat.le_of_ble_eq_true rfl) (Nat.le_of_ble_eq_true rfl) (tm_lret hx hb hr hlk hK hW hS ⟨hin, hn, by rw [tl_sol, if_neg h22, if_neg (by omega)]; exact congrArg (fun v => v.2.2) es18, P18⟩ dX8_solutions_62))
  · refine lv_aload_n hx hb dX8_solutions_25 rfl (lv_at hl 0 rfl) ?_
    refine gf_X8_37 hx hb htw hown hK hW (by assumption) r6a dX8_solutions_26 ?_
    refine gf_X8_148 hx hb htw hown hK hW hPsa.1 dX8_solutions_29 ?_
    refine ti_i2l hx hb dX8_solutions_32 (by rw [kk]; have := k0.1; have := k0.2.1; omega) ?_
    exact vx_ret (W.widen (k := 2) (n := 12) (Nat.le_of_ble_eq_true rfl) (Nat.le_of_ble_eq_true rfl) (tm_lret hx hb hr hlk hK hW hS ⟨hin, hn, by rw [tl_sol, if_pos h22]; exact kk, P18⟩ dX8_solutions_33))
theorem dX8_witness_0 : decode cX8_witness 0 = .ok (.iload_n 1, 1) := by decide +kernel
theorem dX8_witness_1 : decode cX8_witness 1 = .ok (.iconst 0, 1) := by decide +kernel
theorem dX8_witness_2 : decode cX8_witness 2 = .ok (.iconst 1, 1) := by decide +kernel
theorem dX8_witness_3 : decode cX8_witness 3 = .ok (.invokestatic 65, 3) := by decide +kernel
theorem dX8_witness_6 : decode cX8_witness 6 = .ok (.aload_n 0, 1) := by decide +kernel
theorem dX8_witness_7 : decode cX8_witness 7 = .ok (.getfield 104, 3) := by decide +kernel
theorem dX8_witness_10 : decode cX8_witness 10 = .ok (.ifCond .ne 11, 3) := by decide +kernel
theorem dX8_witness_13 : decode cX8_witness 13 = .ok (.new 111, 3) := by decide +kernel
theorem dX8_witness_16 : decode cX8_witness 16 = .ok (.dup, 1) := by decide +kernel
theorem dX8_witness_17 : decode cX8_witness 17 = .ok (.invokespecial 113, 3) := by decide +kernel
theorem dX8_witness_20 : decode cX8_witness 20 = .ok (.athrow, 1) := by decide +kernel
theorem dX8_witness_21 : decode cX8_witness 21 = .ok (.aload_n 0, 1) := by decide +kernel
theorem dX8_witness_22 : decode cX8_witness 22 = .ok (.getfield 37, 3) := by decide +kernel
theorem dX8_witness_25 : decode cX8_witness 25 = .ok (.aload_n 0, 1) := by decide +kernel
theorem dX8_witness_26 : decode cX8_witness 26 = .ok (.invokevirtual 87, 3) := by decide +kernel
theorem dX8_witness_29 : decode cX8_witness 29 = .ok (.invokevirtual 91, 3) := by decide +kernel
theorem dX8_witness_32 : decode cX8_witness 32 = .ok (.aload_n 0, 1) := by decide +kernel
theorem dX8_witness_33 : decode cX8_witness 33 = .ok (.invokevirtual 114, 3) := by decide +kernel
theorem dX8_witness_36 : decode cX8_witness 36 = .ok (.iload_n 1, 1) := by decide +kernel
theorem dX8_witness_37 : decode cX8_witness 37 = .ok (.ifCond .ne 13, 3) := by decide +kernel
theorem dX8_witness_40 : decode cX8_witness 40 = .ok (.aload_n 0, 1) := by decide +kernel
theorem dX8_witness_41 : decode cX8_witness 41 = .ok (.getfield 47, 3) := by decide +kernel
theorem dX8_witness_44 : decode cX8_witness 44 = .ok (.getfield 117, 3) := by decide +kernel
theorem dX8_witness_47 : decode cX8_witness 47 = .ok (.goto 10, 3) := by decide +kernel
theorem dX8_witness_50 : decode cX8_witness 50 = .ok (.aload_n 0, 1) := by decide +kernel
theorem dX8_witness_51 : decode cX8_witness 51 = .ok (.getfield 47, 3) := by decide +kernel
theorem dX8_witness_54 : decode cX8_witness 54 = .ok (.getfield 121, 3) := by decide +kernel
theorem dX8_witness_57 : decode cX8_witness 57 = .ok (.lreturn, 1) := by decide +kernel
set_option maxHeartbeats 4000000 in
set_option maxRecDepth 100000 in
/-- TutorLines.witness -/
theorem c_X8_witness {l : Launch} {G : tm_G} {Hb : Heap} {sh : tm_sh} {M : tm_M} {T : Nat} {z : tl_Z} (h9 : l.stackTraces = false) (hT : isTL sh M T) (hz : TLv M T z) (hzk : zr z = 1 → 0 < zn z) {w : Int} (hw : inI w) : vx_Met l yX8_witness (tws yX8_witness cX8_witness 2 (some .long)) ({ frames := 7, cells := 2, slots := 12, locals := 131 }) (va_Pc [.ref T, ji w] (tx_St G Hb sh M)) (tm_Ql G Hb sh (fun x M1 => (0 ≤ w ∧ w ≤ 1) ∧ zr z = 1 ∧ x = (if w = 0 then (tl_wit (tl_solve (zl z (zn z - 1))) (tl_solve (zw z)) 3 0).1 else (tl_wit (tl_solve (zl z (zn z - 1))) (tl_solve (zw z)) 3 0).2) ∧ TLp sh T M z M1)) (tx_X G Hb sh (fun E M1 => ((E = "java/lang/IllegalArgumentException" ∧ ¬ (0 ≤ w ∧ w ≤ 1)) ∨ (E = "java/lang/IllegalStateException" ∧ (0 ≤ w ∧ w ≤ 1) ∧ zr z = 0)) ∧ M1 = M)) 2 12 (tm_A Hb) := by
  refine tx_begin (by decide) (Nat.le_of_ble_eq_true rfl) (fun p e s m below meth c ls hx hb hr hml hown htw hlk htab hK hW hB hl => ?_)
  have hS : va_S (tm_A Hb) s.heap s.heap [] := va_S.rf
  have hl : lv_has ls 2 [(0, .ref T), (1, ji w)] := hl
  have hT0 := hT
  have h3 := hz.2.1
  obtain ⟨a0, ⟨r0, r1, r2, r4, r5, r6, r7, r10, r11, r12, r13⟩, ⟨s1, s2, s88, s389, s390, s393, s394⟩, hRd, hLs, hWr, hSc, hPs, hWs⟩ := hT
  have h8 := hz.2.2.2.1
  refine lv_iload_n hx hb dX8_witness_0 rfl (lv_at hl 1 rfl) ?_
  refine ti_iconst hx hb dX8_witness_1 ?_
  refine ti_iconst hx hb dX8_witness_2 ?_
  refine tx_callv (cx_X8_65 hx hb hml hown htw hK hW hB hS (c_X8_requireNumber h9 hw (by decide) (by decide)) ⟨rfl, rfl, Nat.le_of_ble_eq_true rfl, Nat.le_of_ble_eq_true rfl⟩ hl.1 (Nat.le_of_ble_eq_true rfl) dX8_witness_3 ⟨Nat.le_of_ble_eq_true rfl, Nat.le_of_ble_eq_true rfl⟩) hS (fun E9 ce9 q9 M9 H locs hp9 hW hS h91 h92 h93 => tx_out htab hlk hK hW hS h91 h92 h93 ⟨Or.inl ⟨hp9.1, hp9.2.1⟩, hp9.2.2⟩ ⟨Nat.le_of_ble_eq_true rfl, Nat.le_of_ble_eq_true rfl⟩) (fun M3 H locs hp3 hW hS => ?_)
  obtain ⟨hin, eM3⟩ := hp3
  rw [eM3] at hW
  refine lv_aload_n hx hb dX8_witness_6 rfl (lv_at hl 0 rfl) ?_
  refine gf_X8_104 hx hb htw hown hK hW (by assumption) dX8_witness_7 ?_
  rw [h8.1]
  refine ti_if_ne (tgt := 21) hx hb dX8_witness_10 (by decide) (by omega) (fun h10 => ?_) (fun h10 => ?_)
  · have hn : 0 < zn z := hzk (by omega)
    have hrow := tl_row hT0 hz hn
    refine lv_aload_n hx hb dX8_witness_21 rfl (lv_at hl 0 rfl) ?_
    refine gf_X8_37 hx hb htw hown hK hW (by assumption) (by assumption) dX8_witness_22 ?_
    refine lv_aload_n hx hb dX8_witness_25 rfl (lv_at hl 0 rfl) ?_
    refine tm_calla (cs_X8_87 hx hb hml hown htw hK hW (by assumption) (c_X8_present hT0 h3.1 (by omega)) ⟨rfl, rfl, Nat.le_of_ble_eq_true rfl, Nat.le_of_ble_eq_true rfl⟩ hl.1 (Nat.le_of_ble_eq_true rfl) dX8_witness_26 ⟨Nat.le_of_ble_eq_true rfl, Nat.le_of_ble_eq_true rfl⟩) hS (fun x26 M26 H locs hp26 hW hS => ?_)
    obtain ⟨ex26, eM26⟩ := hp26
    rw [eM26] at hW
    rw [ex26]
    refine tm_callv (cs_X8_91 hx hb hml hown htw hK hW hPs.1 (c_X7_find hPs hrow.2.1 (by omega) (by rw [hrow.2.2.1]; exact hrow.2.2.2)) ⟨rfl, rfl, Nat.le_of_ble_eq_true rfl, Nat.le_of_ble_eq_true rfl⟩ hl.1 (Nat.le_of_ble_eq_true rfl) dX8_witness_29 ⟨Nat.le_of_ble_eq_true rfl, Nat.le_of_ble_eq_true rfl⟩) hS (fun M29 H locs hp29 hW hS => ?_)
    obtain ⟨es29, f29⟩ := hp29
    rw [hrow.2.2.1] at es29
    have es29 := so_of es29
    have P29 : TLp sh T M z M29 := ⟨isTL_m hT0 f29.1, TLv_fr hz f29 (by omega), fT_fr f29 (by omega) (by omega)⟩
    obtain ⟨a0a, ⟨r0a, r1a, r2a, r4a, r5a, r6a, r7a, r10a, r11a, r12a, r13a⟩, ⟨s1a, s2a, s88a, s389a, s390a, s393a, s394a⟩, hRda, hLsa, hWra, hSca, hPsa, hWsa⟩ := P29.1
    obtain ⟨w1, w2, w3, w4⟩ := hz.2.2.2.1.2.2 (by omega)
    have e86 : so M29 (T + 386) = tl_solve (zw z) := (so_fr f29 (by omega)).trans w3
    have k1 := sook_solve hrow.2.2.2
    have k2 := sook_solve w4
    refine lv_aload_n hx hb dX8_witness_32 rfl (lv_at hl 0 rfl) ?_
    refine tx_callv (cx_X8_114 hx hb hml hown htw hK hW hB hS (by assumption) (c_X8_findWitness P29.1 (by rw [es29]; exact k1.1) (by rw [e86]; exact k2.1) (by rw [es29]; exact ⟨k1.2.1, k1.2.2.1, k1.2.2.2.1⟩) (by rw [e86]; exact ⟨k2.2.1, k2.2.2.1, k2.2.2.2.1⟩)) ⟨rfl, rfl, Nat.le_of_ble_eq_true rfl, Nat.le_of_ble_eq_true rfl⟩ hl.1 (Nat.le_of_ble_eq_true rfl) dX8_witness_33 ⟨Nat.le_of_ble_eq_true rfl, Nat.le_of_ble_eq_true rfl⟩) hS (fun E9 ce9 q9 M9 H locs hp9 hW hS h91 h92 h93 => tx_out htab hlk hK hW hS h91 h92 h93 hp9.elim ⟨Nat.le_of_ble_eq_true rfl, Nat.le_of_ble_eq_true rfl⟩) (fun M33 H locs hp33 hW hS => ?_)
    obtain ⟨ew, f33⟩ := hp33
    rw [es29, e86] at ew
    have P33 : TLp sh T M z M33 := TLp_tr P29 ⟨isTL_m P29.1 f33.1, TLv_fr P29.2.1 f33 (by omega), fT_fr f33 (by omega) (by omega)⟩
    obtain ⟨a0b, ⟨r0b, r1b, r2b, r4b, r5b, r6b, r7b, r10b, r11b, r12b, r13b⟩, ⟨s1b, s2b, s88b, s389b, s390b, s393b, s394b⟩, hRdb, hLsb, hWrb, hScb, hPsb, hWsb⟩ := P33.1
    refine lv_iload_n hx hb dX8_witness_36 rfl (lv_at hl 1 rfl) ?_
    refine ti_if_ne (tgt := 50) hx hb dX8_witness_37 (by decide) (by omega) (fun h37 => ?_) (fun h37 => ?_)
    · refine lv_aload_n hx hb dX8_witness_50 rfl (lv_at hl 0 rfl) ?_
      refine gf_X8_47 hx hb htw hown hK hW (by assumption) r10b dX8_witness_51 ?_
      refine gf_X8_121 hx hb htw hown hK hW s389 dX8_witness_54 ?_
      first
      | exact vx_ret (W.widen (k := 2) (n := 12) (Nat.le_of_ble_eq_true rfl) (Nat.le_of_ble_eq_true rfl) (tm_lret hx hb hr hlk hK hW hS ⟨hin, by omega, by rw [if_pos h37]; exact congrArg Prod.fst ew, P33⟩ dX8_witness_57))
      | exact vx_ret (W.widen (k := 2) (n := 12) (Nat.le_of_ble_eq_true rfl) (Nat.le_of_ble_eq_true rfl) (tm_lret hx hb hr hlk hK hW hS ⟨hin, by omega, by rw [if_neg h37]; exact congrArg Prod.snd ew, P33⟩ dX8_witness_57))
    · refine lv_aload_n hx hb dX8_witness_40 rfl (lv_at hl 0 rfl) ?_
      refine gf_X8_47 hx hb htw hown hK hW (by assumption) r10b dX8_witness_41 ?_
      refine gf_X8_117 hx hb htw hown hK hW s389 dX8_witness_44 ?_
      refine lv_goto (tgt := 57) hx hb dX8_witness_47 (by decide) ?_
      first
      | exact vx_ret (W.widen (k := 2) (n := 12) (Nat.le_of_ble_eq_true rfl) (Nat.le_of_ble_eq_true rfl) (tm_lret hx hb hr hlk hK hW hS ⟨hin, by omega, by rw [if_pos h37]; exact congrArg Prod.fst ew, P33⟩ dX8_witness_57))
      | exact vx_ret (W.widen (k := 2) (n := 12) (Nat.le_of_ble_eq_true rfl) (Nat.le_of_ble_eq_true rfl) (tm_lret hx hb hr hlk hK hW hS ⟨hin, by omega, by rw [if_neg h37]; exact congrArg Prod.snd ew, P33⟩ dX8_witness_57))
  · exact tx_throw hx hb h9 hml hl.1 hown htw hlk htab hK hW hB hS (by decide +kernel) kl_IS in_IS (tx_at tx_aIS) tx_gIS dX8_witness_13 dX8_witness_16 dX8_witness_17 dX8_witness_20 ⟨Nat.le_of_ble_eq_true rfl, Nat.le_of_ble_eq_true rfl, Nat.le_of_ble_eq_true rfl, Nat.le_of_ble_eq_true rfl⟩ ⟨Nat.le_of_ble_eq_true rfl, Nat.le_of_ble_eq_true rfl⟩ ⟨Or.inr ⟨rfl, hin, by omega⟩, rfl⟩
theorem dX8_step_0 : decode cX8_step 0 = .ok (.iload_n 1, 1) := by decide +kernel
theorem dX8_step_1 : decode cX8_step 1 = .ok (.iconst 0, 1) := by decide +kernel
theorem dX8_step_2 : decode cX8_step 2 = .ok (.bipush 80, 2) := by decide +kernel
theorem dX8_step_4 : decode cX8_step 4 = .ok (.invokestatic 65, 3) := by decide +kernel
theorem dX8_step_7 : decode cX8_step 7 = .ok (.aload_n 0, 1) := by decide +kernel
theorem dX8_step_8 : decode cX8_step 8 = .ok (.invokevirtual 81, 3) := by decide +kernel
theorem dX8_step_11 : decode cX8_step 11 = .ok (.aload_n 0, 1) := by decide +kernel
theorem dX8_step_12 : decode cX8_step 12 = .ok (.invokevirtual 84, 3) := by decide +kernel
theorem dX8_step_15 : decode cX8_step 15 = .ok (.aload_n 0, 1) := by decide +kernel
theorem dX8_step_16 : decode cX8_step 16 = .ok (.getfield 16, 3) := by decide +kernel
theorem dX8_step_19 : decode cX8_step 19 = .ok (.aload_n 0, 1) := by decide +kernel
theorem dX8_step_20 : decode cX8_step 20 = .ok (.getfield 9, 3) := by decide +kernel
theorem dX8_step_23 : decode cX8_step 23 = .ok (.iload_n 1, 1) := by decide +kernel
theorem dX8_step_24 : decode cX8_step 24 = .ok (.aload_n 0, 1) := by decide +kernel
theorem dX8_step_25 : decode cX8_step 25 = .ok (.getfield 27, 3) := by decide +kernel
theorem dX8_step_28 : decode cX8_step 28 = .ok (.invokevirtual 69, 3) := by decide +kernel
theorem dX8_step_31 : decode cX8_step 31 = .ok (.istore_n 2, 1) := by decide +kernel
theorem dX8_step_32 : decode cX8_step 32 = .ok (.iload_n 2, 1) := by decide +kernel
theorem dX8_step_33 : decode cX8_step 33 = .ok (.iconst (-1), 1) := by decide +kernel
theorem dX8_step_34 : decode cX8_step 34 = .ok (.if_icmp .eq 7, 3) := by decide +kernel
theorem dX8_step_37 : decode cX8_step 37 = .ok (.iconst (-1), 1) := by decide +kernel
theorem dX8_step_38 : decode cX8_step 38 = .ok (.iload_n 2, 1) := by decide +kernel
theorem dX8_step_39 : decode cX8_step 39 = .ok (.isub, 1) := by decide +kernel
theorem dX8_step_40 : decode cX8_step 40 = .ok (.ireturn, 1) := by decide +kernel
theorem dX8_step_41 : decode cX8_step 41 = .ok (.aload_n 0, 1) := by decide +kernel
theorem dX8_step_42 : decode cX8_step 42 = .ok (.getfield 37, 3) := by decide +kernel
theorem dX8_step_45 : decode cX8_step 45 = .ok (.aload_n 0, 1) := by decide +kernel
theorem dX8_step_46 : decode cX8_step 46 = .ok (.invokevirtual 87, 3) := by decide +kernel
theorem dX8_step_49 : decode cX8_step 49 = .ok (.invokevirtual 91, 3) := by decide +kernel
theorem dX8_step_52 : decode cX8_step 52 = .ok (.aload_n 0, 1) := by decide +kernel
theorem dX8_step_53 : decode cX8_step 53 = .ok (.getfield 41, 3) := by decide +kernel
theorem dX8_step_56 : decode cX8_step 56 = .ok (.aload_n 0, 1) := by decide +kernel
theorem dX8_step_57 : decode cX8_step 57 = .ok (.getfield 27, 3) := by decide +kernel
theorem dX8_step_60 : decode cX8_step 60 = .ok (.invokevirtual 91, 3) := by decide +kernel
theorem dX8_step_63 : decode cX8_step 63 = .ok (.aload_n 0, 1) := by decide +kernel
theorem dX8_step_64 : decode cX8_step 64 = .ok (.getfield 37, 3) := by decide +kernel
theorem dX8_step_67 : decode cX8_step 67 = .ok (.aload_n 0, 1) := by decide +kernel
theorem dX8_step_68 : decode cX8_step 68 = .ok (.getfield 41, 3) := by decide +kernel
theorem dX8_step_71 : decode cX8_step 71 = .ok (.invokevirtual 94, 3) := by decide +kernel
theorem dX8_step_74 : decode cX8_step 74 = .ok (.istore_n 3, 1) := by decide +kernel
theorem dX8_step_75 : decode cX8_step 75 = .ok (.aload_n 0, 1) := by decide +kernel
theorem dX8_step_76 : decode cX8_step 76 = .ok (.getfield 62, 3) := by decide +kernel
theorem dX8_step_79 : decode cX8_step 79 = .ok (.iload_n 3, 1) := by decide +kernel
theorem dX8_step_80 : decode cX8_step 80 = .ok (.dup2, 1) := by decide +kernel
theorem dX8_step_81 : decode cX8_step 81 = .ok (.iaload, 1) := by decide +kernel
theorem dX8_step_82 : decode cX8_step 82 = .ok (.iconst 1, 1) := by decide +kernel
theorem dX8_step_83 : decode cX8_step 83 = .ok (.iadd, 1) := by decide +kernel
theorem dX8_step_84 : decode cX8_step 84 = .ok (.iastore, 1) := by decide +kernel
theorem dX8_step_85 : decode cX8_step 85 = .ok (.iload_n 3, 1) := by decide +kernel
theorem dX8_step_86 : decode cX8_step 86 = .ok (.iconst 1, 1) := by decide +kernel
theorem dX8_step_87 : decode cX8_step 87 = .ok (.if_icmp .ne 10, 3) := by decide +kernel
theorem dX8_step_90 : decode cX8_step 90 = .ok (.aload_n 0, 1) := by decide +kernel
theorem dX8_step_91 : decode cX8_step 91 = .ok (.invokevirtual 98, 3) := by decide +kernel
theorem dX8_step_94 : decode cX8_step 94 = .ok (.goto 7, 3) := by decide +kernel
theorem dX8_step_97 : decode cX8_step 97 = .ok (.aload_n 0, 1) := by decide +kernel
theorem dX8_step_98 : decode cX8_step 98 = .ok (.invokevirtual 101, 3) := by decide +kernel
theorem dX8_step_101 : decode cX8_step 101 = .ok (.iload_n 3, 1) := by decide +kernel
theorem dX8_step_102 : decode cX8_step 102 = .ok (.ireturn, 1) := by decide +kernel
set_option maxHeartbeats 4000000 in
set_option maxRecDepth 100000 in
/-- TutorLines.step -/
theorem c_X8_step {l : Launch} {G : tm_G} {Hb : Heap} {sh : tm_sh} {M : tm_M} {T : Nat} {z : tl_Z} (h9 : l.stackTraces = false) (hT : isTL sh M T) (hz : TLv M T z) {w : Int} (hw : inI w) : vx_Met l yX8_step (tws yX8_step cX8_step 4 (some .int)) ({ frames := 70, cells := 3, slots := 18, locals := 1489 }) (va_Pc [.ref T, ji w] (tx_St G Hb sh M)) (tm_Qi G Hb sh (fun x M1 => (0 ≤ w ∧ w ≤ 80) ∧ (0 < zn z ∧ zn z < 40) ∧ x = (sp_step z w.toNat).1 ∧ TLp sh T M (sp_step z w.toNat).2 M1)) (tx_X G Hb sh (fun E M1 => ((E = "java/lang/IllegalArgumentException" ∧ ¬ (0 ≤ w ∧ w ≤ 80)) ∨ (E = "java/lang/IllegalStateException" ∧ (0 ≤ w ∧ w ≤ 80) ∧ (zn z = 0 ∨ zn z = 40))) ∧ M1 = M)) 3 18 (tm_A Hb) := by
  refine tx_begin (by decide) (Nat.le_of_ble_eq_true rfl) (fun p e s m below meth c ls hx hb hr hml hown htw hlk htab hK hW hB hl => ?_)
  have hS : va_S (tm_A Hb) s.heap s.heap [] := va_S.rf
  have hl : lv_has ls 4 [(0, .ref T), (1, ji w)] := hl
  have hT0 := hT
  have h3 := hz.2.1
  obtain ⟨a0, ⟨r0, r1, r2, r4, r5, r6, r7, r10, r11, r12, r13⟩, ⟨s1, s2, s88, s389, s390, s393, s394⟩, hRd, hLs, hWr, hSc, hPs, hWs⟩ := hT
  refine lv_iload_n hx hb dX8_step_0 rfl (lv_at hl 1 rfl) ?_
  refine ti_iconst hx hb dX8_step_1 ?_
  refine ti_bipush hx hb dX8_step_2 (by decide) ?_
  refine tx_callv (cx_X8_65 hx hb hml hown htw hK hW hB hS (c_X8_requireNumber h9 hw (by decide) (by decide)) ⟨rfl, rfl, Nat.le_of_ble_eq_true rfl, Nat.le_of_ble_eq_true rfl⟩ hl.1 (Nat.le_of_ble_eq_true rfl) dX8_step_4 ⟨Nat.le_of_ble_eq_true rfl, Nat.le_of_ble_eq_true rfl⟩) hS (fun E9 ce9 q9 M9 H locs hp9 hW hS h91 h92 h93 => tx_out htab hlk hK hW hS h91 h92 h93 ⟨Or.inl ⟨hp9.1, hp9.2.1⟩, hp9.2.2⟩ ⟨Nat.le_of_ble_eq_true rfl, Nat.le_of_ble_eq_true rfl⟩) (fun M4 H locs hp4 hW hS => ?_)
  obtain ⟨hin, eM4⟩ := hp4
  rw [eM4] at hW
  refine lv_aload_n hx hb dX8_step_7 rfl (lv_at hl 0 rfl) ?_
  refine tx_callv (cx_X8_81 hx hb hml hown htw hK hW hB hS (by assumption) (c_X8_requireTask h9 a0 (by omega)) ⟨rfl, rfl, Nat.le_of_ble_eq_true rfl, Nat.le_of_ble_eq_true rfl⟩ hl.1 (Nat.le_of_ble_eq_true rfl) dX8_step_8 ⟨Nat.le_of_ble_eq_true rfl, Nat.le_of_ble_eq_true rfl⟩) hS (fun E9 ce9 q9 M9 H locs hp9 hW hS h91 h92 h93 => tx_out htab hlk hK hW hS h91 h92 h93 ⟨Or.inr ⟨hp9.1, hin, Or.inl (by have := hp9.2.1; omega)⟩, hp9.2.2⟩ ⟨Nat.le_of_ble_eq_true rfl, Nat.le_of_ble_eq_true rfl⟩) (fun M8 H locs hp8 hW hS => ?_)
  obtain ⟨n0, eM8⟩ := hp8
  rw [eM8] at hW
  have hn : 0 < zn z := by omega
  have hrow := tl_row hT0 hz hn
  refine lv_aload_n hx hb dX8_step_11 rfl (lv_at hl 0 rfl) ?_
  refine tx_callv (cx_X8_84 hx hb hml hown htw hK hW hB hS (by assumption) (c_X8_requireRoom h9 a0 (by omega)) ⟨rfl, rfl, Nat.le_of_ble_eq_true rfl, Nat.le_of_ble_eq_true rfl⟩ hl.1 (Nat.le_of_ble_eq_true rfl) dX8_step_12 ⟨Nat.le_of_ble_eq_true rfl, Nat.le_of_ble_eq_true rfl⟩) hS (fun E9 ce9 q9 M9 H locs hp9 hW hS h91 h92 h93 => tx_out htab hlk hK hW hS h91 h92 h93 ⟨Or.inr ⟨hp9.1, hin, Or.inr (by have := hp9.2.1; omega)⟩, hp9.2.2⟩ ⟨Nat.le_of_ble_eq_true rfl, Nat.le_of_ble_eq_true rfl⟩) (fun M12 H locs hp12 hW hS => ?_)
  obtain ⟨n1, eM12⟩ := hp12
  rw [eM12] at hW
  refine lv_aload_n hx hb dX8_step_15 rfl (lv_at hl 0 rfl) ?_
  refine gf_X8_16 hx hb htw hown hK hW (by assumption) (by assumption) dX8_step_16 ?_
  refine lv_aload_n hx hb dX8_step_19 rfl (lv_at hl 0 rfl) ?_
  refine gf_X8_9 hx hb htw hown hK hW (by assumption) (by assumption) dX8_step_20 ?_
  refine lv_iload_n hx hb dX8_step_23 rfl (lv_at hl 1 rfl) ?_
  refine lv_aload_n hx hb dX8_step_24 rfl (lv_at hl 0 rfl) ?_
  refine gf_X8_27 hx hb htw hown hK hW (by assumption) (by assumption) dX8_step_25 ?_
  refine tm_calli (cs_X8_69 hx hb hml hown htw hK hW s2 (c_X4_readw (n := w.toNat) (t := zt z) (by omega) ⟨hRd, by omega, hz.1⟩ (by omega) hWr (by omega)) ⟨rfl, rfl, Nat.le_of_ble_eq_true rfl, Nat.le_of_ble_eq_true rfl⟩ hl.1 (Nat.le_of_ble_eq_true rfl) dX8_step_28 ⟨Nat.le_of_ble_eq_true rfl, Nat.le_of_ble_eq_true rfl⟩) hS (fun x28 M28 H locs hp28 hW hS => ?_)
  obtain ⟨f28, r28x⟩ := hp28
  have P28 := TL_rd hT0 hz f28
  refine lv_istore_n (lv' := [(2, _), (0, _), (1, _)]) hx hb dX8_step_31 rfl hl (by decide) rfl (fun ls hl => ?_)
  refine lv_iload_n hx hb dX8_step_32 rfl (lv_at hl 0 rfl) ?_
  refine ti_iconst hx hb dX8_step_33 ?_
  refine ti_icmp_eq (tgt := 41) hx hb dX8_step_34 (by decide) (tl_rdr r28x (by omega)) (by decide) (fun h34 => ?_) (fun h34 => ?_)
  · obtain ⟨L, eL1, -, eL, hL⟩ := tl_rdL r28x h34
    have row8 := tl_row P28.1 P28.2.1 hn
    obtain ⟨a0a, ⟨r0a, r1a, r2a, r4a, r5a, r6a, r7a, r10a, r11a, r12a, r13a⟩, ⟨s1a, s2a, s88a, s389a, s390a, s393a, s394a⟩, hRda, hLsa, hWra, hSca, hPsa, hWsa⟩ := P28.1
    refine lv_aload_n hx hb dX8_step_41 rfl (lv_at hl 1 rfl) ?_
    refine gf_X8_37 hx hb htw hown hK hW (by assumption) r6a dX8_step_42 ?_
    refine lv_aload_n hx hb dX8_step_45 rfl (lv_at hl 1 rfl) ?_
    refine tm_calla (cs_X8_87 hx hb hml hown htw hK hW (by assumption) (c_X8_present P28.1 P28.2.1.2.1.1 (by omega)) ⟨rfl, rfl, Nat.le_of_ble_eq_true rfl, Nat.le_of_ble_eq_true rfl⟩ hl.1 (Nat.le_of_ble_eq_true rfl) dX8_step_46 ⟨Nat.le_of_ble_eq_true rfl, Nat.le_of_ble_eq_true rfl⟩) hS (fun x46 M46 H locs hp46 hW hS => ?_)
    obtain ⟨ex46, eM46⟩ := hp46
    rw [eM46] at hW
    rw [ex46]
    refine tm_callv (cs_X8_91 hx hb hml hown htw hK hW hPsa.1 (c_X7_find hPsa row8.2.1 (by omega) (by rw [row8.2.2.1]; exact row8.2.2.2)) ⟨rfl, rfl, Nat.le_of_ble_eq_true rfl, Nat.le_of_ble_eq_true rfl⟩ hl.1 (Nat.le_of_ble_eq_true rfl) dX8_step_49 ⟨Nat.le_of_ble_eq_true rfl, Nat.le_of_ble_eq_true rfl⟩) hS (fun M49 H locs hp49 hW hS => ?_)
    obtain ⟨es49, f49⟩ := hp49
    rw [row8.2.2.1] at es49
    have P49 : TLp sh T M z M49 := TLp_tr P28 ⟨isTL_m P28.1 f49.1, TLv_fr P28.2.1 f49 (by omega), fT_fr f49 (by omega) (by omega)⟩
    have l49 : ln M49 (T + 369) = L := (fw_ln f49 (by omega)).trans eL
    obtain ⟨a0b, ⟨r0b, r1b, r2b, r4b, r5b, r6b, r7b, r10b, r11b, r12b, r13b⟩, ⟨s1b, s2b, s88b, s389b, s390b, s393b, s394b⟩, hRdb, hLsb, hWrb, hScb, hPsb, hWsb⟩ := P49.1
    refine lv_aload_n hx hb dX8_step_52 rfl (lv_at hl 1 rfl) ?_
    refine gf_X8_41 hx hb htw hown hK hW (by assumption) r7b dX8_step_53 ?_
    refine lv_aload_n hx hb dX8_step_56 rfl (lv_at hl 1 rfl) ?_
    refine gf_X8_27 hx hb htw hown hK hW (by assumption) r4b dX8_step_57 ?_
    refine tm_callv (cs_X8_91 hx hb hml hown htw hK hW hWsb.1 (c_X7_find hWsb hWrb (by omega) (by rw [l49]; exact hL)) ⟨rfl, rfl, Nat.le_of_ble_eq_true rfl, Nat.le_of_ble_eq_true rfl⟩ hl.1 (Nat.le_of_ble_eq_true rfl) dX8_step_60 ⟨Nat.le_of_ble_eq_true rfl, Nat.le_of_ble_eq_true rfl⟩) hS (fun M60 H locs hp60 hW hS => ?_)
    obtain ⟨es60, f60⟩ := hp60
    rw [l49] at es60
    have P60 : TLp sh T M (zsw z L) M60 := TLp_tr P49 (TL_sw P49.1 P49.2.1 f60 hL es60)
    have l60 : ln M60 (T + 369) = L := (fw_ln f60 (by omega)).trans l49
    have s60 : so M60 (T + 383) = tl_solve (zl z (zn z - 1)) := (so_fr f60 (by omega)).trans es49
    have s86 : so M60 (T + 386) = tl_solve L := es60
    have k1 := sook_solve row8.2.2.2
    have k2 := sook_solve hL
    obtain ⟨a0c, ⟨r0c, r1c, r2c, r4c, r5c, r6c, r7c, r10c, r11c, r12c, r13c⟩, ⟨s1c, s2c, s88c, s389c, s390c, s393c, s394c⟩, hRdc, hLsc, hWrc, hScc, hPsc, hWsc⟩ := P60.1
    refine lv_aload_n hx hb dX8_step_63 rfl (lv_at hl 1 rfl) ?_
    refine gf_X8_37 hx hb htw hown hK hW (by assumption) r6c dX8_step_64 ?_
    refine lv_aload_n hx hb dX8_step_67 rfl (lv_at hl 1 rfl) ?_
    refine gf_X8_41 hx hb htw hown hK hW (by assumption) r7c dX8_step_68 ?_
    refine tm_calli (cs_X8_94 hx hb hml hown htw hK hW hPsc.1 (c_X7_judge hPsc hWsc (by rw [s60]; exact k1.1) (by rw [s86]; exact k2.1)) ⟨rfl, rfl, Nat.le_of_ble_eq_true rfl, Nat.le_of_ble_eq_true rfl⟩ hl.1 (Nat.le_of_ble_eq_true rfl) dX8_step_71 ⟨Nat.le_of_ble_eq_true rfl, Nat.le_of_ble_eq_true rfl⟩) hS (fun x71 M71 H locs hp71 hW hS => ?_)
    obtain ⟨ex71, eM71⟩ := hp71
    rw [eM71] at hW
    rw [s60, s86] at ex71
    have jr := tl_judge_r (tl_solve (zl z (zn z - 1))) (tl_solve L)
    rw [← ex71] at jr
    refine lv_istore_n (lv' := [(3, _), (2, _), (0, _), (1, _)]) hx hb dX8_step_74 rfl hl (by decide) rfl (fun ls hl => ?_)
    refine lv_aload_n hx hb dX8_step_75 rfl (lv_at hl 2 rfl) ?_
    refine gf_X8_62 hx hb htw hown hK hW (by assumption) r13c dX8_step_76 ?_
    refine lv_iload_n hx hb dX8_step_79 rfl (lv_at hl 0 rfl) ?_
    refine lv_dup2_11 hx hb dX8_step_80 rfl rfl ?_
    refine tm_iald hx hb hK hW (by assumption) (by omega) (by omega) (by decide) dX8_step_81 ?_
    refine ti_iconst hx hb dX8_step_82 ?_
    refine ti_iadd hx hb dX8_step_83 ?_
    refine tm_iast hx hb hK hW hS (by assumption) (by omega) (by omega) (by decide) dX8_step_84 (fun H locs hW hS => ?_)
    have P84 := TLp_tr P60 (TL_an (k := x71.toNat) P60.1 P60.2.1 (by omega))
    have l84 : ln (sI M60 (T + 394) x71.toNat (mI M60 (T + 394) x71.toNat + 1)) (T + 369) = L := (ln_sI (by omega)).trans l60
    have w84 : so (sI M60 (T + 394) x71.toNat (mI M60 (T + 394) x71.toNat + 1)) (T + 386) = tl_solve L := (so_fr (lo := T + 394) (hi := T + 395) (fw_sI _ (by omega) (by omega)) (by omega)).trans s86
    refine lv_iload_n hx hb dX8_step_85 rfl (lv_at hl 0 rfl) ?_
    refine ti_iconst hx hb dX8_step_86 ?_
    refine ti_icmp_ne (tgt := 97) hx hb dX8_step_87 (by decide) (by omega) (by decide) (fun h87 => ?_) (fun h87 => ?_)
    · refine lv_aload_n hx hb dX8_step_97 rfl (lv_at hl 2 rfl) ?_
      refine tm_callv (cs_X8_101 hx hb hml hown htw hK hW (by assumption) (c_X8_refuse P84.1 P84.2.1 hn (by rw [l84]; exact hL) (by rw [l84]; exact w84)) ⟨rfl, rfl, Nat.le_of_ble_eq_true rfl, Nat.le_of_ble_eq_true rfl⟩ hl.1 (Nat.le_of_ble_eq_true rfl) dX8_step_98 ⟨Nat.le_of_ble_eq_true rfl, Nat.le_of_ble_eq_true rfl⟩) hS (fun M98 H locs hp98 hW hS => ?_)
      first
      | (refine lv_iload_n hx hb dX8_step_101 rfl (lv_at hl 0 rfl) ?_
         exact vx_ret (W.widen (k := 3) (n := 18) (Nat.le_of_ble_eq_true rfl) (Nat.le_of_ble_eq_true rfl) (tm_iret hx hb hr hlk hK hW hS ⟨hin, by omega, by rw [sp_step_l eL1 ex71], by rw [sp_step_l eL1 ex71]; show TLp sh T M (if x71 = 1 then _ else _) M91; rw [if_pos h87]; rw [l84] at hp91; exact TLp_tr P84 hp91⟩ dX8_step_102)))
      | (refine lv_iload_n hx hb dX8_step_101 rfl (lv_at hl 0 rfl) ?_
         exact vx_ret (W.widen (k := 3) (n := 18) (Nat.le_of_ble_eq_true rfl) (Nat.le_of_ble_eq_true rfl) (tm_iret hx hb hr hlk hK hW hS ⟨hin, by omega, by rw [sp_step_l eL1 ex71], by rw [sp_step_l eL1 ex71]; show TLp sh T M (if x71 = 1 then _ else _) M98; rw [if_neg h87]; rw [l84] at hp98; exact TLp_tr P84 hp98⟩ dX8_step_102)))
    · refine lv_aload_n hx hb dX8_step_90 rfl (lv_at hl 2 rfl) ?_
      refine tm_callv (cs_X8_98 hx hb hml hown htw hK hW (by assumption) (c_X8_accept P84.1 P84.2.1 (show 0 < zn z ∧ zn z < 40 by omega) (by rw [l84]; exact hL)) ⟨rfl, rfl, Nat.le_of_ble_eq_true rfl, Nat.le_of_ble_eq_true rfl⟩ hl.1 (Nat.le_of_ble_eq_true rfl) dX8_step_91 ⟨Nat.le_of_ble_eq_true rfl, Nat.le_of_ble_eq_true rfl⟩) hS (fun M91 H locs hp91 hW hS => ?_)
      refine lv_goto (tgt := 101) hx hb dX8_step_94 (by decide) ?_
      first
      | (refine lv_iload_n hx hb dX8_step_101 rfl (lv_at hl 0 rfl) ?_
         exact vx_ret (W.widen (k := 3) (n := 18) (Nat.le_of_ble_eq_true rfl) (Nat.le_of_ble_eq_true rfl) (tm_iret hx hb hr hlk hK hW hS ⟨hin, by omega, by rw [sp_step_l eL1 ex71], by rw [sp_step_l eL1 ex71]; show TLp sh T M (if x71 = 1 then _ else _) M91; rw [if_pos h87]; rw [l84] at hp91; exact TLp_tr P84 hp91⟩ dX8_step_102)))
      | (refine lv_iload_n hx hb dX8_step_101 rfl (lv_at hl 0 rfl) ?_
         exact vx_ret (W.widen (k := 3) (n := 18) (Nat.le_of_ble_eq_true rfl) (Nat.le_of_ble_eq_true rfl) (tm_iret hx hb hr hlk hK hW hS ⟨hin, by omega, by rw [sp_step_l eL1 ex71], by rw [sp_step_l eL1 ex71]; show TLp sh T M (if x71 = 1 then _ else _) M98; rw [if_neg h87]; rw [l84] at hp98; exact TLp_tr P84 hp98⟩ dX8_step_102)))
  · obtain ⟨fv, ef, xf⟩ := tl_rdF r28x h34
    refine ti_iconst hx hb dX8_step_37 ?_
    refine lv_iload_n hx hb dX8_step_38 rfl (lv_at hl 0 rfl) ?_
    refine ti_isub hx hb dX8_step_39 ?_
    exact vx_ret (W.widen (k := 3) (n := 18) (Nat.le_of_ble_eq_true rfl) (Nat.le_of_ble_eq_true rfl) (tm_iret hx hb hr hlk hK hW hS ⟨hin, by omega, by rw [sp_step_r ef, xf], by rw [sp_step_r ef]; exact P28⟩ dX8_step_40))
