/-! TutorLines: its private methods (by program: wip/whole/gen/tl1.py) -/
theorem tn_shr0 {x : Int} (hx : inI x) (c : Nat) (b : Int32) (hb : (b &&& 31).toBitVec.smod 32 = BitVec.ofNat 32 c) (hc : c < 32) {P : Int} (hP : ((2 ^ c : Nat) : Int) = P) (hr : inI (x / P)) : Int32.ofInt x >>> (b &&& 31) = Int32.ofInt (x / P) := by
  apply Int32.toInt_inj.mp
  have e1 : (Int32.ofInt x >>> (b &&& 31)).toInt = (Int32.ofInt x).toInt >>> c := by
    show (Int32.ofInt x >>> (b &&& 31)).toBitVec.toInt = _
    rw [Int32.toBitVec_shiftRight, hb]
    show ((Int32.ofInt x).toBitVec.sshiftRight (BitVec.ofNat 32 c).toNat).toInt = _
    rw [BitVec.toInt_sshiftRight, BitVec.toNat_ofNat, Nat.mod_eq_of_lt (by omega)]
    rfl
  rw [e1, tn_i hx, Int.shiftRight_eq_div_pow, hP, tn_i hr]
def tl_pw (k : Nat) : Int := if k = 0 then 1 else if k = 1 then 256 else if k = 2 then 65536 else 16777216
theorem tn_shr {x k : Int} (hx : inI x) (h0 : 0 ≤ k) (h1 : k < 4) : Int32.ofInt x >>> (Int32.ofInt (8 * k) &&& 31) = Int32.ofInt (x / tl_pw k.toNat) := by
  have hk : k = 0 ∨ k = 1 ∨ k = 2 ∨ k = 3 := by omega
  rcases hk with rfl | rfl | rfl | rfl
  · exact tn_shr0 hx 0 _ (by decide) (by decide) (P := 1) (by decide) (by omega)
  · exact tn_shr0 hx 8 _ (by decide) (by decide) (P := 256) (by decide) (by omega)
  · exact tn_shr0 hx 16 _ (by decide) (by decide) (P := 65536) (by decide) (by omega)
  · exact tn_shr0 hx 24 _ (by decide) (by decide) (P := 16777216) (by decide) (by omega)
theorem tn_i2b (x : Int) : (Int32.ofInt x).toInt8.toInt32 = Int32.ofInt (x.bmod 256) := by
  apply Int32.toInt_inj.mp
  have h1 := Int.bmod_lt (x := x) (m := 256) (by decide)
  have h2 := Int.le_bmod (x := x) (m := 256) (by decide)
  rw [Int8.toInt_toInt32, Int32.toInt_toInt8, Int32.toInt_ofInt, Int.bmod_bmod_of_dvd (by decide), tn_i (by omega)]
  
section TIB
variable {p : Program} {l : Launch} {e : Env} {R : Room} {s : State} {m : MethodId} {args : Array Value} {below : List Frame} {meth : Method} {c : Code} {H : Heap} {locs : List Loc} {cells slots : Nat} {Q : State → Prop}
variable {cc : ByteArray} {pc : Nat} {ls : Array Slot} {rest : List Value}
theorem ti_shr8 (hexec : p.tables.exec = Jvm.exec) (hb : c.code = cc) {x k : Int} (hdg : decode cc pc = .ok (.ishr, 1)) (hx : inI x) (h0 : 0 ≤ k) (h1 : k < 4) (kk : W p l e R s m args below meth c H locs cells slots Q (F0 m (pc + 1) ls (ji (x / tl_pw k.toNat) :: rest))) : W p l e R s m args below meth c H locs cells slots Q (F0 m pc ls (ji (8 * k) :: ji x :: rest)) := lv_ishr hexec hb hdg (by rw [tn_shr hx h0 h1]; exact kk)
theorem ti_i2b (hexec : p.tables.exec = Jvm.exec) (hb : c.code = cc) {x : Int} (hdg : decode cc pc = .ok (.i2b, 1)) (kk : W p l e R s m args below meth c H locs cells slots Q (F0 m (pc + 1) ls (ji (x.bmod 256) :: rest))) : W p l e R s m args below meth c H locs cells slots Q (F0 m pc ls (ji x :: rest)) := lv_i2b hexec hb hdg (tn_i2b x) kk
end TIB
theorem tl_row {sh : tm_sh} {M : tm_M} {T : Nat} {z : tl_Z} (hT : isTL sh M T) (h : TLv M T z) (hn : 0 < zn z) : mR M (T + 88) (mI M T 3 - 1).toNat = some (T + 89 + 7 * (zn z - 1)) ∧ isLn sh M (T + 89 + 7 * (zn z - 1)) ∧ ln M (T + 89 + 7 * (zn z - 1)) = zl z (zn z - 1) ∧ lok (zl z (zn z - 1)) := by
  have h3 := h.2.1
  have e : (mI M T 3 - 1).toNat = zn z - 1 := by rw [h3.1]; omega
  have h5 := hT.2.2.2.2.1 (zn z - 1) (by omega)
  have h6 := h.2.2.1 (zn z - 1) (by omega)
  exact ⟨by rw [e]; exact h5.1, h5.2, h6.1, h6.2⟩
def tl_SH (sh : tm_sh) (T : Nat) : Prop := True
theorem dX8_requireNumber_0 : decode cX8_requireNumber 0 = .ok (.iload_n 0, 1) := by decide +kernel
theorem dX8_requireNumber_1 : decode cX8_requireNumber 1 = .ok (.iload_n 1, 1) := by decide +kernel
theorem dX8_requireNumber_2 : decode cX8_requireNumber 2 = .ok (.if_icmp .lt 8, 3) := by decide +kernel
theorem dX8_requireNumber_5 : decode cX8_requireNumber 5 = .ok (.iload_n 0, 1) := by decide +kernel
theorem dX8_requireNumber_6 : decode cX8_requireNumber 6 = .ok (.iload_n 2, 1) := by decide +kernel
theorem dX8_requireNumber_7 : decode cX8_requireNumber 7 = .ok (.if_icmp .le 11, 3) := by decide +kernel
theorem dX8_requireNumber_10 : decode cX8_requireNumber 10 = .ok (.new 164, 3) := by decide +kernel
theorem dX8_requireNumber_13 : decode cX8_requireNumber 13 = .ok (.dup, 1) := by decide +kernel
theorem dX8_requireNumber_14 : decode cX8_requireNumber 14 = .ok (.invokespecial 166, 3) := by decide +kernel
theorem dX8_requireNumber_17 : decode cX8_requireNumber 17 = .ok (.athrow, 1) := by decide +kernel
theorem dX8_requireNumber_18 : decode cX8_requireNumber 18 = .ok (.return_, 1) := by decide +kernel
set_option maxHeartbeats 4000000 in
set_option maxRecDepth 100000 in
/-- TutorLines.requireNumber -/
theorem c_X8_requireNumber {l : Launch} {G : tm_G} {Hb : Heap} {sh : tm_sh} {M : tm_M} {x lo hi : Int} (h9 : l.stackTraces = false) (hx1 : inI x) (hlo : inI lo) (hhi : inI hi) : vx_Met l yX8_requireNumber (tws yX8_requireNumber cX8_requireNumber 3 none) ({ frames := 6, cells := 1, slots := 6, locals := 89 }) (va_Pc [ji x, ji lo, ji hi] (tx_St G Hb sh M)) (tm_Qv G Hb sh (fun M1 => (lo ≤ x ∧ x ≤ hi) ∧ M1 = M)) (tx_X G Hb sh (fun E M1 => E = "java/lang/IllegalArgumentException" ∧ ¬ (lo ≤ x ∧ x ≤ hi) ∧ M1 = M)) 1 6 (tm_A Hb) := by
  refine tx_begin (by decide) (Nat.le_of_ble_eq_true rfl) (fun p e s m below meth c ls hx hb hr hml hown htw hlk htab hK hW hB hl => ?_)
  have hS : va_S (tm_A Hb) s.heap s.heap [] := va_S.rf
  have hl : lv_has ls 3 [(0, ji x), (1, ji lo), (2, ji hi)] := hl
  refine lv_iload_n hx hb dX8_requireNumber_0 rfl (lv_at hl 0 rfl) ?_
  refine lv_iload_n hx hb dX8_requireNumber_1 rfl (lv_at hl 1 rfl) ?_
  refine ti_icmp_lt (tgt := 10) hx hb dX8_requireNumber_2 (by decide) (by omega) (by omega) (fun h2 => ?_) (fun h2 => ?_)
  · exact tx_throw hx hb h9 hml hl.1 hown htw hlk htab hK hW hB hS (by decide +kernel) kl_IA in_IA (tx_at tx_aIA) tx_gIA dX8_requireNumber_10 dX8_requireNumber_13 dX8_requireNumber_14 dX8_requireNumber_17 ⟨Nat.le_of_ble_eq_true rfl, Nat.le_of_ble_eq_true rfl, Nat.le_of_ble_eq_true rfl, Nat.le_of_ble_eq_true rfl⟩ ⟨Nat.le_of_ble_eq_true rfl, Nat.le_of_ble_eq_true rfl⟩ ⟨rfl, by omega, rfl⟩
  · refine lv_iload_n hx hb dX8_requireNumber_5 rfl (lv_at hl 0 rfl) ?_
    refine lv_iload_n hx hb dX8_requireNumber_6 rfl (lv_at hl 2 rfl) ?_
    refine ti_icmp_le (tgt := 18) hx hb dX8_requireNumber_7 (by decide) (by omega) (by omega) (fun h7 => ?_) (fun h7 => ?_)
    · exact vx_ret (W.widen (k := 1) (n := 6) (Nat.le_of_ble_eq_true rfl) (Nat.le_of_ble_eq_true rfl) (tm_vret hx hb hr hlk hK hW hS ⟨by omega, rfl⟩ dX8_requireNumber_18))
    · exact tx_throw hx hb h9 hml hl.1 hown htw hlk htab hK hW hB hS (by decide +kernel) kl_IA in_IA (tx_at tx_aIA) tx_gIA dX8_requireNumber_10 dX8_requireNumber_13 dX8_requireNumber_14 dX8_requireNumber_17 ⟨Nat.le_of_ble_eq_true rfl, Nat.le_of_ble_eq_true rfl, Nat.le_of_ble_eq_true rfl, Nat.le_of_ble_eq_true rfl⟩ ⟨Nat.le_of_ble_eq_true rfl, Nat.le_of_ble_eq_true rfl⟩ ⟨rfl, by omega, rfl⟩
theorem dX8_requireTask_0 : decode cX8_requireTask 0 = .ok (.aload_n 0, 1) := by decide +kernel
theorem dX8_requireTask_1 : decode cX8_requireTask 1 = .ok (.getfield 73, 3) := by decide +kernel
theorem dX8_requireTask_4 : decode cX8_requireTask 4 = .ok (.ifCond .ne 11, 3) := by decide +kernel
theorem dX8_requireTask_7 : decode cX8_requireTask 7 = .ok (.new 111, 3) := by decide +kernel
theorem dX8_requireTask_10 : decode cX8_requireTask 10 = .ok (.dup, 1) := by decide +kernel
theorem dX8_requireTask_11 : decode cX8_requireTask 11 = .ok (.invokespecial 113, 3) := by decide +kernel
theorem dX8_requireTask_14 : decode cX8_requireTask 14 = .ok (.athrow, 1) := by decide +kernel
theorem dX8_requireTask_15 : decode cX8_requireTask 15 = .ok (.return_, 1) := by decide +kernel
set_option maxHeartbeats 4000000 in
set_option maxRecDepth 100000 in
/-- TutorLines.requireTask -/
theorem c_X8_requireTask {l : Launch} {G : tm_G} {Hb : Heap} {sh : tm_sh} {M : tm_M} {T : Nat} (h9 : l.stackTraces = false) (h0 : sh T = some (8, 0)) (hn : inI (mI M T 3)) : vx_Met l yX8_requireTask (tws yX8_requireTask cX8_requireTask 1 none) ({ frames := 6, cells := 1, slots := 6, locals := 89 }) (va_Pc [.ref T] (tx_St G Hb sh M)) (tm_Qv G Hb sh (fun M1 => ¬ mI M T 3 = 0 ∧ M1 = M)) (tx_X G Hb sh (fun E M1 => E = "java/lang/IllegalStateException" ∧ mI M T 3 = 0 ∧ M1 = M)) 1 6 (tm_A Hb) := by
  refine tx_begin (by decide) (Nat.le_of_ble_eq_true rfl) (fun p e s m below meth c ls hx hb hr hml hown htw hlk htab hK hW hB hl => ?_)
  have hS : va_S (tm_A Hb) s.heap s.heap [] := va_S.rf
  have hl : lv_has ls 1 [(0, .ref T)] := hl
  refine lv_aload_n hx hb dX8_requireTask_0 rfl (lv_at hl 0 rfl) ?_
  refine gf_X8_73 hx hb htw hown hK hW (by assumption) dX8_requireTask_1 ?_
  refine ti_if_ne (tgt := 15) hx hb dX8_requireTask_4 (by decide) (by omega) (fun h4 => ?_) (fun h4 => ?_)
  · exact vx_ret (W.widen (k := 1) (n := 6) (Nat.le_of_ble_eq_true rfl) (Nat.le_of_ble_eq_true rfl) (tm_vret hx hb hr hlk hK hW hS ⟨by omega, rfl⟩ dX8_requireTask_15))
  · exact tx_throw hx hb h9 hml hl.1 hown htw hlk htab hK hW hB hS (by decide +kernel) kl_IS in_IS (tx_at tx_aIS) tx_gIS dX8_requireTask_7 dX8_requireTask_10 dX8_requireTask_11 dX8_requireTask_14 ⟨Nat.le_of_ble_eq_true rfl, Nat.le_of_ble_eq_true rfl, Nat.le_of_ble_eq_true rfl, Nat.le_of_ble_eq_true rfl⟩ ⟨Nat.le_of_ble_eq_true rfl, Nat.le_of_ble_eq_true rfl⟩ ⟨rfl, by omega, rfl⟩
theorem dX8_requireRoom_0 : decode cX8_requireRoom 0 = .ok (.aload_n 0, 1) := by decide +kernel
theorem dX8_requireRoom_1 : decode cX8_requireRoom 1 = .ok (.getfield 73, 3) := by decide +kernel
theorem dX8_requireRoom_4 : decode cX8_requireRoom 4 = .ok (.bipush 40, 2) := by decide +kernel
theorem dX8_requireRoom_6 : decode cX8_requireRoom 6 = .ok (.if_icmp .lt 11, 3) := by decide +kernel
theorem dX8_requireRoom_9 : decode cX8_requireRoom 9 = .ok (.new 111, 3) := by decide +kernel
theorem dX8_requireRoom_12 : decode cX8_requireRoom 12 = .ok (.dup, 1) := by decide +kernel
theorem dX8_requireRoom_13 : decode cX8_requireRoom 13 = .ok (.invokespecial 113, 3) := by decide +kernel
theorem dX8_requireRoom_16 : decode cX8_requireRoom 16 = .ok (.athrow, 1) := by decide +kernel
theorem dX8_requireRoom_17 : decode cX8_requireRoom 17 = .ok (.return_, 1) := by decide +kernel
set_option maxHeartbeats 4000000 in
set_option maxRecDepth 100000 in
/-- TutorLines.requireRoom -/
theorem c_X8_requireRoom {l : Launch} {G : tm_G} {Hb : Heap} {sh : tm_sh} {M : tm_M} {T : Nat} (h9 : l.stackTraces = false) (h0 : sh T = some (8, 0)) (hn : inI (mI M T 3)) : vx_Met l yX8_requireRoom (tws yX8_requireRoom cX8_requireRoom 1 none) ({ frames := 6, cells := 1, slots := 6, locals := 89 }) (va_Pc [.ref T] (tx_St G Hb sh M)) (tm_Qv G Hb sh (fun M1 => mI M T 3 < 40 ∧ M1 = M)) (tx_X G Hb sh (fun E M1 => E = "java/lang/IllegalStateException" ∧ 40 ≤ mI M T 3 ∧ M1 = M)) 1 6 (tm_A Hb) := by
  refine tx_begin (by decide) (Nat.le_of_ble_eq_true rfl) (fun p e s m below meth c ls hx hb hr hml hown htw hlk htab hK hW hB hl => ?_)
  have hS : va_S (tm_A Hb) s.heap s.heap [] := va_S.rf
  have hl : lv_has ls 1 [(0, .ref T)] := hl
  refine lv_aload_n hx hb dX8_requireRoom_0 rfl (lv_at hl 0 rfl) ?_
  refine gf_X8_73 hx hb htw hown hK hW (by assumption) dX8_requireRoom_1 ?_
  refine ti_bipush hx hb dX8_requireRoom_4 (by decide) ?_
  refine ti_icmp_lt (tgt := 17) hx hb dX8_requireRoom_6 (by decide) (by omega) (by omega) (fun h6 => ?_) (fun h6 => ?_)
  · exact vx_ret (W.widen (k := 1) (n := 6) (Nat.le_of_ble_eq_true rfl) (Nat.le_of_ble_eq_true rfl) (tm_vret hx hb hr hlk hK hW hS ⟨by omega, rfl⟩ dX8_requireRoom_17))
  · exact tx_throw hx hb h9 hml hl.1 hown htw hlk htab hK hW hB hS (by decide +kernel) kl_IS in_IS (tx_at tx_aIS) tx_gIS dX8_requireRoom_9 dX8_requireRoom_12 dX8_requireRoom_13 dX8_requireRoom_16 ⟨Nat.le_of_ble_eq_true rfl, Nat.le_of_ble_eq_true rfl, Nat.le_of_ble_eq_true rfl, Nat.le_of_ble_eq_true rfl⟩ ⟨Nat.le_of_ble_eq_true rfl, Nat.le_of_ble_eq_true rfl⟩ ⟨rfl, by omega, rfl⟩
theorem dX8_present_0 : decode cX8_present 0 = .ok (.aload_n 0, 1) := by decide +kernel
theorem dX8_present_1 : decode cX8_present 1 = .ok (.getfield 22, 3) := by decide +kernel
theorem dX8_present_4 : decode cX8_present 4 = .ok (.aload_n 0, 1) := by decide +kernel
theorem dX8_present_5 : decode cX8_present 5 = .ok (.getfield 73, 3) := by decide +kernel
theorem dX8_present_8 : decode cX8_present 8 = .ok (.ifCond .le 12, 3) := by decide +kernel
theorem dX8_present_11 : decode cX8_present 11 = .ok (.aload_n 0, 1) := by decide +kernel
theorem dX8_present_12 : decode cX8_present 12 = .ok (.getfield 73, 3) := by decide +kernel
theorem dX8_present_15 : decode cX8_present 15 = .ok (.iconst 1, 1) := by decide +kernel
theorem dX8_present_16 : decode cX8_present 16 = .ok (.isub, 1) := by decide +kernel
theorem dX8_present_17 : decode cX8_present 17 = .ok (.goto 4, 3) := by decide +kernel
theorem dX8_present_20 : decode cX8_present 20 = .ok (.iconst 0, 1) := by decide +kernel
theorem dX8_present_21 : decode cX8_present 21 = .ok (.aaload, 1) := by decide +kernel
theorem dX8_present_22 : decode cX8_present 22 = .ok (.areturn, 1) := by decide +kernel
set_option maxHeartbeats 4000000 in
set_option maxRecDepth 100000 in
/-- TutorLines.present -/
theorem c_X8_present {l : Launch} {G : tm_G} {Hb : Heap} {sh : tm_sh} {M : tm_M} {T n : Nat} (hT : isTL sh M T) (h3 : mI M T 3 = n) (hn : 0 < n ∧ n ≤ 40) : Met l yX8_present (tws yX8_present cX8_present 1 (some (.object "TutorLines$Line"))) ({ frames := 0, cells := 0, slots := 0, locals := 0 }) (va_Pc [.ref T] (tm_St G Hb sh M)) (tm_Qa G Hb sh (fun x M1 => x = T + 89 + 7 * (n - 1) ∧ M1 = M)) 0 0 (tm_A Hb) := by
  refine tm_begin (by decide) (Nat.le_of_ble_eq_true rfl) (fun p e s m below meth c ls hx hb hr hml hown htw hlk hnm hK hW hl => ?_)
  have hS : va_S (tm_A Hb) s.heap s.heap [] := va_S.rf
  have hl : lv_has ls 1 [(0, .ref T)] := hl
  have hrow : mR M (T + 88) (mI M T 3 - 1).toNat = some (T + 89 + 7 * (n - 1)) := by rw [show (mI M T 3 - 1).toNat = n - 1 by rw [h3]; omega]; exact (hT.2.2.2.2.1 (n - 1) (by omega)).1
  obtain ⟨a0, ⟨r0, r1, r2, r4, r5, r6, r7, r10, r11, r12, r13⟩, ⟨s1, s2, s88, s389, s390, s393, s394⟩, hRd, hLs, hWr, hSc, hPs, hWs⟩ := hT
  refine lv_aload_n hx hb dX8_present_0 rfl (lv_at hl 0 rfl) ?_
  refine gf_X8_22 hx hb htw hown hK hW (by assumption) (by assumption) dX8_present_1 ?_
  refine lv_aload_n hx hb dX8_present_4 rfl (lv_at hl 0 rfl) ?_
  refine gf_X8_73 hx hb htw hown hK hW (by assumption) dX8_present_5 ?_
  refine ti_if_le (tgt := 20) hx hb dX8_present_8 (by decide) (by omega) (fun h8 => ?_) (fun h8 => ?_)
  · exact absurd h8 (by omega)
  · refine lv_aload_n hx hb dX8_present_11 rfl (lv_at hl 0 rfl) ?_
    refine gf_X8_73 hx hb htw hown hK hW (by assumption) dX8_present_12 ?_
    refine ti_iconst hx hb dX8_present_15 ?_
    refine ti_isub hx hb dX8_present_16 ?_
    refine lv_goto (tgt := 21) hx hb dX8_present_17 (by decide) ?_
    refine tm_aaldL hx hb hK hW (by assumption) (by omega) (by omega) (by decide) hrow dX8_present_21 ?_
    exact tm_aret hx hb hr hlk hK hW hS ⟨rfl, rfl⟩ dX8_present_22
theorem dX8_append_0 : decode cX8_append 0 = .ok (.aload_n 0, 1) := by decide +kernel
theorem dX8_append_1 : decode cX8_append 1 = .ok (.getfield 73, 3) := by decide +kernel
theorem dX8_append_4 : decode cX8_append 4 = .ok (.bipush 40, 2) := by decide +kernel
theorem dX8_append_6 : decode cX8_append 6 = .ok (.if_icmp .ge 26, 3) := by decide +kernel
theorem dX8_append_9 : decode cX8_append 9 = .ok (.aload_n 0, 1) := by decide +kernel
theorem dX8_append_10 : decode cX8_append 10 = .ok (.getfield 22, 3) := by decide +kernel
theorem dX8_append_13 : decode cX8_append 13 = .ok (.aload_n 0, 1) := by decide +kernel
theorem dX8_append_14 : decode cX8_append 14 = .ok (.getfield 73, 3) := by decide +kernel
theorem dX8_append_17 : decode cX8_append 17 = .ok (.aaload, 1) := by decide +kernel
theorem dX8_append_18 : decode cX8_append 18 = .ok (.aload_n 1, 1) := by decide +kernel
theorem dX8_append_19 : decode cX8_append 19 = .ok (.invokevirtual 167, 3) := by decide +kernel
theorem dX8_append_22 : decode cX8_append 22 = .ok (.aload_n 0, 1) := by decide +kernel
theorem dX8_append_23 : decode cX8_append 23 = .ok (.dup, 1) := by decide +kernel
theorem dX8_append_24 : decode cX8_append 24 = .ok (.getfield 73, 3) := by decide +kernel
theorem dX8_append_27 : decode cX8_append 27 = .ok (.iconst 1, 1) := by decide +kernel
theorem dX8_append_28 : decode cX8_append 28 = .ok (.iadd, 1) := by decide +kernel
theorem dX8_append_29 : decode cX8_append 29 = .ok (.putfield 73, 3) := by decide +kernel
theorem dX8_append_32 : decode cX8_append 32 = .ok (.aload_n 0, 1) := by decide +kernel
theorem dX8_append_33 : decode cX8_append 33 = .ok (.iconst 0, 1) := by decide +kernel
theorem dX8_append_34 : decode cX8_append 34 = .ok (.putfield 104, 3) := by decide +kernel
theorem dX8_append_37 : decode cX8_append 37 = .ok (.return_, 1) := by decide +kernel
set_option maxHeartbeats 4000000 in
set_option maxRecDepth 100000 in
/-- TutorLines.append -/
theorem c_X8_append {l : Launch} {G : tm_G} {Hb : Heap} {sh : tm_sh} {M : tm_M} {T w : Nat} {z : tl_Z} (hT : isTL sh M T) (hz : TLv M T z) (hn : zn z < 40) (hw : isLn sh M w) (hne : T + 369 ≤ w) (hv : lok (ln M w)) : Met l yX8_append (tws yX8_append cX8_append 2 none) ({ frames := 3, cells := 0, slots := 0, locals := 63 }) (va_Pc [.ref T, .ref w] (tm_St G Hb sh M)) (tm_Qv G Hb sh (fun M1 => TLp sh T M (zapp z (ln M w)) M1)) 0 0 (tm_A Hb) := by
  refine tm_begin (by decide) (Nat.le_of_ble_eq_true rfl) (fun p e s m below meth c ls hx hb hr hml hown htw hlk hnm hK hW hl => ?_)
  have hS : va_S (tm_A Hb) s.heap s.heap [] := va_S.rf
  have hl : lv_has ls 2 [(0, .ref T), (1, .ref w)] := hl
  have hT0 := hT
  have h3 := hz.2.1
  have hrow : mR M (T + 88) (mI M T 3).toNat = some (T + 89 + 7 * zn z) ∧ isLn sh M (T + 89 + 7 * zn z) := by rw [show (mI M T 3).toNat = zn z by rw [h3.1]; omega]; exact hT.2.2.2.2.1 (zn z) (by omega)
  obtain ⟨a0, ⟨r0, r1, r2, r4, r5, r6, r7, r10, r11, r12, r13⟩, ⟨s1, s2, s88, s389, s390, s393, s394⟩, hRd, hLs, hWr, hSc, hPs, hWs⟩ := hT
  refine lv_aload_n hx hb dX8_append_0 rfl (lv_at hl 0 rfl) ?_
  refine gf_X8_73 hx hb htw hown hK hW (by assumption) dX8_append_1 ?_
  refine ti_bipush hx hb dX8_append_4 (by decide) ?_
  refine ti_icmp_ge (tgt := 32) hx hb dX8_append_6 (by decide) (by omega) (by decide) (fun h6 => ?_) (fun h6 => ?_)
  · exact absurd h6 (by omega)
  · refine lv_aload_n hx hb dX8_append_9 rfl (lv_at hl 0 rfl) ?_
    refine gf_X8_22 hx hb htw hown hK hW (by assumption) (by assumption) dX8_append_10 ?_
    refine lv_aload_n hx hb dX8_append_13 rfl (lv_at hl 0 rfl) ?_
    refine gf_X8_73 hx hb htw hown hK hW (by assumption) dX8_append_14 ?_
    refine tm_aaldL hx hb hK hW (by assumption) (by omega) (by omega) (by decide) hrow.1 dX8_append_17 ?_
    refine lv_aload_n hx hb dX8_append_18 rfl (lv_at hl 1 rfl) ?_
    refine tm_callv (cs_X8_167 hx hb hml hown htw hK hW hrow.2.1 (c_X1_copy hrow.2 hw (by omega)) ⟨rfl, rfl, Nat.le_of_ble_eq_true rfl, Nat.le_of_ble_eq_true rfl⟩ hl.1 (Nat.le_of_ble_eq_true rfl) dX8_append_19 ⟨Nat.le_of_ble_eq_true rfl, Nat.le_of_ble_eq_true rfl⟩) hS (fun M19 H locs hp19 hW hS => ?_)
    rw [hp19] at hW
    refine lv_aload_n hx hb dX8_append_22 rfl (lv_at hl 0 rfl) ?_
    refine lv_dup hx hb dX8_append_23 rfl ?_
    refine gf_X8_73 hx hb htw hown hK hW (by assumption) dX8_append_24 ?_
    refine ti_iconst hx hb dX8_append_27 ?_
    refine ti_iadd hx hb dX8_append_28 ?_
    refine pf_X8_73 hx hb htw hown hK hW (by assumption) hS dX8_append_29 (fun H locs hW hS => ?_)
    refine lv_aload_n hx hb dX8_append_32 rfl (lv_at hl 0 rfl) ?_
    refine ti_iconst hx hb dX8_append_33 ?_
    refine pf_X8_104 hx hb htw hown hK hW (by assumption) hS (Or.inl rfl) dX8_append_34 (fun H locs hW hS => ?_)
    exact tm_vret hx hb hr hlk hK hW hS (by have e8 : mI (lS M (T + 89 + 7 * zn z) (ln M w)) T 3 + 1 = (zn z : Int) + 1 := (by rw [← h3.1]; exact congrArg (· + 1) (tm_up_a _ _ (by omega))); rw [e8]; exact TL_app hT0 hz hn hv) dX8_append_37
