/-! the JDK: the builder grows, letters (by program: wip/whole/gen/jd3.py) -/
theorem SB_ne {sh : tm_sh} {M : tm_M} {q V cap : Nat} {pr : List Int} (s : isSB sh M q V cap pr) : V ≠ q := fun z => by
  have h1 := s.1
  have h2 := s.2.2.1
  rw [z, h1] at h2
  cases h2
theorem SB_grow {sh : tm_sh} {M : tm_M} {q V cap nc hx h h1 n : Nat} {pr : List Int} (s : isSB sh M q V cap pr) (hq : q < hx) (hV : V < hx) (hh : h ≤ hx) (hc : cap ≤ nc) (hn : nc < 1000) (hm : n ≤ nc) (hh1 : h ≤ h1) : SBx q V h sh M pr n (sN sh hx 22 nc) (sR (cpM (zM M hx) hx 0 cap (fun j => mI M V j)) q 0 (some hx)) h1 := by
  obtain ⟨a1, a2, a3, a4, a5, a6, a7, a8, a9⟩ := s
  have e : ∀ a k, a ≠ hx → mI (sR (cpM (zM M hx) hx 0 cap (fun j => mI M V j)) q 0 (some hx)) a k = mI M a k := fun a k ha => (if_neg (fun z => ha z.1) : _ = mI (zM M hx) a k).trans (zM_I ha k)
  have eh : ∀ k, mI (sR (cpM (zM M hx) hx 0 cap (fun j => mI M V j)) q 0 (some hx)) hx k = if k < cap then mI M V k else 0 := fun k => by
    show (if hx = hx ∧ 0 ≤ k ∧ k < 0 + cap then mI M V (k - 0) else mI (zM M hx) hx k) = _
    by_cases z : k < cap
    · rw [if_pos ⟨rfl, by omega, by omega⟩, if_pos z, Nat.sub_zero]
    · rw [if_neg (fun y => z (by omega)), if_neg z, zM_Is]
  refine ⟨hx, nc, ⟨(sN_n (by omega)).trans a1, tm_up_s _ _ _ _, sN_s, (e _ _ (by omega)).trans a4, (e _ _ (by omega)).trans a5, by omega, hn, fun j hj => ?_, fun j => ?_⟩, hm, Or.inr hh, hh1, fun a ha => sN_n (by omega), fun a k ha q1 q2 => ⟨(tm_up_a _ _ q1).trans (zM_R (by omega) k), e _ _ (by omega), zM_L (by omega) k⟩⟩
  · rw [eh, if_pos (by omega)]
    exact a8 j hj
  · rw [eh]
    split
    · exact a9 j
    · decide
theorem SB_I2 {sh : tm_sh} {M : tm_M} {q V cap : Nat} {pr : List Int} {v : Int} (s : isSB sh M q V cap pr) : isSB sh (sI M q 2 v) q V cap pr := by
  have hne := SB_ne s
  obtain ⟨a1, a2, a3, a4, a5, a6, a7, a8, a9⟩ := s
  exact ⟨a1, a2, a3, (tm_up_k _ _ (by decide)).trans a4, (tm_up_k _ _ (by decide)).trans a5, a6, a7, fun j hj => (tm_up_a _ _ hne).trans (a8 j hj), fun j => by rw [show mI (sI M q 2 v) V j = mI M V j from tm_up_a _ _ hne]; exact a9 j⟩
theorem SB_I0 {sh : tm_sh} {M : tm_M} {q V cap : Nat} {pr : List Int} (s : isSB sh M q V cap pr) : isSB sh (sI M q 3 0) q V cap [] := by
  have hne := SB_ne s
  obtain ⟨a1, a2, a3, a4, a5, a6, a7, a8, a9⟩ := s
  exact ⟨a1, a2, a3, (tm_up_k _ _ (by decide)).trans a4, tm_up_s _ _ _ _, Nat.zero_le _, a7, fun j hj => absurd hj (Nat.not_lt_zero j), fun j => by rw [show mI (sI M q 3 0) V j = mI M V j from tm_up_a _ _ hne]; exact a9 j⟩
/-- bytes written behind what is there, the count set -/
theorem SB_app {sh : tm_sh} {M M1 : tm_M} {q V cap : Nat} {pr add : List Int} (s : isSB sh M q V cap pr) (hr : mR M1 = mR M) (hl : pr.length + add.length ≤ cap) (h1 : mI M1 q 1 = 0) (h3 : mI M1 q 3 = ((pr.length + add.length : Nat) : Int)) (hb : ∀ j, j < pr.length → mI M1 V j = mI M V j) (hc : ∀ j, j < add.length → mI M1 V (pr.length + j) = add.getD j 0) (hg : ∀ j, -128 ≤ mI M1 V j ∧ mI M1 V j < 128) : isSB sh M1 q V cap (pr ++ add) := by
  obtain ⟨a1, a2, a3, a4, a5, a6, a7, a8, a9⟩ := s
  refine ⟨a1, by rw [hr]; exact a2, a3, h1, by rw [List.length_append]; exact h3, by rw [List.length_append]; exact hl, a7, fun j hj => ?_, hg⟩
  rw [List.length_append] at hj
  by_cases z : j < pr.length
  · rw [hb j z, a8 j z, List.getD_eq_getElem?_getD, List.getD_eq_getElem?_getD, List.getElem?_append_left z]
  · have e := hc (j - pr.length) (by omega)
    rw [show pr.length + (j - pr.length) = j by omega] at e
    rw [e, List.getD_eq_getElem?_getD, List.getD_eq_getElem?_getD, List.getElem?_append_right (by omega)]
theorem SBx_rf2 {q V h cap n h1 : Nat} {sh : tm_sh} {M : tm_M} {pr : List Int} (s : isSB sh M q V cap pr) (hn : n ≤ cap) (hh : h ≤ h1) : SBx q V h sh M pr n sh M h1 := ⟨V, cap, s, hn, Or.inl rfl, hh, fun _ _ => rfl, fun _ _ _ _ _ => ⟨rfl, rfl, rfl⟩⟩
theorem dJ5_ensureCapacityInternal_d00df_0 : decode cJ5_ensureCapacityInternal_d00df 0 = .ok (.aload_n 0, 1) := by decide +kernel
theorem dJ5_ensureCapacityInternal_d00df_1 : decode cJ5_ensureCapacityInternal_d00df 1 = .ok (.getfield 15, 3) := by decide +kernel
theorem dJ5_ensureCapacityInternal_d00df_4 : decode cJ5_ensureCapacityInternal_d00df 4 = .ok (.arraylength, 1) := by decide +kernel
theorem dJ5_ensureCapacityInternal_d00df_5 : decode cJ5_ensureCapacityInternal_d00df 5 = .ok (.aload_n 0, 1) := by decide +kernel
theorem dJ5_ensureCapacityInternal_d00df_6 : decode cJ5_ensureCapacityInternal_d00df 6 = .ok (.getfield 22, 3) := by decide +kernel
theorem dJ5_ensureCapacityInternal_d00df_9 : decode cJ5_ensureCapacityInternal_d00df 9 = .ok (.ishr, 1) := by decide +kernel
theorem dJ5_ensureCapacityInternal_d00df_10 : decode cJ5_ensureCapacityInternal_d00df 10 = .ok (.istore_n 2, 1) := by decide +kernel
theorem dJ5_ensureCapacityInternal_d00df_11 : decode cJ5_ensureCapacityInternal_d00df 11 = .ok (.iload_n 1, 1) := by decide +kernel
theorem dJ5_ensureCapacityInternal_d00df_12 : decode cJ5_ensureCapacityInternal_d00df 12 = .ok (.iload_n 2, 1) := by decide +kernel
theorem dJ5_ensureCapacityInternal_d00df_13 : decode cJ5_ensureCapacityInternal_d00df 13 = .ok (.isub, 1) := by decide +kernel
theorem dJ5_ensureCapacityInternal_d00df_14 : decode cJ5_ensureCapacityInternal_d00df 14 = .ok (.ifCond .le 24, 3) := by decide +kernel
theorem dJ5_ensureCapacityInternal_d00df_17 : decode cJ5_ensureCapacityInternal_d00df 17 = .ok (.aload_n 0, 1) := by decide +kernel
theorem dJ5_ensureCapacityInternal_d00df_18 : decode cJ5_ensureCapacityInternal_d00df 18 = .ok (.aload_n 0, 1) := by decide +kernel
theorem dJ5_ensureCapacityInternal_d00df_19 : decode cJ5_ensureCapacityInternal_d00df 19 = .ok (.getfield 15, 3) := by decide +kernel
theorem dJ5_ensureCapacityInternal_d00df_22 : decode cJ5_ensureCapacityInternal_d00df 22 = .ok (.aload_n 0, 1) := by decide +kernel
theorem dJ5_ensureCapacityInternal_d00df_23 : decode cJ5_ensureCapacityInternal_d00df 23 = .ok (.iload_n 1, 1) := by decide +kernel
theorem dJ5_ensureCapacityInternal_d00df_24 : decode cJ5_ensureCapacityInternal_d00df 24 = .ok (.invokevirtual 104, 3) := by decide +kernel
theorem dJ5_ensureCapacityInternal_d00df_27 : decode cJ5_ensureCapacityInternal_d00df 27 = .ok (.aload_n 0, 1) := by decide +kernel
theorem dJ5_ensureCapacityInternal_d00df_28 : decode cJ5_ensureCapacityInternal_d00df 28 = .ok (.getfield 22, 3) := by decide +kernel
theorem dJ5_ensureCapacityInternal_d00df_31 : decode cJ5_ensureCapacityInternal_d00df 31 = .ok (.ishl, 1) := by decide +kernel
theorem dJ5_ensureCapacityInternal_d00df_32 : decode cJ5_ensureCapacityInternal_d00df 32 = .ok (.invokestatic 108, 3) := by decide +kernel
theorem dJ5_ensureCapacityInternal_d00df_35 : decode cJ5_ensureCapacityInternal_d00df 35 = .ok (.putfield 15, 3) := by decide +kernel
theorem dJ5_ensureCapacityInternal_d00df_38 : decode cJ5_ensureCapacityInternal_d00df 38 = .ok (.return_, 1) := by decide +kernel
set_option maxHeartbeats 1000000 in
set_option maxRecDepth 100000 in
/-- ensureCapacityInternal -/
theorem c_J5_ensure {l : Launch} {G : tm_G} {Hb : Heap} {sh : tm_sh} {M : tm_M} {q V cap h : Nat} {pr : List Int} (s1 : isSB sh M q V cap pr) {x : Int} (hx1 : 0 ≤ x ∧ x ≤ 60) : Met l yJ5_ensureCapacityInternal_d00df (tws yJ5_ensureCapacityInternal_d00df cJ5_ensureCapacityInternal_d00df 3 none) ({ frames := 3, cells := 1, slots := 400, locals := 69 }) (va_Pc [.ref q, ji x] (tz_St G Hb sh M h)) (tz_Qv G Hb (fun sh1 M1 h1 => SBx q V h sh M pr x.toNat sh1 M1 h1)) 1 400 (tm_A Hb) := by
  refine tz_beginF (by decide +kernel) (Nat.le_of_ble_eq_true rfl) (fun p e s m below meth c ls hx hb hr hml hown htw hlk hnm hK hW hC hh hl => ?_)
  have hS : va_S (tm_A Hb) s.heap s.heap [] := va_S.rf
  have hl : lv_has ls 3 [(0, .ref q), (1, ji x)] := hl
  have s0 := s1
  obtain ⟨hq, hr0, hV, hc, h3c, hlc, hcp, hby, hrg⟩ := s1
  refine lv_aload_n hx hb dJ5_ensureCapacityInternal_d00df_0 rfl (lv_at hl 0 rfl) ?_
  refine gf_J5_15 hx hb htw hown hK hW hq hr0 dJ5_ensureCapacityInternal_d00df_1 ?_
  refine tm_alen hx hb hK hW hV (Or.inr (Or.inr (Or.inl rfl))) dJ5_ensureCapacityInternal_d00df_4 ?_
  refine lv_aload_n hx hb dJ5_ensureCapacityInternal_d00df_5 rfl (lv_at hl 0 rfl) ?_
  refine gf_J5_22 hx hb htw hown hK hW hq dJ5_ensureCapacityInternal_d00df_6 ?_
  rw [hc]
  refine ti_shr0 hx hb dJ5_ensureCapacityInternal_d00df_9 ?_
  refine lv_istore_n (lv' := [(2, _), (0, _), (1, _)]) hx hb dJ5_ensureCapacityInternal_d00df_10 rfl hl (by decide) rfl (fun ls hl => ?_)
  refine lv_iload_n hx hb dJ5_ensureCapacityInternal_d00df_11 rfl (lv_at hl 2 rfl) ?_
  refine lv_iload_n hx hb dJ5_ensureCapacityInternal_d00df_12 rfl (lv_at hl 0 rfl) ?_
  refine ti_isub hx hb dJ5_ensureCapacityInternal_d00df_13 ?_
  refine ti_if_le (tgt := 38) hx hb dJ5_ensureCapacityInternal_d00df_14 (by decide) (by omega) (fun h14 => ?_) (fun h14 => ?_)
  · exact W.widen (k := 1) (n := 400) (by first | omega | (dsimp only; omega)) (by first | omega | (dsimp only; omega)) (tz_vret hx hb hr hlk hK hW hS rfl (SBx_rf2 s0 (by omega) (by rw [← hh]; exact hS.1)) dJ5_ensureCapacityInternal_d00df_38)
  · refine lv_aload_n hx hb dJ5_ensureCapacityInternal_d00df_17 rfl (lv_at hl 1 rfl) ?_
    refine lv_aload_n hx hb dJ5_ensureCapacityInternal_d00df_18 rfl (lv_at hl 1 rfl) ?_
    refine gf_J5_15 hx hb htw hown hK hW hq hr0 dJ5_ensureCapacityInternal_d00df_19 ?_
    refine lv_aload_n hx hb dJ5_ensureCapacityInternal_d00df_22 rfl (lv_at hl 1 rfl) ?_
    refine lv_iload_n hx hb dJ5_ensureCapacityInternal_d00df_23 rfl (lv_at hl 2 rfl) ?_
    refine tm_calli (cq_J5_104 hx hb hml hown htw hC (tm_preV hK hW hq (by decide) rfl) (c_J5_newCapacity hq hr0 hV hc (by omega) hcp) ⟨rfl, rfl, Nat.le_of_ble_eq_true rfl, Nat.le_of_ble_eq_true rfl⟩ hl.1 (Nat.le_of_ble_eq_true rfl) dJ5_ensureCapacityInternal_d00df_24 ⟨(by first | omega | (dsimp only; omega)), (by first | omega | (dsimp only; omega))⟩) hS (fun x24 M24 H locs hp24 hW hS => ?_)
    obtain ⟨ex24, eM24⟩ := hp24
    rw [eM24] at hW
    rw [ex24]
    refine lv_aload_n hx hb dJ5_ensureCapacityInternal_d00df_27 rfl (lv_at hl 1 rfl) ?_
    refine gf_J5_22 hx hb htw hown hK hW hq dJ5_ensureCapacityInternal_d00df_28 ?_
    rw [hc]
    obtain ⟨nc, enc⟩ : ∃ nc : Nat, ((cap : Int) + (if x - cap < cap + 2 then (cap : Int) + 2 else x - cap)) = (nc : Int) := ⟨(((cap : Int) + (if x - cap < cap + 2 then (cap : Int) + 2 else x - cap))).toNat, by split <;> omega⟩
    rw [enc]
    have hXq := hW.free hq
    have hXV := hW.free hV
    have hS0 := hS
    obtain ⟨hX, hXe⟩ : ∃ hX, H.size = hX := ⟨_, rfl⟩
    rw [hXe] at hXq hXV
    refine ti_shl0 hx hb dJ5_ensureCapacityInternal_d00df_31 ?_
    refine tz_calla (cq_J5_108 hx hb hml hown htw (tz_preS hK hW hC hS hXe) (c_J7_copyOf (h := hX) (n := nc) hV ⟨by split at enc <;> omega, by split at enc <;> omega⟩ (fun j _ => hrg j)) ⟨rfl, rfl, Nat.le_of_ble_eq_true rfl, Nat.le_of_ble_eq_true rfl⟩ hl.1 (Nat.le_of_ble_eq_true rfl) dJ5_ensureCapacityInternal_d00df_32 ⟨(by first | omega | (dsimp only; omega)), (by first | omega | (dsimp only; omega))⟩) hS (fun x32 sh32 M32 h32 H locs hp32 hW hS hz => ?_)
    obtain ⟨ex32, es32, eM32, hl32⟩ := hp32
    subst es32
    subst ex32
    rw [eM32] at hW
    refine pf_J5_15 hx hb htw hown hK hW ((sN_n (by omega)).trans hq) hS dJ5_ensureCapacityInternal_d00df_35 (fun H locs hW hS => ?_)
    exact W.widen (k := 1) (n := 400) (by first | omega | (dsimp only; omega)) (by first | omega | (dsimp only; omega)) (tz_vret hx hb hr hlk hK hW hS rfl (SB_grow s0 (by omega) (by omega) (by rw [← hh, ← hXe]; exact hS0.1) (by split at enc <;> omega) (by split at enc <;> omega) (by split at enc <;> omega) (by rw [← hh]; exact hS.1)) dJ5_ensureCapacityInternal_d00df_38)
/-- behind a growth the object or the bytes alone have changed -/
theorem SBx_fin {q V0 V1 h0 h2 cap n : Nat} {sh0 sh1 : tm_sh} {M0 M1 M2 : tm_M} {pr1 : List Int} (hV : V1 = V0 ∨ h0 ≤ V1) (hs : ∀ a, a < h0 → sh1 a = sh0 a) (hm : ∀ a k, a < h0 → a ≠ q → a ≠ V0 → mR M1 a k = mR M0 a k ∧ mI M1 a k = mI M0 a k ∧ mL M1 a k = mL M0 a k) (t : isSB sh1 M2 q V1 cap pr1) (hn : n ≤ cap) (f : ∀ a k, a ≠ q → a ≠ V1 → mR M2 a k = mR M1 a k ∧ mI M2 a k = mI M1 a k ∧ mL M2 a k = mL M1 a k) (hh : h0 ≤ h2) : SBx q V0 h0 sh0 M0 pr1 n sh1 M2 h2 := ⟨V1, cap, t, hn, hV, hh, hs, fun a k ha q1 q2 => by
  have c1 := f a k q1 (by omega)
  have c2 := hm a k ha q1 q2
  exact ⟨c1.1.trans c2.1, c1.2.1.trans c2.2.1, c1.2.2.trans c2.2.2⟩⟩
theorem dJ5_setLength_d00df_0 : decode cJ5_setLength_d00df 0 = .ok (.iload_n 1, 1) := by decide +kernel
theorem dJ5_setLength_d00df_1 : decode cJ5_setLength_d00df 1 = .ok (.ifCond .ge 12, 3) := by decide +kernel
theorem dJ5_setLength_d00df_4 : decode cJ5_setLength_d00df 4 = .ok (.new 129, 3) := by decide +kernel
theorem dJ5_setLength_d00df_7 : decode cJ5_setLength_d00df 7 = .ok (.dup, 1) := by decide +kernel
theorem dJ5_setLength_d00df_8 : decode cJ5_setLength_d00df 8 = .ok (.iload_n 1, 1) := by decide +kernel
theorem dJ5_setLength_d00df_9 : decode cJ5_setLength_d00df 9 = .ok (.invokespecial 131, 3) := by decide +kernel
theorem dJ5_setLength_d00df_12 : decode cJ5_setLength_d00df 12 = .ok (.athrow, 1) := by decide +kernel
theorem dJ5_setLength_d00df_13 : decode cJ5_setLength_d00df 13 = .ok (.aload_n 0, 1) := by decide +kernel
theorem dJ5_setLength_d00df_14 : decode cJ5_setLength_d00df 14 = .ok (.iload_n 1, 1) := by decide +kernel
theorem dJ5_setLength_d00df_15 : decode cJ5_setLength_d00df 15 = .ok (.invokevirtual 100, 3) := by decide +kernel
theorem dJ5_setLength_d00df_18 : decode cJ5_setLength_d00df 18 = .ok (.aload_n 0, 1) := by decide +kernel
theorem dJ5_setLength_d00df_19 : decode cJ5_setLength_d00df 19 = .ok (.getfield 79, 3) := by decide +kernel
theorem dJ5_setLength_d00df_22 : decode cJ5_setLength_d00df 22 = .ok (.iload_n 1, 1) := by decide +kernel
theorem dJ5_setLength_d00df_23 : decode cJ5_setLength_d00df 23 = .ok (.if_icmp .ge 40, 3) := by decide +kernel
theorem dJ5_setLength_d00df_26 : decode cJ5_setLength_d00df 26 = .ok (.aload_n 0, 1) := by decide +kernel
theorem dJ5_setLength_d00df_27 : decode cJ5_setLength_d00df 27 = .ok (.invokevirtual 83, 3) := by decide +kernel
theorem dJ5_setLength_d00df_30 : decode cJ5_setLength_d00df 30 = .ok (.ifCond .eq 18, 3) := by decide +kernel
theorem dJ5_setLength_d00df_33 : decode cJ5_setLength_d00df 33 = .ok (.aload_n 0, 1) := by decide +kernel
theorem dJ5_setLength_d00df_34 : decode cJ5_setLength_d00df 34 = .ok (.getfield 15, 3) := by decide +kernel
theorem dJ5_setLength_d00df_37 : decode cJ5_setLength_d00df 37 = .ok (.aload_n 0, 1) := by decide +kernel
theorem dJ5_setLength_d00df_38 : decode cJ5_setLength_d00df 38 = .ok (.getfield 79, 3) := by decide +kernel
theorem dJ5_setLength_d00df_41 : decode cJ5_setLength_d00df 41 = .ok (.iload_n 1, 1) := by decide +kernel
theorem dJ5_setLength_d00df_42 : decode cJ5_setLength_d00df 42 = .ok (.invokestatic 133, 3) := by decide +kernel
theorem dJ5_setLength_d00df_45 : decode cJ5_setLength_d00df 45 = .ok (.goto 31, 3) := by decide +kernel
theorem dJ5_setLength_d00df_48 : decode cJ5_setLength_d00df 48 = .ok (.aload_n 0, 1) := by decide +kernel
theorem dJ5_setLength_d00df_49 : decode cJ5_setLength_d00df 49 = .ok (.getfield 15, 3) := by decide +kernel
theorem dJ5_setLength_d00df_52 : decode cJ5_setLength_d00df 52 = .ok (.aload_n 0, 1) := by decide +kernel
theorem dJ5_setLength_d00df_53 : decode cJ5_setLength_d00df 53 = .ok (.getfield 79, 3) := by decide +kernel
theorem dJ5_setLength_d00df_56 : decode cJ5_setLength_d00df 56 = .ok (.iload_n 1, 1) := by decide +kernel
theorem dJ5_setLength_d00df_57 : decode cJ5_setLength_d00df 57 = .ok (.invokestatic 137, 3) := by decide +kernel
theorem dJ5_setLength_d00df_60 : decode cJ5_setLength_d00df 60 = .ok (.goto 16, 3) := by decide +kernel
theorem dJ5_setLength_d00df_63 : decode cJ5_setLength_d00df 63 = .ok (.aload_n 0, 1) := by decide +kernel
theorem dJ5_setLength_d00df_64 : decode cJ5_setLength_d00df 64 = .ok (.getfield 79, 3) := by decide +kernel
theorem dJ5_setLength_d00df_67 : decode cJ5_setLength_d00df 67 = .ok (.iload_n 1, 1) := by decide +kernel
theorem dJ5_setLength_d00df_68 : decode cJ5_setLength_d00df 68 = .ok (.if_icmp .le 8, 3) := by decide +kernel
theorem dJ5_setLength_d00df_71 : decode cJ5_setLength_d00df 71 = .ok (.aload_n 0, 1) := by decide +kernel
theorem dJ5_setLength_d00df_72 : decode cJ5_setLength_d00df 72 = .ok (.iconst 1, 1) := by decide +kernel
theorem dJ5_setLength_d00df_73 : decode cJ5_setLength_d00df 73 = .ok (.putfield 73, 3) := by decide +kernel
theorem dJ5_setLength_d00df_76 : decode cJ5_setLength_d00df 76 = .ok (.aload_n 0, 1) := by decide +kernel
theorem dJ5_setLength_d00df_77 : decode cJ5_setLength_d00df 77 = .ok (.iload_n 1, 1) := by decide +kernel
theorem dJ5_setLength_d00df_78 : decode cJ5_setLength_d00df 78 = .ok (.putfield 79, 3) := by decide +kernel
theorem dJ5_setLength_d00df_81 : decode cJ5_setLength_d00df 81 = .ok (.return_, 1) := by decide +kernel
set_option maxHeartbeats 1000000 in
set_option maxRecDepth 100000 in
/-- AbstractStringBuilder.setLength -/
theorem c_J5_setLength {l : Launch} {G : tm_G} {Hb : Heap} {sh : tm_sh} {M : tm_M} {q V cap h : Nat} {pr : List Int} (s1 : isSB sh M q V cap pr) : Met l yJ5_setLength_d00df (tws yJ5_setLength_d00df cJ5_setLength_d00df 2 none) ({ frames := 4, cells := 1, slots := 400, locals := 91 }) (va_Pc [.ref q, ji 0] (tz_St G Hb sh M h)) (tz_Qv G Hb (fun sh1 M1 h1 => SBx q V h sh M [] 0 sh1 M1 h1)) 1 400 (tm_A Hb) := by
  refine tz_beginF (by decide +kernel) (Nat.le_of_ble_eq_true rfl) (fun p e s m below meth c ls hx hb hr hml hown htw hlk hnm hK hW hC hh hl => ?_)
  have hS : va_S (tm_A Hb) s.heap s.heap [] := va_S.rf
  have hl : lv_has ls 2 [(0, .ref q), (1, ji 0)] := hl
  have s0 := s1
  obtain ⟨hq, hr0, hV, hc, h3c, hlc, hcp, hby, hrg⟩ := s1
  have hXe := hh
  refine lv_iload_n hx hb dJ5_setLength_d00df_0 rfl (lv_at hl 1 rfl) ?_
  refine ti_if_ge (tgt := 13) hx hb dJ5_setLength_d00df_1 (by decide) (by decide) (fun h1 => ?_) (fun h1 => ?_)
  · refine lv_aload_n hx hb dJ5_setLength_d00df_13 rfl (lv_at hl 0 rfl) ?_
    refine lv_iload_n hx hb dJ5_setLength_d00df_14 rfl (lv_at hl 1 rfl) ?_
    refine tz_callv (cq_J5_100 hx hb hml hown htw hC (tz_preV hK hW hC hS hXe hq (by decide) rfl) (c_J5_ensure s0 (by decide)) ⟨rfl, rfl, Nat.le_of_ble_eq_true rfl, Nat.le_of_ble_eq_true rfl⟩ hl.1 (Nat.le_of_ble_eq_true rfl) dJ5_setLength_d00df_15 ⟨(by first | omega | (dsimp only; omega)), (by first | omega | (dsimp only; omega))⟩) hS (fun sh15 M15 h15 H locs hp15 hW hS hz => ?_)
    obtain ⟨V1, cap1, s2, hn1, hV1, hh1, hf1, hf2⟩ := hp15
    have s3 := s2
    obtain ⟨kq, kr0, kV, kc, k3c, klc, kcp, kby, krg⟩ := s2
    refine lv_aload_n hx hb dJ5_setLength_d00df_18 rfl (lv_at hl 0 rfl) ?_
    refine gf_J5_79 hx hb htw hown hK hW kq dJ5_setLength_d00df_19 ?_
    refine lv_iload_n hx hb dJ5_setLength_d00df_22 rfl (lv_at hl 1 rfl) ?_
    refine ti_icmp_ge (tgt := 63) hx hb dJ5_setLength_d00df_23 (by decide) (by omega) (by decide) (fun h23 => ?_) (fun h23 => ?_)
    · refine lv_aload_n hx hb dJ5_setLength_d00df_63 rfl (lv_at hl 0 rfl) ?_
      refine gf_J5_79 hx hb htw hown hK hW kq dJ5_setLength_d00df_64 ?_
      refine lv_iload_n hx hb dJ5_setLength_d00df_67 rfl (lv_at hl 1 rfl) ?_
      refine ti_icmp_le (tgt := 76) hx hb dJ5_setLength_d00df_68 (by decide) (by omega) (by decide) (fun h68 => ?_) (fun h68 => ?_)
      · refine lv_aload_n hx hb dJ5_setLength_d00df_76 rfl (lv_at hl 0 rfl) ?_
        refine lv_iload_n hx hb dJ5_setLength_d00df_77 rfl (lv_at hl 1 rfl) ?_
        refine pf_J5_79 hx hb htw hown hK hW kq hS dJ5_setLength_d00df_78 (fun H locs hW hS => ?_)
        exact W.widen (k := 1) (n := 400) (by first | omega | (dsimp only; omega)) (by first | omega | (dsimp only; omega)) (tz_vret hx hb hr hlk hK hW hS rfl (SBx_fin hV1 hf1 hf2 (SB_I0 s3) (Nat.zero_le _) (fun a k q1 q2 => ⟨rfl, tm_up_a _ _ q1, rfl⟩) (by rw [← hh]; exact hS.1)) dJ5_setLength_d00df_81)
      · refine lv_aload_n hx hb dJ5_setLength_d00df_71 rfl (lv_at hl 0 rfl) ?_
        refine ti_iconst hx hb dJ5_setLength_d00df_72 ?_
        refine pf_J5_73 hx hb htw hown hK hW kq hS (Or.inr rfl) dJ5_setLength_d00df_73 (fun H locs hW hS => ?_)
        refine lv_aload_n hx hb dJ5_setLength_d00df_76 rfl (lv_at hl 0 rfl) ?_
        refine lv_iload_n hx hb dJ5_setLength_d00df_77 rfl (lv_at hl 1 rfl) ?_
        refine pf_J5_79 hx hb htw hown hK hW kq hS dJ5_setLength_d00df_78 (fun H locs hW hS => ?_)
        exact W.widen (k := 1) (n := 400) (by first | omega | (dsimp only; omega)) (by first | omega | (dsimp only; omega)) (tz_vret hx hb hr hlk hK hW hS rfl (SBx_fin hV1 hf1 hf2 (SB_I0 (SB_I2 s3)) (Nat.zero_le _) (fun a k q1 q2 => ⟨rfl, (tm_up_a _ _ q1).trans (tm_up_a _ _ q1), rfl⟩) (by rw [← hh]; exact hS.1)) dJ5_setLength_d00df_81)
    · exact absurd (show (0 : Int) ≤ mI M15 q 3 by omega) h23
  · exact absurd (show (0 : Int) ≤ 0 by decide) h1
theorem dJ4_setLength_d00df_0 : decode cJ4_setLength_d00df 0 = .ok (.aload_n 0, 1) := by decide +kernel
theorem dJ4_setLength_d00df_1 : decode cJ4_setLength_d00df 1 = .ok (.iload_n 1, 1) := by decide +kernel
theorem dJ4_setLength_d00df_2 : decode cJ4_setLength_d00df 2 = .ok (.invokespecial 333, 3) := by decide +kernel
theorem dJ4_setLength_d00df_5 : decode cJ4_setLength_d00df 5 = .ok (.return_, 1) := by decide +kernel
set_option maxHeartbeats 1000000 in
set_option maxRecDepth 100000 in
/-- StringBuilder.setLength -/
theorem c_J4_setLength {l : Launch} {G : tm_G} {Hb : Heap} {sh : tm_sh} {M : tm_M} {q V cap h : Nat} {pr : List Int} (s1 : isSB sh M q V cap pr) : Met l yJ4_setLength_d00df (tws yJ4_setLength_d00df cJ4_setLength_d00df 2 none) ({ frames := 5, cells := 1, slots := 400, locals := 112 }) (va_Pc [.ref q, ji 0] (tz_St G Hb sh M h)) (tz_Qv G Hb (fun sh1 M1 h1 => SBx q V h sh M [] 0 sh1 M1 h1)) 1 400 (tm_A Hb) := by
  refine tz_beginF (by decide +kernel) (Nat.le_of_ble_eq_true rfl) (fun p e s m below meth c ls hx hb hr hml hown htw hlk hnm hK hW hC hh hl => ?_)
  have hS : va_S (tm_A Hb) s.heap s.heap [] := va_S.rf
  have hl : lv_has ls 2 [(0, .ref q), (1, ji 0)] := hl
  have hq := s1.1
  refine lv_aload_n hx hb dJ4_setLength_d00df_0 rfl (lv_at hl 0 rfl) ?_
  refine lv_iload_n hx hb dJ4_setLength_d00df_1 rfl (lv_at hl 1 rfl) ?_
  refine tz_callv (cq_J4_333 hx hb hml hown htw hK (tz_preV hK hW hC hS hh hq (by decide) rfl) (c_J5_setLength s1) ⟨rfl, rfl, Nat.le_of_ble_eq_true rfl, Nat.le_of_ble_eq_true rfl⟩ hl.1 (Nat.le_of_ble_eq_true rfl) dJ4_setLength_d00df_2 ⟨(by first | omega | (dsimp only; omega)), (by first | omega | (dsimp only; omega))⟩) hS (fun sh2 M2 h2 H locs hp2 hW hS hz => ?_)
  exact W.widen (k := 1) (n := 400) (by first | omega | (dsimp only; omega)) (by first | omega | (dsimp only; omega)) (tz_vret hx hb hr hlk hK hW hS rfl (by rw [hz]; exact hp2) dJ4_setLength_d00df_5)
theorem dJ1_canEncode_fc78d_0 : decode cJ1_canEncode_fc78d 0 = .ok (.iload_n 0, 1) := by decide +kernel
theorem dJ1_canEncode_fc78d_1 : decode cJ1_canEncode_fc78d 1 = .ok (.sipush 255, 3) := by decide +kernel
theorem dJ1_canEncode_fc78d_4 : decode cJ1_canEncode_fc78d 4 = .ok (.if_icmp .gt 7, 3) := by decide +kernel
theorem dJ1_canEncode_fc78d_7 : decode cJ1_canEncode_fc78d 7 = .ok (.iconst 1, 1) := by decide +kernel
theorem dJ1_canEncode_fc78d_8 : decode cJ1_canEncode_fc78d 8 = .ok (.goto 4, 3) := by decide +kernel
theorem dJ1_canEncode_fc78d_11 : decode cJ1_canEncode_fc78d 11 = .ok (.iconst 0, 1) := by decide +kernel
theorem dJ1_canEncode_fc78d_12 : decode cJ1_canEncode_fc78d 12 = .ok (.ireturn, 1) := by decide +kernel
set_option maxHeartbeats 4000000 in
set_option maxRecDepth 100000 in
/-- StringLatin1.canEncode -/
theorem c_J1_canEncode {l : Launch} {G : tm_G} {Hb : Heap} {sh : tm_sh} {M : tm_M} {x : Int} (hx1 : 0 ≤ x ∧ x ≤ 255) : Met l yJ1_canEncode_fc78d (tws yJ1_canEncode_fc78d cJ1_canEncode_fc78d 1 (some .boolean)) ({ frames := 0, cells := 0, slots := 0, locals := 0 }) (va_Pc [ji x] (tm_St G Hb sh M)) (tm_Qi G Hb sh (fun r M1 => r = 1 ∧ M1 = M)) 0 0 (tm_A Hb) := by
  refine tm_beginF (by decide +kernel) (Nat.le_of_ble_eq_true rfl) (fun p e s m below meth c ls hx hb hr hml hown htw hlk hnm hK hW hl => ?_)
  have hS : va_S (tm_A Hb) s.heap s.heap [] := va_S.rf
  have hl : lv_has ls 1 [(0, ji x)] := hl
  refine lv_iload_n hx hb dJ1_canEncode_fc78d_0 rfl (lv_at hl 0 rfl) ?_
  refine ti_sipush hx hb dJ1_canEncode_fc78d_1 (by decide) ?_
  refine ti_icmp_gt (tgt := 11) hx hb dJ1_canEncode_fc78d_4 (by decide) (by omega) (by decide) (fun h4 => ?_) (fun h4 => ?_)
  · exact absurd h4 (by omega)
  · refine ti_iconst hx hb dJ1_canEncode_fc78d_7 ?_
    refine lv_goto (tgt := 12) hx hb dJ1_canEncode_fc78d_8 (by decide) ?_
    exact tm_zret hx hb hr hlk (Or.inr rfl) hK hW hS ⟨rfl, rfl⟩ dJ1_canEncode_fc78d_12
theorem SB_put {sh : tm_sh} {M : tm_M} {q V cap : Nat} {pr : List Int} {ch : Int} (s : isSB sh M q V cap pr) (hl : pr.length + 1 ≤ cap) (hc : 0 ≤ ch ∧ ch < 128) : isSB sh (sI (sI M q 3 (mI M q 3 + 1)) V (mI M q 3).toNat (ch.bmod 256)) q V cap (pr ++ [ch]) := by
  have hne := SB_ne s
  have s0 := s
  obtain ⟨a1, a2, a3, a4, a5, a6, a7, a8, a9⟩ := s
  have eb : ch.bmod 256 = ch := Int.bmod_eq_of_le (by omega) (by omega)
  have el : (mI M q 3).toNat = pr.length := by omega
  rw [eb, el]
  refine SB_app (M := M) s0 rfl hl ((tm_up_a _ _ (Ne.symm hne)).trans ((tm_up_k _ _ (by decide)).trans a4)) ((tm_up_a _ _ (Ne.symm hne)).trans ((tm_up_s _ _ _ _).trans (by rw [a5]; rfl))) (fun j hj => (tm_up_k _ _ (by omega)).trans (tm_up_a _ _ hne)) (fun j hj => ?_) (fun j => ?_)
  · have hj : j < 1 := hj
    rw [show j = 0 by omega]
    exact tm_up_s _ _ _ _
  · by_cases z : j = pr.length
    · rw [z, show mI (sI (sI M q 3 (mI M q 3 + 1)) V pr.length ch) V pr.length = ch from tm_up_s _ _ _ _]
      omega
    · rw [show mI (sI (sI M q 3 (mI M q 3 + 1)) V pr.length ch) V j = mI M V j from (tm_up_k _ _ z).trans (tm_up_a _ _ hne)]
      exact a9 j
theorem dJ5_append_3fe6f_0 : decode cJ5_append_3fe6f 0 = .ok (.aload_n 0, 1) := by decide +kernel
theorem dJ5_append_3fe6f_1 : decode cJ5_append_3fe6f 1 = .ok (.aload_n 0, 1) := by decide +kernel
theorem dJ5_append_3fe6f_2 : decode cJ5_append_3fe6f 2 = .ok (.getfield 79, 3) := by decide +kernel
theorem dJ5_append_3fe6f_5 : decode cJ5_append_3fe6f 5 = .ok (.iconst 1, 1) := by decide +kernel
theorem dJ5_append_3fe6f_6 : decode cJ5_append_3fe6f 6 = .ok (.iadd, 1) := by decide +kernel
theorem dJ5_append_3fe6f_7 : decode cJ5_append_3fe6f 7 = .ok (.invokevirtual 100, 3) := by decide +kernel
theorem dJ5_append_3fe6f_10 : decode cJ5_append_3fe6f 10 = .ok (.aload_n 0, 1) := by decide +kernel
theorem dJ5_append_3fe6f_11 : decode cJ5_append_3fe6f 11 = .ok (.invokevirtual 83, 3) := by decide +kernel
theorem dJ5_append_3fe6f_14 : decode cJ5_append_3fe6f 14 = .ok (.ifCond .eq 31, 3) := by decide +kernel
theorem dJ5_append_3fe6f_17 : decode cJ5_append_3fe6f 17 = .ok (.iload_n 1, 1) := by decide +kernel
theorem dJ5_append_3fe6f_18 : decode cJ5_append_3fe6f 18 = .ok (.invokestatic 191, 3) := by decide +kernel
theorem dJ5_append_3fe6f_21 : decode cJ5_append_3fe6f 21 = .ok (.ifCond .eq 24, 3) := by decide +kernel
theorem dJ5_append_3fe6f_24 : decode cJ5_append_3fe6f 24 = .ok (.aload_n 0, 1) := by decide +kernel
theorem dJ5_append_3fe6f_25 : decode cJ5_append_3fe6f 25 = .ok (.getfield 15, 3) := by decide +kernel
theorem dJ5_append_3fe6f_28 : decode cJ5_append_3fe6f 28 = .ok (.aload_n 0, 1) := by decide +kernel
theorem dJ5_append_3fe6f_29 : decode cJ5_append_3fe6f 29 = .ok (.dup, 1) := by decide +kernel
theorem dJ5_append_3fe6f_30 : decode cJ5_append_3fe6f 30 = .ok (.getfield 79, 3) := by decide +kernel
theorem dJ5_append_3fe6f_33 : decode cJ5_append_3fe6f 33 = .ok (.dup_x1, 1) := by decide +kernel
theorem dJ5_append_3fe6f_34 : decode cJ5_append_3fe6f 34 = .ok (.iconst 1, 1) := by decide +kernel
theorem dJ5_append_3fe6f_35 : decode cJ5_append_3fe6f 35 = .ok (.iadd, 1) := by decide +kernel
theorem dJ5_append_3fe6f_36 : decode cJ5_append_3fe6f 36 = .ok (.putfield 79, 3) := by decide +kernel
theorem dJ5_append_3fe6f_39 : decode cJ5_append_3fe6f 39 = .ok (.iload_n 1, 1) := by decide +kernel
theorem dJ5_append_3fe6f_40 : decode cJ5_append_3fe6f 40 = .ok (.i2b, 1) := by decide +kernel
theorem dJ5_append_3fe6f_41 : decode cJ5_append_3fe6f 41 = .ok (.bastore, 1) := by decide +kernel
theorem dJ5_append_3fe6f_42 : decode cJ5_append_3fe6f 42 = .ok (.goto 33, 3) := by decide +kernel
theorem dJ5_append_3fe6f_45 : decode cJ5_append_3fe6f 45 = .ok (.aload_n 0, 1) := by decide +kernel
theorem dJ5_append_3fe6f_46 : decode cJ5_append_3fe6f 46 = .ok (.invokevirtual 83, 3) := by decide +kernel
theorem dJ5_append_3fe6f_49 : decode cJ5_append_3fe6f 49 = .ok (.ifCond .eq 7, 3) := by decide +kernel
theorem dJ5_append_3fe6f_52 : decode cJ5_append_3fe6f 52 = .ok (.aload_n 0, 1) := by decide +kernel
theorem dJ5_append_3fe6f_53 : decode cJ5_append_3fe6f 53 = .ok (.invokevirtual 195, 3) := by decide +kernel
theorem dJ5_append_3fe6f_56 : decode cJ5_append_3fe6f 56 = .ok (.aload_n 0, 1) := by decide +kernel
theorem dJ5_append_3fe6f_57 : decode cJ5_append_3fe6f 57 = .ok (.getfield 15, 3) := by decide +kernel
theorem dJ5_append_3fe6f_60 : decode cJ5_append_3fe6f 60 = .ok (.aload_n 0, 1) := by decide +kernel
theorem dJ5_append_3fe6f_61 : decode cJ5_append_3fe6f 61 = .ok (.dup, 1) := by decide +kernel
theorem dJ5_append_3fe6f_62 : decode cJ5_append_3fe6f 62 = .ok (.getfield 79, 3) := by decide +kernel
theorem dJ5_append_3fe6f_65 : decode cJ5_append_3fe6f 65 = .ok (.dup_x1, 1) := by decide +kernel
theorem dJ5_append_3fe6f_66 : decode cJ5_append_3fe6f 66 = .ok (.iconst 1, 1) := by decide +kernel
theorem dJ5_append_3fe6f_67 : decode cJ5_append_3fe6f 67 = .ok (.iadd, 1) := by decide +kernel
theorem dJ5_append_3fe6f_68 : decode cJ5_append_3fe6f 68 = .ok (.putfield 79, 3) := by decide +kernel
theorem dJ5_append_3fe6f_71 : decode cJ5_append_3fe6f 71 = .ok (.iload_n 1, 1) := by decide +kernel
theorem dJ5_append_3fe6f_72 : decode cJ5_append_3fe6f 72 = .ok (.invokestatic 197, 3) := by decide +kernel
theorem dJ5_append_3fe6f_75 : decode cJ5_append_3fe6f 75 = .ok (.aload_n 0, 1) := by decide +kernel
theorem dJ5_append_3fe6f_76 : decode cJ5_append_3fe6f 76 = .ok (.areturn, 1) := by decide +kernel
set_option maxHeartbeats 1000000 in
set_option maxRecDepth 100000 in
/-- AbstractStringBuilder.append(char) -/
theorem c_J5_appendC {l : Launch} {G : tm_G} {Hb : Heap} {sh : tm_sh} {M : tm_M} {q V cap h : Nat} {pr : List Int} (s1 : isSB sh M q V cap pr) {ch : Int} (hch : 0 ≤ ch ∧ ch < 128) (hlen : pr.length + 1 ≤ 60) : Met l yJ5_append_3fe6f (tws yJ5_append_3fe6f cJ5_append_3fe6f 2 (some (.object "java/lang/AbstractStringBuilder"))) ({ frames := 4, cells := 1, slots := 400, locals := 91 }) (va_Pc [.ref q, ji ch] (tz_St G Hb sh M h)) (tz_Qa G Hb (fun x sh1 M1 h1 => x = q ∧ SBx q V h sh M (pr ++ [ch]) (pr ++ [ch]).length sh1 M1 h1)) 1 400 (tm_A Hb) := by
  refine tz_beginF (by decide +kernel) (Nat.le_of_ble_eq_true rfl) (fun p e s m below meth c ls hx hb hr hml hown htw hlk hnm hK hW hC hh hl => ?_)
  have hS : va_S (tm_A Hb) s.heap s.heap [] := va_S.rf
  have hl : lv_has ls 2 [(0, .ref q), (1, ji ch)] := hl
  have s0 := s1
  obtain ⟨hq, hr0, hV, hc, h3c, hlc, hcp, hby, hrg⟩ := s1
  have hXe := hh
  refine lv_aload_n hx hb dJ5_append_3fe6f_0 rfl (lv_at hl 0 rfl) ?_
  refine lv_aload_n hx hb dJ5_append_3fe6f_1 rfl (lv_at hl 0 rfl) ?_
  refine gf_J5_79 hx hb htw hown hK hW hq dJ5_append_3fe6f_2 ?_
  refine ti_iconst hx hb dJ5_append_3fe6f_5 ?_
  refine ti_iadd hx hb dJ5_append_3fe6f_6 ?_
  refine tz_callv (cq_J5_100 hx hb hml hown htw hC (tz_preV hK hW hC hS hXe hq (by decide) rfl) (c_J5_ensure s0 (by omega)) ⟨rfl, rfl, Nat.le_of_ble_eq_true rfl, Nat.le_of_ble_eq_true rfl⟩ hl.1 (Nat.le_of_ble_eq_true rfl) dJ5_append_3fe6f_7 ⟨(by first | omega | (dsimp only; omega)), (by first | omega | (dsimp only; omega))⟩) hS (fun sh7 M7 h7 H locs hp7 hW hS hz => ?_)
  obtain ⟨V1, cap1, s2, hn1, hV1, hh1, hf1, hf2⟩ := hp7
  have s3 := s2
  obtain ⟨kq, kr0, kV, kc, k3c, klc, kcp, kby, krg⟩ := s2
  obtain ⟨hY, hYe⟩ : ∃ hY, H.size = hY := ⟨_, rfl⟩
  have hS7 := hS
  refine lv_aload_n hx hb dJ5_append_3fe6f_10 rfl (lv_at hl 0 rfl) ?_
  refine tm_calli (cq_J5_83 hx hb hml hown htw hC (tz_preV hK hW hC hS hYe kq (by decide) rfl) (c_J5_isLatin1 kq kc) ⟨rfl, rfl, Nat.le_of_ble_eq_true rfl, Nat.le_of_ble_eq_true rfl⟩ hl.1 (Nat.le_of_ble_eq_true rfl) dJ5_append_3fe6f_11 ⟨(by first | omega | (dsimp only; omega)), (by first | omega | (dsimp only; omega))⟩) hS (fun x11 M11 H locs hp11 hW hS => ?_)
  obtain ⟨ex11, eM11⟩ := hp11
  rw [eM11] at hW
  rw [ex11]
  refine ti_if_eq (tgt := 45) hx hb dJ5_append_3fe6f_14 (by decide) (by decide) (fun h14 => ?_) (fun h14 => ?_)
  · exact absurd h14 (by decide)
  · refine lv_iload_n hx hb dJ5_append_3fe6f_17 rfl (lv_at hl 1 rfl) ?_
    refine tm_calli (cq_J5_191 hx hb hml hown htw (tm_preS hK hW) (c_J1_canEncode (by omega)) ⟨rfl, rfl, Nat.le_of_ble_eq_true rfl, Nat.le_of_ble_eq_true rfl⟩ hl.1 (Nat.le_of_ble_eq_true rfl) dJ5_append_3fe6f_18 ⟨(by first | omega | (dsimp only; omega)), (by first | omega | (dsimp only; omega))⟩) hS (fun x18 M18 H locs hp18 hW hS => ?_)
    obtain ⟨ex18, eM18⟩ := hp18
    rw [eM18] at hW
    rw [ex18]
    have hSz := hS
    refine ti_if_eq (tgt := 45) hx hb dJ5_append_3fe6f_21 (by decide) (by decide) (fun h21 => ?_) (fun h21 => ?_)
    · exact absurd h21 (by decide)
    · refine lv_aload_n hx hb dJ5_append_3fe6f_24 rfl (lv_at hl 0 rfl) ?_
      refine gf_J5_15 hx hb htw hown hK hW kq kr0 dJ5_append_3fe6f_25 ?_
      refine lv_aload_n hx hb dJ5_append_3fe6f_28 rfl (lv_at hl 0 rfl) ?_
      refine lv_dup hx hb dJ5_append_3fe6f_29 rfl ?_
      refine gf_J5_79 hx hb htw hown hK hW kq dJ5_append_3fe6f_30 ?_
      refine lv_dup_x1 hx hb dJ5_append_3fe6f_33 rfl rfl ?_
      refine ti_iconst hx hb dJ5_append_3fe6f_34 ?_
      refine ti_iadd hx hb dJ5_append_3fe6f_35 ?_
      refine pf_J5_79 hx hb htw hown hK hW kq hS dJ5_append_3fe6f_36 (fun H locs hW hS => ?_)
      refine lv_iload_n hx hb dJ5_append_3fe6f_39 rfl (lv_at hl 1 rfl) ?_
      refine ti_i2b hx hb dJ5_append_3fe6f_40 ?_
      refine tm_bast hx hb hK hW hS kV (by omega) (by omega) (by omega) (bmod256 _).1 dJ5_append_3fe6f_41 (fun H locs hW hS => ?_)
      refine lv_goto (tgt := 75) hx hb dJ5_append_3fe6f_42 (by decide) ?_
      refine lv_aload_n hx hb dJ5_append_3fe6f_75 rfl (lv_at hl 0 rfl) ?_
      exact W.widen (k := 1) (n := 400) (by first | omega | (dsimp only; omega)) (by first | omega | (dsimp only; omega)) (tz_aret hx hb hr (Or.inl ⟨_, rfl⟩) hlk hK hW hS rfl ⟨rfl, SBx_fin hV1 hf1 hf2 (SB_put s3 (by omega) hch) (by rw [List.length_append]; show pr.length + 1 ≤ cap1; omega) (fun a k q1 q2 => ⟨rfl, (tm_up_a _ _ q2).trans (tm_up_a _ _ q1), rfl⟩) (by rw [← hh]; exact hS.1)⟩ dJ5_append_3fe6f_76)
theorem dJ4_append_cf468_0 : decode cJ4_append_cf468 0 = .ok (.aload_n 0, 1) := by decide +kernel
theorem dJ4_append_cf468_1 : decode cJ4_append_cf468 1 = .ok (.iload_n 1, 1) := by decide +kernel
theorem dJ4_append_cf468_2 : decode cJ4_append_cf468 2 = .ok (.invokespecial 50, 3) := by decide +kernel
theorem dJ4_append_cf468_5 : decode cJ4_append_cf468 5 = .ok (.pop, 1) := by decide +kernel
theorem dJ4_append_cf468_6 : decode cJ4_append_cf468 6 = .ok (.aload_n 0, 1) := by decide +kernel
theorem dJ4_append_cf468_7 : decode cJ4_append_cf468 7 = .ok (.areturn, 1) := by decide +kernel
set_option maxHeartbeats 1000000 in
set_option maxRecDepth 100000 in
/-- StringBuilder.append(char) -/
theorem c_J4_appendC {l : Launch} {G : tm_G} {Hb : Heap} {sh : tm_sh} {M : tm_M} {q V cap h : Nat} {pr : List Int} (s1 : isSB sh M q V cap pr) {ch : Int} (hch : 0 ≤ ch ∧ ch < 128) (hlen : pr.length + 1 ≤ 60) : Met l yJ4_append_cf468 (tws yJ4_append_cf468 cJ4_append_cf468 2 (some (.object "java/lang/StringBuilder"))) ({ frames := 5, cells := 1, slots := 400, locals := 112 }) (va_Pc [.ref q, ji ch] (tz_St G Hb sh M h)) (tz_Qa G Hb (fun x sh1 M1 h1 => x = q ∧ SBx q V h sh M (pr ++ [ch]) (pr ++ [ch]).length sh1 M1 h1)) 1 400 (tm_A Hb) := by
  refine tz_beginF (by decide +kernel) (Nat.le_of_ble_eq_true rfl) (fun p e s m below meth c ls hx hb hr hml hown htw hlk hnm hK hW hC hh hl => ?_)
  have hS : va_S (tm_A Hb) s.heap s.heap [] := va_S.rf
  have hl : lv_has ls 2 [(0, .ref q), (1, ji ch)] := hl
  have hq := s1.1
  refine lv_aload_n hx hb dJ4_append_cf468_0 rfl (lv_at hl 0 rfl) ?_
  refine lv_iload_n hx hb dJ4_append_cf468_1 rfl (lv_at hl 1 rfl) ?_
  refine tz_calla (cq_J4_50 hx hb hml hown htw hK (tz_preV hK hW hC hS hh hq (by decide) rfl) (c_J5_appendC s1 hch hlen) ⟨rfl, rfl, Nat.le_of_ble_eq_true rfl, Nat.le_of_ble_eq_true rfl⟩ hl.1 (Nat.le_of_ble_eq_true rfl) dJ4_append_cf468_2 ⟨(by first | omega | (dsimp only; omega)), (by first | omega | (dsimp only; omega))⟩) hS (fun x2 sh2 M2 h2 H locs hp2 hW hS hz => ?_)
  refine lv_pop hx hb dJ4_append_cf468_5 rfl ?_
  refine lv_aload_n hx hb dJ4_append_cf468_6 rfl (lv_at hl 0 rfl) ?_
  exact W.widen (k := 1) (n := 400) (by first | omega | (dsimp only; omega)) (by first | omega | (dsimp only; omega)) (tz_aret hx hb hr (Or.inl ⟨_, rfl⟩) hlk hK hW hS rfl ⟨rfl, by rw [hz]; exact hp2.2⟩ dJ4_append_cf468_7)
