/-! Paper (by program: wip/whole/gen/pa1.py) -/
theorem SBx_c {q V V1 h h1 n h2 : Nat} {sh sh1 sh2 : tm_sh} {M M1 M2 : tm_M} {pr2 : List Int} {H : Heap} (hV : V1 = V ∨ h ≤ V1) (hh : h ≤ h1) (hs : ∀ a, a < h → sh1 a = sh a) (hm : ∀ a k, a < h → a ≠ q → a ≠ V → mR M1 a k = mR M a k ∧ mI M1 a k = mI M a k ∧ mL M1 a k = mL M a k) (g : SBx q V1 h1 sh1 M1 pr2 n sh2 M2 h2) (hz : H.size = h2) : SBx q V h sh M pr2 0 sh2 M2 H.size := by
  obtain ⟨V, cap, b1, b2, b3, b4, b5, b6⟩ := SBx_tr (n0 := 0) (n1 := n) hV hh hs hm g
  rw [hz]
  exact ⟨V, cap, b1, Nat.zero_le _, b3, b4, b5, b6⟩
theorem SBx_p {q V h n : Nat} {sh sh1 : tm_sh} {M M1 : tm_M} {pr pr2 : List Int} {h1 : Nat} (g : SBx q V h sh M pr n sh1 M1 h1) (e : pr = pr2) : SBx q V h sh M pr2 0 sh1 M1 h1 := by
  obtain ⟨V, cap, b1, b2, b3⟩ := g
  exact ⟨V, cap, by rw [← e]; exact b1, Nat.zero_le _, b3⟩
/-- the paper at P, its builder q -/
def isPa (sh : tm_sh) (M : tm_M) (P q : Nat) : Prop := sh P = some (4, 0) ∧ mR M P 0 = some q
theorem dX2_size_0 : decode cX2_size 0 = .ok (.aload_n 0, 1) := by decide +kernel
theorem dX2_size_1 : decode cX2_size 1 = .ok (.getfield 10, 3) := by decide +kernel
theorem dX2_size_4 : decode cX2_size 4 = .ok (.invokevirtual 16, 3) := by decide +kernel
theorem dX2_size_7 : decode cX2_size 7 = .ok (.ireturn, 1) := by decide +kernel
set_option maxHeartbeats 4000000 in
set_option maxRecDepth 100000 in
/-- Paper.size -/
theorem c_X2_size {l : Launch} {G : tm_G} {Hb : Heap} {sh : tm_sh} {M : tm_M} {P q V cap : Nat} {pr : List Int} (hP : isPa sh M P q) (s1 : isSB sh M q V cap pr) : Met l yX2_size (tws yX2_size cX2_size 1 (some .int)) ({ frames := 2, cells := 0, slots := 0, locals := 40 }) (va_Pc [.ref P] (tm_St G Hb sh M)) (tm_Qi G Hb sh (fun x M1 => x = pr.length ∧ M1 = M)) 0 0 (tm_A Hb) := by
  refine tm_begin (by decide) (Nat.le_of_ble_eq_true rfl) (fun p e s m below meth c ls hx hb hr hml hown htw hlk hnm hK hW hl => ?_)
  have hS : va_S (tm_A Hb) s.heap s.heap [] := va_S.rf
  have hl : lv_has ls 1 [(0, .ref P)] := hl
  refine lv_aload_n hx hb dX2_size_0 rfl (lv_at hl 0 rfl) ?_
  refine gf_X2_10 hx hb htw hown hK hW hP.1 hP.2 dX2_size_1 ?_
  refine tm_calli (cq_X2_16 hx hb hml hown htw (tm_preV hK hW s1.1 (by decide) rfl) (c_J4_length s1.1) ⟨rfl, rfl, Nat.le_of_ble_eq_true rfl, Nat.le_of_ble_eq_true rfl⟩ hl.1 (Nat.le_of_ble_eq_true rfl) dX2_size_4 ⟨(by first | omega | (dsimp only; omega)), (by first | omega | (dsimp only; omega))⟩) hS (fun x4 M4 H locs hp4 hW hS => ?_)
  obtain ⟨ex4, eM4⟩ := hp4
  rw [eM4] at hW
  rw [ex4]
  exact tm_iret hx hb hr hlk hK hW hS ⟨s1.2.2.2.2.1, rfl⟩ dX2_size_7
theorem dX2_byteAt_0 : decode cX2_byteAt 0 = .ok (.iload_n 1, 1) := by decide +kernel
theorem dX2_byteAt_1 : decode cX2_byteAt 1 = .ok (.ifCond .lt 25, 3) := by decide +kernel
theorem dX2_byteAt_4 : decode cX2_byteAt 4 = .ok (.iload_n 1, 1) := by decide +kernel
theorem dX2_byteAt_5 : decode cX2_byteAt 5 = .ok (.aload_n 0, 1) := by decide +kernel
theorem dX2_byteAt_6 : decode cX2_byteAt 6 = .ok (.getfield 10, 3) := by decide +kernel
theorem dX2_byteAt_9 : decode cX2_byteAt 9 = .ok (.invokevirtual 16, 3) := by decide +kernel
theorem dX2_byteAt_12 : decode cX2_byteAt 12 = .ok (.if_icmp .ge 14, 3) := by decide +kernel
theorem dX2_byteAt_15 : decode cX2_byteAt 15 = .ok (.aload_n 0, 1) := by decide +kernel
theorem dX2_byteAt_16 : decode cX2_byteAt 16 = .ok (.getfield 10, 3) := by decide +kernel
theorem dX2_byteAt_19 : decode cX2_byteAt 19 = .ok (.iload_n 1, 1) := by decide +kernel
theorem dX2_byteAt_20 : decode cX2_byteAt 20 = .ok (.invokevirtual 20, 3) := by decide +kernel
theorem dX2_byteAt_23 : decode cX2_byteAt 23 = .ok (.goto 4, 3) := by decide +kernel
theorem dX2_byteAt_26 : decode cX2_byteAt 26 = .ok (.iconst (-1), 1) := by decide +kernel
theorem dX2_byteAt_27 : decode cX2_byteAt 27 = .ok (.ireturn, 1) := by decide +kernel
set_option maxHeartbeats 1000000 in
set_option maxRecDepth 100000 in
/-- Paper.byteAt -/
theorem c_X2_byteAt {l : Launch} {G : tm_G} {Hb : Heap} {sh : tm_sh} {M : tm_M} {P q V cap h : Nat} {pr : List Int} (hP : isPa sh M P q) (s1 : isSB sh M q V cap pr) {i : Int} (hi : inI i) (hpa : ∀ j, j < pr.length → 0 ≤ pr.getD j 0 ∧ pr.getD j 0 < 128) : Met l yX2_byteAt (tws yX2_byteAt cX2_byteAt 2 (some .int)) ({ frames := 4, cells := 0, slots := 0, locals := 88 }) (va_Pc [.ref P, ji i] (tz_St G Hb sh M h)) (tm_Qi G Hb sh (fun x M1 => x = tl_pr pr i ∧ M1 = M)) 0 0 (tm_A Hb) := by
  refine tz_begin (by decide) (Nat.le_of_ble_eq_true rfl) (fun p e s m below meth c ls hx hb hr hml hown htw hlk hnm hK hW hC hh hl => ?_)
  have hS : va_S (tm_A Hb) s.heap s.heap [] := va_S.rf
  have hl : lv_has ls 2 [(0, .ref P), (1, ji i)] := hl
  refine lv_iload_n hx hb dX2_byteAt_0 rfl (lv_at hl 1 rfl) ?_
  refine ti_if_lt (tgt := 26) hx hb dX2_byteAt_1 (by decide) hi (fun h1 => ?_) (fun h1 => ?_)
  · refine ti_iconst hx hb dX2_byteAt_26 ?_
    exact tm_iret hx hb hr hlk hK hW hS ⟨by unfold tl_pr; rw [if_neg (by omega)], rfl⟩ dX2_byteAt_27
  · refine lv_iload_n hx hb dX2_byteAt_4 rfl (lv_at hl 1 rfl) ?_
    refine lv_aload_n hx hb dX2_byteAt_5 rfl (lv_at hl 0 rfl) ?_
    refine gf_X2_10 hx hb htw hown hK hW hP.1 hP.2 dX2_byteAt_6 ?_
    refine tm_calli (cq_X2_16 hx hb hml hown htw (tm_preV hK hW s1.1 (by decide) rfl) (c_J4_length s1.1) ⟨rfl, rfl, Nat.le_of_ble_eq_true rfl, Nat.le_of_ble_eq_true rfl⟩ hl.1 (Nat.le_of_ble_eq_true rfl) dX2_byteAt_9 ⟨(by first | omega | (dsimp only; omega)), (by first | omega | (dsimp only; omega))⟩) hS (fun x9 M9 H locs hp9 hW hS => ?_)
    obtain ⟨ex9, eM9⟩ := hp9
    rw [eM9] at hW
    rw [ex9]
    rw [s1.2.2.2.2.1]
    obtain ⟨hX, hXe⟩ : ∃ hX, H.size = hX := ⟨_, rfl⟩
    refine ti_icmp_ge (tgt := 26) hx hb dX2_byteAt_12 (by decide) hi (by have := s1.2.2.2.2.2.1; have := s1.2.2.2.2.2.2.1; omega) (fun h12 => ?_) (fun h12 => ?_)
    · refine ti_iconst hx hb dX2_byteAt_26 ?_
      exact tm_iret hx hb hr hlk hK hW hS ⟨by unfold tl_pr; rw [if_neg (by omega)], rfl⟩ dX2_byteAt_27
    · refine lv_aload_n hx hb dX2_byteAt_15 rfl (lv_at hl 0 rfl) ?_
      refine gf_X2_10 hx hb htw hown hK hW hP.1 hP.2 dX2_byteAt_16 ?_
      refine lv_iload_n hx hb dX2_byteAt_19 rfl (lv_at hl 1 rfl) ?_
      refine tm_calli (cq_X2_20 hx hb hml hown htw (tz_preV hK hW hC hS hXe s1.1 (by decide) rfl) (c_J4_charAt s1 (by omega) hpa) ⟨rfl, rfl, Nat.le_of_ble_eq_true rfl, Nat.le_of_ble_eq_true rfl⟩ hl.1 (Nat.le_of_ble_eq_true rfl) dX2_byteAt_20 ⟨(by first | omega | (dsimp only; omega)), (by first | omega | (dsimp only; omega))⟩) hS (fun x20 M20 H locs hp20 hW hS => ?_)
      obtain ⟨ex20, eM20⟩ := hp20
      rw [eM20] at hW
      rw [ex20]
      refine lv_goto (tgt := 27) hx hb dX2_byteAt_23 (by decide) ?_
      exact tm_iret hx hb hr hlk hK hW hS ⟨by unfold tl_pr; rw [if_pos (by omega)], rfl⟩ dX2_byteAt_27
theorem tl_wz1 {pr : List Int} {a b v : Int} (h : tl_abs a = v) (hb : b = 1) : pr ++ tl_dec v = pr ++ tl_siz (a, b) := by
  unfold tl_siz
  rw [if_pos hb, List.append_nil, h]
theorem tl_wz2 {pr : List Int} {a b v : Int} (h : tl_abs a = v) (hb : ¬ b = 1) : pr ++ tl_dec v ++ [47] ++ tl_dec b = pr ++ tl_siz (a, b) := by
  unfold tl_siz
  rw [if_neg hb, h]
  simp only [List.append_assoc, List.cons_append, List.nil_append]
theorem dX2_writeSize_0 : decode cX2_writeSize 0 = .ok (.aload_n 0, 1) := by decide +kernel
theorem dX2_writeSize_1 : decode cX2_writeSize 1 = .ok (.getfield 10, 3) := by decide +kernel
theorem dX2_writeSize_4 : decode cX2_writeSize 4 = .ok (.aload_n 1, 1) := by decide +kernel
theorem dX2_writeSize_5 : decode cX2_writeSize 5 = .ok (.getfield 70, 3) := by decide +kernel
theorem dX2_writeSize_8 : decode cX2_writeSize 8 = .ok (.lconst 0, 1) := by decide +kernel
theorem dX2_writeSize_9 : decode cX2_writeSize 9 = .ok (.lcmp, 1) := by decide +kernel
theorem dX2_writeSize_10 : decode cX2_writeSize 10 = .ok (.ifCond .ge 11, 3) := by decide +kernel
theorem dX2_writeSize_13 : decode cX2_writeSize 13 = .ok (.aload_n 1, 1) := by decide +kernel
theorem dX2_writeSize_14 : decode cX2_writeSize 14 = .ok (.getfield 70, 3) := by decide +kernel
theorem dX2_writeSize_17 : decode cX2_writeSize 17 = .ok (.lneg, 1) := by decide +kernel
theorem dX2_writeSize_18 : decode cX2_writeSize 18 = .ok (.goto 7, 3) := by decide +kernel
theorem dX2_writeSize_21 : decode cX2_writeSize 21 = .ok (.aload_n 1, 1) := by decide +kernel
theorem dX2_writeSize_22 : decode cX2_writeSize 22 = .ok (.getfield 70, 3) := by decide +kernel
theorem dX2_writeSize_25 : decode cX2_writeSize 25 = .ok (.l2i, 1) := by decide +kernel
theorem dX2_writeSize_26 : decode cX2_writeSize 26 = .ok (.invokevirtual 94, 3) := by decide +kernel
theorem dX2_writeSize_29 : decode cX2_writeSize 29 = .ok (.pop, 1) := by decide +kernel
theorem dX2_writeSize_30 : decode cX2_writeSize 30 = .ok (.aload_n 1, 1) := by decide +kernel
theorem dX2_writeSize_31 : decode cX2_writeSize 31 = .ok (.getfield 97, 3) := by decide +kernel
theorem dX2_writeSize_34 : decode cX2_writeSize 34 = .ok (.lconst 1, 1) := by decide +kernel
theorem dX2_writeSize_35 : decode cX2_writeSize 35 = .ok (.lcmp, 1) := by decide +kernel
theorem dX2_writeSize_36 : decode cX2_writeSize 36 = .ok (.ifCond .eq 26, 3) := by decide +kernel
theorem dX2_writeSize_39 : decode cX2_writeSize 39 = .ok (.aload_n 0, 1) := by decide +kernel
theorem dX2_writeSize_40 : decode cX2_writeSize 40 = .ok (.getfield 10, 3) := by decide +kernel
theorem dX2_writeSize_43 : decode cX2_writeSize 43 = .ok (.bipush 47, 2) := by decide +kernel
theorem dX2_writeSize_45 : decode cX2_writeSize 45 = .ok (.invokevirtual 74, 3) := by decide +kernel
theorem dX2_writeSize_48 : decode cX2_writeSize 48 = .ok (.pop, 1) := by decide +kernel
theorem dX2_writeSize_49 : decode cX2_writeSize 49 = .ok (.aload_n 0, 1) := by decide +kernel
theorem dX2_writeSize_50 : decode cX2_writeSize 50 = .ok (.getfield 10, 3) := by decide +kernel
theorem dX2_writeSize_53 : decode cX2_writeSize 53 = .ok (.aload_n 1, 1) := by decide +kernel
theorem dX2_writeSize_54 : decode cX2_writeSize 54 = .ok (.getfield 97, 3) := by decide +kernel
theorem dX2_writeSize_57 : decode cX2_writeSize 57 = .ok (.l2i, 1) := by decide +kernel
theorem dX2_writeSize_58 : decode cX2_writeSize 58 = .ok (.invokevirtual 94, 3) := by decide +kernel
theorem dX2_writeSize_61 : decode cX2_writeSize 61 = .ok (.pop, 1) := by decide +kernel
theorem dX2_writeSize_62 : decode cX2_writeSize 62 = .ok (.return_, 1) := by decide +kernel
set_option maxHeartbeats 1000000 in
set_option maxRecDepth 100000 in
/-- Paper.writeSize -/
theorem c_X2_writeSize {l : Launch} {G : tm_G} {Hb : Heap} {sh : tm_sh} {M : tm_M} {P q V cap h : Nat} {pr : List Int} (hP : isPa sh M P q) (s1 : isSB sh M q V cap pr) {f : Nat} (hf : sh f = some (2, 0)) (hfo : fok (mL M f 0, mL M f 1)) (hlen : pr.length + 9 ≤ 60) : Met l yX2_writeSize (tws yX2_writeSize cX2_writeSize 2 none) ({ frames := 6, cells := 3, slots := 1200, locals := 135 }) (va_Pc [.ref P, .ref f] (tz_St G Hb sh M h)) (tz_Qv G Hb (fun sh1 M1 h1 => SBx q V h sh M (pr ++ tl_siz (mL M f 0, mL M f 1)) 0 sh1 M1 h1)) 3 1200 (tm_A Hb) := by
  refine tz_begin (by decide) (Nat.le_of_ble_eq_true rfl) (fun p e s m below meth c ls hx hb hr hml hown htw hlk hnm hK hW hC hh hl => ?_)
  have hS : va_S (tm_A Hb) s.heap s.heap [] := va_S.rf
  have hl : lv_has ls 2 [(0, .ref P), (1, .ref f)] := hl
  have s00 := s1
  have PS := hP.1
  have PR := hP.2
  have Pq : P ≠ q := fun z => by have h9 := s1.1; rw [← z, PS] at h9; cases h9
  have PV : P ≠ V := fun z => by have h9 := s1.2.2.1; rw [← z, PS] at h9; cases h9
  have Pl : P < h := by rw [← hh]; exact hW.free PS
  have fS := hf
  have fq : f ≠ q := fun z => by have h9 := s1.1; rw [← z, fS] at h9; cases h9
  have fV : f ≠ V := fun z => by have h9 := s1.2.2.1; rw [← z, fS] at h9; cases h9
  have fl : f < h := by rw [← hh]; exact hW.free fS
  obtain ⟨a1, a2, a3, a4⟩ := hfo
  have a1 : -9999 ≤ mL M f 0 := a1
  have a2 : mL M f 0 ≤ 9999 := a2
  have a3 : 0 < mL M f 1 := a3
  have a4 : mL M f 1 ≤ 9999 := a4
  have B0 : SBx q V h sh M pr 0 sh M s.heap.size := by rw [hh]; exact SBx_rf s00 (Nat.zero_le _)
  obtain ⟨V1, cap1, s1, -, rV, rh, rs, rm⟩ := (id B0)
  have q1S := s1.1
  have PS1 := (rs P Pl).trans PS
  have fS1 := (rs f fl).trans fS
  have PR1 := (rm P 0 Pl Pq PV).1.trans PR
  have f0 : mL M f 0 = mL M f 0 := (rm f 0 fl fq fV).2.2
  have f1 : mL M f 1 = mL M f 1 := (rm f 1 fl fq fV).2.2
  refine lv_aload_n hx hb dX2_writeSize_0 rfl (lv_at hl 0 rfl) ?_
  refine gf_X2_10 hx hb htw hown hK hW (by assumption) (by assumption) dX2_writeSize_1 ?_
  refine lv_aload_n hx hb dX2_writeSize_4 rfl (lv_at hl 1 rfl) ?_
  refine gf_X2_70 hx hb htw hown hK hW (by assumption) dX2_writeSize_5 ?_
  refine ti_lconst0 hx hb dX2_writeSize_8 ?_
  refine ti_lcmp_ge (tgt := 21) hx hb dX2_writeSize_9 dX2_writeSize_10 (by decide) (by omega) (by decide) (fun h9 => ?_) (fun h9 => ?_)
  · refine lv_aload_n hx hb dX2_writeSize_21 rfl (lv_at hl 1 rfl) ?_
    refine gf_X2_70 hx hb htw hown hK hW (by assumption) dX2_writeSize_22 ?_
    refine ti_l2i hx hb dX2_writeSize_25 (by omega) ?_
    refine tz_calla (cq_X2_94 hx hb hml hown htw (tz_preV hK hW hC hS rfl q1S (by decide) rfl) (c_J4_appendI (v := mL M f 0) s1 (by omega) (by omega)) ⟨rfl, rfl, Nat.le_of_ble_eq_true rfl, Nat.le_of_ble_eq_true rfl⟩ hl.1 (Nat.le_of_ble_eq_true rfl) dX2_writeSize_26 ⟨(by first | omega | (dsimp only; omega)), (by first | omega | (dsimp only; omega))⟩) hS (fun x26 sh26 M26 h26 H locs hp26 hW hS hz26 => ?_)
    have B26 : SBx q V h sh M (pr ++ tl_dec (mL M f 0)) 0 sh26 M26 H.size := SBx_c rV rh rs rm hp26.2 hz26
    obtain ⟨V1, cap1, s1, -, rV, rh, rs, rm⟩ := (id B26)
    have q1S := s1.1
    have PS1 := (rs P Pl).trans PS
    have fS1 := (rs f fl).trans fS
    have PR1 := (rm P 0 Pl Pq PV).1.trans PR
    have f0 : mL M26 f 0 = mL M f 0 := (rm f 0 fl fq fV).2.2
    have f1 : mL M26 f 1 = mL M f 1 := (rm f 1 fl fq fV).2.2
    have l26 := tl_dec_l (mL M f 0)
    refine lv_pop hx hb dX2_writeSize_29 rfl ?_
    refine lv_aload_n hx hb dX2_writeSize_30 rfl (lv_at hl 1 rfl) ?_
    refine gf_X2_97 hx hb htw hown hK hW (by assumption) dX2_writeSize_31 ?_
    rw [f1]
    refine ti_lconst1 hx hb dX2_writeSize_34 ?_
    refine ti_lcmp_eq (tgt := 62) hx hb dX2_writeSize_35 dX2_writeSize_36 (by decide) (by omega) (by decide) (fun h35 => ?_) (fun h35 => ?_)
    · exact W.widen (k := 3) (n := 1200) (by first | omega | (dsimp only; omega)) (by first | omega | (dsimp only; omega)) (tz_vret hx hb hr hlk hK hW hS rfl (SBx_p B26 (tl_wz1 (show tl_abs (mL M f 0) = mL M f 0 from if_neg (by omega)) h35)) dX2_writeSize_62)
    · refine lv_aload_n hx hb dX2_writeSize_39 rfl (lv_at hl 0 rfl) ?_
      refine gf_X2_10 hx hb htw hown hK hW (by assumption) (by assumption) dX2_writeSize_40 ?_
      refine ti_bipush hx hb dX2_writeSize_43 (by decide) ?_
      refine tz_calla (cq_X2_74 hx hb hml hown htw (tz_preV hK hW hC hS rfl q1S (by decide) rfl) (c_J4_appendC (ch := 47) s1 (by decide) (by simp only [List.length_append, List.length_cons, List.length_nil]; omega)) ⟨rfl, rfl, Nat.le_of_ble_eq_true rfl, Nat.le_of_ble_eq_true rfl⟩ hl.1 (Nat.le_of_ble_eq_true rfl) dX2_writeSize_45 ⟨(by first | omega | (dsimp only; omega)), (by first | omega | (dsimp only; omega))⟩) hS (fun x45 sh45 M45 h45 H locs hp45 hW hS hz45 => ?_)
      have B45 : SBx q V h sh M (pr ++ tl_dec (mL M f 0) ++ [47]) 0 sh45 M45 H.size := SBx_c rV rh rs rm hp45.2 hz45
      obtain ⟨V1, cap1, s1, -, rV, rh, rs, rm⟩ := (id B45)
      have q1S := s1.1
      have PS1 := (rs P Pl).trans PS
      have fS1 := (rs f fl).trans fS
      have PR1 := (rm P 0 Pl Pq PV).1.trans PR
      have f0 : mL M45 f 0 = mL M f 0 := (rm f 0 fl fq fV).2.2
      have f1 : mL M45 f 1 = mL M f 1 := (rm f 1 fl fq fV).2.2
      refine lv_pop hx hb dX2_writeSize_48 rfl ?_
      refine lv_aload_n hx hb dX2_writeSize_49 rfl (lv_at hl 0 rfl) ?_
      refine gf_X2_10 hx hb htw hown hK hW (by assumption) (by assumption) dX2_writeSize_50 ?_
      refine lv_aload_n hx hb dX2_writeSize_53 rfl (lv_at hl 1 rfl) ?_
      refine gf_X2_97 hx hb htw hown hK hW (by assumption) dX2_writeSize_54 ?_
      rw [f1]
      refine ti_l2i hx hb dX2_writeSize_57 (by omega) ?_
      refine tz_calla (cq_X2_94 hx hb hml hown htw (tz_preV hK hW hC hS rfl q1S (by decide) rfl) (c_J4_appendI (v := mL M f 1) s1 (by omega) (by simp only [List.length_append, List.length_cons, List.length_nil]; omega)) ⟨rfl, rfl, Nat.le_of_ble_eq_true rfl, Nat.le_of_ble_eq_true rfl⟩ hl.1 (Nat.le_of_ble_eq_true rfl) dX2_writeSize_58 ⟨(by first | omega | (dsimp only; omega)), (by first | omega | (dsimp only; omega))⟩) hS (fun x58 sh58 M58 h58 H locs hp58 hW hS hz58 => ?_)
      have B58 : SBx q V h sh M (pr ++ tl_dec (mL M f 0) ++ [47] ++ tl_dec (mL M f 1)) 0 sh58 M58 H.size := SBx_c rV rh rs rm hp58.2 hz58
      obtain ⟨V1, cap1, s1, -, rV, rh, rs, rm⟩ := (id B58)
      have q1S := s1.1
      have PS1 := (rs P Pl).trans PS
      have fS1 := (rs f fl).trans fS
      have PR1 := (rm P 0 Pl Pq PV).1.trans PR
      have f0 : mL M58 f 0 = mL M f 0 := (rm f 0 fl fq fV).2.2
      have f1 : mL M58 f 1 = mL M f 1 := (rm f 1 fl fq fV).2.2
      refine lv_pop hx hb dX2_writeSize_61 rfl ?_
      exact W.widen (k := 3) (n := 1200) (by first | omega | (dsimp only; omega)) (by first | omega | (dsimp only; omega)) (tz_vret hx hb hr hlk hK hW hS rfl (SBx_p B58 (tl_wz2 (show tl_abs (mL M f 0) = mL M f 0 from if_neg (by omega)) h35)) dX2_writeSize_62)
  · refine lv_aload_n hx hb dX2_writeSize_13 rfl (lv_at hl 1 rfl) ?_
    refine gf_X2_70 hx hb htw hown hK hW (by assumption) dX2_writeSize_14 ?_
    refine ti_lneg hx hb dX2_writeSize_17 ?_
    refine lv_goto (tgt := 25) hx hb dX2_writeSize_18 (by decide) ?_
    refine ti_l2i hx hb dX2_writeSize_25 (by omega) ?_
    refine tz_calla (cq_X2_94 hx hb hml hown htw (tz_preV hK hW hC hS rfl q1S (by decide) rfl) (c_J4_appendI (v := -mL M f 0) s1 (by omega) (by omega)) ⟨rfl, rfl, Nat.le_of_ble_eq_true rfl, Nat.le_of_ble_eq_true rfl⟩ hl.1 (Nat.le_of_ble_eq_true rfl) dX2_writeSize_26 ⟨(by first | omega | (dsimp only; omega)), (by first | omega | (dsimp only; omega))⟩) hS (fun x26 sh26 M26 h26 H locs hp26 hW hS hz26 => ?_)
    have B26 : SBx q V h sh M (pr ++ tl_dec (-mL M f 0)) 0 sh26 M26 H.size := SBx_c rV rh rs rm hp26.2 hz26
    obtain ⟨V1, cap1, s1, -, rV, rh, rs, rm⟩ := (id B26)
    have q1S := s1.1
    have PS1 := (rs P Pl).trans PS
    have fS1 := (rs f fl).trans fS
    have PR1 := (rm P 0 Pl Pq PV).1.trans PR
    have f0 : mL M26 f 0 = mL M f 0 := (rm f 0 fl fq fV).2.2
    have f1 : mL M26 f 1 = mL M f 1 := (rm f 1 fl fq fV).2.2
    have l26 := tl_dec_l (-mL M f 0)
    refine lv_pop hx hb dX2_writeSize_29 rfl ?_
    refine lv_aload_n hx hb dX2_writeSize_30 rfl (lv_at hl 1 rfl) ?_
    refine gf_X2_97 hx hb htw hown hK hW (by assumption) dX2_writeSize_31 ?_
    rw [f1]
    refine ti_lconst1 hx hb dX2_writeSize_34 ?_
    refine ti_lcmp_eq (tgt := 62) hx hb dX2_writeSize_35 dX2_writeSize_36 (by decide) (by omega) (by decide) (fun h35 => ?_) (fun h35 => ?_)
    · exact W.widen (k := 3) (n := 1200) (by first | omega | (dsimp only; omega)) (by first | omega | (dsimp only; omega)) (tz_vret hx hb hr hlk hK hW hS rfl (SBx_p B26 (tl_wz1 (show tl_abs (mL M f 0) = -mL M f 0 from if_pos (by omega)) h35)) dX2_writeSize_62)
    · refine lv_aload_n hx hb dX2_writeSize_39 rfl (lv_at hl 0 rfl) ?_
      refine gf_X2_10 hx hb htw hown hK hW (by assumption) (by assumption) dX2_writeSize_40 ?_
      refine ti_bipush hx hb dX2_writeSize_43 (by decide) ?_
      refine tz_calla (cq_X2_74 hx hb hml hown htw (tz_preV hK hW hC hS rfl q1S (by decide) rfl) (c_J4_appendC (ch := 47) s1 (by decide) (by simp only [List.length_append, List.length_cons, List.length_nil]; omega)) ⟨rfl, rfl, Nat.le_of_ble_eq_true rfl, Nat.le_of_ble_eq_true rfl⟩ hl.1 (Nat.le_of_ble_eq_true rfl) dX2_writeSize_45 ⟨(by first | omega | (dsimp only; omega)), (by first | omega | (dsimp only; omega))⟩) hS (fun x45 sh45 M45 h45 H locs hp45 hW hS hz45 => ?_)
      have B45 : SBx q V h sh M (pr ++ tl_dec (-mL M f 0) ++ [47]) 0 sh45 M45 H.size := SBx_c rV rh rs rm hp45.2 hz45
      obtain ⟨V1, cap1, s1, -, rV, rh, rs, rm⟩ := (id B45)
      have q1S := s1.1
      have PS1 := (rs P Pl).trans PS
      have fS1 := (rs f fl).trans fS
      have PR1 := (rm P 0 Pl Pq PV).1.trans PR
      have f0 : mL M45 f 0 = mL M f 0 := (rm f 0 fl fq fV).2.2
      have f1 : mL M45 f 1 = mL M f 1 := (rm f 1 fl fq fV).2.2
      refine lv_pop hx hb dX2_writeSize_48 rfl ?_
      refine lv_aload_n hx hb dX2_writeSize_49 rfl (lv_at hl 0 rfl) ?_
      refine gf_X2_10 hx hb htw hown hK hW (by assumption) (by assumption) dX2_writeSize_50 ?_
      refine lv_aload_n hx hb dX2_writeSize_53 rfl (lv_at hl 1 rfl) ?_
      refine gf_X2_97 hx hb htw hown hK hW (by assumption) dX2_writeSize_54 ?_
      rw [f1]
      refine ti_l2i hx hb dX2_writeSize_57 (by omega) ?_
      refine tz_calla (cq_X2_94 hx hb hml hown htw (tz_preV hK hW hC hS rfl q1S (by decide) rfl) (c_J4_appendI (v := mL M f 1) s1 (by omega) (by simp only [List.length_append, List.length_cons, List.length_nil]; omega)) ⟨rfl, rfl, Nat.le_of_ble_eq_true rfl, Nat.le_of_ble_eq_true rfl⟩ hl.1 (Nat.le_of_ble_eq_true rfl) dX2_writeSize_58 ⟨(by first | omega | (dsimp only; omega)), (by first | omega | (dsimp only; omega))⟩) hS (fun x58 sh58 M58 h58 H locs hp58 hW hS hz58 => ?_)
      have B58 : SBx q V h sh M (pr ++ tl_dec (-mL M f 0) ++ [47] ++ tl_dec (mL M f 1)) 0 sh58 M58 H.size := SBx_c rV rh rs rm hp58.2 hz58
      obtain ⟨V1, cap1, s1, -, rV, rh, rs, rm⟩ := (id B58)
      have q1S := s1.1
      have PS1 := (rs P Pl).trans PS
      have fS1 := (rs f fl).trans fS
      have PR1 := (rm P 0 Pl Pq PV).1.trans PR
      have f0 : mL M58 f 0 = mL M f 0 := (rm f 0 fl fq fV).2.2
      have f1 : mL M58 f 1 = mL M f 1 := (rm f 1 fl fq fV).2.2
      refine lv_pop hx hb dX2_writeSize_61 rfl ?_
      exact W.widen (k := 3) (n := 1200) (by first | omega | (dsimp only; omega)) (by first | omega | (dsimp only; omega)) (tz_vret hx hb hr hlk hK hW hS rfl (SBx_p B58 (tl_wz2 (show tl_abs (mL M f 0) = -mL M f 0 from if_pos (by omega)) h35)) dX2_writeSize_62)
