/-! Paper: sides, lines (by program: wip/whole/gen/pa3.py) -/
theorem dX2_writeSide_0 : decode cX2_writeSide 0 = .ok (.aload_n 1, 1) := by decide +kernel
theorem dX2_writeSide_1 : decode cX2_writeSide 1 = .ok (.getfield 55, 3) := by decide +kernel
theorem dX2_writeSide_4 : decode cX2_writeSide 4 = .ok (.invokevirtual 61, 3) := by decide +kernel
theorem dX2_writeSide_7 : decode cX2_writeSide 7 = .ok (.ifCond .eq 34, 3) := by decide +kernel
theorem dX2_writeSide_10 : decode cX2_writeSide 10 = .ok (.aload_n 1, 1) := by decide +kernel
theorem dX2_writeSide_11 : decode cX2_writeSide 11 = .ok (.getfield 67, 3) := by decide +kernel
theorem dX2_writeSide_14 : decode cX2_writeSide 14 = .ok (.getfield 70, 3) := by decide +kernel
theorem dX2_writeSide_17 : decode cX2_writeSide 17 = .ok (.lconst 0, 1) := by decide +kernel
theorem dX2_writeSide_18 : decode cX2_writeSide 18 = .ok (.lcmp, 1) := by decide +kernel
theorem dX2_writeSide_19 : decode cX2_writeSide 19 = .ok (.ifCond .ge 13, 3) := by decide +kernel
theorem dX2_writeSide_22 : decode cX2_writeSide 22 = .ok (.aload_n 0, 1) := by decide +kernel
theorem dX2_writeSide_23 : decode cX2_writeSide 23 = .ok (.getfield 10, 3) := by decide +kernel
theorem dX2_writeSide_26 : decode cX2_writeSide 26 = .ok (.bipush 45, 2) := by decide +kernel
theorem dX2_writeSide_28 : decode cX2_writeSide 28 = .ok (.invokevirtual 74, 3) := by decide +kernel
theorem dX2_writeSide_31 : decode cX2_writeSide 31 = .ok (.pop, 1) := by decide +kernel
theorem dX2_writeSide_32 : decode cX2_writeSide 32 = .ok (.aload_n 0, 1) := by decide +kernel
theorem dX2_writeSide_33 : decode cX2_writeSide 33 = .ok (.aload_n 1, 1) := by decide +kernel
theorem dX2_writeSide_34 : decode cX2_writeSide 34 = .ok (.getfield 67, 3) := by decide +kernel
theorem dX2_writeSide_37 : decode cX2_writeSide 37 = .ok (.invokevirtual 77, 3) := by decide +kernel
theorem dX2_writeSide_40 : decode cX2_writeSide 40 = .ok (.return_, 1) := by decide +kernel
theorem dX2_writeSide_41 : decode cX2_writeSide 41 = .ok (.aload_n 0, 1) := by decide +kernel
theorem dX2_writeSide_42 : decode cX2_writeSide 42 = .ok (.aload_n 1, 1) := by decide +kernel
theorem dX2_writeSide_43 : decode cX2_writeSide 43 = .ok (.getfield 55, 3) := by decide +kernel
theorem dX2_writeSide_46 : decode cX2_writeSide 46 = .ok (.invokevirtual 81, 3) := by decide +kernel
theorem dX2_writeSide_49 : decode cX2_writeSide 49 = .ok (.aload_n 1, 1) := by decide +kernel
theorem dX2_writeSide_50 : decode cX2_writeSide 50 = .ok (.getfield 67, 3) := by decide +kernel
theorem dX2_writeSide_53 : decode cX2_writeSide 53 = .ok (.invokevirtual 61, 3) := by decide +kernel
theorem dX2_writeSide_56 : decode cX2_writeSide 56 = .ok (.ifCond .ne 38, 3) := by decide +kernel
theorem dX2_writeSide_59 : decode cX2_writeSide 59 = .ok (.aload_n 0, 1) := by decide +kernel
theorem dX2_writeSide_60 : decode cX2_writeSide 60 = .ok (.getfield 10, 3) := by decide +kernel
theorem dX2_writeSide_63 : decode cX2_writeSide 63 = .ok (.aload_n 1, 1) := by decide +kernel
theorem dX2_writeSide_64 : decode cX2_writeSide 64 = .ok (.getfield 67, 3) := by decide +kernel
theorem dX2_writeSide_67 : decode cX2_writeSide 67 = .ok (.getfield 70, 3) := by decide +kernel
theorem dX2_writeSide_70 : decode cX2_writeSide 70 = .ok (.lconst 0, 1) := by decide +kernel
theorem dX2_writeSide_71 : decode cX2_writeSide 71 = .ok (.lcmp, 1) := by decide +kernel
theorem dX2_writeSide_72 : decode cX2_writeSide 72 = .ok (.ifCond .ge 8, 3) := by decide +kernel
theorem dX2_writeSide_75 : decode cX2_writeSide 75 = .ok (.ldc 84, 2) := by decide +kernel
theorem dX2_writeSide_77 : decode cX2_writeSide 77 = .ok (.goto 5, 3) := by decide +kernel
theorem dX2_writeSide_80 : decode cX2_writeSide 80 = .ok (.ldc 86, 2) := by decide +kernel
theorem dX2_writeSide_82 : decode cX2_writeSide 82 = .ok (.invokevirtual 44, 3) := by decide +kernel
theorem dX2_writeSide_85 : decode cX2_writeSide 85 = .ok (.pop, 1) := by decide +kernel
theorem dX2_writeSide_86 : decode cX2_writeSide 86 = .ok (.aload_n 0, 1) := by decide +kernel
theorem dX2_writeSide_87 : decode cX2_writeSide 87 = .ok (.aload_n 1, 1) := by decide +kernel
theorem dX2_writeSide_88 : decode cX2_writeSide 88 = .ok (.getfield 67, 3) := by decide +kernel
theorem dX2_writeSide_91 : decode cX2_writeSide 91 = .ok (.invokevirtual 77, 3) := by decide +kernel
theorem dX2_writeSide_94 : decode cX2_writeSide 94 = .ok (.return_, 1) := by decide +kernel
theorem tl_mda {pr : List Int} {a b : Int} (h1 : (tl_mns a).length ≤ 1) (h2 : (tl_siz (a, b)).length ≤ 9) : (pr ++ tl_mns a ++ (if (-1 ≤ a ∧ a ≤ 1) ∧ b = 1 then [] else tl_siz (a, b)) ++ [120]).length ≤ pr.length + 11 := by
  simp only [List.length_append, List.length_cons, List.length_nil]
  split
  · simp only [List.length_nil]; omega
  · omega
set_option maxHeartbeats 1000000 in
set_option maxRecDepth 100000 in
/-- Paper.writeSide -/
theorem c_X2_writeSide {l : Launch} {G : tm_G} {Hb : Heap} {sh : tm_sh} {M : tm_M} {P q V cap h : Nat} {pr : List Int} (hP : isPa sh M P q) (s1 : isSB sh M q V cap pr) {x fA fB : Nat} (hx1 : sh x = some (6, 0)) (hrA : mR M x 0 = some fA) (hrB : mR M x 1 = some fB) (hfA : sh fA = some (2, 0)) (hfB : sh fB = some (2, 0)) (hA : fok (mL M fA 0, mL M fA 1)) (hB : fok (mL M fB 0, mL M fB 1)) (hlen : pr.length + 23 ≤ 60) : Met l yX2_writeSide (tws yX2_writeSide cX2_writeSide 2 none) ({ frames := 8, cells := 9, slots := 3600, locals := 177 }) (va_Pc [.ref P, .ref x] (tz_St G Hb sh M h)) (tz_Qv G Hb (fun sh1 M1 h1 => SBx q V h sh M (pr ++ tl_sid ((mL M fA 0, mL M fA 1), (mL M fB 0, mL M fB 1))) 0 sh1 M1 h1)) 9 3600 (tm_A Hb) := by
  refine tz_begin (by decide) (Nat.le_of_ble_eq_true rfl) (fun p e s m below meth c ls hx hb hr hml hown htw hlk hnm hK hW hC hh hl => ?_)
  have hS : va_S (tm_A Hb) s.heap s.heap [] := va_S.rf
  have hl : lv_has ls 2 [(0, .ref P), (1, .ref x)] := hl
  have s00 := s1
  have PS := hP.1
  have PR := hP.2
  have Pq : P ≠ q := fun z => by have h9 := s1.1; rw [← z, PS] at h9; cases h9
  have PV : P ≠ V := fun z => by have h9 := s1.2.2.1; rw [← z, PS] at h9; cases h9
  have Pl : P < h := by rw [← hh]; exact hW.free PS
  have xS := hx1
  have xq : x ≠ q := fun z => by have h9 := s1.1; rw [← z, xS] at h9; cases h9
  have xV : x ≠ V := fun z => by have h9 := s1.2.2.1; rw [← z, xS] at h9; cases h9
  have xl : x < h := by rw [← hh]; exact hW.free xS
  have fAS := hfA
  have fAq : fA ≠ q := fun z => by have h9 := s1.1; rw [← z, fAS] at h9; cases h9
  have fAV : fA ≠ V := fun z => by have h9 := s1.2.2.1; rw [← z, fAS] at h9; cases h9
  have fAl : fA < h := by rw [← hh]; exact hW.free fAS
  have fBS := hfB
  have fBq : fB ≠ q := fun z => by have h9 := s1.1; rw [← z, fBS] at h9; cases h9
  have fBV : fB ≠ V := fun z => by have h9 := s1.2.2.1; rw [← z, fBS] at h9; cases h9
  have fBl : fB < h := by rw [← hh]; exact hW.free fBS
  have iA : inL (mL M fA 0) := (fLok_of hA).1
  have iB : inL (mL M fB 0) := (fLok_of hB).1
  have ml := tl_mns_l (mL M fA 0)
  have mlB := tl_mns_l (mL M fB 0)
  have slA := tl_siz_l (mL M fA 0, mL M fA 1)
  have slB := tl_siz_l (mL M fB 0, mL M fB 1)
  have B0 : SBx q V h sh M pr 0 sh M s.heap.size := by rw [hh]; exact SBx_rf s00 (Nat.zero_le _)
  have k32 : ∀ (pr1 : List Int) (sh1 : tm_sh) (M1 : tm_M) (H : Heap) (locs : List Loc) (ls : Array Slot), SBx q V h sh M pr1 0 sh1 M1 H.size → pr1 ++ tl_siz (mL M fB 0, mL M fB 1) = pr ++ tl_sid ((mL M fA 0, mL M fA 1), (mL M fB 0, mL M fB 1)) → pr1.length + 9 ≤ 60 → tm_W G Hb sh1 M1 H → va_S (tm_A Hb) s.heap H locs → lv_has ls 2 [(0, .ref P), (1, .ref x)] → W p l e ({ frames := 8, cells := 9, slots := 3600, locals := 177 }) s m [.ref P, .ref x].toArray below meth c H locs 1 400 (MQ below (tz_Qv G Hb (fun sh1 M1 h1 => SBx q V h sh M (pr ++ tl_sid ((mL M fA 0, mL M fA 1), (mL M fB 0, mL M fB 1))) 0 sh1 M1 h1)) [.ref P, .ref x].toArray s 9 3600 (tm_A Hb)) (F0 m 32 ls []) := by
    intro pr1 sh1 M1 H locs ls B9 he hle hW hS hl
    obtain ⟨V1, cap1, s1, -, rV, rh, rs, rm⟩ := (id B9)
    have q1S := s1.1
    have PS1 := (rs P Pl).trans PS
    have xS1 := (rs x xl).trans xS
    have fAS1 := (rs fA fAl).trans fAS
    have fBS1 := (rs fB fBl).trans fBS
    have PR1 := (rm P 0 Pl Pq PV).1.trans PR
    have fA0 : mL M1 fA 0 = mL M fA 0 := (rm fA 0 fAl fAq fAV).2.2
    have fA1 : mL M1 fA 1 = mL M fA 1 := (rm fA 1 fAl fAq fAV).2.2
    have fB0 : mL M1 fB 0 = mL M fB 0 := (rm fB 0 fBl fBq fBV).2.2
    have fB1 : mL M1 fB 1 = mL M fB 1 := (rm fB 1 fBl fBq fBV).2.2
    have xR0 := (rm x 0 xl xq xV).1.trans hrA
    have xR1 := (rm x 1 xl xq xV).1.trans hrB
    refine lv_aload_n hx hb dX2_writeSide_32 rfl (lv_at hl 0 rfl) ?_
    refine lv_aload_n hx hb dX2_writeSide_33 rfl (lv_at hl 1 rfl) ?_
    refine gf_X2_67 hx hb htw hown hK hW (by assumption) (by assumption) dX2_writeSide_34 ?_
    refine tz_callv (cq_X2_77 hx hb hml hown htw (tz_preV hK hW hC hS rfl PS1 (by decide) rfl) (c_X2_writeSize ⟨PS1, PR1⟩ s1 fBS1 (by rw [fB0, fB1]; exact hB) hle) ⟨rfl, rfl, Nat.le_of_ble_eq_true rfl, Nat.le_of_ble_eq_true rfl⟩ hl.1 (Nat.le_of_ble_eq_true rfl) dX2_writeSide_37 ⟨(by first | omega | (dsimp only; omega)), (by first | omega | (dsimp only; omega))⟩) hS (fun sh37 M37 h37 H locs hp37 hW hS hz37 => ?_)
    rw [fB0, fB1] at hp37
    have B37 : SBx q V h sh M (pr1 ++ tl_siz (mL M fB 0, mL M fB 1)) 0 sh37 M37 H.size := SBx_c rV rh rs rm hp37 hz37
    obtain ⟨V1, cap1, s1, -, rV, rh, rs, rm⟩ := (id B37)
    have q1S := s1.1
    have PS1 := (rs P Pl).trans PS
    have xS1 := (rs x xl).trans xS
    have fAS1 := (rs fA fAl).trans fAS
    have fBS1 := (rs fB fBl).trans fBS
    have PR1 := (rm P 0 Pl Pq PV).1.trans PR
    have fA0 : mL M37 fA 0 = mL M fA 0 := (rm fA 0 fAl fAq fAV).2.2
    have fA1 : mL M37 fA 1 = mL M fA 1 := (rm fA 1 fAl fAq fAV).2.2
    have fB0 : mL M37 fB 0 = mL M fB 0 := (rm fB 0 fBl fBq fBV).2.2
    have fB1 : mL M37 fB 1 = mL M fB 1 := (rm fB 1 fBl fBq fBV).2.2
    have xR0 := (rm x 0 xl xq xV).1.trans hrA
    have xR1 := (rm x 1 xl xq xV).1.trans hrB
    exact W.widen (k := 9) (n := 3600) (by first | omega | (dsimp only; omega)) (by first | omega | (dsimp only; omega)) (tz_vret hx hb hr hlk hK hW hS rfl (SBx_p B37 he) dX2_writeSide_40)
  have k86 : ∀ (pr1 : List Int) (sh1 : tm_sh) (M1 : tm_M) (H : Heap) (locs : List Loc) (ls : Array Slot), SBx q V h sh M pr1 0 sh1 M1 H.size → pr1 ++ tl_siz (mL M fB 0, mL M fB 1) = pr ++ tl_sid ((mL M fA 0, mL M fA 1), (mL M fB 0, mL M fB 1)) → pr1.length + 9 ≤ 60 → tm_W G Hb sh1 M1 H → va_S (tm_A Hb) s.heap H locs → lv_has ls 2 [(0, .ref P), (1, .ref x)] → W p l e ({ frames := 8, cells := 9, slots := 3600, locals := 177 }) s m [.ref P, .ref x].toArray below meth c H locs 6 2400 (MQ below (tz_Qv G Hb (fun sh1 M1 h1 => SBx q V h sh M (pr ++ tl_sid ((mL M fA 0, mL M fA 1), (mL M fB 0, mL M fB 1))) 0 sh1 M1 h1)) [.ref P, .ref x].toArray s 9 3600 (tm_A Hb)) (F0 m 86 ls []) := by
    intro pr1 sh1 M1 H locs ls B9 he hle hW hS hl
    obtain ⟨V1, cap1, s1, -, rV, rh, rs, rm⟩ := (id B9)
    have q1S := s1.1
    have PS1 := (rs P Pl).trans PS
    have xS1 := (rs x xl).trans xS
    have fAS1 := (rs fA fAl).trans fAS
    have fBS1 := (rs fB fBl).trans fBS
    have PR1 := (rm P 0 Pl Pq PV).1.trans PR
    have fA0 : mL M1 fA 0 = mL M fA 0 := (rm fA 0 fAl fAq fAV).2.2
    have fA1 : mL M1 fA 1 = mL M fA 1 := (rm fA 1 fAl fAq fAV).2.2
    have fB0 : mL M1 fB 0 = mL M fB 0 := (rm fB 0 fBl fBq fBV).2.2
    have fB1 : mL M1 fB 1 = mL M fB 1 := (rm fB 1 fBl fBq fBV).2.2
    have xR0 := (rm x 0 xl xq xV).1.trans hrA
    have xR1 := (rm x 1 xl xq xV).1.trans hrB
    refine lv_aload_n hx hb dX2_writeSide_86 rfl (lv_at hl 0 rfl) ?_
    refine lv_aload_n hx hb dX2_writeSide_87 rfl (lv_at hl 1 rfl) ?_
    refine gf_X2_67 hx hb htw hown hK hW (by assumption) (by assumption) dX2_writeSide_88 ?_
    refine tz_callv (cq_X2_77 hx hb hml hown htw (tz_preV hK hW hC hS rfl PS1 (by decide) rfl) (c_X2_writeSize ⟨PS1, PR1⟩ s1 fBS1 (by rw [fB0, fB1]; exact hB) hle) ⟨rfl, rfl, Nat.le_of_ble_eq_true rfl, Nat.le_of_ble_eq_true rfl⟩ hl.1 (Nat.le_of_ble_eq_true rfl) dX2_writeSide_91 ⟨(by first | omega | (dsimp only; omega)), (by first | omega | (dsimp only; omega))⟩) hS (fun sh91 M91 h91 H locs hp91 hW hS hz91 => ?_)
    rw [fB0, fB1] at hp91
    have B91 : SBx q V h sh M (pr1 ++ tl_siz (mL M fB 0, mL M fB 1)) 0 sh91 M91 H.size := SBx_c rV rh rs rm hp91 hz91
    obtain ⟨V1, cap1, s1, -, rV, rh, rs, rm⟩ := (id B91)
    have q1S := s1.1
    have PS1 := (rs P Pl).trans PS
    have xS1 := (rs x xl).trans xS
    have fAS1 := (rs fA fAl).trans fAS
    have fBS1 := (rs fB fBl).trans fBS
    have PR1 := (rm P 0 Pl Pq PV).1.trans PR
    have fA0 : mL M91 fA 0 = mL M fA 0 := (rm fA 0 fAl fAq fAV).2.2
    have fA1 : mL M91 fA 1 = mL M fA 1 := (rm fA 1 fAl fAq fAV).2.2
    have fB0 : mL M91 fB 0 = mL M fB 0 := (rm fB 0 fBl fBq fBV).2.2
    have fB1 : mL M91 fB 1 = mL M fB 1 := (rm fB 1 fBl fBq fBV).2.2
    have xR0 := (rm x 0 xl xq xV).1.trans hrA
    have xR1 := (rm x 1 xl xq xV).1.trans hrB
    exact W.widen (k := 9) (n := 3600) (by first | omega | (dsimp only; omega)) (by first | omega | (dsimp only; omega)) (tz_vret hx hb hr hlk hK hW hS rfl (SBx_p B91 he) dX2_writeSide_94)
  obtain ⟨V1, cap1, s1, -, rV, rh, rs, rm⟩ := (id B0)
  have q1S := s1.1
  have PS1 := (rs P Pl).trans PS
  have xS1 := (rs x xl).trans xS
  have fAS1 := (rs fA fAl).trans fAS
  have fBS1 := (rs fB fBl).trans fBS
  have PR1 := (rm P 0 Pl Pq PV).1.trans PR
  have fA0 : mL M fA 0 = mL M fA 0 := (rm fA 0 fAl fAq fAV).2.2
  have fA1 : mL M fA 1 = mL M fA 1 := (rm fA 1 fAl fAq fAV).2.2
  have fB0 : mL M fB 0 = mL M fB 0 := (rm fB 0 fBl fBq fBV).2.2
  have fB1 : mL M fB 1 = mL M fB 1 := (rm fB 1 fBl fBq fBV).2.2
  have xR0 := (rm x 0 xl xq xV).1.trans hrA
  have xR1 := (rm x 1 xl xq xV).1.trans hrB
  refine lv_aload_n hx hb dX2_writeSide_0 rfl (lv_at hl 1 rfl) ?_
  refine gf_X2_55 hx hb htw hown hK hW (by assumption) (by assumption) dX2_writeSide_1 ?_
  refine tm_calli (cs_X2_61 hx hb hml hown htw hK hW (by assumption) (c_X0_isZero fAS1 (by rw [fA0]; assumption)) ⟨rfl, rfl, Nat.le_of_ble_eq_true rfl, Nat.le_of_ble_eq_true rfl⟩ hl.1 (Nat.le_of_ble_eq_true rfl) dX2_writeSide_4 ⟨Nat.le_of_ble_eq_true rfl, Nat.le_of_ble_eq_true rfl⟩) hS (fun x4 M4 H locs hp4 hW hS => ?_)
  obtain ⟨ex4, eM4⟩ := hp4
  rw [eM4] at hW
  rw [fA0] at ex4
  rw [ex4]
  replace rh : h ≤ H.size := by rw [← hh]; exact hS.1
  refine ti_if_eq (tgt := 41) hx hb dX2_writeSide_7 (by decide) (tl_b_r _) (fun h7 => ?_) (fun h7 => ?_)
  · refine lv_aload_n hx hb dX2_writeSide_41 rfl (lv_at hl 0 rfl) ?_
    refine lv_aload_n hx hb dX2_writeSide_42 rfl (lv_at hl 1 rfl) ?_
    refine gf_X2_55 hx hb htw hown hK hW (by assumption) (by assumption) dX2_writeSide_43 ?_
    refine tz_callv (cq_X2_81 hx hb hml hown htw (tz_preV hK hW hC hS rfl PS1 (by decide) rfl) (c_X2_writeTimesX ⟨PS1, PR1⟩ s1 fAS1 (by rw [fA0, fA1]; exact hA) (by rw [fA0]; exact tl_b_0.mp h7) (by omega)) ⟨rfl, rfl, Nat.le_of_ble_eq_true rfl, Nat.le_of_ble_eq_true rfl⟩ hl.1 (Nat.le_of_ble_eq_true rfl) dX2_writeSide_46 ⟨(by first | omega | (dsimp only; omega)), (by first | omega | (dsimp only; omega))⟩) hS (fun sh46 M46 h46 H locs hp46 hW hS hz46 => ?_)
    rw [fA0, fA1] at hp46
    have B46 : SBx q V h sh M (pr ++ tl_mns (mL M fA 0) ++ (if (-1 ≤ mL M fA 0 ∧ mL M fA 0 ≤ 1) ∧ mL M fA 1 = 1 then [] else tl_siz (mL M fA 0, mL M fA 1)) ++ [120]) 0 sh46 M46 H.size := SBx_c rV rh rs rm hp46 hz46
    obtain ⟨V1, cap1, s1, -, rV, rh, rs, rm⟩ := (id B46)
    have q1S := s1.1
    have PS1 := (rs P Pl).trans PS
    have xS1 := (rs x xl).trans xS
    have fAS1 := (rs fA fAl).trans fAS
    have fBS1 := (rs fB fBl).trans fBS
    have PR1 := (rm P 0 Pl Pq PV).1.trans PR
    have fA0 : mL M46 fA 0 = mL M fA 0 := (rm fA 0 fAl fAq fAV).2.2
    have fA1 : mL M46 fA 1 = mL M fA 1 := (rm fA 1 fAl fAq fAV).2.2
    have fB0 : mL M46 fB 0 = mL M fB 0 := (rm fB 0 fBl fBq fBV).2.2
    have fB1 : mL M46 fB 1 = mL M fB 1 := (rm fB 1 fBl fBq fBV).2.2
    have xR0 := (rm x 0 xl xq xV).1.trans hrA
    have xR1 := (rm x 1 xl xq xV).1.trans hrB
    have l46 := tl_mda (pr := pr) ml slA
    refine lv_aload_n hx hb dX2_writeSide_49 rfl (lv_at hl 1 rfl) ?_
    refine gf_X2_67 hx hb htw hown hK hW (by assumption) (by assumption) dX2_writeSide_50 ?_
    refine tm_calli (cs_X2_61 hx hb hml hown htw hK hW (by assumption) (c_X0_isZero fBS1 (by rw [fB0]; assumption)) ⟨rfl, rfl, Nat.le_of_ble_eq_true rfl, Nat.le_of_ble_eq_true rfl⟩ hl.1 (Nat.le_of_ble_eq_true rfl) dX2_writeSide_53 ⟨Nat.le_of_ble_eq_true rfl, Nat.le_of_ble_eq_true rfl⟩) hS (fun x53 M53 H locs hp53 hW hS => ?_)
    obtain ⟨ex53, eM53⟩ := hp53
    rw [eM53] at hW
    rw [fB0] at ex53
    rw [ex53]
    replace rh : h ≤ H.size := by rw [← hh]; exact hS.1
    refine ti_if_ne (tgt := 94) hx hb dX2_writeSide_56 (by decide) (tl_b_r _) (fun h56 => ?_) (fun h56 => ?_)
    · exact W.widen (k := 9) (n := 3600) (by first | omega | (dsimp only; omega)) (by first | omega | (dsimp only; omega)) (tz_vret hx hb hr hlk hK hW hS rfl (SBx_p (SBx_h B46 (by rw [← hh]; exact hS.1)) (by rw [tl_si1 (f := (mL M fA 0, mL M fA 1)) (g := (mL M fB 0, mL M fB 1)) (tl_b_0.mp h7), if_pos (tl_b_n.mp h56), List.append_nil]; simp only [List.append_assoc])) dX2_writeSide_94)
    · refine lv_aload_n hx hb dX2_writeSide_59 rfl (lv_at hl 0 rfl) ?_
      refine gf_X2_10 hx hb htw hown hK hW (by assumption) (by assumption) dX2_writeSide_60 ?_
      refine lv_aload_n hx hb dX2_writeSide_63 rfl (lv_at hl 1 rfl) ?_
      refine gf_X2_67 hx hb htw hown hK hW (by assumption) (by assumption) dX2_writeSide_64 ?_
      refine gf_X2_70 hx hb htw hown hK hW (by assumption) dX2_writeSide_67 ?_
      refine ti_lconst0 hx hb dX2_writeSide_70 ?_
      rw [fB0]
      refine ti_lcmp_ge (tgt := 80) hx hb dX2_writeSide_71 dX2_writeSide_72 (by decide) (by assumption) (by decide) (fun h71 => ?_) (fun h71 => ?_)
      · obtain ⟨ka, hk9⟩ := tc_at hC (i := 4) (by decide)
        refine va_ldcS hx hb hown (show vk_R RX2 86 " + " ka s from hk9) dX2_writeSide_80 ?_
        refine tz_calla (cq_X2_44 hx hb hml hown htw (tk_preV hK hW hC hS rfl hk9 q1S (by decide) rfl) (c_J4_appendS (i := 4) (by decide) s1 (by omega)) ⟨rfl, rfl, Nat.le_of_ble_eq_true rfl, Nat.le_of_ble_eq_true rfl⟩ hl.1 (Nat.le_of_ble_eq_true rfl) dX2_writeSide_82 ⟨(by first | omega | (dsimp only; omega)), (by first | omega | (dsimp only; omega))⟩) hS (fun x82 sh82 M82 h82 H locs hp82 hW hS hz82 => ?_)
        have B82 : SBx q V h sh M (pr ++ tl_mns (mL M fA 0) ++ (if (-1 ≤ mL M fA 0 ∧ mL M fA 0 ≤ 1) ∧ mL M fA 1 = 1 then [] else tl_siz (mL M fA 0, mL M fA 1)) ++ [120] ++ [kb 4 0, kb 4 1, kb 4 2]) 0 sh82 M82 H.size := SBx_c rV rh rs rm hp82.2 hz82
        obtain ⟨V1, cap1, s1, -, rV, rh, rs, rm⟩ := (id B82)
        have q1S := s1.1
        have PS1 := (rs P Pl).trans PS
        have xS1 := (rs x xl).trans xS
        have fAS1 := (rs fA fAl).trans fAS
        have fBS1 := (rs fB fBl).trans fBS
        have PR1 := (rm P 0 Pl Pq PV).1.trans PR
        have fA0 : mL M82 fA 0 = mL M fA 0 := (rm fA 0 fAl fAq fAV).2.2
        have fA1 : mL M82 fA 1 = mL M fA 1 := (rm fA 1 fAl fAq fAV).2.2
        have fB0 : mL M82 fB 0 = mL M fB 0 := (rm fB 0 fBl fBq fBV).2.2
        have fB1 : mL M82 fB 1 = mL M fB 1 := (rm fB 1 fBl fBq fBV).2.2
        have xR0 := (rm x 0 xl xq xV).1.trans hrA
        have xR1 := (rm x 1 xl xq xV).1.trans hrB
        refine lv_pop hx hb dX2_writeSide_85 rfl ?_
        exact w_up (by omega) (by omega) (k86 _ sh82 M82 _ _ _ B82 (by rw [tl_si1 (f := (mL M fA 0, mL M fA 1)) (g := (mL M fB 0, mL M fB 1)) (tl_b_0.mp h7), if_neg (tl_b_0.mp h56), if_neg (show ¬ mL M fB 0 < 0 by omega)]; simp only [List.append_assoc, List.cons_append, List.nil_append]; rfl) (by rw [List.length_append]; show _ + 3 + 9 ≤ 60; omega) hW hS (lv_sub hl [0, 1] rfl))
      · obtain ⟨ka, hk9⟩ := tc_at hC (i := 3) (by decide)
        refine va_ldcS hx hb hown (show vk_R RX2 84 " - " ka s from hk9) dX2_writeSide_75 ?_
        refine lv_goto (tgt := 82) hx hb dX2_writeSide_77 (by decide) ?_
        refine tz_calla (cq_X2_44 hx hb hml hown htw (tk_preV hK hW hC hS rfl hk9 q1S (by decide) rfl) (c_J4_appendS (i := 3) (by decide) s1 (by omega)) ⟨rfl, rfl, Nat.le_of_ble_eq_true rfl, Nat.le_of_ble_eq_true rfl⟩ hl.1 (Nat.le_of_ble_eq_true rfl) dX2_writeSide_82 ⟨(by first | omega | (dsimp only; omega)), (by first | omega | (dsimp only; omega))⟩) hS (fun x82 sh82 M82 h82 H locs hp82 hW hS hz82 => ?_)
        have B82 : SBx q V h sh M (pr ++ tl_mns (mL M fA 0) ++ (if (-1 ≤ mL M fA 0 ∧ mL M fA 0 ≤ 1) ∧ mL M fA 1 = 1 then [] else tl_siz (mL M fA 0, mL M fA 1)) ++ [120] ++ [kb 3 0, kb 3 1, kb 3 2]) 0 sh82 M82 H.size := SBx_c rV rh rs rm hp82.2 hz82
        obtain ⟨V1, cap1, s1, -, rV, rh, rs, rm⟩ := (id B82)
        have q1S := s1.1
        have PS1 := (rs P Pl).trans PS
        have xS1 := (rs x xl).trans xS
        have fAS1 := (rs fA fAl).trans fAS
        have fBS1 := (rs fB fBl).trans fBS
        have PR1 := (rm P 0 Pl Pq PV).1.trans PR
        have fA0 : mL M82 fA 0 = mL M fA 0 := (rm fA 0 fAl fAq fAV).2.2
        have fA1 : mL M82 fA 1 = mL M fA 1 := (rm fA 1 fAl fAq fAV).2.2
        have fB0 : mL M82 fB 0 = mL M fB 0 := (rm fB 0 fBl fBq fBV).2.2
        have fB1 : mL M82 fB 1 = mL M fB 1 := (rm fB 1 fBl fBq fBV).2.2
        have xR0 := (rm x 0 xl xq xV).1.trans hrA
        have xR1 := (rm x 1 xl xq xV).1.trans hrB
        refine lv_pop hx hb dX2_writeSide_85 rfl ?_
        exact w_up (by omega) (by omega) (k86 _ sh82 M82 _ _ _ B82 (by rw [tl_si1 (f := (mL M fA 0, mL M fA 1)) (g := (mL M fB 0, mL M fB 1)) (tl_b_0.mp h7), if_neg (tl_b_0.mp h56), if_pos (show mL M fB 0 < 0 by omega)]; simp only [List.append_assoc, List.cons_append, List.nil_append]; rfl) (by rw [List.length_append]; show _ + 3 + 9 ≤ 60; omega) hW hS (lv_sub hl [0, 1] rfl))
  · refine lv_aload_n hx hb dX2_writeSide_10 rfl (lv_at hl 1 rfl) ?_
    refine gf_X2_67 hx hb htw hown hK hW (by assumption) (by assumption) dX2_writeSide_11 ?_
    refine gf_X2_70 hx hb htw hown hK hW (by assumption) dX2_writeSide_14 ?_
    refine ti_lconst0 hx hb dX2_writeSide_17 ?_
    rw [fB0]
    refine ti_lcmp_ge (tgt := 32) hx hb dX2_writeSide_18 dX2_writeSide_19 (by decide) (by assumption) (by decide) (fun h18 => ?_) (fun h18 => ?_)
    · exact w_up (by omega) (by omega) (k32 pr sh M _ _ _ (SBx_h B0 (by rw [← hh]; exact hS.1)) (by rw [tl_si0 (f := (mL M fA 0, mL M fA 1)) (g := (mL M fB 0, mL M fB 1)) (tl_b_n.mp h7), tl_mn0 (by omega)]; rfl) (by omega) hW hS (lv_sub hl [0, 1] rfl))
    · refine lv_aload_n hx hb dX2_writeSide_22 rfl (lv_at hl 0 rfl) ?_
      refine gf_X2_10 hx hb htw hown hK hW (by assumption) (by assumption) dX2_writeSide_23 ?_
      refine ti_bipush hx hb dX2_writeSide_26 (by decide) ?_
      refine tz_calla (cq_X2_74 hx hb hml hown htw (tz_preV hK hW hC hS rfl q1S (by decide) rfl) (c_J4_appendC (ch := 45) s1 (by decide) (by omega)) ⟨rfl, rfl, Nat.le_of_ble_eq_true rfl, Nat.le_of_ble_eq_true rfl⟩ hl.1 (Nat.le_of_ble_eq_true rfl) dX2_writeSide_28 ⟨(by first | omega | (dsimp only; omega)), (by first | omega | (dsimp only; omega))⟩) hS (fun x28 sh28 M28 h28 H locs hp28 hW hS hz28 => ?_)
      have B28 : SBx q V h sh M (pr ++ [45]) 0 sh28 M28 H.size := SBx_c rV rh rs rm hp28.2 hz28
      obtain ⟨V1, cap1, s1, -, rV, rh, rs, rm⟩ := (id B28)
      have q1S := s1.1
      have PS1 := (rs P Pl).trans PS
      have xS1 := (rs x xl).trans xS
      have fAS1 := (rs fA fAl).trans fAS
      have fBS1 := (rs fB fBl).trans fBS
      have PR1 := (rm P 0 Pl Pq PV).1.trans PR
      have fA0 : mL M28 fA 0 = mL M fA 0 := (rm fA 0 fAl fAq fAV).2.2
      have fA1 : mL M28 fA 1 = mL M fA 1 := (rm fA 1 fAl fAq fAV).2.2
      have fB0 : mL M28 fB 0 = mL M fB 0 := (rm fB 0 fBl fBq fBV).2.2
      have fB1 : mL M28 fB 1 = mL M fB 1 := (rm fB 1 fBl fBq fBV).2.2
      have xR0 := (rm x 0 xl xq xV).1.trans hrA
      have xR1 := (rm x 1 xl xq xV).1.trans hrB
      refine lv_pop hx hb dX2_writeSide_31 rfl ?_
      exact w_up (by omega) (by omega) (k32 _ sh28 M28 _ _ _ B28 (by rw [tl_si0 (f := (mL M fA 0, mL M fA 1)) (g := (mL M fB 0, mL M fB 1)) (tl_b_n.mp h7), tl_mn1 (by omega)]; simp only [List.append_assoc]) (by rw [List.length_append]; show pr.length + 1 + 9 ≤ 60; omega) hW hS (lv_sub hl [0, 1] rfl))
