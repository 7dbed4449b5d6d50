/-! Paper.write, print, printed (by program: wip/whole/gen/pa4.py) -/
theorem dX2_write_0 : decode cX2_write 0 = .ok (.aload_n 0, 1) := by decide +kernel
theorem dX2_write_1 : decode cX2_write 1 = .ok (.getfield 10, 3) := by decide +kernel
theorem dX2_write_4 : decode cX2_write 4 = .ok (.iconst 0, 1) := by decide +kernel
theorem dX2_write_5 : decode cX2_write 5 = .ok (.invokevirtual 24, 3) := by decide +kernel
theorem dX2_write_8 : decode cX2_write 8 = .ok (.aload_n 0, 1) := by decide +kernel
theorem dX2_write_9 : decode cX2_write 9 = .ok (.aload_n 1, 1) := by decide +kernel
theorem dX2_write_10 : decode cX2_write 10 = .ok (.getfield 28, 3) := by decide +kernel
theorem dX2_write_13 : decode cX2_write 13 = .ok (.invokevirtual 34, 3) := by decide +kernel
theorem dX2_write_16 : decode cX2_write 16 = .ok (.aload_n 1, 1) := by decide +kernel
theorem dX2_write_17 : decode cX2_write 17 = .ok (.getfield 38, 3) := by decide +kernel
theorem dX2_write_20 : decode cX2_write 20 = .ok (.lookupswitch 54 #[(1, 28), (2, 41)], 28) := by decide +kernel
theorem dX2_write_48 : decode cX2_write 48 = .ok (.aload_n 0, 1) := by decide +kernel
theorem dX2_write_49 : decode cX2_write 49 = .ok (.getfield 10, 3) := by decide +kernel
theorem dX2_write_52 : decode cX2_write 52 = .ok (.ldc 42, 2) := by decide +kernel
theorem dX2_write_54 : decode cX2_write 54 = .ok (.invokevirtual 44, 3) := by decide +kernel
theorem dX2_write_57 : decode cX2_write 57 = .ok (.pop, 1) := by decide +kernel
theorem dX2_write_58 : decode cX2_write 58 = .ok (.goto 26, 3) := by decide +kernel
theorem dX2_write_61 : decode cX2_write 61 = .ok (.aload_n 0, 1) := by decide +kernel
theorem dX2_write_62 : decode cX2_write 62 = .ok (.getfield 10, 3) := by decide +kernel
theorem dX2_write_65 : decode cX2_write 65 = .ok (.ldc 48, 2) := by decide +kernel
theorem dX2_write_67 : decode cX2_write 67 = .ok (.invokevirtual 44, 3) := by decide +kernel
theorem dX2_write_70 : decode cX2_write 70 = .ok (.pop, 1) := by decide +kernel
theorem dX2_write_71 : decode cX2_write 71 = .ok (.goto 13, 3) := by decide +kernel
theorem dX2_write_74 : decode cX2_write 74 = .ok (.aload_n 0, 1) := by decide +kernel
theorem dX2_write_75 : decode cX2_write 75 = .ok (.getfield 10, 3) := by decide +kernel
theorem dX2_write_78 : decode cX2_write 78 = .ok (.ldc 50, 2) := by decide +kernel
theorem dX2_write_80 : decode cX2_write 80 = .ok (.invokevirtual 44, 3) := by decide +kernel
theorem dX2_write_83 : decode cX2_write 83 = .ok (.pop, 1) := by decide +kernel
theorem dX2_write_84 : decode cX2_write 84 = .ok (.aload_n 0, 1) := by decide +kernel
theorem dX2_write_85 : decode cX2_write 85 = .ok (.aload_n 1, 1) := by decide +kernel
theorem dX2_write_86 : decode cX2_write 86 = .ok (.getfield 52, 3) := by decide +kernel
theorem dX2_write_89 : decode cX2_write 89 = .ok (.invokevirtual 34, 3) := by decide +kernel
theorem dX2_write_92 : decode cX2_write 92 = .ok (.return_, 1) := by decide +kernel
set_option maxHeartbeats 1000000 in
set_option maxRecDepth 100000 in
/-- Paper.write -/
theorem c_X2_write {l : Launch} {G : tm_G} {Hb : Heap} {sh : tm_sh} {M : tm_M} {P q V cap h : Nat} {pr : List Int} (hP : isPa sh M P q) (s1 : isSB sh M q V cap pr) {w x1 x2 fA fB fC fD : Nat} (hw : sh w = some (3, 0)) (hw0 : mR M w 0 = some x1) (hw1 : mR M w 1 = some x2) (hx1 : sh x1 = some (6, 0)) (hx2 : sh x2 = some (6, 0)) (hxA : mR M x1 0 = some fA) (hxB : mR M x1 1 = some fB) (hxC : mR M x2 0 = some fC) (hxD : mR M x2 1 = some fD) (hfA : sh fA = some (2, 0)) (hfB : sh fB = some (2, 0)) (hfC : sh fC = some (2, 0)) (hfD : sh fD = some (2, 0)) (hlv : lok (((mL M fA 0, mL M fA 1), (mL M fB 0, mL M fB 1)), ((mL M fC 0, mL M fC 1), (mL M fD 0, mL M fD 1)), mI M w 2)) : Met l yX2_write (tws yX2_write cX2_write 2 none) ({ frames := 9, cells := 20, slots := 8000, locals := 198 }) (va_Pc [.ref P, .ref w] (tz_St G Hb sh M h)) (tz_Qv G Hb (fun sh1 M1 h1 => SBx q V h sh M (tl_prt (((mL M fA 0, mL M fA 1), (mL M fB 0, mL M fB 1)), ((mL M fC 0, mL M fC 1), (mL M fD 0, mL M fD 1)), mI M w 2)) 0 sh1 M1 h1)) 20 8000 (tm_A Hb) := by
  refine tz_begin (by decide) (Nat.le_of_ble_eq_true rfl) (fun p e s m below meth c ls hx hb hr hml hown htw hlk hnm hK hW hC hh hl => ?_)
  have hS : va_S (tm_A Hb) s.heap s.heap [] := va_S.rf
  have hl : lv_has ls 2 [(0, .ref P), (1, .ref w)] := hl
  have s00 := s1
  have PS := hP.1
  have PR := hP.2
  have Pq : P ≠ q := fun z => by have h9 := s1.1; rw [← z, PS] at h9; cases h9
  have PV : P ≠ V := fun z => by have h9 := s1.2.2.1; rw [← z, PS] at h9; cases h9
  have Pl : P < h := by rw [← hh]; exact hW.free PS
  have wS := hw
  have wq : w ≠ q := fun z => by have h9 := s1.1; rw [← z, wS] at h9; cases h9
  have wV : w ≠ V := fun z => by have h9 := s1.2.2.1; rw [← z, wS] at h9; cases h9
  have wl : w < h := by rw [← hh]; exact hW.free wS
  have x1S := hx1
  have x1q : x1 ≠ q := fun z => by have h9 := s1.1; rw [← z, x1S] at h9; cases h9
  have x1V : x1 ≠ V := fun z => by have h9 := s1.2.2.1; rw [← z, x1S] at h9; cases h9
  have x1l : x1 < h := by rw [← hh]; exact hW.free x1S
  have x2S := hx2
  have x2q : x2 ≠ q := fun z => by have h9 := s1.1; rw [← z, x2S] at h9; cases h9
  have x2V : x2 ≠ V := fun z => by have h9 := s1.2.2.1; rw [← z, x2S] at h9; cases h9
  have x2l : x2 < h := by rw [← hh]; exact hW.free x2S
  have fAS := hfA
  have fAq : fA ≠ q := fun z => by have h9 := s1.1; rw [← z, fAS] at h9; cases h9
  have fAV : fA ≠ V := fun z => by have h9 := s1.2.2.1; rw [← z, fAS] at h9; cases h9
  have fAl : fA < h := by rw [← hh]; exact hW.free fAS
  have fBS := hfB
  have fBq : fB ≠ q := fun z => by have h9 := s1.1; rw [← z, fBS] at h9; cases h9
  have fBV : fB ≠ V := fun z => by have h9 := s1.2.2.1; rw [← z, fBS] at h9; cases h9
  have fBl : fB < h := by rw [← hh]; exact hW.free fBS
  have fCS := hfC
  have fCq : fC ≠ q := fun z => by have h9 := s1.1; rw [← z, fCS] at h9; cases h9
  have fCV : fC ≠ V := fun z => by have h9 := s1.2.2.1; rw [← z, fCS] at h9; cases h9
  have fCl : fC < h := by rw [← hh]; exact hW.free fCS
  have fDS := hfD
  have fDq : fD ≠ q := fun z => by have h9 := s1.1; rw [← z, fDS] at h9; cases h9
  have fDV : fD ≠ V := fun z => by have h9 := s1.2.2.1; rw [← z, fDS] at h9; cases h9
  have fDl : fD < h := by rw [← hh]; exact hW.free fDS
  have sl1 := tl_sid_l ((mL M fA 0, mL M fA 1), (mL M fB 0, mL M fB 1))
  have sl2 := tl_sid_l ((mL M fC 0, mL M fC 1), (mL M fD 0, mL M fD 1))
  have hrr : 0 ≤ mI M w 2 ∧ mI M w 2 ≤ 2 := hlv.2.2
  have B0 : SBx q V h sh M pr 0 sh M s.heap.size := by rw [hh]; exact SBx_rf s00 (Nat.zero_le _)
  have k84 : ∀ (pr1 : List Int) (sh1 : tm_sh) (M1 : tm_M) (H : Heap) (locs : List Loc) (ls : Array Slot), SBx q V h sh M pr1 0 sh1 M1 H.size → pr1 = tl_sid ((mL M fA 0, mL M fA 1), (mL M fB 0, mL M fB 1)) ++ [32, tl_rch (mI M w 2), 32] → tm_W G Hb sh1 M1 H → va_S (tm_A Hb) s.heap H locs → lv_has ls 2 [(0, .ref P), (1, .ref w)] → W p l e ({ frames := 9, cells := 20, slots := 8000, locals := 198 }) s m [.ref P, .ref w].toArray below meth c H locs 11 4400 (MQ below (tz_Qv G Hb (fun sh1 M1 h1 => SBx q V h sh M (tl_prt (((mL M fA 0, mL M fA 1), (mL M fB 0, mL M fB 1)), ((mL M fC 0, mL M fC 1), (mL M fD 0, mL M fD 1)), mI M w 2)) 0 sh1 M1 h1)) [.ref P, .ref w].toArray s 20 8000 (tm_A Hb)) (F0 m 84 ls []) := by
    intro pr1 sh1 M1 H locs ls B9 he hW hS hl
    have hle : pr1.length ≤ 26 := by rw [he, List.length_append]; show _ + 3 ≤ 26; omega
    obtain ⟨V1, cap1, s1, -, rV, rh, rs, rm⟩ := (id B9)
    have q1S := s1.1
    have PS1 := (rs P Pl).trans PS
    have wS1 := (rs w wl).trans wS
    have x1S1 := (rs x1 x1l).trans x1S
    have x2S1 := (rs x2 x2l).trans x2S
    have fAS1 := (rs fA fAl).trans fAS
    have fBS1 := (rs fB fBl).trans fBS
    have fCS1 := (rs fC fCl).trans fCS
    have fDS1 := (rs fD fDl).trans fDS
    have PR1 := (rm P 0 Pl Pq PV).1.trans PR
    have fA0 : mL M1 fA 0 = mL M fA 0 := (rm fA 0 fAl fAq fAV).2.2
    have fA1 : mL M1 fA 1 = mL M fA 1 := (rm fA 1 fAl fAq fAV).2.2
    have fB0 : mL M1 fB 0 = mL M fB 0 := (rm fB 0 fBl fBq fBV).2.2
    have fB1 : mL M1 fB 1 = mL M fB 1 := (rm fB 1 fBl fBq fBV).2.2
    have fC0 : mL M1 fC 0 = mL M fC 0 := (rm fC 0 fCl fCq fCV).2.2
    have fC1 : mL M1 fC 1 = mL M fC 1 := (rm fC 1 fCl fCq fCV).2.2
    have fD0 : mL M1 fD 0 = mL M fD 0 := (rm fD 0 fDl fDq fDV).2.2
    have fD1 : mL M1 fD 1 = mL M fD 1 := (rm fD 1 fDl fDq fDV).2.2
    have wR0 := (rm w 0 wl wq wV).1.trans hw0
    have wR1 := (rm w 1 wl wq wV).1.trans hw1
    have w2 : mI M1 w 2 = mI M w 2 := (rm w 2 wl wq wV).2.1
    have x1R0 := (rm x1 0 x1l x1q x1V).1.trans hxA
    have x1R1 := (rm x1 1 x1l x1q x1V).1.trans hxB
    have x2R0 := (rm x2 0 x2l x2q x2V).1.trans hxC
    have x2R1 := (rm x2 1 x2l x2q x2V).1.trans hxD
    refine lv_aload_n hx hb dX2_write_84 rfl (lv_at hl 0 rfl) ?_
    refine lv_aload_n hx hb dX2_write_85 rfl (lv_at hl 1 rfl) ?_
    refine gf_X2_52 hx hb htw hown hK hW (by assumption) (by assumption) dX2_write_86 ?_
    refine tz_callv (cq_X2_34 hx hb hml hown htw (tz_preV hK hW hC hS rfl PS1 (by decide) rfl) (c_X2_writeSide ⟨PS1, PR1⟩ s1 x2S1 x2R0 x2R1 fCS1 fDS1 (by rw [fC0, fC1]; exact hlv.2.1.1) (by rw [fD0, fD1]; exact hlv.2.1.2) (by omega)) ⟨rfl, rfl, Nat.le_of_ble_eq_true rfl, Nat.le_of_ble_eq_true rfl⟩ hl.1 (Nat.le_of_ble_eq_true rfl) dX2_write_89 ⟨(by first | omega | (dsimp only; omega)), (by first | omega | (dsimp only; omega))⟩) hS (fun sh89 M89 h89 H locs hp89 hW hS hz89 => ?_)
    rw [fC0, fC1, fD0, fD1] at hp89
    have B89 : SBx q V h sh M (pr1 ++ tl_sid ((mL M fC 0, mL M fC 1), (mL M fD 0, mL M fD 1))) 0 sh89 M89 H.size := SBx_c rV rh rs rm hp89 hz89
    obtain ⟨V1, cap1, s1, -, rV, rh, rs, rm⟩ := (id B89)
    have q1S := s1.1
    have PS1 := (rs P Pl).trans PS
    have wS1 := (rs w wl).trans wS
    have x1S1 := (rs x1 x1l).trans x1S
    have x2S1 := (rs x2 x2l).trans x2S
    have fAS1 := (rs fA fAl).trans fAS
    have fBS1 := (rs fB fBl).trans fBS
    have fCS1 := (rs fC fCl).trans fCS
    have fDS1 := (rs fD fDl).trans fDS
    have PR1 := (rm P 0 Pl Pq PV).1.trans PR
    have fA0 : mL M89 fA 0 = mL M fA 0 := (rm fA 0 fAl fAq fAV).2.2
    have fA1 : mL M89 fA 1 = mL M fA 1 := (rm fA 1 fAl fAq fAV).2.2
    have fB0 : mL M89 fB 0 = mL M fB 0 := (rm fB 0 fBl fBq fBV).2.2
    have fB1 : mL M89 fB 1 = mL M fB 1 := (rm fB 1 fBl fBq fBV).2.2
    have fC0 : mL M89 fC 0 = mL M fC 0 := (rm fC 0 fCl fCq fCV).2.2
    have fC1 : mL M89 fC 1 = mL M fC 1 := (rm fC 1 fCl fCq fCV).2.2
    have fD0 : mL M89 fD 0 = mL M fD 0 := (rm fD 0 fDl fDq fDV).2.2
    have fD1 : mL M89 fD 1 = mL M fD 1 := (rm fD 1 fDl fDq fDV).2.2
    have wR0 := (rm w 0 wl wq wV).1.trans hw0
    have wR1 := (rm w 1 wl wq wV).1.trans hw1
    have w2 : mI M89 w 2 = mI M w 2 := (rm w 2 wl wq wV).2.1
    have x1R0 := (rm x1 0 x1l x1q x1V).1.trans hxA
    have x1R1 := (rm x1 1 x1l x1q x1V).1.trans hxB
    have x2R0 := (rm x2 0 x2l x2q x2V).1.trans hxC
    have x2R1 := (rm x2 1 x2l x2q x2V).1.trans hxD
    exact W.widen (k := 20) (n := 8000) (by first | omega | (dsimp only; omega)) (by first | omega | (dsimp only; omega)) (tz_vret hx hb hr hlk hK hW hS rfl (SBx_p B89 (by rw [he]; rfl)) dX2_write_92)
  obtain ⟨V1, cap1, s1, -, rV, rh, rs, rm⟩ := (id B0)
  have q1S := s1.1
  have PS1 := (rs P Pl).trans PS
  have wS1 := (rs w wl).trans wS
  have x1S1 := (rs x1 x1l).trans x1S
  have x2S1 := (rs x2 x2l).trans x2S
  have fAS1 := (rs fA fAl).trans fAS
  have fBS1 := (rs fB fBl).trans fBS
  have fCS1 := (rs fC fCl).trans fCS
  have fDS1 := (rs fD fDl).trans fDS
  have PR1 := (rm P 0 Pl Pq PV).1.trans PR
  have fA0 : mL M fA 0 = mL M fA 0 := (rm fA 0 fAl fAq fAV).2.2
  have fA1 : mL M fA 1 = mL M fA 1 := (rm fA 1 fAl fAq fAV).2.2
  have fB0 : mL M fB 0 = mL M fB 0 := (rm fB 0 fBl fBq fBV).2.2
  have fB1 : mL M fB 1 = mL M fB 1 := (rm fB 1 fBl fBq fBV).2.2
  have fC0 : mL M fC 0 = mL M fC 0 := (rm fC 0 fCl fCq fCV).2.2
  have fC1 : mL M fC 1 = mL M fC 1 := (rm fC 1 fCl fCq fCV).2.2
  have fD0 : mL M fD 0 = mL M fD 0 := (rm fD 0 fDl fDq fDV).2.2
  have fD1 : mL M fD 1 = mL M fD 1 := (rm fD 1 fDl fDq fDV).2.2
  have wR0 := (rm w 0 wl wq wV).1.trans hw0
  have wR1 := (rm w 1 wl wq wV).1.trans hw1
  have w2 : mI M w 2 = mI M w 2 := (rm w 2 wl wq wV).2.1
  have x1R0 := (rm x1 0 x1l x1q x1V).1.trans hxA
  have x1R1 := (rm x1 1 x1l x1q x1V).1.trans hxB
  have x2R0 := (rm x2 0 x2l x2q x2V).1.trans hxC
  have x2R1 := (rm x2 1 x2l x2q x2V).1.trans hxD
  refine lv_aload_n hx hb dX2_write_0 rfl (lv_at hl 0 rfl) ?_
  refine gf_X2_10 hx hb htw hown hK hW (by assumption) (by assumption) dX2_write_1 ?_
  refine ti_iconst hx hb dX2_write_4 ?_
  refine tz_callv (cq_X2_24 hx hb hml hown htw (tz_preV hK hW hC hS rfl q1S (by decide) rfl) (c_J4_setLength s1) ⟨rfl, rfl, Nat.le_of_ble_eq_true rfl, Nat.le_of_ble_eq_true rfl⟩ hl.1 (Nat.le_of_ble_eq_true rfl) dX2_write_5 ⟨(by first | omega | (dsimp only; omega)), (by first | omega | (dsimp only; omega))⟩) hS (fun sh5 M5 h5 H locs hp5 hW hS hz5 => ?_)
  have B5 : SBx q V h sh M ([]) 0 sh5 M5 H.size := SBx_c rV rh rs rm hp5 hz5
  obtain ⟨V1, cap1, s1, -, rV, rh, rs, rm⟩ := (id B5)
  have q1S := s1.1
  have PS1 := (rs P Pl).trans PS
  have wS1 := (rs w wl).trans wS
  have x1S1 := (rs x1 x1l).trans x1S
  have x2S1 := (rs x2 x2l).trans x2S
  have fAS1 := (rs fA fAl).trans fAS
  have fBS1 := (rs fB fBl).trans fBS
  have fCS1 := (rs fC fCl).trans fCS
  have fDS1 := (rs fD fDl).trans fDS
  have PR1 := (rm P 0 Pl Pq PV).1.trans PR
  have fA0 : mL M5 fA 0 = mL M fA 0 := (rm fA 0 fAl fAq fAV).2.2
  have fA1 : mL M5 fA 1 = mL M fA 1 := (rm fA 1 fAl fAq fAV).2.2
  have fB0 : mL M5 fB 0 = mL M fB 0 := (rm fB 0 fBl fBq fBV).2.2
  have fB1 : mL M5 fB 1 = mL M fB 1 := (rm fB 1 fBl fBq fBV).2.2
  have fC0 : mL M5 fC 0 = mL M fC 0 := (rm fC 0 fCl fCq fCV).2.2
  have fC1 : mL M5 fC 1 = mL M fC 1 := (rm fC 1 fCl fCq fCV).2.2
  have fD0 : mL M5 fD 0 = mL M fD 0 := (rm fD 0 fDl fDq fDV).2.2
  have fD1 : mL M5 fD 1 = mL M fD 1 := (rm fD 1 fDl fDq fDV).2.2
  have wR0 := (rm w 0 wl wq wV).1.trans hw0
  have wR1 := (rm w 1 wl wq wV).1.trans hw1
  have w2 : mI M5 w 2 = mI M w 2 := (rm w 2 wl wq wV).2.1
  have x1R0 := (rm x1 0 x1l x1q x1V).1.trans hxA
  have x1R1 := (rm x1 1 x1l x1q x1V).1.trans hxB
  have x2R0 := (rm x2 0 x2l x2q x2V).1.trans hxC
  have x2R1 := (rm x2 1 x2l x2q x2V).1.trans hxD
  refine lv_aload_n hx hb dX2_write_8 rfl (lv_at hl 0 rfl) ?_
  refine lv_aload_n hx hb dX2_write_9 rfl (lv_at hl 1 rfl) ?_
  refine gf_X2_28 hx hb htw hown hK hW (by assumption) (by assumption) dX2_write_10 ?_
  refine tz_callv (cq_X2_34 hx hb hml hown htw (tz_preV hK hW hC hS rfl PS1 (by decide) rfl) (c_X2_writeSide ⟨PS1, PR1⟩ s1 x1S1 x1R0 x1R1 fAS1 fBS1 (by rw [fA0, fA1]; exact hlv.1.1) (by rw [fB0, fB1]; exact hlv.1.2) (by decide)) ⟨rfl, rfl, Nat.le_of_ble_eq_true rfl, Nat.le_of_ble_eq_true rfl⟩ hl.1 (Nat.le_of_ble_eq_true rfl) dX2_write_13 ⟨(by first | omega | (dsimp only; omega)), (by first | omega | (dsimp only; omega))⟩) hS (fun sh13 M13 h13 H locs hp13 hW hS hz13 => ?_)
  rw [fA0, fA1, fB0, fB1] at hp13
  have B13 : SBx q V h sh M ([] ++ tl_sid ((mL M fA 0, mL M fA 1), (mL M fB 0, mL M fB 1))) 0 sh13 M13 H.size := SBx_c rV rh rs rm hp13 hz13
  obtain ⟨V1, cap1, s1, -, rV, rh, rs, rm⟩ := (id B13)
  have q1S := s1.1
  have PS1 := (rs P Pl).trans PS
  have wS1 := (rs w wl).trans wS
  have x1S1 := (rs x1 x1l).trans x1S
  have x2S1 := (rs x2 x2l).trans x2S
  have fAS1 := (rs fA fAl).trans fAS
  have fBS1 := (rs fB fBl).trans fBS
  have fCS1 := (rs fC fCl).trans fCS
  have fDS1 := (rs fD fDl).trans fDS
  have PR1 := (rm P 0 Pl Pq PV).1.trans PR
  have fA0 : mL M13 fA 0 = mL M fA 0 := (rm fA 0 fAl fAq fAV).2.2
  have fA1 : mL M13 fA 1 = mL M fA 1 := (rm fA 1 fAl fAq fAV).2.2
  have fB0 : mL M13 fB 0 = mL M fB 0 := (rm fB 0 fBl fBq fBV).2.2
  have fB1 : mL M13 fB 1 = mL M fB 1 := (rm fB 1 fBl fBq fBV).2.2
  have fC0 : mL M13 fC 0 = mL M fC 0 := (rm fC 0 fCl fCq fCV).2.2
  have fC1 : mL M13 fC 1 = mL M fC 1 := (rm fC 1 fCl fCq fCV).2.2
  have fD0 : mL M13 fD 0 = mL M fD 0 := (rm fD 0 fDl fDq fDV).2.2
  have fD1 : mL M13 fD 1 = mL M fD 1 := (rm fD 1 fDl fDq fDV).2.2
  have wR0 := (rm w 0 wl wq wV).1.trans hw0
  have wR1 := (rm w 1 wl wq wV).1.trans hw1
  have w2 : mI M13 w 2 = mI M w 2 := (rm w 2 wl wq wV).2.1
  have x1R0 := (rm x1 0 x1l x1q x1V).1.trans hxA
  have x1R1 := (rm x1 1 x1l x1q x1V).1.trans hxB
  have x2R0 := (rm x2 0 x2l x2q x2V).1.trans hxC
  have x2R1 := (rm x2 1 x2l x2q x2V).1.trans hxD
  refine lv_aload_n hx hb dX2_write_16 rfl (lv_at hl 1 rfl) ?_
  refine gf_X2_38 hx hb htw hown hK hW (by assumption) dX2_write_17 ?_
  rw [w2]
  refine ti_lk_1_2 (td := 74) (t1 := 48) (t2 := 61) hx hb dX2_write_20 (by omega) (by decide) (by decide) (by decide) (fun h20 => ?_) (fun h20 => ?_) (fun h20 => ?_)
  · refine lv_aload_n hx hb dX2_write_48 rfl (lv_at hl 0 rfl) ?_
    refine gf_X2_10 hx hb htw hown hK hW (by assumption) (by assumption) dX2_write_49 ?_
    obtain ⟨ka, hk9⟩ := tc_at hC (i := 0) (by decide)
    refine va_ldcS hx hb hown (show vk_R RX2 42 " < " ka s from hk9) dX2_write_52 ?_
    refine tz_calla (cq_X2_44 hx hb hml hown htw (tk_preV hK hW hC hS rfl hk9 q1S (by decide) rfl) (c_J4_appendS (i := 0) (by decide) s1 (by simp only [List.nil_append]; omega)) ⟨rfl, rfl, Nat.le_of_ble_eq_true rfl, Nat.le_of_ble_eq_true rfl⟩ hl.1 (Nat.le_of_ble_eq_true rfl) dX2_write_54 ⟨(by first | omega | (dsimp only; omega)), (by first | omega | (dsimp only; omega))⟩) hS (fun x54 sh54 M54 h54 H locs hp54 hW hS hz54 => ?_)
    have B54 : SBx q V h sh M ([] ++ tl_sid ((mL M fA 0, mL M fA 1), (mL M fB 0, mL M fB 1)) ++ [kb 0 0, kb 0 1, kb 0 2]) 0 sh54 M54 H.size := SBx_c rV rh rs rm hp54.2 hz54
    obtain ⟨V1, cap1, s1, -, rV, rh, rs, rm⟩ := (id B54)
    have q1S := s1.1
    have PS1 := (rs P Pl).trans PS
    have wS1 := (rs w wl).trans wS
    have x1S1 := (rs x1 x1l).trans x1S
    have x2S1 := (rs x2 x2l).trans x2S
    have fAS1 := (rs fA fAl).trans fAS
    have fBS1 := (rs fB fBl).trans fBS
    have fCS1 := (rs fC fCl).trans fCS
    have fDS1 := (rs fD fDl).trans fDS
    have PR1 := (rm P 0 Pl Pq PV).1.trans PR
    have fA0 : mL M54 fA 0 = mL M fA 0 := (rm fA 0 fAl fAq fAV).2.2
    have fA1 : mL M54 fA 1 = mL M fA 1 := (rm fA 1 fAl fAq fAV).2.2
    have fB0 : mL M54 fB 0 = mL M fB 0 := (rm fB 0 fBl fBq fBV).2.2
    have fB1 : mL M54 fB 1 = mL M fB 1 := (rm fB 1 fBl fBq fBV).2.2
    have fC0 : mL M54 fC 0 = mL M fC 0 := (rm fC 0 fCl fCq fCV).2.2
    have fC1 : mL M54 fC 1 = mL M fC 1 := (rm fC 1 fCl fCq fCV).2.2
    have fD0 : mL M54 fD 0 = mL M fD 0 := (rm fD 0 fDl fDq fDV).2.2
    have fD1 : mL M54 fD 1 = mL M fD 1 := (rm fD 1 fDl fDq fDV).2.2
    have wR0 := (rm w 0 wl wq wV).1.trans hw0
    have wR1 := (rm w 1 wl wq wV).1.trans hw1
    have w2 : mI M54 w 2 = mI M w 2 := (rm w 2 wl wq wV).2.1
    have x1R0 := (rm x1 0 x1l x1q x1V).1.trans hxA
    have x1R1 := (rm x1 1 x1l x1q x1V).1.trans hxB
    have x2R0 := (rm x2 0 x2l x2q x2V).1.trans hxC
    have x2R1 := (rm x2 1 x2l x2q x2V).1.trans hxD
    refine lv_pop hx hb dX2_write_57 rfl ?_
    refine lv_goto (tgt := 84) hx hb dX2_write_58 (by decide) ?_
    exact w_up (by omega) (by omega) (k84 _ sh54 M54 _ _ _ B54 (by rw [tl_rc2 (by omega) (by omega)]; rfl) hW hS (lv_sub hl [0, 1] rfl))
  · refine lv_aload_n hx hb dX2_write_61 rfl (lv_at hl 0 rfl) ?_
    refine gf_X2_10 hx hb htw hown hK hW (by assumption) (by assumption) dX2_write_62 ?_
    obtain ⟨ka, hk9⟩ := tc_at hC (i := 1) (by decide)
    refine va_ldcS hx hb hown (show vk_R RX2 48 " > " ka s from hk9) dX2_write_65 ?_
    refine tz_calla (cq_X2_44 hx hb hml hown htw (tk_preV hK hW hC hS rfl hk9 q1S (by decide) rfl) (c_J4_appendS (i := 1) (by decide) s1 (by simp only [List.nil_append]; omega)) ⟨rfl, rfl, Nat.le_of_ble_eq_true rfl, Nat.le_of_ble_eq_true rfl⟩ hl.1 (Nat.le_of_ble_eq_true rfl) dX2_write_67 ⟨(by first | omega | (dsimp only; omega)), (by first | omega | (dsimp only; omega))⟩) hS (fun x67 sh67 M67 h67 H locs hp67 hW hS hz67 => ?_)
    have B67 : SBx q V h sh M ([] ++ tl_sid ((mL M fA 0, mL M fA 1), (mL M fB 0, mL M fB 1)) ++ [kb 1 0, kb 1 1, kb 1 2]) 0 sh67 M67 H.size := SBx_c rV rh rs rm hp67.2 hz67
    obtain ⟨V1, cap1, s1, -, rV, rh, rs, rm⟩ := (id B67)
    have q1S := s1.1
    have PS1 := (rs P Pl).trans PS
    have wS1 := (rs w wl).trans wS
    have x1S1 := (rs x1 x1l).trans x1S
    have x2S1 := (rs x2 x2l).trans x2S
    have fAS1 := (rs fA fAl).trans fAS
    have fBS1 := (rs fB fBl).trans fBS
    have fCS1 := (rs fC fCl).trans fCS
    have fDS1 := (rs fD fDl).trans fDS
    have PR1 := (rm P 0 Pl Pq PV).1.trans PR
    have fA0 : mL M67 fA 0 = mL M fA 0 := (rm fA 0 fAl fAq fAV).2.2
    have fA1 : mL M67 fA 1 = mL M fA 1 := (rm fA 1 fAl fAq fAV).2.2
    have fB0 : mL M67 fB 0 = mL M fB 0 := (rm fB 0 fBl fBq fBV).2.2
    have fB1 : mL M67 fB 1 = mL M fB 1 := (rm fB 1 fBl fBq fBV).2.2
    have fC0 : mL M67 fC 0 = mL M fC 0 := (rm fC 0 fCl fCq fCV).2.2
    have fC1 : mL M67 fC 1 = mL M fC 1 := (rm fC 1 fCl fCq fCV).2.2
    have fD0 : mL M67 fD 0 = mL M fD 0 := (rm fD 0 fDl fDq fDV).2.2
    have fD1 : mL M67 fD 1 = mL M fD 1 := (rm fD 1 fDl fDq fDV).2.2
    have wR0 := (rm w 0 wl wq wV).1.trans hw0
    have wR1 := (rm w 1 wl wq wV).1.trans hw1
    have w2 : mI M67 w 2 = mI M w 2 := (rm w 2 wl wq wV).2.1
    have x1R0 := (rm x1 0 x1l x1q x1V).1.trans hxA
    have x1R1 := (rm x1 1 x1l x1q x1V).1.trans hxB
    have x2R0 := (rm x2 0 x2l x2q x2V).1.trans hxC
    have x2R1 := (rm x2 1 x2l x2q x2V).1.trans hxD
    refine lv_pop hx hb dX2_write_70 rfl ?_
    refine lv_goto (tgt := 84) hx hb dX2_write_71 (by decide) ?_
    exact w_up (by omega) (by omega) (k84 _ sh67 M67 _ _ _ B67 (by rw [tl_rc1 (by omega) (by omega)]; rfl) hW hS (lv_sub hl [0, 1] rfl))
  · refine lv_aload_n hx hb dX2_write_74 rfl (lv_at hl 0 rfl) ?_
    refine gf_X2_10 hx hb htw hown hK hW (by assumption) (by assumption) dX2_write_75 ?_
    obtain ⟨ka, hk9⟩ := tc_at hC (i := 2) (by decide)
    refine va_ldcS hx hb hown (show vk_R RX2 50 " = " ka s from hk9) dX2_write_78 ?_
    refine tz_calla (cq_X2_44 hx hb hml hown htw (tk_preV hK hW hC hS rfl hk9 q1S (by decide) rfl) (c_J4_appendS (i := 2) (by decide) s1 (by simp only [List.nil_append]; omega)) ⟨rfl, rfl, Nat.le_of_ble_eq_true rfl, Nat.le_of_ble_eq_true rfl⟩ hl.1 (Nat.le_of_ble_eq_true rfl) dX2_write_80 ⟨(by first | omega | (dsimp only; omega)), (by first | omega | (dsimp only; omega))⟩) hS (fun x80 sh80 M80 h80 H locs hp80 hW hS hz80 => ?_)
    have B80 : SBx q V h sh M ([] ++ tl_sid ((mL M fA 0, mL M fA 1), (mL M fB 0, mL M fB 1)) ++ [kb 2 0, kb 2 1, kb 2 2]) 0 sh80 M80 H.size := SBx_c rV rh rs rm hp80.2 hz80
    obtain ⟨V1, cap1, s1, -, rV, rh, rs, rm⟩ := (id B80)
    have q1S := s1.1
    have PS1 := (rs P Pl).trans PS
    have wS1 := (rs w wl).trans wS
    have x1S1 := (rs x1 x1l).trans x1S
    have x2S1 := (rs x2 x2l).trans x2S
    have fAS1 := (rs fA fAl).trans fAS
    have fBS1 := (rs fB fBl).trans fBS
    have fCS1 := (rs fC fCl).trans fCS
    have fDS1 := (rs fD fDl).trans fDS
    have PR1 := (rm P 0 Pl Pq PV).1.trans PR
    have fA0 : mL M80 fA 0 = mL M fA 0 := (rm fA 0 fAl fAq fAV).2.2
    have fA1 : mL M80 fA 1 = mL M fA 1 := (rm fA 1 fAl fAq fAV).2.2
    have fB0 : mL M80 fB 0 = mL M fB 0 := (rm fB 0 fBl fBq fBV).2.2
    have fB1 : mL M80 fB 1 = mL M fB 1 := (rm fB 1 fBl fBq fBV).2.2
    have fC0 : mL M80 fC 0 = mL M fC 0 := (rm fC 0 fCl fCq fCV).2.2
    have fC1 : mL M80 fC 1 = mL M fC 1 := (rm fC 1 fCl fCq fCV).2.2
    have fD0 : mL M80 fD 0 = mL M fD 0 := (rm fD 0 fDl fDq fDV).2.2
    have fD1 : mL M80 fD 1 = mL M fD 1 := (rm fD 1 fDl fDq fDV).2.2
    have wR0 := (rm w 0 wl wq wV).1.trans hw0
    have wR1 := (rm w 1 wl wq wV).1.trans hw1
    have w2 : mI M80 w 2 = mI M w 2 := (rm w 2 wl wq wV).2.1
    have x1R0 := (rm x1 0 x1l x1q x1V).1.trans hxA
    have x1R1 := (rm x1 1 x1l x1q x1V).1.trans hxB
    have x2R0 := (rm x2 0 x2l x2q x2V).1.trans hxC
    have x2R1 := (rm x2 1 x2l x2q x2V).1.trans hxD
    refine lv_pop hx hb dX2_write_83 rfl ?_
    exact w_up (by omega) (by omega) (k84 _ sh80 M80 _ _ _ B80 (by rw [tl_rc3 (by omega)]; rfl) hW hS (lv_sub hl [0, 1] rfl))
section TPR
variable {p : Program} {l : Launch} {e : Env} {R : Room} {s : State} {m : MethodId} {args : Array Value} {below : List Frame} {meth : Method} {c : Code} {H : Heap} {locs : List Loc} {cells slots : Nat} {Q : State → Prop}
variable {cc : ByteArray} {pc : Nat} {ls : Array Slot} {rest : List Value} {G : tm_G} {Hb H0 : Heap} {sh : tm_sh} {M : tm_M} {a b nL h : Nat} {mc ms : Nat} {rm : Room} {Pc : Array Value → State → Prop} {Qc : Array Value → State → Outcome → State → Prop} {a1 a2 a3 a4 a5 : Value}
theorem cq_X8_154 (hexec : p.tables.exec = Jvm.exec) (hb : c.code = cc) (hml : c.maxLocals = nL) (hown : s.vm.findClass RX8 = some m.cls) (htw : ∀ w ∈ tw, w.before args s = true) (hp : PreV s H RX2 b Pc [a1]) (hM : Met l yX2_write (tws yX2_write cX2_write 2 none) rm Pc Qc mc ms (tm_A Hb)) (hrm : rm.cells = mc ∧ rm.slots = ms ∧ rm.frames + 1 ≤ R.frames ∧ 8 + (2 + 11) + rm.locals ≤ R.locals) (hsize : ls.size = nL) (hrest : (rest.map fun v => v.category).sum ≤ 8) (hdg : decode cc pc = .ok (.invokevirtual 154, 3)) (hf : cells + mc ≤ R.cells ∧ slots + ms ≤ R.slots) : va_Run p l e R s m args below meth c H locs cells slots mc ms (F0 m pc ls (a1 :: .ref b :: rest)) rest (Qc #[.ref b, a1]) (tm_A Hb) := tq_runV (n := 1) (As := [a1]) hexec hb hml hown htw hp ml_X8_154 im_X2_write se_X2_write in_X2 co_X2_write (by decide +kernel) hM hrm rfl hsize rfl hrest hdg hf
theorem cq_X8_156 (hexec : p.tables.exec = Jvm.exec) (hb : c.code = cc) (hml : c.maxLocals = nL) (hown : s.vm.findClass RX8 = some m.cls) (htw : ∀ w ∈ tw, w.before args s = true) (hp : PreV s H RX2 b Pc []) (hM : Met l yX2_size (tws yX2_size cX2_size 1 (some .int)) rm Pc Qc mc ms (tm_A Hb)) (hrm : rm.cells = mc ∧ rm.slots = ms ∧ rm.frames + 1 ≤ R.frames ∧ 8 + (1 + 11) + rm.locals ≤ R.locals) (hsize : ls.size = nL) (hrest : (rest.map fun v => v.category).sum ≤ 8) (hdg : decode cc pc = .ok (.invokevirtual 156, 3)) (hf : cells + mc ≤ R.cells ∧ slots + ms ≤ R.slots) : va_Run p l e R s m args below meth c H locs cells slots mc ms (F0 m pc ls (.ref b :: rest)) rest (Qc #[.ref b]) (tm_A Hb) := tq_runV (n := 0) (As := []) hexec hb hml hown htw hp ml_X8_156 im_X2_size se_X2_size in_X2 co_X2_size (by decide +kernel) hM hrm rfl hsize rfl hrest hdg hf
theorem cq_X8_160 (hexec : p.tables.exec = Jvm.exec) (hb : c.code = cc) (hml : c.maxLocals = nL) (hown : s.vm.findClass RX8 = some m.cls) (htw : ∀ w ∈ tw, w.before args s = true) (hp : PreV s H RX2 b Pc [a1]) (hM : Met l yX2_byteAt (tws yX2_byteAt cX2_byteAt 2 (some .int)) rm Pc Qc mc ms (tm_A Hb)) (hrm : rm.cells = mc ∧ rm.slots = ms ∧ rm.frames + 1 ≤ R.frames ∧ 8 + (2 + 11) + rm.locals ≤ R.locals) (hsize : ls.size = nL) (hrest : (rest.map fun v => v.category).sum ≤ 8) (hdg : decode cc pc = .ok (.invokevirtual 160, 3)) (hf : cells + mc ≤ R.cells ∧ slots + ms ≤ R.slots) : va_Run p l e R s m args below meth c H locs cells slots mc ms (F0 m pc ls (a1 :: .ref b :: rest)) rest (Qc #[.ref b, a1]) (tm_A Hb) := tq_runV (n := 1) (As := [a1]) hexec hb hml hown htw hp ml_X8_160 im_X2_byteAt se_X2_byteAt in_X2 co_X2_byteAt (by decide +kernel) hM hrm rfl hsize rfl hrest hdg hf
end TPR
theorem tzx_begin {l : Launch} {y : MethodName} {cc : ByteArray} {maxL : Nat} {ret : Option FieldType} {rm : Room} {av : List Value} {G : tm_G} {Hb : Heap} {sh : tm_sh} {M : tm_M} {h : Nat} {Qc : Array Value → State → Outcome → State → Prop} {XC : String → State → State → Prop} {mc ms : Nat} {free : Addr → Prop} (hy : plainName y.cls = true) (hlen : (lg_sl av).length ≤ maxL)
    (body : ∀ (p : Program) (e : Env) (s : State) (m : MethodId) (below : List Frame) (meth : Method) (c : Code) (ls : Array Slot), p.tables.exec = Jvm.exec → c.code = cc → meth.sig.returnType = ret → c.maxLocals = maxL → s.vm.findClass y.cls = some m.cls → (∀ w ∈ tw, w.before av.toArray s = true) → meth.locks = false → (∀ x ∈ c.exceptionTable.toList, False) → va_K G.1 vwCl (tm_tys G) s → tm_W G Hb sh M s.heap → tm_Cs Hb s → s.heap.size = h → lv_has ls maxL (lv_args 0 av) →
      W p l e rm s m av.toArray below meth c s.heap [] 0 0 (vx_MQ below Qc XC av.toArray s mc ms free) (F0 m 0 ls [])) : vx_Met l y (tws y cc maxL ret) rm (va_Pc av (tz_St G Hb sh M h)) Qc XC mc ms free := by
  refine vx_ofW (cc := cc) (maxL := maxL) (ret := ret) hy rfl ?_
  intro p e s m args below meth c s₁ B hml htab hv
  obtain ⟨rfl, ⟨hK, hW⟩, hC, hh⟩ := hv
  have hts := atoms_spec (ws := tws y cc maxL ret) B.pre
  have hl := lv_entry av (n := maxL) hlen
  rw [lg_entry_eq]
  exact body p e s m below meth c _ B.exec B.bytes B.returns hml (findClass_of_methodNamed B.named) (fun w hw => hts w (List.mem_cons_of_mem _ hw)) B.notSynchronized htab hK hW hC hh hl
theorem ln_ex {sh : tm_sh} {M : tm_M} {q : Nat} (h : isLn sh M q) : (sh q = some (3, 0) ∧ mR M q 0 = some (q + 1) ∧ mR M q 1 = some (q + 4)) ∧ (sh (q + 1) = some (6, 0) ∧ sh (q + 4) = some (6, 0)) ∧ (mR M (q + 1) 0 = some (q + 1 + 1) ∧ mR M (q + 1) 1 = some (q + 1 + 2) ∧ mR M (q + 4) 0 = some (q + 4 + 1) ∧ mR M (q + 4) 1 = some (q + 4 + 2)) ∧ sh (q + 1 + 1) = some (2, 0) ∧ sh (q + 1 + 2) = some (2, 0) ∧ sh (q + 4 + 1) = some (2, 0) ∧ sh (q + 4 + 2) = some (2, 0) := by
  obtain ⟨h1, h2, h3, ⟨a1, a2, a3, a4, a5⟩, b1, b2, b3, b4, b5⟩ := h
  exact ⟨⟨h1, h2, h3⟩, ⟨a1, b1⟩, ⟨a4, a5, b4, b5⟩, a2, a3, b2, b3⟩
theorem dX8_print_0 : decode cX8_print 0 = .ok (.aload_n 0, 1) := by decide +kernel
theorem dX8_print_1 : decode cX8_print 1 = .ok (.invokevirtual 81, 3) := by decide +kernel
theorem dX8_print_4 : decode cX8_print 4 = .ok (.aload_n 0, 1) := by decide +kernel
theorem dX8_print_5 : decode cX8_print 5 = .ok (.getfield 54, 3) := by decide +kernel
theorem dX8_print_8 : decode cX8_print 8 = .ok (.aload_n 0, 1) := by decide +kernel
theorem dX8_print_9 : decode cX8_print 9 = .ok (.invokevirtual 87, 3) := by decide +kernel
theorem dX8_print_12 : decode cX8_print 12 = .ok (.invokevirtual 154, 3) := by decide +kernel
theorem dX8_print_15 : decode cX8_print 15 = .ok (.aload_n 0, 1) := by decide +kernel
theorem dX8_print_16 : decode cX8_print 16 = .ok (.getfield 54, 3) := by decide +kernel
theorem dX8_print_19 : decode cX8_print 19 = .ok (.invokevirtual 156, 3) := by decide +kernel
theorem dX8_print_22 : decode cX8_print 22 = .ok (.ireturn, 1) := by decide +kernel
set_option maxHeartbeats 1000000 in
set_option maxRecDepth 100000 in
/-- TutorLines.print -/
theorem c_X8_print {l : Launch} {G : tm_G} {Hb : Heap} {sh : tm_sh} {M : tm_M} {T V cap h : Nat} {z : tl_Z} {pr : List Int} (h9 : l.stackTraces = false) (hT : isTL sh M T) (hz : TLv M T z) (hPr : mR M (T + 390) 0 = some (T + 391)) (s1 : isSB sh M (T + 391) V cap pr) : vx_Met l yX8_print (tws yX8_print cX8_print 1 (some .int)) ({ frames := 10, cells := 21, slots := 8006, locals := 219 }) (va_Pc [.ref T] (tz_St G Hb sh M h)) (tz_Qi G Hb (fun x sh1 M1 h1 => 0 < zn z ∧ x = (tl_prt (zl z (zn z - 1))).length ∧ SBx (T + 391) V h sh M (tl_prt (zl z (zn z - 1))) 0 sh1 M1 h1)) (tx_X G Hb sh (fun E M1 => E = "java/lang/IllegalStateException" ∧ zn z = 0 ∧ M1 = M)) 21 8006 (tm_A Hb) := by
  refine tzx_begin (by decide) (Nat.le_of_ble_eq_true rfl) (fun p e s m below meth c ls hx hb hr hml hown htw hlk htab hK hW hC hh hl => ?_)
  have hS : va_S (tm_A Hb) s.heap s.heap [] := va_S.rf
  have hl : lv_has ls 1 [(0, .ref T)] := hl
  have hB := hC.1.1
  have a0 := hT.1
  have r11 := hT.2.1.2.2.2.2.2.2.2.2.1
  have s390 := hT.2.2.1.2.2.2.2.1
  have hT0l := hW.free hT.1
  have hP0l := hW.free s390
  refine lv_aload_n hx hb dX8_print_0 rfl (lv_at hl 0 rfl) ?_
  refine tx_callv (cx_X8_81 hx hb hml hown htw hK hW hB hS (by assumption) (c_X8_requireTask h9 a0 (by have := hz.2.1; omega)) ⟨rfl, rfl, Nat.le_of_ble_eq_true rfl, Nat.le_of_ble_eq_true rfl⟩ hl.1 (Nat.le_of_ble_eq_true rfl) dX8_print_1 ⟨Nat.le_of_ble_eq_true rfl, Nat.le_of_ble_eq_true rfl⟩) hS (fun E9 ce9 q9 M9 H locs hp9 hW hS h91 h92 h93 => tx_out htab hlk hK hW hS h91 h92 h93 ⟨hp9.1, by have := hp9.2.1; have := hz.2.1; omega, hp9.2.2⟩ ⟨Nat.le_of_ble_eq_true rfl, Nat.le_of_ble_eq_true rfl⟩) (fun M1 H locs hp1 hW hS => ?_)
  obtain ⟨hn0, eM1⟩ := hp1
  rw [eM1] at hW
  have hn1 : 0 < zn z := by have := hz.2.1; omega
  refine lv_aload_n hx hb dX8_print_4 rfl (lv_at hl 0 rfl) ?_
  refine gf_X8_54 hx hb htw hown hK hW a0 r11 dX8_print_5 ?_
  refine lv_aload_n hx hb dX8_print_8 rfl (lv_at hl 0 rfl) ?_
  refine tm_calla (cs_X8_87 hx hb hml hown htw hK hW (by assumption) (c_X8_present (n := zn z) hT hz.2.1.1 ⟨by omega, hz.2.1.2⟩) ⟨rfl, rfl, Nat.le_of_ble_eq_true rfl, Nat.le_of_ble_eq_true rfl⟩ hl.1 (Nat.le_of_ble_eq_true rfl) dX8_print_9 ⟨Nat.le_of_ble_eq_true rfl, Nat.le_of_ble_eq_true rfl⟩) hS (fun x9 M9 H locs hp9 hW hS => ?_)
  obtain ⟨ex9, eM9⟩ := hp9
  rw [eM9] at hW
  rw [ex9]
  obtain ⟨hX12, hXe⟩ : ∃ hX12, H.size = hX12 := ⟨_, rfl⟩
  have hX0 : h ≤ hX12 := by rw [← hXe, ← hh]; exact hS.1
  have lx := ln_ex (hT.2.2.2.2.1 (zn z - 1) (by have := hz.2.1.2; omega)).2
  have hln : ln M (T + 89 + 7 * (zn z - 1)) = zl z (zn z - 1) := (hz.2.2.1 (zn z - 1) (by omega)).1
  have hlo : lok (ln M (T + 89 + 7 * (zn z - 1))) := by rw [hln]; exact (hz.2.2.1 (zn z - 1) (by omega)).2
  refine tz_callv (cq_X8_154 hx hb hml hown htw (tz_preV hK hW hC hS hXe s390 (by decide) rfl) (c_X2_write (h := hX12) (P := T + 390) (q := T + 391) (w := (T + 89 + 7 * (zn z - 1))) ⟨s390, hPr⟩ s1 lx.1.1 lx.1.2.1 lx.1.2.2 lx.2.1.1 lx.2.1.2 lx.2.2.1.1 lx.2.2.1.2.1 lx.2.2.1.2.2.1 lx.2.2.1.2.2.2 lx.2.2.2.1 lx.2.2.2.2.1 lx.2.2.2.2.2.1 lx.2.2.2.2.2.2 hlo) ⟨rfl, rfl, Nat.le_of_ble_eq_true rfl, Nat.le_of_ble_eq_true rfl⟩ hl.1 (Nat.le_of_ble_eq_true rfl) dX8_print_12 ⟨(by first | omega | (dsimp only; omega)), (by first | omega | (dsimp only; omega))⟩) hS (fun sh12 M12 h12 H locs hp12 hW hS hz12 => ?_)
  rw [show ((((mL M ((T + 89 + 7 * (zn z - 1)) + 1 + 1) 0, mL M ((T + 89 + 7 * (zn z - 1)) + 1 + 1) 1), (mL M ((T + 89 + 7 * (zn z - 1)) + 1 + 2) 0, mL M ((T + 89 + 7 * (zn z - 1)) + 1 + 2) 1)), ((mL M ((T + 89 + 7 * (zn z - 1)) + 4 + 1) 0, mL M ((T + 89 + 7 * (zn z - 1)) + 4 + 1) 1), (mL M ((T + 89 + 7 * (zn z - 1)) + 4 + 2) 0, mL M ((T + 89 + 7 * (zn z - 1)) + 4 + 2) 1)), mI M (T + 89 + 7 * (zn z - 1)) 2) : tl_L) = zl z (zn z - 1) from hln] at hp12
  have B12 : SBx (T + 391) V h sh M (tl_prt (zl z (zn z - 1))) 0 sh12 M12 H.size := SBx_c (V1 := V) (h1 := hX12) (Or.inl rfl) hX0 (fun _ _ => rfl) (fun _ _ _ _ _ => ⟨rfl, rfl, rfl⟩) hp12 hz12
  obtain ⟨V1, cap1, s2, -, rV, rh, rs, rm⟩ := (id B12)
  have n0 : T ≠ T + 391 := by omega
  have TS := hT.1
  have Tl : T < h := by rw [← hh]; exact hT0l
  have TV : T ≠ V := fun z => by have h8 := s1.2.2.1; rw [← z, TS] at h8; cases h8
  have Pl : T + 390 < h := by rw [← hh]; exact hP0l
  have PV : T + 390 ≠ V := fun z => by have h8 := s1.2.2.1; rw [← z, s390] at h8; cases h8
  have TS1 := (rs T Tl).trans TS
  have r111 := (rm T 11 Tl n0 TV).1.trans r11
  have PS1 := (rs (T + 390) Pl).trans s390
  have PR1 := (rm (T + 390) 0 Pl (by omega) PV).1.trans hPr
  refine lv_aload_n hx hb dX8_print_15 rfl (lv_at hl 0 rfl) ?_
  refine gf_X8_54 hx hb htw hown hK hW TS1 r111 dX8_print_16 ?_
  refine tm_calli (cq_X8_156 hx hb hml hown htw (tm_preV hK hW PS1 (by decide) rfl) (c_X2_size (P := T + 390) ⟨PS1, PR1⟩ s2) ⟨rfl, rfl, Nat.le_of_ble_eq_true rfl, Nat.le_of_ble_eq_true rfl⟩ hl.1 (Nat.le_of_ble_eq_true rfl) dX8_print_19 ⟨(by first | omega | (dsimp only; omega)), (by first | omega | (dsimp only; omega))⟩) hS (fun x19 M19 H locs hp19 hW hS => ?_)
  obtain ⟨ex19, eM19⟩ := hp19
  rw [eM19] at hW
  rw [ex19]
  exact vx_ret (W.widen (k := 21) (n := 8006) (by first | omega | (dsimp only; omega)) (by first | omega | (dsimp only; omega)) (tz_iret hx hb hr hlk rfl hK hW hS rfl ⟨by omega, rfl, SBx_h B12 (by rw [← hh]; exact hS.1)⟩ dX8_print_22))
