/-! constructors: the model, the tutor (by program: wip/whole/gen/ct4.py) -/
def tl_L0 : tl_L := (((0, 1), (0, 1)), ((0, 1), (0, 1)), 0)
/-- a new object's state -/
def z00 : tl_Z := (fun _ => 0, 0, fun _ => tl_L0, 0, 0, tl_L0, fun _ => 0, fun _ => 0)
theorem ZI_00 : ZI z00 := ⟨fun _ => ⟨(by decide : (0 : Int) ≤ 0), (by decide : (0 : Int) < 256)⟩, Nat.zero_le _, fun i hi => absurd hi (Nat.not_lt_zero i), Or.inl rfl, fun q => absurd (show (0 : Int) = 1 from q) (by decide), fun _ _ _ => ⟨(by decide : (0 : Int) ≤ 0), (by decide : (0 : Int) ≤ 10)⟩⟩
theorem zM_Iz {M : tm_M} {q j f x : Nat} {v : Option Nat} (h : ∀ a k, q ≤ a → a ≤ q + j → mI M a k = 0) : ∀ a k, q ≤ a → a ≤ q + (j + 1) → mI (sR (zM M (q + (j + 1))) x f v) a k = 0 := fun a k h1 h2 => by
  show mI (zM M (q + (j + 1))) a k = 0
  by_cases e : a = q + (j + 1)
  · rw [e]
    exact zM_Is k
  · exact (zM_I e k).trans (h a k h1 (by omega))
theorem dX9_init_0 : decode cX9_init 0 = .ok (.aload_n 0, 1) := by decide +kernel
theorem dX9_init_1 : decode cX9_init 1 = .ok (.invokespecial 1, 3) := by decide +kernel
theorem dX9_init_4 : decode cX9_init 4 = .ok (.aload_n 0, 1) := by decide +kernel
theorem dX9_init_5 : decode cX9_init 5 = .ok (.bipush 80, 2) := by decide +kernel
theorem dX9_init_7 : decode cX9_init 7 = .ok (.newarray .int, 2) := by decide +kernel
theorem dX9_init_9 : decode cX9_init 9 = .ok (.putfield 7, 3) := by decide +kernel
theorem dX9_init_12 : decode cX9_init 12 = .ok (.aload_n 0, 1) := by decide +kernel
theorem dX9_init_13 : decode cX9_init 13 = .ok (.sipush 396, 3) := by decide +kernel
theorem dX9_init_16 : decode cX9_init 16 = .ok (.newarray .long, 2) := by decide +kernel
theorem dX9_init_18 : decode cX9_init 18 = .ok (.putfield 13, 3) := by decide +kernel
theorem dX9_init_21 : decode cX9_init 21 = .ok (.aload_n 0, 1) := by decide +kernel
theorem dX9_init_22 : decode cX9_init 22 = .ok (.iconst 4, 1) := by decide +kernel
theorem dX9_init_23 : decode cX9_init 23 = .ok (.newarray .int, 2) := by decide +kernel
theorem dX9_init_25 : decode cX9_init 25 = .ok (.putfield 17, 3) := by decide +kernel
theorem dX9_init_28 : decode cX9_init 28 = .ok (.aload_n 0, 1) := by decide +kernel
theorem dX9_init_29 : decode cX9_init 29 = .ok (.iconst 4, 1) := by decide +kernel
theorem dX9_init_30 : decode cX9_init 30 = .ok (.newarray .int, 2) := by decide +kernel
theorem dX9_init_32 : decode cX9_init 32 = .ok (.putfield 20, 3) := by decide +kernel
theorem dX9_init_35 : decode cX9_init 35 = .ok (.aload_n 0, 1) := by decide +kernel
theorem dX9_init_36 : decode cX9_init 36 = .ok (.sipush 128, 3) := by decide +kernel
theorem dX9_init_39 : decode cX9_init 39 = .ok (.newarray .int, 2) := by decide +kernel
theorem dX9_init_41 : decode cX9_init 41 = .ok (.putfield 23, 3) := by decide +kernel
theorem dX9_init_44 : decode cX9_init 44 = .ok (.aload_n 0, 1) := by decide +kernel
theorem dX9_init_45 : decode cX9_init 45 = .ok (.bipush 36, 2) := by decide +kernel
theorem dX9_init_47 : decode cX9_init 47 = .ok (.newarray .long, 2) := by decide +kernel
theorem dX9_init_49 : decode cX9_init 49 = .ok (.putfield 26, 3) := by decide +kernel
theorem dX9_init_52 : decode cX9_init 52 = .ok (.aload_n 0, 1) := by decide +kernel
theorem dX9_init_53 : decode cX9_init 53 = .ok (.bipush 36, 2) := by decide +kernel
theorem dX9_init_55 : decode cX9_init 55 = .ok (.newarray .long, 2) := by decide +kernel
theorem dX9_init_57 : decode cX9_init 57 = .ok (.putfield 29, 3) := by decide +kernel
theorem dX9_init_60 : decode cX9_init 60 = .ok (.aload_n 0, 1) := by decide +kernel
theorem dX9_init_61 : decode cX9_init 61 = .ok (.bipush 9, 2) := by decide +kernel
theorem dX9_init_63 : decode cX9_init 63 = .ok (.newarray .boolean, 2) := by decide +kernel
theorem dX9_init_65 : decode cX9_init 65 = .ok (.putfield 32, 3) := by decide +kernel
theorem dX9_init_68 : decode cX9_init 68 = .ok (.aload_n 0, 1) := by decide +kernel
theorem dX9_init_69 : decode cX9_init 69 = .ok (.bipush 9, 2) := by decide +kernel
theorem dX9_init_71 : decode cX9_init 71 = .ok (.newarray .int, 2) := by decide +kernel
theorem dX9_init_73 : decode cX9_init 73 = .ok (.putfield 36, 3) := by decide +kernel
theorem dX9_init_76 : decode cX9_init 76 = .ok (.aload_n 0, 1) := by decide +kernel
theorem dX9_init_77 : decode cX9_init 77 = .ok (.bipush 9, 2) := by decide +kernel
theorem dX9_init_79 : decode cX9_init 79 = .ok (.newarray .int, 2) := by decide +kernel
theorem dX9_init_81 : decode cX9_init 81 = .ok (.putfield 39, 3) := by decide +kernel
theorem dX9_init_84 : decode cX9_init 84 = .ok (.aload_n 0, 1) := by decide +kernel
theorem dX9_init_85 : decode cX9_init 85 = .ok (.bipush 9, 2) := by decide +kernel
theorem dX9_init_87 : decode cX9_init 87 = .ok (.newarray .int, 2) := by decide +kernel
theorem dX9_init_89 : decode cX9_init 89 = .ok (.putfield 42, 3) := by decide +kernel
theorem dX9_init_92 : decode cX9_init 92 = .ok (.aload_n 0, 1) := by decide +kernel
theorem dX9_init_93 : decode cX9_init 93 = .ok (.iconst 4, 1) := by decide +kernel
theorem dX9_init_94 : decode cX9_init 94 = .ok (.newarray .long, 2) := by decide +kernel
theorem dX9_init_96 : decode cX9_init 96 = .ok (.putfield 45, 3) := by decide +kernel
theorem dX9_init_99 : decode cX9_init 99 = .ok (.return_, 1) := by decide +kernel
set_option maxHeartbeats 1000000 in
set_option maxRecDepth 100000 in
/-- TutorLinesModel.<init> -/
theorem c_X9_init {l : Launch} {G : tm_G} {Hb : Heap} {sh : tm_sh} {M : tm_M} {q : Nat} (hq : sh q = some (9, 0)) (hz0 : ∀ k, mI M q k = 0) : Met l yX9_init (tws yX9_init cX9_init 1 none) ({ frames := 1, cells := 12, slots := 724, locals := 20 }) (va_Pc [.ref q] (tz_St G Hb sh M (q + 1))) (tz_Qv G Hb (fun sh1 M1 h1 => MLv sh1 M1 q z00 ∧ MO M1 q [] ∧ gq q sh M sh1 M1 ∧ h1 = q + 13)) 12 724 (tm_A Hb) := by
  refine tz_begin (by decide) (Nat.le_of_ble_eq_true rfl) (fun p e s m below meth c ls hx hb hr hml hown htw hlk hnm hK hW hC hh hl => ?_)
  have hS : va_S (tm_A Hb) s.heap s.heap [] := va_S.rf
  have hl : lv_has ls 1 [(0, .ref q)] := hl
  have q0b := hq
  have z0 : ∀ a k, q ≤ a → a ≤ q + 0 → mI M a k = 0 := fun a k h1 h2 => by rw [show a = q by omega]; exact hz0 k
  have g0 : gq q sh M sh M := gq_rf
  refine lv_aload_n hx hb dX9_init_0 rfl (lv_at hl 0 rfl) ?_
  refine tm_oi hx hb hml hl.1 hown htw oi_X9_1 ⟨Nat.le_of_ble_eq_true rfl, Nat.le_of_ble_eq_true rfl⟩ (Nat.le_of_ble_eq_true rfl) dX9_init_1 ?_
  refine lv_aload_n hx hb dX9_init_4 rfl (lv_at hl 0 rfl) ?_
  refine ti_bipush hx hb dX9_init_5 (by decide) ?_
  refine na_int (N := 80) hx hb htw hK hW hS hh rfl (by omega) (by first | omega | (dsimp only; omega)) (by first | omega | (dsimp only; omega)) dX9_init_7 (fun H hW hS hh => ?_)
  have q1b : sN sh (q + 1) 20 80 q = some (9, 0) := (sN_n (by omega)).trans q0b
  refine pz_X9_7 hx hb htw hown hK hW q1b hS hnm dX9_init_9 (fun H locs hW hS hz => ?_)
  replace hh := hz.trans hh
  have r1_1 : mR (sR (zM M (q + 1)) q 1 (some (q + 1))) q 1 = some (q + 1) := tm_up_s _ _ _ _
  have s1_1 : sN sh (q + 1) 20 80 (q + 1) = some (20, 80) := sN_s
  have z1 : ∀ a k, q ≤ a → a ≤ q + 1 → mI (sR (zM M (q + 1)) q 1 (some (q + 1))) a k = 0 := fun a k h1 h2 => zM_Iz z0 a k h1 h2
  have g1 : gq q sh M (sN sh (q + 1) 20 80) (sR (zM M (q + 1)) q 1 (some (q + 1))) := gq_tr g0 (gq_tr (gq_new (by omega)) (gq_sR (Nat.le_refl q)))
  generalize hS1 : sN sh (q + 1) 20 80 = S1 at hW s1_1 q1b g1
  generalize hM1 : sR (zM M (q + 1)) q 1 (some (q + 1)) = N1 at hW r1_1 z1 g1
  clear hS1 hM1
  refine lv_aload_n hx hb dX9_init_12 rfl (lv_at hl 0 rfl) ?_
  refine ti_sipush hx hb dX9_init_13 (by decide) ?_
  refine na_long (N := 396) hx hb htw hK hW hS hh rfl (by omega) (by first | omega | (dsimp only; omega)) (by first | omega | (dsimp only; omega)) dX9_init_16 (fun H hW hS hh => ?_)
  have q2b : sN S1 (q + 2) 21 396 q = some (9, 0) := (sN_n (by omega)).trans q1b
  refine pz_X9_13 hx hb htw hown hK hW q2b hS hnm dX9_init_18 (fun H locs hW hS hz => ?_)
  replace hh := hz.trans hh
  have r2_1 : mR (sR (zM N1 (q + 2)) q 2 (some (q + 2))) q 1 = some (q + 1) := (tm_up_k _ _ (by decide)).trans ((zM_R (by omega) _).trans r1_1)
  have s2_1 : sN S1 (q + 2) 21 396 (q + 1) = some (20, 80) := (sN_n (by omega)).trans s1_1
  have r2_2 : mR (sR (zM N1 (q + 2)) q 2 (some (q + 2))) q 2 = some (q + 2) := tm_up_s _ _ _ _
  have s2_2 : sN S1 (q + 2) 21 396 (q + 2) = some (21, 396) := sN_s
  have z2 : ∀ a k, q ≤ a → a ≤ q + 2 → mI (sR (zM N1 (q + 2)) q 2 (some (q + 2))) a k = 0 := fun a k h1 h2 => zM_Iz z1 a k h1 h2
  have g2 : gq q sh M (sN S1 (q + 2) 21 396) (sR (zM N1 (q + 2)) q 2 (some (q + 2))) := gq_tr g1 (gq_tr (gq_new (by omega)) (gq_sR (Nat.le_refl q)))
  generalize hS2 : sN S1 (q + 2) 21 396 = S2 at hW s2_1 s2_2 q2b g2
  generalize hM2 : sR (zM N1 (q + 2)) q 2 (some (q + 2)) = N2 at hW r2_1 r2_2 z2 g2
  clear hS2 hM2
  refine lv_aload_n hx hb dX9_init_21 rfl (lv_at hl 0 rfl) ?_
  refine ti_iconst hx hb dX9_init_22 ?_
  refine na_int (N := 4) hx hb htw hK hW hS hh rfl (by omega) (by first | omega | (dsimp only; omega)) (by first | omega | (dsimp only; omega)) dX9_init_23 (fun H hW hS hh => ?_)
  have q3b : sN S2 (q + 3) 20 4 q = some (9, 0) := (sN_n (by omega)).trans q2b
  refine pz_X9_17 hx hb htw hown hK hW q3b hS hnm dX9_init_25 (fun H locs hW hS hz => ?_)
  replace hh := hz.trans hh
  have r3_1 : mR (sR (zM N2 (q + 3)) q 6 (some (q + 3))) q 1 = some (q + 1) := (tm_up_k _ _ (by decide)).trans ((zM_R (by omega) _).trans r2_1)
  have s3_1 : sN S2 (q + 3) 20 4 (q + 1) = some (20, 80) := (sN_n (by omega)).trans s2_1
  have r3_2 : mR (sR (zM N2 (q + 3)) q 6 (some (q + 3))) q 2 = some (q + 2) := (tm_up_k _ _ (by decide)).trans ((zM_R (by omega) _).trans r2_2)
  have s3_2 : sN S2 (q + 3) 20 4 (q + 2) = some (21, 396) := (sN_n (by omega)).trans s2_2
  have r3_3 : mR (sR (zM N2 (q + 3)) q 6 (some (q + 3))) q 6 = some (q + 3) := tm_up_s _ _ _ _
  have s3_3 : sN S2 (q + 3) 20 4 (q + 3) = some (20, 4) := sN_s
  have z3 : ∀ a k, q ≤ a → a ≤ q + 3 → mI (sR (zM N2 (q + 3)) q 6 (some (q + 3))) a k = 0 := fun a k h1 h2 => zM_Iz z2 a k h1 h2
  have g3 : gq q sh M (sN S2 (q + 3) 20 4) (sR (zM N2 (q + 3)) q 6 (some (q + 3))) := gq_tr g2 (gq_tr (gq_new (by omega)) (gq_sR (Nat.le_refl q)))
  generalize hS3 : sN S2 (q + 3) 20 4 = S3 at hW s3_1 s3_2 s3_3 q3b g3
  generalize hM3 : sR (zM N2 (q + 3)) q 6 (some (q + 3)) = N3 at hW r3_1 r3_2 r3_3 z3 g3
  clear hS3 hM3
  refine lv_aload_n hx hb dX9_init_28 rfl (lv_at hl 0 rfl) ?_
  refine ti_iconst hx hb dX9_init_29 ?_
  refine na_int (N := 4) hx hb htw hK hW hS hh rfl (by omega) (by first | omega | (dsimp only; omega)) (by first | omega | (dsimp only; omega)) dX9_init_30 (fun H hW hS hh => ?_)
  have q4b : sN S3 (q + 4) 20 4 q = some (9, 0) := (sN_n (by omega)).trans q3b
  refine pz_X9_20 hx hb htw hown hK hW q4b hS hnm dX9_init_32 (fun H locs hW hS hz => ?_)
  replace hh := hz.trans hh
  have r4_1 : mR (sR (zM N3 (q + 4)) q 7 (some (q + 4))) q 1 = some (q + 1) := (tm_up_k _ _ (by decide)).trans ((zM_R (by omega) _).trans r3_1)
  have s4_1 : sN S3 (q + 4) 20 4 (q + 1) = some (20, 80) := (sN_n (by omega)).trans s3_1
  have r4_2 : mR (sR (zM N3 (q + 4)) q 7 (some (q + 4))) q 2 = some (q + 2) := (tm_up_k _ _ (by decide)).trans ((zM_R (by omega) _).trans r3_2)
  have s4_2 : sN S3 (q + 4) 20 4 (q + 2) = some (21, 396) := (sN_n (by omega)).trans s3_2
  have r4_3 : mR (sR (zM N3 (q + 4)) q 7 (some (q + 4))) q 6 = some (q + 3) := (tm_up_k _ _ (by decide)).trans ((zM_R (by omega) _).trans r3_3)
  have s4_3 : sN S3 (q + 4) 20 4 (q + 3) = some (20, 4) := (sN_n (by omega)).trans s3_3
  have r4_4 : mR (sR (zM N3 (q + 4)) q 7 (some (q + 4))) q 7 = some (q + 4) := tm_up_s _ _ _ _
  have s4_4 : sN S3 (q + 4) 20 4 (q + 4) = some (20, 4) := sN_s
  have z4 : ∀ a k, q ≤ a → a ≤ q + 4 → mI (sR (zM N3 (q + 4)) q 7 (some (q + 4))) a k = 0 := fun a k h1 h2 => zM_Iz z3 a k h1 h2
  have g4 : gq q sh M (sN S3 (q + 4) 20 4) (sR (zM N3 (q + 4)) q 7 (some (q + 4))) := gq_tr g3 (gq_tr (gq_new (by omega)) (gq_sR (Nat.le_refl q)))
  generalize hS4 : sN S3 (q + 4) 20 4 = S4 at hW s4_1 s4_2 s4_3 s4_4 q4b g4
  generalize hM4 : sR (zM N3 (q + 4)) q 7 (some (q + 4)) = N4 at hW r4_1 r4_2 r4_3 r4_4 z4 g4
  clear hS4 hM4
  refine lv_aload_n hx hb dX9_init_35 rfl (lv_at hl 0 rfl) ?_
  refine ti_sipush hx hb dX9_init_36 (by decide) ?_
  refine na_int (N := 128) hx hb htw hK hW hS hh rfl (by omega) (by first | omega | (dsimp only; omega)) (by first | omega | (dsimp only; omega)) dX9_init_39 (fun H hW hS hh => ?_)
  have q5b : sN S4 (q + 5) 20 128 q = some (9, 0) := (sN_n (by omega)).trans q4b
  refine pz_X9_23 hx hb htw hown hK hW q5b hS hnm dX9_init_41 (fun H locs hW hS hz => ?_)
  replace hh := hz.trans hh
  have r5_1 : mR (sR (zM N4 (q + 5)) q 9 (some (q + 5))) q 1 = some (q + 1) := (tm_up_k _ _ (by decide)).trans ((zM_R (by omega) _).trans r4_1)
  have s5_1 : sN S4 (q + 5) 20 128 (q + 1) = some (20, 80) := (sN_n (by omega)).trans s4_1
  have r5_2 : mR (sR (zM N4 (q + 5)) q 9 (some (q + 5))) q 2 = some (q + 2) := (tm_up_k _ _ (by decide)).trans ((zM_R (by omega) _).trans r4_2)
  have s5_2 : sN S4 (q + 5) 20 128 (q + 2) = some (21, 396) := (sN_n (by omega)).trans s4_2
  have r5_3 : mR (sR (zM N4 (q + 5)) q 9 (some (q + 5))) q 6 = some (q + 3) := (tm_up_k _ _ (by decide)).trans ((zM_R (by omega) _).trans r4_3)
  have s5_3 : sN S4 (q + 5) 20 128 (q + 3) = some (20, 4) := (sN_n (by omega)).trans s4_3
  have r5_4 : mR (sR (zM N4 (q + 5)) q 9 (some (q + 5))) q 7 = some (q + 4) := (tm_up_k _ _ (by decide)).trans ((zM_R (by omega) _).trans r4_4)
  have s5_4 : sN S4 (q + 5) 20 128 (q + 4) = some (20, 4) := (sN_n (by omega)).trans s4_4
  have r5_5 : mR (sR (zM N4 (q + 5)) q 9 (some (q + 5))) q 9 = some (q + 5) := tm_up_s _ _ _ _
  have s5_5 : sN S4 (q + 5) 20 128 (q + 5) = some (20, 128) := sN_s
  have z5 : ∀ a k, q ≤ a → a ≤ q + 5 → mI (sR (zM N4 (q + 5)) q 9 (some (q + 5))) a k = 0 := fun a k h1 h2 => zM_Iz z4 a k h1 h2
  have g5 : gq q sh M (sN S4 (q + 5) 20 128) (sR (zM N4 (q + 5)) q 9 (some (q + 5))) := gq_tr g4 (gq_tr (gq_new (by omega)) (gq_sR (Nat.le_refl q)))
  generalize hS5 : sN S4 (q + 5) 20 128 = S5 at hW s5_1 s5_2 s5_3 s5_4 s5_5 q5b g5
  generalize hM5 : sR (zM N4 (q + 5)) q 9 (some (q + 5)) = N5 at hW r5_1 r5_2 r5_3 r5_4 r5_5 z5 g5
  clear hS5 hM5
  refine lv_aload_n hx hb dX9_init_44 rfl (lv_at hl 0 rfl) ?_
  refine ti_bipush hx hb dX9_init_45 (by decide) ?_
  refine na_long (N := 36) hx hb htw hK hW hS hh rfl (by omega) (by first | omega | (dsimp only; omega)) (by first | omega | (dsimp only; omega)) dX9_init_47 (fun H hW hS hh => ?_)
  have q6b : sN S5 (q + 6) 21 36 q = some (9, 0) := (sN_n (by omega)).trans q5b
  refine pz_X9_26 hx hb htw hown hK hW q6b hS hnm dX9_init_49 (fun H locs hW hS hz => ?_)
  replace hh := hz.trans hh
  have r6_1 : mR (sR (zM N5 (q + 6)) q 12 (some (q + 6))) q 1 = some (q + 1) := (tm_up_k _ _ (by decide)).trans ((zM_R (by omega) _).trans r5_1)
  have s6_1 : sN S5 (q + 6) 21 36 (q + 1) = some (20, 80) := (sN_n (by omega)).trans s5_1
  have r6_2 : mR (sR (zM N5 (q + 6)) q 12 (some (q + 6))) q 2 = some (q + 2) := (tm_up_k _ _ (by decide)).trans ((zM_R (by omega) _).trans r5_2)
  have s6_2 : sN S5 (q + 6) 21 36 (q + 2) = some (21, 396) := (sN_n (by omega)).trans s5_2
  have r6_3 : mR (sR (zM N5 (q + 6)) q 12 (some (q + 6))) q 6 = some (q + 3) := (tm_up_k _ _ (by decide)).trans ((zM_R (by omega) _).trans r5_3)
  have s6_3 : sN S5 (q + 6) 21 36 (q + 3) = some (20, 4) := (sN_n (by omega)).trans s5_3
  have r6_4 : mR (sR (zM N5 (q + 6)) q 12 (some (q + 6))) q 7 = some (q + 4) := (tm_up_k _ _ (by decide)).trans ((zM_R (by omega) _).trans r5_4)
  have s6_4 : sN S5 (q + 6) 21 36 (q + 4) = some (20, 4) := (sN_n (by omega)).trans s5_4
  have r6_5 : mR (sR (zM N5 (q + 6)) q 12 (some (q + 6))) q 9 = some (q + 5) := (tm_up_k _ _ (by decide)).trans ((zM_R (by omega) _).trans r5_5)
  have s6_5 : sN S5 (q + 6) 21 36 (q + 5) = some (20, 128) := (sN_n (by omega)).trans s5_5
  have r6_6 : mR (sR (zM N5 (q + 6)) q 12 (some (q + 6))) q 12 = some (q + 6) := tm_up_s _ _ _ _
  have s6_6 : sN S5 (q + 6) 21 36 (q + 6) = some (21, 36) := sN_s
  have z6 : ∀ a k, q ≤ a → a ≤ q + 6 → mI (sR (zM N5 (q + 6)) q 12 (some (q + 6))) a k = 0 := fun a k h1 h2 => zM_Iz z5 a k h1 h2
  have g6 : gq q sh M (sN S5 (q + 6) 21 36) (sR (zM N5 (q + 6)) q 12 (some (q + 6))) := gq_tr g5 (gq_tr (gq_new (by omega)) (gq_sR (Nat.le_refl q)))
  generalize hS6 : sN S5 (q + 6) 21 36 = S6 at hW s6_1 s6_2 s6_3 s6_4 s6_5 s6_6 q6b g6
  generalize hM6 : sR (zM N5 (q + 6)) q 12 (some (q + 6)) = N6 at hW r6_1 r6_2 r6_3 r6_4 r6_5 r6_6 z6 g6
  clear hS6 hM6
  refine lv_aload_n hx hb dX9_init_52 rfl (lv_at hl 0 rfl) ?_
  refine ti_bipush hx hb dX9_init_53 (by decide) ?_
  refine na_long (N := 36) hx hb htw hK hW hS hh rfl (by omega) (by first | omega | (dsimp only; omega)) (by first | omega | (dsimp only; omega)) dX9_init_55 (fun H hW hS hh => ?_)
  have q7b : sN S6 (q + 7) 21 36 q = some (9, 0) := (sN_n (by omega)).trans q6b
  refine pz_X9_29 hx hb htw hown hK hW q7b hS hnm dX9_init_57 (fun H locs hW hS hz => ?_)
  replace hh := hz.trans hh
  have r7_1 : mR (sR (zM N6 (q + 7)) q 13 (some (q + 7))) q 1 = some (q + 1) := (tm_up_k _ _ (by decide)).trans ((zM_R (by omega) _).trans r6_1)
  have s7_1 : sN S6 (q + 7) 21 36 (q + 1) = some (20, 80) := (sN_n (by omega)).trans s6_1
  have r7_2 : mR (sR (zM N6 (q + 7)) q 13 (some (q + 7))) q 2 = some (q + 2) := (tm_up_k _ _ (by decide)).trans ((zM_R (by omega) _).trans r6_2)
  have s7_2 : sN S6 (q + 7) 21 36 (q + 2) = some (21, 396) := (sN_n (by omega)).trans s6_2
  have r7_3 : mR (sR (zM N6 (q + 7)) q 13 (some (q + 7))) q 6 = some (q + 3) := (tm_up_k _ _ (by decide)).trans ((zM_R (by omega) _).trans r6_3)
  have s7_3 : sN S6 (q + 7) 21 36 (q + 3) = some (20, 4) := (sN_n (by omega)).trans s6_3
  have r7_4 : mR (sR (zM N6 (q + 7)) q 13 (some (q + 7))) q 7 = some (q + 4) := (tm_up_k _ _ (by decide)).trans ((zM_R (by omega) _).trans r6_4)
  have s7_4 : sN S6 (q + 7) 21 36 (q + 4) = some (20, 4) := (sN_n (by omega)).trans s6_4
  have r7_5 : mR (sR (zM N6 (q + 7)) q 13 (some (q + 7))) q 9 = some (q + 5) := (tm_up_k _ _ (by decide)).trans ((zM_R (by omega) _).trans r6_5)
  have s7_5 : sN S6 (q + 7) 21 36 (q + 5) = some (20, 128) := (sN_n (by omega)).trans s6_5
  have r7_6 : mR (sR (zM N6 (q + 7)) q 13 (some (q + 7))) q 12 = some (q + 6) := (tm_up_k _ _ (by decide)).trans ((zM_R (by omega) _).trans r6_6)
  have s7_6 : sN S6 (q + 7) 21 36 (q + 6) = some (21, 36) := (sN_n (by omega)).trans s6_6
  have r7_7 : mR (sR (zM N6 (q + 7)) q 13 (some (q + 7))) q 13 = some (q + 7) := tm_up_s _ _ _ _
  have s7_7 : sN S6 (q + 7) 21 36 (q + 7) = some (21, 36) := sN_s
  have z7 : ∀ a k, q ≤ a → a ≤ q + 7 → mI (sR (zM N6 (q + 7)) q 13 (some (q + 7))) a k = 0 := fun a k h1 h2 => zM_Iz z6 a k h1 h2
  have g7 : gq q sh M (sN S6 (q + 7) 21 36) (sR (zM N6 (q + 7)) q 13 (some (q + 7))) := gq_tr g6 (gq_tr (gq_new (by omega)) (gq_sR (Nat.le_refl q)))
  generalize hS7 : sN S6 (q + 7) 21 36 = S7 at hW s7_1 s7_2 s7_3 s7_4 s7_5 s7_6 s7_7 q7b g7
  generalize hM7 : sR (zM N6 (q + 7)) q 13 (some (q + 7)) = N7 at hW r7_1 r7_2 r7_3 r7_4 r7_5 r7_6 r7_7 z7 g7
  clear hS7 hM7
  refine lv_aload_n hx hb dX9_init_60 rfl (lv_at hl 0 rfl) ?_
  refine ti_bipush hx hb dX9_init_61 (by decide) ?_
  refine na_boolean (N := 9) hx hb htw hK hW hS hh rfl (by omega) (by first | omega | (dsimp only; omega)) (by first | omega | (dsimp only; omega)) dX9_init_63 (fun H hW hS hh => ?_)
  have q8b : sN S7 (q + 8) 23 9 q = some (9, 0) := (sN_n (by omega)).trans q7b
  refine pz_X9_32 hx hb htw hown hK hW q8b hS hnm dX9_init_65 (fun H locs hW hS hz => ?_)
  replace hh := hz.trans hh
  have r8_1 : mR (sR (zM N7 (q + 8)) q 14 (some (q + 8))) q 1 = some (q + 1) := (tm_up_k _ _ (by decide)).trans ((zM_R (by omega) _).trans r7_1)
  have s8_1 : sN S7 (q + 8) 23 9 (q + 1) = some (20, 80) := (sN_n (by omega)).trans s7_1
  have r8_2 : mR (sR (zM N7 (q + 8)) q 14 (some (q + 8))) q 2 = some (q + 2) := (tm_up_k _ _ (by decide)).trans ((zM_R (by omega) _).trans r7_2)
  have s8_2 : sN S7 (q + 8) 23 9 (q + 2) = some (21, 396) := (sN_n (by omega)).trans s7_2
  have r8_3 : mR (sR (zM N7 (q + 8)) q 14 (some (q + 8))) q 6 = some (q + 3) := (tm_up_k _ _ (by decide)).trans ((zM_R (by omega) _).trans r7_3)
  have s8_3 : sN S7 (q + 8) 23 9 (q + 3) = some (20, 4) := (sN_n (by omega)).trans s7_3
  have r8_4 : mR (sR (zM N7 (q + 8)) q 14 (some (q + 8))) q 7 = some (q + 4) := (tm_up_k _ _ (by decide)).trans ((zM_R (by omega) _).trans r7_4)
  have s8_4 : sN S7 (q + 8) 23 9 (q + 4) = some (20, 4) := (sN_n (by omega)).trans s7_4
  have r8_5 : mR (sR (zM N7 (q + 8)) q 14 (some (q + 8))) q 9 = some (q + 5) := (tm_up_k _ _ (by decide)).trans ((zM_R (by omega) _).trans r7_5)
  have s8_5 : sN S7 (q + 8) 23 9 (q + 5) = some (20, 128) := (sN_n (by omega)).trans s7_5
  have r8_6 : mR (sR (zM N7 (q + 8)) q 14 (some (q + 8))) q 12 = some (q + 6) := (tm_up_k _ _ (by decide)).trans ((zM_R (by omega) _).trans r7_6)
  have s8_6 : sN S7 (q + 8) 23 9 (q + 6) = some (21, 36) := (sN_n (by omega)).trans s7_6
  have r8_7 : mR (sR (zM N7 (q + 8)) q 14 (some (q + 8))) q 13 = some (q + 7) := (tm_up_k _ _ (by decide)).trans ((zM_R (by omega) _).trans r7_7)
  have s8_7 : sN S7 (q + 8) 23 9 (q + 7) = some (21, 36) := (sN_n (by omega)).trans s7_7
  have r8_8 : mR (sR (zM N7 (q + 8)) q 14 (some (q + 8))) q 14 = some (q + 8) := tm_up_s _ _ _ _
  have s8_8 : sN S7 (q + 8) 23 9 (q + 8) = some (23, 9) := sN_s
  have z8 : ∀ a k, q ≤ a → a ≤ q + 8 → mI (sR (zM N7 (q + 8)) q 14 (some (q + 8))) a k = 0 := fun a k h1 h2 => zM_Iz z7 a k h1 h2
  have g8 : gq q sh M (sN S7 (q + 8) 23 9) (sR (zM N7 (q + 8)) q 14 (some (q + 8))) := gq_tr g7 (gq_tr (gq_new (by omega)) (gq_sR (Nat.le_refl q)))
  generalize hS8 : sN S7 (q + 8) 23 9 = S8 at hW s8_1 s8_2 s8_3 s8_4 s8_5 s8_6 s8_7 s8_8 q8b g8
  generalize hM8 : sR (zM N7 (q + 8)) q 14 (some (q + 8)) = N8 at hW r8_1 r8_2 r8_3 r8_4 r8_5 r8_6 r8_7 r8_8 z8 g8
  clear hS8 hM8
  refine lv_aload_n hx hb dX9_init_68 rfl (lv_at hl 0 rfl) ?_
  refine ti_bipush hx hb dX9_init_69 (by decide) ?_
  refine na_int (N := 9) hx hb htw hK hW hS hh rfl (by omega) (by first | omega | (dsimp only; omega)) (by first | omega | (dsimp only; omega)) dX9_init_71 (fun H hW hS hh => ?_)
  have q9b : sN S8 (q + 9) 20 9 q = some (9, 0) := (sN_n (by omega)).trans q8b
  refine pz_X9_36 hx hb htw hown hK hW q9b hS hnm dX9_init_73 (fun H locs hW hS hz => ?_)
  replace hh := hz.trans hh
  have r9_1 : mR (sR (zM N8 (q + 9)) q 15 (some (q + 9))) q 1 = some (q + 1) := (tm_up_k _ _ (by decide)).trans ((zM_R (by omega) _).trans r8_1)
  have s9_1 : sN S8 (q + 9) 20 9 (q + 1) = some (20, 80) := (sN_n (by omega)).trans s8_1
  have r9_2 : mR (sR (zM N8 (q + 9)) q 15 (some (q + 9))) q 2 = some (q + 2) := (tm_up_k _ _ (by decide)).trans ((zM_R (by omega) _).trans r8_2)
  have s9_2 : sN S8 (q + 9) 20 9 (q + 2) = some (21, 396) := (sN_n (by omega)).trans s8_2
  have r9_3 : mR (sR (zM N8 (q + 9)) q 15 (some (q + 9))) q 6 = some (q + 3) := (tm_up_k _ _ (by decide)).trans ((zM_R (by omega) _).trans r8_3)
  have s9_3 : sN S8 (q + 9) 20 9 (q + 3) = some (20, 4) := (sN_n (by omega)).trans s8_3
  have r9_4 : mR (sR (zM N8 (q + 9)) q 15 (some (q + 9))) q 7 = some (q + 4) := (tm_up_k _ _ (by decide)).trans ((zM_R (by omega) _).trans r8_4)
  have s9_4 : sN S8 (q + 9) 20 9 (q + 4) = some (20, 4) := (sN_n (by omega)).trans s8_4
  have r9_5 : mR (sR (zM N8 (q + 9)) q 15 (some (q + 9))) q 9 = some (q + 5) := (tm_up_k _ _ (by decide)).trans ((zM_R (by omega) _).trans r8_5)
  have s9_5 : sN S8 (q + 9) 20 9 (q + 5) = some (20, 128) := (sN_n (by omega)).trans s8_5
  have r9_6 : mR (sR (zM N8 (q + 9)) q 15 (some (q + 9))) q 12 = some (q + 6) := (tm_up_k _ _ (by decide)).trans ((zM_R (by omega) _).trans r8_6)
  have s9_6 : sN S8 (q + 9) 20 9 (q + 6) = some (21, 36) := (sN_n (by omega)).trans s8_6
  have r9_7 : mR (sR (zM N8 (q + 9)) q 15 (some (q + 9))) q 13 = some (q + 7) := (tm_up_k _ _ (by decide)).trans ((zM_R (by omega) _).trans r8_7)
  have s9_7 : sN S8 (q + 9) 20 9 (q + 7) = some (21, 36) := (sN_n (by omega)).trans s8_7
  have r9_8 : mR (sR (zM N8 (q + 9)) q 15 (some (q + 9))) q 14 = some (q + 8) := (tm_up_k _ _ (by decide)).trans ((zM_R (by omega) _).trans r8_8)
  have s9_8 : sN S8 (q + 9) 20 9 (q + 8) = some (23, 9) := (sN_n (by omega)).trans s8_8
  have r9_9 : mR (sR (zM N8 (q + 9)) q 15 (some (q + 9))) q 15 = some (q + 9) := tm_up_s _ _ _ _
  have s9_9 : sN S8 (q + 9) 20 9 (q + 9) = some (20, 9) := sN_s
  have z9 : ∀ a k, q ≤ a → a ≤ q + 9 → mI (sR (zM N8 (q + 9)) q 15 (some (q + 9))) a k = 0 := fun a k h1 h2 => zM_Iz z8 a k h1 h2
  have g9 : gq q sh M (sN S8 (q + 9) 20 9) (sR (zM N8 (q + 9)) q 15 (some (q + 9))) := gq_tr g8 (gq_tr (gq_new (by omega)) (gq_sR (Nat.le_refl q)))
  generalize hS9 : sN S8 (q + 9) 20 9 = S9 at hW s9_1 s9_2 s9_3 s9_4 s9_5 s9_6 s9_7 s9_8 s9_9 q9b g9
  generalize hM9 : sR (zM N8 (q + 9)) q 15 (some (q + 9)) = N9 at hW r9_1 r9_2 r9_3 r9_4 r9_5 r9_6 r9_7 r9_8 r9_9 z9 g9
  clear hS9 hM9
  refine lv_aload_n hx hb dX9_init_76 rfl (lv_at hl 0 rfl) ?_
  refine ti_bipush hx hb dX9_init_77 (by decide) ?_
  refine na_int (N := 9) hx hb htw hK hW hS hh rfl (by omega) (by first | omega | (dsimp only; omega)) (by first | omega | (dsimp only; omega)) dX9_init_79 (fun H hW hS hh => ?_)
  have q10b : sN S9 (q + 10) 20 9 q = some (9, 0) := (sN_n (by omega)).trans q9b
  refine pz_X9_39 hx hb htw hown hK hW q10b hS hnm dX9_init_81 (fun H locs hW hS hz => ?_)
  replace hh := hz.trans hh
  have r10_1 : mR (sR (zM N9 (q + 10)) q 16 (some (q + 10))) q 1 = some (q + 1) := (tm_up_k _ _ (by decide)).trans ((zM_R (by omega) _).trans r9_1)
  have s10_1 : sN S9 (q + 10) 20 9 (q + 1) = some (20, 80) := (sN_n (by omega)).trans s9_1
  have r10_2 : mR (sR (zM N9 (q + 10)) q 16 (some (q + 10))) q 2 = some (q + 2) := (tm_up_k _ _ (by decide)).trans ((zM_R (by omega) _).trans r9_2)
  have s10_2 : sN S9 (q + 10) 20 9 (q + 2) = some (21, 396) := (sN_n (by omega)).trans s9_2
  have r10_3 : mR (sR (zM N9 (q + 10)) q 16 (some (q + 10))) q 6 = some (q + 3) := (tm_up_k _ _ (by decide)).trans ((zM_R (by omega) _).trans r9_3)
  have s10_3 : sN S9 (q + 10) 20 9 (q + 3) = some (20, 4) := (sN_n (by omega)).trans s9_3
  have r10_4 : mR (sR (zM N9 (q + 10)) q 16 (some (q + 10))) q 7 = some (q + 4) := (tm_up_k _ _ (by decide)).trans ((zM_R (by omega) _).trans r9_4)
  have s10_4 : sN S9 (q + 10) 20 9 (q + 4) = some (20, 4) := (sN_n (by omega)).trans s9_4
  have r10_5 : mR (sR (zM N9 (q + 10)) q 16 (some (q + 10))) q 9 = some (q + 5) := (tm_up_k _ _ (by decide)).trans ((zM_R (by omega) _).trans r9_5)
  have s10_5 : sN S9 (q + 10) 20 9 (q + 5) = some (20, 128) := (sN_n (by omega)).trans s9_5
  have r10_6 : mR (sR (zM N9 (q + 10)) q 16 (some (q + 10))) q 12 = some (q + 6) := (tm_up_k _ _ (by decide)).trans ((zM_R (by omega) _).trans r9_6)
  have s10_6 : sN S9 (q + 10) 20 9 (q + 6) = some (21, 36) := (sN_n (by omega)).trans s9_6
  have r10_7 : mR (sR (zM N9 (q + 10)) q 16 (some (q + 10))) q 13 = some (q + 7) := (tm_up_k _ _ (by decide)).trans ((zM_R (by omega) _).trans r9_7)
  have s10_7 : sN S9 (q + 10) 20 9 (q + 7) = some (21, 36) := (sN_n (by omega)).trans s9_7
  have r10_8 : mR (sR (zM N9 (q + 10)) q 16 (some (q + 10))) q 14 = some (q + 8) := (tm_up_k _ _ (by decide)).trans ((zM_R (by omega) _).trans r9_8)
  have s10_8 : sN S9 (q + 10) 20 9 (q + 8) = some (23, 9) := (sN_n (by omega)).trans s9_8
  have r10_9 : mR (sR (zM N9 (q + 10)) q 16 (some (q + 10))) q 15 = some (q + 9) := (tm_up_k _ _ (by decide)).trans ((zM_R (by omega) _).trans r9_9)
  have s10_9 : sN S9 (q + 10) 20 9 (q + 9) = some (20, 9) := (sN_n (by omega)).trans s9_9
  have r10_10 : mR (sR (zM N9 (q + 10)) q 16 (some (q + 10))) q 16 = some (q + 10) := tm_up_s _ _ _ _
  have s10_10 : sN S9 (q + 10) 20 9 (q + 10) = some (20, 9) := sN_s
  have z10 : ∀ a k, q ≤ a → a ≤ q + 10 → mI (sR (zM N9 (q + 10)) q 16 (some (q + 10))) a k = 0 := fun a k h1 h2 => zM_Iz z9 a k h1 h2
  have g10 : gq q sh M (sN S9 (q + 10) 20 9) (sR (zM N9 (q + 10)) q 16 (some (q + 10))) := gq_tr g9 (gq_tr (gq_new (by omega)) (gq_sR (Nat.le_refl q)))
  generalize hS10 : sN S9 (q + 10) 20 9 = S10 at hW s10_1 s10_2 s10_3 s10_4 s10_5 s10_6 s10_7 s10_8 s10_9 s10_10 q10b g10
  generalize hM10 : sR (zM N9 (q + 10)) q 16 (some (q + 10)) = N10 at hW r10_1 r10_2 r10_3 r10_4 r10_5 r10_6 r10_7 r10_8 r10_9 r10_10 z10 g10
  clear hS10 hM10
  refine lv_aload_n hx hb dX9_init_84 rfl (lv_at hl 0 rfl) ?_
  refine ti_bipush hx hb dX9_init_85 (by decide) ?_
  refine na_int (N := 9) hx hb htw hK hW hS hh rfl (by omega) (by first | omega | (dsimp only; omega)) (by first | omega | (dsimp only; omega)) dX9_init_87 (fun H hW hS hh => ?_)
  have q11b : sN S10 (q + 11) 20 9 q = some (9, 0) := (sN_n (by omega)).trans q10b
  refine pz_X9_42 hx hb htw hown hK hW q11b hS hnm dX9_init_89 (fun H locs hW hS hz => ?_)
  replace hh := hz.trans hh
  have r11_1 : mR (sR (zM N10 (q + 11)) q 17 (some (q + 11))) q 1 = some (q + 1) := (tm_up_k _ _ (by decide)).trans ((zM_R (by omega) _).trans r10_1)
  have s11_1 : sN S10 (q + 11) 20 9 (q + 1) = some (20, 80) := (sN_n (by omega)).trans s10_1
  have r11_2 : mR (sR (zM N10 (q + 11)) q 17 (some (q + 11))) q 2 = some (q + 2) := (tm_up_k _ _ (by decide)).trans ((zM_R (by omega) _).trans r10_2)
  have s11_2 : sN S10 (q + 11) 20 9 (q + 2) = some (21, 396) := (sN_n (by omega)).trans s10_2
  have r11_3 : mR (sR (zM N10 (q + 11)) q 17 (some (q + 11))) q 6 = some (q + 3) := (tm_up_k _ _ (by decide)).trans ((zM_R (by omega) _).trans r10_3)
  have s11_3 : sN S10 (q + 11) 20 9 (q + 3) = some (20, 4) := (sN_n (by omega)).trans s10_3
  have r11_4 : mR (sR (zM N10 (q + 11)) q 17 (some (q + 11))) q 7 = some (q + 4) := (tm_up_k _ _ (by decide)).trans ((zM_R (by omega) _).trans r10_4)
  have s11_4 : sN S10 (q + 11) 20 9 (q + 4) = some (20, 4) := (sN_n (by omega)).trans s10_4
  have r11_5 : mR (sR (zM N10 (q + 11)) q 17 (some (q + 11))) q 9 = some (q + 5) := (tm_up_k _ _ (by decide)).trans ((zM_R (by omega) _).trans r10_5)
  have s11_5 : sN S10 (q + 11) 20 9 (q + 5) = some (20, 128) := (sN_n (by omega)).trans s10_5
  have r11_6 : mR (sR (zM N10 (q + 11)) q 17 (some (q + 11))) q 12 = some (q + 6) := (tm_up_k _ _ (by decide)).trans ((zM_R (by omega) _).trans r10_6)
  have s11_6 : sN S10 (q + 11) 20 9 (q + 6) = some (21, 36) := (sN_n (by omega)).trans s10_6
  have r11_7 : mR (sR (zM N10 (q + 11)) q 17 (some (q + 11))) q 13 = some (q + 7) := (tm_up_k _ _ (by decide)).trans ((zM_R (by omega) _).trans r10_7)
  have s11_7 : sN S10 (q + 11) 20 9 (q + 7) = some (21, 36) := (sN_n (by omega)).trans s10_7
  have r11_8 : mR (sR (zM N10 (q + 11)) q 17 (some (q + 11))) q 14 = some (q + 8) := (tm_up_k _ _ (by decide)).trans ((zM_R (by omega) _).trans r10_8)
  have s11_8 : sN S10 (q + 11) 20 9 (q + 8) = some (23, 9) := (sN_n (by omega)).trans s10_8
  have r11_9 : mR (sR (zM N10 (q + 11)) q 17 (some (q + 11))) q 15 = some (q + 9) := (tm_up_k _ _ (by decide)).trans ((zM_R (by omega) _).trans r10_9)
  have s11_9 : sN S10 (q + 11) 20 9 (q + 9) = some (20, 9) := (sN_n (by omega)).trans s10_9
  have r11_10 : mR (sR (zM N10 (q + 11)) q 17 (some (q + 11))) q 16 = some (q + 10) := (tm_up_k _ _ (by decide)).trans ((zM_R (by omega) _).trans r10_10)
  have s11_10 : sN S10 (q + 11) 20 9 (q + 10) = some (20, 9) := (sN_n (by omega)).trans s10_10
  have r11_11 : mR (sR (zM N10 (q + 11)) q 17 (some (q + 11))) q 17 = some (q + 11) := tm_up_s _ _ _ _
  have s11_11 : sN S10 (q + 11) 20 9 (q + 11) = some (20, 9) := sN_s
  have z11 : ∀ a k, q ≤ a → a ≤ q + 11 → mI (sR (zM N10 (q + 11)) q 17 (some (q + 11))) a k = 0 := fun a k h1 h2 => zM_Iz z10 a k h1 h2
  have g11 : gq q sh M (sN S10 (q + 11) 20 9) (sR (zM N10 (q + 11)) q 17 (some (q + 11))) := gq_tr g10 (gq_tr (gq_new (by omega)) (gq_sR (Nat.le_refl q)))
  generalize hS11 : sN S10 (q + 11) 20 9 = S11 at hW s11_1 s11_2 s11_3 s11_4 s11_5 s11_6 s11_7 s11_8 s11_9 s11_10 s11_11 q11b g11
  generalize hM11 : sR (zM N10 (q + 11)) q 17 (some (q + 11)) = N11 at hW r11_1 r11_2 r11_3 r11_4 r11_5 r11_6 r11_7 r11_8 r11_9 r11_10 r11_11 z11 g11
  clear hS11 hM11
  refine lv_aload_n hx hb dX9_init_92 rfl (lv_at hl 0 rfl) ?_
  refine ti_iconst hx hb dX9_init_93 ?_
  refine na_long (N := 4) hx hb htw hK hW hS hh rfl (by omega) (by first | omega | (dsimp only; omega)) (by first | omega | (dsimp only; omega)) dX9_init_94 (fun H hW hS hh => ?_)
  have q12b : sN S11 (q + 12) 21 4 q = some (9, 0) := (sN_n (by omega)).trans q11b
  refine pz_X9_45 hx hb htw hown hK hW q12b hS hnm dX9_init_96 (fun H locs hW hS hz => ?_)
  replace hh := hz.trans hh
  have r12_1 : mR (sR (zM N11 (q + 12)) q 24 (some (q + 12))) q 1 = some (q + 1) := (tm_up_k _ _ (by decide)).trans ((zM_R (by omega) _).trans r11_1)
  have s12_1 : sN S11 (q + 12) 21 4 (q + 1) = some (20, 80) := (sN_n (by omega)).trans s11_1
  have r12_2 : mR (sR (zM N11 (q + 12)) q 24 (some (q + 12))) q 2 = some (q + 2) := (tm_up_k _ _ (by decide)).trans ((zM_R (by omega) _).trans r11_2)
  have s12_2 : sN S11 (q + 12) 21 4 (q + 2) = some (21, 396) := (sN_n (by omega)).trans s11_2
  have r12_3 : mR (sR (zM N11 (q + 12)) q 24 (some (q + 12))) q 6 = some (q + 3) := (tm_up_k _ _ (by decide)).trans ((zM_R (by omega) _).trans r11_3)
  have s12_3 : sN S11 (q + 12) 21 4 (q + 3) = some (20, 4) := (sN_n (by omega)).trans s11_3
  have r12_4 : mR (sR (zM N11 (q + 12)) q 24 (some (q + 12))) q 7 = some (q + 4) := (tm_up_k _ _ (by decide)).trans ((zM_R (by omega) _).trans r11_4)
  have s12_4 : sN S11 (q + 12) 21 4 (q + 4) = some (20, 4) := (sN_n (by omega)).trans s11_4
  have r12_5 : mR (sR (zM N11 (q + 12)) q 24 (some (q + 12))) q 9 = some (q + 5) := (tm_up_k _ _ (by decide)).trans ((zM_R (by omega) _).trans r11_5)
  have s12_5 : sN S11 (q + 12) 21 4 (q + 5) = some (20, 128) := (sN_n (by omega)).trans s11_5
  have r12_6 : mR (sR (zM N11 (q + 12)) q 24 (some (q + 12))) q 12 = some (q + 6) := (tm_up_k _ _ (by decide)).trans ((zM_R (by omega) _).trans r11_6)
  have s12_6 : sN S11 (q + 12) 21 4 (q + 6) = some (21, 36) := (sN_n (by omega)).trans s11_6
  have r12_7 : mR (sR (zM N11 (q + 12)) q 24 (some (q + 12))) q 13 = some (q + 7) := (tm_up_k _ _ (by decide)).trans ((zM_R (by omega) _).trans r11_7)
  have s12_7 : sN S11 (q + 12) 21 4 (q + 7) = some (21, 36) := (sN_n (by omega)).trans s11_7
  have r12_8 : mR (sR (zM N11 (q + 12)) q 24 (some (q + 12))) q 14 = some (q + 8) := (tm_up_k _ _ (by decide)).trans ((zM_R (by omega) _).trans r11_8)
  have s12_8 : sN S11 (q + 12) 21 4 (q + 8) = some (23, 9) := (sN_n (by omega)).trans s11_8
  have r12_9 : mR (sR (zM N11 (q + 12)) q 24 (some (q + 12))) q 15 = some (q + 9) := (tm_up_k _ _ (by decide)).trans ((zM_R (by omega) _).trans r11_9)
  have s12_9 : sN S11 (q + 12) 21 4 (q + 9) = some (20, 9) := (sN_n (by omega)).trans s11_9
  have r12_10 : mR (sR (zM N11 (q + 12)) q 24 (some (q + 12))) q 16 = some (q + 10) := (tm_up_k _ _ (by decide)).trans ((zM_R (by omega) _).trans r11_10)
  have s12_10 : sN S11 (q + 12) 21 4 (q + 10) = some (20, 9) := (sN_n (by omega)).trans s11_10
  have r12_11 : mR (sR (zM N11 (q + 12)) q 24 (some (q + 12))) q 17 = some (q + 11) := (tm_up_k _ _ (by decide)).trans ((zM_R (by omega) _).trans r11_11)
  have s12_11 : sN S11 (q + 12) 21 4 (q + 11) = some (20, 9) := (sN_n (by omega)).trans s11_11
  have r12_12 : mR (sR (zM N11 (q + 12)) q 24 (some (q + 12))) q 24 = some (q + 12) := tm_up_s _ _ _ _
  have s12_12 : sN S11 (q + 12) 21 4 (q + 12) = some (21, 4) := sN_s
  have z12 : ∀ a k, q ≤ a → a ≤ q + 12 → mI (sR (zM N11 (q + 12)) q 24 (some (q + 12))) a k = 0 := fun a k h1 h2 => zM_Iz z11 a k h1 h2
  have g12 : gq q sh M (sN S11 (q + 12) 21 4) (sR (zM N11 (q + 12)) q 24 (some (q + 12))) := gq_tr g11 (gq_tr (gq_new (by omega)) (gq_sR (Nat.le_refl q)))
  generalize hS12 : sN S11 (q + 12) 21 4 = S12 at hW s12_1 s12_2 s12_3 s12_4 s12_5 s12_6 s12_7 s12_8 s12_9 s12_10 s12_11 s12_12 q12b g12
  generalize hM12 : sR (zM N11 (q + 12)) q 24 (some (q + 12)) = N12 at hW r12_1 r12_2 r12_3 r12_4 r12_5 r12_6 r12_7 r12_8 r12_9 r12_10 r12_11 r12_12 z12 g12
  clear hS12 hM12
  exact W.widen (k := 12) (n := 724) (by first | omega | (dsimp only; omega)) (by first | omega | (dsimp only; omega)) (tz_vret hx hb hr hlk hK hW hS hh ⟨⟨⟨q12b, ⟨r12_1, r12_2, r12_3, r12_4, r12_5, r12_6, r12_7, r12_8, r12_9, r12_10, r12_11, r12_12⟩, ⟨s12_1, s12_2, s12_3, s12_4, s12_5, s12_6, s12_7, s12_8, s12_9, s12_10, s12_11, s12_12⟩⟩, fun j => z12 _ _ (by omega) (by omega), z12 _ _ (by omega) (by omega), fun i hi => absurd hi (Nat.not_lt_zero i), z12 _ _ (by omega) (by omega), fun q => absurd (show (0 : Int) = 1 from q) (by decide), fun k _ _ => z12 _ _ (by omega) (by omega), z12 _ _ (by omega) (by omega), z12 _ _ (by omega) (by omega), z12 _ _ (by omega) (by omega)⟩, ⟨z12 _ _ (by omega) (by omega), fun j hj => absurd hj (Nat.not_lt_zero j)⟩, g12, rfl⟩ dX9_init_99)
