/-! constructors: the tutor (by program: wip/whole/gen/ct5.py) -/
theorem RdI_s {sh : tm_sh} {M : tm_M} {rd a b c x k : Nat} {v : Option Nat} (h : RdI sh M rd a b c) (hx : x < rd) : RdI sh (sR M x k v) rd a b c := by
  obtain ⟨⟨h1, h2, h3, h4⟩, h5, h8, h9, h10⟩ := h
  exact ⟨⟨h1, (tm_up_a _ _ (by omega)).trans h2, (tm_up_a _ _ (by omega)).trans h3, (tm_up_a _ _ (by omega)).trans h4⟩, h5, fun j hj => ⟨(tm_up_a _ _ (by omega)).trans (h8 j hj).1, isSd_t (h8 j hj).2 (by omega)⟩, fun j hj => ⟨(tm_up_a _ _ (by omega)).trans (h9 j hj).1, isSd_t (h9 j hj).2 (by omega)⟩, fun j hj => ⟨(tm_up_a _ _ (by omega)).trans (h10 j hj).1, isSd_t (h10 j hj).2 (by omega)⟩⟩
theorem RdI_u {sh : tm_sh} {M : tm_M} {rd x k : Nat} {v : Option Nat} (h : RdI sh M rd 9 9 9) (hx : rd + 86 ≤ x) : RdI sh (sR M x k v) rd 9 9 9 := by
  obtain ⟨⟨h1, h2, h3, h4⟩, h5, h8, h9, h10⟩ := h
  exact ⟨⟨h1, (tm_up_a _ _ (by omega)).trans h2, (tm_up_a _ _ (by omega)).trans h3, (tm_up_a _ _ (by omega)).trans h4⟩, h5, fun j hj => ⟨(tm_up_a _ _ (by omega)).trans (h8 j hj).1, isSd_t (h8 j hj).2 (by omega)⟩, fun j hj => ⟨(tm_up_a _ _ (by omega)).trans (h9 j hj).1, isSd_t (h9 j hj).2 (by omega)⟩, fun j hj => ⟨(tm_up_a _ _ (by omega)).trans (h10 j hj).1, isSd_t (h10 j hj).2 (by omega)⟩⟩
theorem isLn_s {sh : tm_sh} {M : tm_M} {q x k : Nat} {v : Option Nat} (h : isLn sh M q) (hx : x < q) : isLn sh (sR M x k v) q := ⟨h.1, (tm_up_a _ _ (by omega)).trans h.2.1, (tm_up_a _ _ (by omega)).trans h.2.2.1, isSd_t h.2.2.2.1 (by omega), isSd_t h.2.2.2.2 (by omega)⟩
theorem isSo_s {sh : tm_sh} {M : tm_M} {q x k : Nat} {v : Option Nat} (h : isSo sh M q) (hx : x < q) : isSo sh (sR M x k v) q := ⟨h.1, (tm_up_a _ _ (by omega)).trans h.2.1, (tm_up_a _ _ (by omega)).trans h.2.2.1, h.2.2.2.1, h.2.2.2.2⟩
theorem isSB_g {sh sh1 : tm_sh} {M M1 : tm_M} {q V cap x : Nat} {pr : List Int} (h : isSB sh M q V cap pr) (g : gq x sh M sh1 M1) (h1 : q < x) (h2 : V < x) : isSB sh1 M1 q V cap pr := by
  obtain ⟨a1, a2, a3, a4, a5, a6, a7, a8, a9⟩ := h
  exact ⟨(g.1 _ h1).trans a1, (g.2 _ _ h1).1.trans a2, (g.1 _ h2).trans a3, (g.2 _ _ h1).2.1.trans a4, (g.2 _ _ h1).2.1.trans a5, a6, a7, fun j hj => (g.2 _ _ h2).2.1.trans (a8 j hj), fun j => by rw [(g.2 _ _ h2).2.1]; exact a9 j⟩
theorem dX8_init_0 : decode cX8_init 0 = .ok (.aload_n 0, 1) := by decide +kernel
theorem dX8_init_1 : decode cX8_init 1 = .ok (.invokespecial 1, 3) := by decide +kernel
theorem dX8_init_4 : decode cX8_init 4 = .ok (.aload_n 0, 1) := by decide +kernel
theorem dX8_init_5 : decode cX8_init 5 = .ok (.bipush 80, 2) := by decide +kernel
theorem dX8_init_7 : decode cX8_init 7 = .ok (.newarray .byte, 2) := by decide +kernel
theorem dX8_init_9 : decode cX8_init 9 = .ok (.putfield 9, 3) := by decide +kernel
theorem dX8_init_12 : decode cX8_init 12 = .ok (.aload_n 0, 1) := by decide +kernel
theorem dX8_init_13 : decode cX8_init 13 = .ok (.new 13, 3) := by decide +kernel
theorem dX8_init_16 : decode cX8_init 16 = .ok (.dup, 1) := by decide +kernel
theorem dX8_init_17 : decode cX8_init 17 = .ok (.invokespecial 15, 3) := by decide +kernel
theorem dX8_init_20 : decode cX8_init 20 = .ok (.putfield 16, 3) := by decide +kernel
theorem dX8_init_23 : decode cX8_init 23 = .ok (.aload_n 0, 1) := by decide +kernel
theorem dX8_init_24 : decode cX8_init 24 = .ok (.bipush 40, 2) := by decide +kernel
theorem dX8_init_26 : decode cX8_init 26 = .ok (.anewarray 20, 3) := by decide +kernel
theorem dX8_init_29 : decode cX8_init 29 = .ok (.putfield 22, 3) := by decide +kernel
theorem dX8_init_32 : decode cX8_init 32 = .ok (.iconst 0, 1) := by decide +kernel
theorem dX8_init_33 : decode cX8_init 33 = .ok (.istore_n 1, 1) := by decide +kernel
theorem dX8_init_34 : decode cX8_init 34 = .ok (.iload_n 1, 1) := by decide +kernel
theorem dX8_init_35 : decode cX8_init 35 = .ok (.bipush 40, 2) := by decide +kernel
theorem dX8_init_37 : decode cX8_init 37 = .ok (.if_icmp .ge 22, 3) := by decide +kernel
theorem dX8_init_40 : decode cX8_init 40 = .ok (.aload_n 0, 1) := by decide +kernel
theorem dX8_init_41 : decode cX8_init 41 = .ok (.getfield 22, 3) := by decide +kernel
theorem dX8_init_44 : decode cX8_init 44 = .ok (.iload_n 1, 1) := by decide +kernel
theorem dX8_init_45 : decode cX8_init 45 = .ok (.new 20, 3) := by decide +kernel
theorem dX8_init_48 : decode cX8_init 48 = .ok (.dup, 1) := by decide +kernel
theorem dX8_init_49 : decode cX8_init 49 = .ok (.invokespecial 26, 3) := by decide +kernel
theorem dX8_init_52 : decode cX8_init 52 = .ok (.aastore, 1) := by decide +kernel
theorem dX8_init_53 : decode cX8_init 53 = .ok (.iinc 1 1, 3) := by decide +kernel
theorem dX8_init_56 : decode cX8_init 56 = .ok (.goto (-22), 3) := by decide +kernel
theorem dX8_init_59 : decode cX8_init 59 = .ok (.aload_n 0, 1) := by decide +kernel
theorem dX8_init_60 : decode cX8_init 60 = .ok (.new 20, 3) := by decide +kernel
theorem dX8_init_63 : decode cX8_init 63 = .ok (.dup, 1) := by decide +kernel
theorem dX8_init_64 : decode cX8_init 64 = .ok (.invokespecial 26, 3) := by decide +kernel
theorem dX8_init_67 : decode cX8_init 67 = .ok (.putfield 27, 3) := by decide +kernel
theorem dX8_init_70 : decode cX8_init 70 = .ok (.aload_n 0, 1) := by decide +kernel
theorem dX8_init_71 : decode cX8_init 71 = .ok (.new 20, 3) := by decide +kernel
theorem dX8_init_74 : decode cX8_init 74 = .ok (.dup, 1) := by decide +kernel
theorem dX8_init_75 : decode cX8_init 75 = .ok (.invokespecial 26, 3) := by decide +kernel
theorem dX8_init_78 : decode cX8_init 78 = .ok (.putfield 31, 3) := by decide +kernel
theorem dX8_init_81 : decode cX8_init 81 = .ok (.aload_n 0, 1) := by decide +kernel
theorem dX8_init_82 : decode cX8_init 82 = .ok (.new 34, 3) := by decide +kernel
theorem dX8_init_85 : decode cX8_init 85 = .ok (.dup, 1) := by decide +kernel
theorem dX8_init_86 : decode cX8_init 86 = .ok (.invokespecial 36, 3) := by decide +kernel
theorem dX8_init_89 : decode cX8_init 89 = .ok (.putfield 37, 3) := by decide +kernel
theorem dX8_init_92 : decode cX8_init 92 = .ok (.aload_n 0, 1) := by decide +kernel
theorem dX8_init_93 : decode cX8_init 93 = .ok (.new 34, 3) := by decide +kernel
theorem dX8_init_96 : decode cX8_init 96 = .ok (.dup, 1) := by decide +kernel
theorem dX8_init_97 : decode cX8_init 97 = .ok (.invokespecial 36, 3) := by decide +kernel
theorem dX8_init_100 : decode cX8_init 100 = .ok (.putfield 41, 3) := by decide +kernel
theorem dX8_init_103 : decode cX8_init 103 = .ok (.aload_n 0, 1) := by decide +kernel
theorem dX8_init_104 : decode cX8_init 104 = .ok (.new 44, 3) := by decide +kernel
theorem dX8_init_107 : decode cX8_init 107 = .ok (.dup, 1) := by decide +kernel
theorem dX8_init_108 : decode cX8_init 108 = .ok (.invokespecial 46, 3) := by decide +kernel
theorem dX8_init_111 : decode cX8_init 111 = .ok (.putfield 47, 3) := by decide +kernel
theorem dX8_init_114 : decode cX8_init 114 = .ok (.aload_n 0, 1) := by decide +kernel
theorem dX8_init_115 : decode cX8_init 115 = .ok (.new 51, 3) := by decide +kernel
theorem dX8_init_118 : decode cX8_init 118 = .ok (.dup, 1) := by decide +kernel
theorem dX8_init_119 : decode cX8_init 119 = .ok (.invokespecial 53, 3) := by decide +kernel
theorem dX8_init_122 : decode cX8_init 122 = .ok (.putfield 54, 3) := by decide +kernel
theorem dX8_init_125 : decode cX8_init 125 = .ok (.aload_n 0, 1) := by decide +kernel
theorem dX8_init_126 : decode cX8_init 126 = .ok (.iconst 4, 1) := by decide +kernel
theorem dX8_init_127 : decode cX8_init 127 = .ok (.newarray .int, 2) := by decide +kernel
theorem dX8_init_129 : decode cX8_init 129 = .ok (.putfield 58, 3) := by decide +kernel
theorem dX8_init_132 : decode cX8_init 132 = .ok (.aload_n 0, 1) := by decide +kernel
theorem dX8_init_133 : decode cX8_init 133 = .ok (.iconst 3, 1) := by decide +kernel
theorem dX8_init_134 : decode cX8_init 134 = .ok (.newarray .int, 2) := by decide +kernel
theorem dX8_init_136 : decode cX8_init 136 = .ok (.putfield 62, 3) := by decide +kernel
theorem dX8_init_139 : decode cX8_init 139 = .ok (.return_, 1) := by decide +kernel
theorem RdI_R {sh : tm_sh} {M : tm_M} {T : Nat} (h : RdI sh M (T + 2) 9 9 9) (h1 : sh (T + 1) = some (22, 80)) : isRd sh (sR M (T + 2) 0 (some (T + 1))) (T + 2) (T + 1) := by
  obtain ⟨⟨a1, a2, a3, a4⟩, a5, a8, a9, a10⟩ := h
  exact ⟨a1, tm_up_s _ _ _ _, h1, ⟨(tm_up_k _ _ (by decide)).trans a2, (tm_up_k _ _ (by decide)).trans a3, (tm_up_k _ _ (by decide)).trans a4⟩, a5, fun i hi => ⟨⟨(tm_up_a _ _ (by omega)).trans (a8 i hi).1, (tm_up_a _ _ (by omega)).trans (a9 i hi).1, (tm_up_a _ _ (by omega)).trans (a10 i hi).1⟩, isSd_t (a8 i hi).2 (by omega), isSd_t (a9 i hi).2 (by omega), isSd_t (a10 i hi).2 (by omega)⟩⟩
theorem tl_la {sh sh1 : tm_sh} {M M1 : tm_M} {T n0 : Nat} (h : ∀ i, i < n0 → mR M (T + 88) i = some (T + 89 + 7 * i) ∧ isLn sh M (T + 89 + 7 * i)) (g : gq (T + 89 + 7 * n0) sh M sh1 M1) (hs : isLn sh1 M1 (T + 89 + 7 * n0)) : ∀ i, i < n0 + 1 → mR (sR M1 (T + 88) n0 (some (T + 89 + 7 * n0))) (T + 88) i = some (T + 89 + 7 * i) ∧ isLn sh1 (sR M1 (T + 88) n0 (some (T + 89 + 7 * n0))) (T + 89 + 7 * i) := fun i hi => by
  by_cases e : i = n0
  · subst e
    exact ⟨tm_up_s _ _ _ _, isLn_s hs (by omega)⟩
  · exact ⟨(tm_up_k _ _ e).trans ((g.2 _ _ (by omega)).1.trans (h i (by omega)).1), isLn_s (isLn_g (h i (by omega)).2 g (by omega)) (by omega)⟩
set_option maxHeartbeats 1000000 in
set_option maxRecDepth 100000 in
/-- TutorLines.<init> -/
theorem c_X8_init {l : Launch} {G : tm_G} {Hb : Heap} {sh : tm_sh} {M : tm_M} {T : Nat} (hq : sh T = some (8, 0)) (hz0 : ∀ k, mI M T k = 0) : Met l yX8_init (tws yX8_init cX8_init 2 none) ({ frames := 5, cells := 394, slots := 991, locals := 101 }) (va_Pc [.ref T] (tz_St G Hb sh M (T + 1))) (tz_Qv G Hb (fun sh1 M1 h1 => isTL sh1 M1 T ∧ TLv M1 T z00 ∧ mR M1 (T + 390) 0 = some (T + 391) ∧ isSB sh1 M1 (T + 391) (T + 392) 16 [] ∧ gq T sh M sh1 M1 ∧ h1 = T + 395)) 394 991 (tm_A Hb) := by
  refine tz_begin (by decide) (Nat.le_of_ble_eq_true rfl) (fun p e s m below meth c ls hx hb hr hml hown htw hlk hnm hK hW hC hh hl => ?_)
  have hS : va_S (tm_A Hb) s.heap s.heap [] := va_S.rf
  have hl : lv_has ls 2 [(0, .ref T)] := hl
  have fin : ∀ (sL : tm_sh) (mM : tm_M) (H : Heap) (locs : List Loc) (ls : Array Slot), (sL T = some (8, 0)) → (∀ k, mI mM T k = 0) → (gq T sh M sL mM) → (mR mM T 0 = some (T + 1)) → (sL (T + 1) = some (22, 80)) → (∀ k, mI mM (T + 1) k = 0) → (mR mM T 1 = some (T + 2)) → (RdI sL mM (T + 2) 9 9 9) → (mR mM T 2 = some (T + 88)) → (sL (T + 88) = some (25, 40)) → (∀ i, i < 40 → mR mM (T + 88) i = some (T + 89 + 7 * i) ∧ isLn sL mM (T + 89 + 7 * i)) → tm_W G Hb sL mM H → va_S (tm_A Hb) s.heap H locs → H.size = T + 369 → lv_has ls 2 [(0, .ref T)] → W p l e ({ frames := 5, cells := 394, slots := 991, locals := 101 }) s m [.ref T].toArray below meth c H locs (368) (917) (MQ below (tz_Qv G Hb (fun sh1 M1 h1 => isTL sh1 M1 T ∧ TLv M1 T z00 ∧ mR M1 (T + 390) 0 = some (T + 391) ∧ isSB sh1 M1 (T + 391) (T + 392) 16 [] ∧ gq T sh M sh1 M1 ∧ h1 = T + 395)) [.ref T].toArray s 394 991 (tm_A Hb)) (F0 m 59 ls []) := by
    intro sL mM H locs ls sT_L ZT_L G_L R0_L S1_L Z1_L R1_L RD_L R2_L S88_L LA_L hW hS hh hl
    refine lv_aload_n hx hb dX8_init_59 rfl (lv_at hl 0 rfl) ?_
    refine nw_X8_20 hx hb htw hown hK hW hS hh (by first | omega | (dsimp only; omega)) (by first | omega | (dsimp only; omega)) dX8_init_60 (fun H hW hS hh => ?_)
    refine lv_dup hx hb dX8_init_63 rfl ?_
    refine tz_callv (ci_X8_26 hx hb hml hown htw hK hW hC hS hh (c_X1_init (q := T + 369) sN_s) ⟨rfl, rfl, Nat.le_of_ble_eq_true rfl, Nat.le_of_ble_eq_true rfl⟩ hl.1 (Nat.le_of_ble_eq_true rfl) dX8_init_64 ⟨(by first | omega | (dsimp only; omega)), (by first | omega | (dsimp only; omega))⟩) hS (fun sh64 M64 h64 H locs hp64 hW hS hh => ?_)
    obtain ⟨sx, gq9, zq⟩ := hp64
    subst zq
    have Gc64_369 := gq_tr (gq_new (q := T + 369) (x := T + 369) (kd := 3) (N := 0) (sh := sL) (M := mM) (Nat.le_refl _)) gq9
    have qa369 : sh64 T = some (8, 0) := (Gc64_369.1 _ (by omega)).trans sT_L
    refine pz_X8_27 hx hb htw hown hK hW qa369 hS hnm dX8_init_67 (fun H locs hW hS hz => ?_)
    replace hh := hz.trans hh
    have sT_4 : sh64 T = some (8, 0) := (Gc64_369.1 _ (by omega)).trans sT_L
    have ZT_4 : ∀ k, mI (sR M64 T 4 (some (T + 369))) T k = 0 := fun k => (Gc64_369.2 _ _ (by omega)).2.1.trans (ZT_L k)
    have G_4 : gq T sh M sh64 (sR M64 T 4 (some (T + 369))) := gq_tr G_L (gq_tr (gq_le Gc64_369 (by omega)) (gq_sR (Nat.le_refl T)))
    have R0_4 : mR (sR M64 T 4 (some (T + 369))) T 0 = some (T + 1) := (tm_up_k _ _ (by decide)).trans ((Gc64_369.2 _ _ (by omega)).1.trans R0_L)
    have S1_4 : sh64 (T + 1) = some (22, 80) := (Gc64_369.1 _ (by omega)).trans S1_L
    have Z1_4 : ∀ k, mI (sR M64 T 4 (some (T + 369))) (T + 1) k = 0 := fun k => (Gc64_369.2 _ _ (by omega)).2.1.trans (Z1_L k)
    have R1_4 : mR (sR M64 T 4 (some (T + 369))) T 1 = some (T + 2) := (tm_up_k _ _ (by decide)).trans ((Gc64_369.2 _ _ (by omega)).1.trans R1_L)
    have RD_4 : RdI sh64 (sR M64 T 4 (some (T + 369))) (T + 2) 9 9 9 := RdI_s (RdI_g RD_L Gc64_369 (by omega) (by omega) (by omega) (by omega)) (by omega)
    have R2_4 : mR (sR M64 T 4 (some (T + 369))) T 2 = some (T + 88) := (tm_up_k _ _ (by decide)).trans ((Gc64_369.2 _ _ (by omega)).1.trans R2_L)
    have S88_4 : sh64 (T + 88) = some (25, 40) := (Gc64_369.1 _ (by omega)).trans S88_L
    have LA_4 : ∀ i, i < 40 → mR (sR M64 T 4 (some (T + 369))) (T + 88) i = some (T + 89 + 7 * i) ∧ isLn sh64 (sR M64 T 4 (some (T + 369))) (T + 89 + 7 * i) := fun i hi => ⟨(tm_up_a _ _ (by omega)).trans ((Gc64_369.2 _ _ (by omega)).1.trans (LA_L i hi).1), isLn_s (isLn_g (LA_L i hi).2 Gc64_369 (by omega)) (by omega)⟩
    have R4_4 : mR (sR M64 T 4 (some (T + 369))) T 4 = some (T + 369) := tm_up_s _ _ _ _
    have LNa_4 : isLn sh64 (sR M64 T 4 (some (T + 369))) (T + 369) := isLn_s sx (by omega)
    generalize sh64 = S4 at hW sT_4 G_4 S1_4 RD_4 S88_4 LA_4 LNa_4
    generalize (sR M64 T 4 (some (T + 369))) = N4 at hW ZT_4 G_4 R0_4 Z1_4 R1_4 RD_4 R2_4 LA_4 R4_4 LNa_4
    refine lv_aload_n hx hb dX8_init_70 rfl (lv_at hl 0 rfl) ?_
    refine nw_X8_20 hx hb htw hown hK hW hS hh (by first | omega | (dsimp only; omega)) (by first | omega | (dsimp only; omega)) dX8_init_71 (fun H hW hS hh => ?_)
    refine lv_dup hx hb dX8_init_74 rfl ?_
    refine tz_callv (ci_X8_26 hx hb hml hown htw hK hW hC hS hh (c_X1_init (q := T + 376) sN_s) ⟨rfl, rfl, Nat.le_of_ble_eq_true rfl, Nat.le_of_ble_eq_true rfl⟩ hl.1 (Nat.le_of_ble_eq_true rfl) dX8_init_75 ⟨(by first | omega | (dsimp only; omega)), (by first | omega | (dsimp only; omega))⟩) hS (fun sh75 M75 h75 H locs hp75 hW hS hh => ?_)
    obtain ⟨sx, gq9, zq⟩ := hp75
    subst zq
    have Gc75_376 := gq_tr (gq_new (q := T + 376) (x := T + 376) (kd := 3) (N := 0) (sh := S4) (M := N4) (Nat.le_refl _)) gq9
    have qa376 : sh75 T = some (8, 0) := (Gc75_376.1 _ (by omega)).trans sT_4
    refine pz_X8_31 hx hb htw hown hK hW qa376 hS hnm dX8_init_78 (fun H locs hW hS hz => ?_)
    replace hh := hz.trans hh
    have sT_5 : sh75 T = some (8, 0) := (Gc75_376.1 _ (by omega)).trans sT_4
    have ZT_5 : ∀ k, mI (sR M75 T 5 (some (T + 376))) T k = 0 := fun k => (Gc75_376.2 _ _ (by omega)).2.1.trans (ZT_4 k)
    have G_5 : gq T sh M sh75 (sR M75 T 5 (some (T + 376))) := gq_tr G_4 (gq_tr (gq_le Gc75_376 (by omega)) (gq_sR (Nat.le_refl T)))
    have R0_5 : mR (sR M75 T 5 (some (T + 376))) T 0 = some (T + 1) := (tm_up_k _ _ (by decide)).trans ((Gc75_376.2 _ _ (by omega)).1.trans R0_4)
    have S1_5 : sh75 (T + 1) = some (22, 80) := (Gc75_376.1 _ (by omega)).trans S1_4
    have Z1_5 : ∀ k, mI (sR M75 T 5 (some (T + 376))) (T + 1) k = 0 := fun k => (Gc75_376.2 _ _ (by omega)).2.1.trans (Z1_4 k)
    have R1_5 : mR (sR M75 T 5 (some (T + 376))) T 1 = some (T + 2) := (tm_up_k _ _ (by decide)).trans ((Gc75_376.2 _ _ (by omega)).1.trans R1_4)
    have RD_5 : RdI sh75 (sR M75 T 5 (some (T + 376))) (T + 2) 9 9 9 := RdI_s (RdI_g RD_4 Gc75_376 (by omega) (by omega) (by omega) (by omega)) (by omega)
    have R2_5 : mR (sR M75 T 5 (some (T + 376))) T 2 = some (T + 88) := (tm_up_k _ _ (by decide)).trans ((Gc75_376.2 _ _ (by omega)).1.trans R2_4)
    have S88_5 : sh75 (T + 88) = some (25, 40) := (Gc75_376.1 _ (by omega)).trans S88_4
    have LA_5 : ∀ i, i < 40 → mR (sR M75 T 5 (some (T + 376))) (T + 88) i = some (T + 89 + 7 * i) ∧ isLn sh75 (sR M75 T 5 (some (T + 376))) (T + 89 + 7 * i) := fun i hi => ⟨(tm_up_a _ _ (by omega)).trans ((Gc75_376.2 _ _ (by omega)).1.trans (LA_4 i hi).1), isLn_s (isLn_g (LA_4 i hi).2 Gc75_376 (by omega)) (by omega)⟩
    have R4_5 : mR (sR M75 T 5 (some (T + 376))) T 4 = some (T + 369) := (tm_up_k _ _ (by decide)).trans ((Gc75_376.2 _ _ (by omega)).1.trans R4_4)
    have LNa_5 : isLn sh75 (sR M75 T 5 (some (T + 376))) (T + 369) := isLn_s (isLn_g LNa_4 Gc75_376 (by omega)) (by omega)
    have R5_5 : mR (sR M75 T 5 (some (T + 376))) T 5 = some (T + 376) := tm_up_s _ _ _ _
    have LNb_5 : isLn sh75 (sR M75 T 5 (some (T + 376))) (T + 376) := isLn_s sx (by omega)
    generalize sh75 = S5 at hW sT_5 G_5 S1_5 RD_5 S88_5 LA_5 LNa_5 LNb_5
    generalize (sR M75 T 5 (some (T + 376))) = N5 at hW ZT_5 G_5 R0_5 Z1_5 R1_5 RD_5 R2_5 LA_5 R4_5 LNa_5 R5_5 LNb_5
    refine lv_aload_n hx hb dX8_init_81 rfl (lv_at hl 0 rfl) ?_
    refine nw_X8_34 hx hb htw hown hK hW hS hh (by first | omega | (dsimp only; omega)) (by first | omega | (dsimp only; omega)) dX8_init_82 (fun H hW hS hh => ?_)
    refine lv_dup hx hb dX8_init_85 rfl ?_
    refine tz_callv (ci_X8_36 hx hb hml hown htw hK hW hC hS hh (c_X7_init (q := T + 383) sN_s) ⟨rfl, rfl, Nat.le_of_ble_eq_true rfl, Nat.le_of_ble_eq_true rfl⟩ hl.1 (Nat.le_of_ble_eq_true rfl) dX8_init_86 ⟨(by first | omega | (dsimp only; omega)), (by first | omega | (dsimp only; omega))⟩) hS (fun sh86 M86 h86 H locs hp86 hW hS hh => ?_)
    obtain ⟨sx, gq9, zq⟩ := hp86
    subst zq
    have Gc86_383 := gq_tr (gq_new (q := T + 383) (x := T + 383) (kd := 7) (N := 0) (sh := S5) (M := N5) (Nat.le_refl _)) gq9
    have qa383 : sh86 T = some (8, 0) := (Gc86_383.1 _ (by omega)).trans sT_5
    refine pz_X8_37 hx hb htw hown hK hW qa383 hS hnm dX8_init_89 (fun H locs hW hS hz => ?_)
    replace hh := hz.trans hh
    have sT_6 : sh86 T = some (8, 0) := (Gc86_383.1 _ (by omega)).trans sT_5
    have ZT_6 : ∀ k, mI (sR M86 T 6 (some (T + 383))) T k = 0 := fun k => (Gc86_383.2 _ _ (by omega)).2.1.trans (ZT_5 k)
    have G_6 : gq T sh M sh86 (sR M86 T 6 (some (T + 383))) := gq_tr G_5 (gq_tr (gq_le Gc86_383 (by omega)) (gq_sR (Nat.le_refl T)))
    have R0_6 : mR (sR M86 T 6 (some (T + 383))) T 0 = some (T + 1) := (tm_up_k _ _ (by decide)).trans ((Gc86_383.2 _ _ (by omega)).1.trans R0_5)
    have S1_6 : sh86 (T + 1) = some (22, 80) := (Gc86_383.1 _ (by omega)).trans S1_5
    have Z1_6 : ∀ k, mI (sR M86 T 6 (some (T + 383))) (T + 1) k = 0 := fun k => (Gc86_383.2 _ _ (by omega)).2.1.trans (Z1_5 k)
    have R1_6 : mR (sR M86 T 6 (some (T + 383))) T 1 = some (T + 2) := (tm_up_k _ _ (by decide)).trans ((Gc86_383.2 _ _ (by omega)).1.trans R1_5)
    have RD_6 : RdI sh86 (sR M86 T 6 (some (T + 383))) (T + 2) 9 9 9 := RdI_s (RdI_g RD_5 Gc86_383 (by omega) (by omega) (by omega) (by omega)) (by omega)
    have R2_6 : mR (sR M86 T 6 (some (T + 383))) T 2 = some (T + 88) := (tm_up_k _ _ (by decide)).trans ((Gc86_383.2 _ _ (by omega)).1.trans R2_5)
    have S88_6 : sh86 (T + 88) = some (25, 40) := (Gc86_383.1 _ (by omega)).trans S88_5
    have LA_6 : ∀ i, i < 40 → mR (sR M86 T 6 (some (T + 383))) (T + 88) i = some (T + 89 + 7 * i) ∧ isLn sh86 (sR M86 T 6 (some (T + 383))) (T + 89 + 7 * i) := fun i hi => ⟨(tm_up_a _ _ (by omega)).trans ((Gc86_383.2 _ _ (by omega)).1.trans (LA_5 i hi).1), isLn_s (isLn_g (LA_5 i hi).2 Gc86_383 (by omega)) (by omega)⟩
    have R4_6 : mR (sR M86 T 6 (some (T + 383))) T 4 = some (T + 369) := (tm_up_k _ _ (by decide)).trans ((Gc86_383.2 _ _ (by omega)).1.trans R4_5)
    have LNa_6 : isLn sh86 (sR M86 T 6 (some (T + 383))) (T + 369) := isLn_s (isLn_g LNa_5 Gc86_383 (by omega)) (by omega)
    have R5_6 : mR (sR M86 T 6 (some (T + 383))) T 5 = some (T + 376) := (tm_up_k _ _ (by decide)).trans ((Gc86_383.2 _ _ (by omega)).1.trans R5_5)
    have LNb_6 : isLn sh86 (sR M86 T 6 (some (T + 383))) (T + 376) := isLn_s (isLn_g LNb_5 Gc86_383 (by omega)) (by omega)
    have R6_6 : mR (sR M86 T 6 (some (T + 383))) T 6 = some (T + 383) := tm_up_s _ _ _ _
    have SOa_6 : isSo sh86 (sR M86 T 6 (some (T + 383))) (T + 383) := isSo_s sx (by omega)
    generalize sh86 = S6 at hW sT_6 G_6 S1_6 RD_6 S88_6 LA_6 LNa_6 LNb_6 SOa_6
    generalize (sR M86 T 6 (some (T + 383))) = N6 at hW ZT_6 G_6 R0_6 Z1_6 R1_6 RD_6 R2_6 LA_6 R4_6 LNa_6 R5_6 LNb_6 R6_6 SOa_6
    refine lv_aload_n hx hb dX8_init_92 rfl (lv_at hl 0 rfl) ?_
    refine nw_X8_34 hx hb htw hown hK hW hS hh (by first | omega | (dsimp only; omega)) (by first | omega | (dsimp only; omega)) dX8_init_93 (fun H hW hS hh => ?_)
    refine lv_dup hx hb dX8_init_96 rfl ?_
    refine tz_callv (ci_X8_36 hx hb hml hown htw hK hW hC hS hh (c_X7_init (q := T + 386) sN_s) ⟨rfl, rfl, Nat.le_of_ble_eq_true rfl, Nat.le_of_ble_eq_true rfl⟩ hl.1 (Nat.le_of_ble_eq_true rfl) dX8_init_97 ⟨(by first | omega | (dsimp only; omega)), (by first | omega | (dsimp only; omega))⟩) hS (fun sh97 M97 h97 H locs hp97 hW hS hh => ?_)
    obtain ⟨sx, gq9, zq⟩ := hp97
    subst zq
    have Gc97_386 := gq_tr (gq_new (q := T + 386) (x := T + 386) (kd := 7) (N := 0) (sh := S6) (M := N6) (Nat.le_refl _)) gq9
    have qa386 : sh97 T = some (8, 0) := (Gc97_386.1 _ (by omega)).trans sT_6
    refine pz_X8_41 hx hb htw hown hK hW qa386 hS hnm dX8_init_100 (fun H locs hW hS hz => ?_)
    replace hh := hz.trans hh
    have sT_7 : sh97 T = some (8, 0) := (Gc97_386.1 _ (by omega)).trans sT_6
    have ZT_7 : ∀ k, mI (sR M97 T 7 (some (T + 386))) T k = 0 := fun k => (Gc97_386.2 _ _ (by omega)).2.1.trans (ZT_6 k)
    have G_7 : gq T sh M sh97 (sR M97 T 7 (some (T + 386))) := gq_tr G_6 (gq_tr (gq_le Gc97_386 (by omega)) (gq_sR (Nat.le_refl T)))
    have R0_7 : mR (sR M97 T 7 (some (T + 386))) T 0 = some (T + 1) := (tm_up_k _ _ (by decide)).trans ((Gc97_386.2 _ _ (by omega)).1.trans R0_6)
    have S1_7 : sh97 (T + 1) = some (22, 80) := (Gc97_386.1 _ (by omega)).trans S1_6
    have Z1_7 : ∀ k, mI (sR M97 T 7 (some (T + 386))) (T + 1) k = 0 := fun k => (Gc97_386.2 _ _ (by omega)).2.1.trans (Z1_6 k)
    have R1_7 : mR (sR M97 T 7 (some (T + 386))) T 1 = some (T + 2) := (tm_up_k _ _ (by decide)).trans ((Gc97_386.2 _ _ (by omega)).1.trans R1_6)
    have RD_7 : RdI sh97 (sR M97 T 7 (some (T + 386))) (T + 2) 9 9 9 := RdI_s (RdI_g RD_6 Gc97_386 (by omega) (by omega) (by omega) (by omega)) (by omega)
    have R2_7 : mR (sR M97 T 7 (some (T + 386))) T 2 = some (T + 88) := (tm_up_k _ _ (by decide)).trans ((Gc97_386.2 _ _ (by omega)).1.trans R2_6)
    have S88_7 : sh97 (T + 88) = some (25, 40) := (Gc97_386.1 _ (by omega)).trans S88_6
    have LA_7 : ∀ i, i < 40 → mR (sR M97 T 7 (some (T + 386))) (T + 88) i = some (T + 89 + 7 * i) ∧ isLn sh97 (sR M97 T 7 (some (T + 386))) (T + 89 + 7 * i) := fun i hi => ⟨(tm_up_a _ _ (by omega)).trans ((Gc97_386.2 _ _ (by omega)).1.trans (LA_6 i hi).1), isLn_s (isLn_g (LA_6 i hi).2 Gc97_386 (by omega)) (by omega)⟩
    have R4_7 : mR (sR M97 T 7 (some (T + 386))) T 4 = some (T + 369) := (tm_up_k _ _ (by decide)).trans ((Gc97_386.2 _ _ (by omega)).1.trans R4_6)
    have LNa_7 : isLn sh97 (sR M97 T 7 (some (T + 386))) (T + 369) := isLn_s (isLn_g LNa_6 Gc97_386 (by omega)) (by omega)
    have R5_7 : mR (sR M97 T 7 (some (T + 386))) T 5 = some (T + 376) := (tm_up_k _ _ (by decide)).trans ((Gc97_386.2 _ _ (by omega)).1.trans R5_6)
    have LNb_7 : isLn sh97 (sR M97 T 7 (some (T + 386))) (T + 376) := isLn_s (isLn_g LNb_6 Gc97_386 (by omega)) (by omega)
    have R6_7 : mR (sR M97 T 7 (some (T + 386))) T 6 = some (T + 383) := (tm_up_k _ _ (by decide)).trans ((Gc97_386.2 _ _ (by omega)).1.trans R6_6)
    have SOa_7 : isSo sh97 (sR M97 T 7 (some (T + 386))) (T + 383) := isSo_s (isSo_g SOa_6 Gc97_386 (by omega)) (by omega)
    have R7_7 : mR (sR M97 T 7 (some (T + 386))) T 7 = some (T + 386) := tm_up_s _ _ _ _
    have SOb_7 : isSo sh97 (sR M97 T 7 (some (T + 386))) (T + 386) := isSo_s sx (by omega)
    generalize sh97 = S7 at hW sT_7 G_7 S1_7 RD_7 S88_7 LA_7 LNa_7 LNb_7 SOa_7 SOb_7
    generalize (sR M97 T 7 (some (T + 386))) = N7 at hW ZT_7 G_7 R0_7 Z1_7 R1_7 RD_7 R2_7 LA_7 R4_7 LNa_7 R5_7 LNb_7 R6_7 SOa_7 R7_7 SOb_7
    refine lv_aload_n hx hb dX8_init_103 rfl (lv_at hl 0 rfl) ?_
    refine nw_X8_44 hx hb htw hown hK hW hS hh (by first | omega | (dsimp only; omega)) (by first | omega | (dsimp only; omega)) dX8_init_104 (fun H hW hS hh => ?_)
    refine lv_dup hx hb dX8_init_107 rfl ?_
    refine tz_callv (ci_X8_46 hx hb hml hown htw hK hW hC hS hh (c_X0_init (q := T + 389) sN_s) ⟨rfl, rfl, Nat.le_of_ble_eq_true rfl, Nat.le_of_ble_eq_true rfl⟩ hl.1 (Nat.le_of_ble_eq_true rfl) dX8_init_108 ⟨(by first | omega | (dsimp only; omega)), (by first | omega | (dsimp only; omega))⟩) hS (fun sh108 M108 h108 H locs hp108 hW hS hh => ?_)
    obtain ⟨ex, rx, gq9, zq⟩ := hp108
    subst zq
    have Gc108_389 := gq_tr (gq_new (q := T + 389) (x := T + 389) (kd := 2) (N := 0) (sh := S7) (M := N7) (Nat.le_refl _)) gq9
    have qa389 : sh108 T = some (8, 0) := (Gc108_389.1 _ (by omega)).trans sT_7
    refine pz_X8_47 hx hb htw hown hK hW qa389 hS hnm dX8_init_111 (fun H locs hW hS hz => ?_)
    replace hh := hz.trans hh
    have sT_8 : sh108 T = some (8, 0) := (Gc108_389.1 _ (by omega)).trans sT_7
    have ZT_8 : ∀ k, mI (sR M108 T 10 (some (T + 389))) T k = 0 := fun k => (Gc108_389.2 _ _ (by omega)).2.1.trans (ZT_7 k)
    have G_8 : gq T sh M sh108 (sR M108 T 10 (some (T + 389))) := gq_tr G_7 (gq_tr (gq_le Gc108_389 (by omega)) (gq_sR (Nat.le_refl T)))
    have R0_8 : mR (sR M108 T 10 (some (T + 389))) T 0 = some (T + 1) := (tm_up_k _ _ (by decide)).trans ((Gc108_389.2 _ _ (by omega)).1.trans R0_7)
    have S1_8 : sh108 (T + 1) = some (22, 80) := (Gc108_389.1 _ (by omega)).trans S1_7
    have Z1_8 : ∀ k, mI (sR M108 T 10 (some (T + 389))) (T + 1) k = 0 := fun k => (Gc108_389.2 _ _ (by omega)).2.1.trans (Z1_7 k)
    have R1_8 : mR (sR M108 T 10 (some (T + 389))) T 1 = some (T + 2) := (tm_up_k _ _ (by decide)).trans ((Gc108_389.2 _ _ (by omega)).1.trans R1_7)
    have RD_8 : RdI sh108 (sR M108 T 10 (some (T + 389))) (T + 2) 9 9 9 := RdI_s (RdI_g RD_7 Gc108_389 (by omega) (by omega) (by omega) (by omega)) (by omega)
    have R2_8 : mR (sR M108 T 10 (some (T + 389))) T 2 = some (T + 88) := (tm_up_k _ _ (by decide)).trans ((Gc108_389.2 _ _ (by omega)).1.trans R2_7)
    have S88_8 : sh108 (T + 88) = some (25, 40) := (Gc108_389.1 _ (by omega)).trans S88_7
    have LA_8 : ∀ i, i < 40 → mR (sR M108 T 10 (some (T + 389))) (T + 88) i = some (T + 89 + 7 * i) ∧ isLn sh108 (sR M108 T 10 (some (T + 389))) (T + 89 + 7 * i) := fun i hi => ⟨(tm_up_a _ _ (by omega)).trans ((Gc108_389.2 _ _ (by omega)).1.trans (LA_7 i hi).1), isLn_s (isLn_g (LA_7 i hi).2 Gc108_389 (by omega)) (by omega)⟩
    have R4_8 : mR (sR M108 T 10 (some (T + 389))) T 4 = some (T + 369) := (tm_up_k _ _ (by decide)).trans ((Gc108_389.2 _ _ (by omega)).1.trans R4_7)
    have LNa_8 : isLn sh108 (sR M108 T 10 (some (T + 389))) (T + 369) := isLn_s (isLn_g LNa_7 Gc108_389 (by omega)) (by omega)
    have R5_8 : mR (sR M108 T 10 (some (T + 389))) T 5 = some (T + 376) := (tm_up_k _ _ (by decide)).trans ((Gc108_389.2 _ _ (by omega)).1.trans R5_7)
    have LNb_8 : isLn sh108 (sR M108 T 10 (some (T + 389))) (T + 376) := isLn_s (isLn_g LNb_7 Gc108_389 (by omega)) (by omega)
    have R6_8 : mR (sR M108 T 10 (some (T + 389))) T 6 = some (T + 383) := (tm_up_k _ _ (by decide)).trans ((Gc108_389.2 _ _ (by omega)).1.trans R6_7)
    have SOa_8 : isSo sh108 (sR M108 T 10 (some (T + 389))) (T + 383) := isSo_s (isSo_g SOa_7 Gc108_389 (by omega)) (by omega)
    have R7_8 : mR (sR M108 T 10 (some (T + 389))) T 7 = some (T + 386) := (tm_up_k _ _ (by decide)).trans ((Gc108_389.2 _ _ (by omega)).1.trans R7_7)
    have SOb_8 : isSo sh108 (sR M108 T 10 (some (T + 389))) (T + 386) := isSo_s (isSo_g SOb_7 Gc108_389 (by omega)) (by omega)
    have R10_8 : mR (sR M108 T 10 (some (T + 389))) T 10 = some (T + 389) := tm_up_s _ _ _ _
    have S389_8 : sh108 (T + 389) = some (2, 0) := (congrFun ex _).trans sN_s
    generalize sh108 = S8 at hW sT_8 G_8 S1_8 RD_8 S88_8 LA_8 LNa_8 LNb_8 SOa_8 SOb_8 S389_8
    generalize (sR M108 T 10 (some (T + 389))) = N8 at hW ZT_8 G_8 R0_8 Z1_8 R1_8 RD_8 R2_8 LA_8 R4_8 LNa_8 R5_8 LNb_8 R6_8 SOa_8 R7_8 SOb_8 R10_8
    refine lv_aload_n hx hb dX8_init_114 rfl (lv_at hl 0 rfl) ?_
    refine nw_X8_51 hx hb htw hown hK hW hS hh (by first | omega | (dsimp only; omega)) (by first | omega | (dsimp only; omega)) dX8_init_115 (fun H hW hS hh => ?_)
    refine lv_dup hx hb dX8_init_118 rfl ?_
    refine tz_callv (ci_X8_53 hx hb hml hown htw hK hW hC hS hh (c_X2_init (q := T + 390) sN_s) ⟨rfl, rfl, Nat.le_of_ble_eq_true rfl, Nat.le_of_ble_eq_true rfl⟩ hl.1 (Nat.le_of_ble_eq_true rfl) dX8_init_119 ⟨(by first | omega | (dsimp only; omega)), (by first | omega | (dsimp only; omega))⟩) hS (fun sh119 M119 h119 H locs hp119 hW hS hh => ?_)
    obtain ⟨⟨px, rx⟩, bx, gq9, zq⟩ := hp119
    subst zq
    have Gc119_390 := gq_tr (gq_new (q := T + 390) (x := T + 390) (kd := 4) (N := 0) (sh := S8) (M := N8) (Nat.le_refl _)) gq9
    have qa390 : sh119 T = some (8, 0) := (Gc119_390.1 _ (by omega)).trans sT_8
    refine pz_X8_54 hx hb htw hown hK hW qa390 hS hnm dX8_init_122 (fun H locs hW hS hz => ?_)
    replace hh := hz.trans hh
    have sT_9 : sh119 T = some (8, 0) := (Gc119_390.1 _ (by omega)).trans sT_8
    have ZT_9 : ∀ k, mI (sR M119 T 11 (some (T + 390))) T k = 0 := fun k => (Gc119_390.2 _ _ (by omega)).2.1.trans (ZT_8 k)
    have G_9 : gq T sh M sh119 (sR M119 T 11 (some (T + 390))) := gq_tr G_8 (gq_tr (gq_le Gc119_390 (by omega)) (gq_sR (Nat.le_refl T)))
    have R0_9 : mR (sR M119 T 11 (some (T + 390))) T 0 = some (T + 1) := (tm_up_k _ _ (by decide)).trans ((Gc119_390.2 _ _ (by omega)).1.trans R0_8)
    have S1_9 : sh119 (T + 1) = some (22, 80) := (Gc119_390.1 _ (by omega)).trans S1_8
    have Z1_9 : ∀ k, mI (sR M119 T 11 (some (T + 390))) (T + 1) k = 0 := fun k => (Gc119_390.2 _ _ (by omega)).2.1.trans (Z1_8 k)
    have R1_9 : mR (sR M119 T 11 (some (T + 390))) T 1 = some (T + 2) := (tm_up_k _ _ (by decide)).trans ((Gc119_390.2 _ _ (by omega)).1.trans R1_8)
    have RD_9 : RdI sh119 (sR M119 T 11 (some (T + 390))) (T + 2) 9 9 9 := RdI_s (RdI_g RD_8 Gc119_390 (by omega) (by omega) (by omega) (by omega)) (by omega)
    have R2_9 : mR (sR M119 T 11 (some (T + 390))) T 2 = some (T + 88) := (tm_up_k _ _ (by decide)).trans ((Gc119_390.2 _ _ (by omega)).1.trans R2_8)
    have S88_9 : sh119 (T + 88) = some (25, 40) := (Gc119_390.1 _ (by omega)).trans S88_8
    have LA_9 : ∀ i, i < 40 → mR (sR M119 T 11 (some (T + 390))) (T + 88) i = some (T + 89 + 7 * i) ∧ isLn sh119 (sR M119 T 11 (some (T + 390))) (T + 89 + 7 * i) := fun i hi => ⟨(tm_up_a _ _ (by omega)).trans ((Gc119_390.2 _ _ (by omega)).1.trans (LA_8 i hi).1), isLn_s (isLn_g (LA_8 i hi).2 Gc119_390 (by omega)) (by omega)⟩
    have R4_9 : mR (sR M119 T 11 (some (T + 390))) T 4 = some (T + 369) := (tm_up_k _ _ (by decide)).trans ((Gc119_390.2 _ _ (by omega)).1.trans R4_8)
    have LNa_9 : isLn sh119 (sR M119 T 11 (some (T + 390))) (T + 369) := isLn_s (isLn_g LNa_8 Gc119_390 (by omega)) (by omega)
    have R5_9 : mR (sR M119 T 11 (some (T + 390))) T 5 = some (T + 376) := (tm_up_k _ _ (by decide)).trans ((Gc119_390.2 _ _ (by omega)).1.trans R5_8)
    have LNb_9 : isLn sh119 (sR M119 T 11 (some (T + 390))) (T + 376) := isLn_s (isLn_g LNb_8 Gc119_390 (by omega)) (by omega)
    have R6_9 : mR (sR M119 T 11 (some (T + 390))) T 6 = some (T + 383) := (tm_up_k _ _ (by decide)).trans ((Gc119_390.2 _ _ (by omega)).1.trans R6_8)
    have SOa_9 : isSo sh119 (sR M119 T 11 (some (T + 390))) (T + 383) := isSo_s (isSo_g SOa_8 Gc119_390 (by omega)) (by omega)
    have R7_9 : mR (sR M119 T 11 (some (T + 390))) T 7 = some (T + 386) := (tm_up_k _ _ (by decide)).trans ((Gc119_390.2 _ _ (by omega)).1.trans R7_8)
    have SOb_9 : isSo sh119 (sR M119 T 11 (some (T + 390))) (T + 386) := isSo_s (isSo_g SOb_8 Gc119_390 (by omega)) (by omega)
    have R10_9 : mR (sR M119 T 11 (some (T + 390))) T 10 = some (T + 389) := (tm_up_k _ _ (by decide)).trans ((Gc119_390.2 _ _ (by omega)).1.trans R10_8)
    have S389_9 : sh119 (T + 389) = some (2, 0) := (Gc119_390.1 _ (by omega)).trans S389_8
    have R11_9 : mR (sR M119 T 11 (some (T + 390))) T 11 = some (T + 390) := tm_up_s _ _ _ _
    have S390_9 : sh119 (T + 390) = some (4, 0) := px
    have PR_9 : mR (sR M119 T 11 (some (T + 390))) (T + 390) 0 = some (T + 391) := (tm_up_a _ _ (by omega)).trans rx
    have SB_9 : isSB sh119 (sR M119 T 11 (some (T + 390))) (T + 391) (T + 392) 16 [] := isSB_s bx (by omega)
    generalize sh119 = S9 at hW sT_9 G_9 S1_9 RD_9 S88_9 LA_9 LNa_9 LNb_9 SOa_9 SOb_9 S389_9 S390_9 SB_9
    generalize (sR M119 T 11 (some (T + 390))) = N9 at hW ZT_9 G_9 R0_9 Z1_9 R1_9 RD_9 R2_9 LA_9 R4_9 LNa_9 R5_9 LNb_9 R6_9 SOa_9 R7_9 SOb_9 R10_9 R11_9 PR_9 SB_9
    refine lv_aload_n hx hb dX8_init_125 rfl (lv_at hl 0 rfl) ?_
    refine ti_iconst hx hb dX8_init_126 ?_
    refine na_int (N := 4) hx hb htw hK hW hS hh rfl (by omega) (by first | omega | (dsimp only; omega)) (by first | omega | (dsimp only; omega)) dX8_init_127 (fun H hW hS hh => ?_)
    have Ga393 : gq (T + 393) S9 N9 (sN S9 (T + 393) 20 4) (zM N9 (T + 393)) := gq_new (Nat.le_refl _)
    have qa393 : (sN S9 (T + 393) 20 4) T = some (8, 0) := (Ga393.1 _ (by omega)).trans sT_9
    refine pz_X8_58 hx hb htw hown hK hW qa393 hS hnm dX8_init_129 (fun H locs hW hS hz => ?_)
    replace hh := hz.trans hh
    have sT_10 : (sN S9 (T + 393) 20 4) T = some (8, 0) := (Ga393.1 _ (by omega)).trans sT_9
    have ZT_10 : ∀ k, mI (sR (zM N9 (T + 393)) T 12 (some (T + 393))) T k = 0 := fun k => (Ga393.2 _ _ (by omega)).2.1.trans (ZT_9 k)
    have G_10 : gq T sh M (sN S9 (T + 393) 20 4) (sR (zM N9 (T + 393)) T 12 (some (T + 393))) := gq_tr G_9 (gq_tr (gq_le Ga393 (by omega)) (gq_sR (Nat.le_refl T)))
    have R0_10 : mR (sR (zM N9 (T + 393)) T 12 (some (T + 393))) T 0 = some (T + 1) := (tm_up_k _ _ (by decide)).trans ((Ga393.2 _ _ (by omega)).1.trans R0_9)
    have S1_10 : (sN S9 (T + 393) 20 4) (T + 1) = some (22, 80) := (Ga393.1 _ (by omega)).trans S1_9
    have Z1_10 : ∀ k, mI (sR (zM N9 (T + 393)) T 12 (some (T + 393))) (T + 1) k = 0 := fun k => (Ga393.2 _ _ (by omega)).2.1.trans (Z1_9 k)
    have R1_10 : mR (sR (zM N9 (T + 393)) T 12 (some (T + 393))) T 1 = some (T + 2) := (tm_up_k _ _ (by decide)).trans ((Ga393.2 _ _ (by omega)).1.trans R1_9)
    have RD_10 : RdI (sN S9 (T + 393) 20 4) (sR (zM N9 (T + 393)) T 12 (some (T + 393))) (T + 2) 9 9 9 := RdI_s (RdI_g RD_9 Ga393 (by omega) (by omega) (by omega) (by omega)) (by omega)
    have R2_10 : mR (sR (zM N9 (T + 393)) T 12 (some (T + 393))) T 2 = some (T + 88) := (tm_up_k _ _ (by decide)).trans ((Ga393.2 _ _ (by omega)).1.trans R2_9)
    have S88_10 : (sN S9 (T + 393) 20 4) (T + 88) = some (25, 40) := (Ga393.1 _ (by omega)).trans S88_9
    have LA_10 : ∀ i, i < 40 → mR (sR (zM N9 (T + 393)) T 12 (some (T + 393))) (T + 88) i = some (T + 89 + 7 * i) ∧ isLn (sN S9 (T + 393) 20 4) (sR (zM N9 (T + 393)) T 12 (some (T + 393))) (T + 89 + 7 * i) := fun i hi => ⟨(tm_up_a _ _ (by omega)).trans ((Ga393.2 _ _ (by omega)).1.trans (LA_9 i hi).1), isLn_s (isLn_g (LA_9 i hi).2 Ga393 (by omega)) (by omega)⟩
    have R4_10 : mR (sR (zM N9 (T + 393)) T 12 (some (T + 393))) T 4 = some (T + 369) := (tm_up_k _ _ (by decide)).trans ((Ga393.2 _ _ (by omega)).1.trans R4_9)
    have LNa_10 : isLn (sN S9 (T + 393) 20 4) (sR (zM N9 (T + 393)) T 12 (some (T + 393))) (T + 369) := isLn_s (isLn_g LNa_9 Ga393 (by omega)) (by omega)
    have R5_10 : mR (sR (zM N9 (T + 393)) T 12 (some (T + 393))) T 5 = some (T + 376) := (tm_up_k _ _ (by decide)).trans ((Ga393.2 _ _ (by omega)).1.trans R5_9)
    have LNb_10 : isLn (sN S9 (T + 393) 20 4) (sR (zM N9 (T + 393)) T 12 (some (T + 393))) (T + 376) := isLn_s (isLn_g LNb_9 Ga393 (by omega)) (by omega)
    have R6_10 : mR (sR (zM N9 (T + 393)) T 12 (some (T + 393))) T 6 = some (T + 383) := (tm_up_k _ _ (by decide)).trans ((Ga393.2 _ _ (by omega)).1.trans R6_9)
    have SOa_10 : isSo (sN S9 (T + 393) 20 4) (sR (zM N9 (T + 393)) T 12 (some (T + 393))) (T + 383) := isSo_s (isSo_g SOa_9 Ga393 (by omega)) (by omega)
    have R7_10 : mR (sR (zM N9 (T + 393)) T 12 (some (T + 393))) T 7 = some (T + 386) := (tm_up_k _ _ (by decide)).trans ((Ga393.2 _ _ (by omega)).1.trans R7_9)
    have SOb_10 : isSo (sN S9 (T + 393) 20 4) (sR (zM N9 (T + 393)) T 12 (some (T + 393))) (T + 386) := isSo_s (isSo_g SOb_9 Ga393 (by omega)) (by omega)
    have R10_10 : mR (sR (zM N9 (T + 393)) T 12 (some (T + 393))) T 10 = some (T + 389) := (tm_up_k _ _ (by decide)).trans ((Ga393.2 _ _ (by omega)).1.trans R10_9)
    have S389_10 : (sN S9 (T + 393) 20 4) (T + 389) = some (2, 0) := (Ga393.1 _ (by omega)).trans S389_9
    have R11_10 : mR (sR (zM N9 (T + 393)) T 12 (some (T + 393))) T 11 = some (T + 390) := (tm_up_k _ _ (by decide)).trans ((Ga393.2 _ _ (by omega)).1.trans R11_9)
    have S390_10 : (sN S9 (T + 393) 20 4) (T + 390) = some (4, 0) := (Ga393.1 _ (by omega)).trans S390_9
    have PR_10 : mR (sR (zM N9 (T + 393)) T 12 (some (T + 393))) (T + 390) 0 = some (T + 391) := (tm_up_a _ _ (by omega)).trans ((Ga393.2 _ _ (by omega)).1.trans PR_9)
    have SB_10 : isSB (sN S9 (T + 393) 20 4) (sR (zM N9 (T + 393)) T 12 (some (T + 393))) (T + 391) (T + 392) 16 [] := isSB_s (isSB_g SB_9 Ga393 (by omega) (by omega)) (by omega)
    have R12_10 : mR (sR (zM N9 (T + 393)) T 12 (some (T + 393))) T 12 = some (T + 393) := tm_up_s _ _ _ _
    have S393_10 : (sN S9 (T + 393) 20 4) (T + 393) = some (20, 4) := sN_s
    have Z393_10 : ∀ k, mI (sR (zM N9 (T + 393)) T 12 (some (T + 393))) (T + 393) k = 0 := fun k => zM_Is k
    generalize (sN S9 (T + 393) 20 4) = S10 at hW sT_10 G_10 S1_10 RD_10 S88_10 LA_10 LNa_10 LNb_10 SOa_10 SOb_10 S389_10 S390_10 SB_10 S393_10
    generalize (sR (zM N9 (T + 393)) T 12 (some (T + 393))) = N10 at hW ZT_10 G_10 R0_10 Z1_10 R1_10 RD_10 R2_10 LA_10 R4_10 LNa_10 R5_10 LNb_10 R6_10 SOa_10 R7_10 SOb_10 R10_10 R11_10 PR_10 SB_10 R12_10 Z393_10
    refine lv_aload_n hx hb dX8_init_132 rfl (lv_at hl 0 rfl) ?_
    refine ti_iconst hx hb dX8_init_133 ?_
    refine na_int (N := 3) hx hb htw hK hW hS hh rfl (by omega) (by first | omega | (dsimp only; omega)) (by first | omega | (dsimp only; omega)) dX8_init_134 (fun H hW hS hh => ?_)
    have Ga394 : gq (T + 394) S10 N10 (sN S10 (T + 394) 20 3) (zM N10 (T + 394)) := gq_new (Nat.le_refl _)
    have qa394 : (sN S10 (T + 394) 20 3) T = some (8, 0) := (Ga394.1 _ (by omega)).trans sT_10
    refine pz_X8_62 hx hb htw hown hK hW qa394 hS hnm dX8_init_136 (fun H locs hW hS hz => ?_)
    replace hh := hz.trans hh
    have sT_11 : (sN S10 (T + 394) 20 3) T = some (8, 0) := (Ga394.1 _ (by omega)).trans sT_10
    have ZT_11 : ∀ k, mI (sR (zM N10 (T + 394)) T 13 (some (T + 394))) T k = 0 := fun k => (Ga394.2 _ _ (by omega)).2.1.trans (ZT_10 k)
    have G_11 : gq T sh M (sN S10 (T + 394) 20 3) (sR (zM N10 (T + 394)) T 13 (some (T + 394))) := gq_tr G_10 (gq_tr (gq_le Ga394 (by omega)) (gq_sR (Nat.le_refl T)))
    have R0_11 : mR (sR (zM N10 (T + 394)) T 13 (some (T + 394))) T 0 = some (T + 1) := (tm_up_k _ _ (by decide)).trans ((Ga394.2 _ _ (by omega)).1.trans R0_10)
    have S1_11 : (sN S10 (T + 394) 20 3) (T + 1) = some (22, 80) := (Ga394.1 _ (by omega)).trans S1_10
    have Z1_11 : ∀ k, mI (sR (zM N10 (T + 394)) T 13 (some (T + 394))) (T + 1) k = 0 := fun k => (Ga394.2 _ _ (by omega)).2.1.trans (Z1_10 k)
    have R1_11 : mR (sR (zM N10 (T + 394)) T 13 (some (T + 394))) T 1 = some (T + 2) := (tm_up_k _ _ (by decide)).trans ((Ga394.2 _ _ (by omega)).1.trans R1_10)
    have RD_11 : RdI (sN S10 (T + 394) 20 3) (sR (zM N10 (T + 394)) T 13 (some (T + 394))) (T + 2) 9 9 9 := RdI_s (RdI_g RD_10 Ga394 (by omega) (by omega) (by omega) (by omega)) (by omega)
    have R2_11 : mR (sR (zM N10 (T + 394)) T 13 (some (T + 394))) T 2 = some (T + 88) := (tm_up_k _ _ (by decide)).trans ((Ga394.2 _ _ (by omega)).1.trans R2_10)
    have S88_11 : (sN S10 (T + 394) 20 3) (T + 88) = some (25, 40) := (Ga394.1 _ (by omega)).trans S88_10
    have LA_11 : ∀ i, i < 40 → mR (sR (zM N10 (T + 394)) T 13 (some (T + 394))) (T + 88) i = some (T + 89 + 7 * i) ∧ isLn (sN S10 (T + 394) 20 3) (sR (zM N10 (T + 394)) T 13 (some (T + 394))) (T + 89 + 7 * i) := fun i hi => ⟨(tm_up_a _ _ (by omega)).trans ((Ga394.2 _ _ (by omega)).1.trans (LA_10 i hi).1), isLn_s (isLn_g (LA_10 i hi).2 Ga394 (by omega)) (by omega)⟩
    have R4_11 : mR (sR (zM N10 (T + 394)) T 13 (some (T + 394))) T 4 = some (T + 369) := (tm_up_k _ _ (by decide)).trans ((Ga394.2 _ _ (by omega)).1.trans R4_10)
    have LNa_11 : isLn (sN S10 (T + 394) 20 3) (sR (zM N10 (T + 394)) T 13 (some (T + 394))) (T + 369) := isLn_s (isLn_g LNa_10 Ga394 (by omega)) (by omega)
    have R5_11 : mR (sR (zM N10 (T + 394)) T 13 (some (T + 394))) T 5 = some (T + 376) := (tm_up_k _ _ (by decide)).trans ((Ga394.2 _ _ (by omega)).1.trans R5_10)
    have LNb_11 : isLn (sN S10 (T + 394) 20 3) (sR (zM N10 (T + 394)) T 13 (some (T + 394))) (T + 376) := isLn_s (isLn_g LNb_10 Ga394 (by omega)) (by omega)
    have R6_11 : mR (sR (zM N10 (T + 394)) T 13 (some (T + 394))) T 6 = some (T + 383) := (tm_up_k _ _ (by decide)).trans ((Ga394.2 _ _ (by omega)).1.trans R6_10)
    have SOa_11 : isSo (sN S10 (T + 394) 20 3) (sR (zM N10 (T + 394)) T 13 (some (T + 394))) (T + 383) := isSo_s (isSo_g SOa_10 Ga394 (by omega)) (by omega)
    have R7_11 : mR (sR (zM N10 (T + 394)) T 13 (some (T + 394))) T 7 = some (T + 386) := (tm_up_k _ _ (by decide)).trans ((Ga394.2 _ _ (by omega)).1.trans R7_10)
    have SOb_11 : isSo (sN S10 (T + 394) 20 3) (sR (zM N10 (T + 394)) T 13 (some (T + 394))) (T + 386) := isSo_s (isSo_g SOb_10 Ga394 (by omega)) (by omega)
    have R10_11 : mR (sR (zM N10 (T + 394)) T 13 (some (T + 394))) T 10 = some (T + 389) := (tm_up_k _ _ (by decide)).trans ((Ga394.2 _ _ (by omega)).1.trans R10_10)
    have S389_11 : (sN S10 (T + 394) 20 3) (T + 389) = some (2, 0) := (Ga394.1 _ (by omega)).trans S389_10
    have R11_11 : mR (sR (zM N10 (T + 394)) T 13 (some (T + 394))) T 11 = some (T + 390) := (tm_up_k _ _ (by decide)).trans ((Ga394.2 _ _ (by omega)).1.trans R11_10)
    have S390_11 : (sN S10 (T + 394) 20 3) (T + 390) = some (4, 0) := (Ga394.1 _ (by omega)).trans S390_10
    have PR_11 : mR (sR (zM N10 (T + 394)) T 13 (some (T + 394))) (T + 390) 0 = some (T + 391) := (tm_up_a _ _ (by omega)).trans ((Ga394.2 _ _ (by omega)).1.trans PR_10)
    have SB_11 : isSB (sN S10 (T + 394) 20 3) (sR (zM N10 (T + 394)) T 13 (some (T + 394))) (T + 391) (T + 392) 16 [] := isSB_s (isSB_g SB_10 Ga394 (by omega) (by omega)) (by omega)
    have R12_11 : mR (sR (zM N10 (T + 394)) T 13 (some (T + 394))) T 12 = some (T + 393) := (tm_up_k _ _ (by decide)).trans ((Ga394.2 _ _ (by omega)).1.trans R12_10)
    have S393_11 : (sN S10 (T + 394) 20 3) (T + 393) = some (20, 4) := (Ga394.1 _ (by omega)).trans S393_10
    have Z393_11 : ∀ k, mI (sR (zM N10 (T + 394)) T 13 (some (T + 394))) (T + 393) k = 0 := fun k => (Ga394.2 _ _ (by omega)).2.1.trans (Z393_10 k)
    have R13_11 : mR (sR (zM N10 (T + 394)) T 13 (some (T + 394))) T 13 = some (T + 394) := tm_up_s _ _ _ _
    have S394_11 : (sN S10 (T + 394) 20 3) (T + 394) = some (20, 3) := sN_s
    have Z394_11 : ∀ k, mI (sR (zM N10 (T + 394)) T 13 (some (T + 394))) (T + 394) k = 0 := fun k => zM_Is k
    generalize (sN S10 (T + 394) 20 3) = S11 at hW sT_11 G_11 S1_11 RD_11 S88_11 LA_11 LNa_11 LNb_11 SOa_11 SOb_11 S389_11 S390_11 SB_11 S393_11 S394_11
    generalize (sR (zM N10 (T + 394)) T 13 (some (T + 394))) = N11 at hW ZT_11 G_11 R0_11 Z1_11 R1_11 RD_11 R2_11 LA_11 R4_11 LNa_11 R5_11 LNb_11 R6_11 SOa_11 R7_11 SOb_11 R10_11 R11_11 PR_11 SB_11 R12_11 Z393_11 R13_11 Z394_11
    exact W.widen (k := 394) (n := 991) (by first | omega | (dsimp only; omega)) (by first | omega | (dsimp only; omega)) (tz_vret hx hb hr hlk hK hW hS hh ⟨⟨sT_11, ⟨R0_11, R1_11, R2_11, R4_11, R5_11, R6_11, R7_11, R10_11, R11_11, R12_11, R13_11⟩, ⟨S1_11, RD_11.1.1, S88_11, S389_11, S390_11, S393_11, S394_11⟩, RdI_R RD_11 S1_11, LA_11, LNa_11, LNb_11, SOa_11, SOb_11⟩, ⟨fun j => by rw [Z1_11 j]; exact ⟨rfl, by decide, by decide⟩, ⟨ZT_11 3, Nat.zero_le _⟩, fun i hi => absurd hi (Nat.not_lt_zero i), ⟨ZT_11 8, Or.inl rfl, fun q => absurd (show (0 : Int) = 1 from q) (by decide)⟩, fun k _ _ => ⟨Z393_11 k, (by decide : (0 : Int) ≤ 0), (by decide : (0 : Int) ≤ 10)⟩, fun k _ => Z394_11 k⟩, PR_11, SB_11, G_11, rfl⟩ dX8_init_139)
  have loop : ∀ (j n0 : Nat) (sL : tm_sh) (mM : tm_M) (H : Heap) (locs : List Loc) (ls : Array Slot), n0 + j = 40 → (sL T = some (8, 0)) → (∀ k, mI mM T k = 0) → (gq T sh M sL mM) → (mR mM T 0 = some (T + 1)) → (sL (T + 1) = some (22, 80)) → (∀ k, mI mM (T + 1) k = 0) → (mR mM T 1 = some (T + 2)) → (RdI sL mM (T + 2) 9 9 9) → (mR mM T 2 = some (T + 88)) → (sL (T + 88) = some (25, 40)) → (∀ i, i < n0 → mR mM (T + 88) i = some (T + 89 + 7 * i) ∧ isLn sL mM (T + 89 + 7 * i)) → tm_W G Hb sL mM H → va_S (tm_A Hb) s.heap H locs → H.size = T + 89 + 7 * n0 → lv_has ls 2 [(0, .ref T), (1, ji (n0 : Nat))] → W p l e ({ frames := 5, cells := 394, slots := 991, locals := 101 }) s m [.ref T].toArray below meth c H locs (88 + 7 * n0) (317 + 15 * n0) (MQ below (tz_Qv G Hb (fun sh1 M1 h1 => isTL sh1 M1 T ∧ TLv M1 T z00 ∧ mR M1 (T + 390) 0 = some (T + 391) ∧ isSB sh1 M1 (T + 391) (T + 392) 16 [] ∧ gq T sh M sh1 M1 ∧ h1 = T + 395)) [.ref T].toArray s 394 991 (tm_A Hb)) (F0 m 34 ls []) := by
    intro j
    induction j with
    | zero =>
      intro n0 sL mM H locs ls hi sT_L ZT_L G_L R0_L S1_L Z1_L R1_L RD_L R2_L S88_L LA_L hW hS hh hl
      obtain rfl : n0 = 40 := by omega
      refine lv_iload_n hx hb dX8_init_34 rfl (lv_at hl 1 rfl) ?_
      refine ti_bipush hx hb dX8_init_35 (by decide) ?_
      refine ti_icmp_ge (tgt := 59) hx hb dX8_init_37 (by decide) (by decide) (by decide) (fun h37 => ?_) (fun h37 => ?_)
      · exact fin sL mM _ _ _ sT_L ZT_L G_L R0_L S1_L Z1_L R1_L RD_L R2_L S88_L LA_L hW hS hh (lv_sub hl [0] rfl)
      · exact absurd (show (40 : Int) ≤ ((40 : Nat) : Int) by decide) h37
    | succ j ih =>
      intro n0 sL mM H locs ls hi sT_L ZT_L G_L R0_L S1_L Z1_L R1_L RD_L R2_L S88_L LA_L hW hS hh hl
      refine lv_iload_n hx hb dX8_init_34 rfl (lv_at hl 1 rfl) ?_
      refine ti_bipush hx hb dX8_init_35 (by decide) ?_
      refine ti_icmp_ge (tgt := 59) hx hb dX8_init_37 (by decide) (by omega) (by decide) (fun h37 => ?_) (fun h37 => ?_)
      · exact absurd h37 (by omega)
      · refine lv_aload_n hx hb dX8_init_40 rfl (lv_at hl 0 rfl) ?_
        refine gf_X8_22 hx hb htw hown hK hW sT_L R2_L dX8_init_41 ?_
        refine lv_iload_n hx hb dX8_init_44 rfl (lv_at hl 1 rfl) ?_
        refine nw_X8_20 hx hb htw hown hK hW hS hh (by first | omega | (dsimp only; omega)) (by first | omega | (dsimp only; omega)) dX8_init_45 (fun H hW hS hh => ?_)
        refine lv_dup hx hb dX8_init_48 rfl ?_
        refine tz_callv (ci_X8_26 hx hb hml hown htw hK hW hC hS hh (c_X1_init (q := T + 89 + 7 * n0) sN_s) ⟨rfl, rfl, Nat.le_of_ble_eq_true rfl, Nat.le_of_ble_eq_true rfl⟩ hl.1 (Nat.le_of_ble_eq_true rfl) dX8_init_49 ⟨(by first | omega | (dsimp only; omega)), (by first | omega | (dsimp only; omega))⟩) hS (fun sh49 M49 h49 H locs hp49 hW hS hh => ?_)
        obtain ⟨sx, gq9, zq⟩ := hp49
        subst zq
        have Gn := gq_tr (gq_new (q := T + 89 + 7 * n0) (x := T + 89 + 7 * n0) (kd := 3) (N := 0) (sh := sL) (M := mM) (Nat.le_refl _)) gq9
        have a88 : sh49 (T + 88) = some (25, 40) := (Gn.1 _ (by omega)).trans S88_L
        refine tm_aast hx hb hK hW hS 25 5 3 a88 (by decide) rfl sx.1 (by decide) rfl (fun _ _ _ => tm_V2 rfl _ _) (by omega) (by omega) (by decide) dX8_init_52 (fun H locs hW hS hz => ?_)
        replace hh := hz.trans hh
        have e53 : (sR M49 (T + 88) ((n0 : Nat) : Int).toNat (some (T + 89 + 7 * n0))) = (sR M49 (T + 88) n0 (some (T + 89 + 7 * n0))) := by rw [show ((n0 : Nat) : Int).toNat = n0 by omega]
        rw [e53] at hW
        refine ti_iinc (k := 1) (lv' := [(1, _), (0, _)]) hx hb dX8_init_53 hl rfl (by decide) rfl (fun ls hl => ?_)
        refine lv_goto (tgt := 34) hx hb dX8_init_56 (by decide) ?_
        exact ih (n0 + 1) sh49 (sR M49 (T + 88) n0 (some (T + 89 + 7 * n0))) _ _ _ (by omega) ((Gn.1 _ (by omega)).trans sT_L) (fun k => (Gn.2 _ _ (by omega)).2.1.trans (ZT_L k)) (gq_tr G_L (gq_tr (gq_le Gn (by omega)) (gq_sR (by omega)))) ((tm_up_a _ _ (by omega)).trans ((Gn.2 _ _ (by omega)).1.trans R0_L)) ((Gn.1 _ (by omega)).trans S1_L) (fun k => (Gn.2 _ _ (by omega)).2.1.trans (Z1_L k)) ((tm_up_a _ _ (by omega)).trans ((Gn.2 _ _ (by omega)).1.trans R1_L)) (RdI_u (RdI_g RD_L Gn (by omega) (by omega) (by omega) (by omega)) (by omega)) ((tm_up_a _ _ (by omega)).trans ((Gn.2 _ _ (by omega)).1.trans R2_L)) ((Gn.1 _ (by omega)).trans S88_L) (tl_la LA_L Gn sx) hW hS (hh.trans (by omega)) (lv_sub hl [1, 0] rfl)
  have sT_0 := hq
  have ZT_0 := hz0
  have G_0 : gq T sh M sh M := gq_rf
  refine lv_aload_n hx hb dX8_init_0 rfl (lv_at hl 0 rfl) ?_
  refine tm_oi hx hb hml hl.1 hown htw oi_X8_1 ⟨Nat.le_of_ble_eq_true rfl, Nat.le_of_ble_eq_true rfl⟩ (Nat.le_of_ble_eq_true rfl) dX8_init_1 ?_
  refine lv_aload_n hx hb dX8_init_4 rfl (lv_at hl 0 rfl) ?_
  refine ti_bipush hx hb dX8_init_5 (by decide) ?_
  refine na_byte (N := 80) hx hb htw hK hW hS hh rfl (by omega) (by first | omega | (dsimp only; omega)) (by first | omega | (dsimp only; omega)) dX8_init_7 (fun H hW hS hh => ?_)
  have Ga1 : gq (T + 1) sh M (sN sh (T + 1) 22 80) (zM M (T + 1)) := gq_new (Nat.le_refl _)
  have qa1 : (sN sh (T + 1) 22 80) T = some (8, 0) := (Ga1.1 _ (by omega)).trans sT_0
  refine pz_X8_9 hx hb htw hown hK hW qa1 hS hnm dX8_init_9 (fun H locs hW hS hz => ?_)
  replace hh := hz.trans hh
  have sT_1 : (sN sh (T + 1) 22 80) T = some (8, 0) := (Ga1.1 _ (by omega)).trans sT_0
  have ZT_1 : ∀ k, mI (sR (zM M (T + 1)) T 0 (some (T + 1))) T k = 0 := fun k => (Ga1.2 _ _ (by omega)).2.1.trans (ZT_0 k)
  have G_1 : gq T sh M (sN sh (T + 1) 22 80) (sR (zM M (T + 1)) T 0 (some (T + 1))) := gq_tr G_0 (gq_tr (gq_le Ga1 (by omega)) (gq_sR (Nat.le_refl T)))
  have R0_1 : mR (sR (zM M (T + 1)) T 0 (some (T + 1))) T 0 = some (T + 1) := tm_up_s _ _ _ _
  have S1_1 : (sN sh (T + 1) 22 80) (T + 1) = some (22, 80) := sN_s
  have Z1_1 : ∀ k, mI (sR (zM M (T + 1)) T 0 (some (T + 1))) (T + 1) k = 0 := fun k => zM_Is k
  generalize (sN sh (T + 1) 22 80) = S1 at hW sT_1 G_1 S1_1
  generalize (sR (zM M (T + 1)) T 0 (some (T + 1))) = N1 at hW ZT_1 G_1 R0_1 Z1_1
  refine lv_aload_n hx hb dX8_init_12 rfl (lv_at hl 0 rfl) ?_
  refine nw_X8_13 hx hb htw hown hK hW hS hh (by first | omega | (dsimp only; omega)) (by first | omega | (dsimp only; omega)) dX8_init_13 (fun H hW hS hh => ?_)
  refine lv_dup hx hb dX8_init_16 rfl ?_
  refine tz_callv (ci_X8_15 hx hb hml hown htw hK hW hC hS hh (c_X4_init (q := T + 2) sN_s) ⟨rfl, rfl, Nat.le_of_ble_eq_true rfl, Nat.le_of_ble_eq_true rfl⟩ hl.1 (Nat.le_of_ble_eq_true rfl) dX8_init_17 ⟨(by first | omega | (dsimp only; omega)), (by first | omega | (dsimp only; omega))⟩) hS (fun sh17 M17 h17 H locs hp17 hW hS hh => ?_)
  obtain ⟨sx, gq9, zq⟩ := hp17
  subst zq
  have Gc17_2 := gq_tr (gq_new (q := T + 2) (x := T + 2) (kd := 5) (N := 0) (sh := S1) (M := N1) (Nat.le_refl _)) gq9
  have qa2 : sh17 T = some (8, 0) := (Gc17_2.1 _ (by omega)).trans sT_1
  refine pz_X8_16 hx hb htw hown hK hW qa2 hS hnm dX8_init_20 (fun H locs hW hS hz => ?_)
  replace hh := hz.trans hh
  have sT_2 : sh17 T = some (8, 0) := (Gc17_2.1 _ (by omega)).trans sT_1
  have ZT_2 : ∀ k, mI (sR M17 T 1 (some (T + 2))) T k = 0 := fun k => (Gc17_2.2 _ _ (by omega)).2.1.trans (ZT_1 k)
  have G_2 : gq T sh M sh17 (sR M17 T 1 (some (T + 2))) := gq_tr G_1 (gq_tr (gq_le Gc17_2 (by omega)) (gq_sR (Nat.le_refl T)))
  have R0_2 : mR (sR M17 T 1 (some (T + 2))) T 0 = some (T + 1) := (tm_up_k _ _ (by decide)).trans ((Gc17_2.2 _ _ (by omega)).1.trans R0_1)
  have S1_2 : sh17 (T + 1) = some (22, 80) := (Gc17_2.1 _ (by omega)).trans S1_1
  have Z1_2 : ∀ k, mI (sR M17 T 1 (some (T + 2))) (T + 1) k = 0 := fun k => (Gc17_2.2 _ _ (by omega)).2.1.trans (Z1_1 k)
  have R1_2 : mR (sR M17 T 1 (some (T + 2))) T 1 = some (T + 2) := tm_up_s _ _ _ _
  have RD_2 : RdI sh17 (sR M17 T 1 (some (T + 2))) (T + 2) 9 9 9 := RdI_s sx (by omega)
  generalize sh17 = S2 at hW sT_2 G_2 S1_2 RD_2
  generalize (sR M17 T 1 (some (T + 2))) = N2 at hW ZT_2 G_2 R0_2 Z1_2 R1_2 RD_2
  refine lv_aload_n hx hb dX8_init_23 rfl (lv_at hl 0 rfl) ?_
  refine ti_bipush hx hb dX8_init_24 (by decide) ?_
  refine nr_X8_20 (N := 40) hx hb htw hown hK hW hC hS hh rfl (by omega) (by first | omega | (dsimp only; omega)) (by first | omega | (dsimp only; omega)) dX8_init_26 (fun H hW hS hh => ?_)
  have Ga88 : gq (T + 88) S2 N2 (sN S2 (T + 88) 25 40) (zM N2 (T + 88)) := gq_new (Nat.le_refl _)
  have qa88 : (sN S2 (T + 88) 25 40) T = some (8, 0) := (Ga88.1 _ (by omega)).trans sT_2
  refine pz_X8_22 hx hb htw hown hK hW qa88 hS hnm dX8_init_29 (fun H locs hW hS hz => ?_)
  replace hh := hz.trans hh
  have sT_3 : (sN S2 (T + 88) 25 40) T = some (8, 0) := (Ga88.1 _ (by omega)).trans sT_2
  have ZT_3 : ∀ k, mI (sR (zM N2 (T + 88)) T 2 (some (T + 88))) T k = 0 := fun k => (Ga88.2 _ _ (by omega)).2.1.trans (ZT_2 k)
  have G_3 : gq T sh M (sN S2 (T + 88) 25 40) (sR (zM N2 (T + 88)) T 2 (some (T + 88))) := gq_tr G_2 (gq_tr (gq_le Ga88 (by omega)) (gq_sR (Nat.le_refl T)))
  have R0_3 : mR (sR (zM N2 (T + 88)) T 2 (some (T + 88))) T 0 = some (T + 1) := (tm_up_k _ _ (by decide)).trans ((Ga88.2 _ _ (by omega)).1.trans R0_2)
  have S1_3 : (sN S2 (T + 88) 25 40) (T + 1) = some (22, 80) := (Ga88.1 _ (by omega)).trans S1_2
  have Z1_3 : ∀ k, mI (sR (zM N2 (T + 88)) T 2 (some (T + 88))) (T + 1) k = 0 := fun k => (Ga88.2 _ _ (by omega)).2.1.trans (Z1_2 k)
  have R1_3 : mR (sR (zM N2 (T + 88)) T 2 (some (T + 88))) T 1 = some (T + 2) := (tm_up_k _ _ (by decide)).trans ((Ga88.2 _ _ (by omega)).1.trans R1_2)
  have RD_3 : RdI (sN S2 (T + 88) 25 40) (sR (zM N2 (T + 88)) T 2 (some (T + 88))) (T + 2) 9 9 9 := RdI_s (RdI_g RD_2 Ga88 (by omega) (by omega) (by omega) (by omega)) (by omega)
  have R2_3 : mR (sR (zM N2 (T + 88)) T 2 (some (T + 88))) T 2 = some (T + 88) := tm_up_s _ _ _ _
  have S88_3 : (sN S2 (T + 88) 25 40) (T + 88) = some (25, 40) := sN_s
  generalize (sN S2 (T + 88) 25 40) = S3 at hW sT_3 G_3 S1_3 RD_3 S88_3
  generalize (sR (zM N2 (T + 88)) T 2 (some (T + 88))) = N3 at hW ZT_3 G_3 R0_3 Z1_3 R1_3 RD_3 R2_3
  refine ti_iconst hx hb dX8_init_32 ?_
  refine lv_istore_n (lv' := [(1, _), (0, _)]) hx hb dX8_init_33 rfl hl (by decide) rfl (fun ls hl => ?_)
  exact loop 40 0 S3 N3 _ _ _ rfl sT_3 ZT_3 G_3 R0_3 S1_3 Z1_3 R1_3 RD_3 R2_3 S88_3 (fun i hi => absurd hi (Nat.not_lt_zero i)) hW hS hh (lv_sub hl [1, 0] rfl)
