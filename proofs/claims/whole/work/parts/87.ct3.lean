/-! constructors: reader, builder, paper, model (by program: wip/whole/gen/ct3.py) -/
theorem fl_J5_18 : Cond.fieldLink RJ5 18 "java/lang/String" "COMPACT_STRINGS" "Z" ∈ tw := tw_in 186 (by decide +kernel) rfl
theorem fl_J0_1048 : Cond.fieldLink RJ0 1048 "java/lang/AbstractStringBuilder" "maybeLatin1" "Z" ∈ tw := tw_in 198 (by decide +kernel) rfl
theorem fl_J0_1053 : Cond.fieldLink RJ0 1053 "jdk/internal/util/Preconditions" "SIOOBE_FORMATTER" "Ljava/util/function/BiFunction;" ∈ tw := tw_in 289 (by decide +kernel) rfl
theorem fl_J2_44 : Cond.fieldLink RJ2 44 "java/lang/StringUTF16" "$assertionsDisabled" "Z" ∈ tw := tw_in 297 (by decide +kernel) rfl
theorem fl_J2_59 : Cond.fieldLink RJ2 59 "java/lang/StringUTF16" "HI_BYTE_SHIFT" "I" ∈ tw := tw_in 302 (by decide +kernel) rfl
theorem fl_J2_63 : Cond.fieldLink RJ2 63 "java/lang/StringUTF16" "LO_BYTE_SHIFT" "I" ∈ tw := tw_in 304 (by decide +kernel) rfl
theorem fl_J0_38 : Cond.fieldLink RJ0 38 "java/lang/String" "COMPACT_STRINGS" "Z" ∈ tw := tw_in 826 (by decide +kernel) rfl
theorem fl_J6_83 : Cond.fieldLink RJ6 83 "java/lang/Integer" "DigitOnes" "[B" ∈ tw := tw_in 874 (by decide +kernel) rfl
theorem fl_J6_87 : Cond.fieldLink RJ6 87 "java/lang/Integer" "DigitTens" "[B" ∈ tw := tw_in 876 (by decide +kernel) rfl
theorem fl_J2_403 : Cond.fieldLink RJ2 403 "java/lang/Integer" "DigitOnes" "[B" ∈ tw := tw_in 884 (by decide +kernel) rfl
theorem fl_J2_407 : Cond.fieldLink RJ2 407 "java/lang/Integer" "DigitTens" "[B" ∈ tw := tw_in 885 (by decide +kernel) rfl
theorem fl_J0_9 : Cond.fieldLink RJ0 9 "java/lang/String" "value" "[B" ∈ tw := tw_in 941 (by decide +kernel) rfl
theorem fl_J0_15 : Cond.fieldLink RJ0 15 "java/lang/String" "coder" "B" ∈ tw := tw_in 942 (by decide +kernel) rfl
/-- a reader on its way: a, b, c sides of the three rows stand -/
def RdI (sh : tm_sh) (M : tm_M) (rd a b c : Nat) : Prop := (sh rd = some (5, 0) ∧ mR M rd 5 = some (rd + 2) ∧ mR M rd 6 = some (rd + 3) ∧ mR M rd 7 = some (rd + 4)) ∧ (sh (rd + 2) = some (24, 9) ∧ sh (rd + 3) = some (24, 9) ∧ sh (rd + 4) = some (24, 9)) ∧ (∀ j, j < a → mR M (rd + 2) j = some (rd + 5 + 9 * j) ∧ isSd sh M (rd + 5 + 9 * j)) ∧ (∀ j, j < b → mR M (rd + 3) j = some (rd + 8 + 9 * j) ∧ isSd sh M (rd + 8 + 9 * j)) ∧ ∀ j, j < c → mR M (rd + 4) j = some (rd + 11 + 9 * j) ∧ isSd sh M (rd + 11 + 9 * j)
theorem RdI_g {sh sh1 : tm_sh} {M M1 : tm_M} {rd a b c q : Nat} (h : RdI sh M rd a b c) (g : gq q sh M sh1 M1) (h0 : rd + 5 ≤ q) (ha : rd + 9 * a ≤ q + 1) (hb : rd + 9 * b + 2 ≤ q) (hc : rd + 9 * c + 5 ≤ q) : RdI sh1 M1 rd a b c := by
  obtain ⟨⟨h1, h2, h3, h4⟩, ⟨h5, h6, h7⟩, h8, h9, h10⟩ := h
  exact ⟨⟨(g.1 _ (by omega)).trans h1, (g.2 _ _ (by omega)).1.trans h2, (g.2 _ _ (by omega)).1.trans h3, (g.2 _ _ (by omega)).1.trans h4⟩, ⟨(g.1 _ (by omega)).trans h5, (g.1 _ (by omega)).trans h6, (g.1 _ (by omega)).trans h7⟩, fun j hj => ⟨(g.2 _ _ (by omega)).1.trans (h8 j hj).1, isSd_g (h8 j hj).2 g (by omega)⟩, fun j hj => ⟨(g.2 _ _ (by omega)).1.trans (h9 j hj).1, isSd_g (h9 j hj).2 g (by omega)⟩, fun j hj => ⟨(g.2 _ _ (by omega)).1.trans (h10 j hj).1, isSd_g (h10 j hj).2 g (by omega)⟩⟩
theorem isSd_t {x a k : Nat} {v : Option Nat} {sh : tm_sh} {M : tm_M} (h : isSd sh M x) (ha : a ≠ x) : isSd sh (sR M a k v) x := by
  obtain ⟨h1, h2, h3, h4, h5⟩ := h
  exact ⟨h1, h2, h3, (tm_up_a _ _ (by omega)).trans h4, (tm_up_a _ _ (by omega)).trans h5⟩
theorem RdI_a {sh : tm_sh} {M : tm_M} {rd a b c : Nat} (h : RdI sh M rd a b c) (hs : isSd sh M (rd + 5 + 9 * a)) : RdI sh (sR M (rd + 2) a (some (rd + 5 + 9 * a))) rd (a + 1) b c := by
  obtain ⟨⟨h1, h2, h3, h4⟩, h5, h8, h9, h10⟩ := h
  refine ⟨⟨h1, (tm_up_a _ _ (by omega)).trans h2, (tm_up_a _ _ (by omega)).trans h3, (tm_up_a _ _ (by omega)).trans h4⟩, h5, fun j hj => ?_, fun j hj => ⟨(tm_up_a _ _ (by omega)).trans (h9 j hj).1, isSd_t (h9 j hj).2 (by omega)⟩, fun j hj => ⟨(tm_up_a _ _ (by omega)).trans (h10 j hj).1, isSd_t (h10 j hj).2 (by omega)⟩⟩
  by_cases e : j = a
  · subst e
    exact ⟨tm_up_s _ _ _ _, isSd_t hs (by omega)⟩
  · exact ⟨(tm_up_k _ _ e).trans (h8 j (by omega)).1, isSd_t (h8 j (by omega)).2 (by omega)⟩
theorem RdI_b {sh : tm_sh} {M : tm_M} {rd a b c : Nat} (h : RdI sh M rd a b c) (hs : isSd sh M (rd + 8 + 9 * b)) : RdI sh (sR M (rd + 3) b (some (rd + 8 + 9 * b))) rd a (b + 1) c := by
  obtain ⟨⟨h1, h2, h3, h4⟩, h5, h8, h9, h10⟩ := h
  refine ⟨⟨h1, (tm_up_a _ _ (by omega)).trans h2, (tm_up_a _ _ (by omega)).trans h3, (tm_up_a _ _ (by omega)).trans h4⟩, h5, fun j hj => ⟨(tm_up_a _ _ (by omega)).trans (h8 j hj).1, isSd_t (h8 j hj).2 (by omega)⟩, fun j hj => ?_, fun j hj => ⟨(tm_up_a _ _ (by omega)).trans (h10 j hj).1, isSd_t (h10 j hj).2 (by omega)⟩⟩
  by_cases e : j = b
  · subst e
    exact ⟨tm_up_s _ _ _ _, isSd_t hs (by omega)⟩
  · exact ⟨(tm_up_k _ _ e).trans (h9 j (by omega)).1, isSd_t (h9 j (by omega)).2 (by omega)⟩
theorem RdI_c {sh : tm_sh} {M : tm_M} {rd a b c : Nat} (h : RdI sh M rd a b c) (hs : isSd sh M (rd + 11 + 9 * c)) : RdI sh (sR M (rd + 4) c (some (rd + 11 + 9 * c))) rd a b (c + 1) := by
  obtain ⟨⟨h1, h2, h3, h4⟩, h5, h8, h9, h10⟩ := h
  refine ⟨⟨h1, (tm_up_a _ _ (by omega)).trans h2, (tm_up_a _ _ (by omega)).trans h3, (tm_up_a _ _ (by omega)).trans h4⟩, h5, fun j hj => ⟨(tm_up_a _ _ (by omega)).trans (h8 j hj).1, isSd_t (h8 j hj).2 (by omega)⟩, fun j hj => ⟨(tm_up_a _ _ (by omega)).trans (h9 j hj).1, isSd_t (h9 j hj).2 (by omega)⟩, fun j hj => ?_⟩
  by_cases e : j = c
  · subst e
    exact ⟨tm_up_s _ _ _ _, isSd_t hs (by omega)⟩
  · exact ⟨(tm_up_k _ _ e).trans (h10 j (by omega)).1, isSd_t (h10 j (by omega)).2 (by omega)⟩
theorem dX4_init_0 : decode cX4_init 0 = .ok (.aload_n 0, 1) := by decide +kernel
theorem dX4_init_1 : decode cX4_init 1 = .ok (.invokespecial 3, 3) := by decide +kernel
theorem dX4_init_4 : decode cX4_init 4 = .ok (.aload_n 0, 1) := by decide +kernel
theorem dX4_init_5 : decode cX4_init 5 = .ok (.iconst 0, 1) := by decide +kernel
theorem dX4_init_6 : decode cX4_init 6 = .ok (.newarray .byte, 2) := by decide +kernel
theorem dX4_init_8 : decode cX4_init 8 = .ok (.putfield 9, 3) := by decide +kernel
theorem dX4_init_11 : decode cX4_init 11 = .ok (.aload_n 0, 1) := by decide +kernel
theorem dX4_init_12 : decode cX4_init 12 = .ok (.bipush 9, 2) := by decide +kernel
theorem dX4_init_14 : decode cX4_init 14 = .ok (.anewarray 15, 3) := by decide +kernel
theorem dX4_init_17 : decode cX4_init 17 = .ok (.putfield 17, 3) := by decide +kernel
theorem dX4_init_20 : decode cX4_init 20 = .ok (.aload_n 0, 1) := by decide +kernel
theorem dX4_init_21 : decode cX4_init 21 = .ok (.bipush 9, 2) := by decide +kernel
theorem dX4_init_23 : decode cX4_init 23 = .ok (.anewarray 15, 3) := by decide +kernel
theorem dX4_init_26 : decode cX4_init 26 = .ok (.putfield 21, 3) := by decide +kernel
theorem dX4_init_29 : decode cX4_init 29 = .ok (.aload_n 0, 1) := by decide +kernel
theorem dX4_init_30 : decode cX4_init 30 = .ok (.bipush 9, 2) := by decide +kernel
theorem dX4_init_32 : decode cX4_init 32 = .ok (.anewarray 15, 3) := by decide +kernel
theorem dX4_init_35 : decode cX4_init 35 = .ok (.putfield 24, 3) := by decide +kernel
theorem dX4_init_38 : decode cX4_init 38 = .ok (.iconst 0, 1) := by decide +kernel
theorem dX4_init_39 : decode cX4_init 39 = .ok (.istore_n 1, 1) := by decide +kernel
theorem dX4_init_40 : decode cX4_init 40 = .ok (.iload_n 1, 1) := by decide +kernel
theorem dX4_init_41 : decode cX4_init 41 = .ok (.bipush 8, 2) := by decide +kernel
theorem dX4_init_43 : decode cX4_init 43 = .ok (.if_icmp .gt 48, 3) := by decide +kernel
theorem dX4_init_46 : decode cX4_init 46 = .ok (.aload_n 0, 1) := by decide +kernel
theorem dX4_init_47 : decode cX4_init 47 = .ok (.getfield 17, 3) := by decide +kernel
theorem dX4_init_50 : decode cX4_init 50 = .ok (.iload_n 1, 1) := by decide +kernel
theorem dX4_init_51 : decode cX4_init 51 = .ok (.new 15, 3) := by decide +kernel
theorem dX4_init_54 : decode cX4_init 54 = .ok (.dup, 1) := by decide +kernel
theorem dX4_init_55 : decode cX4_init 55 = .ok (.invokespecial 27, 3) := by decide +kernel
theorem dX4_init_58 : decode cX4_init 58 = .ok (.aastore, 1) := by decide +kernel
theorem dX4_init_59 : decode cX4_init 59 = .ok (.aload_n 0, 1) := by decide +kernel
theorem dX4_init_60 : decode cX4_init 60 = .ok (.getfield 21, 3) := by decide +kernel
theorem dX4_init_63 : decode cX4_init 63 = .ok (.iload_n 1, 1) := by decide +kernel
theorem dX4_init_64 : decode cX4_init 64 = .ok (.new 15, 3) := by decide +kernel
theorem dX4_init_67 : decode cX4_init 67 = .ok (.dup, 1) := by decide +kernel
theorem dX4_init_68 : decode cX4_init 68 = .ok (.invokespecial 27, 3) := by decide +kernel
theorem dX4_init_71 : decode cX4_init 71 = .ok (.aastore, 1) := by decide +kernel
theorem dX4_init_72 : decode cX4_init 72 = .ok (.aload_n 0, 1) := by decide +kernel
theorem dX4_init_73 : decode cX4_init 73 = .ok (.getfield 24, 3) := by decide +kernel
theorem dX4_init_76 : decode cX4_init 76 = .ok (.iload_n 1, 1) := by decide +kernel
theorem dX4_init_77 : decode cX4_init 77 = .ok (.new 15, 3) := by decide +kernel
theorem dX4_init_80 : decode cX4_init 80 = .ok (.dup, 1) := by decide +kernel
theorem dX4_init_81 : decode cX4_init 81 = .ok (.invokespecial 27, 3) := by decide +kernel
theorem dX4_init_84 : decode cX4_init 84 = .ok (.aastore, 1) := by decide +kernel
theorem dX4_init_85 : decode cX4_init 85 = .ok (.iinc 1 1, 3) := by decide +kernel
theorem dX4_init_88 : decode cX4_init 88 = .ok (.goto (-48), 3) := by decide +kernel
theorem dX4_init_91 : decode cX4_init 91 = .ok (.return_, 1) := by decide +kernel
set_option maxHeartbeats 1000000 in
set_option maxRecDepth 100000 in
/-- Reader.<init> -/
theorem c_X4_init {l : Launch} {G : tm_G} {Hb : Heap} {sh : tm_sh} {M : tm_M} {q : Nat} (hq : sh q = some (5, 0)) : Met l yX4_init (tws yX4_init cX4_init 2 none) ({ frames := 3, cells := 85, slots := 189, locals := 60 }) (va_Pc [.ref q] (tz_St G Hb sh M (q + 1))) (tz_Qv G Hb (fun sh1 M1 h1 => RdI sh1 M1 q 9 9 9 ∧ gq q sh M sh1 M1 ∧ h1 = q + 86)) 85 189 (tm_A Hb) := by
  refine tz_begin (by decide) (Nat.le_of_ble_eq_true rfl) (fun p e s m below meth c ls hx hb hr hml hown htw hlk hnm hK hW hC hh hl => ?_)
  have hS : va_S (tm_A Hb) s.heap s.heap [] := va_S.rf
  have hl : lv_has ls 2 [(0, .ref q)] := hl
  have loop : ∀ (j i : Nat) (sh1 : tm_sh) (M1 : tm_M) (H : Heap) (locs : List Loc) (ls : Array Slot), i + j = 9 → RdI sh1 M1 q i i i → gq q sh M sh1 M1 → tm_W G Hb sh1 M1 H → va_S (tm_A Hb) s.heap H locs → H.size = q + 5 + 9 * i → lv_has ls 2 [(0, .ref q), (1, ji (i : Nat))] → W p l e ({ frames := 3, cells := 85, slots := 189, locals := 60 }) s m [.ref q].toArray below meth c H locs (4 + 9 * i) (27 + 18 * i) (MQ below (tz_Qv G Hb (fun sh1 M1 h1 => RdI sh1 M1 q 9 9 9 ∧ gq q sh M sh1 M1 ∧ h1 = q + 86)) [.ref q].toArray s 85 189 (tm_A Hb)) (F0 m 40 ls []) := by
    intro j
    induction j with
    | zero =>
      intro i sh1 M1 H locs ls hi hI hg hW hS hh hl
      obtain rfl : i = 9 := by omega
      refine lv_iload_n hx hb dX4_init_40 rfl (lv_at hl 1 rfl) ?_
      refine ti_bipush hx hb dX4_init_41 (by decide) ?_
      refine ti_icmp_gt (tgt := 91) hx hb dX4_init_43 (by decide) (by omega) (by decide) (fun h43 => ?_) (fun h43 => ?_)
      · exact W.widen (k := 85) (n := 189) (by first | omega | (dsimp only; omega)) (by first | omega | (dsimp only; omega)) (tz_vret hx hb hr hlk hK hW hS hh ⟨hI, hg, rfl⟩ dX4_init_91)
      · exact absurd (show (8 : Int) < ((9 : Nat) : Int) by decide) h43
    | succ j ih =>
      intro i sh1 M1 H locs ls hi hI hg hW hS hh hl
      have b0 := hI.1
      have b1 := hI.2.1
      refine lv_iload_n hx hb dX4_init_40 rfl (lv_at hl 1 rfl) ?_
      refine ti_bipush hx hb dX4_init_41 (by decide) ?_
      refine ti_icmp_gt (tgt := 91) hx hb dX4_init_43 (by decide) (by omega) (by decide) (fun h43 => ?_) (fun h43 => ?_)
      · exact absurd h43 (by omega)
      · refine lv_aload_n hx hb dX4_init_46 rfl (lv_at hl 0 rfl) ?_
        refine gf_X4_17 hx hb htw hown hK hW b0.1 b0.2.1 dX4_init_47 ?_
        refine lv_iload_n hx hb dX4_init_50 rfl (lv_at hl 1 rfl) ?_
        refine nw_X4_15 hx hb htw hown hK hW hS hh (by first | omega | (dsimp only; omega)) (by first | omega | (dsimp only; omega)) dX4_init_51 (fun H hW hS hh => ?_)
        refine lv_dup hx hb dX4_init_54 rfl ?_
        refine tz_callv (ci_X4_27 hx hb hml hown htw hK hW hC hS hh (c_X5_init (q := q + 5 + 9 * i) sN_s) ⟨rfl, rfl, Nat.le_of_ble_eq_true rfl, Nat.le_of_ble_eq_true rfl⟩ hl.1 (Nat.le_of_ble_eq_true rfl) dX4_init_55 ⟨(by first | omega | (dsimp only; omega)), (by first | omega | (dsimp only; omega))⟩) hS (fun sh55 M55 h55 H locs hp55 hW hS hh => ?_)
        obtain ⟨s55, g55, z55⟩ := hp55
        subst z55
        have G55 := gq_tr (gq_new (q := q + 5 + 9 * i) (x := q + 5 + 9 * i) (kd := 6) (N := 0) (sh := sh1) (M := M1) (Nat.le_refl _)) g55
        have I55 := RdI_g hI G55 (by omega) (by omega) (by omega) (by omega)
        refine tm_aast hx hb hK hW hS 24 4 6 I55.2.1.1 (by decide) rfl s55.1 (by decide) rfl (fun _ _ _ => tm_V2 rfl _ _) (by omega) (by omega) (by decide) dX4_init_58 (fun H locs hW hS hz => ?_)
        replace hh := hz.trans hh
        have e59 : (sR M55 (q + 2) ((i : Nat) : Int).toNat (some (q + 5 + 9 * i))) = sR M55 (q + 2) i (some (q + 5 + 9 * i)) := by rw [show ((i : Nat) : Int).toNat = i by omega]
        rw [e59] at hW
        have J1 := RdI_a I55 s55
        have H1 := gq_tr hg (gq_tr (gq_le G55 (by omega)) (gq_sR (q := q) (a := q + 2) (k := i) (v := some (q + 5 + 9 * i)) (by omega)))
        generalize sR M55 (q + 2) i (some (q + 5 + 9 * i)) = A1 at hW J1 H1
        clear e59
        replace hh := hh.trans (show q + 5 + 9 * i + 3 = q + 8 + 9 * i by omega)
        refine lv_aload_n hx hb dX4_init_59 rfl (lv_at hl 0 rfl) ?_
        refine gf_X4_21 hx hb htw hown hK hW J1.1.1 J1.1.2.2.1 dX4_init_60 ?_
        refine lv_iload_n hx hb dX4_init_63 rfl (lv_at hl 1 rfl) ?_
        refine nw_X4_15 hx hb htw hown hK hW hS hh (by first | omega | (dsimp only; omega)) (by first | omega | (dsimp only; omega)) dX4_init_64 (fun H hW hS hh => ?_)
        refine lv_dup hx hb dX4_init_67 rfl ?_
        refine tz_callv (ci_X4_27 hx hb hml hown htw hK hW hC hS hh (c_X5_init (q := q + 8 + 9 * i) sN_s) ⟨rfl, rfl, Nat.le_of_ble_eq_true rfl, Nat.le_of_ble_eq_true rfl⟩ hl.1 (Nat.le_of_ble_eq_true rfl) dX4_init_68 ⟨(by first | omega | (dsimp only; omega)), (by first | omega | (dsimp only; omega))⟩) hS (fun sh68 M68 h68 H locs hp68 hW hS hh => ?_)
        obtain ⟨s68, g68, z68⟩ := hp68
        subst z68
        have G68 := gq_tr (gq_new (q := q + 8 + 9 * i) (x := q + 8 + 9 * i) (kd := 6) (N := 0) (sh := sh55) (M := A1) (Nat.le_refl _)) g68
        have I68 := RdI_g J1 G68 (by omega) (by omega) (by omega) (by omega)
        refine tm_aast hx hb hK hW hS 24 4 6 I68.2.1.2.1 (by decide) rfl s68.1 (by decide) rfl (fun _ _ _ => tm_V2 rfl _ _) (by omega) (by omega) (by decide) dX4_init_71 (fun H locs hW hS hz => ?_)
        replace hh := hz.trans hh
        have e72 : (sR M68 (q + 3) ((i : Nat) : Int).toNat (some (q + 8 + 9 * i))) = sR M68 (q + 3) i (some (q + 8 + 9 * i)) := by rw [show ((i : Nat) : Int).toNat = i by omega]
        rw [e72] at hW
        have J2 := RdI_b I68 s68
        have H2 := gq_tr H1 (gq_tr (gq_le G68 (by omega)) (gq_sR (q := q) (a := q + 3) (k := i) (v := some (q + 8 + 9 * i)) (by omega)))
        generalize sR M68 (q + 3) i (some (q + 8 + 9 * i)) = A2 at hW J2 H2
        clear e72
        replace hh := hh.trans (show q + 8 + 9 * i + 3 = q + 11 + 9 * i by omega)
        refine lv_aload_n hx hb dX4_init_72 rfl (lv_at hl 0 rfl) ?_
        refine gf_X4_24 hx hb htw hown hK hW J2.1.1 J2.1.2.2.2 dX4_init_73 ?_
        refine lv_iload_n hx hb dX4_init_76 rfl (lv_at hl 1 rfl) ?_
        refine nw_X4_15 hx hb htw hown hK hW hS hh (by first | omega | (dsimp only; omega)) (by first | omega | (dsimp only; omega)) dX4_init_77 (fun H hW hS hh => ?_)
        refine lv_dup hx hb dX4_init_80 rfl ?_
        refine tz_callv (ci_X4_27 hx hb hml hown htw hK hW hC hS hh (c_X5_init (q := q + 11 + 9 * i) sN_s) ⟨rfl, rfl, Nat.le_of_ble_eq_true rfl, Nat.le_of_ble_eq_true rfl⟩ hl.1 (Nat.le_of_ble_eq_true rfl) dX4_init_81 ⟨(by first | omega | (dsimp only; omega)), (by first | omega | (dsimp only; omega))⟩) hS (fun sh81 M81 h81 H locs hp81 hW hS hh => ?_)
        obtain ⟨s81, g81, z81⟩ := hp81
        subst z81
        have G81 := gq_tr (gq_new (q := q + 11 + 9 * i) (x := q + 11 + 9 * i) (kd := 6) (N := 0) (sh := sh68) (M := A2) (Nat.le_refl _)) g81
        have I81 := RdI_g J2 G81 (by omega) (by omega) (by omega) (by omega)
        refine tm_aast hx hb hK hW hS 24 4 6 I81.2.1.2.2 (by decide) rfl s81.1 (by decide) rfl (fun _ _ _ => tm_V2 rfl _ _) (by omega) (by omega) (by decide) dX4_init_84 (fun H locs hW hS hz => ?_)
        replace hh := hz.trans hh
        have e85 : (sR M81 (q + 4) ((i : Nat) : Int).toNat (some (q + 11 + 9 * i))) = sR M81 (q + 4) i (some (q + 11 + 9 * i)) := by rw [show ((i : Nat) : Int).toNat = i by omega]
        rw [e85] at hW
        have J3 := RdI_c I81 s81
        have H3 := gq_tr H2 (gq_tr (gq_le G81 (by omega)) (gq_sR (q := q) (a := q + 4) (k := i) (v := some (q + 11 + 9 * i)) (by omega)))
        generalize sR M81 (q + 4) i (some (q + 11 + 9 * i)) = A3 at hW J3 H3
        clear e85
        replace hh := hh.trans (show q + 11 + 9 * i + 3 = q + 14 + 9 * i by omega)
        refine ti_iinc (k := 1) (lv' := [(1, _), (0, _)]) hx hb dX4_init_85 hl rfl (by decide) rfl (fun ls hl => ?_)
        refine lv_goto (tgt := 40) hx hb dX4_init_88 (by decide) ?_
        exact ih (i + 1) sh81 A3 _ _ _ (by omega) J3 H3 hW hS (hh.trans (by omega)) (lv_sub hl [1, 0] rfl)
  refine lv_aload_n hx hb dX4_init_0 rfl (lv_at hl 0 rfl) ?_
  refine tm_oi hx hb hml hl.1 hown htw oi_X4_3 ⟨Nat.le_of_ble_eq_true rfl, Nat.le_of_ble_eq_true rfl⟩ (Nat.le_of_ble_eq_true rfl) dX4_init_1 ?_
  refine lv_aload_n hx hb dX4_init_4 rfl (lv_at hl 0 rfl) ?_
  refine ti_iconst hx hb dX4_init_5 ?_
  refine na_byte (N := 0) hx hb htw hK hW hS hh rfl (by omega) (by first | omega | (dsimp only; omega)) (by first | omega | (dsimp only; omega)) dX4_init_6 (fun H hW hS hh => ?_)
  have q1 : sN sh (q + 1) 22 0 q = some (5, 0) := (sN_n (by omega)).trans hq
  refine pz_X4_9 hx hb htw hown hK hW q1 hS dX4_init_8 (fun H locs hW hS hz => ?_)
  replace hh := hz.trans hh
  refine lv_aload_n hx hb dX4_init_11 rfl (lv_at hl 0 rfl) ?_
  refine ti_bipush hx hb dX4_init_12 (by decide) ?_
  refine nr_X4_15 (N := 9) hx hb htw hown hK hW hC hS hh rfl (by omega) (by first | omega | (dsimp only; omega)) (by first | omega | (dsimp only; omega)) dX4_init_14 (fun H hW hS hh => ?_)
  have q2 : sN (sN sh (q + 1) 22 0) (q + 1 + 1) 24 9 q = some (5, 0) := (sN_n (by omega)).trans q1
  refine pz_X4_17 hx hb htw hown hK hW q2 hS hnm dX4_init_17 (fun H locs hW hS hz => ?_)
  replace hh := hz.trans hh
  refine lv_aload_n hx hb dX4_init_20 rfl (lv_at hl 0 rfl) ?_
  refine ti_bipush hx hb dX4_init_21 (by decide) ?_
  refine nr_X4_15 (N := 9) hx hb htw hown hK hW hC hS hh rfl (by omega) (by first | omega | (dsimp only; omega)) (by first | omega | (dsimp only; omega)) dX4_init_23 (fun H hW hS hh => ?_)
  have q3 : sN (sN (sN sh (q + 1) 22 0) (q + 1 + 1) 24 9) (q + 1 + 1 + 1) 24 9 q = some (5, 0) := (sN_n (by omega)).trans q2
  refine pz_X4_21 hx hb htw hown hK hW q3 hS hnm dX4_init_26 (fun H locs hW hS hz => ?_)
  replace hh := hz.trans hh
  refine lv_aload_n hx hb dX4_init_29 rfl (lv_at hl 0 rfl) ?_
  refine ti_bipush hx hb dX4_init_30 (by decide) ?_
  refine nr_X4_15 (N := 9) hx hb htw hown hK hW hC hS hh rfl (by omega) (by first | omega | (dsimp only; omega)) (by first | omega | (dsimp only; omega)) dX4_init_32 (fun H hW hS hh => ?_)
  have q4 : sN (sN (sN (sN sh (q + 1) 22 0) (q + 1 + 1) 24 9) (q + 1 + 1 + 1) 24 9) (q + 1 + 1 + 1 + 1) 24 9 q = some (5, 0) := (sN_n (by omega)).trans q3
  refine pz_X4_24 hx hb htw hown hK hW q4 hS hnm dX4_init_35 (fun H locs hW hS hz => ?_)
  replace hh := hz.trans hh
  refine ti_iconst hx hb dX4_init_38 ?_
  refine lv_istore_n (lv' := [(1, _), (0, _)]) hx hb dX4_init_39 rfl hl (by decide) rfl (fun ls hl => ?_)
  exact loop 9 0 _ _ _ _ _ rfl ⟨⟨q4, ((tm_up_k _ _ (by decide)).trans ((zM_R (by omega) _).trans ((tm_up_k _ _ (by decide)).trans ((zM_R (by omega) _).trans (tm_up_s _ _ _ _))))), ((tm_up_k _ _ (by decide)).trans ((zM_R (by omega) _).trans (tm_up_s _ _ _ _))), tm_up_s _ _ _ _⟩, ⟨(sN_n (by omega)).trans ((sN_n (by omega)).trans sN_s), (sN_n (by omega)).trans sN_s, sN_s⟩, fun j hj => absurd hj (Nat.not_lt_zero j), fun j hj => absurd hj (Nat.not_lt_zero j), fun j hj => absurd hj (Nat.not_lt_zero j)⟩ (gq_tr (gq_tr (gq_tr (gq_tr (gq_tr (gq_tr (gq_tr (gq_new (by omega)) (gq_sR (Nat.le_refl q))) (gq_new (by omega))) (gq_sR (Nat.le_refl q))) (gq_new (by omega))) (gq_sR (Nat.le_refl q))) (gq_new (by omega))) (gq_sR (Nat.le_refl q))) hW hS hh (lv_sub hl [1, 0] rfl)
/-- a builder at q: its bytes at V, cap of them; what it holds -/
def isSB (sh : tm_sh) (M : tm_M) (q V cap : Nat) (pr : List Int) : Prop := sh q = some (1, 0) ∧ mR M q 0 = some V ∧ sh V = some (22, cap) ∧ mI M q 1 = 0 ∧ mI M q 3 = pr.length ∧ pr.length ≤ cap ∧ cap < 1000 ∧ (∀ j, j < pr.length → mI M V j = pr.getD j 0) ∧ ∀ j, -128 ≤ mI M V j ∧ mI M V j < 128
theorem dJ5_init_d00df_0 : decode cJ5_init_d00df 0 = .ok (.aload_n 0, 1) := by decide +kernel
theorem dJ5_init_d00df_1 : decode cJ5_init_d00df 1 = .ok (.invokespecial 3, 3) := by decide +kernel
theorem dJ5_init_d00df_4 : decode cJ5_init_d00df 4 = .ok (.getstatic 18, 3) := by decide +kernel
theorem dJ5_init_d00df_7 : decode cJ5_init_d00df 7 = .ok (.ifCond .eq 18, 3) := by decide +kernel
theorem dJ5_init_d00df_10 : decode cJ5_init_d00df 10 = .ok (.aload_n 0, 1) := by decide +kernel
theorem dJ5_init_d00df_11 : decode cJ5_init_d00df 11 = .ok (.iload_n 1, 1) := by decide +kernel
theorem dJ5_init_d00df_12 : decode cJ5_init_d00df 12 = .ok (.newarray .byte, 2) := by decide +kernel
theorem dJ5_init_d00df_14 : decode cJ5_init_d00df 14 = .ok (.putfield 15, 3) := by decide +kernel
theorem dJ5_init_d00df_17 : decode cJ5_init_d00df 17 = .ok (.aload_n 0, 1) := by decide +kernel
theorem dJ5_init_d00df_18 : decode cJ5_init_d00df 18 = .ok (.iconst 0, 1) := by decide +kernel
theorem dJ5_init_d00df_19 : decode cJ5_init_d00df 19 = .ok (.putfield 22, 3) := by decide +kernel
theorem dJ5_init_d00df_22 : decode cJ5_init_d00df 22 = .ok (.goto 16, 3) := by decide +kernel
theorem dJ5_init_d00df_25 : decode cJ5_init_d00df 25 = .ok (.aload_n 0, 1) := by decide +kernel
theorem dJ5_init_d00df_26 : decode cJ5_init_d00df 26 = .ok (.iload_n 1, 1) := by decide +kernel
theorem dJ5_init_d00df_27 : decode cJ5_init_d00df 27 = .ok (.invokestatic 26, 3) := by decide +kernel
theorem dJ5_init_d00df_30 : decode cJ5_init_d00df 30 = .ok (.putfield 15, 3) := by decide +kernel
theorem dJ5_init_d00df_33 : decode cJ5_init_d00df 33 = .ok (.aload_n 0, 1) := by decide +kernel
theorem dJ5_init_d00df_34 : decode cJ5_init_d00df 34 = .ok (.iconst 1, 1) := by decide +kernel
theorem dJ5_init_d00df_35 : decode cJ5_init_d00df 35 = .ok (.putfield 22, 3) := by decide +kernel
theorem dJ5_init_d00df_38 : decode cJ5_init_d00df 38 = .ok (.return_, 1) := by decide +kernel
set_option maxHeartbeats 1000000 in
set_option maxRecDepth 100000 in
/-- AbstractStringBuilder.<init> -/
theorem c_J5_init {l : Launch} {G : tm_G} {Hb : Heap} {sh : tm_sh} {M : tm_M} {q : Nat} (hq : sh q = some (1, 0)) (hc : mI M q 3 = 0) : Met l yJ5_init_d00df (tws yJ5_init_d00df cJ5_init_d00df 2 none) ({ frames := 2, cells := 1, slots := 16, locals := 40 }) (va_Pc [.ref q, ji 16] (tz_St G Hb sh M (q + 1))) (tz_Qv G Hb (fun sh1 M1 h1 => isSB sh1 M1 q (q + 1) 16 [] ∧ gq q sh M sh1 M1 ∧ h1 = q + 2)) 1 16 (tm_A Hb) := by
  refine tz_beginF (by decide +kernel) (Nat.le_of_ble_eq_true rfl) (fun p e s m below meth c ls hx hb hr hml hown htw hlk hnm hK hW hC hh hl => ?_)
  have hS : va_S (tm_A Hb) s.heap s.heap [] := va_S.rf
  have hl : lv_has ls 2 [(0, .ref q), (1, ji 16)] := hl
  refine lv_aload_n hx hb dJ5_init_d00df_0 rfl (lv_at hl 0 rfl) ?_
  refine tm_oi hx hb hml hl.1 hown htw oi_J5_3 ⟨Nat.le_of_ble_eq_true rfl, Nat.le_of_ble_eq_true rfl⟩ (Nat.le_of_ble_eq_true rfl) dJ5_init_d00df_1 ?_
  refine va_gets hx hb hC.2.1 hS hown (htw _ fl_J5_18) (fun _ q => q) dJ5_init_d00df_4 ?_
  refine ti_if_eq (tgt := 25) hx hb dJ5_init_d00df_7 (by decide) (by decide) (fun h7 => ?_) (fun h7 => ?_)
  · exact absurd h7 (by decide)
  · refine lv_aload_n hx hb dJ5_init_d00df_10 rfl (lv_at hl 0 rfl) ?_
    refine lv_iload_n hx hb dJ5_init_d00df_11 rfl (lv_at hl 1 rfl) ?_
    refine na_byte (N := 16) hx hb htw hK hW hS hh rfl (by omega) (by first | omega | (dsimp only; omega)) (by first | omega | (dsimp only; omega)) dJ5_init_d00df_12 (fun H hW hS hh => ?_)
    have q1 : sN sh (q + 1) 22 16 q = some (1, 0) := (sN_n (by omega)).trans hq
    refine pz_J5_15 hx hb htw hown hK hW q1 hS dJ5_init_d00df_14 (fun H locs hW hS hz => ?_)
    replace hh := hz.trans hh
    refine lv_aload_n hx hb dJ5_init_d00df_17 rfl (lv_at hl 0 rfl) ?_
    refine ti_iconst hx hb dJ5_init_d00df_18 ?_
    refine pz_J5_22 hx hb htw hown hK hW q1 hS (Or.inl rfl) dJ5_init_d00df_19 (fun H locs hW hS hz => ?_)
    replace hh := hz.trans hh
    refine lv_goto (tgt := 38) hx hb dJ5_init_d00df_22 (by decide) ?_
    have zb0 : ∀ j, -128 ≤ mI (sI (sR (zM M (q + 1)) q 0 (some (q + 1))) q 1 0) (q + 1) j ∧ mI (sI (sR (zM M (q + 1)) q 0 (some (q + 1))) q 1 0) (q + 1) j < 128 := fun j => by rw [show mI (sI (sR (zM M (q + 1)) q 0 (some (q + 1))) q 1 0) (q + 1) j = 0 from (tm_up_a _ _ (by omega)).trans (zM_Is j)]; decide
    exact W.widen (k := 1) (n := 16) (by first | omega | (dsimp only; omega)) (by first | omega | (dsimp only; omega)) (tz_vret hx hb hr hlk hK hW hS hh ⟨⟨q1, (tm_up_s _ _ _ _ : mR (sR (zM M (q + 1)) q 0 (some (q + 1))) q 0 = some (q + 1)), sN_s, tm_up_s _ _ _ _, (tm_up_k _ _ (by decide)).trans ((zM_I (by omega) _).trans hc), Nat.zero_le _, by decide, fun j hj => absurd hj (Nat.not_lt_zero j), fun j => zb0 j⟩, gq_tr (gq_tr (gq_new (by omega)) (gq_sR (Nat.le_refl q))) (gq_sI (Nat.le_refl q)), rfl⟩ dJ5_init_d00df_38)
theorem dJ4_init_da8c8_0 : decode cJ4_init_da8c8 0 = .ok (.aload_n 0, 1) := by decide +kernel
theorem dJ4_init_da8c8_1 : decode cJ4_init_da8c8 1 = .ok (.bipush 16, 2) := by decide +kernel
theorem dJ4_init_da8c8_3 : decode cJ4_init_da8c8 3 = .ok (.invokespecial 1, 3) := by decide +kernel
theorem dJ4_init_da8c8_6 : decode cJ4_init_da8c8 6 = .ok (.return_, 1) := by decide +kernel
set_option maxHeartbeats 1000000 in
set_option maxRecDepth 100000 in
/-- StringBuilder.<init> -/
theorem c_J4_init {l : Launch} {G : tm_G} {Hb : Heap} {sh : tm_sh} {M : tm_M} {q : Nat} (hq : sh q = some (1, 0)) (hc : mI M q 3 = 0) : Met l yJ4_init_da8c8 (tws yJ4_init_da8c8 cJ4_init_da8c8 1 none) ({ frames := 3, cells := 1, slots := 16, locals := 61 }) (va_Pc [.ref q] (tz_St G Hb sh M (q + 1))) (tz_Qv G Hb (fun sh1 M1 h1 => isSB sh1 M1 q (q + 1) 16 [] ∧ gq q sh M sh1 M1 ∧ h1 = q + 2)) 1 16 (tm_A Hb) := by
  refine tz_beginF (by decide +kernel) (Nat.le_of_ble_eq_true rfl) (fun p e s m below meth c ls hx hb hr hml hown htw hlk hnm hK hW hC hh hl => ?_)
  have hS : va_S (tm_A Hb) s.heap s.heap [] := va_S.rf
  have hl : lv_has ls 1 [(0, .ref q)] := hl
  refine lv_aload_n hx hb dJ4_init_da8c8_0 rfl (lv_at hl 0 rfl) ?_
  refine ti_bipush hx hb dJ4_init_da8c8_1 (by decide) ?_
  refine tz_callv (ci_J4_1 hx hb hml hown htw hK hW hC hS hh (c_J5_init hq hc) ⟨rfl, rfl, Nat.le_of_ble_eq_true rfl, Nat.le_of_ble_eq_true rfl⟩ hl.1 (Nat.le_of_ble_eq_true rfl) dJ4_init_da8c8_3 ⟨(by first | omega | (dsimp only; omega)), (by first | omega | (dsimp only; omega))⟩) hS (fun sh3 M3 h3 H locs hp3 hW hS hh => ?_)
  obtain ⟨s3, g3, z3⟩ := hp3
  subst z3
  exact W.widen (k := 1) (n := 16) (by first | omega | (dsimp only; omega)) (by first | omega | (dsimp only; omega)) (tz_vret hx hb hr hlk hK hW hS hh ⟨s3, g3, rfl⟩ dJ4_init_da8c8_6)
theorem isSB_s {sh : tm_sh} {M : tm_M} {q V cap a k : Nat} {v : Option Nat} {pr : List Int} (h : isSB sh M q V cap pr) (ha : a < q) : isSB sh (sR M a k v) q V cap pr := ⟨h.1, (tm_up_a _ _ (by omega)).trans h.2.1, h.2.2⟩
theorem dX2_init_0 : decode cX2_init 0 = .ok (.aload_n 0, 1) := by decide +kernel
theorem dX2_init_1 : decode cX2_init 1 = .ok (.invokespecial 1, 3) := by decide +kernel
theorem dX2_init_4 : decode cX2_init 4 = .ok (.aload_n 0, 1) := by decide +kernel
theorem dX2_init_5 : decode cX2_init 5 = .ok (.new 7, 3) := by decide +kernel
theorem dX2_init_8 : decode cX2_init 8 = .ok (.dup, 1) := by decide +kernel
theorem dX2_init_9 : decode cX2_init 9 = .ok (.invokespecial 9, 3) := by decide +kernel
theorem dX2_init_12 : decode cX2_init 12 = .ok (.putfield 10, 3) := by decide +kernel
theorem dX2_init_15 : decode cX2_init 15 = .ok (.return_, 1) := by decide +kernel
set_option maxHeartbeats 1000000 in
set_option maxRecDepth 100000 in
/-- Paper.<init> -/
theorem c_X2_init {l : Launch} {G : tm_G} {Hb : Heap} {sh : tm_sh} {M : tm_M} {q : Nat} (hq : sh q = some (4, 0)) : Met l yX2_init (tws yX2_init cX2_init 1 none) ({ frames := 4, cells := 2, slots := 20, locals := 81 }) (va_Pc [.ref q] (tz_St G Hb sh M (q + 1))) (tz_Qv G Hb (fun sh1 M1 h1 => (sh1 q = some (4, 0) ∧ mR M1 q 0 = some (q + 1)) ∧ isSB sh1 M1 (q + 1) (q + 2) 16 [] ∧ gq q sh M sh1 M1 ∧ h1 = q + 3)) 2 20 (tm_A Hb) := by
  refine tz_begin (by decide) (Nat.le_of_ble_eq_true rfl) (fun p e s m below meth c ls hx hb hr hml hown htw hlk hnm hK hW hC hh hl => ?_)
  have hS : va_S (tm_A Hb) s.heap s.heap [] := va_S.rf
  have hl : lv_has ls 1 [(0, .ref q)] := hl
  refine lv_aload_n hx hb dX2_init_0 rfl (lv_at hl 0 rfl) ?_
  refine tm_oi hx hb hml hl.1 hown htw oi_X2_1 ⟨Nat.le_of_ble_eq_true rfl, Nat.le_of_ble_eq_true rfl⟩ (Nat.le_of_ble_eq_true rfl) dX2_init_1 ?_
  refine lv_aload_n hx hb dX2_init_4 rfl (lv_at hl 0 rfl) ?_
  refine nw_X2_7 hx hb htw hown hK hW hS hh (by first | omega | (dsimp only; omega)) (by first | omega | (dsimp only; omega)) dX2_init_5 (fun H hW hS hh => ?_)
  refine lv_dup hx hb dX2_init_8 rfl ?_
  refine tz_callv (ci_X2_9 hx hb hml hown htw hK hW hC hS hh (c_J4_init (q := q + 1) sN_s (zM_Is _)) ⟨rfl, rfl, Nat.le_of_ble_eq_true rfl, Nat.le_of_ble_eq_true rfl⟩ hl.1 (Nat.le_of_ble_eq_true rfl) dX2_init_9 ⟨(by first | omega | (dsimp only; omega)), (by first | omega | (dsimp only; omega))⟩) hS (fun sh9 M9 h9 H locs hp9 hW hS hh => ?_)
  obtain ⟨s9, g9, z9⟩ := hp9
  subst z9
  have G9 := gq_tr (gq_new (q := q + 1) (x := q + 1) (kd := 1) (N := 0) (sh := sh) (M := M) (Nat.le_refl _)) g9
  have q9 : sh9 q = some (4, 0) := (G9.1 q (by omega)).trans hq
  refine pz_X2_10 hx hb htw hown hK hW q9 hS hnm dX2_init_12 (fun H locs hW hS hz => ?_)
  replace hh := hz.trans hh
  exact W.widen (k := 2) (n := 20) (by first | omega | (dsimp only; omega)) (by first | omega | (dsimp only; omega)) (tz_vret hx hb hr hlk hK hW hS hh ⟨⟨q9, tm_up_s _ _ _ _⟩, isSB_s s9 (by omega), gq_tr (gq_le G9 (by omega)) (gq_sR (Nat.le_refl q)), rfl⟩ dX2_init_15)
