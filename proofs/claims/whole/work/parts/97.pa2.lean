/-! Paper: sides, lines (by program: wip/whole/gen/pa2.py) -/
theorem dX2_writeTimesX_0 : decode cX2_writeTimesX 0 = .ok (.aload_n 1, 1) := by decide +kernel
theorem dX2_writeTimesX_1 : decode cX2_writeTimesX 1 = .ok (.getfield 70, 3) := by decide +kernel
theorem dX2_writeTimesX_4 : decode cX2_writeTimesX 4 = .ok (.lconst 0, 1) := by decide +kernel
theorem dX2_writeTimesX_5 : decode cX2_writeTimesX 5 = .ok (.lcmp, 1) := by decide +kernel
theorem dX2_writeTimesX_6 : decode cX2_writeTimesX 6 = .ok (.ifCond .ge 13, 3) := by decide +kernel
theorem dX2_writeTimesX_9 : decode cX2_writeTimesX 9 = .ok (.aload_n 0, 1) := by decide +kernel
theorem dX2_writeTimesX_10 : decode cX2_writeTimesX 10 = .ok (.getfield 10, 3) := by decide +kernel
theorem dX2_writeTimesX_13 : decode cX2_writeTimesX 13 = .ok (.bipush 45, 2) := by decide +kernel
theorem dX2_writeTimesX_15 : decode cX2_writeTimesX 15 = .ok (.invokevirtual 74, 3) := by decide +kernel
theorem dX2_writeTimesX_18 : decode cX2_writeTimesX 18 = .ok (.pop, 1) := by decide +kernel
theorem dX2_writeTimesX_19 : decode cX2_writeTimesX 19 = .ok (.aload_n 1, 1) := by decide +kernel
theorem dX2_writeTimesX_20 : decode cX2_writeTimesX 20 = .ok (.lconst 1, 1) := by decide +kernel
theorem dX2_writeTimesX_21 : decode cX2_writeTimesX 21 = .ok (.invokevirtual 88, 3) := by decide +kernel
theorem dX2_writeTimesX_24 : decode cX2_writeTimesX 24 = .ok (.ifCond .ne 18, 3) := by decide +kernel
theorem dX2_writeTimesX_27 : decode cX2_writeTimesX 27 = .ok (.aload_n 1, 1) := by decide +kernel
theorem dX2_writeTimesX_28 : decode cX2_writeTimesX 28 = .ok (.ldc2_w 92, 3) := by decide +kernel
theorem dX2_writeTimesX_31 : decode cX2_writeTimesX 31 = .ok (.invokevirtual 88, 3) := by decide +kernel
theorem dX2_writeTimesX_34 : decode cX2_writeTimesX 34 = .ok (.ifCond .ne 8, 3) := by decide +kernel
theorem dX2_writeTimesX_37 : decode cX2_writeTimesX 37 = .ok (.aload_n 0, 1) := by decide +kernel
theorem dX2_writeTimesX_38 : decode cX2_writeTimesX 38 = .ok (.aload_n 1, 1) := by decide +kernel
theorem dX2_writeTimesX_39 : decode cX2_writeTimesX 39 = .ok (.invokevirtual 77, 3) := by decide +kernel
theorem dX2_writeTimesX_42 : decode cX2_writeTimesX 42 = .ok (.aload_n 0, 1) := by decide +kernel
theorem dX2_writeTimesX_43 : decode cX2_writeTimesX 43 = .ok (.getfield 10, 3) := by decide +kernel
theorem dX2_writeTimesX_46 : decode cX2_writeTimesX 46 = .ok (.bipush 120, 2) := by decide +kernel
theorem dX2_writeTimesX_48 : decode cX2_writeTimesX 48 = .ok (.invokevirtual 74, 3) := by decide +kernel
theorem dX2_writeTimesX_51 : decode cX2_writeTimesX 51 = .ok (.pop, 1) := by decide +kernel
theorem dX2_writeTimesX_52 : decode cX2_writeTimesX 52 = .ok (.return_, 1) := by decide +kernel
theorem w_up {p : Program} {l : Launch} {e : Env} {R : Room} {s : State} {m : MethodId} {args : Array Value} {below : List Frame} {meth : Method} {c : Code} {H : Heap} {locs : List Loc} {cells slots cells1 slots1 : Nat} {Q : State → Prop} {g : JFrame} (h1 : cells ≤ cells1) (h2 : slots ≤ slots1) (k : W p l e R s m args below meth c H locs cells1 slots1 Q g) : W p l e R s m args below meth c H locs cells slots Q g := W.widen h1 h2 k
theorem SBx_h {q V h n h1 h2 : Nat} {sh sh1 : tm_sh} {M M1 : tm_M} {pr : List Int} (g : SBx q V h sh M pr n sh1 M1 h1) (hh : h ≤ h2) : SBx q V h sh M pr n sh1 M1 h2 := by
  obtain ⟨V, cap, b1, b2, b3, b4, b5⟩ := g
  exact ⟨V, cap, b1, b2, b3, hh, b5⟩
theorem tl_nw {a b : Int} (h1 : ¬ (a, b) = (1, 1)) (h2 : ¬ (a, b) = (-1, 1)) (hz : ¬ a = 0) (h : (-1 ≤ a ∧ a ≤ 1) ∧ b = 1) : False := by
  have e : a = 1 ∨ a = -1 := by omega
  rcases e with e | e
  · exact h1 (by rw [e, h.2])
  · exact h2 (by rw [e, h.2])
set_option maxHeartbeats 1000000 in
set_option maxRecDepth 100000 in
/-- Paper.writeTimesX -/
theorem c_X2_writeTimesX {l : Launch} {G : tm_G} {Hb : Heap} {sh : tm_sh} {M : tm_M} {P q V cap h : Nat} {pr : List Int} (hP : isPa sh M P q) (s1 : isSB sh M q V cap pr) {f : Nat} (hf : sh f = some (2, 0)) (hfo : fok (mL M f 0, mL M f 1)) (hnz : ¬ mL M f 0 = 0) (hlen : pr.length + 11 ≤ 60) : Met l yX2_writeTimesX (tws yX2_writeTimesX cX2_writeTimesX 2 none) ({ frames := 7, cells := 5, slots := 2000, locals := 156 }) (va_Pc [.ref P, .ref f] (tz_St G Hb sh M h)) (tz_Qv G Hb (fun sh1 M1 h1 => SBx q V h sh M (pr ++ tl_mns (mL M f 0) ++ (if (-1 ≤ mL M f 0 ∧ mL M f 0 ≤ 1) ∧ mL M f 1 = 1 then [] else tl_siz (mL M f 0, mL M f 1)) ++ [120]) 0 sh1 M1 h1)) 5 2000 (tm_A Hb) := by
  refine tz_begin (by decide) (Nat.le_of_ble_eq_true rfl) (fun p e s m below meth c ls hx hb hr hml hown htw hlk hnm hK hW hC hh hl => ?_)
  have hS : va_S (tm_A Hb) s.heap s.heap [] := va_S.rf
  have hl : lv_has ls 2 [(0, .ref P), (1, .ref f)] := hl
  have s00 := s1
  have PS := hP.1
  have PR := hP.2
  have Pq : P ≠ q := fun z => by have h9 := s1.1; rw [← z, PS] at h9; cases h9
  have PV : P ≠ V := fun z => by have h9 := s1.2.2.1; rw [← z, PS] at h9; cases h9
  have Pl : P < h := by rw [← hh]; exact hW.free PS
  have fS := hf
  have fq : f ≠ q := fun z => by have h9 := s1.1; rw [← z, fS] at h9; cases h9
  have fV : f ≠ V := fun z => by have h9 := s1.2.2.1; rw [← z, fS] at h9; cases h9
  have fl : f < h := by rw [← hh]; exact hW.free fS
  have hfo0 := hfo
  obtain ⟨a1, a2, a3, a4⟩ := hfo
  have a1 : -9999 ≤ mL M f 0 := a1
  have a2 : mL M f 0 ≤ 9999 := a2
  have a3 : 0 < mL M f 1 := a3
  have a4 : mL M f 1 ≤ 9999 := a4
  have ml := tl_mns_l (mL M f 0)
  have sl := tl_siz_l (mL M f 0, mL M f 1)
  have B0 : SBx q V h sh M pr 0 sh M s.heap.size := by rw [hh]; exact SBx_rf s00 (Nat.zero_le _)
  have k42 : ∀ (pr1 : List Int) (sh1 : tm_sh) (M1 : tm_M) (H : Heap) (locs : List Loc) (ls : Array Slot), SBx q V h sh M pr1 0 sh1 M1 H.size → pr1 = pr ++ tl_mns (mL M f 0) ++ (if (-1 ≤ mL M f 0 ∧ mL M f 0 ≤ 1) ∧ mL M f 1 = 1 then [] else tl_siz (mL M f 0, mL M f 1)) → pr1.length ≤ pr.length + 10 → tm_W G Hb sh1 M1 H → va_S (tm_A Hb) s.heap H locs → lv_has ls 2 [(0, .ref P), (1, .ref f)] → W p l e ({ frames := 7, cells := 5, slots := 2000, locals := 156 }) s m [.ref P, .ref f].toArray below meth c H locs 4 1600 (MQ below (tz_Qv G Hb (fun sh1 M1 h1 => SBx q V h sh M (pr ++ tl_mns (mL M f 0) ++ (if (-1 ≤ mL M f 0 ∧ mL M f 0 ≤ 1) ∧ mL M f 1 = 1 then [] else tl_siz (mL M f 0, mL M f 1)) ++ [120]) 0 sh1 M1 h1)) [.ref P, .ref f].toArray s 5 2000 (tm_A Hb)) (F0 m 42 ls []) := by
    intro pr1 sh1 M1 H locs ls B9 he hle hW hS hl
    obtain ⟨V1, cap1, s1, -, rV, rh, rs, rm⟩ := (id B9)
    have q1S := s1.1
    have PS1 := (rs P Pl).trans PS
    have fS1 := (rs f fl).trans fS
    have PR1 := (rm P 0 Pl Pq PV).1.trans PR
    have f0 : mL M1 f 0 = mL M f 0 := (rm f 0 fl fq fV).2.2
    have f1 : mL M1 f 1 = mL M f 1 := (rm f 1 fl fq fV).2.2
    refine lv_aload_n hx hb dX2_writeTimesX_42 rfl (lv_at hl 0 rfl) ?_
    refine gf_X2_10 hx hb htw hown hK hW (by assumption) (by assumption) dX2_writeTimesX_43 ?_
    refine ti_bipush hx hb dX2_writeTimesX_46 (by decide) ?_
    refine tz_calla (cq_X2_74 hx hb hml hown htw (tz_preV hK hW hC hS rfl q1S (by decide) rfl) (c_J4_appendC (ch := 120) s1 (by decide) (by omega)) ⟨rfl, rfl, Nat.le_of_ble_eq_true rfl, Nat.le_of_ble_eq_true rfl⟩ hl.1 (Nat.le_of_ble_eq_true rfl) dX2_writeTimesX_48 ⟨(by first | omega | (dsimp only; omega)), (by first | omega | (dsimp only; omega))⟩) hS (fun x48 sh48 M48 h48 H locs hp48 hW hS hz48 => ?_)
    have B48 : SBx q V h sh M (pr1 ++ [120]) 0 sh48 M48 H.size := SBx_c rV rh rs rm hp48.2 hz48
    obtain ⟨V1, cap1, s1, -, rV, rh, rs, rm⟩ := (id B48)
    have q1S := s1.1
    have PS1 := (rs P Pl).trans PS
    have fS1 := (rs f fl).trans fS
    have PR1 := (rm P 0 Pl Pq PV).1.trans PR
    have f0 : mL M48 f 0 = mL M f 0 := (rm f 0 fl fq fV).2.2
    have f1 : mL M48 f 1 = mL M f 1 := (rm f 1 fl fq fV).2.2
    refine lv_pop hx hb dX2_writeTimesX_51 rfl ?_
    exact W.widen (k := 5) (n := 2000) (by first | omega | (dsimp only; omega)) (by first | omega | (dsimp only; omega)) (tz_vret hx hb hr hlk hK hW hS rfl (SBx_p B48 (by rw [he])) dX2_writeTimesX_52)
  have k19 : ∀ (pr1 : List Int) (sh1 : tm_sh) (M1 : tm_M) (H : Heap) (locs : List Loc) (ls : Array Slot), SBx q V h sh M pr1 0 sh1 M1 H.size → pr1 = pr ++ tl_mns (mL M f 0) → pr1.length ≤ pr.length + 1 → tm_W G Hb sh1 M1 H → va_S (tm_A Hb) s.heap H locs → lv_has ls 2 [(0, .ref P), (1, .ref f)] → W p l e ({ frames := 7, cells := 5, slots := 2000, locals := 156 }) s m [.ref P, .ref f].toArray below meth c H locs 1 400 (MQ below (tz_Qv G Hb (fun sh1 M1 h1 => SBx q V h sh M (pr ++ tl_mns (mL M f 0) ++ (if (-1 ≤ mL M f 0 ∧ mL M f 0 ≤ 1) ∧ mL M f 1 = 1 then [] else tl_siz (mL M f 0, mL M f 1)) ++ [120]) 0 sh1 M1 h1)) [.ref P, .ref f].toArray s 5 2000 (tm_A Hb)) (F0 m 19 ls []) := by
    intro pr1 sh1 M1 H locs ls B9 he hle hW hS hl
    obtain ⟨V1, cap1, s1, -, rV, rh, rs, rm⟩ := (id B9)
    have q1S := s1.1
    have PS1 := (rs P Pl).trans PS
    have fS1 := (rs f fl).trans fS
    have PR1 := (rm P 0 Pl Pq PV).1.trans PR
    have f0 : mL M1 f 0 = mL M f 0 := (rm f 0 fl fq fV).2.2
    have f1 : mL M1 f 1 = mL M f 1 := (rm f 1 fl fq fV).2.2
    refine lv_aload_n hx hb dX2_writeTimesX_19 rfl (lv_at hl 1 rfl) ?_
    refine ti_lconst1 hx hb dX2_writeTimesX_20 ?_
    refine tm_calli (cs_X2_88 hx hb hml hown htw hK hW (by assumption) (c_X0_isWhole (w := 1) fS1 ⟨by rw [f0]; omega, by rw [f1]; omega⟩ (by decide)) ⟨rfl, rfl, Nat.le_of_ble_eq_true rfl, Nat.le_of_ble_eq_true rfl⟩ hl.1 (Nat.le_of_ble_eq_true rfl) dX2_writeTimesX_21 ⟨Nat.le_of_ble_eq_true rfl, Nat.le_of_ble_eq_true rfl⟩) hS (fun x21 M21 H locs hp21 hW hS => ?_)
    obtain ⟨ex21, eM21⟩ := hp21
    rw [eM21] at hW
    rw [show fr M1 f = (mL M f 0, mL M f 1) by show (mL M1 f 0, mL M1 f 1) = _; rw [f0, f1]] at ex21
    rw [ex21]
    refine ti_if_ne (tgt := 42) hx hb dX2_writeTimesX_24 (by decide) (tl_b_r _) (fun h24 => ?_) (fun h24 => ?_)
    · exact w_up (by omega) (by omega) (k42 pr1 sh1 M1 _ _ _ (SBx_h B9 (by rw [← hh]; exact hS.1)) (by rw [he, if_pos (by have h9 := tl_b_n.mp h24; have e1 := congrArg Prod.fst h9; have e2 := congrArg Prod.snd h9; simp only at e1 e2; omega), List.append_nil]) (by omega) hW hS (lv_sub hl [0, 1] rfl))
    · refine lv_aload_n hx hb dX2_writeTimesX_27 rfl (lv_at hl 1 rfl) ?_
      refine lv_ldc2 hx hb hown (htw _ cl_X2_92) dX2_writeTimesX_28 ?_
      refine tm_calli (cs_X2_88 hx hb hml hown htw hK hW (by assumption) (c_X0_isWhole (w := (-1)) fS1 ⟨by rw [f0]; omega, by rw [f1]; omega⟩ (by decide)) ⟨rfl, rfl, Nat.le_of_ble_eq_true rfl, Nat.le_of_ble_eq_true rfl⟩ hl.1 (Nat.le_of_ble_eq_true rfl) dX2_writeTimesX_31 ⟨Nat.le_of_ble_eq_true rfl, Nat.le_of_ble_eq_true rfl⟩) hS (fun x31 M31 H locs hp31 hW hS => ?_)
      obtain ⟨ex31, eM31⟩ := hp31
      rw [eM31] at hW
      rw [show fr M1 f = (mL M f 0, mL M f 1) by show (mL M1 f 0, mL M1 f 1) = _; rw [f0, f1]] at ex31
      rw [ex31]
      refine ti_if_ne (tgt := 42) hx hb dX2_writeTimesX_34 (by decide) (tl_b_r _) (fun h34 => ?_) (fun h34 => ?_)
      · exact w_up (by omega) (by omega) (k42 pr1 sh1 M1 _ _ _ (SBx_h B9 (by rw [← hh]; exact hS.1)) (by rw [he, if_pos (by have h9 := tl_b_n.mp h34; have e1 := congrArg Prod.fst h9; have e2 := congrArg Prod.snd h9; simp only at e1 e2; omega), List.append_nil]) (by omega) hW hS (lv_sub hl [0, 1] rfl))
      · refine lv_aload_n hx hb dX2_writeTimesX_37 rfl (lv_at hl 0 rfl) ?_
        refine lv_aload_n hx hb dX2_writeTimesX_38 rfl (lv_at hl 1 rfl) ?_
        replace rh : h ≤ H.size := by rw [← hh]; exact hS.1
        refine tz_callv (cq_X2_77 hx hb hml hown htw (tz_preV hK hW hC hS rfl PS1 (by decide) rfl) (c_X2_writeSize ⟨PS1, PR1⟩ s1 fS1 (by rw [f0, f1]; exact hfo0) (by omega)) ⟨rfl, rfl, Nat.le_of_ble_eq_true rfl, Nat.le_of_ble_eq_true rfl⟩ hl.1 (Nat.le_of_ble_eq_true rfl) dX2_writeTimesX_39 ⟨(by first | omega | (dsimp only; omega)), (by first | omega | (dsimp only; omega))⟩) hS (fun sh39 M39 h39 H locs hp39 hW hS hz39 => ?_)
        rw [f0, f1] at hp39
        have B39 : SBx q V h sh M (pr1 ++ tl_siz (mL M f 0, mL M f 1)) 0 sh39 M39 H.size := SBx_c rV rh rs rm hp39 hz39
        obtain ⟨V1, cap1, s1, -, rV, rh, rs, rm⟩ := (id B39)
        have q1S := s1.1
        have PS1 := (rs P Pl).trans PS
        have fS1 := (rs f fl).trans fS
        have PR1 := (rm P 0 Pl Pq PV).1.trans PR
        have f0 : mL M39 f 0 = mL M f 0 := (rm f 0 fl fq fV).2.2
        have f1 : mL M39 f 1 = mL M f 1 := (rm f 1 fl fq fV).2.2
        exact w_up (by omega) (by omega) (k42 _ sh39 M39 _ _ _ B39 (by rw [he, if_neg (fun z => tl_nw (tl_b_0.mp h24) (tl_b_0.mp h34) hnz z)]) (by rw [List.length_append]; omega) hW hS (lv_sub hl [0, 1] rfl))
  obtain ⟨V1, cap1, s1, -, rV, rh, rs, rm⟩ := (id B0)
  have q1S := s1.1
  have PS1 := (rs P Pl).trans PS
  have fS1 := (rs f fl).trans fS
  have PR1 := (rm P 0 Pl Pq PV).1.trans PR
  have f0 : mL M f 0 = mL M f 0 := (rm f 0 fl fq fV).2.2
  have f1 : mL M f 1 = mL M f 1 := (rm f 1 fl fq fV).2.2
  refine lv_aload_n hx hb dX2_writeTimesX_0 rfl (lv_at hl 1 rfl) ?_
  refine gf_X2_70 hx hb htw hown hK hW (by assumption) dX2_writeTimesX_1 ?_
  refine ti_lconst0 hx hb dX2_writeTimesX_4 ?_
  refine ti_lcmp_ge (tgt := 19) hx hb dX2_writeTimesX_5 dX2_writeTimesX_6 (by decide) (by omega) (by decide) (fun h5 => ?_) (fun h5 => ?_)
  · exact w_up (by omega) (by omega) (k19 pr sh M _ _ _ B0 (by rw [tl_mn0 (by omega), List.append_nil]) (by omega) hW hS (lv_sub hl [0, 1] rfl))
  · refine lv_aload_n hx hb dX2_writeTimesX_9 rfl (lv_at hl 0 rfl) ?_
    refine gf_X2_10 hx hb htw hown hK hW (by assumption) (by assumption) dX2_writeTimesX_10 ?_
    refine ti_bipush hx hb dX2_writeTimesX_13 (by decide) ?_
    refine tz_calla (cq_X2_74 hx hb hml hown htw (tz_preV hK hW hC hS rfl q1S (by decide) rfl) (c_J4_appendC (ch := 45) s1 (by decide) (by omega)) ⟨rfl, rfl, Nat.le_of_ble_eq_true rfl, Nat.le_of_ble_eq_true rfl⟩ hl.1 (Nat.le_of_ble_eq_true rfl) dX2_writeTimesX_15 ⟨(by first | omega | (dsimp only; omega)), (by first | omega | (dsimp only; omega))⟩) hS (fun x15 sh15 M15 h15 H locs hp15 hW hS hz15 => ?_)
    have B15 : SBx q V h sh M (pr ++ [45]) 0 sh15 M15 H.size := SBx_c rV rh rs rm hp15.2 hz15
    obtain ⟨V1, cap1, s1, -, rV, rh, rs, rm⟩ := (id B15)
    have q1S := s1.1
    have PS1 := (rs P Pl).trans PS
    have fS1 := (rs f fl).trans fS
    have PR1 := (rm P 0 Pl Pq PV).1.trans PR
    have f0 : mL M15 f 0 = mL M f 0 := (rm f 0 fl fq fV).2.2
    have f1 : mL M15 f 1 = mL M f 1 := (rm f 1 fl fq fV).2.2
    refine lv_pop hx hb dX2_writeTimesX_18 rfl ?_
    exact w_up (by omega) (by omega) (k19 _ sh15 M15 _ _ _ B15 (by rw [tl_mn1 (by omega)]) (by rw [List.length_append]; exact Nat.le_refl _) hW hS (lv_sub hl [0, 1] rfl))
