/-! TutorLinesModel: scaled, slips, explained (by program: wip/whole/gen/mo5.py) -/
abbrev fg (f : tl_F) : Prop := Int.gcd f.1 f.2 = 1
def lg (v : tl_L) : Prop := (fg v.1.1 ∧ fg v.1.2) ∧ fg v.2.1.1 ∧ fg v.2.1.2
theorem norm_neg {f : tl_F} (h : fok f) (g : fg f) : tl_norm (-f.1) f.2 = fneg f := tl_norm_self h.2.2.1 (by rw [Int.neg_gcd]; exact g)
theorem mo1_F {sh : tm_sh} {M A : tm_M} {o N i : Nat} {v u u' : tl_L} {F F' : Prop} (h : mo1 sh M A o N v i u F) (hu : u = u') (hF : F ↔ F') : mo1 sh M A o N v i u' F' := ⟨h.1, h.2.1, by rw [← hu]; exact h.2.2.1, h.2.2.2.1, h.2.2.2.2.1.trans hF, h.2.2.2.2.2⟩
theorem slv1 (v : tl_L) : tl_slipv 1 v = ((fadd v.1.1 v.2.1.1, v.1.2), ((0, 1), v.2.1.2), v.2.2) := by unfold tl_slipv; rw [if_pos rfl]
theorem slv2 (v : tl_L) : tl_slipv 2 v = ((v.1.1, (0, 1)), (v.2.1.1, fadd v.1.2 v.2.1.2), v.2.2) := by unfold tl_slipv; rw [if_neg (by decide), if_pos rfl]
theorem slv3 (v : tl_L) : tl_slipv 3 v = (((1, 1), fdiv v.1.2 v.1.1), v.2.1, v.2.2) := by unfold tl_slipv; rw [if_neg (by decide), if_neg (by decide), if_pos rfl]
theorem slv4 (v : tl_L) : tl_slipv 4 v = (((1, 1), v.1.2), (fdiv v.2.1.1 v.1.1, fdiv v.2.1.2 v.1.1), v.2.2) := by unfold tl_slipv; rw [if_neg (by decide), if_neg (by decide), if_neg (by decide), if_pos rfl]
theorem slv5 (v : tl_L) : tl_slipv 5 v = ((fneg v.1.1, fneg v.1.2), (fneg v.2.1.1, fneg v.2.1.2), v.2.2) := by unfold tl_slipv; rw [if_neg (by decide), if_neg (by decide), if_neg (by decide), if_neg (by decide), if_pos rfl]
theorem slv6 (v : tl_L) : tl_slipv 6 v = (((1, 1), v.1.2), (v.2.1.1, fsub v.2.1.2 v.1.1), v.2.2) := by unfold tl_slipv; rw [if_neg (by decide), if_neg (by decide), if_neg (by decide), if_neg (by decide), if_neg (by decide), if_pos rfl]
theorem pss1 (v : tl_L) : tl_poss 1 v = tl_b (¬ v.2.1.1.1 = 0) := by unfold tl_poss; rw [if_pos rfl]
theorem pss2 (v : tl_L) : tl_poss 2 v = tl_b (¬ v.1.2.1 = 0) := by unfold tl_poss; rw [if_neg (by decide), if_pos rfl]
theorem pss3 (v : tl_L) : tl_poss 3 v = tl_b (¬ v.1.1.1 = 0 ∧ ¬ v.1.1 = (1, 1)) := by unfold tl_poss; rw [if_neg (by decide), if_neg (by decide), if_pos rfl]
theorem pss4 (v : tl_L) : tl_poss 4 v = tl_b ((¬ v.1.1.1 = 0 ∧ ¬ v.1.1 = (1, 1)) ∧ ¬ v.1.2.1 = 0) := by unfold tl_poss; rw [if_neg (by decide), if_neg (by decide), if_neg (by decide), if_pos rfl]
theorem pss5 (v : tl_L) : tl_poss 5 v = tl_b (¬ v.2.2 = 0) := by unfold tl_poss; rw [if_neg (by decide), if_neg (by decide), if_neg (by decide), if_neg (by decide), if_pos rfl]
theorem pss6 (v : tl_L) : tl_poss 6 v = tl_b ((¬ v.1.1.1 = 0 ∧ ¬ v.1.1 = (1, 1)) ∧ v.1.2.1 = 0 ∧ v.2.1.1.1 = 0) := by unfold tl_poss; rw [if_neg (by decide), if_neg (by decide), if_neg (by decide), if_neg (by decide), if_neg (by decide), if_pos rfl]
theorem dX9_scaled_0 : decode cX9_scaled 0 = .ok (.aload_n 0, 1) := by decide +kernel
theorem dX9_scaled_1 : decode cX9_scaled 1 = .ok (.bipush 43, 2) := by decide +kernel
theorem dX9_scaled_3 : decode cX9_scaled 3 = .ok (.iconst 0, 1) := by decide +kernel
theorem dX9_scaled_4 : decode cX9_scaled 4 = .ok (.lconst 1, 1) := by decide +kernel
theorem dX9_scaled_5 : decode cX9_scaled 5 = .ok (.lconst 1, 1) := by decide +kernel
theorem dX9_scaled_6 : decode cX9_scaled 6 = .ok (.invokevirtual 176, 3) := by decide +kernel
theorem dX9_scaled_9 : decode cX9_scaled 9 = .ok (.iload_n 1, 1) := by decide +kernel
theorem dX9_scaled_10 : decode cX9_scaled 10 = .ok (.iconst 3, 1) := by decide +kernel
theorem dX9_scaled_11 : decode cX9_scaled 11 = .ok (.if_icmp .ne 32, 3) := by decide +kernel
theorem dX9_scaled_14 : decode cX9_scaled 14 = .ok (.aload_n 0, 1) := by decide +kernel
theorem dX9_scaled_15 : decode cX9_scaled 15 = .ok (.bipush 43, 2) := by decide +kernel
theorem dX9_scaled_17 : decode cX9_scaled 17 = .ok (.iconst 1, 1) := by decide +kernel
theorem dX9_scaled_18 : decode cX9_scaled 18 = .ok (.aload_n 0, 1) := by decide +kernel
theorem dX9_scaled_19 : decode cX9_scaled 19 = .ok (.iconst 1, 1) := by decide +kernel
theorem dX9_scaled_20 : decode cX9_scaled 20 = .ok (.invokevirtual 169, 3) := by decide +kernel
theorem dX9_scaled_23 : decode cX9_scaled 23 = .ok (.aload_n 0, 1) := by decide +kernel
theorem dX9_scaled_24 : decode cX9_scaled 24 = .ok (.iconst 0, 1) := by decide +kernel
theorem dX9_scaled_25 : decode cX9_scaled 25 = .ok (.invokevirtual 173, 3) := by decide +kernel
theorem dX9_scaled_28 : decode cX9_scaled 28 = .ok (.lmul, 1) := by decide +kernel
theorem dX9_scaled_29 : decode cX9_scaled 29 = .ok (.aload_n 0, 1) := by decide +kernel
theorem dX9_scaled_30 : decode cX9_scaled 30 = .ok (.iconst 1, 1) := by decide +kernel
theorem dX9_scaled_31 : decode cX9_scaled 31 = .ok (.invokevirtual 173, 3) := by decide +kernel
theorem dX9_scaled_34 : decode cX9_scaled 34 = .ok (.aload_n 0, 1) := by decide +kernel
theorem dX9_scaled_35 : decode cX9_scaled 35 = .ok (.iconst 0, 1) := by decide +kernel
theorem dX9_scaled_36 : decode cX9_scaled 36 = .ok (.invokevirtual 169, 3) := by decide +kernel
theorem dX9_scaled_39 : decode cX9_scaled 39 = .ok (.lmul, 1) := by decide +kernel
theorem dX9_scaled_40 : decode cX9_scaled 40 = .ok (.invokevirtual 176, 3) := by decide +kernel
theorem dX9_scaled_43 : decode cX9_scaled 43 = .ok (.iconst 2, 1) := by decide +kernel
theorem dX9_scaled_44 : decode cX9_scaled 44 = .ok (.istore_n 2, 1) := by decide +kernel
theorem dX9_scaled_45 : decode cX9_scaled 45 = .ok (.iload_n 2, 1) := by decide +kernel
theorem dX9_scaled_46 : decode cX9_scaled 46 = .ok (.iconst 4, 1) := by decide +kernel
theorem dX9_scaled_47 : decode cX9_scaled 47 = .ok (.if_icmp .ge 43, 3) := by decide +kernel
theorem dX9_scaled_50 : decode cX9_scaled 50 = .ok (.iload_n 1, 1) := by decide +kernel
theorem dX9_scaled_51 : decode cX9_scaled 51 = .ok (.iconst 4, 1) := by decide +kernel
theorem dX9_scaled_52 : decode cX9_scaled 52 = .ok (.if_icmp .ne 38, 3) := by decide +kernel
theorem dX9_scaled_55 : decode cX9_scaled 55 = .ok (.aload_n 0, 1) := by decide +kernel
theorem dX9_scaled_56 : decode cX9_scaled 56 = .ok (.bipush 43, 2) := by decide +kernel
theorem dX9_scaled_58 : decode cX9_scaled 58 = .ok (.iload_n 2, 1) := by decide +kernel
theorem dX9_scaled_59 : decode cX9_scaled 59 = .ok (.aload_n 0, 1) := by decide +kernel
theorem dX9_scaled_60 : decode cX9_scaled 60 = .ok (.iload_n 2, 1) := by decide +kernel
theorem dX9_scaled_61 : decode cX9_scaled 61 = .ok (.invokevirtual 169, 3) := by decide +kernel
theorem dX9_scaled_64 : decode cX9_scaled 64 = .ok (.aload_n 0, 1) := by decide +kernel
theorem dX9_scaled_65 : decode cX9_scaled 65 = .ok (.iconst 0, 1) := by decide +kernel
theorem dX9_scaled_66 : decode cX9_scaled 66 = .ok (.invokevirtual 173, 3) := by decide +kernel
theorem dX9_scaled_69 : decode cX9_scaled 69 = .ok (.lmul, 1) := by decide +kernel
theorem dX9_scaled_70 : decode cX9_scaled 70 = .ok (.aload_n 0, 1) := by decide +kernel
theorem dX9_scaled_71 : decode cX9_scaled 71 = .ok (.iload_n 2, 1) := by decide +kernel
theorem dX9_scaled_72 : decode cX9_scaled 72 = .ok (.invokevirtual 173, 3) := by decide +kernel
theorem dX9_scaled_75 : decode cX9_scaled 75 = .ok (.aload_n 0, 1) := by decide +kernel
theorem dX9_scaled_76 : decode cX9_scaled 76 = .ok (.iconst 0, 1) := by decide +kernel
theorem dX9_scaled_77 : decode cX9_scaled 77 = .ok (.invokevirtual 169, 3) := by decide +kernel
theorem dX9_scaled_80 : decode cX9_scaled 80 = .ok (.lmul, 1) := by decide +kernel
theorem dX9_scaled_81 : decode cX9_scaled 81 = .ok (.invokevirtual 176, 3) := by decide +kernel
theorem dX9_scaled_84 : decode cX9_scaled 84 = .ok (.iinc 2 1, 3) := by decide +kernel
theorem dX9_scaled_87 : decode cX9_scaled 87 = .ok (.goto (-42), 3) := by decide +kernel
theorem dX9_scaled_90 : decode cX9_scaled 90 = .ok (.iload_n 1, 1) := by decide +kernel
theorem dX9_scaled_91 : decode cX9_scaled 91 = .ok (.bipush 6, 2) := by decide +kernel
theorem dX9_scaled_93 : decode cX9_scaled 93 = .ok (.if_icmp .ne 13, 3) := by decide +kernel
theorem dX9_scaled_96 : decode cX9_scaled 96 = .ok (.aload_n 0, 1) := by decide +kernel
theorem dX9_scaled_97 : decode cX9_scaled 97 = .ok (.bipush 43, 2) := by decide +kernel
theorem dX9_scaled_99 : decode cX9_scaled 99 = .ok (.iconst 3, 1) := by decide +kernel
theorem dX9_scaled_100 : decode cX9_scaled 100 = .ok (.iconst 3, 1) := by decide +kernel
theorem dX9_scaled_101 : decode cX9_scaled 101 = .ok (.iconst 0, 1) := by decide +kernel
theorem dX9_scaled_102 : decode cX9_scaled 102 = .ok (.iconst 1, 1) := by decide +kernel
theorem dX9_scaled_103 : decode cX9_scaled 103 = .ok (.invokevirtual 184, 3) := by decide +kernel
theorem dX9_scaled_106 : decode cX9_scaled 106 = .ok (.return_, 1) := by decide +kernel
set_option maxHeartbeats 4000000 in
set_option maxRecDepth 100000 in
/-- TutorLinesModel.scaled, slip 3 -/
theorem c_X9_scaled3 {l : Launch} {G : tm_G} {Hb : Heap} {sh : tm_sh} {M : tm_M} {M0 : tm_M} {o N : Nat} {v : tl_L} (g : mo1 sh M0 M o N v 43 v True) (hv : lok v) (hz : ¬ v.1.1.1 = 0) : Met l yX9_scaled (tws yX9_scaled cX9_scaled 3 none) ({ frames := 4, cells := 0, slots := 0, locals := 108 }) (va_Pc [.ref o, ji 3] (tm_St G Hb sh M)) (tm_Qv G Hb sh (fun M1 => mo1 sh M0 M1 o N v 43 (tl_slipv 3 v) (lfit (tl_slipv 3 v)))) 0 0 (tm_A Hb) := by
  refine tm_begin (by decide) (Nat.le_of_ble_eq_true rfl) (fun p e s m below meth c ls hx hb hr hml hown htw hlk hnm hK hW hl => ?_)
  have hS : va_S (tm_A Hb) s.heap s.heap [] := va_S.rf
  have hl : lv_has ls 3 [(0, .ref o), (1, ji 3)] := hl
  have b0 := g.1.1.1
  obtain ⟨⟨q1, q2⟩, ⟨q3, q4⟩, q5⟩ := id hv
  refine lv_aload_n hx hb dX9_scaled_0 rfl (lv_at hl 0 rfl) ?_
  refine ti_bipush hx hb dX9_scaled_1 (by decide) ?_
  refine ti_iconst hx hb dX9_scaled_3 ?_
  refine ti_lconst1 hx hb dX9_scaled_4 ?_
  refine ti_lconst1 hx hb dX9_scaled_5 ?_
  refine tm_callv (cs_X9_176 hx hb hml hown htw hK hW (by assumption) (c_X9_write (i := 43) (n := 0) g.1.1 (by decide) (by decide) (by decide) (by decide) (by decide) (by have := g.2.2.2.1; omega)) ⟨rfl, rfl, Nat.le_of_ble_eq_true rfl, Nat.le_of_ble_eq_true rfl⟩ hl.1 (Nat.le_of_ble_eq_true rfl) dX9_scaled_6 ⟨Nat.le_of_ble_eq_true rfl, Nat.le_of_ble_eq_true rfl⟩) hS (fun M6 H locs hp6 hW hS => ?_)
  rw [norm_11] at hp6
  rw [hp6] at hW
  have g1 := mo1_wr (n := 0) (f := ((1, 1) : tl_F)) g (by decide) (by decide)
  generalize hzB1 : wr M o 43 0 (((1, 1) : tl_F)) = B1 at hW g1
  obtain ⟨a0, a1, a2, a3, a4⟩ := rl_at g1.2.1
  refine lv_iload_n hx hb dX9_scaled_9 rfl (lv_at hl 1 rfl) ?_
  refine ti_iconst hx hb dX9_scaled_10 ?_
  refine ti_icmp_ne (tgt := 43) hx hb dX9_scaled_11 (by decide) (by decide) (by decide) (fun h11 => ?_) (fun h11 => ?_)
  · exact absurd h11 (by decide)
  · refine lv_aload_n hx hb dX9_scaled_14 rfl (lv_at hl 0 rfl) ?_
    refine ti_bipush hx hb dX9_scaled_15 (by decide) ?_
    refine ti_iconst hx hb dX9_scaled_17 ?_
    refine lv_aload_n hx hb dX9_scaled_18 rfl (lv_at hl 0 rfl) ?_
    refine ti_iconst hx hb dX9_scaled_19 ?_
    refine tm_calll (cs_X9_169 hx hb hml hown htw hK hW (by assumption) (c_X9_above (n := 1) g1.1 (by decide)) ⟨rfl, rfl, Nat.le_of_ble_eq_true rfl, Nat.le_of_ble_eq_true rfl⟩ hl.1 (Nat.le_of_ble_eq_true rfl) dX9_scaled_20 ⟨Nat.le_of_ble_eq_true rfl, Nat.le_of_ble_eq_true rfl⟩) hS (fun x20 M20 H locs hp20 hW hS => ?_)
    obtain ⟨ex20, eM20⟩ := hp20
    rw [eM20] at hW
    rw [ex20, a1]
    refine lv_aload_n hx hb dX9_scaled_23 rfl (lv_at hl 0 rfl) ?_
    refine ti_iconst hx hb dX9_scaled_24 ?_
    refine tm_calll (cs_X9_173 hx hb hml hown htw hK hW (by assumption) (c_X9_below (n := 0) g1.1 (by decide)) ⟨rfl, rfl, Nat.le_of_ble_eq_true rfl, Nat.le_of_ble_eq_true rfl⟩ hl.1 (Nat.le_of_ble_eq_true rfl) dX9_scaled_25 ⟨Nat.le_of_ble_eq_true rfl, Nat.le_of_ble_eq_true rfl⟩) hS (fun x25 M25 H locs hp25 hW hS => ?_)
    obtain ⟨ex25, eM25⟩ := hp25
    rw [eM25] at hW
    rw [ex25, a0]
    refine ti_lmul hx hb dX9_scaled_28 ?_
    refine lv_aload_n hx hb dX9_scaled_29 rfl (lv_at hl 0 rfl) ?_
    refine ti_iconst hx hb dX9_scaled_30 ?_
    refine tm_calll (cs_X9_173 hx hb hml hown htw hK hW (by assumption) (c_X9_below (n := 1) g1.1 (by decide)) ⟨rfl, rfl, Nat.le_of_ble_eq_true rfl, Nat.le_of_ble_eq_true rfl⟩ hl.1 (Nat.le_of_ble_eq_true rfl) dX9_scaled_31 ⟨Nat.le_of_ble_eq_true rfl, Nat.le_of_ble_eq_true rfl⟩) hS (fun x31 M31 H locs hp31 hW hS => ?_)
    obtain ⟨ex31, eM31⟩ := hp31
    rw [eM31] at hW
    rw [ex31, a1]
    refine lv_aload_n hx hb dX9_scaled_34 rfl (lv_at hl 0 rfl) ?_
    refine ti_iconst hx hb dX9_scaled_35 ?_
    refine tm_calll (cs_X9_169 hx hb hml hown htw hK hW (by assumption) (c_X9_above (n := 0) g1.1 (by decide)) ⟨rfl, rfl, Nat.le_of_ble_eq_true rfl, Nat.le_of_ble_eq_true rfl⟩ hl.1 (Nat.le_of_ble_eq_true rfl) dX9_scaled_36 ⟨Nat.le_of_ble_eq_true rfl, Nat.le_of_ble_eq_true rfl⟩) hS (fun x36 M36 H locs hp36 hW hS => ?_)
    obtain ⟨ex36, eM36⟩ := hp36
    rw [eM36] at hW
    rw [ex36, a0]
    refine ti_lmul hx hb dX9_scaled_39 ?_
    refine tm_callv (cs_X9_176 hx hb hml hown htw hK hW (by assumption) (c_X9_write (i := 43) (n := 1) g1.1.1 (by decide) (by decide) (tl_bd q2 q1).2.2.2.2.2.1 (tl_bd q2 q1).2.2.2.2.2.2 (tl_n0 (fok_ab q2).2.2 hz) (by have := g1.2.2.2.1; omega)) ⟨rfl, rfl, Nat.le_of_ble_eq_true rfl, Nat.le_of_ble_eq_true rfl⟩ hl.1 (Nat.le_of_ble_eq_true rfl) dX9_scaled_40 ⟨Nat.le_of_ble_eq_true rfl, Nat.le_of_ble_eq_true rfl⟩) hS (fun M40 H locs hp40 hW hS => ?_)
    rw [hp40] at hW
    have g2 := mo1_wr (n := 1) (f := fdiv v.1.2 v.1.1) g1 (by decide) (by decide)
    generalize hzB2 : wr B1 o 43 1 (fdiv v.1.2 v.1.1) = B2 at hW g2
    refine ti_iconst hx hb dX9_scaled_43 ?_
    refine lv_istore_n (lv' := [(2, _), (0, _), (1, _)]) hx hb dX9_scaled_44 rfl hl (by decide) rfl (fun ls hl => ?_)
    refine lv_iload_n hx hb dX9_scaled_45 rfl (lv_at hl 0 rfl) ?_
    refine ti_iconst hx hb dX9_scaled_46 ?_
    refine ti_icmp_ge (tgt := 90) hx hb dX9_scaled_47 (by decide) (by decide) (by decide) (fun h47 => ?_) (fun h47 => ?_)
    · exact absurd h47 (by decide)
    · refine lv_iload_n hx hb dX9_scaled_50 rfl (lv_at hl 2 rfl) ?_
      refine ti_iconst hx hb dX9_scaled_51 ?_
      refine ti_icmp_ne (tgt := 90) hx hb dX9_scaled_52 (by decide) (by decide) (by decide) (fun h52 => ?_) (fun h52 => ?_)
      · refine lv_iload_n hx hb dX9_scaled_90 rfl (lv_at hl 2 rfl) ?_
        refine ti_bipush hx hb dX9_scaled_91 (by decide) ?_
        refine ti_icmp_ne (tgt := 106) hx hb dX9_scaled_93 (by decide) (by decide) (by decide) (fun h93 => ?_) (fun h93 => ?_)
        · exact tm_vret hx hb hr hlk hK hW hS (mo1_F g2 (by rw [slv3]; rfl) (by rw [slv3]; exact ⟨fun q => ⟨⟨ffit_1, q.2⟩, ffit_ok q3, ffit_ok q4⟩, fun q => ⟨⟨trivial, ffit_1⟩, q.1.2⟩⟩)) dX9_scaled_106
        · exact absurd h93 (by decide)
      · exact absurd h52 (by decide)
set_option maxHeartbeats 4000000 in
set_option maxRecDepth 100000 in
/-- TutorLinesModel.scaled, slip 4 -/
theorem c_X9_scaled4 {l : Launch} {G : tm_G} {Hb : Heap} {sh : tm_sh} {M : tm_M} {M0 : tm_M} {o N : Nat} {v : tl_L} (g : mo1 sh M0 M o N v 43 v True) (hv : lok v) (hz : ¬ v.1.1.1 = 0) : Met l yX9_scaled (tws yX9_scaled cX9_scaled 3 none) ({ frames := 4, cells := 0, slots := 0, locals := 108 }) (va_Pc [.ref o, ji 4] (tm_St G Hb sh M)) (tm_Qv G Hb sh (fun M1 => mo1 sh M0 M1 o N v 43 (tl_slipv 4 v) (lfit (tl_slipv 4 v)))) 0 0 (tm_A Hb) := by
  refine tm_begin (by decide) (Nat.le_of_ble_eq_true rfl) (fun p e s m below meth c ls hx hb hr hml hown htw hlk hnm hK hW hl => ?_)
  have hS : va_S (tm_A Hb) s.heap s.heap [] := va_S.rf
  have hl : lv_has ls 3 [(0, .ref o), (1, ji 4)] := hl
  have b0 := g.1.1.1
  obtain ⟨⟨q1, q2⟩, ⟨q3, q4⟩, q5⟩ := id hv
  refine lv_aload_n hx hb dX9_scaled_0 rfl (lv_at hl 0 rfl) ?_
  refine ti_bipush hx hb dX9_scaled_1 (by decide) ?_
  refine ti_iconst hx hb dX9_scaled_3 ?_
  refine ti_lconst1 hx hb dX9_scaled_4 ?_
  refine ti_lconst1 hx hb dX9_scaled_5 ?_
  refine tm_callv (cs_X9_176 hx hb hml hown htw hK hW (by assumption) (c_X9_write (i := 43) (n := 0) g.1.1 (by decide) (by decide) (by decide) (by decide) (by decide) (by have := g.2.2.2.1; omega)) ⟨rfl, rfl, Nat.le_of_ble_eq_true rfl, Nat.le_of_ble_eq_true rfl⟩ hl.1 (Nat.le_of_ble_eq_true rfl) dX9_scaled_6 ⟨Nat.le_of_ble_eq_true rfl, Nat.le_of_ble_eq_true rfl⟩) hS (fun M6 H locs hp6 hW hS => ?_)
  rw [norm_11] at hp6
  rw [hp6] at hW
  have g1 := mo1_wr (n := 0) (f := ((1, 1) : tl_F)) g (by decide) (by decide)
  generalize hzB1 : wr M o 43 0 (((1, 1) : tl_F)) = B1 at hW g1
  obtain ⟨a0, a1, a2, a3, a4⟩ := rl_at g1.2.1
  refine lv_iload_n hx hb dX9_scaled_9 rfl (lv_at hl 1 rfl) ?_
  refine ti_iconst hx hb dX9_scaled_10 ?_
  refine ti_icmp_ne (tgt := 43) hx hb dX9_scaled_11 (by decide) (by decide) (by decide) (fun h11 => ?_) (fun h11 => ?_)
  · refine ti_iconst hx hb dX9_scaled_43 ?_
    refine lv_istore_n (lv' := [(2, _), (0, _), (1, _)]) hx hb dX9_scaled_44 rfl hl (by decide) rfl (fun ls hl => ?_)
    refine lv_iload_n hx hb dX9_scaled_45 rfl (lv_at hl 0 rfl) ?_
    refine ti_iconst hx hb dX9_scaled_46 ?_
    refine ti_icmp_ge (tgt := 90) hx hb dX9_scaled_47 (by decide) (by decide) (by decide) (fun h47 => ?_) (fun h47 => ?_)
    · exact absurd h47 (by decide)
    · refine lv_iload_n hx hb dX9_scaled_50 rfl (lv_at hl 2 rfl) ?_
      refine ti_iconst hx hb dX9_scaled_51 ?_
      refine ti_icmp_ne (tgt := 90) hx hb dX9_scaled_52 (by decide) (by decide) (by decide) (fun h52 => ?_) (fun h52 => ?_)
      · exact absurd h52 (by decide)
      · refine lv_aload_n hx hb dX9_scaled_55 rfl (lv_at hl 1 rfl) ?_
        refine ti_bipush hx hb dX9_scaled_56 (by decide) ?_
        refine lv_iload_n hx hb dX9_scaled_58 rfl (lv_at hl 0 rfl) ?_
        refine lv_aload_n hx hb dX9_scaled_59 rfl (lv_at hl 1 rfl) ?_
        refine lv_iload_n hx hb dX9_scaled_60 rfl (lv_at hl 0 rfl) ?_
        refine tm_calll (cs_X9_169 hx hb hml hown htw hK hW (by assumption) (c_X9_above (n := 2) g1.1 (by decide)) ⟨rfl, rfl, Nat.le_of_ble_eq_true rfl, Nat.le_of_ble_eq_true rfl⟩ hl.1 (Nat.le_of_ble_eq_true rfl) dX9_scaled_61 ⟨Nat.le_of_ble_eq_true rfl, Nat.le_of_ble_eq_true rfl⟩) hS (fun x61 M61 H locs hp61 hW hS => ?_)
        obtain ⟨ex61, eM61⟩ := hp61
        rw [eM61] at hW
        rw [ex61, a2]
        refine lv_aload_n hx hb dX9_scaled_64 rfl (lv_at hl 1 rfl) ?_
        refine ti_iconst hx hb dX9_scaled_65 ?_
        refine tm_calll (cs_X9_173 hx hb hml hown htw hK hW (by assumption) (c_X9_below (n := 0) g1.1 (by decide)) ⟨rfl, rfl, Nat.le_of_ble_eq_true rfl, Nat.le_of_ble_eq_true rfl⟩ hl.1 (Nat.le_of_ble_eq_true rfl) dX9_scaled_66 ⟨Nat.le_of_ble_eq_true rfl, Nat.le_of_ble_eq_true rfl⟩) hS (fun x66 M66 H locs hp66 hW hS => ?_)
        obtain ⟨ex66, eM66⟩ := hp66
        rw [eM66] at hW
        rw [ex66, a0]
        refine ti_lmul hx hb dX9_scaled_69 ?_
        refine lv_aload_n hx hb dX9_scaled_70 rfl (lv_at hl 1 rfl) ?_
        refine lv_iload_n hx hb dX9_scaled_71 rfl (lv_at hl 0 rfl) ?_
        refine tm_calll (cs_X9_173 hx hb hml hown htw hK hW (by assumption) (c_X9_below (n := 2) g1.1 (by decide)) ⟨rfl, rfl, Nat.le_of_ble_eq_true rfl, Nat.le_of_ble_eq_true rfl⟩ hl.1 (Nat.le_of_ble_eq_true rfl) dX9_scaled_72 ⟨Nat.le_of_ble_eq_true rfl, Nat.le_of_ble_eq_true rfl⟩) hS (fun x72 M72 H locs hp72 hW hS => ?_)
        obtain ⟨ex72, eM72⟩ := hp72
        rw [eM72] at hW
        rw [ex72, a2]
        refine lv_aload_n hx hb dX9_scaled_75 rfl (lv_at hl 1 rfl) ?_
        refine ti_iconst hx hb dX9_scaled_76 ?_
        refine tm_calll (cs_X9_169 hx hb hml hown htw hK hW (by assumption) (c_X9_above (n := 0) g1.1 (by decide)) ⟨rfl, rfl, Nat.le_of_ble_eq_true rfl, Nat.le_of_ble_eq_true rfl⟩ hl.1 (Nat.le_of_ble_eq_true rfl) dX9_scaled_77 ⟨Nat.le_of_ble_eq_true rfl, Nat.le_of_ble_eq_true rfl⟩) hS (fun x77 M77 H locs hp77 hW hS => ?_)
        obtain ⟨ex77, eM77⟩ := hp77
        rw [eM77] at hW
        rw [ex77, a0]
        refine ti_lmul hx hb dX9_scaled_80 ?_
        refine tm_callv (cs_X9_176 hx hb hml hown htw hK hW (by assumption) (c_X9_write (i := 43) (n := 2) g1.1.1 (by decide) (by decide) (tl_bd q3 q1).2.2.2.2.2.1 (tl_bd q3 q1).2.2.2.2.2.2 (tl_n0 (fok_ab q3).2.2 hz) (by have := g1.2.2.2.1; omega)) ⟨rfl, rfl, Nat.le_of_ble_eq_true rfl, Nat.le_of_ble_eq_true rfl⟩ hl.1 (Nat.le_of_ble_eq_true rfl) dX9_scaled_81 ⟨Nat.le_of_ble_eq_true rfl, Nat.le_of_ble_eq_true rfl⟩) hS (fun M81 H locs hp81 hW hS => ?_)
        rw [hp81] at hW
        have g2 := mo1_wr (n := 2) (f := fdiv v.2.1.1 v.1.1) g1 (by decide) (by decide)
        generalize hzB2 : wr B1 o 43 2 (fdiv v.2.1.1 v.1.1) = B2 at hW g2
        obtain ⟨a0, a1, a2, a3, a4⟩ := rl_at g2.2.1
        refine ti_iinc (k := 0) (lv' := [(2, _), (0, _), (1, _)]) hx hb dX9_scaled_84 hl rfl (by decide) rfl (fun ls hl => ?_)
        refine lv_goto (tgt := 45) hx hb dX9_scaled_87 (by decide) ?_
        refine lv_iload_n hx hb dX9_scaled_45 rfl (lv_at hl 0 rfl) ?_
        refine ti_iconst hx hb dX9_scaled_46 ?_
        refine ti_icmp_ge (tgt := 90) hx hb dX9_scaled_47 (by decide) (by decide) (by decide) (fun h47 => ?_) (fun h47 => ?_)
        · exact absurd h47 (by decide)
        · refine lv_iload_n hx hb dX9_scaled_50 rfl (lv_at hl 2 rfl) ?_
          refine ti_iconst hx hb dX9_scaled_51 ?_
          refine ti_icmp_ne (tgt := 90) hx hb dX9_scaled_52 (by decide) (by decide) (by decide) (fun h52 => ?_) (fun h52 => ?_)
          · exact absurd h52 (by decide)
          · refine lv_aload_n hx hb dX9_scaled_55 rfl (lv_at hl 1 rfl) ?_
            refine ti_bipush hx hb dX9_scaled_56 (by decide) ?_
            refine lv_iload_n hx hb dX9_scaled_58 rfl (lv_at hl 0 rfl) ?_
            refine lv_aload_n hx hb dX9_scaled_59 rfl (lv_at hl 1 rfl) ?_
            refine lv_iload_n hx hb dX9_scaled_60 rfl (lv_at hl 0 rfl) ?_
            refine tm_calll (cs_X9_169 hx hb hml hown htw hK hW (by assumption) (c_X9_above (n := 3) g2.1 (by decide)) ⟨rfl, rfl, Nat.le_of_ble_eq_true rfl, Nat.le_of_ble_eq_true rfl⟩ hl.1 (Nat.le_of_ble_eq_true rfl) dX9_scaled_61 ⟨Nat.le_of_ble_eq_true rfl, Nat.le_of_ble_eq_true rfl⟩) hS (fun x61 M61 H locs hp61 hW hS => ?_)
            obtain ⟨ex61, eM61⟩ := hp61
            rw [eM61] at hW
            rw [ex61, a3]
            refine lv_aload_n hx hb dX9_scaled_64 rfl (lv_at hl 1 rfl) ?_
            refine ti_iconst hx hb dX9_scaled_65 ?_
            refine tm_calll (cs_X9_173 hx hb hml hown htw hK hW (by assumption) (c_X9_below (n := 0) g2.1 (by decide)) ⟨rfl, rfl, Nat.le_of_ble_eq_true rfl, Nat.le_of_ble_eq_true rfl⟩ hl.1 (Nat.le_of_ble_eq_true rfl) dX9_scaled_66 ⟨Nat.le_of_ble_eq_true rfl, Nat.le_of_ble_eq_true rfl⟩) hS (fun x66 M66 H locs hp66 hW hS => ?_)
            obtain ⟨ex66, eM66⟩ := hp66
            rw [eM66] at hW
            rw [ex66, a0]
            refine ti_lmul hx hb dX9_scaled_69 ?_
            refine lv_aload_n hx hb dX9_scaled_70 rfl (lv_at hl 1 rfl) ?_
            refine lv_iload_n hx hb dX9_scaled_71 rfl (lv_at hl 0 rfl) ?_
            refine tm_calll (cs_X9_173 hx hb hml hown htw hK hW (by assumption) (c_X9_below (n := 3) g2.1 (by decide)) ⟨rfl, rfl, Nat.le_of_ble_eq_true rfl, Nat.le_of_ble_eq_true rfl⟩ hl.1 (Nat.le_of_ble_eq_true rfl) dX9_scaled_72 ⟨Nat.le_of_ble_eq_true rfl, Nat.le_of_ble_eq_true rfl⟩) hS (fun x72 M72 H locs hp72 hW hS => ?_)
            obtain ⟨ex72, eM72⟩ := hp72
            rw [eM72] at hW
            rw [ex72, a3]
            refine lv_aload_n hx hb dX9_scaled_75 rfl (lv_at hl 1 rfl) ?_
            refine ti_iconst hx hb dX9_scaled_76 ?_
            refine tm_calll (cs_X9_169 hx hb hml hown htw hK hW (by assumption) (c_X9_above (n := 0) g2.1 (by decide)) ⟨rfl, rfl, Nat.le_of_ble_eq_true rfl, Nat.le_of_ble_eq_true rfl⟩ hl.1 (Nat.le_of_ble_eq_true rfl) dX9_scaled_77 ⟨Nat.le_of_ble_eq_true rfl, Nat.le_of_ble_eq_true rfl⟩) hS (fun x77 M77 H locs hp77 hW hS => ?_)
            obtain ⟨ex77, eM77⟩ := hp77
            rw [eM77] at hW
            rw [ex77, a0]
            refine ti_lmul hx hb dX9_scaled_80 ?_
            refine tm_callv (cs_X9_176 hx hb hml hown htw hK hW (by assumption) (c_X9_write (i := 43) (n := 3) g2.1.1 (by decide) (by decide) (tl_bd q4 q1).2.2.2.2.2.1 (tl_bd q4 q1).2.2.2.2.2.2 (tl_n0 (fok_ab q4).2.2 hz) (by have := g2.2.2.2.1; omega)) ⟨rfl, rfl, Nat.le_of_ble_eq_true rfl, Nat.le_of_ble_eq_true rfl⟩ hl.1 (Nat.le_of_ble_eq_true rfl) dX9_scaled_81 ⟨Nat.le_of_ble_eq_true rfl, Nat.le_of_ble_eq_true rfl⟩) hS (fun M81 H locs hp81 hW hS => ?_)
            rw [hp81] at hW
            have g3 := mo1_wr (n := 3) (f := fdiv v.2.1.2 v.1.1) g2 (by decide) (by decide)
            generalize hzB3 : wr B2 o 43 3 (fdiv v.2.1.2 v.1.1) = B3 at hW g3
            obtain ⟨a0, a1, a2, a3, a4⟩ := rl_at g3.2.1
            refine ti_iinc (k := 0) (lv' := [(2, _), (0, _), (1, _)]) hx hb dX9_scaled_84 hl rfl (by decide) rfl (fun ls hl => ?_)
            refine lv_goto (tgt := 45) hx hb dX9_scaled_87 (by decide) ?_
            refine lv_iload_n hx hb dX9_scaled_45 rfl (lv_at hl 0 rfl) ?_
            refine ti_iconst hx hb dX9_scaled_46 ?_
            refine ti_icmp_ge (tgt := 90) hx hb dX9_scaled_47 (by decide) (by decide) (by decide) (fun h47 => ?_) (fun h47 => ?_)
            · refine lv_iload_n hx hb dX9_scaled_90 rfl (lv_at hl 2 rfl) ?_
              refine ti_bipush hx hb dX9_scaled_91 (by decide) ?_
              refine ti_icmp_ne (tgt := 106) hx hb dX9_scaled_93 (by decide) (by decide) (by decide) (fun h93 => ?_) (fun h93 => ?_)
              · exact tm_vret hx hb hr hlk hK hW hS (mo1_F g3 (by rw [slv4]; rfl) (by rw [slv4]; exact ⟨fun q => ⟨⟨ffit_1, ffit_ok q2⟩, q.1.2, q.2⟩, fun q => ⟨⟨⟨trivial, ffit_1⟩, q.2.1⟩, q.2.2⟩⟩)) dX9_scaled_106
              · exact absurd h93 (by decide)
            · exact absurd h47 (by decide)
  · exact absurd h11 (by decide)
set_option maxHeartbeats 4000000 in
set_option maxRecDepth 100000 in
/-- TutorLinesModel.scaled, slip 6 -/
theorem c_X9_scaled6 {l : Launch} {G : tm_G} {Hb : Heap} {sh : tm_sh} {M : tm_M} {M0 : tm_M} {o N : Nat} {v : tl_L} (g : mo1 sh M0 M o N v 43 v True) (hv : lok v) (hz : ¬ v.1.1.1 = 0) : Met l yX9_scaled (tws yX9_scaled cX9_scaled 3 none) ({ frames := 4, cells := 0, slots := 0, locals := 108 }) (va_Pc [.ref o, ji 6] (tm_St G Hb sh M)) (tm_Qv G Hb sh (fun M1 => mo1 sh M0 M1 o N v 43 (tl_slipv 6 v) (lfit (tl_slipv 6 v)))) 0 0 (tm_A Hb) := by
  refine tm_begin (by decide) (Nat.le_of_ble_eq_true rfl) (fun p e s m below meth c ls hx hb hr hml hown htw hlk hnm hK hW hl => ?_)
  have hS : va_S (tm_A Hb) s.heap s.heap [] := va_S.rf
  have hl : lv_has ls 3 [(0, .ref o), (1, ji 6)] := hl
  have b0 := g.1.1.1
  obtain ⟨⟨q1, q2⟩, ⟨q3, q4⟩, q5⟩ := id hv
  refine lv_aload_n hx hb dX9_scaled_0 rfl (lv_at hl 0 rfl) ?_
  refine ti_bipush hx hb dX9_scaled_1 (by decide) ?_
  refine ti_iconst hx hb dX9_scaled_3 ?_
  refine ti_lconst1 hx hb dX9_scaled_4 ?_
  refine ti_lconst1 hx hb dX9_scaled_5 ?_
  refine tm_callv (cs_X9_176 hx hb hml hown htw hK hW (by assumption) (c_X9_write (i := 43) (n := 0) g.1.1 (by decide) (by decide) (by decide) (by decide) (by decide) (by have := g.2.2.2.1; omega)) ⟨rfl, rfl, Nat.le_of_ble_eq_true rfl, Nat.le_of_ble_eq_true rfl⟩ hl.1 (Nat.le_of_ble_eq_true rfl) dX9_scaled_6 ⟨Nat.le_of_ble_eq_true rfl, Nat.le_of_ble_eq_true rfl⟩) hS (fun M6 H locs hp6 hW hS => ?_)
  rw [norm_11] at hp6
  rw [hp6] at hW
  have g1 := mo1_wr (n := 0) (f := ((1, 1) : tl_F)) g (by decide) (by decide)
  generalize hzB1 : wr M o 43 0 (((1, 1) : tl_F)) = B1 at hW g1
  obtain ⟨a0, a1, a2, a3, a4⟩ := rl_at g1.2.1
  refine lv_iload_n hx hb dX9_scaled_9 rfl (lv_at hl 1 rfl) ?_
  refine ti_iconst hx hb dX9_scaled_10 ?_
  refine ti_icmp_ne (tgt := 43) hx hb dX9_scaled_11 (by decide) (by decide) (by decide) (fun h11 => ?_) (fun h11 => ?_)
  · refine ti_iconst hx hb dX9_scaled_43 ?_
    refine lv_istore_n (lv' := [(2, _), (0, _), (1, _)]) hx hb dX9_scaled_44 rfl hl (by decide) rfl (fun ls hl => ?_)
    refine lv_iload_n hx hb dX9_scaled_45 rfl (lv_at hl 0 rfl) ?_
    refine ti_iconst hx hb dX9_scaled_46 ?_
    refine ti_icmp_ge (tgt := 90) hx hb dX9_scaled_47 (by decide) (by decide) (by decide) (fun h47 => ?_) (fun h47 => ?_)
    · exact absurd h47 (by decide)
    · refine lv_iload_n hx hb dX9_scaled_50 rfl (lv_at hl 2 rfl) ?_
      refine ti_iconst hx hb dX9_scaled_51 ?_
      refine ti_icmp_ne (tgt := 90) hx hb dX9_scaled_52 (by decide) (by decide) (by decide) (fun h52 => ?_) (fun h52 => ?_)
      · refine lv_iload_n hx hb dX9_scaled_90 rfl (lv_at hl 2 rfl) ?_
        refine ti_bipush hx hb dX9_scaled_91 (by decide) ?_
        refine ti_icmp_ne (tgt := 106) hx hb dX9_scaled_93 (by decide) (by decide) (by decide) (fun h93 => ?_) (fun h93 => ?_)
        · exact absurd h93 (by decide)
        · refine lv_aload_n hx hb dX9_scaled_96 rfl (lv_at hl 1 rfl) ?_
          refine ti_bipush hx hb dX9_scaled_97 (by decide) ?_
          refine ti_iconst hx hb dX9_scaled_99 ?_
          refine ti_iconst hx hb dX9_scaled_100 ?_
          refine ti_iconst hx hb dX9_scaled_101 ?_
          refine ti_iconst hx hb dX9_scaled_102 ?_
          refine tm_callv (cs_X9_184 hx hb hml hown htw hK hW (by assumption) (c_X9_join (i := 43) (n := 3) (x := 3) (y := 0) (ls0 := 1) g1.1 (by decide) (by decide) (by decide) (by decide) (Or.inr rfl) (by rw [a3]; exact q4) (by rw [a0]; exact q1) (by have := g1.2.2.2.1; omega)) ⟨rfl, rfl, Nat.le_of_ble_eq_true rfl, Nat.le_of_ble_eq_true rfl⟩ hl.1 (Nat.le_of_ble_eq_true rfl) dX9_scaled_103 ⟨Nat.le_of_ble_eq_true rfl, Nat.le_of_ble_eq_true rfl⟩) hS (fun M103 H locs hp103 hW hS => ?_)
          rw [if_pos rfl, a3, a0] at hp103
          rw [hp103] at hW
          have g2 := mo1_wr (n := 3) (f := fsub v.2.1.2 v.1.1) g1 (by decide) (by decide)
          generalize hzB2 : wr B1 o 43 3 (fsub v.2.1.2 v.1.1) = B2 at hW g2
          exact tm_vret hx hb hr hlk hK hW hS (mo1_F g2 (by rw [slv6]; rfl) (by rw [slv6]; exact ⟨fun q => ⟨⟨ffit_1, ffit_ok q2⟩, ffit_ok q3, q.2⟩, fun q => ⟨⟨trivial, ffit_1⟩, q.2.2⟩⟩)) dX9_scaled_106
      · exact absurd h52 (by decide)
  · exact absurd h11 (by decide)
theorem dX9_slips_0 : decode cX9_slips 0 = .ok (.aload_n 0, 1) := by decide +kernel
theorem dX9_slips_1 : decode cX9_slips 1 = .ok (.aload_n 0, 1) := by decide +kernel
theorem dX9_slips_2 : decode cX9_slips 2 = .ok (.invokevirtual 166, 3) := by decide +kernel
theorem dX9_slips_5 : decode cX9_slips 5 = .ok (.bipush 43, 2) := by decide +kernel
theorem dX9_slips_7 : decode cX9_slips 7 = .ok (.invokevirtual 180, 3) := by decide +kernel
theorem dX9_slips_10 : decode cX9_slips 10 = .ok (.aload_n 0, 1) := by decide +kernel
theorem dX9_slips_11 : decode cX9_slips 11 = .ok (.iconst 1, 1) := by decide +kernel
theorem dX9_slips_12 : decode cX9_slips 12 = .ok (.putfield 162, 3) := by decide +kernel
theorem dX9_slips_15 : decode cX9_slips 15 = .ok (.aload_n 0, 1) := by decide +kernel
theorem dX9_slips_16 : decode cX9_slips 16 = .ok (.iconst 0, 1) := by decide +kernel
theorem dX9_slips_17 : decode cX9_slips 17 = .ok (.invokevirtual 169, 3) := by decide +kernel
theorem dX9_slips_20 : decode cX9_slips 20 = .ok (.lconst 0, 1) := by decide +kernel
theorem dX9_slips_21 : decode cX9_slips 21 = .ok (.lcmp, 1) := by decide +kernel
theorem dX9_slips_22 : decode cX9_slips 22 = .ok (.ifCond .eq 15, 3) := by decide +kernel
theorem dX9_slips_25 : decode cX9_slips 25 = .ok (.aload_n 0, 1) := by decide +kernel
theorem dX9_slips_26 : decode cX9_slips 26 = .ok (.iconst 0, 1) := by decide +kernel
theorem dX9_slips_27 : decode cX9_slips 27 = .ok (.invokevirtual 188, 3) := by decide +kernel
theorem dX9_slips_30 : decode cX9_slips 30 = .ok (.ifCond .ne 7, 3) := by decide +kernel
theorem dX9_slips_33 : decode cX9_slips 33 = .ok (.iconst 1, 1) := by decide +kernel
theorem dX9_slips_34 : decode cX9_slips 34 = .ok (.goto 4, 3) := by decide +kernel
theorem dX9_slips_37 : decode cX9_slips 37 = .ok (.iconst 0, 1) := by decide +kernel
theorem dX9_slips_38 : decode cX9_slips 38 = .ok (.istore_n 2, 1) := by decide +kernel
theorem dX9_slips_39 : decode cX9_slips 39 = .ok (.iconst 1, 1) := by decide +kernel
theorem dX9_slips_40 : decode cX9_slips 40 = .ok (.istore_n 3, 1) := by decide +kernel
theorem dX9_slips_41 : decode cX9_slips 41 = .ok (.iload_n 1, 1) := by decide +kernel
theorem dX9_slips_42 : decode cX9_slips 42 = .ok (.iconst 1, 1) := by decide +kernel
theorem dX9_slips_43 : decode cX9_slips 43 = .ok (.if_icmp .ne 41, 3) := by decide +kernel
theorem dX9_slips_46 : decode cX9_slips 46 = .ok (.aload_n 0, 1) := by decide +kernel
theorem dX9_slips_47 : decode cX9_slips 47 = .ok (.iconst 2, 1) := by decide +kernel
theorem dX9_slips_48 : decode cX9_slips 48 = .ok (.invokevirtual 169, 3) := by decide +kernel
theorem dX9_slips_51 : decode cX9_slips 51 = .ok (.lconst 0, 1) := by decide +kernel
theorem dX9_slips_52 : decode cX9_slips 52 = .ok (.lcmp, 1) := by decide +kernel
theorem dX9_slips_53 : decode cX9_slips 53 = .ok (.ifCond .eq 7, 3) := by decide +kernel
theorem dX9_slips_56 : decode cX9_slips 56 = .ok (.iconst 1, 1) := by decide +kernel
theorem dX9_slips_57 : decode cX9_slips 57 = .ok (.goto 4, 3) := by decide +kernel
theorem dX9_slips_60 : decode cX9_slips 60 = .ok (.iconst 0, 1) := by decide +kernel
theorem dX9_slips_61 : decode cX9_slips 61 = .ok (.istore_n 3, 1) := by decide +kernel
theorem dX9_slips_62 : decode cX9_slips 62 = .ok (.aload_n 0, 1) := by decide +kernel
theorem dX9_slips_63 : decode cX9_slips 63 = .ok (.bipush 43, 2) := by decide +kernel
theorem dX9_slips_65 : decode cX9_slips 65 = .ok (.iconst 0, 1) := by decide +kernel
theorem dX9_slips_66 : decode cX9_slips 66 = .ok (.iconst 0, 1) := by decide +kernel
theorem dX9_slips_67 : decode cX9_slips 67 = .ok (.iconst 2, 1) := by decide +kernel
theorem dX9_slips_68 : decode cX9_slips 68 = .ok (.iconst 0, 1) := by decide +kernel
theorem dX9_slips_69 : decode cX9_slips 69 = .ok (.invokevirtual 184, 3) := by decide +kernel
theorem dX9_slips_72 : decode cX9_slips 72 = .ok (.aload_n 0, 1) := by decide +kernel
theorem dX9_slips_73 : decode cX9_slips 73 = .ok (.bipush 43, 2) := by decide +kernel
theorem dX9_slips_75 : decode cX9_slips 75 = .ok (.iconst 2, 1) := by decide +kernel
theorem dX9_slips_76 : decode cX9_slips 76 = .ok (.lconst 0, 1) := by decide +kernel
theorem dX9_slips_77 : decode cX9_slips 77 = .ok (.lconst 1, 1) := by decide +kernel
theorem dX9_slips_78 : decode cX9_slips 78 = .ok (.invokevirtual 176, 3) := by decide +kernel
theorem dX9_slips_81 : decode cX9_slips 81 = .ok (.goto 176, 3) := by decide +kernel
theorem dX9_slips_84 : decode cX9_slips 84 = .ok (.iload_n 1, 1) := by decide +kernel
theorem dX9_slips_85 : decode cX9_slips 85 = .ok (.iconst 2, 1) := by decide +kernel
theorem dX9_slips_86 : decode cX9_slips 86 = .ok (.if_icmp .ne 41, 3) := by decide +kernel
theorem dX9_slips_89 : decode cX9_slips 89 = .ok (.aload_n 0, 1) := by decide +kernel
theorem dX9_slips_90 : decode cX9_slips 90 = .ok (.iconst 1, 1) := by decide +kernel
theorem dX9_slips_91 : decode cX9_slips 91 = .ok (.invokevirtual 169, 3) := by decide +kernel
theorem dX9_slips_94 : decode cX9_slips 94 = .ok (.lconst 0, 1) := by decide +kernel
theorem dX9_slips_95 : decode cX9_slips 95 = .ok (.lcmp, 1) := by decide +kernel
theorem dX9_slips_96 : decode cX9_slips 96 = .ok (.ifCond .eq 7, 3) := by decide +kernel
theorem dX9_slips_99 : decode cX9_slips 99 = .ok (.iconst 1, 1) := by decide +kernel
theorem dX9_slips_100 : decode cX9_slips 100 = .ok (.goto 4, 3) := by decide +kernel
theorem dX9_slips_103 : decode cX9_slips 103 = .ok (.iconst 0, 1) := by decide +kernel
theorem dX9_slips_104 : decode cX9_slips 104 = .ok (.istore_n 3, 1) := by decide +kernel
theorem dX9_slips_105 : decode cX9_slips 105 = .ok (.aload_n 0, 1) := by decide +kernel
theorem dX9_slips_106 : decode cX9_slips 106 = .ok (.bipush 43, 2) := by decide +kernel
theorem dX9_slips_108 : decode cX9_slips 108 = .ok (.iconst 3, 1) := by decide +kernel
theorem dX9_slips_109 : decode cX9_slips 109 = .ok (.iconst 1, 1) := by decide +kernel
theorem dX9_slips_110 : decode cX9_slips 110 = .ok (.iconst 3, 1) := by decide +kernel
theorem dX9_slips_111 : decode cX9_slips 111 = .ok (.iconst 0, 1) := by decide +kernel
theorem dX9_slips_112 : decode cX9_slips 112 = .ok (.invokevirtual 184, 3) := by decide +kernel
theorem dX9_slips_115 : decode cX9_slips 115 = .ok (.aload_n 0, 1) := by decide +kernel
theorem dX9_slips_116 : decode cX9_slips 116 = .ok (.bipush 43, 2) := by decide +kernel
theorem dX9_slips_118 : decode cX9_slips 118 = .ok (.iconst 1, 1) := by decide +kernel
theorem dX9_slips_119 : decode cX9_slips 119 = .ok (.lconst 0, 1) := by decide +kernel
theorem dX9_slips_120 : decode cX9_slips 120 = .ok (.lconst 1, 1) := by decide +kernel
theorem dX9_slips_121 : decode cX9_slips 121 = .ok (.invokevirtual 176, 3) := by decide +kernel
theorem dX9_slips_124 : decode cX9_slips 124 = .ok (.goto 133, 3) := by decide +kernel
theorem dX9_slips_127 : decode cX9_slips 127 = .ok (.iload_n 1, 1) := by decide +kernel
theorem dX9_slips_128 : decode cX9_slips 128 = .ok (.iconst 5, 1) := by decide +kernel
theorem dX9_slips_129 : decode cX9_slips 129 = .ok (.if_icmp .ne 68, 3) := by decide +kernel
theorem dX9_slips_132 : decode cX9_slips 132 = .ok (.aload_n 0, 1) := by decide +kernel
theorem dX9_slips_133 : decode cX9_slips 133 = .ok (.getfield 13, 3) := by decide +kernel
theorem dX9_slips_136 : decode cX9_slips 136 = .ok (.bipush 9, 2) := by decide +kernel
theorem dX9_slips_138 : decode cX9_slips 138 = .ok (.aload_n 0, 1) := by decide +kernel
theorem dX9_slips_139 : decode cX9_slips 139 = .ok (.invokevirtual 166, 3) := by decide +kernel
theorem dX9_slips_142 : decode cX9_slips 142 = .ok (.imul, 1) := by decide +kernel
theorem dX9_slips_143 : decode cX9_slips 143 = .ok (.bipush 8, 2) := by decide +kernel
theorem dX9_slips_145 : decode cX9_slips 145 = .ok (.iadd, 1) := by decide +kernel
theorem dX9_slips_146 : decode cX9_slips 146 = .ok (.laload, 1) := by decide +kernel
theorem dX9_slips_147 : decode cX9_slips 147 = .ok (.lconst 0, 1) := by decide +kernel
theorem dX9_slips_148 : decode cX9_slips 148 = .ok (.lcmp, 1) := by decide +kernel
theorem dX9_slips_149 : decode cX9_slips 149 = .ok (.ifCond .le 7, 3) := by decide +kernel
theorem dX9_slips_152 : decode cX9_slips 152 = .ok (.iconst 1, 1) := by decide +kernel
theorem dX9_slips_153 : decode cX9_slips 153 = .ok (.goto 4, 3) := by decide +kernel
theorem dX9_slips_156 : decode cX9_slips 156 = .ok (.iconst 0, 1) := by decide +kernel
theorem dX9_slips_157 : decode cX9_slips 157 = .ok (.istore_n 3, 1) := by decide +kernel
theorem dX9_slips_158 : decode cX9_slips 158 = .ok (.iconst 0, 1) := by decide +kernel
theorem dX9_slips_159 : decode cX9_slips 159 = .ok (.istore 4, 2) := by decide +kernel
theorem dX9_slips_161 : decode cX9_slips 161 = .ok (.iload 4, 2) := by decide +kernel
theorem dX9_slips_163 : decode cX9_slips 163 = .ok (.iconst 4, 1) := by decide +kernel
theorem dX9_slips_164 : decode cX9_slips 164 = .ok (.if_icmp .ge 30, 3) := by decide +kernel
theorem dX9_slips_167 : decode cX9_slips 167 = .ok (.aload_n 0, 1) := by decide +kernel
theorem dX9_slips_168 : decode cX9_slips 168 = .ok (.bipush 43, 2) := by decide +kernel
theorem dX9_slips_170 : decode cX9_slips 170 = .ok (.iload 4, 2) := by decide +kernel
theorem dX9_slips_172 : decode cX9_slips 172 = .ok (.aload_n 0, 1) := by decide +kernel
theorem dX9_slips_173 : decode cX9_slips 173 = .ok (.iload 4, 2) := by decide +kernel
theorem dX9_slips_175 : decode cX9_slips 175 = .ok (.invokevirtual 169, 3) := by decide +kernel
theorem dX9_slips_178 : decode cX9_slips 178 = .ok (.lneg, 1) := by decide +kernel
theorem dX9_slips_179 : decode cX9_slips 179 = .ok (.aload_n 0, 1) := by decide +kernel
theorem dX9_slips_180 : decode cX9_slips 180 = .ok (.iload 4, 2) := by decide +kernel
theorem dX9_slips_182 : decode cX9_slips 182 = .ok (.invokevirtual 173, 3) := by decide +kernel
theorem dX9_slips_185 : decode cX9_slips 185 = .ok (.invokevirtual 176, 3) := by decide +kernel
theorem dX9_slips_188 : decode cX9_slips 188 = .ok (.iinc 4 1, 3) := by decide +kernel
theorem dX9_slips_191 : decode cX9_slips 191 = .ok (.goto (-30), 3) := by decide +kernel
theorem dX9_slips_194 : decode cX9_slips 194 = .ok (.goto 63, 3) := by decide +kernel
theorem dX9_slips_197 : decode cX9_slips 197 = .ok (.iload_n 2, 1) := by decide +kernel
theorem dX9_slips_198 : decode cX9_slips 198 = .ok (.ifCond .eq 48, 3) := by decide +kernel
theorem dX9_slips_201 : decode cX9_slips 201 = .ok (.iload_n 1, 1) := by decide +kernel
theorem dX9_slips_202 : decode cX9_slips 202 = .ok (.iconst 4, 1) := by decide +kernel
theorem dX9_slips_203 : decode cX9_slips 203 = .ok (.if_icmp .ne 13, 3) := by decide +kernel
theorem dX9_slips_206 : decode cX9_slips 206 = .ok (.aload_n 0, 1) := by decide +kernel
theorem dX9_slips_207 : decode cX9_slips 207 = .ok (.iconst 1, 1) := by decide +kernel
theorem dX9_slips_208 : decode cX9_slips 208 = .ok (.invokevirtual 169, 3) := by decide +kernel
theorem dX9_slips_211 : decode cX9_slips 211 = .ok (.lconst 0, 1) := by decide +kernel
theorem dX9_slips_212 : decode cX9_slips 212 = .ok (.lcmp, 1) := by decide +kernel
theorem dX9_slips_213 : decode cX9_slips 213 = .ok (.ifCond .eq 33, 3) := by decide +kernel
theorem dX9_slips_216 : decode cX9_slips 216 = .ok (.iload_n 1, 1) := by decide +kernel
theorem dX9_slips_217 : decode cX9_slips 217 = .ok (.bipush 6, 2) := by decide +kernel
theorem dX9_slips_219 : decode cX9_slips 219 = .ok (.if_icmp .ne 23, 3) := by decide +kernel
theorem dX9_slips_222 : decode cX9_slips 222 = .ok (.aload_n 0, 1) := by decide +kernel
theorem dX9_slips_223 : decode cX9_slips 223 = .ok (.iconst 1, 1) := by decide +kernel
theorem dX9_slips_224 : decode cX9_slips 224 = .ok (.invokevirtual 169, 3) := by decide +kernel
theorem dX9_slips_227 : decode cX9_slips 227 = .ok (.lconst 0, 1) := by decide +kernel
theorem dX9_slips_228 : decode cX9_slips 228 = .ok (.lcmp, 1) := by decide +kernel
theorem dX9_slips_229 : decode cX9_slips 229 = .ok (.ifCond .ne 17, 3) := by decide +kernel
theorem dX9_slips_232 : decode cX9_slips 232 = .ok (.aload_n 0, 1) := by decide +kernel
theorem dX9_slips_233 : decode cX9_slips 233 = .ok (.iconst 2, 1) := by decide +kernel
theorem dX9_slips_234 : decode cX9_slips 234 = .ok (.invokevirtual 169, 3) := by decide +kernel
theorem dX9_slips_237 : decode cX9_slips 237 = .ok (.lconst 0, 1) := by decide +kernel
theorem dX9_slips_238 : decode cX9_slips 238 = .ok (.lcmp, 1) := by decide +kernel
theorem dX9_slips_239 : decode cX9_slips 239 = .ok (.ifCond .ne 7, 3) := by decide +kernel
theorem dX9_slips_242 : decode cX9_slips 242 = .ok (.iconst 1, 1) := by decide +kernel
theorem dX9_slips_243 : decode cX9_slips 243 = .ok (.goto 4, 3) := by decide +kernel
theorem dX9_slips_246 : decode cX9_slips 246 = .ok (.iconst 0, 1) := by decide +kernel
theorem dX9_slips_247 : decode cX9_slips 247 = .ok (.istore_n 3, 1) := by decide +kernel
theorem dX9_slips_248 : decode cX9_slips 248 = .ok (.iload_n 3, 1) := by decide +kernel
theorem dX9_slips_249 : decode cX9_slips 249 = .ok (.ifCond .eq 8, 3) := by decide +kernel
theorem dX9_slips_252 : decode cX9_slips 252 = .ok (.aload_n 0, 1) := by decide +kernel
theorem dX9_slips_253 : decode cX9_slips 253 = .ok (.iload_n 1, 1) := by decide +kernel
theorem dX9_slips_254 : decode cX9_slips 254 = .ok (.invokevirtual 193, 3) := by decide +kernel
theorem dX9_slips_257 : decode cX9_slips 257 = .ok (.iload_n 3, 1) := by decide +kernel
theorem dX9_slips_258 : decode cX9_slips 258 = .ok (.ifCond .eq 25, 3) := by decide +kernel
theorem dX9_slips_261 : decode cX9_slips 261 = .ok (.aload_n 0, 1) := by decide +kernel
theorem dX9_slips_262 : decode cX9_slips 262 = .ok (.getfield 162, 3) := by decide +kernel
theorem dX9_slips_265 : decode cX9_slips 265 = .ok (.ifCond .eq 18, 3) := by decide +kernel
theorem dX9_slips_268 : decode cX9_slips 268 = .ok (.aload_n 0, 1) := by decide +kernel
theorem dX9_slips_269 : decode cX9_slips 269 = .ok (.bipush 43, 2) := by decide +kernel
theorem dX9_slips_271 : decode cX9_slips 271 = .ok (.bipush 41, 2) := by decide +kernel
theorem dX9_slips_273 : decode cX9_slips 273 = .ok (.invokevirtual 196, 3) := by decide +kernel
theorem dX9_slips_276 : decode cX9_slips 276 = .ok (.ifCond .eq 7, 3) := by decide +kernel
theorem dX9_slips_279 : decode cX9_slips 279 = .ok (.iconst 1, 1) := by decide +kernel
theorem dX9_slips_280 : decode cX9_slips 280 = .ok (.goto 4, 3) := by decide +kernel
theorem dX9_slips_283 : decode cX9_slips 283 = .ok (.iconst 0, 1) := by decide +kernel
theorem dX9_slips_284 : decode cX9_slips 284 = .ok (.ireturn, 1) := by decide +kernel
theorem tl_or2 {may : Int} {P Q : Prop} {R S : Prop} (h : (may = 0 ∧ P ∧ R) ∨ (may = 1 ∧ Q ∧ S)) (h0 : ¬ may = 0) : may = 1 ∧ Q ∧ S := by
  rcases h with q | q
  · exact absurd q.1 h0
  · exact q
theorem tl_or1 {may : Int} {P Q : Prop} {R S : Prop} (h : (may = 0 ∧ P ∧ R) ∨ (may = 1 ∧ Q ∧ S)) (h0 : may = 0) : P ∧ R := by
  rcases h with q | q
  · exact q.2
  · omega
set_option maxHeartbeats 4000000 in
set_option maxRecDepth 100000 in
/-- TutorLinesModel.slips 1 -/
theorem c_X9_slips1 {l : Launch} {G : tm_G} {Hb : Heap} {sh : tm_sh} {M : tm_M} {o N : Nat} {v : tl_L} (h : moN sh M o N) (hr0 : rl M o (N - 1) = v) (hv : lok v) (hg : lg v) (hw : lok (rl M o 41)) : Met l yX9_slips (tws yX9_slips cX9_slips 5 (some .boolean)) ({ frames := 5, cells := 0, slots := 0, locals := 130 }) (va_Pc [.ref o, ji 1] (tm_St G Hb sh M)) (tm_Qi G Hb sh (fun r M1 => r = tl_b (¬ tl_poss 1 v = 0 ∧ tl_slipv 1 v = rl M o 41) ∧ fq (mP o) M M1)) 0 0 (tm_A Hb) := by
  refine tm_begin (by decide) (Nat.le_of_ble_eq_true rfl) (fun p e s m below meth c ls hx hb hr hml hown htw hlk hnm hK hW hl => ?_)
  have hS : va_S (tm_A Hb) s.heap s.heap [] := va_S.rf
  have hl : lv_has ls 5 [(0, .ref o), (1, ji 1)] := hl
  have hN := h.2.2
  have b0 := h.1.1
  have t2 := h.1.2.1.2.1
  have u2 := h.1.2.2.2.1
  have h9 := hv.2.2
  obtain ⟨⟨q1, q2⟩, ⟨q3, q4⟩, q5⟩ := id hv
  obtain ⟨⟨y1, y2⟩, y3, y4⟩ := id hg
  have tail : ∀ (may : Int) (Z : tm_M) (H : Heap) (locs : List Loc) (ls : Array Slot), ((may = 0 ∧ tl_poss 1 v = 0 ∧ fq (mP o) M Z) ∨ (may = 1 ∧ ¬ tl_poss 1 v = 0 ∧ mo1 sh M Z o N v 43 (tl_slipv 1 v) (lfit (tl_slipv 1 v)))) → tm_W G Hb sh Z H → va_S (tm_A Hb) s.heap H locs → lv_has ls 5 [(0, .ref o), (3, ji may)] → W p l e ({ frames := 5, cells := 0, slots := 0, locals := 130 }) s m [.ref o, ji 1].toArray below meth c H locs 0 0 (MQ below (tm_Qi G Hb sh (fun r M1 => r = tl_b (¬ tl_poss 1 v = 0 ∧ tl_slipv 1 v = rl M o 41) ∧ fq (mP o) M M1)) [.ref o, ji 1].toArray s 0 0 (tm_A Hb)) (F0 m 257 ls []) := by
    intro may Z H locs ls hm hW hS hl
    have hm01 : inI may := by rcases hm with q | q <;> omega
    refine lv_iload_n hx hb dX9_slips_257 rfl (lv_at hl 1 rfl) ?_
    refine ti_if_eq (tgt := 283) hx hb dX9_slips_258 (by decide) hm01 (fun h258 => ?_) (fun h258 => ?_)
    · refine ti_iconst hx hb dX9_slips_283 ?_
      exact tm_zret hx hb hr hlk (by first | exact Or.inl rfl | exact Or.inr rfl | assumption) hK hW hS ⟨by first | exact tl_b_t ⟨m2, tl_b_n.mp h276⟩ | exact tl_b_f (fun q => tl_b_0.mp h276 q.2) | exact tl_b_f (fun q => absurd (q3.2.2.2.2.1.mpr (by rw [q.2]; exact lfit_ok hw)) (by omega)) | exact tl_b_f (fun q => q.1 (tl_or1 hm h258).1), by first | exact q3.2.2.2.2.2 | exact (tl_or1 hm h258).2⟩ dX9_slips_284
    · obtain ⟨m1, m2, q3⟩ := tl_or2 hm h258
      refine lv_aload_n hx hb dX9_slips_261 rfl (lv_at hl 0 rfl) ?_
      refine gf_X9_162 hx hb htw hown hK hW (by assumption) dX9_slips_262 ?_
      refine ti_if_eq (tgt := 283) hx hb dX9_slips_265 (by decide) (by have := q3.2.2.2.1; omega) (fun h265 => ?_) (fun h265 => ?_)
      · refine ti_iconst hx hb dX9_slips_283 ?_
        exact tm_zret hx hb hr hlk (by first | exact Or.inl rfl | exact Or.inr rfl | assumption) hK hW hS ⟨by first | exact tl_b_t ⟨m2, tl_b_n.mp h276⟩ | exact tl_b_f (fun q => tl_b_0.mp h276 q.2) | exact tl_b_f (fun q => absurd (q3.2.2.2.2.1.mpr (by rw [q.2]; exact lfit_ok hw)) (by omega)) | exact tl_b_f (fun q => q.1 (tl_or1 hm h258).1), by first | exact q3.2.2.2.2.2 | exact (tl_or1 hm h258).2⟩ dX9_slips_284
      · have w41 : rl Z o 41 = rl M o 41 := fq_rl q3.2.2.2.2.2 (fun k hk => by unfold mP; omega)
        refine lv_aload_n hx hb dX9_slips_268 rfl (lv_at hl 0 rfl) ?_
        refine ti_bipush hx hb dX9_slips_269 (by decide) ?_
        refine ti_bipush hx hb dX9_slips_271 (by decide) ?_
        refine tm_calli (cs_X9_196 hx hb hml hown htw hK hW (by assumption) (c_X9_isSame (i := 43) (j := 41) q3.1.1 (by decide) (by decide) (rl_L (by rw [q3.2.2.1]; exact lLok_slip hv m2) (by rw [q3.2.2.1, tl_slr]; omega)) (rl_L (by rw [w41]; exact lLok_of hw) (by rw [w41]; have := hw.2.2; omega))) ⟨rfl, rfl, Nat.le_of_ble_eq_true rfl, Nat.le_of_ble_eq_true rfl⟩ hl.1 (Nat.le_of_ble_eq_true rfl) dX9_slips_273 ⟨Nat.le_of_ble_eq_true rfl, Nat.le_of_ble_eq_true rfl⟩) hS (fun x273 M273 H locs hp273 hW hS => ?_)
        obtain ⟨ex273, eM273⟩ := hp273
        rw [eM273] at hW
        rw [ex273, q3.2.2.1, w41]
        refine ti_if_eq (tgt := 283) hx hb dX9_slips_276 (by decide) (tl_b_r _) (fun h276 => ?_) (fun h276 => ?_)
        · refine ti_iconst hx hb dX9_slips_283 ?_
          exact tm_zret hx hb hr hlk (by first | exact Or.inl rfl | exact Or.inr rfl | assumption) hK hW hS ⟨by first | exact tl_b_t ⟨m2, tl_b_n.mp h276⟩ | exact tl_b_f (fun q => tl_b_0.mp h276 q.2) | exact tl_b_f (fun q => absurd (q3.2.2.2.2.1.mpr (by rw [q.2]; exact lfit_ok hw)) (by omega)) | exact tl_b_f (fun q => q.1 (tl_or1 hm h258).1), by first | exact q3.2.2.2.2.2 | exact (tl_or1 hm h258).2⟩ dX9_slips_284
        · refine ti_iconst hx hb dX9_slips_279 ?_
          refine lv_goto (tgt := 284) hx hb dX9_slips_280 (by decide) ?_
          exact tm_zret hx hb hr hlk (by first | exact Or.inl rfl | exact Or.inr rfl | assumption) hK hW hS ⟨by first | exact tl_b_t ⟨m2, tl_b_n.mp h276⟩ | exact tl_b_f (fun q => tl_b_0.mp h276 q.2) | exact tl_b_f (fun q => absurd (q3.2.2.2.2.1.mpr (by rw [q.2]; exact lfit_ok hw)) (by omega)) | exact tl_b_f (fun q => q.1 (tl_or1 hm h258).1), by first | exact q3.2.2.2.2.2 | exact (tl_or1 hm h258).2⟩ dX9_slips_284
  have rest39 : ∀ (sc : Int) (A : tm_M) (H : Heap) (locs : List Loc) (ls : Array Slot), (sc = 0 ∨ sc = 1) → (sc = 1 ↔ (¬ v.1.1.1 = 0 ∧ ¬ v.1.1 = (1, 1))) → mo1 sh M A o N v 43 v True → tm_W G Hb sh A H → va_S (tm_A Hb) s.heap H locs → lv_has ls 5 [(0, .ref o), (1, ji 1), (2, ji sc)] → W p l e ({ frames := 5, cells := 0, slots := 0, locals := 130 }) s m [.ref o, ji 1].toArray below meth c H locs 0 0 (MQ below (tm_Qi G Hb sh (fun r M1 => r = tl_b (¬ tl_poss 1 v = 0 ∧ tl_slipv 1 v = rl M o 41) ∧ fq (mP o) M M1)) [.ref o, ji 1].toArray s 0 0 (tm_A Hb)) (F0 m 39 ls []) := by
    intro sc A H locs ls h01 hsc g hW hS hl
    obtain ⟨a0, a1, a2, a3, a4⟩ := rl_at g.2.1
    have t2a := g.1.1.2.1.2.1
    refine ti_iconst hx hb dX9_slips_39 ?_
    refine lv_istore_n (lv' := [(3, _), (0, _), (1, _), (2, _)]) hx hb dX9_slips_40 rfl hl (by decide) rfl (fun ls hl => ?_)
    refine lv_iload_n hx hb dX9_slips_41 rfl (lv_at hl 2 rfl) ?_
    refine ti_iconst hx hb dX9_slips_42 ?_
    refine ti_icmp_ne (tgt := 84) hx hb dX9_slips_43 (by decide) (by decide) (by decide) (fun h43 => ?_) (fun h43 => ?_)
    · exact absurd h43 (by decide)
    · refine lv_aload_n hx hb dX9_slips_46 rfl (lv_at hl 1 rfl) ?_
      refine ti_iconst hx hb dX9_slips_47 ?_
      refine tm_calll (cs_X9_169 hx hb hml hown htw hK hW (by assumption) (c_X9_above (n := 2) g.1 (by decide)) ⟨rfl, rfl, Nat.le_of_ble_eq_true rfl, Nat.le_of_ble_eq_true rfl⟩ hl.1 (Nat.le_of_ble_eq_true rfl) dX9_slips_48 ⟨Nat.le_of_ble_eq_true rfl, Nat.le_of_ble_eq_true rfl⟩) hS (fun x48 M48 H locs hp48 hW hS => ?_)
      obtain ⟨ex48, eM48⟩ := hp48
      rw [eM48] at hW
      rw [ex48, a2]
      refine ti_lconst0 hx hb dX9_slips_51 ?_
      refine ti_lcmp_eq (tgt := 60) hx hb dX9_slips_52 dX9_slips_53 (by decide) (by unfold fok at q3; omega) (by decide) (fun h52 => ?_) (fun h52 => ?_)
      · refine ti_iconst hx hb dX9_slips_60 ?_
        refine lv_istore_n (lv' := [(3, _), (0, _), (1, _), (2, _)]) hx hb dX9_slips_61 rfl hl (by decide) rfl (fun ls hl => ?_)
        refine lv_aload_n hx hb dX9_slips_62 rfl (lv_at hl 1 rfl) ?_
        refine ti_bipush hx hb dX9_slips_63 (by decide) ?_
        refine ti_iconst hx hb dX9_slips_65 ?_
        refine ti_iconst hx hb dX9_slips_66 ?_
        refine ti_iconst hx hb dX9_slips_67 ?_
        refine ti_iconst hx hb dX9_slips_68 ?_
        refine tm_callv (cs_X9_184 hx hb hml hown htw hK hW (by assumption) (c_X9_join (i := 43) (n := 0) (x := 0) (y := 2) (ls0 := 0) g.1 (by decide) (by decide) (by decide) (by decide) (Or.inl rfl) (by rw [a0]; exact q1) (by rw [a2]; exact q3) (by have := g.2.2.2.1; omega)) ⟨rfl, rfl, Nat.le_of_ble_eq_true rfl, Nat.le_of_ble_eq_true rfl⟩ hl.1 (Nat.le_of_ble_eq_true rfl) dX9_slips_69 ⟨Nat.le_of_ble_eq_true rfl, Nat.le_of_ble_eq_true rfl⟩) hS (fun M69 H locs hp69 hW hS => ?_)
        rw [if_neg (by decide), a0, a2] at hp69
        rw [hp69] at hW
        have g1 := mo1_wr (n := 0) (f := fadd v.1.1 v.2.1.1) g (by decide) (by decide)
        generalize hzB1 : wr A o 43 0 (fadd v.1.1 v.2.1.1) = B1 at hW g1
        refine lv_aload_n hx hb dX9_slips_72 rfl (lv_at hl 1 rfl) ?_
        refine ti_bipush hx hb dX9_slips_73 (by decide) ?_
        refine ti_iconst hx hb dX9_slips_75 ?_
        refine ti_lconst0 hx hb dX9_slips_76 ?_
        refine ti_lconst1 hx hb dX9_slips_77 ?_
        refine tm_callv (cs_X9_176 hx hb hml hown htw hK hW (by assumption) (c_X9_write (i := 43) (n := 2) g1.1.1 (by decide) (by decide) (by decide) (by decide) (by decide) (by have := g1.2.2.2.1; omega)) ⟨rfl, rfl, Nat.le_of_ble_eq_true rfl, Nat.le_of_ble_eq_true rfl⟩ hl.1 (Nat.le_of_ble_eq_true rfl) dX9_slips_78 ⟨Nat.le_of_ble_eq_true rfl, Nat.le_of_ble_eq_true rfl⟩) hS (fun M78 H locs hp78 hW hS => ?_)
        rw [norm_01] at hp78
        rw [hp78] at hW
        have g2 := mo1_wr (n := 2) (f := ((0, 1) : tl_F)) g1 (by decide) (by decide)
        generalize hzB2 : wr B1 o 43 2 (((0, 1) : tl_F)) = B2 at hW g2
        refine lv_goto (tgt := 257) hx hb dX9_slips_81 (by decide) ?_
        first
        | exact tail 1 B2 _ _ _ (Or.inr ⟨rfl, by rw [pss1]; exact tl_b_n.mpr h52, (mo1_F g2 (by rw [slv1]; rfl) (by rw [slv1]; exact ⟨fun q => ⟨⟨q.1.2, ffit_ok q2⟩, ffit_0, ffit_ok q4⟩, fun q => ⟨⟨trivial, q.1.1⟩, ffit_0⟩⟩))⟩) hW hS (lv_sub hl [1, 0] rfl)
        | exact tail 0 B2 _ _ _ (Or.inl ⟨rfl, by rw [pss1]; exact tl_b_0.mpr (fun q => q h52), g2.2.2.2.2.2⟩) hW hS (lv_sub hl [1, 0] rfl)
      · refine ti_iconst hx hb dX9_slips_56 ?_
        refine lv_goto (tgt := 61) hx hb dX9_slips_57 (by decide) ?_
        refine lv_istore_n (lv' := [(3, _), (0, _), (1, _), (2, _)]) hx hb dX9_slips_61 rfl hl (by decide) rfl (fun ls hl => ?_)
        refine lv_aload_n hx hb dX9_slips_62 rfl (lv_at hl 1 rfl) ?_
        refine ti_bipush hx hb dX9_slips_63 (by decide) ?_
        refine ti_iconst hx hb dX9_slips_65 ?_
        refine ti_iconst hx hb dX9_slips_66 ?_
        refine ti_iconst hx hb dX9_slips_67 ?_
        refine ti_iconst hx hb dX9_slips_68 ?_
        refine tm_callv (cs_X9_184 hx hb hml hown htw hK hW (by assumption) (c_X9_join (i := 43) (n := 0) (x := 0) (y := 2) (ls0 := 0) g.1 (by decide) (by decide) (by decide) (by decide) (Or.inl rfl) (by rw [a0]; exact q1) (by rw [a2]; exact q3) (by have := g.2.2.2.1; omega)) ⟨rfl, rfl, Nat.le_of_ble_eq_true rfl, Nat.le_of_ble_eq_true rfl⟩ hl.1 (Nat.le_of_ble_eq_true rfl) dX9_slips_69 ⟨Nat.le_of_ble_eq_true rfl, Nat.le_of_ble_eq_true rfl⟩) hS (fun M69 H locs hp69 hW hS => ?_)
        rw [if_neg (by decide), a0, a2] at hp69
        rw [hp69] at hW
        have g1 := mo1_wr (n := 0) (f := fadd v.1.1 v.2.1.1) g (by decide) (by decide)
        generalize hzB1 : wr A o 43 0 (fadd v.1.1 v.2.1.1) = B1 at hW g1
        refine lv_aload_n hx hb dX9_slips_72 rfl (lv_at hl 1 rfl) ?_
        refine ti_bipush hx hb dX9_slips_73 (by decide) ?_
        refine ti_iconst hx hb dX9_slips_75 ?_
        refine ti_lconst0 hx hb dX9_slips_76 ?_
        refine ti_lconst1 hx hb dX9_slips_77 ?_
        refine tm_callv (cs_X9_176 hx hb hml hown htw hK hW (by assumption) (c_X9_write (i := 43) (n := 2) g1.1.1 (by decide) (by decide) (by decide) (by decide) (by decide) (by have := g1.2.2.2.1; omega)) ⟨rfl, rfl, Nat.le_of_ble_eq_true rfl, Nat.le_of_ble_eq_true rfl⟩ hl.1 (Nat.le_of_ble_eq_true rfl) dX9_slips_78 ⟨Nat.le_of_ble_eq_true rfl, Nat.le_of_ble_eq_true rfl⟩) hS (fun M78 H locs hp78 hW hS => ?_)
        rw [norm_01] at hp78
        rw [hp78] at hW
        have g2 := mo1_wr (n := 2) (f := ((0, 1) : tl_F)) g1 (by decide) (by decide)
        generalize hzB2 : wr B1 o 43 2 (((0, 1) : tl_F)) = B2 at hW g2
        refine lv_goto (tgt := 257) hx hb dX9_slips_81 (by decide) ?_
        first
        | exact tail 1 B2 _ _ _ (Or.inr ⟨rfl, by rw [pss1]; exact tl_b_n.mpr h52, (mo1_F g2 (by rw [slv1]; rfl) (by rw [slv1]; exact ⟨fun q => ⟨⟨q.1.2, ffit_ok q2⟩, ffit_0, ffit_ok q4⟩, fun q => ⟨⟨trivial, q.1.1⟩, ffit_0⟩⟩))⟩) hW hS (lv_sub hl [1, 0] rfl)
        | exact tail 0 B2 _ _ _ (Or.inl ⟨rfl, by rw [pss1]; exact tl_b_0.mpr (fun q => q h52), g2.2.2.2.2.2⟩) hW hS (lv_sub hl [1, 0] rfl)
  refine lv_aload_n hx hb dX9_slips_0 rfl (lv_at hl 0 rfl) ?_
  refine lv_aload_n hx hb dX9_slips_1 rfl (lv_at hl 0 rfl) ?_
  refine tm_calli (cs_X9_166 hx hb hml hown htw hK hW (by assumption) (c_X9_last h) ⟨rfl, rfl, Nat.le_of_ble_eq_true rfl, Nat.le_of_ble_eq_true rfl⟩ hl.1 (Nat.le_of_ble_eq_true rfl) dX9_slips_2 ⟨Nat.le_of_ble_eq_true rfl, Nat.le_of_ble_eq_true rfl⟩) hS (fun x2 M2 H locs hp2 hW hS => ?_)
  obtain ⟨ex2, eM2⟩ := hp2
  rw [eM2] at hW
  rw [ex2]
  refine ti_bipush hx hb dX9_slips_5 (by decide) ?_
  refine tm_callv (cs_X9_180 hx hb hml hown htw hK hW (by assumption) (c_X9_copyLine (i := N - 1) (j := 43) h.1 (by omega) (by decide) (by omega)) ⟨rfl, rfl, Nat.le_of_ble_eq_true rfl, Nat.le_of_ble_eq_true rfl⟩ hl.1 (Nat.le_of_ble_eq_true rfl) dX9_slips_7 ⟨Nat.le_of_ble_eq_true rfl, Nat.le_of_ble_eq_true rfl⟩) hS (fun M7 H locs hp7 hW hS => ?_)
  obtain ⟨e7, f7⟩ := hp7
  refine lv_aload_n hx hb dX9_slips_10 rfl (lv_at hl 0 rfl) ?_
  refine ti_iconst hx hb dX9_slips_11 ?_
  refine pf_X9_162 hx hb htw hown hK hW (by assumption) hS (Or.inr rfl) dX9_slips_12 (fun H locs hW hS => ?_)
  have g := mo1_0 (i := 43) h (by decide) hr0 e7 f7
  generalize sI M7 o 28 1 = A at hW g
  obtain ⟨a0, a1, a2, a3, a4⟩ := rl_at g.2.1
  refine lv_aload_n hx hb dX9_slips_15 rfl (lv_at hl 0 rfl) ?_
  refine ti_iconst hx hb dX9_slips_16 ?_
  refine tm_calll (cs_X9_169 hx hb hml hown htw hK hW (by assumption) (c_X9_above (n := 0) g.1 (by decide)) ⟨rfl, rfl, Nat.le_of_ble_eq_true rfl, Nat.le_of_ble_eq_true rfl⟩ hl.1 (Nat.le_of_ble_eq_true rfl) dX9_slips_17 ⟨Nat.le_of_ble_eq_true rfl, Nat.le_of_ble_eq_true rfl⟩) hS (fun x17 M17 H locs hp17 hW hS => ?_)
  obtain ⟨ex17, eM17⟩ := hp17
  rw [eM17] at hW
  rw [ex17, a0]
  refine ti_lconst0 hx hb dX9_slips_20 ?_
  refine ti_lcmp_eq (tgt := 37) hx hb dX9_slips_21 dX9_slips_22 (by decide) (by unfold fok at q1; omega) (by decide) (fun h21 => ?_) (fun h21 => ?_)
  · refine ti_iconst hx hb dX9_slips_37 ?_
    refine lv_istore_n (lv' := [(2, _), (0, _), (1, _)]) hx hb dX9_slips_38 rfl hl (by decide) rfl (fun ls hl => ?_)
    first
    | exact rest39 1 A _ _ _ (Or.inr rfl) ⟨fun _ => ⟨h21, tl_b_0.mp h30⟩, fun _ => rfl⟩ g hW hS (lv_sub hl [1, 2, 0] rfl)
    | exact rest39 0 A _ _ _ (Or.inl rfl) ⟨fun q => absurd q (by decide), fun q => absurd (tl_b_n.mp h30) q.2⟩ g hW hS (lv_sub hl [1, 2, 0] rfl)
    | exact rest39 0 A _ _ _ (Or.inl rfl) ⟨fun q => absurd q (by decide), fun q => absurd h21 q.1⟩ g hW hS (lv_sub hl [1, 2, 0] rfl)
  · refine lv_aload_n hx hb dX9_slips_25 rfl (lv_at hl 0 rfl) ?_
    refine ti_iconst hx hb dX9_slips_26 ?_
    refine tm_calli (cs_X9_188 hx hb hml hown htw hK hW (by assumption) (c_X9_isOne (n := 0) g.1 (by decide) (by rw [a0]; exact fLok_of q1)) ⟨rfl, rfl, Nat.le_of_ble_eq_true rfl, Nat.le_of_ble_eq_true rfl⟩ hl.1 (Nat.le_of_ble_eq_true rfl) dX9_slips_27 ⟨Nat.le_of_ble_eq_true rfl, Nat.le_of_ble_eq_true rfl⟩) hS (fun x27 M27 H locs hp27 hW hS => ?_)
    obtain ⟨ex27, eM27⟩ := hp27
    rw [eM27] at hW
    rw [ex27, a0]
    refine ti_if_ne (tgt := 37) hx hb dX9_slips_30 (by decide) (tl_b_r _) (fun h30 => ?_) (fun h30 => ?_)
    · refine ti_iconst hx hb dX9_slips_37 ?_
      refine lv_istore_n (lv' := [(2, _), (0, _), (1, _)]) hx hb dX9_slips_38 rfl hl (by decide) rfl (fun ls hl => ?_)
      first
      | exact rest39 1 A _ _ _ (Or.inr rfl) ⟨fun _ => ⟨h21, tl_b_0.mp h30⟩, fun _ => rfl⟩ g hW hS (lv_sub hl [1, 2, 0] rfl)
      | exact rest39 0 A _ _ _ (Or.inl rfl) ⟨fun q => absurd q (by decide), fun q => absurd (tl_b_n.mp h30) q.2⟩ g hW hS (lv_sub hl [1, 2, 0] rfl)
      | exact rest39 0 A _ _ _ (Or.inl rfl) ⟨fun q => absurd q (by decide), fun q => absurd h21 q.1⟩ g hW hS (lv_sub hl [1, 2, 0] rfl)
    · refine ti_iconst hx hb dX9_slips_33 ?_
      refine lv_goto (tgt := 38) hx hb dX9_slips_34 (by decide) ?_
      refine lv_istore_n (lv' := [(2, _), (0, _), (1, _)]) hx hb dX9_slips_38 rfl hl (by decide) rfl (fun ls hl => ?_)
      first
      | exact rest39 1 A _ _ _ (Or.inr rfl) ⟨fun _ => ⟨h21, tl_b_0.mp h30⟩, fun _ => rfl⟩ g hW hS (lv_sub hl [1, 2, 0] rfl)
      | exact rest39 0 A _ _ _ (Or.inl rfl) ⟨fun q => absurd q (by decide), fun q => absurd (tl_b_n.mp h30) q.2⟩ g hW hS (lv_sub hl [1, 2, 0] rfl)
      | exact rest39 0 A _ _ _ (Or.inl rfl) ⟨fun q => absurd q (by decide), fun q => absurd h21 q.1⟩ g hW hS (lv_sub hl [1, 2, 0] rfl)
set_option maxHeartbeats 4000000 in
set_option maxRecDepth 100000 in
/-- TutorLinesModel.slips 2 -/
theorem c_X9_slips2 {l : Launch} {G : tm_G} {Hb : Heap} {sh : tm_sh} {M : tm_M} {o N : Nat} {v : tl_L} (h : moN sh M o N) (hr0 : rl M o (N - 1) = v) (hv : lok v) (hg : lg v) (hw : lok (rl M o 41)) : Met l yX9_slips (tws yX9_slips cX9_slips 5 (some .boolean)) ({ frames := 5, cells := 0, slots := 0, locals := 130 }) (va_Pc [.ref o, ji 2] (tm_St G Hb sh M)) (tm_Qi G Hb sh (fun r M1 => r = tl_b (¬ tl_poss 2 v = 0 ∧ tl_slipv 2 v = rl M o 41) ∧ fq (mP o) M M1)) 0 0 (tm_A Hb) := by
  refine tm_begin (by decide) (Nat.le_of_ble_eq_true rfl) (fun p e s m below meth c ls hx hb hr hml hown htw hlk hnm hK hW hl => ?_)
  have hS : va_S (tm_A Hb) s.heap s.heap [] := va_S.rf
  have hl : lv_has ls 5 [(0, .ref o), (1, ji 2)] := hl
  have hN := h.2.2
  have b0 := h.1.1
  have t2 := h.1.2.1.2.1
  have u2 := h.1.2.2.2.1
  have h9 := hv.2.2
  obtain ⟨⟨q1, q2⟩, ⟨q3, q4⟩, q5⟩ := id hv
  obtain ⟨⟨y1, y2⟩, y3, y4⟩ := id hg
  have tail : ∀ (may : Int) (Z : tm_M) (H : Heap) (locs : List Loc) (ls : Array Slot), ((may = 0 ∧ tl_poss 2 v = 0 ∧ fq (mP o) M Z) ∨ (may = 1 ∧ ¬ tl_poss 2 v = 0 ∧ mo1 sh M Z o N v 43 (tl_slipv 2 v) (lfit (tl_slipv 2 v)))) → tm_W G Hb sh Z H → va_S (tm_A Hb) s.heap H locs → lv_has ls 5 [(0, .ref o), (3, ji may)] → W p l e ({ frames := 5, cells := 0, slots := 0, locals := 130 }) s m [.ref o, ji 2].toArray below meth c H locs 0 0 (MQ below (tm_Qi G Hb sh (fun r M1 => r = tl_b (¬ tl_poss 2 v = 0 ∧ tl_slipv 2 v = rl M o 41) ∧ fq (mP o) M M1)) [.ref o, ji 2].toArray s 0 0 (tm_A Hb)) (F0 m 257 ls []) := by
    intro may Z H locs ls hm hW hS hl
    have hm01 : inI may := by rcases hm with q | q <;> omega
    refine lv_iload_n hx hb dX9_slips_257 rfl (lv_at hl 1 rfl) ?_
    refine ti_if_eq (tgt := 283) hx hb dX9_slips_258 (by decide) hm01 (fun h258 => ?_) (fun h258 => ?_)
    · refine ti_iconst hx hb dX9_slips_283 ?_
      exact tm_zret hx hb hr hlk (by first | exact Or.inl rfl | exact Or.inr rfl | assumption) hK hW hS ⟨by first | exact tl_b_t ⟨m2, tl_b_n.mp h276⟩ | exact tl_b_f (fun q => tl_b_0.mp h276 q.2) | exact tl_b_f (fun q => absurd (q3.2.2.2.2.1.mpr (by rw [q.2]; exact lfit_ok hw)) (by omega)) | exact tl_b_f (fun q => q.1 (tl_or1 hm h258).1), by first | exact q3.2.2.2.2.2 | exact (tl_or1 hm h258).2⟩ dX9_slips_284
    · obtain ⟨m1, m2, q3⟩ := tl_or2 hm h258
      refine lv_aload_n hx hb dX9_slips_261 rfl (lv_at hl 0 rfl) ?_
      refine gf_X9_162 hx hb htw hown hK hW (by assumption) dX9_slips_262 ?_
      refine ti_if_eq (tgt := 283) hx hb dX9_slips_265 (by decide) (by have := q3.2.2.2.1; omega) (fun h265 => ?_) (fun h265 => ?_)
      · refine ti_iconst hx hb dX9_slips_283 ?_
        exact tm_zret hx hb hr hlk (by first | exact Or.inl rfl | exact Or.inr rfl | assumption) hK hW hS ⟨by first | exact tl_b_t ⟨m2, tl_b_n.mp h276⟩ | exact tl_b_f (fun q => tl_b_0.mp h276 q.2) | exact tl_b_f (fun q => absurd (q3.2.2.2.2.1.mpr (by rw [q.2]; exact lfit_ok hw)) (by omega)) | exact tl_b_f (fun q => q.1 (tl_or1 hm h258).1), by first | exact q3.2.2.2.2.2 | exact (tl_or1 hm h258).2⟩ dX9_slips_284
      · have w41 : rl Z o 41 = rl M o 41 := fq_rl q3.2.2.2.2.2 (fun k hk => by unfold mP; omega)
        refine lv_aload_n hx hb dX9_slips_268 rfl (lv_at hl 0 rfl) ?_
        refine ti_bipush hx hb dX9_slips_269 (by decide) ?_
        refine ti_bipush hx hb dX9_slips_271 (by decide) ?_
        refine tm_calli (cs_X9_196 hx hb hml hown htw hK hW (by assumption) (c_X9_isSame (i := 43) (j := 41) q3.1.1 (by decide) (by decide) (rl_L (by rw [q3.2.2.1]; exact lLok_slip hv m2) (by rw [q3.2.2.1, tl_slr]; omega)) (rl_L (by rw [w41]; exact lLok_of hw) (by rw [w41]; have := hw.2.2; omega))) ⟨rfl, rfl, Nat.le_of_ble_eq_true rfl, Nat.le_of_ble_eq_true rfl⟩ hl.1 (Nat.le_of_ble_eq_true rfl) dX9_slips_273 ⟨Nat.le_of_ble_eq_true rfl, Nat.le_of_ble_eq_true rfl⟩) hS (fun x273 M273 H locs hp273 hW hS => ?_)
        obtain ⟨ex273, eM273⟩ := hp273
        rw [eM273] at hW
        rw [ex273, q3.2.2.1, w41]
        refine ti_if_eq (tgt := 283) hx hb dX9_slips_276 (by decide) (tl_b_r _) (fun h276 => ?_) (fun h276 => ?_)
        · refine ti_iconst hx hb dX9_slips_283 ?_
          exact tm_zret hx hb hr hlk (by first | exact Or.inl rfl | exact Or.inr rfl | assumption) hK hW hS ⟨by first | exact tl_b_t ⟨m2, tl_b_n.mp h276⟩ | exact tl_b_f (fun q => tl_b_0.mp h276 q.2) | exact tl_b_f (fun q => absurd (q3.2.2.2.2.1.mpr (by rw [q.2]; exact lfit_ok hw)) (by omega)) | exact tl_b_f (fun q => q.1 (tl_or1 hm h258).1), by first | exact q3.2.2.2.2.2 | exact (tl_or1 hm h258).2⟩ dX9_slips_284
        · refine ti_iconst hx hb dX9_slips_279 ?_
          refine lv_goto (tgt := 284) hx hb dX9_slips_280 (by decide) ?_
          exact tm_zret hx hb hr hlk (by first | exact Or.inl rfl | exact Or.inr rfl | assumption) hK hW hS ⟨by first | exact tl_b_t ⟨m2, tl_b_n.mp h276⟩ | exact tl_b_f (fun q => tl_b_0.mp h276 q.2) | exact tl_b_f (fun q => absurd (q3.2.2.2.2.1.mpr (by rw [q.2]; exact lfit_ok hw)) (by omega)) | exact tl_b_f (fun q => q.1 (tl_or1 hm h258).1), by first | exact q3.2.2.2.2.2 | exact (tl_or1 hm h258).2⟩ dX9_slips_284
  have rest39 : ∀ (sc : Int) (A : tm_M) (H : Heap) (locs : List Loc) (ls : Array Slot), (sc = 0 ∨ sc = 1) → (sc = 1 ↔ (¬ v.1.1.1 = 0 ∧ ¬ v.1.1 = (1, 1))) → mo1 sh M A o N v 43 v True → tm_W G Hb sh A H → va_S (tm_A Hb) s.heap H locs → lv_has ls 5 [(0, .ref o), (1, ji 2), (2, ji sc)] → W p l e ({ frames := 5, cells := 0, slots := 0, locals := 130 }) s m [.ref o, ji 2].toArray below meth c H locs 0 0 (MQ below (tm_Qi G Hb sh (fun r M1 => r = tl_b (¬ tl_poss 2 v = 0 ∧ tl_slipv 2 v = rl M o 41) ∧ fq (mP o) M M1)) [.ref o, ji 2].toArray s 0 0 (tm_A Hb)) (F0 m 39 ls []) := by
    intro sc A H locs ls h01 hsc g hW hS hl
    obtain ⟨a0, a1, a2, a3, a4⟩ := rl_at g.2.1
    have t2a := g.1.1.2.1.2.1
    refine ti_iconst hx hb dX9_slips_39 ?_
    refine lv_istore_n (lv' := [(3, _), (0, _), (1, _), (2, _)]) hx hb dX9_slips_40 rfl hl (by decide) rfl (fun ls hl => ?_)
    refine lv_iload_n hx hb dX9_slips_41 rfl (lv_at hl 2 rfl) ?_
    refine ti_iconst hx hb dX9_slips_42 ?_
    refine ti_icmp_ne (tgt := 84) hx hb dX9_slips_43 (by decide) (by decide) (by decide) (fun h43 => ?_) (fun h43 => ?_)
    · refine lv_iload_n hx hb dX9_slips_84 rfl (lv_at hl 2 rfl) ?_
      refine ti_iconst hx hb dX9_slips_85 ?_
      refine ti_icmp_ne (tgt := 127) hx hb dX9_slips_86 (by decide) (by decide) (by decide) (fun h86 => ?_) (fun h86 => ?_)
      · exact absurd h86 (by decide)
      · refine lv_aload_n hx hb dX9_slips_89 rfl (lv_at hl 1 rfl) ?_
        refine ti_iconst hx hb dX9_slips_90 ?_
        refine tm_calll (cs_X9_169 hx hb hml hown htw hK hW (by assumption) (c_X9_above (n := 1) g.1 (by decide)) ⟨rfl, rfl, Nat.le_of_ble_eq_true rfl, Nat.le_of_ble_eq_true rfl⟩ hl.1 (Nat.le_of_ble_eq_true rfl) dX9_slips_91 ⟨Nat.le_of_ble_eq_true rfl, Nat.le_of_ble_eq_true rfl⟩) hS (fun x91 M91 H locs hp91 hW hS => ?_)
        obtain ⟨ex91, eM91⟩ := hp91
        rw [eM91] at hW
        rw [ex91, a1]
        refine ti_lconst0 hx hb dX9_slips_94 ?_
        refine ti_lcmp_eq (tgt := 103) hx hb dX9_slips_95 dX9_slips_96 (by decide) (by unfold fok at q2; omega) (by decide) (fun h95 => ?_) (fun h95 => ?_)
        · refine ti_iconst hx hb dX9_slips_103 ?_
          refine lv_istore_n (lv' := [(3, _), (0, _), (1, _), (2, _)]) hx hb dX9_slips_104 rfl hl (by decide) rfl (fun ls hl => ?_)
          refine lv_aload_n hx hb dX9_slips_105 rfl (lv_at hl 1 rfl) ?_
          refine ti_bipush hx hb dX9_slips_106 (by decide) ?_
          refine ti_iconst hx hb dX9_slips_108 ?_
          refine ti_iconst hx hb dX9_slips_109 ?_
          refine ti_iconst hx hb dX9_slips_110 ?_
          refine ti_iconst hx hb dX9_slips_111 ?_
          refine tm_callv (cs_X9_184 hx hb hml hown htw hK hW (by assumption) (c_X9_join (i := 43) (n := 3) (x := 1) (y := 3) (ls0 := 0) g.1 (by decide) (by decide) (by decide) (by decide) (Or.inl rfl) (by rw [a1]; exact q2) (by rw [a3]; exact q4) (by have := g.2.2.2.1; omega)) ⟨rfl, rfl, Nat.le_of_ble_eq_true rfl, Nat.le_of_ble_eq_true rfl⟩ hl.1 (Nat.le_of_ble_eq_true rfl) dX9_slips_112 ⟨Nat.le_of_ble_eq_true rfl, Nat.le_of_ble_eq_true rfl⟩) hS (fun M112 H locs hp112 hW hS => ?_)
          rw [if_neg (by decide), a1, a3] at hp112
          rw [hp112] at hW
          have g1 := mo1_wr (n := 3) (f := fadd v.1.2 v.2.1.2) g (by decide) (by decide)
          generalize hzB1 : wr A o 43 3 (fadd v.1.2 v.2.1.2) = B1 at hW g1
          refine lv_aload_n hx hb dX9_slips_115 rfl (lv_at hl 1 rfl) ?_
          refine ti_bipush hx hb dX9_slips_116 (by decide) ?_
          refine ti_iconst hx hb dX9_slips_118 ?_
          refine ti_lconst0 hx hb dX9_slips_119 ?_
          refine ti_lconst1 hx hb dX9_slips_120 ?_
          refine tm_callv (cs_X9_176 hx hb hml hown htw hK hW (by assumption) (c_X9_write (i := 43) (n := 1) g1.1.1 (by decide) (by decide) (by decide) (by decide) (by decide) (by have := g1.2.2.2.1; omega)) ⟨rfl, rfl, Nat.le_of_ble_eq_true rfl, Nat.le_of_ble_eq_true rfl⟩ hl.1 (Nat.le_of_ble_eq_true rfl) dX9_slips_121 ⟨Nat.le_of_ble_eq_true rfl, Nat.le_of_ble_eq_true rfl⟩) hS (fun M121 H locs hp121 hW hS => ?_)
          rw [norm_01] at hp121
          rw [hp121] at hW
          have g2 := mo1_wr (n := 1) (f := ((0, 1) : tl_F)) g1 (by decide) (by decide)
          generalize hzB2 : wr B1 o 43 1 (((0, 1) : tl_F)) = B2 at hW g2
          refine lv_goto (tgt := 257) hx hb dX9_slips_124 (by decide) ?_
          first
          | exact tail 1 B2 _ _ _ (Or.inr ⟨rfl, by rw [pss2]; exact tl_b_n.mpr h95, (mo1_F g2 (by rw [slv2]; rfl) (by rw [slv2]; exact ⟨fun q => ⟨⟨ffit_ok q1, ffit_0⟩, ffit_ok q3, q.1.2⟩, fun q => ⟨⟨trivial, q.2.2⟩, ffit_0⟩⟩))⟩) hW hS (lv_sub hl [1, 0] rfl)
          | exact tail 0 B2 _ _ _ (Or.inl ⟨rfl, by rw [pss2]; exact tl_b_0.mpr (fun q => q h95), g2.2.2.2.2.2⟩) hW hS (lv_sub hl [1, 0] rfl)
        · refine ti_iconst hx hb dX9_slips_99 ?_
          refine lv_goto (tgt := 104) hx hb dX9_slips_100 (by decide) ?_
          refine lv_istore_n (lv' := [(3, _), (0, _), (1, _), (2, _)]) hx hb dX9_slips_104 rfl hl (by decide) rfl (fun ls hl => ?_)
          refine lv_aload_n hx hb dX9_slips_105 rfl (lv_at hl 1 rfl) ?_
          refine ti_bipush hx hb dX9_slips_106 (by decide) ?_
          refine ti_iconst hx hb dX9_slips_108 ?_
          refine ti_iconst hx hb dX9_slips_109 ?_
          refine ti_iconst hx hb dX9_slips_110 ?_
          refine ti_iconst hx hb dX9_slips_111 ?_
          refine tm_callv (cs_X9_184 hx hb hml hown htw hK hW (by assumption) (c_X9_join (i := 43) (n := 3) (x := 1) (y := 3) (ls0 := 0) g.1 (by decide) (by decide) (by decide) (by decide) (Or.inl rfl) (by rw [a1]; exact q2) (by rw [a3]; exact q4) (by have := g.2.2.2.1; omega)) ⟨rfl, rfl, Nat.le_of_ble_eq_true rfl, Nat.le_of_ble_eq_true rfl⟩ hl.1 (Nat.le_of_ble_eq_true rfl) dX9_slips_112 ⟨Nat.le_of_ble_eq_true rfl, Nat.le_of_ble_eq_true rfl⟩) hS (fun M112 H locs hp112 hW hS => ?_)
          rw [if_neg (by decide), a1, a3] at hp112
          rw [hp112] at hW
          have g1 := mo1_wr (n := 3) (f := fadd v.1.2 v.2.1.2) g (by decide) (by decide)
          generalize hzB1 : wr A o 43 3 (fadd v.1.2 v.2.1.2) = B1 at hW g1
          refine lv_aload_n hx hb dX9_slips_115 rfl (lv_at hl 1 rfl) ?_
          refine ti_bipush hx hb dX9_slips_116 (by decide) ?_
          refine ti_iconst hx hb dX9_slips_118 ?_
          refine ti_lconst0 hx hb dX9_slips_119 ?_
          refine ti_lconst1 hx hb dX9_slips_120 ?_
          refine tm_callv (cs_X9_176 hx hb hml hown htw hK hW (by assumption) (c_X9_write (i := 43) (n := 1) g1.1.1 (by decide) (by decide) (by decide) (by decide) (by decide) (by have := g1.2.2.2.1; omega)) ⟨rfl, rfl, Nat.le_of_ble_eq_true rfl, Nat.le_of_ble_eq_true rfl⟩ hl.1 (Nat.le_of_ble_eq_true rfl) dX9_slips_121 ⟨Nat.le_of_ble_eq_true rfl, Nat.le_of_ble_eq_true rfl⟩) hS (fun M121 H locs hp121 hW hS => ?_)
          rw [norm_01] at hp121
          rw [hp121] at hW
          have g2 := mo1_wr (n := 1) (f := ((0, 1) : tl_F)) g1 (by decide) (by decide)
          generalize hzB2 : wr B1 o 43 1 (((0, 1) : tl_F)) = B2 at hW g2
          refine lv_goto (tgt := 257) hx hb dX9_slips_124 (by decide) ?_
          first
          | exact tail 1 B2 _ _ _ (Or.inr ⟨rfl, by rw [pss2]; exact tl_b_n.mpr h95, (mo1_F g2 (by rw [slv2]; rfl) (by rw [slv2]; exact ⟨fun q => ⟨⟨ffit_ok q1, ffit_0⟩, ffit_ok q3, q.1.2⟩, fun q => ⟨⟨trivial, q.2.2⟩, ffit_0⟩⟩))⟩) hW hS (lv_sub hl [1, 0] rfl)
          | exact tail 0 B2 _ _ _ (Or.inl ⟨rfl, by rw [pss2]; exact tl_b_0.mpr (fun q => q h95), g2.2.2.2.2.2⟩) hW hS (lv_sub hl [1, 0] rfl)
    · exact absurd h43 (by decide)
  refine lv_aload_n hx hb dX9_slips_0 rfl (lv_at hl 0 rfl) ?_
  refine lv_aload_n hx hb dX9_slips_1 rfl (lv_at hl 0 rfl) ?_
  refine tm_calli (cs_X9_166 hx hb hml hown htw hK hW (by assumption) (c_X9_last h) ⟨rfl, rfl, Nat.le_of_ble_eq_true rfl, Nat.le_of_ble_eq_true rfl⟩ hl.1 (Nat.le_of_ble_eq_true rfl) dX9_slips_2 ⟨Nat.le_of_ble_eq_true rfl, Nat.le_of_ble_eq_true rfl⟩) hS (fun x2 M2 H locs hp2 hW hS => ?_)
  obtain ⟨ex2, eM2⟩ := hp2
  rw [eM2] at hW
  rw [ex2]
  refine ti_bipush hx hb dX9_slips_5 (by decide) ?_
  refine tm_callv (cs_X9_180 hx hb hml hown htw hK hW (by assumption) (c_X9_copyLine (i := N - 1) (j := 43) h.1 (by omega) (by decide) (by omega)) ⟨rfl, rfl, Nat.le_of_ble_eq_true rfl, Nat.le_of_ble_eq_true rfl⟩ hl.1 (Nat.le_of_ble_eq_true rfl) dX9_slips_7 ⟨Nat.le_of_ble_eq_true rfl, Nat.le_of_ble_eq_true rfl⟩) hS (fun M7 H locs hp7 hW hS => ?_)
  obtain ⟨e7, f7⟩ := hp7
  refine lv_aload_n hx hb dX9_slips_10 rfl (lv_at hl 0 rfl) ?_
  refine ti_iconst hx hb dX9_slips_11 ?_
  refine pf_X9_162 hx hb htw hown hK hW (by assumption) hS (Or.inr rfl) dX9_slips_12 (fun H locs hW hS => ?_)
  have g := mo1_0 (i := 43) h (by decide) hr0 e7 f7
  generalize sI M7 o 28 1 = A at hW g
  obtain ⟨a0, a1, a2, a3, a4⟩ := rl_at g.2.1
  refine lv_aload_n hx hb dX9_slips_15 rfl (lv_at hl 0 rfl) ?_
  refine ti_iconst hx hb dX9_slips_16 ?_
  refine tm_calll (cs_X9_169 hx hb hml hown htw hK hW (by assumption) (c_X9_above (n := 0) g.1 (by decide)) ⟨rfl, rfl, Nat.le_of_ble_eq_true rfl, Nat.le_of_ble_eq_true rfl⟩ hl.1 (Nat.le_of_ble_eq_true rfl) dX9_slips_17 ⟨Nat.le_of_ble_eq_true rfl, Nat.le_of_ble_eq_true rfl⟩) hS (fun x17 M17 H locs hp17 hW hS => ?_)
  obtain ⟨ex17, eM17⟩ := hp17
  rw [eM17] at hW
  rw [ex17, a0]
  refine ti_lconst0 hx hb dX9_slips_20 ?_
  refine ti_lcmp_eq (tgt := 37) hx hb dX9_slips_21 dX9_slips_22 (by decide) (by unfold fok at q1; omega) (by decide) (fun h21 => ?_) (fun h21 => ?_)
  · refine ti_iconst hx hb dX9_slips_37 ?_
    refine lv_istore_n (lv' := [(2, _), (0, _), (1, _)]) hx hb dX9_slips_38 rfl hl (by decide) rfl (fun ls hl => ?_)
    first
    | exact rest39 1 A _ _ _ (Or.inr rfl) ⟨fun _ => ⟨h21, tl_b_0.mp h30⟩, fun _ => rfl⟩ g hW hS (lv_sub hl [1, 2, 0] rfl)
    | exact rest39 0 A _ _ _ (Or.inl rfl) ⟨fun q => absurd q (by decide), fun q => absurd (tl_b_n.mp h30) q.2⟩ g hW hS (lv_sub hl [1, 2, 0] rfl)
    | exact rest39 0 A _ _ _ (Or.inl rfl) ⟨fun q => absurd q (by decide), fun q => absurd h21 q.1⟩ g hW hS (lv_sub hl [1, 2, 0] rfl)
  · refine lv_aload_n hx hb dX9_slips_25 rfl (lv_at hl 0 rfl) ?_
    refine ti_iconst hx hb dX9_slips_26 ?_
    refine tm_calli (cs_X9_188 hx hb hml hown htw hK hW (by assumption) (c_X9_isOne (n := 0) g.1 (by decide) (by rw [a0]; exact fLok_of q1)) ⟨rfl, rfl, Nat.le_of_ble_eq_true rfl, Nat.le_of_ble_eq_true rfl⟩ hl.1 (Nat.le_of_ble_eq_true rfl) dX9_slips_27 ⟨Nat.le_of_ble_eq_true rfl, Nat.le_of_ble_eq_true rfl⟩) hS (fun x27 M27 H locs hp27 hW hS => ?_)
    obtain ⟨ex27, eM27⟩ := hp27
    rw [eM27] at hW
    rw [ex27, a0]
    refine ti_if_ne (tgt := 37) hx hb dX9_slips_30 (by decide) (tl_b_r _) (fun h30 => ?_) (fun h30 => ?_)
    · refine ti_iconst hx hb dX9_slips_37 ?_
      refine lv_istore_n (lv' := [(2, _), (0, _), (1, _)]) hx hb dX9_slips_38 rfl hl (by decide) rfl (fun ls hl => ?_)
      first
      | exact rest39 1 A _ _ _ (Or.inr rfl) ⟨fun _ => ⟨h21, tl_b_0.mp h30⟩, fun _ => rfl⟩ g hW hS (lv_sub hl [1, 2, 0] rfl)
      | exact rest39 0 A _ _ _ (Or.inl rfl) ⟨fun q => absurd q (by decide), fun q => absurd (tl_b_n.mp h30) q.2⟩ g hW hS (lv_sub hl [1, 2, 0] rfl)
      | exact rest39 0 A _ _ _ (Or.inl rfl) ⟨fun q => absurd q (by decide), fun q => absurd h21 q.1⟩ g hW hS (lv_sub hl [1, 2, 0] rfl)
    · refine ti_iconst hx hb dX9_slips_33 ?_
      refine lv_goto (tgt := 38) hx hb dX9_slips_34 (by decide) ?_
      refine lv_istore_n (lv' := [(2, _), (0, _), (1, _)]) hx hb dX9_slips_38 rfl hl (by decide) rfl (fun ls hl => ?_)
      first
      | exact rest39 1 A _ _ _ (Or.inr rfl) ⟨fun _ => ⟨h21, tl_b_0.mp h30⟩, fun _ => rfl⟩ g hW hS (lv_sub hl [1, 2, 0] rfl)
      | exact rest39 0 A _ _ _ (Or.inl rfl) ⟨fun q => absurd q (by decide), fun q => absurd (tl_b_n.mp h30) q.2⟩ g hW hS (lv_sub hl [1, 2, 0] rfl)
      | exact rest39 0 A _ _ _ (Or.inl rfl) ⟨fun q => absurd q (by decide), fun q => absurd h21 q.1⟩ g hW hS (lv_sub hl [1, 2, 0] rfl)
set_option maxHeartbeats 4000000 in
set_option maxRecDepth 100000 in
/-- TutorLinesModel.slips 3 -/
theorem c_X9_slips3 {l : Launch} {G : tm_G} {Hb : Heap} {sh : tm_sh} {M : tm_M} {o N : Nat} {v : tl_L} (h : moN sh M o N) (hr0 : rl M o (N - 1) = v) (hv : lok v) (hg : lg v) (hw : lok (rl M o 41)) : Met l yX9_slips (tws yX9_slips cX9_slips 5 (some .boolean)) ({ frames := 5, cells := 0, slots := 0, locals := 130 }) (va_Pc [.ref o, ji 3] (tm_St G Hb sh M)) (tm_Qi G Hb sh (fun r M1 => r = tl_b (¬ tl_poss 3 v = 0 ∧ tl_slipv 3 v = rl M o 41) ∧ fq (mP o) M M1)) 0 0 (tm_A Hb) := by
  refine tm_begin (by decide) (Nat.le_of_ble_eq_true rfl) (fun p e s m below meth c ls hx hb hr hml hown htw hlk hnm hK hW hl => ?_)
  have hS : va_S (tm_A Hb) s.heap s.heap [] := va_S.rf
  have hl : lv_has ls 5 [(0, .ref o), (1, ji 3)] := hl
  have hN := h.2.2
  have b0 := h.1.1
  have t2 := h.1.2.1.2.1
  have u2 := h.1.2.2.2.1
  have h9 := hv.2.2
  obtain ⟨⟨q1, q2⟩, ⟨q3, q4⟩, q5⟩ := id hv
  obtain ⟨⟨y1, y2⟩, y3, y4⟩ := id hg
  have tail : ∀ (may : Int) (Z : tm_M) (H : Heap) (locs : List Loc) (ls : Array Slot), ((may = 0 ∧ tl_poss 3 v = 0 ∧ fq (mP o) M Z) ∨ (may = 1 ∧ ¬ tl_poss 3 v = 0 ∧ mo1 sh M Z o N v 43 (tl_slipv 3 v) (lfit (tl_slipv 3 v)))) → tm_W G Hb sh Z H → va_S (tm_A Hb) s.heap H locs → lv_has ls 5 [(0, .ref o), (3, ji may)] → W p l e ({ frames := 5, cells := 0, slots := 0, locals := 130 }) s m [.ref o, ji 3].toArray below meth c H locs 0 0 (MQ below (tm_Qi G Hb sh (fun r M1 => r = tl_b (¬ tl_poss 3 v = 0 ∧ tl_slipv 3 v = rl M o 41) ∧ fq (mP o) M M1)) [.ref o, ji 3].toArray s 0 0 (tm_A Hb)) (F0 m 257 ls []) := by
    intro may Z H locs ls hm hW hS hl
    have hm01 : inI may := by rcases hm with q | q <;> omega
    refine lv_iload_n hx hb dX9_slips_257 rfl (lv_at hl 1 rfl) ?_
    refine ti_if_eq (tgt := 283) hx hb dX9_slips_258 (by decide) hm01 (fun h258 => ?_) (fun h258 => ?_)
    · refine ti_iconst hx hb dX9_slips_283 ?_
      exact tm_zret hx hb hr hlk (by first | exact Or.inl rfl | exact Or.inr rfl | assumption) hK hW hS ⟨by first | exact tl_b_t ⟨m2, tl_b_n.mp h276⟩ | exact tl_b_f (fun q => tl_b_0.mp h276 q.2) | exact tl_b_f (fun q => absurd (q3.2.2.2.2.1.mpr (by rw [q.2]; exact lfit_ok hw)) (by omega)) | exact tl_b_f (fun q => q.1 (tl_or1 hm h258).1), by first | exact q3.2.2.2.2.2 | exact (tl_or1 hm h258).2⟩ dX9_slips_284
    · obtain ⟨m1, m2, q3⟩ := tl_or2 hm h258
      refine lv_aload_n hx hb dX9_slips_261 rfl (lv_at hl 0 rfl) ?_
      refine gf_X9_162 hx hb htw hown hK hW (by assumption) dX9_slips_262 ?_
      refine ti_if_eq (tgt := 283) hx hb dX9_slips_265 (by decide) (by have := q3.2.2.2.1; omega) (fun h265 => ?_) (fun h265 => ?_)
      · refine ti_iconst hx hb dX9_slips_283 ?_
        exact tm_zret hx hb hr hlk (by first | exact Or.inl rfl | exact Or.inr rfl | assumption) hK hW hS ⟨by first | exact tl_b_t ⟨m2, tl_b_n.mp h276⟩ | exact tl_b_f (fun q => tl_b_0.mp h276 q.2) | exact tl_b_f (fun q => absurd (q3.2.2.2.2.1.mpr (by rw [q.2]; exact lfit_ok hw)) (by omega)) | exact tl_b_f (fun q => q.1 (tl_or1 hm h258).1), by first | exact q3.2.2.2.2.2 | exact (tl_or1 hm h258).2⟩ dX9_slips_284
      · have w41 : rl Z o 41 = rl M o 41 := fq_rl q3.2.2.2.2.2 (fun k hk => by unfold mP; omega)
        refine lv_aload_n hx hb dX9_slips_268 rfl (lv_at hl 0 rfl) ?_
        refine ti_bipush hx hb dX9_slips_269 (by decide) ?_
        refine ti_bipush hx hb dX9_slips_271 (by decide) ?_
        refine tm_calli (cs_X9_196 hx hb hml hown htw hK hW (by assumption) (c_X9_isSame (i := 43) (j := 41) q3.1.1 (by decide) (by decide) (rl_L (by rw [q3.2.2.1]; exact lLok_slip hv m2) (by rw [q3.2.2.1, tl_slr]; omega)) (rl_L (by rw [w41]; exact lLok_of hw) (by rw [w41]; have := hw.2.2; omega))) ⟨rfl, rfl, Nat.le_of_ble_eq_true rfl, Nat.le_of_ble_eq_true rfl⟩ hl.1 (Nat.le_of_ble_eq_true rfl) dX9_slips_273 ⟨Nat.le_of_ble_eq_true rfl, Nat.le_of_ble_eq_true rfl⟩) hS (fun x273 M273 H locs hp273 hW hS => ?_)
        obtain ⟨ex273, eM273⟩ := hp273
        rw [eM273] at hW
        rw [ex273, q3.2.2.1, w41]
        refine ti_if_eq (tgt := 283) hx hb dX9_slips_276 (by decide) (tl_b_r _) (fun h276 => ?_) (fun h276 => ?_)
        · refine ti_iconst hx hb dX9_slips_283 ?_
          exact tm_zret hx hb hr hlk (by first | exact Or.inl rfl | exact Or.inr rfl | assumption) hK hW hS ⟨by first | exact tl_b_t ⟨m2, tl_b_n.mp h276⟩ | exact tl_b_f (fun q => tl_b_0.mp h276 q.2) | exact tl_b_f (fun q => absurd (q3.2.2.2.2.1.mpr (by rw [q.2]; exact lfit_ok hw)) (by omega)) | exact tl_b_f (fun q => q.1 (tl_or1 hm h258).1), by first | exact q3.2.2.2.2.2 | exact (tl_or1 hm h258).2⟩ dX9_slips_284
        · refine ti_iconst hx hb dX9_slips_279 ?_
          refine lv_goto (tgt := 284) hx hb dX9_slips_280 (by decide) ?_
          exact tm_zret hx hb hr hlk (by first | exact Or.inl rfl | exact Or.inr rfl | assumption) hK hW hS ⟨by first | exact tl_b_t ⟨m2, tl_b_n.mp h276⟩ | exact tl_b_f (fun q => tl_b_0.mp h276 q.2) | exact tl_b_f (fun q => absurd (q3.2.2.2.2.1.mpr (by rw [q.2]; exact lfit_ok hw)) (by omega)) | exact tl_b_f (fun q => q.1 (tl_or1 hm h258).1), by first | exact q3.2.2.2.2.2 | exact (tl_or1 hm h258).2⟩ dX9_slips_284
  have rest39 : ∀ (sc : Int) (A : tm_M) (H : Heap) (locs : List Loc) (ls : Array Slot), (sc = 0 ∨ sc = 1) → (sc = 1 ↔ (¬ v.1.1.1 = 0 ∧ ¬ v.1.1 = (1, 1))) → mo1 sh M A o N v 43 v True → tm_W G Hb sh A H → va_S (tm_A Hb) s.heap H locs → lv_has ls 5 [(0, .ref o), (1, ji 3), (2, ji sc)] → W p l e ({ frames := 5, cells := 0, slots := 0, locals := 130 }) s m [.ref o, ji 3].toArray below meth c H locs 0 0 (MQ below (tm_Qi G Hb sh (fun r M1 => r = tl_b (¬ tl_poss 3 v = 0 ∧ tl_slipv 3 v = rl M o 41) ∧ fq (mP o) M M1)) [.ref o, ji 3].toArray s 0 0 (tm_A Hb)) (F0 m 39 ls []) := by
    intro sc A H locs ls h01 hsc g hW hS hl
    obtain ⟨a0, a1, a2, a3, a4⟩ := rl_at g.2.1
    have t2a := g.1.1.2.1.2.1
    refine ti_iconst hx hb dX9_slips_39 ?_
    refine lv_istore_n (lv' := [(3, _), (0, _), (1, _), (2, _)]) hx hb dX9_slips_40 rfl hl (by decide) rfl (fun ls hl => ?_)
    refine lv_iload_n hx hb dX9_slips_41 rfl (lv_at hl 2 rfl) ?_
    refine ti_iconst hx hb dX9_slips_42 ?_
    refine ti_icmp_ne (tgt := 84) hx hb dX9_slips_43 (by decide) (by decide) (by decide) (fun h43 => ?_) (fun h43 => ?_)
    · refine lv_iload_n hx hb dX9_slips_84 rfl (lv_at hl 2 rfl) ?_
      refine ti_iconst hx hb dX9_slips_85 ?_
      refine ti_icmp_ne (tgt := 127) hx hb dX9_slips_86 (by decide) (by decide) (by decide) (fun h86 => ?_) (fun h86 => ?_)
      · refine lv_iload_n hx hb dX9_slips_127 rfl (lv_at hl 2 rfl) ?_
        refine ti_iconst hx hb dX9_slips_128 ?_
        refine ti_icmp_ne (tgt := 197) hx hb dX9_slips_129 (by decide) (by decide) (by decide) (fun h129 => ?_) (fun h129 => ?_)
        · refine lv_iload_n hx hb dX9_slips_197 rfl (lv_at hl 3 rfl) ?_
          refine ti_if_eq (tgt := 246) hx hb dX9_slips_198 (by decide) (by omega) (fun h198 => ?_) (fun h198 => ?_)
          · refine ti_iconst hx hb dX9_slips_246 ?_
            refine lv_istore_n (lv' := [(3, _), (0, _), (1, _), (2, _)]) hx hb dX9_slips_247 rfl hl (by decide) rfl (fun ls hl => ?_)
            refine lv_iload_n hx hb dX9_slips_248 rfl (lv_at hl 0 rfl) ?_
            refine ti_if_eq (tgt := 257) hx hb dX9_slips_249 (by decide) (by decide) (fun h249 => ?_) (fun h249 => ?_)
            · first
              | exact tail 1 M254 _ _ _ (Or.inr ⟨rfl, by rw [pss3]; exact tl_b_n.mpr (hsc.mp (by omega)), hp254⟩) hW hS (lv_sub hl [1, 0] rfl)
              | exact tail 0 A _ _ _ (Or.inl ⟨rfl, by rw [pss3]; exact tl_b_0.mpr (fun q => absurd (hsc.mpr q) (by omega)), g.2.2.2.2.2⟩) hW hS (lv_sub hl [1, 0] rfl)
              | exact absurd h249 (by decide)
            · refine lv_aload_n hx hb dX9_slips_252 rfl (lv_at hl 1 rfl) ?_
              refine lv_iload_n hx hb dX9_slips_253 rfl (lv_at hl 2 rfl) ?_
              refine tm_callv (cs_X9_193 hx hb hml hown htw hK hW (by assumption) (c_X9_scaled3 g hv (hsc.mp (by omega)).1) ⟨rfl, rfl, Nat.le_of_ble_eq_true rfl, Nat.le_of_ble_eq_true rfl⟩ hl.1 (Nat.le_of_ble_eq_true rfl) dX9_slips_254 ⟨Nat.le_of_ble_eq_true rfl, Nat.le_of_ble_eq_true rfl⟩) hS (fun M254 H locs hp254 hW hS => ?_)
              first
              | exact tail 1 M254 _ _ _ (Or.inr ⟨rfl, by rw [pss3]; exact tl_b_n.mpr (hsc.mp (by omega)), hp254⟩) hW hS (lv_sub hl [1, 0] rfl)
              | exact tail 0 A _ _ _ (Or.inl ⟨rfl, by rw [pss3]; exact tl_b_0.mpr (fun q => absurd (hsc.mpr q) (by omega)), g.2.2.2.2.2⟩) hW hS (lv_sub hl [1, 0] rfl)
              | exact absurd h249 (by decide)
          · refine lv_iload_n hx hb dX9_slips_201 rfl (lv_at hl 2 rfl) ?_
            refine ti_iconst hx hb dX9_slips_202 ?_
            refine ti_icmp_ne (tgt := 216) hx hb dX9_slips_203 (by decide) (by decide) (by decide) (fun h203 => ?_) (fun h203 => ?_)
            · refine lv_iload_n hx hb dX9_slips_216 rfl (lv_at hl 2 rfl) ?_
              refine ti_bipush hx hb dX9_slips_217 (by decide) ?_
              refine ti_icmp_ne (tgt := 242) hx hb dX9_slips_219 (by decide) (by decide) (by decide) (fun h219 => ?_) (fun h219 => ?_)
              · refine ti_iconst hx hb dX9_slips_242 ?_
                refine lv_goto (tgt := 247) hx hb dX9_slips_243 (by decide) ?_
                refine lv_istore_n (lv' := [(3, _), (0, _), (1, _), (2, _)]) hx hb dX9_slips_247 rfl hl (by decide) rfl (fun ls hl => ?_)
                refine lv_iload_n hx hb dX9_slips_248 rfl (lv_at hl 0 rfl) ?_
                refine ti_if_eq (tgt := 257) hx hb dX9_slips_249 (by decide) (by decide) (fun h249 => ?_) (fun h249 => ?_)
                · first
                  | exact tail 1 M254 _ _ _ (Or.inr ⟨rfl, by rw [pss3]; exact tl_b_n.mpr (hsc.mp (by omega)), hp254⟩) hW hS (lv_sub hl [1, 0] rfl)
                  | exact tail 0 A _ _ _ (Or.inl ⟨rfl, by rw [pss3]; exact tl_b_0.mpr (fun q => absurd (hsc.mpr q) (by omega)), g.2.2.2.2.2⟩) hW hS (lv_sub hl [1, 0] rfl)
                  | exact absurd h249 (by decide)
                · refine lv_aload_n hx hb dX9_slips_252 rfl (lv_at hl 1 rfl) ?_
                  refine lv_iload_n hx hb dX9_slips_253 rfl (lv_at hl 2 rfl) ?_
                  refine tm_callv (cs_X9_193 hx hb hml hown htw hK hW (by assumption) (c_X9_scaled3 g hv (hsc.mp (by omega)).1) ⟨rfl, rfl, Nat.le_of_ble_eq_true rfl, Nat.le_of_ble_eq_true rfl⟩ hl.1 (Nat.le_of_ble_eq_true rfl) dX9_slips_254 ⟨Nat.le_of_ble_eq_true rfl, Nat.le_of_ble_eq_true rfl⟩) hS (fun M254 H locs hp254 hW hS => ?_)
                  first
                  | exact tail 1 M254 _ _ _ (Or.inr ⟨rfl, by rw [pss3]; exact tl_b_n.mpr (hsc.mp (by omega)), hp254⟩) hW hS (lv_sub hl [1, 0] rfl)
                  | exact tail 0 A _ _ _ (Or.inl ⟨rfl, by rw [pss3]; exact tl_b_0.mpr (fun q => absurd (hsc.mpr q) (by omega)), g.2.2.2.2.2⟩) hW hS (lv_sub hl [1, 0] rfl)
                  | exact absurd h249 (by decide)
              · exact absurd h219 (by decide)
            · exact absurd h203 (by decide)
        · exact absurd h129 (by decide)
      · exact absurd h86 (by decide)
    · exact absurd h43 (by decide)
  refine lv_aload_n hx hb dX9_slips_0 rfl (lv_at hl 0 rfl) ?_
  refine lv_aload_n hx hb dX9_slips_1 rfl (lv_at hl 0 rfl) ?_
  refine tm_calli (cs_X9_166 hx hb hml hown htw hK hW (by assumption) (c_X9_last h) ⟨rfl, rfl, Nat.le_of_ble_eq_true rfl, Nat.le_of_ble_eq_true rfl⟩ hl.1 (Nat.le_of_ble_eq_true rfl) dX9_slips_2 ⟨Nat.le_of_ble_eq_true rfl, Nat.le_of_ble_eq_true rfl⟩) hS (fun x2 M2 H locs hp2 hW hS => ?_)
  obtain ⟨ex2, eM2⟩ := hp2
  rw [eM2] at hW
  rw [ex2]
  refine ti_bipush hx hb dX9_slips_5 (by decide) ?_
  refine tm_callv (cs_X9_180 hx hb hml hown htw hK hW (by assumption) (c_X9_copyLine (i := N - 1) (j := 43) h.1 (by omega) (by decide) (by omega)) ⟨rfl, rfl, Nat.le_of_ble_eq_true rfl, Nat.le_of_ble_eq_true rfl⟩ hl.1 (Nat.le_of_ble_eq_true rfl) dX9_slips_7 ⟨Nat.le_of_ble_eq_true rfl, Nat.le_of_ble_eq_true rfl⟩) hS (fun M7 H locs hp7 hW hS => ?_)
  obtain ⟨e7, f7⟩ := hp7
  refine lv_aload_n hx hb dX9_slips_10 rfl (lv_at hl 0 rfl) ?_
  refine ti_iconst hx hb dX9_slips_11 ?_
  refine pf_X9_162 hx hb htw hown hK hW (by assumption) hS (Or.inr rfl) dX9_slips_12 (fun H locs hW hS => ?_)
  have g := mo1_0 (i := 43) h (by decide) hr0 e7 f7
  generalize sI M7 o 28 1 = A at hW g
  obtain ⟨a0, a1, a2, a3, a4⟩ := rl_at g.2.1
  refine lv_aload_n hx hb dX9_slips_15 rfl (lv_at hl 0 rfl) ?_
  refine ti_iconst hx hb dX9_slips_16 ?_
  refine tm_calll (cs_X9_169 hx hb hml hown htw hK hW (by assumption) (c_X9_above (n := 0) g.1 (by decide)) ⟨rfl, rfl, Nat.le_of_ble_eq_true rfl, Nat.le_of_ble_eq_true rfl⟩ hl.1 (Nat.le_of_ble_eq_true rfl) dX9_slips_17 ⟨Nat.le_of_ble_eq_true rfl, Nat.le_of_ble_eq_true rfl⟩) hS (fun x17 M17 H locs hp17 hW hS => ?_)
  obtain ⟨ex17, eM17⟩ := hp17
  rw [eM17] at hW
  rw [ex17, a0]
  refine ti_lconst0 hx hb dX9_slips_20 ?_
  refine ti_lcmp_eq (tgt := 37) hx hb dX9_slips_21 dX9_slips_22 (by decide) (by unfold fok at q1; omega) (by decide) (fun h21 => ?_) (fun h21 => ?_)
  · refine ti_iconst hx hb dX9_slips_37 ?_
    refine lv_istore_n (lv' := [(2, _), (0, _), (1, _)]) hx hb dX9_slips_38 rfl hl (by decide) rfl (fun ls hl => ?_)
    first
    | exact rest39 1 A _ _ _ (Or.inr rfl) ⟨fun _ => ⟨h21, tl_b_0.mp h30⟩, fun _ => rfl⟩ g hW hS (lv_sub hl [1, 2, 0] rfl)
    | exact rest39 0 A _ _ _ (Or.inl rfl) ⟨fun q => absurd q (by decide), fun q => absurd (tl_b_n.mp h30) q.2⟩ g hW hS (lv_sub hl [1, 2, 0] rfl)
    | exact rest39 0 A _ _ _ (Or.inl rfl) ⟨fun q => absurd q (by decide), fun q => absurd h21 q.1⟩ g hW hS (lv_sub hl [1, 2, 0] rfl)
  · refine lv_aload_n hx hb dX9_slips_25 rfl (lv_at hl 0 rfl) ?_
    refine ti_iconst hx hb dX9_slips_26 ?_
    refine tm_calli (cs_X9_188 hx hb hml hown htw hK hW (by assumption) (c_X9_isOne (n := 0) g.1 (by decide) (by rw [a0]; exact fLok_of q1)) ⟨rfl, rfl, Nat.le_of_ble_eq_true rfl, Nat.le_of_ble_eq_true rfl⟩ hl.1 (Nat.le_of_ble_eq_true rfl) dX9_slips_27 ⟨Nat.le_of_ble_eq_true rfl, Nat.le_of_ble_eq_true rfl⟩) hS (fun x27 M27 H locs hp27 hW hS => ?_)
    obtain ⟨ex27, eM27⟩ := hp27
    rw [eM27] at hW
    rw [ex27, a0]
    refine ti_if_ne (tgt := 37) hx hb dX9_slips_30 (by decide) (tl_b_r _) (fun h30 => ?_) (fun h30 => ?_)
    · refine ti_iconst hx hb dX9_slips_37 ?_
      refine lv_istore_n (lv' := [(2, _), (0, _), (1, _)]) hx hb dX9_slips_38 rfl hl (by decide) rfl (fun ls hl => ?_)
      first
      | exact rest39 1 A _ _ _ (Or.inr rfl) ⟨fun _ => ⟨h21, tl_b_0.mp h30⟩, fun _ => rfl⟩ g hW hS (lv_sub hl [1, 2, 0] rfl)
      | exact rest39 0 A _ _ _ (Or.inl rfl) ⟨fun q => absurd q (by decide), fun q => absurd (tl_b_n.mp h30) q.2⟩ g hW hS (lv_sub hl [1, 2, 0] rfl)
      | exact rest39 0 A _ _ _ (Or.inl rfl) ⟨fun q => absurd q (by decide), fun q => absurd h21 q.1⟩ g hW hS (lv_sub hl [1, 2, 0] rfl)
    · refine ti_iconst hx hb dX9_slips_33 ?_
      refine lv_goto (tgt := 38) hx hb dX9_slips_34 (by decide) ?_
      refine lv_istore_n (lv' := [(2, _), (0, _), (1, _)]) hx hb dX9_slips_38 rfl hl (by decide) rfl (fun ls hl => ?_)
      first
      | exact rest39 1 A _ _ _ (Or.inr rfl) ⟨fun _ => ⟨h21, tl_b_0.mp h30⟩, fun _ => rfl⟩ g hW hS (lv_sub hl [1, 2, 0] rfl)
      | exact rest39 0 A _ _ _ (Or.inl rfl) ⟨fun q => absurd q (by decide), fun q => absurd (tl_b_n.mp h30) q.2⟩ g hW hS (lv_sub hl [1, 2, 0] rfl)
      | exact rest39 0 A _ _ _ (Or.inl rfl) ⟨fun q => absurd q (by decide), fun q => absurd h21 q.1⟩ g hW hS (lv_sub hl [1, 2, 0] rfl)
set_option maxHeartbeats 4000000 in
set_option maxRecDepth 100000 in
/-- TutorLinesModel.slips 4 -/
theorem c_X9_slips4 {l : Launch} {G : tm_G} {Hb : Heap} {sh : tm_sh} {M : tm_M} {o N : Nat} {v : tl_L} (h : moN sh M o N) (hr0 : rl M o (N - 1) = v) (hv : lok v) (hg : lg v) (hw : lok (rl M o 41)) : Met l yX9_slips (tws yX9_slips cX9_slips 5 (some .boolean)) ({ frames := 5, cells := 0, slots := 0, locals := 130 }) (va_Pc [.ref o, ji 4] (tm_St G Hb sh M)) (tm_Qi G Hb sh (fun r M1 => r = tl_b (¬ tl_poss 4 v = 0 ∧ tl_slipv 4 v = rl M o 41) ∧ fq (mP o) M M1)) 0 0 (tm_A Hb) := by
  refine tm_begin (by decide) (Nat.le_of_ble_eq_true rfl) (fun p e s m below meth c ls hx hb hr hml hown htw hlk hnm hK hW hl => ?_)
  have hS : va_S (tm_A Hb) s.heap s.heap [] := va_S.rf
  have hl : lv_has ls 5 [(0, .ref o), (1, ji 4)] := hl
  have hN := h.2.2
  have b0 := h.1.1
  have t2 := h.1.2.1.2.1
  have u2 := h.1.2.2.2.1
  have h9 := hv.2.2
  obtain ⟨⟨q1, q2⟩, ⟨q3, q4⟩, q5⟩ := id hv
  obtain ⟨⟨y1, y2⟩, y3, y4⟩ := id hg
  have tail : ∀ (may : Int) (Z : tm_M) (H : Heap) (locs : List Loc) (ls : Array Slot), ((may = 0 ∧ tl_poss 4 v = 0 ∧ fq (mP o) M Z) ∨ (may = 1 ∧ ¬ tl_poss 4 v = 0 ∧ mo1 sh M Z o N v 43 (tl_slipv 4 v) (lfit (tl_slipv 4 v)))) → tm_W G Hb sh Z H → va_S (tm_A Hb) s.heap H locs → lv_has ls 5 [(0, .ref o), (3, ji may)] → W p l e ({ frames := 5, cells := 0, slots := 0, locals := 130 }) s m [.ref o, ji 4].toArray below meth c H locs 0 0 (MQ below (tm_Qi G Hb sh (fun r M1 => r = tl_b (¬ tl_poss 4 v = 0 ∧ tl_slipv 4 v = rl M o 41) ∧ fq (mP o) M M1)) [.ref o, ji 4].toArray s 0 0 (tm_A Hb)) (F0 m 257 ls []) := by
    intro may Z H locs ls hm hW hS hl
    have hm01 : inI may := by rcases hm with q | q <;> omega
    refine lv_iload_n hx hb dX9_slips_257 rfl (lv_at hl 1 rfl) ?_
    refine ti_if_eq (tgt := 283) hx hb dX9_slips_258 (by decide) hm01 (fun h258 => ?_) (fun h258 => ?_)
    · refine ti_iconst hx hb dX9_slips_283 ?_
      exact tm_zret hx hb hr hlk (by first | exact Or.inl rfl | exact Or.inr rfl | assumption) hK hW hS ⟨by first | exact tl_b_t ⟨m2, tl_b_n.mp h276⟩ | exact tl_b_f (fun q => tl_b_0.mp h276 q.2) | exact tl_b_f (fun q => absurd (q3.2.2.2.2.1.mpr (by rw [q.2]; exact lfit_ok hw)) (by omega)) | exact tl_b_f (fun q => q.1 (tl_or1 hm h258).1), by first | exact q3.2.2.2.2.2 | exact (tl_or1 hm h258).2⟩ dX9_slips_284
    · obtain ⟨m1, m2, q3⟩ := tl_or2 hm h258
      refine lv_aload_n hx hb dX9_slips_261 rfl (lv_at hl 0 rfl) ?_
      refine gf_X9_162 hx hb htw hown hK hW (by assumption) dX9_slips_262 ?_
      refine ti_if_eq (tgt := 283) hx hb dX9_slips_265 (by decide) (by have := q3.2.2.2.1; omega) (fun h265 => ?_) (fun h265 => ?_)
      · refine ti_iconst hx hb dX9_slips_283 ?_
        exact tm_zret hx hb hr hlk (by first | exact Or.inl rfl | exact Or.inr rfl | assumption) hK hW hS ⟨by first | exact tl_b_t ⟨m2, tl_b_n.mp h276⟩ | exact tl_b_f (fun q => tl_b_0.mp h276 q.2) | exact tl_b_f (fun q => absurd (q3.2.2.2.2.1.mpr (by rw [q.2]; exact lfit_ok hw)) (by omega)) | exact tl_b_f (fun q => q.1 (tl_or1 hm h258).1), by first | exact q3.2.2.2.2.2 | exact (tl_or1 hm h258).2⟩ dX9_slips_284
      · have w41 : rl Z o 41 = rl M o 41 := fq_rl q3.2.2.2.2.2 (fun k hk => by unfold mP; omega)
        refine lv_aload_n hx hb dX9_slips_268 rfl (lv_at hl 0 rfl) ?_
        refine ti_bipush hx hb dX9_slips_269 (by decide) ?_
        refine ti_bipush hx hb dX9_slips_271 (by decide) ?_
        refine tm_calli (cs_X9_196 hx hb hml hown htw hK hW (by assumption) (c_X9_isSame (i := 43) (j := 41) q3.1.1 (by decide) (by decide) (rl_L (by rw [q3.2.2.1]; exact lLok_slip hv m2) (by rw [q3.2.2.1, tl_slr]; omega)) (rl_L (by rw [w41]; exact lLok_of hw) (by rw [w41]; have := hw.2.2; omega))) ⟨rfl, rfl, Nat.le_of_ble_eq_true rfl, Nat.le_of_ble_eq_true rfl⟩ hl.1 (Nat.le_of_ble_eq_true rfl) dX9_slips_273 ⟨Nat.le_of_ble_eq_true rfl, Nat.le_of_ble_eq_true rfl⟩) hS (fun x273 M273 H locs hp273 hW hS => ?_)
        obtain ⟨ex273, eM273⟩ := hp273
        rw [eM273] at hW
        rw [ex273, q3.2.2.1, w41]
        refine ti_if_eq (tgt := 283) hx hb dX9_slips_276 (by decide) (tl_b_r _) (fun h276 => ?_) (fun h276 => ?_)
        · refine ti_iconst hx hb dX9_slips_283 ?_
          exact tm_zret hx hb hr hlk (by first | exact Or.inl rfl | exact Or.inr rfl | assumption) hK hW hS ⟨by first | exact tl_b_t ⟨m2, tl_b_n.mp h276⟩ | exact tl_b_f (fun q => tl_b_0.mp h276 q.2) | exact tl_b_f (fun q => absurd (q3.2.2.2.2.1.mpr (by rw [q.2]; exact lfit_ok hw)) (by omega)) | exact tl_b_f (fun q => q.1 (tl_or1 hm h258).1), by first | exact q3.2.2.2.2.2 | exact (tl_or1 hm h258).2⟩ dX9_slips_284
        · refine ti_iconst hx hb dX9_slips_279 ?_
          refine lv_goto (tgt := 284) hx hb dX9_slips_280 (by decide) ?_
          exact tm_zret hx hb hr hlk (by first | exact Or.inl rfl | exact Or.inr rfl | assumption) hK hW hS ⟨by first | exact tl_b_t ⟨m2, tl_b_n.mp h276⟩ | exact tl_b_f (fun q => tl_b_0.mp h276 q.2) | exact tl_b_f (fun q => absurd (q3.2.2.2.2.1.mpr (by rw [q.2]; exact lfit_ok hw)) (by omega)) | exact tl_b_f (fun q => q.1 (tl_or1 hm h258).1), by first | exact q3.2.2.2.2.2 | exact (tl_or1 hm h258).2⟩ dX9_slips_284
  have rest39 : ∀ (sc : Int) (A : tm_M) (H : Heap) (locs : List Loc) (ls : Array Slot), (sc = 0 ∨ sc = 1) → (sc = 1 ↔ (¬ v.1.1.1 = 0 ∧ ¬ v.1.1 = (1, 1))) → mo1 sh M A o N v 43 v True → tm_W G Hb sh A H → va_S (tm_A Hb) s.heap H locs → lv_has ls 5 [(0, .ref o), (1, ji 4), (2, ji sc)] → W p l e ({ frames := 5, cells := 0, slots := 0, locals := 130 }) s m [.ref o, ji 4].toArray below meth c H locs 0 0 (MQ below (tm_Qi G Hb sh (fun r M1 => r = tl_b (¬ tl_poss 4 v = 0 ∧ tl_slipv 4 v = rl M o 41) ∧ fq (mP o) M M1)) [.ref o, ji 4].toArray s 0 0 (tm_A Hb)) (F0 m 39 ls []) := by
    intro sc A H locs ls h01 hsc g hW hS hl
    obtain ⟨a0, a1, a2, a3, a4⟩ := rl_at g.2.1
    have t2a := g.1.1.2.1.2.1
    refine ti_iconst hx hb dX9_slips_39 ?_
    refine lv_istore_n (lv' := [(3, _), (0, _), (1, _), (2, _)]) hx hb dX9_slips_40 rfl hl (by decide) rfl (fun ls hl => ?_)
    refine lv_iload_n hx hb dX9_slips_41 rfl (lv_at hl 2 rfl) ?_
    refine ti_iconst hx hb dX9_slips_42 ?_
    refine ti_icmp_ne (tgt := 84) hx hb dX9_slips_43 (by decide) (by decide) (by decide) (fun h43 => ?_) (fun h43 => ?_)
    · refine lv_iload_n hx hb dX9_slips_84 rfl (lv_at hl 2 rfl) ?_
      refine ti_iconst hx hb dX9_slips_85 ?_
      refine ti_icmp_ne (tgt := 127) hx hb dX9_slips_86 (by decide) (by decide) (by decide) (fun h86 => ?_) (fun h86 => ?_)
      · refine lv_iload_n hx hb dX9_slips_127 rfl (lv_at hl 2 rfl) ?_
        refine ti_iconst hx hb dX9_slips_128 ?_
        refine ti_icmp_ne (tgt := 197) hx hb dX9_slips_129 (by decide) (by decide) (by decide) (fun h129 => ?_) (fun h129 => ?_)
        · refine lv_iload_n hx hb dX9_slips_197 rfl (lv_at hl 3 rfl) ?_
          refine ti_if_eq (tgt := 246) hx hb dX9_slips_198 (by decide) (by omega) (fun h198 => ?_) (fun h198 => ?_)
          · refine ti_iconst hx hb dX9_slips_246 ?_
            refine lv_istore_n (lv' := [(3, _), (0, _), (1, _), (2, _)]) hx hb dX9_slips_247 rfl hl (by decide) rfl (fun ls hl => ?_)
            refine lv_iload_n hx hb dX9_slips_248 rfl (lv_at hl 0 rfl) ?_
            refine ti_if_eq (tgt := 257) hx hb dX9_slips_249 (by decide) (by decide) (fun h249 => ?_) (fun h249 => ?_)
            · first
              | exact tail 1 M254 _ _ _ (Or.inr ⟨rfl, by rw [pss4]; exact tl_b_n.mpr ⟨hsc.mp (by omega), h212⟩, hp254⟩) hW hS (lv_sub hl [1, 0] rfl)
              | exact tail 0 A _ _ _ (Or.inl ⟨rfl, by rw [pss4]; exact tl_b_0.mpr (fun q => absurd (hsc.mpr q.1) (by omega)), g.2.2.2.2.2⟩) hW hS (lv_sub hl [1, 0] rfl)
              | exact tail 0 A _ _ _ (Or.inl ⟨rfl, by rw [pss4]; exact tl_b_0.mpr (fun q => q.2 h212), g.2.2.2.2.2⟩) hW hS (lv_sub hl [1, 0] rfl)
              | exact absurd h249 (by decide)
            · refine lv_aload_n hx hb dX9_slips_252 rfl (lv_at hl 1 rfl) ?_
              refine lv_iload_n hx hb dX9_slips_253 rfl (lv_at hl 2 rfl) ?_
              refine tm_callv (cs_X9_193 hx hb hml hown htw hK hW (by assumption) (c_X9_scaled4 g hv (hsc.mp (by omega)).1) ⟨rfl, rfl, Nat.le_of_ble_eq_true rfl, Nat.le_of_ble_eq_true rfl⟩ hl.1 (Nat.le_of_ble_eq_true rfl) dX9_slips_254 ⟨Nat.le_of_ble_eq_true rfl, Nat.le_of_ble_eq_true rfl⟩) hS (fun M254 H locs hp254 hW hS => ?_)
              first
              | exact tail 1 M254 _ _ _ (Or.inr ⟨rfl, by rw [pss4]; exact tl_b_n.mpr ⟨hsc.mp (by omega), h212⟩, hp254⟩) hW hS (lv_sub hl [1, 0] rfl)
              | exact tail 0 A _ _ _ (Or.inl ⟨rfl, by rw [pss4]; exact tl_b_0.mpr (fun q => absurd (hsc.mpr q.1) (by omega)), g.2.2.2.2.2⟩) hW hS (lv_sub hl [1, 0] rfl)
              | exact tail 0 A _ _ _ (Or.inl ⟨rfl, by rw [pss4]; exact tl_b_0.mpr (fun q => q.2 h212), g.2.2.2.2.2⟩) hW hS (lv_sub hl [1, 0] rfl)
              | exact absurd h249 (by decide)
          · refine lv_iload_n hx hb dX9_slips_201 rfl (lv_at hl 2 rfl) ?_
            refine ti_iconst hx hb dX9_slips_202 ?_
            refine ti_icmp_ne (tgt := 216) hx hb dX9_slips_203 (by decide) (by decide) (by decide) (fun h203 => ?_) (fun h203 => ?_)
            · exact absurd h203 (by decide)
            · refine lv_aload_n hx hb dX9_slips_206 rfl (lv_at hl 1 rfl) ?_
              refine ti_iconst hx hb dX9_slips_207 ?_
              refine tm_calll (cs_X9_169 hx hb hml hown htw hK hW (by assumption) (c_X9_above (n := 1) g.1 (by decide)) ⟨rfl, rfl, Nat.le_of_ble_eq_true rfl, Nat.le_of_ble_eq_true rfl⟩ hl.1 (Nat.le_of_ble_eq_true rfl) dX9_slips_208 ⟨Nat.le_of_ble_eq_true rfl, Nat.le_of_ble_eq_true rfl⟩) hS (fun x208 M208 H locs hp208 hW hS => ?_)
              obtain ⟨ex208, eM208⟩ := hp208
              rw [eM208] at hW
              rw [ex208, a1]
              refine ti_lconst0 hx hb dX9_slips_211 ?_
              refine ti_lcmp_eq (tgt := 246) hx hb dX9_slips_212 dX9_slips_213 (by decide) (by unfold fok at q2; omega) (by decide) (fun h212 => ?_) (fun h212 => ?_)
              · refine ti_iconst hx hb dX9_slips_246 ?_
                refine lv_istore_n (lv' := [(3, _), (0, _), (1, _), (2, _)]) hx hb dX9_slips_247 rfl hl (by decide) rfl (fun ls hl => ?_)
                refine lv_iload_n hx hb dX9_slips_248 rfl (lv_at hl 0 rfl) ?_
                refine ti_if_eq (tgt := 257) hx hb dX9_slips_249 (by decide) (by decide) (fun h249 => ?_) (fun h249 => ?_)
                · first
                  | exact tail 1 M254 _ _ _ (Or.inr ⟨rfl, by rw [pss4]; exact tl_b_n.mpr ⟨hsc.mp (by omega), h212⟩, hp254⟩) hW hS (lv_sub hl [1, 0] rfl)
                  | exact tail 0 A _ _ _ (Or.inl ⟨rfl, by rw [pss4]; exact tl_b_0.mpr (fun q => absurd (hsc.mpr q.1) (by omega)), g.2.2.2.2.2⟩) hW hS (lv_sub hl [1, 0] rfl)
                  | exact tail 0 A _ _ _ (Or.inl ⟨rfl, by rw [pss4]; exact tl_b_0.mpr (fun q => q.2 h212), g.2.2.2.2.2⟩) hW hS (lv_sub hl [1, 0] rfl)
                  | exact absurd h249 (by decide)
                · refine lv_aload_n hx hb dX9_slips_252 rfl (lv_at hl 1 rfl) ?_
                  refine lv_iload_n hx hb dX9_slips_253 rfl (lv_at hl 2 rfl) ?_
                  refine tm_callv (cs_X9_193 hx hb hml hown htw hK hW (by assumption) (c_X9_scaled4 g hv (hsc.mp (by omega)).1) ⟨rfl, rfl, Nat.le_of_ble_eq_true rfl, Nat.le_of_ble_eq_true rfl⟩ hl.1 (Nat.le_of_ble_eq_true rfl) dX9_slips_254 ⟨Nat.le_of_ble_eq_true rfl, Nat.le_of_ble_eq_true rfl⟩) hS (fun M254 H locs hp254 hW hS => ?_)
                  first
                  | exact tail 1 M254 _ _ _ (Or.inr ⟨rfl, by rw [pss4]; exact tl_b_n.mpr ⟨hsc.mp (by omega), h212⟩, hp254⟩) hW hS (lv_sub hl [1, 0] rfl)
                  | exact tail 0 A _ _ _ (Or.inl ⟨rfl, by rw [pss4]; exact tl_b_0.mpr (fun q => absurd (hsc.mpr q.1) (by omega)), g.2.2.2.2.2⟩) hW hS (lv_sub hl [1, 0] rfl)
                  | exact tail 0 A _ _ _ (Or.inl ⟨rfl, by rw [pss4]; exact tl_b_0.mpr (fun q => q.2 h212), g.2.2.2.2.2⟩) hW hS (lv_sub hl [1, 0] rfl)
                  | exact absurd h249 (by decide)
              · refine lv_iload_n hx hb dX9_slips_216 rfl (lv_at hl 2 rfl) ?_
                refine ti_bipush hx hb dX9_slips_217 (by decide) ?_
                refine ti_icmp_ne (tgt := 242) hx hb dX9_slips_219 (by decide) (by decide) (by decide) (fun h219 => ?_) (fun h219 => ?_)
                · refine ti_iconst hx hb dX9_slips_242 ?_
                  refine lv_goto (tgt := 247) hx hb dX9_slips_243 (by decide) ?_
                  refine lv_istore_n (lv' := [(3, _), (0, _), (1, _), (2, _)]) hx hb dX9_slips_247 rfl hl (by decide) rfl (fun ls hl => ?_)
                  refine lv_iload_n hx hb dX9_slips_248 rfl (lv_at hl 0 rfl) ?_
                  refine ti_if_eq (tgt := 257) hx hb dX9_slips_249 (by decide) (by decide) (fun h249 => ?_) (fun h249 => ?_)
                  · first
                    | exact tail 1 M254 _ _ _ (Or.inr ⟨rfl, by rw [pss4]; exact tl_b_n.mpr ⟨hsc.mp (by omega), h212⟩, hp254⟩) hW hS (lv_sub hl [1, 0] rfl)
                    | exact tail 0 A _ _ _ (Or.inl ⟨rfl, by rw [pss4]; exact tl_b_0.mpr (fun q => absurd (hsc.mpr q.1) (by omega)), g.2.2.2.2.2⟩) hW hS (lv_sub hl [1, 0] rfl)
                    | exact tail 0 A _ _ _ (Or.inl ⟨rfl, by rw [pss4]; exact tl_b_0.mpr (fun q => q.2 h212), g.2.2.2.2.2⟩) hW hS (lv_sub hl [1, 0] rfl)
                    | exact absurd h249 (by decide)
                  · refine lv_aload_n hx hb dX9_slips_252 rfl (lv_at hl 1 rfl) ?_
                    refine lv_iload_n hx hb dX9_slips_253 rfl (lv_at hl 2 rfl) ?_
                    refine tm_callv (cs_X9_193 hx hb hml hown htw hK hW (by assumption) (c_X9_scaled4 g hv (hsc.mp (by omega)).1) ⟨rfl, rfl, Nat.le_of_ble_eq_true rfl, Nat.le_of_ble_eq_true rfl⟩ hl.1 (Nat.le_of_ble_eq_true rfl) dX9_slips_254 ⟨Nat.le_of_ble_eq_true rfl, Nat.le_of_ble_eq_true rfl⟩) hS (fun M254 H locs hp254 hW hS => ?_)
                    first
                    | exact tail 1 M254 _ _ _ (Or.inr ⟨rfl, by rw [pss4]; exact tl_b_n.mpr ⟨hsc.mp (by omega), h212⟩, hp254⟩) hW hS (lv_sub hl [1, 0] rfl)
                    | exact tail 0 A _ _ _ (Or.inl ⟨rfl, by rw [pss4]; exact tl_b_0.mpr (fun q => absurd (hsc.mpr q.1) (by omega)), g.2.2.2.2.2⟩) hW hS (lv_sub hl [1, 0] rfl)
                    | exact tail 0 A _ _ _ (Or.inl ⟨rfl, by rw [pss4]; exact tl_b_0.mpr (fun q => q.2 h212), g.2.2.2.2.2⟩) hW hS (lv_sub hl [1, 0] rfl)
                    | exact absurd h249 (by decide)
                · exact absurd h219 (by decide)
        · exact absurd h129 (by decide)
      · exact absurd h86 (by decide)
    · exact absurd h43 (by decide)
  refine lv_aload_n hx hb dX9_slips_0 rfl (lv_at hl 0 rfl) ?_
  refine lv_aload_n hx hb dX9_slips_1 rfl (lv_at hl 0 rfl) ?_
  refine tm_calli (cs_X9_166 hx hb hml hown htw hK hW (by assumption) (c_X9_last h) ⟨rfl, rfl, Nat.le_of_ble_eq_true rfl, Nat.le_of_ble_eq_true rfl⟩ hl.1 (Nat.le_of_ble_eq_true rfl) dX9_slips_2 ⟨Nat.le_of_ble_eq_true rfl, Nat.le_of_ble_eq_true rfl⟩) hS (fun x2 M2 H locs hp2 hW hS => ?_)
  obtain ⟨ex2, eM2⟩ := hp2
  rw [eM2] at hW
  rw [ex2]
  refine ti_bipush hx hb dX9_slips_5 (by decide) ?_
  refine tm_callv (cs_X9_180 hx hb hml hown htw hK hW (by assumption) (c_X9_copyLine (i := N - 1) (j := 43) h.1 (by omega) (by decide) (by omega)) ⟨rfl, rfl, Nat.le_of_ble_eq_true rfl, Nat.le_of_ble_eq_true rfl⟩ hl.1 (Nat.le_of_ble_eq_true rfl) dX9_slips_7 ⟨Nat.le_of_ble_eq_true rfl, Nat.le_of_ble_eq_true rfl⟩) hS (fun M7 H locs hp7 hW hS => ?_)
  obtain ⟨e7, f7⟩ := hp7
  refine lv_aload_n hx hb dX9_slips_10 rfl (lv_at hl 0 rfl) ?_
  refine ti_iconst hx hb dX9_slips_11 ?_
  refine pf_X9_162 hx hb htw hown hK hW (by assumption) hS (Or.inr rfl) dX9_slips_12 (fun H locs hW hS => ?_)
  have g := mo1_0 (i := 43) h (by decide) hr0 e7 f7
  generalize sI M7 o 28 1 = A at hW g
  obtain ⟨a0, a1, a2, a3, a4⟩ := rl_at g.2.1
  refine lv_aload_n hx hb dX9_slips_15 rfl (lv_at hl 0 rfl) ?_
  refine ti_iconst hx hb dX9_slips_16 ?_
  refine tm_calll (cs_X9_169 hx hb hml hown htw hK hW (by assumption) (c_X9_above (n := 0) g.1 (by decide)) ⟨rfl, rfl, Nat.le_of_ble_eq_true rfl, Nat.le_of_ble_eq_true rfl⟩ hl.1 (Nat.le_of_ble_eq_true rfl) dX9_slips_17 ⟨Nat.le_of_ble_eq_true rfl, Nat.le_of_ble_eq_true rfl⟩) hS (fun x17 M17 H locs hp17 hW hS => ?_)
  obtain ⟨ex17, eM17⟩ := hp17
  rw [eM17] at hW
  rw [ex17, a0]
  refine ti_lconst0 hx hb dX9_slips_20 ?_
  refine ti_lcmp_eq (tgt := 37) hx hb dX9_slips_21 dX9_slips_22 (by decide) (by unfold fok at q1; omega) (by decide) (fun h21 => ?_) (fun h21 => ?_)
  · refine ti_iconst hx hb dX9_slips_37 ?_
    refine lv_istore_n (lv' := [(2, _), (0, _), (1, _)]) hx hb dX9_slips_38 rfl hl (by decide) rfl (fun ls hl => ?_)
    first
    | exact rest39 1 A _ _ _ (Or.inr rfl) ⟨fun _ => ⟨h21, tl_b_0.mp h30⟩, fun _ => rfl⟩ g hW hS (lv_sub hl [1, 2, 0] rfl)
    | exact rest39 0 A _ _ _ (Or.inl rfl) ⟨fun q => absurd q (by decide), fun q => absurd (tl_b_n.mp h30) q.2⟩ g hW hS (lv_sub hl [1, 2, 0] rfl)
    | exact rest39 0 A _ _ _ (Or.inl rfl) ⟨fun q => absurd q (by decide), fun q => absurd h21 q.1⟩ g hW hS (lv_sub hl [1, 2, 0] rfl)
  · refine lv_aload_n hx hb dX9_slips_25 rfl (lv_at hl 0 rfl) ?_
    refine ti_iconst hx hb dX9_slips_26 ?_
    refine tm_calli (cs_X9_188 hx hb hml hown htw hK hW (by assumption) (c_X9_isOne (n := 0) g.1 (by decide) (by rw [a0]; exact fLok_of q1)) ⟨rfl, rfl, Nat.le_of_ble_eq_true rfl, Nat.le_of_ble_eq_true rfl⟩ hl.1 (Nat.le_of_ble_eq_true rfl) dX9_slips_27 ⟨Nat.le_of_ble_eq_true rfl, Nat.le_of_ble_eq_true rfl⟩) hS (fun x27 M27 H locs hp27 hW hS => ?_)
    obtain ⟨ex27, eM27⟩ := hp27
    rw [eM27] at hW
    rw [ex27, a0]
    refine ti_if_ne (tgt := 37) hx hb dX9_slips_30 (by decide) (tl_b_r _) (fun h30 => ?_) (fun h30 => ?_)
    · refine ti_iconst hx hb dX9_slips_37 ?_
      refine lv_istore_n (lv' := [(2, _), (0, _), (1, _)]) hx hb dX9_slips_38 rfl hl (by decide) rfl (fun ls hl => ?_)
      first
      | exact rest39 1 A _ _ _ (Or.inr rfl) ⟨fun _ => ⟨h21, tl_b_0.mp h30⟩, fun _ => rfl⟩ g hW hS (lv_sub hl [1, 2, 0] rfl)
      | exact rest39 0 A _ _ _ (Or.inl rfl) ⟨fun q => absurd q (by decide), fun q => absurd (tl_b_n.mp h30) q.2⟩ g hW hS (lv_sub hl [1, 2, 0] rfl)
      | exact rest39 0 A _ _ _ (Or.inl rfl) ⟨fun q => absurd q (by decide), fun q => absurd h21 q.1⟩ g hW hS (lv_sub hl [1, 2, 0] rfl)
    · refine ti_iconst hx hb dX9_slips_33 ?_
      refine lv_goto (tgt := 38) hx hb dX9_slips_34 (by decide) ?_
      refine lv_istore_n (lv' := [(2, _), (0, _), (1, _)]) hx hb dX9_slips_38 rfl hl (by decide) rfl (fun ls hl => ?_)
      first
      | exact rest39 1 A _ _ _ (Or.inr rfl) ⟨fun _ => ⟨h21, tl_b_0.mp h30⟩, fun _ => rfl⟩ g hW hS (lv_sub hl [1, 2, 0] rfl)
      | exact rest39 0 A _ _ _ (Or.inl rfl) ⟨fun q => absurd q (by decide), fun q => absurd (tl_b_n.mp h30) q.2⟩ g hW hS (lv_sub hl [1, 2, 0] rfl)
      | exact rest39 0 A _ _ _ (Or.inl rfl) ⟨fun q => absurd q (by decide), fun q => absurd h21 q.1⟩ g hW hS (lv_sub hl [1, 2, 0] rfl)
set_option maxHeartbeats 4000000 in
set_option maxRecDepth 100000 in
/-- TutorLinesModel.slips 5 -/
theorem c_X9_slips5 {l : Launch} {G : tm_G} {Hb : Heap} {sh : tm_sh} {M : tm_M} {o N : Nat} {v : tl_L} (h : moN sh M o N) (hr0 : rl M o (N - 1) = v) (hv : lok v) (hg : lg v) (hw : lok (rl M o 41)) : Met l yX9_slips (tws yX9_slips cX9_slips 5 (some .boolean)) ({ frames := 5, cells := 0, slots := 0, locals := 130 }) (va_Pc [.ref o, ji 5] (tm_St G Hb sh M)) (tm_Qi G Hb sh (fun r M1 => r = tl_b (¬ tl_poss 5 v = 0 ∧ tl_slipv 5 v = rl M o 41) ∧ fq (mP o) M M1)) 0 0 (tm_A Hb) := by
  refine tm_begin (by decide) (Nat.le_of_ble_eq_true rfl) (fun p e s m below meth c ls hx hb hr hml hown htw hlk hnm hK hW hl => ?_)
  have hS : va_S (tm_A Hb) s.heap s.heap [] := va_S.rf
  have hl : lv_has ls 5 [(0, .ref o), (1, ji 5)] := hl
  have hN := h.2.2
  have b0 := h.1.1
  have t2 := h.1.2.1.2.1
  have u2 := h.1.2.2.2.1
  have h9 := hv.2.2
  obtain ⟨⟨q1, q2⟩, ⟨q3, q4⟩, q5⟩ := id hv
  obtain ⟨⟨y1, y2⟩, y3, y4⟩ := id hg
  have tail : ∀ (may : Int) (Z : tm_M) (H : Heap) (locs : List Loc) (ls : Array Slot), ((may = 0 ∧ tl_poss 5 v = 0 ∧ fq (mP o) M Z) ∨ (may = 1 ∧ ¬ tl_poss 5 v = 0 ∧ mo1 sh M Z o N v 43 (tl_slipv 5 v) (lfit (tl_slipv 5 v)))) → tm_W G Hb sh Z H → va_S (tm_A Hb) s.heap H locs → lv_has ls 5 [(0, .ref o), (3, ji may)] → W p l e ({ frames := 5, cells := 0, slots := 0, locals := 130 }) s m [.ref o, ji 5].toArray below meth c H locs 0 0 (MQ below (tm_Qi G Hb sh (fun r M1 => r = tl_b (¬ tl_poss 5 v = 0 ∧ tl_slipv 5 v = rl M o 41) ∧ fq (mP o) M M1)) [.ref o, ji 5].toArray s 0 0 (tm_A Hb)) (F0 m 257 ls []) := by
    intro may Z H locs ls hm hW hS hl
    have hm01 : inI may := by rcases hm with q | q <;> omega
    refine lv_iload_n hx hb dX9_slips_257 rfl (lv_at hl 1 rfl) ?_
    refine ti_if_eq (tgt := 283) hx hb dX9_slips_258 (by decide) hm01 (fun h258 => ?_) (fun h258 => ?_)
    · refine ti_iconst hx hb dX9_slips_283 ?_
      exact tm_zret hx hb hr hlk (by first | exact Or.inl rfl | exact Or.inr rfl | assumption) hK hW hS ⟨by first | exact tl_b_t ⟨m2, tl_b_n.mp h276⟩ | exact tl_b_f (fun q => tl_b_0.mp h276 q.2) | exact tl_b_f (fun q => absurd (q3.2.2.2.2.1.mpr (by rw [q.2]; exact lfit_ok hw)) (by omega)) | exact tl_b_f (fun q => q.1 (tl_or1 hm h258).1), by first | exact q3.2.2.2.2.2 | exact (tl_or1 hm h258).2⟩ dX9_slips_284
    · obtain ⟨m1, m2, q3⟩ := tl_or2 hm h258
      refine lv_aload_n hx hb dX9_slips_261 rfl (lv_at hl 0 rfl) ?_
      refine gf_X9_162 hx hb htw hown hK hW (by assumption) dX9_slips_262 ?_
      refine ti_if_eq (tgt := 283) hx hb dX9_slips_265 (by decide) (by have := q3.2.2.2.1; omega) (fun h265 => ?_) (fun h265 => ?_)
      · refine ti_iconst hx hb dX9_slips_283 ?_
        exact tm_zret hx hb hr hlk (by first | exact Or.inl rfl | exact Or.inr rfl | assumption) hK hW hS ⟨by first | exact tl_b_t ⟨m2, tl_b_n.mp h276⟩ | exact tl_b_f (fun q => tl_b_0.mp h276 q.2) | exact tl_b_f (fun q => absurd (q3.2.2.2.2.1.mpr (by rw [q.2]; exact lfit_ok hw)) (by omega)) | exact tl_b_f (fun q => q.1 (tl_or1 hm h258).1), by first | exact q3.2.2.2.2.2 | exact (tl_or1 hm h258).2⟩ dX9_slips_284
      · have w41 : rl Z o 41 = rl M o 41 := fq_rl q3.2.2.2.2.2 (fun k hk => by unfold mP; omega)
        refine lv_aload_n hx hb dX9_slips_268 rfl (lv_at hl 0 rfl) ?_
        refine ti_bipush hx hb dX9_slips_269 (by decide) ?_
        refine ti_bipush hx hb dX9_slips_271 (by decide) ?_
        refine tm_calli (cs_X9_196 hx hb hml hown htw hK hW (by assumption) (c_X9_isSame (i := 43) (j := 41) q3.1.1 (by decide) (by decide) (rl_L (by rw [q3.2.2.1]; exact lLok_slip hv m2) (by rw [q3.2.2.1, tl_slr]; omega)) (rl_L (by rw [w41]; exact lLok_of hw) (by rw [w41]; have := hw.2.2; omega))) ⟨rfl, rfl, Nat.le_of_ble_eq_true rfl, Nat.le_of_ble_eq_true rfl⟩ hl.1 (Nat.le_of_ble_eq_true rfl) dX9_slips_273 ⟨Nat.le_of_ble_eq_true rfl, Nat.le_of_ble_eq_true rfl⟩) hS (fun x273 M273 H locs hp273 hW hS => ?_)
        obtain ⟨ex273, eM273⟩ := hp273
        rw [eM273] at hW
        rw [ex273, q3.2.2.1, w41]
        refine ti_if_eq (tgt := 283) hx hb dX9_slips_276 (by decide) (tl_b_r _) (fun h276 => ?_) (fun h276 => ?_)
        · refine ti_iconst hx hb dX9_slips_283 ?_
          exact tm_zret hx hb hr hlk (by first | exact Or.inl rfl | exact Or.inr rfl | assumption) hK hW hS ⟨by first | exact tl_b_t ⟨m2, tl_b_n.mp h276⟩ | exact tl_b_f (fun q => tl_b_0.mp h276 q.2) | exact tl_b_f (fun q => absurd (q3.2.2.2.2.1.mpr (by rw [q.2]; exact lfit_ok hw)) (by omega)) | exact tl_b_f (fun q => q.1 (tl_or1 hm h258).1), by first | exact q3.2.2.2.2.2 | exact (tl_or1 hm h258).2⟩ dX9_slips_284
        · refine ti_iconst hx hb dX9_slips_279 ?_
          refine lv_goto (tgt := 284) hx hb dX9_slips_280 (by decide) ?_
          exact tm_zret hx hb hr hlk (by first | exact Or.inl rfl | exact Or.inr rfl | assumption) hK hW hS ⟨by first | exact tl_b_t ⟨m2, tl_b_n.mp h276⟩ | exact tl_b_f (fun q => tl_b_0.mp h276 q.2) | exact tl_b_f (fun q => absurd (q3.2.2.2.2.1.mpr (by rw [q.2]; exact lfit_ok hw)) (by omega)) | exact tl_b_f (fun q => q.1 (tl_or1 hm h258).1), by first | exact q3.2.2.2.2.2 | exact (tl_or1 hm h258).2⟩ dX9_slips_284
  have rest39 : ∀ (sc : Int) (A : tm_M) (H : Heap) (locs : List Loc) (ls : Array Slot), (sc = 0 ∨ sc = 1) → (sc = 1 ↔ (¬ v.1.1.1 = 0 ∧ ¬ v.1.1 = (1, 1))) → mo1 sh M A o N v 43 v True → tm_W G Hb sh A H → va_S (tm_A Hb) s.heap H locs → lv_has ls 5 [(0, .ref o), (1, ji 5), (2, ji sc)] → W p l e ({ frames := 5, cells := 0, slots := 0, locals := 130 }) s m [.ref o, ji 5].toArray below meth c H locs 0 0 (MQ below (tm_Qi G Hb sh (fun r M1 => r = tl_b (¬ tl_poss 5 v = 0 ∧ tl_slipv 5 v = rl M o 41) ∧ fq (mP o) M M1)) [.ref o, ji 5].toArray s 0 0 (tm_A Hb)) (F0 m 39 ls []) := by
    intro sc A H locs ls h01 hsc g hW hS hl
    obtain ⟨a0, a1, a2, a3, a4⟩ := rl_at g.2.1
    have t2a := g.1.1.2.1.2.1
    refine ti_iconst hx hb dX9_slips_39 ?_
    refine lv_istore_n (lv' := [(3, _), (0, _), (1, _), (2, _)]) hx hb dX9_slips_40 rfl hl (by decide) rfl (fun ls hl => ?_)
    refine lv_iload_n hx hb dX9_slips_41 rfl (lv_at hl 2 rfl) ?_
    refine ti_iconst hx hb dX9_slips_42 ?_
    refine ti_icmp_ne (tgt := 84) hx hb dX9_slips_43 (by decide) (by decide) (by decide) (fun h43 => ?_) (fun h43 => ?_)
    · refine lv_iload_n hx hb dX9_slips_84 rfl (lv_at hl 2 rfl) ?_
      refine ti_iconst hx hb dX9_slips_85 ?_
      refine ti_icmp_ne (tgt := 127) hx hb dX9_slips_86 (by decide) (by decide) (by decide) (fun h86 => ?_) (fun h86 => ?_)
      · refine lv_iload_n hx hb dX9_slips_127 rfl (lv_at hl 2 rfl) ?_
        refine ti_iconst hx hb dX9_slips_128 ?_
        refine ti_icmp_ne (tgt := 197) hx hb dX9_slips_129 (by decide) (by decide) (by decide) (fun h129 => ?_) (fun h129 => ?_)
        · exact absurd h129 (by decide)
        · refine lv_aload_n hx hb dX9_slips_132 rfl (lv_at hl 1 rfl) ?_
          refine gf_X9_13 hx hb htw hown hK hW (by assumption) t2a dX9_slips_133 ?_
          refine ti_bipush hx hb dX9_slips_136 (by decide) ?_
          refine lv_aload_n hx hb dX9_slips_138 rfl (lv_at hl 1 rfl) ?_
          refine tm_calli (cs_X9_166 hx hb hml hown htw hK hW (by assumption) (c_X9_last g.1) ⟨rfl, rfl, Nat.le_of_ble_eq_true rfl, Nat.le_of_ble_eq_true rfl⟩ hl.1 (Nat.le_of_ble_eq_true rfl) dX9_slips_139 ⟨Nat.le_of_ble_eq_true rfl, Nat.le_of_ble_eq_true rfl⟩) hS (fun x139 M139 H locs hp139 hW hS => ?_)
          obtain ⟨ex139, eM139⟩ := hp139
          rw [eM139] at hW
          rw [ex139]
          refine ti_imul hx hb dX9_slips_142 ?_
          refine ti_bipush hx hb dX9_slips_143 (by decide) ?_
          refine ti_iadd hx hb dX9_slips_145 ?_
          refine tm_lald hx hb hK hW (by assumption) (by omega) (by omega) (by decide) dX9_slips_146 ?_
          rw [show (9 * ((N - 1 : Nat) : Int) + 8).toNat = 9 * (N - 1) + 8 by omega, a4]
          refine ti_lconst0 hx hb dX9_slips_147 ?_
          refine ti_lcmp_le (tgt := 156) hx hb dX9_slips_148 dX9_slips_149 (by decide) (by omega) (by decide) (fun h148 => ?_) (fun h148 => ?_)
          · refine ti_iconst hx hb dX9_slips_156 ?_
            refine lv_istore_n (lv' := [(3, _), (0, _), (1, _), (2, _)]) hx hb dX9_slips_157 rfl hl (by decide) rfl (fun ls hl => ?_)
            refine ti_iconst hx hb dX9_slips_158 ?_
            refine lv_istore (lv' := [(4, _), (3, _), (0, _), (1, _), (2, _)]) hx hb dX9_slips_159 hl (by decide) rfl (fun ls hl => ?_)
            refine lv_iload hx hb dX9_slips_161 (lv_at hl 0 rfl) ?_
            refine ti_iconst hx hb dX9_slips_163 ?_
            refine ti_icmp_ge (tgt := 194) hx hb dX9_slips_164 (by decide) (by decide) (by decide) (fun h164 => ?_) (fun h164 => ?_)
            · exact absurd h164 (by decide)
            · refine lv_aload_n hx hb dX9_slips_167 rfl (lv_at hl 2 rfl) ?_
              refine ti_bipush hx hb dX9_slips_168 (by decide) ?_
              refine lv_iload hx hb dX9_slips_170 (lv_at hl 0 rfl) ?_
              refine lv_aload_n hx hb dX9_slips_172 rfl (lv_at hl 2 rfl) ?_
              refine lv_iload hx hb dX9_slips_173 (lv_at hl 0 rfl) ?_
              refine tm_calll (cs_X9_169 hx hb hml hown htw hK hW (by assumption) (c_X9_above (n := 0) g.1 (by decide)) ⟨rfl, rfl, Nat.le_of_ble_eq_true rfl, Nat.le_of_ble_eq_true rfl⟩ hl.1 (Nat.le_of_ble_eq_true rfl) dX9_slips_175 ⟨Nat.le_of_ble_eq_true rfl, Nat.le_of_ble_eq_true rfl⟩) hS (fun x175 M175 H locs hp175 hW hS => ?_)
              obtain ⟨ex175, eM175⟩ := hp175
              rw [eM175] at hW
              rw [ex175, a0]
              refine ti_lneg hx hb dX9_slips_178 ?_
              refine lv_aload_n hx hb dX9_slips_179 rfl (lv_at hl 2 rfl) ?_
              refine lv_iload hx hb dX9_slips_180 (lv_at hl 0 rfl) ?_
              refine tm_calll (cs_X9_173 hx hb hml hown htw hK hW (by assumption) (c_X9_below (n := 0) g.1 (by decide)) ⟨rfl, rfl, Nat.le_of_ble_eq_true rfl, Nat.le_of_ble_eq_true rfl⟩ hl.1 (Nat.le_of_ble_eq_true rfl) dX9_slips_182 ⟨Nat.le_of_ble_eq_true rfl, Nat.le_of_ble_eq_true rfl⟩) hS (fun x182 M182 H locs hp182 hW hS => ?_)
              obtain ⟨ex182, eM182⟩ := hp182
              rw [eM182] at hW
              rw [ex182, a0]
              refine tm_callv (cs_X9_176 hx hb hml hown htw hK hW (by assumption) (c_X9_write (i := 43) (n := 0) g.1.1 (by decide) (by decide) (by have := (fok_ab q1).1; omega) (by have := (fok_ab q1).2.1; omega) (fok_ab q1).2.2 (by have := g.2.2.2.1; omega)) ⟨rfl, rfl, Nat.le_of_ble_eq_true rfl, Nat.le_of_ble_eq_true rfl⟩ hl.1 (Nat.le_of_ble_eq_true rfl) dX9_slips_185 ⟨Nat.le_of_ble_eq_true rfl, Nat.le_of_ble_eq_true rfl⟩) hS (fun M185 H locs hp185 hW hS => ?_)
              rw [norm_neg q1 y1] at hp185
              rw [hp185] at hW
              have g1 := mo1_wr (n := 0) (f := fneg v.1.1) g (by decide) (by decide)
              generalize hzB1 : wr A o 43 0 (fneg v.1.1) = B1 at hW g1
              obtain ⟨a0, a1, a2, a3, a4⟩ := rl_at g1.2.1
              refine ti_iinc (k := 0) (lv' := [(4, _), (3, _), (0, _), (1, _), (2, _)]) hx hb dX9_slips_188 hl rfl (by decide) rfl (fun ls hl => ?_)
              refine lv_goto (tgt := 161) hx hb dX9_slips_191 (by decide) ?_
              refine lv_iload hx hb dX9_slips_161 (lv_at hl 0 rfl) ?_
              refine ti_iconst hx hb dX9_slips_163 ?_
              refine ti_icmp_ge (tgt := 194) hx hb dX9_slips_164 (by decide) (by decide) (by decide) (fun h164 => ?_) (fun h164 => ?_)
              · exact absurd h164 (by decide)
              · refine lv_aload_n hx hb dX9_slips_167 rfl (lv_at hl 2 rfl) ?_
                refine ti_bipush hx hb dX9_slips_168 (by decide) ?_
                refine lv_iload hx hb dX9_slips_170 (lv_at hl 0 rfl) ?_
                refine lv_aload_n hx hb dX9_slips_172 rfl (lv_at hl 2 rfl) ?_
                refine lv_iload hx hb dX9_slips_173 (lv_at hl 0 rfl) ?_
                refine tm_calll (cs_X9_169 hx hb hml hown htw hK hW (by assumption) (c_X9_above (n := 1) g1.1 (by decide)) ⟨rfl, rfl, Nat.le_of_ble_eq_true rfl, Nat.le_of_ble_eq_true rfl⟩ hl.1 (Nat.le_of_ble_eq_true rfl) dX9_slips_175 ⟨Nat.le_of_ble_eq_true rfl, Nat.le_of_ble_eq_true rfl⟩) hS (fun x175 M175 H locs hp175 hW hS => ?_)
                obtain ⟨ex175, eM175⟩ := hp175
                rw [eM175] at hW
                rw [ex175, a1]
                refine ti_lneg hx hb dX9_slips_178 ?_
                refine lv_aload_n hx hb dX9_slips_179 rfl (lv_at hl 2 rfl) ?_
                refine lv_iload hx hb dX9_slips_180 (lv_at hl 0 rfl) ?_
                refine tm_calll (cs_X9_173 hx hb hml hown htw hK hW (by assumption) (c_X9_below (n := 1) g1.1 (by decide)) ⟨rfl, rfl, Nat.le_of_ble_eq_true rfl, Nat.le_of_ble_eq_true rfl⟩ hl.1 (Nat.le_of_ble_eq_true rfl) dX9_slips_182 ⟨Nat.le_of_ble_eq_true rfl, Nat.le_of_ble_eq_true rfl⟩) hS (fun x182 M182 H locs hp182 hW hS => ?_)
                obtain ⟨ex182, eM182⟩ := hp182
                rw [eM182] at hW
                rw [ex182, a1]
                refine tm_callv (cs_X9_176 hx hb hml hown htw hK hW (by assumption) (c_X9_write (i := 43) (n := 1) g1.1.1 (by decide) (by decide) (by have := (fok_ab q2).1; omega) (by have := (fok_ab q2).2.1; omega) (fok_ab q2).2.2 (by have := g1.2.2.2.1; omega)) ⟨rfl, rfl, Nat.le_of_ble_eq_true rfl, Nat.le_of_ble_eq_true rfl⟩ hl.1 (Nat.le_of_ble_eq_true rfl) dX9_slips_185 ⟨Nat.le_of_ble_eq_true rfl, Nat.le_of_ble_eq_true rfl⟩) hS (fun M185 H locs hp185 hW hS => ?_)
                rw [norm_neg q2 y2] at hp185
                rw [hp185] at hW
                have g2 := mo1_wr (n := 1) (f := fneg v.1.2) g1 (by decide) (by decide)
                generalize hzB2 : wr B1 o 43 1 (fneg v.1.2) = B2 at hW g2
                obtain ⟨a0, a1, a2, a3, a4⟩ := rl_at g2.2.1
                refine ti_iinc (k := 0) (lv' := [(4, _), (3, _), (0, _), (1, _), (2, _)]) hx hb dX9_slips_188 hl rfl (by decide) rfl (fun ls hl => ?_)
                refine lv_goto (tgt := 161) hx hb dX9_slips_191 (by decide) ?_
                refine lv_iload hx hb dX9_slips_161 (lv_at hl 0 rfl) ?_
                refine ti_iconst hx hb dX9_slips_163 ?_
                refine ti_icmp_ge (tgt := 194) hx hb dX9_slips_164 (by decide) (by decide) (by decide) (fun h164 => ?_) (fun h164 => ?_)
                · exact absurd h164 (by decide)
                · refine lv_aload_n hx hb dX9_slips_167 rfl (lv_at hl 2 rfl) ?_
                  refine ti_bipush hx hb dX9_slips_168 (by decide) ?_
                  refine lv_iload hx hb dX9_slips_170 (lv_at hl 0 rfl) ?_
                  refine lv_aload_n hx hb dX9_slips_172 rfl (lv_at hl 2 rfl) ?_
                  refine lv_iload hx hb dX9_slips_173 (lv_at hl 0 rfl) ?_
                  refine tm_calll (cs_X9_169 hx hb hml hown htw hK hW (by assumption) (c_X9_above (n := 2) g2.1 (by decide)) ⟨rfl, rfl, Nat.le_of_ble_eq_true rfl, Nat.le_of_ble_eq_true rfl⟩ hl.1 (Nat.le_of_ble_eq_true rfl) dX9_slips_175 ⟨Nat.le_of_ble_eq_true rfl, Nat.le_of_ble_eq_true rfl⟩) hS (fun x175 M175 H locs hp175 hW hS => ?_)
                  obtain ⟨ex175, eM175⟩ := hp175
                  rw [eM175] at hW
                  rw [ex175, a2]
                  refine ti_lneg hx hb dX9_slips_178 ?_
                  refine lv_aload_n hx hb dX9_slips_179 rfl (lv_at hl 2 rfl) ?_
                  refine lv_iload hx hb dX9_slips_180 (lv_at hl 0 rfl) ?_
                  refine tm_calll (cs_X9_173 hx hb hml hown htw hK hW (by assumption) (c_X9_below (n := 2) g2.1 (by decide)) ⟨rfl, rfl, Nat.le_of_ble_eq_true rfl, Nat.le_of_ble_eq_true rfl⟩ hl.1 (Nat.le_of_ble_eq_true rfl) dX9_slips_182 ⟨Nat.le_of_ble_eq_true rfl, Nat.le_of_ble_eq_true rfl⟩) hS (fun x182 M182 H locs hp182 hW hS => ?_)
                  obtain ⟨ex182, eM182⟩ := hp182
                  rw [eM182] at hW
                  rw [ex182, a2]
                  refine tm_callv (cs_X9_176 hx hb hml hown htw hK hW (by assumption) (c_X9_write (i := 43) (n := 2) g2.1.1 (by decide) (by decide) (by have := (fok_ab q3).1; omega) (by have := (fok_ab q3).2.1; omega) (fok_ab q3).2.2 (by have := g2.2.2.2.1; omega)) ⟨rfl, rfl, Nat.le_of_ble_eq_true rfl, Nat.le_of_ble_eq_true rfl⟩ hl.1 (Nat.le_of_ble_eq_true rfl) dX9_slips_185 ⟨Nat.le_of_ble_eq_true rfl, Nat.le_of_ble_eq_true rfl⟩) hS (fun M185 H locs hp185 hW hS => ?_)
                  rw [norm_neg q3 y3] at hp185
                  rw [hp185] at hW
                  have g3 := mo1_wr (n := 2) (f := fneg v.2.1.1) g2 (by decide) (by decide)
                  generalize hzB3 : wr B2 o 43 2 (fneg v.2.1.1) = B3 at hW g3
                  obtain ⟨a0, a1, a2, a3, a4⟩ := rl_at g3.2.1
                  refine ti_iinc (k := 0) (lv' := [(4, _), (3, _), (0, _), (1, _), (2, _)]) hx hb dX9_slips_188 hl rfl (by decide) rfl (fun ls hl => ?_)
                  refine lv_goto (tgt := 161) hx hb dX9_slips_191 (by decide) ?_
                  refine lv_iload hx hb dX9_slips_161 (lv_at hl 0 rfl) ?_
                  refine ti_iconst hx hb dX9_slips_163 ?_
                  refine ti_icmp_ge (tgt := 194) hx hb dX9_slips_164 (by decide) (by decide) (by decide) (fun h164 => ?_) (fun h164 => ?_)
                  · exact absurd h164 (by decide)
                  · refine lv_aload_n hx hb dX9_slips_167 rfl (lv_at hl 2 rfl) ?_
                    refine ti_bipush hx hb dX9_slips_168 (by decide) ?_
                    refine lv_iload hx hb dX9_slips_170 (lv_at hl 0 rfl) ?_
                    refine lv_aload_n hx hb dX9_slips_172 rfl (lv_at hl 2 rfl) ?_
                    refine lv_iload hx hb dX9_slips_173 (lv_at hl 0 rfl) ?_
                    refine tm_calll (cs_X9_169 hx hb hml hown htw hK hW (by assumption) (c_X9_above (n := 3) g3.1 (by decide)) ⟨rfl, rfl, Nat.le_of_ble_eq_true rfl, Nat.le_of_ble_eq_true rfl⟩ hl.1 (Nat.le_of_ble_eq_true rfl) dX9_slips_175 ⟨Nat.le_of_ble_eq_true rfl, Nat.le_of_ble_eq_true rfl⟩) hS (fun x175 M175 H locs hp175 hW hS => ?_)
                    obtain ⟨ex175, eM175⟩ := hp175
                    rw [eM175] at hW
                    rw [ex175, a3]
                    refine ti_lneg hx hb dX9_slips_178 ?_
                    refine lv_aload_n hx hb dX9_slips_179 rfl (lv_at hl 2 rfl) ?_
                    refine lv_iload hx hb dX9_slips_180 (lv_at hl 0 rfl) ?_
                    refine tm_calll (cs_X9_173 hx hb hml hown htw hK hW (by assumption) (c_X9_below (n := 3) g3.1 (by decide)) ⟨rfl, rfl, Nat.le_of_ble_eq_true rfl, Nat.le_of_ble_eq_true rfl⟩ hl.1 (Nat.le_of_ble_eq_true rfl) dX9_slips_182 ⟨Nat.le_of_ble_eq_true rfl, Nat.le_of_ble_eq_true rfl⟩) hS (fun x182 M182 H locs hp182 hW hS => ?_)
                    obtain ⟨ex182, eM182⟩ := hp182
                    rw [eM182] at hW
                    rw [ex182, a3]
                    refine tm_callv (cs_X9_176 hx hb hml hown htw hK hW (by assumption) (c_X9_write (i := 43) (n := 3) g3.1.1 (by decide) (by decide) (by have := (fok_ab q4).1; omega) (by have := (fok_ab q4).2.1; omega) (fok_ab q4).2.2 (by have := g3.2.2.2.1; omega)) ⟨rfl, rfl, Nat.le_of_ble_eq_true rfl, Nat.le_of_ble_eq_true rfl⟩ hl.1 (Nat.le_of_ble_eq_true rfl) dX9_slips_185 ⟨Nat.le_of_ble_eq_true rfl, Nat.le_of_ble_eq_true rfl⟩) hS (fun M185 H locs hp185 hW hS => ?_)
                    rw [norm_neg q4 y4] at hp185
                    rw [hp185] at hW
                    have g4 := mo1_wr (n := 3) (f := fneg v.2.1.2) g3 (by decide) (by decide)
                    generalize hzB4 : wr B3 o 43 3 (fneg v.2.1.2) = B4 at hW g4
                    obtain ⟨a0, a1, a2, a3, a4⟩ := rl_at g4.2.1
                    refine ti_iinc (k := 0) (lv' := [(4, _), (3, _), (0, _), (1, _), (2, _)]) hx hb dX9_slips_188 hl rfl (by decide) rfl (fun ls hl => ?_)
                    refine lv_goto (tgt := 161) hx hb dX9_slips_191 (by decide) ?_
                    refine lv_iload hx hb dX9_slips_161 (lv_at hl 0 rfl) ?_
                    refine ti_iconst hx hb dX9_slips_163 ?_
                    refine ti_icmp_ge (tgt := 194) hx hb dX9_slips_164 (by decide) (by decide) (by decide) (fun h164 => ?_) (fun h164 => ?_)
                    · refine lv_goto (tgt := 257) hx hb dX9_slips_194 (by decide) ?_
                      first
                      | exact tail 1 B4 _ _ _ (Or.inr ⟨rfl, by rw [pss5]; exact tl_b_n.mpr (by omega), (mo1_F g4 (by rw [slv5]; rfl) (by rw [slv5]; exact ⟨fun q => ⟨⟨q.1.1.1.2, q.1.1.2⟩, q.1.2, q.2⟩, fun q => ⟨⟨⟨⟨trivial, q.1.1⟩, q.1.2⟩, q.2.1⟩, q.2.2⟩⟩))⟩) hW hS (lv_sub hl [2, 1] rfl)
                      | exact tail 0 B4 _ _ _ (Or.inl ⟨rfl, by rw [pss5]; exact tl_b_0.mpr (by omega), g4.2.2.2.2.2⟩) hW hS (lv_sub hl [2, 1] rfl)
                    · exact absurd h164 (by decide)
          · refine ti_iconst hx hb dX9_slips_152 ?_
            refine lv_goto (tgt := 157) hx hb dX9_slips_153 (by decide) ?_
            refine lv_istore_n (lv' := [(3, _), (0, _), (1, _), (2, _)]) hx hb dX9_slips_157 rfl hl (by decide) rfl (fun ls hl => ?_)
            refine ti_iconst hx hb dX9_slips_158 ?_
            refine lv_istore (lv' := [(4, _), (3, _), (0, _), (1, _), (2, _)]) hx hb dX9_slips_159 hl (by decide) rfl (fun ls hl => ?_)
            refine lv_iload hx hb dX9_slips_161 (lv_at hl 0 rfl) ?_
            refine ti_iconst hx hb dX9_slips_163 ?_
            refine ti_icmp_ge (tgt := 194) hx hb dX9_slips_164 (by decide) (by decide) (by decide) (fun h164 => ?_) (fun h164 => ?_)
            · exact absurd h164 (by decide)
            · refine lv_aload_n hx hb dX9_slips_167 rfl (lv_at hl 2 rfl) ?_
              refine ti_bipush hx hb dX9_slips_168 (by decide) ?_
              refine lv_iload hx hb dX9_slips_170 (lv_at hl 0 rfl) ?_
              refine lv_aload_n hx hb dX9_slips_172 rfl (lv_at hl 2 rfl) ?_
              refine lv_iload hx hb dX9_slips_173 (lv_at hl 0 rfl) ?_
              refine tm_calll (cs_X9_169 hx hb hml hown htw hK hW (by assumption) (c_X9_above (n := 0) g.1 (by decide)) ⟨rfl, rfl, Nat.le_of_ble_eq_true rfl, Nat.le_of_ble_eq_true rfl⟩ hl.1 (Nat.le_of_ble_eq_true rfl) dX9_slips_175 ⟨Nat.le_of_ble_eq_true rfl, Nat.le_of_ble_eq_true rfl⟩) hS (fun x175 M175 H locs hp175 hW hS => ?_)
              obtain ⟨ex175, eM175⟩ := hp175
              rw [eM175] at hW
              rw [ex175, a0]
              refine ti_lneg hx hb dX9_slips_178 ?_
              refine lv_aload_n hx hb dX9_slips_179 rfl (lv_at hl 2 rfl) ?_
              refine lv_iload hx hb dX9_slips_180 (lv_at hl 0 rfl) ?_
              refine tm_calll (cs_X9_173 hx hb hml hown htw hK hW (by assumption) (c_X9_below (n := 0) g.1 (by decide)) ⟨rfl, rfl, Nat.le_of_ble_eq_true rfl, Nat.le_of_ble_eq_true rfl⟩ hl.1 (Nat.le_of_ble_eq_true rfl) dX9_slips_182 ⟨Nat.le_of_ble_eq_true rfl, Nat.le_of_ble_eq_true rfl⟩) hS (fun x182 M182 H locs hp182 hW hS => ?_)
              obtain ⟨ex182, eM182⟩ := hp182
              rw [eM182] at hW
              rw [ex182, a0]
              refine tm_callv (cs_X9_176 hx hb hml hown htw hK hW (by assumption) (c_X9_write (i := 43) (n := 0) g.1.1 (by decide) (by decide) (by have := (fok_ab q1).1; omega) (by have := (fok_ab q1).2.1; omega) (fok_ab q1).2.2 (by have := g.2.2.2.1; omega)) ⟨rfl, rfl, Nat.le_of_ble_eq_true rfl, Nat.le_of_ble_eq_true rfl⟩ hl.1 (Nat.le_of_ble_eq_true rfl) dX9_slips_185 ⟨Nat.le_of_ble_eq_true rfl, Nat.le_of_ble_eq_true rfl⟩) hS (fun M185 H locs hp185 hW hS => ?_)
              rw [norm_neg q1 y1] at hp185
              rw [hp185] at hW
              have g1 := mo1_wr (n := 0) (f := fneg v.1.1) g (by decide) (by decide)
              generalize hzB1 : wr A o 43 0 (fneg v.1.1) = B1 at hW g1
              obtain ⟨a0, a1, a2, a3, a4⟩ := rl_at g1.2.1
              refine ti_iinc (k := 0) (lv' := [(4, _), (3, _), (0, _), (1, _), (2, _)]) hx hb dX9_slips_188 hl rfl (by decide) rfl (fun ls hl => ?_)
              refine lv_goto (tgt := 161) hx hb dX9_slips_191 (by decide) ?_
              refine lv_iload hx hb dX9_slips_161 (lv_at hl 0 rfl) ?_
              refine ti_iconst hx hb dX9_slips_163 ?_
              refine ti_icmp_ge (tgt := 194) hx hb dX9_slips_164 (by decide) (by decide) (by decide) (fun h164 => ?_) (fun h164 => ?_)
              · exact absurd h164 (by decide)
              · refine lv_aload_n hx hb dX9_slips_167 rfl (lv_at hl 2 rfl) ?_
                refine ti_bipush hx hb dX9_slips_168 (by decide) ?_
                refine lv_iload hx hb dX9_slips_170 (lv_at hl 0 rfl) ?_
                refine lv_aload_n hx hb dX9_slips_172 rfl (lv_at hl 2 rfl) ?_
                refine lv_iload hx hb dX9_slips_173 (lv_at hl 0 rfl) ?_
                refine tm_calll (cs_X9_169 hx hb hml hown htw hK hW (by assumption) (c_X9_above (n := 1) g1.1 (by decide)) ⟨rfl, rfl, Nat.le_of_ble_eq_true rfl, Nat.le_of_ble_eq_true rfl⟩ hl.1 (Nat.le_of_ble_eq_true rfl) dX9_slips_175 ⟨Nat.le_of_ble_eq_true rfl, Nat.le_of_ble_eq_true rfl⟩) hS (fun x175 M175 H locs hp175 hW hS => ?_)
                obtain ⟨ex175, eM175⟩ := hp175
                rw [eM175] at hW
                rw [ex175, a1]
                refine ti_lneg hx hb dX9_slips_178 ?_
                refine lv_aload_n hx hb dX9_slips_179 rfl (lv_at hl 2 rfl) ?_
                refine lv_iload hx hb dX9_slips_180 (lv_at hl 0 rfl) ?_
                refine tm_calll (cs_X9_173 hx hb hml hown htw hK hW (by assumption) (c_X9_below (n := 1) g1.1 (by decide)) ⟨rfl, rfl, Nat.le_of_ble_eq_true rfl, Nat.le_of_ble_eq_true rfl⟩ hl.1 (Nat.le_of_ble_eq_true rfl) dX9_slips_182 ⟨Nat.le_of_ble_eq_true rfl, Nat.le_of_ble_eq_true rfl⟩) hS (fun x182 M182 H locs hp182 hW hS => ?_)
                obtain ⟨ex182, eM182⟩ := hp182
                rw [eM182] at hW
                rw [ex182, a1]
                refine tm_callv (cs_X9_176 hx hb hml hown htw hK hW (by assumption) (c_X9_write (i := 43) (n := 1) g1.1.1 (by decide) (by decide) (by have := (fok_ab q2).1; omega) (by have := (fok_ab q2).2.1; omega) (fok_ab q2).2.2 (by have := g1.2.2.2.1; omega)) ⟨rfl, rfl, Nat.le_of_ble_eq_true rfl, Nat.le_of_ble_eq_true rfl⟩ hl.1 (Nat.le_of_ble_eq_true rfl) dX9_slips_185 ⟨Nat.le_of_ble_eq_true rfl, Nat.le_of_ble_eq_true rfl⟩) hS (fun M185 H locs hp185 hW hS => ?_)
                rw [norm_neg q2 y2] at hp185
                rw [hp185] at hW
                have g2 := mo1_wr (n := 1) (f := fneg v.1.2) g1 (by decide) (by decide)
                generalize hzB2 : wr B1 o 43 1 (fneg v.1.2) = B2 at hW g2
                obtain ⟨a0, a1, a2, a3, a4⟩ := rl_at g2.2.1
                refine ti_iinc (k := 0) (lv' := [(4, _), (3, _), (0, _), (1, _), (2, _)]) hx hb dX9_slips_188 hl rfl (by decide) rfl (fun ls hl => ?_)
                refine lv_goto (tgt := 161) hx hb dX9_slips_191 (by decide) ?_
                refine lv_iload hx hb dX9_slips_161 (lv_at hl 0 rfl) ?_
                refine ti_iconst hx hb dX9_slips_163 ?_
                refine ti_icmp_ge (tgt := 194) hx hb dX9_slips_164 (by decide) (by decide) (by decide) (fun h164 => ?_) (fun h164 => ?_)
                · exact absurd h164 (by decide)
                · refine lv_aload_n hx hb dX9_slips_167 rfl (lv_at hl 2 rfl) ?_
                  refine ti_bipush hx hb dX9_slips_168 (by decide) ?_
                  refine lv_iload hx hb dX9_slips_170 (lv_at hl 0 rfl) ?_
                  refine lv_aload_n hx hb dX9_slips_172 rfl (lv_at hl 2 rfl) ?_
                  refine lv_iload hx hb dX9_slips_173 (lv_at hl 0 rfl) ?_
                  refine tm_calll (cs_X9_169 hx hb hml hown htw hK hW (by assumption) (c_X9_above (n := 2) g2.1 (by decide)) ⟨rfl, rfl, Nat.le_of_ble_eq_true rfl, Nat.le_of_ble_eq_true rfl⟩ hl.1 (Nat.le_of_ble_eq_true rfl) dX9_slips_175 ⟨Nat.le_of_ble_eq_true rfl, Nat.le_of_ble_eq_true rfl⟩) hS (fun x175 M175 H locs hp175 hW hS => ?_)
                  obtain ⟨ex175, eM175⟩ := hp175
                  rw [eM175] at hW
                  rw [ex175, a2]
                  refine ti_lneg hx hb dX9_slips_178 ?_
                  refine lv_aload_n hx hb dX9_slips_179 rfl (lv_at hl 2 rfl) ?_
                  refine lv_iload hx hb dX9_slips_180 (lv_at hl 0 rfl) ?_
                  refine tm_calll (cs_X9_173 hx hb hml hown htw hK hW (by assumption) (c_X9_below (n := 2) g2.1 (by decide)) ⟨rfl, rfl, Nat.le_of_ble_eq_true rfl, Nat.le_of_ble_eq_true rfl⟩ hl.1 (Nat.le_of_ble_eq_true rfl) dX9_slips_182 ⟨Nat.le_of_ble_eq_true rfl, Nat.le_of_ble_eq_true rfl⟩) hS (fun x182 M182 H locs hp182 hW hS => ?_)
                  obtain ⟨ex182, eM182⟩ := hp182
                  rw [eM182] at hW
                  rw [ex182, a2]
                  refine tm_callv (cs_X9_176 hx hb hml hown htw hK hW (by assumption) (c_X9_write (i := 43) (n := 2) g2.1.1 (by decide) (by decide) (by have := (fok_ab q3).1; omega) (by have := (fok_ab q3).2.1; omega) (fok_ab q3).2.2 (by have := g2.2.2.2.1; omega)) ⟨rfl, rfl, Nat.le_of_ble_eq_true rfl, Nat.le_of_ble_eq_true rfl⟩ hl.1 (Nat.le_of_ble_eq_true rfl) dX9_slips_185 ⟨Nat.le_of_ble_eq_true rfl, Nat.le_of_ble_eq_true rfl⟩) hS (fun M185 H locs hp185 hW hS => ?_)
                  rw [norm_neg q3 y3] at hp185
                  rw [hp185] at hW
                  have g3 := mo1_wr (n := 2) (f := fneg v.2.1.1) g2 (by decide) (by decide)
                  generalize hzB3 : wr B2 o 43 2 (fneg v.2.1.1) = B3 at hW g3
                  obtain ⟨a0, a1, a2, a3, a4⟩ := rl_at g3.2.1
                  refine ti_iinc (k := 0) (lv' := [(4, _), (3, _), (0, _), (1, _), (2, _)]) hx hb dX9_slips_188 hl rfl (by decide) rfl (fun ls hl => ?_)
                  refine lv_goto (tgt := 161) hx hb dX9_slips_191 (by decide) ?_
                  refine lv_iload hx hb dX9_slips_161 (lv_at hl 0 rfl) ?_
                  refine ti_iconst hx hb dX9_slips_163 ?_
                  refine ti_icmp_ge (tgt := 194) hx hb dX9_slips_164 (by decide) (by decide) (by decide) (fun h164 => ?_) (fun h164 => ?_)
                  · exact absurd h164 (by decide)
                  · refine lv_aload_n hx hb dX9_slips_167 rfl (lv_at hl 2 rfl) ?_
                    refine ti_bipush hx hb dX9_slips_168 (by decide) ?_
                    refine lv_iload hx hb dX9_slips_170 (lv_at hl 0 rfl) ?_
                    refine lv_aload_n hx hb dX9_slips_172 rfl (lv_at hl 2 rfl) ?_
                    refine lv_iload hx hb dX9_slips_173 (lv_at hl 0 rfl) ?_
                    refine tm_calll (cs_X9_169 hx hb hml hown htw hK hW (by assumption) (c_X9_above (n := 3) g3.1 (by decide)) ⟨rfl, rfl, Nat.le_of_ble_eq_true rfl, Nat.le_of_ble_eq_true rfl⟩ hl.1 (Nat.le_of_ble_eq_true rfl) dX9_slips_175 ⟨Nat.le_of_ble_eq_true rfl, Nat.le_of_ble_eq_true rfl⟩) hS (fun x175 M175 H locs hp175 hW hS => ?_)
                    obtain ⟨ex175, eM175⟩ := hp175
                    rw [eM175] at hW
                    rw [ex175, a3]
                    refine ti_lneg hx hb dX9_slips_178 ?_
                    refine lv_aload_n hx hb dX9_slips_179 rfl (lv_at hl 2 rfl) ?_
                    refine lv_iload hx hb dX9_slips_180 (lv_at hl 0 rfl) ?_
                    refine tm_calll (cs_X9_173 hx hb hml hown htw hK hW (by assumption) (c_X9_below (n := 3) g3.1 (by decide)) ⟨rfl, rfl, Nat.le_of_ble_eq_true rfl, Nat.le_of_ble_eq_true rfl⟩ hl.1 (Nat.le_of_ble_eq_true rfl) dX9_slips_182 ⟨Nat.le_of_ble_eq_true rfl, Nat.le_of_ble_eq_true rfl⟩) hS (fun x182 M182 H locs hp182 hW hS => ?_)
                    obtain ⟨ex182, eM182⟩ := hp182
                    rw [eM182] at hW
                    rw [ex182, a3]
                    refine tm_callv (cs_X9_176 hx hb hml hown htw hK hW (by assumption) (c_X9_write (i := 43) (n := 3) g3.1.1 (by decide) (by decide) (by have := (fok_ab q4).1; omega) (by have := (fok_ab q4).2.1; omega) (fok_ab q4).2.2 (by have := g3.2.2.2.1; omega)) ⟨rfl, rfl, Nat.le_of_ble_eq_true rfl, Nat.le_of_ble_eq_true rfl⟩ hl.1 (Nat.le_of_ble_eq_true rfl) dX9_slips_185 ⟨Nat.le_of_ble_eq_true rfl, Nat.le_of_ble_eq_true rfl⟩) hS (fun M185 H locs hp185 hW hS => ?_)
                    rw [norm_neg q4 y4] at hp185
                    rw [hp185] at hW
                    have g4 := mo1_wr (n := 3) (f := fneg v.2.1.2) g3 (by decide) (by decide)
                    generalize hzB4 : wr B3 o 43 3 (fneg v.2.1.2) = B4 at hW g4
                    obtain ⟨a0, a1, a2, a3, a4⟩ := rl_at g4.2.1
                    refine ti_iinc (k := 0) (lv' := [(4, _), (3, _), (0, _), (1, _), (2, _)]) hx hb dX9_slips_188 hl rfl (by decide) rfl (fun ls hl => ?_)
                    refine lv_goto (tgt := 161) hx hb dX9_slips_191 (by decide) ?_
                    refine lv_iload hx hb dX9_slips_161 (lv_at hl 0 rfl) ?_
                    refine ti_iconst hx hb dX9_slips_163 ?_
                    refine ti_icmp_ge (tgt := 194) hx hb dX9_slips_164 (by decide) (by decide) (by decide) (fun h164 => ?_) (fun h164 => ?_)
                    · refine lv_goto (tgt := 257) hx hb dX9_slips_194 (by decide) ?_
                      first
                      | exact tail 1 B4 _ _ _ (Or.inr ⟨rfl, by rw [pss5]; exact tl_b_n.mpr (by omega), (mo1_F g4 (by rw [slv5]; rfl) (by rw [slv5]; exact ⟨fun q => ⟨⟨q.1.1.1.2, q.1.1.2⟩, q.1.2, q.2⟩, fun q => ⟨⟨⟨⟨trivial, q.1.1⟩, q.1.2⟩, q.2.1⟩, q.2.2⟩⟩))⟩) hW hS (lv_sub hl [2, 1] rfl)
                      | exact tail 0 B4 _ _ _ (Or.inl ⟨rfl, by rw [pss5]; exact tl_b_0.mpr (by omega), g4.2.2.2.2.2⟩) hW hS (lv_sub hl [2, 1] rfl)
                    · exact absurd h164 (by decide)
      · exact absurd h86 (by decide)
    · exact absurd h43 (by decide)
  refine lv_aload_n hx hb dX9_slips_0 rfl (lv_at hl 0 rfl) ?_
  refine lv_aload_n hx hb dX9_slips_1 rfl (lv_at hl 0 rfl) ?_
  refine tm_calli (cs_X9_166 hx hb hml hown htw hK hW (by assumption) (c_X9_last h) ⟨rfl, rfl, Nat.le_of_ble_eq_true rfl, Nat.le_of_ble_eq_true rfl⟩ hl.1 (Nat.le_of_ble_eq_true rfl) dX9_slips_2 ⟨Nat.le_of_ble_eq_true rfl, Nat.le_of_ble_eq_true rfl⟩) hS (fun x2 M2 H locs hp2 hW hS => ?_)
  obtain ⟨ex2, eM2⟩ := hp2
  rw [eM2] at hW
  rw [ex2]
  refine ti_bipush hx hb dX9_slips_5 (by decide) ?_
  refine tm_callv (cs_X9_180 hx hb hml hown htw hK hW (by assumption) (c_X9_copyLine (i := N - 1) (j := 43) h.1 (by omega) (by decide) (by omega)) ⟨rfl, rfl, Nat.le_of_ble_eq_true rfl, Nat.le_of_ble_eq_true rfl⟩ hl.1 (Nat.le_of_ble_eq_true rfl) dX9_slips_7 ⟨Nat.le_of_ble_eq_true rfl, Nat.le_of_ble_eq_true rfl⟩) hS (fun M7 H locs hp7 hW hS => ?_)
  obtain ⟨e7, f7⟩ := hp7
  refine lv_aload_n hx hb dX9_slips_10 rfl (lv_at hl 0 rfl) ?_
  refine ti_iconst hx hb dX9_slips_11 ?_
  refine pf_X9_162 hx hb htw hown hK hW (by assumption) hS (Or.inr rfl) dX9_slips_12 (fun H locs hW hS => ?_)
  have g := mo1_0 (i := 43) h (by decide) hr0 e7 f7
  generalize sI M7 o 28 1 = A at hW g
  obtain ⟨a0, a1, a2, a3, a4⟩ := rl_at g.2.1
  refine lv_aload_n hx hb dX9_slips_15 rfl (lv_at hl 0 rfl) ?_
  refine ti_iconst hx hb dX9_slips_16 ?_
  refine tm_calll (cs_X9_169 hx hb hml hown htw hK hW (by assumption) (c_X9_above (n := 0) g.1 (by decide)) ⟨rfl, rfl, Nat.le_of_ble_eq_true rfl, Nat.le_of_ble_eq_true rfl⟩ hl.1 (Nat.le_of_ble_eq_true rfl) dX9_slips_17 ⟨Nat.le_of_ble_eq_true rfl, Nat.le_of_ble_eq_true rfl⟩) hS (fun x17 M17 H locs hp17 hW hS => ?_)
  obtain ⟨ex17, eM17⟩ := hp17
  rw [eM17] at hW
  rw [ex17, a0]
  refine ti_lconst0 hx hb dX9_slips_20 ?_
  refine ti_lcmp_eq (tgt := 37) hx hb dX9_slips_21 dX9_slips_22 (by decide) (by unfold fok at q1; omega) (by decide) (fun h21 => ?_) (fun h21 => ?_)
  · refine ti_iconst hx hb dX9_slips_37 ?_
    refine lv_istore_n (lv' := [(2, _), (0, _), (1, _)]) hx hb dX9_slips_38 rfl hl (by decide) rfl (fun ls hl => ?_)
    first
    | exact rest39 1 A _ _ _ (Or.inr rfl) ⟨fun _ => ⟨h21, tl_b_0.mp h30⟩, fun _ => rfl⟩ g hW hS (lv_sub hl [1, 2, 0] rfl)
    | exact rest39 0 A _ _ _ (Or.inl rfl) ⟨fun q => absurd q (by decide), fun q => absurd (tl_b_n.mp h30) q.2⟩ g hW hS (lv_sub hl [1, 2, 0] rfl)
    | exact rest39 0 A _ _ _ (Or.inl rfl) ⟨fun q => absurd q (by decide), fun q => absurd h21 q.1⟩ g hW hS (lv_sub hl [1, 2, 0] rfl)
  · refine lv_aload_n hx hb dX9_slips_25 rfl (lv_at hl 0 rfl) ?_
    refine ti_iconst hx hb dX9_slips_26 ?_
    refine tm_calli (cs_X9_188 hx hb hml hown htw hK hW (by assumption) (c_X9_isOne (n := 0) g.1 (by decide) (by rw [a0]; exact fLok_of q1)) ⟨rfl, rfl, Nat.le_of_ble_eq_true rfl, Nat.le_of_ble_eq_true rfl⟩ hl.1 (Nat.le_of_ble_eq_true rfl) dX9_slips_27 ⟨Nat.le_of_ble_eq_true rfl, Nat.le_of_ble_eq_true rfl⟩) hS (fun x27 M27 H locs hp27 hW hS => ?_)
    obtain ⟨ex27, eM27⟩ := hp27
    rw [eM27] at hW
    rw [ex27, a0]
    refine ti_if_ne (tgt := 37) hx hb dX9_slips_30 (by decide) (tl_b_r _) (fun h30 => ?_) (fun h30 => ?_)
    · refine ti_iconst hx hb dX9_slips_37 ?_
      refine lv_istore_n (lv' := [(2, _), (0, _), (1, _)]) hx hb dX9_slips_38 rfl hl (by decide) rfl (fun ls hl => ?_)
      first
      | exact rest39 1 A _ _ _ (Or.inr rfl) ⟨fun _ => ⟨h21, tl_b_0.mp h30⟩, fun _ => rfl⟩ g hW hS (lv_sub hl [1, 2, 0] rfl)
      | exact rest39 0 A _ _ _ (Or.inl rfl) ⟨fun q => absurd q (by decide), fun q => absurd (tl_b_n.mp h30) q.2⟩ g hW hS (lv_sub hl [1, 2, 0] rfl)
      | exact rest39 0 A _ _ _ (Or.inl rfl) ⟨fun q => absurd q (by decide), fun q => absurd h21 q.1⟩ g hW hS (lv_sub hl [1, 2, 0] rfl)
    · refine ti_iconst hx hb dX9_slips_33 ?_
      refine lv_goto (tgt := 38) hx hb dX9_slips_34 (by decide) ?_
      refine lv_istore_n (lv' := [(2, _), (0, _), (1, _)]) hx hb dX9_slips_38 rfl hl (by decide) rfl (fun ls hl => ?_)
      first
      | exact rest39 1 A _ _ _ (Or.inr rfl) ⟨fun _ => ⟨h21, tl_b_0.mp h30⟩, fun _ => rfl⟩ g hW hS (lv_sub hl [1, 2, 0] rfl)
      | exact rest39 0 A _ _ _ (Or.inl rfl) ⟨fun q => absurd q (by decide), fun q => absurd (tl_b_n.mp h30) q.2⟩ g hW hS (lv_sub hl [1, 2, 0] rfl)
      | exact rest39 0 A _ _ _ (Or.inl rfl) ⟨fun q => absurd q (by decide), fun q => absurd h21 q.1⟩ g hW hS (lv_sub hl [1, 2, 0] rfl)
set_option maxHeartbeats 4000000 in
set_option maxRecDepth 100000 in
/-- TutorLinesModel.slips 6 -/
theorem c_X9_slips6 {l : Launch} {G : tm_G} {Hb : Heap} {sh : tm_sh} {M : tm_M} {o N : Nat} {v : tl_L} (h : moN sh M o N) (hr0 : rl M o (N - 1) = v) (hv : lok v) (hg : lg v) (hw : lok (rl M o 41)) : Met l yX9_slips (tws yX9_slips cX9_slips 5 (some .boolean)) ({ frames := 5, cells := 0, slots := 0, locals := 130 }) (va_Pc [.ref o, ji 6] (tm_St G Hb sh M)) (tm_Qi G Hb sh (fun r M1 => r = tl_b (¬ tl_poss 6 v = 0 ∧ tl_slipv 6 v = rl M o 41) ∧ fq (mP o) M M1)) 0 0 (tm_A Hb) := by
  refine tm_begin (by decide) (Nat.le_of_ble_eq_true rfl) (fun p e s m below meth c ls hx hb hr hml hown htw hlk hnm hK hW hl => ?_)
  have hS : va_S (tm_A Hb) s.heap s.heap [] := va_S.rf
  have hl : lv_has ls 5 [(0, .ref o), (1, ji 6)] := hl
  have hN := h.2.2
  have b0 := h.1.1
  have t2 := h.1.2.1.2.1
  have u2 := h.1.2.2.2.1
  have h9 := hv.2.2
  obtain ⟨⟨q1, q2⟩, ⟨q3, q4⟩, q5⟩ := id hv
  obtain ⟨⟨y1, y2⟩, y3, y4⟩ := id hg
  have tail : ∀ (may : Int) (Z : tm_M) (H : Heap) (locs : List Loc) (ls : Array Slot), ((may = 0 ∧ tl_poss 6 v = 0 ∧ fq (mP o) M Z) ∨ (may = 1 ∧ ¬ tl_poss 6 v = 0 ∧ mo1 sh M Z o N v 43 (tl_slipv 6 v) (lfit (tl_slipv 6 v)))) → tm_W G Hb sh Z H → va_S (tm_A Hb) s.heap H locs → lv_has ls 5 [(0, .ref o), (3, ji may)] → W p l e ({ frames := 5, cells := 0, slots := 0, locals := 130 }) s m [.ref o, ji 6].toArray below meth c H locs 0 0 (MQ below (tm_Qi G Hb sh (fun r M1 => r = tl_b (¬ tl_poss 6 v = 0 ∧ tl_slipv 6 v = rl M o 41) ∧ fq (mP o) M M1)) [.ref o, ji 6].toArray s 0 0 (tm_A Hb)) (F0 m 257 ls []) := by
    intro may Z H locs ls hm hW hS hl
    have hm01 : inI may := by rcases hm with q | q <;> omega
    refine lv_iload_n hx hb dX9_slips_257 rfl (lv_at hl 1 rfl) ?_
    refine ti_if_eq (tgt := 283) hx hb dX9_slips_258 (by decide) hm01 (fun h258 => ?_) (fun h258 => ?_)
    · refine ti_iconst hx hb dX9_slips_283 ?_
      exact tm_zret hx hb hr hlk (by first | exact Or.inl rfl | exact Or.inr rfl | assumption) hK hW hS ⟨by first | exact tl_b_t ⟨m2, tl_b_n.mp h276⟩ | exact tl_b_f (fun q => tl_b_0.mp h276 q.2) | exact tl_b_f (fun q => absurd (q3.2.2.2.2.1.mpr (by rw [q.2]; exact lfit_ok hw)) (by omega)) | exact tl_b_f (fun q => q.1 (tl_or1 hm h258).1), by first | exact q3.2.2.2.2.2 | exact (tl_or1 hm h258).2⟩ dX9_slips_284
    · obtain ⟨m1, m2, q3⟩ := tl_or2 hm h258
      refine lv_aload_n hx hb dX9_slips_261 rfl (lv_at hl 0 rfl) ?_
      refine gf_X9_162 hx hb htw hown hK hW (by assumption) dX9_slips_262 ?_
      refine ti_if_eq (tgt := 283) hx hb dX9_slips_265 (by decide) (by have := q3.2.2.2.1; omega) (fun h265 => ?_) (fun h265 => ?_)
      · refine ti_iconst hx hb dX9_slips_283 ?_
        exact tm_zret hx hb hr hlk (by first | exact Or.inl rfl | exact Or.inr rfl | assumption) hK hW hS ⟨by first | exact tl_b_t ⟨m2, tl_b_n.mp h276⟩ | exact tl_b_f (fun q => tl_b_0.mp h276 q.2) | exact tl_b_f (fun q => absurd (q3.2.2.2.2.1.mpr (by rw [q.2]; exact lfit_ok hw)) (by omega)) | exact tl_b_f (fun q => q.1 (tl_or1 hm h258).1), by first | exact q3.2.2.2.2.2 | exact (tl_or1 hm h258).2⟩ dX9_slips_284
      · have w41 : rl Z o 41 = rl M o 41 := fq_rl q3.2.2.2.2.2 (fun k hk => by unfold mP; omega)
        refine lv_aload_n hx hb dX9_slips_268 rfl (lv_at hl 0 rfl) ?_
        refine ti_bipush hx hb dX9_slips_269 (by decide) ?_
        refine ti_bipush hx hb dX9_slips_271 (by decide) ?_
        refine tm_calli (cs_X9_196 hx hb hml hown htw hK hW (by assumption) (c_X9_isSame (i := 43) (j := 41) q3.1.1 (by decide) (by decide) (rl_L (by rw [q3.2.2.1]; exact lLok_slip hv m2) (by rw [q3.2.2.1, tl_slr]; omega)) (rl_L (by rw [w41]; exact lLok_of hw) (by rw [w41]; have := hw.2.2; omega))) ⟨rfl, rfl, Nat.le_of_ble_eq_true rfl, Nat.le_of_ble_eq_true rfl⟩ hl.1 (Nat.le_of_ble_eq_true rfl) dX9_slips_273 ⟨Nat.le_of_ble_eq_true rfl, Nat.le_of_ble_eq_true rfl⟩) hS (fun x273 M273 H locs hp273 hW hS => ?_)
        obtain ⟨ex273, eM273⟩ := hp273
        rw [eM273] at hW
        rw [ex273, q3.2.2.1, w41]
        refine ti_if_eq (tgt := 283) hx hb dX9_slips_276 (by decide) (tl_b_r _) (fun h276 => ?_) (fun h276 => ?_)
        · refine ti_iconst hx hb dX9_slips_283 ?_
          exact tm_zret hx hb hr hlk (by first | exact Or.inl rfl | exact Or.inr rfl | assumption) hK hW hS ⟨by first | exact tl_b_t ⟨m2, tl_b_n.mp h276⟩ | exact tl_b_f (fun q => tl_b_0.mp h276 q.2) | exact tl_b_f (fun q => absurd (q3.2.2.2.2.1.mpr (by rw [q.2]; exact lfit_ok hw)) (by omega)) | exact tl_b_f (fun q => q.1 (tl_or1 hm h258).1), by first | exact q3.2.2.2.2.2 | exact (tl_or1 hm h258).2⟩ dX9_slips_284
        · refine ti_iconst hx hb dX9_slips_279 ?_
          refine lv_goto (tgt := 284) hx hb dX9_slips_280 (by decide) ?_
          exact tm_zret hx hb hr hlk (by first | exact Or.inl rfl | exact Or.inr rfl | assumption) hK hW hS ⟨by first | exact tl_b_t ⟨m2, tl_b_n.mp h276⟩ | exact tl_b_f (fun q => tl_b_0.mp h276 q.2) | exact tl_b_f (fun q => absurd (q3.2.2.2.2.1.mpr (by rw [q.2]; exact lfit_ok hw)) (by omega)) | exact tl_b_f (fun q => q.1 (tl_or1 hm h258).1), by first | exact q3.2.2.2.2.2 | exact (tl_or1 hm h258).2⟩ dX9_slips_284
  have rest39 : ∀ (sc : Int) (A : tm_M) (H : Heap) (locs : List Loc) (ls : Array Slot), (sc = 0 ∨ sc = 1) → (sc = 1 ↔ (¬ v.1.1.1 = 0 ∧ ¬ v.1.1 = (1, 1))) → mo1 sh M A o N v 43 v True → tm_W G Hb sh A H → va_S (tm_A Hb) s.heap H locs → lv_has ls 5 [(0, .ref o), (1, ji 6), (2, ji sc)] → W p l e ({ frames := 5, cells := 0, slots := 0, locals := 130 }) s m [.ref o, ji 6].toArray below meth c H locs 0 0 (MQ below (tm_Qi G Hb sh (fun r M1 => r = tl_b (¬ tl_poss 6 v = 0 ∧ tl_slipv 6 v = rl M o 41) ∧ fq (mP o) M M1)) [.ref o, ji 6].toArray s 0 0 (tm_A Hb)) (F0 m 39 ls []) := by
    intro sc A H locs ls h01 hsc g hW hS hl
    obtain ⟨a0, a1, a2, a3, a4⟩ := rl_at g.2.1
    have t2a := g.1.1.2.1.2.1
    refine ti_iconst hx hb dX9_slips_39 ?_
    refine lv_istore_n (lv' := [(3, _), (0, _), (1, _), (2, _)]) hx hb dX9_slips_40 rfl hl (by decide) rfl (fun ls hl => ?_)
    refine lv_iload_n hx hb dX9_slips_41 rfl (lv_at hl 2 rfl) ?_
    refine ti_iconst hx hb dX9_slips_42 ?_
    refine ti_icmp_ne (tgt := 84) hx hb dX9_slips_43 (by decide) (by decide) (by decide) (fun h43 => ?_) (fun h43 => ?_)
    · refine lv_iload_n hx hb dX9_slips_84 rfl (lv_at hl 2 rfl) ?_
      refine ti_iconst hx hb dX9_slips_85 ?_
      refine ti_icmp_ne (tgt := 127) hx hb dX9_slips_86 (by decide) (by decide) (by decide) (fun h86 => ?_) (fun h86 => ?_)
      · refine lv_iload_n hx hb dX9_slips_127 rfl (lv_at hl 2 rfl) ?_
        refine ti_iconst hx hb dX9_slips_128 ?_
        refine ti_icmp_ne (tgt := 197) hx hb dX9_slips_129 (by decide) (by decide) (by decide) (fun h129 => ?_) (fun h129 => ?_)
        · refine lv_iload_n hx hb dX9_slips_197 rfl (lv_at hl 3 rfl) ?_
          refine ti_if_eq (tgt := 246) hx hb dX9_slips_198 (by decide) (by omega) (fun h198 => ?_) (fun h198 => ?_)
          · refine ti_iconst hx hb dX9_slips_246 ?_
            refine lv_istore_n (lv' := [(3, _), (0, _), (1, _), (2, _)]) hx hb dX9_slips_247 rfl hl (by decide) rfl (fun ls hl => ?_)
            refine lv_iload_n hx hb dX9_slips_248 rfl (lv_at hl 0 rfl) ?_
            refine ti_if_eq (tgt := 257) hx hb dX9_slips_249 (by decide) (by decide) (fun h249 => ?_) (fun h249 => ?_)
            · first
              | exact tail 1 M254 _ _ _ (Or.inr ⟨rfl, by rw [pss6]; exact tl_b_n.mpr ⟨hsc.mp (by omega), h228, h238⟩, hp254⟩) hW hS (lv_sub hl [1, 0] rfl)
              | exact tail 0 A _ _ _ (Or.inl ⟨rfl, by rw [pss6]; exact tl_b_0.mpr (fun q => absurd (hsc.mpr q.1) (by omega)), g.2.2.2.2.2⟩) hW hS (lv_sub hl [1, 0] rfl)
              | exact tail 0 A _ _ _ (Or.inl ⟨rfl, by rw [pss6]; exact tl_b_0.mpr (fun q => h228 q.2.1), g.2.2.2.2.2⟩) hW hS (lv_sub hl [1, 0] rfl)
              | exact tail 0 A _ _ _ (Or.inl ⟨rfl, by rw [pss6]; exact tl_b_0.mpr (fun q => h238 q.2.2), g.2.2.2.2.2⟩) hW hS (lv_sub hl [1, 0] rfl)
              | exact absurd h249 (by decide)
            · refine lv_aload_n hx hb dX9_slips_252 rfl (lv_at hl 1 rfl) ?_
              refine lv_iload_n hx hb dX9_slips_253 rfl (lv_at hl 2 rfl) ?_
              refine tm_callv (cs_X9_193 hx hb hml hown htw hK hW (by assumption) (c_X9_scaled6 g hv (hsc.mp (by omega)).1) ⟨rfl, rfl, Nat.le_of_ble_eq_true rfl, Nat.le_of_ble_eq_true rfl⟩ hl.1 (Nat.le_of_ble_eq_true rfl) dX9_slips_254 ⟨Nat.le_of_ble_eq_true rfl, Nat.le_of_ble_eq_true rfl⟩) hS (fun M254 H locs hp254 hW hS => ?_)
              first
              | exact tail 1 M254 _ _ _ (Or.inr ⟨rfl, by rw [pss6]; exact tl_b_n.mpr ⟨hsc.mp (by omega), h228, h238⟩, hp254⟩) hW hS (lv_sub hl [1, 0] rfl)
              | exact tail 0 A _ _ _ (Or.inl ⟨rfl, by rw [pss6]; exact tl_b_0.mpr (fun q => absurd (hsc.mpr q.1) (by omega)), g.2.2.2.2.2⟩) hW hS (lv_sub hl [1, 0] rfl)
              | exact tail 0 A _ _ _ (Or.inl ⟨rfl, by rw [pss6]; exact tl_b_0.mpr (fun q => h228 q.2.1), g.2.2.2.2.2⟩) hW hS (lv_sub hl [1, 0] rfl)
              | exact tail 0 A _ _ _ (Or.inl ⟨rfl, by rw [pss6]; exact tl_b_0.mpr (fun q => h238 q.2.2), g.2.2.2.2.2⟩) hW hS (lv_sub hl [1, 0] rfl)
              | exact absurd h249 (by decide)
          · refine lv_iload_n hx hb dX9_slips_201 rfl (lv_at hl 2 rfl) ?_
            refine ti_iconst hx hb dX9_slips_202 ?_
            refine ti_icmp_ne (tgt := 216) hx hb dX9_slips_203 (by decide) (by decide) (by decide) (fun h203 => ?_) (fun h203 => ?_)
            · refine lv_iload_n hx hb dX9_slips_216 rfl (lv_at hl 2 rfl) ?_
              refine ti_bipush hx hb dX9_slips_217 (by decide) ?_
              refine ti_icmp_ne (tgt := 242) hx hb dX9_slips_219 (by decide) (by decide) (by decide) (fun h219 => ?_) (fun h219 => ?_)
              · exact absurd h219 (by decide)
              · refine lv_aload_n hx hb dX9_slips_222 rfl (lv_at hl 1 rfl) ?_
                refine ti_iconst hx hb dX9_slips_223 ?_
                refine tm_calll (cs_X9_169 hx hb hml hown htw hK hW (by assumption) (c_X9_above (n := 1) g.1 (by decide)) ⟨rfl, rfl, Nat.le_of_ble_eq_true rfl, Nat.le_of_ble_eq_true rfl⟩ hl.1 (Nat.le_of_ble_eq_true rfl) dX9_slips_224 ⟨Nat.le_of_ble_eq_true rfl, Nat.le_of_ble_eq_true rfl⟩) hS (fun x224 M224 H locs hp224 hW hS => ?_)
                obtain ⟨ex224, eM224⟩ := hp224
                rw [eM224] at hW
                rw [ex224, a1]
                refine ti_lconst0 hx hb dX9_slips_227 ?_
                refine ti_lcmp_ne (tgt := 246) hx hb dX9_slips_228 dX9_slips_229 (by decide) (by unfold fok at q2; omega) (by decide) (fun h228 => ?_) (fun h228 => ?_)
                · refine ti_iconst hx hb dX9_slips_246 ?_
                  refine lv_istore_n (lv' := [(3, _), (0, _), (1, _), (2, _)]) hx hb dX9_slips_247 rfl hl (by decide) rfl (fun ls hl => ?_)
                  refine lv_iload_n hx hb dX9_slips_248 rfl (lv_at hl 0 rfl) ?_
                  refine ti_if_eq (tgt := 257) hx hb dX9_slips_249 (by decide) (by decide) (fun h249 => ?_) (fun h249 => ?_)
                  · first
                    | exact tail 1 M254 _ _ _ (Or.inr ⟨rfl, by rw [pss6]; exact tl_b_n.mpr ⟨hsc.mp (by omega), h228, h238⟩, hp254⟩) hW hS (lv_sub hl [1, 0] rfl)
                    | exact tail 0 A _ _ _ (Or.inl ⟨rfl, by rw [pss6]; exact tl_b_0.mpr (fun q => absurd (hsc.mpr q.1) (by omega)), g.2.2.2.2.2⟩) hW hS (lv_sub hl [1, 0] rfl)
                    | exact tail 0 A _ _ _ (Or.inl ⟨rfl, by rw [pss6]; exact tl_b_0.mpr (fun q => h228 q.2.1), g.2.2.2.2.2⟩) hW hS (lv_sub hl [1, 0] rfl)
                    | exact tail 0 A _ _ _ (Or.inl ⟨rfl, by rw [pss6]; exact tl_b_0.mpr (fun q => h238 q.2.2), g.2.2.2.2.2⟩) hW hS (lv_sub hl [1, 0] rfl)
                    | exact absurd h249 (by decide)
                  · refine lv_aload_n hx hb dX9_slips_252 rfl (lv_at hl 1 rfl) ?_
                    refine lv_iload_n hx hb dX9_slips_253 rfl (lv_at hl 2 rfl) ?_
                    refine tm_callv (cs_X9_193 hx hb hml hown htw hK hW (by assumption) (c_X9_scaled6 g hv (hsc.mp (by omega)).1) ⟨rfl, rfl, Nat.le_of_ble_eq_true rfl, Nat.le_of_ble_eq_true rfl⟩ hl.1 (Nat.le_of_ble_eq_true rfl) dX9_slips_254 ⟨Nat.le_of_ble_eq_true rfl, Nat.le_of_ble_eq_true rfl⟩) hS (fun M254 H locs hp254 hW hS => ?_)
                    first
                    | exact tail 1 M254 _ _ _ (Or.inr ⟨rfl, by rw [pss6]; exact tl_b_n.mpr ⟨hsc.mp (by omega), h228, h238⟩, hp254⟩) hW hS (lv_sub hl [1, 0] rfl)
                    | exact tail 0 A _ _ _ (Or.inl ⟨rfl, by rw [pss6]; exact tl_b_0.mpr (fun q => absurd (hsc.mpr q.1) (by omega)), g.2.2.2.2.2⟩) hW hS (lv_sub hl [1, 0] rfl)
                    | exact tail 0 A _ _ _ (Or.inl ⟨rfl, by rw [pss6]; exact tl_b_0.mpr (fun q => h228 q.2.1), g.2.2.2.2.2⟩) hW hS (lv_sub hl [1, 0] rfl)
                    | exact tail 0 A _ _ _ (Or.inl ⟨rfl, by rw [pss6]; exact tl_b_0.mpr (fun q => h238 q.2.2), g.2.2.2.2.2⟩) hW hS (lv_sub hl [1, 0] rfl)
                    | exact absurd h249 (by decide)
                · refine lv_aload_n hx hb dX9_slips_232 rfl (lv_at hl 1 rfl) ?_
                  refine ti_iconst hx hb dX9_slips_233 ?_
                  refine tm_calll (cs_X9_169 hx hb hml hown htw hK hW (by assumption) (c_X9_above (n := 2) g.1 (by decide)) ⟨rfl, rfl, Nat.le_of_ble_eq_true rfl, Nat.le_of_ble_eq_true rfl⟩ hl.1 (Nat.le_of_ble_eq_true rfl) dX9_slips_234 ⟨Nat.le_of_ble_eq_true rfl, Nat.le_of_ble_eq_true rfl⟩) hS (fun x234 M234 H locs hp234 hW hS => ?_)
                  obtain ⟨ex234, eM234⟩ := hp234
                  rw [eM234] at hW
                  rw [ex234, a2]
                  refine ti_lconst0 hx hb dX9_slips_237 ?_
                  refine ti_lcmp_ne (tgt := 246) hx hb dX9_slips_238 dX9_slips_239 (by decide) (by unfold fok at q3; omega) (by decide) (fun h238 => ?_) (fun h238 => ?_)
                  · refine ti_iconst hx hb dX9_slips_246 ?_
                    refine lv_istore_n (lv' := [(3, _), (0, _), (1, _), (2, _)]) hx hb dX9_slips_247 rfl hl (by decide) rfl (fun ls hl => ?_)
                    refine lv_iload_n hx hb dX9_slips_248 rfl (lv_at hl 0 rfl) ?_
                    refine ti_if_eq (tgt := 257) hx hb dX9_slips_249 (by decide) (by decide) (fun h249 => ?_) (fun h249 => ?_)
                    · first
                      | exact tail 1 M254 _ _ _ (Or.inr ⟨rfl, by rw [pss6]; exact tl_b_n.mpr ⟨hsc.mp (by omega), h228, h238⟩, hp254⟩) hW hS (lv_sub hl [1, 0] rfl)
                      | exact tail 0 A _ _ _ (Or.inl ⟨rfl, by rw [pss6]; exact tl_b_0.mpr (fun q => absurd (hsc.mpr q.1) (by omega)), g.2.2.2.2.2⟩) hW hS (lv_sub hl [1, 0] rfl)
                      | exact tail 0 A _ _ _ (Or.inl ⟨rfl, by rw [pss6]; exact tl_b_0.mpr (fun q => h228 q.2.1), g.2.2.2.2.2⟩) hW hS (lv_sub hl [1, 0] rfl)
                      | exact tail 0 A _ _ _ (Or.inl ⟨rfl, by rw [pss6]; exact tl_b_0.mpr (fun q => h238 q.2.2), g.2.2.2.2.2⟩) hW hS (lv_sub hl [1, 0] rfl)
                      | exact absurd h249 (by decide)
                    · refine lv_aload_n hx hb dX9_slips_252 rfl (lv_at hl 1 rfl) ?_
                      refine lv_iload_n hx hb dX9_slips_253 rfl (lv_at hl 2 rfl) ?_
                      refine tm_callv (cs_X9_193 hx hb hml hown htw hK hW (by assumption) (c_X9_scaled6 g hv (hsc.mp (by omega)).1) ⟨rfl, rfl, Nat.le_of_ble_eq_true rfl, Nat.le_of_ble_eq_true rfl⟩ hl.1 (Nat.le_of_ble_eq_true rfl) dX9_slips_254 ⟨Nat.le_of_ble_eq_true rfl, Nat.le_of_ble_eq_true rfl⟩) hS (fun M254 H locs hp254 hW hS => ?_)
                      first
                      | exact tail 1 M254 _ _ _ (Or.inr ⟨rfl, by rw [pss6]; exact tl_b_n.mpr ⟨hsc.mp (by omega), h228, h238⟩, hp254⟩) hW hS (lv_sub hl [1, 0] rfl)
                      | exact tail 0 A _ _ _ (Or.inl ⟨rfl, by rw [pss6]; exact tl_b_0.mpr (fun q => absurd (hsc.mpr q.1) (by omega)), g.2.2.2.2.2⟩) hW hS (lv_sub hl [1, 0] rfl)
                      | exact tail 0 A _ _ _ (Or.inl ⟨rfl, by rw [pss6]; exact tl_b_0.mpr (fun q => h228 q.2.1), g.2.2.2.2.2⟩) hW hS (lv_sub hl [1, 0] rfl)
                      | exact tail 0 A _ _ _ (Or.inl ⟨rfl, by rw [pss6]; exact tl_b_0.mpr (fun q => h238 q.2.2), g.2.2.2.2.2⟩) hW hS (lv_sub hl [1, 0] rfl)
                      | exact absurd h249 (by decide)
                  · refine ti_iconst hx hb dX9_slips_242 ?_
                    refine lv_goto (tgt := 247) hx hb dX9_slips_243 (by decide) ?_
                    refine lv_istore_n (lv' := [(3, _), (0, _), (1, _), (2, _)]) hx hb dX9_slips_247 rfl hl (by decide) rfl (fun ls hl => ?_)
                    refine lv_iload_n hx hb dX9_slips_248 rfl (lv_at hl 0 rfl) ?_
                    refine ti_if_eq (tgt := 257) hx hb dX9_slips_249 (by decide) (by decide) (fun h249 => ?_) (fun h249 => ?_)
                    · first
                      | exact tail 1 M254 _ _ _ (Or.inr ⟨rfl, by rw [pss6]; exact tl_b_n.mpr ⟨hsc.mp (by omega), h228, h238⟩, hp254⟩) hW hS (lv_sub hl [1, 0] rfl)
                      | exact tail 0 A _ _ _ (Or.inl ⟨rfl, by rw [pss6]; exact tl_b_0.mpr (fun q => absurd (hsc.mpr q.1) (by omega)), g.2.2.2.2.2⟩) hW hS (lv_sub hl [1, 0] rfl)
                      | exact tail 0 A _ _ _ (Or.inl ⟨rfl, by rw [pss6]; exact tl_b_0.mpr (fun q => h228 q.2.1), g.2.2.2.2.2⟩) hW hS (lv_sub hl [1, 0] rfl)
                      | exact tail 0 A _ _ _ (Or.inl ⟨rfl, by rw [pss6]; exact tl_b_0.mpr (fun q => h238 q.2.2), g.2.2.2.2.2⟩) hW hS (lv_sub hl [1, 0] rfl)
                      | exact absurd h249 (by decide)
                    · refine lv_aload_n hx hb dX9_slips_252 rfl (lv_at hl 1 rfl) ?_
                      refine lv_iload_n hx hb dX9_slips_253 rfl (lv_at hl 2 rfl) ?_
                      refine tm_callv (cs_X9_193 hx hb hml hown htw hK hW (by assumption) (c_X9_scaled6 g hv (hsc.mp (by omega)).1) ⟨rfl, rfl, Nat.le_of_ble_eq_true rfl, Nat.le_of_ble_eq_true rfl⟩ hl.1 (Nat.le_of_ble_eq_true rfl) dX9_slips_254 ⟨Nat.le_of_ble_eq_true rfl, Nat.le_of_ble_eq_true rfl⟩) hS (fun M254 H locs hp254 hW hS => ?_)
                      first
                      | exact tail 1 M254 _ _ _ (Or.inr ⟨rfl, by rw [pss6]; exact tl_b_n.mpr ⟨hsc.mp (by omega), h228, h238⟩, hp254⟩) hW hS (lv_sub hl [1, 0] rfl)
                      | exact tail 0 A _ _ _ (Or.inl ⟨rfl, by rw [pss6]; exact tl_b_0.mpr (fun q => absurd (hsc.mpr q.1) (by omega)), g.2.2.2.2.2⟩) hW hS (lv_sub hl [1, 0] rfl)
                      | exact tail 0 A _ _ _ (Or.inl ⟨rfl, by rw [pss6]; exact tl_b_0.mpr (fun q => h228 q.2.1), g.2.2.2.2.2⟩) hW hS (lv_sub hl [1, 0] rfl)
                      | exact tail 0 A _ _ _ (Or.inl ⟨rfl, by rw [pss6]; exact tl_b_0.mpr (fun q => h238 q.2.2), g.2.2.2.2.2⟩) hW hS (lv_sub hl [1, 0] rfl)
                      | exact absurd h249 (by decide)
            · exact absurd h203 (by decide)
        · exact absurd h129 (by decide)
      · exact absurd h86 (by decide)
    · exact absurd h43 (by decide)
  refine lv_aload_n hx hb dX9_slips_0 rfl (lv_at hl 0 rfl) ?_
  refine lv_aload_n hx hb dX9_slips_1 rfl (lv_at hl 0 rfl) ?_
  refine tm_calli (cs_X9_166 hx hb hml hown htw hK hW (by assumption) (c_X9_last h) ⟨rfl, rfl, Nat.le_of_ble_eq_true rfl, Nat.le_of_ble_eq_true rfl⟩ hl.1 (Nat.le_of_ble_eq_true rfl) dX9_slips_2 ⟨Nat.le_of_ble_eq_true rfl, Nat.le_of_ble_eq_true rfl⟩) hS (fun x2 M2 H locs hp2 hW hS => ?_)
  obtain ⟨ex2, eM2⟩ := hp2
  rw [eM2] at hW
  rw [ex2]
  refine ti_bipush hx hb dX9_slips_5 (by decide) ?_
  refine tm_callv (cs_X9_180 hx hb hml hown htw hK hW (by assumption) (c_X9_copyLine (i := N - 1) (j := 43) h.1 (by omega) (by decide) (by omega)) ⟨rfl, rfl, Nat.le_of_ble_eq_true rfl, Nat.le_of_ble_eq_true rfl⟩ hl.1 (Nat.le_of_ble_eq_true rfl) dX9_slips_7 ⟨Nat.le_of_ble_eq_true rfl, Nat.le_of_ble_eq_true rfl⟩) hS (fun M7 H locs hp7 hW hS => ?_)
  obtain ⟨e7, f7⟩ := hp7
  refine lv_aload_n hx hb dX9_slips_10 rfl (lv_at hl 0 rfl) ?_
  refine ti_iconst hx hb dX9_slips_11 ?_
  refine pf_X9_162 hx hb htw hown hK hW (by assumption) hS (Or.inr rfl) dX9_slips_12 (fun H locs hW hS => ?_)
  have g := mo1_0 (i := 43) h (by decide) hr0 e7 f7
  generalize sI M7 o 28 1 = A at hW g
  obtain ⟨a0, a1, a2, a3, a4⟩ := rl_at g.2.1
  refine lv_aload_n hx hb dX9_slips_15 rfl (lv_at hl 0 rfl) ?_
  refine ti_iconst hx hb dX9_slips_16 ?_
  refine tm_calll (cs_X9_169 hx hb hml hown htw hK hW (by assumption) (c_X9_above (n := 0) g.1 (by decide)) ⟨rfl, rfl, Nat.le_of_ble_eq_true rfl, Nat.le_of_ble_eq_true rfl⟩ hl.1 (Nat.le_of_ble_eq_true rfl) dX9_slips_17 ⟨Nat.le_of_ble_eq_true rfl, Nat.le_of_ble_eq_true rfl⟩) hS (fun x17 M17 H locs hp17 hW hS => ?_)
  obtain ⟨ex17, eM17⟩ := hp17
  rw [eM17] at hW
  rw [ex17, a0]
  refine ti_lconst0 hx hb dX9_slips_20 ?_
  refine ti_lcmp_eq (tgt := 37) hx hb dX9_slips_21 dX9_slips_22 (by decide) (by unfold fok at q1; omega) (by decide) (fun h21 => ?_) (fun h21 => ?_)
  · refine ti_iconst hx hb dX9_slips_37 ?_
    refine lv_istore_n (lv' := [(2, _), (0, _), (1, _)]) hx hb dX9_slips_38 rfl hl (by decide) rfl (fun ls hl => ?_)
    first
    | exact rest39 1 A _ _ _ (Or.inr rfl) ⟨fun _ => ⟨h21, tl_b_0.mp h30⟩, fun _ => rfl⟩ g hW hS (lv_sub hl [1, 2, 0] rfl)
    | exact rest39 0 A _ _ _ (Or.inl rfl) ⟨fun q => absurd q (by decide), fun q => absurd (tl_b_n.mp h30) q.2⟩ g hW hS (lv_sub hl [1, 2, 0] rfl)
    | exact rest39 0 A _ _ _ (Or.inl rfl) ⟨fun q => absurd q (by decide), fun q => absurd h21 q.1⟩ g hW hS (lv_sub hl [1, 2, 0] rfl)
  · refine lv_aload_n hx hb dX9_slips_25 rfl (lv_at hl 0 rfl) ?_
    refine ti_iconst hx hb dX9_slips_26 ?_
    refine tm_calli (cs_X9_188 hx hb hml hown htw hK hW (by assumption) (c_X9_isOne (n := 0) g.1 (by decide) (by rw [a0]; exact fLok_of q1)) ⟨rfl, rfl, Nat.le_of_ble_eq_true rfl, Nat.le_of_ble_eq_true rfl⟩ hl.1 (Nat.le_of_ble_eq_true rfl) dX9_slips_27 ⟨Nat.le_of_ble_eq_true rfl, Nat.le_of_ble_eq_true rfl⟩) hS (fun x27 M27 H locs hp27 hW hS => ?_)
    obtain ⟨ex27, eM27⟩ := hp27
    rw [eM27] at hW
    rw [ex27, a0]
    refine ti_if_ne (tgt := 37) hx hb dX9_slips_30 (by decide) (tl_b_r _) (fun h30 => ?_) (fun h30 => ?_)
    · refine ti_iconst hx hb dX9_slips_37 ?_
      refine lv_istore_n (lv' := [(2, _), (0, _), (1, _)]) hx hb dX9_slips_38 rfl hl (by decide) rfl (fun ls hl => ?_)
      first
      | exact rest39 1 A _ _ _ (Or.inr rfl) ⟨fun _ => ⟨h21, tl_b_0.mp h30⟩, fun _ => rfl⟩ g hW hS (lv_sub hl [1, 2, 0] rfl)
      | exact rest39 0 A _ _ _ (Or.inl rfl) ⟨fun q => absurd q (by decide), fun q => absurd (tl_b_n.mp h30) q.2⟩ g hW hS (lv_sub hl [1, 2, 0] rfl)
      | exact rest39 0 A _ _ _ (Or.inl rfl) ⟨fun q => absurd q (by decide), fun q => absurd h21 q.1⟩ g hW hS (lv_sub hl [1, 2, 0] rfl)
    · refine ti_iconst hx hb dX9_slips_33 ?_
      refine lv_goto (tgt := 38) hx hb dX9_slips_34 (by decide) ?_
      refine lv_istore_n (lv' := [(2, _), (0, _), (1, _)]) hx hb dX9_slips_38 rfl hl (by decide) rfl (fun ls hl => ?_)
      first
      | exact rest39 1 A _ _ _ (Or.inr rfl) ⟨fun _ => ⟨h21, tl_b_0.mp h30⟩, fun _ => rfl⟩ g hW hS (lv_sub hl [1, 2, 0] rfl)
      | exact rest39 0 A _ _ _ (Or.inl rfl) ⟨fun q => absurd q (by decide), fun q => absurd (tl_b_n.mp h30) q.2⟩ g hW hS (lv_sub hl [1, 2, 0] rfl)
      | exact rest39 0 A _ _ _ (Or.inl rfl) ⟨fun q => absurd q (by decide), fun q => absurd h21 q.1⟩ g hW hS (lv_sub hl [1, 2, 0] rfl)
