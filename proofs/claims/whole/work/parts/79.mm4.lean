/-! TutorLinesModel: parts, witness (by program: wip/whole/gen/mm4.py) -/
theorem nok_norm {x y : Int} (h : nok (x, y)) : tl_norm x y = (x, y) := tl_norm_self h.1.2.1 h.2
theorem nok_sh {v : tl_L} {k : Int} (h : lok v) (hk : -1 ≤ k ∧ k ≤ 1) : nok (tl_sh (tl_solve v).2 k) := by
  have hs := sook_solve h
  refine ⟨pok_sh ⟨hs.2.1, hs.2.2.1, hs.2.2.2.1⟩ hk, ?_⟩
  show Int.gcd ((tl_solve v).2.1 + k * (tl_solve v).2.2) (tl_solve v).2.2 = 1
  rw [Int.gcd_add_mul_right_left]
  exact hs.2.2.2.2
theorem dX9_parts_0 : decode cX9_parts 0 = .ok (.aload_n 0, 1) := by decide +kernel
theorem dX9_parts_1 : decode cX9_parts 1 = .ok (.lload_n 1, 1) := by decide +kernel
theorem dX9_parts_2 : decode cX9_parts 2 = .ok (.lload_n 3, 1) := by decide +kernel
theorem dX9_parts_3 : decode cX9_parts 3 = .ok (.invokevirtual 106, 3) := by decide +kernel
theorem dX9_parts_6 : decode cX9_parts 6 = .ok (.aload_n 0, 1) := by decide +kernel
theorem dX9_parts_7 : decode cX9_parts 7 = .ok (.getfield 56, 3) := by decide +kernel
theorem dX9_parts_10 : decode cX9_parts 10 = .ok (.lstore 5, 2) := by decide +kernel
theorem dX9_parts_12 : decode cX9_parts 12 = .ok (.aload_n 0, 1) := by decide +kernel
theorem dX9_parts_13 : decode cX9_parts 13 = .ok (.getfield 60, 3) := by decide +kernel
theorem dX9_parts_16 : decode cX9_parts 16 = .ok (.lstore 7, 2) := by decide +kernel
theorem dX9_parts_18 : decode cX9_parts 18 = .ok (.aload_n 0, 1) := by decide +kernel
theorem dX9_parts_19 : decode cX9_parts 19 = .ok (.aload_n 0, 1) := by decide +kernel
theorem dX9_parts_20 : decode cX9_parts 20 = .ok (.invokevirtual 166, 3) := by decide +kernel
theorem dX9_parts_23 : decode cX9_parts 23 = .ok (.invokevirtual 153, 3) := by decide +kernel
theorem dX9_parts_26 : decode cX9_parts 26 = .ok (.aload_n 0, 1) := by decide +kernel
theorem dX9_parts_27 : decode cX9_parts 27 = .ok (.lload 5, 2) := by decide +kernel
theorem dX9_parts_29 : decode cX9_parts 29 = .ok (.lload 7, 2) := by decide +kernel
theorem dX9_parts_31 : decode cX9_parts 31 = .ok (.invokevirtual 156, 3) := by decide +kernel
theorem dX9_parts_34 : decode cX9_parts 34 = .ok (.istore 9, 2) := by decide +kernel
theorem dX9_parts_36 : decode cX9_parts 36 = .ok (.aload_n 0, 1) := by decide +kernel
theorem dX9_parts_37 : decode cX9_parts 37 = .ok (.bipush 41, 2) := by decide +kernel
theorem dX9_parts_39 : decode cX9_parts 39 = .ok (.invokevirtual 153, 3) := by decide +kernel
theorem dX9_parts_42 : decode cX9_parts 42 = .ok (.aload_n 0, 1) := by decide +kernel
theorem dX9_parts_43 : decode cX9_parts 43 = .ok (.lload 5, 2) := by decide +kernel
theorem dX9_parts_45 : decode cX9_parts 45 = .ok (.lload 7, 2) := by decide +kernel
theorem dX9_parts_47 : decode cX9_parts 47 = .ok (.invokevirtual 156, 3) := by decide +kernel
theorem dX9_parts_50 : decode cX9_parts 50 = .ok (.istore 10, 2) := by decide +kernel
theorem dX9_parts_52 : decode cX9_parts 52 = .ok (.aload_n 0, 1) := by decide +kernel
theorem dX9_parts_53 : decode cX9_parts 53 = .ok (.lload 5, 2) := by decide +kernel
theorem dX9_parts_55 : decode cX9_parts 55 = .ok (.putfield 56, 3) := by decide +kernel
theorem dX9_parts_58 : decode cX9_parts 58 = .ok (.aload_n 0, 1) := by decide +kernel
theorem dX9_parts_59 : decode cX9_parts 59 = .ok (.lload 7, 2) := by decide +kernel
theorem dX9_parts_61 : decode cX9_parts 61 = .ok (.putfield 60, 3) := by decide +kernel
theorem dX9_parts_64 : decode cX9_parts 64 = .ok (.iload 9, 2) := by decide +kernel
theorem dX9_parts_66 : decode cX9_parts 66 = .ok (.iload 10, 2) := by decide +kernel
theorem dX9_parts_68 : decode cX9_parts 68 = .ok (.if_icmp .eq 7, 3) := by decide +kernel
theorem dX9_parts_71 : decode cX9_parts 71 = .ok (.iconst 1, 1) := by decide +kernel
theorem dX9_parts_72 : decode cX9_parts 72 = .ok (.goto 4, 3) := by decide +kernel
theorem dX9_parts_75 : decode cX9_parts 75 = .ok (.iconst 0, 1) := by decide +kernel
theorem dX9_parts_76 : decode cX9_parts 76 = .ok (.ireturn, 1) := by decide +kernel
set_option maxHeartbeats 4000000 in
set_option maxRecDepth 100000 in
/-- TutorLinesModel.parts -/
theorem c_X9_parts {l : Launch} {G : tm_G} {Hb : Heap} {sh : tm_sh} {M : tm_M} {o : Nat} {z : tl_Z} (hz : MLv sh M o z) (hI : ZI z) {x y : Int} (hz1 : zr z = 1) (hn0 : 0 < zn z) (hn : nok (x, y)) : Met l yX9_parts (tws yX9_parts cX9_parts 11 (some .boolean)) ({ frames := 3, cells := 0, slots := 0, locals := 88 }) (va_Pc [.ref o, jl x, jl y] (tm_St G Hb sh M)) (tm_Qi G Hb sh (fun r M1 => r = (if tl_holds (tl_solve (zl z (zn z - 1))) (x, y) = tl_holds (tl_solve (zw z)) (x, y) then 0 else 1) ∧ mL M1 o 10 = x ∧ mL M1 o 11 = y ∧ fq (mP o) M M1)) 0 0 (tm_A Hb) := by
  refine tm_begin (by decide) (Nat.le_of_ble_eq_true rfl) (fun p e s m below meth c ls hx hb hr hml hown htw hlk hnm hK hW hl => ?_)
  have hS : va_S (tm_A Hb) s.heap s.heap [] := va_S.rf
  have hl : lv_has ls 11 [(0, .ref o), (1, jl x), (3, jl y)] := hl
  have h40 := hI.2.1
  obtain ⟨b0, ⟨t1, t2, t6, t7, t9, t12, t13, t14, t15, t16, t17, t24⟩, ⟨u1, u2, u3, u4, u5, u6, u7, u8, u9, u10, u11, u12⟩⟩ := hz.1
  have e3 := hz.2.2.1
  refine lv_aload_n hx hb dX9_parts_0 rfl (lv_at hl 0 rfl) ?_
  refine lv_lload_n hx hb dX9_parts_1 rfl (lv_at hl 1 rfl) ?_
  refine lv_lload_n hx hb dX9_parts_2 rfl (lv_at hl 2 rfl) ?_
  refine tm_callv (cs_X9_106 hx hb hml hown htw hK hW (by assumption) (c_X9_make b0 hn.1.1 (by have := hn.1.2; omega) (by have := hn.1.2; omega)) ⟨rfl, rfl, Nat.le_of_ble_eq_true rfl, Nat.le_of_ble_eq_true rfl⟩ hl.1 (Nat.le_of_ble_eq_true rfl) dX9_parts_3 ⟨Nat.le_of_ble_eq_true rfl, Nat.le_of_ble_eq_true rfl⟩) hS (fun M3 H locs hp3 hW hS => ?_)
  have hp3 : M3 = mk M o (tl_norm x y) := hp3
  rw [nok_norm hn] at hp3
  have m10 : mL M3 o 10 = x := by rw [hp3]; exact mk_0 _ _ _
  have m11 : mL M3 o 11 = y := by rw [hp3]; exact mk_1 _ _ _
  have f3 : fq (mP o) M M3 := by rw [hp3]; exact fq_mkP
  have F3 := fq_wd (Q := mX o) f3 (fun _ _ => mP_X)
  have V3 := MLv_m hz h40 F3
  refine lv_aload_n hx hb dX9_parts_6 rfl (lv_at hl 0 rfl) ?_
  refine gf_X9_56 hx hb htw hown hK hW (by assumption) dX9_parts_7 ?_
  rw [m10]
  refine lv_lstore (lv' := [(5, _), (0, _), (1, _), (3, _)]) hx hb dX9_parts_10 hl (by decide) rfl (fun ls hl => ?_)
  refine lv_aload_n hx hb dX9_parts_12 rfl (lv_at hl 1 rfl) ?_
  refine gf_X9_60 hx hb htw hown hK hW (by assumption) dX9_parts_13 ?_
  rw [m11]
  refine lv_lstore (lv' := [(7, _), (5, _), (0, _), (1, _), (3, _)]) hx hb dX9_parts_16 hl (by decide) rfl (fun ls hl => ?_)
  refine lv_aload_n hx hb dX9_parts_18 rfl (lv_at hl 2 rfl) ?_
  refine lv_aload_n hx hb dX9_parts_19 rfl (lv_at hl 2 rfl) ?_
  refine tm_calli (cs_X9_166 hx hb hml hown htw hK hW (by assumption) (c_X9_last (MLv_N V3 h40 hn0)) ⟨rfl, rfl, Nat.le_of_ble_eq_true rfl, Nat.le_of_ble_eq_true rfl⟩ hl.1 (Nat.le_of_ble_eq_true rfl) dX9_parts_20 ⟨Nat.le_of_ble_eq_true rfl, Nat.le_of_ble_eq_true rfl⟩) hS (fun x20 M20 H locs hp20 hW hS => ?_)
  obtain ⟨ex20, eM20⟩ := hp20
  rw [eM20] at hW
  rw [ex20]
  refine tm_callv (cs_X9_153 hx hb hml hown htw hK hW (by assumption) (c_X9_solve (i := zn z - 1) V3.1 (by omega) (by rw [MLv_l V3 hn0]; exact (ZI_l hI hn0).1)) ⟨rfl, rfl, Nat.le_of_ble_eq_true rfl, Nat.le_of_ble_eq_true rfl⟩ hl.1 (Nat.le_of_ble_eq_true rfl) dX9_parts_23 ⟨Nat.le_of_ble_eq_true rfl, Nat.le_of_ble_eq_true rfl⟩) hS (fun M23 H locs hp23 hW hS => ?_)
  obtain ⟨e23, f23⟩ := hp23
  rw [MLv_l V3 hn0] at e23
  have F23 := fq_tr F3 (fq_wd f23 (fun _ _ => mP_X))
  have V23 := MLv_m hz h40 F23
  have s1 := sook_solve (ZI_l hI hn0).1
  refine lv_aload_n hx hb dX9_parts_26 rfl (lv_at hl 2 rfl) ?_
  refine lv_lload hx hb dX9_parts_27 (lv_at hl 1 rfl) ?_
  refine lv_lload hx hb dX9_parts_29 (lv_at hl 0 rfl) ?_
  refine tm_calli (cs_X9_156 hx hb hml hown htw hK hW (by assumption) (c_X9_solves (x := x) (y := y) b0 (by rw [e23]; exact ⟨s1.1.1, s1.1.2.1⟩) (by rw [e23]; exact nok_solve (ZI_l hI hn0).1) hn) ⟨rfl, rfl, Nat.le_of_ble_eq_true rfl, Nat.le_of_ble_eq_true rfl⟩ hl.1 (Nat.le_of_ble_eq_true rfl) dX9_parts_31 ⟨Nat.le_of_ble_eq_true rfl, Nat.le_of_ble_eq_true rfl⟩) hS (fun x31 M31 H locs hp31 hW hS => ?_)
  obtain ⟨ex31, eM31⟩ := hp31
  rw [eM31] at hW
  rw [e23] at ex31
  rw [ex31]
  refine lv_istore (lv' := [(9, _), (7, _), (5, _), (0, _), (1, _), (3, _)]) hx hb dX9_parts_34 hl (by decide) rfl (fun ls hl => ?_)
  refine lv_aload_n hx hb dX9_parts_36 rfl (lv_at hl 3 rfl) ?_
  refine ti_bipush hx hb dX9_parts_37 (by decide) ?_
  refine tm_callv (cs_X9_153 hx hb hml hown htw hK hW (by assumption) (c_X9_solve (i := 41) V23.1 (by decide) (by rw [(V23.2.2.2.2.2.1 hz1).2]; exact (hI.2.2.2.2.1 hz1).2.2)) ⟨rfl, rfl, Nat.le_of_ble_eq_true rfl, Nat.le_of_ble_eq_true rfl⟩ hl.1 (Nat.le_of_ble_eq_true rfl) dX9_parts_39 ⟨Nat.le_of_ble_eq_true rfl, Nat.le_of_ble_eq_true rfl⟩) hS (fun M39 H locs hp39 hW hS => ?_)
  obtain ⟨e39, f39⟩ := hp39
  rw [(V23.2.2.2.2.2.1 hz1).2] at e39
  have F39 := fq_tr f3 (fq_tr f23 f39)
  have s2 := sook_solve (hI.2.2.2.2.1 hz1).2.2
  refine lv_aload_n hx hb dX9_parts_42 rfl (lv_at hl 3 rfl) ?_
  refine lv_lload hx hb dX9_parts_43 (lv_at hl 2 rfl) ?_
  refine lv_lload hx hb dX9_parts_45 (lv_at hl 1 rfl) ?_
  refine tm_calli (cs_X9_156 hx hb hml hown htw hK hW (by assumption) (c_X9_solves (x := x) (y := y) b0 (by rw [e39]; exact ⟨s2.1.1, s2.1.2.1⟩) (by rw [e39]; exact nok_solve (hI.2.2.2.2.1 hz1).2.2) hn) ⟨rfl, rfl, Nat.le_of_ble_eq_true rfl, Nat.le_of_ble_eq_true rfl⟩ hl.1 (Nat.le_of_ble_eq_true rfl) dX9_parts_47 ⟨Nat.le_of_ble_eq_true rfl, Nat.le_of_ble_eq_true rfl⟩) hS (fun x47 M47 H locs hp47 hW hS => ?_)
  obtain ⟨ex47, eM47⟩ := hp47
  rw [eM47] at hW
  rw [e39] at ex47
  rw [ex47]
  have z1 := tl_holds_z (tl_solve (zl z (zn z - 1))) (x, y)
  have z2 := tl_holds_z (tl_solve (zw z)) (x, y)
  refine lv_istore (lv' := [(10, _), (9, _), (7, _), (5, _), (0, _), (1, _), (3, _)]) hx hb dX9_parts_50 hl (by decide) rfl (fun ls hl => ?_)
  refine lv_aload_n hx hb dX9_parts_52 rfl (lv_at hl 4 rfl) ?_
  refine lv_lload hx hb dX9_parts_53 (lv_at hl 3 rfl) ?_
  refine pf_X9_56 hx hb htw hown hK hW (by assumption) hS dX9_parts_55 (fun H locs hW hS => ?_)
  refine lv_aload_n hx hb dX9_parts_58 rfl (lv_at hl 4 rfl) ?_
  refine lv_lload hx hb dX9_parts_59 (lv_at hl 2 rfl) ?_
  refine pf_X9_60 hx hb htw hown hK hW (by assumption) hS dX9_parts_61 (fun H locs hW hS => ?_)
  refine lv_iload hx hb dX9_parts_64 (lv_at hl 1 rfl) ?_
  refine lv_iload hx hb dX9_parts_66 (lv_at hl 0 rfl) ?_
  refine ti_icmp_eq (tgt := 75) hx hb dX9_parts_68 (by decide) (by omega) (by omega) (fun h68 => ?_) (fun h68 => ?_)
  · refine ti_iconst hx hb dX9_parts_75 ?_
    exact tm_zret hx hb hr hlk (by first | exact Or.inl rfl | exact Or.inr rfl | assumption) hK hW hS ⟨(if_pos h68).symm, (tm_up_k _ _ (by decide)).trans (tm_up_s _ _ _ _), tm_up_s _ _ _ _, fq_tr F39 (fq_tr (fq_sL (by unfold mP; omega)) (fq_sL (by unfold mP; omega)))⟩ dX9_parts_76
  · refine ti_iconst hx hb dX9_parts_71 ?_
    refine lv_goto (tgt := 76) hx hb dX9_parts_72 (by decide) ?_
    exact tm_zret hx hb hr hlk (by first | exact Or.inl rfl | exact Or.inr rfl | assumption) hK hW hS ⟨(if_neg h68).symm, (tm_up_k _ _ (by decide)).trans (tm_up_s _ _ _ _), tm_up_s _ _ _ _, fq_tr F39 (fq_tr (fq_sL (by unfold mP; omega)) (fq_sL (by unfold mP; omega)))⟩ dX9_parts_76
theorem dX9_witness_0 : decode cX9_witness 0 = .ok (.aload_n 0, 1) := by decide +kernel
theorem dX9_witness_1 : decode cX9_witness 1 = .ok (.iload_n 1, 1) := by decide +kernel
theorem dX9_witness_2 : decode cX9_witness 2 = .ok (.i2l, 1) := by decide +kernel
theorem dX9_witness_3 : decode cX9_witness 3 = .ok (.lconst 0, 1) := by decide +kernel
theorem dX9_witness_4 : decode cX9_witness 4 = .ok (.lconst 1, 1) := by decide +kernel
theorem dX9_witness_5 : decode cX9_witness 5 = .ok (.invokestatic 67, 3) := by decide +kernel
theorem dX9_witness_8 : decode cX9_witness 8 = .ok (.ifCond .ne 7, 3) := by decide +kernel
theorem dX9_witness_11 : decode cX9_witness 11 = .ok (.iconst 1, 1) := by decide +kernel
theorem dX9_witness_12 : decode cX9_witness 12 = .ok (.goto 15, 3) := by decide +kernel
theorem dX9_witness_15 : decode cX9_witness 15 = .ok (.aload_n 0, 1) := by decide +kernel
theorem dX9_witness_16 : decode cX9_witness 16 = .ok (.getfield 211, 3) := by decide +kernel
theorem dX9_witness_19 : decode cX9_witness 19 = .ok (.ifCond .eq 7, 3) := by decide +kernel
theorem dX9_witness_22 : decode cX9_witness 22 = .ok (.iconst 0, 1) := by decide +kernel
theorem dX9_witness_23 : decode cX9_witness 23 = .ok (.goto 4, 3) := by decide +kernel
theorem dX9_witness_26 : decode cX9_witness 26 = .ok (.iconst 2, 1) := by decide +kernel
theorem dX9_witness_27 : decode cX9_witness 27 = .ok (.putfield 48, 3) := by decide +kernel
theorem dX9_witness_30 : decode cX9_witness 30 = .ok (.aload_n 0, 1) := by decide +kernel
theorem dX9_witness_31 : decode cX9_witness 31 = .ok (.getfield 48, 3) := by decide +kernel
theorem dX9_witness_34 : decode cX9_witness 34 = .ok (.ifCond .le 5, 3) := by decide +kernel
theorem dX9_witness_37 : decode cX9_witness 37 = .ok (.lconst 0, 1) := by decide +kernel
theorem dX9_witness_38 : decode cX9_witness 38 = .ok (.lreturn, 1) := by decide +kernel
theorem dX9_witness_39 : decode cX9_witness 39 = .ok (.iconst 0, 1) := by decide +kernel
theorem dX9_witness_40 : decode cX9_witness 40 = .ok (.istore_n 2, 1) := by decide +kernel
theorem dX9_witness_41 : decode cX9_witness 41 = .ok (.iconst 0, 1) := by decide +kernel
theorem dX9_witness_42 : decode cX9_witness 42 = .ok (.istore_n 3, 1) := by decide +kernel
theorem dX9_witness_43 : decode cX9_witness 43 = .ok (.iload_n 3, 1) := by decide +kernel
theorem dX9_witness_44 : decode cX9_witness 44 = .ok (.bipush 6, 2) := by decide +kernel
theorem dX9_witness_46 : decode cX9_witness 46 = .ok (.if_icmp .ge 84, 3) := by decide +kernel
theorem dX9_witness_49 : decode cX9_witness 49 = .ok (.iload_n 2, 1) := by decide +kernel
theorem dX9_witness_50 : decode cX9_witness 50 = .ok (.ifCond .ne 80, 3) := by decide +kernel
theorem dX9_witness_53 : decode cX9_witness 53 = .ok (.aload_n 0, 1) := by decide +kernel
theorem dX9_witness_54 : decode cX9_witness 54 = .ok (.iload_n 3, 1) := by decide +kernel
theorem dX9_witness_55 : decode cX9_witness 55 = .ok (.iconst 2, 1) := by decide +kernel
theorem dX9_witness_56 : decode cX9_witness 56 = .ok (.irem, 1) := by decide +kernel
theorem dX9_witness_57 : decode cX9_witness 57 = .ok (.ifCond .ne 10, 3) := by decide +kernel
theorem dX9_witness_60 : decode cX9_witness 60 = .ok (.aload_n 0, 1) := by decide +kernel
theorem dX9_witness_61 : decode cX9_witness 61 = .ok (.invokevirtual 166, 3) := by decide +kernel
theorem dX9_witness_64 : decode cX9_witness 64 = .ok (.goto 5, 3) := by decide +kernel
theorem dX9_witness_67 : decode cX9_witness 67 = .ok (.bipush 41, 2) := by decide +kernel
theorem dX9_witness_69 : decode cX9_witness 69 = .ok (.invokevirtual 153, 3) := by decide +kernel
theorem dX9_witness_72 : decode cX9_witness 72 = .ok (.iload_n 3, 1) := by decide +kernel
theorem dX9_witness_73 : decode cX9_witness 73 = .ok (.iconst 2, 1) := by decide +kernel
theorem dX9_witness_74 : decode cX9_witness 74 = .ok (.if_icmp .ge 7, 3) := by decide +kernel
theorem dX9_witness_77 : decode cX9_witness 77 = .ok (.lconst 0, 1) := by decide +kernel
theorem dX9_witness_78 : decode cX9_witness 78 = .ok (.goto 15, 3) := by decide +kernel
theorem dX9_witness_81 : decode cX9_witness 81 = .ok (.iload_n 3, 1) := by decide +kernel
theorem dX9_witness_82 : decode cX9_witness 82 = .ok (.iconst 4, 1) := by decide +kernel
theorem dX9_witness_83 : decode cX9_witness 83 = .ok (.if_icmp .ge 9, 3) := by decide +kernel
theorem dX9_witness_86 : decode cX9_witness 86 = .ok (.ldc2_w 226, 3) := by decide +kernel
theorem dX9_witness_89 : decode cX9_witness 89 = .ok (.goto 4, 3) := by decide +kernel
theorem dX9_witness_92 : decode cX9_witness 92 = .ok (.lconst 1, 1) := by decide +kernel
theorem dX9_witness_93 : decode cX9_witness 93 = .ok (.lstore 4, 2) := by decide +kernel
theorem dX9_witness_95 : decode cX9_witness 95 = .ok (.aload_n 0, 1) := by decide +kernel
theorem dX9_witness_96 : decode cX9_witness 96 = .ok (.getfield 143, 3) := by decide +kernel
theorem dX9_witness_99 : decode cX9_witness 99 = .ok (.iconst 1, 1) := by decide +kernel
theorem dX9_witness_100 : decode cX9_witness 100 = .ok (.if_icmp .le 24, 3) := by decide +kernel
theorem dX9_witness_103 : decode cX9_witness 103 = .ok (.aload_n 0, 1) := by decide +kernel
theorem dX9_witness_104 : decode cX9_witness 104 = .ok (.aload_n 0, 1) := by decide +kernel
theorem dX9_witness_105 : decode cX9_witness 105 = .ok (.getfield 137, 3) := by decide +kernel
theorem dX9_witness_108 : decode cX9_witness 108 = .ok (.lload 4, 2) := by decide +kernel
theorem dX9_witness_110 : decode cX9_witness 110 = .ok (.aload_n 0, 1) := by decide +kernel
theorem dX9_witness_111 : decode cX9_witness 111 = .ok (.getfield 140, 3) := by decide +kernel
theorem dX9_witness_114 : decode cX9_witness 114 = .ok (.lmul, 1) := by decide +kernel
theorem dX9_witness_115 : decode cX9_witness 115 = .ok (.ladd, 1) := by decide +kernel
theorem dX9_witness_116 : decode cX9_witness 116 = .ok (.aload_n 0, 1) := by decide +kernel
theorem dX9_witness_117 : decode cX9_witness 117 = .ok (.getfield 140, 3) := by decide +kernel
theorem dX9_witness_120 : decode cX9_witness 120 = .ok (.invokevirtual 228, 3) := by decide +kernel
theorem dX9_witness_123 : decode cX9_witness 123 = .ok (.istore_n 2, 1) := by decide +kernel
theorem dX9_witness_124 : decode cX9_witness 124 = .ok (.iinc 3 1, 3) := by decide +kernel
theorem dX9_witness_127 : decode cX9_witness 127 = .ok (.goto (-84), 3) := by decide +kernel
theorem dX9_witness_130 : decode cX9_witness 130 = .ok (.iload_n 2, 1) := by decide +kernel
theorem dX9_witness_131 : decode cX9_witness 131 = .ok (.ifCond .ne 9, 3) := by decide +kernel
theorem dX9_witness_134 : decode cX9_witness 134 = .ok (.aload_n 0, 1) := by decide +kernel
theorem dX9_witness_135 : decode cX9_witness 135 = .ok (.lconst 0, 1) := by decide +kernel
theorem dX9_witness_136 : decode cX9_witness 136 = .ok (.lconst 1, 1) := by decide +kernel
theorem dX9_witness_137 : decode cX9_witness 137 = .ok (.invokevirtual 106, 3) := by decide +kernel
theorem dX9_witness_140 : decode cX9_witness 140 = .ok (.iload_n 1, 1) := by decide +kernel
theorem dX9_witness_141 : decode cX9_witness 141 = .ok (.ifCond .ne 10, 3) := by decide +kernel
theorem dX9_witness_144 : decode cX9_witness 144 = .ok (.aload_n 0, 1) := by decide +kernel
theorem dX9_witness_145 : decode cX9_witness 145 = .ok (.getfield 56, 3) := by decide +kernel
theorem dX9_witness_148 : decode cX9_witness 148 = .ok (.goto 7, 3) := by decide +kernel
theorem dX9_witness_151 : decode cX9_witness 151 = .ok (.aload_n 0, 1) := by decide +kernel
theorem dX9_witness_152 : decode cX9_witness 152 = .ok (.getfield 60, 3) := by decide +kernel
theorem dX9_witness_155 : decode cX9_witness 155 = .ok (.lreturn, 1) := by decide +kernel
theorem tl_te1 {A B S : Int × tl_F} {k : Int} (h : ¬ S.1 ≤ 1) : tl_tell A B S k = if tl_holds A (tl_sh S.2 k) = tl_holds B (tl_sh S.2 k) then 0 else 1 := if_pos (by omega)
theorem tl_te0 {A B S : Int × tl_F} {k : Int} (h : S.1 ≤ 1) : ¬ tl_tell A B S k = 1 := by
  unfold tl_tell
  rw [if_neg (by omega)]
  decide
theorem tl_te2 {A B S : Int × tl_F} {k r : Int} (h : ¬ S.1 ≤ 1) (e : r = if tl_holds A (tl_sh S.2 k) = tl_holds B (tl_sh S.2 k) then 0 else 1) (hz1 : ¬ r = 0) : tl_tell A B S k = 1 := by
  rw [tl_te1 h, ← e]
  split at e <;> omega
theorem tl_te3 {A B S : Int × tl_F} {k r : Int} (h : ¬ S.1 ≤ 1) (e : r = if tl_holds A (tl_sh S.2 k) = tl_holds B (tl_sh S.2 k) then 0 else 1) (hz1 : r = 0) : ¬ tl_tell A B S k = 1 := by
  rw [tl_te1 h, ← e]
  omega
theorem tl_w0 {A B : Int × tl_F} {k i : Nat} (h : ¬ tl_tell A B A (tl_sf i) = 1) : tl_wit A B (k + 1) i = if tl_tell A B B (tl_sf i) = 1 then tl_sh B.2 (tl_sf i) else tl_wit A B k (i + 1) := if_neg h
theorem tl_w1 {A B : Int × tl_F} {k i : Nat} (h : tl_tell A B A (tl_sf i) = 1) : tl_wit A B (k + 1) i = tl_sh A.2 (tl_sf i) := if_pos h
theorem tl_r01 {r : Int} {P : Prop} [Decidable P] (e : r = if P then 0 else 1) : r = 0 ∨ r = 1 := by
  split at e <;> omega
set_option maxHeartbeats 4000000 in
set_option maxRecDepth 100000 in
/-- TutorLinesModel.witness -/
theorem c_X9_witness {l : Launch} {G : tm_G} {Hb : Heap} {sh : tm_sh} {M : tm_M} {o : Nat} {z : tl_Z} (hz : MLv sh M o z) (hI : ZI z) {w : Int} (hw : inI w) : Met l yX9_witness (tws yX9_witness cX9_witness 6 (some .long)) ({ frames := 4, cells := 0, slots := 0, locals := 118 }) (va_Pc [.ref o, ji w] (tm_St G Hb sh M)) (tm_Ql G Hb sh (fun x M1 => mI M1 o 0 = (if ¬ (0 ≤ w ∧ w ≤ 1) then 1 else if zr z = 0 then 2 else 0) ∧ ((0 ≤ w ∧ w ≤ 1) → zr z = 1 → x = (if w = 0 then (tl_wit (tl_solve (zl z (zn z - 1))) (tl_solve (zw z)) 3 0).1 else (tl_wit (tl_solve (zl z (zn z - 1))) (tl_solve (zw z)) 3 0).2)) ∧ MLp sh o M z M1)) 0 0 (tm_A Hb) := by
  refine tm_begin (by decide) (Nat.le_of_ble_eq_true rfl) (fun p e s m below meth c ls hx hb hr hml hown htw hlk hnm hK hW hl => ?_)
  have hS : va_S (tm_A Hb) s.heap s.heap [] := va_S.rf
  have hl : lv_has ls 6 [(0, .ref o), (1, ji w)] := hl
  have h40 := hI.2.1
  obtain ⟨b0, ⟨t1, t2, t6, t7, t9, t12, t13, t14, t15, t16, t17, t24⟩, ⟨u1, u2, u3, u4, u5, u6, u7, u8, u9, u10, u11, u12⟩⟩ := hz.1
  have e3 := hz.2.2.1
  have hzr := hI.2.2.2.1
  have ex : ∀ (M1 : tm_M) (H : Heap) (locs : List Loc) (ls : Array Slot), (0 ≤ w ∧ w ≤ 1) → zr z = 1 → mI M1 o 0 = 0 → fq (mX o) M M1 → (mL M1 o 10, mL M1 o 11) = tl_wit (tl_solve (zl z (zn z - 1))) (tl_solve (zw z)) 3 0 → tm_W G Hb sh M1 H → va_S (tm_A Hb) s.heap H locs → lv_has ls 6 [(0, .ref o), (1, ji w)] → W p l e ({ frames := 4, cells := 0, slots := 0, locals := 118 }) s m [.ref o, ji w].toArray below meth c H locs 0 0 (MQ below (tm_Ql G Hb sh (fun x M1 => mI M1 o 0 = (if ¬ (0 ≤ w ∧ w ≤ 1) then 1 else if zr z = 0 then 2 else 0) ∧ ((0 ≤ w ∧ w ≤ 1) → zr z = 1 → x = (if w = 0 then (tl_wit (tl_solve (zl z (zn z - 1))) (tl_solve (zw z)) 3 0).1 else (tl_wit (tl_solve (zl z (zn z - 1))) (tl_solve (zw z)) 3 0).2)) ∧ MLp sh o M z M1)) [.ref o, ji w].toArray s 0 0 (tm_A Hb)) (F0 m 140 ls []) := by
    intro M1 H locs ls hc hz1 h00 F e hW hS hl
    have c0 : mI M1 o 0 = (if ¬ (0 ≤ w ∧ w ≤ 1) then 1 else if zr z = 0 then 2 else 0) := h00.trans (by rw [if_neg (fun q => q hc), if_neg (by omega)])
    refine lv_iload_n hx hb dX9_witness_140 rfl (lv_at hl 1 rfl) ?_
    refine ti_if_ne (tgt := 151) hx hb dX9_witness_141 (by decide) hw (fun h141 => ?_) (fun h141 => ?_)
    · refine lv_aload_n hx hb dX9_witness_151 rfl (lv_at hl 0 rfl) ?_
      refine gf_X9_60 hx hb htw hown hK hW (by assumption) dX9_witness_152 ?_
      exact tm_lret hx hb hr hlk hK hW hS ⟨c0, fun _ _ => by rw [if_neg h141, ← e], MLp_m hz h40 F⟩ dX9_witness_155
    · refine lv_aload_n hx hb dX9_witness_144 rfl (lv_at hl 0 rfl) ?_
      refine gf_X9_56 hx hb htw hown hK hW (by assumption) dX9_witness_145 ?_
      refine lv_goto (tgt := 155) hx hb dX9_witness_148 (by decide) ?_
      exact tm_lret hx hb hr hlk hK hW hS ⟨c0, fun _ _ => by rw [if_pos h141, ← e], MLp_m hz h40 F⟩ dX9_witness_155
  have ef : ∀ (fd : Int) (M1 : tm_M) (H : Heap) (locs : List Loc) (ls : Array Slot), ¬ fd = 0 → fd = 0 ∨ fd = 1 → (0 ≤ w ∧ w ≤ 1) → zr z = 1 → mI M1 o 0 = 0 → fq (mX o) M M1 → (mL M1 o 10, mL M1 o 11) = tl_wit (tl_solve (zl z (zn z - 1))) (tl_solve (zw z)) 3 0 → tm_W G Hb sh M1 H → va_S (tm_A Hb) s.heap H locs → lv_has ls 6 [(0, .ref o), (1, ji w), (2, ji fd)] → W p l e ({ frames := 4, cells := 0, slots := 0, locals := 118 }) s m [.ref o, ji w].toArray below meth c H locs 0 0 (MQ below (tm_Ql G Hb sh (fun x M1 => mI M1 o 0 = (if ¬ (0 ≤ w ∧ w ≤ 1) then 1 else if zr z = 0 then 2 else 0) ∧ ((0 ≤ w ∧ w ≤ 1) → zr z = 1 → x = (if w = 0 then (tl_wit (tl_solve (zl z (zn z - 1))) (tl_solve (zw z)) 3 0).1 else (tl_wit (tl_solve (zl z (zn z - 1))) (tl_solve (zw z)) 3 0).2)) ∧ MLp sh o M z M1)) [.ref o, ji w].toArray s 0 0 (tm_A Hb)) (F0 m 130 ls []) := by
    intro fd M1 H locs ls hfd hfe hc hz1 h00 F e hW hS hl
    refine lv_iload_n hx hb dX9_witness_130 rfl (lv_at hl 2 rfl) ?_
    refine ti_if_ne (tgt := 140) hx hb dX9_witness_131 (by decide) (by omega) (fun h131 => ?_) (fun h131 => ?_)
    · exact ex M1 _ _ _ hc hz1 h00 F e hW hS (lv_sub hl [0, 1] rfl)
    · exact absurd h131 hfd
  have n6 : ∀ (M1 : tm_M) (H : Heap) (locs : List Loc) (ls : Array Slot), (0 ≤ w ∧ w ≤ 1) → zr z = 1 → mI M1 o 0 = 0 → fq (mX o) M M1 → tl_wit (tl_solve (zl z (zn z - 1))) (tl_solve (zw z)) 3 0 = (0, 1) → tm_W G Hb sh M1 H → va_S (tm_A Hb) s.heap H locs → lv_has ls 6 [(0, .ref o), (1, ji w), (2, ji 0), (3, ji (5 + 1))] → W p l e ({ frames := 4, cells := 0, slots := 0, locals := 118 }) s m [.ref o, ji w].toArray below meth c H locs 0 0 (MQ below (tm_Ql G Hb sh (fun x M1 => mI M1 o 0 = (if ¬ (0 ≤ w ∧ w ≤ 1) then 1 else if zr z = 0 then 2 else 0) ∧ ((0 ≤ w ∧ w ≤ 1) → zr z = 1 → x = (if w = 0 then (tl_wit (tl_solve (zl z (zn z - 1))) (tl_solve (zw z)) 3 0).1 else (tl_wit (tl_solve (zl z (zn z - 1))) (tl_solve (zw z)) 3 0).2)) ∧ MLp sh o M z M1)) [.ref o, ji w].toArray s 0 0 (tm_A Hb)) (F0 m 43 ls []) := by
    intro M1 H locs ls hc hz1 h00 F e hW hS hl
    refine lv_iload_n hx hb dX9_witness_43 rfl (lv_at hl 3 rfl) ?_
    refine ti_bipush hx hb dX9_witness_44 (by decide) ?_
    refine ti_icmp_ge (tgt := 130) hx hb dX9_witness_46 (by decide) (by decide) (by decide) (fun h46 => ?_) (fun h46 => ?_)
    · refine lv_iload_n hx hb dX9_witness_130 rfl (lv_at hl 2 rfl) ?_
      refine ti_if_ne (tgt := 140) hx hb dX9_witness_131 (by decide) (by decide) (fun h131 => ?_) (fun h131 => ?_)
      · exact absurd rfl h131
      · refine lv_aload_n hx hb dX9_witness_134 rfl (lv_at hl 0 rfl) ?_
        refine ti_lconst0 hx hb dX9_witness_135 ?_
        refine ti_lconst1 hx hb dX9_witness_136 ?_
        refine tm_callv (cs_X9_106 hx hb hml hown htw hK hW (by assumption) (c_X9_make b0 (by decide) (by decide) (by decide)) ⟨rfl, rfl, Nat.le_of_ble_eq_true rfl, Nat.le_of_ble_eq_true rfl⟩ hl.1 (Nat.le_of_ble_eq_true rfl) dX9_witness_137 ⟨Nat.le_of_ble_eq_true rfl, Nat.le_of_ble_eq_true rfl⟩) hS (fun M137 H locs hp137 hW hS => ?_)
        have hp137 : M137 = mk M1 o (tl_norm 0 1) := hp137
        have n01 : tl_norm 0 1 = (0, 1) := by decide
        rw [n01] at hp137
        exact ex M137 _ _ _ hc hz1 (by rw [hp137]; exact h00) (fq_tr F (by rw [hp137]; exact fq_wd fq_mkP (fun _ _ => mP_X))) (by rw [hp137, e, mk_0, mk_1]) hW hS (lv_sub hl [0, 1] rfl)
    · exact absurd (show (6 : Int) ≤ 5 + 1 by decide) h46
  have n5 : ∀ (M1 : tm_M) (H : Heap) (locs : List Loc) (ls : Array Slot), (0 ≤ w ∧ w ≤ 1) → zr z = 1 → mI M1 o 0 = 0 → fq (mX o) M M1 → tl_wit (tl_solve (zl z (zn z - 1))) (tl_solve (zw z)) 3 0 = (if tl_tell (tl_solve (zl z (zn z - 1))) (tl_solve (zw z)) (tl_solve (zw z)) (tl_sf 2) = 1 then tl_sh (tl_solve (zw z)).2 (tl_sf 2) else tl_wit (tl_solve (zl z (zn z - 1))) (tl_solve (zw z)) 0 3) → tm_W G Hb sh M1 H → va_S (tm_A Hb) s.heap H locs → lv_has ls 6 [(0, .ref o), (1, ji w), (2, ji 0), (3, ji (4 + 1))] → W p l e ({ frames := 4, cells := 0, slots := 0, locals := 118 }) s m [.ref o, ji w].toArray below meth c H locs 0 0 (MQ below (tm_Ql G Hb sh (fun x M1 => mI M1 o 0 = (if ¬ (0 ≤ w ∧ w ≤ 1) then 1 else if zr z = 0 then 2 else 0) ∧ ((0 ≤ w ∧ w ≤ 1) → zr z = 1 → x = (if w = 0 then (tl_wit (tl_solve (zl z (zn z - 1))) (tl_solve (zw z)) 3 0).1 else (tl_wit (tl_solve (zl z (zn z - 1))) (tl_solve (zw z)) 3 0).2)) ∧ MLp sh o M z M1)) [.ref o, ji w].toArray s 0 0 (tm_A Hb)) (F0 m 43 ls []) := by
    intro M1 H locs ls hc hz1 h00 F e hW hS hl
    have hn0 : 0 < zn z := (hI.2.2.2.2.1 hz1).1
    have V := MLv_m hz h40 F
    refine lv_iload_n hx hb dX9_witness_43 rfl (lv_at hl 3 rfl) ?_
    refine ti_bipush hx hb dX9_witness_44 (by decide) ?_
    refine ti_icmp_ge (tgt := 130) hx hb dX9_witness_46 (by decide) (by decide) (by decide) (fun h46 => ?_) (fun h46 => ?_)
    · exact absurd h46 (by decide)
    · refine lv_iload_n hx hb dX9_witness_49 rfl (lv_at hl 2 rfl) ?_
      refine ti_if_ne (tgt := 130) hx hb dX9_witness_50 (by decide) (by decide) (fun h50 => ?_) (fun h50 => ?_)
      · exact absurd rfl h50
      · refine lv_aload_n hx hb dX9_witness_53 rfl (lv_at hl 0 rfl) ?_
        refine lv_iload_n hx hb dX9_witness_54 rfl (lv_at hl 3 rfl) ?_
        refine ti_iconst hx hb dX9_witness_55 ?_
        refine ti_irem hx hb dX9_witness_56 (by decide) (by decide) (by decide) ?_
        refine ti_if_ne (tgt := 67) hx hb dX9_witness_57 (by decide) (by decide) (fun h57 => ?_) (fun h57 => ?_)
        · refine ti_bipush hx hb dX9_witness_67 (by decide) ?_
          refine tm_callv (cs_X9_153 hx hb hml hown htw hK hW (by assumption) (c_X9_solve (i := 41) V.1 (by omega) (by rw [(V.2.2.2.2.2.1 hz1).2]; exact (hI.2.2.2.2.1 hz1).2.2)) ⟨rfl, rfl, Nat.le_of_ble_eq_true rfl, Nat.le_of_ble_eq_true rfl⟩ hl.1 (Nat.le_of_ble_eq_true rfl) dX9_witness_69 ⟨Nat.le_of_ble_eq_true rfl, Nat.le_of_ble_eq_true rfl⟩) hS (fun M69 H locs hp69 hW hS => ?_)
          obtain ⟨e69, f69⟩ := hp69
          rw [(V.2.2.2.2.2.1 hz1).2] at e69
          have k0 : mI M69 o 25 = ((tl_solve (zw z))).1 := congrArg (fun q => q.1) e69
          have k1 : mL M69 o 26 = ((tl_solve (zw z))).2.1 := congrArg (fun q => q.2.1) e69
          have k2 : mL M69 o 27 = ((tl_solve (zw z))).2.2 := congrArg (fun q => q.2.2) e69
          have F6 := fq_tr F (fq_wd f69 (fun _ _ => mP_X))
          have V6 := MLv_m hz h40 F6
          have sr : 0 ≤ ((tl_solve (zw z))).1 ∧ ((tl_solve (zw z))).1 ≤ 4 := ⟨(sook_solve (hI.2.2.2.2.1 hz1).2.2).1.1, (sook_solve (hI.2.2.2.2.1 hz1).2.2).1.2.1⟩
          have c69 : mI M69 o 0 = 0 := (f69.2 _ _ (by unfold mP; omega)).1.trans h00
          refine lv_iload_n hx hb dX9_witness_72 rfl (lv_at hl 3 rfl) ?_
          refine ti_iconst hx hb dX9_witness_73 ?_
          refine ti_icmp_ge (tgt := 81) hx hb dX9_witness_74 (by decide) (by decide) (by decide) (fun h74 => ?_) (fun h74 => ?_)
          · refine lv_iload_n hx hb dX9_witness_81 rfl (lv_at hl 3 rfl) ?_
            refine ti_iconst hx hb dX9_witness_82 ?_
            refine ti_icmp_ge (tgt := 92) hx hb dX9_witness_83 (by decide) (by decide) (by decide) (fun h83 => ?_) (fun h83 => ?_)
            · refine ti_lconst1 hx hb dX9_witness_92 ?_
              refine lv_lstore (lv' := [(4, _), (0, _), (1, _), (2, _), (3, _)]) hx hb dX9_witness_93 hl (by decide) rfl (fun ls hl => ?_)
              refine lv_aload_n hx hb dX9_witness_95 rfl (lv_at hl 1 rfl) ?_
              refine gf_X9_143 hx hb htw hown hK hW (by assumption) dX9_witness_96 ?_
              refine ti_iconst hx hb dX9_witness_99 ?_
              refine ti_icmp_le (tgt := 124) hx hb dX9_witness_100 (by decide) (by rw [k0]; omega) (by decide) (fun h100 => ?_) (fun h100 => ?_)
              · refine ti_iinc (k := 4) (lv' := [(3, _), (4, _), (0, _), (1, _), (2, _)]) hx hb dX9_witness_124 hl rfl (by decide) rfl (fun ls hl => ?_)
                refine lv_goto (tgt := 43) hx hb dX9_witness_127 (by decide) ?_
                exact n6 M69 _ _ _ hc hz1 c69 F6 (e.trans ((if_neg (tl_te0 (by rw [← k0]; exact h100))).trans rfl)) hW hS (lv_sub hl [2, 3, 4, 0] rfl)
              · refine lv_aload_n hx hb dX9_witness_103 rfl (lv_at hl 1 rfl) ?_
                refine lv_aload_n hx hb dX9_witness_104 rfl (lv_at hl 1 rfl) ?_
                refine gf_X9_137 hx hb htw hown hK hW (by assumption) dX9_witness_105 ?_
                refine lv_lload hx hb dX9_witness_108 (lv_at hl 0 rfl) ?_
                refine lv_aload_n hx hb dX9_witness_110 rfl (lv_at hl 1 rfl) ?_
                refine gf_X9_140 hx hb htw hown hK hW (by assumption) dX9_witness_111 ?_
                refine ti_lmul hx hb dX9_witness_114 ?_
                refine ti_ladd hx hb dX9_witness_115 ?_
                refine lv_aload_n hx hb dX9_witness_116 rfl (lv_at hl 1 rfl) ?_
                refine gf_X9_140 hx hb htw hown hK hW (by assumption) dX9_witness_117 ?_
                rw [show mL M69 o 26 + (1) * mL M69 o 27 = (tl_sh ((tl_solve (zw z))).2 (tl_sf 2)).1 by rw [k1, k2]; rfl, show mL M69 o 27 = (tl_sh ((tl_solve (zw z))).2 (tl_sf 2)).2 from k2]
                refine tm_calli (cs_X9_228 hx hb hml hown htw hK hW (by assumption) (c_X9_parts (x := (tl_sh ((tl_solve (zw z))).2 (tl_sf 2)).1) (y := (tl_sh ((tl_solve (zw z))).2 (tl_sf 2)).2) V6 hI hz1 hn0 (nok_sh (hI.2.2.2.2.1 hz1).2.2 (tl_sf_r 2))) ⟨rfl, rfl, Nat.le_of_ble_eq_true rfl, Nat.le_of_ble_eq_true rfl⟩ hl.1 (Nat.le_of_ble_eq_true rfl) dX9_witness_120 ⟨Nat.le_of_ble_eq_true rfl, Nat.le_of_ble_eq_true rfl⟩) hS (fun x120 M120 H locs hp120 hW hS => ?_)
                obtain ⟨x120e, m10, m11, f120⟩ := hp120
                have xr := tl_r01 x120e
                have F12 := fq_tr F6 (fq_wd f120 (fun _ _ => mP_X))
                have c120 : mI M120 o 0 = 0 := (f120.2 _ _ (by unfold mP; omega)).1.trans c69
                refine lv_istore_n (lv' := [(2, _), (4, _), (0, _), (1, _), (3, _)]) hx hb dX9_witness_123 rfl hl (by decide) rfl (fun ls hl => ?_)
                refine ti_iinc (k := 4) (lv' := [(3, _), (2, _), (4, _), (0, _), (1, _)]) hx hb dX9_witness_124 hl rfl (by decide) rfl (fun ls hl => ?_)
                refine lv_goto (tgt := 43) hx hb dX9_witness_127 (by decide) ?_
                by_cases hxz : x120 = 0
                · have hl2 := lv_sub hl [3, 4, 1, 0] rfl
                  rw [hxz] at hl2
                  exact n6 M120 _ _ _ hc hz1 c120 F12 (e.trans ((if_neg (tl_te3 (by rw [← k0]; exact h100) x120e hxz)).trans rfl)) hW hS hl2
                · refine lv_iload_n hx hb dX9_witness_43 rfl (lv_at hl 0 rfl) ?_
                  refine ti_bipush hx hb dX9_witness_44 (by decide) ?_
                  refine ti_icmp_ge (tgt := 130) hx hb dX9_witness_46 (by decide) (by decide) (by decide) (fun h46 => ?_) (fun h46 => ?_)
                  · exact ef x120 M120 _ _ _ hxz xr hc hz1 c120 F12 (by rw [m10, m11]; exact (e.trans (if_pos (tl_te2 (by rw [← k0]; exact h100) x120e hxz))).symm) hW hS (lv_sub hl [3, 4, 1] rfl)
                  · refine lv_iload_n hx hb dX9_witness_49 rfl (lv_at hl 1 rfl) ?_
                    refine ti_if_ne (tgt := 130) hx hb dX9_witness_50 (by decide) (by omega) (fun h50 => ?_) (fun h50 => ?_)
                    · exact ef x120 M120 _ _ _ hxz xr hc hz1 c120 F12 (by rw [m10, m11]; exact (e.trans (if_pos (tl_te2 (by rw [← k0]; exact h100) x120e hxz))).symm) hW hS (lv_sub hl [3, 4, 1] rfl)
                    · exact absurd h50 hxz
            · exact absurd (show (4 : Int) ≤ (4 + 1) by decide) h83
          · exact absurd (show (2 : Int) ≤ (4 + 1) by decide) h74
        · exact absurd h57 (by decide)
  have n4 : ∀ (M1 : tm_M) (H : Heap) (locs : List Loc) (ls : Array Slot), (0 ≤ w ∧ w ≤ 1) → zr z = 1 → mI M1 o 0 = 0 → fq (mX o) M M1 → tl_wit (tl_solve (zl z (zn z - 1))) (tl_solve (zw z)) 3 0 = tl_wit (tl_solve (zl z (zn z - 1))) (tl_solve (zw z)) 1 2 → tm_W G Hb sh M1 H → va_S (tm_A Hb) s.heap H locs → lv_has ls 6 [(0, .ref o), (1, ji w), (2, ji 0), (3, ji (3 + 1))] → W p l e ({ frames := 4, cells := 0, slots := 0, locals := 118 }) s m [.ref o, ji w].toArray below meth c H locs 0 0 (MQ below (tm_Ql G Hb sh (fun x M1 => mI M1 o 0 = (if ¬ (0 ≤ w ∧ w ≤ 1) then 1 else if zr z = 0 then 2 else 0) ∧ ((0 ≤ w ∧ w ≤ 1) → zr z = 1 → x = (if w = 0 then (tl_wit (tl_solve (zl z (zn z - 1))) (tl_solve (zw z)) 3 0).1 else (tl_wit (tl_solve (zl z (zn z - 1))) (tl_solve (zw z)) 3 0).2)) ∧ MLp sh o M z M1)) [.ref o, ji w].toArray s 0 0 (tm_A Hb)) (F0 m 43 ls []) := by
    intro M1 H locs ls hc hz1 h00 F e hW hS hl
    have hn0 : 0 < zn z := (hI.2.2.2.2.1 hz1).1
    have V := MLv_m hz h40 F
    refine lv_iload_n hx hb dX9_witness_43 rfl (lv_at hl 3 rfl) ?_
    refine ti_bipush hx hb dX9_witness_44 (by decide) ?_
    refine ti_icmp_ge (tgt := 130) hx hb dX9_witness_46 (by decide) (by decide) (by decide) (fun h46 => ?_) (fun h46 => ?_)
    · exact absurd h46 (by decide)
    · refine lv_iload_n hx hb dX9_witness_49 rfl (lv_at hl 2 rfl) ?_
      refine ti_if_ne (tgt := 130) hx hb dX9_witness_50 (by decide) (by decide) (fun h50 => ?_) (fun h50 => ?_)
      · exact absurd rfl h50
      · refine lv_aload_n hx hb dX9_witness_53 rfl (lv_at hl 0 rfl) ?_
        refine lv_iload_n hx hb dX9_witness_54 rfl (lv_at hl 3 rfl) ?_
        refine ti_iconst hx hb dX9_witness_55 ?_
        refine ti_irem hx hb dX9_witness_56 (by decide) (by decide) (by decide) ?_
        refine ti_if_ne (tgt := 67) hx hb dX9_witness_57 (by decide) (by decide) (fun h57 => ?_) (fun h57 => ?_)
        · exact absurd (show ((3 + 1) : Int).tmod 2 = 0 by decide) h57
        · refine lv_aload_n hx hb dX9_witness_60 rfl (lv_at hl 0 rfl) ?_
          refine tm_calli (cs_X9_166 hx hb hml hown htw hK hW (by assumption) (c_X9_last (MLv_N V h40 hn0)) ⟨rfl, rfl, Nat.le_of_ble_eq_true rfl, Nat.le_of_ble_eq_true rfl⟩ hl.1 (Nat.le_of_ble_eq_true rfl) dX9_witness_61 ⟨Nat.le_of_ble_eq_true rfl, Nat.le_of_ble_eq_true rfl⟩) hS (fun x61 M61 H locs hp61 hW hS => ?_)
          obtain ⟨ex61, eM61⟩ := hp61
          rw [eM61] at hW
          rw [ex61]
          refine lv_goto (tgt := 69) hx hb dX9_witness_64 (by decide) ?_
          refine tm_callv (cs_X9_153 hx hb hml hown htw hK hW (by assumption) (c_X9_solve (i := zn z - 1) V.1 (by omega) (by rw [MLv_l V hn0]; exact (ZI_l hI hn0).1)) ⟨rfl, rfl, Nat.le_of_ble_eq_true rfl, Nat.le_of_ble_eq_true rfl⟩ hl.1 (Nat.le_of_ble_eq_true rfl) dX9_witness_69 ⟨Nat.le_of_ble_eq_true rfl, Nat.le_of_ble_eq_true rfl⟩) hS (fun M69 H locs hp69 hW hS => ?_)
          obtain ⟨e69, f69⟩ := hp69
          rw [MLv_l V hn0] at e69
          have k0 : mI M69 o 25 = ((tl_solve (zl z (zn z - 1)))).1 := congrArg (fun q => q.1) e69
          have k1 : mL M69 o 26 = ((tl_solve (zl z (zn z - 1)))).2.1 := congrArg (fun q => q.2.1) e69
          have k2 : mL M69 o 27 = ((tl_solve (zl z (zn z - 1)))).2.2 := congrArg (fun q => q.2.2) e69
          have F6 := fq_tr F (fq_wd f69 (fun _ _ => mP_X))
          have V6 := MLv_m hz h40 F6
          have sr : 0 ≤ ((tl_solve (zl z (zn z - 1)))).1 ∧ ((tl_solve (zl z (zn z - 1)))).1 ≤ 4 := ⟨(sook_solve (ZI_l hI hn0).1).1.1, (sook_solve (ZI_l hI hn0).1).1.2.1⟩
          have c69 : mI M69 o 0 = 0 := (f69.2 _ _ (by unfold mP; omega)).1.trans h00
          refine lv_iload_n hx hb dX9_witness_72 rfl (lv_at hl 3 rfl) ?_
          refine ti_iconst hx hb dX9_witness_73 ?_
          refine ti_icmp_ge (tgt := 81) hx hb dX9_witness_74 (by decide) (by decide) (by decide) (fun h74 => ?_) (fun h74 => ?_)
          · refine lv_iload_n hx hb dX9_witness_81 rfl (lv_at hl 3 rfl) ?_
            refine ti_iconst hx hb dX9_witness_82 ?_
            refine ti_icmp_ge (tgt := 92) hx hb dX9_witness_83 (by decide) (by decide) (by decide) (fun h83 => ?_) (fun h83 => ?_)
            · refine ti_lconst1 hx hb dX9_witness_92 ?_
              refine lv_lstore (lv' := [(4, _), (0, _), (1, _), (2, _), (3, _)]) hx hb dX9_witness_93 hl (by decide) rfl (fun ls hl => ?_)
              refine lv_aload_n hx hb dX9_witness_95 rfl (lv_at hl 1 rfl) ?_
              refine gf_X9_143 hx hb htw hown hK hW (by assumption) dX9_witness_96 ?_
              refine ti_iconst hx hb dX9_witness_99 ?_
              refine ti_icmp_le (tgt := 124) hx hb dX9_witness_100 (by decide) (by rw [k0]; omega) (by decide) (fun h100 => ?_) (fun h100 => ?_)
              · refine ti_iinc (k := 4) (lv' := [(3, _), (4, _), (0, _), (1, _), (2, _)]) hx hb dX9_witness_124 hl rfl (by decide) rfl (fun ls hl => ?_)
                refine lv_goto (tgt := 43) hx hb dX9_witness_127 (by decide) ?_
                exact n5 M69 _ _ _ hc hz1 c69 F6 (e.trans (tl_w0 (k := 0) (tl_te0 (by rw [← k0]; exact h100)))) hW hS (lv_sub hl [2, 3, 4, 0] rfl)
              · refine lv_aload_n hx hb dX9_witness_103 rfl (lv_at hl 1 rfl) ?_
                refine lv_aload_n hx hb dX9_witness_104 rfl (lv_at hl 1 rfl) ?_
                refine gf_X9_137 hx hb htw hown hK hW (by assumption) dX9_witness_105 ?_
                refine lv_lload hx hb dX9_witness_108 (lv_at hl 0 rfl) ?_
                refine lv_aload_n hx hb dX9_witness_110 rfl (lv_at hl 1 rfl) ?_
                refine gf_X9_140 hx hb htw hown hK hW (by assumption) dX9_witness_111 ?_
                refine ti_lmul hx hb dX9_witness_114 ?_
                refine ti_ladd hx hb dX9_witness_115 ?_
                refine lv_aload_n hx hb dX9_witness_116 rfl (lv_at hl 1 rfl) ?_
                refine gf_X9_140 hx hb htw hown hK hW (by assumption) dX9_witness_117 ?_
                rw [show mL M69 o 26 + (1) * mL M69 o 27 = (tl_sh ((tl_solve (zl z (zn z - 1)))).2 (tl_sf 2)).1 by rw [k1, k2]; rfl, show mL M69 o 27 = (tl_sh ((tl_solve (zl z (zn z - 1)))).2 (tl_sf 2)).2 from k2]
                refine tm_calli (cs_X9_228 hx hb hml hown htw hK hW (by assumption) (c_X9_parts (x := (tl_sh ((tl_solve (zl z (zn z - 1)))).2 (tl_sf 2)).1) (y := (tl_sh ((tl_solve (zl z (zn z - 1)))).2 (tl_sf 2)).2) V6 hI hz1 hn0 (nok_sh (ZI_l hI hn0).1 (tl_sf_r 2))) ⟨rfl, rfl, Nat.le_of_ble_eq_true rfl, Nat.le_of_ble_eq_true rfl⟩ hl.1 (Nat.le_of_ble_eq_true rfl) dX9_witness_120 ⟨Nat.le_of_ble_eq_true rfl, Nat.le_of_ble_eq_true rfl⟩) hS (fun x120 M120 H locs hp120 hW hS => ?_)
                obtain ⟨x120e, m10, m11, f120⟩ := hp120
                have xr := tl_r01 x120e
                have F12 := fq_tr F6 (fq_wd f120 (fun _ _ => mP_X))
                have c120 : mI M120 o 0 = 0 := (f120.2 _ _ (by unfold mP; omega)).1.trans c69
                refine lv_istore_n (lv' := [(2, _), (4, _), (0, _), (1, _), (3, _)]) hx hb dX9_witness_123 rfl hl (by decide) rfl (fun ls hl => ?_)
                refine ti_iinc (k := 4) (lv' := [(3, _), (2, _), (4, _), (0, _), (1, _)]) hx hb dX9_witness_124 hl rfl (by decide) rfl (fun ls hl => ?_)
                refine lv_goto (tgt := 43) hx hb dX9_witness_127 (by decide) ?_
                by_cases hxz : x120 = 0
                · have hl2 := lv_sub hl [3, 4, 1, 0] rfl
                  rw [hxz] at hl2
                  exact n5 M120 _ _ _ hc hz1 c120 F12 (e.trans (tl_w0 (k := 0) (tl_te3 (by rw [← k0]; exact h100) x120e hxz))) hW hS hl2
                · refine lv_iload_n hx hb dX9_witness_43 rfl (lv_at hl 0 rfl) ?_
                  refine ti_bipush hx hb dX9_witness_44 (by decide) ?_
                  refine ti_icmp_ge (tgt := 130) hx hb dX9_witness_46 (by decide) (by decide) (by decide) (fun h46 => ?_) (fun h46 => ?_)
                  · exact ef x120 M120 _ _ _ hxz xr hc hz1 c120 F12 (by rw [m10, m11]; exact (e.trans (tl_w1 (k := 0) (tl_te2 (by rw [← k0]; exact h100) x120e hxz))).symm) hW hS (lv_sub hl [3, 4, 1] rfl)
                  · refine lv_iload_n hx hb dX9_witness_49 rfl (lv_at hl 1 rfl) ?_
                    refine ti_if_ne (tgt := 130) hx hb dX9_witness_50 (by decide) (by omega) (fun h50 => ?_) (fun h50 => ?_)
                    · exact ef x120 M120 _ _ _ hxz xr hc hz1 c120 F12 (by rw [m10, m11]; exact (e.trans (tl_w1 (k := 0) (tl_te2 (by rw [← k0]; exact h100) x120e hxz))).symm) hW hS (lv_sub hl [3, 4, 1] rfl)
                    · exact absurd h50 hxz
            · exact absurd (show (4 : Int) ≤ (3 + 1) by decide) h83
          · exact absurd (show (2 : Int) ≤ (3 + 1) by decide) h74
  have n3 : ∀ (M1 : tm_M) (H : Heap) (locs : List Loc) (ls : Array Slot), (0 ≤ w ∧ w ≤ 1) → zr z = 1 → mI M1 o 0 = 0 → fq (mX o) M M1 → tl_wit (tl_solve (zl z (zn z - 1))) (tl_solve (zw z)) 3 0 = (if tl_tell (tl_solve (zl z (zn z - 1))) (tl_solve (zw z)) (tl_solve (zw z)) (tl_sf 1) = 1 then tl_sh (tl_solve (zw z)).2 (tl_sf 1) else tl_wit (tl_solve (zl z (zn z - 1))) (tl_solve (zw z)) 1 2) → tm_W G Hb sh M1 H → va_S (tm_A Hb) s.heap H locs → lv_has ls 6 [(0, .ref o), (1, ji w), (2, ji 0), (3, ji (2 + 1))] → W p l e ({ frames := 4, cells := 0, slots := 0, locals := 118 }) s m [.ref o, ji w].toArray below meth c H locs 0 0 (MQ below (tm_Ql G Hb sh (fun x M1 => mI M1 o 0 = (if ¬ (0 ≤ w ∧ w ≤ 1) then 1 else if zr z = 0 then 2 else 0) ∧ ((0 ≤ w ∧ w ≤ 1) → zr z = 1 → x = (if w = 0 then (tl_wit (tl_solve (zl z (zn z - 1))) (tl_solve (zw z)) 3 0).1 else (tl_wit (tl_solve (zl z (zn z - 1))) (tl_solve (zw z)) 3 0).2)) ∧ MLp sh o M z M1)) [.ref o, ji w].toArray s 0 0 (tm_A Hb)) (F0 m 43 ls []) := by
    intro M1 H locs ls hc hz1 h00 F e hW hS hl
    have hn0 : 0 < zn z := (hI.2.2.2.2.1 hz1).1
    have V := MLv_m hz h40 F
    refine lv_iload_n hx hb dX9_witness_43 rfl (lv_at hl 3 rfl) ?_
    refine ti_bipush hx hb dX9_witness_44 (by decide) ?_
    refine ti_icmp_ge (tgt := 130) hx hb dX9_witness_46 (by decide) (by decide) (by decide) (fun h46 => ?_) (fun h46 => ?_)
    · exact absurd h46 (by decide)
    · refine lv_iload_n hx hb dX9_witness_49 rfl (lv_at hl 2 rfl) ?_
      refine ti_if_ne (tgt := 130) hx hb dX9_witness_50 (by decide) (by decide) (fun h50 => ?_) (fun h50 => ?_)
      · exact absurd rfl h50
      · refine lv_aload_n hx hb dX9_witness_53 rfl (lv_at hl 0 rfl) ?_
        refine lv_iload_n hx hb dX9_witness_54 rfl (lv_at hl 3 rfl) ?_
        refine ti_iconst hx hb dX9_witness_55 ?_
        refine ti_irem hx hb dX9_witness_56 (by decide) (by decide) (by decide) ?_
        refine ti_if_ne (tgt := 67) hx hb dX9_witness_57 (by decide) (by decide) (fun h57 => ?_) (fun h57 => ?_)
        · refine ti_bipush hx hb dX9_witness_67 (by decide) ?_
          refine tm_callv (cs_X9_153 hx hb hml hown htw hK hW (by assumption) (c_X9_solve (i := 41) V.1 (by omega) (by rw [(V.2.2.2.2.2.1 hz1).2]; exact (hI.2.2.2.2.1 hz1).2.2)) ⟨rfl, rfl, Nat.le_of_ble_eq_true rfl, Nat.le_of_ble_eq_true rfl⟩ hl.1 (Nat.le_of_ble_eq_true rfl) dX9_witness_69 ⟨Nat.le_of_ble_eq_true rfl, Nat.le_of_ble_eq_true rfl⟩) hS (fun M69 H locs hp69 hW hS => ?_)
          obtain ⟨e69, f69⟩ := hp69
          rw [(V.2.2.2.2.2.1 hz1).2] at e69
          have k0 : mI M69 o 25 = ((tl_solve (zw z))).1 := congrArg (fun q => q.1) e69
          have k1 : mL M69 o 26 = ((tl_solve (zw z))).2.1 := congrArg (fun q => q.2.1) e69
          have k2 : mL M69 o 27 = ((tl_solve (zw z))).2.2 := congrArg (fun q => q.2.2) e69
          have F6 := fq_tr F (fq_wd f69 (fun _ _ => mP_X))
          have V6 := MLv_m hz h40 F6
          have sr : 0 ≤ ((tl_solve (zw z))).1 ∧ ((tl_solve (zw z))).1 ≤ 4 := ⟨(sook_solve (hI.2.2.2.2.1 hz1).2.2).1.1, (sook_solve (hI.2.2.2.2.1 hz1).2.2).1.2.1⟩
          have c69 : mI M69 o 0 = 0 := (f69.2 _ _ (by unfold mP; omega)).1.trans h00
          refine lv_iload_n hx hb dX9_witness_72 rfl (lv_at hl 3 rfl) ?_
          refine ti_iconst hx hb dX9_witness_73 ?_
          refine ti_icmp_ge (tgt := 81) hx hb dX9_witness_74 (by decide) (by decide) (by decide) (fun h74 => ?_) (fun h74 => ?_)
          · refine lv_iload_n hx hb dX9_witness_81 rfl (lv_at hl 3 rfl) ?_
            refine ti_iconst hx hb dX9_witness_82 ?_
            refine ti_icmp_ge (tgt := 92) hx hb dX9_witness_83 (by decide) (by decide) (by decide) (fun h83 => ?_) (fun h83 => ?_)
            · exact absurd h83 (by decide)
            · refine lv_ldc2 hx hb hown (htw _ cl_X9_226) dX9_witness_86 ?_
              refine lv_goto (tgt := 93) hx hb dX9_witness_89 (by decide) ?_
              refine lv_lstore (lv' := [(4, _), (0, _), (1, _), (2, _), (3, _)]) hx hb dX9_witness_93 hl (by decide) rfl (fun ls hl => ?_)
              refine lv_aload_n hx hb dX9_witness_95 rfl (lv_at hl 1 rfl) ?_
              refine gf_X9_143 hx hb htw hown hK hW (by assumption) dX9_witness_96 ?_
              refine ti_iconst hx hb dX9_witness_99 ?_
              refine ti_icmp_le (tgt := 124) hx hb dX9_witness_100 (by decide) (by rw [k0]; omega) (by decide) (fun h100 => ?_) (fun h100 => ?_)
              · refine ti_iinc (k := 4) (lv' := [(3, _), (4, _), (0, _), (1, _), (2, _)]) hx hb dX9_witness_124 hl rfl (by decide) rfl (fun ls hl => ?_)
                refine lv_goto (tgt := 43) hx hb dX9_witness_127 (by decide) ?_
                exact n4 M69 _ _ _ hc hz1 c69 F6 (e.trans (if_neg (tl_te0 (by rw [← k0]; exact h100)))) hW hS (lv_sub hl [2, 3, 4, 0] rfl)
              · refine lv_aload_n hx hb dX9_witness_103 rfl (lv_at hl 1 rfl) ?_
                refine lv_aload_n hx hb dX9_witness_104 rfl (lv_at hl 1 rfl) ?_
                refine gf_X9_137 hx hb htw hown hK hW (by assumption) dX9_witness_105 ?_
                refine lv_lload hx hb dX9_witness_108 (lv_at hl 0 rfl) ?_
                refine lv_aload_n hx hb dX9_witness_110 rfl (lv_at hl 1 rfl) ?_
                refine gf_X9_140 hx hb htw hown hK hW (by assumption) dX9_witness_111 ?_
                refine ti_lmul hx hb dX9_witness_114 ?_
                refine ti_ladd hx hb dX9_witness_115 ?_
                refine lv_aload_n hx hb dX9_witness_116 rfl (lv_at hl 1 rfl) ?_
                refine gf_X9_140 hx hb htw hown hK hW (by assumption) dX9_witness_117 ?_
                rw [show mL M69 o 26 + (-1) * mL M69 o 27 = (tl_sh ((tl_solve (zw z))).2 (tl_sf 1)).1 by rw [k1, k2]; rfl, show mL M69 o 27 = (tl_sh ((tl_solve (zw z))).2 (tl_sf 1)).2 from k2]
                refine tm_calli (cs_X9_228 hx hb hml hown htw hK hW (by assumption) (c_X9_parts (x := (tl_sh ((tl_solve (zw z))).2 (tl_sf 1)).1) (y := (tl_sh ((tl_solve (zw z))).2 (tl_sf 1)).2) V6 hI hz1 hn0 (nok_sh (hI.2.2.2.2.1 hz1).2.2 (tl_sf_r 1))) ⟨rfl, rfl, Nat.le_of_ble_eq_true rfl, Nat.le_of_ble_eq_true rfl⟩ hl.1 (Nat.le_of_ble_eq_true rfl) dX9_witness_120 ⟨Nat.le_of_ble_eq_true rfl, Nat.le_of_ble_eq_true rfl⟩) hS (fun x120 M120 H locs hp120 hW hS => ?_)
                obtain ⟨x120e, m10, m11, f120⟩ := hp120
                have xr := tl_r01 x120e
                have F12 := fq_tr F6 (fq_wd f120 (fun _ _ => mP_X))
                have c120 : mI M120 o 0 = 0 := (f120.2 _ _ (by unfold mP; omega)).1.trans c69
                refine lv_istore_n (lv' := [(2, _), (4, _), (0, _), (1, _), (3, _)]) hx hb dX9_witness_123 rfl hl (by decide) rfl (fun ls hl => ?_)
                refine ti_iinc (k := 4) (lv' := [(3, _), (2, _), (4, _), (0, _), (1, _)]) hx hb dX9_witness_124 hl rfl (by decide) rfl (fun ls hl => ?_)
                refine lv_goto (tgt := 43) hx hb dX9_witness_127 (by decide) ?_
                by_cases hxz : x120 = 0
                · have hl2 := lv_sub hl [3, 4, 1, 0] rfl
                  rw [hxz] at hl2
                  exact n4 M120 _ _ _ hc hz1 c120 F12 (e.trans (if_neg (tl_te3 (by rw [← k0]; exact h100) x120e hxz))) hW hS hl2
                · refine lv_iload_n hx hb dX9_witness_43 rfl (lv_at hl 0 rfl) ?_
                  refine ti_bipush hx hb dX9_witness_44 (by decide) ?_
                  refine ti_icmp_ge (tgt := 130) hx hb dX9_witness_46 (by decide) (by decide) (by decide) (fun h46 => ?_) (fun h46 => ?_)
                  · exact ef x120 M120 _ _ _ hxz xr hc hz1 c120 F12 (by rw [m10, m11]; exact (e.trans (if_pos (tl_te2 (by rw [← k0]; exact h100) x120e hxz))).symm) hW hS (lv_sub hl [3, 4, 1] rfl)
                  · refine lv_iload_n hx hb dX9_witness_49 rfl (lv_at hl 1 rfl) ?_
                    refine ti_if_ne (tgt := 130) hx hb dX9_witness_50 (by decide) (by omega) (fun h50 => ?_) (fun h50 => ?_)
                    · exact ef x120 M120 _ _ _ hxz xr hc hz1 c120 F12 (by rw [m10, m11]; exact (e.trans (if_pos (tl_te2 (by rw [← k0]; exact h100) x120e hxz))).symm) hW hS (lv_sub hl [3, 4, 1] rfl)
                    · exact absurd h50 hxz
          · exact absurd (show (2 : Int) ≤ (2 + 1) by decide) h74
        · exact absurd h57 (by decide)
  have n2 : ∀ (M1 : tm_M) (H : Heap) (locs : List Loc) (ls : Array Slot), (0 ≤ w ∧ w ≤ 1) → zr z = 1 → mI M1 o 0 = 0 → fq (mX o) M M1 → tl_wit (tl_solve (zl z (zn z - 1))) (tl_solve (zw z)) 3 0 = tl_wit (tl_solve (zl z (zn z - 1))) (tl_solve (zw z)) 2 1 → tm_W G Hb sh M1 H → va_S (tm_A Hb) s.heap H locs → lv_has ls 6 [(0, .ref o), (1, ji w), (2, ji 0), (3, ji (1 + 1))] → W p l e ({ frames := 4, cells := 0, slots := 0, locals := 118 }) s m [.ref o, ji w].toArray below meth c H locs 0 0 (MQ below (tm_Ql G Hb sh (fun x M1 => mI M1 o 0 = (if ¬ (0 ≤ w ∧ w ≤ 1) then 1 else if zr z = 0 then 2 else 0) ∧ ((0 ≤ w ∧ w ≤ 1) → zr z = 1 → x = (if w = 0 then (tl_wit (tl_solve (zl z (zn z - 1))) (tl_solve (zw z)) 3 0).1 else (tl_wit (tl_solve (zl z (zn z - 1))) (tl_solve (zw z)) 3 0).2)) ∧ MLp sh o M z M1)) [.ref o, ji w].toArray s 0 0 (tm_A Hb)) (F0 m 43 ls []) := by
    intro M1 H locs ls hc hz1 h00 F e hW hS hl
    have hn0 : 0 < zn z := (hI.2.2.2.2.1 hz1).1
    have V := MLv_m hz h40 F
    refine lv_iload_n hx hb dX9_witness_43 rfl (lv_at hl 3 rfl) ?_
    refine ti_bipush hx hb dX9_witness_44 (by decide) ?_
    refine ti_icmp_ge (tgt := 130) hx hb dX9_witness_46 (by decide) (by decide) (by decide) (fun h46 => ?_) (fun h46 => ?_)
    · exact absurd h46 (by decide)
    · refine lv_iload_n hx hb dX9_witness_49 rfl (lv_at hl 2 rfl) ?_
      refine ti_if_ne (tgt := 130) hx hb dX9_witness_50 (by decide) (by decide) (fun h50 => ?_) (fun h50 => ?_)
      · exact absurd rfl h50
      · refine lv_aload_n hx hb dX9_witness_53 rfl (lv_at hl 0 rfl) ?_
        refine lv_iload_n hx hb dX9_witness_54 rfl (lv_at hl 3 rfl) ?_
        refine ti_iconst hx hb dX9_witness_55 ?_
        refine ti_irem hx hb dX9_witness_56 (by decide) (by decide) (by decide) ?_
        refine ti_if_ne (tgt := 67) hx hb dX9_witness_57 (by decide) (by decide) (fun h57 => ?_) (fun h57 => ?_)
        · exact absurd (show ((1 + 1) : Int).tmod 2 = 0 by decide) h57
        · refine lv_aload_n hx hb dX9_witness_60 rfl (lv_at hl 0 rfl) ?_
          refine tm_calli (cs_X9_166 hx hb hml hown htw hK hW (by assumption) (c_X9_last (MLv_N V h40 hn0)) ⟨rfl, rfl, Nat.le_of_ble_eq_true rfl, Nat.le_of_ble_eq_true rfl⟩ hl.1 (Nat.le_of_ble_eq_true rfl) dX9_witness_61 ⟨Nat.le_of_ble_eq_true rfl, Nat.le_of_ble_eq_true rfl⟩) hS (fun x61 M61 H locs hp61 hW hS => ?_)
          obtain ⟨ex61, eM61⟩ := hp61
          rw [eM61] at hW
          rw [ex61]
          refine lv_goto (tgt := 69) hx hb dX9_witness_64 (by decide) ?_
          refine tm_callv (cs_X9_153 hx hb hml hown htw hK hW (by assumption) (c_X9_solve (i := zn z - 1) V.1 (by omega) (by rw [MLv_l V hn0]; exact (ZI_l hI hn0).1)) ⟨rfl, rfl, Nat.le_of_ble_eq_true rfl, Nat.le_of_ble_eq_true rfl⟩ hl.1 (Nat.le_of_ble_eq_true rfl) dX9_witness_69 ⟨Nat.le_of_ble_eq_true rfl, Nat.le_of_ble_eq_true rfl⟩) hS (fun M69 H locs hp69 hW hS => ?_)
          obtain ⟨e69, f69⟩ := hp69
          rw [MLv_l V hn0] at e69
          have k0 : mI M69 o 25 = ((tl_solve (zl z (zn z - 1)))).1 := congrArg (fun q => q.1) e69
          have k1 : mL M69 o 26 = ((tl_solve (zl z (zn z - 1)))).2.1 := congrArg (fun q => q.2.1) e69
          have k2 : mL M69 o 27 = ((tl_solve (zl z (zn z - 1)))).2.2 := congrArg (fun q => q.2.2) e69
          have F6 := fq_tr F (fq_wd f69 (fun _ _ => mP_X))
          have V6 := MLv_m hz h40 F6
          have sr : 0 ≤ ((tl_solve (zl z (zn z - 1)))).1 ∧ ((tl_solve (zl z (zn z - 1)))).1 ≤ 4 := ⟨(sook_solve (ZI_l hI hn0).1).1.1, (sook_solve (ZI_l hI hn0).1).1.2.1⟩
          have c69 : mI M69 o 0 = 0 := (f69.2 _ _ (by unfold mP; omega)).1.trans h00
          refine lv_iload_n hx hb dX9_witness_72 rfl (lv_at hl 3 rfl) ?_
          refine ti_iconst hx hb dX9_witness_73 ?_
          refine ti_icmp_ge (tgt := 81) hx hb dX9_witness_74 (by decide) (by decide) (by decide) (fun h74 => ?_) (fun h74 => ?_)
          · refine lv_iload_n hx hb dX9_witness_81 rfl (lv_at hl 3 rfl) ?_
            refine ti_iconst hx hb dX9_witness_82 ?_
            refine ti_icmp_ge (tgt := 92) hx hb dX9_witness_83 (by decide) (by decide) (by decide) (fun h83 => ?_) (fun h83 => ?_)
            · exact absurd h83 (by decide)
            · refine lv_ldc2 hx hb hown (htw _ cl_X9_226) dX9_witness_86 ?_
              refine lv_goto (tgt := 93) hx hb dX9_witness_89 (by decide) ?_
              refine lv_lstore (lv' := [(4, _), (0, _), (1, _), (2, _), (3, _)]) hx hb dX9_witness_93 hl (by decide) rfl (fun ls hl => ?_)
              refine lv_aload_n hx hb dX9_witness_95 rfl (lv_at hl 1 rfl) ?_
              refine gf_X9_143 hx hb htw hown hK hW (by assumption) dX9_witness_96 ?_
              refine ti_iconst hx hb dX9_witness_99 ?_
              refine ti_icmp_le (tgt := 124) hx hb dX9_witness_100 (by decide) (by rw [k0]; omega) (by decide) (fun h100 => ?_) (fun h100 => ?_)
              · refine ti_iinc (k := 4) (lv' := [(3, _), (4, _), (0, _), (1, _), (2, _)]) hx hb dX9_witness_124 hl rfl (by decide) rfl (fun ls hl => ?_)
                refine lv_goto (tgt := 43) hx hb dX9_witness_127 (by decide) ?_
                exact n3 M69 _ _ _ hc hz1 c69 F6 (e.trans (tl_w0 (k := 1) (tl_te0 (by rw [← k0]; exact h100)))) hW hS (lv_sub hl [2, 3, 4, 0] rfl)
              · refine lv_aload_n hx hb dX9_witness_103 rfl (lv_at hl 1 rfl) ?_
                refine lv_aload_n hx hb dX9_witness_104 rfl (lv_at hl 1 rfl) ?_
                refine gf_X9_137 hx hb htw hown hK hW (by assumption) dX9_witness_105 ?_
                refine lv_lload hx hb dX9_witness_108 (lv_at hl 0 rfl) ?_
                refine lv_aload_n hx hb dX9_witness_110 rfl (lv_at hl 1 rfl) ?_
                refine gf_X9_140 hx hb htw hown hK hW (by assumption) dX9_witness_111 ?_
                refine ti_lmul hx hb dX9_witness_114 ?_
                refine ti_ladd hx hb dX9_witness_115 ?_
                refine lv_aload_n hx hb dX9_witness_116 rfl (lv_at hl 1 rfl) ?_
                refine gf_X9_140 hx hb htw hown hK hW (by assumption) dX9_witness_117 ?_
                rw [show mL M69 o 26 + (-1) * mL M69 o 27 = (tl_sh ((tl_solve (zl z (zn z - 1)))).2 (tl_sf 1)).1 by rw [k1, k2]; rfl, show mL M69 o 27 = (tl_sh ((tl_solve (zl z (zn z - 1)))).2 (tl_sf 1)).2 from k2]
                refine tm_calli (cs_X9_228 hx hb hml hown htw hK hW (by assumption) (c_X9_parts (x := (tl_sh ((tl_solve (zl z (zn z - 1)))).2 (tl_sf 1)).1) (y := (tl_sh ((tl_solve (zl z (zn z - 1)))).2 (tl_sf 1)).2) V6 hI hz1 hn0 (nok_sh (ZI_l hI hn0).1 (tl_sf_r 1))) ⟨rfl, rfl, Nat.le_of_ble_eq_true rfl, Nat.le_of_ble_eq_true rfl⟩ hl.1 (Nat.le_of_ble_eq_true rfl) dX9_witness_120 ⟨Nat.le_of_ble_eq_true rfl, Nat.le_of_ble_eq_true rfl⟩) hS (fun x120 M120 H locs hp120 hW hS => ?_)
                obtain ⟨x120e, m10, m11, f120⟩ := hp120
                have xr := tl_r01 x120e
                have F12 := fq_tr F6 (fq_wd f120 (fun _ _ => mP_X))
                have c120 : mI M120 o 0 = 0 := (f120.2 _ _ (by unfold mP; omega)).1.trans c69
                refine lv_istore_n (lv' := [(2, _), (4, _), (0, _), (1, _), (3, _)]) hx hb dX9_witness_123 rfl hl (by decide) rfl (fun ls hl => ?_)
                refine ti_iinc (k := 4) (lv' := [(3, _), (2, _), (4, _), (0, _), (1, _)]) hx hb dX9_witness_124 hl rfl (by decide) rfl (fun ls hl => ?_)
                refine lv_goto (tgt := 43) hx hb dX9_witness_127 (by decide) ?_
                by_cases hxz : x120 = 0
                · have hl2 := lv_sub hl [3, 4, 1, 0] rfl
                  rw [hxz] at hl2
                  exact n3 M120 _ _ _ hc hz1 c120 F12 (e.trans (tl_w0 (k := 1) (tl_te3 (by rw [← k0]; exact h100) x120e hxz))) hW hS hl2
                · refine lv_iload_n hx hb dX9_witness_43 rfl (lv_at hl 0 rfl) ?_
                  refine ti_bipush hx hb dX9_witness_44 (by decide) ?_
                  refine ti_icmp_ge (tgt := 130) hx hb dX9_witness_46 (by decide) (by decide) (by decide) (fun h46 => ?_) (fun h46 => ?_)
                  · exact ef x120 M120 _ _ _ hxz xr hc hz1 c120 F12 (by rw [m10, m11]; exact (e.trans (tl_w1 (k := 1) (tl_te2 (by rw [← k0]; exact h100) x120e hxz))).symm) hW hS (lv_sub hl [3, 4, 1] rfl)
                  · refine lv_iload_n hx hb dX9_witness_49 rfl (lv_at hl 1 rfl) ?_
                    refine ti_if_ne (tgt := 130) hx hb dX9_witness_50 (by decide) (by omega) (fun h50 => ?_) (fun h50 => ?_)
                    · exact ef x120 M120 _ _ _ hxz xr hc hz1 c120 F12 (by rw [m10, m11]; exact (e.trans (tl_w1 (k := 1) (tl_te2 (by rw [← k0]; exact h100) x120e hxz))).symm) hW hS (lv_sub hl [3, 4, 1] rfl)
                    · exact absurd h50 hxz
          · exact absurd (show (2 : Int) ≤ (1 + 1) by decide) h74
  have n1 : ∀ (M1 : tm_M) (H : Heap) (locs : List Loc) (ls : Array Slot), (0 ≤ w ∧ w ≤ 1) → zr z = 1 → mI M1 o 0 = 0 → fq (mX o) M M1 → tl_wit (tl_solve (zl z (zn z - 1))) (tl_solve (zw z)) 3 0 = (if tl_tell (tl_solve (zl z (zn z - 1))) (tl_solve (zw z)) (tl_solve (zw z)) (tl_sf 0) = 1 then tl_sh (tl_solve (zw z)).2 (tl_sf 0) else tl_wit (tl_solve (zl z (zn z - 1))) (tl_solve (zw z)) 2 1) → tm_W G Hb sh M1 H → va_S (tm_A Hb) s.heap H locs → lv_has ls 6 [(0, .ref o), (1, ji w), (2, ji 0), (3, ji (0 + 1))] → W p l e ({ frames := 4, cells := 0, slots := 0, locals := 118 }) s m [.ref o, ji w].toArray below meth c H locs 0 0 (MQ below (tm_Ql G Hb sh (fun x M1 => mI M1 o 0 = (if ¬ (0 ≤ w ∧ w ≤ 1) then 1 else if zr z = 0 then 2 else 0) ∧ ((0 ≤ w ∧ w ≤ 1) → zr z = 1 → x = (if w = 0 then (tl_wit (tl_solve (zl z (zn z - 1))) (tl_solve (zw z)) 3 0).1 else (tl_wit (tl_solve (zl z (zn z - 1))) (tl_solve (zw z)) 3 0).2)) ∧ MLp sh o M z M1)) [.ref o, ji w].toArray s 0 0 (tm_A Hb)) (F0 m 43 ls []) := by
    intro M1 H locs ls hc hz1 h00 F e hW hS hl
    have hn0 : 0 < zn z := (hI.2.2.2.2.1 hz1).1
    have V := MLv_m hz h40 F
    refine lv_iload_n hx hb dX9_witness_43 rfl (lv_at hl 3 rfl) ?_
    refine ti_bipush hx hb dX9_witness_44 (by decide) ?_
    refine ti_icmp_ge (tgt := 130) hx hb dX9_witness_46 (by decide) (by decide) (by decide) (fun h46 => ?_) (fun h46 => ?_)
    · exact absurd h46 (by decide)
    · refine lv_iload_n hx hb dX9_witness_49 rfl (lv_at hl 2 rfl) ?_
      refine ti_if_ne (tgt := 130) hx hb dX9_witness_50 (by decide) (by decide) (fun h50 => ?_) (fun h50 => ?_)
      · exact absurd rfl h50
      · refine lv_aload_n hx hb dX9_witness_53 rfl (lv_at hl 0 rfl) ?_
        refine lv_iload_n hx hb dX9_witness_54 rfl (lv_at hl 3 rfl) ?_
        refine ti_iconst hx hb dX9_witness_55 ?_
        refine ti_irem hx hb dX9_witness_56 (by decide) (by decide) (by decide) ?_
        refine ti_if_ne (tgt := 67) hx hb dX9_witness_57 (by decide) (by decide) (fun h57 => ?_) (fun h57 => ?_)
        · refine ti_bipush hx hb dX9_witness_67 (by decide) ?_
          refine tm_callv (cs_X9_153 hx hb hml hown htw hK hW (by assumption) (c_X9_solve (i := 41) V.1 (by omega) (by rw [(V.2.2.2.2.2.1 hz1).2]; exact (hI.2.2.2.2.1 hz1).2.2)) ⟨rfl, rfl, Nat.le_of_ble_eq_true rfl, Nat.le_of_ble_eq_true rfl⟩ hl.1 (Nat.le_of_ble_eq_true rfl) dX9_witness_69 ⟨Nat.le_of_ble_eq_true rfl, Nat.le_of_ble_eq_true rfl⟩) hS (fun M69 H locs hp69 hW hS => ?_)
          obtain ⟨e69, f69⟩ := hp69
          rw [(V.2.2.2.2.2.1 hz1).2] at e69
          have k0 : mI M69 o 25 = ((tl_solve (zw z))).1 := congrArg (fun q => q.1) e69
          have k1 : mL M69 o 26 = ((tl_solve (zw z))).2.1 := congrArg (fun q => q.2.1) e69
          have k2 : mL M69 o 27 = ((tl_solve (zw z))).2.2 := congrArg (fun q => q.2.2) e69
          have F6 := fq_tr F (fq_wd f69 (fun _ _ => mP_X))
          have V6 := MLv_m hz h40 F6
          have sr : 0 ≤ ((tl_solve (zw z))).1 ∧ ((tl_solve (zw z))).1 ≤ 4 := ⟨(sook_solve (hI.2.2.2.2.1 hz1).2.2).1.1, (sook_solve (hI.2.2.2.2.1 hz1).2.2).1.2.1⟩
          have c69 : mI M69 o 0 = 0 := (f69.2 _ _ (by unfold mP; omega)).1.trans h00
          refine lv_iload_n hx hb dX9_witness_72 rfl (lv_at hl 3 rfl) ?_
          refine ti_iconst hx hb dX9_witness_73 ?_
          refine ti_icmp_ge (tgt := 81) hx hb dX9_witness_74 (by decide) (by decide) (by decide) (fun h74 => ?_) (fun h74 => ?_)
          · exact absurd h74 (by decide)
          · refine ti_lconst0 hx hb dX9_witness_77 ?_
            refine lv_goto (tgt := 93) hx hb dX9_witness_78 (by decide) ?_
            refine lv_lstore (lv' := [(4, _), (0, _), (1, _), (2, _), (3, _)]) hx hb dX9_witness_93 hl (by decide) rfl (fun ls hl => ?_)
            refine lv_aload_n hx hb dX9_witness_95 rfl (lv_at hl 1 rfl) ?_
            refine gf_X9_143 hx hb htw hown hK hW (by assumption) dX9_witness_96 ?_
            refine ti_iconst hx hb dX9_witness_99 ?_
            refine ti_icmp_le (tgt := 124) hx hb dX9_witness_100 (by decide) (by rw [k0]; omega) (by decide) (fun h100 => ?_) (fun h100 => ?_)
            · refine ti_iinc (k := 4) (lv' := [(3, _), (4, _), (0, _), (1, _), (2, _)]) hx hb dX9_witness_124 hl rfl (by decide) rfl (fun ls hl => ?_)
              refine lv_goto (tgt := 43) hx hb dX9_witness_127 (by decide) ?_
              exact n2 M69 _ _ _ hc hz1 c69 F6 (e.trans (if_neg (tl_te0 (by rw [← k0]; exact h100)))) hW hS (lv_sub hl [2, 3, 4, 0] rfl)
            · refine lv_aload_n hx hb dX9_witness_103 rfl (lv_at hl 1 rfl) ?_
              refine lv_aload_n hx hb dX9_witness_104 rfl (lv_at hl 1 rfl) ?_
              refine gf_X9_137 hx hb htw hown hK hW (by assumption) dX9_witness_105 ?_
              refine lv_lload hx hb dX9_witness_108 (lv_at hl 0 rfl) ?_
              refine lv_aload_n hx hb dX9_witness_110 rfl (lv_at hl 1 rfl) ?_
              refine gf_X9_140 hx hb htw hown hK hW (by assumption) dX9_witness_111 ?_
              refine ti_lmul hx hb dX9_witness_114 ?_
              refine ti_ladd hx hb dX9_witness_115 ?_
              refine lv_aload_n hx hb dX9_witness_116 rfl (lv_at hl 1 rfl) ?_
              refine gf_X9_140 hx hb htw hown hK hW (by assumption) dX9_witness_117 ?_
              rw [show mL M69 o 26 + (0) * mL M69 o 27 = (tl_sh ((tl_solve (zw z))).2 (tl_sf 0)).1 by rw [k1, k2]; rfl, show mL M69 o 27 = (tl_sh ((tl_solve (zw z))).2 (tl_sf 0)).2 from k2]
              refine tm_calli (cs_X9_228 hx hb hml hown htw hK hW (by assumption) (c_X9_parts (x := (tl_sh ((tl_solve (zw z))).2 (tl_sf 0)).1) (y := (tl_sh ((tl_solve (zw z))).2 (tl_sf 0)).2) V6 hI hz1 hn0 (nok_sh (hI.2.2.2.2.1 hz1).2.2 (tl_sf_r 0))) ⟨rfl, rfl, Nat.le_of_ble_eq_true rfl, Nat.le_of_ble_eq_true rfl⟩ hl.1 (Nat.le_of_ble_eq_true rfl) dX9_witness_120 ⟨Nat.le_of_ble_eq_true rfl, Nat.le_of_ble_eq_true rfl⟩) hS (fun x120 M120 H locs hp120 hW hS => ?_)
              obtain ⟨x120e, m10, m11, f120⟩ := hp120
              have xr := tl_r01 x120e
              have F12 := fq_tr F6 (fq_wd f120 (fun _ _ => mP_X))
              have c120 : mI M120 o 0 = 0 := (f120.2 _ _ (by unfold mP; omega)).1.trans c69
              refine lv_istore_n (lv' := [(2, _), (4, _), (0, _), (1, _), (3, _)]) hx hb dX9_witness_123 rfl hl (by decide) rfl (fun ls hl => ?_)
              refine ti_iinc (k := 4) (lv' := [(3, _), (2, _), (4, _), (0, _), (1, _)]) hx hb dX9_witness_124 hl rfl (by decide) rfl (fun ls hl => ?_)
              refine lv_goto (tgt := 43) hx hb dX9_witness_127 (by decide) ?_
              by_cases hxz : x120 = 0
              · have hl2 := lv_sub hl [3, 4, 1, 0] rfl
                rw [hxz] at hl2
                exact n2 M120 _ _ _ hc hz1 c120 F12 (e.trans (if_neg (tl_te3 (by rw [← k0]; exact h100) x120e hxz))) hW hS hl2
              · refine lv_iload_n hx hb dX9_witness_43 rfl (lv_at hl 0 rfl) ?_
                refine ti_bipush hx hb dX9_witness_44 (by decide) ?_
                refine ti_icmp_ge (tgt := 130) hx hb dX9_witness_46 (by decide) (by decide) (by decide) (fun h46 => ?_) (fun h46 => ?_)
                · exact ef x120 M120 _ _ _ hxz xr hc hz1 c120 F12 (by rw [m10, m11]; exact (e.trans (if_pos (tl_te2 (by rw [← k0]; exact h100) x120e hxz))).symm) hW hS (lv_sub hl [3, 4, 1] rfl)
                · refine lv_iload_n hx hb dX9_witness_49 rfl (lv_at hl 1 rfl) ?_
                  refine ti_if_ne (tgt := 130) hx hb dX9_witness_50 (by decide) (by omega) (fun h50 => ?_) (fun h50 => ?_)
                  · exact ef x120 M120 _ _ _ hxz xr hc hz1 c120 F12 (by rw [m10, m11]; exact (e.trans (if_pos (tl_te2 (by rw [← k0]; exact h100) x120e hxz))).symm) hW hS (lv_sub hl [3, 4, 1] rfl)
                  · exact absurd h50 hxz
        · exact absurd h57 (by decide)
  have n0 : ∀ (M1 : tm_M) (H : Heap) (locs : List Loc) (ls : Array Slot), (0 ≤ w ∧ w ≤ 1) → zr z = 1 → mI M1 o 0 = 0 → fq (mX o) M M1 → tl_wit (tl_solve (zl z (zn z - 1))) (tl_solve (zw z)) 3 0 = tl_wit (tl_solve (zl z (zn z - 1))) (tl_solve (zw z)) 3 0 → tm_W G Hb sh M1 H → va_S (tm_A Hb) s.heap H locs → lv_has ls 6 [(0, .ref o), (1, ji w), (2, ji 0), (3, ji 0)] → W p l e ({ frames := 4, cells := 0, slots := 0, locals := 118 }) s m [.ref o, ji w].toArray below meth c H locs 0 0 (MQ below (tm_Ql G Hb sh (fun x M1 => mI M1 o 0 = (if ¬ (0 ≤ w ∧ w ≤ 1) then 1 else if zr z = 0 then 2 else 0) ∧ ((0 ≤ w ∧ w ≤ 1) → zr z = 1 → x = (if w = 0 then (tl_wit (tl_solve (zl z (zn z - 1))) (tl_solve (zw z)) 3 0).1 else (tl_wit (tl_solve (zl z (zn z - 1))) (tl_solve (zw z)) 3 0).2)) ∧ MLp sh o M z M1)) [.ref o, ji w].toArray s 0 0 (tm_A Hb)) (F0 m 43 ls []) := by
    intro M1 H locs ls hc hz1 h00 F e hW hS hl
    have hn0 : 0 < zn z := (hI.2.2.2.2.1 hz1).1
    have V := MLv_m hz h40 F
    refine lv_iload_n hx hb dX9_witness_43 rfl (lv_at hl 3 rfl) ?_
    refine ti_bipush hx hb dX9_witness_44 (by decide) ?_
    refine ti_icmp_ge (tgt := 130) hx hb dX9_witness_46 (by decide) (by decide) (by decide) (fun h46 => ?_) (fun h46 => ?_)
    · exact absurd h46 (by decide)
    · refine lv_iload_n hx hb dX9_witness_49 rfl (lv_at hl 2 rfl) ?_
      refine ti_if_ne (tgt := 130) hx hb dX9_witness_50 (by decide) (by decide) (fun h50 => ?_) (fun h50 => ?_)
      · exact absurd rfl h50
      · refine lv_aload_n hx hb dX9_witness_53 rfl (lv_at hl 0 rfl) ?_
        refine lv_iload_n hx hb dX9_witness_54 rfl (lv_at hl 3 rfl) ?_
        refine ti_iconst hx hb dX9_witness_55 ?_
        refine ti_irem hx hb dX9_witness_56 (by decide) (by decide) (by decide) ?_
        refine ti_if_ne (tgt := 67) hx hb dX9_witness_57 (by decide) (by decide) (fun h57 => ?_) (fun h57 => ?_)
        · exact absurd (show (0 : Int).tmod 2 = 0 by decide) h57
        · refine lv_aload_n hx hb dX9_witness_60 rfl (lv_at hl 0 rfl) ?_
          refine tm_calli (cs_X9_166 hx hb hml hown htw hK hW (by assumption) (c_X9_last (MLv_N V h40 hn0)) ⟨rfl, rfl, Nat.le_of_ble_eq_true rfl, Nat.le_of_ble_eq_true rfl⟩ hl.1 (Nat.le_of_ble_eq_true rfl) dX9_witness_61 ⟨Nat.le_of_ble_eq_true rfl, Nat.le_of_ble_eq_true rfl⟩) hS (fun x61 M61 H locs hp61 hW hS => ?_)
          obtain ⟨ex61, eM61⟩ := hp61
          rw [eM61] at hW
          rw [ex61]
          refine lv_goto (tgt := 69) hx hb dX9_witness_64 (by decide) ?_
          refine tm_callv (cs_X9_153 hx hb hml hown htw hK hW (by assumption) (c_X9_solve (i := zn z - 1) V.1 (by omega) (by rw [MLv_l V hn0]; exact (ZI_l hI hn0).1)) ⟨rfl, rfl, Nat.le_of_ble_eq_true rfl, Nat.le_of_ble_eq_true rfl⟩ hl.1 (Nat.le_of_ble_eq_true rfl) dX9_witness_69 ⟨Nat.le_of_ble_eq_true rfl, Nat.le_of_ble_eq_true rfl⟩) hS (fun M69 H locs hp69 hW hS => ?_)
          obtain ⟨e69, f69⟩ := hp69
          rw [MLv_l V hn0] at e69
          have k0 : mI M69 o 25 = ((tl_solve (zl z (zn z - 1)))).1 := congrArg (fun q => q.1) e69
          have k1 : mL M69 o 26 = ((tl_solve (zl z (zn z - 1)))).2.1 := congrArg (fun q => q.2.1) e69
          have k2 : mL M69 o 27 = ((tl_solve (zl z (zn z - 1)))).2.2 := congrArg (fun q => q.2.2) e69
          have F6 := fq_tr F (fq_wd f69 (fun _ _ => mP_X))
          have V6 := MLv_m hz h40 F6
          have sr : 0 ≤ ((tl_solve (zl z (zn z - 1)))).1 ∧ ((tl_solve (zl z (zn z - 1)))).1 ≤ 4 := ⟨(sook_solve (ZI_l hI hn0).1).1.1, (sook_solve (ZI_l hI hn0).1).1.2.1⟩
          have c69 : mI M69 o 0 = 0 := (f69.2 _ _ (by unfold mP; omega)).1.trans h00
          refine lv_iload_n hx hb dX9_witness_72 rfl (lv_at hl 3 rfl) ?_
          refine ti_iconst hx hb dX9_witness_73 ?_
          refine ti_icmp_ge (tgt := 81) hx hb dX9_witness_74 (by decide) (by decide) (by decide) (fun h74 => ?_) (fun h74 => ?_)
          · exact absurd h74 (by decide)
          · refine ti_lconst0 hx hb dX9_witness_77 ?_
            refine lv_goto (tgt := 93) hx hb dX9_witness_78 (by decide) ?_
            refine lv_lstore (lv' := [(4, _), (0, _), (1, _), (2, _), (3, _)]) hx hb dX9_witness_93 hl (by decide) rfl (fun ls hl => ?_)
            refine lv_aload_n hx hb dX9_witness_95 rfl (lv_at hl 1 rfl) ?_
            refine gf_X9_143 hx hb htw hown hK hW (by assumption) dX9_witness_96 ?_
            refine ti_iconst hx hb dX9_witness_99 ?_
            refine ti_icmp_le (tgt := 124) hx hb dX9_witness_100 (by decide) (by rw [k0]; omega) (by decide) (fun h100 => ?_) (fun h100 => ?_)
            · refine ti_iinc (k := 4) (lv' := [(3, _), (4, _), (0, _), (1, _), (2, _)]) hx hb dX9_witness_124 hl rfl (by decide) rfl (fun ls hl => ?_)
              refine lv_goto (tgt := 43) hx hb dX9_witness_127 (by decide) ?_
              exact n1 M69 _ _ _ hc hz1 c69 F6 (e.trans (tl_w0 (k := 2) (tl_te0 (by rw [← k0]; exact h100)))) hW hS (lv_sub hl [2, 3, 4, 0] rfl)
            · refine lv_aload_n hx hb dX9_witness_103 rfl (lv_at hl 1 rfl) ?_
              refine lv_aload_n hx hb dX9_witness_104 rfl (lv_at hl 1 rfl) ?_
              refine gf_X9_137 hx hb htw hown hK hW (by assumption) dX9_witness_105 ?_
              refine lv_lload hx hb dX9_witness_108 (lv_at hl 0 rfl) ?_
              refine lv_aload_n hx hb dX9_witness_110 rfl (lv_at hl 1 rfl) ?_
              refine gf_X9_140 hx hb htw hown hK hW (by assumption) dX9_witness_111 ?_
              refine ti_lmul hx hb dX9_witness_114 ?_
              refine ti_ladd hx hb dX9_witness_115 ?_
              refine lv_aload_n hx hb dX9_witness_116 rfl (lv_at hl 1 rfl) ?_
              refine gf_X9_140 hx hb htw hown hK hW (by assumption) dX9_witness_117 ?_
              rw [show mL M69 o 26 + (0) * mL M69 o 27 = (tl_sh ((tl_solve (zl z (zn z - 1)))).2 (tl_sf 0)).1 by rw [k1, k2]; rfl, show mL M69 o 27 = (tl_sh ((tl_solve (zl z (zn z - 1)))).2 (tl_sf 0)).2 from k2]
              refine tm_calli (cs_X9_228 hx hb hml hown htw hK hW (by assumption) (c_X9_parts (x := (tl_sh ((tl_solve (zl z (zn z - 1)))).2 (tl_sf 0)).1) (y := (tl_sh ((tl_solve (zl z (zn z - 1)))).2 (tl_sf 0)).2) V6 hI hz1 hn0 (nok_sh (ZI_l hI hn0).1 (tl_sf_r 0))) ⟨rfl, rfl, Nat.le_of_ble_eq_true rfl, Nat.le_of_ble_eq_true rfl⟩ hl.1 (Nat.le_of_ble_eq_true rfl) dX9_witness_120 ⟨Nat.le_of_ble_eq_true rfl, Nat.le_of_ble_eq_true rfl⟩) hS (fun x120 M120 H locs hp120 hW hS => ?_)
              obtain ⟨x120e, m10, m11, f120⟩ := hp120
              have xr := tl_r01 x120e
              have F12 := fq_tr F6 (fq_wd f120 (fun _ _ => mP_X))
              have c120 : mI M120 o 0 = 0 := (f120.2 _ _ (by unfold mP; omega)).1.trans c69
              refine lv_istore_n (lv' := [(2, _), (4, _), (0, _), (1, _), (3, _)]) hx hb dX9_witness_123 rfl hl (by decide) rfl (fun ls hl => ?_)
              refine ti_iinc (k := 4) (lv' := [(3, _), (2, _), (4, _), (0, _), (1, _)]) hx hb dX9_witness_124 hl rfl (by decide) rfl (fun ls hl => ?_)
              refine lv_goto (tgt := 43) hx hb dX9_witness_127 (by decide) ?_
              by_cases hxz : x120 = 0
              · have hl2 := lv_sub hl [3, 4, 1, 0] rfl
                rw [hxz] at hl2
                exact n1 M120 _ _ _ hc hz1 c120 F12 (e.trans (tl_w0 (k := 2) (tl_te3 (by rw [← k0]; exact h100) x120e hxz))) hW hS hl2
              · refine lv_iload_n hx hb dX9_witness_43 rfl (lv_at hl 0 rfl) ?_
                refine ti_bipush hx hb dX9_witness_44 (by decide) ?_
                refine ti_icmp_ge (tgt := 130) hx hb dX9_witness_46 (by decide) (by decide) (by decide) (fun h46 => ?_) (fun h46 => ?_)
                · exact ef x120 M120 _ _ _ hxz xr hc hz1 c120 F12 (by rw [m10, m11]; exact (e.trans (tl_w1 (k := 2) (tl_te2 (by rw [← k0]; exact h100) x120e hxz))).symm) hW hS (lv_sub hl [3, 4, 1] rfl)
                · refine lv_iload_n hx hb dX9_witness_49 rfl (lv_at hl 1 rfl) ?_
                  refine ti_if_ne (tgt := 130) hx hb dX9_witness_50 (by decide) (by omega) (fun h50 => ?_) (fun h50 => ?_)
                  · exact ef x120 M120 _ _ _ hxz xr hc hz1 c120 F12 (by rw [m10, m11]; exact (e.trans (tl_w1 (k := 2) (tl_te2 (by rw [← k0]; exact h100) x120e hxz))).symm) hW hS (lv_sub hl [3, 4, 1] rfl)
                  · exact absurd h50 hxz
  refine lv_aload_n hx hb dX9_witness_0 rfl (lv_at hl 0 rfl) ?_
  refine lv_iload_n hx hb dX9_witness_1 rfl (lv_at hl 1 rfl) ?_
  refine ti_i2l hx hb dX9_witness_2 hw ?_
  refine ti_lconst0 hx hb dX9_witness_3 ?_
  refine ti_lconst1 hx hb dX9_witness_4 ?_
  refine tm_calli (cs_X9_67 hx hb hml hown htw hK hW (c_X9_in (by omega) (by decide) (by decide)) ⟨rfl, rfl, Nat.le_of_ble_eq_true rfl, Nat.le_of_ble_eq_true rfl⟩ hl.1 (Nat.le_of_ble_eq_true rfl) dX9_witness_5 ⟨Nat.le_of_ble_eq_true rfl, Nat.le_of_ble_eq_true rfl⟩) hS (fun x5 M5 H locs hp5 hW hS => ?_)
  obtain ⟨ex5, eM5⟩ := hp5
  rw [eM5] at hW
  rw [ex5]
  refine ti_if_ne (tgt := 15) hx hb dX9_witness_8 (by decide) (tl_b_r _) (fun h8 => ?_) (fun h8 => ?_)
  · refine lv_aload_n hx hb dX9_witness_15 rfl (lv_at hl 0 rfl) ?_
    refine gf_X9_211 hx hb htw hown hK hW (by assumption) dX9_witness_16 ?_
    rw [hz.2.2.2.2.1]
    refine ti_if_eq (tgt := 26) hx hb dX9_witness_19 (by decide) (by omega) (fun h19 => ?_) (fun h19 => ?_)
    · refine ti_iconst hx hb dX9_witness_26 ?_
      refine pf_X9_48 hx hb htw hown hK hW (by assumption) hS dX9_witness_27 (fun H locs hW hS => ?_)
      refine lv_aload_n hx hb dX9_witness_30 rfl (lv_at hl 0 rfl) ?_
      refine gf_X9_48 hx hb htw hown hK hW (by assumption) dX9_witness_31 ?_
      rw [show mI (sI M o 0 2) o 0 = 2 from tm_up_s _ _ _ _]
      refine ti_if_le (tgt := 39) hx hb dX9_witness_34 (by decide) (by decide) (fun h34 => ?_) (fun h34 => ?_)
      · exact absurd h34 (by decide)
      · refine ti_lconst0 hx hb dX9_witness_37 ?_
        exact tm_lret hx hb hr hlk hK hW hS ⟨(tm_up_s _ _ _ _).trans (by rw [if_neg (fun q => q (tl_b_n.mp h8)), if_pos h19]), fun _ q => absurd q (by omega), MLp_m hz h40 fq_c0⟩ dX9_witness_38
    · refine ti_iconst hx hb dX9_witness_22 ?_
      refine lv_goto (tgt := 27) hx hb dX9_witness_23 (by decide) ?_
      refine pf_X9_48 hx hb htw hown hK hW (by assumption) hS dX9_witness_27 (fun H locs hW hS => ?_)
      refine lv_aload_n hx hb dX9_witness_30 rfl (lv_at hl 0 rfl) ?_
      refine gf_X9_48 hx hb htw hown hK hW (by assumption) dX9_witness_31 ?_
      rw [show mI (sI M o 0 0) o 0 = 0 from tm_up_s _ _ _ _]
      refine ti_if_le (tgt := 39) hx hb dX9_witness_34 (by decide) (by decide) (fun h34 => ?_) (fun h34 => ?_)
      · refine ti_iconst hx hb dX9_witness_39 ?_
        refine lv_istore_n (lv' := [(2, _), (0, _), (1, _)]) hx hb dX9_witness_40 rfl hl (by decide) rfl (fun ls hl => ?_)
        refine ti_iconst hx hb dX9_witness_41 ?_
        refine lv_istore_n (lv' := [(3, _), (2, _), (0, _), (1, _)]) hx hb dX9_witness_42 rfl hl (by decide) rfl (fun ls hl => ?_)
        exact n0 _ _ _ _ (tl_b_n.mp h8) (by omega) (tm_up_s _ _ _ _) fq_c0 rfl hW hS (lv_sub hl [2, 3, 1, 0] rfl)
      · exact absurd (show (0 : Int) ≤ 0 by decide) h34
  · refine ti_iconst hx hb dX9_witness_11 ?_
    refine lv_goto (tgt := 27) hx hb dX9_witness_12 (by decide) ?_
    refine pf_X9_48 hx hb htw hown hK hW (by assumption) hS dX9_witness_27 (fun H locs hW hS => ?_)
    refine lv_aload_n hx hb dX9_witness_30 rfl (lv_at hl 0 rfl) ?_
    refine gf_X9_48 hx hb htw hown hK hW (by assumption) dX9_witness_31 ?_
    rw [show mI (sI M o 0 1) o 0 = 1 from tm_up_s _ _ _ _]
    refine ti_if_le (tgt := 39) hx hb dX9_witness_34 (by decide) (by decide) (fun h34 => ?_) (fun h34 => ?_)
    · exact absurd h34 (by decide)
    · refine ti_lconst0 hx hb dX9_witness_37 ?_
      exact tm_lret hx hb hr hlk hK hW hS ⟨(tm_up_s _ _ _ _).trans (by rw [if_pos (tl_b_0.mp h8)]), fun q => absurd q (tl_b_0.mp h8), MLp_m hz h40 fq_c0⟩ dX9_witness_38
