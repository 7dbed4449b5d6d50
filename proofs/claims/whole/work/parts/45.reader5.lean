/-! Reader: readTerm, readSide, by levels (by program: wip/whole/gen/reader5.py) -/
theorem tl_fitq {M : tm_M} {a : Nat} {w : tl_S} (gv : sd M a = w) (h : ¬ tl_b (ffit (fr M (a + 1)) ∧ ffit (fr M (a + 2))) = 0) : sfit w := by
  subst gv
  exact tl_b_n.mp h
theorem tl_fitn {M : tm_M} {a : Nat} {w : tl_S} (gv : sd M a = w) (h : tl_b (ffit (fr M (a + 1)) ∧ ffit (fr M (a + 2))) = 0) : ¬ sfit w := by
  subst gv
  exact tl_b_0.mp h
theorem dX4_readTerm_0 : decode cX4_readTerm 0 = .ok (.aload_n 0, 1) := by decide +kernel
theorem dX4_readTerm_1 : decode cX4_readTerm 1 = .ok (.iload_n 1, 1) := by decide +kernel
theorem dX4_readTerm_2 : decode cX4_readTerm 2 = .ok (.invokevirtual 91, 3) := by decide +kernel
theorem dX4_readTerm_5 : decode cX4_readTerm 5 = .ok (.ifCond .ne 5, 3) := by decide +kernel
theorem dX4_readTerm_8 : decode cX4_readTerm 8 = .ok (.iconst 0, 1) := by decide +kernel
theorem dX4_readTerm_9 : decode cX4_readTerm 9 = .ok (.ireturn, 1) := by decide +kernel
theorem dX4_readTerm_10 : decode cX4_readTerm 10 = .ok (.aload_n 0, 1) := by decide +kernel
theorem dX4_readTerm_11 : decode cX4_readTerm 11 = .ok (.getfield 21, 3) := by decide +kernel
theorem dX4_readTerm_14 : decode cX4_readTerm 14 = .ok (.iload_n 1, 1) := by decide +kernel
theorem dX4_readTerm_15 : decode cX4_readTerm 15 = .ok (.aaload, 1) := by decide +kernel
theorem dX4_readTerm_16 : decode cX4_readTerm 16 = .ok (.astore_n 2, 1) := by decide +kernel
theorem dX4_readTerm_17 : decode cX4_readTerm 17 = .ok (.aload_n 2, 1) := by decide +kernel
theorem dX4_readTerm_18 : decode cX4_readTerm 18 = .ok (.aload_n 0, 1) := by decide +kernel
theorem dX4_readTerm_19 : decode cX4_readTerm 19 = .ok (.getfield 24, 3) := by decide +kernel
theorem dX4_readTerm_22 : decode cX4_readTerm 22 = .ok (.iload_n 1, 1) := by decide +kernel
theorem dX4_readTerm_23 : decode cX4_readTerm 23 = .ok (.aaload, 1) := by decide +kernel
theorem dX4_readTerm_24 : decode cX4_readTerm 24 = .ok (.invokevirtual 54, 3) := by decide +kernel
theorem dX4_readTerm_27 : decode cX4_readTerm 27 = .ok (.iconst 0, 1) := by decide +kernel
theorem dX4_readTerm_28 : decode cX4_readTerm 28 = .ok (.istore_n 3, 1) := by decide +kernel
theorem dX4_readTerm_29 : decode cX4_readTerm 29 = .ok (.iload_n 3, 1) := by decide +kernel
theorem dX4_readTerm_30 : decode cX4_readTerm 30 = .ok (.bipush 80, 2) := by decide +kernel
theorem dX4_readTerm_32 : decode cX4_readTerm 32 = .ok (.if_icmp .ge 92, 3) := by decide +kernel
theorem dX4_readTerm_35 : decode cX4_readTerm 35 = .ok (.aload_n 0, 1) := by decide +kernel
theorem dX4_readTerm_36 : decode cX4_readTerm 36 = .ok (.invokevirtual 65, 3) := by decide +kernel
theorem dX4_readTerm_39 : decode cX4_readTerm 39 = .ok (.istore 4, 2) := by decide +kernel
theorem dX4_readTerm_41 : decode cX4_readTerm 41 = .ok (.iload 4, 2) := by decide +kernel
theorem dX4_readTerm_43 : decode cX4_readTerm 43 = .ok (.bipush 42, 2) := by decide +kernel
theorem dX4_readTerm_45 : decode cX4_readTerm 45 = .ok (.if_icmp .eq 12, 3) := by decide +kernel
theorem dX4_readTerm_48 : decode cX4_readTerm 48 = .ok (.iload 4, 2) := by decide +kernel
theorem dX4_readTerm_50 : decode cX4_readTerm 50 = .ok (.bipush 47, 2) := by decide +kernel
theorem dX4_readTerm_52 : decode cX4_readTerm 52 = .ok (.if_icmp .eq 5, 3) := by decide +kernel
theorem dX4_readTerm_55 : decode cX4_readTerm 55 = .ok (.iconst 1, 1) := by decide +kernel
theorem dX4_readTerm_56 : decode cX4_readTerm 56 = .ok (.ireturn, 1) := by decide +kernel
theorem dX4_readTerm_57 : decode cX4_readTerm 57 = .ok (.aload_n 0, 1) := by decide +kernel
theorem dX4_readTerm_58 : decode cX4_readTerm 58 = .ok (.getfield 38, 3) := by decide +kernel
theorem dX4_readTerm_61 : decode cX4_readTerm 61 = .ok (.istore 5, 2) := by decide +kernel
theorem dX4_readTerm_63 : decode cX4_readTerm 63 = .ok (.aload_n 0, 1) := by decide +kernel
theorem dX4_readTerm_64 : decode cX4_readTerm 64 = .ok (.dup, 1) := by decide +kernel
theorem dX4_readTerm_65 : decode cX4_readTerm 65 = .ok (.getfield 38, 3) := by decide +kernel
theorem dX4_readTerm_68 : decode cX4_readTerm 68 = .ok (.iconst 1, 1) := by decide +kernel
theorem dX4_readTerm_69 : decode cX4_readTerm 69 = .ok (.iadd, 1) := by decide +kernel
theorem dX4_readTerm_70 : decode cX4_readTerm 70 = .ok (.putfield 38, 3) := by decide +kernel
theorem dX4_readTerm_73 : decode cX4_readTerm 73 = .ok (.iload 4, 2) := by decide +kernel
theorem dX4_readTerm_75 : decode cX4_readTerm 75 = .ok (.bipush 42, 2) := by decide +kernel
theorem dX4_readTerm_77 : decode cX4_readTerm 77 = .ok (.if_icmp .ne 13, 3) := by decide +kernel
theorem dX4_readTerm_80 : decode cX4_readTerm 80 = .ok (.aload_n 0, 1) := by decide +kernel
theorem dX4_readTerm_81 : decode cX4_readTerm 81 = .ok (.iload_n 1, 1) := by decide +kernel
theorem dX4_readTerm_82 : decode cX4_readTerm 82 = .ok (.iload 5, 2) := by decide +kernel
theorem dX4_readTerm_84 : decode cX4_readTerm 84 = .ok (.invokevirtual 94, 3) := by decide +kernel
theorem dX4_readTerm_87 : decode cX4_readTerm 87 = .ok (.goto 8, 3) := by decide +kernel
theorem dX4_readTerm_90 : decode cX4_readTerm 90 = .ok (.aload_n 0, 1) := by decide +kernel
theorem dX4_readTerm_91 : decode cX4_readTerm 91 = .ok (.iload_n 1, 1) := by decide +kernel
theorem dX4_readTerm_92 : decode cX4_readTerm 92 = .ok (.invokevirtual 98, 3) := by decide +kernel
theorem dX4_readTerm_95 : decode cX4_readTerm 95 = .ok (.istore 6, 2) := by decide +kernel
theorem dX4_readTerm_97 : decode cX4_readTerm 97 = .ok (.iload 6, 2) := by decide +kernel
theorem dX4_readTerm_99 : decode cX4_readTerm 99 = .ok (.ifCond .ne 5, 3) := by decide +kernel
theorem dX4_readTerm_102 : decode cX4_readTerm 102 = .ok (.iconst 0, 1) := by decide +kernel
theorem dX4_readTerm_103 : decode cX4_readTerm 103 = .ok (.ireturn, 1) := by decide +kernel
theorem dX4_readTerm_104 : decode cX4_readTerm 104 = .ok (.aload_n 2, 1) := by decide +kernel
theorem dX4_readTerm_105 : decode cX4_readTerm 105 = .ok (.invokevirtual 87, 3) := by decide +kernel
theorem dX4_readTerm_108 : decode cX4_readTerm 108 = .ok (.ifCond .ne 10, 3) := by decide +kernel
theorem dX4_readTerm_111 : decode cX4_readTerm 111 = .ok (.aload_n 0, 1) := by decide +kernel
theorem dX4_readTerm_112 : decode cX4_readTerm 112 = .ok (.iload 5, 2) := by decide +kernel
theorem dX4_readTerm_114 : decode cX4_readTerm 114 = .ok (.invokevirtual 69, 3) := by decide +kernel
theorem dX4_readTerm_117 : decode cX4_readTerm 117 = .ok (.ireturn, 1) := by decide +kernel
theorem dX4_readTerm_118 : decode cX4_readTerm 118 = .ok (.iinc 3 1, 3) := by decide +kernel
theorem dX4_readTerm_121 : decode cX4_readTerm 121 = .ok (.goto (-92), 3) := by decide +kernel
theorem dX4_readTerm_124 : decode cX4_readTerm 124 = .ok (.iconst 1, 1) := by decide +kernel
theorem dX4_readTerm_125 : decode cX4_readTerm 125 = .ok (.ireturn, 1) := by decide +kernel
set_option maxHeartbeats 4000000 in
set_option maxRecDepth 100000 in
/-- Reader.readTerm -/
theorem c_X4_readTerm {l : Launch} {G : tm_G} {Hb : Heap} {sh : tm_sh} {M : tm_M} {rd ta n p1 r d : Nat} {t : Nat → Int} (hR : RS sh M rd ta t n p1) (hd : d + r = 8) (ih : ∀ r1, r1 + 1 = r → tl_CS l G Hb sh rd ta n t r1) : Met l yX4_readTerm (tws yX4_readTerm cX4_readTerm 7 (some .boolean)) ({ frames := 19 + 6 * r, cells := 0, slots := 0, locals := 374 + 130 * r }) (va_Pc [.ref rd, ji d] (tm_St G Hb sh M)) (tm_Qi G Hb sh (fun x M1 => rdR rd (rd + 8 + 9 * d) (rd + 8 + 9 * d) n M M1 (tp_term t n (tp_in t n r) p1) x)) 0 0 (tm_A Hb) := by
  refine tm_begin (by decide) (Nat.le_of_ble_eq_true rfl) (fun p e s m below meth c ls hx hb hr hml hown htw hlk hnm hK hW hl => ?_)
  have hS : va_S (tm_A Hb) s.heap s.heap [] := va_S.rf
  have hl : lv_has ls 7 [(0, .ref rd), (1, ji d)] := hl
  obtain ⟨y0, y1, y2, ⟨y3, y4, y5⟩, ⟨y6, y7, y8⟩, -⟩ := hR.1
  obtain ⟨z0, z1, z2, z3, z4, z5⟩ := rdA hR.1 (d := d) (by omega)
  have w3 := z3.1
  have w4 := z4.1
  have w5 := z5.1
  have htr := RS_t hR
  have hR0 := hR
  have loop : ∀ (k : Nat) (i : Int) (p2 : Nat) (v : tl_S) (M1 : tm_M) (H : Heap) (locs : List Loc) (ls : Array Slot), i + k = 80 → 0 ≤ i → tp_tl t n (tp_in t n r) k p2 v = tp_term t n (tp_in t n r) p1 → RS sh M1 rd ta t n p2 → sd M1 (rd + 8 + 9 * d) = v → sok v → rdf rd (rd + 8 + 9 * d) M M1 → tm_W G Hb sh M1 H → va_S (tm_A Hb) s.heap H locs → lv_has ls 7 [(0, .ref rd), (1, ji d), (2, .ref (rd + 8 + 9 * d)), (3, ji i)] → W p l e ({ frames := 19 + 6 * r, cells := 0, slots := 0, locals := 374 + 130 * r }) s m [.ref rd, ji d].toArray below meth c H locs 0 0 (MQ below (tm_Qi G Hb sh (fun x M1 => rdR rd (rd + 8 + 9 * d) (rd + 8 + 9 * d) n M M1 (tp_term t n (tp_in t n r) p1) x)) [.ref rd, ji d].toArray s 0 0 (tm_A Hb)) (F0 m 29 ls []) := by
    intro k
    induction k with
    | zero =>
      intro i p2 v M1 H locs ls hk hi he hR hv ho hf hW hS hl
      refine lv_iload_n hx hb dX4_readTerm_29 rfl (lv_at hl 3 rfl) ?_
      refine ti_bipush hx hb dX4_readTerm_30 (by decide) ?_
      refine ti_icmp_ge (tgt := 124) hx hb dX4_readTerm_32 (by decide) (by omega) (by omega) (fun h32 => ?_) (fun h32 => ?_)
      · refine ti_iconst hx hb dX4_readTerm_124 ?_
        exact tm_zret hx hb hr hlk (by first | exact Or.inl rfl | exact Or.inr rfl | assumption) hK hW hS (rdR_T hf he.symm hR.2.2.2.2.2.1 hR.2.2.2.2.2.2 hv ho) dX4_readTerm_125
      · exact absurd (show 80 ≤ i by omega) h32
    | succ k ihk =>
      intro i p2 v M1 H locs ls hk hi he hR hv ho hf hW hS hl
      have q0 := tp_nx_le (t := t) hR.2.2.2.2.2.2
      have cr := tp_ch_r (n := n) (p := tp_nx t n p2) htr
      generalize hq : tp_nx t n p2 = q at q0 cr
      generalize hc : tp_ch t n q = cz at cr
      have tail : ∀ (x : Int) (M9 : tm_M) (H : Heap) (locs : List Loc) (ls : Array Slot), (cz = 42 ∨ cz = 47) → rdM rd (rd + 8 + 9 * d) (rd + 8 + 9 * d) n M M9 (tp_op t n (tp_in t n r) cz q (q + 1) v) x → tm_W G Hb sh M9 H → va_S (tm_A Hb) s.heap H locs → lv_has ls 7 [(0, .ref rd), (1, ji d), (2, .ref (rd + 8 + 9 * d)), (3, ji i), (5, ji q)] → W p l e ({ frames := 19 + 6 * r, cells := 0, slots := 0, locals := 374 + 130 * r }) s m [.ref rd, ji d].toArray below meth c H locs 0 0 (MQ below (tm_Qi G Hb sh (fun x M1 => rdR rd (rd + 8 + 9 * d) (rd + 8 + 9 * d) n M M1 (tp_term t n (tp_in t n r) p1) x)) [.ref rd, ji d].toArray s 0 0 (tm_A Hb)) (F0 m 95 ls [ji x]) := by
        intro x M9 H locs ls hcc hM hW hS hl
        have hT : tp_fit q (tp_op t n (tp_in t n r) cz q (q + 1) v) (tp_tl t n (tp_in t n r) k) = tp_term t n (tp_in t n r) p1 := by
          rw [← he, tp_tl, hq, hc, if_pos hcc]
        have y0 := hR.1.1
        refine lv_istore (lv' := [(6, _), (0, _), (1, _), (2, _), (3, _), (5, _)]) hx hb dX4_readTerm_95 hl (by decide) rfl (fun ls hl => ?_)
        refine lv_iload hx hb dX4_readTerm_97 (lv_at hl 0 rfl) ?_
        refine ti_if_ne (tgt := 104) hx hb dX4_readTerm_99 (by decide) (rdM_r hM) (fun h99 => ?_) (fun h99 => ?_)
        · obtain ⟨xv, ev, gp, gl, gv, gL, gs, s9⟩ := rdM_1 hM h99
          have R9 := RS_m (lo := (rd + 8 + 9 * d)) hR0 s9 gp gl
          obtain ⟨-, -, -, -, z4b, -⟩ := rdA R9.1 (d := d) (by omega)
          refine lv_aload_n hx hb dX4_readTerm_104 rfl (lv_at hl 3 rfl) ?_
          refine tm_calli (cs_X4_87 hx hb hml hown htw hK hW z4b.1 (c_X5_fits z4b (by rw [show fr M9 (rd + 8 + 9 * d + 1) = xv.2.1 from congrArg Prod.fst gv, show fr M9 (rd + 8 + 9 * d + 2) = xv.2.2 from congrArg Prod.snd gv]; exact gL)) ⟨rfl, rfl, by dsimp only; omega, by dsimp only; omega⟩ hl.1 (Nat.le_of_ble_eq_true rfl) dX4_readTerm_105 ⟨Nat.le_of_ble_eq_true rfl, Nat.le_of_ble_eq_true rfl⟩) hS (fun x105 M105 H locs hp105 hW hS => ?_)
          obtain ⟨ex105, eM105⟩ := hp105
          rw [eM105] at hW
          rw [ex105]
          refine ti_if_ne (tgt := 118) hx hb dX4_readTerm_108 (by decide) (tl_b_r _) (fun h108 => ?_) (fun h108 => ?_)
          · have nf : sfit xv.2 := tl_fitq gv h108
            refine ti_iinc (k := 4) (lv' := [(3, _), (6, _), (0, _), (1, _), (2, _), (5, _)]) hx hb dX4_readTerm_118 hl rfl (by decide) rfl (fun ls hl => ?_)
            refine lv_goto (tgt := 29) hx hb dX4_readTerm_121 (by decide) ?_
            exact ihk (i + 1) xv.1 xv.2 M9 _ _ _ (by omega) (by omega) (by rw [← hT, ev]; exact (if_pos nf).symm) R9 gv (gs nf) s9 hW hS (lv_sub hl [2, 3, 4, 0] rfl)
          · have nf : ¬ sfit xv.2 := tl_fitn gv h108
            refine lv_aload_n hx hb dX4_readTerm_111 rfl (lv_at hl 1 rfl) ?_
            refine lv_iload hx hb dX4_readTerm_112 (lv_at hl 5 rfl) ?_
            refine tm_calli (cs_X4_69 hx hb hml hown htw hK hW (by assumption) (c_X4_failAt (by assumption)) ⟨rfl, rfl, by dsimp only; omega, by dsimp only; omega⟩ hl.1 (Nat.le_of_ble_eq_true rfl) dX4_readTerm_114 ⟨Nat.le_of_ble_eq_true rfl, Nat.le_of_ble_eq_true rfl⟩) hS (fun x114 M114 H locs hp114 hW hS => ?_)
            obtain ⟨ex114, eM114⟩ := hp114
            rw [ex114]
            exact tm_zret hx hb hr hlk (Or.inl rfl) hK hW hS (rdR_F s9 (f := q) (by rw [← hT, ev]; exact if_neg nf) eM114 rfl) dX4_readTerm_117
        · obtain ⟨f9, e9, g9⟩ := rdM_0 hM h99
          refine ti_iconst hx hb dX4_readTerm_102 ?_
          exact tm_zret hx hb hr hlk (by first | exact Or.inl rfl | exact Or.inr rfl | assumption) hK hW hS ⟨hM.1, Or.inr ⟨f9, by rw [← hT, e9]; rfl, rfl, g9⟩⟩ dX4_readTerm_103
      refine lv_iload_n hx hb dX4_readTerm_29 rfl (lv_at hl 3 rfl) ?_
      refine ti_bipush hx hb dX4_readTerm_30 (by decide) ?_
      refine ti_icmp_ge (tgt := 124) hx hb dX4_readTerm_32 (by decide) (by omega) (by omega) (fun h32 => ?_) (fun h32 => ?_)
      · exact absurd h32 (by omega)
      · refine lv_aload_n hx hb dX4_readTerm_35 rfl (lv_at hl 0 rfl) ?_
        refine tm_calli (cs_X4_65 hx hb hml hown htw hK hW (by assumption) (c_X4_next hR) ⟨rfl, rfl, by dsimp only; omega, by dsimp only; omega⟩ hl.1 (Nat.le_of_ble_eq_true rfl) dX4_readTerm_36 ⟨Nat.le_of_ble_eq_true rfl, Nat.le_of_ble_eq_true rfl⟩) hS (fun x36 M36 H locs hp36 hW hS => ?_)
        obtain ⟨ex36, e36, n36⟩ := hp36
        rw [hq] at e36
        rw [ex36, hq, hc]
        have R36 := RS_m hR (rdn_f (lo := (rd + 8 + 9 * d)) n36) e36 q0.2
        have y0b := R36.1.1
        refine lv_istore (lv' := [(4, _), (0, _), (1, _), (2, _), (3, _)]) hx hb dX4_readTerm_39 hl (by decide) rfl (fun ls hl => ?_)
        refine lv_iload hx hb dX4_readTerm_41 (lv_at hl 0 rfl) ?_
        refine ti_bipush hx hb dX4_readTerm_43 (by decide) ?_
        refine ti_icmp_eq (tgt := 57) hx hb dX4_readTerm_45 (by decide) (by omega) (by omega) (fun h45 => ?_) (fun h45 => ?_)
        · have hlt : q < n := tp_ch_lt (t := t) (n := n) (by rw [hc]; omega)
          have R70 : RS sh (sI M36 rd 2 (mI M36 rd 2 + 1)) rd ta t n (q + 1) := RS_m (lo := 0) R36 (rdf_sI (by decide)) (by rw [show mI (sI M36 rd 2 (mI M36 rd 2 + 1)) rd 2 = mI M36 rd 2 + 1 from tm_up_s _ _ _ _, e36]; rfl) hlt
          have F70 : rdf rd (rd + 8 + 9 * d) M (sI M36 rd 2 (mI M36 rd 2 + 1)) := rdf_tr (rdf_tr hf (rdn_f n36)) (rdf_sI (by decide))
          have v70 : sd (sI M36 rd 2 (mI M36 rd 2 + 1)) (rd + 8 + 9 * d) = v := (rdn_sd n36).trans hv
          refine lv_aload_n hx hb dX4_readTerm_57 rfl (lv_at hl 1 rfl) ?_
          refine gf_X4_38 hx hb htw hown hK hW (by assumption) dX4_readTerm_58 ?_
          rw [e36]
          refine lv_istore (lv' := [(5, _), (4, _), (0, _), (1, _), (2, _), (3, _)]) hx hb dX4_readTerm_61 hl (by decide) rfl (fun ls hl => ?_)
          refine lv_aload_n hx hb dX4_readTerm_63 rfl (lv_at hl 2 rfl) ?_
          refine lv_dup hx hb dX4_readTerm_64 rfl ?_
          refine gf_X4_38 hx hb htw hown hK hW (by assumption) dX4_readTerm_65 ?_
          refine ti_iconst hx hb dX4_readTerm_68 ?_
          refine ti_iadd hx hb dX4_readTerm_69 ?_
          refine pf_X4_38 hx hb htw hown hK hW (by assumption) hS dX4_readTerm_70 (fun H locs hW hS => ?_)
          refine lv_iload hx hb dX4_readTerm_73 (lv_at hl 1 rfl) ?_
          refine ti_bipush hx hb dX4_readTerm_75 (by decide) ?_
          refine ti_icmp_ne (tgt := 90) hx hb dX4_readTerm_77 (by decide) (by omega) (by omega) (fun h77 => ?_) (fun h77 => ?_)
          · refine lv_aload_n hx hb dX4_readTerm_90 rfl (lv_at hl 2 rfl) ?_
            refine lv_iload_n hx hb dX4_readTerm_91 rfl (lv_at hl 3 rfl) ?_
            refine tm_calli (cs_X4_98 hx hb hml hown htw hK hW (by assumption) (c_X4_divide R70 hd (by rw [v70]; exact ho)) ⟨rfl, rfl, by dsimp only; omega, by dsimp only; omega⟩ hl.1 (Nat.le_of_ble_eq_true rfl) dX4_readTerm_92 ⟨Nat.le_of_ble_eq_true rfl, Nat.le_of_ble_eq_true rfl⟩) hS (fun x92 M92 H locs hp92 hW hS => ?_)
            first
            | exact tail x84 M84 _ _ _ (by omega) (by rw [tp_op, if_pos (by omega), ← v70]; exact rdM_C F70 hp84) hW hS (lv_sub hl [2, 3, 4, 5, 0] rfl)
            | exact tail x92 M92 _ _ _ (by omega) (by rw [tp_op, if_neg (by omega), ← v70]; exact rdM_C F70 hp92) hW hS (lv_sub hl [2, 3, 4, 5, 0] rfl)
          · refine lv_aload_n hx hb dX4_readTerm_80 rfl (lv_at hl 2 rfl) ?_
            refine lv_iload_n hx hb dX4_readTerm_81 rfl (lv_at hl 3 rfl) ?_
            refine lv_iload hx hb dX4_readTerm_82 (lv_at hl 0 rfl) ?_
            refine tm_calli (cs_X4_94 hx hb hml hown htw hK hW (by assumption) (c_X4_multiply (pl := q) R70 hd q0.2 (by rw [v70]; exact ho) ih) ⟨rfl, rfl, by dsimp only; omega, by dsimp only; omega⟩ hl.1 (Nat.le_of_ble_eq_true rfl) dX4_readTerm_84 ⟨Nat.le_of_ble_eq_true rfl, Nat.le_of_ble_eq_true rfl⟩) hS (fun x84 M84 H locs hp84 hW hS => ?_)
            refine lv_goto (tgt := 95) hx hb dX4_readTerm_87 (by decide) ?_
            first
            | exact tail x84 M84 _ _ _ (by omega) (by rw [tp_op, if_pos (by omega), ← v70]; exact rdM_C F70 hp84) hW hS (lv_sub hl [2, 3, 4, 5, 0] rfl)
            | exact tail x92 M92 _ _ _ (by omega) (by rw [tp_op, if_neg (by omega), ← v70]; exact rdM_C F70 hp92) hW hS (lv_sub hl [2, 3, 4, 5, 0] rfl)
        · refine lv_iload hx hb dX4_readTerm_48 (lv_at hl 0 rfl) ?_
          refine ti_bipush hx hb dX4_readTerm_50 (by decide) ?_
          refine ti_icmp_eq (tgt := 57) hx hb dX4_readTerm_52 (by decide) (by omega) (by omega) (fun h52 => ?_) (fun h52 => ?_)
          · have hlt : q < n := tp_ch_lt (t := t) (n := n) (by rw [hc]; omega)
            have R70 : RS sh (sI M36 rd 2 (mI M36 rd 2 + 1)) rd ta t n (q + 1) := RS_m (lo := 0) R36 (rdf_sI (by decide)) (by rw [show mI (sI M36 rd 2 (mI M36 rd 2 + 1)) rd 2 = mI M36 rd 2 + 1 from tm_up_s _ _ _ _, e36]; rfl) hlt
            have F70 : rdf rd (rd + 8 + 9 * d) M (sI M36 rd 2 (mI M36 rd 2 + 1)) := rdf_tr (rdf_tr hf (rdn_f n36)) (rdf_sI (by decide))
            have v70 : sd (sI M36 rd 2 (mI M36 rd 2 + 1)) (rd + 8 + 9 * d) = v := (rdn_sd n36).trans hv
            refine lv_aload_n hx hb dX4_readTerm_57 rfl (lv_at hl 1 rfl) ?_
            refine gf_X4_38 hx hb htw hown hK hW (by assumption) dX4_readTerm_58 ?_
            rw [e36]
            refine lv_istore (lv' := [(5, _), (4, _), (0, _), (1, _), (2, _), (3, _)]) hx hb dX4_readTerm_61 hl (by decide) rfl (fun ls hl => ?_)
            refine lv_aload_n hx hb dX4_readTerm_63 rfl (lv_at hl 2 rfl) ?_
            refine lv_dup hx hb dX4_readTerm_64 rfl ?_
            refine gf_X4_38 hx hb htw hown hK hW (by assumption) dX4_readTerm_65 ?_
            refine ti_iconst hx hb dX4_readTerm_68 ?_
            refine ti_iadd hx hb dX4_readTerm_69 ?_
            refine pf_X4_38 hx hb htw hown hK hW (by assumption) hS dX4_readTerm_70 (fun H locs hW hS => ?_)
            refine lv_iload hx hb dX4_readTerm_73 (lv_at hl 1 rfl) ?_
            refine ti_bipush hx hb dX4_readTerm_75 (by decide) ?_
            refine ti_icmp_ne (tgt := 90) hx hb dX4_readTerm_77 (by decide) (by omega) (by omega) (fun h77 => ?_) (fun h77 => ?_)
            · refine lv_aload_n hx hb dX4_readTerm_90 rfl (lv_at hl 2 rfl) ?_
              refine lv_iload_n hx hb dX4_readTerm_91 rfl (lv_at hl 3 rfl) ?_
              refine tm_calli (cs_X4_98 hx hb hml hown htw hK hW (by assumption) (c_X4_divide R70 hd (by rw [v70]; exact ho)) ⟨rfl, rfl, by dsimp only; omega, by dsimp only; omega⟩ hl.1 (Nat.le_of_ble_eq_true rfl) dX4_readTerm_92 ⟨Nat.le_of_ble_eq_true rfl, Nat.le_of_ble_eq_true rfl⟩) hS (fun x92 M92 H locs hp92 hW hS => ?_)
              first
              | exact tail x84 M84 _ _ _ (by omega) (by rw [tp_op, if_pos (by omega), ← v70]; exact rdM_C F70 hp84) hW hS (lv_sub hl [2, 3, 4, 5, 0] rfl)
              | exact tail x92 M92 _ _ _ (by omega) (by rw [tp_op, if_neg (by omega), ← v70]; exact rdM_C F70 hp92) hW hS (lv_sub hl [2, 3, 4, 5, 0] rfl)
            · refine lv_aload_n hx hb dX4_readTerm_80 rfl (lv_at hl 2 rfl) ?_
              refine lv_iload_n hx hb dX4_readTerm_81 rfl (lv_at hl 3 rfl) ?_
              refine lv_iload hx hb dX4_readTerm_82 (lv_at hl 0 rfl) ?_
              refine tm_calli (cs_X4_94 hx hb hml hown htw hK hW (by assumption) (c_X4_multiply (pl := q) R70 hd q0.2 (by rw [v70]; exact ho) ih) ⟨rfl, rfl, by dsimp only; omega, by dsimp only; omega⟩ hl.1 (Nat.le_of_ble_eq_true rfl) dX4_readTerm_84 ⟨Nat.le_of_ble_eq_true rfl, Nat.le_of_ble_eq_true rfl⟩) hS (fun x84 M84 H locs hp84 hW hS => ?_)
              refine lv_goto (tgt := 95) hx hb dX4_readTerm_87 (by decide) ?_
              first
              | exact tail x84 M84 _ _ _ (by omega) (by rw [tp_op, if_pos (by omega), ← v70]; exact rdM_C F70 hp84) hW hS (lv_sub hl [2, 3, 4, 5, 0] rfl)
              | exact tail x92 M92 _ _ _ (by omega) (by rw [tp_op, if_neg (by omega), ← v70]; exact rdM_C F70 hp92) hW hS (lv_sub hl [2, 3, 4, 5, 0] rfl)
          · refine ti_iconst hx hb dX4_readTerm_55 ?_
            exact tm_zret hx hb hr hlk (by first | exact Or.inl rfl | exact Or.inr rfl | assumption) hK hW hS (rdR_T (x := (q, v)) (rdf_tr hf (rdn_f n36)) (by rw [← he, tp_tl, hq, hc]; exact if_neg (by omega)) e36 q0.2 ((rdn_sd n36).trans hv) ho) dX4_readTerm_56
  refine lv_aload_n hx hb dX4_readTerm_0 rfl (lv_at hl 0 rfl) ?_
  refine lv_iload_n hx hb dX4_readTerm_1 rfl (lv_at hl 1 rfl) ?_
  refine tm_calli (cs_X4_91 hx hb hml hown htw hK hW (by assumption) (c_X4_readFactor hR hd ih) ⟨rfl, rfl, by dsimp only; omega, by dsimp only; omega⟩ hl.1 (Nat.le_of_ble_eq_true rfl) dX4_readTerm_2 ⟨Nat.le_of_ble_eq_true rfl, Nat.le_of_ble_eq_true rfl⟩) hS (fun x2 M2 H locs hp2 hW hS => ?_)
  refine ti_if_ne (tgt := 10) hx hb dX4_readTerm_5 (by decide) (rdR_r hp2) (fun h5 => ?_) (fun h5 => ?_)
  · obtain ⟨x2v, e2, g2, l2, v2, k2, s2⟩ := rdR_1 hp2 h5
    have F2 := rdf_wd (lo' := (rd + 8 + 9 * d)) s2 (by omega)
    have R2 := RS_m hR F2 g2 l2
    obtain ⟨y0a, y1a, y2a, ⟨y3a, y4a, y5a⟩, ⟨y6a, y7a, y8a⟩, -⟩ := R2.1
    obtain ⟨z0a, z1a, z2a, z3a, z4a, z5a⟩ := rdA R2.1 (d := d) (by omega)
    have w3a := z3a.1
    have w4a := z4a.1
    have w5a := z5a.1
    refine lv_aload_n hx hb dX4_readTerm_10 rfl (lv_at hl 0 rfl) ?_
    refine gf_X4_21 hx hb htw hown hK hW (by assumption) (by assumption) dX4_readTerm_11 ?_
    refine lv_iload_n hx hb dX4_readTerm_14 rfl (lv_at hl 1 rfl) ?_
    refine tm_aaldS hx hb hK hW (by assumption) (by omega) (by omega) (by decide) z1a dX4_readTerm_15 ?_
    refine lv_astore_n (lv' := [(2, _), (0, _), (1, _)]) hx hb dX4_readTerm_16 rfl hl (by decide) rfl (fun ls hl => ?_)
    refine lv_aload_n hx hb dX4_readTerm_17 rfl (lv_at hl 0 rfl) ?_
    refine lv_aload_n hx hb dX4_readTerm_18 rfl (lv_at hl 1 rfl) ?_
    refine gf_X4_24 hx hb htw hown hK hW (by assumption) (by assumption) dX4_readTerm_19 ?_
    refine lv_iload_n hx hb dX4_readTerm_22 rfl (lv_at hl 2 rfl) ?_
    refine tm_aaldS hx hb hK hW (by assumption) (by omega) (by omega) (by decide) z2a dX4_readTerm_23 ?_
    refine tm_callv (cs_X4_54 hx hb hml hown htw hK hW w4a (c_X5_copy z4a z5a (by omega)) ⟨rfl, rfl, by dsimp only; omega, by dsimp only; omega⟩ hl.1 (Nat.le_of_ble_eq_true rfl) dX4_readTerm_24 ⟨Nat.le_of_ble_eq_true rfl, Nat.le_of_ble_eq_true rfl⟩) hS (fun M24 H locs hp24 hW hS => ?_)
    refine ti_iconst hx hb dX4_readTerm_27 ?_
    refine lv_istore_n (lv' := [(3, _), (2, _), (0, _), (1, _)]) hx hb dX4_readTerm_28 rfl hl (by decide) rfl (fun ls hl => ?_)
    exact loop 80 0 x2v.1 x2v.2 M24 _ _ _ (by omega) (by omega) (by rw [tp_term, e2]; rfl) (RS_m hR (rdf_tr F2 (by rw [hp24]; exact rdf_sS (by omega) (by omega))) (by rw [hp24]; exact g2) l2) (by rw [hp24, v2]; exact sd_self _ _ _) k2 (rdf_tr F2 (by rw [hp24]; exact rdf_sS (by omega) (by omega))) hW hS (lv_sub hl [2, 3, 1, 0] rfl)
  · obtain ⟨f2, e2, g2⟩ := rdR_0 hp2 h5
    refine ti_iconst hx hb dX4_readTerm_8 ?_
    exact tm_zret hx hb hr hlk (by first | exact Or.inl rfl | exact Or.inr rfl | assumption) hK hW hS ⟨rdx_wd hp2.1 (by omega), Or.inr ⟨f2, by rw [tp_term, e2]; rfl, rfl, g2⟩⟩ dX4_readTerm_9
