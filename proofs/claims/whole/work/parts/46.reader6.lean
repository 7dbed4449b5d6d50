/-! Reader: readSide, by levels; readRelation, read (by program: wip/whole/gen/reader5.py) -/
theorem dX4_readSide_0 : decode cX4_readSide 0 = .ok (.aload_n 0, 1) := by decide +kernel
theorem dX4_readSide_1 : decode cX4_readSide 1 = .ok (.invokevirtual 65, 3) := by decide +kernel
theorem dX4_readSide_4 : decode cX4_readSide 4 = .ok (.bipush 45, 2) := by decide +kernel
theorem dX4_readSide_6 : decode cX4_readSide 6 = .ok (.if_icmp .ne 7, 3) := by decide +kernel
theorem dX4_readSide_9 : decode cX4_readSide 9 = .ok (.iconst 1, 1) := by decide +kernel
theorem dX4_readSide_10 : decode cX4_readSide 10 = .ok (.goto 4, 3) := by decide +kernel
theorem dX4_readSide_13 : decode cX4_readSide 13 = .ok (.iconst 0, 1) := by decide +kernel
theorem dX4_readSide_14 : decode cX4_readSide 14 = .ok (.istore_n 2, 1) := by decide +kernel
theorem dX4_readSide_15 : decode cX4_readSide 15 = .ok (.iload_n 2, 1) := by decide +kernel
theorem dX4_readSide_16 : decode cX4_readSide 16 = .ok (.ifCond .eq 13, 3) := by decide +kernel
theorem dX4_readSide_19 : decode cX4_readSide 19 = .ok (.aload_n 0, 1) := by decide +kernel
theorem dX4_readSide_20 : decode cX4_readSide 20 = .ok (.dup, 1) := by decide +kernel
theorem dX4_readSide_21 : decode cX4_readSide 21 = .ok (.getfield 38, 3) := by decide +kernel
theorem dX4_readSide_24 : decode cX4_readSide 24 = .ok (.iconst 1, 1) := by decide +kernel
theorem dX4_readSide_25 : decode cX4_readSide 25 = .ok (.iadd, 1) := by decide +kernel
theorem dX4_readSide_26 : decode cX4_readSide 26 = .ok (.putfield 38, 3) := by decide +kernel
theorem dX4_readSide_29 : decode cX4_readSide 29 = .ok (.aload_n 0, 1) := by decide +kernel
theorem dX4_readSide_30 : decode cX4_readSide 30 = .ok (.iload_n 1, 1) := by decide +kernel
theorem dX4_readSide_31 : decode cX4_readSide 31 = .ok (.invokevirtual 75, 3) := by decide +kernel
theorem dX4_readSide_34 : decode cX4_readSide 34 = .ok (.ifCond .ne 5, 3) := by decide +kernel
theorem dX4_readSide_37 : decode cX4_readSide 37 = .ok (.iconst 0, 1) := by decide +kernel
theorem dX4_readSide_38 : decode cX4_readSide 38 = .ok (.ireturn, 1) := by decide +kernel
theorem dX4_readSide_39 : decode cX4_readSide 39 = .ok (.aload_n 0, 1) := by decide +kernel
theorem dX4_readSide_40 : decode cX4_readSide 40 = .ok (.getfield 17, 3) := by decide +kernel
theorem dX4_readSide_43 : decode cX4_readSide 43 = .ok (.iload_n 1, 1) := by decide +kernel
theorem dX4_readSide_44 : decode cX4_readSide 44 = .ok (.aaload, 1) := by decide +kernel
theorem dX4_readSide_45 : decode cX4_readSide 45 = .ok (.astore_n 3, 1) := by decide +kernel
theorem dX4_readSide_46 : decode cX4_readSide 46 = .ok (.aload_n 3, 1) := by decide +kernel
theorem dX4_readSide_47 : decode cX4_readSide 47 = .ok (.aload_n 0, 1) := by decide +kernel
theorem dX4_readSide_48 : decode cX4_readSide 48 = .ok (.getfield 21, 3) := by decide +kernel
theorem dX4_readSide_51 : decode cX4_readSide 51 = .ok (.iload_n 1, 1) := by decide +kernel
theorem dX4_readSide_52 : decode cX4_readSide 52 = .ok (.aaload, 1) := by decide +kernel
theorem dX4_readSide_53 : decode cX4_readSide 53 = .ok (.invokevirtual 54, 3) := by decide +kernel
theorem dX4_readSide_56 : decode cX4_readSide 56 = .ok (.iload_n 2, 1) := by decide +kernel
theorem dX4_readSide_57 : decode cX4_readSide 57 = .ok (.ifCond .eq 7, 3) := by decide +kernel
theorem dX4_readSide_60 : decode cX4_readSide 60 = .ok (.aload_n 3, 1) := by decide +kernel
theorem dX4_readSide_61 : decode cX4_readSide 61 = .ok (.invokevirtual 78, 3) := by decide +kernel
theorem dX4_readSide_64 : decode cX4_readSide 64 = .ok (.iconst 0, 1) := by decide +kernel
theorem dX4_readSide_65 : decode cX4_readSide 65 = .ok (.istore 4, 2) := by decide +kernel
theorem dX4_readSide_67 : decode cX4_readSide 67 = .ok (.iload 4, 2) := by decide +kernel
theorem dX4_readSide_69 : decode cX4_readSide 69 = .ok (.bipush 80, 2) := by decide +kernel
theorem dX4_readSide_71 : decode cX4_readSide 71 = .ok (.if_icmp .ge 101, 3) := by decide +kernel
theorem dX4_readSide_74 : decode cX4_readSide 74 = .ok (.aload_n 0, 1) := by decide +kernel
theorem dX4_readSide_75 : decode cX4_readSide 75 = .ok (.invokevirtual 65, 3) := by decide +kernel
theorem dX4_readSide_78 : decode cX4_readSide 78 = .ok (.istore 5, 2) := by decide +kernel
theorem dX4_readSide_80 : decode cX4_readSide 80 = .ok (.iload 5, 2) := by decide +kernel
theorem dX4_readSide_82 : decode cX4_readSide 82 = .ok (.bipush 43, 2) := by decide +kernel
theorem dX4_readSide_84 : decode cX4_readSide 84 = .ok (.if_icmp .eq 12, 3) := by decide +kernel
theorem dX4_readSide_87 : decode cX4_readSide 87 = .ok (.iload 5, 2) := by decide +kernel
theorem dX4_readSide_89 : decode cX4_readSide 89 = .ok (.bipush 45, 2) := by decide +kernel
theorem dX4_readSide_91 : decode cX4_readSide 91 = .ok (.if_icmp .eq 5, 3) := by decide +kernel
theorem dX4_readSide_94 : decode cX4_readSide 94 = .ok (.iconst 1, 1) := by decide +kernel
theorem dX4_readSide_95 : decode cX4_readSide 95 = .ok (.ireturn, 1) := by decide +kernel
theorem dX4_readSide_96 : decode cX4_readSide 96 = .ok (.aload_n 0, 1) := by decide +kernel
theorem dX4_readSide_97 : decode cX4_readSide 97 = .ok (.getfield 38, 3) := by decide +kernel
theorem dX4_readSide_100 : decode cX4_readSide 100 = .ok (.istore 6, 2) := by decide +kernel
theorem dX4_readSide_102 : decode cX4_readSide 102 = .ok (.aload_n 0, 1) := by decide +kernel
theorem dX4_readSide_103 : decode cX4_readSide 103 = .ok (.dup, 1) := by decide +kernel
theorem dX4_readSide_104 : decode cX4_readSide 104 = .ok (.getfield 38, 3) := by decide +kernel
theorem dX4_readSide_107 : decode cX4_readSide 107 = .ok (.iconst 1, 1) := by decide +kernel
theorem dX4_readSide_108 : decode cX4_readSide 108 = .ok (.iadd, 1) := by decide +kernel
theorem dX4_readSide_109 : decode cX4_readSide 109 = .ok (.putfield 38, 3) := by decide +kernel
theorem dX4_readSide_112 : decode cX4_readSide 112 = .ok (.aload_n 0, 1) := by decide +kernel
theorem dX4_readSide_113 : decode cX4_readSide 113 = .ok (.iload_n 1, 1) := by decide +kernel
theorem dX4_readSide_114 : decode cX4_readSide 114 = .ok (.invokevirtual 75, 3) := by decide +kernel
theorem dX4_readSide_117 : decode cX4_readSide 117 = .ok (.ifCond .ne 5, 3) := by decide +kernel
theorem dX4_readSide_120 : decode cX4_readSide 120 = .ok (.iconst 0, 1) := by decide +kernel
theorem dX4_readSide_121 : decode cX4_readSide 121 = .ok (.ireturn, 1) := by decide +kernel
theorem dX4_readSide_122 : decode cX4_readSide 122 = .ok (.iload 5, 2) := by decide +kernel
theorem dX4_readSide_124 : decode cX4_readSide 124 = .ok (.bipush 43, 2) := by decide +kernel
theorem dX4_readSide_126 : decode cX4_readSide 126 = .ok (.if_icmp .ne 16, 3) := by decide +kernel
theorem dX4_readSide_129 : decode cX4_readSide 129 = .ok (.aload_n 3, 1) := by decide +kernel
theorem dX4_readSide_130 : decode cX4_readSide 130 = .ok (.aload_n 0, 1) := by decide +kernel
theorem dX4_readSide_131 : decode cX4_readSide 131 = .ok (.getfield 21, 3) := by decide +kernel
theorem dX4_readSide_134 : decode cX4_readSide 134 = .ok (.iload_n 1, 1) := by decide +kernel
theorem dX4_readSide_135 : decode cX4_readSide 135 = .ok (.aaload, 1) := by decide +kernel
theorem dX4_readSide_136 : decode cX4_readSide 136 = .ok (.invokevirtual 81, 3) := by decide +kernel
theorem dX4_readSide_139 : decode cX4_readSide 139 = .ok (.goto 13, 3) := by decide +kernel
theorem dX4_readSide_142 : decode cX4_readSide 142 = .ok (.aload_n 3, 1) := by decide +kernel
theorem dX4_readSide_143 : decode cX4_readSide 143 = .ok (.aload_n 0, 1) := by decide +kernel
theorem dX4_readSide_144 : decode cX4_readSide 144 = .ok (.getfield 21, 3) := by decide +kernel
theorem dX4_readSide_147 : decode cX4_readSide 147 = .ok (.iload_n 1, 1) := by decide +kernel
theorem dX4_readSide_148 : decode cX4_readSide 148 = .ok (.aaload, 1) := by decide +kernel
theorem dX4_readSide_149 : decode cX4_readSide 149 = .ok (.invokevirtual 84, 3) := by decide +kernel
theorem dX4_readSide_152 : decode cX4_readSide 152 = .ok (.aload_n 3, 1) := by decide +kernel
theorem dX4_readSide_153 : decode cX4_readSide 153 = .ok (.invokevirtual 87, 3) := by decide +kernel
theorem dX4_readSide_156 : decode cX4_readSide 156 = .ok (.ifCond .ne 10, 3) := by decide +kernel
theorem dX4_readSide_159 : decode cX4_readSide 159 = .ok (.aload_n 0, 1) := by decide +kernel
theorem dX4_readSide_160 : decode cX4_readSide 160 = .ok (.iload 6, 2) := by decide +kernel
theorem dX4_readSide_162 : decode cX4_readSide 162 = .ok (.invokevirtual 69, 3) := by decide +kernel
theorem dX4_readSide_165 : decode cX4_readSide 165 = .ok (.ireturn, 1) := by decide +kernel
theorem dX4_readSide_166 : decode cX4_readSide 166 = .ok (.iinc 4 1, 3) := by decide +kernel
theorem dX4_readSide_169 : decode cX4_readSide 169 = .ok (.goto (-102), 3) := by decide +kernel
theorem dX4_readSide_172 : decode cX4_readSide 172 = .ok (.iconst 1, 1) := by decide +kernel
theorem dX4_readSide_173 : decode cX4_readSide 173 = .ok (.ireturn, 1) := by decide +kernel
set_option maxHeartbeats 4000000 in
set_option maxRecDepth 100000 in
/-- Reader.readSide, the deeper levels given -/
theorem c_X4_readSide0 {l : Launch} {G : tm_G} {Hb : Heap} {sh : tm_sh} {M : tm_M} {rd ta n p1 r d : Nat} {t : Nat → Int} (hR : RS sh M rd ta t n p1) (hd : d + r = 8) (ih : ∀ r1, r1 + 1 = r → tl_CS l G Hb sh rd ta n t r1) : Met l yX4_readSide (tws yX4_readSide cX4_readSide 7 (some .boolean)) ({ frames := 20 + 6 * r, cells := 0, slots := 0, locals := 400 + 130 * r }) (va_Pc [.ref rd, ji d] (tm_St G Hb sh M)) (tm_Qi G Hb sh (fun x M1 => rdR rd (rd + 5 + 9 * d) (rd + 5 + 9 * d) n M M1 (tp_side t n (tp_in t n r) p1) x)) 0 0 (tm_A Hb) := by
  refine tm_begin (by decide) (Nat.le_of_ble_eq_true rfl) (fun p e s m below meth c ls hx hb hr hml hown htw hlk hnm hK hW hl => ?_)
  have hS : va_S (tm_A Hb) s.heap s.heap [] := va_S.rf
  have hl : lv_has ls 7 [(0, .ref rd), (1, ji d)] := hl
  obtain ⟨y0, y1, y2, ⟨y3, y4, y5⟩, ⟨y6, y7, y8⟩, -⟩ := hR.1
  obtain ⟨z0, z1, z2, z3, z4, z5⟩ := rdA hR.1 (d := d) (by omega)
  have w3 := z3.1
  have w4 := z4.1
  have w5 := z5.1
  have htr := RS_t hR
  have hR0 := hR
  have loop : ∀ (k : Nat) (i : Int) (p2 : Nat) (v : tl_S) (M1 : tm_M) (H : Heap) (locs : List Loc) (ls : Array Slot), i + k = 80 → 0 ≤ i → tp_sl t n (tp_in t n r) k p2 v = tp_side t n (tp_in t n r) p1 → RS sh M1 rd ta t n p2 → sd M1 (rd + 5 + 9 * d) = v → sok v → rdf rd (rd + 5 + 9 * d) M M1 → tm_W G Hb sh M1 H → va_S (tm_A Hb) s.heap H locs → lv_has ls 7 [(0, .ref rd), (1, ji d), (3, .ref (rd + 5 + 9 * d)), (4, ji i)] → W p l e ({ frames := 20 + 6 * r, cells := 0, slots := 0, locals := 400 + 130 * r }) s m [.ref rd, ji d].toArray below meth c H locs 0 0 (MQ below (tm_Qi G Hb sh (fun x M1 => rdR rd (rd + 5 + 9 * d) (rd + 5 + 9 * d) n M M1 (tp_side t n (tp_in t n r) p1) x)) [.ref rd, ji d].toArray s 0 0 (tm_A Hb)) (F0 m 67 ls []) := by
    intro k
    induction k with
    | zero =>
      intro i p2 v M1 H locs ls hk hi he hR hv ho hf hW hS hl
      refine lv_iload hx hb dX4_readSide_67 (lv_at hl 3 rfl) ?_
      refine ti_bipush hx hb dX4_readSide_69 (by decide) ?_
      refine ti_icmp_ge (tgt := 172) hx hb dX4_readSide_71 (by decide) (by omega) (by omega) (fun h71 => ?_) (fun h71 => ?_)
      · refine ti_iconst hx hb dX4_readSide_172 ?_
        exact tm_zret hx hb hr hlk (by first | exact Or.inl rfl | exact Or.inr rfl | assumption) hK hW hS (rdR_T hf he.symm hR.2.2.2.2.2.1 hR.2.2.2.2.2.2 hv ho) dX4_readSide_173
      · exact absurd (show 80 ≤ i by omega) h71
    | succ k ihk =>
      intro i p2 v M1 H locs ls hk hi he hR hv ho hf hW hS hl
      have q0 := tp_nx_le (t := t) hR.2.2.2.2.2.2
      have cr := tp_ch_r (n := n) (p := tp_nx t n p2) htr
      generalize hq : tp_nx t n p2 = q at q0 cr
      generalize hc : tp_ch t n q = cz at cr
      have tail : ∀ (w : tl_S) (p3 : Nat) (M9 : tm_M) (H : Heap) (locs : List Loc) (ls : Array Slot), (cz = 43 ∨ cz = 45) → tp_sum cz v (tp_term t n (tp_in t n r) (q + 1)) = .inl (p3, w) → RS sh M9 rd ta t n p3 → sd M9 (rd + 5 + 9 * d) = w → sLok w → (sfit w → sok w) → rdf rd (rd + 5 + 9 * d) M M9 → tm_W G Hb sh M9 H → va_S (tm_A Hb) s.heap H locs → lv_has ls 7 [(0, .ref rd), (1, ji d), (3, .ref (rd + 5 + 9 * d)), (4, ji i), (6, ji q)] → W p l e ({ frames := 20 + 6 * r, cells := 0, slots := 0, locals := 400 + 130 * r }) s m [.ref rd, ji d].toArray below meth c H locs 0 0 (MQ below (tm_Qi G Hb sh (fun x M1 => rdR rd (rd + 5 + 9 * d) (rd + 5 + 9 * d) n M M1 (tp_side t n (tp_in t n r) p1) x)) [.ref rd, ji d].toArray s 0 0 (tm_A Hb)) (F0 m 152 ls []) := by
        intro w p3 M9 H locs ls hcc hM R9 gv gL gs hf9 hW hS hl
        have hT : tp_fit q (.inl (p3, w)) (tp_sl t n (tp_in t n r) k) = tp_side t n (tp_in t n r) p1 := by
          rw [← he, tp_sl, hq, hc, if_pos hcc, hM]
        have y0 := hR.1.1
        obtain ⟨-, -, -, z3b, -, -⟩ := rdA R9.1 (d := d) (by omega)
        refine lv_aload_n hx hb dX4_readSide_152 rfl (lv_at hl 2 rfl) ?_
        refine tm_calli (cs_X4_87 hx hb hml hown htw hK hW z3b.1 (c_X5_fits z3b (by rw [show fr M9 (rd + 5 + 9 * d + 1) = w.1 from congrArg Prod.fst gv, show fr M9 (rd + 5 + 9 * d + 2) = w.2 from congrArg Prod.snd gv]; exact gL)) ⟨rfl, rfl, by dsimp only; omega, by dsimp only; omega⟩ hl.1 (Nat.le_of_ble_eq_true rfl) dX4_readSide_153 ⟨Nat.le_of_ble_eq_true rfl, Nat.le_of_ble_eq_true rfl⟩) hS (fun x153 M153 H locs hp153 hW hS => ?_)
        obtain ⟨ex153, eM153⟩ := hp153
        rw [eM153] at hW
        rw [ex153]
        refine ti_if_ne (tgt := 166) hx hb dX4_readSide_156 (by decide) (tl_b_r _) (fun h156 => ?_) (fun h156 => ?_)
        · have nf : sfit w := tl_fitq gv h156
          refine ti_iinc (k := 3) (lv' := [(4, _), (0, _), (1, _), (3, _), (6, _)]) hx hb dX4_readSide_166 hl rfl (by decide) rfl (fun ls hl => ?_)
          refine lv_goto (tgt := 67) hx hb dX4_readSide_169 (by decide) ?_
          exact ihk (i + 1) p3 w M9 _ _ _ (by omega) (by omega) (by rw [← hT]; exact (if_pos nf).symm) R9 gv (gs nf) hf9 hW hS (lv_sub hl [1, 2, 3, 0] rfl)
        · have nf : ¬ sfit w := tl_fitn gv h156
          refine lv_aload_n hx hb dX4_readSide_159 rfl (lv_at hl 0 rfl) ?_
          refine lv_iload hx hb dX4_readSide_160 (lv_at hl 4 rfl) ?_
          refine tm_calli (cs_X4_69 hx hb hml hown htw hK hW (by assumption) (c_X4_failAt (by assumption)) ⟨rfl, rfl, by dsimp only; omega, by dsimp only; omega⟩ hl.1 (Nat.le_of_ble_eq_true rfl) dX4_readSide_162 ⟨Nat.le_of_ble_eq_true rfl, Nat.le_of_ble_eq_true rfl⟩) hS (fun x162 M162 H locs hp162 hW hS => ?_)
          obtain ⟨ex162, eM162⟩ := hp162
          rw [ex162]
          exact tm_zret hx hb hr hlk (Or.inl rfl) hK hW hS (rdR_F hf9 (f := q) (by rw [← hT]; exact if_neg nf) eM162 rfl) dX4_readSide_165
      refine lv_iload hx hb dX4_readSide_67 (lv_at hl 3 rfl) ?_
      refine ti_bipush hx hb dX4_readSide_69 (by decide) ?_
      refine ti_icmp_ge (tgt := 172) hx hb dX4_readSide_71 (by decide) (by omega) (by omega) (fun h71 => ?_) (fun h71 => ?_)
      · exact absurd h71 (by omega)
      · refine lv_aload_n hx hb dX4_readSide_74 rfl (lv_at hl 0 rfl) ?_
        refine tm_calli (cs_X4_65 hx hb hml hown htw hK hW (by assumption) (c_X4_next hR) ⟨rfl, rfl, by dsimp only; omega, by dsimp only; omega⟩ hl.1 (Nat.le_of_ble_eq_true rfl) dX4_readSide_75 ⟨Nat.le_of_ble_eq_true rfl, Nat.le_of_ble_eq_true rfl⟩) hS (fun x75 M75 H locs hp75 hW hS => ?_)
        obtain ⟨ex75, e75, n75⟩ := hp75
        rw [hq] at e75
        rw [ex75, hq, hc]
        have R75 := RS_m hR (rdn_f (lo := (rd + 5 + 9 * d)) n75) e75 q0.2
        have y0b := R75.1.1
        refine lv_istore (lv' := [(5, _), (0, _), (1, _), (3, _), (4, _)]) hx hb dX4_readSide_78 hl (by decide) rfl (fun ls hl => ?_)
        refine lv_iload hx hb dX4_readSide_80 (lv_at hl 0 rfl) ?_
        refine ti_bipush hx hb dX4_readSide_82 (by decide) ?_
        refine ti_icmp_eq (tgt := 96) hx hb dX4_readSide_84 (by decide) (by omega) (by omega) (fun h84 => ?_) (fun h84 => ?_)
        · have hlt : q < n := tp_ch_lt (t := t) (n := n) (by rw [hc]; omega)
          have R109 : RS sh (sI M75 rd 2 (mI M75 rd 2 + 1)) rd ta t n (q + 1) := RS_m (lo := 0) R75 (rdf_sI (by decide)) (by rw [show mI (sI M75 rd 2 (mI M75 rd 2 + 1)) rd 2 = mI M75 rd 2 + 1 from tm_up_s _ _ _ _, e75]; rfl) hlt
          have F109 : rdf rd (rd + 5 + 9 * d) M (sI M75 rd 2 (mI M75 rd 2 + 1)) := rdf_tr (rdf_tr hf (rdn_f n75)) (rdf_sI (by decide))
          have v109 : sd (sI M75 rd 2 (mI M75 rd 2 + 1)) (rd + 5 + 9 * d) = v := (rdn_sd n75).trans hv
          refine lv_aload_n hx hb dX4_readSide_96 rfl (lv_at hl 1 rfl) ?_
          refine gf_X4_38 hx hb htw hown hK hW (by assumption) dX4_readSide_97 ?_
          rw [e75]
          refine lv_istore (lv' := [(6, _), (5, _), (0, _), (1, _), (3, _), (4, _)]) hx hb dX4_readSide_100 hl (by decide) rfl (fun ls hl => ?_)
          refine lv_aload_n hx hb dX4_readSide_102 rfl (lv_at hl 2 rfl) ?_
          refine lv_dup hx hb dX4_readSide_103 rfl ?_
          refine gf_X4_38 hx hb htw hown hK hW (by assumption) dX4_readSide_104 ?_
          refine ti_iconst hx hb dX4_readSide_107 ?_
          refine ti_iadd hx hb dX4_readSide_108 ?_
          refine pf_X4_38 hx hb htw hown hK hW (by assumption) hS dX4_readSide_109 (fun H locs hW hS => ?_)
          refine lv_aload_n hx hb dX4_readSide_112 rfl (lv_at hl 2 rfl) ?_
          refine lv_iload_n hx hb dX4_readSide_113 rfl (lv_at hl 3 rfl) ?_
          refine tm_calli (cs_X4_75 hx hb hml hown htw hK hW (by assumption) (c_X4_readTerm R109 hd ih) ⟨rfl, rfl, by dsimp only; omega, by dsimp only; omega⟩ hl.1 (Nat.le_of_ble_eq_true rfl) dX4_readSide_114 ⟨Nat.le_of_ble_eq_true rfl, Nat.le_of_ble_eq_true rfl⟩) hS (fun x114 M114 H locs hp114 hW hS => ?_)
          refine ti_if_ne (tgt := 122) hx hb dX4_readSide_117 (by decide) (rdR_r hp114) (fun h117 => ?_) (fun h117 => ?_)
          · obtain ⟨xv, ev, gp, gl, gv, gk, s114⟩ := rdR_1 hp114 h117
            have F114 : rdf rd (rd + 5 + 9 * d) M M114 := rdf_tr F109 (rdf_wd s114 (by omega))
            have R114 := RS_m hR0 F114 gp gl
            obtain ⟨y0a, y1a, y2a, ⟨y3a, y4a, y5a⟩, ⟨y6a, y7a, y8a⟩, -⟩ := R114.1
            obtain ⟨z0a, z1a, z2a, z3a, z4a, z5a⟩ := rdA R114.1 (d := d) (by omega)
            have w3a := z3a.1
            have w4a := z4a.1
            have w5a := z5a.1
            have u114 : sd M114 (rd + 5 + 9 * d) = v := (rdf_sd s114 (by omega)).trans v109
            refine lv_iload hx hb dX4_readSide_122 (lv_at hl 1 rfl) ?_
            refine ti_bipush hx hb dX4_readSide_124 (by decide) ?_
            refine ti_icmp_ne (tgt := 142) hx hb dX4_readSide_126 (by decide) (by omega) (by omega) (fun h126 => ?_) (fun h126 => ?_)
            · refine lv_aload_n hx hb dX4_readSide_142 rfl (lv_at hl 4 rfl) ?_
              refine lv_aload_n hx hb dX4_readSide_143 rfl (lv_at hl 2 rfl) ?_
              refine gf_X4_21 hx hb htw hown hK hW (by assumption) (by assumption) dX4_readSide_144 ?_
              refine lv_iload_n hx hb dX4_readSide_147 rfl (lv_at hl 3 rfl) ?_
              refine tm_aaldS hx hb hK hW (by assumption) (by omega) (by omega) (by decide) z1a dX4_readSide_148 ?_
              refine tm_callv (cs_X4_84 hx hb hml hown htw hK hW w3a (c_X5_subtract z3a z4a (by omega) (by rw [show fr M114 (rd + 5 + 9 * d + 1) = v.1 from congrArg Prod.fst u114]; exact ho.1) (by rw [show fr M114 (rd + 5 + 9 * d + 2) = v.2 from congrArg Prod.snd u114]; exact ho.2) (by rw [show fr M114 (rd + 8 + 9 * d + 1) = xv.2.1 from congrArg Prod.fst gv]; exact gk.1) (by rw [show fr M114 (rd + 8 + 9 * d + 2) = xv.2.2 from congrArg Prod.snd gv]; exact gk.2)) ⟨rfl, rfl, by dsimp only; omega, by dsimp only; omega⟩ hl.1 (Nat.le_of_ble_eq_true rfl) dX4_readSide_149 ⟨Nat.le_of_ble_eq_true rfl, Nat.le_of_ble_eq_true rfl⟩) hS (fun M149 H locs hp149 hW hS => ?_)
              first
              | exact tail (sadd v xv.2) xv.1 M136 _ _ _ (by omega) (by rw [ev]; show Sum.inl (xv.1, if cz = 43 then sadd v xv.2 else ssub v xv.2) = _; rw [if_pos (by omega)]) (RS_m R114 (by rw [hp136]; exact rdf_sS (lo := 0) (by omega) (by omega)) (by rw [hp136]; exact gp) gl) (by rw [hp136, ← u114, ← gv]; exact sd_self _ _ _) (sLok_sadd ho gk) (sok_sadd ho gk) (rdf_tr F114 (by rw [hp136]; exact rdf_sS (by omega) (by omega))) hW hS (lv_sub hl [2, 3, 4, 5, 0] rfl)
              | exact tail (ssub v xv.2) xv.1 M149 _ _ _ (by omega) (by rw [ev]; show Sum.inl (xv.1, if cz = 43 then sadd v xv.2 else ssub v xv.2) = _; rw [if_neg (by omega)]) (RS_m R114 (by rw [hp149]; exact rdf_sS (lo := 0) (by omega) (by omega)) (by rw [hp149]; exact gp) gl) (by rw [hp149, ← u114, ← gv]; exact sd_self _ _ _) (sLok_ssub ho gk) (sok_ssub ho gk) (rdf_tr F114 (by rw [hp149]; exact rdf_sS (by omega) (by omega))) hW hS (lv_sub hl [2, 3, 4, 5, 0] rfl)
            · refine lv_aload_n hx hb dX4_readSide_129 rfl (lv_at hl 4 rfl) ?_
              refine lv_aload_n hx hb dX4_readSide_130 rfl (lv_at hl 2 rfl) ?_
              refine gf_X4_21 hx hb htw hown hK hW (by assumption) (by assumption) dX4_readSide_131 ?_
              refine lv_iload_n hx hb dX4_readSide_134 rfl (lv_at hl 3 rfl) ?_
              refine tm_aaldS hx hb hK hW (by assumption) (by omega) (by omega) (by decide) z1a dX4_readSide_135 ?_
              refine tm_callv (cs_X4_81 hx hb hml hown htw hK hW w3a (c_X5_add z3a z4a (by omega) (by rw [show fr M114 (rd + 5 + 9 * d + 1) = v.1 from congrArg Prod.fst u114]; exact ho.1) (by rw [show fr M114 (rd + 5 + 9 * d + 2) = v.2 from congrArg Prod.snd u114]; exact ho.2) (by rw [show fr M114 (rd + 8 + 9 * d + 1) = xv.2.1 from congrArg Prod.fst gv]; exact gk.1) (by rw [show fr M114 (rd + 8 + 9 * d + 2) = xv.2.2 from congrArg Prod.snd gv]; exact gk.2)) ⟨rfl, rfl, by dsimp only; omega, by dsimp only; omega⟩ hl.1 (Nat.le_of_ble_eq_true rfl) dX4_readSide_136 ⟨Nat.le_of_ble_eq_true rfl, Nat.le_of_ble_eq_true rfl⟩) hS (fun M136 H locs hp136 hW hS => ?_)
              refine lv_goto (tgt := 152) hx hb dX4_readSide_139 (by decide) ?_
              first
              | exact tail (sadd v xv.2) xv.1 M136 _ _ _ (by omega) (by rw [ev]; show Sum.inl (xv.1, if cz = 43 then sadd v xv.2 else ssub v xv.2) = _; rw [if_pos (by omega)]) (RS_m R114 (by rw [hp136]; exact rdf_sS (lo := 0) (by omega) (by omega)) (by rw [hp136]; exact gp) gl) (by rw [hp136, ← u114, ← gv]; exact sd_self _ _ _) (sLok_sadd ho gk) (sok_sadd ho gk) (rdf_tr F114 (by rw [hp136]; exact rdf_sS (by omega) (by omega))) hW hS (lv_sub hl [2, 3, 4, 5, 0] rfl)
              | exact tail (ssub v xv.2) xv.1 M149 _ _ _ (by omega) (by rw [ev]; show Sum.inl (xv.1, if cz = 43 then sadd v xv.2 else ssub v xv.2) = _; rw [if_neg (by omega)]) (RS_m R114 (by rw [hp149]; exact rdf_sS (lo := 0) (by omega) (by omega)) (by rw [hp149]; exact gp) gl) (by rw [hp149, ← u114, ← gv]; exact sd_self _ _ _) (sLok_ssub ho gk) (sok_ssub ho gk) (rdf_tr F114 (by rw [hp149]; exact rdf_sS (by omega) (by omega))) hW hS (lv_sub hl [2, 3, 4, 5, 0] rfl)
          · obtain ⟨f9, e9, g9⟩ := rdR_0 hp114 h117
            refine ti_iconst hx hb dX4_readSide_120 ?_
            exact tm_zret hx hb hr hlk (by first | exact Or.inl rfl | exact Or.inr rfl | assumption) hK hW hS ⟨rdx_tr (rdf_x F109) (rdx_wd hp114.1 (by omega)), Or.inr ⟨f9, by rw [← he, tp_sl, hq, hc, if_pos (by omega), e9]; rfl, rfl, g9⟩⟩ dX4_readSide_121
        · refine lv_iload hx hb dX4_readSide_87 (lv_at hl 0 rfl) ?_
          refine ti_bipush hx hb dX4_readSide_89 (by decide) ?_
          refine ti_icmp_eq (tgt := 96) hx hb dX4_readSide_91 (by decide) (by omega) (by omega) (fun h91 => ?_) (fun h91 => ?_)
          · have hlt : q < n := tp_ch_lt (t := t) (n := n) (by rw [hc]; omega)
            have R109 : RS sh (sI M75 rd 2 (mI M75 rd 2 + 1)) rd ta t n (q + 1) := RS_m (lo := 0) R75 (rdf_sI (by decide)) (by rw [show mI (sI M75 rd 2 (mI M75 rd 2 + 1)) rd 2 = mI M75 rd 2 + 1 from tm_up_s _ _ _ _, e75]; rfl) hlt
            have F109 : rdf rd (rd + 5 + 9 * d) M (sI M75 rd 2 (mI M75 rd 2 + 1)) := rdf_tr (rdf_tr hf (rdn_f n75)) (rdf_sI (by decide))
            have v109 : sd (sI M75 rd 2 (mI M75 rd 2 + 1)) (rd + 5 + 9 * d) = v := (rdn_sd n75).trans hv
            refine lv_aload_n hx hb dX4_readSide_96 rfl (lv_at hl 1 rfl) ?_
            refine gf_X4_38 hx hb htw hown hK hW (by assumption) dX4_readSide_97 ?_
            rw [e75]
            refine lv_istore (lv' := [(6, _), (5, _), (0, _), (1, _), (3, _), (4, _)]) hx hb dX4_readSide_100 hl (by decide) rfl (fun ls hl => ?_)
            refine lv_aload_n hx hb dX4_readSide_102 rfl (lv_at hl 2 rfl) ?_
            refine lv_dup hx hb dX4_readSide_103 rfl ?_
            refine gf_X4_38 hx hb htw hown hK hW (by assumption) dX4_readSide_104 ?_
            refine ti_iconst hx hb dX4_readSide_107 ?_
            refine ti_iadd hx hb dX4_readSide_108 ?_
            refine pf_X4_38 hx hb htw hown hK hW (by assumption) hS dX4_readSide_109 (fun H locs hW hS => ?_)
            refine lv_aload_n hx hb dX4_readSide_112 rfl (lv_at hl 2 rfl) ?_
            refine lv_iload_n hx hb dX4_readSide_113 rfl (lv_at hl 3 rfl) ?_
            refine tm_calli (cs_X4_75 hx hb hml hown htw hK hW (by assumption) (c_X4_readTerm R109 hd ih) ⟨rfl, rfl, by dsimp only; omega, by dsimp only; omega⟩ hl.1 (Nat.le_of_ble_eq_true rfl) dX4_readSide_114 ⟨Nat.le_of_ble_eq_true rfl, Nat.le_of_ble_eq_true rfl⟩) hS (fun x114 M114 H locs hp114 hW hS => ?_)
            refine ti_if_ne (tgt := 122) hx hb dX4_readSide_117 (by decide) (rdR_r hp114) (fun h117 => ?_) (fun h117 => ?_)
            · obtain ⟨xv, ev, gp, gl, gv, gk, s114⟩ := rdR_1 hp114 h117
              have F114 : rdf rd (rd + 5 + 9 * d) M M114 := rdf_tr F109 (rdf_wd s114 (by omega))
              have R114 := RS_m hR0 F114 gp gl
              obtain ⟨y0a, y1a, y2a, ⟨y3a, y4a, y5a⟩, ⟨y6a, y7a, y8a⟩, -⟩ := R114.1
              obtain ⟨z0a, z1a, z2a, z3a, z4a, z5a⟩ := rdA R114.1 (d := d) (by omega)
              have w3a := z3a.1
              have w4a := z4a.1
              have w5a := z5a.1
              have u114 : sd M114 (rd + 5 + 9 * d) = v := (rdf_sd s114 (by omega)).trans v109
              refine lv_iload hx hb dX4_readSide_122 (lv_at hl 1 rfl) ?_
              refine ti_bipush hx hb dX4_readSide_124 (by decide) ?_
              refine ti_icmp_ne (tgt := 142) hx hb dX4_readSide_126 (by decide) (by omega) (by omega) (fun h126 => ?_) (fun h126 => ?_)
              · refine lv_aload_n hx hb dX4_readSide_142 rfl (lv_at hl 4 rfl) ?_
                refine lv_aload_n hx hb dX4_readSide_143 rfl (lv_at hl 2 rfl) ?_
                refine gf_X4_21 hx hb htw hown hK hW (by assumption) (by assumption) dX4_readSide_144 ?_
                refine lv_iload_n hx hb dX4_readSide_147 rfl (lv_at hl 3 rfl) ?_
                refine tm_aaldS hx hb hK hW (by assumption) (by omega) (by omega) (by decide) z1a dX4_readSide_148 ?_
                refine tm_callv (cs_X4_84 hx hb hml hown htw hK hW w3a (c_X5_subtract z3a z4a (by omega) (by rw [show fr M114 (rd + 5 + 9 * d + 1) = v.1 from congrArg Prod.fst u114]; exact ho.1) (by rw [show fr M114 (rd + 5 + 9 * d + 2) = v.2 from congrArg Prod.snd u114]; exact ho.2) (by rw [show fr M114 (rd + 8 + 9 * d + 1) = xv.2.1 from congrArg Prod.fst gv]; exact gk.1) (by rw [show fr M114 (rd + 8 + 9 * d + 2) = xv.2.2 from congrArg Prod.snd gv]; exact gk.2)) ⟨rfl, rfl, by dsimp only; omega, by dsimp only; omega⟩ hl.1 (Nat.le_of_ble_eq_true rfl) dX4_readSide_149 ⟨Nat.le_of_ble_eq_true rfl, Nat.le_of_ble_eq_true rfl⟩) hS (fun M149 H locs hp149 hW hS => ?_)
                first
                | exact tail (sadd v xv.2) xv.1 M136 _ _ _ (by omega) (by rw [ev]; show Sum.inl (xv.1, if cz = 43 then sadd v xv.2 else ssub v xv.2) = _; rw [if_pos (by omega)]) (RS_m R114 (by rw [hp136]; exact rdf_sS (lo := 0) (by omega) (by omega)) (by rw [hp136]; exact gp) gl) (by rw [hp136, ← u114, ← gv]; exact sd_self _ _ _) (sLok_sadd ho gk) (sok_sadd ho gk) (rdf_tr F114 (by rw [hp136]; exact rdf_sS (by omega) (by omega))) hW hS (lv_sub hl [2, 3, 4, 5, 0] rfl)
                | exact tail (ssub v xv.2) xv.1 M149 _ _ _ (by omega) (by rw [ev]; show Sum.inl (xv.1, if cz = 43 then sadd v xv.2 else ssub v xv.2) = _; rw [if_neg (by omega)]) (RS_m R114 (by rw [hp149]; exact rdf_sS (lo := 0) (by omega) (by omega)) (by rw [hp149]; exact gp) gl) (by rw [hp149, ← u114, ← gv]; exact sd_self _ _ _) (sLok_ssub ho gk) (sok_ssub ho gk) (rdf_tr F114 (by rw [hp149]; exact rdf_sS (by omega) (by omega))) hW hS (lv_sub hl [2, 3, 4, 5, 0] rfl)
              · refine lv_aload_n hx hb dX4_readSide_129 rfl (lv_at hl 4 rfl) ?_
                refine lv_aload_n hx hb dX4_readSide_130 rfl (lv_at hl 2 rfl) ?_
                refine gf_X4_21 hx hb htw hown hK hW (by assumption) (by assumption) dX4_readSide_131 ?_
                refine lv_iload_n hx hb dX4_readSide_134 rfl (lv_at hl 3 rfl) ?_
                refine tm_aaldS hx hb hK hW (by assumption) (by omega) (by omega) (by decide) z1a dX4_readSide_135 ?_
                refine tm_callv (cs_X4_81 hx hb hml hown htw hK hW w3a (c_X5_add z3a z4a (by omega) (by rw [show fr M114 (rd + 5 + 9 * d + 1) = v.1 from congrArg Prod.fst u114]; exact ho.1) (by rw [show fr M114 (rd + 5 + 9 * d + 2) = v.2 from congrArg Prod.snd u114]; exact ho.2) (by rw [show fr M114 (rd + 8 + 9 * d + 1) = xv.2.1 from congrArg Prod.fst gv]; exact gk.1) (by rw [show fr M114 (rd + 8 + 9 * d + 2) = xv.2.2 from congrArg Prod.snd gv]; exact gk.2)) ⟨rfl, rfl, by dsimp only; omega, by dsimp only; omega⟩ hl.1 (Nat.le_of_ble_eq_true rfl) dX4_readSide_136 ⟨Nat.le_of_ble_eq_true rfl, Nat.le_of_ble_eq_true rfl⟩) hS (fun M136 H locs hp136 hW hS => ?_)
                refine lv_goto (tgt := 152) hx hb dX4_readSide_139 (by decide) ?_
                first
                | exact tail (sadd v xv.2) xv.1 M136 _ _ _ (by omega) (by rw [ev]; show Sum.inl (xv.1, if cz = 43 then sadd v xv.2 else ssub v xv.2) = _; rw [if_pos (by omega)]) (RS_m R114 (by rw [hp136]; exact rdf_sS (lo := 0) (by omega) (by omega)) (by rw [hp136]; exact gp) gl) (by rw [hp136, ← u114, ← gv]; exact sd_self _ _ _) (sLok_sadd ho gk) (sok_sadd ho gk) (rdf_tr F114 (by rw [hp136]; exact rdf_sS (by omega) (by omega))) hW hS (lv_sub hl [2, 3, 4, 5, 0] rfl)
                | exact tail (ssub v xv.2) xv.1 M149 _ _ _ (by omega) (by rw [ev]; show Sum.inl (xv.1, if cz = 43 then sadd v xv.2 else ssub v xv.2) = _; rw [if_neg (by omega)]) (RS_m R114 (by rw [hp149]; exact rdf_sS (lo := 0) (by omega) (by omega)) (by rw [hp149]; exact gp) gl) (by rw [hp149, ← u114, ← gv]; exact sd_self _ _ _) (sLok_ssub ho gk) (sok_ssub ho gk) (rdf_tr F114 (by rw [hp149]; exact rdf_sS (by omega) (by omega))) hW hS (lv_sub hl [2, 3, 4, 5, 0] rfl)
            · obtain ⟨f9, e9, g9⟩ := rdR_0 hp114 h117
              refine ti_iconst hx hb dX4_readSide_120 ?_
              exact tm_zret hx hb hr hlk (by first | exact Or.inl rfl | exact Or.inr rfl | assumption) hK hW hS ⟨rdx_tr (rdf_x F109) (rdx_wd hp114.1 (by omega)), Or.inr ⟨f9, by rw [← he, tp_sl, hq, hc, if_pos (by omega), e9]; rfl, rfl, g9⟩⟩ dX4_readSide_121
          · refine ti_iconst hx hb dX4_readSide_94 ?_
            exact tm_zret hx hb hr hlk (by first | exact Or.inl rfl | exact Or.inr rfl | assumption) hK hW hS (rdR_T (x := (q, v)) (rdf_tr hf (rdn_f n75)) (by rw [← he, tp_sl, hq, hc]; exact if_neg (by omega)) e75 q0.2 ((rdn_sd n75).trans hv) ho) dX4_readSide_95
  have tail29 : ∀ (ng : Int) (p2 : Nat) (M2 : tm_M) (H : Heap) (locs : List Loc) (ls : Array Slot), inI ng → tp_side t n (tp_in t n r) p1 = tp_bind (tp_term t n (tp_in t n r) p2) (fun q v => tp_sl t n (tp_in t n r) 80 q (if ng = 0 then v else sneg v)) → RS sh M2 rd ta t n p2 → rdf rd (rd + 5 + 9 * d) M M2 → tm_W G Hb sh M2 H → va_S (tm_A Hb) s.heap H locs → lv_has ls 7 [(0, .ref rd), (1, ji d), (2, ji ng)] → W p l e ({ frames := 20 + 6 * r, cells := 0, slots := 0, locals := 400 + 130 * r }) s m [.ref rd, ji d].toArray below meth c H locs 0 0 (MQ below (tm_Qi G Hb sh (fun x M1 => rdR rd (rd + 5 + 9 * d) (rd + 5 + 9 * d) n M M1 (tp_side t n (tp_in t n r) p1) x)) [.ref rd, ji d].toArray s 0 0 (tm_A Hb)) (F0 m 29 ls []) := by
    intro ng p2 M2 H locs ls hng he hR hf hW hS hl
    have y0b := hR.1.1
    refine lv_aload_n hx hb dX4_readSide_29 rfl (lv_at hl 0 rfl) ?_
    refine lv_iload_n hx hb dX4_readSide_30 rfl (lv_at hl 1 rfl) ?_
    refine tm_calli (cs_X4_75 hx hb hml hown htw hK hW (by assumption) (c_X4_readTerm hR hd ih) ⟨rfl, rfl, by dsimp only; omega, by dsimp only; omega⟩ hl.1 (Nat.le_of_ble_eq_true rfl) dX4_readSide_31 ⟨Nat.le_of_ble_eq_true rfl, Nat.le_of_ble_eq_true rfl⟩) hS (fun x31 M31 H locs hp31 hW hS => ?_)
    refine ti_if_ne (tgt := 39) hx hb dX4_readSide_34 (by decide) (rdR_r hp31) (fun h34 => ?_) (fun h34 => ?_)
    · obtain ⟨xv, ev, gp, gl, gv, gk, s31⟩ := rdR_1 hp31 h34
      have F31 : rdf rd (rd + 5 + 9 * d) M M31 := rdf_tr hf (rdf_wd s31 (by omega))
      have R31 := RS_m hR0 F31 gp gl
      obtain ⟨y0a, y1a, y2a, ⟨y3a, y4a, y5a⟩, ⟨y6a, y7a, y8a⟩, -⟩ := R31.1
      obtain ⟨z0a, z1a, z2a, z3a, z4a, z5a⟩ := rdA R31.1 (d := d) (by omega)
      have w3a := z3a.1
      have w4a := z4a.1
      have w5a := z5a.1
      refine lv_aload_n hx hb dX4_readSide_39 rfl (lv_at hl 0 rfl) ?_
      refine gf_X4_17 hx hb htw hown hK hW (by assumption) (by assumption) dX4_readSide_40 ?_
      refine lv_iload_n hx hb dX4_readSide_43 rfl (lv_at hl 1 rfl) ?_
      refine tm_aaldS hx hb hK hW (by assumption) (by omega) (by omega) (by decide) z0a dX4_readSide_44 ?_
      refine lv_astore_n (lv' := [(3, _), (0, _), (1, _), (2, _)]) hx hb dX4_readSide_45 rfl hl (by decide) rfl (fun ls hl => ?_)
      refine lv_aload_n hx hb dX4_readSide_46 rfl (lv_at hl 0 rfl) ?_
      refine lv_aload_n hx hb dX4_readSide_47 rfl (lv_at hl 1 rfl) ?_
      refine gf_X4_21 hx hb htw hown hK hW (by assumption) (by assumption) dX4_readSide_48 ?_
      refine lv_iload_n hx hb dX4_readSide_51 rfl (lv_at hl 2 rfl) ?_
      refine tm_aaldS hx hb hK hW (by assumption) (by omega) (by omega) (by decide) z1a dX4_readSide_52 ?_
      refine tm_callv (cs_X4_54 hx hb hml hown htw hK hW w3a (c_X5_copy z3a z4a (by omega)) ⟨rfl, rfl, by dsimp only; omega, by dsimp only; omega⟩ hl.1 (Nat.le_of_ble_eq_true rfl) dX4_readSide_53 ⟨Nat.le_of_ble_eq_true rfl, Nat.le_of_ble_eq_true rfl⟩) hS (fun M53 H locs hp53 hW hS => ?_)
      have F53 : rdf rd (rd + 5 + 9 * d) M M53 := rdf_tr F31 (by rw [hp53]; exact rdf_sS (by omega) (by omega))
      have v53 : sd M53 (rd + 5 + 9 * d) = xv.2 := by rw [hp53, gv]; exact sd_self _ _ _
      have g53 : mI M53 rd 2 = xv.1 := by rw [hp53]; exact gp
      have R53 := RS_m hR0 F53 g53 gl
      obtain ⟨-, -, -, z3d, -, -⟩ := rdA R53.1 (d := d) (by omega)
      refine lv_iload_n hx hb dX4_readSide_56 rfl (lv_at hl 3 rfl) ?_
      refine ti_if_eq (tgt := 64) hx hb dX4_readSide_57 (by decide) hng (fun h57 => ?_) (fun h57 => ?_)
      · refine ti_iconst hx hb dX4_readSide_64 ?_
        refine lv_istore (lv' := [(4, _), (3, _), (0, _), (1, _), (2, _)]) hx hb dX4_readSide_65 hl (by decide) rfl (fun ls hl => ?_)
        first
        | exact loop 80 0 xv.1 xv.2 M53 _ _ _ (by omega) (by omega) (by rw [he, ev]; show _ = tp_sl t n (tp_in t n r) 80 xv.1 (if ng = 0 then xv.2 else sneg xv.2); rw [if_pos h57]) R53 v53 gk F53 hW hS (lv_sub hl [2, 3, 1, 0] rfl)
        | exact loop 80 0 xv.1 (sneg xv.2) M61 _ _ _ (by omega) (by omega) (by rw [he, ev]; show _ = tp_sl t n (tp_in t n r) 80 xv.1 (if ng = 0 then xv.2 else sneg xv.2); rw [if_neg h57]) (RS_m R53 (by rw [hp61]; exact rdf_sS (lo := 0) (by omega) (by omega)) (by rw [hp61]; exact g53) gl) (by rw [hp61, ← v53]; exact sd_self _ _ _) (sok_sneg gk) (rdf_tr F53 (by rw [hp61]; exact rdf_sS (by omega) (by omega))) hW hS (lv_sub hl [2, 3, 1, 0] rfl)
      · refine lv_aload_n hx hb dX4_readSide_60 rfl (lv_at hl 0 rfl) ?_
        refine tm_callv (cs_X4_78 hx hb hml hown htw hK hW z3d.1 (c_X5_turnToOpposite z3d) ⟨rfl, rfl, by dsimp only; omega, by dsimp only; omega⟩ hl.1 (Nat.le_of_ble_eq_true rfl) dX4_readSide_61 ⟨Nat.le_of_ble_eq_true rfl, Nat.le_of_ble_eq_true rfl⟩) hS (fun M61 H locs hp61 hW hS => ?_)
        refine ti_iconst hx hb dX4_readSide_64 ?_
        refine lv_istore (lv' := [(4, _), (3, _), (0, _), (1, _), (2, _)]) hx hb dX4_readSide_65 hl (by decide) rfl (fun ls hl => ?_)
        first
        | exact loop 80 0 xv.1 xv.2 M53 _ _ _ (by omega) (by omega) (by rw [he, ev]; show _ = tp_sl t n (tp_in t n r) 80 xv.1 (if ng = 0 then xv.2 else sneg xv.2); rw [if_pos h57]) R53 v53 gk F53 hW hS (lv_sub hl [2, 3, 1, 0] rfl)
        | exact loop 80 0 xv.1 (sneg xv.2) M61 _ _ _ (by omega) (by omega) (by rw [he, ev]; show _ = tp_sl t n (tp_in t n r) 80 xv.1 (if ng = 0 then xv.2 else sneg xv.2); rw [if_neg h57]) (RS_m R53 (by rw [hp61]; exact rdf_sS (lo := 0) (by omega) (by omega)) (by rw [hp61]; exact g53) gl) (by rw [hp61, ← v53]; exact sd_self _ _ _) (sok_sneg gk) (rdf_tr F53 (by rw [hp61]; exact rdf_sS (by omega) (by omega))) hW hS (lv_sub hl [2, 3, 1, 0] rfl)
    · obtain ⟨f9, e9, g9⟩ := rdR_0 hp31 h34
      refine ti_iconst hx hb dX4_readSide_37 ?_
      exact tm_zret hx hb hr hlk (by first | exact Or.inl rfl | exact Or.inr rfl | assumption) hK hW hS ⟨rdx_tr (rdf_x hf) (rdx_wd hp31.1 (by omega)), Or.inr ⟨f9, by rw [he, e9]; rfl, rfl, g9⟩⟩ dX4_readSide_38
  have q0 := tp_nx_le (t := t) hR.2.2.2.2.2.2
  have cr := tp_ch_r (n := n) (p := tp_nx t n p1) htr
  refine lv_aload_n hx hb dX4_readSide_0 rfl (lv_at hl 0 rfl) ?_
  refine tm_calli (cs_X4_65 hx hb hml hown htw hK hW (by assumption) (c_X4_next hR) ⟨rfl, rfl, by dsimp only; omega, by dsimp only; omega⟩ hl.1 (Nat.le_of_ble_eq_true rfl) dX4_readSide_1 ⟨Nat.le_of_ble_eq_true rfl, Nat.le_of_ble_eq_true rfl⟩) hS (fun x1 M1 H locs hp1 hW hS => ?_)
  obtain ⟨ex1, e1, n1⟩ := hp1
  rw [ex1]
  have R1 := RS_m hR (rdn_f (lo := (rd + 5 + 9 * d)) n1) e1 q0.2
  have y0b := R1.1.1
  refine ti_bipush hx hb dX4_readSide_4 (by decide) ?_
  refine ti_icmp_ne (tgt := 13) hx hb dX4_readSide_6 (by decide) (by omega) (by decide) (fun h6 => ?_) (fun h6 => ?_)
  · refine ti_iconst hx hb dX4_readSide_13 ?_
    refine lv_istore_n (lv' := [(2, _), (0, _), (1, _)]) hx hb dX4_readSide_14 rfl hl (by decide) rfl (fun ls hl => ?_)
    refine lv_iload_n hx hb dX4_readSide_15 rfl (lv_at hl 0 rfl) ?_
    refine ti_if_eq (tgt := 29) hx hb dX4_readSide_16 (by decide) (by decide) (fun h16 => ?_) (fun h16 => ?_)
    · first
      | exact absurd h16 (by decide)
      | exact tail29 0 (tp_nx t n p1) M1 _ _ _ (by decide) (by rw [tp_side, if_neg h6]; rfl) R1 (rdn_f n1) hW hS (lv_sub hl [1, 2, 0] rfl)
      | exact tail29 1 (tp_nx t n p1 + 1) (sI M1 rd 2 (mI M1 rd 2 + 1)) _ _ _ (by decide) (by rw [tp_side, if_pos h6]; rfl) (RS_m (lo := 0) R1 (rdf_sI (by decide)) (by rw [show mI (sI M1 rd 2 (mI M1 rd 2 + 1)) rd 2 = mI M1 rd 2 + 1 from tm_up_s _ _ _ _, e1]; rfl) (tp_ch_lt (t := t) (n := n) (by rw [h6]; decide))) (rdf_tr (rdn_f n1) (rdf_sI (by decide))) hW hS (lv_sub hl [1, 2, 0] rfl)
    · refine lv_aload_n hx hb dX4_readSide_19 rfl (lv_at hl 1 rfl) ?_
      refine lv_dup hx hb dX4_readSide_20 rfl ?_
      refine gf_X4_38 hx hb htw hown hK hW (by assumption) dX4_readSide_21 ?_
      refine ti_iconst hx hb dX4_readSide_24 ?_
      refine ti_iadd hx hb dX4_readSide_25 ?_
      refine pf_X4_38 hx hb htw hown hK hW (by assumption) hS dX4_readSide_26 (fun H locs hW hS => ?_)
      first
      | exact absurd h16 (by decide)
      | exact tail29 0 (tp_nx t n p1) M1 _ _ _ (by decide) (by rw [tp_side, if_neg h6]; rfl) R1 (rdn_f n1) hW hS (lv_sub hl [1, 2, 0] rfl)
      | exact tail29 1 (tp_nx t n p1 + 1) (sI M1 rd 2 (mI M1 rd 2 + 1)) _ _ _ (by decide) (by rw [tp_side, if_pos h6]; rfl) (RS_m (lo := 0) R1 (rdf_sI (by decide)) (by rw [show mI (sI M1 rd 2 (mI M1 rd 2 + 1)) rd 2 = mI M1 rd 2 + 1 from tm_up_s _ _ _ _, e1]; rfl) (tp_ch_lt (t := t) (n := n) (by rw [h6]; decide))) (rdf_tr (rdn_f n1) (rdf_sI (by decide))) hW hS (lv_sub hl [1, 2, 0] rfl)
  · refine ti_iconst hx hb dX4_readSide_9 ?_
    refine lv_goto (tgt := 14) hx hb dX4_readSide_10 (by decide) ?_
    refine lv_istore_n (lv' := [(2, _), (0, _), (1, _)]) hx hb dX4_readSide_14 rfl hl (by decide) rfl (fun ls hl => ?_)
    refine lv_iload_n hx hb dX4_readSide_15 rfl (lv_at hl 0 rfl) ?_
    refine ti_if_eq (tgt := 29) hx hb dX4_readSide_16 (by decide) (by decide) (fun h16 => ?_) (fun h16 => ?_)
    · first
      | exact absurd h16 (by decide)
      | exact tail29 0 (tp_nx t n p1) M1 _ _ _ (by decide) (by rw [tp_side, if_neg h6]; rfl) R1 (rdn_f n1) hW hS (lv_sub hl [1, 2, 0] rfl)
      | exact tail29 1 (tp_nx t n p1 + 1) (sI M1 rd 2 (mI M1 rd 2 + 1)) _ _ _ (by decide) (by rw [tp_side, if_pos h6]; rfl) (RS_m (lo := 0) R1 (rdf_sI (by decide)) (by rw [show mI (sI M1 rd 2 (mI M1 rd 2 + 1)) rd 2 = mI M1 rd 2 + 1 from tm_up_s _ _ _ _, e1]; rfl) (tp_ch_lt (t := t) (n := n) (by rw [h6]; decide))) (rdf_tr (rdn_f n1) (rdf_sI (by decide))) hW hS (lv_sub hl [1, 2, 0] rfl)
    · refine lv_aload_n hx hb dX4_readSide_19 rfl (lv_at hl 1 rfl) ?_
      refine lv_dup hx hb dX4_readSide_20 rfl ?_
      refine gf_X4_38 hx hb htw hown hK hW (by assumption) dX4_readSide_21 ?_
      refine ti_iconst hx hb dX4_readSide_24 ?_
      refine ti_iadd hx hb dX4_readSide_25 ?_
      refine pf_X4_38 hx hb htw hown hK hW (by assumption) hS dX4_readSide_26 (fun H locs hW hS => ?_)
      first
      | exact absurd h16 (by decide)
      | exact tail29 0 (tp_nx t n p1) M1 _ _ _ (by decide) (by rw [tp_side, if_neg h6]; rfl) R1 (rdn_f n1) hW hS (lv_sub hl [1, 2, 0] rfl)
      | exact tail29 1 (tp_nx t n p1 + 1) (sI M1 rd 2 (mI M1 rd 2 + 1)) _ _ _ (by decide) (by rw [tp_side, if_pos h6]; rfl) (RS_m (lo := 0) R1 (rdf_sI (by decide)) (by rw [show mI (sI M1 rd 2 (mI M1 rd 2 + 1)) rd 2 = mI M1 rd 2 + 1 from tm_up_s _ _ _ _, e1]; rfl) (tp_ch_lt (t := t) (n := n) (by rw [h6]; decide))) (rdf_tr (rdn_f n1) (rdf_sI (by decide))) hW hS (lv_sub hl [1, 2, 0] rfl)
theorem c_X4_readSide {l : Launch} {G : tm_G} {Hb : Heap} {sh : tm_sh} {rd ta n : Nat} {t : Nat → Int} : ∀ r : Nat, r ≤ 8 → tl_CS l G Hb sh rd ta n t r
  | 0, _ => fun M d p1 hd hR => by
    rw [tp_par_in]
    exact c_X4_readSide0 hR hd (fun r1 h1 => absurd h1 (by omega))
  | r + 1, h => fun M d p1 hd hR => by
    rw [tp_par_in]
    refine c_X4_readSide0 hR hd (fun r1 h1 => ?_)
    obtain rfl : r1 = r := by omega
    exact c_X4_readSide r1 (by omega)
