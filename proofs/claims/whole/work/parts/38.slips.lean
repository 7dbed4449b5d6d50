/-! Slips (by program: wip/whole/gen/slips.py) -/
abbrev fneg (f : tl_F) : tl_F := (-f.1, f.2)
def tl_dvs (v : tl_L) : Prop := ¬ v.1.1.1 = 0 ∧ ¬ v.1.1 = (1, 1)
def tl_slipv (n : Int) (v : tl_L) : tl_L :=
  if n = 1 then ((fadd v.1.1 v.2.1.1, v.1.2), ((0, 1), v.2.1.2), v.2.2)
  else if n = 2 then ((v.1.1, (0, 1)), (v.2.1.1, fadd v.1.2 v.2.1.2), v.2.2)
  else if n = 3 then (((1, 1), fdiv v.1.2 v.1.1), v.2.1, v.2.2)
  else if n = 4 then (((1, 1), v.1.2), (fdiv v.2.1.1 v.1.1, fdiv v.2.1.2 v.1.1), v.2.2)
  else if n = 5 then ((fneg v.1.1, fneg v.1.2), (fneg v.2.1.1, fneg v.2.1.2), v.2.2)
  else if n = 6 then (((1, 1), v.1.2), (v.2.1.1, fsub v.2.1.2 v.1.1), v.2.2)
  else v
def tl_poss (n : Int) (v : tl_L) : Int :=
  if n = 1 then tl_b (¬ v.2.1.1.1 = 0)
  else if n = 2 then tl_b (¬ v.1.2.1 = 0)
  else if n = 3 then tl_b (¬ v.1.1.1 = 0 ∧ ¬ v.1.1 = (1, 1))
  else if n = 4 then tl_b ((¬ v.1.1.1 = 0 ∧ ¬ v.1.1 = (1, 1)) ∧ ¬ v.1.2.1 = 0)
  else if n = 5 then tl_b (¬ v.2.2 = 0)
  else if n = 6 then tl_b ((¬ v.1.1.1 = 0 ∧ ¬ v.1.1 = (1, 1)) ∧ v.1.2.1 = 0 ∧ v.2.1.1.1 = 0)
  else 0
def tl_exp (v w : tl_L) : Nat → Int → Int
  | 0, _ => 0
  | k + 1, n => if ¬ tl_poss n v = 0 ∧ tl_slipv n v = w then n else tl_exp v w k (n + 1)
theorem tl_poss_z (n : Int) (v : tl_L) : tl_poss n v = 0 ∨ tl_poss n v = 1 := by
  unfold tl_poss
  repeat' split
  all_goals first | exact tl_b_z _ | exact Or.inl rfl
theorem fLok_neg {f : tl_F} (h : fok f) : fLok (fneg f) := by
  obtain ⟨h1, h2, h3, h4⟩ := h
  exact ⟨by show inL (-f.1); omega, by show inL f.2; omega⟩
theorem tl_poss_A {n : Int} {v : tl_L} (hn : n = 3 ∨ n = 4 ∨ n = 6) (h : ¬ tl_poss n v = 0) : ¬ v.1.1.1 = 0 := by
  intro z
  apply h
  rcases hn with rfl | rfl | rfl
  · show tl_b (¬ v.1.1.1 = 0 ∧ ¬ v.1.1 = (1, 1)) = 0
    exact tl_b_0.mpr (fun q => q.1 z)
  · show tl_b ((¬ v.1.1.1 = 0 ∧ ¬ v.1.1 = (1, 1)) ∧ ¬ v.1.2.1 = 0) = 0
    exact tl_b_0.mpr (fun q => q.1.1 z)
  · show tl_b ((¬ v.1.1.1 = 0 ∧ ¬ v.1.1 = (1, 1)) ∧ v.1.2.1 = 0 ∧ v.2.1.1.1 = 0) = 0
    exact tl_b_0.mpr (fun q => q.1.1 z)
theorem lLok_slip {n : Int} {v : tl_L} (h : lok v) (hp : ¬ tl_poss n v = 0) : lLok (tl_slipv n v) := by
  unfold tl_slipv
  split
  · exact ⟨⟨fLok_add h.1.1 h.2.1.1, fLok_of h.1.2⟩, fLok_0, fLok_of h.2.1.2⟩
  · split
    · exact ⟨⟨fLok_of h.1.1, fLok_0⟩, fLok_of h.2.1.1, fLok_add h.1.2 h.2.1.2⟩
    · split
      · exact ⟨⟨fLok_1, fLok_div h.1.2 h.1.1 (tl_poss_A (by omega) hp)⟩, fLok_of h.2.1.1, fLok_of h.2.1.2⟩
      · split
        · exact ⟨⟨fLok_1, fLok_of h.1.2⟩, fLok_div h.2.1.1 h.1.1 (tl_poss_A (by omega) hp), fLok_div h.2.1.2 h.1.1 (tl_poss_A (by omega) hp)⟩
        · split
          · exact ⟨⟨fLok_neg h.1.1, fLok_neg h.1.2⟩, fLok_neg h.2.1.1, fLok_neg h.2.1.2⟩
          · split
            · exact ⟨⟨fLok_1, fLok_of h.1.2⟩, fLok_of h.2.1.1, fLok_sub h.2.1.2 h.1.1⟩
            · exact lLok_of h
theorem dX6_isPossible_0 : decode cX6_isPossible 0 = .ok (.aload_n 1, 1) := by decide +kernel
theorem dX6_isPossible_1 : decode cX6_isPossible 1 = .ok (.getfield 23, 3) := by decide +kernel
theorem dX6_isPossible_4 : decode cX6_isPossible 4 = .ok (.astore_n 2, 1) := by decide +kernel
theorem dX6_isPossible_5 : decode cX6_isPossible 5 = .ok (.aload_n 2, 1) := by decide +kernel
theorem dX6_isPossible_6 : decode cX6_isPossible 6 = .ok (.getfield 27, 3) := by decide +kernel
theorem dX6_isPossible_9 : decode cX6_isPossible 9 = .ok (.invokevirtual 33, 3) := by decide +kernel
theorem dX6_isPossible_12 : decode cX6_isPossible 12 = .ok (.ifCond .ne 18, 3) := by decide +kernel
theorem dX6_isPossible_15 : decode cX6_isPossible 15 = .ok (.aload_n 2, 1) := by decide +kernel
theorem dX6_isPossible_16 : decode cX6_isPossible 16 = .ok (.getfield 27, 3) := by decide +kernel
theorem dX6_isPossible_19 : decode cX6_isPossible 19 = .ok (.lconst 1, 1) := by decide +kernel
theorem dX6_isPossible_20 : decode cX6_isPossible 20 = .ok (.invokevirtual 39, 3) := by decide +kernel
theorem dX6_isPossible_23 : decode cX6_isPossible 23 = .ok (.ifCond .ne 7, 3) := by decide +kernel
theorem dX6_isPossible_26 : decode cX6_isPossible 26 = .ok (.iconst 1, 1) := by decide +kernel
theorem dX6_isPossible_27 : decode cX6_isPossible 27 = .ok (.goto 4, 3) := by decide +kernel
theorem dX6_isPossible_30 : decode cX6_isPossible 30 = .ok (.iconst 0, 1) := by decide +kernel
theorem dX6_isPossible_31 : decode cX6_isPossible 31 = .ok (.istore_n 3, 1) := by decide +kernel
theorem dX6_isPossible_32 : decode cX6_isPossible 32 = .ok (.iload_n 0, 1) := by decide +kernel
theorem dX6_isPossible_33 : decode cX6_isPossible 33 = .ok (.tableswitch 142 1 6 #[39, 58, 74, 76, 96, 109], 39) := by decide +kernel
theorem dX6_isPossible_72 : decode cX6_isPossible 72 = .ok (.aload_n 1, 1) := by decide +kernel
theorem dX6_isPossible_73 : decode cX6_isPossible 73 = .ok (.getfield 43, 3) := by decide +kernel
theorem dX6_isPossible_76 : decode cX6_isPossible 76 = .ok (.getfield 27, 3) := by decide +kernel
theorem dX6_isPossible_79 : decode cX6_isPossible 79 = .ok (.invokevirtual 33, 3) := by decide +kernel
theorem dX6_isPossible_82 : decode cX6_isPossible 82 = .ok (.ifCond .ne 7, 3) := by decide +kernel
theorem dX6_isPossible_85 : decode cX6_isPossible 85 = .ok (.iconst 1, 1) := by decide +kernel
theorem dX6_isPossible_86 : decode cX6_isPossible 86 = .ok (.goto 4, 3) := by decide +kernel
theorem dX6_isPossible_89 : decode cX6_isPossible 89 = .ok (.iconst 0, 1) := by decide +kernel
theorem dX6_isPossible_90 : decode cX6_isPossible 90 = .ok (.ireturn, 1) := by decide +kernel
theorem dX6_isPossible_91 : decode cX6_isPossible 91 = .ok (.aload_n 2, 1) := by decide +kernel
theorem dX6_isPossible_92 : decode cX6_isPossible 92 = .ok (.getfield 46, 3) := by decide +kernel
theorem dX6_isPossible_95 : decode cX6_isPossible 95 = .ok (.invokevirtual 33, 3) := by decide +kernel
theorem dX6_isPossible_98 : decode cX6_isPossible 98 = .ok (.ifCond .ne 7, 3) := by decide +kernel
theorem dX6_isPossible_101 : decode cX6_isPossible 101 = .ok (.iconst 1, 1) := by decide +kernel
theorem dX6_isPossible_102 : decode cX6_isPossible 102 = .ok (.goto 4, 3) := by decide +kernel
theorem dX6_isPossible_105 : decode cX6_isPossible 105 = .ok (.iconst 0, 1) := by decide +kernel
theorem dX6_isPossible_106 : decode cX6_isPossible 106 = .ok (.ireturn, 1) := by decide +kernel
theorem dX6_isPossible_107 : decode cX6_isPossible 107 = .ok (.iload_n 3, 1) := by decide +kernel
theorem dX6_isPossible_108 : decode cX6_isPossible 108 = .ok (.ireturn, 1) := by decide +kernel
theorem dX6_isPossible_109 : decode cX6_isPossible 109 = .ok (.iload_n 3, 1) := by decide +kernel
theorem dX6_isPossible_110 : decode cX6_isPossible 110 = .ok (.ifCond .eq 17, 3) := by decide +kernel
theorem dX6_isPossible_113 : decode cX6_isPossible 113 = .ok (.aload_n 2, 1) := by decide +kernel
theorem dX6_isPossible_114 : decode cX6_isPossible 114 = .ok (.getfield 46, 3) := by decide +kernel
theorem dX6_isPossible_117 : decode cX6_isPossible 117 = .ok (.invokevirtual 33, 3) := by decide +kernel
theorem dX6_isPossible_120 : decode cX6_isPossible 120 = .ok (.ifCond .ne 7, 3) := by decide +kernel
theorem dX6_isPossible_123 : decode cX6_isPossible 123 = .ok (.iconst 1, 1) := by decide +kernel
theorem dX6_isPossible_124 : decode cX6_isPossible 124 = .ok (.goto 4, 3) := by decide +kernel
theorem dX6_isPossible_127 : decode cX6_isPossible 127 = .ok (.iconst 0, 1) := by decide +kernel
theorem dX6_isPossible_128 : decode cX6_isPossible 128 = .ok (.ireturn, 1) := by decide +kernel
theorem dX6_isPossible_129 : decode cX6_isPossible 129 = .ok (.aload_n 1, 1) := by decide +kernel
theorem dX6_isPossible_130 : decode cX6_isPossible 130 = .ok (.getfield 49, 3) := by decide +kernel
theorem dX6_isPossible_133 : decode cX6_isPossible 133 = .ok (.ifCond .eq 7, 3) := by decide +kernel
theorem dX6_isPossible_136 : decode cX6_isPossible 136 = .ok (.iconst 1, 1) := by decide +kernel
theorem dX6_isPossible_137 : decode cX6_isPossible 137 = .ok (.goto 4, 3) := by decide +kernel
theorem dX6_isPossible_140 : decode cX6_isPossible 140 = .ok (.iconst 0, 1) := by decide +kernel
theorem dX6_isPossible_141 : decode cX6_isPossible 141 = .ok (.ireturn, 1) := by decide +kernel
theorem dX6_isPossible_142 : decode cX6_isPossible 142 = .ok (.iload_n 3, 1) := by decide +kernel
theorem dX6_isPossible_143 : decode cX6_isPossible 143 = .ok (.ifCond .eq 30, 3) := by decide +kernel
theorem dX6_isPossible_146 : decode cX6_isPossible 146 = .ok (.aload_n 2, 1) := by decide +kernel
theorem dX6_isPossible_147 : decode cX6_isPossible 147 = .ok (.getfield 46, 3) := by decide +kernel
theorem dX6_isPossible_150 : decode cX6_isPossible 150 = .ok (.invokevirtual 33, 3) := by decide +kernel
theorem dX6_isPossible_153 : decode cX6_isPossible 153 = .ok (.ifCond .eq 20, 3) := by decide +kernel
theorem dX6_isPossible_156 : decode cX6_isPossible 156 = .ok (.aload_n 1, 1) := by decide +kernel
theorem dX6_isPossible_157 : decode cX6_isPossible 157 = .ok (.getfield 43, 3) := by decide +kernel
theorem dX6_isPossible_160 : decode cX6_isPossible 160 = .ok (.getfield 27, 3) := by decide +kernel
theorem dX6_isPossible_163 : decode cX6_isPossible 163 = .ok (.invokevirtual 33, 3) := by decide +kernel
theorem dX6_isPossible_166 : decode cX6_isPossible 166 = .ok (.ifCond .eq 7, 3) := by decide +kernel
theorem dX6_isPossible_169 : decode cX6_isPossible 169 = .ok (.iconst 1, 1) := by decide +kernel
theorem dX6_isPossible_170 : decode cX6_isPossible 170 = .ok (.goto 4, 3) := by decide +kernel
theorem dX6_isPossible_173 : decode cX6_isPossible 173 = .ok (.iconst 0, 1) := by decide +kernel
theorem dX6_isPossible_174 : decode cX6_isPossible 174 = .ok (.ireturn, 1) := by decide +kernel
theorem dX6_isPossible_175 : decode cX6_isPossible 175 = .ok (.iconst 0, 1) := by decide +kernel
theorem dX6_isPossible_176 : decode cX6_isPossible 176 = .ok (.ireturn, 1) := by decide +kernel
set_option maxHeartbeats 4000000 in
set_option maxRecDepth 100000 in
/-- Slips.isPossible -/
theorem c_X6_isPossible {l : Launch} {G : tm_G} {Hb : Heap} {sh : tm_sh} {M : tm_M} {o : Nat} {n : Int} (ht : isLn sh M o) (hv : lok (ln M o)) (hn : inI n) : Met l yX6_isPossible (tws yX6_isPossible cX6_isPossible 4 (some .boolean)) ({ frames := 1, cells := 0, slots := 0, locals := 22 }) (va_Pc [ji n, .ref o] (tm_St G Hb sh M)) (tm_Qi G Hb sh (fun r M1 => r = tl_poss n (ln M o) ∧ M1 = M)) 0 0 (tm_A Hb) := by
  refine tm_begin (by decide) (Nat.le_of_ble_eq_true rfl) (fun p e s m below meth c ls hx hb hr hml hown htw hlk hnm hK hW hl => ?_)
  have hS : va_S (tm_A Hb) s.heap s.heap [] := va_S.rf
  have hl : lv_has ls 4 [(0, ji n), (1, .ref o)] := hl
  obtain ⟨t0, t1, t2, ⟨t3, t4, t5, t6, t7⟩, ⟨u3, u4, u5, u6, u7⟩⟩ := ht
  obtain ⟨⟨hA, hB⟩, ⟨hC, hD⟩, hR1, hR2⟩ := hv
  have e5 : (ln M o).2.2 = mI M o 2 := rfl
  have tail : ∀ (H : Heap) (locs : List Loc) (ls : Array Slot), tm_W G Hb sh M H → va_S (tm_A Hb) s.heap H locs → lv_has ls 4 [(0, ji n), (1, .ref o), (2, .ref (o + 1)), (3, ji (tl_b (¬ (ln M o).1.1.1 = 0 ∧ ¬ (ln M o).1.1 = (1, 1))))] → W p l e ({ frames := 1, cells := 0, slots := 0, locals := 22 }) s m [ji n, .ref o].toArray below meth c H locs 0 0 (MQ below (tm_Qi G Hb sh (fun r M1 => r = tl_poss n (ln M o) ∧ M1 = M)) [ji n, .ref o].toArray s 0 0 (tm_A Hb)) (F0 m 32 ls []) := by
    intro H locs ls hW hS hl
    refine lv_iload_n hx hb dX6_isPossible_32 rfl (lv_at hl 0 rfl) ?_
    refine ti_ts_1_6 (td := 175) (t1 := 72) (t2 := 91) (t3 := 107) (t4 := 109) (t5 := 129) (t6 := 142) hx hb dX6_isPossible_33 (by omega) (by decide) (by decide) (by decide) (by decide) (by decide) (by decide) (by decide) (fun h33 => ?_) (fun h33 => ?_) (fun h33 => ?_) (fun h33 => ?_) (fun h33 => ?_) (fun h33 => ?_) (fun h33 => ?_)
    · refine lv_aload_n hx hb dX6_isPossible_72 rfl (lv_at hl 1 rfl) ?_
      refine gf_X6_43 hx hb htw hown hK hW (by assumption) (by assumption) dX6_isPossible_73 ?_
      refine gf_X6_27 hx hb htw hown hK hW (by assumption) (by assumption) dX6_isPossible_76 ?_
      refine tm_calli (cs_X6_33 hx hb hml hown htw hK hW (by assumption) (c_X0_isZero (by assumption) (fok_L hC).1) ⟨rfl, rfl, Nat.le_of_ble_eq_true rfl, Nat.le_of_ble_eq_true rfl⟩ hl.1 (Nat.le_of_ble_eq_true rfl) dX6_isPossible_79 ⟨Nat.le_of_ble_eq_true rfl, Nat.le_of_ble_eq_true rfl⟩) hS (fun x79 M79 H locs hp79 hW hS => ?_)
      obtain ⟨ex79, eM79⟩ := hp79
      rw [eM79] at hW
      rw [ex79]
      refine ti_if_ne (tgt := 89) hx hb dX6_isPossible_82 (by decide) (tl_b_r _) (fun h82 => ?_) (fun h82 => ?_)
      · refine ti_iconst hx hb dX6_isPossible_89 ?_
        exact tm_zret hx hb hr hlk (by first | exact Or.inl rfl | exact Or.inr rfl | assumption) hK hW hS ⟨by subst h33; first | exact tl_b_f (fun z => z (tl_b_n.mp h82)) | exact tl_b_t (tl_b_0.mp h82), rfl⟩ dX6_isPossible_90
      · refine ti_iconst hx hb dX6_isPossible_85 ?_
        refine lv_goto (tgt := 90) hx hb dX6_isPossible_86 (by decide) ?_
        exact tm_zret hx hb hr hlk (by first | exact Or.inl rfl | exact Or.inr rfl | assumption) hK hW hS ⟨by subst h33; first | exact tl_b_f (fun z => z (tl_b_n.mp h82)) | exact tl_b_t (tl_b_0.mp h82), rfl⟩ dX6_isPossible_90
    · refine lv_aload_n hx hb dX6_isPossible_91 rfl (lv_at hl 2 rfl) ?_
      refine gf_X6_46 hx hb htw hown hK hW (by assumption) (by assumption) dX6_isPossible_92 ?_
      refine tm_calli (cs_X6_33 hx hb hml hown htw hK hW (by assumption) (c_X0_isZero (by assumption) (fok_L hB).1) ⟨rfl, rfl, Nat.le_of_ble_eq_true rfl, Nat.le_of_ble_eq_true rfl⟩ hl.1 (Nat.le_of_ble_eq_true rfl) dX6_isPossible_95 ⟨Nat.le_of_ble_eq_true rfl, Nat.le_of_ble_eq_true rfl⟩) hS (fun x95 M95 H locs hp95 hW hS => ?_)
      obtain ⟨ex95, eM95⟩ := hp95
      rw [eM95] at hW
      rw [ex95]
      refine ti_if_ne (tgt := 105) hx hb dX6_isPossible_98 (by decide) (tl_b_r _) (fun h98 => ?_) (fun h98 => ?_)
      · refine ti_iconst hx hb dX6_isPossible_105 ?_
        exact tm_zret hx hb hr hlk (by first | exact Or.inl rfl | exact Or.inr rfl | assumption) hK hW hS ⟨by subst h33; first | exact tl_b_f (fun z => z (tl_b_n.mp h98)) | exact tl_b_t (tl_b_0.mp h98), rfl⟩ dX6_isPossible_106
      · refine ti_iconst hx hb dX6_isPossible_101 ?_
        refine lv_goto (tgt := 106) hx hb dX6_isPossible_102 (by decide) ?_
        exact tm_zret hx hb hr hlk (by first | exact Or.inl rfl | exact Or.inr rfl | assumption) hK hW hS ⟨by subst h33; first | exact tl_b_f (fun z => z (tl_b_n.mp h98)) | exact tl_b_t (tl_b_0.mp h98), rfl⟩ dX6_isPossible_106
    · refine lv_iload_n hx hb dX6_isPossible_107 rfl (lv_at hl 3 rfl) ?_
      exact tm_zret hx hb hr hlk (tl_b_z _) hK hW hS ⟨by subst h33; rfl, rfl⟩ dX6_isPossible_108
    · refine lv_iload_n hx hb dX6_isPossible_109 rfl (lv_at hl 3 rfl) ?_
      refine ti_if_eq (tgt := 127) hx hb dX6_isPossible_110 (by decide) (tl_b_r _) (fun h110 => ?_) (fun h110 => ?_)
      · refine ti_iconst hx hb dX6_isPossible_127 ?_
        exact tm_zret hx hb hr hlk (by first | exact Or.inl rfl | exact Or.inr rfl | assumption) hK hW hS ⟨by subst h33; first | exact tl_b_f (fun z => tl_b_0.mp h110 z.1) | exact tl_b_f (fun z => z.2 (tl_b_n.mp h120)) | exact tl_b_t ⟨tl_b_n.mp h110, tl_b_0.mp h120⟩, rfl⟩ dX6_isPossible_128
      · refine lv_aload_n hx hb dX6_isPossible_113 rfl (lv_at hl 2 rfl) ?_
        refine gf_X6_46 hx hb htw hown hK hW (by assumption) (by assumption) dX6_isPossible_114 ?_
        refine tm_calli (cs_X6_33 hx hb hml hown htw hK hW (by assumption) (c_X0_isZero (by assumption) (fok_L hB).1) ⟨rfl, rfl, Nat.le_of_ble_eq_true rfl, Nat.le_of_ble_eq_true rfl⟩ hl.1 (Nat.le_of_ble_eq_true rfl) dX6_isPossible_117 ⟨Nat.le_of_ble_eq_true rfl, Nat.le_of_ble_eq_true rfl⟩) hS (fun x117 M117 H locs hp117 hW hS => ?_)
        obtain ⟨ex117, eM117⟩ := hp117
        rw [eM117] at hW
        rw [ex117]
        refine ti_if_ne (tgt := 127) hx hb dX6_isPossible_120 (by decide) (tl_b_r _) (fun h120 => ?_) (fun h120 => ?_)
        · refine ti_iconst hx hb dX6_isPossible_127 ?_
          exact tm_zret hx hb hr hlk (by first | exact Or.inl rfl | exact Or.inr rfl | assumption) hK hW hS ⟨by subst h33; first | exact tl_b_f (fun z => tl_b_0.mp h110 z.1) | exact tl_b_f (fun z => z.2 (tl_b_n.mp h120)) | exact tl_b_t ⟨tl_b_n.mp h110, tl_b_0.mp h120⟩, rfl⟩ dX6_isPossible_128
        · refine ti_iconst hx hb dX6_isPossible_123 ?_
          refine lv_goto (tgt := 128) hx hb dX6_isPossible_124 (by decide) ?_
          exact tm_zret hx hb hr hlk (by first | exact Or.inl rfl | exact Or.inr rfl | assumption) hK hW hS ⟨by subst h33; first | exact tl_b_f (fun z => tl_b_0.mp h110 z.1) | exact tl_b_f (fun z => z.2 (tl_b_n.mp h120)) | exact tl_b_t ⟨tl_b_n.mp h110, tl_b_0.mp h120⟩, rfl⟩ dX6_isPossible_128
    · refine lv_aload_n hx hb dX6_isPossible_129 rfl (lv_at hl 1 rfl) ?_
      refine gf_X6_49 hx hb htw hown hK hW (by assumption) dX6_isPossible_130 ?_
      refine ti_if_eq (tgt := 140) hx hb dX6_isPossible_133 (by decide) (show inI (mI M o 2) by omega) (fun h133 => ?_) (fun h133 => ?_)
      · refine ti_iconst hx hb dX6_isPossible_140 ?_
        exact tm_zret hx hb hr hlk (by first | exact Or.inl rfl | exact Or.inr rfl | assumption) hK hW hS ⟨by subst h33; first | exact tl_b_f (fun z => z h133) | exact tl_b_t h133, rfl⟩ dX6_isPossible_141
      · refine ti_iconst hx hb dX6_isPossible_136 ?_
        refine lv_goto (tgt := 141) hx hb dX6_isPossible_137 (by decide) ?_
        exact tm_zret hx hb hr hlk (by first | exact Or.inl rfl | exact Or.inr rfl | assumption) hK hW hS ⟨by subst h33; first | exact tl_b_f (fun z => z h133) | exact tl_b_t h133, rfl⟩ dX6_isPossible_141
    · refine lv_iload_n hx hb dX6_isPossible_142 rfl (lv_at hl 3 rfl) ?_
      refine ti_if_eq (tgt := 173) hx hb dX6_isPossible_143 (by decide) (tl_b_r _) (fun h143 => ?_) (fun h143 => ?_)
      · refine ti_iconst hx hb dX6_isPossible_173 ?_
        exact tm_zret hx hb hr hlk (by first | exact Or.inl rfl | exact Or.inr rfl | assumption) hK hW hS ⟨by subst h33; first | exact tl_b_f (fun z => tl_b_0.mp h143 z.1) | exact tl_b_f (fun z => tl_b_0.mp h153 z.2.1) | exact tl_b_f (fun z => tl_b_0.mp h166 z.2.2) | exact tl_b_t ⟨tl_b_n.mp h143, tl_b_n.mp h153, tl_b_n.mp h166⟩, rfl⟩ dX6_isPossible_174
      · refine lv_aload_n hx hb dX6_isPossible_146 rfl (lv_at hl 2 rfl) ?_
        refine gf_X6_46 hx hb htw hown hK hW (by assumption) (by assumption) dX6_isPossible_147 ?_
        refine tm_calli (cs_X6_33 hx hb hml hown htw hK hW (by assumption) (c_X0_isZero (by assumption) (fok_L hB).1) ⟨rfl, rfl, Nat.le_of_ble_eq_true rfl, Nat.le_of_ble_eq_true rfl⟩ hl.1 (Nat.le_of_ble_eq_true rfl) dX6_isPossible_150 ⟨Nat.le_of_ble_eq_true rfl, Nat.le_of_ble_eq_true rfl⟩) hS (fun x150 M150 H locs hp150 hW hS => ?_)
        obtain ⟨ex150, eM150⟩ := hp150
        rw [eM150] at hW
        rw [ex150]
        refine ti_if_eq (tgt := 173) hx hb dX6_isPossible_153 (by decide) (tl_b_r _) (fun h153 => ?_) (fun h153 => ?_)
        · refine ti_iconst hx hb dX6_isPossible_173 ?_
          exact tm_zret hx hb hr hlk (by first | exact Or.inl rfl | exact Or.inr rfl | assumption) hK hW hS ⟨by subst h33; first | exact tl_b_f (fun z => tl_b_0.mp h143 z.1) | exact tl_b_f (fun z => tl_b_0.mp h153 z.2.1) | exact tl_b_f (fun z => tl_b_0.mp h166 z.2.2) | exact tl_b_t ⟨tl_b_n.mp h143, tl_b_n.mp h153, tl_b_n.mp h166⟩, rfl⟩ dX6_isPossible_174
        · refine lv_aload_n hx hb dX6_isPossible_156 rfl (lv_at hl 1 rfl) ?_
          refine gf_X6_43 hx hb htw hown hK hW (by assumption) (by assumption) dX6_isPossible_157 ?_
          refine gf_X6_27 hx hb htw hown hK hW (by assumption) (by assumption) dX6_isPossible_160 ?_
          refine tm_calli (cs_X6_33 hx hb hml hown htw hK hW (by assumption) (c_X0_isZero (by assumption) (fok_L hC).1) ⟨rfl, rfl, Nat.le_of_ble_eq_true rfl, Nat.le_of_ble_eq_true rfl⟩ hl.1 (Nat.le_of_ble_eq_true rfl) dX6_isPossible_163 ⟨Nat.le_of_ble_eq_true rfl, Nat.le_of_ble_eq_true rfl⟩) hS (fun x163 M163 H locs hp163 hW hS => ?_)
          obtain ⟨ex163, eM163⟩ := hp163
          rw [eM163] at hW
          rw [ex163]
          refine ti_if_eq (tgt := 173) hx hb dX6_isPossible_166 (by decide) (tl_b_r _) (fun h166 => ?_) (fun h166 => ?_)
          · refine ti_iconst hx hb dX6_isPossible_173 ?_
            exact tm_zret hx hb hr hlk (by first | exact Or.inl rfl | exact Or.inr rfl | assumption) hK hW hS ⟨by subst h33; first | exact tl_b_f (fun z => tl_b_0.mp h143 z.1) | exact tl_b_f (fun z => tl_b_0.mp h153 z.2.1) | exact tl_b_f (fun z => tl_b_0.mp h166 z.2.2) | exact tl_b_t ⟨tl_b_n.mp h143, tl_b_n.mp h153, tl_b_n.mp h166⟩, rfl⟩ dX6_isPossible_174
          · refine ti_iconst hx hb dX6_isPossible_169 ?_
            refine lv_goto (tgt := 174) hx hb dX6_isPossible_170 (by decide) ?_
            exact tm_zret hx hb hr hlk (by first | exact Or.inl rfl | exact Or.inr rfl | assumption) hK hW hS ⟨by subst h33; first | exact tl_b_f (fun z => tl_b_0.mp h143 z.1) | exact tl_b_f (fun z => tl_b_0.mp h153 z.2.1) | exact tl_b_f (fun z => tl_b_0.mp h166 z.2.2) | exact tl_b_t ⟨tl_b_n.mp h143, tl_b_n.mp h153, tl_b_n.mp h166⟩, rfl⟩ dX6_isPossible_174
    · refine ti_iconst hx hb dX6_isPossible_175 ?_
      exact tm_zret hx hb hr hlk (by first | exact Or.inl rfl | exact Or.inr rfl | assumption) hK hW hS ⟨by rw [tl_poss, if_neg (by omega), if_neg (by omega), if_neg (by omega), if_neg (by omega), if_neg (by omega), if_neg (by omega)], rfl⟩ dX6_isPossible_176
  refine lv_aload_n hx hb dX6_isPossible_0 rfl (lv_at hl 1 rfl) ?_
  refine gf_X6_23 hx hb htw hown hK hW (by assumption) (by assumption) dX6_isPossible_1 ?_
  refine lv_astore_n (lv' := [(2, _), (0, _), (1, _)]) hx hb dX6_isPossible_4 rfl hl (by decide) rfl (fun ls hl => ?_)
  refine lv_aload_n hx hb dX6_isPossible_5 rfl (lv_at hl 0 rfl) ?_
  refine gf_X6_27 hx hb htw hown hK hW (by assumption) (by assumption) dX6_isPossible_6 ?_
  refine tm_calli (cs_X6_33 hx hb hml hown htw hK hW (by assumption) (c_X0_isZero (by assumption) (fok_L hA).1) ⟨rfl, rfl, Nat.le_of_ble_eq_true rfl, Nat.le_of_ble_eq_true rfl⟩ hl.1 (Nat.le_of_ble_eq_true rfl) dX6_isPossible_9 ⟨Nat.le_of_ble_eq_true rfl, Nat.le_of_ble_eq_true rfl⟩) hS (fun x9 M9 H locs hp9 hW hS => ?_)
  obtain ⟨ex9, eM9⟩ := hp9
  rw [eM9] at hW
  rw [ex9]
  refine ti_if_ne (tgt := 30) hx hb dX6_isPossible_12 (by decide) (tl_b_r _) (fun h12 => ?_) (fun h12 => ?_)
  · refine ti_iconst hx hb dX6_isPossible_30 ?_
    refine lv_istore_n (lv' := [(3, _), (2, _), (0, _), (1, _)]) hx hb dX6_isPossible_31 rfl hl (by decide) rfl (fun ls hl => ?_)
    first
    | exact tail _ _ _ hW hS (by rw [show tl_b (¬ (ln M o).1.1.1 = 0 ∧ ¬ (ln M o).1.1 = (1, 1)) = 0 from tl_b_0.mpr (fun z => z.1 (tl_b_n.mp h12))]; exact lv_sub hl [2, 3, 1, 0] rfl)
    | exact tail _ _ _ hW hS (by rw [show tl_b (¬ (ln M o).1.1.1 = 0 ∧ ¬ (ln M o).1.1 = (1, 1)) = 0 from tl_b_0.mpr (fun z => z.2 (tl_b_n.mp h23))]; exact lv_sub hl [2, 3, 1, 0] rfl)
    | exact tail _ _ _ hW hS (by rw [show tl_b (¬ (ln M o).1.1.1 = 0 ∧ ¬ (ln M o).1.1 = (1, 1)) = 1 from (tl_b_t ⟨tl_b_0.mp h12, tl_b_0.mp h23⟩).symm]; exact lv_sub hl [2, 3, 1, 0] rfl)
  · refine lv_aload_n hx hb dX6_isPossible_15 rfl (lv_at hl 0 rfl) ?_
    refine gf_X6_27 hx hb htw hown hK hW (by assumption) (by assumption) dX6_isPossible_16 ?_
    refine ti_lconst1 hx hb dX6_isPossible_19 ?_
    refine tm_calli (cs_X6_39 hx hb hml hown htw hK hW (by assumption) (c_X0_isWhole (by assumption) (fok_L hA) (by decide)) ⟨rfl, rfl, Nat.le_of_ble_eq_true rfl, Nat.le_of_ble_eq_true rfl⟩ hl.1 (Nat.le_of_ble_eq_true rfl) dX6_isPossible_20 ⟨Nat.le_of_ble_eq_true rfl, Nat.le_of_ble_eq_true rfl⟩) hS (fun x20 M20 H locs hp20 hW hS => ?_)
    obtain ⟨ex20, eM20⟩ := hp20
    rw [eM20] at hW
    rw [ex20]
    refine ti_if_ne (tgt := 30) hx hb dX6_isPossible_23 (by decide) (tl_b_r _) (fun h23 => ?_) (fun h23 => ?_)
    · refine ti_iconst hx hb dX6_isPossible_30 ?_
      refine lv_istore_n (lv' := [(3, _), (2, _), (0, _), (1, _)]) hx hb dX6_isPossible_31 rfl hl (by decide) rfl (fun ls hl => ?_)
      first
      | exact tail _ _ _ hW hS (by rw [show tl_b (¬ (ln M o).1.1.1 = 0 ∧ ¬ (ln M o).1.1 = (1, 1)) = 0 from tl_b_0.mpr (fun z => z.1 (tl_b_n.mp h12))]; exact lv_sub hl [2, 3, 1, 0] rfl)
      | exact tail _ _ _ hW hS (by rw [show tl_b (¬ (ln M o).1.1.1 = 0 ∧ ¬ (ln M o).1.1 = (1, 1)) = 0 from tl_b_0.mpr (fun z => z.2 (tl_b_n.mp h23))]; exact lv_sub hl [2, 3, 1, 0] rfl)
      | exact tail _ _ _ hW hS (by rw [show tl_b (¬ (ln M o).1.1.1 = 0 ∧ ¬ (ln M o).1.1 = (1, 1)) = 1 from (tl_b_t ⟨tl_b_0.mp h12, tl_b_0.mp h23⟩).symm]; exact lv_sub hl [2, 3, 1, 0] rfl)
    · refine ti_iconst hx hb dX6_isPossible_26 ?_
      refine lv_goto (tgt := 31) hx hb dX6_isPossible_27 (by decide) ?_
      refine lv_istore_n (lv' := [(3, _), (2, _), (0, _), (1, _)]) hx hb dX6_isPossible_31 rfl hl (by decide) rfl (fun ls hl => ?_)
      first
      | exact tail _ _ _ hW hS (by rw [show tl_b (¬ (ln M o).1.1.1 = 0 ∧ ¬ (ln M o).1.1 = (1, 1)) = 0 from tl_b_0.mpr (fun z => z.1 (tl_b_n.mp h12))]; exact lv_sub hl [2, 3, 1, 0] rfl)
      | exact tail _ _ _ hW hS (by rw [show tl_b (¬ (ln M o).1.1.1 = 0 ∧ ¬ (ln M o).1.1 = (1, 1)) = 0 from tl_b_0.mpr (fun z => z.2 (tl_b_n.mp h23))]; exact lv_sub hl [2, 3, 1, 0] rfl)
      | exact tail _ _ _ hW hS (by rw [show tl_b (¬ (ln M o).1.1.1 = 0 ∧ ¬ (ln M o).1.1 = (1, 1)) = 1 from (tl_b_t ⟨tl_b_0.mp h12, tl_b_0.mp h23⟩).symm]; exact lv_sub hl [2, 3, 1, 0] rfl)
theorem dX6_write_0 : decode cX6_write 0 = .ok (.aload_n 1, 1) := by decide +kernel
theorem dX6_write_1 : decode cX6_write 1 = .ok (.getfield 23, 3) := by decide +kernel
theorem dX6_write_4 : decode cX6_write 4 = .ok (.astore_n 3, 1) := by decide +kernel
theorem dX6_write_5 : decode cX6_write 5 = .ok (.aload_n 1, 1) := by decide +kernel
theorem dX6_write_6 : decode cX6_write 6 = .ok (.getfield 43, 3) := by decide +kernel
theorem dX6_write_9 : decode cX6_write 9 = .ok (.astore 4, 2) := by decide +kernel
theorem dX6_write_11 : decode cX6_write 11 = .ok (.aload_n 2, 1) := by decide +kernel
theorem dX6_write_12 : decode cX6_write 12 = .ok (.aload_n 1, 1) := by decide +kernel
theorem dX6_write_13 : decode cX6_write 13 = .ok (.invokevirtual 53, 3) := by decide +kernel
theorem dX6_write_16 : decode cX6_write 16 = .ok (.iload_n 0, 1) := by decide +kernel
theorem dX6_write_17 : decode cX6_write 17 = .ok (.tableswitch 212 1 6 #[39, 72, 105, 137, 162, 179], 39) := by decide +kernel
theorem dX6_write_56 : decode cX6_write 56 = .ok (.aload_n 2, 1) := by decide +kernel
theorem dX6_write_57 : decode cX6_write 57 = .ok (.getfield 23, 3) := by decide +kernel
theorem dX6_write_60 : decode cX6_write 60 = .ok (.getfield 27, 3) := by decide +kernel
theorem dX6_write_63 : decode cX6_write 63 = .ok (.aload_n 3, 1) := by decide +kernel
theorem dX6_write_64 : decode cX6_write 64 = .ok (.getfield 27, 3) := by decide +kernel
theorem dX6_write_67 : decode cX6_write 67 = .ok (.aload 4, 2) := by decide +kernel
theorem dX6_write_69 : decode cX6_write 69 = .ok (.getfield 27, 3) := by decide +kernel
theorem dX6_write_72 : decode cX6_write 72 = .ok (.invokevirtual 57, 3) := by decide +kernel
theorem dX6_write_75 : decode cX6_write 75 = .ok (.aload_n 2, 1) := by decide +kernel
theorem dX6_write_76 : decode cX6_write 76 = .ok (.getfield 43, 3) := by decide +kernel
theorem dX6_write_79 : decode cX6_write 79 = .ok (.getfield 27, 3) := by decide +kernel
theorem dX6_write_82 : decode cX6_write 82 = .ok (.lconst 0, 1) := by decide +kernel
theorem dX6_write_83 : decode cX6_write 83 = .ok (.invokevirtual 61, 3) := by decide +kernel
theorem dX6_write_86 : decode cX6_write 86 = .ok (.goto 143, 3) := by decide +kernel
theorem dX6_write_89 : decode cX6_write 89 = .ok (.aload_n 2, 1) := by decide +kernel
theorem dX6_write_90 : decode cX6_write 90 = .ok (.getfield 23, 3) := by decide +kernel
theorem dX6_write_93 : decode cX6_write 93 = .ok (.getfield 46, 3) := by decide +kernel
theorem dX6_write_96 : decode cX6_write 96 = .ok (.lconst 0, 1) := by decide +kernel
theorem dX6_write_97 : decode cX6_write 97 = .ok (.invokevirtual 61, 3) := by decide +kernel
theorem dX6_write_100 : decode cX6_write 100 = .ok (.aload_n 2, 1) := by decide +kernel
theorem dX6_write_101 : decode cX6_write 101 = .ok (.getfield 43, 3) := by decide +kernel
theorem dX6_write_104 : decode cX6_write 104 = .ok (.getfield 46, 3) := by decide +kernel
theorem dX6_write_107 : decode cX6_write 107 = .ok (.aload_n 3, 1) := by decide +kernel
theorem dX6_write_108 : decode cX6_write 108 = .ok (.getfield 46, 3) := by decide +kernel
theorem dX6_write_111 : decode cX6_write 111 = .ok (.aload 4, 2) := by decide +kernel
theorem dX6_write_113 : decode cX6_write 113 = .ok (.getfield 46, 3) := by decide +kernel
theorem dX6_write_116 : decode cX6_write 116 = .ok (.invokevirtual 57, 3) := by decide +kernel
theorem dX6_write_119 : decode cX6_write 119 = .ok (.goto 110, 3) := by decide +kernel
theorem dX6_write_122 : decode cX6_write 122 = .ok (.aload_n 2, 1) := by decide +kernel
theorem dX6_write_123 : decode cX6_write 123 = .ok (.getfield 23, 3) := by decide +kernel
theorem dX6_write_126 : decode cX6_write 126 = .ok (.getfield 27, 3) := by decide +kernel
theorem dX6_write_129 : decode cX6_write 129 = .ok (.lconst 1, 1) := by decide +kernel
theorem dX6_write_130 : decode cX6_write 130 = .ok (.invokevirtual 61, 3) := by decide +kernel
theorem dX6_write_133 : decode cX6_write 133 = .ok (.aload_n 2, 1) := by decide +kernel
theorem dX6_write_134 : decode cX6_write 134 = .ok (.getfield 23, 3) := by decide +kernel
theorem dX6_write_137 : decode cX6_write 137 = .ok (.getfield 46, 3) := by decide +kernel
theorem dX6_write_140 : decode cX6_write 140 = .ok (.aload_n 3, 1) := by decide +kernel
theorem dX6_write_141 : decode cX6_write 141 = .ok (.getfield 46, 3) := by decide +kernel
theorem dX6_write_144 : decode cX6_write 144 = .ok (.aload_n 3, 1) := by decide +kernel
theorem dX6_write_145 : decode cX6_write 145 = .ok (.getfield 27, 3) := by decide +kernel
theorem dX6_write_148 : decode cX6_write 148 = .ok (.invokevirtual 65, 3) := by decide +kernel
theorem dX6_write_151 : decode cX6_write 151 = .ok (.goto 78, 3) := by decide +kernel
theorem dX6_write_154 : decode cX6_write 154 = .ok (.aload_n 2, 1) := by decide +kernel
theorem dX6_write_155 : decode cX6_write 155 = .ok (.getfield 23, 3) := by decide +kernel
theorem dX6_write_158 : decode cX6_write 158 = .ok (.getfield 27, 3) := by decide +kernel
theorem dX6_write_161 : decode cX6_write 161 = .ok (.lconst 1, 1) := by decide +kernel
theorem dX6_write_162 : decode cX6_write 162 = .ok (.invokevirtual 61, 3) := by decide +kernel
theorem dX6_write_165 : decode cX6_write 165 = .ok (.aload_n 2, 1) := by decide +kernel
theorem dX6_write_166 : decode cX6_write 166 = .ok (.getfield 43, 3) := by decide +kernel
theorem dX6_write_169 : decode cX6_write 169 = .ok (.aload_n 3, 1) := by decide +kernel
theorem dX6_write_170 : decode cX6_write 170 = .ok (.getfield 27, 3) := by decide +kernel
theorem dX6_write_173 : decode cX6_write 173 = .ok (.invokevirtual 68, 3) := by decide +kernel
theorem dX6_write_176 : decode cX6_write 176 = .ok (.goto 53, 3) := by decide +kernel
theorem dX6_write_179 : decode cX6_write 179 = .ok (.aload_n 2, 1) := by decide +kernel
theorem dX6_write_180 : decode cX6_write 180 = .ok (.getfield 23, 3) := by decide +kernel
theorem dX6_write_183 : decode cX6_write 183 = .ok (.invokevirtual 72, 3) := by decide +kernel
theorem dX6_write_186 : decode cX6_write 186 = .ok (.aload_n 2, 1) := by decide +kernel
theorem dX6_write_187 : decode cX6_write 187 = .ok (.getfield 43, 3) := by decide +kernel
theorem dX6_write_190 : decode cX6_write 190 = .ok (.invokevirtual 72, 3) := by decide +kernel
theorem dX6_write_193 : decode cX6_write 193 = .ok (.goto 36, 3) := by decide +kernel
theorem dX6_write_196 : decode cX6_write 196 = .ok (.aload_n 2, 1) := by decide +kernel
theorem dX6_write_197 : decode cX6_write 197 = .ok (.getfield 23, 3) := by decide +kernel
theorem dX6_write_200 : decode cX6_write 200 = .ok (.getfield 27, 3) := by decide +kernel
theorem dX6_write_203 : decode cX6_write 203 = .ok (.lconst 1, 1) := by decide +kernel
theorem dX6_write_204 : decode cX6_write 204 = .ok (.invokevirtual 61, 3) := by decide +kernel
theorem dX6_write_207 : decode cX6_write 207 = .ok (.aload_n 2, 1) := by decide +kernel
theorem dX6_write_208 : decode cX6_write 208 = .ok (.getfield 43, 3) := by decide +kernel
theorem dX6_write_211 : decode cX6_write 211 = .ok (.getfield 46, 3) := by decide +kernel
theorem dX6_write_214 : decode cX6_write 214 = .ok (.aload 4, 2) := by decide +kernel
theorem dX6_write_216 : decode cX6_write 216 = .ok (.getfield 46, 3) := by decide +kernel
theorem dX6_write_219 : decode cX6_write 219 = .ok (.aload_n 3, 1) := by decide +kernel
theorem dX6_write_220 : decode cX6_write 220 = .ok (.getfield 27, 3) := by decide +kernel
theorem dX6_write_223 : decode cX6_write 223 = .ok (.invokevirtual 75, 3) := by decide +kernel
theorem dX6_write_226 : decode cX6_write 226 = .ok (.goto 3, 3) := by decide +kernel
theorem dX6_write_229 : decode cX6_write 229 = .ok (.return_, 1) := by decide +kernel
set_option maxHeartbeats 4000000 in
set_option maxRecDepth 100000 in
/-- Slips.write -/
theorem c_X6_write {l : Launch} {G : tm_G} {Hb : Heap} {sh : tm_sh} {M : tm_M} {q o : Nat} {n : Int} (ht : isLn sh M o) (hs : isLn sh M q) (hne : o + 7 ≤ q ∨ q + 7 ≤ o) (hv : lok (ln M o)) (hn : inI n) (hps : ¬ tl_poss n (ln M o) = 0) : Met l yX6_write (tws yX6_write cX6_write 5 none) ({ frames := 4, cells := 0, slots := 0, locals := 96 }) (va_Pc [ji n, .ref o, .ref q] (tm_St G Hb sh M)) (tm_Qv G Hb sh (fun M1 => ln M1 q = tl_slipv n (ln M o) ∧ tm_fr q (q + 7) M M1)) 0 0 (tm_A Hb) := by
  refine tm_begin (by decide) (Nat.le_of_ble_eq_true rfl) (fun p e s m below meth c ls hx hb hr hml hown htw hlk hnm hK hW hl => ?_)
  have hS : va_S (tm_A Hb) s.heap s.heap [] := va_S.rf
  have hl : lv_has ls 5 [(0, ji n), (1, .ref o), (2, .ref q)] := hl
  have hs0 := hs
  have ht0 := ht
  obtain ⟨t0, t1, t2, ⟨t3, t4, t5, t6, t7⟩, ⟨u3, u4, u5, u6, u7⟩⟩ := ht
  obtain ⟨s0, s1, s2, ⟨s3, s4, s5, s6, s7⟩, ⟨r3, r4, r5, r6, r7⟩⟩ := hs
  obtain ⟨⟨hA, hB⟩, ⟨hC, hD⟩, hR1, hR2⟩ := hv
  refine lv_aload_n hx hb dX6_write_0 rfl (lv_at hl 1 rfl) ?_
  refine gf_X6_23 hx hb htw hown hK hW (by assumption) (by assumption) dX6_write_1 ?_
  refine lv_astore_n (lv' := [(3, _), (0, _), (1, _), (2, _)]) hx hb dX6_write_4 rfl hl (by decide) rfl (fun ls hl => ?_)
  refine lv_aload_n hx hb dX6_write_5 rfl (lv_at hl 2 rfl) ?_
  refine gf_X6_43 hx hb htw hown hK hW (by assumption) (by assumption) dX6_write_6 ?_
  refine lv_astore (lv' := [(4, _), (3, _), (0, _), (1, _), (2, _)]) hx hb dX6_write_9 hl (by decide) rfl (fun ls hl => ?_)
  refine lv_aload_n hx hb dX6_write_11 rfl (lv_at hl 4 rfl) ?_
  refine lv_aload_n hx hb dX6_write_12 rfl (lv_at hl 3 rfl) ?_
  refine tm_callv (cs_X6_53 hx hb hml hown htw hK hW (by assumption) (c_X1_copy hs0 ht0 hne) ⟨rfl, rfl, Nat.le_of_ble_eq_true rfl, Nat.le_of_ble_eq_true rfl⟩ hl.1 (Nat.le_of_ble_eq_true rfl) dX6_write_13 ⟨Nat.le_of_ble_eq_true rfl, Nat.le_of_ble_eq_true rfl⟩) hS (fun M13 H locs hp13 hW hS => ?_)
  rw [hp13] at hW
  have e0 : ln (lS M q (ln M o)) q = ln M o := ln_self _ _ _
  have f0 : tm_fr q (q + 7) M (lS M q (ln M o)) := fw_lS _
  generalize hg : lS M q (ln M o) = M0 at hW e0 f0
  have em := f0.1
  have sA : mR M0 q 0 = some (q + 1) := by rw [em]; exact s1
  have sB : mR M0 q 1 = some (q + 4) := by rw [em]; exact s2
  have sC := isSd_m hs0.2.2.2.1 em
  have sD := isSd_m hs0.2.2.2.2 em
  have sC9 := sC
  have sD9 := sD
  obtain ⟨-, -, -, sC1, sC2⟩ := sC
  obtain ⟨-, -, -, sD1, sD2⟩ := sD
  have tC := isSd_m ht0.2.2.2.1 em
  have tD := isSd_m ht0.2.2.2.2 em
  obtain ⟨-, -, -, tC1, tC2⟩ := tC
  obtain ⟨-, -, -, tD1, tD2⟩ := tD
  obtain ⟨a1, a2, a3, a4, a5⟩ := ln_at e0
  have b1 : fr M0 (o + 2) = (ln M o).1.1 := fw_fr f0 (by omega)
  have b2 : fr M0 (o + 3) = (ln M o).1.2 := fw_fr f0 (by omega)
  have b3 : fr M0 (o + 5) = (ln M o).2.1.1 := fw_fr f0 (by omega)
  have b4 : fr M0 (o + 6) = (ln M o).2.1.2 := fw_fr f0 (by omega)
  refine lv_iload_n hx hb dX6_write_16 rfl (lv_at hl 2 rfl) ?_
  refine ti_ts_1_6 (td := 229) (t1 := 56) (t2 := 89) (t3 := 122) (t4 := 154) (t5 := 179) (t6 := 196) hx hb dX6_write_17 (by omega) (by decide) (by decide) (by decide) (by decide) (by decide) (by decide) (by decide) (fun h17 => ?_) (fun h17 => ?_) (fun h17 => ?_) (fun h17 => ?_) (fun h17 => ?_) (fun h17 => ?_) (fun h17 => ?_)
  · refine lv_aload_n hx hb dX6_write_56 rfl (lv_at hl 4 rfl) ?_
    refine gf_X6_23 hx hb htw hown hK hW (by assumption) (by assumption) dX6_write_57 ?_
    refine gf_X6_27 hx hb htw hown hK hW (by assumption) (by assumption) dX6_write_60 ?_
    refine lv_aload_n hx hb dX6_write_63 rfl (lv_at hl 1 rfl) ?_
    refine gf_X6_27 hx hb htw hown hK hW (by assumption) (by assumption) dX6_write_64 ?_
    refine lv_aload hx hb dX6_write_67 (lv_at hl 0 rfl) ?_
    refine gf_X6_27 hx hb htw hown hK hW (by assumption) (by assumption) dX6_write_69 ?_
    refine tm_callv (cs_X6_57 hx hb hml hown htw hK hW (by assumption) (v_setSum (f := (ln M o).1.1) (g := (ln M o).2.1.1) (by assumption) (by assumption) (by assumption) b1 b3 hA hC) ⟨rfl, rfl, Nat.le_of_ble_eq_true rfl, Nat.le_of_ble_eq_true rfl⟩ hl.1 (Nat.le_of_ble_eq_true rfl) dX6_write_72 ⟨Nat.le_of_ble_eq_true rfl, Nat.le_of_ble_eq_true rfl⟩) hS (fun M72 H locs hp72 hW hS => ?_)
    rw [hp72] at hW
    refine lv_aload_n hx hb dX6_write_75 rfl (lv_at hl 4 rfl) ?_
    refine gf_X6_43 hx hb htw hown hK hW (by assumption) (by assumption) dX6_write_76 ?_
    refine gf_X6_27 hx hb htw hown hK hW (by assumption) (by assumption) dX6_write_79 ?_
    refine ti_lconst0 hx hb dX6_write_82 ?_
    refine tm_callv (cs_X6_61 hx hb hml hown htw hK hW (by assumption) (c_X0_setWhole (by assumption)) ⟨rfl, rfl, Nat.le_of_ble_eq_true rfl, Nat.le_of_ble_eq_true rfl⟩ hl.1 (Nat.le_of_ble_eq_true rfl) dX6_write_83 ⟨Nat.le_of_ble_eq_true rfl, Nat.le_of_ble_eq_true rfl⟩) hS (fun M83 H locs hp83 hW hS => ?_)
    rw [hp83] at hW
    refine lv_goto (tgt := 229) hx hb dX6_write_86 (by decide) ?_
    exact tm_vret hx hb hr hlk hK hW hS (by subst h17; exact ⟨ln_ext ((fr_n _ _ (by omega)).trans (fr_s _ _ _)) (((fr_n _ _ (by omega)).trans (fr_n _ _ (by omega))).trans a2) (fr_s _ _ _) (((fr_n _ _ (by omega)).trans (fr_n _ _ (by omega))).trans a4) a5, fw_tr (fw_tr f0 (fw_fS _ (by omega) (by omega))) (fw_fS _ (by omega) (by omega))⟩) dX6_write_229
  · refine lv_aload_n hx hb dX6_write_89 rfl (lv_at hl 4 rfl) ?_
    refine gf_X6_23 hx hb htw hown hK hW (by assumption) (by assumption) dX6_write_90 ?_
    refine gf_X6_46 hx hb htw hown hK hW (by assumption) (by assumption) dX6_write_93 ?_
    refine ti_lconst0 hx hb dX6_write_96 ?_
    refine tm_callv (cs_X6_61 hx hb hml hown htw hK hW (by assumption) (c_X0_setWhole (by assumption)) ⟨rfl, rfl, Nat.le_of_ble_eq_true rfl, Nat.le_of_ble_eq_true rfl⟩ hl.1 (Nat.le_of_ble_eq_true rfl) dX6_write_97 ⟨Nat.le_of_ble_eq_true rfl, Nat.le_of_ble_eq_true rfl⟩) hS (fun M97 H locs hp97 hW hS => ?_)
    rw [hp97] at hW
    refine lv_aload_n hx hb dX6_write_100 rfl (lv_at hl 4 rfl) ?_
    refine gf_X6_43 hx hb htw hown hK hW (by assumption) (by assumption) dX6_write_101 ?_
    refine gf_X6_46 hx hb htw hown hK hW (by assumption) (by assumption) dX6_write_104 ?_
    refine lv_aload_n hx hb dX6_write_107 rfl (lv_at hl 1 rfl) ?_
    refine gf_X6_46 hx hb htw hown hK hW (by assumption) (by assumption) dX6_write_108 ?_
    refine lv_aload hx hb dX6_write_111 (lv_at hl 0 rfl) ?_
    refine gf_X6_46 hx hb htw hown hK hW (by assumption) (by assumption) dX6_write_113 ?_
    refine tm_callv (cs_X6_57 hx hb hml hown htw hK hW (by assumption) (v_setSum (f := (ln M o).1.2) (g := (ln M o).2.1.2) (by assumption) (by assumption) (by assumption) ((fr_n _ _ (by omega)).trans b2) ((fr_n _ _ (by omega)).trans b4) hB hD) ⟨rfl, rfl, Nat.le_of_ble_eq_true rfl, Nat.le_of_ble_eq_true rfl⟩ hl.1 (Nat.le_of_ble_eq_true rfl) dX6_write_116 ⟨Nat.le_of_ble_eq_true rfl, Nat.le_of_ble_eq_true rfl⟩) hS (fun M116 H locs hp116 hW hS => ?_)
    rw [hp116] at hW
    refine lv_goto (tgt := 229) hx hb dX6_write_119 (by decide) ?_
    exact tm_vret hx hb hr hlk hK hW hS (by subst h17; exact ⟨ln_ext (((fr_n _ _ (by omega)).trans (fr_n _ _ (by omega))).trans a1) ((fr_n _ _ (by omega)).trans (fr_s _ _ _)) (((fr_n _ _ (by omega)).trans (fr_n _ _ (by omega))).trans a3) (fr_s _ _ _) a5, fw_tr (fw_tr f0 (fw_fS _ (by omega) (by omega))) (fw_fS _ (by omega) (by omega))⟩) dX6_write_229
  · refine lv_aload_n hx hb dX6_write_122 rfl (lv_at hl 4 rfl) ?_
    refine gf_X6_23 hx hb htw hown hK hW (by assumption) (by assumption) dX6_write_123 ?_
    refine gf_X6_27 hx hb htw hown hK hW (by assumption) (by assumption) dX6_write_126 ?_
    refine ti_lconst1 hx hb dX6_write_129 ?_
    refine tm_callv (cs_X6_61 hx hb hml hown htw hK hW (by assumption) (c_X0_setWhole (by assumption)) ⟨rfl, rfl, Nat.le_of_ble_eq_true rfl, Nat.le_of_ble_eq_true rfl⟩ hl.1 (Nat.le_of_ble_eq_true rfl) dX6_write_130 ⟨Nat.le_of_ble_eq_true rfl, Nat.le_of_ble_eq_true rfl⟩) hS (fun M130 H locs hp130 hW hS => ?_)
    rw [hp130] at hW
    refine lv_aload_n hx hb dX6_write_133 rfl (lv_at hl 4 rfl) ?_
    refine gf_X6_23 hx hb htw hown hK hW (by assumption) (by assumption) dX6_write_134 ?_
    refine gf_X6_46 hx hb htw hown hK hW (by assumption) (by assumption) dX6_write_137 ?_
    refine lv_aload_n hx hb dX6_write_140 rfl (lv_at hl 1 rfl) ?_
    refine gf_X6_46 hx hb htw hown hK hW (by assumption) (by assumption) dX6_write_141 ?_
    refine lv_aload_n hx hb dX6_write_144 rfl (lv_at hl 1 rfl) ?_
    refine gf_X6_27 hx hb htw hown hK hW (by assumption) (by assumption) dX6_write_145 ?_
    refine tm_callv (cs_X6_65 hx hb hml hown htw hK hW (by assumption) (v_setQuotient (f := (ln M o).1.2) (g := (ln M o).1.1) (by assumption) (by assumption) (by assumption) ((fr_n _ _ (by omega)).trans b2) ((fr_n _ _ (by omega)).trans b1) hB hA (tl_poss_A (by omega) hps)) ⟨rfl, rfl, Nat.le_of_ble_eq_true rfl, Nat.le_of_ble_eq_true rfl⟩ hl.1 (Nat.le_of_ble_eq_true rfl) dX6_write_148 ⟨Nat.le_of_ble_eq_true rfl, Nat.le_of_ble_eq_true rfl⟩) hS (fun M148 H locs hp148 hW hS => ?_)
    rw [hp148] at hW
    refine lv_goto (tgt := 229) hx hb dX6_write_151 (by decide) ?_
    exact tm_vret hx hb hr hlk hK hW hS (by subst h17; exact ⟨ln_ext ((fr_n _ _ (by omega)).trans (fr_s _ _ _)) (fr_s _ _ _) (((fr_n _ _ (by omega)).trans (fr_n _ _ (by omega))).trans a3) (((fr_n _ _ (by omega)).trans (fr_n _ _ (by omega))).trans a4) a5, fw_tr (fw_tr f0 (fw_fS _ (by omega) (by omega))) (fw_fS _ (by omega) (by omega))⟩) dX6_write_229
  · refine lv_aload_n hx hb dX6_write_154 rfl (lv_at hl 4 rfl) ?_
    refine gf_X6_23 hx hb htw hown hK hW (by assumption) (by assumption) dX6_write_155 ?_
    refine gf_X6_27 hx hb htw hown hK hW (by assumption) (by assumption) dX6_write_158 ?_
    refine ti_lconst1 hx hb dX6_write_161 ?_
    refine tm_callv (cs_X6_61 hx hb hml hown htw hK hW (by assumption) (c_X0_setWhole (by assumption)) ⟨rfl, rfl, Nat.le_of_ble_eq_true rfl, Nat.le_of_ble_eq_true rfl⟩ hl.1 (Nat.le_of_ble_eq_true rfl) dX6_write_162 ⟨Nat.le_of_ble_eq_true rfl, Nat.le_of_ble_eq_true rfl⟩) hS (fun M162 H locs hp162 hW hS => ?_)
    have g1 : fr M162 (o + 2) = (ln M o).1.1 := by rw [hp162]; exact (fr_n _ _ (by omega)).trans b1
    have g2 : fr M162 (q + 3) = (ln M o).1.2 := by rw [hp162]; exact (fr_n _ _ (by omega)).trans a2
    have g0 : fr M162 (q + 2) = (1, 1) := by rw [hp162]; exact fr_s _ _ _
    have g3 : fr M162 (q + 5) = (ln M o).2.1.1 := by rw [hp162]; exact (fr_n _ _ (by omega)).trans a3
    have g4 : fr M162 (q + 6) = (ln M o).2.1.2 := by rw [hp162]; exact (fr_n _ _ (by omega)).trans a4
    have g5 : mI M162 q 2 = (ln M o).2.2 := by rw [hp162]; exact a5
    have gf : tm_fr q (q + 7) M M162 := by rw [hp162]; exact fw_tr f0 (fw_fS _ (by omega) (by omega))
    have gm : mR M162 = mR M0 := by rw [hp162]
    have gB : mR M162 q 1 = some (q + 4) := by rw [gm]; exact sB
    have gt : mR M162 (o + 1) 0 = some (o + 2) := by rw [gm]; exact tC1
    refine lv_aload_n hx hb dX6_write_165 rfl (lv_at hl 4 rfl) ?_
    refine gf_X6_43 hx hb htw hown hK hW (by assumption) (by assumption) dX6_write_166 ?_
    refine lv_aload_n hx hb dX6_write_169 rfl (lv_at hl 1 rfl) ?_
    refine gf_X6_27 hx hb htw hown hK hW (by assumption) (by assumption) dX6_write_170 ?_
    refine tm_callv (cs_X6_68 hx hb hml hown htw hK hW (by assumption) (c_X5_divide (isSd_m sD9 gm) (by assumption) (by omega) (by rw [show sd M162 (q + 4) = (ln M o).2.1 from Prod.ext g3 g4]; exact ⟨hC, hD⟩) (by rw [g1]; exact hA) (by rw [g1]; exact tl_poss_A (by omega) hps)) ⟨rfl, rfl, Nat.le_of_ble_eq_true rfl, Nat.le_of_ble_eq_true rfl⟩ hl.1 (Nat.le_of_ble_eq_true rfl) dX6_write_173 ⟨Nat.le_of_ble_eq_true rfl, Nat.le_of_ble_eq_true rfl⟩) hS (fun M173 H locs hp173 hW hS => ?_)
    have c1 : fr M173 (q + 2) = (1, 1) := by rw [hp173]; exact (fr_sS _ _ (by omega) (by omega)).trans g0
    have c2 : fr M173 (q + 3) = (ln M o).1.2 := by rw [hp173]; exact (fr_sS _ _ (by omega) (by omega)).trans g2
    have c3 : fr M173 (q + 5) = fdiv (ln M o).2.1.1 (ln M o).1.1 := by rw [hp173]; exact ((fr_n _ _ (by omega)).trans (fr_s _ _ _)).trans (congr (congrArg fdiv g3) g1)
    have c4 : fr M173 (q + 6) = fdiv (ln M o).2.1.2 (ln M o).1.1 := by rw [hp173]; exact (fr_s _ _ _).trans (congr (congrArg fdiv g4) g1)
    have c5 : mI M173 q 2 = (ln M o).2.2 := by rw [hp173]; exact g5
    have cf : tm_fr q (q + 7) M M173 := by rw [hp173]; exact fw_tr (fw_tr gf (fw_fS _ (by omega) (by omega))) (fw_fS _ (by omega) (by omega))
    refine lv_goto (tgt := 229) hx hb dX6_write_176 (by decide) ?_
    exact tm_vret hx hb hr hlk hK hW hS (by subst h17; exact ⟨ln_ext c1 c2 c3 c4 c5, cf⟩) dX6_write_229
  · refine lv_aload_n hx hb dX6_write_179 rfl (lv_at hl 4 rfl) ?_
    refine gf_X6_23 hx hb htw hown hK hW (by assumption) (by assumption) dX6_write_180 ?_
    refine tm_callv (cs_X6_72 hx hb hml hown htw hK hW (by assumption) (c_X5_turnToOpposite sC9) ⟨rfl, rfl, Nat.le_of_ble_eq_true rfl, Nat.le_of_ble_eq_true rfl⟩ hl.1 (Nat.le_of_ble_eq_true rfl) dX6_write_183 ⟨Nat.le_of_ble_eq_true rfl, Nat.le_of_ble_eq_true rfl⟩) hS (fun M183 H locs hp183 hW hS => ?_)
    have c1 : fr M183 (q + 2) = fneg (ln M o).1.1 := by rw [hp183]; exact ((fr_n _ _ (by omega)).trans (fr_s _ _ _)).trans (congrArg fneg a1)
    have c2 : fr M183 (q + 3) = fneg (ln M o).1.2 := by rw [hp183]; exact (fr_s _ _ _).trans (congrArg fneg a2)
    have c3 : fr M183 (q + 5) = (ln M o).2.1.1 := by rw [hp183]; exact (fr_sS _ _ (by omega) (by omega)).trans a3
    have c4 : fr M183 (q + 6) = (ln M o).2.1.2 := by rw [hp183]; exact (fr_sS _ _ (by omega) (by omega)).trans a4
    have c5 : mI M183 q 2 = (ln M o).2.2 := by rw [hp183]; exact a5
    have cf : tm_fr q (q + 7) M M183 := by rw [hp183]; exact fw_tr (fw_tr f0 (fw_fS _ (by omega) (by omega))) (fw_fS _ (by omega) (by omega))
    have gm : mR M183 = mR M0 := by rw [hp183]
    have gB : mR M183 q 1 = some (q + 4) := by rw [gm]; exact sB
    refine lv_aload_n hx hb dX6_write_186 rfl (lv_at hl 4 rfl) ?_
    refine gf_X6_43 hx hb htw hown hK hW (by assumption) (by assumption) dX6_write_187 ?_
    refine tm_callv (cs_X6_72 hx hb hml hown htw hK hW (by assumption) (c_X5_turnToOpposite (isSd_m sD9 gm)) ⟨rfl, rfl, Nat.le_of_ble_eq_true rfl, Nat.le_of_ble_eq_true rfl⟩ hl.1 (Nat.le_of_ble_eq_true rfl) dX6_write_190 ⟨Nat.le_of_ble_eq_true rfl, Nat.le_of_ble_eq_true rfl⟩) hS (fun M190 H locs hp190 hW hS => ?_)
    have d1 : fr M190 (q + 2) = fneg (ln M o).1.1 := by rw [hp190]; exact (fr_sS _ _ (by omega) (by omega)).trans c1
    have d2 : fr M190 (q + 3) = fneg (ln M o).1.2 := by rw [hp190]; exact (fr_sS _ _ (by omega) (by omega)).trans c2
    have d3 : fr M190 (q + 5) = fneg (ln M o).2.1.1 := by rw [hp190]; exact ((fr_n _ _ (by omega)).trans (fr_s _ _ _)).trans (congrArg fneg c3)
    have d4 : fr M190 (q + 6) = fneg (ln M o).2.1.2 := by rw [hp190]; exact (fr_s _ _ _).trans (congrArg fneg c4)
    have d5 : mI M190 q 2 = (ln M o).2.2 := by rw [hp190]; exact c5
    have df : tm_fr q (q + 7) M M190 := by rw [hp190]; exact fw_tr (fw_tr cf (fw_fS _ (by omega) (by omega))) (fw_fS _ (by omega) (by omega))
    refine lv_goto (tgt := 229) hx hb dX6_write_193 (by decide) ?_
    exact tm_vret hx hb hr hlk hK hW hS (by subst h17; exact ⟨ln_ext d1 d2 d3 d4 d5, df⟩) dX6_write_229
  · refine lv_aload_n hx hb dX6_write_196 rfl (lv_at hl 4 rfl) ?_
    refine gf_X6_23 hx hb htw hown hK hW (by assumption) (by assumption) dX6_write_197 ?_
    refine gf_X6_27 hx hb htw hown hK hW (by assumption) (by assumption) dX6_write_200 ?_
    refine ti_lconst1 hx hb dX6_write_203 ?_
    refine tm_callv (cs_X6_61 hx hb hml hown htw hK hW (by assumption) (c_X0_setWhole (by assumption)) ⟨rfl, rfl, Nat.le_of_ble_eq_true rfl, Nat.le_of_ble_eq_true rfl⟩ hl.1 (Nat.le_of_ble_eq_true rfl) dX6_write_204 ⟨Nat.le_of_ble_eq_true rfl, Nat.le_of_ble_eq_true rfl⟩) hS (fun M204 H locs hp204 hW hS => ?_)
    rw [hp204] at hW
    refine lv_aload_n hx hb dX6_write_207 rfl (lv_at hl 4 rfl) ?_
    refine gf_X6_43 hx hb htw hown hK hW (by assumption) (by assumption) dX6_write_208 ?_
    refine gf_X6_46 hx hb htw hown hK hW (by assumption) (by assumption) dX6_write_211 ?_
    refine lv_aload hx hb dX6_write_214 (lv_at hl 0 rfl) ?_
    refine gf_X6_46 hx hb htw hown hK hW (by assumption) (by assumption) dX6_write_216 ?_
    refine lv_aload_n hx hb dX6_write_219 rfl (lv_at hl 1 rfl) ?_
    refine gf_X6_27 hx hb htw hown hK hW (by assumption) (by assumption) dX6_write_220 ?_
    refine tm_callv (cs_X6_75 hx hb hml hown htw hK hW (by assumption) (v_setDifference (f := (ln M o).2.1.2) (g := (ln M o).1.1) (by assumption) (by assumption) (by assumption) ((fr_n _ _ (by omega)).trans b4) ((fr_n _ _ (by omega)).trans b1) hD hA) ⟨rfl, rfl, Nat.le_of_ble_eq_true rfl, Nat.le_of_ble_eq_true rfl⟩ hl.1 (Nat.le_of_ble_eq_true rfl) dX6_write_223 ⟨Nat.le_of_ble_eq_true rfl, Nat.le_of_ble_eq_true rfl⟩) hS (fun M223 H locs hp223 hW hS => ?_)
    rw [hp223] at hW
    refine lv_goto (tgt := 229) hx hb dX6_write_226 (by decide) ?_
    exact tm_vret hx hb hr hlk hK hW hS (by subst h17; exact ⟨ln_ext ((fr_n _ _ (by omega)).trans (fr_s _ _ _)) (((fr_n _ _ (by omega)).trans (fr_n _ _ (by omega))).trans a2) (((fr_n _ _ (by omega)).trans (fr_n _ _ (by omega))).trans a3) (fr_s _ _ _) a5, fw_tr (fw_tr f0 (fw_fS _ (by omega) (by omega))) (fw_fS _ (by omega) (by omega))⟩) dX6_write_229
  · exact tm_vret hx hb hr hlk hK hW hS ⟨by rw [tl_slipv, if_neg (by omega), if_neg (by omega), if_neg (by omega), if_neg (by omega), if_neg (by omega), if_neg (by omega)]; exact e0, f0⟩ dX6_write_229
