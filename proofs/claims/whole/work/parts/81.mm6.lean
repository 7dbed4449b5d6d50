/-! TutorLinesModel: side, print, printed (by program: wip/whole/gen/mm6.py) -/
theorem dX9_side_0 : decode cX9_side 0 = .ok (.aload_n 0, 1) := by decide +kernel
theorem dX9_side_1 : decode cX9_side 1 = .ok (.iload_n 1, 1) := by decide +kernel
theorem dX9_side_2 : decode cX9_side 2 = .ok (.invokevirtual 169, 3) := by decide +kernel
theorem dX9_side_5 : decode cX9_side 5 = .ok (.lconst 0, 1) := by decide +kernel
theorem dX9_side_6 : decode cX9_side 6 = .ok (.lcmp, 1) := by decide +kernel
theorem dX9_side_7 : decode cX9_side 7 = .ok (.ifCond .eq 7, 3) := by decide +kernel
theorem dX9_side_10 : decode cX9_side 10 = .ok (.iconst 1, 1) := by decide +kernel
theorem dX9_side_11 : decode cX9_side 11 = .ok (.goto 4, 3) := by decide +kernel
theorem dX9_side_14 : decode cX9_side 14 = .ok (.iconst 0, 1) := by decide +kernel
theorem dX9_side_15 : decode cX9_side 15 = .ok (.istore_n 2, 1) := by decide +kernel
theorem dX9_side_16 : decode cX9_side 16 = .ok (.iload_n 2, 1) := by decide +kernel
theorem dX9_side_17 : decode cX9_side 17 = .ok (.ifCond .eq 115, 3) := by decide +kernel
theorem dX9_side_20 : decode cX9_side 20 = .ok (.aload_n 0, 1) := by decide +kernel
theorem dX9_side_21 : decode cX9_side 21 = .ok (.iload_n 1, 1) := by decide +kernel
theorem dX9_side_22 : decode cX9_side 22 = .ok (.invokevirtual 169, 3) := by decide +kernel
theorem dX9_side_25 : decode cX9_side 25 = .ok (.lconst 0, 1) := by decide +kernel
theorem dX9_side_26 : decode cX9_side 26 = .ok (.lcmp, 1) := by decide +kernel
theorem dX9_side_27 : decode cX9_side 27 = .ok (.ifCond .ge 9, 3) := by decide +kernel
theorem dX9_side_30 : decode cX9_side 30 = .ok (.aload_n 0, 1) := by decide +kernel
theorem dX9_side_31 : decode cX9_side 31 = .ok (.bipush 45, 2) := by decide +kernel
theorem dX9_side_33 : decode cX9_side 33 = .ok (.invokevirtual 243, 3) := by decide +kernel
theorem dX9_side_36 : decode cX9_side 36 = .ok (.aload_n 0, 1) := by decide +kernel
theorem dX9_side_37 : decode cX9_side 37 = .ok (.iload_n 1, 1) := by decide +kernel
theorem dX9_side_38 : decode cX9_side 38 = .ok (.invokevirtual 169, 3) := by decide +kernel
theorem dX9_side_41 : decode cX9_side 41 = .ok (.ldc2_w 226, 3) := by decide +kernel
theorem dX9_side_44 : decode cX9_side 44 = .ok (.lconst 1, 1) := by decide +kernel
theorem dX9_side_45 : decode cX9_side 45 = .ok (.invokestatic 67, 3) := by decide +kernel
theorem dX9_side_48 : decode cX9_side 48 = .ok (.ifCond .eq 13, 3) := by decide +kernel
theorem dX9_side_51 : decode cX9_side 51 = .ok (.aload_n 0, 1) := by decide +kernel
theorem dX9_side_52 : decode cX9_side 52 = .ok (.iload_n 1, 1) := by decide +kernel
theorem dX9_side_53 : decode cX9_side 53 = .ok (.invokevirtual 173, 3) := by decide +kernel
theorem dX9_side_56 : decode cX9_side 56 = .ok (.lconst 1, 1) := by decide +kernel
theorem dX9_side_57 : decode cX9_side 57 = .ok (.lcmp, 1) := by decide +kernel
theorem dX9_side_58 : decode cX9_side 58 = .ok (.ifCond .eq 17, 3) := by decide +kernel
theorem dX9_side_61 : decode cX9_side 61 = .ok (.aload_n 0, 1) := by decide +kernel
theorem dX9_side_62 : decode cX9_side 62 = .ok (.aload_n 0, 1) := by decide +kernel
theorem dX9_side_63 : decode cX9_side 63 = .ok (.iload_n 1, 1) := by decide +kernel
theorem dX9_side_64 : decode cX9_side 64 = .ok (.invokevirtual 169, 3) := by decide +kernel
theorem dX9_side_67 : decode cX9_side 67 = .ok (.aload_n 0, 1) := by decide +kernel
theorem dX9_side_68 : decode cX9_side 68 = .ok (.iload_n 1, 1) := by decide +kernel
theorem dX9_side_69 : decode cX9_side 69 = .ok (.invokevirtual 173, 3) := by decide +kernel
theorem dX9_side_72 : decode cX9_side 72 = .ok (.invokevirtual 250, 3) := by decide +kernel
theorem dX9_side_75 : decode cX9_side 75 = .ok (.aload_n 0, 1) := by decide +kernel
theorem dX9_side_76 : decode cX9_side 76 = .ok (.bipush 120, 2) := by decide +kernel
theorem dX9_side_78 : decode cX9_side 78 = .ok (.invokevirtual 243, 3) := by decide +kernel
theorem dX9_side_81 : decode cX9_side 81 = .ok (.aload_n 0, 1) := by decide +kernel
theorem dX9_side_82 : decode cX9_side 82 = .ok (.iload_n 1, 1) := by decide +kernel
theorem dX9_side_83 : decode cX9_side 83 = .ok (.iconst 1, 1) := by decide +kernel
theorem dX9_side_84 : decode cX9_side 84 = .ok (.iadd, 1) := by decide +kernel
theorem dX9_side_85 : decode cX9_side 85 = .ok (.invokevirtual 169, 3) := by decide +kernel
theorem dX9_side_88 : decode cX9_side 88 = .ok (.lconst 0, 1) := by decide +kernel
theorem dX9_side_89 : decode cX9_side 89 = .ok (.lcmp, 1) := by decide +kernel
theorem dX9_side_90 : decode cX9_side 90 = .ok (.ifCond .ne 4, 3) := by decide +kernel
theorem dX9_side_93 : decode cX9_side 93 = .ok (.return_, 1) := by decide +kernel
theorem dX9_side_94 : decode cX9_side 94 = .ok (.aload_n 0, 1) := by decide +kernel
theorem dX9_side_95 : decode cX9_side 95 = .ok (.bipush 32, 2) := by decide +kernel
theorem dX9_side_97 : decode cX9_side 97 = .ok (.invokevirtual 243, 3) := by decide +kernel
theorem dX9_side_100 : decode cX9_side 100 = .ok (.aload_n 0, 1) := by decide +kernel
theorem dX9_side_101 : decode cX9_side 101 = .ok (.aload_n 0, 1) := by decide +kernel
theorem dX9_side_102 : decode cX9_side 102 = .ok (.iload_n 1, 1) := by decide +kernel
theorem dX9_side_103 : decode cX9_side 103 = .ok (.iconst 1, 1) := by decide +kernel
theorem dX9_side_104 : decode cX9_side 104 = .ok (.iadd, 1) := by decide +kernel
theorem dX9_side_105 : decode cX9_side 105 = .ok (.invokevirtual 169, 3) := by decide +kernel
theorem dX9_side_108 : decode cX9_side 108 = .ok (.lconst 0, 1) := by decide +kernel
theorem dX9_side_109 : decode cX9_side 109 = .ok (.lcmp, 1) := by decide +kernel
theorem dX9_side_110 : decode cX9_side 110 = .ok (.ifCond .ge 8, 3) := by decide +kernel
theorem dX9_side_113 : decode cX9_side 113 = .ok (.bipush 45, 2) := by decide +kernel
theorem dX9_side_115 : decode cX9_side 115 = .ok (.goto 5, 3) := by decide +kernel
theorem dX9_side_118 : decode cX9_side 118 = .ok (.bipush 43, 2) := by decide +kernel
theorem dX9_side_120 : decode cX9_side 120 = .ok (.invokevirtual 243, 3) := by decide +kernel
theorem dX9_side_123 : decode cX9_side 123 = .ok (.aload_n 0, 1) := by decide +kernel
theorem dX9_side_124 : decode cX9_side 124 = .ok (.bipush 32, 2) := by decide +kernel
theorem dX9_side_126 : decode cX9_side 126 = .ok (.invokevirtual 243, 3) := by decide +kernel
theorem dX9_side_129 : decode cX9_side 129 = .ok (.goto 21, 3) := by decide +kernel
theorem dX9_side_132 : decode cX9_side 132 = .ok (.aload_n 0, 1) := by decide +kernel
theorem dX9_side_133 : decode cX9_side 133 = .ok (.iload_n 1, 1) := by decide +kernel
theorem dX9_side_134 : decode cX9_side 134 = .ok (.iconst 1, 1) := by decide +kernel
theorem dX9_side_135 : decode cX9_side 135 = .ok (.iadd, 1) := by decide +kernel
theorem dX9_side_136 : decode cX9_side 136 = .ok (.invokevirtual 169, 3) := by decide +kernel
theorem dX9_side_139 : decode cX9_side 139 = .ok (.lconst 0, 1) := by decide +kernel
theorem dX9_side_140 : decode cX9_side 140 = .ok (.lcmp, 1) := by decide +kernel
theorem dX9_side_141 : decode cX9_side 141 = .ok (.ifCond .ge 9, 3) := by decide +kernel
theorem dX9_side_144 : decode cX9_side 144 = .ok (.aload_n 0, 1) := by decide +kernel
theorem dX9_side_145 : decode cX9_side 145 = .ok (.bipush 45, 2) := by decide +kernel
theorem dX9_side_147 : decode cX9_side 147 = .ok (.invokevirtual 243, 3) := by decide +kernel
theorem dX9_side_150 : decode cX9_side 150 = .ok (.aload_n 0, 1) := by decide +kernel
theorem dX9_side_151 : decode cX9_side 151 = .ok (.aload_n 0, 1) := by decide +kernel
theorem dX9_side_152 : decode cX9_side 152 = .ok (.iload_n 1, 1) := by decide +kernel
theorem dX9_side_153 : decode cX9_side 153 = .ok (.iconst 1, 1) := by decide +kernel
theorem dX9_side_154 : decode cX9_side 154 = .ok (.iadd, 1) := by decide +kernel
theorem dX9_side_155 : decode cX9_side 155 = .ok (.invokevirtual 169, 3) := by decide +kernel
theorem dX9_side_158 : decode cX9_side 158 = .ok (.aload_n 0, 1) := by decide +kernel
theorem dX9_side_159 : decode cX9_side 159 = .ok (.iload_n 1, 1) := by decide +kernel
theorem dX9_side_160 : decode cX9_side 160 = .ok (.iconst 1, 1) := by decide +kernel
theorem dX9_side_161 : decode cX9_side 161 = .ok (.iadd, 1) := by decide +kernel
theorem dX9_side_162 : decode cX9_side 162 = .ok (.invokevirtual 173, 3) := by decide +kernel
theorem dX9_side_165 : decode cX9_side 165 = .ok (.invokevirtual 250, 3) := by decide +kernel
theorem dX9_side_168 : decode cX9_side 168 = .ok (.return_, 1) := by decide +kernel
theorem rf_O {M M1 : tm_M} {o i n : Nat} (f : fq (pO o) M M1) : rf M1 o i n = rf M o i n := by
  show (mL M1 (o + 2) _, mL M1 (o + 2) _) = _
  rw [(f.2 _ _ (by unfold pO; omega)).2, (f.2 _ _ (by unfold pO; omega)).2]
theorem moN_O {sh : tm_sh} {M M1 : tm_M} {o N : Nat} (h : moN sh M o N) (f : fq (pO o) M M1) : moN sh M1 o N := moN_m h f (by unfold pO; omega)
theorem tl_si0 {f g : tl_F} (h : f.1 = 0) : tl_sid (f, g) = tl_mns g.1 ++ tl_siz g := if_pos h
theorem tl_si1 {f g : tl_F} (h : ¬ f.1 = 0) : tl_sid (f, g) = tl_mns f.1 ++ (if (-1 ≤ f.1 ∧ f.1 ≤ 1) ∧ f.2 = 1 then [] else tl_siz f) ++ [120] ++ if g.1 = 0 then [] else [32, if g.1 < 0 then 45 else 43, 32] ++ tl_siz g := if_neg h
theorem tl_mn1 {v : Int} (h : v < 0) : tl_mns v = [45] := if_pos h
theorem tl_mn0 {v : Int} (h : 0 ≤ v) : tl_mns v = [] := if_neg (by omega)
set_option maxHeartbeats 4000000 in
set_option maxRecDepth 100000 in
/-- TutorLinesModel.side -/
theorem c_X9_side {l : Launch} {G : tm_G} {Hb : Heap} {sh : tm_sh} {M : tm_M} {o N n : Nat} {pr : List Int} (h : moN sh M o N) (hp : MO M o pr) (hn : n + 1 < 4) (hf : fok (rf M o (N - 1) n)) (hg : fok (rf M o (N - 1) (n + 1))) (hl1 : pr.length + 23 ≤ 128) : Met l yX9_side (tws yX9_side cX9_side 3 none) ({ frames := 3, cells := 0, slots := 0, locals := 68 }) (va_Pc [.ref o, ji (n : Nat)] (tm_St G Hb sh M)) (tm_Qv G Hb sh (fun M1 => MO M1 o (pr ++ tl_sid ((rf M o (N - 1) n), (rf M o (N - 1) (n + 1)))) ∧ fq (pO o) M M1)) 0 0 (tm_A Hb) := by
  refine tm_begin (by decide) (Nat.le_of_ble_eq_true rfl) (fun p e s m below meth c ls hx hb hr hml hown htw hlk hnm hK hW hl => ?_)
  have hS : va_S (tm_A Hb) s.heap s.heap [] := va_S.rf
  have hl : lv_has ls 3 [(0, .ref o), (1, ji (n : Nat))] := hl
  have b0 := h.1.1
  have fL := fLok_of hf
  have gL := fLok_of hg
  have sl := tl_siz_l (rf M o (N - 1) n)
  have ml := tl_mns_l (rf M o (N - 1) n).1
  have eN : ((n : Nat) : Int) + 1 = ((n + 1 : Nat) : Int) := rfl
  have k150 : ∀ (pr1 : List Int) (M1 : tm_M) (H : Heap) (locs : List Loc) (ls : Array Slot), MO M1 o pr1 → fq (pO o) M M1 → pr1.length + 9 ≤ 128 → pr1 ++ tl_siz (rf M o (N - 1) (n + 1)) = pr ++ tl_sid ((rf M o (N - 1) n), (rf M o (N - 1) (n + 1))) → tm_W G Hb sh M1 H → va_S (tm_A Hb) s.heap H locs → lv_has ls 3 [(0, .ref o), (1, ji (n : Nat))] → W p l e ({ frames := 3, cells := 0, slots := 0, locals := 68 }) s m [.ref o, ji (n : Nat)].toArray below meth c H locs 0 0 (MQ below (tm_Qv G Hb sh (fun M1 => MO M1 o (pr ++ tl_sid ((rf M o (N - 1) n), (rf M o (N - 1) (n + 1)))) ∧ fq (pO o) M M1)) [.ref o, ji (n : Nat)].toArray s 0 0 (tm_A Hb)) (F0 m 150 ls []) := by
    intro pr1 M1 H locs ls hp1 f1 hl2 he hW hS hl
    refine lv_aload_n hx hb dX9_side_150 rfl (lv_at hl 0 rfl) ?_
    refine lv_aload_n hx hb dX9_side_151 rfl (lv_at hl 0 rfl) ?_
    refine lv_iload_n hx hb dX9_side_152 rfl (lv_at hl 1 rfl) ?_
    refine ti_iconst hx hb dX9_side_153 ?_
    refine ti_iadd hx hb dX9_side_154 ?_
    rw [eN]
    refine tm_calll (cs_X9_169 hx hb hml hown htw hK hW (by assumption) (c_X9_above (n := n + 1) (moN_O h f1) (by omega)) ⟨rfl, rfl, Nat.le_of_ble_eq_true rfl, Nat.le_of_ble_eq_true rfl⟩ hl.1 (Nat.le_of_ble_eq_true rfl) dX9_side_155 ⟨Nat.le_of_ble_eq_true rfl, Nat.le_of_ble_eq_true rfl⟩) hS (fun x155 M155 H locs hp155 hW hS => ?_)
    obtain ⟨ex155, eM155⟩ := hp155
    rw [eM155] at hW
    rw [rf_O f1] at ex155
    rw [ex155]
    refine lv_aload_n hx hb dX9_side_158 rfl (lv_at hl 0 rfl) ?_
    refine lv_iload_n hx hb dX9_side_159 rfl (lv_at hl 1 rfl) ?_
    refine ti_iconst hx hb dX9_side_160 ?_
    refine ti_iadd hx hb dX9_side_161 ?_
    rw [eN]
    refine tm_calll (cs_X9_173 hx hb hml hown htw hK hW (by assumption) (c_X9_below (n := n + 1) (moN_O h f1) (by omega)) ⟨rfl, rfl, Nat.le_of_ble_eq_true rfl, Nat.le_of_ble_eq_true rfl⟩ hl.1 (Nat.le_of_ble_eq_true rfl) dX9_side_162 ⟨Nat.le_of_ble_eq_true rfl, Nat.le_of_ble_eq_true rfl⟩) hS (fun x162 M162 H locs hp162 hW hS => ?_)
    obtain ⟨ex162, eM162⟩ := hp162
    rw [eM162] at hW
    rw [rf_O f1] at ex162
    rw [ex162]
    refine tm_callv (cs_X9_250 hx hb hml hown htw hK hW (by assumption) (c_X9_size (isMo_m h.1 f1.1) hp1 hg hl2) ⟨rfl, rfl, Nat.le_of_ble_eq_true rfl, Nat.le_of_ble_eq_true rfl⟩ hl.1 (Nat.le_of_ble_eq_true rfl) dX9_side_165 ⟨Nat.le_of_ble_eq_true rfl, Nat.le_of_ble_eq_true rfl⟩) hS (fun M165 H locs hp165 hW hS => ?_)
    obtain ⟨P165, F165⟩ := hp165
    exact tm_vret hx hb hr hlk hK hW hS ⟨by rw [← he]; exact P165, fq_tr f1 F165⟩ dX9_side_168
  have k75 : ∀ (pr1 : List Int) (M1 : tm_M) (H : Heap) (locs : List Loc) (ls : Array Slot), ¬ (rf M o (N - 1) n).1 = 0 → MO M1 o pr1 → fq (pO o) M M1 → pr1.length ≤ pr.length + 10 → pr1 = pr ++ tl_mns (rf M o (N - 1) n).1 ++ (if (-1 ≤ (rf M o (N - 1) n).1 ∧ (rf M o (N - 1) n).1 ≤ 1) ∧ (rf M o (N - 1) n).2 = 1 then [] else tl_siz (rf M o (N - 1) n)) → tm_W G Hb sh M1 H → va_S (tm_A Hb) s.heap H locs → lv_has ls 3 [(0, .ref o), (1, ji (n : Nat))] → W p l e ({ frames := 3, cells := 0, slots := 0, locals := 68 }) s m [.ref o, ji (n : Nat)].toArray below meth c H locs 0 0 (MQ below (tm_Qv G Hb sh (fun M1 => MO M1 o (pr ++ tl_sid ((rf M o (N - 1) n), (rf M o (N - 1) (n + 1)))) ∧ fq (pO o) M M1)) [.ref o, ji (n : Nat)].toArray s 0 0 (tm_A Hb)) (F0 m 75 ls []) := by
    intro pr1 M1 H locs ls hnz hp1 f1 hl2 he hW hS hl
    refine lv_aload_n hx hb dX9_side_75 rfl (lv_at hl 0 rfl) ?_
    refine ti_bipush hx hb dX9_side_76 (by decide) ?_
    refine tm_callv (cs_X9_243 hx hb hml hown htw hK hW (by assumption) (c_X9_give (pr := pr1) (ch := 120) (isMo_m h.1 f1.1) hp1 (by omega)) ⟨rfl, rfl, Nat.le_of_ble_eq_true rfl, Nat.le_of_ble_eq_true rfl⟩ hl.1 (Nat.le_of_ble_eq_true rfl) dX9_side_78 ⟨Nat.le_of_ble_eq_true rfl, Nat.le_of_ble_eq_true rfl⟩) hS (fun M78 H locs hp78 hW hS => ?_)
    obtain ⟨P78, G78⟩ := hp78
    have F78 := fq_tr f1 G78
    refine lv_aload_n hx hb dX9_side_81 rfl (lv_at hl 0 rfl) ?_
    refine lv_iload_n hx hb dX9_side_82 rfl (lv_at hl 1 rfl) ?_
    refine ti_iconst hx hb dX9_side_83 ?_
    refine ti_iadd hx hb dX9_side_84 ?_
    rw [eN]
    refine tm_calll (cs_X9_169 hx hb hml hown htw hK hW (by assumption) (c_X9_above (n := n + 1) (moN_O h F78) (by omega)) ⟨rfl, rfl, Nat.le_of_ble_eq_true rfl, Nat.le_of_ble_eq_true rfl⟩ hl.1 (Nat.le_of_ble_eq_true rfl) dX9_side_85 ⟨Nat.le_of_ble_eq_true rfl, Nat.le_of_ble_eq_true rfl⟩) hS (fun x85 M85 H locs hp85 hW hS => ?_)
    obtain ⟨ex85, eM85⟩ := hp85
    rw [eM85] at hW
    rw [rf_O F78] at ex85
    rw [ex85]
    refine ti_lconst0 hx hb dX9_side_88 ?_
    refine ti_lcmp_ne (tgt := 94) hx hb dX9_side_89 dX9_side_90 (by decide) gL.1 (by decide) (fun h89 => ?_) (fun h89 => ?_)
    · refine lv_aload_n hx hb dX9_side_94 rfl (lv_at hl 0 rfl) ?_
      refine ti_bipush hx hb dX9_side_95 (by decide) ?_
      refine tm_callv (cs_X9_243 hx hb hml hown htw hK hW (by assumption) (c_X9_give (pr := pr1 ++ [120]) (ch := 32) (isMo_m h.1 F78.1) P78 (by first | omega | (simp only [List.length_append, List.length_cons, List.length_nil]; omega))) ⟨rfl, rfl, Nat.le_of_ble_eq_true rfl, Nat.le_of_ble_eq_true rfl⟩ hl.1 (Nat.le_of_ble_eq_true rfl) dX9_side_97 ⟨Nat.le_of_ble_eq_true rfl, Nat.le_of_ble_eq_true rfl⟩) hS (fun M97 H locs hp97 hW hS => ?_)
      obtain ⟨P97, G97⟩ := hp97
      have F97 := fq_tr F78 G97
      refine lv_aload_n hx hb dX9_side_100 rfl (lv_at hl 0 rfl) ?_
      refine lv_aload_n hx hb dX9_side_101 rfl (lv_at hl 0 rfl) ?_
      refine lv_iload_n hx hb dX9_side_102 rfl (lv_at hl 1 rfl) ?_
      refine ti_iconst hx hb dX9_side_103 ?_
      refine ti_iadd hx hb dX9_side_104 ?_
      rw [eN]
      refine tm_calll (cs_X9_169 hx hb hml hown htw hK hW (by assumption) (c_X9_above (n := n + 1) (moN_O h F97) (by omega)) ⟨rfl, rfl, Nat.le_of_ble_eq_true rfl, Nat.le_of_ble_eq_true rfl⟩ hl.1 (Nat.le_of_ble_eq_true rfl) dX9_side_105 ⟨Nat.le_of_ble_eq_true rfl, Nat.le_of_ble_eq_true rfl⟩) hS (fun x105 M105 H locs hp105 hW hS => ?_)
      obtain ⟨ex105, eM105⟩ := hp105
      rw [eM105] at hW
      rw [rf_O F97] at ex105
      rw [ex105]
      refine ti_lconst0 hx hb dX9_side_108 ?_
      refine ti_lcmp_ge (tgt := 118) hx hb dX9_side_109 dX9_side_110 (by decide) gL.1 (by decide) (fun h109 => ?_) (fun h109 => ?_)
      · refine ti_bipush hx hb dX9_side_118 (by decide) ?_
        refine tm_callv (cs_X9_243 hx hb hml hown htw hK hW (by assumption) (c_X9_give (pr := pr1 ++ [120] ++ [32]) (ch := 43) (isMo_m h.1 F97.1) P97 (by first | omega | (simp only [List.length_append, List.length_cons, List.length_nil]; omega))) ⟨rfl, rfl, Nat.le_of_ble_eq_true rfl, Nat.le_of_ble_eq_true rfl⟩ hl.1 (Nat.le_of_ble_eq_true rfl) dX9_side_120 ⟨Nat.le_of_ble_eq_true rfl, Nat.le_of_ble_eq_true rfl⟩) hS (fun M120 H locs hp120 hW hS => ?_)
        obtain ⟨P120, G120⟩ := hp120
        have F120 := fq_tr F97 G120
        refine lv_aload_n hx hb dX9_side_123 rfl (lv_at hl 0 rfl) ?_
        refine ti_bipush hx hb dX9_side_124 (by decide) ?_
        refine tm_callv (cs_X9_243 hx hb hml hown htw hK hW (by assumption) (c_X9_give (pr := pr1 ++ [120] ++ [32] ++ [43]) (ch := 32) (isMo_m h.1 F120.1) P120 (by first | omega | (simp only [List.length_append, List.length_cons, List.length_nil]; omega))) ⟨rfl, rfl, Nat.le_of_ble_eq_true rfl, Nat.le_of_ble_eq_true rfl⟩ hl.1 (Nat.le_of_ble_eq_true rfl) dX9_side_126 ⟨Nat.le_of_ble_eq_true rfl, Nat.le_of_ble_eq_true rfl⟩) hS (fun M126 H locs hp126 hW hS => ?_)
        obtain ⟨P126, G126⟩ := hp126
        have F126 := fq_tr F120 G126
        refine lv_goto (tgt := 150) hx hb dX9_side_129 (by decide) ?_
        exact k150 (pr1 ++ [120] ++ [32] ++ [43] ++ [32]) M126 _ _ _ P126 F126 (by first | omega | (simp only [List.length_append, List.length_cons, List.length_nil]; omega)) (by rw [tl_si1 hnz, he, if_neg h89, if_neg (show ¬ (rf M o (N - 1) (n + 1)).1 < 0 by omega)]; simp only [List.append_assoc, List.cons_append, List.nil_append]) hW hS (lv_sub hl [0, 1] rfl)
      · refine ti_bipush hx hb dX9_side_113 (by decide) ?_
        refine lv_goto (tgt := 120) hx hb dX9_side_115 (by decide) ?_
        refine tm_callv (cs_X9_243 hx hb hml hown htw hK hW (by assumption) (c_X9_give (pr := pr1 ++ [120] ++ [32]) (ch := 45) (isMo_m h.1 F97.1) P97 (by first | omega | (simp only [List.length_append, List.length_cons, List.length_nil]; omega))) ⟨rfl, rfl, Nat.le_of_ble_eq_true rfl, Nat.le_of_ble_eq_true rfl⟩ hl.1 (Nat.le_of_ble_eq_true rfl) dX9_side_120 ⟨Nat.le_of_ble_eq_true rfl, Nat.le_of_ble_eq_true rfl⟩) hS (fun M120 H locs hp120 hW hS => ?_)
        obtain ⟨P120, G120⟩ := hp120
        have F120 := fq_tr F97 G120
        refine lv_aload_n hx hb dX9_side_123 rfl (lv_at hl 0 rfl) ?_
        refine ti_bipush hx hb dX9_side_124 (by decide) ?_
        refine tm_callv (cs_X9_243 hx hb hml hown htw hK hW (by assumption) (c_X9_give (pr := pr1 ++ [120] ++ [32] ++ [45]) (ch := 32) (isMo_m h.1 F120.1) P120 (by first | omega | (simp only [List.length_append, List.length_cons, List.length_nil]; omega))) ⟨rfl, rfl, Nat.le_of_ble_eq_true rfl, Nat.le_of_ble_eq_true rfl⟩ hl.1 (Nat.le_of_ble_eq_true rfl) dX9_side_126 ⟨Nat.le_of_ble_eq_true rfl, Nat.le_of_ble_eq_true rfl⟩) hS (fun M126 H locs hp126 hW hS => ?_)
        obtain ⟨P126, G126⟩ := hp126
        have F126 := fq_tr F120 G126
        refine lv_goto (tgt := 150) hx hb dX9_side_129 (by decide) ?_
        exact k150 (pr1 ++ [120] ++ [32] ++ [45] ++ [32]) M126 _ _ _ P126 F126 (by first | omega | (simp only [List.length_append, List.length_cons, List.length_nil]; omega)) (by rw [tl_si1 hnz, he, if_neg h89, if_pos (show (rf M o (N - 1) (n + 1)).1 < 0 by omega)]; simp only [List.append_assoc, List.cons_append, List.nil_append]) hW hS (lv_sub hl [0, 1] rfl)
    · exact tm_vret hx hb hr hlk hK hW hS ⟨by rw [tl_si1 hnz, if_pos h89, List.append_nil]; rw [he] at P78; simp only [List.append_assoc] at P78 ⊢; exact P78, F78⟩ dX9_side_93
  have k36 : ∀ (pr1 : List Int) (M1 : tm_M) (H : Heap) (locs : List Loc) (ls : Array Slot), ¬ (rf M o (N - 1) n).1 = 0 → MO M1 o pr1 → fq (pO o) M M1 → pr1.length ≤ pr.length + 1 → pr1 = pr ++ tl_mns (rf M o (N - 1) n).1 → tm_W G Hb sh M1 H → va_S (tm_A Hb) s.heap H locs → lv_has ls 3 [(0, .ref o), (1, ji (n : Nat))] → W p l e ({ frames := 3, cells := 0, slots := 0, locals := 68 }) s m [.ref o, ji (n : Nat)].toArray below meth c H locs 0 0 (MQ below (tm_Qv G Hb sh (fun M1 => MO M1 o (pr ++ tl_sid ((rf M o (N - 1) n), (rf M o (N - 1) (n + 1)))) ∧ fq (pO o) M M1)) [.ref o, ji (n : Nat)].toArray s 0 0 (tm_A Hb)) (F0 m 36 ls []) := by
    intro pr1 M1 H locs ls hnz hp1 f1 hl2 he hW hS hl
    refine lv_aload_n hx hb dX9_side_36 rfl (lv_at hl 0 rfl) ?_
    refine lv_iload_n hx hb dX9_side_37 rfl (lv_at hl 1 rfl) ?_
    refine tm_calll (cs_X9_169 hx hb hml hown htw hK hW (by assumption) (c_X9_above (n := n) (moN_O h f1) (by omega)) ⟨rfl, rfl, Nat.le_of_ble_eq_true rfl, Nat.le_of_ble_eq_true rfl⟩ hl.1 (Nat.le_of_ble_eq_true rfl) dX9_side_38 ⟨Nat.le_of_ble_eq_true rfl, Nat.le_of_ble_eq_true rfl⟩) hS (fun x38 M38 H locs hp38 hW hS => ?_)
    obtain ⟨ex38, eM38⟩ := hp38
    rw [eM38] at hW
    rw [rf_O f1] at ex38
    rw [ex38]
    refine lv_ldc2 hx hb hown (htw _ cl_X9_226) dX9_side_41 ?_
    refine ti_lconst1 hx hb dX9_side_44 ?_
    refine tm_calli (cs_X9_67 hx hb hml hown htw hK hW (c_X9_in fL.1 (by decide) (by decide)) ⟨rfl, rfl, Nat.le_of_ble_eq_true rfl, Nat.le_of_ble_eq_true rfl⟩ hl.1 (Nat.le_of_ble_eq_true rfl) dX9_side_45 ⟨Nat.le_of_ble_eq_true rfl, Nat.le_of_ble_eq_true rfl⟩) hS (fun x45 M45 H locs hp45 hW hS => ?_)
    obtain ⟨ex45, eM45⟩ := hp45
    rw [eM45] at hW
    rw [ex45]
    refine ti_if_eq (tgt := 61) hx hb dX9_side_48 (by decide) (tl_b_r _) (fun h48 => ?_) (fun h48 => ?_)
    · refine lv_aload_n hx hb dX9_side_61 rfl (lv_at hl 0 rfl) ?_
      refine lv_aload_n hx hb dX9_side_62 rfl (lv_at hl 0 rfl) ?_
      refine lv_iload_n hx hb dX9_side_63 rfl (lv_at hl 1 rfl) ?_
      refine tm_calll (cs_X9_169 hx hb hml hown htw hK hW (by assumption) (c_X9_above (n := n) (moN_O h f1) (by omega)) ⟨rfl, rfl, Nat.le_of_ble_eq_true rfl, Nat.le_of_ble_eq_true rfl⟩ hl.1 (Nat.le_of_ble_eq_true rfl) dX9_side_64 ⟨Nat.le_of_ble_eq_true rfl, Nat.le_of_ble_eq_true rfl⟩) hS (fun x64 M64 H locs hp64 hW hS => ?_)
      obtain ⟨ex64, eM64⟩ := hp64
      rw [eM64] at hW
      rw [rf_O f1] at ex64
      rw [ex64]
      refine lv_aload_n hx hb dX9_side_67 rfl (lv_at hl 0 rfl) ?_
      refine lv_iload_n hx hb dX9_side_68 rfl (lv_at hl 1 rfl) ?_
      refine tm_calll (cs_X9_173 hx hb hml hown htw hK hW (by assumption) (c_X9_below (n := n) (moN_O h f1) (by omega)) ⟨rfl, rfl, Nat.le_of_ble_eq_true rfl, Nat.le_of_ble_eq_true rfl⟩ hl.1 (Nat.le_of_ble_eq_true rfl) dX9_side_69 ⟨Nat.le_of_ble_eq_true rfl, Nat.le_of_ble_eq_true rfl⟩) hS (fun x69 M69 H locs hp69 hW hS => ?_)
      obtain ⟨ex69, eM69⟩ := hp69
      rw [eM69] at hW
      rw [rf_O f1] at ex69
      rw [ex69]
      refine tm_callv (cs_X9_250 hx hb hml hown htw hK hW (by assumption) (c_X9_size (isMo_m h.1 f1.1) hp1 hf (by omega)) ⟨rfl, rfl, Nat.le_of_ble_eq_true rfl, Nat.le_of_ble_eq_true rfl⟩ hl.1 (Nat.le_of_ble_eq_true rfl) dX9_side_72 ⟨Nat.le_of_ble_eq_true rfl, Nat.le_of_ble_eq_true rfl⟩) hS (fun M72 H locs hp72 hW hS => ?_)
      obtain ⟨P72, F72⟩ := hp72
      exact k75 (pr1 ++ tl_siz (rf M o (N - 1) n)) M72 _ _ _ hnz P72 (fq_tr f1 F72) (by rw [List.length_append]; omega) (by rw [he, if_neg (fun q => tl_b_0.mp h48 q.1)]) hW hS (lv_sub hl [0, 1] rfl)
    · refine lv_aload_n hx hb dX9_side_51 rfl (lv_at hl 0 rfl) ?_
      refine lv_iload_n hx hb dX9_side_52 rfl (lv_at hl 1 rfl) ?_
      refine tm_calll (cs_X9_173 hx hb hml hown htw hK hW (by assumption) (c_X9_below (n := n) (moN_O h f1) (by omega)) ⟨rfl, rfl, Nat.le_of_ble_eq_true rfl, Nat.le_of_ble_eq_true rfl⟩ hl.1 (Nat.le_of_ble_eq_true rfl) dX9_side_53 ⟨Nat.le_of_ble_eq_true rfl, Nat.le_of_ble_eq_true rfl⟩) hS (fun x53 M53 H locs hp53 hW hS => ?_)
      obtain ⟨ex53, eM53⟩ := hp53
      rw [eM53] at hW
      rw [rf_O f1] at ex53
      rw [ex53]
      refine ti_lconst1 hx hb dX9_side_56 ?_
      refine ti_lcmp_eq (tgt := 75) hx hb dX9_side_57 dX9_side_58 (by decide) fL.2 (by decide) (fun h57 => ?_) (fun h57 => ?_)
      · exact k75 pr1 M1 _ _ _ hnz hp1 f1 (by omega) (by rw [he, if_pos ⟨tl_b_n.mp h48, h57⟩, List.append_nil]) hW hS (lv_sub hl [0, 1] rfl)
      · refine lv_aload_n hx hb dX9_side_61 rfl (lv_at hl 0 rfl) ?_
        refine lv_aload_n hx hb dX9_side_62 rfl (lv_at hl 0 rfl) ?_
        refine lv_iload_n hx hb dX9_side_63 rfl (lv_at hl 1 rfl) ?_
        refine tm_calll (cs_X9_169 hx hb hml hown htw hK hW (by assumption) (c_X9_above (n := n) (moN_O h f1) (by omega)) ⟨rfl, rfl, Nat.le_of_ble_eq_true rfl, Nat.le_of_ble_eq_true rfl⟩ hl.1 (Nat.le_of_ble_eq_true rfl) dX9_side_64 ⟨Nat.le_of_ble_eq_true rfl, Nat.le_of_ble_eq_true rfl⟩) hS (fun x64 M64 H locs hp64 hW hS => ?_)
        obtain ⟨ex64, eM64⟩ := hp64
        rw [eM64] at hW
        rw [rf_O f1] at ex64
        rw [ex64]
        refine lv_aload_n hx hb dX9_side_67 rfl (lv_at hl 0 rfl) ?_
        refine lv_iload_n hx hb dX9_side_68 rfl (lv_at hl 1 rfl) ?_
        refine tm_calll (cs_X9_173 hx hb hml hown htw hK hW (by assumption) (c_X9_below (n := n) (moN_O h f1) (by omega)) ⟨rfl, rfl, Nat.le_of_ble_eq_true rfl, Nat.le_of_ble_eq_true rfl⟩ hl.1 (Nat.le_of_ble_eq_true rfl) dX9_side_69 ⟨Nat.le_of_ble_eq_true rfl, Nat.le_of_ble_eq_true rfl⟩) hS (fun x69 M69 H locs hp69 hW hS => ?_)
        obtain ⟨ex69, eM69⟩ := hp69
        rw [eM69] at hW
        rw [rf_O f1] at ex69
        rw [ex69]
        refine tm_callv (cs_X9_250 hx hb hml hown htw hK hW (by assumption) (c_X9_size (isMo_m h.1 f1.1) hp1 hf (by omega)) ⟨rfl, rfl, Nat.le_of_ble_eq_true rfl, Nat.le_of_ble_eq_true rfl⟩ hl.1 (Nat.le_of_ble_eq_true rfl) dX9_side_72 ⟨Nat.le_of_ble_eq_true rfl, Nat.le_of_ble_eq_true rfl⟩) hS (fun M72 H locs hp72 hW hS => ?_)
        obtain ⟨P72, F72⟩ := hp72
        exact k75 (pr1 ++ tl_siz (rf M o (N - 1) n)) M72 _ _ _ hnz P72 (fq_tr f1 F72) (by rw [List.length_append]; omega) (by rw [he, if_neg (fun q => h57 q.2)]) hW hS (lv_sub hl [0, 1] rfl)
  refine lv_aload_n hx hb dX9_side_0 rfl (lv_at hl 0 rfl) ?_
  refine lv_iload_n hx hb dX9_side_1 rfl (lv_at hl 1 rfl) ?_
  refine tm_calll (cs_X9_169 hx hb hml hown htw hK hW (by assumption) (c_X9_above (n := n) h (by omega)) ⟨rfl, rfl, Nat.le_of_ble_eq_true rfl, Nat.le_of_ble_eq_true rfl⟩ hl.1 (Nat.le_of_ble_eq_true rfl) dX9_side_2 ⟨Nat.le_of_ble_eq_true rfl, Nat.le_of_ble_eq_true rfl⟩) hS (fun x2 M2 H locs hp2 hW hS => ?_)
  obtain ⟨ex2, eM2⟩ := hp2
  rw [eM2] at hW
  rw [ex2]
  refine ti_lconst0 hx hb dX9_side_5 ?_
  refine ti_lcmp_eq (tgt := 14) hx hb dX9_side_6 dX9_side_7 (by decide) fL.1 (by decide) (fun h6 => ?_) (fun h6 => ?_)
  · refine ti_iconst hx hb dX9_side_14 ?_
    refine lv_istore_n (lv' := [(2, _), (0, _), (1, _)]) hx hb dX9_side_15 rfl hl (by decide) rfl (fun ls hl => ?_)
    refine lv_iload_n hx hb dX9_side_16 rfl (lv_at hl 0 rfl) ?_
    refine ti_if_eq (tgt := 132) hx hb dX9_side_17 (by decide) (by decide) (fun h17 => ?_) (fun h17 => ?_)
    · refine lv_aload_n hx hb dX9_side_132 rfl (lv_at hl 1 rfl) ?_
      refine lv_iload_n hx hb dX9_side_133 rfl (lv_at hl 2 rfl) ?_
      refine ti_iconst hx hb dX9_side_134 ?_
      refine ti_iadd hx hb dX9_side_135 ?_
      rw [eN]
      refine tm_calll (cs_X9_169 hx hb hml hown htw hK hW (by assumption) (c_X9_above (n := n + 1) h (by omega)) ⟨rfl, rfl, Nat.le_of_ble_eq_true rfl, Nat.le_of_ble_eq_true rfl⟩ hl.1 (Nat.le_of_ble_eq_true rfl) dX9_side_136 ⟨Nat.le_of_ble_eq_true rfl, Nat.le_of_ble_eq_true rfl⟩) hS (fun x136 M136 H locs hp136 hW hS => ?_)
      obtain ⟨ex136, eM136⟩ := hp136
      rw [eM136] at hW
      rw [ex136]
      refine ti_lconst0 hx hb dX9_side_139 ?_
      refine ti_lcmp_ge (tgt := 150) hx hb dX9_side_140 dX9_side_141 (by decide) gL.1 (by decide) (fun h140 => ?_) (fun h140 => ?_)
      · exact k150 pr M _ _ _ hp fq_rf (by first | omega | (rw [List.length_append]; show pr.length + 1 + 9 ≤ 128; omega)) (by rw [tl_si0 h6, tl_mn0 (by omega)]; simp only [List.append_assoc, List.cons_append, List.nil_append]) hW hS (lv_sub hl [1, 2] rfl)
      · refine lv_aload_n hx hb dX9_side_144 rfl (lv_at hl 1 rfl) ?_
        refine ti_bipush hx hb dX9_side_145 (by decide) ?_
        refine tm_callv (cs_X9_243 hx hb hml hown htw hK hW (by assumption) (c_X9_give (pr := pr) (ch := 45) h.1 hp (by omega)) ⟨rfl, rfl, Nat.le_of_ble_eq_true rfl, Nat.le_of_ble_eq_true rfl⟩ hl.1 (Nat.le_of_ble_eq_true rfl) dX9_side_147 ⟨Nat.le_of_ble_eq_true rfl, Nat.le_of_ble_eq_true rfl⟩) hS (fun M147 H locs hp147 hW hS => ?_)
        obtain ⟨P147, F147⟩ := hp147
        exact k150 (pr ++ [45]) M147 _ _ _ P147 F147 (by first | omega | (rw [List.length_append]; show pr.length + 1 + 9 ≤ 128; omega)) (by rw [tl_si0 h6, tl_mn1 (by omega)]; simp only [List.append_assoc, List.cons_append, List.nil_append]) hW hS (lv_sub hl [1, 2] rfl)
    · exact absurd rfl h17
  · refine ti_iconst hx hb dX9_side_10 ?_
    refine lv_goto (tgt := 15) hx hb dX9_side_11 (by decide) ?_
    refine lv_istore_n (lv' := [(2, _), (0, _), (1, _)]) hx hb dX9_side_15 rfl hl (by decide) rfl (fun ls hl => ?_)
    refine lv_iload_n hx hb dX9_side_16 rfl (lv_at hl 0 rfl) ?_
    refine ti_if_eq (tgt := 132) hx hb dX9_side_17 (by decide) (by decide) (fun h17 => ?_) (fun h17 => ?_)
    · exact absurd h17 (by decide)
    · refine lv_aload_n hx hb dX9_side_20 rfl (lv_at hl 1 rfl) ?_
      refine lv_iload_n hx hb dX9_side_21 rfl (lv_at hl 2 rfl) ?_
      refine tm_calll (cs_X9_169 hx hb hml hown htw hK hW (by assumption) (c_X9_above (n := n) h (by omega)) ⟨rfl, rfl, Nat.le_of_ble_eq_true rfl, Nat.le_of_ble_eq_true rfl⟩ hl.1 (Nat.le_of_ble_eq_true rfl) dX9_side_22 ⟨Nat.le_of_ble_eq_true rfl, Nat.le_of_ble_eq_true rfl⟩) hS (fun x22 M22 H locs hp22 hW hS => ?_)
      obtain ⟨ex22, eM22⟩ := hp22
      rw [eM22] at hW
      rw [ex22]
      refine ti_lconst0 hx hb dX9_side_25 ?_
      refine ti_lcmp_ge (tgt := 36) hx hb dX9_side_26 dX9_side_27 (by decide) fL.1 (by decide) (fun h26 => ?_) (fun h26 => ?_)
      · exact k36 pr M _ _ _ h6 hp fq_rf (by omega) (by rw [tl_mn0 (by omega), List.append_nil]) hW hS (lv_sub hl [1, 2] rfl)
      · refine lv_aload_n hx hb dX9_side_30 rfl (lv_at hl 1 rfl) ?_
        refine ti_bipush hx hb dX9_side_31 (by decide) ?_
        refine tm_callv (cs_X9_243 hx hb hml hown htw hK hW (by assumption) (c_X9_give (pr := pr) (ch := 45) h.1 hp (by omega)) ⟨rfl, rfl, Nat.le_of_ble_eq_true rfl, Nat.le_of_ble_eq_true rfl⟩ hl.1 (Nat.le_of_ble_eq_true rfl) dX9_side_33 ⟨Nat.le_of_ble_eq_true rfl, Nat.le_of_ble_eq_true rfl⟩) hS (fun M33 H locs hp33 hW hS => ?_)
        obtain ⟨P33, F33⟩ := hp33
        exact k36 (pr ++ [45]) M33 _ _ _ h6 P33 F33 (by rw [List.length_append]; exact Nat.le_refl _) (by rw [tl_mn1 (by omega)]) hW hS (lv_sub hl [1, 2] rfl)
theorem tl_sid_l (v : tl_S) : (tl_sid v).length ≤ 23 := by
  have h1 := tl_siz_l v.1
  have h2 := tl_siz_l v.2
  have h3 := tl_mns_l v.1.1
  have h4 := tl_mns_l v.2.1
  unfold tl_sid
  repeat' split
  all_goals simp only [List.length_append, List.length_cons, List.length_nil]
  all_goals omega
theorem pO_X {o a k : Nat} (h : pO o a k) : ¬ mY o a k := by unfold pO at h; unfold mY; omega
theorem MLv_O {sh : tm_sh} {M M1 : tm_M} {o : Nat} {z : tl_Z} (h : MLv sh M o z) (f : fq (pO o) M M1) : MLv sh M1 o z := by
  obtain ⟨h1, h2, h3, h4, h5, h6, h7, h8, h9, h10⟩ := h
  exact ⟨isMo_m h1 f.1, fun j => (f.2 _ _ (by unfold pO; omega)).1.trans (h2 j), (f.2 _ _ (by unfold pO; omega)).1.trans h3, fun i hi => (fq_rl f (fun k hk => by unfold pO; omega)).trans (h4 i hi), (f.2 _ _ (by unfold pO; omega)).1.trans h5, fun q => ⟨(f.2 _ _ (by unfold pO; omega)).1.trans (h6 q).1, (fq_rl f (fun k hk => by unfold pO; omega)).trans (h6 q).2⟩, fun k k1 k2 => (f.2 _ _ (by unfold pO; omega)).1.trans (h7 k k1 k2), (f.2 _ _ (by unfold pO; omega)).1.trans h8, (f.2 _ _ (by unfold pO; omega)).1.trans h9, (f.2 _ _ (by unfold pO; omega)).1.trans h10⟩
/-- what print may change -/
def mZ (o : Nat) (a k : Nat) : Prop := o ≤ a ∧ a < o + 13
theorem pO_Z {o a k : Nat} (h : pO o a k) : mZ o a k := by unfold pO at h; unfold mZ; omega
theorem mX_Z {o a k : Nat} (h : mX o a k) : mZ o a k := by unfold mX at h; unfold mZ; omega
theorem tl_rc1 {r : Int} (h : ¬ r = 0) (h2 : ¬ r = 1) : tl_rch r = 62 := by unfold tl_rch; rw [if_neg h, if_neg h2]
theorem tl_rc2 {r : Int} (h : ¬ r = 0) (h2 : r = 1) : tl_rch r = 60 := by unfold tl_rch; rw [if_neg h, if_pos h2]
theorem tl_rc3 {r : Int} (h : r = 0) : tl_rch r = 61 := by unfold tl_rch; rw [if_pos h]
theorem dX9_print_0 : decode cX9_print 0 = .ok (.aload_n 0, 1) := by decide +kernel
theorem dX9_print_1 : decode cX9_print 1 = .ok (.invokevirtual 231, 3) := by decide +kernel
theorem dX9_print_4 : decode cX9_print 4 = .ok (.ifCond .ne 5, 3) := by decide +kernel
theorem dX9_print_7 : decode cX9_print 7 = .ok (.iconst 0, 1) := by decide +kernel
theorem dX9_print_8 : decode cX9_print 8 = .ok (.ireturn, 1) := by decide +kernel
theorem dX9_print_9 : decode cX9_print 9 = .ok (.aload_n 0, 1) := by decide +kernel
theorem dX9_print_10 : decode cX9_print 10 = .ok (.iconst 0, 1) := by decide +kernel
theorem dX9_print_11 : decode cX9_print 11 = .ok (.putfield 236, 3) := by decide +kernel
theorem dX9_print_14 : decode cX9_print 14 = .ok (.aload_n 0, 1) := by decide +kernel
theorem dX9_print_15 : decode cX9_print 15 = .ok (.iconst 0, 1) := by decide +kernel
theorem dX9_print_16 : decode cX9_print 16 = .ok (.invokevirtual 253, 3) := by decide +kernel
theorem dX9_print_19 : decode cX9_print 19 = .ok (.aload_n 0, 1) := by decide +kernel
theorem dX9_print_20 : decode cX9_print 20 = .ok (.bipush 32, 2) := by decide +kernel
theorem dX9_print_22 : decode cX9_print 22 = .ok (.invokevirtual 243, 3) := by decide +kernel
theorem dX9_print_25 : decode cX9_print 25 = .ok (.aload_n 0, 1) := by decide +kernel
theorem dX9_print_26 : decode cX9_print 26 = .ok (.getfield 13, 3) := by decide +kernel
theorem dX9_print_29 : decode cX9_print 29 = .ok (.bipush 9, 2) := by decide +kernel
theorem dX9_print_31 : decode cX9_print 31 = .ok (.aload_n 0, 1) := by decide +kernel
theorem dX9_print_32 : decode cX9_print 32 = .ok (.invokevirtual 166, 3) := by decide +kernel
theorem dX9_print_35 : decode cX9_print 35 = .ok (.imul, 1) := by decide +kernel
theorem dX9_print_36 : decode cX9_print 36 = .ok (.bipush 8, 2) := by decide +kernel
theorem dX9_print_38 : decode cX9_print 38 = .ok (.iadd, 1) := by decide +kernel
theorem dX9_print_39 : decode cX9_print 39 = .ok (.laload, 1) := by decide +kernel
theorem dX9_print_40 : decode cX9_print 40 = .ok (.lstore_n 1, 1) := by decide +kernel
theorem dX9_print_41 : decode cX9_print 41 = .ok (.aload_n 0, 1) := by decide +kernel
theorem dX9_print_42 : decode cX9_print 42 = .ok (.lload_n 1, 1) := by decide +kernel
theorem dX9_print_43 : decode cX9_print 43 = .ok (.lconst 0, 1) := by decide +kernel
theorem dX9_print_44 : decode cX9_print 44 = .ok (.lcmp, 1) := by decide +kernel
theorem dX9_print_45 : decode cX9_print 45 = .ok (.ifCond .ne 8, 3) := by decide +kernel
theorem dX9_print_48 : decode cX9_print 48 = .ok (.bipush 61, 2) := by decide +kernel
theorem dX9_print_50 : decode cX9_print 50 = .ok (.goto 16, 3) := by decide +kernel
theorem dX9_print_53 : decode cX9_print 53 = .ok (.lload_n 1, 1) := by decide +kernel
theorem dX9_print_54 : decode cX9_print 54 = .ok (.lconst 1, 1) := by decide +kernel
theorem dX9_print_55 : decode cX9_print 55 = .ok (.lcmp, 1) := by decide +kernel
theorem dX9_print_56 : decode cX9_print 56 = .ok (.ifCond .ne 8, 3) := by decide +kernel
theorem dX9_print_59 : decode cX9_print 59 = .ok (.bipush 60, 2) := by decide +kernel
theorem dX9_print_61 : decode cX9_print 61 = .ok (.goto 5, 3) := by decide +kernel
theorem dX9_print_64 : decode cX9_print 64 = .ok (.bipush 62, 2) := by decide +kernel
theorem dX9_print_66 : decode cX9_print 66 = .ok (.invokevirtual 243, 3) := by decide +kernel
theorem dX9_print_69 : decode cX9_print 69 = .ok (.aload_n 0, 1) := by decide +kernel
theorem dX9_print_70 : decode cX9_print 70 = .ok (.bipush 32, 2) := by decide +kernel
theorem dX9_print_72 : decode cX9_print 72 = .ok (.invokevirtual 243, 3) := by decide +kernel
theorem dX9_print_75 : decode cX9_print 75 = .ok (.aload_n 0, 1) := by decide +kernel
theorem dX9_print_76 : decode cX9_print 76 = .ok (.iconst 2, 1) := by decide +kernel
theorem dX9_print_77 : decode cX9_print 77 = .ok (.invokevirtual 253, 3) := by decide +kernel
theorem dX9_print_80 : decode cX9_print 80 = .ok (.aload_n 0, 1) := by decide +kernel
theorem dX9_print_81 : decode cX9_print 81 = .ok (.getfield 236, 3) := by decide +kernel
theorem dX9_print_84 : decode cX9_print 84 = .ok (.ireturn, 1) := by decide +kernel
set_option maxHeartbeats 4000000 in
set_option maxRecDepth 100000 in
/-- TutorLinesModel.print -/
theorem c_X9_print {l : Launch} {G : tm_G} {Hb : Heap} {sh : tm_sh} {M : tm_M} {o : Nat} {z : tl_Z} {pr : List Int} (hz : MLv sh M o z) (hI : ZI z) (hpr : MO M o pr) : Met l yX9_print (tws yX9_print cX9_print 3 (some .int)) ({ frames := 4, cells := 0, slots := 0, locals := 90 }) (va_Pc [.ref o] (tm_St G Hb sh M)) (tm_Qi G Hb sh (fun x M1 => mI M1 o 0 = tl_b (zn z = 0) ∧ MLv sh M1 o z ∧ (zn z = 0 → MO M1 o pr) ∧ (0 < zn z → x = (tl_prt (zl z (zn z - 1))).length ∧ MO M1 o (tl_prt (zl z (zn z - 1)))) ∧ fq (mZ o) M M1)) 0 0 (tm_A Hb) := by
  refine tm_begin (by decide) (Nat.le_of_ble_eq_true rfl) (fun p e s m below meth c ls hx hb hr hml hown htw hlk hnm hK hW hl => ?_)
  have hS : va_S (tm_A Hb) s.heap s.heap [] := va_S.rf
  have hl : lv_has ls 3 [(0, .ref o)] := hl
  have h40 := hI.2.1
  obtain ⟨b0, ⟨t1, t2, t6, t7, t9, t12, t13, t14, t15, t16, t17, t24⟩, ⟨u1, u2, u3, u4, u5, u6, u7, u8, u9, u10, u11, u12⟩⟩ := hz.1
  have e3 := hz.2.2.1
  refine lv_aload_n hx hb dX9_print_0 rfl (lv_at hl 0 rfl) ?_
  refine tm_calli (cs_X9_231 hx hb hml hown htw hK hW (by assumption) (c_X9_isTask b0 (by omega)) ⟨rfl, rfl, Nat.le_of_ble_eq_true rfl, Nat.le_of_ble_eq_true rfl⟩ hl.1 (Nat.le_of_ble_eq_true rfl) dX9_print_1 ⟨Nat.le_of_ble_eq_true rfl, Nat.le_of_ble_eq_true rfl⟩) hS (fun x1 M1 H locs hp1 hW hS => ?_)
  obtain ⟨ex1, eM1⟩ := hp1
  rw [eM1] at hW
  rw [ex1]
  refine ti_if_ne (tgt := 9) hx hb dX9_print_4 (by decide) (tl_b_r _) (fun h4 => ?_) (fun h4 => ?_)
  · refine lv_aload_n hx hb dX9_print_9 rfl (lv_at hl 0 rfl) ?_
    refine ti_iconst hx hb dX9_print_10 ?_
    refine pf_X9_236 hx hb htw hown hK hW (by assumption) hS dX9_print_11 (fun H locs hW hS => ?_)
    have hn0 : 0 < zn z := by have := tl_b_n.mp h4; omega
    have lo := (ZI_l hI hn0).1
    have V0 := MLv_m hz h40 (fq_c0 (o := o) (M := M) (v := tl_b (mI M o 3 = 0)))
    have f0 : fq (pO o) (sI M o 0 (tl_b (mI M o 3 = 0))) (sI (sI M o 0 (tl_b (mI M o 3 = 0))) o 8 0) := fq_sI (Or.inl ⟨rfl, rfl⟩)
    have P0 : MO (sI (sI M o 0 (tl_b (mI M o 3 = 0))) o 8 0) o [] := ⟨tm_up_s _ _ _ _, fun j hj => absurd hj (Nat.not_lt_zero j)⟩
    have c0 : mI (sI (sI M o 0 (tl_b (mI M o 3 = 0))) o 8 0) o 0 = tl_b (zn z = 0) := (tm_up_k _ _ (by decide)).trans ((tm_up_s _ _ _ _).trans (tl_bz hz))
    have Fz : fq (mZ o) M (sI (sI M o 0 (tl_b (mI M o 3 = 0))) o 8 0) := fq_tr (fq_wd fq_c0 (fun _ _ => mX_Z)) (fq_wd f0 (fun _ _ => pO_Z))
    have V1 := MLv_O V0 f0
    generalize (sI (sI M o 0 (tl_b (mI M o 3 = 0))) o 8 0) = A at hW P0 c0 Fz V1
    have N1 := MLv_N V1 h40 hn0
    have la := MLv_l V1 hn0
    have l0 : rf A o (zn z - 1) 0 = (zl z (zn z - 1)).1.1 := congrArg (fun q => q.1.1) la
    have l1 : rf A o (zn z - 1) 1 = (zl z (zn z - 1)).1.2 := congrArg (fun q => q.1.2) la
    have l2 : rf A o (zn z - 1) 2 = (zl z (zn z - 1)).2.1.1 := congrArg (fun q => q.2.1.1) la
    have l3 : rf A o (zn z - 1) 3 = (zl z (zn z - 1)).2.1.2 := congrArg (fun q => q.2.1.2) la
    have l4 : mL A (o + 2) (9 * (zn z - 1) + 8) = (zl z (zn z - 1)).2.2 := congrArg (fun q => q.2.2) la
    have s0 := tl_sid_l (zl z (zn z - 1)).1
    have s2 := tl_sid_l (zl z (zn z - 1)).2.1
    have rr := lo.2.2
    refine lv_aload_n hx hb dX9_print_14 rfl (lv_at hl 0 rfl) ?_
    refine ti_iconst hx hb dX9_print_15 ?_
    refine tm_callv (cs_X9_253 hx hb hml hown htw hK hW (by assumption) (c_X9_side (N := zn z) (n := 0) N1 P0 (by decide) (by rw [l0]; exact lo.1.1) (by rw [show 0 + 1 = 1 from rfl, l1]; exact lo.1.2) (by decide)) ⟨rfl, rfl, Nat.le_of_ble_eq_true rfl, Nat.le_of_ble_eq_true rfl⟩ hl.1 (Nat.le_of_ble_eq_true rfl) dX9_print_16 ⟨Nat.le_of_ble_eq_true rfl, Nat.le_of_ble_eq_true rfl⟩) hS (fun M16 H locs hp16 hW hS => ?_)
    obtain ⟨P16, F16⟩ := hp16
    rw [show rf A o (zn z - 1) (0 + 1) = (zl z (zn z - 1)).1.2 from l1, l0] at P16
    have P16 : MO M16 o (tl_sid (zl z (zn z - 1)).1) := P16
    have b2 : mR M16 o 2 = some (o + 2) := by rw [F16.1]; exact V1.1.2.1.2.1
    refine lv_aload_n hx hb dX9_print_19 rfl (lv_at hl 0 rfl) ?_
    refine ti_bipush hx hb dX9_print_20 (by decide) ?_
    refine tm_callv (cs_X9_243 hx hb hml hown htw hK hW (by assumption) (c_X9_give (pr := tl_sid (zl z (zn z - 1)).1) (ch := 32) (isMo_m V1.1 F16.1) P16 (by first | omega | (simp only [List.length_append, List.length_cons, List.length_nil]; omega))) ⟨rfl, rfl, Nat.le_of_ble_eq_true rfl, Nat.le_of_ble_eq_true rfl⟩ hl.1 (Nat.le_of_ble_eq_true rfl) dX9_print_22 ⟨Nat.le_of_ble_eq_true rfl, Nat.le_of_ble_eq_true rfl⟩) hS (fun M22 H locs hp22 hW hS => ?_)
    obtain ⟨P22, G22⟩ := hp22
    have F22 := fq_tr F16 G22
    have b22 : mR M22 o 2 = some (o + 2) := by rw [F22.1]; exact V1.1.2.1.2.1
    refine lv_aload_n hx hb dX9_print_25 rfl (lv_at hl 0 rfl) ?_
    refine gf_X9_13 hx hb htw hown hK hW b0 b22 dX9_print_26 ?_
    refine ti_bipush hx hb dX9_print_29 (by decide) ?_
    refine lv_aload_n hx hb dX9_print_31 rfl (lv_at hl 0 rfl) ?_
    refine tm_calli (cs_X9_166 hx hb hml hown htw hK hW (by assumption) (c_X9_last (moN_O N1 F22)) ⟨rfl, rfl, Nat.le_of_ble_eq_true rfl, Nat.le_of_ble_eq_true rfl⟩ hl.1 (Nat.le_of_ble_eq_true rfl) dX9_print_32 ⟨Nat.le_of_ble_eq_true rfl, Nat.le_of_ble_eq_true rfl⟩) hS (fun x32 M32 H locs hp32 hW hS => ?_)
    obtain ⟨ex32, eM32⟩ := hp32
    rw [eM32] at hW
    rw [ex32]
    refine ti_imul hx hb dX9_print_35 ?_
    refine ti_bipush hx hb dX9_print_36 (by decide) ?_
    refine ti_iadd hx hb dX9_print_38 ?_
    refine tm_lald hx hb hK hW (by assumption) (by omega) (by omega) (by decide) dX9_print_39 ?_
    have e40 : mL M22 (o + 2) (9 * ((zn z - 1 : Nat) : Int) + 8).toNat = (zl z (zn z - 1)).2.2 := by rw [show (9 * ((zn z - 1 : Nat) : Int) + 8).toNat = 9 * (zn z - 1) + 8 by omega]; exact (F22.2 _ _ (by unfold pO; omega)).2.trans l4
    rw [e40]
    refine lv_lstore_n (lv' := [(1, _), (0, _)]) hx hb dX9_print_40 rfl hl (by decide) rfl (fun ls hl => ?_)
    refine lv_aload_n hx hb dX9_print_41 rfl (lv_at hl 1 rfl) ?_
    refine lv_lload_n hx hb dX9_print_42 rfl (lv_at hl 0 rfl) ?_
    refine ti_lconst0 hx hb dX9_print_43 ?_
    refine ti_lcmp_ne (tgt := 53) hx hb dX9_print_44 dX9_print_45 (by decide) (by omega) (by decide) (fun h44 => ?_) (fun h44 => ?_)
    · refine lv_lload_n hx hb dX9_print_53 rfl (lv_at hl 0 rfl) ?_
      refine ti_lconst1 hx hb dX9_print_54 ?_
      refine ti_lcmp_ne (tgt := 64) hx hb dX9_print_55 dX9_print_56 (by decide) (by omega) (by decide) (fun h55 => ?_) (fun h55 => ?_)
      · refine ti_bipush hx hb dX9_print_64 (by decide) ?_
        refine tm_callv (cs_X9_243 hx hb hml hown htw hK hW (by assumption) (c_X9_give (pr := tl_sid (zl z (zn z - 1)).1 ++ [32]) (ch := 62) (isMo_m V1.1 F22.1) P22 (by first | omega | (simp only [List.length_append, List.length_cons, List.length_nil]; omega))) ⟨rfl, rfl, Nat.le_of_ble_eq_true rfl, Nat.le_of_ble_eq_true rfl⟩ hl.1 (Nat.le_of_ble_eq_true rfl) dX9_print_66 ⟨Nat.le_of_ble_eq_true rfl, Nat.le_of_ble_eq_true rfl⟩) hS (fun M66 H locs hp66 hW hS => ?_)
        obtain ⟨P66, G66⟩ := hp66
        have F66 := fq_tr F22 G66
        refine lv_aload_n hx hb dX9_print_69 rfl (lv_at hl 1 rfl) ?_
        refine ti_bipush hx hb dX9_print_70 (by decide) ?_
        refine tm_callv (cs_X9_243 hx hb hml hown htw hK hW (by assumption) (c_X9_give (pr := tl_sid (zl z (zn z - 1)).1 ++ [32] ++ [62]) (ch := 32) (isMo_m V1.1 F66.1) P66 (by first | omega | (simp only [List.length_append, List.length_cons, List.length_nil]; omega))) ⟨rfl, rfl, Nat.le_of_ble_eq_true rfl, Nat.le_of_ble_eq_true rfl⟩ hl.1 (Nat.le_of_ble_eq_true rfl) dX9_print_72 ⟨Nat.le_of_ble_eq_true rfl, Nat.le_of_ble_eq_true rfl⟩) hS (fun M72 H locs hp72 hW hS => ?_)
        obtain ⟨P72, G72⟩ := hp72
        have F72 := fq_tr F66 G72
        refine lv_aload_n hx hb dX9_print_75 rfl (lv_at hl 1 rfl) ?_
        refine ti_iconst hx hb dX9_print_76 ?_
        refine tm_callv (cs_X9_253 hx hb hml hown htw hK hW (by assumption) (c_X9_side (N := zn z) (n := 2) (moN_O N1 F72) P72 (by decide) (by rw [rf_O F72, l2]; exact lo.2.1.1) (by rw [show 2 + 1 = 3 from rfl, rf_O F72, l3]; exact lo.2.1.2) (by first | omega | (simp only [List.length_append, List.length_cons, List.length_nil]; omega))) ⟨rfl, rfl, Nat.le_of_ble_eq_true rfl, Nat.le_of_ble_eq_true rfl⟩ hl.1 (Nat.le_of_ble_eq_true rfl) dX9_print_77 ⟨Nat.le_of_ble_eq_true rfl, Nat.le_of_ble_eq_true rfl⟩) hS (fun M77 H locs hp77 hW hS => ?_)
        obtain ⟨P77, G77⟩ := hp77
        rw [show rf M72 o (zn z - 1) (2 + 1) = (zl z (zn z - 1)).2.1.2 from (rf_O F72).trans l3, rf_O F72, l2] at P77
        have F77 := fq_tr F72 G77
        have er : tl_rch (zl z (zn z - 1)).2.2 = 62 := tl_rc1 h44 h55
        have ep : tl_prt (zl z (zn z - 1)) = tl_sid (zl z (zn z - 1)).1 ++ [32] ++ [62] ++ [32] ++ tl_sid (zl z (zn z - 1)).2.1 := by unfold tl_prt; rw [er]; simp only [List.append_assoc, List.cons_append, List.nil_append]
        have P77 : MO M77 o (tl_prt (zl z (zn z - 1))) := by rw [ep]; exact P77
        refine lv_aload_n hx hb dX9_print_80 rfl (lv_at hl 1 rfl) ?_
        refine gf_X9_236 hx hb htw hown hK hW (by assumption) dX9_print_81 ?_
        exact tm_iret hx hb hr hlk hK hW hS ⟨(F77.2 _ _ (by unfold pO; omega)).1.trans c0, MLv_O V1 F77, fun q => absurd q (by omega), fun _ => ⟨P77.1, P77⟩, fq_tr Fz (fq_wd F77 (fun _ _ => pO_Z))⟩ dX9_print_84
      · refine ti_bipush hx hb dX9_print_59 (by decide) ?_
        refine lv_goto (tgt := 66) hx hb dX9_print_61 (by decide) ?_
        refine tm_callv (cs_X9_243 hx hb hml hown htw hK hW (by assumption) (c_X9_give (pr := tl_sid (zl z (zn z - 1)).1 ++ [32]) (ch := 60) (isMo_m V1.1 F22.1) P22 (by first | omega | (simp only [List.length_append, List.length_cons, List.length_nil]; omega))) ⟨rfl, rfl, Nat.le_of_ble_eq_true rfl, Nat.le_of_ble_eq_true rfl⟩ hl.1 (Nat.le_of_ble_eq_true rfl) dX9_print_66 ⟨Nat.le_of_ble_eq_true rfl, Nat.le_of_ble_eq_true rfl⟩) hS (fun M66 H locs hp66 hW hS => ?_)
        obtain ⟨P66, G66⟩ := hp66
        have F66 := fq_tr F22 G66
        refine lv_aload_n hx hb dX9_print_69 rfl (lv_at hl 1 rfl) ?_
        refine ti_bipush hx hb dX9_print_70 (by decide) ?_
        refine tm_callv (cs_X9_243 hx hb hml hown htw hK hW (by assumption) (c_X9_give (pr := tl_sid (zl z (zn z - 1)).1 ++ [32] ++ [60]) (ch := 32) (isMo_m V1.1 F66.1) P66 (by first | omega | (simp only [List.length_append, List.length_cons, List.length_nil]; omega))) ⟨rfl, rfl, Nat.le_of_ble_eq_true rfl, Nat.le_of_ble_eq_true rfl⟩ hl.1 (Nat.le_of_ble_eq_true rfl) dX9_print_72 ⟨Nat.le_of_ble_eq_true rfl, Nat.le_of_ble_eq_true rfl⟩) hS (fun M72 H locs hp72 hW hS => ?_)
        obtain ⟨P72, G72⟩ := hp72
        have F72 := fq_tr F66 G72
        refine lv_aload_n hx hb dX9_print_75 rfl (lv_at hl 1 rfl) ?_
        refine ti_iconst hx hb dX9_print_76 ?_
        refine tm_callv (cs_X9_253 hx hb hml hown htw hK hW (by assumption) (c_X9_side (N := zn z) (n := 2) (moN_O N1 F72) P72 (by decide) (by rw [rf_O F72, l2]; exact lo.2.1.1) (by rw [show 2 + 1 = 3 from rfl, rf_O F72, l3]; exact lo.2.1.2) (by first | omega | (simp only [List.length_append, List.length_cons, List.length_nil]; omega))) ⟨rfl, rfl, Nat.le_of_ble_eq_true rfl, Nat.le_of_ble_eq_true rfl⟩ hl.1 (Nat.le_of_ble_eq_true rfl) dX9_print_77 ⟨Nat.le_of_ble_eq_true rfl, Nat.le_of_ble_eq_true rfl⟩) hS (fun M77 H locs hp77 hW hS => ?_)
        obtain ⟨P77, G77⟩ := hp77
        rw [show rf M72 o (zn z - 1) (2 + 1) = (zl z (zn z - 1)).2.1.2 from (rf_O F72).trans l3, rf_O F72, l2] at P77
        have F77 := fq_tr F72 G77
        have er : tl_rch (zl z (zn z - 1)).2.2 = 60 := tl_rc2 h44 h55
        have ep : tl_prt (zl z (zn z - 1)) = tl_sid (zl z (zn z - 1)).1 ++ [32] ++ [60] ++ [32] ++ tl_sid (zl z (zn z - 1)).2.1 := by unfold tl_prt; rw [er]; simp only [List.append_assoc, List.cons_append, List.nil_append]
        have P77 : MO M77 o (tl_prt (zl z (zn z - 1))) := by rw [ep]; exact P77
        refine lv_aload_n hx hb dX9_print_80 rfl (lv_at hl 1 rfl) ?_
        refine gf_X9_236 hx hb htw hown hK hW (by assumption) dX9_print_81 ?_
        exact tm_iret hx hb hr hlk hK hW hS ⟨(F77.2 _ _ (by unfold pO; omega)).1.trans c0, MLv_O V1 F77, fun q => absurd q (by omega), fun _ => ⟨P77.1, P77⟩, fq_tr Fz (fq_wd F77 (fun _ _ => pO_Z))⟩ dX9_print_84
    · refine ti_bipush hx hb dX9_print_48 (by decide) ?_
      refine lv_goto (tgt := 66) hx hb dX9_print_50 (by decide) ?_
      refine tm_callv (cs_X9_243 hx hb hml hown htw hK hW (by assumption) (c_X9_give (pr := tl_sid (zl z (zn z - 1)).1 ++ [32]) (ch := 61) (isMo_m V1.1 F22.1) P22 (by first | omega | (simp only [List.length_append, List.length_cons, List.length_nil]; omega))) ⟨rfl, rfl, Nat.le_of_ble_eq_true rfl, Nat.le_of_ble_eq_true rfl⟩ hl.1 (Nat.le_of_ble_eq_true rfl) dX9_print_66 ⟨Nat.le_of_ble_eq_true rfl, Nat.le_of_ble_eq_true rfl⟩) hS (fun M66 H locs hp66 hW hS => ?_)
      obtain ⟨P66, G66⟩ := hp66
      have F66 := fq_tr F22 G66
      refine lv_aload_n hx hb dX9_print_69 rfl (lv_at hl 1 rfl) ?_
      refine ti_bipush hx hb dX9_print_70 (by decide) ?_
      refine tm_callv (cs_X9_243 hx hb hml hown htw hK hW (by assumption) (c_X9_give (pr := tl_sid (zl z (zn z - 1)).1 ++ [32] ++ [61]) (ch := 32) (isMo_m V1.1 F66.1) P66 (by first | omega | (simp only [List.length_append, List.length_cons, List.length_nil]; omega))) ⟨rfl, rfl, Nat.le_of_ble_eq_true rfl, Nat.le_of_ble_eq_true rfl⟩ hl.1 (Nat.le_of_ble_eq_true rfl) dX9_print_72 ⟨Nat.le_of_ble_eq_true rfl, Nat.le_of_ble_eq_true rfl⟩) hS (fun M72 H locs hp72 hW hS => ?_)
      obtain ⟨P72, G72⟩ := hp72
      have F72 := fq_tr F66 G72
      refine lv_aload_n hx hb dX9_print_75 rfl (lv_at hl 1 rfl) ?_
      refine ti_iconst hx hb dX9_print_76 ?_
      refine tm_callv (cs_X9_253 hx hb hml hown htw hK hW (by assumption) (c_X9_side (N := zn z) (n := 2) (moN_O N1 F72) P72 (by decide) (by rw [rf_O F72, l2]; exact lo.2.1.1) (by rw [show 2 + 1 = 3 from rfl, rf_O F72, l3]; exact lo.2.1.2) (by first | omega | (simp only [List.length_append, List.length_cons, List.length_nil]; omega))) ⟨rfl, rfl, Nat.le_of_ble_eq_true rfl, Nat.le_of_ble_eq_true rfl⟩ hl.1 (Nat.le_of_ble_eq_true rfl) dX9_print_77 ⟨Nat.le_of_ble_eq_true rfl, Nat.le_of_ble_eq_true rfl⟩) hS (fun M77 H locs hp77 hW hS => ?_)
      obtain ⟨P77, G77⟩ := hp77
      rw [show rf M72 o (zn z - 1) (2 + 1) = (zl z (zn z - 1)).2.1.2 from (rf_O F72).trans l3, rf_O F72, l2] at P77
      have F77 := fq_tr F72 G77
      have er : tl_rch (zl z (zn z - 1)).2.2 = 61 := tl_rc3 h44
      have ep : tl_prt (zl z (zn z - 1)) = tl_sid (zl z (zn z - 1)).1 ++ [32] ++ [61] ++ [32] ++ tl_sid (zl z (zn z - 1)).2.1 := by unfold tl_prt; rw [er]; simp only [List.append_assoc, List.cons_append, List.nil_append]
      have P77 : MO M77 o (tl_prt (zl z (zn z - 1))) := by rw [ep]; exact P77
      refine lv_aload_n hx hb dX9_print_80 rfl (lv_at hl 1 rfl) ?_
      refine gf_X9_236 hx hb htw hown hK hW (by assumption) dX9_print_81 ?_
      exact tm_iret hx hb hr hlk hK hW hS ⟨(F77.2 _ _ (by unfold pO; omega)).1.trans c0, MLv_O V1 F77, fun q => absurd q (by omega), fun _ => ⟨P77.1, P77⟩, fq_tr Fz (fq_wd F77 (fun _ _ => pO_Z))⟩ dX9_print_84
  · refine ti_iconst hx hb dX9_print_7 ?_
    exact tm_iret hx hb hr hlk hK hW hS ⟨(tm_up_s _ _ _ _).trans (tl_bz hz), MLv_m hz h40 fq_c0, fun _ => MO_m hpr fq_c0 (fun a k q q2 => pO_X q2 (mX_Y q)), fun q => absurd (tl_b_0.mp h4) (fun z => z (by omega)), fq_wd fq_c0 (fun _ _ => mX_Z)⟩ dX9_print_8
/-- a letter of what was printed, or none -/
def tl_pr (pr : List Int) (i : Int) : Int := if 0 ≤ i ∧ i < pr.length then pr.getD i.toNat 0 else -1
theorem dX9_printed_0 : decode cX9_printed 0 = .ok (.aload_n 0, 1) := by decide +kernel
theorem dX9_printed_1 : decode cX9_printed 1 = .ok (.iconst 0, 1) := by decide +kernel
theorem dX9_printed_2 : decode cX9_printed 2 = .ok (.putfield 48, 3) := by decide +kernel
theorem dX9_printed_5 : decode cX9_printed 5 = .ok (.iload_n 1, 1) := by decide +kernel
theorem dX9_printed_6 : decode cX9_printed 6 = .ok (.i2l, 1) := by decide +kernel
theorem dX9_printed_7 : decode cX9_printed 7 = .ok (.lconst 0, 1) := by decide +kernel
theorem dX9_printed_8 : decode cX9_printed 8 = .ok (.aload_n 0, 1) := by decide +kernel
theorem dX9_printed_9 : decode cX9_printed 9 = .ok (.getfield 236, 3) := by decide +kernel
theorem dX9_printed_12 : decode cX9_printed 12 = .ok (.iconst 1, 1) := by decide +kernel
theorem dX9_printed_13 : decode cX9_printed 13 = .ok (.isub, 1) := by decide +kernel
theorem dX9_printed_14 : decode cX9_printed 14 = .ok (.i2l, 1) := by decide +kernel
theorem dX9_printed_15 : decode cX9_printed 15 = .ok (.invokestatic 67, 3) := by decide +kernel
theorem dX9_printed_18 : decode cX9_printed 18 = .ok (.ifCond .eq 12, 3) := by decide +kernel
theorem dX9_printed_21 : decode cX9_printed 21 = .ok (.aload_n 0, 1) := by decide +kernel
theorem dX9_printed_22 : decode cX9_printed 22 = .ok (.getfield 23, 3) := by decide +kernel
theorem dX9_printed_25 : decode cX9_printed 25 = .ok (.iload_n 1, 1) := by decide +kernel
theorem dX9_printed_26 : decode cX9_printed 26 = .ok (.iaload, 1) := by decide +kernel
theorem dX9_printed_27 : decode cX9_printed 27 = .ok (.goto 4, 3) := by decide +kernel
theorem dX9_printed_30 : decode cX9_printed 30 = .ok (.iconst (-1), 1) := by decide +kernel
theorem dX9_printed_31 : decode cX9_printed 31 = .ok (.ireturn, 1) := by decide +kernel
set_option maxHeartbeats 4000000 in
set_option maxRecDepth 100000 in
/-- TutorLinesModel.printed -/
theorem c_X9_printed {l : Launch} {G : tm_G} {Hb : Heap} {sh : tm_sh} {M : tm_M} {o : Nat} {z : tl_Z} {pr : List Int} (hz : MLv sh M o z) (hI : ZI z) (hpr : MO M o pr) {i : Int} (hi : inI i) (hpl : pr.length ≤ 128) : Met l yX9_printed (tws yX9_printed cX9_printed 2 (some .int)) ({ frames := 1, cells := 0, slots := 0, locals := 25 }) (va_Pc [.ref o, ji i] (tm_St G Hb sh M)) (tm_Qi G Hb sh (fun x M1 => x = tl_pr pr i ∧ MLp sh o M z M1)) 0 0 (tm_A Hb) := by
  refine tm_begin (by decide) (Nat.le_of_ble_eq_true rfl) (fun p e s m below meth c ls hx hb hr hml hown htw hlk hnm hK hW hl => ?_)
  have hS : va_S (tm_A Hb) s.heap s.heap [] := va_S.rf
  have hl : lv_has ls 2 [(0, .ref o), (1, ji i)] := hl
  have h40 := hI.2.1
  obtain ⟨b0, ⟨t1, t2, t6, t7, t9, t12, t13, t14, t15, t16, t17, t24⟩, ⟨u1, u2, u3, u4, u5, u6, u7, u8, u9, u10, u11, u12⟩⟩ := hz.1
  have e3 := hz.2.2.1
  refine lv_aload_n hx hb dX9_printed_0 rfl (lv_at hl 0 rfl) ?_
  refine ti_iconst hx hb dX9_printed_1 ?_
  refine pf_X9_48 hx hb htw hown hK hW (by assumption) hS dX9_printed_2 (fun H locs hW hS => ?_)
  refine lv_iload_n hx hb dX9_printed_5 rfl (lv_at hl 1 rfl) ?_
  refine ti_i2l hx hb dX9_printed_6 hi ?_
  refine ti_lconst0 hx hb dX9_printed_7 ?_
  refine lv_aload_n hx hb dX9_printed_8 rfl (lv_at hl 0 rfl) ?_
  refine gf_X9_236 hx hb htw hown hK hW (by assumption) dX9_printed_9 ?_
  rw [show mI (sI M o 0 0) o 8 = pr.length from (tm_up_k _ _ (by decide)).trans hpr.1]
  refine ti_iconst hx hb dX9_printed_12 ?_
  refine ti_isub hx hb dX9_printed_13 ?_
  refine ti_i2l hx hb dX9_printed_14 (by omega) ?_
  refine tm_calli (cs_X9_67 hx hb hml hown htw hK hW (c_X9_in (by omega) (by decide) (by omega)) ⟨rfl, rfl, Nat.le_of_ble_eq_true rfl, Nat.le_of_ble_eq_true rfl⟩ hl.1 (Nat.le_of_ble_eq_true rfl) dX9_printed_15 ⟨Nat.le_of_ble_eq_true rfl, Nat.le_of_ble_eq_true rfl⟩) hS (fun x15 M15 H locs hp15 hW hS => ?_)
  obtain ⟨ex15, eM15⟩ := hp15
  rw [eM15] at hW
  rw [ex15]
  refine ti_if_eq (tgt := 30) hx hb dX9_printed_18 (by decide) (tl_b_r _) (fun h18 => ?_) (fun h18 => ?_)
  · refine ti_iconst hx hb dX9_printed_30 ?_
    exact tm_iret hx hb hr hlk hK hW hS ⟨by unfold tl_pr; rw [if_neg (by have := tl_b_0.mp h18; omega)], MLp_m hz h40 fq_c0⟩ dX9_printed_31
  · refine lv_aload_n hx hb dX9_printed_21 rfl (lv_at hl 0 rfl) ?_
    refine gf_X9_23 hx hb htw hown hK hW (by assumption) (by assumption) dX9_printed_22 ?_
    refine lv_iload_n hx hb dX9_printed_25 rfl (lv_at hl 1 rfl) ?_
    refine tm_iald hx hb hK hW (by assumption) (by have := tl_b_n.mp h18; omega) (by have := tl_b_n.mp h18; omega) (by decide) dX9_printed_26 ?_
    refine lv_goto (tgt := 31) hx hb dX9_printed_27 (by decide) ?_
    exact tm_iret hx hb hr hlk hK hW hS ⟨by unfold tl_pr; rw [if_pos (by have := tl_b_n.mp h18; omega)]; exact (tm_up_a _ _ (by omega)).trans (hpr.2 _ (by have := tl_b_n.mp h18; omega)), MLp_m hz h40 fq_c0⟩ dX9_printed_31
