/-! TutorLinesModel: explained; here, digits, open (by program: wip/whole/gen/mo6.py) -/
theorem c_X9_slips {l : Launch} {G : tm_G} {Hb : Heap} {sh : tm_sh} {M : tm_M} {o N : Nat} {v : tl_L} {n : Int} (hn : 1 ≤ n ∧ n ≤ 6) (h : moN sh M o N) (hr0 : rl M o (N - 1) = v) (hv : lok v) (hg : lg v) (hw : lok (rl M o 41)) : Met l yX9_slips (tws yX9_slips cX9_slips 5 (some .boolean)) ({ frames := 5, cells := 0, slots := 0, locals := 130 }) (va_Pc [.ref o, ji n] (tm_St G Hb sh M)) (tm_Qi G Hb sh (fun r M1 => r = tl_b (¬ tl_poss n v = 0 ∧ tl_slipv n v = rl M o 41) ∧ fq (mP o) M M1)) 0 0 (tm_A Hb) := by
  have e : n = 1 ∨ n = 2 ∨ n = 3 ∨ n = 4 ∨ n = 5 ∨ n = 6 := by omega
  rcases e with rfl | rfl | rfl | rfl | rfl | rfl
  · exact c_X9_slips1 h hr0 hv hg hw
  · exact c_X9_slips2 h hr0 hv hg hw
  · exact c_X9_slips3 h hr0 hv hg hw
  · exact c_X9_slips4 h hr0 hv hg hw
  · exact c_X9_slips5 h hr0 hv hg hw
  · exact c_X9_slips6 h hr0 hv hg hw
theorem dX9_explained_0 : decode cX9_explained 0 = .ok (.iconst 1, 1) := by decide +kernel
theorem dX9_explained_1 : decode cX9_explained 1 = .ok (.istore_n 1, 1) := by decide +kernel
theorem dX9_explained_2 : decode cX9_explained 2 = .ok (.iload_n 1, 1) := by decide +kernel
theorem dX9_explained_3 : decode cX9_explained 3 = .ok (.bipush 7, 2) := by decide +kernel
theorem dX9_explained_5 : decode cX9_explained 5 = .ok (.if_icmp .ge 19, 3) := by decide +kernel
theorem dX9_explained_8 : decode cX9_explained 8 = .ok (.aload_n 0, 1) := by decide +kernel
theorem dX9_explained_9 : decode cX9_explained 9 = .ok (.iload_n 1, 1) := by decide +kernel
theorem dX9_explained_10 : decode cX9_explained 10 = .ok (.invokevirtual 200, 3) := by decide +kernel
theorem dX9_explained_13 : decode cX9_explained 13 = .ok (.ifCond .eq 5, 3) := by decide +kernel
theorem dX9_explained_16 : decode cX9_explained 16 = .ok (.iload_n 1, 1) := by decide +kernel
theorem dX9_explained_17 : decode cX9_explained 17 = .ok (.ireturn, 1) := by decide +kernel
theorem dX9_explained_18 : decode cX9_explained 18 = .ok (.iinc 1 1, 3) := by decide +kernel
theorem dX9_explained_21 : decode cX9_explained 21 = .ok (.goto (-19), 3) := by decide +kernel
theorem dX9_explained_24 : decode cX9_explained 24 = .ok (.iconst 0, 1) := by decide +kernel
theorem dX9_explained_25 : decode cX9_explained 25 = .ok (.ireturn, 1) := by decide +kernel
set_option maxHeartbeats 4000000 in
set_option maxRecDepth 100000 in
/-- TutorLinesModel.explained -/
theorem c_X9_explained {l : Launch} {G : tm_G} {Hb : Heap} {sh : tm_sh} {M : tm_M} {o N : Nat} {v : tl_L} (h : moN sh M o N) (hr0 : rl M o (N - 1) = v) (hv : lok v) (hg : lg v) (hw : lok (rl M o 41)) : Met l yX9_explained (tws yX9_explained cX9_explained 2 (some .int)) ({ frames := 6, cells := 0, slots := 0, locals := 154 }) (va_Pc [.ref o] (tm_St G Hb sh M)) (tm_Qi G Hb sh (fun r M1 => r = tl_exp v (rl M o 41) 6 1 ∧ fq (mP o) M M1)) 0 0 (tm_A Hb) := by
  refine tm_begin (by decide) (Nat.le_of_ble_eq_true rfl) (fun p e s m below meth c ls hx hb hr hml hown htw hlk hnm hK hW hl => ?_)
  have hS : va_S (tm_A Hb) s.heap s.heap [] := va_S.rf
  have hl : lv_has ls 2 [(0, .ref o)] := hl
  have hN := h.2.2
  have b0 := h.1.1
  have loop : ∀ (k : Nat) (n : Int) (M1 : tm_M) (H : Heap) (locs : List Loc) (ls : Array Slot), n + k = 7 → 1 ≤ n → tl_exp v (rl M o 41) k n = tl_exp v (rl M o 41) 6 1 → fq (mP o) M M1 → tm_W G Hb sh M1 H → va_S (tm_A Hb) s.heap H locs → lv_has ls 2 [(0, .ref o), (1, ji n)] → W p l e ({ frames := 6, cells := 0, slots := 0, locals := 154 }) s m [.ref o].toArray below meth c H locs 0 0 (MQ below (tm_Qi G Hb sh (fun r M1 => r = tl_exp v (rl M o 41) 6 1 ∧ fq (mP o) M M1)) [.ref o].toArray s 0 0 (tm_A Hb)) (F0 m 2 ls []) := by
    intro k
    induction k with
    | zero =>
      intro n M1 H locs ls hk hn he hf hW hS hl
      refine lv_iload_n hx hb dX9_explained_2 rfl (lv_at hl 1 rfl) ?_
      refine ti_bipush hx hb dX9_explained_3 (by decide) ?_
      refine ti_icmp_ge (tgt := 24) hx hb dX9_explained_5 (by decide) (by omega) (by omega) (fun h5 => ?_) (fun h5 => ?_)
      · refine ti_iconst hx hb dX9_explained_24 ?_
        exact tm_iret hx hb hr hlk hK hW hS ⟨he, hf⟩ dX9_explained_25
      · exact absurd (show (7 : Int) ≤ n by omega) h5
    | succ k ih =>
      intro n M1 H locs ls hk hn he hf hW hS hl
      have hM := moN_m h hf (by unfold mP; omega)
      have l1 : rl M1 o (N - 1) = v := (fq_rl hf (fun k hk => by unfold mP; omega)).trans hr0
      have w1 : rl M1 o 41 = rl M o 41 := fq_rl hf (fun k hk => by unfold mP; omega)
      refine lv_iload_n hx hb dX9_explained_2 rfl (lv_at hl 1 rfl) ?_
      refine ti_bipush hx hb dX9_explained_3 (by decide) ?_
      refine ti_icmp_ge (tgt := 24) hx hb dX9_explained_5 (by decide) (by omega) (by omega) (fun h5 => ?_) (fun h5 => ?_)
      · exact absurd h5 (by omega)
      · refine lv_aload_n hx hb dX9_explained_8 rfl (lv_at hl 0 rfl) ?_
        refine lv_iload_n hx hb dX9_explained_9 rfl (lv_at hl 1 rfl) ?_
        refine tm_calli (cs_X9_200 hx hb hml hown htw hK hW (by assumption) (c_X9_slips (by omega) hM l1 hv hg (by rw [w1]; exact hw)) ⟨rfl, rfl, Nat.le_of_ble_eq_true rfl, Nat.le_of_ble_eq_true rfl⟩ hl.1 (Nat.le_of_ble_eq_true rfl) dX9_explained_10 ⟨Nat.le_of_ble_eq_true rfl, Nat.le_of_ble_eq_true rfl⟩) hS (fun x10 M10 H locs hp10 hW hS => ?_)
        obtain ⟨ex10, f10⟩ := hp10
        rw [w1] at ex10
        rw [ex10]
        refine ti_if_eq (tgt := 18) hx hb dX9_explained_13 (by decide) (tl_b_r _) (fun h13 => ?_) (fun h13 => ?_)
        · refine ti_iinc (k := 1) (lv' := [(1, _), (0, _)]) hx hb dX9_explained_18 hl rfl (by decide) rfl (fun ls hl => ?_)
          refine lv_goto (tgt := 2) hx hb dX9_explained_21 (by decide) ?_
          exact ih (n + 1) M10 _ _ _ (by omega) (by omega) (by rw [← he, tl_exp, if_neg (tl_b_0.mp h13)]) (fq_tr hf f10) hW hS (lv_sub hl [1, 0] rfl)
        · refine lv_iload_n hx hb dX9_explained_16 rfl (lv_at hl 1 rfl) ?_
          exact tm_iret hx hb hr hlk hK hW hS ⟨by rw [← he, tl_exp, if_pos (tl_b_n.mp h13)], fq_tr hf f10⟩ dX9_explained_17
  refine ti_iconst hx hb dX9_explained_0 ?_
  refine lv_istore_n (lv' := [(1, _), (0, _)]) hx hb dX9_explained_1 rfl hl (by decide) rfl (fun ls hl => ?_)
  exact loop 6 1 M _ _ _ rfl (by decide) rfl fq_rf hW hS (lv_sub hl [1, 0] rfl)
/-- the model reads the bytes t, n of them, from p on -/
def MS (sh : tm_sh) (M : tm_M) (o : Nat) (t : Nat → Int) (n p : Nat) : Prop := isMo sh M o ∧ (∀ j, mI M (o + 1) j = t j ∧ 0 ≤ t j ∧ t j < 256) ∧ mI M o 20 = n ∧ n ≤ 80 ∧ mI M o 19 = p ∧ p ≤ n
theorem MS_t {sh : tm_sh} {M : tm_M} {o : Nat} {t : Nat → Int} {n p : Nat} (h : MS sh M o t n p) (j : Nat) : 0 ≤ t j ∧ t j < 256 := (h.2.1 j).2
theorem MS_m {sh : tm_sh} {M M1 : tm_M} {o : Nat} {t : Nat → Int} {n p p1 : Nat} {P : Nat → Nat → Prop} (h : MS sh M o t n p) (f : fq P M M1) (g1 : ∀ j, ¬ P (o + 1) j) (g2 : ¬ P o 20) (hp : mI M1 o 19 = p1) (hl : p1 ≤ n) : MS sh M1 o t n p1 := ⟨isMo_m h.1 f.1, fun j => ⟨(f.2 _ _ (g1 j)).1.trans (h.2.1 j).1, (h.2.1 j).2⟩, (f.2 _ _ g2).1.trans h.2.2.1, h.2.2.2.1, hp, hl⟩
def p19 (o : Nat) (a k : Nat) : Prop := a = o ∧ k = 19
theorem dX9_here_0 : decode cX9_here 0 = .ok (.aload_n 0, 1) := by decide +kernel
theorem dX9_here_1 : decode cX9_here 1 = .ok (.getfield 76, 3) := by decide +kernel
theorem dX9_here_4 : decode cX9_here 4 = .ok (.aload_n 0, 1) := by decide +kernel
theorem dX9_here_5 : decode cX9_here 5 = .ok (.getfield 79, 3) := by decide +kernel
theorem dX9_here_8 : decode cX9_here 8 = .ok (.if_icmp .ge 30, 3) := by decide +kernel
theorem dX9_here_11 : decode cX9_here 11 = .ok (.aload_n 0, 1) := by decide +kernel
theorem dX9_here_12 : decode cX9_here 12 = .ok (.getfield 7, 3) := by decide +kernel
theorem dX9_here_15 : decode cX9_here 15 = .ok (.aload_n 0, 1) := by decide +kernel
theorem dX9_here_16 : decode cX9_here 16 = .ok (.getfield 76, 3) := by decide +kernel
theorem dX9_here_19 : decode cX9_here 19 = .ok (.iaload, 1) := by decide +kernel
theorem dX9_here_20 : decode cX9_here 20 = .ok (.bipush 32, 2) := by decide +kernel
theorem dX9_here_22 : decode cX9_here 22 = .ok (.if_icmp .ne 16, 3) := by decide +kernel
theorem dX9_here_25 : decode cX9_here 25 = .ok (.aload_n 0, 1) := by decide +kernel
theorem dX9_here_26 : decode cX9_here 26 = .ok (.dup, 1) := by decide +kernel
theorem dX9_here_27 : decode cX9_here 27 = .ok (.getfield 76, 3) := by decide +kernel
theorem dX9_here_30 : decode cX9_here 30 = .ok (.iconst 1, 1) := by decide +kernel
theorem dX9_here_31 : decode cX9_here 31 = .ok (.iadd, 1) := by decide +kernel
theorem dX9_here_32 : decode cX9_here 32 = .ok (.putfield 76, 3) := by decide +kernel
theorem dX9_here_35 : decode cX9_here 35 = .ok (.goto (-35), 3) := by decide +kernel
theorem dX9_here_38 : decode cX9_here 38 = .ok (.aload_n 0, 1) := by decide +kernel
theorem dX9_here_39 : decode cX9_here 39 = .ok (.getfield 76, 3) := by decide +kernel
theorem dX9_here_42 : decode cX9_here 42 = .ok (.aload_n 0, 1) := by decide +kernel
theorem dX9_here_43 : decode cX9_here 43 = .ok (.getfield 79, 3) := by decide +kernel
theorem dX9_here_46 : decode cX9_here 46 = .ok (.if_icmp .ge 15, 3) := by decide +kernel
theorem dX9_here_49 : decode cX9_here 49 = .ok (.aload_n 0, 1) := by decide +kernel
theorem dX9_here_50 : decode cX9_here 50 = .ok (.getfield 7, 3) := by decide +kernel
theorem dX9_here_53 : decode cX9_here 53 = .ok (.aload_n 0, 1) := by decide +kernel
theorem dX9_here_54 : decode cX9_here 54 = .ok (.getfield 76, 3) := by decide +kernel
theorem dX9_here_57 : decode cX9_here 57 = .ok (.iaload, 1) := by decide +kernel
theorem dX9_here_58 : decode cX9_here 58 = .ok (.goto 4, 3) := by decide +kernel
theorem dX9_here_61 : decode cX9_here 61 = .ok (.iconst (-1), 1) := by decide +kernel
theorem dX9_here_62 : decode cX9_here 62 = .ok (.ireturn, 1) := by decide +kernel
set_option maxHeartbeats 4000000 in
set_option maxRecDepth 100000 in
/-- TutorLinesModel.here -/
theorem c_X9_here {l : Launch} {G : tm_G} {Hb : Heap} {sh : tm_sh} {M : tm_M} {o n p1 : Nat} {t : Nat → Int} (hR : MS sh M o t n p1) : Met l yX9_here (tws yX9_here cX9_here 1 (some .int)) ({ frames := 0, cells := 0, slots := 0, locals := 0 }) (va_Pc [.ref o] (tm_St G Hb sh M)) (tm_Qi G Hb sh (fun r M1 => r = tp_ch t n (tp_nx t n p1) ∧ mI M1 o 19 = tp_nx t n p1 ∧ fq (p19 o) M M1)) 0 0 (tm_A Hb) := by
  refine tm_begin (by decide) (Nat.le_of_ble_eq_true rfl) (fun p e s m below meth c ls hx hb hr hml hown htw hlk hnm hK hW hl => ?_)
  have hS : va_S (tm_A Hb) s.heap s.heap [] := va_S.rf
  have hl : lv_has ls 1 [(0, .ref o)] := hl
  have loop : ∀ (k p2 : Nat) (M1 : tm_M) (H : Heap) (locs : List Loc) (ls : Array Slot), n - p2 = k → tp_nx t n p2 = tp_nx t n p1 → MS sh M1 o t n p2 → fq (p19 o) M M1 → tm_W G Hb sh M1 H → va_S (tm_A Hb) s.heap H locs → lv_has ls 1 [(0, .ref o)] → W p l e ({ frames := 0, cells := 0, slots := 0, locals := 0 }) s m [.ref o].toArray below meth c H locs 0 0 (MQ below (tm_Qi G Hb sh (fun r M1 => r = tp_ch t n (tp_nx t n p1) ∧ mI M1 o 19 = tp_nx t n p1 ∧ fq (p19 o) M M1)) [.ref o].toArray s 0 0 (tm_A Hb)) (F0 m 0 ls []) := by
    intro k
    induction k with
    | zero =>
      intro p2 M1 H locs ls hk hx2 hR hn hW hS hl
      obtain ⟨hM, ht, hL1, hL2, hP1, hP2⟩ := hR
      obtain ⟨b0, ⟨t1, t2, t6, t7, t9, t12, t13, t14, t15, t16, t17, t24⟩, ⟨u1, u2, u3, u4, u5, u6, u7, u8, u9, u10, u11, u12⟩⟩ := hM
      have en : tp_nx t n p2 = p2 := tp_nx_end (by omega)
      refine lv_aload_n hx hb dX9_here_0 rfl (lv_at hl 0 rfl) ?_
      refine gf_X9_76 hx hb htw hown hK hW (by assumption) dX9_here_1 ?_
      refine lv_aload_n hx hb dX9_here_4 rfl (lv_at hl 0 rfl) ?_
      refine gf_X9_79 hx hb htw hown hK hW (by assumption) dX9_here_5 ?_
      refine ti_icmp_ge (tgt := 38) hx hb dX9_here_8 (by decide) (by omega) (by omega) (fun h8 => ?_) (fun h8 => ?_)
      · refine lv_aload_n hx hb dX9_here_38 rfl (lv_at hl 0 rfl) ?_
        refine gf_X9_76 hx hb htw hown hK hW (by assumption) dX9_here_39 ?_
        refine lv_aload_n hx hb dX9_here_42 rfl (lv_at hl 0 rfl) ?_
        refine gf_X9_79 hx hb htw hown hK hW (by assumption) dX9_here_43 ?_
        refine ti_icmp_ge (tgt := 61) hx hb dX9_here_46 (by decide) (by omega) (by omega) (fun h46 => ?_) (fun h46 => ?_)
        · refine ti_iconst hx hb dX9_here_61 ?_
          exact tm_iret hx hb hr hlk hK hW hS ⟨by rw [← hx2, en, tp_ch, if_neg (by omega)], by rw [← hx2, en]; exact hP1, hn⟩ dX9_here_62
        · exact absurd h46 (by omega)
      · exact absurd h8 (by omega)
    | succ k ih =>
      intro p2 M1 H locs ls hk hx2 hR hn hW hS hl
      have hR0 := hR
      obtain ⟨hM, ht, hL1, hL2, hP1, hP2⟩ := hR
      obtain ⟨b0, ⟨t1, t2, t6, t7, t9, t12, t13, t14, t15, t16, t17, t24⟩, ⟨u1, u2, u3, u4, u5, u6, u7, u8, u9, u10, u11, u12⟩⟩ := hM
      have h3 := ht p2
      have eI : mI M1 (o + 1) (mI M1 o 19).toNat = t p2 := by rw [hP1]; exact h3.1
      refine lv_aload_n hx hb dX9_here_0 rfl (lv_at hl 0 rfl) ?_
      refine gf_X9_76 hx hb htw hown hK hW (by assumption) dX9_here_1 ?_
      refine lv_aload_n hx hb dX9_here_4 rfl (lv_at hl 0 rfl) ?_
      refine gf_X9_79 hx hb htw hown hK hW (by assumption) dX9_here_5 ?_
      refine ti_icmp_ge (tgt := 38) hx hb dX9_here_8 (by decide) (by omega) (by omega) (fun h8 => ?_) (fun h8 => ?_)
      · exact absurd h8 (by omega)
      · refine lv_aload_n hx hb dX9_here_11 rfl (lv_at hl 0 rfl) ?_
        refine gf_X9_7 hx hb htw hown hK hW (by assumption) (by assumption) dX9_here_12 ?_
        refine lv_aload_n hx hb dX9_here_15 rfl (lv_at hl 0 rfl) ?_
        refine gf_X9_76 hx hb htw hown hK hW (by assumption) dX9_here_16 ?_
        refine tm_iald hx hb hK hW (by assumption) (by omega) (by omega) (by decide) dX9_here_19 ?_
        refine ti_bipush hx hb dX9_here_20 (by decide) ?_
        refine ti_icmp_ne (tgt := 38) hx hb dX9_here_22 (by decide) (by rw [eI]; omega) (by decide) (fun h22 => ?_) (fun h22 => ?_)
        · rw [eI] at h22
          have en : tp_nx t n p2 = p2 := tp_nx_end (by omega)
          refine lv_aload_n hx hb dX9_here_38 rfl (lv_at hl 0 rfl) ?_
          refine gf_X9_76 hx hb htw hown hK hW (by assumption) dX9_here_39 ?_
          refine lv_aload_n hx hb dX9_here_42 rfl (lv_at hl 0 rfl) ?_
          refine gf_X9_79 hx hb htw hown hK hW (by assumption) dX9_here_43 ?_
          refine ti_icmp_ge (tgt := 61) hx hb dX9_here_46 (by decide) (by omega) (by omega) (fun h46 => ?_) (fun h46 => ?_)
          · exact absurd h46 (by omega)
          · refine lv_aload_n hx hb dX9_here_49 rfl (lv_at hl 0 rfl) ?_
            refine gf_X9_7 hx hb htw hown hK hW (by assumption) (by assumption) dX9_here_50 ?_
            refine lv_aload_n hx hb dX9_here_53 rfl (lv_at hl 0 rfl) ?_
            refine gf_X9_76 hx hb htw hown hK hW (by assumption) dX9_here_54 ?_
            refine tm_iald hx hb hK hW (by assumption) (by omega) (by omega) (by decide) dX9_here_57 ?_
            refine lv_goto (tgt := 62) hx hb dX9_here_58 (by decide) ?_
            exact tm_iret hx hb hr hlk hK hW hS ⟨by rw [← hx2, en, tp_ch, if_pos (by omega), eI], by rw [← hx2, en]; exact hP1, hn⟩ dX9_here_62
        · rw [eI] at h22
          refine lv_aload_n hx hb dX9_here_25 rfl (lv_at hl 0 rfl) ?_
          refine lv_dup hx hb dX9_here_26 rfl ?_
          refine gf_X9_76 hx hb htw hown hK hW (by assumption) dX9_here_27 ?_
          refine ti_iconst hx hb dX9_here_30 ?_
          refine ti_iadd hx hb dX9_here_31 ?_
          refine pf_X9_76 hx hb htw hown hK hW (by assumption) hS dX9_here_32 (fun H locs hW hS => ?_)
          refine lv_goto (tgt := 0) hx hb dX9_here_35 (by decide) ?_
          exact ih (p2 + 1) _ _ _ _ (by omega) (by rw [← hx2]; exact (tp_nx_go (by omega) (by omega)).symm) (MS_m (P := p19 o) hR0 (fq_sI ⟨rfl, rfl⟩) (fun j => by unfold p19; omega) (by unfold p19; omega) (by rw [show mI (sI M1 o 19 (mI M1 o 19 + 1)) o 19 = mI M1 o 19 + 1 from tm_up_s _ _ _ _, hP1]; rfl) (by omega)) (fq_tr hn (fq_sI ⟨rfl, rfl⟩)) hW hS (lv_sub hl [0] rfl)
  exact loop (n - p1) p1 M _ _ _ rfl rfl hR fq_rf hW hS hl
theorem dX9_open_0 : decode cX9_open 0 = .ok (.aload_n 0, 1) := by decide +kernel
theorem dX9_open_1 : decode cX9_open 1 = .ok (.getfield 32, 3) := by decide +kernel
theorem dX9_open_4 : decode cX9_open 4 = .ok (.iload_n 1, 1) := by decide +kernel
theorem dX9_open_5 : decode cX9_open 5 = .ok (.iconst 0, 1) := by decide +kernel
theorem dX9_open_6 : decode cX9_open 6 = .ok (.bastore, 1) := by decide +kernel
theorem dX9_open_7 : decode cX9_open 7 = .ok (.aload_n 0, 1) := by decide +kernel
theorem dX9_open_8 : decode cX9_open 8 = .ok (.getfield 36, 3) := by decide +kernel
theorem dX9_open_11 : decode cX9_open 11 = .ok (.iload_n 1, 1) := by decide +kernel
theorem dX9_open_12 : decode cX9_open 12 = .ok (.bipush 43, 2) := by decide +kernel
theorem dX9_open_14 : decode cX9_open 14 = .ok (.iastore, 1) := by decide +kernel
theorem dX9_open_15 : decode cX9_open 15 = .ok (.aload_n 0, 1) := by decide +kernel
theorem dX9_open_16 : decode cX9_open 16 = .ok (.getfield 42, 3) := by decide +kernel
theorem dX9_open_19 : decode cX9_open 19 = .ok (.iload_n 1, 1) := by decide +kernel
theorem dX9_open_20 : decode cX9_open 20 = .ok (.iconst (-1), 1) := by decide +kernel
theorem dX9_open_21 : decode cX9_open 21 = .ok (.iastore, 1) := by decide +kernel
theorem dX9_open_22 : decode cX9_open 22 = .ok (.return_, 1) := by decide +kernel
set_option maxHeartbeats 4000000 in
set_option maxRecDepth 100000 in
/-- TutorLinesModel.open -/
theorem c_X9_open {l : Launch} {G : tm_G} {Hb : Heap} {sh : tm_sh} {M : tm_M} {o : Nat} {x : Nat} (h : isMo sh M o) (hx1 : x < 9) : Met l yX9_open (tws yX9_open cX9_open 2 none) ({ frames := 0, cells := 0, slots := 0, locals := 0 }) (va_Pc [.ref o, ji (x : Nat)] (tm_St G Hb sh M)) (tm_Qv G Hb sh (fun M1 => M1 = sI (sI (sI M (o + 8) x 0) (o + 9) x 43) (o + 11) x (-1))) 0 0 (tm_A Hb) := by
  refine tm_begin (by decide) (Nat.le_of_ble_eq_true rfl) (fun p e s m below meth c ls hx hb hr hml hown htw hlk hnm hK hW hl => ?_)
  have hS : va_S (tm_A Hb) s.heap s.heap [] := va_S.rf
  have hl : lv_has ls 2 [(0, .ref o), (1, ji (x : Nat))] := hl
  obtain ⟨b0, ⟨t1, t2, t6, t7, t9, t12, t13, t14, t15, t16, t17, t24⟩, ⟨u1, u2, u3, u4, u5, u6, u7, u8, u9, u10, u11, u12⟩⟩ := h
  refine lv_aload_n hx hb dX9_open_0 rfl (lv_at hl 0 rfl) ?_
  refine gf_X9_32 hx hb htw hown hK hW (by assumption) (by assumption) dX9_open_1 ?_
  refine lv_iload_n hx hb dX9_open_4 rfl (lv_at hl 1 rfl) ?_
  refine ti_iconst hx hb dX9_open_5 ?_
  refine tm_zast hx hb hK hW hS (by assumption) (by omega) (by omega) (by decide) (Or.inl rfl) dX9_open_6 (fun H locs hW hS => ?_)
  refine lv_aload_n hx hb dX9_open_7 rfl (lv_at hl 0 rfl) ?_
  refine gf_X9_36 hx hb htw hown hK hW (by assumption) (by assumption) dX9_open_8 ?_
  refine lv_iload_n hx hb dX9_open_11 rfl (lv_at hl 1 rfl) ?_
  refine ti_bipush hx hb dX9_open_12 (by decide) ?_
  refine tm_iast hx hb hK hW hS (by assumption) (by omega) (by omega) (by decide) dX9_open_14 (fun H locs hW hS => ?_)
  refine lv_aload_n hx hb dX9_open_15 rfl (lv_at hl 0 rfl) ?_
  refine gf_X9_42 hx hb htw hown hK hW (by assumption) (by assumption) dX9_open_16 ?_
  refine lv_iload_n hx hb dX9_open_19 rfl (lv_at hl 1 rfl) ?_
  refine ti_iconst hx hb dX9_open_20 ?_
  refine tm_iast hx hb hK hW hS (by assumption) (by omega) (by omega) (by decide) dX9_open_21 (fun H locs hW hS => ?_)
  exact tm_vret hx hb hr hlk hK hW hS (by rw [show (x : Int).toNat = x by omega]) dX9_open_22
def pdg (o : Nat) (a k : Nat) : Prop := a = o ∧ (k = 19 ∨ k = 22 ∨ k = 23)
theorem dX9_digits_0 : decode cX9_digits 0 = .ok (.aload_n 0, 1) := by decide +kernel
theorem dX9_digits_1 : decode cX9_digits 1 = .ok (.iconst 0, 1) := by decide +kernel
theorem dX9_digits_2 : decode cX9_digits 2 = .ok (.putfield 86, 3) := by decide +kernel
theorem dX9_digits_5 : decode cX9_digits 5 = .ok (.iconst 0, 1) := by decide +kernel
theorem dX9_digits_6 : decode cX9_digits 6 = .ok (.istore_n 1, 1) := by decide +kernel
theorem dX9_digits_7 : decode cX9_digits 7 = .ok (.iload_n 1, 1) := by decide +kernel
theorem dX9_digits_8 : decode cX9_digits 8 = .ok (.iconst 4, 1) := by decide +kernel
theorem dX9_digits_9 : decode cX9_digits 9 = .ok (.if_icmp .ge 56, 3) := by decide +kernel
theorem dX9_digits_12 : decode cX9_digits 12 = .ok (.aload_n 0, 1) := by decide +kernel
theorem dX9_digits_13 : decode cX9_digits 13 = .ok (.invokevirtual 89, 3) := by decide +kernel
theorem dX9_digits_16 : decode cX9_digits 16 = .ok (.invokestatic 93, 3) := by decide +kernel
theorem dX9_digits_19 : decode cX9_digits 19 = .ok (.ifCond .eq 46, 3) := by decide +kernel
theorem dX9_digits_22 : decode cX9_digits 22 = .ok (.aload_n 0, 1) := by decide +kernel
theorem dX9_digits_23 : decode cX9_digits 23 = .ok (.bipush 10, 2) := by decide +kernel
theorem dX9_digits_25 : decode cX9_digits 25 = .ok (.aload_n 0, 1) := by decide +kernel
theorem dX9_digits_26 : decode cX9_digits 26 = .ok (.getfield 86, 3) := by decide +kernel
theorem dX9_digits_29 : decode cX9_digits 29 = .ok (.imul, 1) := by decide +kernel
theorem dX9_digits_30 : decode cX9_digits 30 = .ok (.aload_n 0, 1) := by decide +kernel
theorem dX9_digits_31 : decode cX9_digits 31 = .ok (.invokevirtual 89, 3) := by decide +kernel
theorem dX9_digits_34 : decode cX9_digits 34 = .ok (.iadd, 1) := by decide +kernel
theorem dX9_digits_35 : decode cX9_digits 35 = .ok (.bipush 48, 2) := by decide +kernel
theorem dX9_digits_37 : decode cX9_digits 37 = .ok (.isub, 1) := by decide +kernel
theorem dX9_digits_38 : decode cX9_digits 38 = .ok (.putfield 86, 3) := by decide +kernel
theorem dX9_digits_41 : decode cX9_digits 41 = .ok (.aload_n 0, 1) := by decide +kernel
theorem dX9_digits_42 : decode cX9_digits 42 = .ok (.aload_n 0, 1) := by decide +kernel
theorem dX9_digits_43 : decode cX9_digits 43 = .ok (.getfield 76, 3) := by decide +kernel
theorem dX9_digits_46 : decode cX9_digits 46 = .ok (.putfield 97, 3) := by decide +kernel
theorem dX9_digits_49 : decode cX9_digits 49 = .ok (.aload_n 0, 1) := by decide +kernel
theorem dX9_digits_50 : decode cX9_digits 50 = .ok (.dup, 1) := by decide +kernel
theorem dX9_digits_51 : decode cX9_digits 51 = .ok (.getfield 76, 3) := by decide +kernel
theorem dX9_digits_54 : decode cX9_digits 54 = .ok (.iconst 1, 1) := by decide +kernel
theorem dX9_digits_55 : decode cX9_digits 55 = .ok (.iadd, 1) := by decide +kernel
theorem dX9_digits_56 : decode cX9_digits 56 = .ok (.putfield 76, 3) := by decide +kernel
theorem dX9_digits_59 : decode cX9_digits 59 = .ok (.iinc 1 1, 3) := by decide +kernel
theorem dX9_digits_62 : decode cX9_digits 62 = .ok (.goto (-55), 3) := by decide +kernel
theorem dX9_digits_65 : decode cX9_digits 65 = .ok (.return_, 1) := by decide +kernel
set_option maxHeartbeats 4000000 in
set_option maxRecDepth 100000 in
/-- TutorLinesModel.digits -/
theorem c_X9_digits {l : Launch} {G : tm_G} {Hb : Heap} {sh : tm_sh} {M : tm_M} {o n p1 : Nat} {t : Nat → Int} (hR : MS sh M o t n p1) (hdg0 : 48 ≤ tp_ch t n (tp_nx t n p1) ∧ tp_ch t n (tp_nx t n p1) ≤ 57) : Met l yX9_digits (tws yX9_digits cX9_digits 2 none) ({ frames := 2, cells := 0, slots := 0, locals := 45 }) (va_Pc [.ref o] (tm_St G Hb sh M)) (tm_Qv G Hb sh (fun M1 => ∃ x : Nat × Int × Nat, tp_num t n p1 = .inl x ∧ mI M1 o 19 = x.1 ∧ mI M1 o 22 = x.2.1 ∧ mI M1 o 23 = x.2.2 ∧ fq (pdg o) M M1)) 0 0 (tm_A Hb) := by
  refine tm_begin (by decide) (Nat.le_of_ble_eq_true rfl) (fun p e s m below meth c ls hx hb hr hml hown htw hlk hnm hK hW hl => ?_)
  have hS : va_S (tm_A Hb) s.heap s.heap [] := va_S.rf
  have hl : lv_has ls 2 [(0, .ref o)] := hl
  have htr := MS_t hR
  have b0 := hR.1.1
  have hp0 := hR.2.2.2.2.2
  have loop : ∀ (j : Nat) (k num : Int) (ld p2 : Nat) (M1 : tm_M) (H : Heap) (locs : List Loc) (ls : Array Slot), k + j = 4 → 0 ≤ k → tp_num t n p1 = .inl ((tp_dig t n j num ld p2).2.2, (tp_dig t n j num ld p2).1, (tp_dig t n j num ld p2).2.1) → MS sh M1 o t n p2 → mI M1 o 22 = num → mI M1 o 23 = ld → fq (pdg o) M M1 → tm_W G Hb sh M1 H → va_S (tm_A Hb) s.heap H locs → lv_has ls 2 [(0, .ref o), (1, ji k)] → W p l e ({ frames := 2, cells := 0, slots := 0, locals := 45 }) s m [.ref o].toArray below meth c H locs 0 0 (MQ below (tm_Qv G Hb sh (fun M1 => ∃ x : Nat × Int × Nat, tp_num t n p1 = .inl x ∧ mI M1 o 19 = x.1 ∧ mI M1 o 22 = x.2.1 ∧ mI M1 o 23 = x.2.2 ∧ fq (pdg o) M M1)) [.ref o].toArray s 0 0 (tm_A Hb)) (F0 m 7 ls []) := by
    intro j
    induction j with
    | zero =>
      intro k num ld p2 M1 H locs ls hk hk0 he hR h2 h4 hf hW hS hl
      refine lv_iload_n hx hb dX9_digits_7 rfl (lv_at hl 1 rfl) ?_
      refine ti_iconst hx hb dX9_digits_8 ?_
      refine ti_icmp_ge (tgt := 65) hx hb dX9_digits_9 (by decide) (by omega) (by omega) (fun h9 => ?_) (fun h9 => ?_)
      · exact tm_vret hx hb hr hlk hK hW hS ⟨_, he, hR.2.2.2.2.1, h2, h4, hf⟩ dX9_digits_65
      · exact absurd (show 4 ≤ k by omega) h9
    | succ j ih =>
      intro k num ld p2 M1 H locs ls hk hk0 he hR h2 h4 hf hW hS hl
      have q0 := tp_nx_le (t := t) hR.2.2.2.2.2
      have cr := tp_ch_r (n := n) (p := tp_nx t n p2) htr
      refine lv_iload_n hx hb dX9_digits_7 rfl (lv_at hl 1 rfl) ?_
      refine ti_iconst hx hb dX9_digits_8 ?_
      refine ti_icmp_ge (tgt := 65) hx hb dX9_digits_9 (by decide) (by omega) (by omega) (fun h9 => ?_) (fun h9 => ?_)
      · exact absurd h9 (by omega)
      · refine lv_aload_n hx hb dX9_digits_12 rfl (lv_at hl 0 rfl) ?_
        refine tm_calli (cs_X9_89 hx hb hml hown htw hK hW (by assumption) (c_X9_here hR) ⟨rfl, rfl, Nat.le_of_ble_eq_true rfl, Nat.le_of_ble_eq_true rfl⟩ hl.1 (Nat.le_of_ble_eq_true rfl) dX9_digits_13 ⟨Nat.le_of_ble_eq_true rfl, Nat.le_of_ble_eq_true rfl⟩) hS (fun x13 M13 H locs hp13 hW hS => ?_)
        obtain ⟨ex13, e13, n13⟩ := hp13
        have R13 := MS_m hR n13 (fun j => by unfold p19; omega) (by unfold p19; omega) e13 q0.2
        have f13 := fq_wd (Q := pdg o) n13 (fun a k q => by unfold p19 at q; unfold pdg; omega)
        rw [ex13]
        refine tm_calli (cs_X9_93 hx hb hml hown htw hK hW (c_X9_isDigit (by omega)) ⟨rfl, rfl, Nat.le_of_ble_eq_true rfl, Nat.le_of_ble_eq_true rfl⟩ hl.1 (Nat.le_of_ble_eq_true rfl) dX9_digits_16 ⟨Nat.le_of_ble_eq_true rfl, Nat.le_of_ble_eq_true rfl⟩) hS (fun x16 M16 H locs hp16 hW hS => ?_)
        obtain ⟨ex16, eM16⟩ := hp16
        rw [eM16] at hW
        rw [ex16]
        refine ti_if_eq (tgt := 65) hx hb dX9_digits_19 (by decide) (tl_b_r _) (fun h19 => ?_) (fun h19 => ?_)
        · exact tm_vret hx hb hr hlk hK hW hS ⟨(tp_nx t n p2, num, ld), by rw [he, show tp_dig t n (j + 1) num ld p2 = (num, ld, tp_nx t n p2) from if_neg (tl_b_0.mp h19)], e13, (n13.2 o 22 (by unfold p19; omega)).1.trans h2, (n13.2 o 23 (by unfold p19; omega)).1.trans h4, fq_tr hf f13⟩ dX9_digits_65
        · refine lv_aload_n hx hb dX9_digits_22 rfl (lv_at hl 0 rfl) ?_
          refine ti_bipush hx hb dX9_digits_23 (by decide) ?_
          refine lv_aload_n hx hb dX9_digits_25 rfl (lv_at hl 0 rfl) ?_
          refine gf_X9_86 hx hb htw hown hK hW (by assumption) dX9_digits_26 ?_
          refine ti_imul hx hb dX9_digits_29 ?_
          refine lv_aload_n hx hb dX9_digits_30 rfl (lv_at hl 0 rfl) ?_
          refine tm_calli (cs_X9_89 hx hb hml hown htw hK hW (by assumption) (c_X9_here R13) ⟨rfl, rfl, Nat.le_of_ble_eq_true rfl, Nat.le_of_ble_eq_true rfl⟩ hl.1 (Nat.le_of_ble_eq_true rfl) dX9_digits_31 ⟨Nat.le_of_ble_eq_true rfl, Nat.le_of_ble_eq_true rfl⟩) hS (fun x31 M31 H locs hp31 hW hS => ?_)
          obtain ⟨ex31, e31, n31⟩ := hp31
          rw [tp_nx_nx hR.2.2.2.2.2] at e31
          rw [ex31, tp_nx_nx hR.2.2.2.2.2]
          have R31 := MS_m R13 n31 (fun j => by unfold p19; omega) (by unfold p19; omega) e31 q0.2
          have f31 := fq_wd (Q := pdg o) n31 (fun a k q => by unfold p19 at q; unfold pdg; omega)
          have dg := tl_b_n.mp h19
          have lt := tp_ch_lt (t := t) (n := n) (p := tp_nx t n p2) (by omega)
          refine ti_iadd hx hb dX9_digits_34 ?_
          refine ti_bipush hx hb dX9_digits_35 (by decide) ?_
          refine ti_isub hx hb dX9_digits_37 ?_
          refine pf_X9_86 hx hb htw hown hK hW (by assumption) hS dX9_digits_38 (fun H locs hW hS => ?_)
          refine lv_aload_n hx hb dX9_digits_41 rfl (lv_at hl 0 rfl) ?_
          refine lv_aload_n hx hb dX9_digits_42 rfl (lv_at hl 0 rfl) ?_
          refine gf_X9_76 hx hb htw hown hK hW (by assumption) dX9_digits_43 ?_
          refine pf_X9_97 hx hb htw hown hK hW (by assumption) hS dX9_digits_46 (fun H locs hW hS => ?_)
          refine lv_aload_n hx hb dX9_digits_49 rfl (lv_at hl 0 rfl) ?_
          refine lv_dup hx hb dX9_digits_50 rfl ?_
          refine gf_X9_76 hx hb htw hown hK hW (by assumption) dX9_digits_51 ?_
          refine ti_iconst hx hb dX9_digits_54 ?_
          refine ti_iadd hx hb dX9_digits_55 ?_
          refine pf_X9_76 hx hb htw hown hK hW (by assumption) hS dX9_digits_56 (fun H locs hW hS => ?_)
          refine ti_iinc (k := 1) (lv' := [(1, _), (0, _)]) hx hb dX9_digits_59 hl rfl (by decide) rfl (fun ls hl => ?_)
          refine lv_goto (tgt := 7) hx hb dX9_digits_62 (by decide) ?_
          exact ih (k + 1) _ (tp_nx t n p2) (tp_nx t n p2 + 1) (sI (sI (sI M31 o 22 (10 * mI M13 o 22 + tp_ch t n (tp_nx t n p2) - 48)) o 23 (mI (sI M31 o 22 (10 * mI M13 o 22 + tp_ch t n (tp_nx t n p2) - 48)) o 19)) o 19 (mI (sI (sI M31 o 22 (10 * mI M13 o 22 + tp_ch t n (tp_nx t n p2) - 48)) o 23 (mI (sI M31 o 22 (10 * mI M13 o 22 + tp_ch t n (tp_nx t n p2) - 48)) o 19)) o 19 + 1)) _ _ _ (by omega) (by omega) (by rw [he, show tp_dig t n (j + 1) num ld p2 = _ from if_pos dg]) (MS_m (P := pdg o) hR (fq_tr (fq_tr (fq_tr (fq_tr f13 f31) (fq_sI ⟨rfl, by omega⟩)) (fq_sI ⟨rfl, by omega⟩)) (fq_sI ⟨rfl, by omega⟩)) (fun j => by unfold pdg; omega) (by unfold pdg; omega) (show mI (sI (sI (sI M31 o 22 (10 * mI M13 o 22 + tp_ch t n (tp_nx t n p2) - 48)) o 23 (mI (sI M31 o 22 (10 * mI M13 o 22 + tp_ch t n (tp_nx t n p2) - 48)) o 19)) o 19 (mI (sI (sI M31 o 22 (10 * mI M13 o 22 + tp_ch t n (tp_nx t n p2) - 48)) o 23 (mI (sI M31 o 22 (10 * mI M13 o 22 + tp_ch t n (tp_nx t n p2) - 48)) o 19)) o 19 + 1)) o 19 = ((tp_nx t n p2 + 1 : Nat) : Int) from (tm_up_s _ _ _ _).trans (by rw [show mI (sI (sI M31 o 22 (10 * mI M13 o 22 + tp_ch t n (tp_nx t n p2) - 48)) o 23 (mI (sI M31 o 22 (10 * mI M13 o 22 + tp_ch t n (tp_nx t n p2) - 48)) o 19)) o 19 = mI M31 o 19 from (tm_up_k _ _ (by decide)).trans (tm_up_k _ _ (by decide)), e31]; rfl)) lt) (show mI (sI (sI (sI M31 o 22 (10 * mI M13 o 22 + tp_ch t n (tp_nx t n p2) - 48)) o 23 (mI (sI M31 o 22 (10 * mI M13 o 22 + tp_ch t n (tp_nx t n p2) - 48)) o 19)) o 19 (mI (sI (sI M31 o 22 (10 * mI M13 o 22 + tp_ch t n (tp_nx t n p2) - 48)) o 23 (mI (sI M31 o 22 (10 * mI M13 o 22 + tp_ch t n (tp_nx t n p2) - 48)) o 19)) o 19 + 1)) o 22 = num * 10 + (tp_ch t n (tp_nx t n p2) - 48) from (tm_up_k _ _ (by decide)).trans ((tm_up_k _ _ (by decide)).trans ((tm_up_s _ _ _ _).trans (by rw [(n13.2 o 22 (by unfold p19; omega)).1, h2]; omega)))) (show mI (sI (sI (sI M31 o 22 (10 * mI M13 o 22 + tp_ch t n (tp_nx t n p2) - 48)) o 23 (mI (sI M31 o 22 (10 * mI M13 o 22 + tp_ch t n (tp_nx t n p2) - 48)) o 19)) o 19 (mI (sI (sI M31 o 22 (10 * mI M13 o 22 + tp_ch t n (tp_nx t n p2) - 48)) o 23 (mI (sI M31 o 22 (10 * mI M13 o 22 + tp_ch t n (tp_nx t n p2) - 48)) o 19)) o 19 + 1)) o 23 = ((tp_nx t n p2 : Nat) : Int) from (tm_up_k _ _ (by decide)).trans ((tm_up_s _ _ _ _).trans ((tm_up_k _ _ (by decide)).trans e31))) (fq_tr (fq_tr (fq_tr (fq_tr (fq_tr hf f13) f31) (fq_sI ⟨rfl, by omega⟩)) (fq_sI ⟨rfl, by omega⟩)) (fq_sI ⟨rfl, by omega⟩)) hW hS (lv_sub hl [1, 0] rfl)
  have q0 := tp_nx_le (t := t) hp0
  refine lv_aload_n hx hb dX9_digits_0 rfl (lv_at hl 0 rfl) ?_
  refine ti_iconst hx hb dX9_digits_1 ?_
  refine pf_X9_86 hx hb htw hown hK hW (by assumption) hS dX9_digits_2 (fun H locs hW hS => ?_)
  have R0 : MS sh (sI M o 22 0) o t n p1 := MS_m (P := pdg o) hR (fq_sI ⟨rfl, by omega⟩) (fun j => by unfold pdg; omega) (by unfold pdg; omega) ((tm_up_k _ _ (by decide)).trans hR.2.2.2.2.1) hp0
  refine ti_iconst hx hb dX9_digits_5 ?_
  refine lv_istore_n (lv' := [(1, _), (0, _)]) hx hb dX9_digits_6 rfl hl (by decide) rfl (fun ls hl => ?_)
  refine lv_iload_n hx hb dX9_digits_7 rfl (lv_at hl 0 rfl) ?_
  refine ti_iconst hx hb dX9_digits_8 ?_
  refine ti_icmp_ge (tgt := 65) hx hb dX9_digits_9 (by decide) (by omega) (by omega) (fun h9 => ?_) (fun h9 => ?_)
  · exact absurd h9 (by decide)
  · refine lv_aload_n hx hb dX9_digits_12 rfl (lv_at hl 1 rfl) ?_
    refine tm_calli (cs_X9_89 hx hb hml hown htw hK hW (by assumption) (c_X9_here R0) ⟨rfl, rfl, Nat.le_of_ble_eq_true rfl, Nat.le_of_ble_eq_true rfl⟩ hl.1 (Nat.le_of_ble_eq_true rfl) dX9_digits_13 ⟨Nat.le_of_ble_eq_true rfl, Nat.le_of_ble_eq_true rfl⟩) hS (fun x13 M13 H locs hp13 hW hS => ?_)
    obtain ⟨ex13, e13, n13⟩ := hp13
    have R13 := MS_m R0 n13 (fun j => by unfold p19; omega) (by unfold p19; omega) e13 q0.2
    have f13 := fq_wd (Q := pdg o) n13 (fun a k q => by unfold p19 at q; unfold pdg; omega)
    rw [ex13]
    refine tm_calli (cs_X9_93 hx hb hml hown htw hK hW (c_X9_isDigit (by omega)) ⟨rfl, rfl, Nat.le_of_ble_eq_true rfl, Nat.le_of_ble_eq_true rfl⟩ hl.1 (Nat.le_of_ble_eq_true rfl) dX9_digits_16 ⟨Nat.le_of_ble_eq_true rfl, Nat.le_of_ble_eq_true rfl⟩) hS (fun x16 M16 H locs hp16 hW hS => ?_)
    obtain ⟨ex16, eM16⟩ := hp16
    rw [eM16] at hW
    rw [ex16]
    refine ti_if_eq (tgt := 65) hx hb dX9_digits_19 (by decide) (tl_b_r _) (fun h19 => ?_) (fun h19 => ?_)
    · exact absurd h19 (by rw [tl_b_0]; exact fun z => z hdg0)
    · refine lv_aload_n hx hb dX9_digits_22 rfl (lv_at hl 1 rfl) ?_
      refine ti_bipush hx hb dX9_digits_23 (by decide) ?_
      refine lv_aload_n hx hb dX9_digits_25 rfl (lv_at hl 1 rfl) ?_
      refine gf_X9_86 hx hb htw hown hK hW (by assumption) dX9_digits_26 ?_
      refine ti_imul hx hb dX9_digits_29 ?_
      refine lv_aload_n hx hb dX9_digits_30 rfl (lv_at hl 1 rfl) ?_
      refine tm_calli (cs_X9_89 hx hb hml hown htw hK hW (by assumption) (c_X9_here R13) ⟨rfl, rfl, Nat.le_of_ble_eq_true rfl, Nat.le_of_ble_eq_true rfl⟩ hl.1 (Nat.le_of_ble_eq_true rfl) dX9_digits_31 ⟨Nat.le_of_ble_eq_true rfl, Nat.le_of_ble_eq_true rfl⟩) hS (fun x31 M31 H locs hp31 hW hS => ?_)
      obtain ⟨ex31, e31, n31⟩ := hp31
      rw [tp_nx_nx hp0] at e31
      rw [ex31, tp_nx_nx hp0]
      have R31 := MS_m R13 n31 (fun j => by unfold p19; omega) (by unfold p19; omega) e31 q0.2
      have f31 := fq_wd (Q := pdg o) n31 (fun a k q => by unfold p19 at q; unfold pdg; omega)
      have dg := hdg0
      have lt := tp_ch_lt (t := t) (n := n) (p := tp_nx t n p1) (by omega)
      refine ti_iadd hx hb dX9_digits_34 ?_
      refine ti_bipush hx hb dX9_digits_35 (by decide) ?_
      refine ti_isub hx hb dX9_digits_37 ?_
      refine pf_X9_86 hx hb htw hown hK hW (by assumption) hS dX9_digits_38 (fun H locs hW hS => ?_)
      refine lv_aload_n hx hb dX9_digits_41 rfl (lv_at hl 1 rfl) ?_
      refine lv_aload_n hx hb dX9_digits_42 rfl (lv_at hl 1 rfl) ?_
      refine gf_X9_76 hx hb htw hown hK hW (by assumption) dX9_digits_43 ?_
      refine pf_X9_97 hx hb htw hown hK hW (by assumption) hS dX9_digits_46 (fun H locs hW hS => ?_)
      refine lv_aload_n hx hb dX9_digits_49 rfl (lv_at hl 1 rfl) ?_
      refine lv_dup hx hb dX9_digits_50 rfl ?_
      refine gf_X9_76 hx hb htw hown hK hW (by assumption) dX9_digits_51 ?_
      refine ti_iconst hx hb dX9_digits_54 ?_
      refine ti_iadd hx hb dX9_digits_55 ?_
      refine pf_X9_76 hx hb htw hown hK hW (by assumption) hS dX9_digits_56 (fun H locs hW hS => ?_)
      refine ti_iinc (k := 0) (lv' := [(1, _), (0, _)]) hx hb dX9_digits_59 hl rfl (by decide) rfl (fun ls hl => ?_)
      refine lv_goto (tgt := 7) hx hb dX9_digits_62 (by decide) ?_
      exact loop 3 1 _ (tp_nx t n p1) (tp_nx t n p1 + 1) (sI (sI (sI M31 o 22 (10 * mI M13 o 22 + tp_ch t n (tp_nx t n p1) - 48)) o 23 (mI (sI M31 o 22 (10 * mI M13 o 22 + tp_ch t n (tp_nx t n p1) - 48)) o 19)) o 19 (mI (sI (sI M31 o 22 (10 * mI M13 o 22 + tp_ch t n (tp_nx t n p1) - 48)) o 23 (mI (sI M31 o 22 (10 * mI M13 o 22 + tp_ch t n (tp_nx t n p1) - 48)) o 19)) o 19 + 1)) _ _ _ (by omega) (by omega) (by unfold tp_num; rw [if_pos hdg0, show tp_dig t n 4 0 0 (tp_nx t n p1) = tp_dig t n 3 (0 * 10 + (tp_ch t n (tp_nx t n p1) - 48)) (tp_nx t n p1) (tp_nx t n p1 + 1) from by rw [tp_dig, tp_nx_nx hp0, if_pos hdg0]]) (MS_m (P := pdg o) hR (fq_tr (fq_tr (fq_tr (fq_tr (fq_tr (fq_sI ⟨rfl, by omega⟩) f13) f31) (fq_sI ⟨rfl, by omega⟩)) (fq_sI ⟨rfl, by omega⟩)) (fq_sI ⟨rfl, by omega⟩)) (fun j => by unfold pdg; omega) (by unfold pdg; omega) (show mI (sI (sI (sI M31 o 22 (10 * mI M13 o 22 + tp_ch t n (tp_nx t n p1) - 48)) o 23 (mI (sI M31 o 22 (10 * mI M13 o 22 + tp_ch t n (tp_nx t n p1) - 48)) o 19)) o 19 (mI (sI (sI M31 o 22 (10 * mI M13 o 22 + tp_ch t n (tp_nx t n p1) - 48)) o 23 (mI (sI M31 o 22 (10 * mI M13 o 22 + tp_ch t n (tp_nx t n p1) - 48)) o 19)) o 19 + 1)) o 19 = ((tp_nx t n p1 + 1 : Nat) : Int) from (tm_up_s _ _ _ _).trans (by rw [show mI (sI (sI M31 o 22 (10 * mI M13 o 22 + tp_ch t n (tp_nx t n p1) - 48)) o 23 (mI (sI M31 o 22 (10 * mI M13 o 22 + tp_ch t n (tp_nx t n p1) - 48)) o 19)) o 19 = mI M31 o 19 from (tm_up_k _ _ (by decide)).trans (tm_up_k _ _ (by decide)), e31]; rfl)) lt) (show mI (sI (sI (sI M31 o 22 (10 * mI M13 o 22 + tp_ch t n (tp_nx t n p1) - 48)) o 23 (mI (sI M31 o 22 (10 * mI M13 o 22 + tp_ch t n (tp_nx t n p1) - 48)) o 19)) o 19 (mI (sI (sI M31 o 22 (10 * mI M13 o 22 + tp_ch t n (tp_nx t n p1) - 48)) o 23 (mI (sI M31 o 22 (10 * mI M13 o 22 + tp_ch t n (tp_nx t n p1) - 48)) o 19)) o 19 + 1)) o 22 = 0 * 10 + (tp_ch t n (tp_nx t n p1) - 48) from (tm_up_k _ _ (by decide)).trans ((tm_up_k _ _ (by decide)).trans ((tm_up_s _ _ _ _).trans (by rw [(n13.2 o 22 (by unfold p19; omega)).1, show mI (sI M o 22 0) o 22 = 0 from tm_up_s _ _ _ _]; omega)))) (show mI (sI (sI (sI M31 o 22 (10 * mI M13 o 22 + tp_ch t n (tp_nx t n p1) - 48)) o 23 (mI (sI M31 o 22 (10 * mI M13 o 22 + tp_ch t n (tp_nx t n p1) - 48)) o 19)) o 19 (mI (sI (sI M31 o 22 (10 * mI M13 o 22 + tp_ch t n (tp_nx t n p1) - 48)) o 23 (mI (sI M31 o 22 (10 * mI M13 o 22 + tp_ch t n (tp_nx t n p1) - 48)) o 19)) o 19 + 1)) o 23 = ((tp_nx t n p1 : Nat) : Int) from (tm_up_k _ _ (by decide)).trans ((tm_up_s _ _ _ _).trans ((tm_up_k _ _ (by decide)).trans e31))) (fq_tr (fq_tr (fq_tr (fq_tr (fq_tr (fq_sI ⟨rfl, by omega⟩) f13) f31) (fq_sI ⟨rfl, by omega⟩)) (fq_sI ⟨rfl, by omega⟩)) (fq_sI ⟨rfl, by omega⟩)) hW hS (lv_sub hl [1, 0] rfl)
