/-! Slips.explain (by program: wip/whole/gen/slips2.py) -/
theorem dX6_explain_0 : decode cX6_explain 0 = .ok (.iconst 1, 1) := by decide +kernel
theorem dX6_explain_1 : decode cX6_explain 1 = .ok (.istore_n 3, 1) := by decide +kernel
theorem dX6_explain_2 : decode cX6_explain 2 = .ok (.iload_n 3, 1) := by decide +kernel
theorem dX6_explain_3 : decode cX6_explain 3 = .ok (.bipush 6, 2) := by decide +kernel
theorem dX6_explain_5 : decode cX6_explain 5 = .ok (.if_icmp .gt 33, 3) := by decide +kernel
theorem dX6_explain_8 : decode cX6_explain 8 = .ok (.iload_n 3, 1) := by decide +kernel
theorem dX6_explain_9 : decode cX6_explain 9 = .ok (.aload_n 0, 1) := by decide +kernel
theorem dX6_explain_10 : decode cX6_explain 10 = .ok (.invokestatic 9, 3) := by decide +kernel
theorem dX6_explain_13 : decode cX6_explain 13 = .ok (.ifCond .eq 19, 3) := by decide +kernel
theorem dX6_explain_16 : decode cX6_explain 16 = .ok (.iload_n 3, 1) := by decide +kernel
theorem dX6_explain_17 : decode cX6_explain 17 = .ok (.aload_n 0, 1) := by decide +kernel
theorem dX6_explain_18 : decode cX6_explain 18 = .ok (.aload_n 2, 1) := by decide +kernel
theorem dX6_explain_19 : decode cX6_explain 19 = .ok (.invokestatic 13, 3) := by decide +kernel
theorem dX6_explain_22 : decode cX6_explain 22 = .ok (.aload_n 2, 1) := by decide +kernel
theorem dX6_explain_23 : decode cX6_explain 23 = .ok (.aload_n 1, 1) := by decide +kernel
theorem dX6_explain_24 : decode cX6_explain 24 = .ok (.invokevirtual 17, 3) := by decide +kernel
theorem dX6_explain_27 : decode cX6_explain 27 = .ok (.ifCond .eq 5, 3) := by decide +kernel
theorem dX6_explain_30 : decode cX6_explain 30 = .ok (.iload_n 3, 1) := by decide +kernel
theorem dX6_explain_31 : decode cX6_explain 31 = .ok (.ireturn, 1) := by decide +kernel
theorem dX6_explain_32 : decode cX6_explain 32 = .ok (.iinc 3 1, 3) := by decide +kernel
theorem dX6_explain_35 : decode cX6_explain 35 = .ok (.goto (-33), 3) := by decide +kernel
theorem dX6_explain_38 : decode cX6_explain 38 = .ok (.iconst 0, 1) := by decide +kernel
theorem dX6_explain_39 : decode cX6_explain 39 = .ok (.ireturn, 1) := by decide +kernel
theorem tl_slr (n : Int) (v : tl_L) : (tl_slipv n v).2.2 = v.2.2 := by
  unfold tl_slipv
  repeat' split
  all_goals rfl
set_option maxHeartbeats 4000000 in
set_option maxRecDepth 100000 in
/-- Slips.explain: the lowest slip that leads from the line o to the line w -/
theorem c_X6_explain {l : Launch} {G : tm_G} {Hb : Heap} {sh : tm_sh} {M : tm_M} {q o w : Nat} (ht : isLn sh M o) (hw : isLn sh M w) (hs : isLn sh M q) (hne : o + 7 ≤ q ∨ q + 7 ≤ o) (hne2 : w + 7 ≤ q ∨ q + 7 ≤ w) (hv : lok (ln M o)) (hwv : lLok (ln M w)) (hwr : inI (ln M w).2.2) : Met l yX6_explain (tws yX6_explain cX6_explain 4 (some .int)) ({ frames := 5, cells := 0, slots := 0, locals := 120 }) (va_Pc [.ref o, .ref w, .ref q] (tm_St G Hb sh M)) (tm_Qi G Hb sh (fun r M1 => r = tl_exp (ln M o) (ln M w) 6 1 ∧ tm_fr q (q + 7) M M1)) 0 0 (tm_A Hb) := by
  refine tm_begin (by decide) (Nat.le_of_ble_eq_true rfl) (fun p e s m below meth c ls hx hb hr hml hown htw hlk hnm hK hW hl => ?_)
  have hS : va_S (tm_A Hb) s.heap s.heap [] := va_S.rf
  have hl : lv_has ls 4 [(0, .ref o), (1, .ref w), (2, .ref q)] := hl
  have loop : ∀ (k : Nat) (n : Int) (M1 : tm_M) (H : Heap) (locs : List Loc) (ls : Array Slot), n + k = 7 → 1 ≤ n → tl_exp (ln M o) (ln M w) k n = tl_exp (ln M o) (ln M w) 6 1 → tm_fr q (q + 7) M M1 → tm_W G Hb sh M1 H → va_S (tm_A Hb) s.heap H locs → lv_has ls 4 [(0, .ref o), (1, .ref w), (2, .ref q), (3, ji n)] → W p l e ({ frames := 5, cells := 0, slots := 0, locals := 120 }) s m [.ref o, .ref w, .ref q].toArray below meth c H locs 0 0 (MQ below (tm_Qi G Hb sh (fun r M1 => r = tl_exp (ln M o) (ln M w) 6 1 ∧ tm_fr q (q + 7) M M1)) [.ref o, .ref w, .ref q].toArray s 0 0 (tm_A Hb)) (F0 m 2 ls []) := by
    intro k
    induction k with
    | zero =>
      intro n M1 H locs ls hk hn he hf hW hS hl
      refine lv_iload_n hx hb dX6_explain_2 rfl (lv_at hl 3 rfl) ?_
      refine ti_bipush hx hb dX6_explain_3 (by decide) ?_
      refine ti_icmp_gt (tgt := 38) hx hb dX6_explain_5 (by decide) (by omega) (by omega) (fun h5 => ?_) (fun h5 => ?_)
      · refine ti_iconst hx hb dX6_explain_38 ?_
        exact tm_iret hx hb hr hlk hK hW hS ⟨he, hf⟩ dX6_explain_39
      · exact absurd (show 6 < n by omega) h5
    | succ k ih =>
      intro n M1 H locs ls hk hn he hf hW hS hl
      have eo : ln M1 o = ln M o := fw_ln hf (by omega)
      have ew : ln M1 w = ln M w := fw_ln hf (by omega)
      have s0 := hs.1
      refine lv_iload_n hx hb dX6_explain_2 rfl (lv_at hl 3 rfl) ?_
      refine ti_bipush hx hb dX6_explain_3 (by decide) ?_
      refine ti_icmp_gt (tgt := 38) hx hb dX6_explain_5 (by decide) (by omega) (by omega) (fun h5 => ?_) (fun h5 => ?_)
      · exact absurd h5 (by omega)
      · refine lv_iload_n hx hb dX6_explain_8 rfl (lv_at hl 3 rfl) ?_
        refine lv_aload_n hx hb dX6_explain_9 rfl (lv_at hl 0 rfl) ?_
        refine tm_calli (cs_X6_9 hx hb hml hown htw hK hW (c_X6_isPossible (isLn_m ht hf.1) (by rw [eo]; exact hv) (by omega)) ⟨rfl, rfl, Nat.le_of_ble_eq_true rfl, Nat.le_of_ble_eq_true rfl⟩ hl.1 (Nat.le_of_ble_eq_true rfl) dX6_explain_10 ⟨Nat.le_of_ble_eq_true rfl, Nat.le_of_ble_eq_true rfl⟩) hS (fun x10 M10 H locs hp10 hW hS => ?_)
        obtain ⟨ex10, eM10⟩ := hp10
        rw [eM10] at hW
        rw [ex10, eo]
        refine ti_if_eq (tgt := 32) hx hb dX6_explain_13 (by decide) (by rcases tl_poss_z n (ln M o) with z | z <;> omega) (fun h13 => ?_) (fun h13 => ?_)
        · refine ti_iinc (k := 3) (lv' := [(3, _), (0, _), (1, _), (2, _)]) hx hb dX6_explain_32 hl rfl (by decide) rfl (fun ls hl => ?_)
          refine lv_goto (tgt := 2) hx hb dX6_explain_35 (by decide) ?_
          first
          | exact ih (n + 1) M19 _ _ _ (by omega) (by omega) (by rw [← he]; exact (if_neg (fun z => tl_b_0.mp h27 (by rw [e19, f19, z.2]))).symm) g19 hW hS (lv_sub hl [1, 2, 3, 0] rfl)
          | exact ih (n + 1) M1 _ _ _ (by omega) (by omega) (by rw [← he]; exact (if_neg (fun z => z.1 h13)).symm) hf hW hS (lv_sub hl [1, 2, 3, 0] rfl)
        · refine lv_iload_n hx hb dX6_explain_16 rfl (lv_at hl 3 rfl) ?_
          refine lv_aload_n hx hb dX6_explain_17 rfl (lv_at hl 0 rfl) ?_
          refine lv_aload_n hx hb dX6_explain_18 rfl (lv_at hl 2 rfl) ?_
          refine tm_callv (cs_X6_13 hx hb hml hown htw hK hW (c_X6_write (isLn_m ht hf.1) (isLn_m hs hf.1) hne (by rw [eo]; exact hv) (by omega) (by rw [eo]; exact h13)) ⟨rfl, rfl, Nat.le_of_ble_eq_true rfl, Nat.le_of_ble_eq_true rfl⟩ hl.1 (Nat.le_of_ble_eq_true rfl) dX6_explain_19 ⟨Nat.le_of_ble_eq_true rfl, Nat.le_of_ble_eq_true rfl⟩) hS (fun M19 H locs hp19 hW hS => ?_)
          obtain ⟨e19, h19⟩ := hp19
          rw [eo] at e19
          have g19 := fw_tr hf h19
          have f19 : ln M19 w = ln M w := fw_ln g19 (by omega)
          have hL := lLok_slip (n := n) hv h13
          rw [← e19] at hL
          have hL2 := hwv
          rw [← f19] at hL2
          have hr1 : inI (mI M19 q 2) := by
            have z := congrArg (fun v => v.2.2) e19
            have z2 : mI M19 q 2 = (tl_slipv n (ln M o)).2.2 := z
            rw [z2, tl_slr]
            have := hv.2.2
            omega
          have hr2 : inI (mI M19 w 2) := by
            have z2 : mI M19 w 2 = (ln M w).2.2 := congrArg (fun v => v.2.2) f19
            rw [z2]
            exact hwr
          refine lv_aload_n hx hb dX6_explain_22 rfl (lv_at hl 2 rfl) ?_
          refine lv_aload_n hx hb dX6_explain_23 rfl (lv_at hl 1 rfl) ?_
          refine tm_calli (cs_X6_17 hx hb hml hown htw hK hW (by assumption) (c_X1_sameAs (isLn_m hs g19.1) (isLn_m hw g19.1) hL hL2 hr1 hr2) ⟨rfl, rfl, Nat.le_of_ble_eq_true rfl, Nat.le_of_ble_eq_true rfl⟩ hl.1 (Nat.le_of_ble_eq_true rfl) dX6_explain_24 ⟨Nat.le_of_ble_eq_true rfl, Nat.le_of_ble_eq_true rfl⟩) hS (fun x24 M24 H locs hp24 hW hS => ?_)
          obtain ⟨ex24, eM24⟩ := hp24
          rw [eM24] at hW
          rw [ex24]
          refine ti_if_eq (tgt := 32) hx hb dX6_explain_27 (by decide) (tl_b_r _) (fun h27 => ?_) (fun h27 => ?_)
          · refine ti_iinc (k := 3) (lv' := [(3, _), (0, _), (1, _), (2, _)]) hx hb dX6_explain_32 hl rfl (by decide) rfl (fun ls hl => ?_)
            refine lv_goto (tgt := 2) hx hb dX6_explain_35 (by decide) ?_
            first
            | exact ih (n + 1) M19 _ _ _ (by omega) (by omega) (by rw [← he]; exact (if_neg (fun z => tl_b_0.mp h27 (by rw [e19, f19, z.2]))).symm) g19 hW hS (lv_sub hl [1, 2, 3, 0] rfl)
            | exact ih (n + 1) M1 _ _ _ (by omega) (by omega) (by rw [← he]; exact (if_neg (fun z => z.1 h13)).symm) hf hW hS (lv_sub hl [1, 2, 3, 0] rfl)
          · refine lv_iload_n hx hb dX6_explain_30 rfl (lv_at hl 3 rfl) ?_
            exact tm_iret hx hb hr hlk hK hW hS ⟨by rw [← he]; exact (if_pos ⟨h13, by rw [← e19, ← f19]; exact tl_b_n.mp h27⟩).symm, g19⟩ dX6_explain_31
  refine ti_iconst hx hb dX6_explain_0 ?_
  refine lv_istore_n (lv' := [(3, _), (0, _), (1, _), (2, _)]) hx hb dX6_explain_1 rfl hl (by decide) rfl (fun ls hl => ?_)
  exact loop 6 1 M _ _ _ (by omega) (by omega) rfl fw_rf hW hS (lv_sub hl [1, 2, 3, 0] rfl)
