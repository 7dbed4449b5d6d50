/-! the JDK: numbers, String constants (by program: wip/whole/gen/jd4.py) -/
theorem tl_dl1 {v : Int} (h : 0 ≤ v ∧ v ≤ 9) : ((tl_dec v).length : Int) = 1 := by
  unfold tl_dec
  rw [if_pos (show v ≤ 9 by omega)]
  rfl
theorem tl_dl2 {v : Int} (h : 10 ≤ v ∧ v ≤ 99) : ((tl_dec v).length : Int) = 2 := by
  unfold tl_dec
  rw [if_neg (show ¬ v ≤ 9 by omega), if_pos (show v ≤ 99 by omega)]
  rfl
theorem tl_dl3 {v : Int} (h : 100 ≤ v ∧ v ≤ 999) : ((tl_dec v).length : Int) = 3 := by
  unfold tl_dec
  rw [if_neg (show ¬ v ≤ 9 by omega), if_neg (show ¬ v ≤ 99 by omega), if_pos (show v ≤ 999 by omega)]
  rfl
theorem tl_dl4 {v : Int} (h : 1000 ≤ v ∧ v ≤ 9999) : ((tl_dec v).length : Int) = 4 := by
  unfold tl_dec
  rw [if_neg (show ¬ v ≤ 9 by omega), if_neg (show ¬ v ≤ 99 by omega), if_neg (show ¬ v ≤ 999 by omega)]
  rfl
theorem dJ6_stringSize_0f7a4_0 : decode cJ6_stringSize_0f7a4 0 = .ok (.iconst 1, 1) := by decide +kernel
theorem dJ6_stringSize_0f7a4_1 : decode cJ6_stringSize_0f7a4 1 = .ok (.istore_n 1, 1) := by decide +kernel
theorem dJ6_stringSize_0f7a4_2 : decode cJ6_stringSize_0f7a4 2 = .ok (.iload_n 0, 1) := by decide +kernel
theorem dJ6_stringSize_0f7a4_3 : decode cJ6_stringSize_0f7a4 3 = .ok (.ifCond .lt 8, 3) := by decide +kernel
theorem dJ6_stringSize_0f7a4_6 : decode cJ6_stringSize_0f7a4 6 = .ok (.iconst 0, 1) := by decide +kernel
theorem dJ6_stringSize_0f7a4_7 : decode cJ6_stringSize_0f7a4 7 = .ok (.istore_n 1, 1) := by decide +kernel
theorem dJ6_stringSize_0f7a4_8 : decode cJ6_stringSize_0f7a4 8 = .ok (.iload_n 0, 1) := by decide +kernel
theorem dJ6_stringSize_0f7a4_9 : decode cJ6_stringSize_0f7a4 9 = .ok (.ineg, 1) := by decide +kernel
theorem dJ6_stringSize_0f7a4_10 : decode cJ6_stringSize_0f7a4 10 = .ok (.istore_n 0, 1) := by decide +kernel
theorem dJ6_stringSize_0f7a4_11 : decode cJ6_stringSize_0f7a4 11 = .ok (.bipush (-10), 2) := by decide +kernel
theorem dJ6_stringSize_0f7a4_13 : decode cJ6_stringSize_0f7a4 13 = .ok (.istore_n 2, 1) := by decide +kernel
theorem dJ6_stringSize_0f7a4_14 : decode cJ6_stringSize_0f7a4 14 = .ok (.iconst 1, 1) := by decide +kernel
theorem dJ6_stringSize_0f7a4_15 : decode cJ6_stringSize_0f7a4 15 = .ok (.istore_n 3, 1) := by decide +kernel
theorem dJ6_stringSize_0f7a4_16 : decode cJ6_stringSize_0f7a4 16 = .ok (.iload_n 3, 1) := by decide +kernel
theorem dJ6_stringSize_0f7a4_17 : decode cJ6_stringSize_0f7a4 17 = .ok (.bipush 10, 2) := by decide +kernel
theorem dJ6_stringSize_0f7a4_19 : decode cJ6_stringSize_0f7a4 19 = .ok (.if_icmp .ge 23, 3) := by decide +kernel
theorem dJ6_stringSize_0f7a4_22 : decode cJ6_stringSize_0f7a4 22 = .ok (.iload_n 0, 1) := by decide +kernel
theorem dJ6_stringSize_0f7a4_23 : decode cJ6_stringSize_0f7a4 23 = .ok (.iload_n 2, 1) := by decide +kernel
theorem dJ6_stringSize_0f7a4_24 : decode cJ6_stringSize_0f7a4 24 = .ok (.if_icmp .le 7, 3) := by decide +kernel
theorem dJ6_stringSize_0f7a4_27 : decode cJ6_stringSize_0f7a4 27 = .ok (.iload_n 3, 1) := by decide +kernel
theorem dJ6_stringSize_0f7a4_28 : decode cJ6_stringSize_0f7a4 28 = .ok (.iload_n 1, 1) := by decide +kernel
theorem dJ6_stringSize_0f7a4_29 : decode cJ6_stringSize_0f7a4 29 = .ok (.iadd, 1) := by decide +kernel
theorem dJ6_stringSize_0f7a4_30 : decode cJ6_stringSize_0f7a4 30 = .ok (.ireturn, 1) := by decide +kernel
theorem dJ6_stringSize_0f7a4_31 : decode cJ6_stringSize_0f7a4 31 = .ok (.bipush 10, 2) := by decide +kernel
theorem dJ6_stringSize_0f7a4_33 : decode cJ6_stringSize_0f7a4 33 = .ok (.iload_n 2, 1) := by decide +kernel
theorem dJ6_stringSize_0f7a4_34 : decode cJ6_stringSize_0f7a4 34 = .ok (.imul, 1) := by decide +kernel
theorem dJ6_stringSize_0f7a4_35 : decode cJ6_stringSize_0f7a4 35 = .ok (.istore_n 2, 1) := by decide +kernel
theorem dJ6_stringSize_0f7a4_36 : decode cJ6_stringSize_0f7a4 36 = .ok (.iinc 3 1, 3) := by decide +kernel
theorem dJ6_stringSize_0f7a4_39 : decode cJ6_stringSize_0f7a4 39 = .ok (.goto (-23), 3) := by decide +kernel
theorem dJ6_stringSize_0f7a4_42 : decode cJ6_stringSize_0f7a4 42 = .ok (.bipush 10, 2) := by decide +kernel
theorem dJ6_stringSize_0f7a4_44 : decode cJ6_stringSize_0f7a4 44 = .ok (.iload_n 1, 1) := by decide +kernel
theorem dJ6_stringSize_0f7a4_45 : decode cJ6_stringSize_0f7a4 45 = .ok (.iadd, 1) := by decide +kernel
theorem dJ6_stringSize_0f7a4_46 : decode cJ6_stringSize_0f7a4 46 = .ok (.ireturn, 1) := by decide +kernel
set_option maxHeartbeats 4000000 in
set_option maxRecDepth 100000 in
/-- Integer.stringSize -/
theorem c_J6_stringSize {l : Launch} {G : tm_G} {Hb : Heap} {sh : tm_sh} {M : tm_M} {v : Int} (hv : 0 ≤ v ∧ v ≤ 9999) : Met l yJ6_stringSize_0f7a4 (tws yJ6_stringSize_0f7a4 cJ6_stringSize_0f7a4 4 (some .int)) ({ frames := 0, cells := 0, slots := 0, locals := 0 }) (va_Pc [ji v] (tm_St G Hb sh M)) (tm_Qi G Hb sh (fun x M1 => x = ((tl_dec v).length : Int) ∧ M1 = M)) 0 0 (tm_A Hb) := by
  refine tm_beginF (by decide +kernel) (Nat.le_of_ble_eq_true rfl) (fun p e s m below meth c ls hx hb hr hml hown htw hlk hnm hK hW hl => ?_)
  have hS : va_S (tm_A Hb) s.heap s.heap [] := va_S.rf
  have hl : lv_has ls 4 [(0, ji v)] := hl
  refine ti_iconst hx hb dJ6_stringSize_0f7a4_0 ?_
  refine lv_istore_n (lv' := [(1, _), (0, _)]) hx hb dJ6_stringSize_0f7a4_1 rfl hl (by decide) rfl (fun ls hl => ?_)
  refine lv_iload_n hx hb dJ6_stringSize_0f7a4_2 rfl (lv_at hl 1 rfl) ?_
  refine ti_if_lt (tgt := 11) hx hb dJ6_stringSize_0f7a4_3 (by decide) (by omega) (fun h3 => ?_) (fun h3 => ?_)
  · exact absurd h3 (by omega)
  · refine ti_iconst hx hb dJ6_stringSize_0f7a4_6 ?_
    refine lv_istore_n (lv' := [(1, _), (0, _)]) hx hb dJ6_stringSize_0f7a4_7 rfl hl (by decide) rfl (fun ls hl => ?_)
    refine lv_iload_n hx hb dJ6_stringSize_0f7a4_8 rfl (lv_at hl 1 rfl) ?_
    refine ti_ineg hx hb dJ6_stringSize_0f7a4_9 ?_
    refine lv_istore_n (lv' := [(0, _), (1, _)]) hx hb dJ6_stringSize_0f7a4_10 rfl hl (by decide) rfl (fun ls hl => ?_)
    refine ti_bipush hx hb dJ6_stringSize_0f7a4_11 (by decide) ?_
    refine lv_istore_n (lv' := [(2, _), (0, _), (1, _)]) hx hb dJ6_stringSize_0f7a4_13 rfl hl (by decide) rfl (fun ls hl => ?_)
    refine ti_iconst hx hb dJ6_stringSize_0f7a4_14 ?_
    refine lv_istore_n (lv' := [(3, _), (2, _), (0, _), (1, _)]) hx hb dJ6_stringSize_0f7a4_15 rfl hl (by decide) rfl (fun ls hl => ?_)
    refine lv_iload_n hx hb dJ6_stringSize_0f7a4_16 rfl (lv_at hl 0 rfl) ?_
    refine ti_bipush hx hb dJ6_stringSize_0f7a4_17 (by decide) ?_
    refine ti_icmp_ge (tgt := 42) hx hb dJ6_stringSize_0f7a4_19 (by decide) (by decide) (by decide) (fun h19 => ?_) (fun h19 => ?_)
    · exact absurd h19 (by decide)
    · refine lv_iload_n hx hb dJ6_stringSize_0f7a4_22 rfl (lv_at hl 2 rfl) ?_
      refine lv_iload_n hx hb dJ6_stringSize_0f7a4_23 rfl (lv_at hl 1 rfl) ?_
      refine ti_icmp_le (tgt := 31) hx hb dJ6_stringSize_0f7a4_24 (by decide) (by omega) (by decide) (fun h24 => ?_) (fun h24 => ?_)
      · refine ti_bipush hx hb dJ6_stringSize_0f7a4_31 (by decide) ?_
        refine lv_iload_n hx hb dJ6_stringSize_0f7a4_33 rfl (lv_at hl 1 rfl) ?_
        refine ti_imul hx hb dJ6_stringSize_0f7a4_34 ?_
        refine lv_istore_n (lv' := [(2, _), (3, _), (0, _), (1, _)]) hx hb dJ6_stringSize_0f7a4_35 rfl hl (by decide) rfl (fun ls hl => ?_)
        refine ti_iinc (k := 1) (lv' := [(3, _), (2, _), (0, _), (1, _)]) hx hb dJ6_stringSize_0f7a4_36 hl rfl (by decide) rfl (fun ls hl => ?_)
        refine lv_goto (tgt := 16) hx hb dJ6_stringSize_0f7a4_39 (by decide) ?_
        refine lv_iload_n hx hb dJ6_stringSize_0f7a4_16 rfl (lv_at hl 0 rfl) ?_
        refine ti_bipush hx hb dJ6_stringSize_0f7a4_17 (by decide) ?_
        refine ti_icmp_ge (tgt := 42) hx hb dJ6_stringSize_0f7a4_19 (by decide) (by decide) (by decide) (fun h19 => ?_) (fun h19 => ?_)
        · exact absurd h19 (by decide)
        · refine lv_iload_n hx hb dJ6_stringSize_0f7a4_22 rfl (lv_at hl 2 rfl) ?_
          refine lv_iload_n hx hb dJ6_stringSize_0f7a4_23 rfl (lv_at hl 1 rfl) ?_
          refine ti_icmp_le (tgt := 31) hx hb dJ6_stringSize_0f7a4_24 (by decide) (by omega) (by decide) (fun h24 => ?_) (fun h24 => ?_)
          · refine ti_bipush hx hb dJ6_stringSize_0f7a4_31 (by decide) ?_
            refine lv_iload_n hx hb dJ6_stringSize_0f7a4_33 rfl (lv_at hl 1 rfl) ?_
            refine ti_imul hx hb dJ6_stringSize_0f7a4_34 ?_
            refine lv_istore_n (lv' := [(2, _), (3, _), (0, _), (1, _)]) hx hb dJ6_stringSize_0f7a4_35 rfl hl (by decide) rfl (fun ls hl => ?_)
            refine ti_iinc (k := 1) (lv' := [(3, _), (2, _), (0, _), (1, _)]) hx hb dJ6_stringSize_0f7a4_36 hl rfl (by decide) rfl (fun ls hl => ?_)
            refine lv_goto (tgt := 16) hx hb dJ6_stringSize_0f7a4_39 (by decide) ?_
            refine lv_iload_n hx hb dJ6_stringSize_0f7a4_16 rfl (lv_at hl 0 rfl) ?_
            refine ti_bipush hx hb dJ6_stringSize_0f7a4_17 (by decide) ?_
            refine ti_icmp_ge (tgt := 42) hx hb dJ6_stringSize_0f7a4_19 (by decide) (by decide) (by decide) (fun h19 => ?_) (fun h19 => ?_)
            · exact absurd h19 (by decide)
            · refine lv_iload_n hx hb dJ6_stringSize_0f7a4_22 rfl (lv_at hl 2 rfl) ?_
              refine lv_iload_n hx hb dJ6_stringSize_0f7a4_23 rfl (lv_at hl 1 rfl) ?_
              refine ti_icmp_le (tgt := 31) hx hb dJ6_stringSize_0f7a4_24 (by decide) (by omega) (by decide) (fun h24 => ?_) (fun h24 => ?_)
              · refine ti_bipush hx hb dJ6_stringSize_0f7a4_31 (by decide) ?_
                refine lv_iload_n hx hb dJ6_stringSize_0f7a4_33 rfl (lv_at hl 1 rfl) ?_
                refine ti_imul hx hb dJ6_stringSize_0f7a4_34 ?_
                refine lv_istore_n (lv' := [(2, _), (3, _), (0, _), (1, _)]) hx hb dJ6_stringSize_0f7a4_35 rfl hl (by decide) rfl (fun ls hl => ?_)
                refine ti_iinc (k := 1) (lv' := [(3, _), (2, _), (0, _), (1, _)]) hx hb dJ6_stringSize_0f7a4_36 hl rfl (by decide) rfl (fun ls hl => ?_)
                refine lv_goto (tgt := 16) hx hb dJ6_stringSize_0f7a4_39 (by decide) ?_
                refine lv_iload_n hx hb dJ6_stringSize_0f7a4_16 rfl (lv_at hl 0 rfl) ?_
                refine ti_bipush hx hb dJ6_stringSize_0f7a4_17 (by decide) ?_
                refine ti_icmp_ge (tgt := 42) hx hb dJ6_stringSize_0f7a4_19 (by decide) (by decide) (by decide) (fun h19 => ?_) (fun h19 => ?_)
                · exact absurd h19 (by decide)
                · refine lv_iload_n hx hb dJ6_stringSize_0f7a4_22 rfl (lv_at hl 2 rfl) ?_
                  refine lv_iload_n hx hb dJ6_stringSize_0f7a4_23 rfl (lv_at hl 1 rfl) ?_
                  refine ti_icmp_le (tgt := 31) hx hb dJ6_stringSize_0f7a4_24 (by decide) (by omega) (by decide) (fun h24 => ?_) (fun h24 => ?_)
                  · exact absurd h24 (by omega)
                  · refine lv_iload_n hx hb dJ6_stringSize_0f7a4_27 rfl (lv_at hl 0 rfl) ?_
                    refine lv_iload_n hx hb dJ6_stringSize_0f7a4_28 rfl (lv_at hl 3 rfl) ?_
                    refine ti_iadd hx hb dJ6_stringSize_0f7a4_29 ?_
                    exact tm_iret hx hb hr hlk hK hW hS ⟨((tl_dl4 (by omega)).symm : (1 + 1 + 1 + 1 + 0 : Int) = _), rfl⟩ dJ6_stringSize_0f7a4_30
              · refine lv_iload_n hx hb dJ6_stringSize_0f7a4_27 rfl (lv_at hl 0 rfl) ?_
                refine lv_iload_n hx hb dJ6_stringSize_0f7a4_28 rfl (lv_at hl 3 rfl) ?_
                refine ti_iadd hx hb dJ6_stringSize_0f7a4_29 ?_
                exact tm_iret hx hb hr hlk hK hW hS ⟨((tl_dl3 (by omega)).symm : (1 + 1 + 1 + 0 : Int) = _), rfl⟩ dJ6_stringSize_0f7a4_30
          · refine lv_iload_n hx hb dJ6_stringSize_0f7a4_27 rfl (lv_at hl 0 rfl) ?_
            refine lv_iload_n hx hb dJ6_stringSize_0f7a4_28 rfl (lv_at hl 3 rfl) ?_
            refine ti_iadd hx hb dJ6_stringSize_0f7a4_29 ?_
            exact tm_iret hx hb hr hlk hK hW hS ⟨((tl_dl2 (by omega)).symm : (1 + 1 + 0 : Int) = _), rfl⟩ dJ6_stringSize_0f7a4_30
      · refine lv_iload_n hx hb dJ6_stringSize_0f7a4_27 rfl (lv_at hl 0 rfl) ?_
        refine lv_iload_n hx hb dJ6_stringSize_0f7a4_28 rfl (lv_at hl 3 rfl) ?_
        refine ti_iadd hx hb dJ6_stringSize_0f7a4_29 ?_
        exact tm_iret hx hb hr hlk hK hW hS ⟨((tl_dl1 (by omega)).symm : (1 + 0 : Int) = _), rfl⟩ dJ6_stringSize_0f7a4_30
theorem tl_td1 {v : Int} (h : 0 ≤ v) : (-v).tdiv 100 = -(v / 100) := by
  rw [Int.neg_tdiv, Int.tdiv_eq_ediv_of_nonneg h]
/-- digits written from b on -/
def gC (M : tm_M) (V b : Nat) (v : Int) (M1 : tm_M) : Prop := mR M1 = mR M ∧ mL M1 = mL M ∧ (∀ a k, a ≠ V → mI M1 a k = mI M a k) ∧ (∀ j, j < b → mI M1 V j = mI M V j) ∧ (∀ j, j < (tl_dec v).length → mI M1 V (b + j) = (tl_dec v).getD j 0) ∧ ∀ j, (-128 ≤ mI M V j ∧ mI M V j < 128) → -128 ≤ mI M1 V j ∧ mI M1 V j < 128
theorem gC1 {M : tm_M} {V b : Nat} {v : Int} (h : 0 ≤ v ∧ v ≤ 9) : gC M V b v (sI M V (b + 0) (48 + v)) := by
  have e : tl_dec v = [48 + v] := by
    unfold tl_dec
    rw [if_pos (show v ≤ 9 by omega)]
  refine ⟨rfl, rfl, fun a k ha => tm_up_a _ _ ha, fun j hj => tm_up_k _ _ (by omega), ?_, fun j hj => ?_⟩
  · rw [e]
    intro j hj
    have hj : j < 1 := hj
    match j, hj with
    | 0, _ => exact tm_up_s _ _ _ _
    | m + 1, hj => exact absurd hj (by omega)
  · by_cases z0 : j = b + 0
    · rw [z0, show mI (sI M V (b + 0) (48 + v)) V (b + 0) = 48 + v from tm_up_s _ _ _ _]
      omega
    rw [show mI (sI M V (b + 0) (48 + v)) V j = mI M V j from tm_up_k _ _ (by omega)]
    exact hj
theorem gC2 {M : tm_M} {V b : Nat} {v : Int} (h : 10 ≤ v ∧ v ≤ 99) : gC M V b v (sI (sI M V (b + 1) (48 + v % 10)) V (b + 0) (48 + v / 10)) := by
  have e : tl_dec v = [48 + v / 10, 48 + v % 10] := by
    unfold tl_dec
    rw [if_neg (show ¬ v ≤ 9 by omega), if_pos (show v ≤ 99 by omega)]
  refine ⟨rfl, rfl, fun a k ha => (tm_up_a _ _ ha).trans (tm_up_a _ _ ha), fun j hj => (tm_up_k _ _ (by omega)).trans (tm_up_k _ _ (by omega)), ?_, fun j hj => ?_⟩
  · rw [e]
    intro j hj
    have hj : j < 2 := hj
    match j, hj with
    | 0, _ => exact tm_up_s _ _ _ _
    | 1, _ => exact (tm_up_k _ _ (by omega)).trans (tm_up_s _ _ _ _)
    | m + 2, hj => exact absurd hj (by omega)
  · by_cases z0 : j = b + 0
    · rw [z0, show mI (sI (sI M V (b + 1) (48 + v % 10)) V (b + 0) (48 + v / 10)) V (b + 0) = 48 + v / 10 from tm_up_s _ _ _ _]
      omega
    by_cases z1 : j = b + 1
    · rw [z1, show mI (sI (sI M V (b + 1) (48 + v % 10)) V (b + 0) (48 + v / 10)) V (b + 1) = 48 + v % 10 from (tm_up_k _ _ (by omega)).trans (tm_up_s _ _ _ _)]
      omega
    rw [show mI (sI (sI M V (b + 1) (48 + v % 10)) V (b + 0) (48 + v / 10)) V j = mI M V j from (tm_up_k _ _ (by omega)).trans (tm_up_k _ _ (by omega))]
    exact hj
theorem gC3 {M : tm_M} {V b : Nat} {v : Int} (h : 100 ≤ v ∧ v ≤ 999) : gC M V b v (sI (sI (sI M V (b + 2) (48 + v % 10)) V (b + 1) (48 + v / 10 % 10)) V (b + 0) (48 + v / 100)) := by
  have e : tl_dec v = [48 + v / 100, 48 + v / 10 % 10, 48 + v % 10] := by
    unfold tl_dec
    rw [if_neg (show ¬ v ≤ 9 by omega), if_neg (show ¬ v ≤ 99 by omega), if_pos (show v ≤ 999 by omega)]
  refine ⟨rfl, rfl, fun a k ha => (tm_up_a _ _ ha).trans ((tm_up_a _ _ ha).trans (tm_up_a _ _ ha)), fun j hj => (tm_up_k _ _ (by omega)).trans ((tm_up_k _ _ (by omega)).trans (tm_up_k _ _ (by omega))), ?_, fun j hj => ?_⟩
  · rw [e]
    intro j hj
    have hj : j < 3 := hj
    match j, hj with
    | 0, _ => exact tm_up_s _ _ _ _
    | 1, _ => exact (tm_up_k _ _ (by omega)).trans (tm_up_s _ _ _ _)
    | 2, _ => exact (tm_up_k _ _ (by omega)).trans ((tm_up_k _ _ (by omega)).trans (tm_up_s _ _ _ _))
    | m + 3, hj => exact absurd hj (by omega)
  · by_cases z0 : j = b + 0
    · rw [z0, show mI (sI (sI (sI M V (b + 2) (48 + v % 10)) V (b + 1) (48 + v / 10 % 10)) V (b + 0) (48 + v / 100)) V (b + 0) = 48 + v / 100 from tm_up_s _ _ _ _]
      omega
    by_cases z1 : j = b + 1
    · rw [z1, show mI (sI (sI (sI M V (b + 2) (48 + v % 10)) V (b + 1) (48 + v / 10 % 10)) V (b + 0) (48 + v / 100)) V (b + 1) = 48 + v / 10 % 10 from (tm_up_k _ _ (by omega)).trans (tm_up_s _ _ _ _)]
      omega
    by_cases z2 : j = b + 2
    · rw [z2, show mI (sI (sI (sI M V (b + 2) (48 + v % 10)) V (b + 1) (48 + v / 10 % 10)) V (b + 0) (48 + v / 100)) V (b + 2) = 48 + v % 10 from (tm_up_k _ _ (by omega)).trans ((tm_up_k _ _ (by omega)).trans (tm_up_s _ _ _ _))]
      omega
    rw [show mI (sI (sI (sI M V (b + 2) (48 + v % 10)) V (b + 1) (48 + v / 10 % 10)) V (b + 0) (48 + v / 100)) V j = mI M V j from (tm_up_k _ _ (by omega)).trans ((tm_up_k _ _ (by omega)).trans (tm_up_k _ _ (by omega)))]
    exact hj
theorem gC4 {M : tm_M} {V b : Nat} {v : Int} (h : 1000 ≤ v ∧ v ≤ 9999) : gC M V b v (sI (sI (sI (sI M V (b + 3) (48 + v % 10)) V (b + 2) (48 + v / 10 % 10)) V (b + 1) (48 + v / 100 % 10)) V (b + 0) (48 + v / 1000)) := by
  have e : tl_dec v = [48 + v / 1000, 48 + v / 100 % 10, 48 + v / 10 % 10, 48 + v % 10] := by
    unfold tl_dec
    rw [if_neg (show ¬ v ≤ 9 by omega), if_neg (show ¬ v ≤ 99 by omega), if_neg (show ¬ v ≤ 999 by omega)]
  refine ⟨rfl, rfl, fun a k ha => (tm_up_a _ _ ha).trans ((tm_up_a _ _ ha).trans ((tm_up_a _ _ ha).trans (tm_up_a _ _ ha))), fun j hj => (tm_up_k _ _ (by omega)).trans ((tm_up_k _ _ (by omega)).trans ((tm_up_k _ _ (by omega)).trans (tm_up_k _ _ (by omega)))), ?_, fun j hj => ?_⟩
  · rw [e]
    intro j hj
    have hj : j < 4 := hj
    match j, hj with
    | 0, _ => exact tm_up_s _ _ _ _
    | 1, _ => exact (tm_up_k _ _ (by omega)).trans (tm_up_s _ _ _ _)
    | 2, _ => exact (tm_up_k _ _ (by omega)).trans ((tm_up_k _ _ (by omega)).trans (tm_up_s _ _ _ _))
    | 3, _ => exact (tm_up_k _ _ (by omega)).trans ((tm_up_k _ _ (by omega)).trans ((tm_up_k _ _ (by omega)).trans (tm_up_s _ _ _ _)))
    | m + 4, hj => exact absurd hj (by omega)
  · by_cases z0 : j = b + 0
    · rw [z0, show mI (sI (sI (sI (sI M V (b + 3) (48 + v % 10)) V (b + 2) (48 + v / 10 % 10)) V (b + 1) (48 + v / 100 % 10)) V (b + 0) (48 + v / 1000)) V (b + 0) = 48 + v / 1000 from tm_up_s _ _ _ _]
      omega
    by_cases z1 : j = b + 1
    · rw [z1, show mI (sI (sI (sI (sI M V (b + 3) (48 + v % 10)) V (b + 2) (48 + v / 10 % 10)) V (b + 1) (48 + v / 100 % 10)) V (b + 0) (48 + v / 1000)) V (b + 1) = 48 + v / 100 % 10 from (tm_up_k _ _ (by omega)).trans (tm_up_s _ _ _ _)]
      omega
    by_cases z2 : j = b + 2
    · rw [z2, show mI (sI (sI (sI (sI M V (b + 3) (48 + v % 10)) V (b + 2) (48 + v / 10 % 10)) V (b + 1) (48 + v / 100 % 10)) V (b + 0) (48 + v / 1000)) V (b + 2) = 48 + v / 10 % 10 from (tm_up_k _ _ (by omega)).trans ((tm_up_k _ _ (by omega)).trans (tm_up_s _ _ _ _))]
      omega
    by_cases z3 : j = b + 3
    · rw [z3, show mI (sI (sI (sI (sI M V (b + 3) (48 + v % 10)) V (b + 2) (48 + v / 10 % 10)) V (b + 1) (48 + v / 100 % 10)) V (b + 0) (48 + v / 1000)) V (b + 3) = 48 + v % 10 from (tm_up_k _ _ (by omega)).trans ((tm_up_k _ _ (by omega)).trans ((tm_up_k _ _ (by omega)).trans (tm_up_s _ _ _ _)))]
      omega
    rw [show mI (sI (sI (sI (sI M V (b + 3) (48 + v % 10)) V (b + 2) (48 + v / 10 % 10)) V (b + 1) (48 + v / 100 % 10)) V (b + 0) (48 + v / 1000)) V j = mI M V j from (tm_up_k _ _ (by omega)).trans ((tm_up_k _ _ (by omega)).trans ((tm_up_k _ _ (by omega)).trans (tm_up_k _ _ (by omega))))]
    exact hj
theorem tl_dlc (v : Int) (hv : 0 ≤ v ∧ v ≤ 9999) : (v ≤ 9 → ((tl_dec v).length : Int) = 1) ∧ (10 ≤ v → v ≤ 99 → ((tl_dec v).length : Int) = 2) ∧ (100 ≤ v → v ≤ 999 → ((tl_dec v).length : Int) = 3) ∧ (1000 ≤ v → ((tl_dec v).length : Int) = 4) := ⟨fun h => tl_dl1 (by omega), fun h1 h2 => tl_dl2 (by omega), fun h1 h2 => tl_dl3 (by omega), fun h => tl_dl4 (by omega)⟩
theorem dJ6_getChars_ba4f3_0 : decode cJ6_getChars_ba4f3 0 = .ok (.iload_n 1, 1) := by decide +kernel
theorem dJ6_getChars_ba4f3_1 : decode cJ6_getChars_ba4f3 1 = .ok (.istore 5, 2) := by decide +kernel
theorem dJ6_getChars_ba4f3_3 : decode cJ6_getChars_ba4f3 3 = .ok (.iload_n 0, 1) := by decide +kernel
theorem dJ6_getChars_ba4f3_4 : decode cJ6_getChars_ba4f3 4 = .ok (.ifCond .ge 7, 3) := by decide +kernel
theorem dJ6_getChars_ba4f3_7 : decode cJ6_getChars_ba4f3 7 = .ok (.iconst 1, 1) := by decide +kernel
theorem dJ6_getChars_ba4f3_8 : decode cJ6_getChars_ba4f3 8 = .ok (.goto 4, 3) := by decide +kernel
theorem dJ6_getChars_ba4f3_11 : decode cJ6_getChars_ba4f3 11 = .ok (.iconst 0, 1) := by decide +kernel
theorem dJ6_getChars_ba4f3_12 : decode cJ6_getChars_ba4f3 12 = .ok (.istore 6, 2) := by decide +kernel
theorem dJ6_getChars_ba4f3_14 : decode cJ6_getChars_ba4f3 14 = .ok (.iload 6, 2) := by decide +kernel
theorem dJ6_getChars_ba4f3_16 : decode cJ6_getChars_ba4f3 16 = .ok (.ifCond .ne 6, 3) := by decide +kernel
theorem dJ6_getChars_ba4f3_19 : decode cJ6_getChars_ba4f3 19 = .ok (.iload_n 0, 1) := by decide +kernel
theorem dJ6_getChars_ba4f3_20 : decode cJ6_getChars_ba4f3 20 = .ok (.ineg, 1) := by decide +kernel
theorem dJ6_getChars_ba4f3_21 : decode cJ6_getChars_ba4f3 21 = .ok (.istore_n 0, 1) := by decide +kernel
theorem dJ6_getChars_ba4f3_22 : decode cJ6_getChars_ba4f3 22 = .ok (.iload_n 0, 1) := by decide +kernel
theorem dJ6_getChars_ba4f3_23 : decode cJ6_getChars_ba4f3 23 = .ok (.bipush (-100), 2) := by decide +kernel
theorem dJ6_getChars_ba4f3_25 : decode cJ6_getChars_ba4f3 25 = .ok (.if_icmp .gt 47, 3) := by decide +kernel
theorem dJ6_getChars_ba4f3_28 : decode cJ6_getChars_ba4f3 28 = .ok (.iload_n 0, 1) := by decide +kernel
theorem dJ6_getChars_ba4f3_29 : decode cJ6_getChars_ba4f3 29 = .ok (.bipush 100, 2) := by decide +kernel
theorem dJ6_getChars_ba4f3_31 : decode cJ6_getChars_ba4f3 31 = .ok (.idiv, 1) := by decide +kernel
theorem dJ6_getChars_ba4f3_32 : decode cJ6_getChars_ba4f3 32 = .ok (.istore_n 3, 1) := by decide +kernel
theorem dJ6_getChars_ba4f3_33 : decode cJ6_getChars_ba4f3 33 = .ok (.iload_n 3, 1) := by decide +kernel
theorem dJ6_getChars_ba4f3_34 : decode cJ6_getChars_ba4f3 34 = .ok (.bipush 100, 2) := by decide +kernel
theorem dJ6_getChars_ba4f3_36 : decode cJ6_getChars_ba4f3 36 = .ok (.imul, 1) := by decide +kernel
theorem dJ6_getChars_ba4f3_37 : decode cJ6_getChars_ba4f3 37 = .ok (.iload_n 0, 1) := by decide +kernel
theorem dJ6_getChars_ba4f3_38 : decode cJ6_getChars_ba4f3 38 = .ok (.isub, 1) := by decide +kernel
theorem dJ6_getChars_ba4f3_39 : decode cJ6_getChars_ba4f3 39 = .ok (.istore 4, 2) := by decide +kernel
theorem dJ6_getChars_ba4f3_41 : decode cJ6_getChars_ba4f3 41 = .ok (.iload_n 3, 1) := by decide +kernel
theorem dJ6_getChars_ba4f3_42 : decode cJ6_getChars_ba4f3 42 = .ok (.istore_n 0, 1) := by decide +kernel
theorem dJ6_getChars_ba4f3_43 : decode cJ6_getChars_ba4f3 43 = .ok (.aload_n 2, 1) := by decide +kernel
theorem dJ6_getChars_ba4f3_44 : decode cJ6_getChars_ba4f3 44 = .ok (.iinc 5 (-1), 3) := by decide +kernel
theorem dJ6_getChars_ba4f3_47 : decode cJ6_getChars_ba4f3 47 = .ok (.iload 5, 2) := by decide +kernel
theorem dJ6_getChars_ba4f3_49 : decode cJ6_getChars_ba4f3 49 = .ok (.getstatic 83, 3) := by decide +kernel
theorem dJ6_getChars_ba4f3_52 : decode cJ6_getChars_ba4f3 52 = .ok (.iload 4, 2) := by decide +kernel
theorem dJ6_getChars_ba4f3_54 : decode cJ6_getChars_ba4f3 54 = .ok (.baload, 1) := by decide +kernel
theorem dJ6_getChars_ba4f3_55 : decode cJ6_getChars_ba4f3 55 = .ok (.bastore, 1) := by decide +kernel
theorem dJ6_getChars_ba4f3_56 : decode cJ6_getChars_ba4f3 56 = .ok (.aload_n 2, 1) := by decide +kernel
theorem dJ6_getChars_ba4f3_57 : decode cJ6_getChars_ba4f3 57 = .ok (.iinc 5 (-1), 3) := by decide +kernel
theorem dJ6_getChars_ba4f3_60 : decode cJ6_getChars_ba4f3 60 = .ok (.iload 5, 2) := by decide +kernel
theorem dJ6_getChars_ba4f3_62 : decode cJ6_getChars_ba4f3 62 = .ok (.getstatic 87, 3) := by decide +kernel
theorem dJ6_getChars_ba4f3_65 : decode cJ6_getChars_ba4f3 65 = .ok (.iload 4, 2) := by decide +kernel
theorem dJ6_getChars_ba4f3_67 : decode cJ6_getChars_ba4f3 67 = .ok (.baload, 1) := by decide +kernel
theorem dJ6_getChars_ba4f3_68 : decode cJ6_getChars_ba4f3 68 = .ok (.bastore, 1) := by decide +kernel
theorem dJ6_getChars_ba4f3_69 : decode cJ6_getChars_ba4f3 69 = .ok (.goto (-47), 3) := by decide +kernel
theorem dJ6_getChars_ba4f3_72 : decode cJ6_getChars_ba4f3 72 = .ok (.aload_n 2, 1) := by decide +kernel
theorem dJ6_getChars_ba4f3_73 : decode cJ6_getChars_ba4f3 73 = .ok (.iinc 5 (-1), 3) := by decide +kernel
theorem dJ6_getChars_ba4f3_76 : decode cJ6_getChars_ba4f3 76 = .ok (.iload 5, 2) := by decide +kernel
theorem dJ6_getChars_ba4f3_78 : decode cJ6_getChars_ba4f3 78 = .ok (.getstatic 83, 3) := by decide +kernel
theorem dJ6_getChars_ba4f3_81 : decode cJ6_getChars_ba4f3 81 = .ok (.iload_n 0, 1) := by decide +kernel
theorem dJ6_getChars_ba4f3_82 : decode cJ6_getChars_ba4f3 82 = .ok (.ineg, 1) := by decide +kernel
theorem dJ6_getChars_ba4f3_83 : decode cJ6_getChars_ba4f3 83 = .ok (.baload, 1) := by decide +kernel
theorem dJ6_getChars_ba4f3_84 : decode cJ6_getChars_ba4f3 84 = .ok (.bastore, 1) := by decide +kernel
theorem dJ6_getChars_ba4f3_85 : decode cJ6_getChars_ba4f3 85 = .ok (.iload_n 0, 1) := by decide +kernel
theorem dJ6_getChars_ba4f3_86 : decode cJ6_getChars_ba4f3 86 = .ok (.bipush (-9), 2) := by decide +kernel
theorem dJ6_getChars_ba4f3_88 : decode cJ6_getChars_ba4f3 88 = .ok (.if_icmp .ge 16, 3) := by decide +kernel
theorem dJ6_getChars_ba4f3_91 : decode cJ6_getChars_ba4f3 91 = .ok (.aload_n 2, 1) := by decide +kernel
theorem dJ6_getChars_ba4f3_92 : decode cJ6_getChars_ba4f3 92 = .ok (.iinc 5 (-1), 3) := by decide +kernel
theorem dJ6_getChars_ba4f3_95 : decode cJ6_getChars_ba4f3 95 = .ok (.iload 5, 2) := by decide +kernel
theorem dJ6_getChars_ba4f3_97 : decode cJ6_getChars_ba4f3 97 = .ok (.getstatic 87, 3) := by decide +kernel
theorem dJ6_getChars_ba4f3_100 : decode cJ6_getChars_ba4f3 100 = .ok (.iload_n 0, 1) := by decide +kernel
theorem dJ6_getChars_ba4f3_101 : decode cJ6_getChars_ba4f3 101 = .ok (.ineg, 1) := by decide +kernel
theorem dJ6_getChars_ba4f3_102 : decode cJ6_getChars_ba4f3 102 = .ok (.baload, 1) := by decide +kernel
theorem dJ6_getChars_ba4f3_103 : decode cJ6_getChars_ba4f3 103 = .ok (.bastore, 1) := by decide +kernel
theorem dJ6_getChars_ba4f3_104 : decode cJ6_getChars_ba4f3 104 = .ok (.iload 6, 2) := by decide +kernel
theorem dJ6_getChars_ba4f3_106 : decode cJ6_getChars_ba4f3 106 = .ok (.ifCond .eq 12, 3) := by decide +kernel
theorem dJ6_getChars_ba4f3_109 : decode cJ6_getChars_ba4f3 109 = .ok (.aload_n 2, 1) := by decide +kernel
theorem dJ6_getChars_ba4f3_110 : decode cJ6_getChars_ba4f3 110 = .ok (.iinc 5 (-1), 3) := by decide +kernel
theorem dJ6_getChars_ba4f3_113 : decode cJ6_getChars_ba4f3 113 = .ok (.iload 5, 2) := by decide +kernel
theorem dJ6_getChars_ba4f3_115 : decode cJ6_getChars_ba4f3 115 = .ok (.bipush 45, 2) := by decide +kernel
theorem dJ6_getChars_ba4f3_117 : decode cJ6_getChars_ba4f3 117 = .ok (.bastore, 1) := by decide +kernel
theorem dJ6_getChars_ba4f3_118 : decode cJ6_getChars_ba4f3 118 = .ok (.iload 5, 2) := by decide +kernel
theorem dJ6_getChars_ba4f3_120 : decode cJ6_getChars_ba4f3 120 = .ok (.ireturn, 1) := by decide +kernel
set_option maxHeartbeats 1000000 in
set_option maxRecDepth 100000 in
/-- Integer.getChars -/
theorem c_J6_getChars {l : Launch} {G : tm_G} {Hb : Heap} {sh : tm_sh} {M : tm_M} {V cap h : Nat} {v e1 : Int} (hv : 0 ≤ v ∧ v ≤ 9999) (hV : sh V = some (22, cap)) (he : ((tl_dec v).length : Int) ≤ e1 ∧ e1 ≤ cap) (hcp : cap < 1000) : Met l yJ6_getChars_ba4f3 (tws yJ6_getChars_ba4f3 cJ6_getChars_ba4f3 7 (some .int)) ({ frames := 0, cells := 0, slots := 0, locals := 0 }) (va_Pc [ji v, ji e1, .ref V] (tz_St G Hb sh M h)) (tm_Qi G Hb sh (fun x M1 => gC M V (e1 - ((tl_dec v).length : Int)).toNat v M1)) 0 0 (tm_A Hb) := by
  refine tz_beginF (by decide +kernel) (Nat.le_of_ble_eq_true rfl) (fun p e s m below meth c ls hx hb hr hml hown htw hlk hnm hK hW hC hh hl => ?_)
  have hS : va_S (tm_A Hb) s.heap s.heap [] := va_S.rf
  have hl : lv_has ls 7 [(0, ji v), (1, ji e1), (2, .ref V)] := hl
  obtain ⟨d1, hZ1, hT1⟩ := hC.2.2.1
  obtain ⟨d2, hZ2, hT2⟩ := hC.2.2.2.1
  have hln := tl_dlc v hv
  refine lv_iload_n hx hb dJ6_getChars_ba4f3_0 rfl (lv_at hl 1 rfl) ?_
  refine lv_istore (lv' := [(5, _), (0, _), (1, _), (2, _)]) hx hb dJ6_getChars_ba4f3_1 hl (by decide) rfl (fun ls hl => ?_)
  refine lv_iload_n hx hb dJ6_getChars_ba4f3_3 rfl (lv_at hl 1 rfl) ?_
  refine ti_if_ge (tgt := 11) hx hb dJ6_getChars_ba4f3_4 (by decide) (by omega) (fun h4 => ?_) (fun h4 => ?_)
  · refine ti_iconst hx hb dJ6_getChars_ba4f3_11 ?_
    refine lv_istore (lv' := [(6, _), (5, _), (0, _), (1, _), (2, _)]) hx hb dJ6_getChars_ba4f3_12 hl (by decide) rfl (fun ls hl => ?_)
    refine lv_iload hx hb dJ6_getChars_ba4f3_14 (lv_at hl 0 rfl) ?_
    refine ti_if_ne (tgt := 22) hx hb dJ6_getChars_ba4f3_16 (by decide) (by decide) (fun h16 => ?_) (fun h16 => ?_)
    · exact absurd rfl h16
    · refine lv_iload_n hx hb dJ6_getChars_ba4f3_19 rfl (lv_at hl 2 rfl) ?_
      refine ti_ineg hx hb dJ6_getChars_ba4f3_20 ?_
      refine lv_istore_n (lv' := [(0, _), (6, _), (5, _), (1, _), (2, _)]) hx hb dJ6_getChars_ba4f3_21 rfl hl (by decide) rfl (fun ls hl => ?_)
      refine lv_iload_n hx hb dJ6_getChars_ba4f3_22 rfl (lv_at hl 0 rfl) ?_
      refine ti_bipush hx hb dJ6_getChars_ba4f3_23 (by decide) ?_
      refine ti_icmp_gt (tgt := 72) hx hb dJ6_getChars_ba4f3_25 (by decide) (by omega) (by decide) (fun h25 => ?_) (fun h25 => ?_)
      · refine lv_aload_n hx hb dJ6_getChars_ba4f3_72 rfl (lv_at hl 4 rfl) ?_
        refine ti_iinc (k := 2) (lv' := [(5, _), (0, _), (6, _), (1, _), (2, _)]) hx hb dJ6_getChars_ba4f3_73 hl rfl (by decide) rfl (fun ls hl => ?_)
        refine lv_iload hx hb dJ6_getChars_ba4f3_76 (lv_at hl 0 rfl) ?_
        refine va_gets hx hb hZ1 hS hown (htw _ fl_J6_83) (fun _ q => q) dJ6_getChars_ba4f3_78 ?_
        refine lv_iload_n hx hb dJ6_getChars_ba4f3_81 rfl (lv_at hl 1 rfl) ?_
        refine ti_ineg hx hb dJ6_getChars_ba4f3_82 ?_
        refine va_tb (v := ji (48 + ((((- -v)).toNat % 10 : Nat) : Int))) hx hb hT1 hS (tm_ix (e := (- -v)) (by omega) (by omega) (by decide)).1 (by rw [(tm_ix (e := (- -v)) (n := 100) (by omega) (by omega) (by decide)).2]) dJ6_getChars_ba4f3_83 ?_
        rw [show (48 + ((((- -v)).toNat % 10 : Nat) : Int)) = 48 + v % 10 by omega]
        refine tm_bast hx hb hK hW hS hV (by omega) (by omega) (by omega) (by omega) dJ6_getChars_ba4f3_84 (fun H locs hW hS => ?_)
        refine lv_iload_n hx hb dJ6_getChars_ba4f3_85 rfl (lv_at hl 1 rfl) ?_
        refine ti_bipush hx hb dJ6_getChars_ba4f3_86 (by decide) ?_
        refine ti_icmp_ge (tgt := 104) hx hb dJ6_getChars_ba4f3_88 (by decide) (by omega) (by decide) (fun h88 => ?_) (fun h88 => ?_)
        · refine lv_iload hx hb dJ6_getChars_ba4f3_104 (lv_at hl 2 rfl) ?_
          refine ti_if_eq (tgt := 118) hx hb dJ6_getChars_ba4f3_106 (by decide) (by decide) (fun h106 => ?_) (fun h106 => ?_)
          · have e9 : (sI M V (e1 + -1).toNat (48 + v % 10)) = (sI M V ((e1 - 1).toNat + 0) (48 + v)) := by rw [show (e1 + -1).toNat = (e1 - 1).toNat + 0 by omega, show v % 10 = v by omega]
            rw [e9] at hW
            refine lv_iload hx hb dJ6_getChars_ba4f3_118 (lv_at hl 0 rfl) ?_
            exact tm_iret hx hb hr hlk hK hW hS (by rw [show (e1 - ((tl_dec v).length : Int)).toNat = (e1 - 1).toNat by rw [tl_dl1 (by omega)]]; exact gC1 (by omega)) dJ6_getChars_ba4f3_120
          · exact absurd rfl h106
        · refine lv_aload_n hx hb dJ6_getChars_ba4f3_91 rfl (lv_at hl 4 rfl) ?_
          refine ti_iinc (k := 0) (lv' := [(5, _), (0, _), (6, _), (1, _), (2, _)]) hx hb dJ6_getChars_ba4f3_92 hl rfl (by decide) rfl (fun ls hl => ?_)
          refine lv_iload hx hb dJ6_getChars_ba4f3_95 (lv_at hl 0 rfl) ?_
          refine va_gets hx hb hZ2 hS hown (htw _ fl_J6_87) (fun _ q => q) dJ6_getChars_ba4f3_97 ?_
          refine lv_iload_n hx hb dJ6_getChars_ba4f3_100 rfl (lv_at hl 1 rfl) ?_
          refine ti_ineg hx hb dJ6_getChars_ba4f3_101 ?_
          refine va_tb (v := ji (48 + ((((- -v)).toNat / 10 : Nat) : Int))) hx hb hT2 hS (tm_ix (e := (- -v)) (by omega) (by omega) (by decide)).1 (by rw [(tm_ix (e := (- -v)) (n := 100) (by omega) (by omega) (by decide)).2]) dJ6_getChars_ba4f3_102 ?_
          rw [show (48 + ((((- -v)).toNat / 10 : Nat) : Int)) = 48 + v / 10 by omega]
          refine tm_bast hx hb hK hW hS hV (by omega) (by omega) (by omega) (by omega) dJ6_getChars_ba4f3_103 (fun H locs hW hS => ?_)
          refine lv_iload hx hb dJ6_getChars_ba4f3_104 (lv_at hl 2 rfl) ?_
          refine ti_if_eq (tgt := 118) hx hb dJ6_getChars_ba4f3_106 (by decide) (by decide) (fun h106 => ?_) (fun h106 => ?_)
          · have e9 : (sI (sI M V (e1 + -1).toNat (48 + v % 10)) V (e1 + -1 + -1).toNat (48 + v / 10)) = (sI (sI M V ((e1 - 2).toNat + 1) (48 + v % 10)) V ((e1 - 2).toNat + 0) (48 + v / 10)) := by rw [show (e1 + -1).toNat = (e1 - 2).toNat + 1 by omega, show (e1 + -1 + -1).toNat = (e1 - 2).toNat + 0 by omega]
            rw [e9] at hW
            refine lv_iload hx hb dJ6_getChars_ba4f3_118 (lv_at hl 0 rfl) ?_
            exact tm_iret hx hb hr hlk hK hW hS (by rw [show (e1 - ((tl_dec v).length : Int)).toNat = (e1 - 2).toNat by rw [tl_dl2 (by omega)]]; exact gC2 (by omega)) dJ6_getChars_ba4f3_120
          · exact absurd rfl h106
      · refine lv_iload_n hx hb dJ6_getChars_ba4f3_28 rfl (lv_at hl 0 rfl) ?_
        refine ti_bipush hx hb dJ6_getChars_ba4f3_29 (by decide) ?_
        refine ti_idiv hx hb dJ6_getChars_ba4f3_31 (by omega) (by decide) (by decide) ?_
        rw [tl_td1 hv.1]
        refine lv_istore_n (lv' := [(3, _), (0, _), (6, _), (5, _), (1, _), (2, _)]) hx hb dJ6_getChars_ba4f3_32 rfl hl (by decide) rfl (fun ls hl => ?_)
        refine lv_iload_n hx hb dJ6_getChars_ba4f3_33 rfl (lv_at hl 0 rfl) ?_
        refine ti_bipush hx hb dJ6_getChars_ba4f3_34 (by decide) ?_
        refine ti_imul hx hb dJ6_getChars_ba4f3_36 ?_
        refine lv_iload_n hx hb dJ6_getChars_ba4f3_37 rfl (lv_at hl 1 rfl) ?_
        refine ti_isub hx hb dJ6_getChars_ba4f3_38 ?_
        refine lv_istore (lv' := [(4, _), (3, _), (0, _), (6, _), (5, _), (1, _), (2, _)]) hx hb dJ6_getChars_ba4f3_39 hl (by decide) rfl (fun ls hl => ?_)
        refine lv_iload_n hx hb dJ6_getChars_ba4f3_41 rfl (lv_at hl 1 rfl) ?_
        refine lv_istore_n (lv' := [(0, _), (4, _), (3, _), (6, _), (5, _), (1, _), (2, _)]) hx hb dJ6_getChars_ba4f3_42 rfl hl (by decide) rfl (fun ls hl => ?_)
        refine lv_aload_n hx hb dJ6_getChars_ba4f3_43 rfl (lv_at hl 6 rfl) ?_
        refine ti_iinc (k := 4) (lv' := [(5, _), (0, _), (4, _), (3, _), (6, _), (1, _), (2, _)]) hx hb dJ6_getChars_ba4f3_44 hl rfl (by decide) rfl (fun ls hl => ?_)
        refine lv_iload hx hb dJ6_getChars_ba4f3_47 (lv_at hl 0 rfl) ?_
        refine va_gets hx hb hZ1 hS hown (htw _ fl_J6_83) (fun _ q => q) dJ6_getChars_ba4f3_49 ?_
        refine lv_iload hx hb dJ6_getChars_ba4f3_52 (lv_at hl 2 rfl) ?_
        refine va_tb (v := ji (48 + ((((-(v / 100) * 100 - -v)).toNat % 10 : Nat) : Int))) hx hb hT1 hS (tm_ix (e := (-(v / 100) * 100 - -v)) (by omega) (by omega) (by decide)).1 (by rw [(tm_ix (e := (-(v / 100) * 100 - -v)) (n := 100) (by omega) (by omega) (by decide)).2]) dJ6_getChars_ba4f3_54 ?_
        rw [show (48 + ((((-(v / 100) * 100 - -v)).toNat % 10 : Nat) : Int)) = 48 + v % 10 by omega]
        refine tm_bast hx hb hK hW hS hV (by omega) (by omega) (by omega) (by omega) dJ6_getChars_ba4f3_55 (fun H locs hW hS => ?_)
        refine lv_aload_n hx hb dJ6_getChars_ba4f3_56 rfl (lv_at hl 6 rfl) ?_
        refine ti_iinc (k := 0) (lv' := [(5, _), (0, _), (4, _), (3, _), (6, _), (1, _), (2, _)]) hx hb dJ6_getChars_ba4f3_57 hl rfl (by decide) rfl (fun ls hl => ?_)
        refine lv_iload hx hb dJ6_getChars_ba4f3_60 (lv_at hl 0 rfl) ?_
        refine va_gets hx hb hZ2 hS hown (htw _ fl_J6_87) (fun _ q => q) dJ6_getChars_ba4f3_62 ?_
        refine lv_iload hx hb dJ6_getChars_ba4f3_65 (lv_at hl 2 rfl) ?_
        refine va_tb (v := ji (48 + ((((-(v / 100) * 100 - -v)).toNat / 10 : Nat) : Int))) hx hb hT2 hS (tm_ix (e := (-(v / 100) * 100 - -v)) (by omega) (by omega) (by decide)).1 (by rw [(tm_ix (e := (-(v / 100) * 100 - -v)) (n := 100) (by omega) (by omega) (by decide)).2]) dJ6_getChars_ba4f3_67 ?_
        rw [show (48 + ((((-(v / 100) * 100 - -v)).toNat / 10 : Nat) : Int)) = 48 + v / 10 % 10 by omega]
        refine tm_bast hx hb hK hW hS hV (by omega) (by omega) (by omega) (by omega) dJ6_getChars_ba4f3_68 (fun H locs hW hS => ?_)
        refine lv_goto (tgt := 22) hx hb dJ6_getChars_ba4f3_69 (by decide) ?_
        refine lv_iload_n hx hb dJ6_getChars_ba4f3_22 rfl (lv_at hl 1 rfl) ?_
        refine ti_bipush hx hb dJ6_getChars_ba4f3_23 (by decide) ?_
        refine ti_icmp_gt (tgt := 72) hx hb dJ6_getChars_ba4f3_25 (by decide) (by omega) (by decide) (fun h25 => ?_) (fun h25 => ?_)
        · refine lv_aload_n hx hb dJ6_getChars_ba4f3_72 rfl (lv_at hl 6 rfl) ?_
          refine ti_iinc (k := 0) (lv' := [(5, _), (0, _), (4, _), (3, _), (6, _), (1, _), (2, _)]) hx hb dJ6_getChars_ba4f3_73 hl rfl (by decide) rfl (fun ls hl => ?_)
          refine lv_iload hx hb dJ6_getChars_ba4f3_76 (lv_at hl 0 rfl) ?_
          refine va_gets hx hb hZ1 hS hown (htw _ fl_J6_83) (fun _ q => q) dJ6_getChars_ba4f3_78 ?_
          refine lv_iload_n hx hb dJ6_getChars_ba4f3_81 rfl (lv_at hl 1 rfl) ?_
          refine ti_ineg hx hb dJ6_getChars_ba4f3_82 ?_
          refine va_tb (v := ji (48 + ((((- -(v / 100))).toNat % 10 : Nat) : Int))) hx hb hT1 hS (tm_ix (e := (- -(v / 100))) (by omega) (by omega) (by decide)).1 (by rw [(tm_ix (e := (- -(v / 100))) (n := 100) (by omega) (by omega) (by decide)).2]) dJ6_getChars_ba4f3_83 ?_
          rw [show (48 + ((((- -(v / 100))).toNat % 10 : Nat) : Int)) = 48 + v / 100 % 10 by omega]
          refine tm_bast hx hb hK hW hS hV (by omega) (by omega) (by omega) (by omega) dJ6_getChars_ba4f3_84 (fun H locs hW hS => ?_)
          refine lv_iload_n hx hb dJ6_getChars_ba4f3_85 rfl (lv_at hl 1 rfl) ?_
          refine ti_bipush hx hb dJ6_getChars_ba4f3_86 (by decide) ?_
          refine ti_icmp_ge (tgt := 104) hx hb dJ6_getChars_ba4f3_88 (by decide) (by omega) (by decide) (fun h88 => ?_) (fun h88 => ?_)
          · refine lv_iload hx hb dJ6_getChars_ba4f3_104 (lv_at hl 4 rfl) ?_
            refine ti_if_eq (tgt := 118) hx hb dJ6_getChars_ba4f3_106 (by decide) (by decide) (fun h106 => ?_) (fun h106 => ?_)
            · have e9 : (sI (sI (sI M V (e1 + -1).toNat (48 + v % 10)) V (e1 + -1 + -1).toNat (48 + v / 10 % 10)) V (e1 + -1 + -1 + -1).toNat (48 + v / 100 % 10)) = (sI (sI (sI M V ((e1 - 3).toNat + 2) (48 + v % 10)) V ((e1 - 3).toNat + 1) (48 + v / 10 % 10)) V ((e1 - 3).toNat + 0) (48 + v / 100)) := by rw [show (e1 + -1).toNat = (e1 - 3).toNat + 2 by omega, show (e1 + -1 + -1).toNat = (e1 - 3).toNat + 1 by omega, show (e1 + -1 + -1 + -1).toNat = (e1 - 3).toNat + 0 by omega, show v / 100 % 10 = v / 100 by omega]
              rw [e9] at hW
              refine lv_iload hx hb dJ6_getChars_ba4f3_118 (lv_at hl 0 rfl) ?_
              exact tm_iret hx hb hr hlk hK hW hS (by rw [show (e1 - ((tl_dec v).length : Int)).toNat = (e1 - 3).toNat by rw [tl_dl3 (by omega)]]; exact gC3 (by omega)) dJ6_getChars_ba4f3_120
            · exact absurd rfl h106
          · refine lv_aload_n hx hb dJ6_getChars_ba4f3_91 rfl (lv_at hl 6 rfl) ?_
            refine ti_iinc (k := 0) (lv' := [(5, _), (0, _), (4, _), (3, _), (6, _), (1, _), (2, _)]) hx hb dJ6_getChars_ba4f3_92 hl rfl (by decide) rfl (fun ls hl => ?_)
            refine lv_iload hx hb dJ6_getChars_ba4f3_95 (lv_at hl 0 rfl) ?_
            refine va_gets hx hb hZ2 hS hown (htw _ fl_J6_87) (fun _ q => q) dJ6_getChars_ba4f3_97 ?_
            refine lv_iload_n hx hb dJ6_getChars_ba4f3_100 rfl (lv_at hl 1 rfl) ?_
            refine ti_ineg hx hb dJ6_getChars_ba4f3_101 ?_
            refine va_tb (v := ji (48 + ((((- -(v / 100))).toNat / 10 : Nat) : Int))) hx hb hT2 hS (tm_ix (e := (- -(v / 100))) (by omega) (by omega) (by decide)).1 (by rw [(tm_ix (e := (- -(v / 100))) (n := 100) (by omega) (by omega) (by decide)).2]) dJ6_getChars_ba4f3_102 ?_
            rw [show (48 + ((((- -(v / 100))).toNat / 10 : Nat) : Int)) = 48 + v / 1000 by omega]
            refine tm_bast hx hb hK hW hS hV (by omega) (by omega) (by omega) (by omega) dJ6_getChars_ba4f3_103 (fun H locs hW hS => ?_)
            refine lv_iload hx hb dJ6_getChars_ba4f3_104 (lv_at hl 4 rfl) ?_
            refine ti_if_eq (tgt := 118) hx hb dJ6_getChars_ba4f3_106 (by decide) (by decide) (fun h106 => ?_) (fun h106 => ?_)
            · have e9 : (sI (sI (sI (sI M V (e1 + -1).toNat (48 + v % 10)) V (e1 + -1 + -1).toNat (48 + v / 10 % 10)) V (e1 + -1 + -1 + -1).toNat (48 + v / 100 % 10)) V (e1 + -1 + -1 + -1 + -1).toNat (48 + v / 1000)) = (sI (sI (sI (sI M V ((e1 - 4).toNat + 3) (48 + v % 10)) V ((e1 - 4).toNat + 2) (48 + v / 10 % 10)) V ((e1 - 4).toNat + 1) (48 + v / 100 % 10)) V ((e1 - 4).toNat + 0) (48 + v / 1000)) := by rw [show (e1 + -1).toNat = (e1 - 4).toNat + 3 by omega, show (e1 + -1 + -1).toNat = (e1 - 4).toNat + 2 by omega, show (e1 + -1 + -1 + -1).toNat = (e1 - 4).toNat + 1 by omega, show (e1 + -1 + -1 + -1 + -1).toNat = (e1 - 4).toNat + 0 by omega]
              rw [e9] at hW
              refine lv_iload hx hb dJ6_getChars_ba4f3_118 (lv_at hl 0 rfl) ?_
              exact tm_iret hx hb hr hlk hK hW hS (by rw [show (e1 - ((tl_dec v).length : Int)).toNat = (e1 - 4).toNat by rw [tl_dl4 (by omega)]]; exact gC4 (by omega)) dJ6_getChars_ba4f3_120
            · exact absurd rfl h106
        · exact absurd h25 (by omega)
  · exact absurd hv.1 h4
