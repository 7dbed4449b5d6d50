/-! letters; printed; the law's methods with a catch (by program: wip/whole/gen/lw2.py) -/
theorem dec_let {v : Int} (h : 0 ≤ v ∧ v ≤ 9999) : ∀ x ∈ tl_dec v, 0 ≤ x ∧ x < 128 := by
  intro x hx
  unfold tl_dec at hx
  split at hx
  · simp only [List.mem_cons, List.not_mem_nil, or_false] at hx; omega
  split at hx
  · simp only [List.mem_cons, List.not_mem_nil, or_false] at hx; omega
  split at hx
  · simp only [List.mem_cons, List.not_mem_nil, or_false] at hx; omega
  · simp only [List.mem_cons, List.not_mem_nil, or_false] at hx; omega
theorem siz_let {f : tl_F} (h : fok f) : ∀ x ∈ tl_siz f, 0 ≤ x ∧ x < 128 := by
  intro x hx
  obtain ⟨h1, h2, h3, h4⟩ := h
  unfold tl_siz at hx
  rcases List.mem_append.mp hx with q | q
  · exact dec_let (by unfold tl_abs; split <;> omega) x q
  · split at q
    · cases q
    · rcases List.mem_cons.mp q with q | q
      · omega
      · exact dec_let (by omega) x q
theorem mns_let {v : Int} : ∀ x ∈ tl_mns v, 0 ≤ x ∧ x < 128 := by
  intro x hx
  unfold tl_mns at hx
  split at hx
  · simp only [List.mem_cons, List.not_mem_nil, or_false] at hx; omega
  · cases hx
theorem sid_let {v : tl_S} (h : sok v) : ∀ x ∈ tl_sid v, 0 ≤ x ∧ x < 128 := by
  intro x hx
  unfold tl_sid at hx
  split at hx
  · rcases List.mem_append.mp hx with q | q
    · exact mns_let x q
    · exact siz_let h.2 x q
  · rcases List.mem_append.mp hx with q | q
    · rcases List.mem_append.mp q with q | q
      · rcases List.mem_append.mp q with q | q
        · exact mns_let x q
        · split at q
          · cases q
          · exact siz_let h.1 x q
      · simp only [List.mem_cons, List.not_mem_nil, or_false] at q; omega
    · split at q
      · cases q
      · rcases List.mem_append.mp q with q | q
        · simp only [List.mem_cons, List.not_mem_nil, or_false] at q
          rcases q with q | q | q
          · omega
          · split at q <;> omega
          · omega
        · exact siz_let h.2 x q
theorem prt_let {v : tl_L} (h : lok v) : ∀ x ∈ tl_prt v, 0 ≤ x ∧ x < 128 := by
  intro x hx
  unfold tl_prt at hx
  rcases List.mem_append.mp hx with q | q
  · rcases List.mem_append.mp q with q | q
    · exact sid_let h.1 x q
    · simp only [List.mem_cons, List.not_mem_nil, or_false] at q
      rcases q with q | q | q
      · omega
      · unfold tl_rch at q; split at q
        · omega
        · split at q <;> omega
      · omega
  · exact sid_let h.2.1 x q
def PLt (px : List Int) : Prop := px.length ≤ 128 ∧ ∀ j, j < px.length → 0 ≤ px.getD j 0 ∧ px.getD j 0 < 128
theorem PLt_0 : PLt [] := ⟨by decide, fun j hj => absurd hj (Nat.not_lt_zero j)⟩
theorem PLt_prt {v : tl_L} (h : lok v) : PLt (tl_prt v) := by
  refine ⟨?_, fun j hj => ?_⟩
  · have h1 := tl_sid_l v.1
    have h2 := tl_sid_l v.2.1
    unfold tl_prt
    rw [List.length_append, List.length_append]
    show _ + 3 + _ ≤ 128
    omega
  · rw [List.getD_eq_getElem?_getD, List.getElem?_eq_getElem hj, Option.getD_some]
    exact prt_let h _ (List.getElem_mem hj)
theorem tl_bi {x : Int} {q : Prop} {dq : Decidable q} (h : x = @ite Int q dq 1 0) (h0 : ¬ x = 0) : (1 : Int) = @ite Int q dq 1 0 := by
  by_cases hq : q
  · rw [if_pos hq]
  · rw [if_neg hq] at h; exact absurd h h0
theorem tl_bj {x : Int} {q : Prop} {dq : Decidable q} (h : x = @ite Int q dq 0 1) (h0 : ¬ x = 0) : (1 : Int) = @ite Int q dq 0 1 := by
  by_cases hq : q
  · rw [if_pos hq] at h; exact absurd h h0
  · rw [if_neg hq]
theorem dX8_printed_0 : decode cX8_printed 0 = .ok (.aload_n 0, 1) := by decide +kernel
theorem dX8_printed_1 : decode cX8_printed 1 = .ok (.getfield 54, 3) := by decide +kernel
theorem dX8_printed_4 : decode cX8_printed 4 = .ok (.iload_n 1, 1) := by decide +kernel
theorem dX8_printed_5 : decode cX8_printed 5 = .ok (.invokevirtual 160, 3) := by decide +kernel
theorem dX8_printed_8 : decode cX8_printed 8 = .ok (.ireturn, 1) := by decide +kernel
set_option maxHeartbeats 1000000 in
/-- TutorLines.printed -/
theorem c_X8_printed {l : Launch} {G : tm_G} {Hb : Heap} {sh : tm_sh} {M : tm_M} {T V cap h : Nat} {px : List Int} (hT : isTL sh M T) (hPr : mR M (T + 390) 0 = some (T + 391)) (s1 : isSB sh M (T + 391) V cap px) {i : Int} (hi : inI i) (hpa : PLt px) : Met l yX8_printed (tws yX8_printed cX8_printed 2 (some .int)) ({ frames := 5, cells := 0, slots := 0, locals := 109 }) (va_Pc [.ref T, ji i] (tz_St G Hb sh M h)) (tm_Qi G Hb sh (fun x M1 => x = tl_pr px i ∧ M1 = M)) 0 0 (tm_A Hb) := by
  refine tz_begin (by decide) (Nat.le_of_ble_eq_true rfl) (fun p e s m below meth c ls hx hb hr hml hown htw hlk hnm hK hW hC hh hl => ?_)
  have hS : va_S (tm_A Hb) s.heap s.heap [] := va_S.rf
  have hl : lv_has ls 2 [(0, .ref T), (1, ji i)] := hl
  have a0 := hT.1
  have r11 := hT.2.1.2.2.2.2.2.2.2.2.1
  have s390 := hT.2.2.1.2.2.2.2.1
  refine lv_aload_n hx hb dX8_printed_0 rfl (lv_at hl 0 rfl) ?_
  refine gf_X8_54 hx hb htw hown hK hW a0 r11 dX8_printed_1 ?_
  refine lv_iload_n hx hb dX8_printed_4 rfl (lv_at hl 1 rfl) ?_
  refine tm_calli (cq_X8_160 hx hb hml hown htw (tz_preV hK hW hC hS hh s390 (by decide) rfl) (c_X2_byteAt (P := T + 390) (q := T + 391) (h := h) ⟨s390, hPr⟩ s1 hi hpa.2) ⟨rfl, rfl, Nat.le_of_ble_eq_true rfl, Nat.le_of_ble_eq_true rfl⟩ hl.1 (Nat.le_of_ble_eq_true rfl) dX8_printed_5 ⟨(by first | omega | (dsimp only; omega)), (by first | omega | (dsimp only; omega))⟩) hS (fun x5 M5 H locs hp5 hW hS => ?_)
  obtain ⟨ex5, eM5⟩ := hp5
  rw [eM5] at hW
  rw [ex5]
  exact tm_iret hx hb hr hlk hK hW hS ⟨rfl, rfl⟩ dX8_printed_8
theorem dL_put_0 : decode cL_put 0 = .ok (.aload_n 0, 1) := by decide +kernel
theorem dL_put_1 : decode cL_put 1 = .ok (.iload_n 1, 1) := by decide +kernel
theorem dL_put_2 : decode cL_put 2 = .ok (.iload_n 2, 1) := by decide +kernel
theorem dL_put_3 : decode cL_put 3 = .ok (.invokevirtual 7, 3) := by decide +kernel
theorem dL_put_6 : decode cL_put 6 = .ok (.goto 6, 3) := by decide +kernel
theorem dL_put_9 : decode cL_put 9 = .ok (.astore_n 3, 1) := by decide +kernel
theorem dL_put_10 : decode cL_put 10 = .ok (.iconst 1, 1) := by decide +kernel
theorem dL_put_11 : decode cL_put 11 = .ok (.ireturn, 1) := by decide +kernel
theorem dL_put_12 : decode cL_put 12 = .ok (.iconst 0, 1) := by decide +kernel
theorem dL_put_13 : decode cL_put 13 = .ok (.ireturn, 1) := by decide +kernel
set_option maxHeartbeats 1000000 in
/-- the law's put -/
theorem c_L_put {l : Launch} {G : tm_G} {Hb : Heap} {sh : tm_sh} {M : tm_M} {T h : Nat} {z zm : tl_Z} {px pm : List Int} (h9 : l.stackTraces = false) (J : LJ sh M T z px zm pm) (hI : ZI z) {i : Int} (hi : inI i) {v : Int} (hv : inI v) : Met l yL_put (twh yL_put cL_put 4 (some .int) [(0, 6, 9, 13)]) ({ frames := 8, cells := 1, slots := 6, locals := 134 }) (va_Pc [.ref T, ji i, ji v] (lt_St G Hb sh M h)) (tm_Qi G Hb sh (fun x M1 => (x = 0 ∧ (0 ≤ i ∧ i ≤ 79) ∧ LJ sh M1 T (zputk z i v 4) px zm pm) ∨ (x = 1 ∧ ¬ (0 ≤ i ∧ i ≤ 79) ∧ LJ sh M1 T z px zm pm))) 1 6 (tm_A Hb) := by
  refine lt_begin (by decide) (Nat.le_of_ble_eq_true rfl) (fun p e s m below meth c ls hx hb hr hml hown htw hlk htab hK hW hC hN hh hl => ?_)
  have hS : va_S (tm_A Hb) s.heap s.heap [] := va_S.rf
  have hl : lv_has ls 4 [(0, .ref T), (1, ji i), (2, ji v)] := hl
  have ht : c.exceptionTable.toList = [⟨0, 6, 9, 13⟩] := htab
  have hB := hC.1.1
  have a0 := J.1.1
  have u0 := J.2.2.2.2.2.2
  refine lv_aload_n hx hb dL_put_0 rfl (lv_at hl 0 rfl) ?_
  refine lv_iload_n hx hb dL_put_1 rfl (lv_at hl 1 rfl) ?_
  refine lv_iload_n hx hb dL_put_2 rfl (lv_at hl 2 rfl) ?_
  refine tx_callv (cx_L_7 hx hb hml hown htw hK hW hB hS a0 (c_X8_put h9 J.1 J.2.1 hi hv) ⟨rfl, rfl, Nat.le_of_ble_eq_true rfl, Nat.le_of_ble_eq_true rfl⟩ hl.1 (Nat.le_of_ble_eq_true rfl) dL_put_3 ⟨(Nat.le_of_ble_eq_true rfl), (Nat.le_of_ble_eq_true rfl)⟩) hS (fun E9 ce9 q9 M9 H locs hp9 hW hS h91 h92 h93 => ?_) (fun M8 H locs hp8 hW hS => ?_)
  · obtain ⟨rfl, hc9, eM9⟩ := hp9
    rw [eM9] at hW
    refine lc_catch hown ht (by decide) (by decide) (htw _ kl_L_13) rfl h91 h92 h93 ?_
    change W _ _ _ _ _ _ _ _ _ _ _ _ _ _ _ (F0 m 9 ls [.ref q9])
    refine lv_astore_n (lv' := [(3, _), (0, _), (1, _), (2, _)]) hx hb dL_put_9 rfl hl (by decide) rfl (fun ls hl => ?_)
    refine ti_iconst hx hb dL_put_10 ?_
    exact W.widen (k := 1) (n := 6) (Nat.le_of_ble_eq_true rfl) (Nat.le_of_ble_eq_true rfl) (tm_iret hx hb hr hlk hK hW hS (Or.inr ⟨rfl, hc9, J⟩) dL_put_11)
  refine lv_goto (tgt := 12) hx hb dL_put_6 (by decide) ?_
  refine ti_iconst hx hb dL_put_12 ?_
  exact W.widen (k := 1) (n := 6) (Nat.le_of_ble_eq_true rfl) (Nat.le_of_ble_eq_true rfl) (tm_iret hx hb hr hlk hK hW hS (Or.inl ⟨rfl, hp8.1, LJ_x J hp8.2⟩) dL_put_13)
theorem dL_begin_0 : decode cL_begin 0 = .ok (.aload_n 2, 1) := by decide +kernel
theorem dL_begin_1 : decode cL_begin 1 = .ok (.iconst 0, 1) := by decide +kernel
theorem dL_begin_2 : decode cL_begin 2 = .ok (.aload_n 0, 1) := by decide +kernel
theorem dL_begin_3 : decode cL_begin 3 = .ok (.iload_n 1, 1) := by decide +kernel
theorem dL_begin_4 : decode cL_begin 4 = .ok (.invokevirtual 15, 3) := by decide +kernel
theorem dL_begin_7 : decode cL_begin 7 = .ok (.i2l, 1) := by decide +kernel
theorem dL_begin_8 : decode cL_begin 8 = .ok (.lastore, 1) := by decide +kernel
theorem dL_begin_9 : decode cL_begin 9 = .ok (.goto 6, 3) := by decide +kernel
theorem dL_begin_12 : decode cL_begin 12 = .ok (.astore_n 3, 1) := by decide +kernel
theorem dL_begin_13 : decode cL_begin 13 = .ok (.iconst 1, 1) := by decide +kernel
theorem dL_begin_14 : decode cL_begin 14 = .ok (.ireturn, 1) := by decide +kernel
theorem dL_begin_15 : decode cL_begin 15 = .ok (.iconst 0, 1) := by decide +kernel
theorem dL_begin_16 : decode cL_begin 16 = .ok (.ireturn, 1) := by decide +kernel
set_option maxHeartbeats 1000000 in
/-- the law's begin -/
theorem c_L_begin {l : Launch} {G : tm_G} {Hb : Heap} {sh : tm_sh} {M : tm_M} {T h : Nat} {z zm : tl_Z} {px pm : List Int} (h9 : l.stackTraces = false) (J : LJ sh M T z px zm pm) (hI : ZI z) {w : Int} (hw : inI w) : Met l yL_begin (twh yL_begin cL_begin 4 (some .int) [(0, 9, 12, 13)]) ({ frames := 71, cells := 1, slots := 6, locals := 1511 }) (va_Pc [.ref T, ji w, .ref (T + 408)] (lt_St G Hb sh M h)) (tm_Qi G Hb sh (fun x M1 => (x = 0 ∧ (0 ≤ w ∧ w ≤ 80) ∧ LJ sh M1 T (sp_begin z w.toNat).2 px zm pm ∧ mL M1 (T + 408) 0 = w32 (sp_begin z w.toNat).1) ∨ (x = 1 ∧ ¬ (0 ≤ w ∧ w ≤ 80) ∧ LJ sh M1 T z px zm pm))) 1 6 (tm_A Hb) := by
  refine lt_begin (by decide) (Nat.le_of_ble_eq_true rfl) (fun p e s m below meth c ls hx hb hr hml hown htw hlk htab hK hW hC hN hh hl => ?_)
  have hS : va_S (tm_A Hb) s.heap s.heap [] := va_S.rf
  have hl : lv_has ls 4 [(0, .ref T), (1, ji w), (2, .ref (T + 408))] := hl
  have ht : c.exceptionTable.toList = [⟨0, 9, 12, 13⟩] := htab
  have hB := hC.1.1
  have a0 := J.1.1
  have u0 := J.2.2.2.2.2.2
  refine lv_aload_n hx hb dL_begin_0 rfl (lv_at hl 2 rfl) ?_
  refine ti_iconst hx hb dL_begin_1 ?_
  refine lv_aload_n hx hb dL_begin_2 rfl (lv_at hl 0 rfl) ?_
  refine lv_iload_n hx hb dL_begin_3 rfl (lv_at hl 1 rfl) ?_
  refine tx_calli (cx_L_15 hx hb hml hown htw hK hW hB hS a0 (c_X8_begin h9 J.1 J.2.1 hw) ⟨rfl, rfl, Nat.le_of_ble_eq_true rfl, Nat.le_of_ble_eq_true rfl⟩ hl.1 (Nat.le_of_ble_eq_true rfl) dL_begin_4 ⟨(Nat.le_of_ble_eq_true rfl), (Nat.le_of_ble_eq_true rfl)⟩) hS (fun E9 ce9 q9 M9 H locs hp9 hW hS h91 h92 h93 => ?_) (fun x8 M8 H locs hp8 hW hS => ?_)
  · obtain ⟨rfl, hc9, eM9⟩ := hp9
    rw [eM9] at hW
    refine lc_catch hown ht (by decide) (by decide) (htw _ kl_L_13) rfl h91 h92 h93 ?_
    change W _ _ _ _ _ _ _ _ _ _ _ _ _ _ _ (F0 m 12 ls [.ref q9])
    refine lv_astore_n (lv' := [(3, _), (0, _), (1, _), (2, _)]) hx hb dL_begin_12 rfl hl (by decide) rfl (fun ls hl => ?_)
    refine ti_iconst hx hb dL_begin_13 ?_
    exact W.widen (k := 1) (n := 6) (Nat.le_of_ble_eq_true rfl) (Nat.le_of_ble_eq_true rfl) (tm_iret hx hb hr hlk hK hW hS (Or.inr ⟨rfl, hc9, J⟩) dL_begin_14)
  refine ti_i2lw hx hb dL_begin_7 ?_
  refine tm_last hx hb hK hW hS u0 (by omega) (by omega) (by decide) dL_begin_8 (fun H locs hW hS => ?_)
  refine lv_goto (tgt := 15) hx hb dL_begin_9 (by decide) ?_
  refine ti_iconst hx hb dL_begin_15 ?_
  exact W.widen (k := 1) (n := 6) (Nat.le_of_ble_eq_true rfl) (Nat.le_of_ble_eq_true rfl) (tm_iret hx hb hr hlk hK hW hS (Or.inl ⟨rfl, hp8.1, LJ_u (LJ_x J hp8.2.2), (tm_up_s _ _ _ _).trans (congrArg w32 hp8.2.1)⟩) dL_begin_16)
theorem dL_step_0 : decode cL_step 0 = .ok (.aload_n 2, 1) := by decide +kernel
theorem dL_step_1 : decode cL_step 1 = .ok (.iconst 0, 1) := by decide +kernel
theorem dL_step_2 : decode cL_step 2 = .ok (.aload_n 0, 1) := by decide +kernel
theorem dL_step_3 : decode cL_step 3 = .ok (.iload_n 1, 1) := by decide +kernel
theorem dL_step_4 : decode cL_step 4 = .ok (.invokevirtual 19, 3) := by decide +kernel
theorem dL_step_7 : decode cL_step 7 = .ok (.i2l, 1) := by decide +kernel
theorem dL_step_8 : decode cL_step 8 = .ok (.lastore, 1) := by decide +kernel
theorem dL_step_9 : decode cL_step 9 = .ok (.goto 9, 3) := by decide +kernel
theorem dL_step_12 : decode cL_step 12 = .ok (.astore_n 3, 1) := by decide +kernel
theorem dL_step_13 : decode cL_step 13 = .ok (.iconst 1, 1) := by decide +kernel
theorem dL_step_14 : decode cL_step 14 = .ok (.ireturn, 1) := by decide +kernel
theorem dL_step_15 : decode cL_step 15 = .ok (.astore_n 3, 1) := by decide +kernel
theorem dL_step_16 : decode cL_step 16 = .ok (.iconst 2, 1) := by decide +kernel
theorem dL_step_17 : decode cL_step 17 = .ok (.ireturn, 1) := by decide +kernel
theorem dL_step_18 : decode cL_step 18 = .ok (.iconst 0, 1) := by decide +kernel
theorem dL_step_19 : decode cL_step 19 = .ok (.ireturn, 1) := by decide +kernel
set_option maxHeartbeats 1000000 in
/-- the law's step -/
theorem c_L_step {l : Launch} {G : tm_G} {Hb : Heap} {sh : tm_sh} {M : tm_M} {T h : Nat} {z zm : tl_Z} {px pm : List Int} (h9 : l.stackTraces = false) (J : LJ sh M T z px zm pm) (hI : ZI z) {w : Int} (hw : inI w) : Met l yL_step (twh yL_step cL_step 4 (some .int) [(0, 9, 12, 13), (0, 9, 15, 22)]) ({ frames := 71, cells := 3, slots := 18, locals := 1512 }) (va_Pc [.ref T, ji w, .ref (T + 408)] (lt_St G Hb sh M h)) (tm_Qi G Hb sh (fun x M1 => (x = 0 ∧ ((0 ≤ w ∧ w ≤ 80) ∧ (0 < zn z ∧ zn z < 40)) ∧ LJ sh M1 T (sp_step z w.toNat).2 px zm pm ∧ mL M1 (T + 408) 0 = w32 (sp_step z w.toNat).1) ∨ (x = 1 ∧ ¬ (0 ≤ w ∧ w ≤ 80) ∧ LJ sh M1 T z px zm pm) ∨ (x = 2 ∧ ((0 ≤ w ∧ w ≤ 80) ∧ (zn z = 0 ∨ zn z = 40)) ∧ LJ sh M1 T z px zm pm))) 3 18 (tm_A Hb) := by
  refine lt_begin (by decide) (Nat.le_of_ble_eq_true rfl) (fun p e s m below meth c ls hx hb hr hml hown htw hlk htab hK hW hC hN hh hl => ?_)
  have hS : va_S (tm_A Hb) s.heap s.heap [] := va_S.rf
  have hl : lv_has ls 4 [(0, .ref T), (1, ji w), (2, .ref (T + 408))] := hl
  have ht : c.exceptionTable.toList = [⟨0, 9, 12, 13⟩, ⟨0, 9, 15, 22⟩] := htab
  have hB := hC.1.1
  have a0 := J.1.1
  have u0 := J.2.2.2.2.2.2
  refine lv_aload_n hx hb dL_step_0 rfl (lv_at hl 2 rfl) ?_
  refine ti_iconst hx hb dL_step_1 ?_
  refine lv_aload_n hx hb dL_step_2 rfl (lv_at hl 0 rfl) ?_
  refine lv_iload_n hx hb dL_step_3 rfl (lv_at hl 1 rfl) ?_
  refine tx_calli (cx_L_19 hx hb hml hown htw hK hW hB hS a0 (c_X8_step h9 J.1 J.2.1 hw) ⟨rfl, rfl, Nat.le_of_ble_eq_true rfl, Nat.le_of_ble_eq_true rfl⟩ hl.1 (Nat.le_of_ble_eq_true rfl) dL_step_4 ⟨(Nat.le_of_ble_eq_true rfl), (Nat.le_of_ble_eq_true rfl)⟩) hS (fun E9 ce9 q9 M9 H locs hp9 hW hS h91 h92 h93 => ?_) (fun x8 M8 H locs hp8 hW hS => ?_)
  · obtain ⟨hc9, eM9⟩ := hp9
    rw [eM9] at hW
    rcases hc9 with ⟨rfl, hc9⟩ | ⟨rfl, hc9⟩
    · refine lc_catch hown ht (by decide) (by decide) (htw _ kl_L_13) rfl h91 h92 h93 ?_
      change W _ _ _ _ _ _ _ _ _ _ _ _ _ _ _ (F0 m 12 ls [.ref q9])
      refine lv_astore_n (lv' := [(3, _), (0, _), (1, _), (2, _)]) hx hb dL_step_12 rfl hl (by decide) rfl (fun ls hl => ?_)
      refine ti_iconst hx hb dL_step_13 ?_
      exact W.widen (k := 3) (n := 18) (Nat.le_of_ble_eq_true rfl) (Nat.le_of_ble_eq_true rfl) (tm_iret hx hb hr hlk hK hW hS (Or.inr (Or.inl ⟨rfl, hc9, J⟩)) dL_step_14)
    · refine lc_catch2 hown ht (by decide) (by decide) (htw _ kl_L_13) hN (by decide) (by decide) (htw _ kl_L_22) rfl h91 h92 h93 ?_
      change W _ _ _ _ _ _ _ _ _ _ _ _ _ _ _ (F0 m 15 ls [.ref q9])
      refine lv_astore_n (lv' := [(3, _), (0, _), (1, _), (2, _)]) hx hb dL_step_15 rfl hl (by decide) rfl (fun ls hl => ?_)
      refine ti_iconst hx hb dL_step_16 ?_
      exact W.widen (k := 3) (n := 18) (Nat.le_of_ble_eq_true rfl) (Nat.le_of_ble_eq_true rfl) (tm_iret hx hb hr hlk hK hW hS (Or.inr (Or.inr ⟨rfl, hc9, J⟩)) dL_step_17)
  refine ti_i2lw hx hb dL_step_7 ?_
  refine tm_last hx hb hK hW hS u0 (by omega) (by omega) (by decide) dL_step_8 (fun H locs hW hS => ?_)
  refine lv_goto (tgt := 18) hx hb dL_step_9 (by decide) ?_
  refine ti_iconst hx hb dL_step_18 ?_
  exact W.widen (k := 3) (n := 18) (Nat.le_of_ble_eq_true rfl) (Nat.le_of_ble_eq_true rfl) (tm_iret hx hb hr hlk hK hW hS (Or.inl ⟨rfl, ⟨hp8.1, hp8.2.1⟩, LJ_u (LJ_x J hp8.2.2.2), (tm_up_s _ _ _ _).trans (congrArg w32 hp8.2.2.1)⟩) dL_step_19)
theorem dL_witness_0 : decode cL_witness 0 = .ok (.aload_n 2, 1) := by decide +kernel
theorem dL_witness_1 : decode cL_witness 1 = .ok (.iconst 0, 1) := by decide +kernel
theorem dL_witness_2 : decode cL_witness 2 = .ok (.aload_n 0, 1) := by decide +kernel
theorem dL_witness_3 : decode cL_witness 3 = .ok (.iload_n 1, 1) := by decide +kernel
theorem dL_witness_4 : decode cL_witness 4 = .ok (.invokevirtual 24, 3) := by decide +kernel
theorem dL_witness_7 : decode cL_witness 7 = .ok (.lastore, 1) := by decide +kernel
theorem dL_witness_8 : decode cL_witness 8 = .ok (.goto 9, 3) := by decide +kernel
theorem dL_witness_11 : decode cL_witness 11 = .ok (.astore_n 3, 1) := by decide +kernel
theorem dL_witness_12 : decode cL_witness 12 = .ok (.iconst 1, 1) := by decide +kernel
theorem dL_witness_13 : decode cL_witness 13 = .ok (.ireturn, 1) := by decide +kernel
theorem dL_witness_14 : decode cL_witness 14 = .ok (.astore_n 3, 1) := by decide +kernel
theorem dL_witness_15 : decode cL_witness 15 = .ok (.iconst 2, 1) := by decide +kernel
theorem dL_witness_16 : decode cL_witness 16 = .ok (.ireturn, 1) := by decide +kernel
theorem dL_witness_17 : decode cL_witness 17 = .ok (.iconst 0, 1) := by decide +kernel
theorem dL_witness_18 : decode cL_witness 18 = .ok (.ireturn, 1) := by decide +kernel
set_option maxHeartbeats 1000000 in
/-- the law's witness -/
theorem c_L_witness {l : Launch} {G : tm_G} {Hb : Heap} {sh : tm_sh} {M : tm_M} {T h : Nat} {z zm : tl_Z} {px pm : List Int} (h9 : l.stackTraces = false) (J : LJ sh M T z px zm pm) (hI : ZI z) {w : Int} (hw : inI w) : Met l yL_witness (twh yL_witness cL_witness 4 (some .int) [(0, 8, 11, 13), (0, 8, 14, 22)]) ({ frames := 8, cells := 2, slots := 12, locals := 152 }) (va_Pc [.ref T, ji w, .ref (T + 408)] (lt_St G Hb sh M h)) (tm_Qi G Hb sh (fun x M1 => (x = 0 ∧ ((0 ≤ w ∧ w ≤ 1) ∧ zr z = 1) ∧ LJ sh M1 T z px zm pm ∧ mL M1 (T + 408) 0 = (if w = 0 then (tl_wit (tl_solve (zl z (zn z - 1))) (tl_solve (zw z)) 3 0).1 else (tl_wit (tl_solve (zl z (zn z - 1))) (tl_solve (zw z)) 3 0).2)) ∨ (x = 1 ∧ ¬ (0 ≤ w ∧ w ≤ 1) ∧ LJ sh M1 T z px zm pm) ∨ (x = 2 ∧ ((0 ≤ w ∧ w ≤ 1) ∧ zr z = 0) ∧ LJ sh M1 T z px zm pm))) 2 12 (tm_A Hb) := by
  refine lt_begin (by decide) (Nat.le_of_ble_eq_true rfl) (fun p e s m below meth c ls hx hb hr hml hown htw hlk htab hK hW hC hN hh hl => ?_)
  have hS : va_S (tm_A Hb) s.heap s.heap [] := va_S.rf
  have hl : lv_has ls 4 [(0, .ref T), (1, ji w), (2, .ref (T + 408))] := hl
  have ht : c.exceptionTable.toList = [⟨0, 8, 11, 13⟩, ⟨0, 8, 14, 22⟩] := htab
  have hB := hC.1.1
  have a0 := J.1.1
  have u0 := J.2.2.2.2.2.2
  refine lv_aload_n hx hb dL_witness_0 rfl (lv_at hl 2 rfl) ?_
  refine ti_iconst hx hb dL_witness_1 ?_
  refine lv_aload_n hx hb dL_witness_2 rfl (lv_at hl 0 rfl) ?_
  refine lv_iload_n hx hb dL_witness_3 rfl (lv_at hl 1 rfl) ?_
  refine tx_calll (cx_L_24 hx hb hml hown htw hK hW hB hS a0 (c_X8_witness h9 J.1 J.2.1 (fun q => (hI.2.2.2.2.1 q).1) hw) ⟨rfl, rfl, Nat.le_of_ble_eq_true rfl, Nat.le_of_ble_eq_true rfl⟩ hl.1 (Nat.le_of_ble_eq_true rfl) dL_witness_4 ⟨(Nat.le_of_ble_eq_true rfl), (Nat.le_of_ble_eq_true rfl)⟩) hS (fun E9 ce9 q9 M9 H locs hp9 hW hS h91 h92 h93 => ?_) (fun x8 M8 H locs hp8 hW hS => ?_)
  · obtain ⟨hc9, eM9⟩ := hp9
    rw [eM9] at hW
    rcases hc9 with ⟨rfl, hc9⟩ | ⟨rfl, hc9⟩
    · refine lc_catch hown ht (by decide) (by decide) (htw _ kl_L_13) rfl h91 h92 h93 ?_
      change W _ _ _ _ _ _ _ _ _ _ _ _ _ _ _ (F0 m 11 ls [.ref q9])
      refine lv_astore_n (lv' := [(3, _), (0, _), (1, _), (2, _)]) hx hb dL_witness_11 rfl hl (by decide) rfl (fun ls hl => ?_)
      refine ti_iconst hx hb dL_witness_12 ?_
      exact W.widen (k := 2) (n := 12) (Nat.le_of_ble_eq_true rfl) (Nat.le_of_ble_eq_true rfl) (tm_iret hx hb hr hlk hK hW hS (Or.inr (Or.inl ⟨rfl, hc9, J⟩)) dL_witness_13)
    · refine lc_catch2 hown ht (by decide) (by decide) (htw _ kl_L_13) hN (by decide) (by decide) (htw _ kl_L_22) rfl h91 h92 h93 ?_
      change W _ _ _ _ _ _ _ _ _ _ _ _ _ _ _ (F0 m 14 ls [.ref q9])
      refine lv_astore_n (lv' := [(3, _), (0, _), (1, _), (2, _)]) hx hb dL_witness_14 rfl hl (by decide) rfl (fun ls hl => ?_)
      refine ti_iconst hx hb dL_witness_15 ?_
      exact W.widen (k := 2) (n := 12) (Nat.le_of_ble_eq_true rfl) (Nat.le_of_ble_eq_true rfl) (tm_iret hx hb hr hlk hK hW hS (Or.inr (Or.inr ⟨rfl, hc9, J⟩)) dL_witness_16)
  refine tm_last hx hb hK hW hS u0 (by omega) (by omega) (by decide) dL_witness_7 (fun H locs hW hS => ?_)
  refine lv_goto (tgt := 17) hx hb dL_witness_8 (by decide) ?_
  refine ti_iconst hx hb dL_witness_17 ?_
  exact W.widen (k := 2) (n := 12) (Nat.le_of_ble_eq_true rfl) (Nat.le_of_ble_eq_true rfl) (tm_iret hx hb hr hlk hK hW hS (Or.inl ⟨rfl, ⟨hp8.1, hp8.2.1⟩, LJ_u (LJ_x J hp8.2.2.2), (tm_up_s _ _ _ _).trans (hp8.2.2.1)⟩) dL_witness_18)
theorem dL_hint_0 : decode cL_hint 0 = .ok (.aload_n 1, 1) := by decide +kernel
theorem dL_hint_1 : decode cL_hint 1 = .ok (.iconst 0, 1) := by decide +kernel
theorem dL_hint_2 : decode cL_hint 2 = .ok (.aload_n 0, 1) := by decide +kernel
theorem dL_hint_3 : decode cL_hint 3 = .ok (.invokevirtual 28, 3) := by decide +kernel
theorem dL_hint_6 : decode cL_hint 6 = .ok (.i2l, 1) := by decide +kernel
theorem dL_hint_7 : decode cL_hint 7 = .ok (.lastore, 1) := by decide +kernel
theorem dL_hint_8 : decode cL_hint 8 = .ok (.goto 6, 3) := by decide +kernel
theorem dL_hint_11 : decode cL_hint 11 = .ok (.astore_n 2, 1) := by decide +kernel
theorem dL_hint_12 : decode cL_hint 12 = .ok (.iconst 1, 1) := by decide +kernel
theorem dL_hint_13 : decode cL_hint 13 = .ok (.ireturn, 1) := by decide +kernel
theorem dL_hint_14 : decode cL_hint 14 = .ok (.iconst 0, 1) := by decide +kernel
theorem dL_hint_15 : decode cL_hint 15 = .ok (.ireturn, 1) := by decide +kernel
set_option maxHeartbeats 1000000 in
/-- the law's hint -/
theorem c_L_hint {l : Launch} {G : tm_G} {Hb : Heap} {sh : tm_sh} {M : tm_M} {T h : Nat} {z zm : tl_Z} {px pm : List Int} (h9 : l.stackTraces = false) (J : LJ sh M T z px zm pm) (hI : ZI z)  : Met l yL_hint (twh yL_hint cL_hint 3 (some .int) [(0, 8, 11, 22)]) ({ frames := 8, cells := 1, slots := 6, locals := 138 }) (va_Pc [.ref T, .ref (T + 408)] (lt_St G Hb sh M h)) (tm_Qi G Hb sh (fun x M1 => (x = 0 ∧ 0 < zn z ∧ LJ sh M1 T z px zm pm ∧ mL M1 (T + 408) 0 = w32 (tl_plan (zl z (zn z - 1)))) ∨ (x = 1 ∧ zn z = 0 ∧ LJ sh M1 T z px zm pm))) 1 6 (tm_A Hb) := by
  refine lt_begin (by decide) (Nat.le_of_ble_eq_true rfl) (fun p e s m below meth c ls hx hb hr hml hown htw hlk htab hK hW hC hN hh hl => ?_)
  have hS : va_S (tm_A Hb) s.heap s.heap [] := va_S.rf
  have hl : lv_has ls 3 [(0, .ref T), (1, .ref (T + 408))] := hl
  have ht : c.exceptionTable.toList = [⟨0, 8, 11, 22⟩] := htab
  have hB := hC.1.1
  have a0 := J.1.1
  have u0 := J.2.2.2.2.2.2
  refine lv_aload_n hx hb dL_hint_0 rfl (lv_at hl 1 rfl) ?_
  refine ti_iconst hx hb dL_hint_1 ?_
  refine lv_aload_n hx hb dL_hint_2 rfl (lv_at hl 0 rfl) ?_
  refine tx_calli (cx_L_28 hx hb hml hown htw hK hW hB hS a0 (c_X8_hint h9 J.1 J.2.1) ⟨rfl, rfl, Nat.le_of_ble_eq_true rfl, Nat.le_of_ble_eq_true rfl⟩ hl.1 (Nat.le_of_ble_eq_true rfl) dL_hint_3 ⟨(Nat.le_of_ble_eq_true rfl), (Nat.le_of_ble_eq_true rfl)⟩) hS (fun E9 ce9 q9 M9 H locs hp9 hW hS h91 h92 h93 => ?_) (fun x8 M8 H locs hp8 hW hS => ?_)
  · obtain ⟨rfl, hc9, eM9⟩ := hp9
    rw [eM9] at hW
    refine lc_catch hown ht (by decide) (by decide) (htw _ kl_L_22) rfl h91 h92 h93 ?_
    change W _ _ _ _ _ _ _ _ _ _ _ _ _ _ _ (F0 m 11 ls [.ref q9])
    refine lv_astore_n (lv' := [(2, _), (0, _), (1, _)]) hx hb dL_hint_11 rfl hl (by decide) rfl (fun ls hl => ?_)
    refine ti_iconst hx hb dL_hint_12 ?_
    exact W.widen (k := 1) (n := 6) (Nat.le_of_ble_eq_true rfl) (Nat.le_of_ble_eq_true rfl) (tm_iret hx hb hr hlk hK hW hS (Or.inr ⟨rfl, hc9, J⟩) dL_hint_13)
  refine ti_i2lw hx hb dL_hint_6 ?_
  refine tm_last hx hb hK hW hS u0 (by omega) (by omega) (by decide) dL_hint_7 (fun H locs hW hS => ?_)
  refine lv_goto (tgt := 14) hx hb dL_hint_8 (by decide) ?_
  refine ti_iconst hx hb dL_hint_14 ?_
  exact W.widen (k := 1) (n := 6) (Nat.le_of_ble_eq_true rfl) (Nat.le_of_ble_eq_true rfl) (tm_iret hx hb hr hlk hK hW hS (Or.inl ⟨rfl, hp8.1, LJ_u (LJ_x J hp8.2.2), (tm_up_s _ _ _ _).trans (congrArg w32 hp8.2.1)⟩) dL_hint_15)
theorem dL_take_0 : decode cL_take 0 = .ok (.aload_n 1, 1) := by decide +kernel
theorem dL_take_1 : decode cL_take 1 = .ok (.iconst 0, 1) := by decide +kernel
theorem dL_take_2 : decode cL_take 2 = .ok (.aload_n 0, 1) := by decide +kernel
theorem dL_take_3 : decode cL_take 3 = .ok (.invokevirtual 32, 3) := by decide +kernel
theorem dL_take_6 : decode cL_take 6 = .ok (.ifCond .eq 7, 3) := by decide +kernel
theorem dL_take_9 : decode cL_take 9 = .ok (.lconst 1, 1) := by decide +kernel
theorem dL_take_10 : decode cL_take 10 = .ok (.goto 4, 3) := by decide +kernel
theorem dL_take_13 : decode cL_take 13 = .ok (.lconst 0, 1) := by decide +kernel
theorem dL_take_14 : decode cL_take 14 = .ok (.lastore, 1) := by decide +kernel
theorem dL_take_15 : decode cL_take 15 = .ok (.goto 6, 3) := by decide +kernel
theorem dL_take_18 : decode cL_take 18 = .ok (.astore_n 2, 1) := by decide +kernel
theorem dL_take_19 : decode cL_take 19 = .ok (.iconst 1, 1) := by decide +kernel
theorem dL_take_20 : decode cL_take 20 = .ok (.ireturn, 1) := by decide +kernel
theorem dL_take_21 : decode cL_take 21 = .ok (.iconst 0, 1) := by decide +kernel
theorem dL_take_22 : decode cL_take 22 = .ok (.ireturn, 1) := by decide +kernel
set_option maxHeartbeats 1000000 in
/-- the law's take -/
theorem c_L_take {l : Launch} {G : tm_G} {Hb : Heap} {sh : tm_sh} {M : tm_M} {T h : Nat} {z zm : tl_Z} {px pm : List Int} (h9 : l.stackTraces = false) (J : LJ sh M T z px zm pm) (hI : ZI z)  : Met l yL_take (twh yL_take cL_take 3 (some .int) [(0, 15, 18, 22)]) ({ frames := 8, cells := 2, slots := 12, locals := 138 }) (va_Pc [.ref T, .ref (T + 408)] (lt_St G Hb sh M h)) (tm_Qi G Hb sh (fun x M1 => (x = 0 ∧ (0 < zn z ∧ zn z < 40) ∧ LJ sh M1 T (if 0 < tl_plan (zl z (zn z - 1)) then zapp z (tl_planv (zl z (zn z - 1))) else z) px zm pm ∧ mL M1 (T + 408) 0 = (if 0 < tl_plan (zl z (zn z - 1)) then 1 else 0)) ∨ (x = 1 ∧ (zn z = 0 ∨ zn z = 40) ∧ LJ sh M1 T z px zm pm))) 2 12 (tm_A Hb) := by
  refine lt_begin (by decide) (Nat.le_of_ble_eq_true rfl) (fun p e s m below meth c ls hx hb hr hml hown htw hlk htab hK hW hC hN hh hl => ?_)
  have hS : va_S (tm_A Hb) s.heap s.heap [] := va_S.rf
  have hl : lv_has ls 3 [(0, .ref T), (1, .ref (T + 408))] := hl
  have ht : c.exceptionTable.toList = [⟨0, 15, 18, 22⟩] := htab
  have hB := hC.1.1
  have a0 := J.1.1
  have u0 := J.2.2.2.2.2.2
  refine lv_aload_n hx hb dL_take_0 rfl (lv_at hl 1 rfl) ?_
  refine ti_iconst hx hb dL_take_1 ?_
  refine lv_aload_n hx hb dL_take_2 rfl (lv_at hl 0 rfl) ?_
  refine tx_calli (cx_L_32 hx hb hml hown htw hK hW hB hS a0 (c_X8_take h9 J.1 J.2.1) ⟨rfl, rfl, Nat.le_of_ble_eq_true rfl, Nat.le_of_ble_eq_true rfl⟩ hl.1 (Nat.le_of_ble_eq_true rfl) dL_take_3 ⟨(Nat.le_of_ble_eq_true rfl), (Nat.le_of_ble_eq_true rfl)⟩) hS (fun E9 ce9 q9 M9 H locs hp9 hW hS h91 h92 h93 => ?_) (fun x8 M8 H locs hp8 hW hS => ?_)
  · obtain ⟨rfl, hc9, eM9⟩ := hp9
    rw [eM9] at hW
    refine lc_catch hown ht (by decide) (by decide) (htw _ kl_L_22) rfl h91 h92 h93 ?_
    change W _ _ _ _ _ _ _ _ _ _ _ _ _ _ _ (F0 m 18 ls [.ref q9])
    refine lv_astore_n (lv' := [(2, _), (0, _), (1, _)]) hx hb dL_take_18 rfl hl (by decide) rfl (fun ls hl => ?_)
    refine ti_iconst hx hb dL_take_19 ?_
    exact W.widen (k := 2) (n := 12) (Nat.le_of_ble_eq_true rfl) (Nat.le_of_ble_eq_true rfl) (tm_iret hx hb hr hlk hK hW hS (Or.inr ⟨rfl, hc9, J⟩) dL_take_20)
  refine ti_if_eq (tgt := 13) hx hb dL_take_6 (by decide) (by rw [hp8.2.1]; split <;> decide) (fun h6 => ?_) (fun h6 => ?_)
  · refine ti_lconst0 hx hb dL_take_13 ?_
    refine tm_last hx hb hK hW hS u0 (by omega) (by omega) (by decide) dL_take_14 (fun H locs hW hS => ?_)
    refine lv_goto (tgt := 21) hx hb dL_take_15 (by decide) ?_
    refine ti_iconst hx hb dL_take_21 ?_
    exact W.widen (k := 2) (n := 12) (Nat.le_of_ble_eq_true rfl) (Nat.le_of_ble_eq_true rfl) (tm_iret hx hb hr hlk hK hW hS (Or.inl ⟨rfl, hp8.1, LJ_u (LJ_x J hp8.2.2), (tm_up_s _ _ _ _).trans (h6.symm.trans hp8.2.1)⟩) dL_take_22)
  · refine ti_lconst1 hx hb dL_take_9 ?_
    refine lv_goto (tgt := 14) hx hb dL_take_10 (by decide) ?_
    refine tm_last hx hb hK hW hS u0 (by omega) (by omega) (by decide) dL_take_14 (fun H locs hW hS => ?_)
    refine lv_goto (tgt := 21) hx hb dL_take_15 (by decide) ?_
    refine ti_iconst hx hb dL_take_21 ?_
    exact W.widen (k := 2) (n := 12) (Nat.le_of_ble_eq_true rfl) (Nat.le_of_ble_eq_true rfl) (tm_iret hx hb hr hlk hK hW hS (Or.inl ⟨rfl, hp8.1, LJ_u (LJ_x J hp8.2.2), (tm_up_s _ _ _ _).trans (tl_bi hp8.2.1 h6)⟩) dL_take_22)
theorem dL_undo_0 : decode cL_undo 0 = .ok (.aload_n 1, 1) := by decide +kernel
theorem dL_undo_1 : decode cL_undo 1 = .ok (.iconst 0, 1) := by decide +kernel
theorem dL_undo_2 : decode cL_undo 2 = .ok (.aload_n 0, 1) := by decide +kernel
theorem dL_undo_3 : decode cL_undo 3 = .ok (.invokevirtual 36, 3) := by decide +kernel
theorem dL_undo_6 : decode cL_undo 6 = .ok (.ifCond .eq 7, 3) := by decide +kernel
theorem dL_undo_9 : decode cL_undo 9 = .ok (.lconst 1, 1) := by decide +kernel
theorem dL_undo_10 : decode cL_undo 10 = .ok (.goto 4, 3) := by decide +kernel
theorem dL_undo_13 : decode cL_undo 13 = .ok (.lconst 0, 1) := by decide +kernel
theorem dL_undo_14 : decode cL_undo 14 = .ok (.lastore, 1) := by decide +kernel
theorem dL_undo_15 : decode cL_undo 15 = .ok (.goto 6, 3) := by decide +kernel
theorem dL_undo_18 : decode cL_undo 18 = .ok (.astore_n 2, 1) := by decide +kernel
theorem dL_undo_19 : decode cL_undo 19 = .ok (.iconst 1, 1) := by decide +kernel
theorem dL_undo_20 : decode cL_undo 20 = .ok (.ireturn, 1) := by decide +kernel
theorem dL_undo_21 : decode cL_undo 21 = .ok (.iconst 0, 1) := by decide +kernel
theorem dL_undo_22 : decode cL_undo 22 = .ok (.ireturn, 1) := by decide +kernel
set_option maxHeartbeats 1000000 in
/-- the law's undo -/
theorem c_L_undo {l : Launch} {G : tm_G} {Hb : Heap} {sh : tm_sh} {M : tm_M} {T h : Nat} {z zm : tl_Z} {px pm : List Int} (h9 : l.stackTraces = false) (J : LJ sh M T z px zm pm) (hI : ZI z)  : Met l yL_undo (twh yL_undo cL_undo 3 (some .int) [(0, 15, 18, 22)]) ({ frames := 8, cells := 1, slots := 6, locals := 129 }) (va_Pc [.ref T, .ref (T + 408)] (lt_St G Hb sh M h)) (tm_Qi G Hb sh (fun x M1 => (x = 0 ∧ 0 < zn z ∧ LJ sh M1 T (if zn z = 1 then z else zund z) px zm pm ∧ mL M1 (T + 408) 0 = (if zn z = 1 then 0 else 1)) ∨ (x = 1 ∧ zn z = 0 ∧ LJ sh M1 T z px zm pm))) 1 6 (tm_A Hb) := by
  refine lt_begin (by decide) (Nat.le_of_ble_eq_true rfl) (fun p e s m below meth c ls hx hb hr hml hown htw hlk htab hK hW hC hN hh hl => ?_)
  have hS : va_S (tm_A Hb) s.heap s.heap [] := va_S.rf
  have hl : lv_has ls 3 [(0, .ref T), (1, .ref (T + 408))] := hl
  have ht : c.exceptionTable.toList = [⟨0, 15, 18, 22⟩] := htab
  have hB := hC.1.1
  have a0 := J.1.1
  have u0 := J.2.2.2.2.2.2
  refine lv_aload_n hx hb dL_undo_0 rfl (lv_at hl 1 rfl) ?_
  refine ti_iconst hx hb dL_undo_1 ?_
  refine lv_aload_n hx hb dL_undo_2 rfl (lv_at hl 0 rfl) ?_
  refine tx_calli (cx_L_36 hx hb hml hown htw hK hW hB hS a0 (c_X8_undo h9 J.1 J.2.1) ⟨rfl, rfl, Nat.le_of_ble_eq_true rfl, Nat.le_of_ble_eq_true rfl⟩ hl.1 (Nat.le_of_ble_eq_true rfl) dL_undo_3 ⟨(Nat.le_of_ble_eq_true rfl), (Nat.le_of_ble_eq_true rfl)⟩) hS (fun E9 ce9 q9 M9 H locs hp9 hW hS h91 h92 h93 => ?_) (fun x8 M8 H locs hp8 hW hS => ?_)
  · obtain ⟨rfl, hc9, eM9⟩ := hp9
    rw [eM9] at hW
    refine lc_catch hown ht (by decide) (by decide) (htw _ kl_L_22) rfl h91 h92 h93 ?_
    change W _ _ _ _ _ _ _ _ _ _ _ _ _ _ _ (F0 m 18 ls [.ref q9])
    refine lv_astore_n (lv' := [(2, _), (0, _), (1, _)]) hx hb dL_undo_18 rfl hl (by decide) rfl (fun ls hl => ?_)
    refine ti_iconst hx hb dL_undo_19 ?_
    exact W.widen (k := 1) (n := 6) (Nat.le_of_ble_eq_true rfl) (Nat.le_of_ble_eq_true rfl) (tm_iret hx hb hr hlk hK hW hS (Or.inr ⟨rfl, hc9, J⟩) dL_undo_20)
  refine ti_if_eq (tgt := 13) hx hb dL_undo_6 (by decide) (by rw [hp8.2.1]; split <;> decide) (fun h6 => ?_) (fun h6 => ?_)
  · refine ti_lconst0 hx hb dL_undo_13 ?_
    refine tm_last hx hb hK hW hS u0 (by omega) (by omega) (by decide) dL_undo_14 (fun H locs hW hS => ?_)
    refine lv_goto (tgt := 21) hx hb dL_undo_15 (by decide) ?_
    refine ti_iconst hx hb dL_undo_21 ?_
    exact W.widen (k := 1) (n := 6) (Nat.le_of_ble_eq_true rfl) (Nat.le_of_ble_eq_true rfl) (tm_iret hx hb hr hlk hK hW hS (Or.inl ⟨rfl, hp8.1, LJ_u (LJ_x J hp8.2.2), (tm_up_s _ _ _ _).trans (h6.symm.trans hp8.2.1)⟩) dL_undo_22)
  · refine ti_lconst1 hx hb dL_undo_9 ?_
    refine lv_goto (tgt := 14) hx hb dL_undo_10 (by decide) ?_
    refine tm_last hx hb hK hW hS u0 (by omega) (by omega) (by decide) dL_undo_14 (fun H locs hW hS => ?_)
    refine lv_goto (tgt := 21) hx hb dL_undo_15 (by decide) ?_
    refine ti_iconst hx hb dL_undo_21 ?_
    exact W.widen (k := 1) (n := 6) (Nat.le_of_ble_eq_true rfl) (Nat.le_of_ble_eq_true rfl) (tm_iret hx hb hr hlk hK hW hS (Or.inl ⟨rfl, hp8.1, LJ_u (LJ_x J hp8.2.2), (tm_up_s _ _ _ _).trans (tl_bj hp8.2.1 h6)⟩) dL_undo_22)
theorem dL_line_0 : decode cL_line 0 = .ok (.aload_n 2, 1) := by decide +kernel
theorem dL_line_1 : decode cL_line 1 = .ok (.iconst 0, 1) := by decide +kernel
theorem dL_line_2 : decode cL_line 2 = .ok (.aload_n 0, 1) := by decide +kernel
theorem dL_line_3 : decode cL_line 3 = .ok (.iload_n 1, 1) := by decide +kernel
theorem dL_line_4 : decode cL_line 4 = .ok (.invokevirtual 39, 3) := by decide +kernel
theorem dL_line_7 : decode cL_line 7 = .ok (.i2l, 1) := by decide +kernel
theorem dL_line_8 : decode cL_line 8 = .ok (.lastore, 1) := by decide +kernel
theorem dL_line_9 : decode cL_line 9 = .ok (.goto 9, 3) := by decide +kernel
theorem dL_line_12 : decode cL_line 12 = .ok (.astore_n 3, 1) := by decide +kernel
theorem dL_line_13 : decode cL_line 13 = .ok (.iconst 1, 1) := by decide +kernel
theorem dL_line_14 : decode cL_line 14 = .ok (.ireturn, 1) := by decide +kernel
theorem dL_line_15 : decode cL_line 15 = .ok (.astore_n 3, 1) := by decide +kernel
theorem dL_line_16 : decode cL_line 16 = .ok (.iconst 2, 1) := by decide +kernel
theorem dL_line_17 : decode cL_line 17 = .ok (.ireturn, 1) := by decide +kernel
theorem dL_line_18 : decode cL_line 18 = .ok (.iconst 0, 1) := by decide +kernel
theorem dL_line_19 : decode cL_line 19 = .ok (.ireturn, 1) := by decide +kernel
set_option maxHeartbeats 1000000 in
/-- the law's line -/
theorem c_L_line {l : Launch} {G : tm_G} {Hb : Heap} {sh : tm_sh} {M : tm_M} {T h : Nat} {z zm : tl_Z} {px pm : List Int} (h9 : l.stackTraces = false) (J : LJ sh M T z px zm pm) (hI : ZI z) {w : Int} (hw : inI w) : Met l yL_line (twh yL_line cL_line 4 (some .int) [(0, 9, 12, 13), (0, 9, 15, 22)]) ({ frames := 8, cells := 2, slots := 12, locals := 135 }) (va_Pc [.ref T, ji w, .ref (T + 408)] (lt_St G Hb sh M h)) (tm_Qi G Hb sh (fun x M1 => (x = 0 ∧ ((0 ≤ w ∧ w ≤ 8) ∧ 0 < zn z) ∧ LJ sh M1 T z px zm pm ∧ mL M1 (T + 408) 0 = w32 (tl_lnat (zl z (zn z - 1)) w)) ∨ (x = 1 ∧ ¬ (0 ≤ w ∧ w ≤ 8) ∧ LJ sh M1 T z px zm pm) ∨ (x = 2 ∧ ((0 ≤ w ∧ w ≤ 8) ∧ zn z = 0) ∧ LJ sh M1 T z px zm pm))) 2 12 (tm_A Hb) := by
  refine lt_begin (by decide) (Nat.le_of_ble_eq_true rfl) (fun p e s m below meth c ls hx hb hr hml hown htw hlk htab hK hW hC hN hh hl => ?_)
  have hS : va_S (tm_A Hb) s.heap s.heap [] := va_S.rf
  have hl : lv_has ls 4 [(0, .ref T), (1, ji w), (2, .ref (T + 408))] := hl
  have ht : c.exceptionTable.toList = [⟨0, 9, 12, 13⟩, ⟨0, 9, 15, 22⟩] := htab
  have hB := hC.1.1
  have a0 := J.1.1
  have u0 := J.2.2.2.2.2.2
  refine lv_aload_n hx hb dL_line_0 rfl (lv_at hl 2 rfl) ?_
  refine ti_iconst hx hb dL_line_1 ?_
  refine lv_aload_n hx hb dL_line_2 rfl (lv_at hl 0 rfl) ?_
  refine lv_iload_n hx hb dL_line_3 rfl (lv_at hl 1 rfl) ?_
  refine tx_calli (cx_L_39 hx hb hml hown htw hK hW hB hS a0 (c_X8_line h9 J.1 J.2.1 hw) ⟨rfl, rfl, Nat.le_of_ble_eq_true rfl, Nat.le_of_ble_eq_true rfl⟩ hl.1 (Nat.le_of_ble_eq_true rfl) dL_line_4 ⟨(Nat.le_of_ble_eq_true rfl), (Nat.le_of_ble_eq_true rfl)⟩) hS (fun E9 ce9 q9 M9 H locs hp9 hW hS h91 h92 h93 => ?_) (fun x8 M8 H locs hp8 hW hS => ?_)
  · obtain ⟨hc9, eM9⟩ := hp9
    rw [eM9] at hW
    rcases hc9 with ⟨rfl, hc9⟩ | ⟨rfl, hc9⟩
    · refine lc_catch hown ht (by decide) (by decide) (htw _ kl_L_13) rfl h91 h92 h93 ?_
      change W _ _ _ _ _ _ _ _ _ _ _ _ _ _ _ (F0 m 12 ls [.ref q9])
      refine lv_astore_n (lv' := [(3, _), (0, _), (1, _), (2, _)]) hx hb dL_line_12 rfl hl (by decide) rfl (fun ls hl => ?_)
      refine ti_iconst hx hb dL_line_13 ?_
      exact W.widen (k := 2) (n := 12) (Nat.le_of_ble_eq_true rfl) (Nat.le_of_ble_eq_true rfl) (tm_iret hx hb hr hlk hK hW hS (Or.inr (Or.inl ⟨rfl, hc9, J⟩)) dL_line_14)
    · refine lc_catch2 hown ht (by decide) (by decide) (htw _ kl_L_13) hN (by decide) (by decide) (htw _ kl_L_22) rfl h91 h92 h93 ?_
      change W _ _ _ _ _ _ _ _ _ _ _ _ _ _ _ (F0 m 15 ls [.ref q9])
      refine lv_astore_n (lv' := [(3, _), (0, _), (1, _), (2, _)]) hx hb dL_line_15 rfl hl (by decide) rfl (fun ls hl => ?_)
      refine ti_iconst hx hb dL_line_16 ?_
      exact W.widen (k := 2) (n := 12) (Nat.le_of_ble_eq_true rfl) (Nat.le_of_ble_eq_true rfl) (tm_iret hx hb hr hlk hK hW hS (Or.inr (Or.inr ⟨rfl, hc9, J⟩)) dL_line_17)
  refine ti_i2lw hx hb dL_line_7 ?_
  refine tm_last hx hb hK hW hS u0 (by omega) (by omega) (by decide) dL_line_8 (fun H locs hW hS => ?_)
  refine lv_goto (tgt := 18) hx hb dL_line_9 (by decide) ?_
  refine ti_iconst hx hb dL_line_18 ?_
  exact W.widen (k := 2) (n := 12) (Nat.le_of_ble_eq_true rfl) (Nat.le_of_ble_eq_true rfl) (tm_iret hx hb hr hlk hK hW hS (Or.inl ⟨rfl, ⟨hp8.1, hp8.2.1⟩, LJ_u (by rw [hp8.2.2.2]; exact J), (tm_up_s _ _ _ _).trans (congrArg w32 hp8.2.2.1)⟩) dL_line_19)
theorem dL_solutions_0 : decode cL_solutions 0 = .ok (.aload_n 2, 1) := by decide +kernel
theorem dL_solutions_1 : decode cL_solutions 1 = .ok (.iconst 0, 1) := by decide +kernel
theorem dL_solutions_2 : decode cL_solutions 2 = .ok (.aload_n 0, 1) := by decide +kernel
theorem dL_solutions_3 : decode cL_solutions 3 = .ok (.iload_n 1, 1) := by decide +kernel
theorem dL_solutions_4 : decode cL_solutions 4 = .ok (.invokevirtual 42, 3) := by decide +kernel
theorem dL_solutions_7 : decode cL_solutions 7 = .ok (.lastore, 1) := by decide +kernel
theorem dL_solutions_8 : decode cL_solutions 8 = .ok (.goto 9, 3) := by decide +kernel
theorem dL_solutions_11 : decode cL_solutions 11 = .ok (.astore_n 3, 1) := by decide +kernel
theorem dL_solutions_12 : decode cL_solutions 12 = .ok (.iconst 1, 1) := by decide +kernel
theorem dL_solutions_13 : decode cL_solutions 13 = .ok (.ireturn, 1) := by decide +kernel
theorem dL_solutions_14 : decode cL_solutions 14 = .ok (.astore_n 3, 1) := by decide +kernel
theorem dL_solutions_15 : decode cL_solutions 15 = .ok (.iconst 2, 1) := by decide +kernel
theorem dL_solutions_16 : decode cL_solutions 16 = .ok (.ireturn, 1) := by decide +kernel
theorem dL_solutions_17 : decode cL_solutions 17 = .ok (.iconst 0, 1) := by decide +kernel
theorem dL_solutions_18 : decode cL_solutions 18 = .ok (.ireturn, 1) := by decide +kernel
set_option maxHeartbeats 1000000 in
/-- the law's solutions -/
theorem c_L_solutions {l : Launch} {G : tm_G} {Hb : Heap} {sh : tm_sh} {M : tm_M} {T h : Nat} {z zm : tl_Z} {px pm : List Int} (h9 : l.stackTraces = false) (J : LJ sh M T z px zm pm) (hI : ZI z) {w : Int} (hw : inI w) : Met l yL_solutions (twh yL_solutions cL_solutions 4 (some .int) [(0, 8, 11, 13), (0, 8, 14, 22)]) ({ frames := 8, cells := 2, slots := 12, locals := 132 }) (va_Pc [.ref T, ji w, .ref (T + 408)] (lt_St G Hb sh M h)) (tm_Qi G Hb sh (fun x M1 => (x = 0 ∧ ((0 ≤ w ∧ w ≤ 2) ∧ 0 < zn z) ∧ LJ sh M1 T z px zm pm ∧ mL M1 (T + 408) 0 = tl_sol (tl_solve (zl z (zn z - 1))) w) ∨ (x = 1 ∧ ¬ (0 ≤ w ∧ w ≤ 2) ∧ LJ sh M1 T z px zm pm) ∨ (x = 2 ∧ ((0 ≤ w ∧ w ≤ 2) ∧ zn z = 0) ∧ LJ sh M1 T z px zm pm))) 2 12 (tm_A Hb) := by
  refine lt_begin (by decide) (Nat.le_of_ble_eq_true rfl) (fun p e s m below meth c ls hx hb hr hml hown htw hlk htab hK hW hC hN hh hl => ?_)
  have hS : va_S (tm_A Hb) s.heap s.heap [] := va_S.rf
  have hl : lv_has ls 4 [(0, .ref T), (1, ji w), (2, .ref (T + 408))] := hl
  have ht : c.exceptionTable.toList = [⟨0, 8, 11, 13⟩, ⟨0, 8, 14, 22⟩] := htab
  have hB := hC.1.1
  have a0 := J.1.1
  have u0 := J.2.2.2.2.2.2
  refine lv_aload_n hx hb dL_solutions_0 rfl (lv_at hl 2 rfl) ?_
  refine ti_iconst hx hb dL_solutions_1 ?_
  refine lv_aload_n hx hb dL_solutions_2 rfl (lv_at hl 0 rfl) ?_
  refine lv_iload_n hx hb dL_solutions_3 rfl (lv_at hl 1 rfl) ?_
  refine tx_calll (cx_L_42 hx hb hml hown htw hK hW hB hS a0 (c_X8_solutions h9 J.1 J.2.1 hw) ⟨rfl, rfl, Nat.le_of_ble_eq_true rfl, Nat.le_of_ble_eq_true rfl⟩ hl.1 (Nat.le_of_ble_eq_true rfl) dL_solutions_4 ⟨(Nat.le_of_ble_eq_true rfl), (Nat.le_of_ble_eq_true rfl)⟩) hS (fun E9 ce9 q9 M9 H locs hp9 hW hS h91 h92 h93 => ?_) (fun x8 M8 H locs hp8 hW hS => ?_)
  · obtain ⟨hc9, eM9⟩ := hp9
    rw [eM9] at hW
    rcases hc9 with ⟨rfl, hc9⟩ | ⟨rfl, hc9⟩
    · refine lc_catch hown ht (by decide) (by decide) (htw _ kl_L_13) rfl h91 h92 h93 ?_
      change W _ _ _ _ _ _ _ _ _ _ _ _ _ _ _ (F0 m 11 ls [.ref q9])
      refine lv_astore_n (lv' := [(3, _), (0, _), (1, _), (2, _)]) hx hb dL_solutions_11 rfl hl (by decide) rfl (fun ls hl => ?_)
      refine ti_iconst hx hb dL_solutions_12 ?_
      exact W.widen (k := 2) (n := 12) (Nat.le_of_ble_eq_true rfl) (Nat.le_of_ble_eq_true rfl) (tm_iret hx hb hr hlk hK hW hS (Or.inr (Or.inl ⟨rfl, hc9, J⟩)) dL_solutions_13)
    · refine lc_catch2 hown ht (by decide) (by decide) (htw _ kl_L_13) hN (by decide) (by decide) (htw _ kl_L_22) rfl h91 h92 h93 ?_
      change W _ _ _ _ _ _ _ _ _ _ _ _ _ _ _ (F0 m 14 ls [.ref q9])
      refine lv_astore_n (lv' := [(3, _), (0, _), (1, _), (2, _)]) hx hb dL_solutions_14 rfl hl (by decide) rfl (fun ls hl => ?_)
      refine ti_iconst hx hb dL_solutions_15 ?_
      exact W.widen (k := 2) (n := 12) (Nat.le_of_ble_eq_true rfl) (Nat.le_of_ble_eq_true rfl) (tm_iret hx hb hr hlk hK hW hS (Or.inr (Or.inr ⟨rfl, hc9, J⟩)) dL_solutions_16)
  refine tm_last hx hb hK hW hS u0 (by omega) (by omega) (by decide) dL_solutions_7 (fun H locs hW hS => ?_)
  refine lv_goto (tgt := 17) hx hb dL_solutions_8 (by decide) ?_
  refine ti_iconst hx hb dL_solutions_17 ?_
  exact W.widen (k := 2) (n := 12) (Nat.le_of_ble_eq_true rfl) (Nat.le_of_ble_eq_true rfl) (tm_iret hx hb hr hlk hK hW hS (Or.inl ⟨rfl, ⟨hp8.1, hp8.2.1⟩, LJ_u (LJ_x J hp8.2.2.2), (tm_up_s _ _ _ _).trans (hp8.2.2.1)⟩) dL_solutions_18)
theorem dL_points_0 : decode cL_points 0 = .ok (.aload_n 2, 1) := by decide +kernel
theorem dL_points_1 : decode cL_points 1 = .ok (.iconst 0, 1) := by decide +kernel
theorem dL_points_2 : decode cL_points 2 = .ok (.aload_n 0, 1) := by decide +kernel
theorem dL_points_3 : decode cL_points 3 = .ok (.iload_n 1, 1) := by decide +kernel
theorem dL_points_4 : decode cL_points 4 = .ok (.invokevirtual 48, 3) := by decide +kernel
theorem dL_points_7 : decode cL_points 7 = .ok (.i2l, 1) := by decide +kernel
theorem dL_points_8 : decode cL_points 8 = .ok (.lastore, 1) := by decide +kernel
theorem dL_points_9 : decode cL_points 9 = .ok (.goto 6, 3) := by decide +kernel
theorem dL_points_12 : decode cL_points 12 = .ok (.astore_n 3, 1) := by decide +kernel
theorem dL_points_13 : decode cL_points 13 = .ok (.iconst 1, 1) := by decide +kernel
theorem dL_points_14 : decode cL_points 14 = .ok (.ireturn, 1) := by decide +kernel
theorem dL_points_15 : decode cL_points 15 = .ok (.iconst 0, 1) := by decide +kernel
theorem dL_points_16 : decode cL_points 16 = .ok (.ireturn, 1) := by decide +kernel
set_option maxHeartbeats 1000000 in
/-- the law's points -/
theorem c_L_points {l : Launch} {G : tm_G} {Hb : Heap} {sh : tm_sh} {M : tm_M} {T h : Nat} {z zm : tl_Z} {px pm : List Int} (h9 : l.stackTraces = false) (J : LJ sh M T z px zm pm) (hI : ZI z) {w : Int} (hw : inI w) : Met l yL_points (twh yL_points cL_points 4 (some .int) [(0, 9, 12, 13)]) ({ frames := 8, cells := 1, slots := 6, locals := 132 }) (va_Pc [.ref T, ji w, .ref (T + 408)] (lt_St G Hb sh M h)) (tm_Qi G Hb sh (fun x M1 => (x = 0 ∧ (1 ≤ w ∧ w ≤ 3) ∧ LJ sh M1 T z px zm pm ∧ mL M1 (T + 408) 0 = w32 (zp z w.toNat)) ∨ (x = 1 ∧ ¬ (1 ≤ w ∧ w ≤ 3) ∧ LJ sh M1 T z px zm pm))) 1 6 (tm_A Hb) := by
  refine lt_begin (by decide) (Nat.le_of_ble_eq_true rfl) (fun p e s m below meth c ls hx hb hr hml hown htw hlk htab hK hW hC hN hh hl => ?_)
  have hS : va_S (tm_A Hb) s.heap s.heap [] := va_S.rf
  have hl : lv_has ls 4 [(0, .ref T), (1, ji w), (2, .ref (T + 408))] := hl
  have ht : c.exceptionTable.toList = [⟨0, 9, 12, 13⟩] := htab
  have hB := hC.1.1
  have a0 := J.1.1
  have u0 := J.2.2.2.2.2.2
  refine lv_aload_n hx hb dL_points_0 rfl (lv_at hl 2 rfl) ?_
  refine ti_iconst hx hb dL_points_1 ?_
  refine lv_aload_n hx hb dL_points_2 rfl (lv_at hl 0 rfl) ?_
  refine lv_iload_n hx hb dL_points_3 rfl (lv_at hl 1 rfl) ?_
  refine tx_calli (cx_L_48 hx hb hml hown htw hK hW hB hS a0 (c_X8_points h9 J.1 J.2.1 hw) ⟨rfl, rfl, Nat.le_of_ble_eq_true rfl, Nat.le_of_ble_eq_true rfl⟩ hl.1 (Nat.le_of_ble_eq_true rfl) dL_points_4 ⟨(Nat.le_of_ble_eq_true rfl), (Nat.le_of_ble_eq_true rfl)⟩) hS (fun E9 ce9 q9 M9 H locs hp9 hW hS h91 h92 h93 => ?_) (fun x8 M8 H locs hp8 hW hS => ?_)
  · obtain ⟨rfl, hc9, eM9⟩ := hp9
    rw [eM9] at hW
    refine lc_catch hown ht (by decide) (by decide) (htw _ kl_L_13) rfl h91 h92 h93 ?_
    change W _ _ _ _ _ _ _ _ _ _ _ _ _ _ _ (F0 m 12 ls [.ref q9])
    refine lv_astore_n (lv' := [(3, _), (0, _), (1, _), (2, _)]) hx hb dL_points_12 rfl hl (by decide) rfl (fun ls hl => ?_)
    refine ti_iconst hx hb dL_points_13 ?_
    exact W.widen (k := 1) (n := 6) (Nat.le_of_ble_eq_true rfl) (Nat.le_of_ble_eq_true rfl) (tm_iret hx hb hr hlk hK hW hS (Or.inr ⟨rfl, hc9, J⟩) dL_points_14)
  refine ti_i2lw hx hb dL_points_7 ?_
  refine tm_last hx hb hK hW hS u0 (by omega) (by omega) (by decide) dL_points_8 (fun H locs hW hS => ?_)
  refine lv_goto (tgt := 15) hx hb dL_points_9 (by decide) ?_
  refine ti_iconst hx hb dL_points_15 ?_
  exact W.widen (k := 1) (n := 6) (Nat.le_of_ble_eq_true rfl) (Nat.le_of_ble_eq_true rfl) (tm_iret hx hb hr hlk hK hW hS (Or.inl ⟨rfl, hp8.1, LJ_u (by rw [hp8.2.2]; exact J), (tm_up_s _ _ _ _).trans (congrArg w32 hp8.2.1)⟩) dL_points_16)
theorem dL_print_0 : decode cL_print 0 = .ok (.aload_n 1, 1) := by decide +kernel
theorem dL_print_1 : decode cL_print 1 = .ok (.iconst 0, 1) := by decide +kernel
theorem dL_print_2 : decode cL_print 2 = .ok (.aload_n 0, 1) := by decide +kernel
theorem dL_print_3 : decode cL_print 3 = .ok (.invokevirtual 45, 3) := by decide +kernel
theorem dL_print_6 : decode cL_print 6 = .ok (.i2l, 1) := by decide +kernel
theorem dL_print_7 : decode cL_print 7 = .ok (.lastore, 1) := by decide +kernel
theorem dL_print_8 : decode cL_print 8 = .ok (.goto 6, 3) := by decide +kernel
theorem dL_print_11 : decode cL_print 11 = .ok (.astore_n 2, 1) := by decide +kernel
theorem dL_print_12 : decode cL_print 12 = .ok (.iconst 1, 1) := by decide +kernel
theorem dL_print_13 : decode cL_print 13 = .ok (.ireturn, 1) := by decide +kernel
theorem dL_print_14 : decode cL_print 14 = .ok (.iconst 0, 1) := by decide +kernel
theorem dL_print_15 : decode cL_print 15 = .ok (.ireturn, 1) := by decide +kernel
set_option maxHeartbeats 1000000 in
/-- the law's print -/
theorem c_L_print {l : Launch} {G : tm_G} {Hb : Heap} {sh : tm_sh} {M : tm_M} {T h : Nat} {z zm : tl_Z} {px pm : List Int} (h9 : l.stackTraces = false) (J : LJ sh M T z px zm pm) (hI : ZI z)  : Met l yL_print (twh yL_print cL_print 3 (some .int) [(0, 8, 11, 22)]) ({ frames := 11, cells := 21, slots := 8006, locals := 239 }) (va_Pc [.ref T, .ref (T + 408)] (lt_St G Hb sh M h)) (tz_Qi G Hb (fun x sh1 M1 h1 => (x = 0 ∧ 0 < zn z ∧ LJ sh1 M1 T z (tl_prt (zl z (zn z - 1))) zm pm ∧ mL M1 (T + 408) 0 = w32 ((tl_prt (zl z (zn z - 1))).length : Int)) ∨ (x = 1 ∧ zn z = 0 ∧ LJ sh1 M1 T z px zm pm))) 21 8006 (tm_A Hb) := by
  refine lt_begin (by decide) (Nat.le_of_ble_eq_true rfl) (fun p e s m below meth c ls hx hb hr hml hown htw hlk htab hK hW hC hN hh hl => ?_)
  have hS : va_S (tm_A Hb) s.heap s.heap [] := va_S.rf
  have hl : lv_has ls 3 [(0, .ref T), (1, .ref (T + 408))] := hl
  have ht : c.exceptionTable.toList = [⟨0, 8, 11, 22⟩] := htab
  have hB := hC.1.1
  have a0 := J.1.1
  have u0 := J.2.2.2.2.2.2
  refine lv_aload_n hx hb dL_print_0 rfl (lv_at hl 1 rfl) ?_
  refine ti_iconst hx hb dL_print_1 ?_
  refine lv_aload_n hx hb dL_print_2 rfl (lv_at hl 0 rfl) ?_
  obtain ⟨-, -, hPr, ⟨V, cap, s1, hV⟩, -⟩ := (id J)
  have hU := hW.free u0
  rw [hh] at hU
  refine tzx_calli (cx_L_45 hx hb hml hown htw hK hW hC hS hh a0 (c_X8_print h9 J.1 J.2.1 hPr s1) ⟨rfl, rfl, Nat.le_of_ble_eq_true rfl, Nat.le_of_ble_eq_true rfl⟩ hl.1 (Nat.le_of_ble_eq_true rfl) dL_print_3 ⟨(Nat.le_of_ble_eq_true rfl), (Nat.le_of_ble_eq_true rfl)⟩) hS (fun E9 ce9 q9 M9 H locs hp9 hW hS h91 h92 h93 => ?_) (fun x8 sh8 M8 h8 H locs hp8 hW hS hz8 => ?_)
  · obtain ⟨rfl, hc9, eM9⟩ := hp9
    rw [eM9] at hW
    refine lc_catch hown ht (by decide) (by decide) (htw _ kl_L_22) rfl h91 h92 h93 ?_
    change W _ _ _ _ _ _ _ _ _ _ _ _ _ _ _ (F0 m 11 ls [.ref q9])
    refine lv_astore_n (lv' := [(2, _), (0, _), (1, _)]) hx hb dL_print_11 rfl hl (by decide) rfl (fun ls hl => ?_)
    refine ti_iconst hx hb dL_print_12 ?_
    exact W.widen (k := 21) (n := 8006) (Nat.le_of_ble_eq_true rfl) (Nat.le_of_ble_eq_true rfl) (tz_iret hx hb hr hlk rfl hK hW hS rfl (Or.inr ⟨rfl, hc9, J⟩) dL_print_13)
  have J8 := LJ_p J hV hU hp8.2.2
  have u0 := J8.2.2.2.2.2.2
  refine ti_i2lw hx hb dL_print_6 ?_
  refine tm_last hx hb hK hW hS u0 (by omega) (by omega) (by decide) dL_print_7 (fun H locs hW hS => ?_)
  refine lv_goto (tgt := 14) hx hb dL_print_8 (by decide) ?_
  refine ti_iconst hx hb dL_print_14 ?_
  exact W.widen (k := 21) (n := 8006) (Nat.le_of_ble_eq_true rfl) (Nat.le_of_ble_eq_true rfl) (tz_iret hx hb hr hlk rfl hK hW hS rfl (Or.inl ⟨rfl, hp8.1, LJ_u J8, (tm_up_s _ _ _ _).trans (congrArg w32 hp8.2.1)⟩) dL_print_15)
