/-! TutorLinesModel.read, whole (by program: wip/whole/gen/mr6.py) -/
def pW (o w : Nat) (a k : Nat) : Prop := a = o + 2 ∧ 360 + 4 * w ≤ k ∧ k < 360 + 4 * w + 4
theorem PSt_r {sh : tm_sh} {M0 M M1 : tm_M} {o : Nat} {t : Nat → Int} {n q lv : Nat} {P : Nat → Nat → Prop} (h : PSt sh M0 M o t n q lv) (f : fq P M M1) (w : ∀ a k, P a k → a = o + 2 ∧ 360 ≤ k ∧ k < 369) : PSt sh M0 M1 o t n q lv :=
  ⟨MS_m h.1 f (fun j z => by have := w _ _ z; omega) (fun z => by have := w _ _ z; omega) ((f.2 _ _ (fun z => by have := w _ _ z; omega)).1.trans h.1.2.2.2.2.1) h.1.2.2.2.2.2, (f.2 _ _ (fun z => by have := w _ _ z; omega)).1.trans h.2.1, h.2.2.1, fq_tr h.2.2.2 (fq_wd f (fun a k z => by have := w _ _ z; unfold pR; omega))⟩
set_option maxHeartbeats 4000000 in
theorem mp_row {p : Program} {l : Launch} {e : Env} {s : State} {m : MethodId} {below : List Frame} {meth : Method} {c : Code} {G : tm_G} {Hb : Heap} {sh : tm_sh} {M0 : tm_M} {o n : Nat} {t : Nat → Int} (Cx : mpC p l e s m below meth c G o n) {sd : Int} {q w : Nat} {M : tm_M} {H : Heap} {locs : List Loc} {ls : Array Slot} (hw : w < 2) (hsd : sd = (w : Nat)) (hP : PSt sh M0 M o t n (q) 0) (K : ∀ (M1 : tm_M) (H1 : Heap) (locs1 : List Loc) (ls1 : Array Slot), PSt sh M0 M1 o t n (q) 0 → asS M1 (o + 2) (360 + 4 * w) = asS M (o + 6) 0 → fq (pW o w) M M1 → tm_W G Hb sh M1 H1 → va_S (tm_A Hb) s.heap H1 locs1 → lv_has ls1 10 [(0, .ref o), (2, ji sd), (3, ji 360), (4, ji 0), (5, ji 0), (6, ji (tp_ch t n (q))), (7, ji ((q : Nat) : Int))] → mpW p l e s m below meth c G Hb sh M0 o n t 542 H1 locs1 ls1) (hW : tm_W G Hb sh M H) (hS : va_S (tm_A Hb) s.heap H locs) (hl : lv_has ls 10 [(0, .ref o), (2, ji sd), (3, ji 360), (4, ji 0), (5, ji 0), (6, ji (tp_ch t n (q))), (7, ji ((q : Nat) : Int))]) : mpW p l e s m below meth c G Hb sh M0 o n t 507 H locs ls := by
  obtain ⟨hx, hb, hr, hml, hown, htw, hlk, hK⟩ := Cx
  have hR := hP.1
  have hlv := hP.2.1
  have h80 := hR.2.2.2.1
  have e19 := hR.2.2.2.2.1
  have cr := tp_ch_r (n := n) (p := q) (MS_t hR)
  obtain ⟨b0, ⟨t1, t2, t6, t7, t9, t12, t13, t14, t15, t16, t17, t24⟩, ⟨u1, u2, u3, u4, u5, u6, u7, u8, u9, u10, u11, u12⟩⟩ := hR.1
  refine ti_iconst hx hb dX9_read_507 ?_
  refine lv_istore (lv' := [(9, _), (0, _), (2, _), (3, _), (4, _), (5, _), (6, _), (7, _)]) hx hb dX9_read_508 hl (by decide) rfl (fun ls hl => ?_)
  refine lv_iload hx hb dX9_read_510 (lv_at hl 0 rfl) ?_
  refine ti_iconst hx hb dX9_read_512 ?_
  refine ti_icmp_ge (tgt := 542) hx hb dX9_read_513 (by decide) (by decide) (by decide) (fun h513 => ?_) (fun h513 => ?_)
  · exact absurd h513 (by decide)
  · refine lv_aload_n hx hb dX9_read_516 rfl (lv_at hl 1 rfl) ?_
    refine gf_X9_13 hx hb htw hown hK hW (by assumption) t2 dX9_read_517 ?_
    refine lv_iload_n hx hb dX9_read_520 rfl (lv_at hl 3 rfl) ?_
    refine ti_iconst hx hb dX9_read_521 ?_
    refine lv_iload_n hx hb dX9_read_522 rfl (lv_at hl 2 rfl) ?_
    refine ti_imul hx hb dX9_read_523 ?_
    refine ti_iadd hx hb dX9_read_524 ?_
    refine lv_iload hx hb dX9_read_525 (lv_at hl 0 rfl) ?_
    refine ti_iadd hx hb dX9_read_527 ?_
    refine lv_aload_n hx hb dX9_read_528 rfl (lv_at hl 1 rfl) ?_
    refine gf_X9_26 hx hb htw hown hK hW (by assumption) t12 dX9_read_529 ?_
    refine lv_iload hx hb dX9_read_532 (lv_at hl 0 rfl) ?_
    refine tm_lald hx hb hK hW (by assumption) (by omega) (by omega) (by decide) dX9_read_534 ?_
    refine tm_last hx hb hK hW hS (by assumption) (by omega) (by omega) (by decide) dX9_read_535 (fun H locs hW hS => ?_)
    have hN : sL M (o + 2) (360 + 4 * sd + 0).toNat (mL M (o + 6) (0 : Int).toNat) = sL M (o + 2) (360 + 4 * w + 0) (mL M (o + 6) 0) := by rw [show (360 + 4 * sd + 0).toNat = 360 + 4 * w + 0 by omega, show mL M (o + 6) (0 : Int).toNat = mL M (o + 6) 0 from rfl]
    rw [hN] at hW
    clear hN
    have fA0 : fq (pW o w) M (sL M (o + 2) (360 + 4 * w + 0) (mL M (o + 6) 0)) := fq_sL ⟨rfl, by omega, by omega⟩
    have kA00 : mL (sL M (o + 2) (360 + 4 * w + 0) (mL M (o + 6) 0)) (o + 2) (360 + 4 * w + 0) = mL M (o + 6) 0 := tm_up_s _ _ _ _
    generalize sL M (o + 2) (360 + 4 * w + 0) (mL M (o + 6) 0) = A0 at hW fA0 kA00
    have r2A0 : mR A0 o 2 = some (o + 2) := by rw [fA0.1]; exact t2
    have r12A0 : mR A0 o 12 = some (o + 6) := by rw [fA0.1]; exact t12
    refine ti_iinc (k := 0) (lv' := [(9, _), (0, _), (2, _), (3, _), (4, _), (5, _), (6, _), (7, _)]) hx hb dX9_read_536 hl rfl (by decide) rfl (fun ls hl => ?_)
    refine lv_goto (tgt := 510) hx hb dX9_read_539 (by decide) ?_
    refine lv_iload hx hb dX9_read_510 (lv_at hl 0 rfl) ?_
    refine ti_iconst hx hb dX9_read_512 ?_
    refine ti_icmp_ge (tgt := 542) hx hb dX9_read_513 (by decide) (by decide) (by decide) (fun h513 => ?_) (fun h513 => ?_)
    · exact absurd h513 (by decide)
    · refine lv_aload_n hx hb dX9_read_516 rfl (lv_at hl 1 rfl) ?_
      refine gf_X9_13 hx hb htw hown hK hW (by assumption) r2A0 dX9_read_517 ?_
      refine lv_iload_n hx hb dX9_read_520 rfl (lv_at hl 3 rfl) ?_
      refine ti_iconst hx hb dX9_read_521 ?_
      refine lv_iload_n hx hb dX9_read_522 rfl (lv_at hl 2 rfl) ?_
      refine ti_imul hx hb dX9_read_523 ?_
      refine ti_iadd hx hb dX9_read_524 ?_
      refine lv_iload hx hb dX9_read_525 (lv_at hl 0 rfl) ?_
      refine ti_iadd hx hb dX9_read_527 ?_
      refine lv_aload_n hx hb dX9_read_528 rfl (lv_at hl 1 rfl) ?_
      refine gf_X9_26 hx hb htw hown hK hW (by assumption) r12A0 dX9_read_529 ?_
      refine lv_iload hx hb dX9_read_532 (lv_at hl 0 rfl) ?_
      refine tm_lald hx hb hK hW (by assumption) (by omega) (by omega) (by decide) dX9_read_534 ?_
      refine tm_last hx hb hK hW hS (by assumption) (by omega) (by omega) (by decide) dX9_read_535 (fun H locs hW hS => ?_)
      have hN : sL A0 (o + 2) (360 + 4 * sd + (0 + 1)).toNat (mL A0 (o + 6) (0 + 1 : Int).toNat) = sL A0 (o + 2) (360 + 4 * w + 1) (mL M (o + 6) 1) := by rw [show (360 + 4 * sd + (0 + 1)).toNat = 360 + 4 * w + 1 by omega, show mL A0 (o + 6) (0 + 1 : Int).toNat = mL M (o + 6) 1 from (fA0.2 _ _ (by unfold pW; omega)).2]
      rw [hN] at hW
      clear hN
      have fA1 : fq (pW o w) M (sL A0 (o + 2) (360 + 4 * w + 1) (mL M (o + 6) 1)) := fq_tr fA0 (fq_sL ⟨rfl, by omega, by omega⟩)
      have kA10 : mL (sL A0 (o + 2) (360 + 4 * w + 1) (mL M (o + 6) 1)) (o + 2) (360 + 4 * w + 0) = mL M (o + 6) 0 := (tm_up_k _ _ (by omega)).trans kA00
      have kA11 : mL (sL A0 (o + 2) (360 + 4 * w + 1) (mL M (o + 6) 1)) (o + 2) (360 + 4 * w + 1) = mL M (o + 6) 1 := tm_up_s _ _ _ _
      generalize sL A0 (o + 2) (360 + 4 * w + 1) (mL M (o + 6) 1) = A1 at hW fA1 kA10 kA11
      have r2A1 : mR A1 o 2 = some (o + 2) := by rw [fA1.1]; exact t2
      have r12A1 : mR A1 o 12 = some (o + 6) := by rw [fA1.1]; exact t12
      refine ti_iinc (k := 0) (lv' := [(9, _), (0, _), (2, _), (3, _), (4, _), (5, _), (6, _), (7, _)]) hx hb dX9_read_536 hl rfl (by decide) rfl (fun ls hl => ?_)
      refine lv_goto (tgt := 510) hx hb dX9_read_539 (by decide) ?_
      refine lv_iload hx hb dX9_read_510 (lv_at hl 0 rfl) ?_
      refine ti_iconst hx hb dX9_read_512 ?_
      refine ti_icmp_ge (tgt := 542) hx hb dX9_read_513 (by decide) (by decide) (by decide) (fun h513 => ?_) (fun h513 => ?_)
      · exact absurd h513 (by decide)
      · refine lv_aload_n hx hb dX9_read_516 rfl (lv_at hl 1 rfl) ?_
        refine gf_X9_13 hx hb htw hown hK hW (by assumption) r2A1 dX9_read_517 ?_
        refine lv_iload_n hx hb dX9_read_520 rfl (lv_at hl 3 rfl) ?_
        refine ti_iconst hx hb dX9_read_521 ?_
        refine lv_iload_n hx hb dX9_read_522 rfl (lv_at hl 2 rfl) ?_
        refine ti_imul hx hb dX9_read_523 ?_
        refine ti_iadd hx hb dX9_read_524 ?_
        refine lv_iload hx hb dX9_read_525 (lv_at hl 0 rfl) ?_
        refine ti_iadd hx hb dX9_read_527 ?_
        refine lv_aload_n hx hb dX9_read_528 rfl (lv_at hl 1 rfl) ?_
        refine gf_X9_26 hx hb htw hown hK hW (by assumption) r12A1 dX9_read_529 ?_
        refine lv_iload hx hb dX9_read_532 (lv_at hl 0 rfl) ?_
        refine tm_lald hx hb hK hW (by assumption) (by omega) (by omega) (by decide) dX9_read_534 ?_
        refine tm_last hx hb hK hW hS (by assumption) (by omega) (by omega) (by decide) dX9_read_535 (fun H locs hW hS => ?_)
        have hN : sL A1 (o + 2) (360 + 4 * sd + (0 + 1 + 1)).toNat (mL A1 (o + 6) (0 + 1 + 1 : Int).toNat) = sL A1 (o + 2) (360 + 4 * w + 2) (mL M (o + 6) 2) := by rw [show (360 + 4 * sd + (0 + 1 + 1)).toNat = 360 + 4 * w + 2 by omega, show mL A1 (o + 6) (0 + 1 + 1 : Int).toNat = mL M (o + 6) 2 from (fA1.2 _ _ (by unfold pW; omega)).2]
        rw [hN] at hW
        clear hN
        have fA2 : fq (pW o w) M (sL A1 (o + 2) (360 + 4 * w + 2) (mL M (o + 6) 2)) := fq_tr fA1 (fq_sL ⟨rfl, by omega, by omega⟩)
        have kA20 : mL (sL A1 (o + 2) (360 + 4 * w + 2) (mL M (o + 6) 2)) (o + 2) (360 + 4 * w + 0) = mL M (o + 6) 0 := (tm_up_k _ _ (by omega)).trans kA10
        have kA21 : mL (sL A1 (o + 2) (360 + 4 * w + 2) (mL M (o + 6) 2)) (o + 2) (360 + 4 * w + 1) = mL M (o + 6) 1 := (tm_up_k _ _ (by omega)).trans kA11
        have kA22 : mL (sL A1 (o + 2) (360 + 4 * w + 2) (mL M (o + 6) 2)) (o + 2) (360 + 4 * w + 2) = mL M (o + 6) 2 := tm_up_s _ _ _ _
        generalize sL A1 (o + 2) (360 + 4 * w + 2) (mL M (o + 6) 2) = A2 at hW fA2 kA20 kA21 kA22
        have r2A2 : mR A2 o 2 = some (o + 2) := by rw [fA2.1]; exact t2
        have r12A2 : mR A2 o 12 = some (o + 6) := by rw [fA2.1]; exact t12
        refine ti_iinc (k := 0) (lv' := [(9, _), (0, _), (2, _), (3, _), (4, _), (5, _), (6, _), (7, _)]) hx hb dX9_read_536 hl rfl (by decide) rfl (fun ls hl => ?_)
        refine lv_goto (tgt := 510) hx hb dX9_read_539 (by decide) ?_
        refine lv_iload hx hb dX9_read_510 (lv_at hl 0 rfl) ?_
        refine ti_iconst hx hb dX9_read_512 ?_
        refine ti_icmp_ge (tgt := 542) hx hb dX9_read_513 (by decide) (by decide) (by decide) (fun h513 => ?_) (fun h513 => ?_)
        · exact absurd h513 (by decide)
        · refine lv_aload_n hx hb dX9_read_516 rfl (lv_at hl 1 rfl) ?_
          refine gf_X9_13 hx hb htw hown hK hW (by assumption) r2A2 dX9_read_517 ?_
          refine lv_iload_n hx hb dX9_read_520 rfl (lv_at hl 3 rfl) ?_
          refine ti_iconst hx hb dX9_read_521 ?_
          refine lv_iload_n hx hb dX9_read_522 rfl (lv_at hl 2 rfl) ?_
          refine ti_imul hx hb dX9_read_523 ?_
          refine ti_iadd hx hb dX9_read_524 ?_
          refine lv_iload hx hb dX9_read_525 (lv_at hl 0 rfl) ?_
          refine ti_iadd hx hb dX9_read_527 ?_
          refine lv_aload_n hx hb dX9_read_528 rfl (lv_at hl 1 rfl) ?_
          refine gf_X9_26 hx hb htw hown hK hW (by assumption) r12A2 dX9_read_529 ?_
          refine lv_iload hx hb dX9_read_532 (lv_at hl 0 rfl) ?_
          refine tm_lald hx hb hK hW (by assumption) (by omega) (by omega) (by decide) dX9_read_534 ?_
          refine tm_last hx hb hK hW hS (by assumption) (by omega) (by omega) (by decide) dX9_read_535 (fun H locs hW hS => ?_)
          have hN : sL A2 (o + 2) (360 + 4 * sd + (0 + 1 + 1 + 1)).toNat (mL A2 (o + 6) (0 + 1 + 1 + 1 : Int).toNat) = sL A2 (o + 2) (360 + 4 * w + 3) (mL M (o + 6) 3) := by rw [show (360 + 4 * sd + (0 + 1 + 1 + 1)).toNat = 360 + 4 * w + 3 by omega, show mL A2 (o + 6) (0 + 1 + 1 + 1 : Int).toNat = mL M (o + 6) 3 from (fA2.2 _ _ (by unfold pW; omega)).2]
          rw [hN] at hW
          clear hN
          have fA3 : fq (pW o w) M (sL A2 (o + 2) (360 + 4 * w + 3) (mL M (o + 6) 3)) := fq_tr fA2 (fq_sL ⟨rfl, by omega, by omega⟩)
          have kA30 : mL (sL A2 (o + 2) (360 + 4 * w + 3) (mL M (o + 6) 3)) (o + 2) (360 + 4 * w + 0) = mL M (o + 6) 0 := (tm_up_k _ _ (by omega)).trans kA20
          have kA31 : mL (sL A2 (o + 2) (360 + 4 * w + 3) (mL M (o + 6) 3)) (o + 2) (360 + 4 * w + 1) = mL M (o + 6) 1 := (tm_up_k _ _ (by omega)).trans kA21
          have kA32 : mL (sL A2 (o + 2) (360 + 4 * w + 3) (mL M (o + 6) 3)) (o + 2) (360 + 4 * w + 2) = mL M (o + 6) 2 := (tm_up_k _ _ (by omega)).trans kA22
          have kA33 : mL (sL A2 (o + 2) (360 + 4 * w + 3) (mL M (o + 6) 3)) (o + 2) (360 + 4 * w + 3) = mL M (o + 6) 3 := tm_up_s _ _ _ _
          generalize sL A2 (o + 2) (360 + 4 * w + 3) (mL M (o + 6) 3) = A3 at hW fA3 kA30 kA31 kA32 kA33
          have r2A3 : mR A3 o 2 = some (o + 2) := by rw [fA3.1]; exact t2
          have r12A3 : mR A3 o 12 = some (o + 6) := by rw [fA3.1]; exact t12
          refine ti_iinc (k := 0) (lv' := [(9, _), (0, _), (2, _), (3, _), (4, _), (5, _), (6, _), (7, _)]) hx hb dX9_read_536 hl rfl (by decide) rfl (fun ls hl => ?_)
          refine lv_goto (tgt := 510) hx hb dX9_read_539 (by decide) ?_
          refine lv_iload hx hb dX9_read_510 (lv_at hl 0 rfl) ?_
          refine ti_iconst hx hb dX9_read_512 ?_
          refine ti_icmp_ge (tgt := 542) hx hb dX9_read_513 (by decide) (by decide) (by decide) (fun h513 => ?_) (fun h513 => ?_)
          · exact K A3 _ _ _ (PSt_r hP fA3 (fun a k z => by unfold pW at z; omega)) (by show ((mL A3 (o + 2) (360 + 4 * w + 0), mL A3 (o + 2) (360 + 4 * w + 1)), (mL A3 (o + 2) (360 + 4 * w + 2), mL A3 (o + 2) (360 + 4 * w + 3))) = _; rw [kA30, kA31, kA32, kA33]) fA3 hW hS (lv_sub hl [1, 2, 3, 4, 5, 6, 7] rfl)
          · exact absurd (show (4 : Int) ≤ 0 + 1 + 1 + 1 + 1 by decide) h513
theorem mp_rl {M : tm_M} {o : Nat} {vL v : tl_S} {rel : Int} (h1 : asS M (o + 2) 360 = vL) (h2 : asS M (o + 2) (360 + 4) = v) (h3 : mL M (o + 2) 368 = rel) : rl M o 40 = (vL, v, rel) := by
  rw [← h1, ← h2, ← h3]
set_option maxHeartbeats 4000000 in
theorem mp_482B {p : Program} {l : Launch} {e : Env} {s : State} {m : MethodId} {below : List Frame} {meth : Method} {c : Code} {G : tm_G} {Hb : Heap} {sh : tm_sh} {M0 : tm_M} {o n : Nat} {t : Nat → Int} (Cx : mpC p l e s m below meth c G o n) {q : Nat} {b rel : Int} {vL v : tl_S} {M : tm_M} {H : Heap} {locs : List Loc} {ls : Array Slot} (hP : PSt sh M0 M o t n (q) 0) (hv : asS M (o + 6) 0 = v) (hvl : asS M (o + 2) 360 = vL) (hrl : mL M (o + 2) 368 = rel) (hok : lok (vL, v, rel)) (hln : tp_line t n = if tp_ch t n q = -1 then .inl (vL, v, rel) else .inr q) (hW : tm_W G Hb sh M H) (hS : va_S (tm_A Hb) s.heap H locs) (hl : lv_has ls 10 [(0, .ref o), (2, ji 1), (3, ji 360), (4, ji 0), (5, ji 0), (6, ji (tp_ch t n (q))), (7, ji ((q : Nat) : Int)), (8, ji b)]) : mpW p l e s m below meth c G Hb sh M0 o n t 482 H locs ls := by
  have Cx0 := Cx
  obtain ⟨hx, hb, hr, hml, hown, htw, hlk, hK⟩ := Cx
  have hR := hP.1
  have hlv := hP.2.1
  have h80 := hR.2.2.2.1
  have e19 := hR.2.2.2.2.1
  have cr := tp_ch_r (n := n) (p := q) (MS_t hR)
  obtain ⟨b0, ⟨t1, t2, t6, t7, t9, t12, t13, t14, t15, t16, t17, t24⟩, ⟨u1, u2, u3, u4, u5, u6, u7, u8, u9, u10, u11, u12⟩⟩ := hR.1
  refine lv_iload_n hx hb dX9_read_482 rfl (lv_at hl 1 rfl) ?_
  refine ti_if_ne (tgt := 494) hx hb dX9_read_483 (by decide) (by decide) (fun h483 => ?_) (fun h483 => ?_)
  · refine lv_iload hx hb dX9_read_494 (lv_at hl 5 rfl) ?_
    refine ti_iconst hx hb dX9_read_496 ?_
    refine ti_icmp_eq (tgt := 507) hx hb dX9_read_497 (by decide) (by omega) (by decide) (fun h497 => ?_) (fun h497 => ?_)
    · refine mp_row (w := 1) Cx0 (by decide) rfl hP ?_ hW hS (lv_sub hl [0, 1, 2, 3, 4, 5, 6] rfl)
      intro M1 H1 locs1 ls1 P1 v1 f1 hW hS hl
      have g1 : asS M1 (o + 2) 360 = vL := (as_fq f1 (fun j hj => by unfold pW; omega)).trans hvl
      have g2 : mL M1 (o + 2) 368 = rel := (f1.2 _ _ (by unfold pW; omega)).2.trans hrl
      have g3 : asS M1 (o + 2) (360 + 4) = v := v1.trans hv
      refine lv_iload_n hx hb dX9_read_542 rfl (lv_at hl 1 rfl) ?_
      refine ti_iconst hx hb dX9_read_543 ?_
      refine ti_icmp_ne (tgt := 549) hx hb dX9_read_544 (by decide) (by decide) (by decide) (fun h544 => ?_) (fun h544 => ?_)
      · exact absurd rfl h544
      · refine ti_iconst hx hb dX9_read_547 ?_
        exact tm_zret hx hb hr hlk (by first | exact Or.inl rfl | exact Or.inr rfl | assumption) hK hW hS ⟨P1.2.2.2, Or.inl ⟨rfl, (vL, v, rel), by rw [hln, if_pos h497], mp_rl g1 g3 g2, hok⟩⟩ dX9_read_548
    · refine lv_aload_n hx hb dX9_read_500 rfl (lv_at hl 0 rfl) ?_
      refine lv_iload hx hb dX9_read_501 (lv_at hl 6 rfl) ?_
      refine tm_calli (cs_X9_103 hx hb hml hown htw hK hW (by assumption) (c_X9_fails b0) ⟨rfl, rfl, Nat.le_of_ble_eq_true rfl, Nat.le_of_ble_eq_true rfl⟩ hl.1 (Nat.le_of_ble_eq_true rfl) dX9_read_503 ⟨Nat.le_of_ble_eq_true rfl, Nat.le_of_ble_eq_true rfl⟩) hS (fun x503 M503 H locs hp503 hW hS => ?_)
      obtain ⟨ex503, eM503⟩ := hp503
      rw [ex503]
      exact tm_zret hx hb hr hlk (by first | exact Or.inl rfl | exact Or.inr rfl | assumption) hK hW hS ⟨fq_tr hP.2.2.2 (by rw [eM503]; exact fq_sI (by unfold pR pP; omega)), Or.inr ⟨rfl, q, by rw [hln, if_neg h497], by rw [eM503]; exact tm_up_s _ _ _ _⟩⟩ dX9_read_506
  · exact absurd h483 (by decide)
set_option maxHeartbeats 4000000 in
theorem mp_595 {p : Program} {l : Launch} {e : Env} {s : State} {m : MethodId} {below : List Frame} {meth : Method} {c : Code} {G : tm_G} {Hb : Heap} {sh : tm_sh} {M0 : tm_M} {o n : Nat} {t : Nat → Int} (Cx : mpC p l e s m below meth c G o n) {q : Nat} {v : tl_S} {M : tm_M} {H : Heap} {locs : List Loc} {ls : Array Slot} (hrel : 60 ≤ tp_ch t n q ∧ tp_ch t n q ≤ 62) (hP : PSt sh M0 M o t n (q + 1) 0) (g1 : asS M (o + 2) 360 = v) (g2 : mL M (o + 2) 368 = tp_rel (tp_ch t n q)) (K : ∀ (M1 : tm_M) (H1 : Heap) (locs1 : List Loc) (ls1 : Array Slot), (60 ≤ tp_ch t n q ∧ tp_ch t n q ≤ 62) → PSt sh M0 M1 o t n (q + 1) 0 → asS M1 (o + 2) 360 = v → mL M1 (o + 2) 368 = tp_rel (tp_ch t n q) → mI M1 (o + 8) 0 = 0 → mI M1 (o + 9) 0 = 43 → mI M1 (o + 11) 0 = -1 → tm_W G Hb sh M1 H1 → va_S (tm_A Hb) s.heap H1 locs1 → lv_has ls1 10 [(0, .ref o), (2, ji 1), (3, ji 360), (4, ji 1), (5, ji 1)] → mpW p l e s m below meth c G Hb sh M0 o n t 32 H1 locs1 ls1) (hW : tm_W G Hb sh M H) (hS : va_S (tm_A Hb) s.heap H locs) (hl : lv_has ls 10 [(0, .ref o), (2, ji 1), (3, ji 360), (4, ji 0), (5, ji 0), (6, ji (tp_ch t n (q))), (7, ji ((q : Nat) : Int))]) : mpW p l e s m below meth c G Hb sh M0 o n t 595 H locs ls := by
  obtain ⟨hx, hb, hr, hml, hown, htw, hlk, hK⟩ := Cx
  have hR := hP.1
  have hlv := hP.2.1
  have h80 := hR.2.2.2.1
  have e19 := hR.2.2.2.2.1
  have cr := tp_ch_r (n := n) (p := q) (MS_t hR)
  obtain ⟨b0, ⟨t1, t2, t6, t7, t9, t12, t13, t14, t15, t16, t17, t24⟩, ⟨u1, u2, u3, u4, u5, u6, u7, u8, u9, u10, u11, u12⟩⟩ := hR.1
  refine lv_aload_n hx hb dX9_read_595 rfl (lv_at hl 0 rfl) ?_
  refine ti_iconst hx hb dX9_read_596 ?_
  refine tm_callv (cs_X9_121 hx hb hml hown htw hK hW (by assumption) (c_X9_open (x := 0) hR.1 (by decide)) ⟨rfl, rfl, Nat.le_of_ble_eq_true rfl, Nat.le_of_ble_eq_true rfl⟩ hl.1 (Nat.le_of_ble_eq_true rfl) dX9_read_597 ⟨Nat.le_of_ble_eq_true rfl, Nat.le_of_ble_eq_true rfl⟩) hS (fun M597 H locs hp597 hW hS => ?_)
  have hp597 : M597 = (sI (sI (sI M (o + 8) 0 0) (o + 9) 0 43) (o + 11) 0 (-1)) := hp597
  have f597 : fq (pP o 0) M M597 := by rw [hp597]; exact fq_tr (fq_tr (fq_sI (by unfold pP; omega)) (fq_sI (by unfold pP; omega))) (fq_sI (by unfold pP; omega))
  have a8 : mI M597 (o + 8) 0 = 0 := by rw [hp597]; exact (tm_up_a _ _ (by omega)).trans ((tm_up_a _ _ (by omega)).trans (tm_up_s _ _ _ _))
  have a9 : mI M597 (o + 9) 0 = 43 := by rw [hp597]; exact (tm_up_a _ _ (by omega)).trans (tm_up_s _ _ _ _)
  have a11 : mI M597 (o + 11) 0 = -1 := by rw [hp597]; exact tm_up_s _ _ _ _
  have a18 : mI M597 o 18 = ((0 : Nat) : Int) := by rw [hp597]; exact (tm_up_a _ _ (by omega)).trans ((tm_up_a _ _ (by omega)).trans ((tm_up_a _ _ (by omega)).trans hlv))
  have a19 : mI M597 o 19 = ((q + 1 : Nat) : Int) := by rw [hp597]; exact (tm_up_a _ _ (by omega)).trans ((tm_up_a _ _ (by omega)).trans ((tm_up_a _ _ (by omega)).trans e19))
  have aL : mL M597 = mL M := by rw [hp597]
  refine ti_iconst hx hb dX9_read_600 ?_
  refine lv_istore (lv' := [(4, _), (0, _), (2, _), (3, _), (5, _), (6, _), (7, _)]) hx hb dX9_read_601 hl (by decide) rfl (fun ls hl => ?_)
  refine ti_iconst hx hb dX9_read_603 ?_
  refine lv_istore (lv' := [(5, _), (4, _), (0, _), (2, _), (3, _), (6, _), (7, _)]) hx hb dX9_read_604 hl (by decide) rfl (fun ls hl => ?_)
  refine lv_goto (tgt := 32) hx hb dX9_read_606 (by decide) ?_
  exact K M597 _ _ _ hrel (PSt_m hP f597 (fun _ _ z => z) a19 hR.2.2.2.2.2 a18 (by decide)) (by show ((mL M597 _ _, mL M597 _ _), (mL M597 _ _, mL M597 _ _)) = _; rw [aL]; exact g1) (by rw [aL]; exact g2) a8 a9 a11 hW hS (lv_sub hl [2, 3, 4, 1, 0] rfl)
theorem tl_rl2 {c : Int} (h : ¬ c = 61) (h2 : ¬ c = 60) : 2 = tp_rel c := by
  unfold tp_rel
  rw [if_neg h2, if_neg h]
theorem tl_rl1 {c : Int} (h2 : c = 60) : 1 = tp_rel c := by
  unfold tp_rel
  rw [if_pos h2]
theorem tl_rl0 {c : Int} (h : c = 61) : 0 = tp_rel c := by
  unfold tp_rel
  rw [if_neg (by omega), if_pos h]
set_option maxHeartbeats 4000000 in
theorem mp_542A {p : Program} {l : Launch} {e : Env} {s : State} {m : MethodId} {below : List Frame} {meth : Method} {c : Code} {G : tm_G} {Hb : Heap} {sh : tm_sh} {M0 : tm_M} {o n : Nat} {t : Nat → Int} (Cx : mpC p l e s m below meth c G o n) {q : Nat} {v : tl_S} {M : tm_M} {H : Heap} {locs : List Loc} {ls : Array Slot} (hrel : 60 ≤ tp_ch t n q ∧ tp_ch t n q ≤ 62) (hP : PSt sh M0 M o t n (q) 0) (g1 : asS M (o + 2) 360 = v) (K : ∀ (M1 : tm_M) (H1 : Heap) (locs1 : List Loc) (ls1 : Array Slot), (60 ≤ tp_ch t n q ∧ tp_ch t n q ≤ 62) → PSt sh M0 M1 o t n (q + 1) 0 → asS M1 (o + 2) 360 = v → mL M1 (o + 2) 368 = tp_rel (tp_ch t n q) → mI M1 (o + 8) 0 = 0 → mI M1 (o + 9) 0 = 43 → mI M1 (o + 11) 0 = -1 → tm_W G Hb sh M1 H1 → va_S (tm_A Hb) s.heap H1 locs1 → lv_has ls1 10 [(0, .ref o), (2, ji 1), (3, ji 360), (4, ji 1), (5, ji 1)] → mpW p l e s m below meth c G Hb sh M0 o n t 32 H1 locs1 ls1) (hW : tm_W G Hb sh M H) (hS : va_S (tm_A Hb) s.heap H locs) (hl : lv_has ls 10 [(0, .ref o), (2, ji 0), (3, ji 360), (4, ji 0), (5, ji 0), (6, ji (tp_ch t n (q))), (7, ji ((q : Nat) : Int))]) : mpW p l e s m below meth c G Hb sh M0 o n t 542 H locs ls := by
  have Cx0 := Cx
  obtain ⟨hx, hb, hr, hml, hown, htw, hlk, hK⟩ := Cx
  have hR := hP.1
  have hlv := hP.2.1
  have h80 := hR.2.2.2.1
  have e19 := hR.2.2.2.2.1
  have cr := tp_ch_r (n := n) (p := q) (MS_t hR)
  obtain ⟨b0, ⟨t1, t2, t6, t7, t9, t12, t13, t14, t15, t16, t17, t24⟩, ⟨u1, u2, u3, u4, u5, u6, u7, u8, u9, u10, u11, u12⟩⟩ := hR.1
  refine lv_iload_n hx hb dX9_read_542 rfl (lv_at hl 1 rfl) ?_
  refine ti_iconst hx hb dX9_read_543 ?_
  refine ti_icmp_ne (tgt := 549) hx hb dX9_read_544 (by decide) (by decide) (by decide) (fun h544 => ?_) (fun h544 => ?_)
  · refine lv_aload_n hx hb dX9_read_549 rfl (lv_at hl 0 rfl) ?_
    refine gf_X9_13 hx hb htw hown hK hW (by assumption) (by assumption) dX9_read_550 ?_
    refine lv_iload_n hx hb dX9_read_553 rfl (lv_at hl 2 rfl) ?_
    refine ti_bipush hx hb dX9_read_554 (by decide) ?_
    refine ti_iadd hx hb dX9_read_556 ?_
    refine lv_iload hx hb dX9_read_557 (lv_at hl 5 rfl) ?_
    refine ti_bipush hx hb dX9_read_559 (by decide) ?_
    refine ti_icmp_ne (tgt := 568) hx hb dX9_read_561 (by decide) (by omega) (by decide) (fun h561 => ?_) (fun h561 => ?_)
    · refine lv_iload hx hb dX9_read_568 (lv_at hl 5 rfl) ?_
      refine ti_bipush hx hb dX9_read_570 (by decide) ?_
      refine ti_icmp_ne (tgt := 579) hx hb dX9_read_572 (by decide) (by omega) (by decide) (fun h572 => ?_) (fun h572 => ?_)
      · refine lv_ldc2 hx hb hown (htw _ cl_X9_135) dX9_read_579 ?_
        refine tm_last hx hb hK hW hS (by assumption) (by decide) (by decide) (by decide) dX9_read_582 (fun H locs hW hS => ?_)
        refine ti_iconst hx hb dX9_read_583 ?_
        refine lv_istore_n (lv' := [(2, _), (0, _), (3, _), (4, _), (5, _), (6, _), (7, _)]) hx hb dX9_read_584 rfl hl (by decide) rfl (fun ls hl => ?_)
        refine lv_aload_n hx hb dX9_read_585 rfl (lv_at hl 1 rfl) ?_
        refine lv_dup hx hb dX9_read_586 rfl ?_
        refine gf_X9_76 hx hb htw hown hK hW (by assumption) dX9_read_587 ?_
        refine ti_iconst hx hb dX9_read_590 ?_
        refine ti_iadd hx hb dX9_read_591 ?_
        refine pf_X9_76 hx hb htw hown hK hW (by assumption) hS dX9_read_592 (fun H locs hW hS => ?_)
        exact mp_595 (M := (sI (sL M (o + 2) ((360 : Int) + 8).toNat 2) o 19 (mI (sL M (o + 2) ((360 : Int) + 8).toNat 2) o 19 + 1))) (v := v) Cx0 hrel (PSt_m (P := fun a k => a = o ∧ k = 19) (PSt_r (P := fun a k => a = o + 2 ∧ k = 368) hP (fq_sL ⟨rfl, rfl⟩) (fun a k z => by omega)) (fq_sI ⟨rfl, rfl⟩) (fun a k z => by unfold pP; omega) ((tm_up_s _ _ _ _).trans (by rw [show mI (sL M (o + 2) ((360 : Int) + 8).toNat 2) o 19 = mI M o 19 from rfl, e19]; rfl)) (tp_ch_lt (t := t) (n := n) (by omega)) ((tm_up_k _ _ (by decide)).trans hlv) (by decide)) ((as_fq (P := fun a k => a = o + 2 ∧ k = 368) (fq_sL ⟨rfl, rfl⟩) (fun j hj => by omega)).trans g1) ((tm_up_s _ _ _ _).trans (tl_rl2 h561 h572)) K hW hS (lv_sub hl [1, 0, 2, 3, 4, 5, 6] rfl)
      · refine ti_lconst1 hx hb dX9_read_575 ?_
        refine lv_goto (tgt := 582) hx hb dX9_read_576 (by decide) ?_
        refine tm_last hx hb hK hW hS (by assumption) (by decide) (by decide) (by decide) dX9_read_582 (fun H locs hW hS => ?_)
        refine ti_iconst hx hb dX9_read_583 ?_
        refine lv_istore_n (lv' := [(2, _), (0, _), (3, _), (4, _), (5, _), (6, _), (7, _)]) hx hb dX9_read_584 rfl hl (by decide) rfl (fun ls hl => ?_)
        refine lv_aload_n hx hb dX9_read_585 rfl (lv_at hl 1 rfl) ?_
        refine lv_dup hx hb dX9_read_586 rfl ?_
        refine gf_X9_76 hx hb htw hown hK hW (by assumption) dX9_read_587 ?_
        refine ti_iconst hx hb dX9_read_590 ?_
        refine ti_iadd hx hb dX9_read_591 ?_
        refine pf_X9_76 hx hb htw hown hK hW (by assumption) hS dX9_read_592 (fun H locs hW hS => ?_)
        exact mp_595 (M := (sI (sL M (o + 2) ((360 : Int) + 8).toNat 1) o 19 (mI (sL M (o + 2) ((360 : Int) + 8).toNat 1) o 19 + 1))) (v := v) Cx0 hrel (PSt_m (P := fun a k => a = o ∧ k = 19) (PSt_r (P := fun a k => a = o + 2 ∧ k = 368) hP (fq_sL ⟨rfl, rfl⟩) (fun a k z => by omega)) (fq_sI ⟨rfl, rfl⟩) (fun a k z => by unfold pP; omega) ((tm_up_s _ _ _ _).trans (by rw [show mI (sL M (o + 2) ((360 : Int) + 8).toNat 1) o 19 = mI M o 19 from rfl, e19]; rfl)) (tp_ch_lt (t := t) (n := n) (by omega)) ((tm_up_k _ _ (by decide)).trans hlv) (by decide)) ((as_fq (P := fun a k => a = o + 2 ∧ k = 368) (fq_sL ⟨rfl, rfl⟩) (fun j hj => by omega)).trans g1) ((tm_up_s _ _ _ _).trans (tl_rl1 h572)) K hW hS (lv_sub hl [1, 0, 2, 3, 4, 5, 6] rfl)
    · refine ti_lconst0 hx hb dX9_read_564 ?_
      refine lv_goto (tgt := 582) hx hb dX9_read_565 (by decide) ?_
      refine tm_last hx hb hK hW hS (by assumption) (by decide) (by decide) (by decide) dX9_read_582 (fun H locs hW hS => ?_)
      refine ti_iconst hx hb dX9_read_583 ?_
      refine lv_istore_n (lv' := [(2, _), (0, _), (3, _), (4, _), (5, _), (6, _), (7, _)]) hx hb dX9_read_584 rfl hl (by decide) rfl (fun ls hl => ?_)
      refine lv_aload_n hx hb dX9_read_585 rfl (lv_at hl 1 rfl) ?_
      refine lv_dup hx hb dX9_read_586 rfl ?_
      refine gf_X9_76 hx hb htw hown hK hW (by assumption) dX9_read_587 ?_
      refine ti_iconst hx hb dX9_read_590 ?_
      refine ti_iadd hx hb dX9_read_591 ?_
      refine pf_X9_76 hx hb htw hown hK hW (by assumption) hS dX9_read_592 (fun H locs hW hS => ?_)
      exact mp_595 (M := (sI (sL M (o + 2) ((360 : Int) + 8).toNat 0) o 19 (mI (sL M (o + 2) ((360 : Int) + 8).toNat 0) o 19 + 1))) (v := v) Cx0 hrel (PSt_m (P := fun a k => a = o ∧ k = 19) (PSt_r (P := fun a k => a = o + 2 ∧ k = 368) hP (fq_sL ⟨rfl, rfl⟩) (fun a k z => by omega)) (fq_sI ⟨rfl, rfl⟩) (fun a k z => by unfold pP; omega) ((tm_up_s _ _ _ _).trans (by rw [show mI (sL M (o + 2) ((360 : Int) + 8).toNat 0) o 19 = mI M o 19 from rfl, e19]; rfl)) (tp_ch_lt (t := t) (n := n) (by omega)) ((tm_up_k _ _ (by decide)).trans hlv) (by decide)) ((as_fq (P := fun a k => a = o + 2 ∧ k = 368) (fq_sL ⟨rfl, rfl⟩) (fun j hj => by omega)).trans g1) ((tm_up_s _ _ _ _).trans (tl_rl0 h561)) K hW hS (lv_sub hl [1, 0, 2, 3, 4, 5, 6] rfl)
  · exact absurd h544 (by decide)
set_option maxHeartbeats 4000000 in
theorem mp_482A {p : Program} {l : Launch} {e : Env} {s : State} {m : MethodId} {below : List Frame} {meth : Method} {c : Code} {G : tm_G} {Hb : Heap} {sh : tm_sh} {M0 : tm_M} {o n : Nat} {t : Nat → Int} (Cx : mpC p l e s m below meth c G o n) {q : Nat} {b : Int} {v : tl_S} {M : tm_M} {H : Heap} {locs : List Loc} {ls : Array Slot} (hb01 : b = 0 ∨ b = 1) (hbr : b = 1 ↔ (60 ≤ tp_ch t n q ∧ tp_ch t n q ≤ 62)) (hP : PSt sh M0 M o t n (q) 0) (hv : asS M (o + 6) 0 = v) (hF : ¬ (60 ≤ tp_ch t n q ∧ tp_ch t n q ≤ 62) → tp_line t n = .inr q) (K : ∀ (M1 : tm_M) (H1 : Heap) (locs1 : List Loc) (ls1 : Array Slot), (60 ≤ tp_ch t n q ∧ tp_ch t n q ≤ 62) → PSt sh M0 M1 o t n (q + 1) 0 → asS M1 (o + 2) 360 = v → mL M1 (o + 2) 368 = tp_rel (tp_ch t n q) → mI M1 (o + 8) 0 = 0 → mI M1 (o + 9) 0 = 43 → mI M1 (o + 11) 0 = -1 → tm_W G Hb sh M1 H1 → va_S (tm_A Hb) s.heap H1 locs1 → lv_has ls1 10 [(0, .ref o), (2, ji 1), (3, ji 360), (4, ji 1), (5, ji 1)] → mpW p l e s m below meth c G Hb sh M0 o n t 32 H1 locs1 ls1) (hW : tm_W G Hb sh M H) (hS : va_S (tm_A Hb) s.heap H locs) (hl : lv_has ls 10 [(0, .ref o), (2, ji 0), (3, ji 360), (4, ji 0), (5, ji 0), (6, ji (tp_ch t n (q))), (7, ji ((q : Nat) : Int)), (8, ji b)]) : mpW p l e s m below meth c G Hb sh M0 o n t 482 H locs ls := by
  have Cx0 := Cx
  obtain ⟨hx, hb, hr, hml, hown, htw, hlk, hK⟩ := Cx
  have hR := hP.1
  have hlv := hP.2.1
  have h80 := hR.2.2.2.1
  have e19 := hR.2.2.2.2.1
  have cr := tp_ch_r (n := n) (p := q) (MS_t hR)
  obtain ⟨b0, ⟨t1, t2, t6, t7, t9, t12, t13, t14, t15, t16, t17, t24⟩, ⟨u1, u2, u3, u4, u5, u6, u7, u8, u9, u10, u11, u12⟩⟩ := hR.1
  refine lv_iload_n hx hb dX9_read_482 rfl (lv_at hl 1 rfl) ?_
  refine ti_if_ne (tgt := 494) hx hb dX9_read_483 (by decide) (by decide) (fun h483 => ?_) (fun h483 => ?_)
  · exact absurd rfl h483
  · refine lv_iload hx hb dX9_read_486 (lv_at hl 7 rfl) ?_
    refine ti_if_ne (tgt := 507) hx hb dX9_read_488 (by decide) (by omega) (fun h488 => ?_) (fun h488 => ?_)
    · refine mp_row (w := 0) Cx0 (by decide) rfl hP ?_ hW hS (lv_sub hl [0, 1, 2, 3, 4, 5, 6] rfl)
      intro M1 H1 locs1 ls1 P1 v1 f1 hW hS hl
      exact mp_542A Cx0 (hbr.mp (by omega)) P1 (v1.trans hv) K hW hS hl
    · refine lv_goto (tgt := 500) hx hb dX9_read_491 (by decide) ?_
      refine lv_aload_n hx hb dX9_read_500 rfl (lv_at hl 0 rfl) ?_
      refine lv_iload hx hb dX9_read_501 (lv_at hl 6 rfl) ?_
      refine tm_calli (cs_X9_103 hx hb hml hown htw hK hW (by assumption) (c_X9_fails b0) ⟨rfl, rfl, Nat.le_of_ble_eq_true rfl, Nat.le_of_ble_eq_true rfl⟩ hl.1 (Nat.le_of_ble_eq_true rfl) dX9_read_503 ⟨Nat.le_of_ble_eq_true rfl, Nat.le_of_ble_eq_true rfl⟩) hS (fun x503 M503 H locs hp503 hW hS => ?_)
      obtain ⟨ex503, eM503⟩ := hp503
      rw [ex503]
      exact tm_zret hx hb hr hlk (by first | exact Or.inl rfl | exact Or.inr rfl | assumption) hK hW hS ⟨fq_tr hP.2.2.2 (by rw [eM503]; exact fq_sI (by unfold pR pP; omega)), Or.inr ⟨rfl, q, hF (fun z => by have := hbr.mpr z; omega), by rw [eM503]; exact tm_up_s _ _ _ _⟩⟩ dX9_read_506
set_option maxHeartbeats 4000000 in
theorem mp_454B {p : Program} {l : Launch} {e : Env} {s : State} {m : MethodId} {below : List Frame} {meth : Method} {c : Code} {G : tm_G} {Hb : Heap} {sh : tm_sh} {M0 : tm_M} {o n : Nat} {t : Nat → Int} (Cx : mpC p l e s m below meth c G o n) {q : Nat} {rel : Int} {vL v : tl_S} {M : tm_M} {H : Heap} {locs : List Loc} {ls : Array Slot} (hP : PSt sh M0 M o t n (q) 0) (hv : asS M (o + 6) 0 = v) (hvl : asS M (o + 2) 360 = vL) (hrl : mL M (o + 2) 368 = rel) (hok : lok (vL, v, rel)) (hln : tp_line t n = if tp_ch t n q = -1 then .inl (vL, v, rel) else .inr q) (hW : tm_W G Hb sh M H) (hS : va_S (tm_A Hb) s.heap H locs) (hl : lv_has ls 10 [(0, .ref o), (2, ji 1), (3, ji 360), (4, ji 0), (5, ji 0), (6, ji (tp_ch t n (q))), (7, ji ((q : Nat) : Int))]) : mpW p l e s m below meth c G Hb sh M0 o n t 454 H locs ls := by
  have Cx0 := Cx
  obtain ⟨hx, hb, hr, hml, hown, htw, hlk, hK⟩ := Cx
  have hR := hP.1
  have hlv := hP.2.1
  have h80 := hR.2.2.2.1
  have e19 := hR.2.2.2.2.1
  have cr := tp_ch_r (n := n) (p := q) (MS_t hR)
  obtain ⟨b0, ⟨t1, t2, t6, t7, t9, t12, t13, t14, t15, t16, t17, t24⟩, ⟨u1, u2, u3, u4, u5, u6, u7, u8, u9, u10, u11, u12⟩⟩ := hR.1
  refine lv_iload hx hb dX9_read_454 (lv_at hl 5 rfl) ?_
  refine ti_bipush hx hb dX9_read_456 (by decide) ?_
  refine ti_icmp_eq (tgt := 475) hx hb dX9_read_458 (by decide) (by omega) (by decide) (fun h458 => ?_) (fun h458 => ?_)
  · refine ti_iconst hx hb dX9_read_475 ?_
    refine lv_goto (tgt := 480) hx hb dX9_read_476 (by decide) ?_
    refine lv_istore (lv' := [(8, _), (0, _), (2, _), (3, _), (4, _), (5, _), (6, _), (7, _)]) hx hb dX9_read_480 hl (by decide) rfl (fun ls hl => ?_)
    exact mp_482B Cx0 hP hv hvl hrl hok hln hW hS (lv_sub hl [1, 2, 3, 4, 5, 6, 7, 0] rfl)
  · refine lv_iload hx hb dX9_read_461 (lv_at hl 5 rfl) ?_
    refine ti_bipush hx hb dX9_read_463 (by decide) ?_
    refine ti_icmp_eq (tgt := 475) hx hb dX9_read_465 (by decide) (by omega) (by decide) (fun h465 => ?_) (fun h465 => ?_)
    · refine ti_iconst hx hb dX9_read_475 ?_
      refine lv_goto (tgt := 480) hx hb dX9_read_476 (by decide) ?_
      refine lv_istore (lv' := [(8, _), (0, _), (2, _), (3, _), (4, _), (5, _), (6, _), (7, _)]) hx hb dX9_read_480 hl (by decide) rfl (fun ls hl => ?_)
      exact mp_482B Cx0 hP hv hvl hrl hok hln hW hS (lv_sub hl [1, 2, 3, 4, 5, 6, 7, 0] rfl)
    · refine lv_iload hx hb dX9_read_468 (lv_at hl 5 rfl) ?_
      refine ti_bipush hx hb dX9_read_470 (by decide) ?_
      refine ti_icmp_ne (tgt := 479) hx hb dX9_read_472 (by decide) (by omega) (by decide) (fun h472 => ?_) (fun h472 => ?_)
      · refine ti_iconst hx hb dX9_read_479 ?_
        refine lv_istore (lv' := [(8, _), (0, _), (2, _), (3, _), (4, _), (5, _), (6, _), (7, _)]) hx hb dX9_read_480 hl (by decide) rfl (fun ls hl => ?_)
        exact mp_482B Cx0 hP hv hvl hrl hok hln hW hS (lv_sub hl [1, 2, 3, 4, 5, 6, 7, 0] rfl)
      · refine ti_iconst hx hb dX9_read_475 ?_
        refine lv_goto (tgt := 480) hx hb dX9_read_476 (by decide) ?_
        refine lv_istore (lv' := [(8, _), (0, _), (2, _), (3, _), (4, _), (5, _), (6, _), (7, _)]) hx hb dX9_read_480 hl (by decide) rfl (fun ls hl => ?_)
        exact mp_482B Cx0 hP hv hvl hrl hok hln hW hS (lv_sub hl [1, 2, 3, 4, 5, 6, 7, 0] rfl)
set_option maxHeartbeats 4000000 in
theorem mp_385B {p : Program} {l : Launch} {e : Env} {s : State} {m : MethodId} {below : List Frame} {meth : Method} {c : Code} {G : tm_G} {Hb : Heap} {sh : tm_sh} {M0 : tm_M} {o n : Nat} {t : Nat → Int} (Cx : mpC p l e s m below meth c G o n) {q : Nat} {rel : Int} {vL v : tl_S} {M : tm_M} {H : Heap} {locs : List Loc} {ls : Array Slot} (hP : PSt sh M0 M o t n (q) 0) (hv : asS M (o + 6) 0 = v) (hvl : asS M (o + 2) 360 = vL) (hrl : mL M (o + 2) 368 = rel) (hok : lok (vL, v, rel)) (hln : tp_line t n = if tp_ch t n q = -1 then .inl (vL, v, rel) else .inr q) (hW : tm_W G Hb sh M H) (hS : va_S (tm_A Hb) s.heap H locs) (hl : lv_has ls 10 [(0, .ref o), (2, ji 1), (3, ji 360), (4, ji 0), (5, ji 0), (6, ji (tp_ch t n (q))), (7, ji ((q : Nat) : Int))]) : mpW p l e s m below meth c G Hb sh M0 o n t 385 H locs ls := by
  have Cx0 := Cx
  obtain ⟨hx, hb, hr, hml, hown, htw, hlk, hK⟩ := Cx
  have hR := hP.1
  have hlv := hP.2.1
  have h80 := hR.2.2.2.1
  have e19 := hR.2.2.2.2.1
  have cr := tp_ch_r (n := n) (p := q) (MS_t hR)
  obtain ⟨b0, ⟨t1, t2, t6, t7, t9, t12, t13, t14, t15, t16, t17, t24⟩, ⟨u1, u2, u3, u4, u5, u6, u7, u8, u9, u10, u11, u12⟩⟩ := hR.1
  refine lv_iload hx hb dX9_read_385 (lv_at hl 5 rfl) ?_
  refine ti_bipush hx hb dX9_read_387 (by decide) ?_
  refine ti_icmp_ne (tgt := 440) hx hb dX9_read_389 (by decide) (by omega) (by decide) (fun h389 => ?_) (fun h389 => ?_)
  · refine lv_aload_n hx hb dX9_read_440 rfl (lv_at hl 0 rfl) ?_
    refine gf_X9_100 hx hb htw hown hK hW (by assumption) dX9_read_441 ?_
    refine ti_if_le (tgt := 454) hx hb dX9_read_444 (by decide) (by omega) (fun h444 => ?_) (fun h444 => ?_)
    · exact mp_454B Cx0 hP hv hvl hrl hok hln hW hS (lv_sub hl [0, 1, 2, 3, 4, 5, 6] rfl)
    · exact absurd (show mI M o 18 ≤ 0 by omega) h444
  · refine lv_aload_n hx hb dX9_read_392 rfl (lv_at hl 0 rfl) ?_
    refine gf_X9_100 hx hb htw hown hK hW (by assumption) dX9_read_393 ?_
    refine ti_if_le (tgt := 440) hx hb dX9_read_396 (by decide) (by omega) (fun h396 => ?_) (fun h396 => ?_)
    · refine lv_aload_n hx hb dX9_read_440 rfl (lv_at hl 0 rfl) ?_
      refine gf_X9_100 hx hb htw hown hK hW (by assumption) dX9_read_441 ?_
      refine ti_if_le (tgt := 454) hx hb dX9_read_444 (by decide) (by omega) (fun h444 => ?_) (fun h444 => ?_)
      · exact mp_454B Cx0 hP hv hvl hrl hok hln hW hS (lv_sub hl [0, 1, 2, 3, 4, 5, 6] rfl)
      · exact absurd (show mI M o 18 ≤ 0 by omega) h444
    · exact absurd (show mI M o 18 ≤ 0 by omega) h396
set_option maxHeartbeats 4000000 in
theorem mp_454A {p : Program} {l : Launch} {e : Env} {s : State} {m : MethodId} {below : List Frame} {meth : Method} {c : Code} {G : tm_G} {Hb : Heap} {sh : tm_sh} {M0 : tm_M} {o n : Nat} {t : Nat → Int} (Cx : mpC p l e s m below meth c G o n) {q : Nat} {v : tl_S} {M : tm_M} {H : Heap} {locs : List Loc} {ls : Array Slot} (hP : PSt sh M0 M o t n (q) 0) (hv : asS M (o + 6) 0 = v) (hF : ¬ (60 ≤ tp_ch t n q ∧ tp_ch t n q ≤ 62) → tp_line t n = .inr q) (K : ∀ (M1 : tm_M) (H1 : Heap) (locs1 : List Loc) (ls1 : Array Slot), (60 ≤ tp_ch t n q ∧ tp_ch t n q ≤ 62) → PSt sh M0 M1 o t n (q + 1) 0 → asS M1 (o + 2) 360 = v → mL M1 (o + 2) 368 = tp_rel (tp_ch t n q) → mI M1 (o + 8) 0 = 0 → mI M1 (o + 9) 0 = 43 → mI M1 (o + 11) 0 = -1 → tm_W G Hb sh M1 H1 → va_S (tm_A Hb) s.heap H1 locs1 → lv_has ls1 10 [(0, .ref o), (2, ji 1), (3, ji 360), (4, ji 1), (5, ji 1)] → mpW p l e s m below meth c G Hb sh M0 o n t 32 H1 locs1 ls1) (hW : tm_W G Hb sh M H) (hS : va_S (tm_A Hb) s.heap H locs) (hl : lv_has ls 10 [(0, .ref o), (2, ji 0), (3, ji 360), (4, ji 0), (5, ji 0), (6, ji (tp_ch t n (q))), (7, ji ((q : Nat) : Int))]) : mpW p l e s m below meth c G Hb sh M0 o n t 454 H locs ls := by
  have Cx0 := Cx
  obtain ⟨hx, hb, hr, hml, hown, htw, hlk, hK⟩ := Cx
  have hR := hP.1
  have hlv := hP.2.1
  have h80 := hR.2.2.2.1
  have e19 := hR.2.2.2.2.1
  have cr := tp_ch_r (n := n) (p := q) (MS_t hR)
  obtain ⟨b0, ⟨t1, t2, t6, t7, t9, t12, t13, t14, t15, t16, t17, t24⟩, ⟨u1, u2, u3, u4, u5, u6, u7, u8, u9, u10, u11, u12⟩⟩ := hR.1
  refine lv_iload hx hb dX9_read_454 (lv_at hl 5 rfl) ?_
  refine ti_bipush hx hb dX9_read_456 (by decide) ?_
  refine ti_icmp_eq (tgt := 475) hx hb dX9_read_458 (by decide) (by omega) (by decide) (fun h458 => ?_) (fun h458 => ?_)
  · refine ti_iconst hx hb dX9_read_475 ?_
    refine lv_goto (tgt := 480) hx hb dX9_read_476 (by decide) ?_
    refine lv_istore (lv' := [(8, _), (0, _), (2, _), (3, _), (4, _), (5, _), (6, _), (7, _)]) hx hb dX9_read_480 hl (by decide) rfl (fun ls hl => ?_)
    exact mp_482A Cx0 (by omega) (by omega) hP hv hF K hW hS (lv_sub hl [1, 2, 3, 4, 5, 6, 7, 0] rfl)
  · refine lv_iload hx hb dX9_read_461 (lv_at hl 5 rfl) ?_
    refine ti_bipush hx hb dX9_read_463 (by decide) ?_
    refine ti_icmp_eq (tgt := 475) hx hb dX9_read_465 (by decide) (by omega) (by decide) (fun h465 => ?_) (fun h465 => ?_)
    · refine ti_iconst hx hb dX9_read_475 ?_
      refine lv_goto (tgt := 480) hx hb dX9_read_476 (by decide) ?_
      refine lv_istore (lv' := [(8, _), (0, _), (2, _), (3, _), (4, _), (5, _), (6, _), (7, _)]) hx hb dX9_read_480 hl (by decide) rfl (fun ls hl => ?_)
      exact mp_482A Cx0 (by omega) (by omega) hP hv hF K hW hS (lv_sub hl [1, 2, 3, 4, 5, 6, 7, 0] rfl)
    · refine lv_iload hx hb dX9_read_468 (lv_at hl 5 rfl) ?_
      refine ti_bipush hx hb dX9_read_470 (by decide) ?_
      refine ti_icmp_ne (tgt := 479) hx hb dX9_read_472 (by decide) (by omega) (by decide) (fun h472 => ?_) (fun h472 => ?_)
      · refine ti_iconst hx hb dX9_read_479 ?_
        refine lv_istore (lv' := [(8, _), (0, _), (2, _), (3, _), (4, _), (5, _), (6, _), (7, _)]) hx hb dX9_read_480 hl (by decide) rfl (fun ls hl => ?_)
        exact mp_482A Cx0 (by omega) (by omega) hP hv hF K hW hS (lv_sub hl [1, 2, 3, 4, 5, 6, 7, 0] rfl)
      · refine ti_iconst hx hb dX9_read_475 ?_
        refine lv_goto (tgt := 480) hx hb dX9_read_476 (by decide) ?_
        refine lv_istore (lv' := [(8, _), (0, _), (2, _), (3, _), (4, _), (5, _), (6, _), (7, _)]) hx hb dX9_read_480 hl (by decide) rfl (fun ls hl => ?_)
        exact mp_482A Cx0 (by omega) (by omega) hP hv hF K hW hS (lv_sub hl [1, 2, 3, 4, 5, 6, 7, 0] rfl)
set_option maxHeartbeats 4000000 in
theorem mp_385A {p : Program} {l : Launch} {e : Env} {s : State} {m : MethodId} {below : List Frame} {meth : Method} {c : Code} {G : tm_G} {Hb : Heap} {sh : tm_sh} {M0 : tm_M} {o n : Nat} {t : Nat → Int} (Cx : mpC p l e s m below meth c G o n) {q : Nat} {v : tl_S} {M : tm_M} {H : Heap} {locs : List Loc} {ls : Array Slot} (hP : PSt sh M0 M o t n (q) 0) (hv : asS M (o + 6) 0 = v) (hF : ¬ (60 ≤ tp_ch t n q ∧ tp_ch t n q ≤ 62) → tp_line t n = .inr q) (K : ∀ (M1 : tm_M) (H1 : Heap) (locs1 : List Loc) (ls1 : Array Slot), (60 ≤ tp_ch t n q ∧ tp_ch t n q ≤ 62) → PSt sh M0 M1 o t n (q + 1) 0 → asS M1 (o + 2) 360 = v → mL M1 (o + 2) 368 = tp_rel (tp_ch t n q) → mI M1 (o + 8) 0 = 0 → mI M1 (o + 9) 0 = 43 → mI M1 (o + 11) 0 = -1 → tm_W G Hb sh M1 H1 → va_S (tm_A Hb) s.heap H1 locs1 → lv_has ls1 10 [(0, .ref o), (2, ji 1), (3, ji 360), (4, ji 1), (5, ji 1)] → mpW p l e s m below meth c G Hb sh M0 o n t 32 H1 locs1 ls1) (hW : tm_W G Hb sh M H) (hS : va_S (tm_A Hb) s.heap H locs) (hl : lv_has ls 10 [(0, .ref o), (2, ji 0), (3, ji 360), (4, ji 0), (5, ji 0), (6, ji (tp_ch t n (q))), (7, ji ((q : Nat) : Int))]) : mpW p l e s m below meth c G Hb sh M0 o n t 385 H locs ls := by
  have Cx0 := Cx
  obtain ⟨hx, hb, hr, hml, hown, htw, hlk, hK⟩ := Cx
  have hR := hP.1
  have hlv := hP.2.1
  have h80 := hR.2.2.2.1
  have e19 := hR.2.2.2.2.1
  have cr := tp_ch_r (n := n) (p := q) (MS_t hR)
  obtain ⟨b0, ⟨t1, t2, t6, t7, t9, t12, t13, t14, t15, t16, t17, t24⟩, ⟨u1, u2, u3, u4, u5, u6, u7, u8, u9, u10, u11, u12⟩⟩ := hR.1
  refine lv_iload hx hb dX9_read_385 (lv_at hl 5 rfl) ?_
  refine ti_bipush hx hb dX9_read_387 (by decide) ?_
  refine ti_icmp_ne (tgt := 440) hx hb dX9_read_389 (by decide) (by omega) (by decide) (fun h389 => ?_) (fun h389 => ?_)
  · refine lv_aload_n hx hb dX9_read_440 rfl (lv_at hl 0 rfl) ?_
    refine gf_X9_100 hx hb htw hown hK hW (by assumption) dX9_read_441 ?_
    refine ti_if_le (tgt := 454) hx hb dX9_read_444 (by decide) (by omega) (fun h444 => ?_) (fun h444 => ?_)
    · exact mp_454A Cx0 hP hv hF K hW hS (lv_sub hl [0, 1, 2, 3, 4, 5, 6] rfl)
    · exact absurd (show mI M o 18 ≤ 0 by omega) h444
  · refine lv_aload_n hx hb dX9_read_392 rfl (lv_at hl 0 rfl) ?_
    refine gf_X9_100 hx hb htw hown hK hW (by assumption) dX9_read_393 ?_
    refine ti_if_le (tgt := 440) hx hb dX9_read_396 (by decide) (by omega) (fun h396 => ?_) (fun h396 => ?_)
    · refine lv_aload_n hx hb dX9_read_440 rfl (lv_at hl 0 rfl) ?_
      refine gf_X9_100 hx hb htw hown hK hW (by assumption) dX9_read_441 ?_
      refine ti_if_le (tgt := 454) hx hb dX9_read_444 (by decide) (by omega) (fun h444 => ?_) (fun h444 => ?_)
      · exact mp_454A Cx0 hP hv hF K hW hS (lv_sub hl [0, 1, 2, 3, 4, 5, 6] rfl)
      · exact absurd (show mI M o 18 ≤ 0 by omega) h444
    · exact absurd (show mI M o 18 ≤ 0 by omega) h396
theorem tp_li_f {t : Nat → Int} {n f : Nat} (h : tp_par t n 8 0 = .inr f) : tp_line t n = .inr f := tp_mid_r h
theorem tp_li_r {t : Nat → Int} {n : Nat} {x : Nat × tl_S} (h : tp_par t n 8 0 = .inl x) (hx : tp_nx t n x.1 = x.1) (hc : ¬ (60 ≤ tp_ch t n x.1 ∧ tp_ch t n x.1 ≤ 62)) : tp_line t n = .inr x.1 := by
  refine (tp_mid_l h).trans ?_
  rw [hx, if_neg hc]
theorem tp_li_e {t : Nat → Int} {n : Nat} {x : Nat × tl_S} (h : tp_par t n 8 0 = .inl x) (hx : tp_nx t n x.1 = x.1) (hc : 60 ≤ tp_ch t n x.1 ∧ tp_ch t n x.1 ≤ 62) : tp_line t n = tp_end t n x.2 (tp_rel (tp_ch t n x.1)) (tp_par t n 8 (x.1 + 1)) := by
  refine (tp_mid_l h).trans ?_
  rw [hx, if_pos hc]
theorem tp_li_g {t : Nat → Int} {n : Nat} {x y : Nat × tl_S} (h : tp_par t n 8 0 = .inl x) (hx : tp_nx t n x.1 = x.1) (hc : 60 ≤ tp_ch t n x.1 ∧ tp_ch t n x.1 ≤ 62) (hy : tp_par t n 8 (x.1 + 1) = .inl y) (hyx : tp_nx t n y.1 = y.1) : tp_line t n = if tp_ch t n y.1 = -1 then .inl (x.2, y.2, tp_rel (tp_ch t n x.1)) else .inr y.1 := by
  rw [tp_li_e h hx hc]
  refine (tp_end_l hy).trans ?_
  rw [hyx]
set_option maxHeartbeats 4000000 in
set_option maxRecDepth 100000 in
/-- TutorLinesModel.read -/
theorem c_X9_read {l : Launch} {G : tm_G} {Hb : Heap} {sh : tm_sh} {M : tm_M} {o n : Nat} {t : Nat → Int} (h : isMo sh M o) (ht : ∀ j, mI M (o + 1) j = t j ∧ 0 ≤ t j ∧ t j < 256) (hn : n ≤ 80) : Met l yX9_read (tws yX9_read cX9_read 10 (some .boolean)) ({ frames := 6, cells := 0, slots := 0, locals := 140 }) (va_Pc [.ref o, ji (n : Nat)] (tm_St G Hb sh M)) (tm_Qi G Hb sh (mdP M o t n)) 0 0 (tm_A Hb) := by
  refine tm_begin (by decide) (Nat.le_of_ble_eq_true rfl) (fun p e s m below meth c ls hx hb hr hml hown htw hlk hnm hK hW hl => ?_)
  have hS : va_S (tm_A Hb) s.heap s.heap [] := va_S.rf
  have hl : lv_has ls 10 [(0, .ref o), (1, ji (n : Nat))] := hl
  have Cx : mpC p l e s m below meth c G o n := ⟨hx, hb, hr, hml, hown, htw, hlk, hK⟩
  have h0 := h
  obtain ⟨b0, ⟨t1, t2, t6, t7, t9, t12, t13, t14, t15, t16, t17, t24⟩, ⟨u1, u2, u3, u4, u5, u6, u7, u8, u9, u10, u11, u12⟩⟩ := h
  refine lv_aload_n hx hb dX9_read_0 rfl (lv_at hl 0 rfl) ?_
  refine ti_iconst hx hb dX9_read_1 ?_
  refine pf_X9_76 hx hb htw hown hK hW (by assumption) hS dX9_read_2 (fun H locs hW hS => ?_)
  refine lv_aload_n hx hb dX9_read_5 rfl (lv_at hl 0 rfl) ?_
  refine lv_iload_n hx hb dX9_read_6 rfl (lv_at hl 1 rfl) ?_
  refine pf_X9_79 hx hb htw hown hK hW (by assumption) hS dX9_read_7 (fun H locs hW hS => ?_)
  refine ti_iconst hx hb dX9_read_10 ?_
  refine lv_istore_n (lv' := [(2, _), (0, _), (1, _)]) hx hb dX9_read_11 rfl hl (by decide) rfl (fun ls hl => ?_)
  refine ti_sipush hx hb dX9_read_12 (by decide) ?_
  refine lv_istore_n (lv' := [(3, _), (2, _), (0, _), (1, _)]) hx hb dX9_read_15 rfl hl (by decide) rfl (fun ls hl => ?_)
  refine ti_iconst hx hb dX9_read_16 ?_
  refine lv_istore (lv' := [(4, _), (3, _), (2, _), (0, _), (1, _)]) hx hb dX9_read_17 hl (by decide) rfl (fun ls hl => ?_)
  refine ti_iconst hx hb dX9_read_19 ?_
  refine lv_istore (lv' := [(5, _), (4, _), (3, _), (2, _), (0, _), (1, _)]) hx hb dX9_read_20 hl (by decide) rfl (fun ls hl => ?_)
  refine lv_aload_n hx hb dX9_read_22 rfl (lv_at hl 4 rfl) ?_
  refine ti_iconst hx hb dX9_read_23 ?_
  refine pf_X9_100 hx hb htw hown hK hW (by assumption) hS dX9_read_24 (fun H locs hW hS => ?_)
  refine lv_aload_n hx hb dX9_read_27 rfl (lv_at hl 4 rfl) ?_
  refine ti_iconst hx hb dX9_read_28 ?_
  refine tm_callv (cs_X9_121 hx hb hml hown htw hK hW (by assumption) (c_X9_open (x := 0) (isMo_m h0 rfl) (by decide)) ⟨rfl, rfl, Nat.le_of_ble_eq_true rfl, Nat.le_of_ble_eq_true rfl⟩ hl.1 (Nat.le_of_ble_eq_true rfl) dX9_read_29 ⟨Nat.le_of_ble_eq_true rfl, Nat.le_of_ble_eq_true rfl⟩) hS (fun M29 H locs hp29 hW hS => ?_)
  have hp29 : M29 = (sI (sI (sI (sI (sI (sI M o 19 0) o 20 (n : Nat)) o 18 0) (o + 8) 0 0) (o + 9) 0 43) (o + 11) 0 (-1)) := hp29
  have f29 : fq (pR o) M M29 := by rw [hp29]; exact fq_tr (fq_tr (fq_tr (fq_tr (fq_tr (fq_sI (by unfold pR pP; omega)) (fq_sI (by unfold pR pP; omega))) (fq_sI (by unfold pR pP; omega))) (fq_sI (by unfold pR pP; omega))) (fq_sI (by unfold pR pP; omega))) (fq_sI (by unfold pR pP; omega))
  have a8 : mI M29 (o + 8) 0 = 0 := by rw [hp29]; exact (tm_up_a _ _ (by omega)).trans ((tm_up_a _ _ (by omega)).trans (tm_up_s _ _ _ _))
  have a9 : mI M29 (o + 9) 0 = 43 := by rw [hp29]; exact (tm_up_a _ _ (by omega)).trans (tm_up_s _ _ _ _)
  have a11 : mI M29 (o + 11) 0 = -1 := by rw [hp29]; exact tm_up_s _ _ _ _
  have a18 : mI M29 o 18 = ((0 : Nat) : Int) := by rw [hp29]; exact (tm_up_a _ _ (by omega)).trans ((tm_up_a _ _ (by omega)).trans ((tm_up_a _ _ (by omega)).trans (tm_up_s _ _ _ _)))
  have a20 : mI M29 o 20 = (n : Nat) := by rw [hp29]; exact (tm_up_a _ _ (by omega)).trans ((tm_up_a _ _ (by omega)).trans ((tm_up_a _ _ (by omega)).trans ((tm_up_k _ _ (by decide)).trans (tm_up_s _ _ _ _))))
  have a19 : mI M29 o 19 = ((0 : Nat) : Int) := by rw [hp29]; exact (tm_up_a _ _ (by omega)).trans ((tm_up_a _ _ (by omega)).trans ((tm_up_a _ _ (by omega)).trans ((tm_up_k _ _ (by decide)).trans ((tm_up_k _ _ (by decide)).trans (tm_up_s _ _ _ _)))))
  have P0 : PSt sh M M29 o t n 0 0 := ⟨⟨isMo_m h0 f29.1, fun j => ⟨(f29.2 _ _ (by unfold pR pP; omega)).1.trans (ht j).1, (ht j).2⟩, a20, hn, a19, Nat.zero_le n⟩, a18, by decide, f29⟩
  refine mp_side Cx 8 0 0 0 M29 _ _ _ rfl P0 a8 a9 a11 (fun f hf => tp_li_f hf) ?_ hW hS (lv_sub hl [4, 3, 2, 1, 0] rfl)
  intro x M1 H1 locs1 ls1 ex P1 v1 s1 g1 n1 f1 hW hS hl
  refine mp_385A Cx P1 v1 (fun z => tp_li_r ex n1 z) ?_ hW hS hl
  intro M2 H2 locs2 ls2 hc P2 v2 r2 b8 b9 b11 hW hS hl
  refine mp_side Cx 8 1 0 (x.1 + 1) M2 _ _ _ rfl P2 b8 b9 b11 (fun f hf => (tp_li_e ex n1 hc).trans (tp_end_r hf)) ?_ hW hS hl
  intro y M3 H3 locs3 ls3 ey P3 v3 s3 g3 n3 f3 hW hS hl
  have rr := tp_rel_r (tp_ch t n x.1)
  exact mp_385B (rel := tp_rel (tp_ch t n x.1)) (vL := x.2) (v := y.2) Cx P3 v3 ((as_fq f3 (fun j hj => by unfold pP; omega)).trans v2) ((f3.2 _ _ (by unfold pP; omega)).2.trans r2) ⟨s1, s3, rr⟩ (tp_li_g ex n1 hc ey n3) hW hS hl
