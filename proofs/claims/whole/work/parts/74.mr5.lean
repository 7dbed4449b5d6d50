/-! TutorLinesModel.read: a side (by program: wip/whole/gen/mr4.py) -/
theorem tp_sl_f {t : Nat → Int} {n k q f : Nat} {v : tl_S} {inn : Option (Nat → tp_R)} (hq : tp_nx t n q = q) (h : tp_ch t n q = 43 ∨ tp_ch t n q = 45) (ht : tp_term t n inn (q + 1) = .inr f) : tp_sl t n inn (k + 1) q v = .inr f := by
  rw [tp_sl, hq, if_pos h, ht]
  rfl
theorem tp_sl_n {t : Nat → Int} {n k q : Nat} {v : tl_S} {x : Nat × tl_S} {inn : Option (Nat → tp_R)} (hq : tp_nx t n q = q) (h : tp_ch t n q = 43 ∨ tp_ch t n q = 45) (ht : tp_term t n inn (q + 1) = .inl x) (hf : ¬ sfit (if tp_ch t n q = 45 then ssub v x.2 else sadd v x.2)) : tp_sl t n inn (k + 1) q v = .inr q := by
  rw [tp_sl, hq, if_pos h, ht]
  have e : (if tp_ch t n q = 43 then sadd v x.2 else ssub v x.2) = if tp_ch t n q = 45 then ssub v x.2 else sadd v x.2 := by
    by_cases z : tp_ch t n q = 43
    · rw [if_pos z, if_neg (by omega)]
    · rw [if_neg z, if_pos (h.resolve_left z)]
  show (if sfit (if tp_ch t n q = 43 then sadd v x.2 else ssub v x.2) then _ else _) = _
  rw [e, if_neg hf]
theorem tp_sl_g {t : Nat → Int} {n k q : Nat} {v : tl_S} {x : Nat × tl_S} {inn : Option (Nat → tp_R)} (hq : tp_nx t n q = q) (h : tp_ch t n q = 43 ∨ tp_ch t n q = 45) (ht : tp_term t n inn (q + 1) = .inl x) (hf : sfit (if tp_ch t n q = 45 then ssub v x.2 else sadd v x.2)) : tp_sl t n inn (k + 1) q v = tp_sl t n inn k x.1 (if tp_ch t n q = 45 then ssub v x.2 else sadd v x.2) := by
  rw [tp_sl, hq, if_pos h, ht]
  have e : (if tp_ch t n q = 43 then sadd v x.2 else ssub v x.2) = if tp_ch t n q = 45 then ssub v x.2 else sadd v x.2 := by
    by_cases z : tp_ch t n q = 43
    · rw [if_pos z, if_neg (by omega)]
    · rw [if_neg z, if_pos (h.resolve_left z)]
  show (if sfit (if tp_ch t n q = 43 then sadd v x.2 else ssub v x.2) then tp_sl t n inn k x.1 (if tp_ch t n q = 43 then sadd v x.2 else ssub v x.2) else _) = _
  rw [e, if_pos hf]
theorem tp_sl_e {t : Nat → Int} {n k q : Nat} {v : tl_S} {inn : Option (Nat → tp_R)} (hq : tp_nx t n q = q) (h : ¬ (tp_ch t n q = 43 ∨ tp_ch t n q = 45)) : tp_sl t n inn (k + 1) q v = .inl (q, v) := by
  rw [tp_sl, hq, if_neg h]
theorem sok_sum {c : Int} {v w : tl_S} (hv : sok v) (hw : sok w) (hf : sfit (if c = 45 then ssub v w else sadd v w)) : sok (if c = 45 then ssub v w else sadd v w) := by
  by_cases z : c = 45
  · rw [if_pos z] at hf ⊢
    exact sok_ssub hv hw hf
  · rw [if_neg z] at hf ⊢
    exact sok_sadd hv hw hf
set_option maxHeartbeats 4000000 in
theorem mp_sl {p : Program} {l : Launch} {e : Env} {s : State} {m : MethodId} {below : List Frame} {meth : Method} {c : Code} {G : tm_G} {Hb : Heap} {sh : tm_sh} {M0 : tm_M} {o n : Nat} {t : Nat → Int} (Cx : mpC p l e s m below meth c G o n) {sd : Int} {r lv : Nat} (ih : ∀ r1, r1 + 1 = r → mpSide p l e s m below meth c G Hb sh M0 o n t r1) (hr0 : lv + r = 8) : ∀ (k q : Nat) (v : tl_S) (M : tm_M) (H : Heap) (locs : List Loc) (ls : Array Slot), n < q + k → PSt sh M0 M o t n (q) lv → tp_nx t n q = q → asS M (o + 6) (4 * lv) = v → sok v → mI M (o + 8) lv = 1 → mI M (o + 11) lv = -1 → (∀ f : Nat, tp_sl t n (tp_in t n r) k q v = .inr f → tp_line t n = .inr f) → (K : ∀ (x : Nat × tl_S) (M1 : tm_M) (H1 : Heap) (locs1 : List Loc) (ls1 : Array Slot), tp_sl t n (tp_in t n r) k q v = .inl x → PSt sh M0 M1 o t n (x.1) lv → asS M1 (o + 6) (4 * lv) = x.2 → sok x.2 → q ≤ x.1 → tp_nx t n x.1 = x.1 → fq (pP o lv) M M1 → tm_W G Hb sh M1 H1 → va_S (tm_A Hb) s.heap H1 locs1 → lv_has ls1 10 [(0, .ref o), (2, ji sd), (3, ji 360), (4, ji 0), (5, ji 0), (6, ji (tp_ch t n (x.1))), (7, ji ((x.1 : Nat) : Int))] → mpW p l e s m below meth c G Hb sh M0 o n t 385 H1 locs1 ls1) → tm_W G Hb sh M H → va_S (tm_A Hb) s.heap H locs → lv_has ls 10 [(0, .ref o), (2, ji sd), (3, ji 360), (4, ji 0), (5, ji 0), (6, ji (tp_ch t n (q))), (7, ji ((q : Nat) : Int))] → mpW p l e s m below meth c G Hb sh M0 o n t 333 H locs ls := by
  intro k
  induction k with
  | zero =>
    intro q v M H locs ls hk hP
    have := hP.1.2.2.2.2.2
    omega
  | succ k ihk =>
    intro q v M H locs ls hk hP hnx hv hsv hhs hst hF K hW hS hl
    have Cx0 := Cx
    obtain ⟨hx, hb, hr, hml, hown, htw, hlk, hK⟩ := Cx
    have hR := hP.1
    have h9 := hP.2.2.1
    have hlv := hP.2.1
    have h80 := hR.2.2.2.1
    have e19 := hR.2.2.2.2.1
    have hqn := hR.2.2.2.2.2
    have cr := tp_ch_r (n := n) (p := q) (MS_t hR)
    obtain ⟨b0, ⟨t1, t2, t6, t7, t9, t12, t13, t14, t15, t16, t17, t24⟩, ⟨u1, u2, u3, u4, u5, u6, u7, u8, u9, u10, u11, u12⟩⟩ := hR.1
    refine lv_iload hx hb dX9_read_333 (lv_at hl 5 rfl) ?_
    refine ti_bipush hx hb dX9_read_335 (by decide) ?_
    refine ti_icmp_eq (tgt := 347) hx hb dX9_read_337 (by decide) (by omega) (by decide) (fun h337 => ?_) (fun h337 => ?_)
    · refine lv_aload_n hx hb dX9_read_347 rfl (lv_at hl 0 rfl) ?_
      refine gf_X9_36 hx hb htw hown hK hW (by assumption) (by assumption) dX9_read_348 ?_
      refine lv_aload_n hx hb dX9_read_351 rfl (lv_at hl 0 rfl) ?_
      refine gf_X9_100 hx hb htw hown hK hW (by assumption) dX9_read_352 ?_
      rw [hlv]
      refine lv_iload hx hb dX9_read_355 (lv_at hl 5 rfl) ?_
      refine tm_iast hx hb hK hW hS (by assumption) (by omega) (by omega) (by decide) dX9_read_357 (fun H locs hW hS => ?_)
      refine lv_aload_n hx hb dX9_read_358 rfl (lv_at hl 0 rfl) ?_
      refine gf_X9_39 hx hb htw hown hK hW (by assumption) (by assumption) dX9_read_359 ?_
      refine lv_aload_n hx hb dX9_read_362 rfl (lv_at hl 0 rfl) ?_
      refine gf_X9_100 hx hb htw hown hK hW (by assumption) dX9_read_363 ?_
      rw [show mI (sI M (o + 9) (lv : Int).toNat (tp_ch t n q)) o 18 = lv from (tm_up_a _ _ (by omega)).trans hlv]
      refine lv_iload hx hb dX9_read_366 (lv_at hl 6 rfl) ?_
      refine tm_iast hx hb hK hW hS (by assumption) (by omega) (by omega) (by decide) dX9_read_368 (fun H locs hW hS => ?_)
      refine lv_aload_n hx hb dX9_read_369 rfl (lv_at hl 0 rfl) ?_
      refine lv_dup hx hb dX9_read_370 rfl ?_
      refine gf_X9_76 hx hb htw hown hK hW (by assumption) dX9_read_371 ?_
      refine ti_iconst hx hb dX9_read_374 ?_
      refine ti_iadd hx hb dX9_read_375 ?_
      refine pf_X9_76 hx hb htw hown hK hW (by assumption) hS dX9_read_376 (fun H locs hW hS => ?_)
      refine ti_iconst hx hb dX9_read_379 ?_
      refine lv_istore (lv' := [(5, _), (0, _), (2, _), (3, _), (4, _), (6, _), (7, _)]) hx hb dX9_read_380 hl (by decide) rfl (fun ls hl => ?_)
      refine lv_goto (tgt := 32) hx hb dX9_read_382 (by decide) ?_
      have hc : tp_ch t n q = 43 ∨ tp_ch t n q = 45 := by omega
      have lt := tp_ch_lt (t := t) (n := n) (p := q) (by omega)
      have eN : (lv : Int).toNat = lv := by omega
      have fA : fq (pP o lv) M (sI (sI (sI M (o + 9) (lv : Int).toNat (tp_ch t n q)) (o + 10) (lv : Int).toNat (q : Nat)) o 19 (mI (sI (sI M (o + 9) (lv : Int).toNat (tp_ch t n q)) (o + 10) (lv : Int).toNat (q : Nat)) o 19 + 1)) := fq_tr (fq_tr (fq_sI (by unfold pP; omega)) (fq_sI (by unfold pP; omega))) (fq_sI (by unfold pP; omega))
      have pA : mI (sI (sI (sI M (o + 9) (lv : Int).toNat (tp_ch t n q)) (o + 10) (lv : Int).toNat (q : Nat)) o 19 (mI (sI (sI M (o + 9) (lv : Int).toNat (tp_ch t n q)) (o + 10) (lv : Int).toNat (q : Nat)) o 19 + 1)) o 19 = ((q + 1 : Nat) : Int) := (tm_up_s _ _ _ _).trans (by rw [show mI (sI (sI M (o + 9) (lv : Int).toNat (tp_ch t n q)) (o + 10) (lv : Int).toNat (q : Nat)) o 19 = mI M o 19 from (tm_up_a _ _ (by omega)).trans (tm_up_a _ _ (by omega)), e19]; rfl)
      have lA : mI (sI (sI (sI M (o + 9) (lv : Int).toNat (tp_ch t n q)) (o + 10) (lv : Int).toNat (q : Nat)) o 19 (mI (sI (sI M (o + 9) (lv : Int).toNat (tp_ch t n q)) (o + 10) (lv : Int).toNat (q : Nat)) o 19 + 1)) o 18 = lv := (tm_up_k _ _ (by decide)).trans ((tm_up_a _ _ (by omega)).trans ((tm_up_a _ _ (by omega)).trans hlv))
      have gA : mI (sI (sI (sI M (o + 9) (lv : Int).toNat (tp_ch t n q)) (o + 10) (lv : Int).toNat (q : Nat)) o 19 (mI (sI (sI M (o + 9) (lv : Int).toNat (tp_ch t n q)) (o + 10) (lv : Int).toNat (q : Nat)) o 19 + 1)) (o + 9) lv = tp_ch t n q := (tm_up_a _ _ (by omega)).trans ((tm_up_a _ _ (by omega)).trans (by rw [eN]; exact tm_up_s _ _ _ _))
      have iA : mI (sI (sI (sI M (o + 9) (lv : Int).toNat (tp_ch t n q)) (o + 10) (lv : Int).toNat (q : Nat)) o 19 (mI (sI (sI M (o + 9) (lv : Int).toNat (tp_ch t n q)) (o + 10) (lv : Int).toNat (q : Nat)) o 19 + 1)) (o + 10) lv = (q : Nat) := (tm_up_a _ _ (by omega)).trans (by rw [eN]; exact tm_up_s _ _ _ _)
      have hA : mI (sI (sI (sI M (o + 9) (lv : Int).toNat (tp_ch t n q)) (o + 10) (lv : Int).toNat (q : Nat)) o 19 (mI (sI (sI M (o + 9) (lv : Int).toNat (tp_ch t n q)) (o + 10) (lv : Int).toNat (q : Nat)) o 19 + 1)) (o + 8) lv = 1 := (tm_up_a _ _ (by omega)).trans ((tm_up_a _ _ (by omega)).trans ((tm_up_a _ _ (by omega)).trans hhs))
      have sA : mI (sI (sI (sI M (o + 9) (lv : Int).toNat (tp_ch t n q)) (o + 10) (lv : Int).toNat (q : Nat)) o 19 (mI (sI (sI M (o + 9) (lv : Int).toNat (tp_ch t n q)) (o + 10) (lv : Int).toNat (q : Nat)) o 19 + 1)) (o + 11) lv = -1 := (tm_up_a _ _ (by omega)).trans ((tm_up_a _ _ (by omega)).trans ((tm_up_a _ _ (by omega)).trans hst))
      have vA : asS (sI (sI (sI M (o + 9) (lv : Int).toNat (tp_ch t n q)) (o + 10) (lv : Int).toNat (q : Nat)) o 19 (mI (sI (sI M (o + 9) (lv : Int).toNat (tp_ch t n q)) (o + 10) (lv : Int).toNat (q : Nat)) o 19 + 1)) (o + 6) (4 * lv) = v := hv
      generalize (sI (sI (sI M (o + 9) (lv : Int).toNat (tp_ch t n q)) (o + 10) (lv : Int).toNat (q : Nat)) o 19 (mI (sI (sI M (o + 9) (lv : Int).toNat (tp_ch t n q)) (o + 10) (lv : Int).toNat (q : Nat)) o 19 + 1)) = A at hW fA pA lA gA iA hA sA vA
      have PA := PSt_m hP fA (fun _ _ z => pP_0 z) pA lt lA h9
      refine mp_w Cx0 (Or.inl rfl) PA (fun z => absurd z (by decide)) (fun _ => ?_) hW hS (lv_sub hl [1, 2, 3, 4, 0] rfl)
      intro M3 H3 locs3 ls3 P3 n3 hW hS hl
      refine mp_term Cx0 ih hr0 lt P3 ((n3.2 _ _ (by unfold p19; omega)).1.trans sA) (fun f hf => hF f (tp_sl_f hnx hc hf)) ?_ hW hS hl
      intro x M4 H4 locs4 ls4 c4 P4 w4 s4 t4 g4 x4 f4 hW hS hl
      have F4 : fq (pP o lv) M M4 := fq_tr (fq_tr fA (fq_wd n3 (fun _ _ z => pT_P (p19_T z)))) (fq_wd f4 (fun _ _ z => pT_P z))
      have g9 : mI M4 (o + 9) lv = tp_ch t n q := (f4.2 _ _ (by unfold pT pP; omega)).1.trans ((n3.2 _ _ (by unfold p19; omega)).1.trans gA)
      have g10 : mI M4 (o + 10) lv = (q : Nat) := (f4.2 _ _ (by unfold pT pP; omega)).1.trans ((n3.2 _ _ (by unfold p19; omega)).1.trans iA)
      have g8 : mI M4 (o + 8) lv = 1 := (f4.2 _ _ (by unfold pT pP; omega)).1.trans ((n3.2 _ _ (by unfold p19; omega)).1.trans hA)
      have v4 : asS M4 (o + 6) (4 * lv) = v := (as_fq f4 (fun j hj => by unfold pT pP; omega)).trans ((as_fq n3 (fun j hj => by unfold p19; omega)).trans vA)
      refine mp_addS (ps := q) Cx0 P4 (by rw [g9]; exact hc) (by rw [w4]; exact s4) g8 (by rw [v4]; exact hsv) g10 (fun z => hF q (tp_sl_n hnx hc c4 (by rw [g9, v4, w4] at z; exact z))) ?_ hW hS hl
      intro M5 H5 locs5 ls5 c5 P5 v5 h5 f5 hW hS hl
      rw [g9, v4, w4] at c5 v5
      have e5 := tp_sl_g (k := k) hnx hc c4 c5
      exact ihk x.1 _ M5 H5 locs5 ls5 (by omega) P5 x4 v5 (sok_sum hsv s4 c5) h5 ((f5.2 _ _ (by unfold pM; omega)).1.trans t4) (fun f hf => hF f (e5.trans hf)) (fun y M6 H6 locs6 ls6 c6 P6 v6 s6 g6 n6 f6 => K y M6 H6 locs6 ls6 (e5.trans c6) P6 v6 s6 (by omega) n6 (fq_tr (fq_tr F4 (fq_wd f5 (fun _ _ z => pM_P z))) f6)) hW hS hl
    · refine lv_iload hx hb dX9_read_340 (lv_at hl 5 rfl) ?_
      refine ti_bipush hx hb dX9_read_342 (by decide) ?_
      refine ti_icmp_ne (tgt := 385) hx hb dX9_read_344 (by decide) (by omega) (by decide) (fun h344 => ?_) (fun h344 => ?_)
      · exact K (q, v) M _ _ _ (tp_sl_e hnx (by omega)) hP hv hsv (Nat.le_refl q) hnx fq_rf hW hS (lv_sub hl [0, 1, 2, 3, 4, 5, 6] rfl)
      · refine lv_aload_n hx hb dX9_read_347 rfl (lv_at hl 0 rfl) ?_
        refine gf_X9_36 hx hb htw hown hK hW (by assumption) (by assumption) dX9_read_348 ?_
        refine lv_aload_n hx hb dX9_read_351 rfl (lv_at hl 0 rfl) ?_
        refine gf_X9_100 hx hb htw hown hK hW (by assumption) dX9_read_352 ?_
        rw [hlv]
        refine lv_iload hx hb dX9_read_355 (lv_at hl 5 rfl) ?_
        refine tm_iast hx hb hK hW hS (by assumption) (by omega) (by omega) (by decide) dX9_read_357 (fun H locs hW hS => ?_)
        refine lv_aload_n hx hb dX9_read_358 rfl (lv_at hl 0 rfl) ?_
        refine gf_X9_39 hx hb htw hown hK hW (by assumption) (by assumption) dX9_read_359 ?_
        refine lv_aload_n hx hb dX9_read_362 rfl (lv_at hl 0 rfl) ?_
        refine gf_X9_100 hx hb htw hown hK hW (by assumption) dX9_read_363 ?_
        rw [show mI (sI M (o + 9) (lv : Int).toNat (tp_ch t n q)) o 18 = lv from (tm_up_a _ _ (by omega)).trans hlv]
        refine lv_iload hx hb dX9_read_366 (lv_at hl 6 rfl) ?_
        refine tm_iast hx hb hK hW hS (by assumption) (by omega) (by omega) (by decide) dX9_read_368 (fun H locs hW hS => ?_)
        refine lv_aload_n hx hb dX9_read_369 rfl (lv_at hl 0 rfl) ?_
        refine lv_dup hx hb dX9_read_370 rfl ?_
        refine gf_X9_76 hx hb htw hown hK hW (by assumption) dX9_read_371 ?_
        refine ti_iconst hx hb dX9_read_374 ?_
        refine ti_iadd hx hb dX9_read_375 ?_
        refine pf_X9_76 hx hb htw hown hK hW (by assumption) hS dX9_read_376 (fun H locs hW hS => ?_)
        refine ti_iconst hx hb dX9_read_379 ?_
        refine lv_istore (lv' := [(5, _), (0, _), (2, _), (3, _), (4, _), (6, _), (7, _)]) hx hb dX9_read_380 hl (by decide) rfl (fun ls hl => ?_)
        refine lv_goto (tgt := 32) hx hb dX9_read_382 (by decide) ?_
        have hc : tp_ch t n q = 43 ∨ tp_ch t n q = 45 := by omega
        have lt := tp_ch_lt (t := t) (n := n) (p := q) (by omega)
        have eN : (lv : Int).toNat = lv := by omega
        have fA : fq (pP o lv) M (sI (sI (sI M (o + 9) (lv : Int).toNat (tp_ch t n q)) (o + 10) (lv : Int).toNat (q : Nat)) o 19 (mI (sI (sI M (o + 9) (lv : Int).toNat (tp_ch t n q)) (o + 10) (lv : Int).toNat (q : Nat)) o 19 + 1)) := fq_tr (fq_tr (fq_sI (by unfold pP; omega)) (fq_sI (by unfold pP; omega))) (fq_sI (by unfold pP; omega))
        have pA : mI (sI (sI (sI M (o + 9) (lv : Int).toNat (tp_ch t n q)) (o + 10) (lv : Int).toNat (q : Nat)) o 19 (mI (sI (sI M (o + 9) (lv : Int).toNat (tp_ch t n q)) (o + 10) (lv : Int).toNat (q : Nat)) o 19 + 1)) o 19 = ((q + 1 : Nat) : Int) := (tm_up_s _ _ _ _).trans (by rw [show mI (sI (sI M (o + 9) (lv : Int).toNat (tp_ch t n q)) (o + 10) (lv : Int).toNat (q : Nat)) o 19 = mI M o 19 from (tm_up_a _ _ (by omega)).trans (tm_up_a _ _ (by omega)), e19]; rfl)
        have lA : mI (sI (sI (sI M (o + 9) (lv : Int).toNat (tp_ch t n q)) (o + 10) (lv : Int).toNat (q : Nat)) o 19 (mI (sI (sI M (o + 9) (lv : Int).toNat (tp_ch t n q)) (o + 10) (lv : Int).toNat (q : Nat)) o 19 + 1)) o 18 = lv := (tm_up_k _ _ (by decide)).trans ((tm_up_a _ _ (by omega)).trans ((tm_up_a _ _ (by omega)).trans hlv))
        have gA : mI (sI (sI (sI M (o + 9) (lv : Int).toNat (tp_ch t n q)) (o + 10) (lv : Int).toNat (q : Nat)) o 19 (mI (sI (sI M (o + 9) (lv : Int).toNat (tp_ch t n q)) (o + 10) (lv : Int).toNat (q : Nat)) o 19 + 1)) (o + 9) lv = tp_ch t n q := (tm_up_a _ _ (by omega)).trans ((tm_up_a _ _ (by omega)).trans (by rw [eN]; exact tm_up_s _ _ _ _))
        have iA : mI (sI (sI (sI M (o + 9) (lv : Int).toNat (tp_ch t n q)) (o + 10) (lv : Int).toNat (q : Nat)) o 19 (mI (sI (sI M (o + 9) (lv : Int).toNat (tp_ch t n q)) (o + 10) (lv : Int).toNat (q : Nat)) o 19 + 1)) (o + 10) lv = (q : Nat) := (tm_up_a _ _ (by omega)).trans (by rw [eN]; exact tm_up_s _ _ _ _)
        have hA : mI (sI (sI (sI M (o + 9) (lv : Int).toNat (tp_ch t n q)) (o + 10) (lv : Int).toNat (q : Nat)) o 19 (mI (sI (sI M (o + 9) (lv : Int).toNat (tp_ch t n q)) (o + 10) (lv : Int).toNat (q : Nat)) o 19 + 1)) (o + 8) lv = 1 := (tm_up_a _ _ (by omega)).trans ((tm_up_a _ _ (by omega)).trans ((tm_up_a _ _ (by omega)).trans hhs))
        have sA : mI (sI (sI (sI M (o + 9) (lv : Int).toNat (tp_ch t n q)) (o + 10) (lv : Int).toNat (q : Nat)) o 19 (mI (sI (sI M (o + 9) (lv : Int).toNat (tp_ch t n q)) (o + 10) (lv : Int).toNat (q : Nat)) o 19 + 1)) (o + 11) lv = -1 := (tm_up_a _ _ (by omega)).trans ((tm_up_a _ _ (by omega)).trans ((tm_up_a _ _ (by omega)).trans hst))
        have vA : asS (sI (sI (sI M (o + 9) (lv : Int).toNat (tp_ch t n q)) (o + 10) (lv : Int).toNat (q : Nat)) o 19 (mI (sI (sI M (o + 9) (lv : Int).toNat (tp_ch t n q)) (o + 10) (lv : Int).toNat (q : Nat)) o 19 + 1)) (o + 6) (4 * lv) = v := hv
        generalize (sI (sI (sI M (o + 9) (lv : Int).toNat (tp_ch t n q)) (o + 10) (lv : Int).toNat (q : Nat)) o 19 (mI (sI (sI M (o + 9) (lv : Int).toNat (tp_ch t n q)) (o + 10) (lv : Int).toNat (q : Nat)) o 19 + 1)) = A at hW fA pA lA gA iA hA sA vA
        have PA := PSt_m hP fA (fun _ _ z => pP_0 z) pA lt lA h9
        refine mp_w Cx0 (Or.inl rfl) PA (fun z => absurd z (by decide)) (fun _ => ?_) hW hS (lv_sub hl [1, 2, 3, 4, 0] rfl)
        intro M3 H3 locs3 ls3 P3 n3 hW hS hl
        refine mp_term Cx0 ih hr0 lt P3 ((n3.2 _ _ (by unfold p19; omega)).1.trans sA) (fun f hf => hF f (tp_sl_f hnx hc hf)) ?_ hW hS hl
        intro x M4 H4 locs4 ls4 c4 P4 w4 s4 t4 g4 x4 f4 hW hS hl
        have F4 : fq (pP o lv) M M4 := fq_tr (fq_tr fA (fq_wd n3 (fun _ _ z => pT_P (p19_T z)))) (fq_wd f4 (fun _ _ z => pT_P z))
        have g9 : mI M4 (o + 9) lv = tp_ch t n q := (f4.2 _ _ (by unfold pT pP; omega)).1.trans ((n3.2 _ _ (by unfold p19; omega)).1.trans gA)
        have g10 : mI M4 (o + 10) lv = (q : Nat) := (f4.2 _ _ (by unfold pT pP; omega)).1.trans ((n3.2 _ _ (by unfold p19; omega)).1.trans iA)
        have g8 : mI M4 (o + 8) lv = 1 := (f4.2 _ _ (by unfold pT pP; omega)).1.trans ((n3.2 _ _ (by unfold p19; omega)).1.trans hA)
        have v4 : asS M4 (o + 6) (4 * lv) = v := (as_fq f4 (fun j hj => by unfold pT pP; omega)).trans ((as_fq n3 (fun j hj => by unfold p19; omega)).trans vA)
        refine mp_addS (ps := q) Cx0 P4 (by rw [g9]; exact hc) (by rw [w4]; exact s4) g8 (by rw [v4]; exact hsv) g10 (fun z => hF q (tp_sl_n hnx hc c4 (by rw [g9, v4, w4] at z; exact z))) ?_ hW hS hl
        intro M5 H5 locs5 ls5 c5 P5 v5 h5 f5 hW hS hl
        rw [g9, v4, w4] at c5 v5
        have e5 := tp_sl_g (k := k) hnx hc c4 c5
        exact ihk x.1 _ M5 H5 locs5 ls5 (by omega) P5 x4 v5 (sok_sum hsv s4 c5) h5 ((f5.2 _ _ (by unfold pM; omega)).1.trans t4) (fun f hf => hF f (e5.trans hf)) (fun y M6 H6 locs6 ls6 c6 P6 v6 s6 g6 n6 f6 => K y M6 H6 locs6 ls6 (e5.trans c6) P6 v6 s6 (by omega) n6 (fq_tr (fq_tr F4 (fq_wd f5 (fun _ _ z => pM_P z))) f6)) hW hS hl
theorem tp_sd_m {t : Nat → Int} {n r p : Nat} (h : tp_ch t n (tp_nx t n p) = 45) : tp_par t n r p = tp_bind (tp_term t n (tp_in t n r) (tp_nx t n p + 1)) (fun q v => tp_sl t n (tp_in t n r) 80 q (sneg v)) := by
  rw [tp_par_in]
  exact if_pos h
theorem tp_sd_p {t : Nat → Int} {n r p : Nat} (h : ¬ tp_ch t n (tp_nx t n p) = 45) : tp_par t n r p = tp_bind (tp_term t n (tp_in t n r) (tp_nx t n p)) (fun q v => tp_sl t n (tp_in t n r) 80 q v) := by
  rw [tp_par_in]
  exact if_neg h
set_option maxHeartbeats 4000000 in
theorem mp_side1 {p : Program} {l : Launch} {e : Env} {s : State} {m : MethodId} {below : List Frame} {meth : Method} {c : Code} {G : tm_G} {Hb : Heap} {sh : tm_sh} {M0 : tm_M} {o n : Nat} {t : Nat → Int} (Cx : mpC p l e s m below meth c G o n) {r : Nat} (ih : ∀ r1, r1 + 1 = r → mpSide p l e s m below meth c G Hb sh M0 o n t r1) : mpSide p l e s m below meth c G Hb sh M0 o n t r := by
  intro sd lv p1 M H locs ls hr0 hP ha hg hst hF K hW hS hl
  have h80 := hP.1.2.2.2.1
  have hqn := hP.1.2.2.2.2.2
  have q0 := tp_nx_le (t := t) hqn
  refine mp_w Cx (Or.inr rfl) hP (fun _ h45 => ?_) (fun h45 => ?_) hW hS hl
  · intro M2 H2 locs2 ls2 P2 f2 g2 hW hS hl
    have lt := tp_ch_lt (t := t) (n := n) (p := tp_nx t n p1) (by omega)
    refine mp_w Cx (Or.inl rfl) P2 (fun z => absurd z (by decide)) (fun _ => ?_) hW hS hl
    intro M3 H3 locs3 ls3 P3 n3 hW hS hl
    have g3 : mI M3 (o + 9) lv = 45 := (n3.2 _ _ (by unfold p19; omega)).1.trans g2
    have a3 : mI M3 (o + 8) lv = 0 := (n3.2 _ _ (by unfold p19; omega)).1.trans ((f2.2 _ _ (by unfold p19; omega)).1.trans ha)
    have F3 : fq (pP o lv) M M3 := fq_tr (fq_wd f2 (fun a k z => by unfold p19 at z; unfold pP; omega)) (fq_wd n3 (fun _ _ z => pT_P (p19_T z)))
    refine mp_term Cx ih hr0 lt P3 ((n3.2 _ _ (by unfold p19; omega)).1.trans ((f2.2 _ _ (by unfold p19; omega)).1.trans hst)) (fun f hf => hF f (by rw [tp_sd_m h45, hf]; rfl)) ?_ hW hS hl
    intro x M4 H4 locs4 ls4 c4 P4 w4 s4 t4 g4 x4 f4 hW hS hl
    have g9 : mI M4 (o + 9) lv = 45 := (f4.2 _ _ (by unfold pT pP; omega)).1.trans g3
    have g8 : mI M4 (o + 8) lv = 0 := (f4.2 _ _ (by unfold pT pP; omega)).1.trans a3
    refine mp_addN Cx P4 (by rw [g9]; decide) (by rw [w4]; exact s4) g8 ?_ hW hS hl
    intro M5 H5 locs5 ls5 P5 v5 h5 f5 hW hS hl
    rw [g9, if_pos rfl, w4] at v5
    have e5 : tp_par t n r p1 = tp_sl t n (tp_in t n r) 80 x.1 (sneg x.2) := by rw [tp_sd_m h45, c4]; rfl
    exact mp_sl Cx ih hr0 80 x.1 (sneg x.2) M5 H5 locs5 ls5 (by omega) P5 x4 v5 (sok_sneg s4) h5 ((f5.2 _ _ (by unfold pM; omega)).1.trans t4) (fun f hf => hF f (e5.trans hf)) (fun y M6 H6 locs6 ls6 c6 P6 v6 s6 g6 n6 f6 => K y M6 H6 locs6 ls6 (e5.trans c6) P6 v6 s6 (by omega) n6 (fq_tr (fq_tr (fq_tr F3 (fq_wd f4 (fun _ _ z => pT_P z))) (fq_wd f5 (fun _ _ z => pM_P z))) f6)) hW hS hl
  · replace h45 := h45.resolve_left (by decide)
    intro M3 H3 locs3 ls3 P3 n3 hW hS hl
    have g3 : mI M3 (o + 9) lv = 43 := (n3.2 _ _ (by unfold p19; omega)).1.trans hg
    have a3 : mI M3 (o + 8) lv = 0 := (n3.2 _ _ (by unfold p19; omega)).1.trans ha
    have F3 : fq (pP o lv) M M3 := fq_wd n3 (fun _ _ z => pT_P (p19_T z))
    have en := tp_nx_nx (t := t) hqn
    refine mp_term (p1 := tp_nx t n p1) Cx ih hr0 q0.2 (by rw [en]; exact P3) ((n3.2 _ _ (by unfold p19; omega)).1.trans hst) (fun f hf => hF f (by rw [tp_sd_p h45, hf]; rfl)) ?_ hW hS (by rw [en]; exact hl)
    intro x M4 H4 locs4 ls4 c4 P4 w4 s4 t4 g4 x4 f4 hW hS hl
    have g9 : mI M4 (o + 9) lv = 43 := (f4.2 _ _ (by unfold pT pP; omega)).1.trans g3
    have g8 : mI M4 (o + 8) lv = 0 := (f4.2 _ _ (by unfold pT pP; omega)).1.trans a3
    refine mp_addN Cx P4 (by rw [g9]; decide) (by rw [w4]; exact s4) g8 ?_ hW hS hl
    intro M5 H5 locs5 ls5 P5 v5 h5 f5 hW hS hl
    rw [g9, if_neg (by decide), w4] at v5
    have e5 : tp_par t n r p1 = tp_sl t n (tp_in t n r) 80 x.1 (x.2) := by rw [tp_sd_p h45, c4]; rfl
    exact mp_sl Cx ih hr0 80 x.1 (x.2) M5 H5 locs5 ls5 (by omega) P5 x4 v5 s4 h5 ((f5.2 _ _ (by unfold pM; omega)).1.trans t4) (fun f hf => hF f (e5.trans hf)) (fun y M6 H6 locs6 ls6 c6 P6 v6 s6 g6 n6 f6 => K y M6 H6 locs6 ls6 (e5.trans c6) P6 v6 s6 (by omega) n6 (fq_tr (fq_tr (fq_tr F3 (fq_wd f4 (fun _ _ z => pT_P z))) (fq_wd f5 (fun _ _ z => pM_P z))) f6)) hW hS hl
theorem mp_side {p : Program} {l : Launch} {e : Env} {s : State} {m : MethodId} {below : List Frame} {meth : Method} {c : Code} {G : tm_G} {Hb : Heap} {sh : tm_sh} {M0 : tm_M} {o n : Nat} {t : Nat → Int} (Cx : mpC p l e s m below meth c G o n) : ∀ r, mpSide p l e s m below meth c G Hb sh M0 o n t r
  | 0 => mp_side1 Cx (fun r1 h => absurd h (by omega))
  | r + 1 => mp_side1 Cx (fun r1 h => by rw [show r1 = r by omega]; exact mp_side Cx r)
