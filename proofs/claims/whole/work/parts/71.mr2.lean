/-! TutorLinesModel.read: a closing parenthesis, a factor (by program: wip/whole/gen/mr2.py) -/
theorem pF_T {o lv a k : Nat} (h : pF o lv a k) : pT o lv a k := by unfold pF at h; unfold pT pP; omega
theorem pS_T {o lv a k : Nat} (h : pS o lv a k) : pT o lv a k := by unfold pS pF at h; unfold pT pP; omega
theorem pT_0 {o lv a k : Nat} (h : pT o lv a k) : pP o 0 a k := pP_0 (pT_P h)
theorem pP_T {o lv a k : Nat} (h : pP o (lv + 1) a k) : pT o lv a k := Or.inl h
theorem tp_cl1 {t : Nat → Int} {n q : Nat} {v : tl_S} (hq : tp_nx t n q = q) (h : tp_ch t n q = 41) : tp_close t n (.inl (q, v)) = .inl (q + 1, v) := by
  show (if tp_ch t n (tp_nx t n q) = 41 then _ else _) = _
  rw [hq, if_pos h]
theorem tp_cl0 {t : Nat → Int} {n q : Nat} {v : tl_S} (hq : tp_nx t n q = q) (h : ¬ tp_ch t n q = 41) : tp_close t n (.inl (q, v)) = .inr q := by
  show (if tp_ch t n (tp_nx t n q) = 41 then _ else _) = _
  rw [hq, if_neg h]
theorem tp_mf0 {V : tl_S} {ps f : Nat} {g : Nat → tl_S → tp_R} : tp_fit ps (tp_mul V ps (.inr f)) g = .inr f := rfl
theorem tp_mf1 {V w : tl_S} {ps q : Nat} {g : Nat → tl_S → tp_R} (h : ¬ (¬ V.1.1 = 0 ∧ ¬ w.1.1 = 0)) (hf : sfit (smul V w)) : tp_fit ps (tp_mul V ps (.inl (q, w))) g = g q (smul V w) := by
  show tp_fit ps (if ¬ V.1.1 = 0 ∧ ¬ w.1.1 = 0 then _ else _) g = _
  rw [if_neg h]
  exact if_pos hf
theorem tp_mf2 {V w : tl_S} {ps q : Nat} {g : Nat → tl_S → tp_R} (h : (¬ V.1.1 = 0 ∧ ¬ w.1.1 = 0) ∨ ¬ sfit (smul V w)) : tp_fit ps (tp_mul V ps (.inl (q, w))) g = .inr ps := by
  show tp_fit ps (if ¬ V.1.1 = 0 ∧ ¬ w.1.1 = 0 then _ else _) g = _
  by_cases z : ¬ V.1.1 = 0 ∧ ¬ w.1.1 = 0
  · rw [if_pos z]; rfl
  · rw [if_neg z]
    exact if_neg (h.resolve_left z)
theorem tl_r1 {r : Int} {P Q : Prop} (h : (r = 1 ∧ P) ∨ (r = 0 ∧ Q)) (h0 : ¬ r = 0) : P := by
  rcases h with q | q
  · exact q.2
  · exact absurd q.1 h0
theorem tl_r0 {r : Int} {P Q : Prop} (h : (r = 1 ∧ P) ∨ (r = 0 ∧ Q)) (h0 : r = 0) : Q := by
  rcases h with q | q
  · omega
  · exact q.2
set_option maxHeartbeats 4000000 in
theorem mp_closeN {p : Program} {l : Launch} {e : Env} {s : State} {m : MethodId} {below : List Frame} {meth : Method} {c : Code} {G : tm_G} {Hb : Heap} {sh : tm_sh} {M0 : tm_M} {o n : Nat} {t : Nat → Int} (Cx : mpC p l e s m below meth c G o n) {sd : Int} {q lv : Nat} {v : tl_S} {M : tm_M} {H : Heap} {locs : List Loc} {ls : Array Slot} (hP : PSt sh M0 M o t n (q) (lv + 1)) (hq : tp_nx t n q = q) (hv : asS M (o + 6) (4 * (lv + 1)) = v) (hsv : sok v) (hst : mI M (o + 11) lv = -1) (hF : ∀ f : Nat, tp_close t n (.inl (q, v)) = .inr f → tp_line t n = .inr f) (K : ∀ (M1 : tm_M) (H1 : Heap) (locs1 : List Loc) (ls1 : Array Slot), tp_close t n (.inl (q, v)) = .inl (q + 1, v) → PSt sh M0 M1 o t n (q + 1) lv → asS M1 (o + 7) (4 * lv) = v → sok (v) → mI M1 (o + 11) lv = -1 → fq (pT o lv) M M1 → tm_W G Hb sh M1 H1 → va_S (tm_A Hb) s.heap H1 locs1 → lv_has ls1 10 [(0, .ref o), (2, ji sd), (3, ji 360), (4, ji 0), (5, ji 0)] → mpW p l e s m below meth c G Hb sh M0 o n t 32 H1 locs1 ls1) (hW : tm_W G Hb sh M H) (hS : va_S (tm_A Hb) s.heap H locs) (hl : lv_has ls 10 [(0, .ref o), (2, ji sd), (3, ji 360), (4, ji 0), (5, ji 0), (6, ji (tp_ch t n (q))), (7, ji ((q : Nat) : Int))]) : mpW p l e s m below meth c G Hb sh M0 o n t 385 H locs ls := by
  obtain ⟨hx, hb, hr, hml, hown, htw, hlk, hK⟩ := Cx
  have hR := hP.1
  have h9 := hP.2.2.1
  have hlv := hP.2.1
  have hqn := hR.2.2.2.2.2
  have h80 := hR.2.2.2.1
  have cr := tp_ch_r (n := n) (p := q) (MS_t hR)
  obtain ⟨b0, ⟨t1, t2, t6, t7, t9, t12, t13, t14, t15, t16, t17, t24⟩, ⟨u1, u2, u3, u4, u5, u6, u7, u8, u9, u10, u11, u12⟩⟩ := hR.1
  refine lv_iload hx hb dX9_read_385 (lv_at hl 5 rfl) ?_
  refine ti_bipush hx hb dX9_read_387 (by decide) ?_
  refine ti_icmp_ne (tgt := 440) hx hb dX9_read_389 (by decide) (by omega) (by decide) (fun h389 => ?_) (fun h389 => ?_)
  · refine lv_aload_n hx hb dX9_read_440 rfl (lv_at hl 0 rfl) ?_
    refine gf_X9_100 hx hb htw hown hK hW (by assumption) dX9_read_441 ?_
    refine ti_if_le (tgt := 454) hx hb dX9_read_444 (by decide) (by omega) (fun h444 => ?_) (fun h444 => ?_)
    · exact absurd h444 (by omega)
    · refine lv_aload_n hx hb dX9_read_447 rfl (lv_at hl 0 rfl) ?_
      refine lv_iload hx hb dX9_read_448 (lv_at hl 6 rfl) ?_
      refine tm_calli (cs_X9_103 hx hb hml hown htw hK hW (by assumption) (c_X9_fails b0) ⟨rfl, rfl, Nat.le_of_ble_eq_true rfl, Nat.le_of_ble_eq_true rfl⟩ hl.1 (Nat.le_of_ble_eq_true rfl) dX9_read_450 ⟨Nat.le_of_ble_eq_true rfl, Nat.le_of_ble_eq_true rfl⟩) hS (fun x450 M450 H locs hp450 hW hS => ?_)
      obtain ⟨ex450, eM450⟩ := hp450
      rw [ex450]
      exact tm_zret hx hb hr hlk (by first | exact Or.inl rfl | exact Or.inr rfl | assumption) hK hW hS ⟨fq_tr hP.2.2.2 (by rw [eM450]; exact fq_sI (by unfold pR pP; omega)), Or.inr ⟨rfl, q, hF q (tp_cl0 hq (by omega)), by rw [eM450]; exact tm_up_s _ _ _ _⟩⟩ dX9_read_453
  · refine lv_aload_n hx hb dX9_read_392 rfl (lv_at hl 0 rfl) ?_
    refine gf_X9_100 hx hb htw hown hK hW (by assumption) dX9_read_393 ?_
    refine ti_if_le (tgt := 440) hx hb dX9_read_396 (by decide) (by omega) (fun h396 => ?_) (fun h396 => ?_)
    · exact absurd h396 (by omega)
    · refine lv_aload_n hx hb dX9_read_399 rfl (lv_at hl 0 rfl) ?_
      refine lv_dup hx hb dX9_read_400 rfl ?_
      refine gf_X9_100 hx hb htw hown hK hW (by assumption) dX9_read_401 ?_
      refine ti_iconst hx hb dX9_read_404 ?_
      refine ti_isub hx hb dX9_read_405 ?_
      refine pf_X9_100 hx hb htw hown hK hW (by assumption) hS dX9_read_406 (fun H locs hW hS => ?_)
      refine lv_aload_n hx hb dX9_read_409 rfl (lv_at hl 0 rfl) ?_
      refine lv_dup hx hb dX9_read_410 rfl ?_
      refine gf_X9_76 hx hb htw hown hK hW (by assumption) dX9_read_411 ?_
      refine ti_iconst hx hb dX9_read_414 ?_
      refine ti_iadd hx hb dX9_read_415 ?_
      refine pf_X9_76 hx hb htw hown hK hW (by assumption) hS dX9_read_416 (fun H locs hW hS => ?_)
      have fA : fq (pT o lv) M (sI (sI M o 18 (mI M o 18 - 1)) o 19 (mI (sI M o 18 (mI M o 18 - 1)) o 19 + 1)) := fq_tr (fq_sI (by unfold pT pP; omega)) (fq_sI (by unfold pT pP; omega))
      have lA : mI (sI (sI M o 18 (mI M o 18 - 1)) o 19 (mI (sI M o 18 (mI M o 18 - 1)) o 19 + 1)) o 18 = lv := (tm_up_k _ _ (by decide)).trans ((tm_up_s _ _ _ _).trans (by rw [hlv]; omega))
      have pA : mI (sI (sI M o 18 (mI M o 18 - 1)) o 19 (mI (sI M o 18 (mI M o 18 - 1)) o 19 + 1)) o 19 = ((q + 1 : Nat) : Int) := (tm_up_s _ _ _ _).trans (by rw [show mI (sI M o 18 (mI M o 18 - 1)) o 19 = mI M o 19 from tm_up_k _ _ (by decide), hR.2.2.2.2.1]; rfl)
      have sA : mI (sI (sI M o 18 (mI M o 18 - 1)) o 19 (mI (sI M o 18 (mI M o 18 - 1)) o 19 + 1)) (o + 11) lv = mI M (o + 11) lv := (tm_up_a _ _ (by omega)).trans (tm_up_a _ _ (by omega))
      have LA : mL (sI (sI M o 18 (mI M o 18 - 1)) o 19 (mI (sI M o 18 (mI M o 18 - 1)) o 19 + 1)) = mL M := rfl
      generalize (sI (sI M o 18 (mI M o 18 - 1)) o 19 (mI (sI M o 18 (mI M o 18 - 1)) o 19 + 1)) = A at hW fA lA pA sA LA
      have mA := isMo_m hR.1 fA.1
      have t12A : mR A o 12 = some (o + 6) := by rw [fA.1]; exact t12
      have vA : asS A (o + 6) (4 * (lv + 1)) = v := by rw [← hv]; show ((mL A _ _, mL A _ _), (mL A _ _, mL A _ _)) = _; rw [LA]
      have wA : asS A (o + 7) (4 * lv) = asS M (o + 7) (4 * lv) := by show ((mL A _ _, mL A _ _), (mL A _ _, mL A _ _)) = _; rw [LA]
      refine lv_aload_n hx hb dX9_read_419 rfl (lv_at hl 0 rfl) ?_
      refine lv_aload_n hx hb dX9_read_420 rfl (lv_at hl 0 rfl) ?_
      refine gf_X9_26 hx hb htw hown hK hW (by assumption) t12A dX9_read_421 ?_
      refine ti_iconst hx hb dX9_read_424 ?_
      refine lv_aload_n hx hb dX9_read_425 rfl (lv_at hl 0 rfl) ?_
      refine gf_X9_100 hx hb htw hown hK hW (by assumption) dX9_read_426 ?_
      refine ti_imul hx hb dX9_read_429 ?_
      refine ti_iconst hx hb dX9_read_430 ?_
      refine ti_iadd hx hb dX9_read_431 ?_
      rw [lA, show 4 * (lv : Int) + 4 = ((4 * (lv + 1) : Nat) : Int) by omega]
      refine tm_calli (cs_X9_114 hx hb hml hown htw hK hW (by assumption) (c_X9_factorN (kk := 4 * (lv + 1)) mA lA (by omega) u6 (by omega) (by omega) (sA.trans hst)) ⟨rfl, rfl, Nat.le_of_ble_eq_true rfl, Nat.le_of_ble_eq_true rfl⟩ hl.1 (Nat.le_of_ble_eq_true rfl) dX9_read_432 ⟨Nat.le_of_ble_eq_true rfl, Nat.le_of_ble_eq_true rfl⟩) hS (fun x432 M432 H locs hp432 hW hS => ?_)
      obtain ⟨ex432, e432, s432, f432⟩ := hp432
      rw [ex432]
      rw [vA] at e432
      have F432 := fq_tr fA (fq_wd f432 (fun _ _ z => pF_T z))
      refine ti_if_ne (tgt := 32) hx hb dX9_read_435 (by decide) (by decide) (fun h435 => ?_) (fun h435 => ?_)
      · exact K M432 _ _ _ (tp_cl1 hq h389) (PSt_m hP F432 (fun _ _ z => pT_0 z) ((f432.2 _ _ (by unfold pF; omega)).1.trans pA) (tp_ch_lt (t := t) (n := n) (by rw [h389]; decide)) ((f432.2 _ _ (by unfold pF; omega)).1.trans lA) (by omega)) e432 hsv s432 F432 hW hS (lv_sub hl [0, 1, 2, 3, 4] rfl)
      · exact absurd h435 (by decide)
set_option maxHeartbeats 4000000 in
theorem mp_closeS {p : Program} {l : Launch} {e : Env} {s : State} {m : MethodId} {below : List Frame} {meth : Method} {c : Code} {G : tm_G} {Hb : Heap} {sh : tm_sh} {M0 : tm_M} {o n : Nat} {t : Nat → Int} (Cx : mpC p l e s m below meth c G o n) {sd : Int} {q lv ps : Nat} {v : tl_S} {M : tm_M} {H : Heap} {locs : List Loc} {ls : Array Slot} (hP : PSt sh M0 M o t n (q) (lv + 1)) (hq : tp_nx t n q = q) (hv : asS M (o + 6) (4 * (lv + 1)) = v) (hsv : sok v) (hst : mI M (o + 11) lv = (ps : Nat)) (hps : ps ≤ 80) (hV : sok (asS M (o + 7) (4 * lv))) (hF : ∀ f : Nat, (∀ g, tp_fit ps (tp_mul (asS M (o + 7) (4 * lv)) ps (tp_close t n (.inl (q, v)))) g = .inr f) → tp_line t n = .inr f) (K : ∀ (M1 : tm_M) (H1 : Heap) (locs1 : List Loc) (ls1 : Array Slot), (∀ g, tp_fit ps (tp_mul (asS M (o + 7) (4 * lv)) ps (tp_close t n (.inl (q, v)))) g = g (q + 1) (smul (asS M (o + 7) (4 * lv)) v)) → PSt sh M0 M1 o t n (q + 1) lv → asS M1 (o + 7) (4 * lv) = smul (asS M (o + 7) (4 * lv)) v → sok (smul (asS M (o + 7) (4 * lv)) v) → mI M1 (o + 11) lv = -1 → fq (pT o lv) M M1 → tm_W G Hb sh M1 H1 → va_S (tm_A Hb) s.heap H1 locs1 → lv_has ls1 10 [(0, .ref o), (2, ji sd), (3, ji 360), (4, ji 0), (5, ji 0)] → mpW p l e s m below meth c G Hb sh M0 o n t 32 H1 locs1 ls1) (hW : tm_W G Hb sh M H) (hS : va_S (tm_A Hb) s.heap H locs) (hl : lv_has ls 10 [(0, .ref o), (2, ji sd), (3, ji 360), (4, ji 0), (5, ji 0), (6, ji (tp_ch t n (q))), (7, ji ((q : Nat) : Int))]) : mpW p l e s m below meth c G Hb sh M0 o n t 385 H locs ls := by
  obtain ⟨hx, hb, hr, hml, hown, htw, hlk, hK⟩ := Cx
  have hR := hP.1
  have h9 := hP.2.2.1
  have hlv := hP.2.1
  have hqn := hR.2.2.2.2.2
  have h80 := hR.2.2.2.1
  have cr := tp_ch_r (n := n) (p := q) (MS_t hR)
  obtain ⟨b0, ⟨t1, t2, t6, t7, t9, t12, t13, t14, t15, t16, t17, t24⟩, ⟨u1, u2, u3, u4, u5, u6, u7, u8, u9, u10, u11, u12⟩⟩ := hR.1
  refine lv_iload hx hb dX9_read_385 (lv_at hl 5 rfl) ?_
  refine ti_bipush hx hb dX9_read_387 (by decide) ?_
  refine ti_icmp_ne (tgt := 440) hx hb dX9_read_389 (by decide) (by omega) (by decide) (fun h389 => ?_) (fun h389 => ?_)
  · refine lv_aload_n hx hb dX9_read_440 rfl (lv_at hl 0 rfl) ?_
    refine gf_X9_100 hx hb htw hown hK hW (by assumption) dX9_read_441 ?_
    refine ti_if_le (tgt := 454) hx hb dX9_read_444 (by decide) (by omega) (fun h444 => ?_) (fun h444 => ?_)
    · exact absurd h444 (by omega)
    · refine lv_aload_n hx hb dX9_read_447 rfl (lv_at hl 0 rfl) ?_
      refine lv_iload hx hb dX9_read_448 (lv_at hl 6 rfl) ?_
      refine tm_calli (cs_X9_103 hx hb hml hown htw hK hW (by assumption) (c_X9_fails b0) ⟨rfl, rfl, Nat.le_of_ble_eq_true rfl, Nat.le_of_ble_eq_true rfl⟩ hl.1 (Nat.le_of_ble_eq_true rfl) dX9_read_450 ⟨Nat.le_of_ble_eq_true rfl, Nat.le_of_ble_eq_true rfl⟩) hS (fun x450 M450 H locs hp450 hW hS => ?_)
      obtain ⟨ex450, eM450⟩ := hp450
      rw [ex450]
      exact tm_zret hx hb hr hlk (by first | exact Or.inl rfl | exact Or.inr rfl | assumption) hK hW hS ⟨fq_tr hP.2.2.2 (by rw [eM450]; exact fq_sI (by unfold pR pP; omega)), Or.inr ⟨rfl, q, hF q (fun g => by rw [tp_cl0 hq (by omega)]; rfl), by rw [eM450]; exact tm_up_s _ _ _ _⟩⟩ dX9_read_453
  · refine lv_aload_n hx hb dX9_read_392 rfl (lv_at hl 0 rfl) ?_
    refine gf_X9_100 hx hb htw hown hK hW (by assumption) dX9_read_393 ?_
    refine ti_if_le (tgt := 440) hx hb dX9_read_396 (by decide) (by omega) (fun h396 => ?_) (fun h396 => ?_)
    · exact absurd h396 (by omega)
    · refine lv_aload_n hx hb dX9_read_399 rfl (lv_at hl 0 rfl) ?_
      refine lv_dup hx hb dX9_read_400 rfl ?_
      refine gf_X9_100 hx hb htw hown hK hW (by assumption) dX9_read_401 ?_
      refine ti_iconst hx hb dX9_read_404 ?_
      refine ti_isub hx hb dX9_read_405 ?_
      refine pf_X9_100 hx hb htw hown hK hW (by assumption) hS dX9_read_406 (fun H locs hW hS => ?_)
      refine lv_aload_n hx hb dX9_read_409 rfl (lv_at hl 0 rfl) ?_
      refine lv_dup hx hb dX9_read_410 rfl ?_
      refine gf_X9_76 hx hb htw hown hK hW (by assumption) dX9_read_411 ?_
      refine ti_iconst hx hb dX9_read_414 ?_
      refine ti_iadd hx hb dX9_read_415 ?_
      refine pf_X9_76 hx hb htw hown hK hW (by assumption) hS dX9_read_416 (fun H locs hW hS => ?_)
      have fA : fq (pT o lv) M (sI (sI M o 18 (mI M o 18 - 1)) o 19 (mI (sI M o 18 (mI M o 18 - 1)) o 19 + 1)) := fq_tr (fq_sI (by unfold pT pP; omega)) (fq_sI (by unfold pT pP; omega))
      have lA : mI (sI (sI M o 18 (mI M o 18 - 1)) o 19 (mI (sI M o 18 (mI M o 18 - 1)) o 19 + 1)) o 18 = lv := (tm_up_k _ _ (by decide)).trans ((tm_up_s _ _ _ _).trans (by rw [hlv]; omega))
      have pA : mI (sI (sI M o 18 (mI M o 18 - 1)) o 19 (mI (sI M o 18 (mI M o 18 - 1)) o 19 + 1)) o 19 = ((q + 1 : Nat) : Int) := (tm_up_s _ _ _ _).trans (by rw [show mI (sI M o 18 (mI M o 18 - 1)) o 19 = mI M o 19 from tm_up_k _ _ (by decide), hR.2.2.2.2.1]; rfl)
      have sA : mI (sI (sI M o 18 (mI M o 18 - 1)) o 19 (mI (sI M o 18 (mI M o 18 - 1)) o 19 + 1)) (o + 11) lv = mI M (o + 11) lv := (tm_up_a _ _ (by omega)).trans (tm_up_a _ _ (by omega))
      have LA : mL (sI (sI M o 18 (mI M o 18 - 1)) o 19 (mI (sI M o 18 (mI M o 18 - 1)) o 19 + 1)) = mL M := rfl
      generalize (sI (sI M o 18 (mI M o 18 - 1)) o 19 (mI (sI M o 18 (mI M o 18 - 1)) o 19 + 1)) = A at hW fA lA pA sA LA
      have mA := isMo_m hR.1 fA.1
      have t12A : mR A o 12 = some (o + 6) := by rw [fA.1]; exact t12
      have vA : asS A (o + 6) (4 * (lv + 1)) = v := by rw [← hv]; show ((mL A _ _, mL A _ _), (mL A _ _, mL A _ _)) = _; rw [LA]
      have wA : asS A (o + 7) (4 * lv) = asS M (o + 7) (4 * lv) := by show ((mL A _ _, mL A _ _), (mL A _ _, mL A _ _)) = _; rw [LA]
      refine lv_aload_n hx hb dX9_read_419 rfl (lv_at hl 0 rfl) ?_
      refine lv_aload_n hx hb dX9_read_420 rfl (lv_at hl 0 rfl) ?_
      refine gf_X9_26 hx hb htw hown hK hW (by assumption) t12A dX9_read_421 ?_
      refine ti_iconst hx hb dX9_read_424 ?_
      refine lv_aload_n hx hb dX9_read_425 rfl (lv_at hl 0 rfl) ?_
      refine gf_X9_100 hx hb htw hown hK hW (by assumption) dX9_read_426 ?_
      refine ti_imul hx hb dX9_read_429 ?_
      refine ti_iconst hx hb dX9_read_430 ?_
      refine ti_iadd hx hb dX9_read_431 ?_
      rw [lA, show 4 * (lv : Int) + 4 = ((4 * (lv + 1) : Nat) : Int) by omega]
      refine tm_calli (cs_X9_114 hx hb hml hown htw hK hW (by assumption) (c_X9_factorS (kk := 4 * (lv + 1)) mA lA (by omega) u6 (by omega) (by omega) (by rw [sA, hst]; omega) (by rw [sA, hst]; omega) (by rw [wA]; exact hV) (by rw [vA]; exact hsv)) ⟨rfl, rfl, Nat.le_of_ble_eq_true rfl, Nat.le_of_ble_eq_true rfl⟩ hl.1 (Nat.le_of_ble_eq_true rfl) dX9_read_432 ⟨Nat.le_of_ble_eq_true rfl, Nat.le_of_ble_eq_true rfl⟩) hS (fun x432 M432 H locs hp432 hW hS => ?_)
      obtain ⟨f432, e432⟩ := hp432
      rw [vA, wA, sA, hst] at e432
      have F432 := fq_tr fA (fq_wd f432 (fun _ _ z => pF_T z))
      refine ti_if_ne (tgt := 32) hx hb dX9_read_435 (by decide) (by rcases tl_01 e432 with z | z <;> omega) (fun h435 => ?_) (fun h435 => ?_)
      · exact K M432 _ _ _ (fun g => by rw [tp_cl1 hq h389]; exact tp_mf1 (tl_r1 e432 h435).1 (tl_r1 e432 h435).2.1) (PSt_m hP F432 (fun _ _ z => pT_0 z) ((f432.2 _ _ (by unfold pF; omega)).1.trans pA) (tp_ch_lt (t := t) (n := n) (by rw [h389]; decide)) ((f432.2 _ _ (by unfold pF; omega)).1.trans lA) (by omega)) (tl_r1 e432 h435).2.2.1 (sok_smul hV hsv (tl_r1 e432 h435).2.1) (tl_r1 e432 h435).2.2.2 F432 hW hS (lv_sub hl [0, 1, 2, 3, 4] rfl)
      · refine ti_iconst hx hb dX9_read_438 ?_
        exact tm_zret hx hb hr hlk (by first | exact Or.inl rfl | exact Or.inr rfl | assumption) hK hW hS ⟨fq_tr hP.2.2.2 (fq_wd F432 (fun _ _ z => Or.inl (pT_0 z))), Or.inr ⟨rfl, ps, hF ps (fun g => by rw [tp_cl1 hq h389]; exact tp_mf2 (tl_r0 e432 h435).1), (tl_r0 e432 h435).2⟩⟩ dX9_read_439
