/-! TutorLinesModel.read: terms and sides (by program: wip/whole/gen/mr4.py) -/
theorem tp_tl_m {t : Nat → Int} {n k q : Nat} {v : tl_S} {inn : Option (Nat → tp_R)} (h : tp_ch t n (tp_nx t n q) = 42) : tp_tl t n inn (k + 1) q v = tp_fit (tp_nx t n q) (tp_mul v (tp_nx t n q) (tp_factor t n inn (tp_nx t n q + 1))) (tp_tl t n inn k) := by
  rw [tp_tl, if_pos (Or.inl h), tp_op, if_pos h]
theorem tp_tl_d {t : Nat → Int} {n k q : Nat} {v : tl_S} {inn : Option (Nat → tp_R)} (h : tp_ch t n (tp_nx t n q) = 47) : tp_tl t n inn (k + 1) q v = tp_fit (tp_nx t n q) (tp_dvd v (tp_num t n (tp_nx t n q + 1))) (tp_tl t n inn k) := by
  rw [tp_tl, if_pos (Or.inr h), tp_op, if_neg (by omega)]
theorem tp_tl_e {t : Nat → Int} {n k q : Nat} {v : tl_S} {inn : Option (Nat → tp_R)} (h : ¬ tp_ch t n (tp_nx t n q) = 42) (h2 : ¬ tp_ch t n (tp_nx t n q) = 47) : tp_tl t n inn (k + 1) q v = .inl (tp_nx t n q, v) := by
  rw [tp_tl, if_neg (by omega)]
theorem pD_T {o lv a k : Nat} (h : pD o lv a k) : pT o lv a k := by unfold pD at h; unfold pT pP; omega
theorem pM_P {o lv a k : Nat} (h : pM o lv a k) : pP o lv a k := by unfold pM at h; unfold pP; omega
theorem tl_lf {g : Nat → tl_S → tp_R} {x : (Nat → tl_S → tp_R) → tp_R} {L : tl_L ⊕ Nat} {y : Int} (h : ∃ f : Nat, (∀ g, x g = .inr f) ∧ y = f) (k : ∀ f : Nat, x g = .inr f → L = .inr f) : ∃ f : Nat, L = .inr f ∧ y = f := by
  obtain ⟨f, h1, h2⟩ := h
  exact ⟨f, k f (h1 g), h2⟩
set_option maxHeartbeats 4000000 in
theorem mp_tl {p : Program} {l : Launch} {e : Env} {s : State} {m : MethodId} {below : List Frame} {meth : Method} {c : Code} {G : tm_G} {Hb : Heap} {sh : tm_sh} {M0 : tm_M} {o n : Nat} {t : Nat → Int} (Cx : mpC p l e s m below meth c G o n) {sd : Int} {r lv : Nat} (ih : ∀ r1, r1 + 1 = r → mpSide p l e s m below meth c G Hb sh M0 o n t r1) (hr0 : lv + r = 8) : ∀ (k q : Nat) (v : tl_S) (M : tm_M) (H : Heap) (locs : List Loc) (ls : Array Slot), n < q + k → PSt sh M0 M o t n (q) lv → asS M (o + 7) (4 * lv) = v → sok v → mI M (o + 11) lv = -1 → (∀ f : Nat, tp_tl t n (tp_in t n r) k q v = .inr f → tp_line t n = .inr f) → (K : ∀ (x : Nat × tl_S) (M1 : tm_M) (H1 : Heap) (locs1 : List Loc) (ls1 : Array Slot), tp_tl t n (tp_in t n r) k q v = .inl x → PSt sh M0 M1 o t n (x.1) lv → asS M1 (o + 7) (4 * lv) = x.2 → sok x.2 → mI M1 (o + 11) lv = -1 → q ≤ x.1 → tp_nx t n x.1 = x.1 → fq (pT o lv) M M1 → tm_W G Hb sh M1 H1 → va_S (tm_A Hb) s.heap H1 locs1 → lv_has ls1 10 [(0, .ref o), (2, ji sd), (3, ji 360), (4, ji 0), (5, ji 0), (6, ji (tp_ch t n (x.1))), (7, ji ((x.1 : Nat) : Int))] → mpW p l e s m below meth c G Hb sh M0 o n t 324 H1 locs1 ls1) → tm_W G Hb sh M H → va_S (tm_A Hb) s.heap H locs → lv_has ls 10 [(0, .ref o), (2, ji sd), (3, ji 360), (4, ji 0), (5, ji 0)] → mpW p l e s m below meth c G Hb sh M0 o n t 32 H locs ls := by
  intro k
  induction k with
  | zero =>
    intro q v M H locs ls hk hP
    have := hP.1.2.2.2.2.2
    omega
  | succ k ihk =>
    intro q v M H locs ls hk hP hv hsv hst hF K hW hS hl
    have hqn := hP.1.2.2.2.2.2
    have q0 := tp_nx_le (t := t) hqn
    refine mp_0 Cx hP ?_ hW hS hl
    intro M2 H2 locs2 ls2 P2 n2 hW hS hl
    have Cx0 := Cx
    obtain ⟨hx, hb, hr, hml, hown, htw, hlk, hK⟩ := Cx
    have hR := P2.1
    have h9 := P2.2.2.1
    have hlv := P2.2.1
    have h80 := hR.2.2.2.1
    have e19 := hR.2.2.2.2.1
    have cr := tp_ch_r (n := n) (p := tp_nx t n q) (MS_t hR)
    have s2 : mI M2 (o + 11) lv = -1 := (n2.2 _ _ (by unfold p19; omega)).1.trans hst
    have v2 : asS M2 (o + 7) (4 * lv) = v := (as_fq n2 (fun j hj => by unfold p19; omega)).trans hv
    have f2 := fq_wd (Q := pT o lv) n2 (fun _ _ z => p19_T z)
    obtain ⟨b0, ⟨t1, t2, t6, t7, t9, t12, t13, t14, t15, t16, t17, t24⟩, ⟨u1, u2, u3, u4, u5, u6, u7, u8, u9, u10, u11, u12⟩⟩ := hR.1
    refine lv_iload hx hb dX9_read_262 (lv_at hl 5 rfl) ?_
    refine ti_bipush hx hb dX9_read_264 (by decide) ?_
    refine ti_icmp_ne (tgt := 296) hx hb dX9_read_266 (by decide) (by omega) (by decide) (fun h266 => ?_) (fun h266 => ?_)
    · refine lv_iload hx hb dX9_read_296 (lv_at hl 5 rfl) ?_
      refine ti_bipush hx hb dX9_read_298 (by decide) ?_
      refine ti_icmp_ne (tgt := 324) hx hb dX9_read_300 (by decide) (by omega) (by decide) (fun h300 => ?_) (fun h300 => ?_)
      · exact K (tp_nx t n q, v) M2 _ _ _ (tp_tl_e h266 h300) P2 v2 hsv s2 q0.1 (tp_nx_nx hqn) f2 hW hS (lv_sub hl [0, 1, 2, 3, 4, 5, 6] rfl)
      · refine lv_aload_n hx hb dX9_read_303 rfl (lv_at hl 0 rfl) ?_
        refine lv_dup hx hb dX9_read_304 rfl ?_
        refine gf_X9_76 hx hb htw hown hK hW (by assumption) dX9_read_305 ?_
        refine ti_iconst hx hb dX9_read_308 ?_
        refine ti_iadd hx hb dX9_read_309 ?_
        refine pf_X9_76 hx hb htw hown hK hW (by assumption) hS dX9_read_310 (fun H locs hW hS => ?_)
        have lt := tp_ch_lt (t := t) (n := n) (p := tp_nx t n q) (by omega)
        have fA : fq (pT o lv) M (sI M2 o 19 (mI M2 o 19 + 1)) := fq_tr f2 (fq_sI (by unfold pT pP; omega))
        have pA : mI (sI M2 o 19 (mI M2 o 19 + 1)) o 19 = ((tp_nx t n q + 1 : Nat) : Int) := (tm_up_s _ _ _ _).trans (by rw [e19]; rfl)
        have lA : mI (sI M2 o 19 (mI M2 o 19 + 1)) o 18 = lv := (tm_up_k _ _ (by decide)).trans hlv
        have sA : mI (sI M2 o 19 (mI M2 o 19 + 1)) (o + 11) lv = -1 := (tm_up_a _ _ (by omega)).trans s2
        have vA : asS (sI M2 o 19 (mI M2 o 19 + 1)) (o + 7) (4 * lv) = v := v2
        generalize (sI M2 o 19 (mI M2 o 19 + 1)) = A at hW fA pA lA sA vA
        have PA := PSt_m hP fA (fun _ _ z => pT_0 z) pA lt lA h9
        refine lv_aload_n hx hb dX9_read_313 rfl (lv_at hl 0 rfl) ?_
        refine lv_iload hx hb dX9_read_314 (lv_at hl 6 rfl) ?_
        refine tm_calli (cs_X9_129 hx hb hml hown htw hK hW (by assumption) (c_X9_divide (pl := tp_nx t n q) PA.1 lA h9 (by omega) (by rw [vA]; exact hsv)) ⟨rfl, rfl, Nat.le_of_ble_eq_true rfl, Nat.le_of_ble_eq_true rfl⟩ hl.1 (Nat.le_of_ble_eq_true rfl) dX9_read_316 ⟨Nat.le_of_ble_eq_true rfl, Nat.le_of_ble_eq_true rfl⟩) hS (fun x316 M316 H locs hp316 hW hS => ?_)
        obtain ⟨f316, e316⟩ := hp316
        rw [vA] at e316
        have F := fq_tr fA (fq_wd f316 (fun _ _ z => pD_T z))
        refine ti_if_ne (tgt := 32) hx hb dX9_read_319 (by decide) (by rcases tl_01 e316 with z | z <;> omega) (fun h319 => ?_) (fun h319 => ?_)
        · obtain ⟨q4, w, c4, z19, z1, z2, z3, z4⟩ := tl_r1 e316 h319
          have e4 : tp_tl t n (tp_in t n r) (k + 1) q v = tp_tl t n (tp_in t n r) k q4 w := by rw [tp_tl_d h300]; exact c4 _
          exact ihk q4 w M316 _ _ _ (by omega) (PSt_m hP F (fun _ _ z => pT_0 z) z19 z1 ((f316.2 _ _ (by unfold pD; omega)).1.trans lA) h9) z3 z4 ((f316.2 _ _ (by unfold pD; omega)).1.trans sA) (fun f hf => hF f (e4.trans hf)) (fun x M5 H5 locs5 ls5 c5 P5 w5 s5 t5 g5 n5 f5 => K x M5 H5 locs5 ls5 (e4.trans c5) P5 w5 s5 t5 (by omega) n5 (fq_tr F f5)) hW hS (lv_sub hl [0, 1, 2, 3, 4] rfl)
        · refine ti_iconst hx hb dX9_read_322 ?_
          exact tm_zret hx hb hr hlk (by first | exact Or.inl rfl | exact Or.inr rfl | assumption) hK hW hS ⟨fq_tr hP.2.2.2 (fq_wd F (fun _ _ z => Or.inl (pT_0 z))), Or.inr ⟨rfl, tl_lf (tl_r0 e316 h319) (fun f z => hF f ((tp_tl_d h300).trans z))⟩⟩ dX9_read_323
    · refine lv_aload_n hx hb dX9_read_269 rfl (lv_at hl 0 rfl) ?_
      refine gf_X9_42 hx hb htw hown hK hW (by assumption) (by assumption) dX9_read_270 ?_
      refine lv_aload_n hx hb dX9_read_273 rfl (lv_at hl 0 rfl) ?_
      refine gf_X9_100 hx hb htw hown hK hW (by assumption) dX9_read_274 ?_
      rw [hlv]
      refine lv_iload hx hb dX9_read_277 (lv_at hl 6 rfl) ?_
      refine tm_iast hx hb hK hW hS (by assumption) (by omega) (by omega) (by decide) dX9_read_279 (fun H locs hW hS => ?_)
      refine lv_aload_n hx hb dX9_read_280 rfl (lv_at hl 0 rfl) ?_
      refine lv_dup hx hb dX9_read_281 rfl ?_
      refine gf_X9_76 hx hb htw hown hK hW (by assumption) dX9_read_282 ?_
      refine ti_iconst hx hb dX9_read_285 ?_
      refine ti_iadd hx hb dX9_read_286 ?_
      refine pf_X9_76 hx hb htw hown hK hW (by assumption) hS dX9_read_287 (fun H locs hW hS => ?_)
      refine ti_iconst hx hb dX9_read_290 ?_
      refine lv_istore (lv' := [(5, _), (0, _), (2, _), (3, _), (4, _), (6, _), (7, _)]) hx hb dX9_read_291 hl (by decide) rfl (fun ls hl => ?_)
      refine lv_goto (tgt := 32) hx hb dX9_read_293 (by decide) ?_
      have lt := tp_ch_lt (t := t) (n := n) (p := tp_nx t n q) (by omega)
      have fA : fq (pT o lv) M (sI (sI M2 (o + 11) (lv : Int).toNat (tp_nx t n q : Nat)) o 19 (mI (sI M2 (o + 11) (lv : Int).toNat (tp_nx t n q : Nat)) o 19 + 1)) := fq_tr f2 (fq_tr (fq_sI (by unfold pT pP; omega)) (fq_sI (by unfold pT pP; omega)))
      have pA : mI (sI (sI M2 (o + 11) (lv : Int).toNat (tp_nx t n q : Nat)) o 19 (mI (sI M2 (o + 11) (lv : Int).toNat (tp_nx t n q : Nat)) o 19 + 1)) o 19 = ((tp_nx t n q + 1 : Nat) : Int) := (tm_up_s _ _ _ _).trans (by rw [show mI (sI M2 (o + 11) (lv : Int).toNat (tp_nx t n q : Nat)) o 19 = mI M2 o 19 from tm_up_a _ _ (by omega), e19]; rfl)
      have lA : mI (sI (sI M2 (o + 11) (lv : Int).toNat (tp_nx t n q : Nat)) o 19 (mI (sI M2 (o + 11) (lv : Int).toNat (tp_nx t n q : Nat)) o 19 + 1)) o 18 = lv := (tm_up_k _ _ (by decide)).trans ((tm_up_a _ _ (by omega)).trans hlv)
      have sA : mI (sI (sI M2 (o + 11) (lv : Int).toNat (tp_nx t n q : Nat)) o 19 (mI (sI M2 (o + 11) (lv : Int).toNat (tp_nx t n q : Nat)) o 19 + 1)) (o + 11) lv = (tp_nx t n q : Nat) := (tm_up_a _ _ (by omega)).trans (by rw [show (lv : Int).toNat = lv by omega]; exact tm_up_s _ _ _ _)
      have vA : asS (sI (sI M2 (o + 11) (lv : Int).toNat (tp_nx t n q : Nat)) o 19 (mI (sI M2 (o + 11) (lv : Int).toNat (tp_nx t n q : Nat)) o 19 + 1)) (o + 7) (4 * lv) = v := v2
      generalize (sI (sI M2 (o + 11) (lv : Int).toNat (tp_nx t n q : Nat)) o 19 (mI (sI M2 (o + 11) (lv : Int).toNat (tp_nx t n q : Nat)) o 19 + 1)) = A at hW fA pA lA sA vA
      have PA := PSt_m hP fA (fun _ _ z => pT_0 z) pA lt lA h9
      refine mp_w Cx0 (Or.inl rfl) PA (fun z => absurd z (by decide)) (fun _ => ?_) hW hS (lv_sub hl [1, 2, 3, 4, 0] rfl)
      intro M3 H3 locs3 ls3 P3 n3 hW hS hl
      have v3 : asS M3 (o + 7) (4 * lv) = v := (as_fq n3 (fun j hj => by unfold p19; omega)).trans vA
      refine mp_factS (ps := tp_nx t n q) Cx0 ih hr0 lt P3 ((n3.2 _ _ (by unfold p19; omega)).1.trans sA) (by omega) (by rw [v3]; exact hsv) (fun f hf => hF f (by rw [tp_tl_m h266, ← v3]; exact hf _)) ?_ hW hS hl
      intro q4 v4 M4 H4 locs4 ls4 c4 P4 w4 s4 t4 g4 f4 hW hS hl
      rw [v3] at c4
      have e4 : tp_tl t n (tp_in t n r) (k + 1) q v = tp_tl t n (tp_in t n r) k q4 v4 := by rw [tp_tl_m h266]; exact c4 _
      exact ihk q4 v4 M4 H4 locs4 ls4 (by omega) P4 w4 s4 t4 (fun f hf => hF f (e4.trans hf)) (fun x M5 H5 locs5 ls5 c5 P5 w5 s5 t5 g5 n5 f5 => K x M5 H5 locs5 ls5 (e4.trans c5) P5 w5 s5 t5 (by omega) n5 (fq_tr (fq_tr (fq_tr fA (fq_wd n3 (fun _ _ z => p19_T z))) f4) f5)) hW hS hl
set_option maxHeartbeats 4000000 in
theorem mp_term {p : Program} {l : Launch} {e : Env} {s : State} {m : MethodId} {below : List Frame} {meth : Method} {c : Code} {G : tm_G} {Hb : Heap} {sh : tm_sh} {M0 : tm_M} {o n : Nat} {t : Nat → Int} (Cx : mpC p l e s m below meth c G o n) {sd : Int} {r lv p1 : Nat} {M : tm_M} {H : Heap} {locs : List Loc} {ls : Array Slot} (ih : ∀ r1, r1 + 1 = r → mpSide p l e s m below meth c G Hb sh M0 o n t r1) (hr0 : lv + r = 8) (hp1 : p1 ≤ n) (hP : PSt sh M0 M o t n (tp_nx t n p1) lv) (hst : mI M (o + 11) lv = -1) (hF : ∀ f : Nat, tp_term t n (tp_in t n r) p1 = .inr f → tp_line t n = .inr f) (K : ∀ (x : Nat × tl_S) (M1 : tm_M) (H1 : Heap) (locs1 : List Loc) (ls1 : Array Slot), tp_term t n (tp_in t n r) p1 = .inl x → PSt sh M0 M1 o t n (x.1) lv → asS M1 (o + 7) (4 * lv) = x.2 → sok x.2 → mI M1 (o + 11) lv = -1 → p1 < x.1 → tp_nx t n x.1 = x.1 → fq (pT o lv) M M1 → tm_W G Hb sh M1 H1 → va_S (tm_A Hb) s.heap H1 locs1 → lv_has ls1 10 [(0, .ref o), (2, ji sd), (3, ji 360), (4, ji 0), (5, ji 0), (6, ji (tp_ch t n (x.1))), (7, ji ((x.1 : Nat) : Int))] → mpW p l e s m below meth c G Hb sh M0 o n t 324 H1 locs1 ls1) (hW : tm_W G Hb sh M H) (hS : va_S (tm_A Hb) s.heap H locs) (hl : lv_has ls 10 [(0, .ref o), (2, ji sd), (3, ji 360), (4, ji 0), (5, ji 1), (6, ji (tp_ch t n (tp_nx t n p1))), (7, ji ((tp_nx t n p1 : Nat) : Int))]) : mpW p l e s m below meth c G Hb sh M0 o n t 104 H locs ls := by
  have h80 := hP.1.2.2.2.1
  refine mp_factN Cx ih hr0 hp1 hP hst (fun f hf => hF f (by unfold tp_term; rw [hf]; rfl)) ?_ hW hS hl
  intro q v M1 H1 locs1 ls1 c1 P1 v1 s1 t1 g1 f1 hW hS hl
  have e1 : tp_term t n (tp_in t n r) p1 = tp_tl t n (tp_in t n r) 80 q v := by unfold tp_term; rw [c1]; rfl
  exact mp_tl Cx ih hr0 80 q v M1 H1 locs1 ls1 (by omega) P1 v1 s1 t1 (fun f hf => hF f (e1.trans hf)) (fun x M5 H5 locs5 ls5 c5 P5 w5 s5 t5 g5 n5 f5 => K x M5 H5 locs5 ls5 (e1.trans c5) P5 w5 s5 t5 (by omega) n5 (fq_tr f1 f5)) hW hS hl
set_option maxHeartbeats 4000000 in
theorem mp_addN {p : Program} {l : Launch} {e : Env} {s : State} {m : MethodId} {below : List Frame} {meth : Method} {c : Code} {G : tm_G} {Hb : Heap} {sh : tm_sh} {M0 : tm_M} {o n : Nat} {t : Nat → Int} (Cx : mpC p l e s m below meth c G o n) {sd : Int} {lv q : Nat} {M : tm_M} {H : Heap} {locs : List Loc} {ls : Array Slot} (hP : PSt sh M0 M o t n (q) lv) (hsg : mI M (o + 9) lv = 43 ∨ mI M (o + 9) lv = 45) (hv : sok (asS M (o + 7) (4 * lv))) (hhs : mI M (o + 8) lv = 0) (K : ∀ (M1 : tm_M) (H1 : Heap) (locs1 : List Loc) (ls1 : Array Slot), PSt sh M0 M1 o t n (q) lv → asS M1 (o + 6) (4 * lv) = (if mI M (o + 9) lv = 45 then sneg (asS M (o + 7) (4 * lv)) else asS M (o + 7) (4 * lv)) → mI M1 (o + 8) lv = 1 → fq (pM o lv) M M1 → tm_W G Hb sh M1 H1 → va_S (tm_A Hb) s.heap H1 locs1 → lv_has ls1 10 [(0, .ref o), (2, ji sd), (3, ji 360), (4, ji 0), (5, ji 0), (6, ji (tp_ch t n (q))), (7, ji ((q : Nat) : Int))] → mpW p l e s m below meth c G Hb sh M0 o n t 333 H1 locs1 ls1) (hW : tm_W G Hb sh M H) (hS : va_S (tm_A Hb) s.heap H locs) (hl : lv_has ls 10 [(0, .ref o), (2, ji sd), (3, ji 360), (4, ji 0), (5, ji 0), (6, ji (tp_ch t n (q))), (7, ji ((q : Nat) : Int))]) : mpW p l e s m below meth c G Hb sh M0 o n t 324 H locs ls := by
  obtain ⟨hx, hb, hr, hml, hown, htw, hlk, hK⟩ := Cx
  have hR := hP.1
  have h9 := hP.2.2.1
  have hlv := hP.2.1
  obtain ⟨b0, ⟨t1, t2, t6, t7, t9, t12, t13, t14, t15, t16, t17, t24⟩, ⟨u1, u2, u3, u4, u5, u6, u7, u8, u9, u10, u11, u12⟩⟩ := hR.1
  refine lv_aload_n hx hb dX9_read_324 rfl (lv_at hl 0 rfl) ?_
  refine tm_calli (cs_X9_132 hx hb hml hown htw hK hW (by assumption) (c_X9_termN hR.1 hlv h9 (by omega) hv hhs) ⟨rfl, rfl, Nat.le_of_ble_eq_true rfl, Nat.le_of_ble_eq_true rfl⟩ hl.1 (Nat.le_of_ble_eq_true rfl) dX9_read_325 ⟨Nat.le_of_ble_eq_true rfl, Nat.le_of_ble_eq_true rfl⟩) hS (fun x325 M325 H locs hp325 hW hS => ?_)
  obtain ⟨ex325, e325, g325, f325⟩ := hp325
  rw [ex325]
  refine ti_if_ne (tgt := 333) hx hb dX9_read_328 (by decide) (by decide) (fun h328 => ?_) (fun h328 => ?_)
  · exact K M325 _ _ _ (PSt_m hP f325 (fun _ _ z => pP_0 (pM_P z)) ((f325.2 _ _ (by unfold pM; omega)).1.trans hR.2.2.2.2.1) hR.2.2.2.2.2 ((f325.2 _ _ (by unfold pM; omega)).1.trans hlv) h9) e325 g325 f325 hW hS (lv_sub hl [0, 1, 2, 3, 4, 5, 6] rfl)
  · exact absurd h328 (by decide)
set_option maxHeartbeats 4000000 in
theorem mp_addS {p : Program} {l : Launch} {e : Env} {s : State} {m : MethodId} {below : List Frame} {meth : Method} {c : Code} {G : tm_G} {Hb : Heap} {sh : tm_sh} {M0 : tm_M} {o n : Nat} {t : Nat → Int} (Cx : mpC p l e s m below meth c G o n) {sd : Int} {lv q ps : Nat} {M : tm_M} {H : Heap} {locs : List Loc} {ls : Array Slot} (hP : PSt sh M0 M o t n (q) lv) (hsg : mI M (o + 9) lv = 43 ∨ mI M (o + 9) lv = 45) (hv : sok (asS M (o + 7) (4 * lv))) (hhs : mI M (o + 8) lv = 1) (hV : sok (asS M (o + 6) (4 * lv))) (hsp : mI M (o + 10) lv = (ps : Nat)) (hF : ¬ sfit (if mI M (o + 9) lv = 45 then ssub (asS M (o + 6) (4 * lv)) (asS M (o + 7) (4 * lv)) else sadd (asS M (o + 6) (4 * lv)) (asS M (o + 7) (4 * lv))) → tp_line t n = .inr ps) (K : ∀ (M1 : tm_M) (H1 : Heap) (locs1 : List Loc) (ls1 : Array Slot), sfit (if mI M (o + 9) lv = 45 then ssub (asS M (o + 6) (4 * lv)) (asS M (o + 7) (4 * lv)) else sadd (asS M (o + 6) (4 * lv)) (asS M (o + 7) (4 * lv))) → PSt sh M0 M1 o t n (q) lv → asS M1 (o + 6) (4 * lv) = (if mI M (o + 9) lv = 45 then ssub (asS M (o + 6) (4 * lv)) (asS M (o + 7) (4 * lv)) else sadd (asS M (o + 6) (4 * lv)) (asS M (o + 7) (4 * lv))) → mI M1 (o + 8) lv = 1 → fq (pM o lv) M M1 → tm_W G Hb sh M1 H1 → va_S (tm_A Hb) s.heap H1 locs1 → lv_has ls1 10 [(0, .ref o), (2, ji sd), (3, ji 360), (4, ji 0), (5, ji 0), (6, ji (tp_ch t n (q))), (7, ji ((q : Nat) : Int))] → mpW p l e s m below meth c G Hb sh M0 o n t 333 H1 locs1 ls1) (hW : tm_W G Hb sh M H) (hS : va_S (tm_A Hb) s.heap H locs) (hl : lv_has ls 10 [(0, .ref o), (2, ji sd), (3, ji 360), (4, ji 0), (5, ji 0), (6, ji (tp_ch t n (q))), (7, ji ((q : Nat) : Int))]) : mpW p l e s m below meth c G Hb sh M0 o n t 324 H locs ls := by
  obtain ⟨hx, hb, hr, hml, hown, htw, hlk, hK⟩ := Cx
  have hR := hP.1
  have h9 := hP.2.2.1
  have hlv := hP.2.1
  obtain ⟨b0, ⟨t1, t2, t6, t7, t9, t12, t13, t14, t15, t16, t17, t24⟩, ⟨u1, u2, u3, u4, u5, u6, u7, u8, u9, u10, u11, u12⟩⟩ := hR.1
  refine lv_aload_n hx hb dX9_read_324 rfl (lv_at hl 0 rfl) ?_
  refine tm_calli (cs_X9_132 hx hb hml hown htw hK hW (by assumption) (c_X9_termS hR.1 hlv h9 (by omega) hv hhs hV) ⟨rfl, rfl, Nat.le_of_ble_eq_true rfl, Nat.le_of_ble_eq_true rfl⟩ hl.1 (Nat.le_of_ble_eq_true rfl) dX9_read_325 ⟨Nat.le_of_ble_eq_true rfl, Nat.le_of_ble_eq_true rfl⟩) hS (fun x325 M325 H locs hp325 hW hS => ?_)
  obtain ⟨f325, e325⟩ := hp325
  refine ti_if_ne (tgt := 333) hx hb dX9_read_328 (by decide) (by rcases tl_01 e325 with z | z <;> omega) (fun h328 => ?_) (fun h328 => ?_)
  · exact K M325 _ _ _ (tl_r1 e325 h328).1 (PSt_m hP f325 (fun _ _ z => pP_0 (pM_P z)) ((f325.2 _ _ (by unfold pM; omega)).1.trans hR.2.2.2.2.1) hR.2.2.2.2.2 ((f325.2 _ _ (by unfold pM; omega)).1.trans hlv) h9) (tl_r1 e325 h328).2.1 (tl_r1 e325 h328).2.2 f325 hW hS (lv_sub hl [0, 1, 2, 3, 4, 5, 6] rfl)
  · refine ti_iconst hx hb dX9_read_331 ?_
    exact tm_zret hx hb hr hlk (by first | exact Or.inl rfl | exact Or.inr rfl | assumption) hK hW hS ⟨fq_tr hP.2.2.2 (fq_wd f325 (fun _ _ z => Or.inl (pP_0 (pM_P z)))), Or.inr ⟨rfl, ps, hF (tl_r0 e325 h328).1, (tl_r0 e325 h328).2.trans hsp⟩⟩ dX9_read_332
