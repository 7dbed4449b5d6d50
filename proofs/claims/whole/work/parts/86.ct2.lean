/-! constructors: parts, sides, lines, sets (by program: wip/whole/gen/ct2.py) -/
/-- below q nothing has changed -/
def gq (q : Nat) (sh : tm_sh) (M : tm_M) (sh1 : tm_sh) (M1 : tm_M) : Prop := (∀ a, a < q → sh1 a = sh a) ∧ ∀ a k, a < q → mR M1 a k = mR M a k ∧ mI M1 a k = mI M a k ∧ mL M1 a k = mL M a k
theorem gq_rf {q : Nat} {sh : tm_sh} {M : tm_M} : gq q sh M sh M := ⟨fun _ _ => rfl, fun _ _ _ => ⟨rfl, rfl, rfl⟩⟩
theorem gq_tr {q : Nat} {sh sh1 sh2 : tm_sh} {M M1 M2 : tm_M} (h : gq q sh M sh1 M1) (g : gq q sh1 M1 sh2 M2) : gq q sh M sh2 M2 := ⟨fun a ha => (g.1 a ha).trans (h.1 a ha), fun a k ha => ⟨(g.2 a k ha).1.trans (h.2 a k ha).1, (g.2 a k ha).2.1.trans (h.2 a k ha).2.1, (g.2 a k ha).2.2.trans (h.2 a k ha).2.2⟩⟩
theorem gq_le {q r : Nat} {sh sh1 : tm_sh} {M M1 : tm_M} (h : gq r sh M sh1 M1) (hq : q ≤ r) : gq q sh M sh1 M1 := ⟨fun a ha => h.1 a (by omega), fun a k ha => h.2 a k (by omega)⟩
theorem gq_new {q x kd N : Nat} {sh : tm_sh} {M : tm_M} (hx : q ≤ x) : gq q sh M (sN sh x kd N) (zM M x) := ⟨fun a ha => sN_n (by omega), fun a k ha => ⟨zM_R (by omega) k, zM_I (by omega) k, zM_L (by omega) k⟩⟩
theorem gq_sR {q a k : Nat} {v : Option Nat} {sh : tm_sh} {M : tm_M} (ha : q ≤ a) : gq q sh M sh (sR M a k v) := ⟨fun _ _ => rfl, fun b j hb => ⟨tm_up_a _ _ (by omega), rfl, rfl⟩⟩
theorem gq_sL {q a k : Nat} {v : Int} {sh : tm_sh} {M : tm_M} (ha : q ≤ a) : gq q sh M sh (sL M a k v) := ⟨fun _ _ => rfl, fun b j hb => ⟨rfl, rfl, tm_up_a _ _ (by omega)⟩⟩
theorem gq_sI {q a k : Nat} {v : Int} {sh : tm_sh} {M : tm_M} (ha : q ≤ a) : gq q sh M sh (sI M a k v) := ⟨fun _ _ => rfl, fun b j hb => ⟨rfl, tm_up_a _ _ (by omega), rfl⟩⟩
theorem isSd_g {q x : Nat} {sh sh1 : tm_sh} {M M1 : tm_M} (h : isSd sh M x) (g : gq q sh M sh1 M1) (hx : x + 3 ≤ q) : isSd sh1 M1 x := by
  obtain ⟨h1, h2, h3, h4, h5⟩ := h
  exact ⟨(g.1 _ (by omega)).trans h1, (g.1 _ (by omega)).trans h2, (g.1 _ (by omega)).trans h3, (g.2 _ _ (by omega)).1.trans h4, (g.2 _ _ (by omega)).1.trans h5⟩
theorem isLn_g {q x : Nat} {sh sh1 : tm_sh} {M M1 : tm_M} (h : isLn sh M x) (g : gq q sh M sh1 M1) (hx : x + 7 ≤ q) : isLn sh1 M1 x := by
  obtain ⟨h1, h2, h3, h4, h5⟩ := h
  exact ⟨(g.1 _ (by omega)).trans h1, (g.2 _ _ (by omega)).1.trans h2, (g.2 _ _ (by omega)).1.trans h3, isSd_g h4 g (by omega), isSd_g h5 g (by omega)⟩
theorem isSo_g {q x : Nat} {sh sh1 : tm_sh} {M M1 : tm_M} (h : isSo sh M x) (g : gq q sh M sh1 M1) (hx : x + 3 ≤ q) : isSo sh1 M1 x := by
  obtain ⟨h1, h2, h3, h4, h5⟩ := h
  exact ⟨(g.1 _ (by omega)).trans h1, (g.2 _ _ (by omega)).1.trans h2, (g.2 _ _ (by omega)).1.trans h3, (g.1 _ (by omega)).trans h4, (g.1 _ (by omega)).trans h5⟩
theorem dX0_init_0 : decode cX0_init 0 = .ok (.aload_n 0, 1) := by decide +kernel
theorem dX0_init_1 : decode cX0_init 1 = .ok (.invokespecial 1, 3) := by decide +kernel
theorem dX0_init_4 : decode cX0_init 4 = .ok (.aload_n 0, 1) := by decide +kernel
theorem dX0_init_5 : decode cX0_init 5 = .ok (.lconst 1, 1) := by decide +kernel
theorem dX0_init_6 : decode cX0_init 6 = .ok (.putfield 7, 3) := by decide +kernel
theorem dX0_init_9 : decode cX0_init 9 = .ok (.return_, 1) := by decide +kernel
set_option maxHeartbeats 1000000 in
set_option maxRecDepth 100000 in
/-- Fraction.<init> -/
theorem c_X0_init {l : Launch} {G : tm_G} {Hb : Heap} {sh : tm_sh} {M : tm_M} {q : Nat} (hq : sh q = some (2, 0)) : Met l yX0_init (tws yX0_init cX0_init 1 none) ({ frames := 1, cells := 0, slots := 0, locals := 20 }) (va_Pc [.ref q] (tz_St G Hb sh M (q + 1))) (tz_Qv G Hb (fun sh1 M1 h1 => sh1 = sh ∧ mR M1 = mR M ∧ gq q sh M sh1 M1 ∧ h1 = q + 1)) 0 0 (tm_A Hb) := by
  refine tz_begin (by decide) (Nat.le_of_ble_eq_true rfl) (fun p e s m below meth c ls hx hb hr hml hown htw hlk hnm hK hW hC hh hl => ?_)
  have hS : va_S (tm_A Hb) s.heap s.heap [] := va_S.rf
  have hl : lv_has ls 1 [(0, .ref q)] := hl
  refine lv_aload_n hx hb dX0_init_0 rfl (lv_at hl 0 rfl) ?_
  refine tm_oi hx hb hml hl.1 hown htw oi_X0_1 ⟨Nat.le_of_ble_eq_true rfl, Nat.le_of_ble_eq_true rfl⟩ (Nat.le_of_ble_eq_true rfl) dX0_init_1 ?_
  refine lv_aload_n hx hb dX0_init_4 rfl (lv_at hl 0 rfl) ?_
  refine ti_lconst1 hx hb dX0_init_5 ?_
  refine pz_X0_7 hx hb htw hown hK hW (by assumption) hS dX0_init_6 (fun H locs hW hS hz => ?_)
  replace hh := hz.trans hh
  exact W.widen (k := 0) (n := 0) (by first | omega | (dsimp only; omega)) (by first | omega | (dsimp only; omega)) (tz_vret hx hb hr hlk hK hW hS hh ⟨rfl, rfl, gq_sL (Nat.le_refl q), rfl⟩ dX0_init_9)
theorem dX5_init_0 : decode cX5_init 0 = .ok (.aload_n 0, 1) := by decide +kernel
theorem dX5_init_1 : decode cX5_init 1 = .ok (.invokespecial 1, 3) := by decide +kernel
theorem dX5_init_4 : decode cX5_init 4 = .ok (.aload_n 0, 1) := by decide +kernel
theorem dX5_init_5 : decode cX5_init 5 = .ok (.new 7, 3) := by decide +kernel
theorem dX5_init_8 : decode cX5_init 8 = .ok (.dup, 1) := by decide +kernel
theorem dX5_init_9 : decode cX5_init 9 = .ok (.invokespecial 9, 3) := by decide +kernel
theorem dX5_init_12 : decode cX5_init 12 = .ok (.putfield 10, 3) := by decide +kernel
theorem dX5_init_15 : decode cX5_init 15 = .ok (.aload_n 0, 1) := by decide +kernel
theorem dX5_init_16 : decode cX5_init 16 = .ok (.new 7, 3) := by decide +kernel
theorem dX5_init_19 : decode cX5_init 19 = .ok (.dup, 1) := by decide +kernel
theorem dX5_init_20 : decode cX5_init 20 = .ok (.invokespecial 9, 3) := by decide +kernel
theorem dX5_init_23 : decode cX5_init 23 = .ok (.putfield 16, 3) := by decide +kernel
theorem dX5_init_26 : decode cX5_init 26 = .ok (.return_, 1) := by decide +kernel
set_option maxHeartbeats 1000000 in
set_option maxRecDepth 100000 in
/-- Side.<init> -/
theorem c_X5_init {l : Launch} {G : tm_G} {Hb : Heap} {sh : tm_sh} {M : tm_M} {q : Nat} (hq : sh q = some (6, 0)) : Met l yX5_init (tws yX5_init cX5_init 1 none) ({ frames := 2, cells := 2, slots := 4, locals := 40 }) (va_Pc [.ref q] (tz_St G Hb sh M (q + 1))) (tz_Qv G Hb (fun sh1 M1 h1 => isSd sh1 M1 q ∧ gq q sh M sh1 M1 ∧ h1 = q + 3)) 2 4 (tm_A Hb) := by
  refine tz_begin (by decide) (Nat.le_of_ble_eq_true rfl) (fun p e s m below meth c ls hx hb hr hml hown htw hlk hnm hK hW hC hh hl => ?_)
  have hS : va_S (tm_A Hb) s.heap s.heap [] := va_S.rf
  have hl : lv_has ls 1 [(0, .ref q)] := hl
  refine lv_aload_n hx hb dX5_init_0 rfl (lv_at hl 0 rfl) ?_
  refine tm_oi hx hb hml hl.1 hown htw oi_X5_1 ⟨Nat.le_of_ble_eq_true rfl, Nat.le_of_ble_eq_true rfl⟩ (Nat.le_of_ble_eq_true rfl) dX5_init_1 ?_
  refine lv_aload_n hx hb dX5_init_4 rfl (lv_at hl 0 rfl) ?_
  refine nw_X5_7 hx hb htw hown hK hW hS hh (by first | omega | (dsimp only; omega)) (by first | omega | (dsimp only; omega)) dX5_init_5 (fun H hW hS hh => ?_)
  refine lv_dup hx hb dX5_init_8 rfl ?_
  refine tz_callv (ci_X5_9 hx hb hml hown htw hK hW hC hS hh (c_X0_init (q := q + 1) sN_s) ⟨rfl, rfl, Nat.le_of_ble_eq_true rfl, Nat.le_of_ble_eq_true rfl⟩ hl.1 (Nat.le_of_ble_eq_true rfl) dX5_init_9 ⟨(by first | omega | (dsimp only; omega)), (by first | omega | (dsimp only; omega))⟩) hS (fun sh9 M9 h9 H locs hp9 hW hS hh => ?_)
  obtain ⟨e9, r9, g9, z9⟩ := hp9
  subst e9
  subst z9
  have q9 : sN sh (q + 1) 2 0 q = some (6, 0) := (sN_n (by omega)).trans hq
  refine pz_X5_10 hx hb htw hown hK hW q9 hS hnm dX5_init_12 (fun H locs hW hS hz => ?_)
  replace hh := hz.trans hh
  refine lv_aload_n hx hb dX5_init_15 rfl (lv_at hl 0 rfl) ?_
  refine nw_X5_7 hx hb htw hown hK hW hS hh (by first | omega | (dsimp only; omega)) (by first | omega | (dsimp only; omega)) dX5_init_16 (fun H hW hS hh => ?_)
  refine lv_dup hx hb dX5_init_19 rfl ?_
  refine tz_callv (ci_X5_9 hx hb hml hown htw hK hW hC hS hh (c_X0_init (q := q + 1 + 1) sN_s) ⟨rfl, rfl, Nat.le_of_ble_eq_true rfl, Nat.le_of_ble_eq_true rfl⟩ hl.1 (Nat.le_of_ble_eq_true rfl) dX5_init_20 ⟨(by first | omega | (dsimp only; omega)), (by first | omega | (dsimp only; omega))⟩) hS (fun sh20 M20 h20 H locs hp20 hW hS hh => ?_)
  obtain ⟨e20, r20, g20, z20⟩ := hp20
  subst e20
  subst z20
  have q20 : sN (sN sh (q + 1) 2 0) (q + 1 + 1) 2 0 q = some (6, 0) := (sN_n (by omega)).trans q9
  refine pz_X5_16 hx hb htw hown hK hW q20 hS hnm dX5_init_23 (fun H locs hW hS hz => ?_)
  replace hh := hz.trans hh
  exact W.widen (k := 2) (n := 4) (by first | omega | (dsimp only; omega)) (by first | omega | (dsimp only; omega)) (tz_vret hx hb hr hlk hK hW hS hh ⟨⟨q20, ((sN_n (by omega)).trans sN_s), sN_s, ((tm_up_k _ _ (by decide)).trans ((congrFun (congrFun r20 q) 0).trans ((zM_R (by omega) _).trans (tm_up_s _ _ _ _)))), tm_up_s _ _ _ _⟩, (gq_tr (gq_tr (gq_tr (gq_tr (gq_tr (gq_new (by omega)) (gq_le g9 (by omega))) (gq_sR (Nat.le_refl q))) (gq_new (by omega))) (gq_le g20 (by omega))) (gq_sR (Nat.le_refl q))), rfl⟩ dX5_init_26)
theorem dX7_init_0 : decode cX7_init 0 = .ok (.aload_n 0, 1) := by decide +kernel
theorem dX7_init_1 : decode cX7_init 1 = .ok (.invokespecial 1, 3) := by decide +kernel
theorem dX7_init_4 : decode cX7_init 4 = .ok (.aload_n 0, 1) := by decide +kernel
theorem dX7_init_5 : decode cX7_init 5 = .ok (.new 7, 3) := by decide +kernel
theorem dX7_init_8 : decode cX7_init 8 = .ok (.dup, 1) := by decide +kernel
theorem dX7_init_9 : decode cX7_init 9 = .ok (.invokespecial 9, 3) := by decide +kernel
theorem dX7_init_12 : decode cX7_init 12 = .ok (.putfield 10, 3) := by decide +kernel
theorem dX7_init_15 : decode cX7_init 15 = .ok (.aload_n 0, 1) := by decide +kernel
theorem dX7_init_16 : decode cX7_init 16 = .ok (.new 7, 3) := by decide +kernel
theorem dX7_init_19 : decode cX7_init 19 = .ok (.dup, 1) := by decide +kernel
theorem dX7_init_20 : decode cX7_init 20 = .ok (.invokespecial 9, 3) := by decide +kernel
theorem dX7_init_23 : decode cX7_init 23 = .ok (.putfield 16, 3) := by decide +kernel
theorem dX7_init_26 : decode cX7_init 26 = .ok (.return_, 1) := by decide +kernel
set_option maxHeartbeats 1000000 in
set_option maxRecDepth 100000 in
/-- SolutionSet.<init> -/
theorem c_X7_init {l : Launch} {G : tm_G} {Hb : Heap} {sh : tm_sh} {M : tm_M} {q : Nat} (hq : sh q = some (7, 0)) : Met l yX7_init (tws yX7_init cX7_init 1 none) ({ frames := 2, cells := 2, slots := 4, locals := 40 }) (va_Pc [.ref q] (tz_St G Hb sh M (q + 1))) (tz_Qv G Hb (fun sh1 M1 h1 => isSo sh1 M1 q ∧ gq q sh M sh1 M1 ∧ h1 = q + 3)) 2 4 (tm_A Hb) := by
  refine tz_begin (by decide) (Nat.le_of_ble_eq_true rfl) (fun p e s m below meth c ls hx hb hr hml hown htw hlk hnm hK hW hC hh hl => ?_)
  have hS : va_S (tm_A Hb) s.heap s.heap [] := va_S.rf
  have hl : lv_has ls 1 [(0, .ref q)] := hl
  refine lv_aload_n hx hb dX7_init_0 rfl (lv_at hl 0 rfl) ?_
  refine tm_oi hx hb hml hl.1 hown htw oi_X7_1 ⟨Nat.le_of_ble_eq_true rfl, Nat.le_of_ble_eq_true rfl⟩ (Nat.le_of_ble_eq_true rfl) dX7_init_1 ?_
  refine lv_aload_n hx hb dX7_init_4 rfl (lv_at hl 0 rfl) ?_
  refine nw_X7_7 hx hb htw hown hK hW hS hh (by first | omega | (dsimp only; omega)) (by first | omega | (dsimp only; omega)) dX7_init_5 (fun H hW hS hh => ?_)
  refine lv_dup hx hb dX7_init_8 rfl ?_
  refine tz_callv (ci_X7_9 hx hb hml hown htw hK hW hC hS hh (c_X0_init (q := q + 1) sN_s) ⟨rfl, rfl, Nat.le_of_ble_eq_true rfl, Nat.le_of_ble_eq_true rfl⟩ hl.1 (Nat.le_of_ble_eq_true rfl) dX7_init_9 ⟨(by first | omega | (dsimp only; omega)), (by first | omega | (dsimp only; omega))⟩) hS (fun sh9 M9 h9 H locs hp9 hW hS hh => ?_)
  obtain ⟨e9, r9, g9, z9⟩ := hp9
  subst e9
  subst z9
  have q9 : sN sh (q + 1) 2 0 q = some (7, 0) := (sN_n (by omega)).trans hq
  refine pz_X7_10 hx hb htw hown hK hW q9 hS hnm dX7_init_12 (fun H locs hW hS hz => ?_)
  replace hh := hz.trans hh
  refine lv_aload_n hx hb dX7_init_15 rfl (lv_at hl 0 rfl) ?_
  refine nw_X7_7 hx hb htw hown hK hW hS hh (by first | omega | (dsimp only; omega)) (by first | omega | (dsimp only; omega)) dX7_init_16 (fun H hW hS hh => ?_)
  refine lv_dup hx hb dX7_init_19 rfl ?_
  refine tz_callv (ci_X7_9 hx hb hml hown htw hK hW hC hS hh (c_X0_init (q := q + 1 + 1) sN_s) ⟨rfl, rfl, Nat.le_of_ble_eq_true rfl, Nat.le_of_ble_eq_true rfl⟩ hl.1 (Nat.le_of_ble_eq_true rfl) dX7_init_20 ⟨(by first | omega | (dsimp only; omega)), (by first | omega | (dsimp only; omega))⟩) hS (fun sh20 M20 h20 H locs hp20 hW hS hh => ?_)
  obtain ⟨e20, r20, g20, z20⟩ := hp20
  subst e20
  subst z20
  have q20 : sN (sN sh (q + 1) 2 0) (q + 1 + 1) 2 0 q = some (7, 0) := (sN_n (by omega)).trans q9
  refine pz_X7_16 hx hb htw hown hK hW q20 hS hnm dX7_init_23 (fun H locs hW hS hz => ?_)
  replace hh := hz.trans hh
  exact W.widen (k := 2) (n := 4) (by first | omega | (dsimp only; omega)) (by first | omega | (dsimp only; omega)) (tz_vret hx hb hr hlk hK hW hS hh ⟨⟨q20, ((tm_up_k _ _ (by decide)).trans ((congrFun (congrFun r20 q) 1).trans ((zM_R (by omega) _).trans (tm_up_s _ _ _ _)))), tm_up_s _ _ _ _, ((sN_n (by omega)).trans sN_s), sN_s⟩, (gq_tr (gq_tr (gq_tr (gq_tr (gq_tr (gq_new (by omega)) (gq_le g9 (by omega))) (gq_sR (Nat.le_refl q))) (gq_new (by omega))) (gq_le g20 (by omega))) (gq_sR (Nat.le_refl q))), rfl⟩ dX7_init_26)
theorem isSd_s {x a k : Nat} {v : Option Nat} {sh : tm_sh} {M : tm_M} (h : isSd sh M x) (ha : a < x) : isSd sh (sR M a k v) x := by
  obtain ⟨h1, h2, h3, h4, h5⟩ := h
  exact ⟨h1, h2, h3, (tm_up_a _ _ (by omega)).trans h4, (tm_up_a _ _ (by omega)).trans h5⟩
theorem dX1_init_0 : decode cX1_init 0 = .ok (.aload_n 0, 1) := by decide +kernel
theorem dX1_init_1 : decode cX1_init 1 = .ok (.invokespecial 1, 3) := by decide +kernel
theorem dX1_init_4 : decode cX1_init 4 = .ok (.aload_n 0, 1) := by decide +kernel
theorem dX1_init_5 : decode cX1_init 5 = .ok (.new 7, 3) := by decide +kernel
theorem dX1_init_8 : decode cX1_init 8 = .ok (.dup, 1) := by decide +kernel
theorem dX1_init_9 : decode cX1_init 9 = .ok (.invokespecial 9, 3) := by decide +kernel
theorem dX1_init_12 : decode cX1_init 12 = .ok (.putfield 10, 3) := by decide +kernel
theorem dX1_init_15 : decode cX1_init 15 = .ok (.aload_n 0, 1) := by decide +kernel
theorem dX1_init_16 : decode cX1_init 16 = .ok (.new 7, 3) := by decide +kernel
theorem dX1_init_19 : decode cX1_init 19 = .ok (.dup, 1) := by decide +kernel
theorem dX1_init_20 : decode cX1_init 20 = .ok (.invokespecial 9, 3) := by decide +kernel
theorem dX1_init_23 : decode cX1_init 23 = .ok (.putfield 16, 3) := by decide +kernel
theorem dX1_init_26 : decode cX1_init 26 = .ok (.return_, 1) := by decide +kernel
set_option maxHeartbeats 1000000 in
set_option maxRecDepth 100000 in
/-- Line.<init> -/
theorem c_X1_init {l : Launch} {G : tm_G} {Hb : Heap} {sh : tm_sh} {M : tm_M} {q : Nat} (hq : sh q = some (3, 0)) : Met l yX1_init (tws yX1_init cX1_init 1 none) ({ frames := 3, cells := 6, slots := 12, locals := 60 }) (va_Pc [.ref q] (tz_St G Hb sh M (q + 1))) (tz_Qv G Hb (fun sh1 M1 h1 => isLn sh1 M1 q ∧ gq q sh M sh1 M1 ∧ h1 = q + 7)) 6 12 (tm_A Hb) := by
  refine tz_begin (by decide) (Nat.le_of_ble_eq_true rfl) (fun p e s m below meth c ls hx hb hr hml hown htw hlk hnm hK hW hC hh hl => ?_)
  have hS : va_S (tm_A Hb) s.heap s.heap [] := va_S.rf
  have hl : lv_has ls 1 [(0, .ref q)] := hl
  refine lv_aload_n hx hb dX1_init_0 rfl (lv_at hl 0 rfl) ?_
  refine tm_oi hx hb hml hl.1 hown htw oi_X1_1 ⟨Nat.le_of_ble_eq_true rfl, Nat.le_of_ble_eq_true rfl⟩ (Nat.le_of_ble_eq_true rfl) dX1_init_1 ?_
  refine lv_aload_n hx hb dX1_init_4 rfl (lv_at hl 0 rfl) ?_
  refine nw_X1_7 hx hb htw hown hK hW hS hh (by first | omega | (dsimp only; omega)) (by first | omega | (dsimp only; omega)) dX1_init_5 (fun H hW hS hh => ?_)
  refine lv_dup hx hb dX1_init_8 rfl ?_
  refine tz_callv (ci_X1_9 hx hb hml hown htw hK hW hC hS hh (c_X5_init (q := q + 1) sN_s) ⟨rfl, rfl, Nat.le_of_ble_eq_true rfl, Nat.le_of_ble_eq_true rfl⟩ hl.1 (Nat.le_of_ble_eq_true rfl) dX1_init_9 ⟨(by first | omega | (dsimp only; omega)), (by first | omega | (dsimp only; omega))⟩) hS (fun sh9 M9 h9 H locs hp9 hW hS hh => ?_)
  obtain ⟨s9, g9, z9⟩ := hp9
  subst z9
  have G9 := gq_tr (gq_new (q := q + 1) (x := q + 1) (kd := 6) (N := 0) (sh := sh) (M := M) (Nat.le_refl _)) g9
  have q9 : sh9 q = some (3, 0) := (G9.1 q (by omega)).trans hq
  refine pz_X1_10 hx hb htw hown hK hW q9 hS hnm dX1_init_12 (fun H locs hW hS hz => ?_)
  replace hh := hz.trans hh
  refine lv_aload_n hx hb dX1_init_15 rfl (lv_at hl 0 rfl) ?_
  refine nw_X1_7 hx hb htw hown hK hW hS hh (by first | omega | (dsimp only; omega)) (by first | omega | (dsimp only; omega)) dX1_init_16 (fun H hW hS hh => ?_)
  refine lv_dup hx hb dX1_init_19 rfl ?_
  refine tz_callv (ci_X1_9 hx hb hml hown htw hK hW hC hS hh (c_X5_init (q := q + 4) sN_s) ⟨rfl, rfl, Nat.le_of_ble_eq_true rfl, Nat.le_of_ble_eq_true rfl⟩ hl.1 (Nat.le_of_ble_eq_true rfl) dX1_init_20 ⟨(by first | omega | (dsimp only; omega)), (by first | omega | (dsimp only; omega))⟩) hS (fun sh20 M20 h20 H locs hp20 hW hS hh => ?_)
  obtain ⟨s20, g20, z20⟩ := hp20
  subst z20
  have G20 := gq_tr (gq_new (q := q + 4) (x := q + 4) (kd := 6) (N := 0) (sh := sh9) (M := sR M9 q 0 (some (q + 1))) (Nat.le_refl _)) g20
  have q20 : sh20 q = some (3, 0) := (G20.1 q (by omega)).trans q9
  refine pz_X1_16 hx hb htw hown hK hW q20 hS hnm dX1_init_23 (fun H locs hW hS hz => ?_)
  replace hh := hz.trans hh
  exact W.widen (k := 6) (n := 12) (by first | omega | (dsimp only; omega)) (by first | omega | (dsimp only; omega)) (tz_vret hx hb hr hlk hK hW hS hh ⟨⟨q20, (tm_up_k _ _ (by decide)).trans ((G20.2 q 0 (by omega)).1.trans (tm_up_s _ _ _ _)), tm_up_s _ _ _ _, isSd_s (isSd_g (isSd_s s9 (by omega)) G20 (by omega)) (by omega), isSd_s s20 (by omega)⟩, gq_tr (gq_tr (gq_tr (gq_le G9 (by omega)) (gq_sR (Nat.le_refl q))) (gq_le G20 (by omega))) (gq_sR (Nat.le_refl q)), rfl⟩ dX1_init_26)
