/-! what holds of both machines between two calls of the law -/
theorem isSd_mv {sh sh1 : tm_sh} {M M1 : tm_M} {q : Nat} (h : isSd sh M q) (e : ∀ a, q ≤ a → a < q + 3 → sh1 a = sh a ∧ ∀ k, mR M1 a k = mR M a k) : isSd sh1 M1 q := by
  obtain ⟨a1, a2, a3, a4, a5⟩ := h
  exact ⟨(e q (by omega) (by omega)).1.trans a1, (e (q + 1) (by omega) (by omega)).1.trans a2, (e (q + 2) (by omega) (by omega)).1.trans a3, ((e q (by omega) (by omega)).2 0).trans a4, ((e q (by omega) (by omega)).2 1).trans a5⟩
theorem isLn_mv {sh sh1 : tm_sh} {M M1 : tm_M} {q : Nat} (h : isLn sh M q) (e : ∀ a, q ≤ a → a < q + 7 → sh1 a = sh a ∧ ∀ k, mR M1 a k = mR M a k) : isLn sh1 M1 q := by
  obtain ⟨a1, a2, a3, a4, a5⟩ := h
  exact ⟨(e q (by omega) (by omega)).1.trans a1, ((e q (by omega) (by omega)).2 0).trans a2, ((e q (by omega) (by omega)).2 1).trans a3, isSd_mv a4 (fun a h1 h2 => e a (by omega) (by omega)), isSd_mv a5 (fun a h1 h2 => e a (by omega) (by omega))⟩
theorem isSo_mv {sh sh1 : tm_sh} {M M1 : tm_M} {q : Nat} (h : isSo sh M q) (e : ∀ a, q ≤ a → a < q + 3 → sh1 a = sh a ∧ ∀ k, mR M1 a k = mR M a k) : isSo sh1 M1 q := by
  obtain ⟨a1, a2, a3, a4, a5⟩ := h
  exact ⟨(e q (by omega) (by omega)).1.trans a1, ((e q (by omega) (by omega)).2 1).trans a2, ((e q (by omega) (by omega)).2 2).trans a3, (e (q + 1) (by omega) (by omega)).1.trans a4, (e (q + 2) (by omega) (by omega)).1.trans a5⟩
theorem isRd_mv {sh sh1 : tm_sh} {M M1 : tm_M} {q t : Nat} (h : isRd sh M q t) (ht : sh1 t = sh t) (e : ∀ a, q ≤ a → a < q + 86 → sh1 a = sh a ∧ ∀ k, mR M1 a k = mR M a k) : isRd sh1 M1 q t := by
  obtain ⟨a1, a2, a3, ⟨b1, b2, b3⟩, ⟨c1, c2, c3⟩, d⟩ := h
  refine ⟨(e q (by omega) (by omega)).1.trans a1, ((e q (by omega) (by omega)).2 0).trans a2, ht.trans a3, ⟨((e q (by omega) (by omega)).2 5).trans b1, ((e q (by omega) (by omega)).2 6).trans b2, ((e q (by omega) (by omega)).2 7).trans b3⟩, ⟨(e (q + 2) (by omega) (by omega)).1.trans c1, (e (q + 3) (by omega) (by omega)).1.trans c2, (e (q + 4) (by omega) (by omega)).1.trans c3⟩, fun i hi => ?_⟩
  obtain ⟨⟨d1, d2, d3⟩, d4, d5, d6⟩ := d i hi
  exact ⟨⟨((e (q + 2) (by omega) (by omega)).2 i).trans d1, ((e (q + 3) (by omega) (by omega)).2 i).trans d2, ((e (q + 4) (by omega) (by omega)).2 i).trans d3⟩, isSd_mv d4 (fun a h1 h2 => e a (by omega) (by omega)), isSd_mv d5 (fun a h1 h2 => e a (by omega) (by omega)), isSd_mv d6 (fun a h1 h2 => e a (by omega) (by omega))⟩
theorem isTL_mv {sh sh1 : tm_sh} {M M1 : tm_M} {T : Nat} (h : isTL sh M T) (e : ∀ a, T ≤ a → a < T + 395 → a ≠ T + 391 → a ≠ T + 392 → sh1 a = sh a ∧ ∀ k, mR M1 a k = mR M a k) : isTL sh1 M1 T := by
  obtain ⟨a1, ⟨b1, b2, b3, b4, b5, b6, b7, b8, b9, b10, b11⟩, ⟨c1, c2, c3, c4, c5, c6, c7⟩, d, f, g1, g2, g3, g4⟩ := h
  have eT := e T (by omega) (by omega) (by omega) (by omega)
  have es : ∀ k, k < 391 ∨ k = 393 ∨ k = 394 → sh1 (T + k) = sh (T + k) := fun k hk => (e (T + k) (by omega) (by omega) (by omega) (by omega)).1
  refine ⟨eT.1.trans a1, ⟨(eT.2 0).trans b1, (eT.2 1).trans b2, (eT.2 2).trans b3, (eT.2 4).trans b4, (eT.2 5).trans b5, (eT.2 6).trans b6, (eT.2 7).trans b7, (eT.2 10).trans b8, (eT.2 11).trans b9, (eT.2 12).trans b10, (eT.2 13).trans b11⟩, ⟨(es 1 (by omega)).trans c1, (es 2 (by omega)).trans c2, (es 88 (by omega)).trans c3, (es 389 (by omega)).trans c4, (es 390 (by omega)).trans c5, (es 393 (by omega)).trans c6, (es 394 (by omega)).trans c7⟩, isRd_mv d (es 1 (by omega)) (fun a h1 h2 => ⟨(e a (by omega) (by omega) (by omega) (by omega)).1, fun k => ?_⟩), fun i hi => ⟨((e (T + 88) (by omega) (by omega) (by omega) (by omega)).2 i).trans (f i hi).1, isLn_mv (f i hi).2 (fun a h1 h2 => e a (by omega) (by omega) (by omega) (by omega))⟩, isLn_mv g1 (fun a h1 h2 => e a (by omega) (by omega) (by omega) (by omega)), isLn_mv g2 (fun a h1 h2 => e a (by omega) (by omega) (by omega) (by omega)), isSo_mv g3 (fun a h1 h2 => e a (by omega) (by omega) (by omega) (by omega)), isSo_mv g4 (fun a h1 h2 => e a (by omega) (by omega) (by omega) (by omega))⟩
  show tm_up (mR M1) (T + 2) 0 (some (T + 1)) a k = tm_up (mR M) (T + 2) 0 (some (T + 1)) a k
  unfold tm_up
  rw [(e a (by omega) (by omega) (by omega) (by omega)).2 k]
theorem isSB_mv {sh sh1 : tm_sh} {M M1 : tm_M} {q V cap : Nat} {pr : List Int} (h : isSB sh M q V cap pr) (e : ∀ a, a = q ∨ a = V → sh1 a = sh a ∧ ∀ k, mR M1 a k = mR M a k ∧ mI M1 a k = mI M a k) : isSB sh1 M1 q V cap pr := by
  obtain ⟨a1, a2, a3, a4, a5, a6, a7, a8, a9⟩ := h
  have eq := e q (Or.inl rfl)
  have ev := e V (Or.inr rfl)
  exact ⟨eq.1.trans a1, ((eq.2 0).1).trans a2, ev.1.trans a3, ((eq.2 1).2).trans a4, ((eq.2 3).2).trans a5, a6, a7, fun j hj => ((ev.2 j).2).trans (a8 j hj), fun j => by rw [(ev.2 j).2]; exact a9 j⟩
theorem isMo_mv {sh sh1 : tm_sh} {M M1 : tm_M} {o : Nat} (h : isMo sh M o) (e : ∀ a, o ≤ a → a < o + 13 → sh1 a = sh a ∧ ∀ k, mR M1 a k = mR M a k) : isMo sh1 M1 o := by
  obtain ⟨a1, ⟨b1, b2, b3, b4, b5, b6, b7, b8, b9, b10, b11, b12⟩, c1, c2, c3, c4, c5, c6, c7, c8, c9, c10, c11, c12⟩ := h
  have eo := e o (by omega) (by omega)
  have es : ∀ k, k < 13 → sh1 (o + k) = sh (o + k) := fun k hk => (e (o + k) (by omega) (by omega)).1
  exact ⟨eo.1.trans a1, ⟨(eo.2 1).trans b1, (eo.2 2).trans b2, (eo.2 6).trans b3, (eo.2 7).trans b4, (eo.2 9).trans b5, (eo.2 12).trans b6, (eo.2 13).trans b7, (eo.2 14).trans b8, (eo.2 15).trans b9, (eo.2 16).trans b10, (eo.2 17).trans b11, (eo.2 24).trans b12⟩, (es 1 (by omega)).trans c1, (es 2 (by omega)).trans c2, (es 3 (by omega)).trans c3, (es 4 (by omega)).trans c4, (es 5 (by omega)).trans c5, (es 6 (by omega)).trans c6, (es 7 (by omega)).trans c7, (es 8 (by omega)).trans c8, (es 9 (by omega)).trans c9, (es 10 (by omega)).trans c10, (es 11 (by omega)).trans c11, (es 12 (by omega)).trans c12⟩
theorem MLv_mv {sh sh1 : tm_sh} {M M1 : tm_M} {o : Nat} {z : tl_Z} (h : MLv sh M o z) (e : ∀ a, o ≤ a → a < o + 13 → sh1 a = sh a ∧ ∀ k, mR M1 a k = mR M a k ∧ mI M1 a k = mI M a k ∧ mL M1 a k = mL M a k) : MLv sh1 M1 o z := by
  have eI : ∀ j k, j < 13 → mI M1 (o + j) k = mI M (o + j) k := fun j k hj => ((e (o + j) (by omega) (by omega)).2 k).2.1
  have e0 : ∀ k, mI M1 o k = mI M o k := fun k => ((e o (by omega) (by omega)).2 k).2.1
  have eL : ∀ k, mL M1 (o + 2) k = mL M (o + 2) k := fun k => ((e (o + 2) (by omega) (by omega)).2 k).2.2
  have er : ∀ i, rl M1 o i = rl M o i := fun i => by unfold rl rf; simp only [eL]
  obtain ⟨h1, h2, h3, h4, h5, h6, h7, h8, h9, h10⟩ := h
  exact ⟨isMo_mv h1 (fun a q1 q2 => ⟨(e a q1 q2).1, fun k => ((e a q1 q2).2 k).1⟩), fun j => (eI 1 j (by omega)).trans (h2 j), (e0 3).trans h3, fun i hi => (er i).trans (h4 i hi), (e0 4).trans h5, fun q => ⟨(e0 5).trans (h6 q).1, (er 41).trans (h6 q).2⟩, fun k q1 q2 => (eI 4 k (by omega)).trans (h7 k q1 q2), (eI 3 1 (by omega)).trans h8, (eI 3 2 (by omega)).trans h9, (eI 3 3 (by omega)).trans h10⟩
theorem MO_mv {M M1 : tm_M} {o : Nat} {pr : List Int} (h : MO M o pr) (e : ∀ k, mI M1 o 8 = mI M o 8 ∧ mI M1 (o + 5) k = mI M (o + 5) k) : MO M1 o pr := ⟨(e 0).1.trans h.1, fun j hj => (e j).2.trans (h.2 j hj)⟩
/-- the program's object at T with zx and px, the model's at T + 395 with zm and pm, the long of the answers at T + 408 -/
def LJ (sh : tm_sh) (M : tm_M) (T : Nat) (zx : tl_Z) (px : List Int) (zm : tl_Z) (pm : List Int) : Prop := isTL sh M T ∧ TLv M T zx ∧ mR M (T + 390) 0 = some (T + 391) ∧ (∃ V cap, isSB sh M (T + 391) V cap px ∧ (V = T + 392 ∨ T + 408 < V)) ∧ MLv sh M (T + 395) zm ∧ MO M (T + 395) pm ∧ sh (T + 408) = some (21, 1)
theorem LJ_x {sh : tm_sh} {M M1 : tm_M} {T : Nat} {zx z1 zm : tl_Z} {px pm : List Int} (h : LJ sh M T zx px zm pm) (g : TLp sh T M z1 M1) : LJ sh M1 T z1 px zm pm := by
  obtain ⟨h1, h2, h3, ⟨V, cap, h4, h5⟩, h6, h7, h8⟩ := h
  obtain ⟨g1, g2, g3⟩ := g
  exact ⟨g1, g2, (g3 _ _ (by omega)).1.trans h3, ⟨V, cap, isSB_mv h4 (fun a q => ⟨rfl, fun k => ⟨(g3 a k (by omega)).1, (g3 a k (by omega)).2.1⟩⟩), h5⟩, MLv_mv h6 (fun a q1 q2 => ⟨rfl, fun k => g3 a k (by omega)⟩), MO_mv h7 (fun k => ⟨(g3 _ _ (by omega)).2.1, (g3 _ _ (by omega)).2.1⟩), h8⟩
theorem LJ_fq {sh : tm_sh} {M M1 : tm_M} {T : Nat} {zx z1 zm : tl_Z} {px pm p1 : List Int} (h : LJ sh M T zx px zm pm) (e : mR M1 = mR M) (g : ∀ a k, a < T + 395 ∨ T + 408 < a → mI M1 a k = mI M a k ∧ mL M1 a k = mL M a k) (g1 : MLv sh M1 (T + 395) z1) (g2 : MO M1 (T + 395) p1) : LJ sh M1 T zx px z1 p1 := by
  obtain ⟨h1, h2, h3, ⟨V, cap, h4, h5⟩, h6, h7, h8⟩ := h
  exact ⟨isTL_m h1 e, TLv_same h2 (fun a k q => g a k (by omega)), by rw [e]; exact h3, ⟨V, cap, isSB_mv h4 (fun a q => ⟨rfl, fun k => ⟨by rw [e], (g a k (by omega)).1⟩⟩), h5⟩, g1, g2, h8⟩
theorem LJ_u {sh : tm_sh} {M : tm_M} {T k : Nat} {v : Int} {zx zm : tl_Z} {px pm : List Int} (h : LJ sh M T zx px zm pm) : LJ sh (sL M (T + 408) k v) T zx px zm pm := by
  have e : ∀ a j, a ≠ T + 408 → mL (sL M (T + 408) k v) a j = mL M a j := fun a j q => tm_up_a _ _ q
  exact LJ_fq h rfl (fun a j q => ⟨rfl, e a j (by omega)⟩) (MLv_mv h.2.2.2.2.1 (fun a q1 q2 => ⟨rfl, fun j => ⟨rfl, rfl, e a j (by omega)⟩⟩)) (MO_mv h.2.2.2.2.2.1 (fun j => ⟨rfl, rfl⟩))
theorem LJ_m {sh : tm_sh} {M M1 : tm_M} {T : Nat} {zx z1 zm : tl_Z} {px pm : List Int} (h : LJ sh M T zx px zm pm) (g : MLp sh (T + 395) M z1 M1) : LJ sh M1 T zx px z1 pm :=
  LJ_fq h g.2.1 (fun a k q => g.2.2 a k (by unfold mY; omega)) g.1 (MO_mv h.2.2.2.2.2.1 (fun k => ⟨(g.2.2 _ _ (by unfold mY; omega)).1, (g.2.2 _ _ (by unfold mY; omega)).1⟩))
theorem LJ_mp {sh : tm_sh} {M M1 : tm_M} {T : Nat} {zx z1 zm : tl_Z} {px pm p1 : List Int} (h : LJ sh M T zx px zm pm) (g1 : MLv sh M1 (T + 395) z1) (g2 : MO M1 (T + 395) p1) (g : fq (mZ (T + 395)) M M1) : LJ sh M1 T zx px z1 p1 :=
  LJ_fq h g.1 (fun a k q => g.2 a k (by unfold mZ; omega)) g1 g2
theorem LJ_p {sh sh1 : tm_sh} {M M1 : tm_M} {T V h0 h1 n : Nat} {zx zm : tl_Z} {px p1 pm : List Int} (h : LJ sh M T zx px zm pm) (hV : V = T + 392 ∨ T + 408 < V) (hh : T + 408 < h0) (g : SBx (T + 391) V h0 sh M p1 n sh1 M1 h1) : LJ sh1 M1 T zx p1 zm pm := by
  obtain ⟨h1, h2, h3, -, h6, h7, h8⟩ := h
  obtain ⟨V1, cap1, g1, -, g2, g3, g4, g5⟩ := g
  have e : ∀ a, a ≤ T + 408 → a ≠ T + 391 → a ≠ T + 392 → sh1 a = sh a ∧ ∀ k, mR M1 a k = mR M a k ∧ mI M1 a k = mI M a k ∧ mL M1 a k = mL M a k := fun a q1 q2 q3 => ⟨g4 a (by omega), fun k => g5 a k (by omega) q2 (by omega)⟩
  exact ⟨isTL_mv h1 (fun a q1 q2 q3 q4 => ⟨(e a (by omega) q3 q4).1, fun k => ((e a (by omega) q3 q4).2 k).1⟩), TLv_same h2 (fun a k q => ((e a (by omega) (by omega) (by omega)).2 k).2), ((e (T + 390) (by omega) (by omega) (by omega)).2 0).1.trans h3, ⟨V1, cap1, g1, by omega⟩, MLv_mv h6 (fun a q1 q2 => e a (by omega) (by omega) (by omega)), MO_mv h7 (fun k => ⟨((e (T + 395) (by omega) (by omega) (by omega)).2 8).2.1, ((e (T + 395 + 5) (by omega) (by omega) (by omega)).2 k).2.1⟩), (e (T + 408) (by omega) (by omega) (by omega)).1.trans h8⟩
