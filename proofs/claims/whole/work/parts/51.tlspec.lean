/-! TutorLines: its cells, the state that they mean, what each call does to that state -/
/-- the object at T: text T+1, reader T+2, lines T+88 (each seven cells from T+89 on), written T+369, scratch T+376, the two sets T+383, T+386, candidate T+389, paper T+390 (builder T+391), points T+393, answers T+394 -/
def isTL (sh : tm_sh) (M : tm_M) (T : Nat) : Prop := sh T = some (8, 0) ∧ (mR M T 0 = some (T + 1) ∧ mR M T 1 = some (T + 2) ∧ mR M T 2 = some (T + 88) ∧ mR M T 4 = some (T + 369) ∧ mR M T 5 = some (T + 376) ∧ mR M T 6 = some (T + 383) ∧ mR M T 7 = some (T + 386) ∧ mR M T 10 = some (T + 389) ∧ mR M T 11 = some (T + 390) ∧ mR M T 12 = some (T + 393) ∧ mR M T 13 = some (T + 394)) ∧ (sh (T + 1) = some (22, 80) ∧ sh (T + 2) = some (5, 0) ∧ sh (T + 88) = some (25, 40) ∧ sh (T + 389) = some (2, 0) ∧ sh (T + 390) = some (4, 0) ∧ sh (T + 393) = some (20, 4) ∧ sh (T + 394) = some (20, 3)) ∧ isRd sh (sR M (T + 2) 0 (some (T + 1))) (T + 2) (T + 1) ∧ (∀ i, i < 40 → mR M (T + 88) i = some (T + 89 + 7 * i) ∧ isLn sh M (T + 89 + 7 * i)) ∧ isLn sh M (T + 369) ∧ isLn sh M (T + 376) ∧ isSo sh M (T + 383) ∧ isSo sh M (T + 386)
theorem isSo_m {sh : tm_sh} {M M1 : tm_M} {q : Nat} (h : isSo sh M q) (e : mR M1 = mR M) : isSo sh M1 q := ⟨h.1, by rw [e]; exact h.2.1, by rw [e]; exact h.2.2.1, h.2.2.2.1, h.2.2.2.2⟩
theorem isTL_m {sh : tm_sh} {M M1 : tm_M} {T : Nat} (h : isTL sh M T) (e : mR M1 = mR M) : isTL sh M1 T := by
  obtain ⟨h1, h2, h3, h4, h5, h6, h7, h8, h9⟩ := h
  exact ⟨h1, by rw [e]; exact h2, h3, isRd_m h4 (by show tm_up (mR M1) (T + 2) 0 _ = tm_up (mR M) (T + 2) 0 _; rw [e]), fun i hi => ⟨by rw [e]; exact (h5 i hi).1, isLn_m (h5 i hi).2 e⟩, isLn_m h6 e, isLn_m h7 e, isSo_m h8 e, isSo_m h9 e⟩
theorem tm_up2 {α : Type} (f : Nat → Nat → α) (q k : Nat) (v w : α) : tm_up (tm_up f q k v) q k w = tm_up f q k w := by
  funext a b
  unfold tm_up
  split <;> rfl
theorem isSo_up {sh : tm_sh} {M M1 : tm_M} {q rd : Nat} {v : Option Nat} (h : isSo sh M q) (h0 : sh rd = some (5, 0)) (e : mR M1 = tm_up (mR M) rd 0 v) : isSo sh M1 q := by
  have n0 : q ≠ rd := fun z => by have := h.1; rw [z, h0] at this; cases this
  have e0 : ∀ b, mR M1 q b = mR M q b := fun b => by rw [e]; exact tm_up_a _ _ n0
  exact ⟨h.1, by rw [e0]; exact h.2.1, by rw [e0]; exact h.2.2.1, h.2.2.2.1, h.2.2.2.2⟩
theorem isTL_up {sh : tm_sh} {M M1 : tm_M} {T : Nat} {v : Option Nat} (h : isTL sh M T) (e : mR M1 = tm_up (mR M) (T + 2) 0 v) : isTL sh M1 T := by
  obtain ⟨h1, h2, h3, h4, h5, h6, h7, h8, h9⟩ := h
  have h0 := h3.2.1
  have e0 : ∀ b, mR M1 T b = mR M T b := fun b => by rw [e]; exact tm_up_a _ _ (by omega)
  have e1 : ∀ b, mR M1 (T + 88) b = mR M (T + 88) b := fun b => by rw [e]; exact tm_up_a _ _ (by omega)
  exact ⟨h1, by simp only [e0]; exact h2, h3, isRd_m h4 (by show tm_up (mR M1) (T + 2) 0 _ = tm_up (mR M) (T + 2) 0 _; rw [e, tm_up2]), fun i hi => ⟨by rw [e1]; exact (h5 i hi).1, isLn_up (h5 i hi).2 h0 e⟩, isLn_up h6 h0 e, isLn_up h7 h0 e, isSo_up h8 h0 e, isSo_up h9 h0 e⟩
/-- a state: text, how many lines, the lines, whether the latest step was refused, its slip, its line, points, answers -/
abbrev tl_Z : Type := (Nat → Int) × Nat × (Nat → tl_L) × Int × Int × tl_L × (Nat → Int) × (Nat → Int)
abbrev zt (z : tl_Z) : Nat → Int := z.1
abbrev zn (z : tl_Z) : Nat := z.2.1
abbrev zl (z : tl_Z) : Nat → tl_L := z.2.2.1
abbrev zr (z : tl_Z) : Int := z.2.2.2.1
abbrev zs (z : tl_Z) : Int := z.2.2.2.2.1
abbrev zw (z : tl_Z) : tl_L := z.2.2.2.2.2.1
abbrev zp (z : tl_Z) : Nat → Int := z.2.2.2.2.2.2.1
abbrev za (z : tl_Z) : Nat → Int := z.2.2.2.2.2.2.2
def tl_up {α : Type} (f : Nat → α) (k : Nat) (v : α) : Nat → α := fun j => if j = k then v else f j
theorem tl_up_s {α : Type} (f : Nat → α) (k : Nat) (v : α) : tl_up f k v k = v := if_pos rfl
theorem tl_up_n {α : Type} (f : Nat → α) {k j : Nat} (v : α) (h : j ≠ k) : tl_up f k v j = f j := if_neg h
def TLv (M : tm_M) (T : Nat) (z : tl_Z) : Prop := (∀ j, mI M (T + 1) j % 256 = zt z j ∧ -128 ≤ mI M (T + 1) j ∧ mI M (T + 1) j < 128) ∧ (mI M T 3 = zn z ∧ zn z ≤ 40) ∧ (∀ i, i < zn z → ln M (T + 89 + 7 * i) = zl z i ∧ lok (zl z i)) ∧ (mI M T 8 = zr z ∧ (zr z = 0 ∨ zr z = 1) ∧ (zr z = 1 → mI M T 9 = zs z ∧ inI (zs z) ∧ so M (T + 386) = tl_solve (zw z) ∧ lok (zw z))) ∧ (∀ k, 1 ≤ k → k ≤ 3 → mI M (T + 393) k = zp z k ∧ 0 ≤ zp z k ∧ zp z k ≤ 10) ∧ ∀ k, k < 3 → mI M (T + 394) k = za z k
/-- what a call leaves as it is: all outside the object's cells, and its paper -/
def fT (T : Nat) (M M1 : tm_M) : Prop := ∀ a k, (a < T ∨ (T + 390 ≤ a ∧ a < T + 393) ∨ T + 395 ≤ a) → mR M1 a k = mR M a k ∧ mI M1 a k = mI M a k ∧ mL M1 a k = mL M a k
theorem fT_rf {T : Nat} {M : tm_M} : fT T M M := fun _ _ _ => ⟨rfl, rfl, rfl⟩
theorem fT_tr {T : Nat} {M M1 M2 : tm_M} (h : fT T M M1) (g : fT T M1 M2) : fT T M M2 := fun a k q => ⟨(g a k q).1.trans (h a k q).1, (g a k q).2.1.trans (h a k q).2.1, (g a k q).2.2.trans (h a k q).2.2⟩
theorem fT_fr {T lo hi : Nat} {M M1 : tm_M} (h : tm_fr lo hi M M1) (h1 : T ≤ lo) (h2 : hi ≤ T + 390 ∨ (T + 393 ≤ lo ∧ hi ≤ T + 395)) : fT T M M1 := fun a k q => ⟨by rw [h.1], (h.2 a k (by omega)).1, (h.2 a k (by omega)).2⟩
def TLp (sh : tm_sh) (T : Nat) (M : tm_M) (z : tl_Z) (M1 : tm_M) : Prop := isTL sh M1 T ∧ TLv M1 T z ∧ fT T M M1
theorem TLv_same {M M1 : tm_M} {T : Nat} {z : tl_Z} (h : TLv M T z) (e : ∀ a k, (a = T ∨ a = T + 1 ∨ (T + 89 ≤ a ∧ a < T + 369) ∨ (T + 386 ≤ a ∧ a < T + 389) ∨ (T + 393 ≤ a ∧ a < T + 395)) → mI M1 a k = mI M a k ∧ mL M1 a k = mL M a k) : TLv M1 T z := by
  obtain ⟨h1, h2, h3, h4, h5, h6⟩ := h
  have ef : ∀ a, ((T + 89 ≤ a ∧ a < T + 369) ∨ (T + 386 ≤ a ∧ a < T + 389)) → fr M1 a = fr M a := fun a ha => by
    show (mL M1 a 0, mL M1 a 1) = _
    rw [(e a 0 (by omega)).2, (e a 1 (by omega)).2]
  refine ⟨fun j => by rw [(e (T + 1) j (by omega)).1]; exact h1 j, ⟨by rw [(e T 3 (by omega)).1]; exact h2.1, h2.2⟩, fun i hi => ?_, ⟨by rw [(e T 8 (by omega)).1]; exact h4.1, h4.2.1, fun hr => ?_⟩, fun k k1 k2 => by rw [(e (T + 393) k (by omega)).1]; exact h5 k k1 k2, fun k hk => by rw [(e (T + 394) k (by omega)).1]; exact h6 k hk⟩
  · refine ⟨?_, (h3 i hi).2⟩
    rw [← (h3 i hi).1]
    have hn := h2.2
    show ((fr M1 (T + 89 + 7 * i + 1 + 1), fr M1 (T + 89 + 7 * i + 1 + 2)), (fr M1 (T + 89 + 7 * i + 4 + 1), fr M1 (T + 89 + 7 * i + 4 + 2)), mI M1 (T + 89 + 7 * i) 2) = _
    rw [ef _ (by omega), ef _ (by omega), ef _ (by omega), ef _ (by omega), (e (T + 89 + 7 * i) 2 (by omega)).1]
  · obtain ⟨a2, a3, a4, a5⟩ := h4.2.2 hr
    refine ⟨by rw [(e T 9 (by omega)).1]; exact a2, a3, ?_, a5⟩
    rw [← a4]
    show (mI M1 (T + 386) 0, fr M1 (T + 386 + 1)) = _
    rw [ef _ (by omega), (e (T + 386) 0 (by omega)).1]
theorem TLv_fr {M M1 : tm_M} {T lo hi : Nat} {z : tl_Z} (h : TLv M T z) (f : tm_fr lo hi M M1) (g : (T + 2 ≤ lo ∧ hi ≤ T + 89) ∨ (T + 369 ≤ lo ∧ hi ≤ T + 386) ∨ (T + 389 ≤ lo ∧ hi ≤ T + 393)) : TLv M1 T z := TLv_same h (fun a k q => f.2 a k (by omega))
theorem ln_sI {M : tm_M} {T k x : Nat} {v : Int} (h : x ≠ T) : ln (sI M T k v) x = ln M x := by
  show (_, _, mI (sI M T k v) x 2) = _
  rw [show mI (sI M T k v) x 2 = mI M x 2 from tm_up_a _ _ h]
/-- one more line; nothing is refused -/
def zapp (z : tl_Z) (w : tl_L) : tl_Z := (zt z, zn z + 1, tl_up (zl z) (zn z) w, 0, zs z, zw z, zp z, za z)
theorem TL_app {sh : tm_sh} {M : tm_M} {T : Nat} {z : tl_Z} {w : tl_L} (hT : isTL sh M T) (h : TLv M T z) (hn : zn z < 40) (hw : lok w) : TLp sh T M (zapp z w) (sI (sI (lS M (T + 89 + 7 * zn z) w) T 3 ((zn z : Int) + 1)) T 8 0) := by
  have F1 : tm_fr (T + 89 + 7 * zn z) (T + 89 + 7 * zn z + 7) M (lS M (T + 89 + 7 * zn z) w) := fw_lS w
  obtain ⟨h1, h2, h3, h4, h5, h6⟩ := h
  have eo : ∀ a k, a ≠ T → mI (sI (sI (lS M (T + 89 + 7 * zn z) w) T 3 ((zn z : Int) + 1)) T 8 0) a k = mI (lS M (T + 89 + 7 * zn z) w) a k := fun a k ha => (tm_up_a _ _ ha).trans (tm_up_a _ _ ha)
  refine ⟨isTL_m hT rfl, ⟨fun j => ?_, ⟨?_, ?_⟩, fun i hi => ?_, ⟨?_, Or.inl rfl, fun z => absurd (show (0 : Int) = 1 from z) (by decide)⟩, fun k k1 k2 => ?_, fun k hk => ?_⟩, fun a k q => ⟨rfl, ?_, ?_⟩⟩
  · rw [eo _ _ (by omega), (F1.2 (T + 1) j (by omega)).1]; exact h1 j
  · exact (tm_up_k _ _ (by decide)).trans ((tm_up_s _ _ _ _).trans (by show _ = ((zn z + 1 : Nat) : Int); omega))
  · show zn z + 1 ≤ 40; omega
  · have hi' : i < zn z + 1 := hi
    rw [ln_sI (by omega), ln_sI (by omega)]
    by_cases e : i = zn z
    · subst e
      rw [ln_self]
      exact ⟨(tl_up_s _ _ _).symm, by rw [show zl (zapp z w) (zn z) = w from tl_up_s _ _ _]; exact hw⟩
    · rw [show zl (zapp z w) i = zl z i from tl_up_n _ _ e, fw_ln F1 (by omega)]
      exact h3 i (by omega)
  · exact tm_up_s _ _ _ _
  · rw [eo _ _ (by omega), (F1.2 (T + 393) k (by omega)).1]; exact h5 k k1 k2
  · rw [eo _ _ (by omega), (F1.2 (T + 394) k (by omega)).1]; exact h6 k hk
  · rw [eo _ _ (by omega)]; exact (F1.2 a k (by omega)).1
  · exact (F1.2 a k (by omega)).2
/-- the points of one skill -/
def zpt (z : tl_Z) (k : Nat) (v : Int) : tl_Z := (zt z, zn z, zl z, zr z, zs z, zw z, tl_up (zp z) k v, za z)
theorem TL_pt {sh : tm_sh} {M : tm_M} {T : Nat} {z : tl_Z} {k : Nat} {v : Int} (hT : isTL sh M T) (h : TLv M T z) (hk : k ≤ 3) (hv : 0 ≤ v ∧ v ≤ 10) : TLp sh T M (zpt z k v) (sI M (T + 393) k v) := by
  have F1 : tm_fr (T + 393) (T + 394) M (sI M (T + 393) k v) := fw_sI v (by omega) (by omega)
  obtain ⟨h1, h2, h3, h4, h5, h6⟩ := h
  have eo : ∀ a j, a ≠ T + 393 → mI (sI M (T + 393) k v) a j = mI M a j := fun a j ha => tm_up_a _ _ ha
  refine ⟨isTL_m hT rfl, ⟨fun j => by rw [eo _ _ (by omega)]; exact h1 j, ⟨by rw [eo _ _ (by omega)]; exact h2.1, h2.2⟩, fun i hi => ?_, ⟨by rw [eo _ _ (by omega)]; exact h4.1, h4.2.1, fun q => ?_⟩, fun j k1 k2 => ?_, fun j hj => by rw [eo _ _ (by omega)]; exact h6 j hj⟩, fT_fr F1 (by omega) (by omega)⟩
  · have hi' : i < zn z := hi
    have := h2.2
    rw [ln_sI (by omega)]; exact h3 i hi
  · obtain ⟨a2, a3, a4, a5⟩ := h4.2.2 q
    refine ⟨by rw [eo _ _ (by omega)]; exact a2, a3, ?_, a5⟩
    rw [show zw (zpt z k v) = zw z from rfl, ← a4]
    show (mI (sI M (T + 393) k v) (T + 386) 0, fr M (T + 386 + 1)) = _
    rw [eo _ _ (by omega)]
  · show mI (sI M (T + 393) k v) (T + 393) j = tl_up (zp z) k v j ∧ 0 ≤ tl_up (zp z) k v j ∧ tl_up (zp z) k v j ≤ 10
    by_cases e : j = k
    · subst e
      rw [tl_up_s, show mI (sI M (T + 393) j v) (T + 393) j = v from tm_up_s _ _ _ _]
      exact ⟨rfl, hv⟩
    · rw [tl_up_n _ _ e, show mI (sI M (T + 393) k v) (T + 393) j = mI M (T + 393) j from tm_up_k _ _ e]
      exact h5 j k1 k2
/-- one answer more -/
def zan (z : tl_Z) (k : Nat) : tl_Z := (zt z, zn z, zl z, zr z, zs z, zw z, zp z, tl_up (za z) k (za z k + 1))
theorem TL_an {sh : tm_sh} {M : tm_M} {T : Nat} {z : tl_Z} {k : Nat} (hT : isTL sh M T) (h : TLv M T z) (hk : k < 3) : TLp sh T M (zan z k) (sI M (T + 394) k (mI M (T + 394) k + 1)) := by
  have F1 : tm_fr (T + 394) (T + 395) M (sI M (T + 394) k (mI M (T + 394) k + 1)) := fw_sI _ (by omega) (by omega)
  obtain ⟨h1, h2, h3, h4, h5, h6⟩ := h
  have eo : ∀ a j, a ≠ T + 394 → mI (sI M (T + 394) k (mI M (T + 394) k + 1)) a j = mI M a j := fun a j ha => tm_up_a _ _ ha
  refine ⟨isTL_m hT rfl, ⟨fun j => by rw [eo _ _ (by omega)]; exact h1 j, ⟨by rw [eo _ _ (by omega)]; exact h2.1, h2.2⟩, fun i hi => ?_, ⟨by rw [eo _ _ (by omega)]; exact h4.1, h4.2.1, fun q => ?_⟩, fun j k1 k2 => by rw [eo _ _ (by omega)]; exact h5 j k1 k2, fun j hj => ?_⟩, fT_fr F1 (by omega) (by omega)⟩
  · have hi' : i < zn z := hi
    have := h2.2
    rw [ln_sI (by omega)]; exact h3 i hi
  · obtain ⟨a2, a3, a4, a5⟩ := h4.2.2 q
    refine ⟨by rw [eo _ _ (by omega)]; exact a2, a3, ?_, a5⟩
    rw [show zw (zan z k) = zw z from rfl, ← a4]
    show (mI (sI M (T + 394) k (mI M (T + 394) k + 1)) (T + 386) 0, fr M (T + 386 + 1)) = _
    rw [eo _ _ (by omega)]
  · show mI (sI M (T + 394) k (mI M (T + 394) k + 1)) (T + 394) j = tl_up (za z) k (za z k + 1) j
    by_cases e : j = k
    · subst e
      rw [tl_up_s, show mI (sI M (T + 394) j (mI M (T + 394) j + 1)) (T + 394) j = mI M (T + 394) j + 1 from tm_up_s _ _ _ _, h6 j hj]
    · rw [tl_up_n _ _ e, show mI (sI M (T + 394) k (mI M (T + 394) k + 1)) (T + 394) j = mI M (T + 394) j from tm_up_k _ _ e]
      exact h6 j hj
theorem sook_solve {v : tl_L} (h : lok v) : sook (tl_solve v) ∧ (tl_solve v).2.1.natAbs ≤ 19992001499960002 ∧ (tl_solve v).2.2 ≤ 19992001499960002 ∧ 0 < (tl_solve v).2.2 ∧ Int.gcd (tl_solve v).2.1 (tl_solve v).2.2 = 1 := by
  have b1 := tl_fsub_bd h.1.1 h.2.1.1
  have b2 := tl_fsub_bd h.2.1.2 h.1.2
  unfold tl_solve
  by_cases z : (tl_sl v).1 = 0
  · rw [if_pos z]
    have := tl_tz_z v.2.2 (tl_pl v).1
    refine ⟨⟨?_, ?_, ?_⟩, show (0 : Int).natAbs ≤ 19992001499960002 by decide, show (1 : Int) ≤ 19992001499960002 by decide, show (0 : Int) < 1 by decide, show Int.gcd 0 1 = 1 by decide⟩
    · show 0 ≤ tl_tz _ _; omega
    · show tl_tz _ _ ≤ 4; omega
    · show pok (0, 1); unfold pok; decide
  · rw [if_neg z]
    have q1 := tl_quo_bd (f := tl_pl v) (g := tl_sl v) ⟨b2.1, b2.2.1, b2.2.2.1⟩ ⟨b1.1, b1.2.1, b1.2.2.1⟩ z
    have q2 := tl_norm_le (a := (tl_pl v).1 * (tl_sl v).2) q1.1
    have q3 := tl_norm_pos (a := (tl_pl v).1 * (tl_sl v).2) q1.1
    have q4 := tl_norm_gcd (a := (tl_pl v).1 * (tl_sl v).2) q1.1
    have e2 : (tl_norm ((tl_pl v).1 * (tl_sl v).2) ((tl_pl v).2 * (tl_sl v).1)).2 ≤ 19992001499960002 := by omega
    refine ⟨⟨?_, ?_, ?_⟩, ?_, ?_, q3, q4⟩
    · show 0 ≤ (if v.2.2 = 0 then (2 : Int) else if (v.2.2 = 1 ↔ 0 < (tl_sl v).1) then 3 else 4)
      split
      · decide
      · split <;> decide
    · show (if v.2.2 = 0 then (2 : Int) else if (v.2.2 = 1 ↔ 0 < (tl_sl v).1) then 3 else 4) ≤ 4
      split
      · decide
      · split <;> decide
    · refine ⟨?_, q3, ?_⟩
      · show (tl_norm _ _).1.natAbs ≤ _; omega
      · show (tl_norm _ _).2 ≤ _; omega
    · show (tl_norm _ _).1.natAbs ≤ _; omega
    · exact e2
