/-! reading a text: what a line's text means, by levels of parentheses (t: bytes 0 .. 255, n: how many) -/
def tp_sk (t : Nat → Int) (n : Nat) : Nat → Nat → Nat
  | 0, p => p
  | k + 1, p => if p < n ∧ t p = 32 then tp_sk t n k (p + 1) else p
def tp_nx (t : Nat → Int) (n p : Nat) : Nat := tp_sk t n (n - p) p
def tp_ch (t : Nat → Int) (n p : Nat) : Int := if p < n then t p else -1
abbrev tp_R : Type := (Nat × tl_S) ⊕ Nat
def tp_isd (c : Int) : Prop := 48 ≤ c ∧ c ≤ 57
def tp_dig (t : Nat → Int) (n : Nat) : Nat → Int → Nat → Nat → Int × Nat × Nat
  | 0, x, ld, p => (x, ld, p)
  | k + 1, x, ld, p => if 48 ≤ tp_ch t n (tp_nx t n p) ∧ tp_ch t n (tp_nx t n p) ≤ 57 then tp_dig t n k (x * 10 + (tp_ch t n (tp_nx t n p) - 48)) (tp_nx t n p) (tp_nx t n p + 1) else (x, ld, tp_nx t n p)
/-- a NUMBER: where it ends, the number, its last digit's place; or the fault -/
def tp_num (t : Nat → Int) (n p : Nat) : (Nat × Int × Nat) ⊕ Nat := if 48 ≤ tp_ch t n (tp_nx t n p) ∧ tp_ch t n (tp_nx t n p) ≤ 57 then .inl ((tp_dig t n 4 0 0 (tp_nx t n p)).2.2, (tp_dig t n 4 0 0 (tp_nx t n p)).1, (tp_dig t n 4 0 0 (tp_nx t n p)).2.1) else .inr (tp_nx t n p)
def tp_numS (r : (Nat × Int × Nat) ⊕ Nat) : tp_R := match r with
  | .inl x => .inl (x.1, ((0, 1), (x.2.1, 1)))
  | .inr f => .inr f
def tp_close (t : Nat → Int) (n : Nat) (r : tp_R) : tp_R := match r with
  | .inl x => if tp_ch t n (tp_nx t n x.1) = 41 then .inl (tp_nx t n x.1 + 1, x.2) else .inr (tp_nx t n x.1)
  | .inr f => .inr f
def tp_pars (t : Nat → Int) (n : Nat) (inn : Option (Nat → tp_R)) (p : Nat) : tp_R := match inn with
  | none => .inr p
  | some g => tp_close t n (g (p + 1))
def tp_factor (t : Nat → Int) (n : Nat) (inn : Option (Nat → tp_R)) (p : Nat) : tp_R :=
  if tp_ch t n (tp_nx t n p) = 40 then tp_pars t n inn (tp_nx t n p)
  else if tp_ch t n (tp_nx t n p) = 120 then .inl (tp_nx t n p + 1, ((1, 1), (0, 1)))
  else tp_numS (tp_num t n p)
def tp_mul (v : tl_S) (place : Nat) (r : tp_R) : tp_R := match r with
  | .inl x => if ¬ v.1.1 = 0 ∧ ¬ x.2.1.1 = 0 then .inr place else .inl (x.1, smul v x.2)
  | .inr f => .inr f
def tp_dvd (v : tl_S) (r : (Nat × Int × Nat) ⊕ Nat) : tp_R := match r with
  | .inl x => if x.2.1 = 0 then .inr x.2.2 else .inl (x.1, sdiv v (x.2.1, 1))
  | .inr f => .inr f
def tp_op (t : Nat → Int) (n : Nat) (inn : Option (Nat → tp_R)) (c : Int) (place p : Nat) (v : tl_S) : tp_R := if c = 42 then tp_mul v place (tp_factor t n inn p) else tp_dvd v (tp_num t n p)
abbrev sfit (v : tl_S) : Prop := ffit v.1 ∧ ffit v.2
/-- what comes behind, if the value is small enough -/
def tp_fit (place : Nat) (r : tp_R) (g : Nat → tl_S → tp_R) : tp_R := match r with
  | .inl x => if sfit x.2 then g x.1 x.2 else .inr place
  | .inr f => .inr f
def tp_tl (t : Nat → Int) (n : Nat) (inn : Option (Nat → tp_R)) : Nat → Nat → tl_S → tp_R
  | 0, p, v => .inl (p, v)
  | k + 1, p, v => if tp_ch t n (tp_nx t n p) = 42 ∨ tp_ch t n (tp_nx t n p) = 47 then tp_fit (tp_nx t n p) (tp_op t n inn (tp_ch t n (tp_nx t n p)) (tp_nx t n p) (tp_nx t n p + 1) v) (tp_tl t n inn k) else .inl (tp_nx t n p, v)
def tp_bind (r : tp_R) (g : Nat → tl_S → tp_R) : tp_R := match r with
  | .inl x => g x.1 x.2
  | .inr f => .inr f
def tp_term (t : Nat → Int) (n : Nat) (inn : Option (Nat → tp_R)) (p : Nat) : tp_R := tp_bind (tp_factor t n inn p) (tp_tl t n inn 80)
abbrev sadd (v w : tl_S) : tl_S := (fadd v.1 w.1, fadd v.2 w.2)
abbrev ssub (v w : tl_S) : tl_S := (fsub v.1 w.1, fsub v.2 w.2)
abbrev sneg (v : tl_S) : tl_S := (fneg v.1, fneg v.2)
def tp_sum (c : Int) (v : tl_S) (r : tp_R) : tp_R := match r with
  | .inl x => .inl (x.1, if c = 43 then sadd v x.2 else ssub v x.2)
  | .inr f => .inr f
def tp_sl (t : Nat → Int) (n : Nat) (inn : Option (Nat → tp_R)) : Nat → Nat → tl_S → tp_R
  | 0, p, v => .inl (p, v)
  | k + 1, p, v => if tp_ch t n (tp_nx t n p) = 43 ∨ tp_ch t n (tp_nx t n p) = 45 then tp_fit (tp_nx t n p) (tp_sum (tp_ch t n (tp_nx t n p)) v (tp_term t n inn (tp_nx t n p + 1))) (tp_sl t n inn k) else .inl (tp_nx t n p, v)
def tp_side (t : Nat → Int) (n : Nat) (inn : Option (Nat → tp_R)) (p : Nat) : tp_R :=
  if tp_ch t n (tp_nx t n p) = 45 then tp_bind (tp_term t n inn (tp_nx t n p + 1)) (fun q v => tp_sl t n inn 80 q (sneg v))
  else tp_bind (tp_term t n inn (tp_nx t n p)) (fun q v => tp_sl t n inn 80 q v)
def tp_par (t : Nat → Int) (n : Nat) : Nat → Nat → tp_R
  | 0 => tp_side t n none
  | r + 1 => tp_side t n (some (tp_par t n r))
def tp_in (t : Nat → Int) (n : Nat) : Nat → Option (Nat → tp_R)
  | 0 => none
  | r + 1 => some (tp_par t n r)
theorem tp_par_in (t : Nat → Int) (n r : Nat) : tp_par t n r = tp_side t n (tp_in t n r) := by
  cases r <;> rfl
theorem tp_sk_le (t : Nat → Int) (n : Nat) : ∀ (k p : Nat), p ≤ n → p ≤ tp_sk t n k p ∧ tp_sk t n k p ≤ n
  | 0, p, h => ⟨Nat.le_refl p, h⟩
  | k + 1, p, h => by
    unfold tp_sk
    split
    · rename_i z
      have := tp_sk_le t n k (p + 1) (by omega)
      omega
    · omega
theorem tp_nx_le {t : Nat → Int} {n p : Nat} (h : p ≤ n) : p ≤ tp_nx t n p ∧ tp_nx t n p ≤ n := tp_sk_le t n _ p h
theorem tp_nx_end {t : Nat → Int} {n p : Nat} (h : ¬ (p < n ∧ t p = 32)) : tp_nx t n p = p := by
  unfold tp_nx
  cases n - p with
  | zero => rfl
  | succ k => exact if_neg h
theorem tp_nx_go {t : Nat → Int} {n p : Nat} (h : p < n) (h2 : t p = 32) : tp_nx t n p = tp_nx t n (p + 1) := by
  unfold tp_nx
  rw [show n - p = (n - (p + 1)) + 1 by omega]
  exact if_pos ⟨h, h2⟩
theorem tp_nx_not {t : Nat → Int} {n : Nat} : ∀ (k p : Nat), n - p = k → p ≤ n → ¬ (tp_nx t n p < n ∧ t (tp_nx t n p) = 32)
  | 0, p, hk, h => by
    have := tp_nx_le (t := t) h
    omega
  | k + 1, p, hk, h => by
    by_cases z : p < n ∧ t p = 32
    · rw [tp_nx_go z.1 z.2]
      exact tp_nx_not k (p + 1) (by omega) (by omega)
    · rw [tp_nx_end z]
      exact z
theorem tp_nx_nx {t : Nat → Int} {n p : Nat} (h : p ≤ n) : tp_nx t n (tp_nx t n p) = tp_nx t n p := tp_nx_end (tp_nx_not _ p rfl h)
theorem tp_ch_lt {t : Nat → Int} {n p : Nat} (h : 0 ≤ tp_ch t n p) : p < n := by
  unfold tp_ch at h
  split at h
  · assumption
  · omega
theorem tp_ch_r {t : Nat → Int} {n p : Nat} (h : ∀ j, 0 ≤ t j ∧ t j < 256) : -1 ≤ tp_ch t n p ∧ tp_ch t n p < 256 := by
  unfold tp_ch
  have := h p
  split <;> omega
/-- the digits: the place stays within, the number within ten's powers -/
theorem tp_dig_ok (t : Nat → Int) (n : Nat) : ∀ (k : Nat) (x : Int) (ld p : Nat) (B : Int), p ≤ n → ld ≤ n → 0 ≤ x → x < B → (tp_dig t n k x ld p).2.2 ≤ n ∧ (tp_dig t n k x ld p).2.1 ≤ n ∧ 0 ≤ (tp_dig t n k x ld p).1 ∧ (tp_dig t n k x ld p).1 < B * 10 ^ k
  | 0, x, ld, p, B, h1, h2, h3, h4 => ⟨h1, h2, h3, by show x < B * 10 ^ 0; omega⟩
  | k + 1, x, ld, p, B, h1, h2, h3, h4 => by
    have hq := tp_nx_le (t := t) h1
    have e : B * 10 ^ (k + 1) = B * 10 * 10 ^ k := by rw [Int.pow_succ, Int.mul_comm (10 ^ k) 10, Int.mul_assoc]
    unfold tp_dig
    split
    · rename_i z
      have hl := tp_ch_lt (t := t) (n := n) (p := tp_nx t n p) (by omega)
      rw [e]
      exact tp_dig_ok t n k _ _ _ (B * 10) (by omega) hq.2 (by omega) (by omega)
    · refine ⟨hq.2, h2, h3, ?_⟩
      show x < B * 10 ^ (k + 1)
      have : (0 : Int) < 10 ^ (k + 1) := Int.pow_pos (by decide)
      have h5 := Int.mul_le_mul_of_nonneg_left (show (1 : Int) ≤ 10 ^ (k + 1) by omega) (show 0 ≤ B by omega)
      omega
theorem fok_num {x : Int} (h0 : 0 ≤ x) (h : x ≤ 9999) : fok (x, 1) := by
  unfold fok
  omega
theorem fok_norm {a b : Int} (hb : b ≠ 0) (h : ffit (tl_norm a b)) : fok (tl_norm a b) := ⟨h.1, h.2.1, tl_norm_pos hb, h.2.2⟩
theorem fok_nG {f : tl_F} (h : fok f) : fok (fneg f) := by
  obtain ⟨h1, h2, h3, h4⟩ := h
  exact ⟨by show -9999 ≤ -f.1; omega, by show -f.1 ≤ 9999; omega, h3, h4⟩
theorem sok_smul {v w : tl_S} (hv : sok v) (hw : sok w) (h : sfit (smul v w)) : sok (smul v w) := by
  refine ⟨?_, fok_norm (tl_bd hv.2 hw.2).1 h.2⟩
  have h1 := h.1
  by_cases z : v.1.1 = 0
  · rw [show (smul v w).1 = fmul v.2 w.1 from if_pos z] at h1 ⊢
    exact fok_norm (tl_bd hv.2 hw.1).1 h1
  · rw [show (smul v w).1 = fmul v.1 w.2 from if_neg z] at h1 ⊢
    exact fok_norm (tl_bd hv.1 hw.2).1 h1
theorem sok_sdiv {v : tl_S} {f : tl_F} (hv : sok v) (hf : fok f) (hz : f.1 ≠ 0) (h : sfit (sdiv v f)) : sok (sdiv v f) := ⟨fok_norm (tl_n0 (fok_ab hv.1).2.2 hz) h.1, fok_norm (tl_n0 (fok_ab hv.2).2.2 hz) h.2⟩
theorem sok_sadd {v w : tl_S} (hv : sok v) (hw : sok w) (h : sfit (sadd v w)) : sok (sadd v w) := ⟨fok_norm (tl_bd hv.1 hw.1).1 h.1, fok_norm (tl_bd hv.2 hw.2).1 h.2⟩
theorem sok_ssub {v w : tl_S} (hv : sok v) (hw : sok w) (h : sfit (ssub v w)) : sok (ssub v w) := ⟨fok_norm (tl_bd hv.1 hw.1).1 h.1, fok_norm (tl_bd hv.2 hw.2).1 h.2⟩
theorem sok_sneg {v : tl_S} (h : sok v) : sok (sneg v) := ⟨fok_nG h.1, fok_nG h.2⟩
def sLok (v : tl_S) : Prop := fLok v.1 ∧ fLok v.2
theorem sLok_of {v : tl_S} (h : sok v) : sLok v := ⟨fLok_of h.1, fLok_of h.2⟩
theorem sLok_smul {v w : tl_S} (hv : sok v) (hw : sok w) : sLok (smul v w) := by
  refine ⟨?_, fLok_mul hv.2 hw.2⟩
  by_cases z : v.1.1 = 0
  · rw [show (smul v w).1 = fmul v.2 w.1 from if_pos z]
    exact fLok_mul hv.2 hw.1
  · rw [show (smul v w).1 = fmul v.1 w.2 from if_neg z]
    exact fLok_mul hv.1 hw.2
theorem sLok_sdiv {v : tl_S} {f : tl_F} (hv : sok v) (hf : fok f) (hz : f.1 ≠ 0) : sLok (sdiv v f) := ⟨fLok_div hv.1 hf hz, fLok_div hv.2 hf hz⟩
theorem sLok_sadd {v w : tl_S} (hv : sok v) (hw : sok w) : sLok (sadd v w) := ⟨fLok_add hv.1 hw.1, fLok_add hv.2 hw.2⟩
theorem sLok_ssub {v w : tl_S} (hv : sok v) (hw : sok w) : sLok (ssub v w) := ⟨fLok_sub hv.1 hw.1, fLok_sub hv.2 hw.2⟩
