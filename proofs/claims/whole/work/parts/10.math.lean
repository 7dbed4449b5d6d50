/-! pure rows: fractions in lowest terms over Int, Euclid's steps, comparing two fractions -/
def tl_norm (a b : Int) : Int × Int := if b < 0 then (-a / (Int.gcd a b : Int), -b / (Int.gcd a b : Int)) else (a / (Int.gcd a b : Int), b / (Int.gcd a b : Int))
theorem tl_gcd_pos {a b : Int} (hb : b ≠ 0) : (0 : Int) < (Int.gcd a b : Int) := by
  have h : 0 < Int.gcd a b := Int.gcd_pos_of_ne_zero_right a hb
  omega
theorem tl_norm_pos {a b : Int} (hb : b ≠ 0) : 0 < (tl_norm a b).2 := by
  have hg := tl_gcd_pos (a := a) hb
  have hd : (Int.gcd a b : Int) ∣ b := Int.gcd_dvd_right a b
  unfold tl_norm
  split
  · rename_i h
    obtain ⟨k, hk⟩ := hd
    have e : -b = (Int.gcd a b : Int) * (-k) := by rw [Int.mul_neg, ← hk]
    show 0 < -b / (Int.gcd a b : Int)
    rw [e, Int.mul_ediv_cancel_left _ (by omega)]
    rcases Int.lt_or_le 0 (-k) with z | z
    · exact z
    · have := Int.mul_le_mul_of_nonneg_left z (Int.le_of_lt hg)
      rw [Int.mul_zero] at this
      omega
  · rename_i h
    obtain ⟨k, hk⟩ := hd
    show 0 < b / (Int.gcd a b : Int)
    have e : b / (Int.gcd a b : Int) = k := by
      conv => lhs; lhs; rw [hk]
      exact Int.mul_ediv_cancel_left _ (by omega)
    rw [e]
    rcases Int.lt_or_le 0 k with z | z
    · exact z
    · have := Int.mul_le_mul_of_nonneg_left z (Int.le_of_lt hg)
      rw [Int.mul_zero, ← hk] at this
      omega
/-- the normal form's parts times the divisor are the parts, or their opposites -/
theorem tl_norm_mul {a b : Int} (hb : b ≠ 0) : (b < 0 → (tl_norm a b).1 * (Int.gcd a b : Int) = -a ∧ (tl_norm a b).2 * (Int.gcd a b : Int) = -b) ∧ (0 < b → (tl_norm a b).1 * (Int.gcd a b : Int) = a ∧ (tl_norm a b).2 * (Int.gcd a b : Int) = b) := by
  have h1 : (Int.gcd a b : Int) ∣ a := Int.gcd_dvd_left a b
  have h2 : (Int.gcd a b : Int) ∣ b := Int.gcd_dvd_right a b
  refine ⟨fun h => ?_, fun h => ?_⟩
  · unfold tl_norm
    rw [if_pos h]
    exact ⟨Int.ediv_mul_cancel (Int.dvd_neg.mpr h1), Int.ediv_mul_cancel (Int.dvd_neg.mpr h2)⟩
  · unfold tl_norm
    rw [if_neg (by omega)]
    exact ⟨Int.ediv_mul_cancel h1, Int.ediv_mul_cancel h2⟩
theorem tl_norm_self {a b : Int} (hb : 0 < b) (h : Int.gcd a b = 1) : tl_norm a b = (a, b) := by
  unfold tl_norm
  rw [if_neg (by omega), h]
  simp
theorem tl_norm_gcd {a b : Int} (hb : b ≠ 0) : Int.gcd (tl_norm a b).1 (tl_norm a b).2 = 1 := by
  have hg : 0 < Int.gcd a b := Int.gcd_pos_of_ne_zero_right a hb
  unfold tl_norm
  split
  · show Int.gcd (-a / (Int.gcd a b : Int)) (-b / (Int.gcd a b : Int)) = 1
    have e : Int.gcd a b = Int.gcd (-a) (-b) := by rw [Int.gcd_neg, Int.neg_gcd]
    rw [e] at hg ⊢
    exact Int.gcd_ediv_gcd_ediv_gcd hg
  · exact Int.gcd_ediv_gcd_ediv_gcd hg
theorem tl_abs_le {x g y : Int} (hg : 0 < g) (h : x * g = y) : x.natAbs ≤ y.natAbs := by
  rw [← h, Int.natAbs_mul]
  exact Nat.le_mul_of_pos_right _ (by omega)
theorem tl_norm_le {a b : Int} (hb : b ≠ 0) : (tl_norm a b).1.natAbs ≤ a.natAbs ∧ (tl_norm a b).2.natAbs ≤ b.natAbs := by
  have hg := tl_gcd_pos (a := a) hb
  obtain ⟨h1, h2⟩ := tl_norm_mul (a := a) hb
  rcases Int.lt_or_le b 0 with h | h
  · have h3 := tl_abs_le hg (h1 h).1
    have h4 := tl_abs_le hg (h1 h).2
    exact ⟨by omega, by omega⟩
  · have h3 := tl_abs_le hg (h2 (by omega)).1
    have h4 := tl_abs_le hg (h2 (by omega)).2
    exact ⟨h3, h4⟩
theorem tl_norm_zero {a b : Int} (hb : b ≠ 0) : (tl_norm a b).1 = 0 ↔ a = 0 := by
  have hg := tl_gcd_pos (a := a) hb
  obtain ⟨h1, h2⟩ := tl_norm_mul (a := a) hb
  have key : (tl_norm a b).1 * (Int.gcd a b : Int) = -a ∨ (tl_norm a b).1 * (Int.gcd a b : Int) = a := by
    rcases Int.lt_or_le b 0 with h | h
    · exact Or.inl (h1 h).1
    · exact Or.inr (h2 (by omega)).1
  refine ⟨fun h => ?_, fun h => ?_⟩
  · rw [h, Int.zero_mul] at key
    omega
  · rw [h] at key
    have k2 : (tl_norm a b).1 * (Int.gcd a b : Int) = 0 := by rw [h]; rcases key with k | k <;> omega
    rcases Int.mul_eq_zero.mp k2 with z | z
    · exact z
    · omega
/-- Euclid's step: the product of the two falls to less than a half -/
theorem tl_half {x y k : Nat} (hy : 0 < y) (h : y ≤ x) (hk : x * y < 2 ^ (k + 1)) : y * (x % y) < 2 ^ k := by
  have h1 : x % y < y := Nat.mod_lt _ hy
  have h2 : y * (x / y) + x % y = x := Nat.div_add_mod x y
  have h3 : 0 < x / y := Nat.div_pos h hy
  have h4 : y * 1 ≤ y * (x / y) := Nat.mul_le_mul_left y h3
  have h5 : 2 * (x % y) < x := by omega
  have h6 : y * (2 * (x % y)) < y * x := Nat.mul_lt_mul_of_pos_left h5 hy
  have h7 : y * (2 * (x % y)) = 2 * (y * (x % y)) := by rw [Nat.mul_left_comm]
  rw [h7, Nat.mul_comm y x] at h6
  rw [Nat.pow_succ] at hk
  omega
/-- which of two fractions is the less: -1, 0, 1 (the parts below are above 0) -/
def tl_cmp (a b c d : Int) : Int := if a * d < c * b then -1 else if a * d = c * b then 0 else 1
theorem tl_cmp_lt {a b c d : Int} (hb : 0 < b) (hd : 0 < d) (h : a / b < c / d) : tl_cmp a b c d = -1 := by
  unfold tl_cmp
  rw [if_pos]
  have h1 : a < (a / b + 1) * b := Int.lt_ediv_add_one_mul_self a hb
  have h2 : c / d * d ≤ c := Int.ediv_mul_le c (by omega)
  have h3 : (a / b + 1) * b ≤ c / d * b := Int.mul_le_mul_of_nonneg_right (by omega) (by omega)
  have h4 : a * d < c / d * b * d := Int.mul_lt_mul_of_pos_right (by omega) hd
  have h5 : c / d * d * b ≤ c * b := Int.mul_le_mul_of_nonneg_right h2 (by omega)
  have h6 : c / d * b * d = c / d * d * b := by rw [Int.mul_assoc, Int.mul_comm b d, ← Int.mul_assoc]
  omega
theorem tl_cmp_neg (a b c d : Int) : tl_cmp c d a b = - tl_cmp a b c d := by
  unfold tl_cmp
  rcases Int.lt_trichotomy (a * d) (c * b) with h | h | h
  · rw [if_pos h, if_neg (by omega), if_neg (by omega)]; rfl
  · rw [if_neg (by omega), if_pos h.symm, if_neg (by omega), if_pos h]; rfl
  · rw [if_pos h, if_neg (by omega), if_neg (by omega)]
theorem tl_cmp_gt {a b c d : Int} (hb : 0 < b) (hd : 0 < d) (h : c / d < a / b) : tl_cmp a b c d = 1 := by
  have := tl_cmp_lt hd hb h
  rw [tl_cmp_neg] at this
  omega
theorem tl_cmp_mod {a b c d : Int} (h : a / b = c / d) : tl_cmp a b c d = tl_cmp (a % b) b (c % d) d := by
  have h1 : b * (a / b) + a % b = a := Int.mul_ediv_add_emod a b
  have h2 : d * (c / d) + c % d = c := Int.mul_ediv_add_emod c d
  have e1 : a * d = b * (a / b) * d + a % b * d := by rw [← Int.add_mul, h1]
  have e2 : c * b = b * (a / b) * d + c % d * b := by
    rw [h, Int.mul_assoc, Int.mul_comm b, Int.mul_comm (c / d) d, ← Int.add_mul, h2]
  unfold tl_cmp
  rw [e1, e2]
  by_cases q : a % b * d < c % d * b
  · rw [if_pos q, if_pos (by omega)]
  · rw [if_neg q, if_neg (by omega)]
    by_cases q2 : a % b * d = c % d * b
    · rw [if_pos q2, if_pos (by omega)]
    · rw [if_neg q2, if_neg (by omega)]
/-- turned upside down -/
theorem tl_cmp_inv (a b c d : Int) : tl_cmp a b c d = tl_cmp d c b a := by
  unfold tl_cmp
  rw [Int.mul_comm d a, Int.mul_comm b c]
theorem tl_cmp_00 (b d : Int) : tl_cmp 0 b 0 d = 0 := by
  unfold tl_cmp
  simp
theorem tl_cmp_0p {b c d : Int} (hb : 0 < b) (hc : 0 < c) : tl_cmp 0 b c d = -1 := by
  unfold tl_cmp
  rw [Int.zero_mul, if_pos (Int.mul_pos hc hb)]
theorem tl_cmp_p0 {a b d : Int} (hd : 0 < d) (ha : 0 < a) : tl_cmp a b 0 d = 1 := by
  rw [tl_cmp_neg, tl_cmp_0p hd ha]; rfl
theorem tl_cop {a b d : Int} (h : b ∣ a * d) (hg : Int.gcd a b = 1) : b ∣ d := by
  have h1 : b.natAbs ∣ a.natAbs * d.natAbs := by
    rw [← Int.natAbs_mul]
    exact Int.natAbs_dvd_natAbs.mpr h
  have h2 : Nat.Coprime b.natAbs a.natAbs := by
    rw [Nat.coprime_comm]
    exact hg
  exact Int.natAbs_dvd_natAbs.mp (h2.dvd_of_dvd_mul_left h1)
theorem tl_cmp_same {a b c d : Int} (hb : 0 < b) (hd : 0 < d) (h1 : Int.gcd a b = 1) (h2 : Int.gcd c d = 1) : tl_cmp a b c d = 0 ↔ (a = c ∧ b = d) := by
  have h0 : tl_cmp a b c d = 0 ↔ a * d = c * b := by
    unfold tl_cmp
    by_cases q : a * d < c * b
    · rw [if_pos q]; omega
    · rw [if_neg q]
      by_cases q2 : a * d = c * b
      · rw [if_pos q2]; omega
      · rw [if_neg q2]; omega
  rw [h0]
  refine ⟨fun h => ?_, fun h => by rw [h.1, h.2]⟩
  have d1 : b ∣ d := by
    have : b ∣ a * d := ⟨c, by rw [h, Int.mul_comm]⟩
    exact tl_cop this h1
  have d2 : d ∣ b := by
    have : d ∣ c * b := ⟨a, by rw [← h, Int.mul_comm]⟩
    exact tl_cop this h2
  have e : b = d := Int.dvd_antisymm (by omega) (by omega) d1 d2
  refine ⟨?_, e⟩
  subst e
  exact Int.eq_of_mul_eq_mul_right (by omega) h
