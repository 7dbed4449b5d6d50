/-! what the Statement gives of the start (by program: wip/whole/gen/lw5.py) -/
theorem ly_J0 : ∀ w ∈ u_ws RJ0 TJ0 4, w ∈ tw := by
  intro w hw
  obtain ⟨k, hk, rfl⟩ := List.mem_map.mp hw
  have hk := List.mem_range.mp hk
  match k, hk with
  | 0, _ => exact tw_in 943 (by decide +kernel) rfl
  | 1, _ => exact tw_in 945 (by decide +kernel) rfl
  | 2, _ => exact tw_in 947 (by decide +kernel) rfl
  | 3, _ => exact tw_in 949 (by decide +kernel) rfl
  | k + 4, hk => exact absurd hk (by omega)
section LST
variable {b : Nat} {s : State}
theorem st_tb {w : Cond} (hts : ∀ w ∈ lw_tbl, w.before #[Value.ref b] s = true) (i : Nat) (h : tables_1[i]? = some w) : w.before #[Value.ref b] s = true := hts w (List.mem_append_right _ (List.mem_of_getElem? h))
theorem st_at {w : Cond} (hs : ∀ c ∈ flatC (Jvm.Cond.and given_1 narrow_1), c.before #[Value.ref b] s = true) (i : Nat) (h : (flatC (Jvm.Cond.and given_1 narrow_1))[i]? = some w) : w.before #[Value.ref b] s = true := hs w (List.mem_of_getElem? h)
theorem st_rf (hs : ∀ c ∈ flatC (Jvm.Cond.and given_1 narrow_1), c.before #[Value.ref b] s = true) {N : Nat} {o : Nat → Nat} {g : Nat → Cond} (h : ((List.range N).all (fun j => decide ((flatC (Jvm.Cond.and given_1 narrow_1))[o j]? = some (g j)))) = true) : ∀ j, j < N → (g j).before #[Value.ref b] s = true := fun j hj => st_at hs (o j) (of_decide_eq_true (List.all_eq_true.mp h j (List.mem_range.mpr hj)))
end LST
abbrev st_D1 : Term := .static "java/lang/Integer" "DigitOnes" "[B"
abbrev st_D2 : Term := .static "java/lang/Integer" "DigitTens" "[B"
abbrev st_WS : Term := .static "TutorLines" "WITNESS_SHIFTS" "[I"
def st_pk (i : Nat) : Nat := [42, 48, 50, 84, 86].getD i 0
def st_bs (i : Nat) : Nat := [316, 329, 343, 293, 304].getD i 0
abbrev st_S (i : Nat) : Term := .string "TutorLines$Paper" (st_pk i)
abbrev st_V (i : Nat) : Term := .field (st_S i) "java/lang/String" "value" "[B"
theorem st_ws : ((List.range 3).all (fun j => decide ((flatC (Jvm.Cond.and given_1 narrow_1))[(fun j => 14 + j) j]? = some ((fun j => Cond.eq (.elem st_WS (.int (Int32.ofNat j))) (.int (Int32.ofInt (tl_sf j)))) j)))) = true := by decide +kernel
theorem st_d1 : ((List.range 100).all (fun j => decide ((flatC (Jvm.Cond.and given_1 narrow_1))[(fun j => 20 + j) j]? = some ((fun j => Cond.eq (.elem st_D1 (.int (Int32.ofNat j))) (.int (Int32.ofInt (48 + ((j % 10 : Nat) : Int))))) j)))) = true := by decide +kernel
theorem st_d2 : ((List.range 100).all (fun j => decide ((flatC (Jvm.Cond.and given_1 narrow_1))[(fun j => 123 + j) j]? = some ((fun j => Cond.eq (.elem st_D2 (.int (Int32.ofNat j))) (.int (Int32.ofInt (48 + ((j / 10 : Nat) : Int))))) j)))) = true := by decide +kernel
theorem st_s0 : ((List.range 5).all (fun j => decide ((flatC (Jvm.Cond.and given_1 narrow_1))[st_bs j]? = some ((fun j => Cond.exactly (st_S j) "java/lang/String") j)))) = true := by decide +kernel
theorem st_s1 : ((List.range 5).all (fun j => decide ((flatC (Jvm.Cond.and given_1 narrow_1))[(fun j => st_bs j + 1) j]? = some ((fun j => Cond.eq (.field (st_S j) "java/lang/String" "coder" "B") (.int 0)) j)))) = true := by decide +kernel
theorem st_s2 : ((List.range 5).all (fun j => decide ((flatC (Jvm.Cond.and given_1 narrow_1))[(fun j => st_bs j + 2) j]? = some ((fun j => Cond.arrayOf (st_V j) .byte) j)))) = true := by decide +kernel
theorem st_s3 : ((List.range 5).all (fun j => decide ((flatC (Jvm.Cond.and given_1 narrow_1))[(fun j => st_bs j + 3) j]? = some ((fun j => Cond.eq (.length (st_V j)) (.int (Int32.ofNat (tc_len.getD j 0)))) j)))) = true := by decide +kernel
theorem st_s4 : ((List.range 15).all (fun j => decide ((flatC (Jvm.Cond.and given_1 narrow_1))[(fun j => st_bs (j / 3) + 4 + j % 3) j]? = some ((fun j => Cond.eq (.elem (st_V (j / 3)) (.int (Int32.ofNat (j % 3)))) (.int ((tc_byt.getD (j / 3) []).getD (j % 3) 0))) j)))) = true := by decide +kernel
theorem st_s5 : ((List.range 25).all (fun n => decide (n / 5 = n % 5) || decide (Cond.not (Cond.eq (st_S (n / 5)) (st_S (n % 5))) ∈ flatC (Jvm.Cond.and given_1 narrow_1)) || decide (Cond.not (Cond.eq (st_S (n % 5)) (st_S (n / 5))) ∈ flatC (Jvm.Cond.and given_1 narrow_1)))) = true := by decide +kernel
theorem st_l3 : ∀ i, i < 5 → tc_len.getD i 0 = 3 := by decide
set_option maxHeartbeats 1000000 in
/-- the constants that were there before the law began -/
theorem st_Cs {b : Nat} {s : State} (hts : ∀ w ∈ lw_tbl, w.before #[Value.ref b] s = true) (htw : ∀ w ∈ tw, w.before #[Value.ref b] s = true) (hs : ∀ c ∈ flatC (Jvm.Cond.and given_1 narrow_1), c.before #[Value.ref b] s = true) : tm_Cs s.heap s := by
  have hA : ∀ a : Nat, a < s.heap.size → ¬ tm_A s.heap a := fun a h q => Nat.lt_irrefl _ (Nat.lt_of_lt_of_le h q)
  have hW : ∀ w ∈ tx_cl, va_Nw w s := by
    intro w hw
    unfold tx_cl at hw
    simp only [List.mem_cons, List.not_mem_nil, or_false] at hw
    rcases hw with rfl | rfl | rfl | rfl | rfl
    · exact va_Nw.of rfl (st_tb hts 324 (by decide +kernel))
    · exact va_Nw.of rfl (st_tb hts 326 (by decide +kernel))
    · exact va_Nw.of rfl (st_tb hts 328 (by decide +kernel))
    · exact va_Nw.of rfl (st_tb hts 323 (by decide +kernel))
    · exact va_Nw.of rfl (st_tb hts 538 (by decide +kernel))
  have hn : ∀ w ∈ tc_n, va_Nw w s := by
    intro w hw
    unfold tc_n at hw
    simp only [List.mem_cons, List.not_mem_nil, or_false] at hw
    rcases hw with rfl | rfl | rfl | rfl | rfl | rfl | rfl | rfl
    · exact va_Nw.of rfl (st_tb hts 45 (by decide +kernel))
    · exact va_Nw.of rfl (st_tb hts 51 (by decide +kernel))
    · exact va_Nw.of rfl (st_tb hts 116 (by decide +kernel))
    · exact va_Nw.of rfl (st_tb hts 121 (by decide +kernel))
    · exact va_Nw.of rfl (st_tb hts 151 (by decide +kernel))
    · exact va_Nw.of rfl (st_tb hts 156 (by decide +kernel))
    · exact va_Nw.of rfl (st_tb hts 170 (by decide +kernel))
    · exact va_Nw.of rfl (st_tb hts 173 (by decide +kernel))
  have hp : ∀ w ∈ tc_p, va_Nw w s := by
    intro w hw
    unfold tc_p at hw
    simp only [List.mem_cons, List.not_mem_nil, or_false] at hw
    rcases hw with rfl | rfl | rfl | rfl
    · exact va_Nw.of rfl (sel_priv (C := RJ4) (x0 := yJ5_isLatin1_aae02) (y0 := yJ5_isLatin1_aae02) (y := yJ5_ensureCapacityInternal_d00df) (n := 4) (by decide) (htw _ is_J4) (st_tb hts 744 (by decide +kernel)) (st_tb hts 745 (by decide +kernel)) (htw _ sl_isL) rfl)
    · exact va_Nw.of rfl (sel_priv (C := RJ4) (x0 := yJ5_isLatin1_aae02) (y0 := yJ5_isLatin1_aae02) (y := yJ5_newCapacity_0f7a4) (n := 4) (by decide) (htw _ is_J4) (st_tb hts 748 (by decide +kernel)) (st_tb hts 749 (by decide +kernel)) (htw _ sl_isL) rfl)
    · exact va_Nw.of rfl (sel_priv (C := RJ4) (x0 := yJ5_isLatin1_aae02) (y0 := yJ5_isLatin1_aae02) (y := yJ5_inflateIfNeededFor_a7421) (n := 4) (by decide) (htw _ is_J4) (st_tb hts 832 (by decide +kernel)) (st_tb hts 833 (by decide +kernel)) (htw _ sl_isL) rfl)
    · exact va_Nw.of rfl (sel_priv (C := RJ4) (x0 := yJ5_isLatin1_aae02) (y0 := yJ5_isLatin1_aae02) (y := yJ5_putStringAt_47b60) (n := 4) (by decide) (htw _ is_J4) (st_tb hts 828 (by decide +kernel)) (st_tb hts 829 (by decide +kernel)) (htw _ sl_isL) rfl)
  obtain ⟨w, hw1, hw2⟩ := va_Tof (tm := st_WS) (ty := .int) (N := 3) (f := fun j => ji (tl_sf j)) (A := tm_A s.heap) (by decide) (st_at hs 12 (by decide +kernel)) (va_eqv (u := .int (Int32.ofNat 3)) (st_at hs 13 (by decide +kernel)) rfl) (fun j hj => va_eqv (u := .int (Int32.ofInt (tl_sf j))) (st_rf hs st_ws j hj) rfl) hA
  obtain ⟨d1, hd1, hd2⟩ := va_Tof (tm := st_D1) (ty := .byte) (N := 100) (f := fun j => ji (48 + ((j % 10 : Nat) : Int))) (A := tm_A s.heap) (by decide) (st_at hs 18 (by decide +kernel)) (va_eqv (u := .int (Int32.ofNat 100)) (st_at hs 19 (by decide +kernel)) rfl) (fun j hj => va_eqv (u := .int (Int32.ofInt (48 + ((j % 10 : Nat) : Int)))) (st_rf hs st_d1 j hj) rfl) hA
  obtain ⟨e1, he1, he2⟩ := va_Tof (tm := st_D2) (ty := .byte) (N := 100) (f := fun j => ji (48 + ((j / 10 : Nat) : Int))) (A := tm_A s.heap) (by decide) (st_at hs 121 (by decide +kernel)) (va_eqv (u := .int (Int32.ofNat 100)) (st_at hs 122 (by decide +kernel)) rfl) (fun j hj => va_eqv (u := .int (Int32.ofInt (48 + ((j / 10 : Nat) : Int)))) (st_rf hs st_d2 j hj) rfl) hA
  obtain ⟨adK, adV, hS, hE⟩ := vk_Sof (N := 5) (tm := st_S) (len := tc_len) (byt := tc_byt) (A := tm_A s.heap) (fun i hi => by rw [st_l3 i hi]; decide) (st_rf hs st_s0) (st_rf hs st_s1) (st_rf hs st_s2) (st_rf hs st_s3)
    (fun i hi j hj => by
      rw [st_l3 i hi] at hj
      have h0 := st_rf hs st_s4 (3 * i + j) (by omega)
      rw [show (3 * i + j) / 3 = i from by omega, show (3 * i + j) % 3 = j from by omega] at h0
      exact h0)
    (fun i j hi hj hij => by
      have h0 := List.all_eq_true.mp st_s5 (5 * i + j) (List.mem_range.mpr (by omega))
      rw [show (5 * i + j) / 5 = i from by omega, show (5 * i + j) % 5 = j from by omega] at h0
      simp only [Bool.or_eq_true, decide_eq_true_eq] at h0
      rcases h0 with (h0 | h0) | h0
      · exact absurd h0 hij
      · exact Or.inl (hs _ h0)
      · exact Or.inr (hs _ h0)) hA
  refine ⟨⟨⟨vx_Zqof (st_tb hts 348 (by decide +kernel)) (st_tb hts 13 (by decide +kernel)) (st_at hs 9 (by decide +kernel)) hA, vx_Zqof (st_tb hts 350 (by decide +kernel)) (st_tb hts 13 (by decide +kernel)) (st_at hs 10 (by decide +kernel)) hA, hW, w, va_Zof (st_tb hts 675 (by decide +kernel)) (st_tb hts 1 (by decide +kernel)) hw1 hA, hw2⟩, va_Zqof (st_tb hts 290 (by decide +kernel)) (st_tb hts 26 (by decide +kernel)) (st_at hs 5 (by decide +kernel)) hA⟩, va_Zof (st_tb hts 187 (by decide +kernel)) (st_tb hts 10 (by decide +kernel)) (va_eqv (u := .int (Int32.ofInt 1)) (st_at hs 4 (by decide +kernel)) rfl) hA, ⟨d1, va_Zof (st_tb hts 875 (by decide +kernel)) (st_tb hts 27 (by decide +kernel)) hd1 hA, hd2⟩, ⟨e1, va_Zof (st_tb hts 877 (by decide +kernel)) (st_tb hts 27 (by decide +kernel)) he1 hA, he2⟩, va_AO.of (st_tb hts 114 (by decide +kernel)), va_AO.of (st_tb hts 43 (by decide +kernel)), ⟨hn, hp⟩, adK, adV, hS, ?_, ?_, ?_, ?_, ?_⟩
  · exact vk_R.of (A := #[Value.ref b]) (st_tb hts 992 (by decide +kernel)) (hE 0 (by decide))
  · exact vk_R.of (A := #[Value.ref b]) (st_tb hts 993 (by decide +kernel)) (hE 1 (by decide))
  · exact vk_R.of (A := #[Value.ref b]) (st_tb hts 994 (by decide +kernel)) (hE 2 (by decide))
  · exact vk_R.of (A := #[Value.ref b]) (st_tb hts 989 (by decide +kernel)) (hE 3 (by decide))
  · exact vk_R.of (A := #[Value.ref b]) (st_tb hts 990 (by decide +kernel)) (hE 4 (by decide))
set_option maxHeartbeats 1000000 in
/-- the classes and the rows' classes, by number -/
theorem st_K {b : Nat} {s : State} (hts : ∀ w ∈ lw_tbl, w.before #[Value.ref b] s = true) (htw : ∀ w ∈ tw, w.before #[Value.ref b] s = true) : ∃ G : tm_G, va_K G.1 vwCl (tm_tys G) s := by
  obtain ⟨c0, i0, k0⟩ := u_known (C := RJ0) (T := TJ0) (N := 4) (n := 4) htw ly_J0 (htw _ is_J0)
  obtain ⟨c1, i1, k1⟩ := u_known (C := RJ4) (T := TJ4) (N := 4) (n := 4) htw ly_J4 (htw _ is_J4)
  obtain ⟨c2, i2, k2⟩ := u_known (C := RX0) (T := TX0) (N := 2) (n := 2) htw ly_X0 (htw _ is_X0)
  obtain ⟨c3, i3, k3⟩ := u_known (C := RX1) (T := TX1) (N := 3) (n := 3) htw ly_X1 (htw _ is_X1)
  obtain ⟨c4, i4, k4⟩ := u_known (C := RX2) (T := TX2) (N := 1) (n := 1) htw ly_X2 (htw _ is_X2)
  obtain ⟨c5, i5, k5⟩ := u_known (C := RX4) (T := TX4) (N := 8) (n := 8) htw ly_X4 (htw _ is_X4)
  obtain ⟨c6, i6, k6⟩ := u_known (C := RX5) (T := TX5) (N := 2) (n := 2) htw ly_X5 (htw _ is_X5)
  obtain ⟨c7, i7, k7⟩ := u_known (C := RX7) (T := TX7) (N := 3) (n := 3) htw ly_X7 (htw _ is_X7)
  obtain ⟨c8, i8, k8⟩ := u_known (C := RX8) (T := TX8) (N := 14) (n := 14) htw ly_X8 (htw _ is_X8)
  obtain ⟨c9, i9, k9⟩ := u_known (C := RX9) (T := TX9) (N := 29) (n := 29) htw ly_X9 (htw _ is_X9)
  obtain ⟨a20, q20, m20, f20, g20, h20⟩ := Cond.arrayClass_spec (args := #[Value.ref b]) (first := s) (o := none) (idx := []) (htw _ ac_int)
  obtain ⟨a21, q21, m21, f21, g21, h21⟩ := Cond.arrayClass_spec (args := #[Value.ref b]) (first := s) (o := none) (idx := []) (htw _ ac_long)
  obtain ⟨a22, q22, m22, f22, g22, h22⟩ := Cond.arrayClass_spec (args := #[Value.ref b]) (first := s) (o := none) (idx := []) (htw _ ac_byte)
  obtain ⟨a23, q23, m23, f23, g23, h23⟩ := Cond.arrayClass_spec (args := #[Value.ref b]) (first := s) (o := none) (idx := []) (htw _ ac_boolean)
  obtain ⟨m24, a24, q24, x24, -, g24, h24, f24⟩ := Cond.arrayOver_spec (args := #[Value.ref b]) (first := s) (o := none) (idx := []) (n := "TutorLines$Side") (st_tb hts 43 (by decide +kernel))
  obtain ⟨m25, a25, q25, x25, -, g25, h25, f25⟩ := Cond.arrayOver_spec (args := #[Value.ref b]) (first := s) (o := none) (idx := []) (n := "TutorLines$Line") (st_tb hts 114 (by decide +kernel))
  refine ⟨((fun k => match k with | 0 => c0 | 1 => c1 | 2 => c2 | 3 => c3 | 4 => c4 | 5 => c5 | 6 => c6 | 7 => c7 | 8 => c8 | _ => c9, fun k => match k with | 0 => i0 | 1 => i1 | 2 => i2 | 3 => i3 | 4 => i4 | 5 => i5 | 6 => i6 | 7 => i7 | 8 => i8 | _ => i9), fun k => match k with | 20 => a20 | 21 => a21 | 22 => a22 | 23 => a23 | 24 => a24 | _ => a25), ?_, ?_⟩
  · intro k q hq
    match k, hq with
    | 0, hq => cases hq; exact k0
    | 1, hq => cases hq; exact k1
    | 2, hq => cases hq; exact k2
    | 3, hq => cases hq; exact k3
    | 4, hq => cases hq; exact k4
    | 5, hq => cases hq; exact k5
    | 6, hq => cases hq; exact k6
    | 7, hq => cases hq; exact k7
    | 8, hq => cases hq; exact k8
    | 9, hq => cases hq; exact k9
    | k + 10, hq => cases hq
  · intro k q hq
    match k, hq with
    | 0, hq => cases hq; exact ⟨fun n z => ⟨fun k h => (by cases h), q20, g20, m20, h20⟩, f20⟩
    | 1, hq => cases hq; exact ⟨fun n z => ⟨fun k h => (by cases h), q21, g21, m21, h21⟩, f21⟩
    | 2, hq => cases hq; exact ⟨fun n z => ⟨fun k h => (by cases h), q22, g22, m22, h22⟩, f22⟩
    | 3, hq => cases hq; exact ⟨fun n z => ⟨fun k h => (by cases h), q23, g23, m23, h23⟩, f23⟩
    | 4, hq => cases hq; exact ⟨fun n z => ⟨fun k h => (by cases h), q24, g24, m24, h24⟩, ⟨q24, m24, g24, h24, x24, f24⟩⟩
    | 5, hq => cases hq; exact ⟨fun n z => ⟨fun k h => (by cases h), q25, g25, m25, h25⟩, ⟨q25, m25, g25, h25, x25, f25⟩⟩
    | k + 6, hq => cases hq
theorem LJ_0 {sh2 sh4 sh5 : tm_sh} {M2 M4 M5 : tm_M} {T : Nat} (h1 : isTL sh2 M2 T) (h2 : TLv M2 T z00) (h3 : mR M2 (T + 390) 0 = some (T + 391)) (h4 : isSB sh2 M2 (T + 391) (T + 392) 16 []) (g1 : MLv sh4 M4 (T + 395) z00) (g2 : MO M4 (T + 395) []) (e1 : ∀ a, a < T + 395 → sh5 a = sh2 a ∧ ∀ k, mR M5 a k = mR M2 a k ∧ mI M5 a k = mI M2 a k ∧ mL M5 a k = mL M2 a k) (e2 : ∀ a, a < T + 408 → sh5 a = sh4 a ∧ ∀ k, mR M5 a k = mR M4 a k ∧ mI M5 a k = mI M4 a k ∧ mL M5 a k = mL M4 a k) (h8 : sh5 (T + 408) = some (21, 1)) : LJ sh5 M5 T z00 [] z00 [] :=
  ⟨isTL_mv h1 (fun a q1 q2 q3 q4 => ⟨(e1 a q2).1, fun k => ((e1 a q2).2 k).1⟩), TLv_same h2 (fun a k q => ((e1 a (by omega)).2 k).2), ((e1 (T + 390) (by omega)).2 0).1.trans h3, ⟨T + 392, 16, isSB_mv h4 (fun a q => ⟨(e1 a (by omega)).1, fun k => ⟨((e1 a (by omega)).2 k).1, ((e1 a (by omega)).2 k).2.1⟩⟩), Or.inl rfl⟩, MLv_mv g1 (fun a q1 q2 => e2 a (by omega)), MO_mv g2 (fun k => ⟨((e2 (T + 395) (by omega)).2 8).2.1, ((e2 (T + 395 + 5) (by omega)).2 k).2.1⟩), h8⟩
set_option maxHeartbeats 1000000 in
set_option maxRecDepth 100000 in
/-- THE LAW, from its entry, on a launch without stack traces -/
theorem whole_start {p : Program} {e : Env} {s : State} {m : MethodId} {below : List Frame} {meth : Method} {c : Code} (l : Launch) (h9 : l.stackTraces = false) {b L : Nat} {xs : Nat → Int32} (hL : L ≤ 1536) (C0 : lw_At p s m meth c b L xs) : W p l e room_1 s m #[Value.ref b] below meth c s.heap [] 0 0 (lw_Z below #[Value.ref b] s) (entryFrame m ([Value.ref b] : List Value).toArray 8) := by
  obtain ⟨hx, hb, hr, hml, hown, hts, hX, hbl, hlk, hgv⟩ := (id C0)
  have htw : ∀ w ∈ tw, w.before #[Value.ref b] s = true := fun w hw => hts w (List.mem_filter.mp hw).1
  have hs := flat_of_before _ hgv
  have hown : s.vm.findClass RL = some m.cls := hown
  have hb : c.code = cL_law := hb
  obtain ⟨G, hK⟩ := st_K hts htw
  have hC := st_Cs hts htw hs
  have hN : NcX s := va_Nc.of (st_at hs 232 (by decide +kernel))
  have F : lw_Fx p l s m c b L xs G := ⟨hx, hb, hml, hown, htw, hK, hC, hN, h9, hX, hbl, hL⟩
  have hS : va_S (tm_A s.heap) s.heap s.heap [] := va_S.rf
  have hW : tm_W G s.heap (fun _ => none) (fun _ _ => none, fun _ _ => 0, fun _ _ => 0) s.heap := ⟨fun q kd n h => (by cases h), fun q h => rfl⟩
  have hl := lv_entry ([.ref b]) (n := 8) (Nat.le_of_ble_eq_true rfl)
  rw [lg_entry_eq]
  generalize (lg_sl ([.ref b]) ++ List.replicate (8 - (lg_sl ([.ref b])).length) Slot.unset).toArray = ls at hl ⊢
  have hl : lv_has ls 8 [(0, .ref b)] := hl
  obtain ⟨T, hT⟩ : ∃ T, s.heap.size = T := ⟨_, rfl⟩
  refine nw_L_8 hx hb htw hown hK hW hS hT (Nat.le_of_ble_eq_true rfl) (Nat.le_of_ble_eq_true rfl) dL_law_0 (fun H hW hS hh => ?_)
  refine lv_dup hx hb dL_law_3 rfl ?_
  refine tz_callv (ci_L_51 hx hb hml hown htw hK hW hC hS hh (c_X8_init (T := T) sN_s (fun k => zM_Is k)) ⟨rfl, rfl, Nat.le_of_ble_eq_true rfl, Nat.le_of_ble_eq_true rfl⟩ hl.1 (Nat.le_of_ble_eq_true rfl) dL_law_4 ⟨(Nat.le_of_ble_eq_true rfl), (Nat.le_of_ble_eq_true rfl)⟩) hS (fun sh2 M2 h2 H locs hp2 hW hS hz2 => ?_)
  obtain ⟨x1, x2, x3, x4, -, x6⟩ := hp2
  have hh : H.size = T + 395 := hz2.trans x6
  refine lv_astore_n (lv' := [(1, _), (0, _)]) hx hb dL_law_7 rfl hl (by decide) rfl (fun ls hl => ?_)
  refine nw_L_52 hx hb htw hown hK hW hS hh (Nat.le_of_ble_eq_true rfl) (Nat.le_of_ble_eq_true rfl) dL_law_8 (fun H hW hS hh => ?_)
  refine lv_dup hx hb dL_law_11 rfl ?_
  refine tz_callv (ci_L_54 hx hb hml hown htw hK hW hC hS hh (c_X9_init (q := T + 395) sN_s (fun k => zM_Is k)) ⟨rfl, rfl, Nat.le_of_ble_eq_true rfl, Nat.le_of_ble_eq_true rfl⟩ hl.1 (Nat.le_of_ble_eq_true rfl) dL_law_12 ⟨(Nat.le_of_ble_eq_true rfl), (Nat.le_of_ble_eq_true rfl)⟩) hS (fun sh4 M4 h4 H locs hp4 hW hS hz4 => ?_)
  obtain ⟨y1, y2, y3, y4⟩ := hp4
  have hh : H.size = T + 408 := by omega
  refine lv_astore_n (lv' := [(2, _), (1, _), (0, _)]) hx hb dL_law_15 rfl hl (by decide) rfl (fun ls hl => ?_)
  refine ti_iconst hx hb dL_law_16 ?_
  refine na_long (N := 1) hx hb htw hK hW hS hh rfl (by decide) (Nat.le_of_ble_eq_true rfl) (Nat.le_of_ble_eq_true rfl) dL_law_17 (fun H hW hS hh => ?_)
  refine lv_astore_n (lv' := [(3, _), (2, _), (1, _), (0, _)]) hx hb dL_law_19 rfl hl (by decide) rfl (fun ls hl => ?_)
  refine ti_iconst hx hb dL_law_20 ?_
  refine lv_istore (lv' := [(4, _), (3, _), (2, _), (1, _), (0, _)]) hx hb dL_law_21 hl (by decide) rfl (fun ls hl => ?_)
  have J : LJ (sN sh4 (T + 408) 21 1) (zM M4 (T + 408)) T z00 [] z00 [] := by
    refine LJ_0 x1 x2 x3 x4 y1 y2 (fun a ha => ⟨?_, fun k => ⟨?_, ?_, ?_⟩⟩) (fun a ha => ⟨sN_n (by omega), fun k => ⟨zM_R (by omega) k, zM_I (by omega) k, zM_L (by omega) k⟩⟩) sN_s
    · exact (sN_n (by omega)).trans ((y3.1 a ha).trans (sN_n (by omega)))
    · exact (zM_R (by omega) k).trans ((y3.2 a k ha).1.trans (zM_R (by omega) k))
    · exact (zM_I (by omega) k).trans ((y3.2 a k ha).2.1.trans (zM_I (by omega) k))
    · exact (zM_L (by omega) k).trans ((y3.2 a k ha).2.2.trans (zM_L (by omega) k))
  exact lw_loop (T := T) F hr hlk 512 0 _ _ z00 [] _ _ ls _ _ ⟨J, ZI_00, PLt_0, hW, hS, lv_sub hl [4, 3, 2, 1, 0] rfl⟩ (by omega) (by omega) (by omega) (Nat.le_of_ble_eq_true rfl) (Nat.le_of_ble_eq_true rfl)
