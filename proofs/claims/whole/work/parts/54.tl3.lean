/-! TutorLines: tellsApart, findWitness (by program: wip/whole/gen/tl3.py) -/
def tl_sh (f : tl_F) (k : Int) : tl_F := (f.1 + k * f.2, f.2)
def tl_tell (A B S : Int × tl_F) (k : Int) : Int := if 2 ≤ S.1 then (if tl_holds A (tl_sh S.2 k) = tl_holds B (tl_sh S.2 k) then 0 else 1) else 0
theorem tl_tell_z (A B S : Int × tl_F) (k : Int) : tl_tell A B S k = 0 ∨ tl_tell A B S k = 1 := by
  unfold tl_tell
  split
  · split
    · exact Or.inl rfl
    · exact Or.inr rfl
  · exact Or.inl rfl
def pok2 (f : tl_F) : Prop := f.1.natAbs ≤ 19992001499960002 ∧ f.2 ≤ 19992001499960002 ∧ 0 < f.2
theorem pok_sh {f : tl_F} {k : Int} (h : pok2 f) (hk : -1 ≤ k ∧ k ≤ 1) : pok (tl_sh f k) := by
  obtain ⟨h1, h2, h3⟩ := h
  have e : k = -1 ∨ k = 0 ∨ k = 1 := by omega
  unfold tl_sh pok
  rcases e with rfl | rfl | rfl
  · show (f.1 + -1 * f.2).natAbs ≤ _ ∧ 0 < f.2 ∧ f.2 ≤ _
    omega
  · show (f.1 + 0 * f.2).natAbs ≤ _ ∧ 0 < f.2 ∧ f.2 ≤ _
    omega
  · show (f.1 + 1 * f.2).natAbs ≤ _ ∧ 0 < f.2 ∧ f.2 ≤ _
    omega
def tl_wit (A B : Int × tl_F) : Nat → Nat → tl_F
  | 0, _ => (0, 1)
  | k + 1, i => if tl_tell A B A (tl_sf i) = 1 then tl_sh A.2 (tl_sf i) else if tl_tell A B B (tl_sf i) = 1 then tl_sh B.2 (tl_sf i) else tl_wit A B k (i + 1)
theorem so_fS {M : tm_M} {q a : Nat} (f : tl_F) (h : a + 1 ≠ q) : so (fS M q f) a = so M a := by
  show (mI M a 0, fr (fS M q f) (a + 1)) = _
  rw [fr_n _ _ h]
theorem tl_sf_r (i : Nat) : -1 ≤ tl_sf i ∧ tl_sf i ≤ 1 := by
  unfold tl_sf
  split
  · omega
  · split <;> omega
theorem dX8_tellsApart_0 : decode cX8_tellsApart 0 = .ok (.aload_n 1, 1) := by decide +kernel
theorem dX8_tellsApart_1 : decode cX8_tellsApart 1 = .ok (.invokevirtual 200, 3) := by decide +kernel
theorem dX8_tellsApart_4 : decode cX8_tellsApart 4 = .ok (.ifCond .ne 5, 3) := by decide +kernel
theorem dX8_tellsApart_7 : decode cX8_tellsApart 7 = .ok (.iconst 0, 1) := by decide +kernel
theorem dX8_tellsApart_8 : decode cX8_tellsApart 8 = .ok (.ireturn, 1) := by decide +kernel
theorem dX8_tellsApart_9 : decode cX8_tellsApart 9 = .ok (.aload_n 0, 1) := by decide +kernel
theorem dX8_tellsApart_10 : decode cX8_tellsApart 10 = .ok (.getfield 47, 3) := by decide +kernel
theorem dX8_tellsApart_13 : decode cX8_tellsApart 13 = .ok (.aload_n 1, 1) := by decide +kernel
theorem dX8_tellsApart_14 : decode cX8_tellsApart 14 = .ok (.getfield 151, 3) := by decide +kernel
theorem dX8_tellsApart_17 : decode cX8_tellsApart 17 = .ok (.iload_n 2, 1) := by decide +kernel
theorem dX8_tellsApart_18 : decode cX8_tellsApart 18 = .ok (.invokevirtual 204, 3) := by decide +kernel
theorem dX8_tellsApart_21 : decode cX8_tellsApart 21 = .ok (.aload_n 0, 1) := by decide +kernel
theorem dX8_tellsApart_22 : decode cX8_tellsApart 22 = .ok (.getfield 37, 3) := by decide +kernel
theorem dX8_tellsApart_25 : decode cX8_tellsApart 25 = .ok (.aload_n 0, 1) := by decide +kernel
theorem dX8_tellsApart_26 : decode cX8_tellsApart 26 = .ok (.getfield 47, 3) := by decide +kernel
theorem dX8_tellsApart_29 : decode cX8_tellsApart 29 = .ok (.invokevirtual 208, 3) := by decide +kernel
theorem dX8_tellsApart_32 : decode cX8_tellsApart 32 = .ok (.aload_n 0, 1) := by decide +kernel
theorem dX8_tellsApart_33 : decode cX8_tellsApart 33 = .ok (.getfield 41, 3) := by decide +kernel
theorem dX8_tellsApart_36 : decode cX8_tellsApart 36 = .ok (.aload_n 0, 1) := by decide +kernel
theorem dX8_tellsApart_37 : decode cX8_tellsApart 37 = .ok (.getfield 47, 3) := by decide +kernel
theorem dX8_tellsApart_40 : decode cX8_tellsApart 40 = .ok (.invokevirtual 208, 3) := by decide +kernel
theorem dX8_tellsApart_43 : decode cX8_tellsApart 43 = .ok (.if_icmp .eq 7, 3) := by decide +kernel
theorem dX8_tellsApart_46 : decode cX8_tellsApart 46 = .ok (.iconst 1, 1) := by decide +kernel
theorem dX8_tellsApart_47 : decode cX8_tellsApart 47 = .ok (.goto 4, 3) := by decide +kernel
theorem dX8_tellsApart_50 : decode cX8_tellsApart 50 = .ok (.iconst 0, 1) := by decide +kernel
theorem dX8_tellsApart_51 : decode cX8_tellsApart 51 = .ok (.ireturn, 1) := by decide +kernel
set_option maxHeartbeats 4000000 in
set_option maxRecDepth 100000 in
/-- TutorLines.tellsApart -/
theorem c_X8_tellsApart {l : Launch} {G : tm_G} {Hb : Heap} {sh : tm_sh} {M : tm_M} {T S : Nat} {k : Int} (hT : isTL sh M T) (hSs : isSo sh M S) (hA : sook (so M (T + 383))) (hB1 : sook (so M (T + 386))) (hSo : 0 ≤ (so M S).1 ∧ (so M S).1 ≤ 4) (hS2 : pok2 (so M S).2) (hk : -1 ≤ k ∧ k ≤ 1) : Met l yX8_tellsApart (tws yX8_tellsApart cX8_tellsApart 3 (some .boolean)) ({ frames := 3, cells := 0, slots := 0, locals := 85 }) (va_Pc [.ref T, .ref S, ji k] (tm_St G Hb sh M)) (tm_Qi G Hb sh (fun r M1 => r = tl_tell (so M (T + 383)) (so M (T + 386)) (so M S) k ∧ M1 = if 2 ≤ (so M S).1 then (fS M (T + 389) (tl_sh (so M S).2 k)) else M)) 0 0 (tm_A Hb) := by
  refine tm_begin (by decide) (Nat.le_of_ble_eq_true rfl) (fun p e s m below meth c ls hx hb hr hml hown htw hlk hnm hK hW hl => ?_)
  have hS : va_S (tm_A Hb) s.heap s.heap [] := va_S.rf
  have hl : lv_has ls 3 [(0, .ref T), (1, .ref S), (2, ji k)] := hl
  obtain ⟨a0, ⟨r0, r1, r2, r4, r5, r6, r7, r10, r11, r12, r13⟩, ⟨s1, s2, s88, s389, s390, s393, s394⟩, hRd, hLs, hWr, hSc, hPs, hWs⟩ := hT
  refine lv_aload_n hx hb dX8_tellsApart_0 rfl (lv_at hl 1 rfl) ?_
  refine tm_calli (cs_X8_200 hx hb hml hown htw hK hW hSs.1 (c_X7_hasPlace hSs.1 (by show inI (so M S).1; omega)) ⟨rfl, rfl, Nat.le_of_ble_eq_true rfl, Nat.le_of_ble_eq_true rfl⟩ hl.1 (Nat.le_of_ble_eq_true rfl) dX8_tellsApart_1 ⟨Nat.le_of_ble_eq_true rfl, Nat.le_of_ble_eq_true rfl⟩) hS (fun x1 M1 H locs hp1 hW hS => ?_)
  obtain ⟨ex1, eM1⟩ := hp1
  rw [eM1] at hW
  rw [ex1]
  refine ti_if_ne (tgt := 9) hx hb dX8_tellsApart_4 (by decide) (tl_b_r _) (fun h4 => ?_) (fun h4 => ?_)
  · have kn : 2 ≤ (so M S).1 := tl_b_n.mp h4
    refine lv_aload_n hx hb dX8_tellsApart_9 rfl (lv_at hl 0 rfl) ?_
    refine gf_X8_47 hx hb htw hown hK hW (by assumption) (by assumption) dX8_tellsApart_10 ?_
    refine lv_aload_n hx hb dX8_tellsApart_13 rfl (lv_at hl 1 rfl) ?_
    refine gf_X8_151 hx hb htw hown hK hW hSs.1 hSs.2.1 dX8_tellsApart_14 ?_
    refine lv_iload_n hx hb dX8_tellsApart_17 rfl (lv_at hl 2 rfl) ?_
    refine tm_callv (cs_X8_204 hx hb hml hown htw hK hW (by assumption) (c_X0_setShifted s389 hSs.2.2.2.1 (by omega)) ⟨rfl, rfl, Nat.le_of_ble_eq_true rfl, Nat.le_of_ble_eq_true rfl⟩ hl.1 (Nat.le_of_ble_eq_true rfl) dX8_tellsApart_18 ⟨Nat.le_of_ble_eq_true rfl, Nat.le_of_ble_eq_true rfl⟩) hS (fun M18 H locs hp18 hW hS => ?_)
    have hp18 : M18 = (fS M (T + 389) (tl_sh (so M S).2 k)) := hp18
    rw [hp18] at hW
    have g18 : fr (fS M (T + 389) (tl_sh (so M S).2 k)) (T + 389) = (tl_sh (so M S).2 k) := fr_s _ _ _
    have b1 : so (fS M (T + 389) (tl_sh (so M S).2 k)) (T + 383) = so M (T + 383) := so_fS _ (by omega)
    have b2 : so (fS M (T + 389) (tl_sh (so M S).2 k)) (T + 386) = so M (T + 386) := so_fS _ (by omega)
    have px := pok_sh hS2 hk
    refine lv_aload_n hx hb dX8_tellsApart_21 rfl (lv_at hl 0 rfl) ?_
    refine gf_X8_37 hx hb htw hown hK hW (by assumption) (by assumption) dX8_tellsApart_22 ?_
    refine lv_aload_n hx hb dX8_tellsApart_25 rfl (lv_at hl 0 rfl) ?_
    refine gf_X8_47 hx hb htw hown hK hW (by assumption) (by assumption) dX8_tellsApart_26 ?_
    refine tm_calli (cs_X8_208 hx hb hml hown htw hK hW hPs.1 (c_X7_holds (isSo_m hPs rfl) s389 (by rw [b1]; exact hA) (by rw [g18]; exact px)) ⟨rfl, rfl, Nat.le_of_ble_eq_true rfl, Nat.le_of_ble_eq_true rfl⟩ hl.1 (Nat.le_of_ble_eq_true rfl) dX8_tellsApart_29 ⟨Nat.le_of_ble_eq_true rfl, Nat.le_of_ble_eq_true rfl⟩) hS (fun x29 M29 H locs hp29 hW hS => ?_)
    obtain ⟨ex29, eM29⟩ := hp29
    rw [eM29] at hW
    rw [ex29, b1, g18]
    refine lv_aload_n hx hb dX8_tellsApart_32 rfl (lv_at hl 0 rfl) ?_
    refine gf_X8_41 hx hb htw hown hK hW (by assumption) (by assumption) dX8_tellsApart_33 ?_
    refine lv_aload_n hx hb dX8_tellsApart_36 rfl (lv_at hl 0 rfl) ?_
    refine gf_X8_47 hx hb htw hown hK hW (by assumption) (by assumption) dX8_tellsApart_37 ?_
    refine tm_calli (cs_X8_208 hx hb hml hown htw hK hW hWs.1 (c_X7_holds (isSo_m hWs rfl) s389 (by rw [b2]; exact hB1) (by rw [g18]; exact px)) ⟨rfl, rfl, Nat.le_of_ble_eq_true rfl, Nat.le_of_ble_eq_true rfl⟩ hl.1 (Nat.le_of_ble_eq_true rfl) dX8_tellsApart_40 ⟨Nat.le_of_ble_eq_true rfl, Nat.le_of_ble_eq_true rfl⟩) hS (fun x40 M40 H locs hp40 hW hS => ?_)
    obtain ⟨ex40, eM40⟩ := hp40
    rw [eM40] at hW
    rw [ex40, b2, g18]
    refine ti_icmp_eq (tgt := 50) hx hb dX8_tellsApart_43 (by decide) (by rcases tl_holds_z (so M (T + 383)) (tl_sh (so M S).2 k) with q | q <;> rw [q] <;> decide) (by rcases tl_holds_z (so M (T + 386)) (tl_sh (so M S).2 k) with q | q <;> rw [q] <;> decide) (fun h43 => ?_) (fun h43 => ?_)
    · refine ti_iconst hx hb dX8_tellsApart_50 ?_
      exact tm_zret hx hb hr hlk (by first | exact Or.inl rfl | exact Or.inr rfl | assumption) hK hW hS ⟨by unfold tl_tell; rw [if_pos kn]; first | rw [if_pos h43] | rw [if_neg h43], (if_pos kn).symm⟩ dX8_tellsApart_51
    · refine ti_iconst hx hb dX8_tellsApart_46 ?_
      refine lv_goto (tgt := 51) hx hb dX8_tellsApart_47 (by decide) ?_
      exact tm_zret hx hb hr hlk (by first | exact Or.inl rfl | exact Or.inr rfl | assumption) hK hW hS ⟨by unfold tl_tell; rw [if_pos kn]; first | rw [if_pos h43] | rw [if_neg h43], (if_pos kn).symm⟩ dX8_tellsApart_51
  · have kn : ¬ 2 ≤ (so M S).1 := tl_b_0.mp h4
    refine ti_iconst hx hb dX8_tellsApart_7 ?_
    exact tm_zret hx hb hr hlk (by first | exact Or.inl rfl | exact Or.inr rfl | assumption) hK hW hS ⟨by unfold tl_tell; rw [if_neg kn], (if_neg kn).symm⟩ dX8_tellsApart_8
theorem dX8_findWitness_0 : decode cX8_findWitness 0 = .ok (.getstatic 189, 3) := by decide +kernel
theorem dX8_findWitness_3 : decode cX8_findWitness 3 = .ok (.astore_n 1, 1) := by decide +kernel
theorem dX8_findWitness_4 : decode cX8_findWitness 4 = .ok (.aload_n 1, 1) := by decide +kernel
theorem dX8_findWitness_5 : decode cX8_findWitness 5 = .ok (.arraylength, 1) := by decide +kernel
theorem dX8_findWitness_6 : decode cX8_findWitness 6 = .ok (.istore_n 2, 1) := by decide +kernel
theorem dX8_findWitness_7 : decode cX8_findWitness 7 = .ok (.iconst 0, 1) := by decide +kernel
theorem dX8_findWitness_8 : decode cX8_findWitness 8 = .ok (.istore_n 3, 1) := by decide +kernel
theorem dX8_findWitness_9 : decode cX8_findWitness 9 = .ok (.iload_n 3, 1) := by decide +kernel
theorem dX8_findWitness_10 : decode cX8_findWitness 10 = .ok (.iload_n 2, 1) := by decide +kernel
theorem dX8_findWitness_11 : decode cX8_findWitness 11 = .ok (.if_icmp .ge 41, 3) := by decide +kernel
theorem dX8_findWitness_14 : decode cX8_findWitness 14 = .ok (.aload_n 1, 1) := by decide +kernel
theorem dX8_findWitness_15 : decode cX8_findWitness 15 = .ok (.iload_n 3, 1) := by decide +kernel
theorem dX8_findWitness_16 : decode cX8_findWitness 16 = .ok (.iaload, 1) := by decide +kernel
theorem dX8_findWitness_17 : decode cX8_findWitness 17 = .ok (.istore 4, 2) := by decide +kernel
theorem dX8_findWitness_19 : decode cX8_findWitness 19 = .ok (.aload_n 0, 1) := by decide +kernel
theorem dX8_findWitness_20 : decode cX8_findWitness 20 = .ok (.aload_n 0, 1) := by decide +kernel
theorem dX8_findWitness_21 : decode cX8_findWitness 21 = .ok (.getfield 37, 3) := by decide +kernel
theorem dX8_findWitness_24 : decode cX8_findWitness 24 = .ok (.iload 4, 2) := by decide +kernel
theorem dX8_findWitness_26 : decode cX8_findWitness 26 = .ok (.invokevirtual 192, 3) := by decide +kernel
theorem dX8_findWitness_29 : decode cX8_findWitness 29 = .ok (.ifCond .ne 16, 3) := by decide +kernel
theorem dX8_findWitness_32 : decode cX8_findWitness 32 = .ok (.aload_n 0, 1) := by decide +kernel
theorem dX8_findWitness_33 : decode cX8_findWitness 33 = .ok (.aload_n 0, 1) := by decide +kernel
theorem dX8_findWitness_34 : decode cX8_findWitness 34 = .ok (.getfield 41, 3) := by decide +kernel
theorem dX8_findWitness_37 : decode cX8_findWitness 37 = .ok (.iload 4, 2) := by decide +kernel
theorem dX8_findWitness_39 : decode cX8_findWitness 39 = .ok (.invokevirtual 192, 3) := by decide +kernel
theorem dX8_findWitness_42 : decode cX8_findWitness 42 = .ok (.ifCond .eq 4, 3) := by decide +kernel
theorem dX8_findWitness_45 : decode cX8_findWitness 45 = .ok (.return_, 1) := by decide +kernel
theorem dX8_findWitness_46 : decode cX8_findWitness 46 = .ok (.iinc 3 1, 3) := by decide +kernel
theorem dX8_findWitness_49 : decode cX8_findWitness 49 = .ok (.goto (-40), 3) := by decide +kernel
theorem dX8_findWitness_52 : decode cX8_findWitness 52 = .ok (.aload_n 0, 1) := by decide +kernel
theorem dX8_findWitness_53 : decode cX8_findWitness 53 = .ok (.getfield 47, 3) := by decide +kernel
theorem dX8_findWitness_56 : decode cX8_findWitness 56 = .ok (.lconst 0, 1) := by decide +kernel
theorem dX8_findWitness_57 : decode cX8_findWitness 57 = .ok (.invokevirtual 196, 3) := by decide +kernel
theorem dX8_findWitness_60 : decode cX8_findWitness 60 = .ok (.return_, 1) := by decide +kernel
theorem fw_ite {M : tm_M} {q : Nat} {c : Prop} [Decidable c] (f : tl_F) (hq : q < q + 1) : tm_fr q (q + 1) M (if c then fS M q f else M) := by
  split
  · exact fw_fS f (by omega) hq
  · exact fw_rf
theorem tl_tell_k {A B S : Int × tl_F} {k : Int} (h : ¬ tl_tell A B S k = 0) : 2 ≤ S.1 := by
  unfold tl_tell at h
  by_cases q : 2 ≤ S.1
  · exact q
  · rw [if_neg q] at h
    exact absurd rfl h
theorem tl_tell_1 {A B S : Int × tl_F} {k : Int} (h : ¬ tl_tell A B S k = 0) : tl_tell A B S k = 1 := by
  rcases tl_tell_z A B S k with q | q
  · exact absurd q h
  · exact q
set_option maxHeartbeats 4000000 in
set_option maxRecDepth 100000 in
/-- TutorLines.findWitness -/
theorem c_X8_findWitness {l : Launch} {G : tm_G} {Hb : Heap} {sh : tm_sh} {M : tm_M} {T : Nat} (hT : isTL sh M T) (hA : sook (so M (T + 383))) (hB1 : sook (so M (T + 386))) (hA2 : pok2 (so M (T + 383)).2) (hB2 : pok2 (so M (T + 386)).2) : vx_Met l yX8_findWitness (tws yX8_findWitness cX8_findWitness 5 none) ({ frames := 4, cells := 0, slots := 0, locals := 107 }) (va_Pc [.ref T] (tx_St G Hb sh M)) (tm_Qv G Hb sh (fun M1 => fr M1 (T + 389) = tl_wit (so M (T + 383)) (so M (T + 386)) 3 0 ∧ tm_fr (T + 389) (T + 390) M M1)) (tx_X G Hb sh (fun _ _ => False)) 0 0 (tm_A Hb) := by
  refine tx_begin (by decide) (Nat.le_of_ble_eq_true rfl) (fun p e s m below meth c ls hx hb hr hml hown htw hlk htab hK hW hB hl => ?_)
  have hS : va_S (tm_A Hb) s.heap s.heap [] := va_S.rf
  have hl : lv_has ls 5 [(0, .ref T)] := hl
  have hT0 := hT
  obtain ⟨a0, ⟨r0, r1, r2, r4, r5, r6, r7, r10, r11, r12, r13⟩, ⟨s1, s2, s88, s389, s390, s393, s394⟩, hRd, hLs, hWr, hSc, hPs, hWs⟩ := hT
  obtain ⟨wa, hZ, hTb⟩ := hB.2.2.2
  have loop : ∀ (k i : Nat) (M1 : tm_M) (H : Heap) (locs : List Loc) (ls : Array Slot), i + k = 3 → tl_wit (so M (T + 383)) (so M (T + 386)) k i = tl_wit (so M (T + 383)) (so M (T + 386)) 3 0 → tm_fr (T + 389) (T + 390) M M1 → tm_W G Hb sh M1 H → va_S (tm_A Hb) s.heap H locs → lv_has ls 5 [(0, .ref T), (1, .ref wa), (2, ji (3 : Nat)), (3, ji (i : Nat))] → W p l e ({ frames := 4, cells := 0, slots := 0, locals := 107 }) s m [.ref T].toArray below meth c H locs 0 0 (vx_MQ below (tm_Qv G Hb sh (fun M1 => fr M1 (T + 389) = tl_wit (so M (T + 383)) (so M (T + 386)) 3 0 ∧ tm_fr (T + 389) (T + 390) M M1)) (tx_X G Hb sh (fun _ _ => False)) [.ref T].toArray s 0 0 (tm_A Hb)) (F0 m 9 ls []) := by
    intro k
    induction k with
    | zero =>
      intro i M1 H locs ls hk he hf hW hS hl
      refine lv_iload_n hx hb dX8_findWitness_9 rfl (lv_at hl 3 rfl) ?_
      refine lv_iload_n hx hb dX8_findWitness_10 rfl (lv_at hl 2 rfl) ?_
      refine ti_icmp_ge (tgt := 52) hx hb dX8_findWitness_11 (by decide) (by omega) (by omega) (fun h11 => ?_) (fun h11 => ?_)
      · refine lv_aload_n hx hb dX8_findWitness_52 rfl (lv_at hl 0 rfl) ?_
        refine gf_X8_47 hx hb htw hown hK hW (by assumption) (by rw [hf.1]; exact r10) dX8_findWitness_53 ?_
        refine ti_lconst0 hx hb dX8_findWitness_56 ?_
        refine tm_callv (cs_X8_196 hx hb hml hown htw hK hW (by assumption) (c_X0_setWhole s389) ⟨rfl, rfl, Nat.le_of_ble_eq_true rfl, Nat.le_of_ble_eq_true rfl⟩ hl.1 (Nat.le_of_ble_eq_true rfl) dX8_findWitness_57 ⟨Nat.le_of_ble_eq_true rfl, Nat.le_of_ble_eq_true rfl⟩) hS (fun M57 H locs hp57 hW hS => ?_)
        exact vx_ret (W.widen (k := 0) (n := 0) (Nat.le_of_ble_eq_true rfl) (Nat.le_of_ble_eq_true rfl) (tm_vret hx hb hr hlk hK hW hS ⟨by rw [hp57, ← he]; exact fr_s _ _ _, by rw [hp57]; exact fw_tr hf (fw_fS _ (by omega) (by omega))⟩ dX8_findWitness_60))
      · exact absurd (show ((3 : Nat) : Int) ≤ (i : Int) by omega) h11
    | succ k ih =>
      intro i M1 H locs ls hk he hf hW hS hl
      have sr := tl_sf_r i
      have T1 : isTL sh M1 T := isTL_m hT0 hf.1
      have A1 : so M1 (T + 383) = (so M (T + 383)) := so_fr hf (by omega)
      have B1 : so M1 (T + 386) = (so M (T + 386)) := so_fr hf (by omega)
      obtain ⟨a0a, ⟨r0a, r1a, r2a, r4a, r5a, r6a, r7a, r10a, r11a, r12a, r13a⟩, ⟨s1a, s2a, s88a, s389a, s390a, s393a, s394a⟩, hRda, hLsa, hWra, hSca, hPsa, hWsa⟩ := (isTL_m hT0 hf.1 : isTL sh M1 T)
      refine lv_iload_n hx hb dX8_findWitness_9 rfl (lv_at hl 3 rfl) ?_
      refine lv_iload_n hx hb dX8_findWitness_10 rfl (lv_at hl 2 rfl) ?_
      refine ti_icmp_ge (tgt := 52) hx hb dX8_findWitness_11 (by decide) (by omega) (by omega) (fun h11 => ?_) (fun h11 => ?_)
      · exact absurd h11 (by omega)
      · refine lv_aload_n hx hb dX8_findWitness_14 rfl (lv_at hl 1 rfl) ?_
        refine lv_iload_n hx hb dX8_findWitness_15 rfl (lv_at hl 3 rfl) ?_
        refine va_ti hx hb hTb hS (tm_ix (n := 3) (by omega) (by omega) (by decide)).1 (v := ji (tl_sf i)) (by rw [(tm_ix (e := (i : Int)) (n := 3) (by omega) (by omega) (by decide)).2]; rfl) dX8_findWitness_16 ?_
        refine lv_istore (lv' := [(4, _), (0, _), (1, _), (2, _), (3, _)]) hx hb dX8_findWitness_17 hl (by decide) rfl (fun ls hl => ?_)
        refine lv_aload_n hx hb dX8_findWitness_19 rfl (lv_at hl 1 rfl) ?_
        refine lv_aload_n hx hb dX8_findWitness_20 rfl (lv_at hl 1 rfl) ?_
        refine gf_X8_37 hx hb htw hown hK hW (by assumption) r6a dX8_findWitness_21 ?_
        refine lv_iload hx hb dX8_findWitness_24 (lv_at hl 0 rfl) ?_
        refine tm_calli (cs_X8_192 hx hb hml hown htw hK hW (by assumption) (c_X8_tellsApart (isTL_m hT0 hf.1) hPsa (by rw [A1]; exact hA) (by rw [B1]; exact hB1) (by rw [A1]; exact ⟨hA.1, hA.2.1⟩) (by rw [A1]; exact hA2) sr) ⟨rfl, rfl, Nat.le_of_ble_eq_true rfl, Nat.le_of_ble_eq_true rfl⟩ hl.1 (Nat.le_of_ble_eq_true rfl) dX8_findWitness_26 ⟨Nat.le_of_ble_eq_true rfl, Nat.le_of_ble_eq_true rfl⟩) hS (fun x26 M26 H locs hp26 hW hS => ?_)
        obtain ⟨ex26, eM26⟩ := hp26
        rw [A1, B1] at ex26
        rw [A1] at eM26
        rw [ex26]
        have f26 : tm_fr (T + 389) (T + 390) M M26 := fw_tr hf (by rw [eM26]; exact fw_ite _ (by omega))
        have T26 : isTL sh M26 T := isTL_m hT0 f26.1
        have A26 : so M26 (T + 383) = (so M (T + 383)) := so_fr f26 (by omega)
        have B26 : so M26 (T + 386) = (so M (T + 386)) := so_fr f26 (by omega)
        obtain ⟨a0b, ⟨r0b, r1b, r2b, r4b, r5b, r6b, r7b, r10b, r11b, r12b, r13b⟩, ⟨s1b, s2b, s88b, s389b, s390b, s393b, s394b⟩, hRdb, hLsb, hWrb, hScb, hPsb, hWsb⟩ := (isTL_m hT0 f26.1 : isTL sh M26 T)
        refine ti_if_ne (tgt := 45) hx hb dX8_findWitness_29 (by decide) (by rcases tl_tell_z (so M (T + 383)) (so M (T + 386)) (so M (T + 383)) (tl_sf i) with q | q <;> rw [q] <;> decide) (fun h29 => ?_) (fun h29 => ?_)
        · first
          | exact vx_ret (tm_vret hx hb hr hlk hK hW hS ⟨by rw [eM39, if_pos (tl_tell_k h42), ← he, fr_s, tl_wit, if_neg (by rw [h29]; decide), if_pos (tl_tell_1 h42)], f39⟩ dX8_findWitness_45)
          | exact vx_ret (tm_vret hx hb hr hlk hK hW hS ⟨by rw [eM26, if_pos (tl_tell_k h29), ← he, fr_s, tl_wit, if_pos (tl_tell_1 h29)], f26⟩ dX8_findWitness_45)
        · refine lv_aload_n hx hb dX8_findWitness_32 rfl (lv_at hl 1 rfl) ?_
          refine lv_aload_n hx hb dX8_findWitness_33 rfl (lv_at hl 1 rfl) ?_
          refine gf_X8_41 hx hb htw hown hK hW (by assumption) r7b dX8_findWitness_34 ?_
          refine lv_iload hx hb dX8_findWitness_37 (lv_at hl 0 rfl) ?_
          refine tm_calli (cs_X8_192 hx hb hml hown htw hK hW (by assumption) (c_X8_tellsApart T26 hWsb (by rw [A26]; exact hA) (by rw [B26]; exact hB1) (by rw [B26]; exact ⟨hB1.1, hB1.2.1⟩) (by rw [B26]; exact hB2) sr) ⟨rfl, rfl, Nat.le_of_ble_eq_true rfl, Nat.le_of_ble_eq_true rfl⟩ hl.1 (Nat.le_of_ble_eq_true rfl) dX8_findWitness_39 ⟨Nat.le_of_ble_eq_true rfl, Nat.le_of_ble_eq_true rfl⟩) hS (fun x39 M39 H locs hp39 hW hS => ?_)
          obtain ⟨ex39, eM39⟩ := hp39
          rw [A26, B26] at ex39
          rw [B26] at eM39
          rw [ex39]
          have f39 : tm_fr (T + 389) (T + 390) M M39 := fw_tr f26 (by rw [eM39]; exact fw_ite _ (by omega))
          refine ti_if_eq (tgt := 46) hx hb dX8_findWitness_42 (by decide) (by rcases tl_tell_z (so M (T + 383)) (so M (T + 386)) (so M (T + 386)) (tl_sf i) with q | q <;> rw [q] <;> decide) (fun h42 => ?_) (fun h42 => ?_)
          · refine ti_iinc (k := 4) (lv' := [(3, _), (4, _), (0, _), (1, _), (2, _)]) hx hb dX8_findWitness_46 hl rfl (by decide) rfl (fun ls hl => ?_)
            refine lv_goto (tgt := 9) hx hb dX8_findWitness_49 (by decide) ?_
            exact ih (i + 1) M39 _ _ _ (by omega) (by rw [← he, tl_wit, if_neg (by rw [h29]; decide), if_neg (by rw [h42]; decide)]) f39 hW hS (lv_sub hl [2, 3, 4, 0] rfl)
          · first
            | exact vx_ret (tm_vret hx hb hr hlk hK hW hS ⟨by rw [eM39, if_pos (tl_tell_k h42), ← he, fr_s, tl_wit, if_neg (by rw [h29]; decide), if_pos (tl_tell_1 h42)], f39⟩ dX8_findWitness_45)
            | exact vx_ret (tm_vret hx hb hr hlk hK hW hS ⟨by rw [eM26, if_pos (tl_tell_k h29), ← he, fr_s, tl_wit, if_pos (tl_tell_1 h29)], f26⟩ dX8_findWitness_45)
  refine va_gets hx hb hZ hS hown (htw _ fl_X8_189) (fun _ q => q) dX8_findWitness_0 ?_
  refine lv_astore_n (lv' := [(1, _), (0, _)]) hx hb dX8_findWitness_3 rfl hl (by decide) rfl (fun ls hl => ?_)
  refine lv_aload_n hx hb dX8_findWitness_4 rfl (lv_at hl 0 rfl) ?_
  refine va_tlen hx hb hTb hS (v := Int32.ofInt ((3 : Nat) : Int)) rfl dX8_findWitness_5 ?_
  refine lv_istore_n (lv' := [(2, _), (1, _), (0, _)]) hx hb dX8_findWitness_6 rfl hl (by decide) rfl (fun ls hl => ?_)
  refine ti_iconst hx hb dX8_findWitness_7 ?_
  refine lv_istore_n (lv' := [(3, _), (2, _), (1, _), (0, _)]) hx hb dX8_findWitness_8 rfl hl (by decide) rfl (fun ls hl => ?_)
  exact loop 3 0 M _ _ _ rfl rfl fw_rf hW hS (lv_sub hl [3, 2, 1, 0] rfl)
