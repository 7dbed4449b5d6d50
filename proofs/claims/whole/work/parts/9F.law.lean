/-! the law's loop (by program: wip/whole/gen/lw4.py) -/
set_option maxHeartbeats 1000000 in
set_option maxRecDepth 100000 in
/-- the law's loop, by the number of cases that may still come -/
theorem lw_loop {p : Program} {l : Launch} {e : Env} {s : State} {m : MethodId} {below : List Frame} {meth : Method} {c : Code} {G : tm_G} {T b L : Nat} {xs : Nat → Int32} (F : lw_Fx p l s m c b L xs G) (hr : meth.sig.returnType = ret) (hlk : meth.locks = false) : ∀ (n : Nat) (i : Int) (sh : tm_sh) (M : tm_M) (z : tl_Z) (px : List Int) (H : Heap) (locs : List Loc) (ls : Array Slot) (cells slots : Nat), lw_J s G sh M T b i z px H locs ls → 0 ≤ i → i ≤ 2000 → (L : Int) - 2 - i ≤ 3 * (n : Int) → cells + 21 * n ≤ 678900 → slots + 8006 * n ≤ 7059405 → W p l e room_1 s m #[Value.ref b] below meth c H locs cells slots (lw_Z below #[Value.ref b] s) (F0 m 23 ls []) := by
  intro n
  induction n with
  | zero =>
    intro i sh M z px H locs ls cells slots I hi hi2 hm hc hs
    obtain ⟨hx, hb, hml, hown, htw, hK, hC, hN, h9, hX, hbl, hL⟩ := (id F)
    obtain ⟨J, hI, hP, hW, hS, hl⟩ := (id I)
    refine lv_iload hx hb dL_law_23 (lv_at hl 4 rfl) ?_
    refine lv_aload_n hx hb dL_law_25 rfl (lv_at hl 0 rfl) ?_
    refine lw_len hx hb hX hbl hS dL_law_26 ?_
    refine ti_iconst hx hb dL_law_27 ?_
    refine ti_isub hx hb dL_law_28 ?_
    refine ti_icmp_gt (tgt := 749) hx hb dL_law_29 (by decide) (by omega) (by omega) (fun h29 => ?_) (fun h29 => ?_)
    · refine ti_iconst hx hb dL_law_749 ?_
      exact va_forget (fun q hq => hS.2.2 q hq) (w_up (cells1 := 678900) (slots1 := 7059405) (by omega) (by omega) (lw_ret hx hb hr hlk dL_law_750))
    · omega
  | succ n ih =>
    intro i sh M z px H locs ls cells slots I hi hi2 hm hc hs
    obtain ⟨hx, hb, hml, hown, htw, hK, hC, hN, h9, hX, hbl, hL⟩ := (id F)
    obtain ⟨J, hI, hP, hW, hS, hl⟩ := (id I)
    have kk : ∀ (sh1 : tm_sh) (M1 : tm_M) (z1 : tl_Z) (px1 : List Int) (H1 : Heap) (locs1 : List Loc) (ls1 : Array Slot), i + 2 < (L : Int) → lw_J s G sh1 M1 T b i z1 px1 H1 locs1 ls1 → W p l e room_1 s m #[Value.ref b] below meth c H1 locs1 (cells + 21) (slots + 8006) (lw_Z below #[Value.ref b] s) (F0 m 743 ls1 []) := by
      intro sh1 M1 z1 px1 H1 locs1 ls1 hiL I1
      obtain ⟨J1, hI1, hP1, hW1, hS1, hl⟩ := I1
      refine ti_iinc (k := 4) (lv' := [(4, _), (0, _), (1, _), (2, _), (3, _)]) hx hb dL_law_743 hl rfl (by decide) rfl (fun ls hl => ?_)
      refine lv_goto (tgt := 23) hx hb dL_law_746 (by decide) ?_
      exact ih (i + 3) sh1 M1 z1 px1 H1 locs1 ls _ _ ⟨J1, hI1, hP1, hW1, hS1, lv_sub hl [1, 2, 3, 4, 0] rfl⟩ (by omega) (by omega) (by omega) (by omega) (by omega)
    refine lv_iload hx hb dL_law_23 (lv_at hl 4 rfl) ?_
    refine lv_aload_n hx hb dL_law_25 rfl (lv_at hl 0 rfl) ?_
    refine lw_len hx hb hX hbl hS dL_law_26 ?_
    refine ti_iconst hx hb dL_law_27 ?_
    refine ti_isub hx hb dL_law_28 ?_
    refine ti_icmp_gt (tgt := 749) hx hb dL_law_29 (by decide) (by omega) (by omega) (fun h29 => ?_) (fun h29 => ?_)
    · refine ti_iconst hx hb dL_law_749 ?_
      exact va_forget (fun q hq => hS.2.2 q hq) (w_up (cells1 := 678900) (slots1 := 7059405) (by omega) (by omega) (lw_ret hx hb hr hlk dL_law_750))
    · have hiL : 0 ≤ i ∧ i + 2 < (L : Int) := ⟨hi, by omega⟩
      have hf : cells + 21 ≤ 678900 ∧ slots + 8006 ≤ 7059405 := ⟨by omega, by omega⟩
      refine lv_aload_n hx hb dL_law_32 rfl (lv_at hl 0 rfl) ?_
      refine lv_iload hx hb dL_law_33 (lv_at hl 4 rfl) ?_
      obtain ⟨w, hwe⟩ : ∃ w, (xs i.toNat).toInt = w := ⟨_, rfl⟩
      refine lw_ld hx hb hX hbl hS (by omega) (by omega) hL hwe dL_law_35 ?_
      refine ti_bipush hx hb dL_law_36 (by decide) ?_
      refine ti_and15 hx hb dL_law_38 ?_
      refine ti_ts_0_13 (td := 743) (t0 := 108) (t1 := 156) (t2 := 212) (t3 := 268) (t4 := 281) (t5 := 336) (t6 := 380) (t7 := 431) (t8 := 482) (t9 := 538) (t10 := 593) (t11 := 637) (t12 := 662) (t13 := 718) hx hb dL_law_39 (by omega) (by decide) (by decide) (by decide) (by decide) (by decide) (by decide) (by decide) (by decide) (by decide) (by decide) (by decide) (by decide) (by decide) (by decide) (by decide) (fun h39 => ?_) (fun h39 => ?_) (fun h39 => ?_) (fun h39 => ?_) (fun h39 => ?_) (fun h39 => ?_) (fun h39 => ?_) (fun h39 => ?_) (fun h39 => ?_) (fun h39 => ?_) (fun h39 => ?_) (fun h39 => ?_) (fun h39 => ?_) (fun h39 => ?_) (fun h39 => ?_)
      · exact lw_k0 F ⟨J, hI, hP, hW, hS, hl⟩ hiL hf (fun sh1 M1 z1 px1 H1 locs1 ls1 q => kk sh1 M1 z1 px1 H1 locs1 ls1 hiL.2 q)
      · exact lw_k1 F ⟨J, hI, hP, hW, hS, hl⟩ hiL hf (fun sh1 M1 z1 px1 H1 locs1 ls1 q => kk sh1 M1 z1 px1 H1 locs1 ls1 hiL.2 q)
      · exact lw_k2 F ⟨J, hI, hP, hW, hS, hl⟩ hiL hf (fun sh1 M1 z1 px1 H1 locs1 ls1 q => kk sh1 M1 z1 px1 H1 locs1 ls1 hiL.2 q)
      · exact lw_k3 F ⟨J, hI, hP, hW, hS, hl⟩ hiL hf (fun sh1 M1 z1 px1 H1 locs1 ls1 q => kk sh1 M1 z1 px1 H1 locs1 ls1 hiL.2 q)
      · exact lw_k4 F ⟨J, hI, hP, hW, hS, hl⟩ hiL hf (fun sh1 M1 z1 px1 H1 locs1 ls1 q => kk sh1 M1 z1 px1 H1 locs1 ls1 hiL.2 q)
      · exact lw_k5 F ⟨J, hI, hP, hW, hS, hl⟩ hiL hf (fun sh1 M1 z1 px1 H1 locs1 ls1 q => kk sh1 M1 z1 px1 H1 locs1 ls1 hiL.2 q)
      · exact lw_k6 F ⟨J, hI, hP, hW, hS, hl⟩ hiL hf (fun sh1 M1 z1 px1 H1 locs1 ls1 q => kk sh1 M1 z1 px1 H1 locs1 ls1 hiL.2 q)
      · exact lw_k7 F ⟨J, hI, hP, hW, hS, hl⟩ hiL hf (fun sh1 M1 z1 px1 H1 locs1 ls1 q => kk sh1 M1 z1 px1 H1 locs1 ls1 hiL.2 q)
      · exact lw_k8 F ⟨J, hI, hP, hW, hS, hl⟩ hiL hf (fun sh1 M1 z1 px1 H1 locs1 ls1 q => kk sh1 M1 z1 px1 H1 locs1 ls1 hiL.2 q)
      · exact lw_k9 F ⟨J, hI, hP, hW, hS, hl⟩ hiL hf (fun sh1 M1 z1 px1 H1 locs1 ls1 q => kk sh1 M1 z1 px1 H1 locs1 ls1 hiL.2 q)
      · exact lw_k10 F ⟨J, hI, hP, hW, hS, hl⟩ hiL hf (fun sh1 M1 z1 px1 H1 locs1 ls1 q => kk sh1 M1 z1 px1 H1 locs1 ls1 hiL.2 q)
      · exact lw_k11 F ⟨J, hI, hP, hW, hS, hl⟩ hiL hf (fun sh1 M1 z1 px1 H1 locs1 ls1 q => kk sh1 M1 z1 px1 H1 locs1 ls1 hiL.2 q)
      · exact lw_k12 F ⟨J, hI, hP, hW, hS, hl⟩ hiL hf (fun sh1 M1 z1 px1 H1 locs1 ls1 q => kk sh1 M1 z1 px1 H1 locs1 ls1 hiL.2 q)
      · exact lw_k13 F ⟨J, hI, hP, hW, hS, hl⟩ hiL hf (fun sh1 M1 z1 px1 H1 locs1 ls1 q => kk sh1 M1 z1 px1 H1 locs1 ls1 hiL.2 q)
      · exact w_up (by omega) (by omega) (kk _ _ _ _ _ _ _ (by omega) ⟨J, hI, hP, hW, hS, hl⟩)
