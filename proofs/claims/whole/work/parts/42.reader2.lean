/-! Reader.readNumber (by program: wip/whole/gen/reader2.py) -/
def rdNum (rd sx : Nat) (M M1 : tm_M) (res : (Nat × Int × Nat) ⊕ Nat) (r : Int) : Prop := rdx rd sx M M1 ∧ ((∃ x : Nat × Int × Nat, res = .inl x ∧ r = 1 ∧ mI M1 rd 2 = x.1 ∧ mI M1 rd 4 = x.2.2 ∧ sd M1 sx = ((0, 1), (x.2.1, 1)) ∧ rdf rd sx M M1) ∨ ∃ f : Nat, res = .inr f ∧ r = 0 ∧ mI M1 rd 3 = f)
theorem rdN_T {rd sx : Nat} {M M1 : tm_M} {res : (Nat × Int × Nat) ⊕ Nat} {x : Nat × Int × Nat} (hf : rdf rd sx M M1) (h1 : res = .inl x) (h2 : mI M1 rd 2 = x.1) (h3 : mI M1 rd 4 = x.2.2) (h4 : sd M1 sx = ((0, 1), (x.2.1, 1))) : rdNum rd sx M M1 res 1 := ⟨rdf_x hf, Or.inl ⟨x, h1, rfl, h2, h3, h4, hf⟩⟩
theorem tp_num_ok {t : Nat → Int} {n p : Nat} {x : Nat × Int × Nat} (hp : p ≤ n) (h : tp_num t n p = .inl x) : x.1 ≤ n ∧ 0 ≤ x.2.1 ∧ x.2.1 ≤ 9999 ∧ x.2.2 ≤ n := by
  unfold tp_num at h
  split at h
  · cases h
    have := tp_dig_ok t n 4 0 0 (tp_nx t n p) 1 (tp_nx_le hp).2 (by omega) (by omega) (by omega)
    refine ⟨this.1, this.2.2.1, ?_, this.2.1⟩
    have h4 := this.2.2.2
    have e : (1 : Int) * 10 ^ 4 = 10000 := by decide
    rw [e] at h4
    show (tp_dig t n 4 0 0 (tp_nx t n p)).1 ≤ 9999
    omega
  · cases h
theorem rdn_4 {rd : Nat} {M M1 : tm_M} (h : rdn rd M M1) : mI M1 rd 4 = mI M rd 4 := h.2.2 rd 4 (fun z => absurd z.2 (by decide))
theorem rdn_sd {rd a : Nat} {M M1 : tm_M} (h : rdn rd M M1) : sd M1 a = sd M a := by
  show ((mL M1 (a + 1) 0, mL M1 (a + 1) 1), (mL M1 (a + 2) 0, mL M1 (a + 2) 1)) = _
  rw [h.2.1]
theorem dX4_readNumber_0 : decode cX4_readNumber 0 = .ok (.aload_n 0, 1) := by decide +kernel
theorem dX4_readNumber_1 : decode cX4_readNumber 1 = .ok (.invokevirtual 65, 3) := by decide +kernel
theorem dX4_readNumber_4 : decode cX4_readNumber 4 = .ok (.invokestatic 132, 3) := by decide +kernel
theorem dX4_readNumber_7 : decode cX4_readNumber 7 = .ok (.ifCond .ne 12, 3) := by decide +kernel
theorem dX4_readNumber_10 : decode cX4_readNumber 10 = .ok (.aload_n 0, 1) := by decide +kernel
theorem dX4_readNumber_11 : decode cX4_readNumber 11 = .ok (.aload_n 0, 1) := by decide +kernel
theorem dX4_readNumber_12 : decode cX4_readNumber 12 = .ok (.getfield 38, 3) := by decide +kernel
theorem dX4_readNumber_15 : decode cX4_readNumber 15 = .ok (.invokevirtual 69, 3) := by decide +kernel
theorem dX4_readNumber_18 : decode cX4_readNumber 18 = .ok (.ireturn, 1) := by decide +kernel
theorem dX4_readNumber_19 : decode cX4_readNumber 19 = .ok (.iconst 0, 1) := by decide +kernel
theorem dX4_readNumber_20 : decode cX4_readNumber 20 = .ok (.istore_n 2, 1) := by decide +kernel
theorem dX4_readNumber_21 : decode cX4_readNumber 21 = .ok (.iconst 0, 1) := by decide +kernel
theorem dX4_readNumber_22 : decode cX4_readNumber 22 = .ok (.istore_n 3, 1) := by decide +kernel
theorem dX4_readNumber_23 : decode cX4_readNumber 23 = .ok (.iload_n 3, 1) := by decide +kernel
theorem dX4_readNumber_24 : decode cX4_readNumber 24 = .ok (.iconst 4, 1) := by decide +kernel
theorem dX4_readNumber_25 : decode cX4_readNumber 25 = .ok (.if_icmp .ge 50, 3) := by decide +kernel
theorem dX4_readNumber_28 : decode cX4_readNumber 28 = .ok (.aload_n 0, 1) := by decide +kernel
theorem dX4_readNumber_29 : decode cX4_readNumber 29 = .ok (.invokevirtual 65, 3) := by decide +kernel
theorem dX4_readNumber_32 : decode cX4_readNumber 32 = .ok (.invokestatic 132, 3) := by decide +kernel
theorem dX4_readNumber_35 : decode cX4_readNumber 35 = .ok (.ifCond .eq 40, 3) := by decide +kernel
theorem dX4_readNumber_38 : decode cX4_readNumber 38 = .ok (.iload_n 2, 1) := by decide +kernel
theorem dX4_readNumber_39 : decode cX4_readNumber 39 = .ok (.bipush 10, 2) := by decide +kernel
theorem dX4_readNumber_41 : decode cX4_readNumber 41 = .ok (.imul, 1) := by decide +kernel
theorem dX4_readNumber_42 : decode cX4_readNumber 42 = .ok (.aload_n 0, 1) := by decide +kernel
theorem dX4_readNumber_43 : decode cX4_readNumber 43 = .ok (.invokevirtual 65, 3) := by decide +kernel
theorem dX4_readNumber_46 : decode cX4_readNumber 46 = .ok (.bipush 48, 2) := by decide +kernel
theorem dX4_readNumber_48 : decode cX4_readNumber 48 = .ok (.isub, 1) := by decide +kernel
theorem dX4_readNumber_49 : decode cX4_readNumber 49 = .ok (.iadd, 1) := by decide +kernel
theorem dX4_readNumber_50 : decode cX4_readNumber 50 = .ok (.istore_n 2, 1) := by decide +kernel
theorem dX4_readNumber_51 : decode cX4_readNumber 51 = .ok (.aload_n 0, 1) := by decide +kernel
theorem dX4_readNumber_52 : decode cX4_readNumber 52 = .ok (.aload_n 0, 1) := by decide +kernel
theorem dX4_readNumber_53 : decode cX4_readNumber 53 = .ok (.getfield 38, 3) := by decide +kernel
theorem dX4_readNumber_56 : decode cX4_readNumber 56 = .ok (.putfield 119, 3) := by decide +kernel
theorem dX4_readNumber_59 : decode cX4_readNumber 59 = .ok (.aload_n 0, 1) := by decide +kernel
theorem dX4_readNumber_60 : decode cX4_readNumber 60 = .ok (.dup, 1) := by decide +kernel
theorem dX4_readNumber_61 : decode cX4_readNumber 61 = .ok (.getfield 38, 3) := by decide +kernel
theorem dX4_readNumber_64 : decode cX4_readNumber 64 = .ok (.iconst 1, 1) := by decide +kernel
theorem dX4_readNumber_65 : decode cX4_readNumber 65 = .ok (.iadd, 1) := by decide +kernel
theorem dX4_readNumber_66 : decode cX4_readNumber 66 = .ok (.putfield 38, 3) := by decide +kernel
theorem dX4_readNumber_69 : decode cX4_readNumber 69 = .ok (.iinc 3 1, 3) := by decide +kernel
theorem dX4_readNumber_72 : decode cX4_readNumber 72 = .ok (.goto (-49), 3) := by decide +kernel
theorem dX4_readNumber_75 : decode cX4_readNumber 75 = .ok (.aload_n 1, 1) := by decide +kernel
theorem dX4_readNumber_76 : decode cX4_readNumber 76 = .ok (.iconst 0, 1) := by decide +kernel
theorem dX4_readNumber_77 : decode cX4_readNumber 77 = .ok (.iload_n 2, 1) := by decide +kernel
theorem dX4_readNumber_78 : decode cX4_readNumber 78 = .ok (.invokevirtual 125, 3) := by decide +kernel
theorem dX4_readNumber_81 : decode cX4_readNumber 81 = .ok (.iconst 1, 1) := by decide +kernel
theorem dX4_readNumber_82 : decode cX4_readNumber 82 = .ok (.ireturn, 1) := by decide +kernel
set_option maxHeartbeats 4000000 in
set_option maxRecDepth 100000 in
/-- Reader.readNumber -/
theorem c_X4_readNumber {l : Launch} {G : tm_G} {Hb : Heap} {sh : tm_sh} {M : tm_M} {rd ta n p1 sx : Nat} {t : Nat → Int} (hR : RS sh M rd ta t n p1) (hs : isSd sh M sx) (hsx : rd + 5 ≤ sx ∧ sx + 3 ≤ rd + 86) : Met l yX4_readNumber (tws yX4_readNumber cX4_readNumber 4 (some .boolean)) ({ frames := 2, cells := 0, slots := 0, locals := 44 }) (va_Pc [.ref rd, .ref sx] (tm_St G Hb sh M)) (tm_Qi G Hb sh (fun r M1 => rdNum rd sx M M1 (tp_num t n p1) r)) 0 0 (tm_A Hb) := by
  refine tm_begin (by decide) (Nat.le_of_ble_eq_true rfl) (fun p e s m below meth c ls hx hb hr hml hown htw hlk hnm hK hW hl => ?_)
  have hS : va_S (tm_A Hb) s.heap s.heap [] := va_S.rf
  have hl : lv_has ls 4 [(0, .ref rd), (1, .ref sx)] := hl
  have htr := RS_t hR
  have hp1 := hR.2.2.2.2.2.2
  have r0 := hR.1.1
  have ex : ∀ (pp ld : Nat) (num : Int) (M1 : tm_M) (H : Heap) (locs : List Loc) (ls : Array Slot), tp_num t n p1 = .inl (pp, num, ld) → mI M1 rd 2 = pp → mI M1 rd 4 = ld → rdf rd sx M M1 → tm_W G Hb sh M1 H → va_S (tm_A Hb) s.heap H locs → lv_has ls 4 [(0, .ref rd), (1, .ref sx), (2, ji num)] → W p l e ({ frames := 2, cells := 0, slots := 0, locals := 44 }) s m [.ref rd, .ref sx].toArray below meth c H locs 0 0 (MQ below (tm_Qi G Hb sh (fun r M1 => rdNum rd sx M M1 (tp_num t n p1) r)) [.ref rd, .ref sx].toArray s 0 0 (tm_A Hb)) (F0 m 75 ls []) := by
    intro pp ld num M1 H locs ls he h2 h4 hf hW hS hl
    have hb1 := tp_num_ok hp1 he
    have s0 := hs.1
    have hb2 : 0 ≤ num ∧ num ≤ 9999 := ⟨hb1.2.1, hb1.2.2.1⟩
    refine lv_aload_n hx hb dX4_readNumber_75 rfl (lv_at hl 1 rfl) ?_
    refine ti_iconst hx hb dX4_readNumber_76 ?_
    refine lv_iload_n hx hb dX4_readNumber_77 rfl (lv_at hl 2 rfl) ?_
    refine tm_callv (cs_X4_125 hx hb hml hown htw hK hW (by assumption) (c_X5_setWhole (isSd_m hs hf.1) (by decide) (by omega)) ⟨rfl, rfl, Nat.le_of_ble_eq_true rfl, Nat.le_of_ble_eq_true rfl⟩ hl.1 (Nat.le_of_ble_eq_true rfl) dX4_readNumber_78 ⟨Nat.le_of_ble_eq_true rfl, Nat.le_of_ble_eq_true rfl⟩) hS (fun M78 H locs hp78 hW hS => ?_)
    refine ti_iconst hx hb dX4_readNumber_81 ?_
    exact tm_zret hx hb hr hlk (by first | exact Or.inl rfl | exact Or.inr rfl | assumption) hK hW hS (rdN_T (by rw [hp78]; exact rdf_tr hf (rdf_sS (by omega) (by omega))) he (by rw [hp78]; exact h2) (by rw [hp78]; exact h4) (by rw [hp78]; exact sd_self _ _ _)) dX4_readNumber_82
  have loop : ∀ (j : Nat) (k num : Int) (ld p2 : Nat) (M1 : tm_M) (H : Heap) (locs : List Loc) (ls : Array Slot), k + j = 4 → 0 ≤ k → tp_num t n p1 = .inl ((tp_dig t n j num ld p2).2.2, (tp_dig t n j num ld p2).1, (tp_dig t n j num ld p2).2.1) → RS sh M1 rd ta t n p2 → mI M1 rd 4 = ld → rdf rd sx M M1 → tm_W G Hb sh M1 H → va_S (tm_A Hb) s.heap H locs → lv_has ls 4 [(0, .ref rd), (1, .ref sx), (2, ji num), (3, ji k)] → W p l e ({ frames := 2, cells := 0, slots := 0, locals := 44 }) s m [.ref rd, .ref sx].toArray below meth c H locs 0 0 (MQ below (tm_Qi G Hb sh (fun r M1 => rdNum rd sx M M1 (tp_num t n p1) r)) [.ref rd, .ref sx].toArray s 0 0 (tm_A Hb)) (F0 m 23 ls []) := by
    intro j
    induction j with
    | zero =>
      intro k num ld p2 M1 H locs ls hk hk0 he hR h4 hf hW hS hl
      refine lv_iload_n hx hb dX4_readNumber_23 rfl (lv_at hl 3 rfl) ?_
      refine ti_iconst hx hb dX4_readNumber_24 ?_
      refine ti_icmp_ge (tgt := 75) hx hb dX4_readNumber_25 (by decide) (by omega) (by omega) (fun h25 => ?_) (fun h25 => ?_)
      · exact ex p2 ld num _ _ _ _ he hR.2.2.2.2.2.1 h4 hf hW hS (lv_sub hl [0, 1, 2] rfl)
      · exact absurd (show 4 ≤ k by omega) h25
    | succ j ih =>
      intro k num ld p2 M1 H locs ls hk hk0 he hR h4 hf hW hS hl
      have q0 := tp_nx_le (t := t) hR.2.2.2.2.2.2
      have cr := tp_ch_r (n := n) (p := tp_nx t n p2) htr
      refine lv_iload_n hx hb dX4_readNumber_23 rfl (lv_at hl 3 rfl) ?_
      refine ti_iconst hx hb dX4_readNumber_24 ?_
      refine ti_icmp_ge (tgt := 75) hx hb dX4_readNumber_25 (by decide) (by omega) (by omega) (fun h25 => ?_) (fun h25 => ?_)
      · exact absurd h25 (by omega)
      · refine lv_aload_n hx hb dX4_readNumber_28 rfl (lv_at hl 0 rfl) ?_
        refine tm_calli (cs_X4_65 hx hb hml hown htw hK hW (by assumption) (c_X4_next hR) ⟨rfl, rfl, Nat.le_of_ble_eq_true rfl, Nat.le_of_ble_eq_true rfl⟩ hl.1 (Nat.le_of_ble_eq_true rfl) dX4_readNumber_29 ⟨Nat.le_of_ble_eq_true rfl, Nat.le_of_ble_eq_true rfl⟩) hS (fun x29 M29 H locs hp29 hW hS => ?_)
        obtain ⟨ex29, e29, n29⟩ := hp29
        rw [ex29]
        have R29 := RS_m hR (rdn_f (lo := sx) n29) e29 q0.2
        refine tm_calli (cs_X4_132 hx hb hml hown htw hK hW (c_X4_isDigit (by omega)) ⟨rfl, rfl, Nat.le_of_ble_eq_true rfl, Nat.le_of_ble_eq_true rfl⟩ hl.1 (Nat.le_of_ble_eq_true rfl) dX4_readNumber_32 ⟨Nat.le_of_ble_eq_true rfl, Nat.le_of_ble_eq_true rfl⟩) hS (fun x32 M32 H locs hp32 hW hS => ?_)
        obtain ⟨ex32, eM32⟩ := hp32
        rw [eM32] at hW
        rw [ex32]
        refine ti_if_eq (tgt := 75) hx hb dX4_readNumber_35 (by decide) (tl_b_r _) (fun h35 => ?_) (fun h35 => ?_)
        · exact ex (tp_nx t n p2) ld num _ _ _ _ (by rw [he, show tp_dig t n (j + 1) num ld p2 = (num, ld, tp_nx t n p2) from if_neg (tl_b_0.mp h35)]) e29 ((rdn_4 n29).trans h4) (rdf_tr hf (rdn_f n29)) hW hS (lv_sub hl [0, 1, 2] rfl)
        · refine lv_iload_n hx hb dX4_readNumber_38 rfl (lv_at hl 2 rfl) ?_
          refine ti_bipush hx hb dX4_readNumber_39 (by decide) ?_
          refine ti_imul hx hb dX4_readNumber_41 ?_
          refine lv_aload_n hx hb dX4_readNumber_42 rfl (lv_at hl 0 rfl) ?_
          refine tm_calli (cs_X4_65 hx hb hml hown htw hK hW (by assumption) (c_X4_next R29) ⟨rfl, rfl, Nat.le_of_ble_eq_true rfl, Nat.le_of_ble_eq_true rfl⟩ hl.1 (Nat.le_of_ble_eq_true rfl) dX4_readNumber_43 ⟨Nat.le_of_ble_eq_true rfl, Nat.le_of_ble_eq_true rfl⟩) hS (fun x43 M43 H locs hp43 hW hS => ?_)
          obtain ⟨ex43, e43, n43⟩ := hp43
          rw [ex43, tp_nx_nx hR.2.2.2.2.2.2]
          rw [tp_nx_nx hR.2.2.2.2.2.2] at e43
          have f43 := rdf_tr hf (rdf_tr (rdn_f (lo := sx) n29) (rdn_f n43))
          have dg := tl_b_n.mp h35
          have lt := tp_ch_lt (t := t) (n := n) (p := tp_nx t n p2) (by omega)
          refine ti_bipush hx hb dX4_readNumber_46 (by decide) ?_
          refine ti_isub hx hb dX4_readNumber_48 ?_
          refine ti_iadd hx hb dX4_readNumber_49 ?_
          refine lv_istore_n (lv' := [(2, _), (0, _), (1, _), (3, _)]) hx hb dX4_readNumber_50 rfl hl (by decide) rfl (fun ls hl => ?_)
          refine lv_aload_n hx hb dX4_readNumber_51 rfl (lv_at hl 1 rfl) ?_
          refine lv_aload_n hx hb dX4_readNumber_52 rfl (lv_at hl 1 rfl) ?_
          refine gf_X4_38 hx hb htw hown hK hW (by assumption) dX4_readNumber_53 ?_
          refine pf_X4_119 hx hb htw hown hK hW (by assumption) hS dX4_readNumber_56 (fun H locs hW hS => ?_)
          refine lv_aload_n hx hb dX4_readNumber_59 rfl (lv_at hl 1 rfl) ?_
          refine lv_dup hx hb dX4_readNumber_60 rfl ?_
          refine gf_X4_38 hx hb htw hown hK hW (by assumption) dX4_readNumber_61 ?_
          refine ti_iconst hx hb dX4_readNumber_64 ?_
          refine ti_iadd hx hb dX4_readNumber_65 ?_
          refine pf_X4_38 hx hb htw hown hK hW (by assumption) hS dX4_readNumber_66 (fun H locs hW hS => ?_)
          refine ti_iinc (k := 3) (lv' := [(3, _), (2, _), (0, _), (1, _)]) hx hb dX4_readNumber_69 hl rfl (by decide) rfl (fun ls hl => ?_)
          refine lv_goto (tgt := 23) hx hb dX4_readNumber_72 (by decide) ?_
          exact ih (k + 1) _ (tp_nx t n p2) (tp_nx t n p2 + 1) _ _ _ _ (by omega) (by omega) (by rw [he, show tp_dig t n (j + 1) num ld p2 = _ from if_pos dg]) (RS_m R29 (rdf_tr (rdn_f (lo := sx) n43) (rdf_tr (rdf_sI (by decide)) (rdf_sI (by decide)))) (by rw [show mI (sI (sI M43 rd 4 (mI M43 rd 2)) rd 2 (mI (sI M43 rd 4 (mI M43 rd 2)) rd 2 + 1)) rd 2 = mI (sI M43 rd 4 (mI M43 rd 2)) rd 2 + 1 from tm_up_s _ _ _ _, show mI (sI M43 rd 4 (mI M43 rd 2)) rd 2 = mI M43 rd 2 from tm_up_k _ _ (by decide), e43]; rfl) lt) (by rw [show mI (sI (sI M43 rd 4 (mI M43 rd 2)) rd 2 (mI (sI M43 rd 4 (mI M43 rd 2)) rd 2 + 1)) rd 4 = mI (sI M43 rd 4 (mI M43 rd 2)) rd 4 from tm_up_k _ _ (by decide), show mI (sI M43 rd 4 (mI M43 rd 2)) rd 4 = mI M43 rd 2 from tm_up_s _ _ _ _, e43]) (rdf_tr f43 (rdf_tr (rdf_sI (by decide)) (rdf_sI (by decide)))) hW hS (lv_sub hl [2, 3, 1, 0] rfl)
  have hp0 := hp1
  have q0 := tp_nx_le (t := t) hp1
  have cr := tp_ch_r (n := n) (p := tp_nx t n p1) htr
  refine lv_aload_n hx hb dX4_readNumber_0 rfl (lv_at hl 0 rfl) ?_
  refine tm_calli (cs_X4_65 hx hb hml hown htw hK hW (by assumption) (c_X4_next hR) ⟨rfl, rfl, Nat.le_of_ble_eq_true rfl, Nat.le_of_ble_eq_true rfl⟩ hl.1 (Nat.le_of_ble_eq_true rfl) dX4_readNumber_1 ⟨Nat.le_of_ble_eq_true rfl, Nat.le_of_ble_eq_true rfl⟩) hS (fun x1 M1 H locs hp1 hW hS => ?_)
  obtain ⟨ex1, e1, n1⟩ := hp1
  rw [ex1]
  have R1 := RS_m hR (rdn_f (lo := sx) n1) e1 q0.2
  refine tm_calli (cs_X4_132 hx hb hml hown htw hK hW (c_X4_isDigit (by omega)) ⟨rfl, rfl, Nat.le_of_ble_eq_true rfl, Nat.le_of_ble_eq_true rfl⟩ hl.1 (Nat.le_of_ble_eq_true rfl) dX4_readNumber_4 ⟨Nat.le_of_ble_eq_true rfl, Nat.le_of_ble_eq_true rfl⟩) hS (fun x4 M4 H locs hp4 hW hS => ?_)
  obtain ⟨ex4, eM4⟩ := hp4
  rw [eM4] at hW
  rw [ex4]
  refine ti_if_ne (tgt := 19) hx hb dX4_readNumber_7 (by decide) (tl_b_r _) (fun h7 => ?_) (fun h7 => ?_)
  · have dg := tl_b_n.mp h7
    refine ti_iconst hx hb dX4_readNumber_19 ?_
    refine lv_istore_n (lv' := [(2, _), (0, _), (1, _)]) hx hb dX4_readNumber_20 rfl hl (by decide) rfl (fun ls hl => ?_)
    refine ti_iconst hx hb dX4_readNumber_21 ?_
    refine lv_istore_n (lv' := [(3, _), (2, _), (0, _), (1, _)]) hx hb dX4_readNumber_22 rfl hl (by decide) rfl (fun ls hl => ?_)
    refine lv_iload_n hx hb dX4_readNumber_23 rfl (lv_at hl 0 rfl) ?_
    refine ti_iconst hx hb dX4_readNumber_24 ?_
    refine ti_icmp_ge (tgt := 75) hx hb dX4_readNumber_25 (by decide) (by omega) (by omega) (fun h25 => ?_) (fun h25 => ?_)
    · exact absurd h25 (by decide)
    · refine lv_aload_n hx hb dX4_readNumber_28 rfl (lv_at hl 2 rfl) ?_
      refine tm_calli (cs_X4_65 hx hb hml hown htw hK hW (by assumption) (c_X4_next R1) ⟨rfl, rfl, Nat.le_of_ble_eq_true rfl, Nat.le_of_ble_eq_true rfl⟩ hl.1 (Nat.le_of_ble_eq_true rfl) dX4_readNumber_29 ⟨Nat.le_of_ble_eq_true rfl, Nat.le_of_ble_eq_true rfl⟩) hS (fun x29 M29 H locs hp29 hW hS => ?_)
      obtain ⟨ex29, e29, n29⟩ := hp29
      rw [tp_nx_nx hp0] at e29
      rw [ex29, tp_nx_nx hp0]
      have R29 := RS_m R1 (rdn_f (lo := sx) n29) e29 q0.2
      refine tm_calli (cs_X4_132 hx hb hml hown htw hK hW (c_X4_isDigit (by omega)) ⟨rfl, rfl, Nat.le_of_ble_eq_true rfl, Nat.le_of_ble_eq_true rfl⟩ hl.1 (Nat.le_of_ble_eq_true rfl) dX4_readNumber_32 ⟨Nat.le_of_ble_eq_true rfl, Nat.le_of_ble_eq_true rfl⟩) hS (fun x32 M32 H locs hp32 hW hS => ?_)
      obtain ⟨ex32, eM32⟩ := hp32
      rw [eM32] at hW
      rw [ex32]
      refine ti_if_eq (tgt := 75) hx hb dX4_readNumber_35 (by decide) (tl_b_r _) (fun h35 => ?_) (fun h35 => ?_)
      · exact absurd h35 (by rw [tl_b_0]; exact fun z => z dg)
      · refine lv_iload_n hx hb dX4_readNumber_38 rfl (lv_at hl 1 rfl) ?_
        refine ti_bipush hx hb dX4_readNumber_39 (by decide) ?_
        refine ti_imul hx hb dX4_readNumber_41 ?_
        refine lv_aload_n hx hb dX4_readNumber_42 rfl (lv_at hl 2 rfl) ?_
        refine tm_calli (cs_X4_65 hx hb hml hown htw hK hW (by assumption) (c_X4_next R29) ⟨rfl, rfl, Nat.le_of_ble_eq_true rfl, Nat.le_of_ble_eq_true rfl⟩ hl.1 (Nat.le_of_ble_eq_true rfl) dX4_readNumber_43 ⟨Nat.le_of_ble_eq_true rfl, Nat.le_of_ble_eq_true rfl⟩) hS (fun x43 M43 H locs hp43 hW hS => ?_)
        obtain ⟨ex43, e43, n43⟩ := hp43
        rw [tp_nx_nx hp0] at e43
        rw [ex43, tp_nx_nx hp0]
        have f43 := rdf_tr (rdn_f (lo := sx) n1) (rdf_tr (rdn_f (lo := sx) n29) (rdn_f n43))
        have lt := tp_ch_lt (t := t) (n := n) (p := tp_nx t n p1) (by omega)
        refine ti_bipush hx hb dX4_readNumber_46 (by decide) ?_
        refine ti_isub hx hb dX4_readNumber_48 ?_
        refine ti_iadd hx hb dX4_readNumber_49 ?_
        refine lv_istore_n (lv' := [(2, _), (3, _), (0, _), (1, _)]) hx hb dX4_readNumber_50 rfl hl (by decide) rfl (fun ls hl => ?_)
        refine lv_aload_n hx hb dX4_readNumber_51 rfl (lv_at hl 2 rfl) ?_
        refine lv_aload_n hx hb dX4_readNumber_52 rfl (lv_at hl 2 rfl) ?_
        refine gf_X4_38 hx hb htw hown hK hW (by assumption) dX4_readNumber_53 ?_
        refine pf_X4_119 hx hb htw hown hK hW (by assumption) hS dX4_readNumber_56 (fun H locs hW hS => ?_)
        refine lv_aload_n hx hb dX4_readNumber_59 rfl (lv_at hl 2 rfl) ?_
        refine lv_dup hx hb dX4_readNumber_60 rfl ?_
        refine gf_X4_38 hx hb htw hown hK hW (by assumption) dX4_readNumber_61 ?_
        refine ti_iconst hx hb dX4_readNumber_64 ?_
        refine ti_iadd hx hb dX4_readNumber_65 ?_
        refine pf_X4_38 hx hb htw hown hK hW (by assumption) hS dX4_readNumber_66 (fun H locs hW hS => ?_)
        refine ti_iinc (k := 1) (lv' := [(3, _), (2, _), (0, _), (1, _)]) hx hb dX4_readNumber_69 hl rfl (by decide) rfl (fun ls hl => ?_)
        refine lv_goto (tgt := 23) hx hb dX4_readNumber_72 (by decide) ?_
        exact loop 3 1 _ (tp_nx t n p1) (tp_nx t n p1 + 1) _ _ _ _ (by omega) (by omega) (by unfold tp_num; rw [if_pos dg, show tp_dig t n 4 0 0 (tp_nx t n p1) = tp_dig t n 3 (0 * 10 + (tp_ch t n (tp_nx t n p1) - 48)) (tp_nx t n p1) (tp_nx t n p1 + 1) from by rw [tp_dig, tp_nx_nx hp0, if_pos dg]]) (RS_m R29 (rdf_tr (rdn_f (lo := sx) n43) (rdf_tr (rdf_sI (by decide)) (rdf_sI (by decide)))) (by rw [show mI (sI (sI M43 rd 4 (mI M43 rd 2)) rd 2 (mI (sI M43 rd 4 (mI M43 rd 2)) rd 2 + 1)) rd 2 = mI (sI M43 rd 4 (mI M43 rd 2)) rd 2 + 1 from tm_up_s _ _ _ _, show mI (sI M43 rd 4 (mI M43 rd 2)) rd 2 = mI M43 rd 2 from tm_up_k _ _ (by decide), e43]; rfl) lt) (by rw [show mI (sI (sI M43 rd 4 (mI M43 rd 2)) rd 2 (mI (sI M43 rd 4 (mI M43 rd 2)) rd 2 + 1)) rd 4 = mI (sI M43 rd 4 (mI M43 rd 2)) rd 4 from tm_up_k _ _ (by decide), show mI (sI M43 rd 4 (mI M43 rd 2)) rd 4 = mI M43 rd 2 from tm_up_s _ _ _ _, e43]) (rdf_tr f43 (rdf_tr (rdf_sI (by decide)) (rdf_sI (by decide)))) hW hS (lv_sub hl [2, 3, 1, 0] rfl)
  · have nd := tl_b_0.mp h7
    refine lv_aload_n hx hb dX4_readNumber_10 rfl (lv_at hl 0 rfl) ?_
    refine lv_aload_n hx hb dX4_readNumber_11 rfl (lv_at hl 0 rfl) ?_
    refine gf_X4_38 hx hb htw hown hK hW (by assumption) dX4_readNumber_12 ?_
    refine tm_calli (cs_X4_69 hx hb hml hown htw hK hW (by assumption) (c_X4_failAt r0) ⟨rfl, rfl, Nat.le_of_ble_eq_true rfl, Nat.le_of_ble_eq_true rfl⟩ hl.1 (Nat.le_of_ble_eq_true rfl) dX4_readNumber_15 ⟨Nat.le_of_ble_eq_true rfl, Nat.le_of_ble_eq_true rfl⟩) hS (fun x15 M15 H locs hp15 hW hS => ?_)
    obtain ⟨ex15, eM15⟩ := hp15
    rw [ex15]
    exact tm_zret hx hb hr hlk (Or.inl rfl) hK hW hS ⟨by rw [eM15]; exact rdx_tr (rdf_x (rdn_f n1)) rdx_sI, Or.inr ⟨tp_nx t n p1, by unfold tp_num; rw [if_neg nd], rfl, by rw [eM15]; exact (tm_up_s _ _ _ _).trans e1⟩⟩ dX4_readNumber_18
