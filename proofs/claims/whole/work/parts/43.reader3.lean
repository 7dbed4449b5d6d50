/-! Reader: the methods that call one another (by program: wip/whole/gen/reader3.py) -/
def rdR (rd lo sx n : Nat) (M M1 : tm_M) (res : tp_R) (r : Int) : Prop := rdx rd lo M M1 ∧ ((∃ x : Nat × tl_S, res = .inl x ∧ r = 1 ∧ mI M1 rd 2 = x.1 ∧ x.1 ≤ n ∧ sd M1 sx = x.2 ∧ sok x.2 ∧ rdf rd lo M M1) ∨ ∃ f : Nat, res = .inr f ∧ r = 0 ∧ mI M1 rd 3 = f)
def rdM (rd lo sx n : Nat) (M M1 : tm_M) (res : tp_R) (r : Int) : Prop := rdx rd lo M M1 ∧ ((∃ x : Nat × tl_S, res = .inl x ∧ r = 1 ∧ mI M1 rd 2 = x.1 ∧ x.1 ≤ n ∧ sd M1 sx = x.2 ∧ sLok x.2 ∧ (sfit x.2 → sok x.2) ∧ rdf rd lo M M1) ∨ ∃ f : Nat, res = .inr f ∧ r = 0 ∧ mI M1 rd 3 = f)
theorem rdR_z {rd lo sx n : Nat} {M M1 : tm_M} {res : tp_R} {r : Int} (h : rdR rd lo sx n M M1 res r) : r = 0 ∨ r = 1 := by
  rcases h.2 with ⟨x, -, e, -⟩ | ⟨f, -, e, -⟩
  · exact Or.inr e
  · exact Or.inl e
theorem rdR_r {rd lo sx n : Nat} {M M1 : tm_M} {res : tp_R} {r : Int} (h : rdR rd lo sx n M M1 res r) : inI r := by
  rcases rdR_z h with e | e <;> omega
theorem rdR_0 {rd lo sx n : Nat} {M M1 : tm_M} {res : tp_R} {r : Int} (h : rdR rd lo sx n M M1 res r) (e : r = 0) : ∃ f : Nat, res = .inr f ∧ mI M1 rd 3 = f := by
  rcases h.2 with ⟨x, -, e1, -⟩ | ⟨f, h1, -, h2⟩
  · omega
  · exact ⟨f, h1, h2⟩
theorem rdR_1 {rd lo sx n : Nat} {M M1 : tm_M} {res : tp_R} {r : Int} (h : rdR rd lo sx n M M1 res r) (e : ¬ r = 0) : ∃ x : Nat × tl_S, res = .inl x ∧ mI M1 rd 2 = x.1 ∧ x.1 ≤ n ∧ sd M1 sx = x.2 ∧ sok x.2 ∧ rdf rd lo M M1 := by
  rcases h.2 with ⟨x, h1, -, h2⟩ | ⟨f, -, e1, -⟩
  · exact ⟨x, h1, h2⟩
  · exact absurd e1 e
theorem rdM_z {rd lo sx n : Nat} {M M1 : tm_M} {res : tp_R} {r : Int} (h : rdM rd lo sx n M M1 res r) : r = 0 ∨ r = 1 := by
  rcases h.2 with ⟨x, -, e, -⟩ | ⟨f, -, e, -⟩
  · exact Or.inr e
  · exact Or.inl e
theorem rdM_r {rd lo sx n : Nat} {M M1 : tm_M} {res : tp_R} {r : Int} (h : rdM rd lo sx n M M1 res r) : inI r := by
  rcases rdM_z h with e | e <;> omega
theorem rdM_0 {rd lo sx n : Nat} {M M1 : tm_M} {res : tp_R} {r : Int} (h : rdM rd lo sx n M M1 res r) (e : r = 0) : ∃ f : Nat, res = .inr f ∧ mI M1 rd 3 = f := by
  rcases h.2 with ⟨x, -, e1, -⟩ | ⟨f, h1, -, h2⟩
  · omega
  · exact ⟨f, h1, h2⟩
theorem rdM_1 {rd lo sx n : Nat} {M M1 : tm_M} {res : tp_R} {r : Int} (h : rdM rd lo sx n M M1 res r) (e : ¬ r = 0) : ∃ x : Nat × tl_S, res = .inl x ∧ mI M1 rd 2 = x.1 ∧ x.1 ≤ n ∧ sd M1 sx = x.2 ∧ sLok x.2 ∧ (sfit x.2 → sok x.2) ∧ rdf rd lo M M1 := by
  rcases h.2 with ⟨x, h1, -, h2⟩ | ⟨f, -, e1, -⟩
  · exact ⟨x, h1, h2⟩
  · exact absurd e1 e
theorem rdN_r {rd sx : Nat} {M M1 : tm_M} {res : (Nat × Int × Nat) ⊕ Nat} {r : Int} (h : rdNum rd sx M M1 res r) : r = 0 ∨ r = 1 := by
  rcases h.2 with ⟨x, -, e, -⟩ | ⟨f, -, e, -⟩
  · exact Or.inr e
  · exact Or.inl e
theorem rdN_0 {rd sx : Nat} {M M1 : tm_M} {res : (Nat × Int × Nat) ⊕ Nat} {r : Int} (h : rdNum rd sx M M1 res r) (e : r = 0) : ∃ f : Nat, res = .inr f ∧ mI M1 rd 3 = f := by
  rcases h.2 with ⟨x, -, e1, -⟩ | ⟨f, h1, -, h2⟩
  · omega
  · exact ⟨f, h1, h2⟩
theorem rdN_1 {rd sx : Nat} {M M1 : tm_M} {res : (Nat × Int × Nat) ⊕ Nat} {r : Int} (h : rdNum rd sx M M1 res r) (e : ¬ r = 0) : ∃ x : Nat × Int × Nat, res = .inl x ∧ mI M1 rd 2 = x.1 ∧ mI M1 rd 4 = x.2.2 ∧ sd M1 sx = ((0, 1), (x.2.1, 1)) ∧ rdf rd sx M M1 := by
  rcases h.2 with ⟨x, h1, -, h2⟩ | ⟨f, -, e1, -⟩
  · exact ⟨x, h1, h2⟩
  · exact absurd e1 e
/-- the fault's place is set -/
theorem rdR_F {rd lo sx n : Nat} {M M1 M2 : tm_M} {res : tp_R} {f : Nat} {v : Int} (h : rdf rd lo M M1) (hr : res = .inr f) (hM : M2 = sI M1 rd 3 v) (hv : v = f) : rdR rd lo sx n M M2 res 0 := by
  subst hM hv
  exact ⟨rdx_tr (rdf_x h) rdx_sI, Or.inr ⟨f, hr, rfl, tm_up_s _ _ _ _⟩⟩
theorem rdM_F {rd lo sx n : Nat} {M M1 M2 : tm_M} {res : tp_R} {f : Nat} {v : Int} (h : rdf rd lo M M1) (hr : res = .inr f) (hM : M2 = sI M1 rd 3 v) (hv : v = f) : rdM rd lo sx n M M2 res 0 := by
  subst hM hv
  exact ⟨rdx_tr (rdf_x h) rdx_sI, Or.inr ⟨f, hr, rfl, tm_up_s _ _ _ _⟩⟩
theorem rdR_T {rd lo sx n : Nat} {M M1 : tm_M} {res : tp_R} {x : Nat × tl_S} (hf : rdf rd lo M M1) (h1 : res = .inl x) (h2 : mI M1 rd 2 = x.1) (h3 : x.1 ≤ n) (h4 : sd M1 sx = x.2) (h5 : sok x.2) : rdR rd lo sx n M M1 res 1 := ⟨rdf_x hf, Or.inl ⟨x, h1, rfl, h2, h3, h4, h5, hf⟩⟩
theorem rdM_T {rd lo sx n : Nat} {M M1 : tm_M} {res : tp_R} {x : Nat × tl_S} (hf : rdf rd lo M M1) (h1 : res = .inl x) (h2 : mI M1 rd 2 = x.1) (h3 : x.1 ≤ n) (h4 : sd M1 sx = x.2) (h5 : sLok x.2) (h6 : sfit x.2 → sok x.2) : rdM rd lo sx n M M1 res 1 := ⟨rdf_x hf, Or.inl ⟨x, h1, rfl, h2, h3, h4, h5, h6, hf⟩⟩
theorem rdR_C {rd lo sx n : Nat} {M M0 M1 : tm_M} {res : tp_R} {r : Int} (hf : rdf rd lo M M0) (h : rdR rd lo sx n M0 M1 res r) : rdR rd lo sx n M M1 res r := ⟨rdx_tr (rdf_x hf) h.1, by
  rcases h.2 with ⟨x, a1, a2, a3, a4, a5, a6, a7⟩ | z
  · exact Or.inl ⟨x, a1, a2, a3, a4, a5, a6, rdf_tr hf a7⟩
  · exact Or.inr z⟩
theorem rdM_C {rd lo sx n : Nat} {M M0 M1 : tm_M} {res : tp_R} {r : Int} (hf : rdf rd lo M M0) (h : rdM rd lo sx n M0 M1 res r) : rdM rd lo sx n M M1 res r := ⟨rdx_tr (rdf_x hf) h.1, by
  rcases h.2 with ⟨x, a1, a2, a3, a4, a5, a6, a7, a8⟩ | z
  · exact Or.inl ⟨x, a1, a2, a3, a4, a5, a6, a7, rdf_tr hf a8⟩
  · exact Or.inr z⟩
theorem rdA {sh : tm_sh} {M : tm_M} {rd ta d : Nat} (h : isRd sh M rd ta) (hd : d < 9) : mR M (rd + 2) (d : Int).toNat = some (rd + 5 + 9 * d) ∧ mR M (rd + 3) (d : Int).toNat = some (rd + 8 + 9 * d) ∧ mR M (rd + 4) (d : Int).toNat = some (rd + 11 + 9 * d) ∧ isSd sh M (rd + 5 + 9 * d) ∧ isSd sh M (rd + 8 + 9 * d) ∧ isSd sh M (rd + 11 + 9 * d) := by
  obtain ⟨-, -, -, -, -, h6⟩ := h
  obtain ⟨⟨a1, a2, a3⟩, a4, a5, a6⟩ := h6 d hd
  exact ⟨a1, a2, a3, a4, a5, a6⟩
def tl_CS (l : Launch) (G : tm_G) (Hb : Heap) (sh : tm_sh) (rd ta n : Nat) (t : Nat → Int) (r : Nat) : Prop := ∀ (M : tm_M) (d p1 : Nat), d + r = 8 → RS sh M rd ta t n p1 → Met l yX4_readSide (tws yX4_readSide cX4_readSide 7 (some .boolean)) ({ frames := 20 + 6 * r, cells := 0, slots := 0, locals := 400 + 130 * r }) (va_Pc [.ref rd, ji d] (tm_St G Hb sh M)) (tm_Qi G Hb sh (fun x M1 => rdR rd (rd + 5 + 9 * d) (rd + 5 + 9 * d) n M M1 (tp_par t n r p1) x)) 0 0 (tm_A Hb)
theorem tl_fnum {rd lo n p1 : Nat} {M M1 M2 : tm_M} {t : Nat → Int} {inn : Option (Nat → tp_R)} {r : Int} (hF : rdf rd lo M M1) (h : rdNum rd lo M1 M2 (tp_num t n (tp_nx t n p1)) r) (hp0 : p1 ≤ n) (hc : tp_ch t n (tp_nx t n p1) ≠ 40 ∧ tp_ch t n (tp_nx t n p1) ≠ 120) : rdR rd lo lo n M M2 (tp_factor t n inn p1) r := by
  have e9 : tp_num t n (tp_nx t n p1) = tp_num t n p1 := by
    unfold tp_num
    rw [tp_nx_nx hp0]
  refine ⟨rdx_tr (rdf_x hF) h.1, ?_⟩
  rw [tp_factor, if_neg hc.1, if_neg hc.2]
  rcases h.2 with ⟨x, q1, q2, q3, q4, q5, q6⟩ | ⟨f, q1, q2, q3⟩
  · have ok := tp_num_ok hp0 (e9.symm.trans q1)
    exact Or.inl ⟨(x.1, ((0, 1), (x.2.1, 1))), by rw [← e9, q1]; rfl, q2, q3, ok.1, q5, ⟨fok_num (by decide) (by decide), fok_num ok.2.1 ok.2.2.1⟩, rdf_tr hF q6⟩
  · exact Or.inr ⟨f, by rw [← e9, q1]; rfl, q2, q3⟩
theorem dX4_readParentheses_0 : decode cX4_readParentheses 0 = .ok (.iload_n 1, 1) := by decide +kernel
theorem dX4_readParentheses_1 : decode cX4_readParentheses 1 = .ok (.bipush 8, 2) := by decide +kernel
theorem dX4_readParentheses_3 : decode cX4_readParentheses 3 = .ok (.if_icmp .lt 12, 3) := by decide +kernel
theorem dX4_readParentheses_6 : decode cX4_readParentheses 6 = .ok (.aload_n 0, 1) := by decide +kernel
theorem dX4_readParentheses_7 : decode cX4_readParentheses 7 = .ok (.aload_n 0, 1) := by decide +kernel
theorem dX4_readParentheses_8 : decode cX4_readParentheses 8 = .ok (.getfield 38, 3) := by decide +kernel
theorem dX4_readParentheses_11 : decode cX4_readParentheses 11 = .ok (.invokevirtual 69, 3) := by decide +kernel
theorem dX4_readParentheses_14 : decode cX4_readParentheses 14 = .ok (.ireturn, 1) := by decide +kernel
theorem dX4_readParentheses_15 : decode cX4_readParentheses 15 = .ok (.aload_n 0, 1) := by decide +kernel
theorem dX4_readParentheses_16 : decode cX4_readParentheses 16 = .ok (.dup, 1) := by decide +kernel
theorem dX4_readParentheses_17 : decode cX4_readParentheses 17 = .ok (.getfield 38, 3) := by decide +kernel
theorem dX4_readParentheses_20 : decode cX4_readParentheses 20 = .ok (.iconst 1, 1) := by decide +kernel
theorem dX4_readParentheses_21 : decode cX4_readParentheses 21 = .ok (.iadd, 1) := by decide +kernel
theorem dX4_readParentheses_22 : decode cX4_readParentheses 22 = .ok (.putfield 38, 3) := by decide +kernel
theorem dX4_readParentheses_25 : decode cX4_readParentheses 25 = .ok (.aload_n 0, 1) := by decide +kernel
theorem dX4_readParentheses_26 : decode cX4_readParentheses 26 = .ok (.iload_n 1, 1) := by decide +kernel
theorem dX4_readParentheses_27 : decode cX4_readParentheses 27 = .ok (.iconst 1, 1) := by decide +kernel
theorem dX4_readParentheses_28 : decode cX4_readParentheses 28 = .ok (.iadd, 1) := by decide +kernel
theorem dX4_readParentheses_29 : decode cX4_readParentheses 29 = .ok (.invokevirtual 44, 3) := by decide +kernel
theorem dX4_readParentheses_32 : decode cX4_readParentheses 32 = .ok (.ifCond .ne 5, 3) := by decide +kernel
theorem dX4_readParentheses_35 : decode cX4_readParentheses 35 = .ok (.iconst 0, 1) := by decide +kernel
theorem dX4_readParentheses_36 : decode cX4_readParentheses 36 = .ok (.ireturn, 1) := by decide +kernel
theorem dX4_readParentheses_37 : decode cX4_readParentheses 37 = .ok (.aload_n 0, 1) := by decide +kernel
theorem dX4_readParentheses_38 : decode cX4_readParentheses 38 = .ok (.invokevirtual 65, 3) := by decide +kernel
theorem dX4_readParentheses_41 : decode cX4_readParentheses 41 = .ok (.bipush 41, 2) := by decide +kernel
theorem dX4_readParentheses_43 : decode cX4_readParentheses 43 = .ok (.if_icmp .eq 12, 3) := by decide +kernel
theorem dX4_readParentheses_46 : decode cX4_readParentheses 46 = .ok (.aload_n 0, 1) := by decide +kernel
theorem dX4_readParentheses_47 : decode cX4_readParentheses 47 = .ok (.aload_n 0, 1) := by decide +kernel
theorem dX4_readParentheses_48 : decode cX4_readParentheses 48 = .ok (.getfield 38, 3) := by decide +kernel
theorem dX4_readParentheses_51 : decode cX4_readParentheses 51 = .ok (.invokevirtual 69, 3) := by decide +kernel
theorem dX4_readParentheses_54 : decode cX4_readParentheses 54 = .ok (.ireturn, 1) := by decide +kernel
theorem dX4_readParentheses_55 : decode cX4_readParentheses 55 = .ok (.aload_n 0, 1) := by decide +kernel
theorem dX4_readParentheses_56 : decode cX4_readParentheses 56 = .ok (.dup, 1) := by decide +kernel
theorem dX4_readParentheses_57 : decode cX4_readParentheses 57 = .ok (.getfield 38, 3) := by decide +kernel
theorem dX4_readParentheses_60 : decode cX4_readParentheses 60 = .ok (.iconst 1, 1) := by decide +kernel
theorem dX4_readParentheses_61 : decode cX4_readParentheses 61 = .ok (.iadd, 1) := by decide +kernel
theorem dX4_readParentheses_62 : decode cX4_readParentheses 62 = .ok (.putfield 38, 3) := by decide +kernel
theorem dX4_readParentheses_65 : decode cX4_readParentheses 65 = .ok (.aload_n 0, 1) := by decide +kernel
theorem dX4_readParentheses_66 : decode cX4_readParentheses 66 = .ok (.getfield 24, 3) := by decide +kernel
theorem dX4_readParentheses_69 : decode cX4_readParentheses 69 = .ok (.iload_n 1, 1) := by decide +kernel
theorem dX4_readParentheses_70 : decode cX4_readParentheses 70 = .ok (.aaload, 1) := by decide +kernel
theorem dX4_readParentheses_71 : decode cX4_readParentheses 71 = .ok (.aload_n 0, 1) := by decide +kernel
theorem dX4_readParentheses_72 : decode cX4_readParentheses 72 = .ok (.getfield 17, 3) := by decide +kernel
theorem dX4_readParentheses_75 : decode cX4_readParentheses 75 = .ok (.iload_n 1, 1) := by decide +kernel
theorem dX4_readParentheses_76 : decode cX4_readParentheses 76 = .ok (.iconst 1, 1) := by decide +kernel
theorem dX4_readParentheses_77 : decode cX4_readParentheses 77 = .ok (.iadd, 1) := by decide +kernel
theorem dX4_readParentheses_78 : decode cX4_readParentheses 78 = .ok (.aaload, 1) := by decide +kernel
theorem dX4_readParentheses_79 : decode cX4_readParentheses 79 = .ok (.invokevirtual 54, 3) := by decide +kernel
theorem dX4_readParentheses_82 : decode cX4_readParentheses 82 = .ok (.iconst 1, 1) := by decide +kernel
theorem dX4_readParentheses_83 : decode cX4_readParentheses 83 = .ok (.ireturn, 1) := by decide +kernel
set_option maxHeartbeats 4000000 in
set_option maxRecDepth 100000 in
/-- Reader.readParentheses, at a ( -/
theorem c_X4_readParentheses {l : Launch} {G : tm_G} {Hb : Heap} {sh : tm_sh} {M : tm_M} {rd ta n p1 r d : Nat} {t : Nat → Int} (hR : RS sh M rd ta t n p1) (hd : d + r = 8) (hlt : p1 < n) (ih : ∀ r1, r1 + 1 = r → tl_CS l G Hb sh rd ta n t r1) : Met l yX4_readParentheses (tws yX4_readParentheses cX4_readParentheses 2 (some .boolean)) ({ frames := 16 + 6 * r, cells := 0, slots := 0, locals := 300 + 130 * r }) (va_Pc [.ref rd, ji d] (tm_St G Hb sh M)) (tm_Qi G Hb sh (fun x M1 => rdR rd (rd + 11 + 9 * d) (rd + 11 + 9 * d) n M M1 (tp_pars t n (tp_in t n r) p1) x)) 0 0 (tm_A Hb) := by
  refine tm_begin (by decide) (Nat.le_of_ble_eq_true rfl) (fun p e s m below meth c ls hx hb hr hml hown htw hlk hnm hK hW hl => ?_)
  have hS : va_S (tm_A Hb) s.heap s.heap [] := va_S.rf
  have hl : lv_has ls 2 [(0, .ref rd), (1, ji d)] := hl
  obtain ⟨y0, y1, y2, ⟨y3, y4, y5⟩, ⟨y6, y7, y8⟩, -⟩ := hR.1
  obtain ⟨z0, z1, z2, z3, z4, z5⟩ := rdA hR.1 (d := d) (by omega)
  have w3 := z3.1
  have w4 := z4.1
  have w5 := z5.1
  have hP := hR.2.2.2.2.2.1
  refine lv_iload_n hx hb dX4_readParentheses_0 rfl (lv_at hl 1 rfl) ?_
  refine ti_bipush hx hb dX4_readParentheses_1 (by decide) ?_
  refine ti_icmp_lt (tgt := 15) hx hb dX4_readParentheses_3 (by decide) (by omega) (by omega) (fun h3 => ?_) (fun h3 => ?_)
  · obtain ⟨r1, hr1⟩ : ∃ r1, r1 + 1 = r := ⟨r - 1, by omega⟩
    have R22 : RS sh (sI M rd 2 (mI M rd 2 + 1)) rd ta t n (p1 + 1) := RS_m (lo := 0) hR (rdf_sI (by decide)) (show mI (sI M rd 2 (mI M rd 2 + 1)) rd 2 = ((p1 + 1 : Nat) : Int) from by rw [show mI (sI M rd 2 (mI M rd 2 + 1)) rd 2 = mI M rd 2 + 1 from tm_up_s _ _ _ _, hP]; rfl) (by omega)
    have hin : tp_pars t n (tp_in t n r) p1 = tp_close t n (tp_par t n r1 (p1 + 1)) := by subst hr1; rfl
    refine lv_aload_n hx hb dX4_readParentheses_15 rfl (lv_at hl 0 rfl) ?_
    refine lv_dup hx hb dX4_readParentheses_16 rfl ?_
    refine gf_X4_38 hx hb htw hown hK hW (by assumption) dX4_readParentheses_17 ?_
    refine ti_iconst hx hb dX4_readParentheses_20 ?_
    refine ti_iadd hx hb dX4_readParentheses_21 ?_
    refine pf_X4_38 hx hb htw hown hK hW (by assumption) hS dX4_readParentheses_22 (fun H locs hW hS => ?_)
    refine lv_aload_n hx hb dX4_readParentheses_25 rfl (lv_at hl 0 rfl) ?_
    refine lv_iload_n hx hb dX4_readParentheses_26 rfl (lv_at hl 1 rfl) ?_
    refine ti_iconst hx hb dX4_readParentheses_27 ?_
    refine ti_iadd hx hb dX4_readParentheses_28 ?_
    refine tm_calli (cs_X4_44 hx hb hml hown htw hK hW (by assumption) (ih r1 (by omega) _ (d + 1) (p1 + 1) (by omega) R22) ⟨rfl, rfl, by dsimp only; omega, by dsimp only; omega⟩ hl.1 (Nat.le_of_ble_eq_true rfl) dX4_readParentheses_29 ⟨Nat.le_of_ble_eq_true rfl, Nat.le_of_ble_eq_true rfl⟩) hS (fun x29 M29 H locs hp29 hW hS => ?_)
    refine ti_if_ne (tgt := 37) hx hb dX4_readParentheses_32 (by decide) (rdR_r hp29) (fun h32 => ?_) (fun h32 => ?_)
    · obtain ⟨x29v, e29, g29, l29, v29, k29, s29⟩ := rdR_1 hp29 h32
      have F29 : rdf rd (rd + 11 + 9 * d) M M29 := rdf_tr (rdf_sI (by decide)) (rdf_wd s29 (by omega))
      have R29 := RS_m hR F29 g29 l29
      refine lv_aload_n hx hb dX4_readParentheses_37 rfl (lv_at hl 0 rfl) ?_
      refine tm_calli (cs_X4_65 hx hb hml hown htw hK hW (by assumption) (c_X4_next R29) ⟨rfl, rfl, by dsimp only; omega, by dsimp only; omega⟩ hl.1 (Nat.le_of_ble_eq_true rfl) dX4_readParentheses_38 ⟨Nat.le_of_ble_eq_true rfl, Nat.le_of_ble_eq_true rfl⟩) hS (fun x38 M38 H locs hp38 hW hS => ?_)
      obtain ⟨ex38, e38, n38⟩ := hp38
      rw [ex38]
      have R38 := RS_m R29 (rdn_f (lo := 0) n38) e38 (tp_nx_le R29.2.2.2.2.2.2).2
      have cr := tp_ch_r (n := n) (p := tp_nx t n x29v.1) (RS_t hR)
      obtain ⟨y0c, y1c, y2c, ⟨y3c, y4c, y5c⟩, ⟨y6c, y7c, y8c⟩, -⟩ := R38.1
      obtain ⟨z0c, z1c, z2c, z3c, z4c, z5c⟩ := rdA R38.1 (d := d) (by omega)
      have w3c := z3c.1
      have w4c := z4c.1
      have w5c := z5c.1
      obtain ⟨z0d, z1d, z2d, z3d, z4d, z5d⟩ := rdA R38.1 (d := d + 1) (by omega)
      have w3d := z3d.1
      refine ti_bipush hx hb dX4_readParentheses_41 (by decide) ?_
      refine ti_icmp_eq (tgt := 55) hx hb dX4_readParentheses_43 (by decide) (by omega) (by omega) (fun h43 => ?_) (fun h43 => ?_)
      · refine lv_aload_n hx hb dX4_readParentheses_55 rfl (lv_at hl 0 rfl) ?_
        refine lv_dup hx hb dX4_readParentheses_56 rfl ?_
        refine gf_X4_38 hx hb htw hown hK hW (by assumption) dX4_readParentheses_57 ?_
        refine ti_iconst hx hb dX4_readParentheses_60 ?_
        refine ti_iadd hx hb dX4_readParentheses_61 ?_
        refine pf_X4_38 hx hb htw hown hK hW (by assumption) hS dX4_readParentheses_62 (fun H locs hW hS => ?_)
        refine lv_aload_n hx hb dX4_readParentheses_65 rfl (lv_at hl 0 rfl) ?_
        refine gf_X4_24 hx hb htw hown hK hW (by assumption) (by assumption) dX4_readParentheses_66 ?_
        refine lv_iload_n hx hb dX4_readParentheses_69 rfl (lv_at hl 1 rfl) ?_
        refine tm_aaldS hx hb hK hW (by assumption) (by omega) (by omega) (by decide) z2c dX4_readParentheses_70 ?_
        refine lv_aload_n hx hb dX4_readParentheses_71 rfl (lv_at hl 0 rfl) ?_
        refine gf_X4_17 hx hb htw hown hK hW (by assumption) (by assumption) dX4_readParentheses_72 ?_
        refine lv_iload_n hx hb dX4_readParentheses_75 rfl (lv_at hl 1 rfl) ?_
        refine ti_iconst hx hb dX4_readParentheses_76 ?_
        refine ti_iadd hx hb dX4_readParentheses_77 ?_
        refine tm_aaldS hx hb hK hW (by assumption) (by omega) (by omega) (by decide) (show mR M38 (rd + 2) ((d : Int) + 1).toNat = some (rd + 5 + 9 * (d + 1)) from z0d) dX4_readParentheses_78 ?_
        refine tm_callv (cs_X4_54 hx hb hml hown htw hK hW (by assumption) (c_X5_copy (isSd_m z5c rfl) (isSd_m z3d rfl) (by omega)) ⟨rfl, rfl, by dsimp only; omega, by dsimp only; omega⟩ hl.1 (Nat.le_of_ble_eq_true rfl) dX4_readParentheses_79 ⟨Nat.le_of_ble_eq_true rfl, Nat.le_of_ble_eq_true rfl⟩) hS (fun M79 H locs hp79 hW hS => ?_)
        refine ti_iconst hx hb dX4_readParentheses_82 ?_
        exact tm_zret hx hb hr hlk (by first | exact Or.inl rfl | exact Or.inr rfl | assumption) hK hW hS (rdR_T (x := (tp_nx t n x29v.1 + 1, x29v.2)) (by rw [hp79]; exact rdf_tr (rdf_tr F29 (rdn_f n38)) (rdf_tr (rdf_sI (by decide)) (rdf_sS (by omega) (by omega)))) (by rw [hin, e29]; exact if_pos h43) (by rw [hp79]; exact (tm_up_s _ _ _ _).trans (by rw [e38]; rfl)) (tp_ch_lt (t := t) (n := n) (by rw [h43]; decide)) (by rw [hp79]; exact (sd_self _ _ _).trans ((rdn_sd n38).trans v29)) k29) dX4_readParentheses_83
      · refine lv_aload_n hx hb dX4_readParentheses_46 rfl (lv_at hl 0 rfl) ?_
        refine lv_aload_n hx hb dX4_readParentheses_47 rfl (lv_at hl 0 rfl) ?_
        refine gf_X4_38 hx hb htw hown hK hW (by assumption) dX4_readParentheses_48 ?_
        refine tm_calli (cs_X4_69 hx hb hml hown htw hK hW (by assumption) (c_X4_failAt (by assumption)) ⟨rfl, rfl, by dsimp only; omega, by dsimp only; omega⟩ hl.1 (Nat.le_of_ble_eq_true rfl) dX4_readParentheses_51 ⟨Nat.le_of_ble_eq_true rfl, Nat.le_of_ble_eq_true rfl⟩) hS (fun x51 M51 H locs hp51 hW hS => ?_)
        obtain ⟨ex51, eM51⟩ := hp51
        rw [ex51]
        exact tm_zret hx hb hr hlk (Or.inl rfl) hK hW hS (rdR_F (rdf_tr F29 (rdn_f n38)) (f := tp_nx t n x29v.1) (by rw [hin, e29]; exact if_neg h43) eM51 e38) dX4_readParentheses_54
    · obtain ⟨f29, e29, g29⟩ := rdR_0 hp29 h32
      refine ti_iconst hx hb dX4_readParentheses_35 ?_
      exact tm_zret hx hb hr hlk (by first | exact Or.inl rfl | exact Or.inr rfl | assumption) hK hW hS ⟨rdx_tr (rdf_x (rdf_sI (by decide))) (rdx_wd hp29.1 (by omega)), Or.inr ⟨f29, by rw [hin, e29]; rfl, rfl, g29⟩⟩ dX4_readParentheses_36
  · have r0 : r = 0 := by omega
    refine lv_aload_n hx hb dX4_readParentheses_6 rfl (lv_at hl 0 rfl) ?_
    refine lv_aload_n hx hb dX4_readParentheses_7 rfl (lv_at hl 0 rfl) ?_
    refine gf_X4_38 hx hb htw hown hK hW (by assumption) dX4_readParentheses_8 ?_
    refine tm_calli (cs_X4_69 hx hb hml hown htw hK hW (by assumption) (c_X4_failAt (by assumption)) ⟨rfl, rfl, by dsimp only; omega, by dsimp only; omega⟩ hl.1 (Nat.le_of_ble_eq_true rfl) dX4_readParentheses_11 ⟨Nat.le_of_ble_eq_true rfl, Nat.le_of_ble_eq_true rfl⟩) hS (fun x11 M11 H locs hp11 hW hS => ?_)
    obtain ⟨ex11, eM11⟩ := hp11
    rw [ex11]
    exact tm_zret hx hb hr hlk (Or.inl rfl) hK hW hS (rdR_F rdf_rf (f := p1) (by subst r0; rfl) eM11 hP) dX4_readParentheses_14
theorem dX4_readFactor_0 : decode cX4_readFactor 0 = .ok (.aload_n 0, 1) := by decide +kernel
theorem dX4_readFactor_1 : decode cX4_readFactor 1 = .ok (.invokevirtual 65, 3) := by decide +kernel
theorem dX4_readFactor_4 : decode cX4_readFactor 4 = .ok (.lookupswitch 57 #[(40, 51), (120, 28)], 28) := by decide +kernel
theorem dX4_readFactor_32 : decode cX4_readFactor 32 = .ok (.aload_n 0, 1) := by decide +kernel
theorem dX4_readFactor_33 : decode cX4_readFactor 33 = .ok (.dup, 1) := by decide +kernel
theorem dX4_readFactor_34 : decode cX4_readFactor 34 = .ok (.getfield 38, 3) := by decide +kernel
theorem dX4_readFactor_37 : decode cX4_readFactor 37 = .ok (.iconst 1, 1) := by decide +kernel
theorem dX4_readFactor_38 : decode cX4_readFactor 38 = .ok (.iadd, 1) := by decide +kernel
theorem dX4_readFactor_39 : decode cX4_readFactor 39 = .ok (.putfield 38, 3) := by decide +kernel
theorem dX4_readFactor_42 : decode cX4_readFactor 42 = .ok (.aload_n 0, 1) := by decide +kernel
theorem dX4_readFactor_43 : decode cX4_readFactor 43 = .ok (.getfield 24, 3) := by decide +kernel
theorem dX4_readFactor_46 : decode cX4_readFactor 46 = .ok (.iload_n 1, 1) := by decide +kernel
theorem dX4_readFactor_47 : decode cX4_readFactor 47 = .ok (.aaload, 1) := by decide +kernel
theorem dX4_readFactor_48 : decode cX4_readFactor 48 = .ok (.iconst 1, 1) := by decide +kernel
theorem dX4_readFactor_49 : decode cX4_readFactor 49 = .ok (.iconst 0, 1) := by decide +kernel
theorem dX4_readFactor_50 : decode cX4_readFactor 50 = .ok (.invokevirtual 125, 3) := by decide +kernel
theorem dX4_readFactor_53 : decode cX4_readFactor 53 = .ok (.iconst 1, 1) := by decide +kernel
theorem dX4_readFactor_54 : decode cX4_readFactor 54 = .ok (.ireturn, 1) := by decide +kernel
theorem dX4_readFactor_55 : decode cX4_readFactor 55 = .ok (.aload_n 0, 1) := by decide +kernel
theorem dX4_readFactor_56 : decode cX4_readFactor 56 = .ok (.iload_n 1, 1) := by decide +kernel
theorem dX4_readFactor_57 : decode cX4_readFactor 57 = .ok (.invokevirtual 129, 3) := by decide +kernel
theorem dX4_readFactor_60 : decode cX4_readFactor 60 = .ok (.ireturn, 1) := by decide +kernel
theorem dX4_readFactor_61 : decode cX4_readFactor 61 = .ok (.aload_n 0, 1) := by decide +kernel
theorem dX4_readFactor_62 : decode cX4_readFactor 62 = .ok (.aload_n 0, 1) := by decide +kernel
theorem dX4_readFactor_63 : decode cX4_readFactor 63 = .ok (.getfield 24, 3) := by decide +kernel
theorem dX4_readFactor_66 : decode cX4_readFactor 66 = .ok (.iload_n 1, 1) := by decide +kernel
theorem dX4_readFactor_67 : decode cX4_readFactor 67 = .ok (.aaload, 1) := by decide +kernel
theorem dX4_readFactor_68 : decode cX4_readFactor 68 = .ok (.invokevirtual 112, 3) := by decide +kernel
theorem dX4_readFactor_71 : decode cX4_readFactor 71 = .ok (.ireturn, 1) := by decide +kernel
set_option maxHeartbeats 4000000 in
set_option maxRecDepth 100000 in
/-- Reader.readFactor -/
theorem c_X4_readFactor {l : Launch} {G : tm_G} {Hb : Heap} {sh : tm_sh} {M : tm_M} {rd ta n p1 r d : Nat} {t : Nat → Int} (hR : RS sh M rd ta t n p1) (hd : d + r = 8) (ih : ∀ r1, r1 + 1 = r → tl_CS l G Hb sh rd ta n t r1) : Met l yX4_readFactor (tws yX4_readFactor cX4_readFactor 2 (some .boolean)) ({ frames := 17 + 6 * r, cells := 0, slots := 0, locals := 325 + 130 * r }) (va_Pc [.ref rd, ji d] (tm_St G Hb sh M)) (tm_Qi G Hb sh (fun x M1 => rdR rd (rd + 11 + 9 * d) (rd + 11 + 9 * d) n M M1 (tp_factor t n (tp_in t n r) p1) x)) 0 0 (tm_A Hb) := by
  refine tm_begin (by decide) (Nat.le_of_ble_eq_true rfl) (fun p e s m below meth c ls hx hb hr hml hown htw hlk hnm hK hW hl => ?_)
  have hS : va_S (tm_A Hb) s.heap s.heap [] := va_S.rf
  have hl : lv_has ls 2 [(0, .ref rd), (1, ji d)] := hl
  obtain ⟨y0, y1, y2, ⟨y3, y4, y5⟩, ⟨y6, y7, y8⟩, -⟩ := hR.1
  obtain ⟨z0, z1, z2, z3, z4, z5⟩ := rdA hR.1 (d := d) (by omega)
  have w3 := z3.1
  have w4 := z4.1
  have w5 := z5.1
  have hp0 := hR.2.2.2.2.2.2
  have cr := tp_ch_r (n := n) (p := tp_nx t n p1) (RS_t hR)
  refine lv_aload_n hx hb dX4_readFactor_0 rfl (lv_at hl 0 rfl) ?_
  refine tm_calli (cs_X4_65 hx hb hml hown htw hK hW (by assumption) (c_X4_next hR) ⟨rfl, rfl, by dsimp only; omega, by dsimp only; omega⟩ hl.1 (Nat.le_of_ble_eq_true rfl) dX4_readFactor_1 ⟨Nat.le_of_ble_eq_true rfl, Nat.le_of_ble_eq_true rfl⟩) hS (fun x1 M1 H locs hp1 hW hS => ?_)
  obtain ⟨ex1, e1, n1⟩ := hp1
  rw [ex1]
  have R1 := RS_m hR (rdn_f (lo := (rd + 11 + 9 * d)) n1) e1 (tp_nx_le hR.2.2.2.2.2.2).2
  obtain ⟨y0a, y1a, y2a, ⟨y3a, y4a, y5a⟩, ⟨y6a, y7a, y8a⟩, -⟩ := R1.1
  obtain ⟨z0a, z1a, z2a, z3a, z4a, z5a⟩ := rdA R1.1 (d := d) (by omega)
  have w3a := z3a.1
  have w4a := z4a.1
  have w5a := z5a.1
  have F1 := rdn_f (lo := (rd + 11 + 9 * d)) n1
  refine ti_lk_40_120 (td := 61) (t1 := 55) (t2 := 32) hx hb dX4_readFactor_4 (by omega) (by decide) (by decide) (by decide) (fun h4 => ?_) (fun h4 => ?_) (fun h4 => ?_)
  · refine lv_aload_n hx hb dX4_readFactor_55 rfl (lv_at hl 0 rfl) ?_
    refine lv_iload_n hx hb dX4_readFactor_56 rfl (lv_at hl 1 rfl) ?_
    refine tm_calli (cs_X4_129 hx hb hml hown htw hK hW (by assumption) (c_X4_readParentheses R1 hd (tp_ch_lt (t := t) (by rw [h4]; decide)) ih) ⟨rfl, rfl, by dsimp only; omega, by dsimp only; omega⟩ hl.1 (Nat.le_of_ble_eq_true rfl) dX4_readFactor_57 ⟨Nat.le_of_ble_eq_true rfl, Nat.le_of_ble_eq_true rfl⟩) hS (fun x57 M57 H locs hp57 hW hS => ?_)
    exact tm_zret hx hb hr hlk (rdR_z hp57) hK hW hS (by rw [tp_factor, if_pos h4]; exact rdR_C F1 hp57) dX4_readFactor_60
  · refine lv_aload_n hx hb dX4_readFactor_32 rfl (lv_at hl 0 rfl) ?_
    refine lv_dup hx hb dX4_readFactor_33 rfl ?_
    refine gf_X4_38 hx hb htw hown hK hW (by assumption) dX4_readFactor_34 ?_
    refine ti_iconst hx hb dX4_readFactor_37 ?_
    refine ti_iadd hx hb dX4_readFactor_38 ?_
    refine pf_X4_38 hx hb htw hown hK hW (by assumption) hS dX4_readFactor_39 (fun H locs hW hS => ?_)
    refine lv_aload_n hx hb dX4_readFactor_42 rfl (lv_at hl 0 rfl) ?_
    refine gf_X4_24 hx hb htw hown hK hW (by assumption) (by assumption) dX4_readFactor_43 ?_
    refine lv_iload_n hx hb dX4_readFactor_46 rfl (lv_at hl 1 rfl) ?_
    refine tm_aaldS hx hb hK hW (by assumption) (by omega) (by omega) (by decide) z2a dX4_readFactor_47 ?_
    refine ti_iconst hx hb dX4_readFactor_48 ?_
    refine ti_iconst hx hb dX4_readFactor_49 ?_
    refine tm_callv (cs_X4_125 hx hb hml hown htw hK hW (by assumption) (c_X5_setWhole (isSd_m z5a rfl) (by decide) (by decide)) ⟨rfl, rfl, by dsimp only; omega, by dsimp only; omega⟩ hl.1 (Nat.le_of_ble_eq_true rfl) dX4_readFactor_50 ⟨Nat.le_of_ble_eq_true rfl, Nat.le_of_ble_eq_true rfl⟩) hS (fun M50 H locs hp50 hW hS => ?_)
    refine ti_iconst hx hb dX4_readFactor_53 ?_
    exact tm_zret hx hb hr hlk (by first | exact Or.inl rfl | exact Or.inr rfl | assumption) hK hW hS (rdR_T (x := (tp_nx t n p1 + 1, ((1, 1), (0, 1)))) (by rw [hp50]; exact rdf_tr F1 (rdf_tr (rdf_sI (by decide)) (rdf_sS (by omega) (by omega)))) (by rw [tp_factor, if_neg (by omega), if_pos h4]) (by rw [hp50]; exact (tm_up_s _ _ _ _).trans (by rw [e1]; rfl)) (tp_ch_lt (t := t) (n := n) (by rw [h4]; decide)) (by rw [hp50]; exact sd_self _ _ _) ⟨fok_num (by decide) (by decide), fok_num (by decide) (by decide)⟩) dX4_readFactor_54
  · refine lv_aload_n hx hb dX4_readFactor_61 rfl (lv_at hl 0 rfl) ?_
    refine lv_aload_n hx hb dX4_readFactor_62 rfl (lv_at hl 0 rfl) ?_
    refine gf_X4_24 hx hb htw hown hK hW (by assumption) (by assumption) dX4_readFactor_63 ?_
    refine lv_iload_n hx hb dX4_readFactor_66 rfl (lv_at hl 1 rfl) ?_
    refine tm_aaldS hx hb hK hW (by assumption) (by omega) (by omega) (by decide) z2a dX4_readFactor_67 ?_
    refine tm_calli (cs_X4_112 hx hb hml hown htw hK hW (by assumption) (c_X4_readNumber R1 z5a (by omega)) ⟨rfl, rfl, by dsimp only; omega, by dsimp only; omega⟩ hl.1 (Nat.le_of_ble_eq_true rfl) dX4_readFactor_68 ⟨Nat.le_of_ble_eq_true rfl, Nat.le_of_ble_eq_true rfl⟩) hS (fun x68 M68 H locs hp68 hW hS => ?_)
    exact tm_zret hx hb hr hlk (rdN_r hp68) hK hW hS (tl_fnum F1 hp68 hp0 h4) dX4_readFactor_71
