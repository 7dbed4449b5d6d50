/-! the JDK: append(int), append(String), charAt (by program: wip/whole/gen/jd5.py) -/
section TKA
variable {p : Program} {l : Launch} {e : Env} {R : Room} {s : State} {m : MethodId} {args : Array Value} {below : List Frame} {meth : Method} {c : Code} {H : Heap} {locs : List Loc} {cells slots : Nat} {Q : State → Prop}
variable {cc : ByteArray} {pc : Nat} {ls : Array Slot} {rest : List Value}
theorem tk_alen {A : Nat → Prop} {t N : Nat} {f : Nat → Value} {ty : FieldType} (hexec : p.tables.exec = Jvm.exec) (hb : c.code = cc) (hT : va_T ty t N f A s s.heap) (hS : va_S A s.heap H locs) (hdg : decode cc pc = .ok (.arraylength, 1)) (kk : W p l e R s m args below meth c H locs cells slots Q (F0 m (pc + 1) ls (ji (N : Nat) :: rest))) : W p l e R s m args below meth c H locs cells slots Q (F0 m pc ls (.ref t :: rest)) := by
  obtain ⟨cell, h1, h2, h3, h4, h5, h6, h7⟩ := hT
  exact W.alen (n := Int32.ofNat N) hexec hb (by rw [hS.2.1 t (Array.getElem?_eq_some_iff.mp h1).1 h7]; exact h1) h2 h5 rfl rfl hdg kk
end TKA
theorem SB_int {sh : tm_sh} {M M1 : tm_M} {q V cap b : Nat} {pr : List Int} {v : Int} (s : isSB sh M q V cap pr) (hl : pr.length + (tl_dec v).length ≤ cap) (hb : b = pr.length) (g : gC M V b v M1) : isSB sh (sI M1 q 3 ((pr.length : Int) + ((tl_dec v).length : Int))) q V cap (pr ++ tl_dec v) := by
  have hne := SB_ne s
  subst hb
  obtain ⟨g1, g2, g3, g4, g5, g6⟩ := g
  have e : ∀ j, mI (sI M1 q 3 ((pr.length : Int) + ((tl_dec v).length : Int))) V j = mI M1 V j := fun j => tm_up_a _ _ hne
  exact SB_app s g1 hl ((tm_up_k _ _ (by decide)).trans ((g3 _ _ (Ne.symm hne)).trans s.2.2.2.1)) ((tm_up_s _ _ _ _).trans (by rw [Int.natCast_add])) (fun j hj => (e j).trans (g4 j hj)) (fun j hj => (e _).trans (g5 j hj)) (fun j => by rw [e]; exact g6 j (s.2.2.2.2.2.2.2.2 j))
theorem gC_b {M M1 : tm_M} {V b c : Nat} {v : Int} (g : gC M V c v M1) (h : c = b) : gC M V b v M1 := by rw [← h]; exact g
theorem dJ5_append_c97b9_0 : decode cJ5_append_c97b9 0 = .ok (.aload_n 0, 1) := by decide +kernel
theorem dJ5_append_c97b9_1 : decode cJ5_append_c97b9 1 = .ok (.getfield 79, 3) := by decide +kernel
theorem dJ5_append_c97b9_4 : decode cJ5_append_c97b9 4 = .ok (.istore_n 2, 1) := by decide +kernel
theorem dJ5_append_c97b9_5 : decode cJ5_append_c97b9 5 = .ok (.iload_n 2, 1) := by decide +kernel
theorem dJ5_append_c97b9_6 : decode cJ5_append_c97b9 6 = .ok (.iload_n 1, 1) := by decide +kernel
theorem dJ5_append_c97b9_7 : decode cJ5_append_c97b9 7 = .ok (.invokestatic 245, 3) := by decide +kernel
theorem dJ5_append_c97b9_10 : decode cJ5_append_c97b9 10 = .ok (.iadd, 1) := by decide +kernel
theorem dJ5_append_c97b9_11 : decode cJ5_append_c97b9 11 = .ok (.istore_n 3, 1) := by decide +kernel
theorem dJ5_append_c97b9_12 : decode cJ5_append_c97b9 12 = .ok (.aload_n 0, 1) := by decide +kernel
theorem dJ5_append_c97b9_13 : decode cJ5_append_c97b9 13 = .ok (.iload_n 3, 1) := by decide +kernel
theorem dJ5_append_c97b9_14 : decode cJ5_append_c97b9 14 = .ok (.invokevirtual 100, 3) := by decide +kernel
theorem dJ5_append_c97b9_17 : decode cJ5_append_c97b9 17 = .ok (.aload_n 0, 1) := by decide +kernel
theorem dJ5_append_c97b9_18 : decode cJ5_append_c97b9 18 = .ok (.invokevirtual 83, 3) := by decide +kernel
theorem dJ5_append_c97b9_21 : decode cJ5_append_c97b9 21 = .ok (.ifCond .eq 16, 3) := by decide +kernel
theorem dJ5_append_c97b9_24 : decode cJ5_append_c97b9 24 = .ok (.iload_n 1, 1) := by decide +kernel
theorem dJ5_append_c97b9_25 : decode cJ5_append_c97b9 25 = .ok (.iload_n 3, 1) := by decide +kernel
theorem dJ5_append_c97b9_26 : decode cJ5_append_c97b9 26 = .ok (.aload_n 0, 1) := by decide +kernel
theorem dJ5_append_c97b9_27 : decode cJ5_append_c97b9 27 = .ok (.getfield 15, 3) := by decide +kernel
theorem dJ5_append_c97b9_30 : decode cJ5_append_c97b9 30 = .ok (.invokestatic 248, 3) := by decide +kernel
theorem dJ5_append_c97b9_33 : decode cJ5_append_c97b9 33 = .ok (.pop, 1) := by decide +kernel
theorem dJ5_append_c97b9_34 : decode cJ5_append_c97b9 34 = .ok (.goto 14, 3) := by decide +kernel
theorem dJ5_append_c97b9_37 : decode cJ5_append_c97b9 37 = .ok (.iload_n 1, 1) := by decide +kernel
theorem dJ5_append_c97b9_38 : decode cJ5_append_c97b9 38 = .ok (.iload_n 2, 1) := by decide +kernel
theorem dJ5_append_c97b9_39 : decode cJ5_append_c97b9 39 = .ok (.iload_n 3, 1) := by decide +kernel
theorem dJ5_append_c97b9_40 : decode cJ5_append_c97b9 40 = .ok (.aload_n 0, 1) := by decide +kernel
theorem dJ5_append_c97b9_41 : decode cJ5_append_c97b9 41 = .ok (.getfield 15, 3) := by decide +kernel
theorem dJ5_append_c97b9_44 : decode cJ5_append_c97b9 44 = .ok (.invokestatic 251, 3) := by decide +kernel
theorem dJ5_append_c97b9_47 : decode cJ5_append_c97b9 47 = .ok (.pop, 1) := by decide +kernel
theorem dJ5_append_c97b9_48 : decode cJ5_append_c97b9 48 = .ok (.aload_n 0, 1) := by decide +kernel
theorem dJ5_append_c97b9_49 : decode cJ5_append_c97b9 49 = .ok (.iload_n 3, 1) := by decide +kernel
theorem dJ5_append_c97b9_50 : decode cJ5_append_c97b9 50 = .ok (.putfield 79, 3) := by decide +kernel
theorem dJ5_append_c97b9_53 : decode cJ5_append_c97b9 53 = .ok (.aload_n 0, 1) := by decide +kernel
theorem dJ5_append_c97b9_54 : decode cJ5_append_c97b9 54 = .ok (.areturn, 1) := by decide +kernel
set_option maxHeartbeats 1000000 in
set_option maxRecDepth 100000 in
/-- AbstractStringBuilder.append(int) -/
theorem c_J5_appendI {l : Launch} {G : tm_G} {Hb : Heap} {sh : tm_sh} {M : tm_M} {q V cap h : Nat} {pr : List Int} (s1 : isSB sh M q V cap pr) {v : Int} (hv : 0 ≤ v ∧ v ≤ 9999) (hlen : pr.length + 4 ≤ 60) : Met l yJ5_append_c97b9 (tws yJ5_append_c97b9 cJ5_append_c97b9 4 (some (.object "java/lang/AbstractStringBuilder"))) ({ frames := 4, cells := 1, slots := 400, locals := 91 }) (va_Pc [.ref q, ji v] (tz_St G Hb sh M h)) (tz_Qa G Hb (fun x sh1 M1 h1 => x = q ∧ SBx q V h sh M (pr ++ tl_dec v) (pr ++ tl_dec v).length sh1 M1 h1)) 1 400 (tm_A Hb) := by
  refine tz_beginF (by decide +kernel) (Nat.le_of_ble_eq_true rfl) (fun p e s m below meth c ls hx hb hr hml hown htw hlk hnm hK hW hC hh hl => ?_)
  have hS : va_S (tm_A Hb) s.heap s.heap [] := va_S.rf
  have hl : lv_has ls 4 [(0, .ref q), (1, ji v)] := hl
  have s0 := s1
  obtain ⟨hq, hr0, hV, hc, h3c, hlc, hcp, hby, hrg⟩ := s1
  have dl := tl_dec_l v
  refine lv_aload_n hx hb dJ5_append_c97b9_0 rfl (lv_at hl 0 rfl) ?_
  refine gf_J5_79 hx hb htw hown hK hW hq dJ5_append_c97b9_1 ?_
  rw [h3c]
  refine lv_istore_n (lv' := [(2, _), (0, _), (1, _)]) hx hb dJ5_append_c97b9_4 rfl hl (by decide) rfl (fun ls hl => ?_)
  refine lv_iload_n hx hb dJ5_append_c97b9_5 rfl (lv_at hl 0 rfl) ?_
  refine lv_iload_n hx hb dJ5_append_c97b9_6 rfl (lv_at hl 2 rfl) ?_
  refine tm_calli (cq_J5_245 hx hb hml hown htw (tm_preS hK hW) (c_J6_stringSize hv) ⟨rfl, rfl, Nat.le_of_ble_eq_true rfl, Nat.le_of_ble_eq_true rfl⟩ hl.1 (Nat.le_of_ble_eq_true rfl) dJ5_append_c97b9_7 ⟨(by first | omega | (dsimp only; omega)), (by first | omega | (dsimp only; omega))⟩) hS (fun x7 M7 H locs hp7 hW hS => ?_)
  obtain ⟨ex7, eM7⟩ := hp7
  rw [eM7] at hW
  rw [ex7]
  obtain ⟨hX, hXe⟩ : ∃ hX, H.size = hX := ⟨_, rfl⟩
  have hX0 : h ≤ hX := by rw [← hXe, ← hh]; exact hS.1
  refine ti_iadd hx hb dJ5_append_c97b9_10 ?_
  refine lv_istore_n (lv' := [(3, _), (2, _), (0, _), (1, _)]) hx hb dJ5_append_c97b9_11 rfl hl (by decide) rfl (fun ls hl => ?_)
  refine lv_aload_n hx hb dJ5_append_c97b9_12 rfl (lv_at hl 2 rfl) ?_
  refine lv_iload_n hx hb dJ5_append_c97b9_13 rfl (lv_at hl 0 rfl) ?_
  refine tz_callv (cq_J5_100 hx hb hml hown htw hC (tz_preV hK hW hC hS hXe hq (by decide) rfl) (c_J5_ensure (h := hX) s0 (by omega)) ⟨rfl, rfl, Nat.le_of_ble_eq_true rfl, Nat.le_of_ble_eq_true rfl⟩ hl.1 (Nat.le_of_ble_eq_true rfl) dJ5_append_c97b9_14 ⟨(by first | omega | (dsimp only; omega)), (by first | omega | (dsimp only; omega))⟩) hS (fun sh14 M14 h14 H locs hp14 hW hS hz => ?_)
  obtain ⟨V1, cap1, s2, hn1, hV1, hh1, hf1, hf2⟩ := hp14
  have s3 := s2
  obtain ⟨kq, kr0, kV, kc, k3c, klc, kcp, kby, krg⟩ := s2
  obtain ⟨hY, hYe⟩ : ∃ hY, H.size = hY := ⟨_, rfl⟩
  have hV1 : V1 = V ∨ h ≤ V1 := by omega
  have hf1 : ∀ a, a < h → sh14 a = sh a := fun a ha => hf1 a (by omega)
  have hf2 : ∀ a k, a < h → a ≠ q → a ≠ V → mR M14 a k = mR M a k ∧ mI M14 a k = mI M a k ∧ mL M14 a k = mL M a k := fun a k ha => hf2 a k (by omega)
  refine lv_aload_n hx hb dJ5_append_c97b9_17 rfl (lv_at hl 2 rfl) ?_
  refine tm_calli (cq_J5_83 hx hb hml hown htw hC (tz_preV hK hW hC hS hYe kq (by decide) rfl) (c_J5_isLatin1 kq kc) ⟨rfl, rfl, Nat.le_of_ble_eq_true rfl, Nat.le_of_ble_eq_true rfl⟩ hl.1 (Nat.le_of_ble_eq_true rfl) dJ5_append_c97b9_18 ⟨(by first | omega | (dsimp only; omega)), (by first | omega | (dsimp only; omega))⟩) hS (fun x18 M18 H locs hp18 hW hS => ?_)
  obtain ⟨ex18, eM18⟩ := hp18
  rw [eM18] at hW
  rw [ex18]
  obtain ⟨hZ, hZe⟩ : ∃ hZ, H.size = hZ := ⟨_, rfl⟩
  refine ti_if_eq (tgt := 37) hx hb dJ5_append_c97b9_21 (by decide) (by decide) (fun h21 => ?_) (fun h21 => ?_)
  · exact absurd h21 (by decide)
  · refine lv_iload_n hx hb dJ5_append_c97b9_24 rfl (lv_at hl 3 rfl) ?_
    refine lv_iload_n hx hb dJ5_append_c97b9_25 rfl (lv_at hl 0 rfl) ?_
    refine lv_aload_n hx hb dJ5_append_c97b9_26 rfl (lv_at hl 2 rfl) ?_
    refine gf_J5_15 hx hb htw hown hK hW kq kr0 dJ5_append_c97b9_27 ?_
    refine tm_calli (cq_J5_248 hx hb hml hown htw (tz_preS hK hW hC hS hZe) (c_J6_getChars (cap := cap1) (h := hZ) hv kV (by omega) kcp) ⟨rfl, rfl, Nat.le_of_ble_eq_true rfl, Nat.le_of_ble_eq_true rfl⟩ hl.1 (Nat.le_of_ble_eq_true rfl) dJ5_append_c97b9_30 ⟨(by first | omega | (dsimp only; omega)), (by first | omega | (dsimp only; omega))⟩) hS (fun x30 M30 H locs gc hW hS => ?_)
    replace gc := gC_b (b := pr.length) gc (by omega)
    refine lv_pop hx hb dJ5_append_c97b9_33 rfl ?_
    refine lv_goto (tgt := 48) hx hb dJ5_append_c97b9_34 (by decide) ?_
    refine lv_aload_n hx hb dJ5_append_c97b9_48 rfl (lv_at hl 2 rfl) ?_
    refine lv_iload_n hx hb dJ5_append_c97b9_49 rfl (lv_at hl 0 rfl) ?_
    refine pf_J5_79 hx hb htw hown hK hW kq hS dJ5_append_c97b9_50 (fun H locs hW hS => ?_)
    refine lv_aload_n hx hb dJ5_append_c97b9_53 rfl (lv_at hl 2 rfl) ?_
    exact W.widen (k := 1) (n := 400) (by first | omega | (dsimp only; omega)) (by first | omega | (dsimp only; omega)) (tz_aret hx hb hr (Or.inl ⟨_, rfl⟩) hlk hK hW hS rfl ⟨rfl, SBx_fin hV1 hf1 hf2 (SB_int s3 (by omega) (by omega) gc) (by rw [List.length_append]; omega) (fun a k q1 q2 => ⟨by rw [gc.1], (tm_up_a _ _ q1).trans (gc.2.2.1 a k q2), by show mL M30 a k = _; rw [gc.2.1]⟩) (by rw [← hh]; exact hS.1)⟩ dJ5_append_c97b9_54)
theorem dJ4_append_bf812_0 : decode cJ4_append_bf812 0 = .ok (.aload_n 0, 1) := by decide +kernel
theorem dJ4_append_bf812_1 : decode cJ4_append_bf812 1 = .ok (.iload_n 1, 1) := by decide +kernel
theorem dJ4_append_bf812_2 : decode cJ4_append_bf812 2 = .ok (.invokespecial 53, 3) := by decide +kernel
theorem dJ4_append_bf812_5 : decode cJ4_append_bf812 5 = .ok (.pop, 1) := by decide +kernel
theorem dJ4_append_bf812_6 : decode cJ4_append_bf812 6 = .ok (.aload_n 0, 1) := by decide +kernel
theorem dJ4_append_bf812_7 : decode cJ4_append_bf812 7 = .ok (.areturn, 1) := by decide +kernel
set_option maxHeartbeats 1000000 in
set_option maxRecDepth 100000 in
/-- StringBuilder.append(int) -/
theorem c_J4_appendI {l : Launch} {G : tm_G} {Hb : Heap} {sh : tm_sh} {M : tm_M} {q V cap h : Nat} {pr : List Int} (s1 : isSB sh M q V cap pr) {v : Int} (hv : 0 ≤ v ∧ v ≤ 9999) (hlen : pr.length + 4 ≤ 60) : Met l yJ4_append_bf812 (tws yJ4_append_bf812 cJ4_append_bf812 2 (some (.object "java/lang/StringBuilder"))) ({ frames := 5, cells := 1, slots := 400, locals := 114 }) (va_Pc [.ref q, ji v] (tz_St G Hb sh M h)) (tz_Qa G Hb (fun x sh1 M1 h1 => x = q ∧ SBx q V h sh M (pr ++ tl_dec v) (pr ++ tl_dec v).length sh1 M1 h1)) 1 400 (tm_A Hb) := by
  refine tz_beginF (by decide +kernel) (Nat.le_of_ble_eq_true rfl) (fun p e s m below meth c ls hx hb hr hml hown htw hlk hnm hK hW hC hh hl => ?_)
  have hS : va_S (tm_A Hb) s.heap s.heap [] := va_S.rf
  have hl : lv_has ls 2 [(0, .ref q), (1, ji v)] := hl
  have hq := s1.1
  refine lv_aload_n hx hb dJ4_append_bf812_0 rfl (lv_at hl 0 rfl) ?_
  refine lv_iload_n hx hb dJ4_append_bf812_1 rfl (lv_at hl 1 rfl) ?_
  refine tz_calla (cq_J4_53 hx hb hml hown htw hK (tz_preV hK hW hC hS hh hq (by decide) rfl) (c_J5_appendI s1 hv hlen) ⟨rfl, rfl, Nat.le_of_ble_eq_true rfl, Nat.le_of_ble_eq_true rfl⟩ hl.1 (Nat.le_of_ble_eq_true rfl) dJ4_append_bf812_2 ⟨(by first | omega | (dsimp only; omega)), (by first | omega | (dsimp only; omega))⟩) hS (fun x2 sh2 M2 h2 H locs hp2 hW hS hz => ?_)
  refine lv_pop hx hb dJ4_append_bf812_5 rfl ?_
  refine lv_aload_n hx hb dJ4_append_bf812_6 rfl (lv_at hl 0 rfl) ?_
  exact W.widen (k := 1) (n := 400) (by first | omega | (dsimp only; omega)) (by first | omega | (dsimp only; omega)) (tz_aret hx hb hr (Or.inl ⟨_, rfl⟩) hlk hK hW hS rfl ⟨rfl, by rw [hz]; exact hp2.2⟩ dJ4_append_bf812_7)
theorem dJ0_coder_7d493_0 : decode cJ0_coder_7d493 0 = .ok (.getstatic 38, 3) := by decide +kernel
theorem dJ0_coder_7d493_3 : decode cJ0_coder_7d493 3 = .ok (.ifCond .eq 10, 3) := by decide +kernel
theorem dJ0_coder_7d493_6 : decode cJ0_coder_7d493 6 = .ok (.aload_n 0, 1) := by decide +kernel
theorem dJ0_coder_7d493_7 : decode cJ0_coder_7d493 7 = .ok (.getfield 15, 3) := by decide +kernel
theorem dJ0_coder_7d493_10 : decode cJ0_coder_7d493 10 = .ok (.goto 4, 3) := by decide +kernel
theorem dJ0_coder_7d493_13 : decode cJ0_coder_7d493 13 = .ok (.iconst 1, 1) := by decide +kernel
theorem dJ0_coder_7d493_14 : decode cJ0_coder_7d493 14 = .ok (.ireturn, 1) := by decide +kernel
set_option maxHeartbeats 1000000 in
set_option maxRecDepth 100000 in
/-- String.coder -/
theorem c_J0_coder {l : Launch} {G : tm_G} {Hb : Heap} {sh : tm_sh} {M : tm_M} {i a h : Nat} (hi : i < 5) : Met l yJ0_coder_7d493 (tws yJ0_coder_7d493 cJ0_coder_7d493 1 (some .byte)) ({ frames := 0, cells := 0, slots := 0, locals := 0 }) (va_Pc [.ref a] (tk_St G Hb sh M h i a)) (tm_Qi G Hb sh (fun x M1 => x = 0 ∧ M1 = M)) 0 0 (tm_A Hb) := by
  refine tk_begin (by decide +kernel) (Nat.le_of_ble_eq_true rfl) (fun p e s m below meth c ls hx hb hr hml hown htw hlk hnm hK hW hC hh hk hl => ?_)
  have hS : va_S (tm_A Hb) s.heap s.heap [] := va_S.rf
  have hl : lv_has ls 1 [(0, .ref a)] := hl
  obtain ⟨KV, kO, kC, kVl, kT⟩ := tc_str hC hi hk
  refine va_gets hx hb hC.2.1 hS hown (htw _ fl_J0_38) (fun _ q => q) dJ0_coder_7d493_0 ?_
  refine ti_if_eq (tgt := 13) hx hb dJ0_coder_7d493_3 (by decide) (by decide) (fun h3 => ?_) (fun h3 => ?_)
  · exact absurd h3 (by decide)
  · refine lv_aload_n hx hb dJ0_coder_7d493_6 rfl (lv_at hl 0 rfl) ?_
    refine vk_getf hx hb kC hS hown (htw _ fl_J0_15) (fun _ q => q) dJ0_coder_7d493_7 ?_
    refine lv_goto (tgt := 14) hx hb dJ0_coder_7d493_10 (by decide) ?_
    exact W.zret hx hb hr (by decide) (fun t ht hw => ⟨⟨_, M, rfl, ⟨0, rfl, rfl, rfl⟩, va_K.moved hw.alike hK, by rw [ht]; exact hW⟩, hS.F ht⟩) hS.2.2 dJ0_coder_7d493_14 hlk 
theorem dJ0_length_8abf5_0 : decode cJ0_length_8abf5 0 = .ok (.aload_n 0, 1) := by decide +kernel
theorem dJ0_length_8abf5_1 : decode cJ0_length_8abf5 1 = .ok (.getfield 9, 3) := by decide +kernel
theorem dJ0_length_8abf5_4 : decode cJ0_length_8abf5 4 = .ok (.arraylength, 1) := by decide +kernel
theorem dJ0_length_8abf5_5 : decode cJ0_length_8abf5 5 = .ok (.aload_n 0, 1) := by decide +kernel
theorem dJ0_length_8abf5_6 : decode cJ0_length_8abf5 6 = .ok (.invokevirtual 335, 3) := by decide +kernel
theorem dJ0_length_8abf5_9 : decode cJ0_length_8abf5 9 = .ok (.ishr, 1) := by decide +kernel
theorem dJ0_length_8abf5_10 : decode cJ0_length_8abf5 10 = .ok (.ireturn, 1) := by decide +kernel
set_option maxHeartbeats 1000000 in
set_option maxRecDepth 100000 in
/-- String.length -/
theorem c_J0_length {l : Launch} {G : tm_G} {Hb : Heap} {sh : tm_sh} {M : tm_M} {i a h : Nat} (hi : i < 5) : Met l yJ0_length_8abf5 (tws yJ0_length_8abf5 cJ0_length_8abf5 1 (some .int)) ({ frames := 1, cells := 0, slots := 0, locals := 20 }) (va_Pc [.ref a] (tk_St G Hb sh M h i a)) (tm_Qi G Hb sh (fun x M1 => x = 3 ∧ M1 = M)) 0 0 (tm_A Hb) := by
  refine tk_begin (by decide +kernel) (Nat.le_of_ble_eq_true rfl) (fun p e s m below meth c ls hx hb hr hml hown htw hlk hnm hK hW hC hh hk hl => ?_)
  have hS : va_S (tm_A Hb) s.heap s.heap [] := va_S.rf
  have hl : lv_has ls 1 [(0, .ref a)] := hl
  obtain ⟨KV, kO, kC, kVl, kT⟩ := tc_str hC hi hk
  refine lv_aload_n hx hb dJ0_length_8abf5_0 rfl (lv_at hl 0 rfl) ?_
  refine vk_getf hx hb kVl hS hown (htw _ fl_J0_9) (fun _ q => q) dJ0_length_8abf5_1 ?_
  refine tk_alen hx hb kT hS dJ0_length_8abf5_4 ?_
  refine lv_aload_n hx hb dJ0_length_8abf5_5 rfl (lv_at hl 0 rfl) ?_
  refine tm_calli (cq_J0_335 hx hb hml hown htw (tk_preK hK hW hC hS hh hi hk) (c_J0_coder hi) ⟨rfl, rfl, Nat.le_of_ble_eq_true rfl, Nat.le_of_ble_eq_true rfl⟩ hl.1 (Nat.le_of_ble_eq_true rfl) dJ0_length_8abf5_6 ⟨(by first | omega | (dsimp only; omega)), (by first | omega | (dsimp only; omega))⟩) hS (fun x6 M6 H locs hp6 hW hS => ?_)
  obtain ⟨ex6, eM6⟩ := hp6
  rw [eM6] at hW
  rw [ex6]
  refine ti_shr0 hx hb dJ0_length_8abf5_9 ?_
  exact tm_iret hx hb hr hlk hK hW hS ⟨rfl, rfl⟩ dJ0_length_8abf5_10
theorem kb_r (i j : Nat) : -128 ≤ kb i j ∧ kb i j < 128 := by
  unfold kb
  repeat' split
  all_goals decide
theorem dJ0_getBytes_840e7_0 : decode cJ0_getBytes_840e7 0 = .ok (.aload_n 0, 1) := by decide +kernel
theorem dJ0_getBytes_840e7_1 : decode cJ0_getBytes_840e7 1 = .ok (.invokevirtual 335, 3) := by decide +kernel
theorem dJ0_getBytes_840e7_4 : decode cJ0_getBytes_840e7 4 = .ok (.iload_n 3, 1) := by decide +kernel
theorem dJ0_getBytes_840e7_5 : decode cJ0_getBytes_840e7 5 = .ok (.if_icmp .ne 23, 3) := by decide +kernel
theorem dJ0_getBytes_840e7_8 : decode cJ0_getBytes_840e7 8 = .ok (.aload_n 0, 1) := by decide +kernel
theorem dJ0_getBytes_840e7_9 : decode cJ0_getBytes_840e7 9 = .ok (.getfield 9, 3) := by decide +kernel
theorem dJ0_getBytes_840e7_12 : decode cJ0_getBytes_840e7 12 = .ok (.iconst 0, 1) := by decide +kernel
theorem dJ0_getBytes_840e7_13 : decode cJ0_getBytes_840e7 13 = .ok (.aload_n 1, 1) := by decide +kernel
theorem dJ0_getBytes_840e7_14 : decode cJ0_getBytes_840e7 14 = .ok (.iload_n 2, 1) := by decide +kernel
theorem dJ0_getBytes_840e7_15 : decode cJ0_getBytes_840e7 15 = .ok (.iload_n 3, 1) := by decide +kernel
theorem dJ0_getBytes_840e7_16 : decode cJ0_getBytes_840e7 16 = .ok (.ishl, 1) := by decide +kernel
theorem dJ0_getBytes_840e7_17 : decode cJ0_getBytes_840e7 17 = .ok (.aload_n 0, 1) := by decide +kernel
theorem dJ0_getBytes_840e7_18 : decode cJ0_getBytes_840e7 18 = .ok (.getfield 9, 3) := by decide +kernel
theorem dJ0_getBytes_840e7_21 : decode cJ0_getBytes_840e7 21 = .ok (.arraylength, 1) := by decide +kernel
theorem dJ0_getBytes_840e7_22 : decode cJ0_getBytes_840e7 22 = .ok (.invokestatic 212, 3) := by decide +kernel
theorem dJ0_getBytes_840e7_25 : decode cJ0_getBytes_840e7 25 = .ok (.goto 18, 3) := by decide +kernel
theorem dJ0_getBytes_840e7_28 : decode cJ0_getBytes_840e7 28 = .ok (.aload_n 0, 1) := by decide +kernel
theorem dJ0_getBytes_840e7_29 : decode cJ0_getBytes_840e7 29 = .ok (.getfield 9, 3) := by decide +kernel
theorem dJ0_getBytes_840e7_32 : decode cJ0_getBytes_840e7 32 = .ok (.iconst 0, 1) := by decide +kernel
theorem dJ0_getBytes_840e7_33 : decode cJ0_getBytes_840e7 33 = .ok (.aload_n 1, 1) := by decide +kernel
theorem dJ0_getBytes_840e7_34 : decode cJ0_getBytes_840e7 34 = .ok (.iload_n 2, 1) := by decide +kernel
theorem dJ0_getBytes_840e7_35 : decode cJ0_getBytes_840e7 35 = .ok (.aload_n 0, 1) := by decide +kernel
theorem dJ0_getBytes_840e7_36 : decode cJ0_getBytes_840e7 36 = .ok (.getfield 9, 3) := by decide +kernel
theorem dJ0_getBytes_840e7_39 : decode cJ0_getBytes_840e7 39 = .ok (.arraylength, 1) := by decide +kernel
theorem dJ0_getBytes_840e7_40 : decode cJ0_getBytes_840e7 40 = .ok (.invokestatic 106, 3) := by decide +kernel
theorem dJ0_getBytes_840e7_43 : decode cJ0_getBytes_840e7 43 = .ok (.return_, 1) := by decide +kernel
set_option maxHeartbeats 1000000 in
set_option maxRecDepth 100000 in
/-- String.getBytes -/
theorem c_J0_getBytes {l : Launch} {G : tm_G} {Hb : Heap} {sh : tm_sh} {M : tm_M} {i a h : Nat} (hi : i < 5) {V cap d : Nat} (hV : sh V = some (22, cap)) (hd : d + 3 ≤ cap ∧ cap < 1000) : Met l yJ0_getBytes_840e7 (tws yJ0_getBytes_840e7 cJ0_getBytes_840e7 4 none) ({ frames := 1, cells := 0, slots := 0, locals := 40 }) (va_Pc [.ref a, .ref V, ji (d : Nat), ji 0] (tk_St G Hb sh M h i a)) (tm_Qv G Hb sh (fun M1 => M1 = cpM M V d 3 (kb i))) 0 0 (tm_A Hb) := by
  refine tk_begin (by decide +kernel) (Nat.le_of_ble_eq_true rfl) (fun p e s m below meth c ls hx hb hr hml hown htw hlk hnm hK hW hC hh hk hl => ?_)
  have hS : va_S (tm_A Hb) s.heap s.heap [] := va_S.rf
  have hl : lv_has ls 4 [(0, .ref a), (1, .ref V), (2, ji (d : Nat)), (3, ji 0)] := hl
  obtain ⟨KV, kO, kC, kVl, kT⟩ := tc_str hC hi hk
  refine lv_aload_n hx hb dJ0_getBytes_840e7_0 rfl (lv_at hl 0 rfl) ?_
  refine tm_calli (cq_J0_335 hx hb hml hown htw (tk_preK hK hW hC hS hh hi hk) (c_J0_coder hi) ⟨rfl, rfl, Nat.le_of_ble_eq_true rfl, Nat.le_of_ble_eq_true rfl⟩ hl.1 (Nat.le_of_ble_eq_true rfl) dJ0_getBytes_840e7_1 ⟨(by first | omega | (dsimp only; omega)), (by first | omega | (dsimp only; omega))⟩) hS (fun x1 M1 H locs hp1 hW hS => ?_)
  obtain ⟨ex1, eM1⟩ := hp1
  rw [eM1] at hW
  rw [ex1]
  refine lv_iload_n hx hb dJ0_getBytes_840e7_4 rfl (lv_at hl 3 rfl) ?_
  refine ti_icmp_ne (tgt := 28) hx hb dJ0_getBytes_840e7_5 (by decide) (by decide) (by decide) (fun h5 => ?_) (fun h5 => ?_)
  · exact absurd rfl h5
  · refine lv_aload_n hx hb dJ0_getBytes_840e7_8 rfl (lv_at hl 0 rfl) ?_
    refine vk_getf hx hb kVl hS hown (htw _ fl_J0_9) (fun _ q => q) dJ0_getBytes_840e7_9 ?_
    refine ti_iconst hx hb dJ0_getBytes_840e7_12 ?_
    refine lv_aload_n hx hb dJ0_getBytes_840e7_13 rfl (lv_at hl 1 rfl) ?_
    refine lv_iload_n hx hb dJ0_getBytes_840e7_14 rfl (lv_at hl 2 rfl) ?_
    refine lv_iload_n hx hb dJ0_getBytes_840e7_15 rfl (lv_at hl 3 rfl) ?_
    refine ti_shl0 hx hb dJ0_getBytes_840e7_16 ?_
    refine lv_aload_n hx hb dJ0_getBytes_840e7_17 rfl (lv_at hl 0 rfl) ?_
    refine vk_getf hx hb kVl hS hown (htw _ fl_J0_9) (fun _ q => q) dJ0_getBytes_840e7_18 ?_
    refine tk_alen hx hb kT hS dJ0_getBytes_840e7_21 ?_
    obtain ⟨scr, t1, t2, t3, t4, t5, t6, t7⟩ := kT
    refine tm_copyk (n0 := 3) (N := 3) (f := kb i) hx hb hml hl.1 hown htw ay_J0_212 ay_n ay_s in_Sy hK hW hS (by rw [hS.2.1 KV (Array.getElem?_eq_some_iff.mp t1).1 t7]; exact t1) t2 t3 t4 (fun j hj => (t6 j hj).trans (congrArg (fun z => some (Value.int z)) (kb_ok i hi j hj))) (fun j _ => kb_r i j) hV ⟨Nat.le_refl _, by omega, by omega⟩ ⟨Nat.le_of_ble_eq_true rfl, Nat.le_of_ble_eq_true rfl⟩ (Nat.le_of_ble_eq_true rfl) dJ0_getBytes_840e7_22 (fun H locs hW hS => ?_)
    refine lv_goto (tgt := 43) hx hb dJ0_getBytes_840e7_25 (by decide) ?_
    exact tm_vret hx hb hr hlk hK hW hS rfl dJ0_getBytes_840e7_43
theorem dJ5_inflateIfNeededFor_a7421_0 : decode cJ5_inflateIfNeededFor_a7421 0 = .ok (.getstatic 18, 3) := by decide +kernel
theorem dJ5_inflateIfNeededFor_a7421_3 : decode cJ5_inflateIfNeededFor_a7421 3 = .ok (.ifCond .eq 18, 3) := by decide +kernel
theorem dJ5_inflateIfNeededFor_a7421_6 : decode cJ5_inflateIfNeededFor_a7421 6 = .ok (.aload_n 0, 1) := by decide +kernel
theorem dJ5_inflateIfNeededFor_a7421_7 : decode cJ5_inflateIfNeededFor_a7421 7 = .ok (.getfield 22, 3) := by decide +kernel
theorem dJ5_inflateIfNeededFor_a7421_10 : decode cJ5_inflateIfNeededFor_a7421 10 = .ok (.aload_n 1, 1) := by decide +kernel
theorem dJ5_inflateIfNeededFor_a7421_11 : decode cJ5_inflateIfNeededFor_a7421 11 = .ok (.invokevirtual 40, 3) := by decide +kernel
theorem dJ5_inflateIfNeededFor_a7421_14 : decode cJ5_inflateIfNeededFor_a7421 14 = .ok (.if_icmp .eq 7, 3) := by decide +kernel
theorem dJ5_inflateIfNeededFor_a7421_17 : decode cJ5_inflateIfNeededFor_a7421 17 = .ok (.aload_n 0, 1) := by decide +kernel
theorem dJ5_inflateIfNeededFor_a7421_18 : decode cJ5_inflateIfNeededFor_a7421 18 = .ok (.invokevirtual 195, 3) := by decide +kernel
theorem dJ5_inflateIfNeededFor_a7421_21 : decode cJ5_inflateIfNeededFor_a7421 21 = .ok (.return_, 1) := by decide +kernel
set_option maxHeartbeats 1000000 in
set_option maxRecDepth 100000 in
/-- inflateIfNeededFor -/
theorem c_J5_inflateIf {l : Launch} {G : tm_G} {Hb : Heap} {sh : tm_sh} {M : tm_M} {i a h : Nat} (hi : i < 5) {q : Nat} (hq : sh q = some (1, 0)) (hc : mI M q 1 = 0) : Met l yJ5_inflateIfNeededFor_a7421 (tws yJ5_inflateIfNeededFor_a7421 cJ5_inflateIfNeededFor_a7421 2 none) ({ frames := 1, cells := 0, slots := 0, locals := 20 }) (va_Pc [.ref q, .ref a] (tk_St G Hb sh M h i a)) (tm_Qv G Hb sh (fun M1 => M1 = M)) 0 0 (tm_A Hb) := by
  refine tk_begin (by decide +kernel) (Nat.le_of_ble_eq_true rfl) (fun p e s m below meth c ls hx hb hr hml hown htw hlk hnm hK hW hC hh hk hl => ?_)
  have hS : va_S (tm_A Hb) s.heap s.heap [] := va_S.rf
  have hl : lv_has ls 2 [(0, .ref q), (1, .ref a)] := hl
  refine va_gets hx hb hC.2.1 hS hown (htw _ fl_J5_18) (fun _ q => q) dJ5_inflateIfNeededFor_a7421_0 ?_
  refine ti_if_eq (tgt := 21) hx hb dJ5_inflateIfNeededFor_a7421_3 (by decide) (by decide) (fun h3 => ?_) (fun h3 => ?_)
  · exact absurd h3 (by decide)
  · refine lv_aload_n hx hb dJ5_inflateIfNeededFor_a7421_6 rfl (lv_at hl 0 rfl) ?_
    refine gf_J5_22 hx hb htw hown hK hW (by assumption) dJ5_inflateIfNeededFor_a7421_7 ?_
    rw [hc]
    refine lv_aload_n hx hb dJ5_inflateIfNeededFor_a7421_10 rfl (lv_at hl 1 rfl) ?_
    refine tm_calli (cq_J5_40 hx hb hml hown htw (tk_preK hK hW hC hS hh hi hk) (c_J0_coder hi) ⟨rfl, rfl, Nat.le_of_ble_eq_true rfl, Nat.le_of_ble_eq_true rfl⟩ hl.1 (Nat.le_of_ble_eq_true rfl) dJ5_inflateIfNeededFor_a7421_11 ⟨(by first | omega | (dsimp only; omega)), (by first | omega | (dsimp only; omega))⟩) hS (fun x11 M11 H locs hp11 hW hS => ?_)
    obtain ⟨ex11, eM11⟩ := hp11
    rw [eM11] at hW
    rw [ex11]
    refine ti_icmp_eq (tgt := 21) hx hb dJ5_inflateIfNeededFor_a7421_14 (by decide) (by decide) (by decide) (fun h14 => ?_) (fun h14 => ?_)
    · exact tm_vret hx hb hr hlk hK hW hS rfl dJ5_inflateIfNeededFor_a7421_21
    · exact absurd rfl h14
theorem dJ5_putStringAt_47b60_0 : decode cJ5_putStringAt_47b60 0 = .ok (.aload_n 0, 1) := by decide +kernel
theorem dJ5_putStringAt_47b60_1 : decode cJ5_putStringAt_47b60 1 = .ok (.aload_n 2, 1) := by decide +kernel
theorem dJ5_putStringAt_47b60_2 : decode cJ5_putStringAt_47b60 2 = .ok (.invokevirtual 397, 3) := by decide +kernel
theorem dJ5_putStringAt_47b60_5 : decode cJ5_putStringAt_47b60 5 = .ok (.aload_n 2, 1) := by decide +kernel
theorem dJ5_putStringAt_47b60_6 : decode cJ5_putStringAt_47b60 6 = .ok (.aload_n 0, 1) := by decide +kernel
theorem dJ5_putStringAt_47b60_7 : decode cJ5_putStringAt_47b60 7 = .ok (.getfield 15, 3) := by decide +kernel
theorem dJ5_putStringAt_47b60_10 : decode cJ5_putStringAt_47b60 10 = .ok (.iload_n 1, 1) := by decide +kernel
theorem dJ5_putStringAt_47b60_11 : decode cJ5_putStringAt_47b60 11 = .ok (.aload_n 0, 1) := by decide +kernel
theorem dJ5_putStringAt_47b60_12 : decode cJ5_putStringAt_47b60 12 = .ok (.getfield 22, 3) := by decide +kernel
theorem dJ5_putStringAt_47b60_15 : decode cJ5_putStringAt_47b60 15 = .ok (.invokevirtual 399, 3) := by decide +kernel
theorem dJ5_putStringAt_47b60_18 : decode cJ5_putStringAt_47b60 18 = .ok (.return_, 1) := by decide +kernel
set_option maxHeartbeats 1000000 in
set_option maxRecDepth 100000 in
/-- putStringAt -/
theorem c_J5_putStringAt {l : Launch} {G : tm_G} {Hb : Heap} {sh : tm_sh} {M : tm_M} {i a h : Nat} (hi : i < 5) {q V cap d : Nat} (hq : sh q = some (1, 0)) (hr0 : mR M q 0 = some V) (hV : sh V = some (22, cap)) (hc : mI M q 1 = 0) (hd : d + 3 ≤ cap ∧ cap < 1000) : Met l yJ5_putStringAt_47b60 (tws yJ5_putStringAt_47b60 cJ5_putStringAt_47b60 3 none) ({ frames := 2, cells := 0, slots := 0, locals := 63 }) (va_Pc [.ref q, ji (d : Nat), .ref a] (tk_St G Hb sh M h i a)) (tm_Qv G Hb sh (fun M1 => M1 = cpM M V d 3 (kb i))) 0 0 (tm_A Hb) := by
  refine tk_begin (by decide +kernel) (Nat.le_of_ble_eq_true rfl) (fun p e s m below meth c ls hx hb hr hml hown htw hlk hnm hK hW hC hh hk hl => ?_)
  have hS : va_S (tm_A Hb) s.heap s.heap [] := va_S.rf
  have hl : lv_has ls 3 [(0, .ref q), (1, ji (d : Nat)), (2, .ref a)] := hl
  refine lv_aload_n hx hb dJ5_putStringAt_47b60_0 rfl (lv_at hl 0 rfl) ?_
  refine lv_aload_n hx hb dJ5_putStringAt_47b60_1 rfl (lv_at hl 2 rfl) ?_
  refine tm_callv (cq_J5_397 hx hb hml hown htw hC (tk_preV hK hW hC hS hh hk hq (by decide) rfl) (c_J5_inflateIf hi hq hc) ⟨rfl, rfl, Nat.le_of_ble_eq_true rfl, Nat.le_of_ble_eq_true rfl⟩ hl.1 (Nat.le_of_ble_eq_true rfl) dJ5_putStringAt_47b60_2 ⟨(by first | omega | (dsimp only; omega)), (by first | omega | (dsimp only; omega))⟩) hS (fun M2 H locs hp2 hW hS => ?_)
  rw [hp2] at hW
  obtain ⟨hX, hXe⟩ : ∃ hX, H.size = hX := ⟨_, rfl⟩
  refine lv_aload_n hx hb dJ5_putStringAt_47b60_5 rfl (lv_at hl 2 rfl) ?_
  refine lv_aload_n hx hb dJ5_putStringAt_47b60_6 rfl (lv_at hl 0 rfl) ?_
  refine gf_J5_15 hx hb htw hown hK hW (by assumption) (by assumption) dJ5_putStringAt_47b60_7 ?_
  refine lv_iload_n hx hb dJ5_putStringAt_47b60_10 rfl (lv_at hl 1 rfl) ?_
  refine lv_aload_n hx hb dJ5_putStringAt_47b60_11 rfl (lv_at hl 0 rfl) ?_
  refine gf_J5_22 hx hb htw hown hK hW (by assumption) dJ5_putStringAt_47b60_12 ?_
  rw [hc]
  refine tm_callv (cq_J5_399 hx hb hml hown htw (tk_preK hK hW hC hS hXe hi hk) (c_J0_getBytes hi hV hd) ⟨rfl, rfl, Nat.le_of_ble_eq_true rfl, Nat.le_of_ble_eq_true rfl⟩ hl.1 (Nat.le_of_ble_eq_true rfl) dJ5_putStringAt_47b60_15 ⟨(by first | omega | (dsimp only; omega)), (by first | omega | (dsimp only; omega))⟩) hS (fun M15 H locs hp15 hW hS => ?_)
  rw [hp15] at hW
  exact tm_vret hx hb hr hlk hK hW hS rfl dJ5_putStringAt_47b60_18
theorem SB_str {sh : tm_sh} {M : tm_M} {q V cap i : Nat} {pr : List Int} (s : isSB sh M q V cap pr) (hl : pr.length + 3 ≤ cap) : isSB sh (sI (cpM M V pr.length 3 (kb i)) q 3 ((pr.length : Int) + 3)) q V cap (pr ++ [kb i 0, kb i 1, kb i 2]) := by
  have hne := SB_ne s
  have e : ∀ j, mI (sI (cpM M V pr.length 3 (kb i)) q 3 ((pr.length : Int) + 3)) V j = if pr.length ≤ j ∧ j < pr.length + 3 then kb i (j - pr.length) else mI M V j := fun j => (tm_up_a _ _ hne).trans (by
    show (if V = V ∧ pr.length ≤ j ∧ j < pr.length + 3 then kb i (j - pr.length) else mI M V j) = _
    by_cases z : pr.length ≤ j ∧ j < pr.length + 3
    · rw [if_pos ⟨rfl, z⟩, if_pos z]
    · rw [if_neg (fun y => z y.2), if_neg z])
  refine SB_app (M := M) s rfl hl ((tm_up_k _ _ (by decide)).trans ((if_neg (fun z => hne z.1.symm) : mI (cpM M V pr.length 3 (kb i)) q 1 = mI M q 1).trans s.2.2.2.1)) (tm_up_s _ _ _ _) (fun j hj => (e j).trans (if_neg (by omega))) (fun j hj => ?_) (fun j => ?_)
  · have hj : j < 3 := hj
    rw [e, if_pos (by omega), show pr.length + j - pr.length = j by omega]
    match j, hj with
    | 0, _ => rfl
    | 1, _ => rfl
    | 2, _ => rfl
    | m + 3, hj => exact absurd hj (by omega)
  · rw [e]
    split
    · exact kb_r _ _
    · exact s.2.2.2.2.2.2.2.2 j
theorem dJ5_append_cf1ce_0 : decode cJ5_append_cf1ce 0 = .ok (.aload_n 1, 1) := by decide +kernel
theorem dJ5_append_cf1ce_1 : decode cJ5_append_cf1ce 1 = .ok (.ifnonnull 8, 3) := by decide +kernel
theorem dJ5_append_cf1ce_4 : decode cJ5_append_cf1ce 4 = .ok (.aload_n 0, 1) := by decide +kernel
theorem dJ5_append_cf1ce_5 : decode cJ5_append_cf1ce 5 = .ok (.invokevirtual 204, 3) := by decide +kernel
theorem dJ5_append_cf1ce_8 : decode cJ5_append_cf1ce 8 = .ok (.areturn, 1) := by decide +kernel
theorem dJ5_append_cf1ce_9 : decode cJ5_append_cf1ce 9 = .ok (.aload_n 1, 1) := by decide +kernel
theorem dJ5_append_cf1ce_10 : decode cJ5_append_cf1ce 10 = .ok (.invokevirtual 32, 3) := by decide +kernel
theorem dJ5_append_cf1ce_13 : decode cJ5_append_cf1ce 13 = .ok (.istore_n 2, 1) := by decide +kernel
theorem dJ5_append_cf1ce_14 : decode cJ5_append_cf1ce 14 = .ok (.aload_n 0, 1) := by decide +kernel
theorem dJ5_append_cf1ce_15 : decode cJ5_append_cf1ce 15 = .ok (.aload_n 0, 1) := by decide +kernel
theorem dJ5_append_cf1ce_16 : decode cJ5_append_cf1ce 16 = .ok (.getfield 79, 3) := by decide +kernel
theorem dJ5_append_cf1ce_19 : decode cJ5_append_cf1ce 19 = .ok (.iload_n 2, 1) := by decide +kernel
theorem dJ5_append_cf1ce_20 : decode cJ5_append_cf1ce 20 = .ok (.iadd, 1) := by decide +kernel
theorem dJ5_append_cf1ce_21 : decode cJ5_append_cf1ce 21 = .ok (.invokevirtual 100, 3) := by decide +kernel
theorem dJ5_append_cf1ce_24 : decode cJ5_append_cf1ce 24 = .ok (.aload_n 0, 1) := by decide +kernel
theorem dJ5_append_cf1ce_25 : decode cJ5_append_cf1ce 25 = .ok (.aload_n 0, 1) := by decide +kernel
theorem dJ5_append_cf1ce_26 : decode cJ5_append_cf1ce 26 = .ok (.getfield 79, 3) := by decide +kernel
theorem dJ5_append_cf1ce_29 : decode cJ5_append_cf1ce 29 = .ok (.aload_n 1, 1) := by decide +kernel
theorem dJ5_append_cf1ce_30 : decode cJ5_append_cf1ce 30 = .ok (.invokevirtual 208, 3) := by decide +kernel
theorem dJ5_append_cf1ce_33 : decode cJ5_append_cf1ce 33 = .ok (.aload_n 0, 1) := by decide +kernel
theorem dJ5_append_cf1ce_34 : decode cJ5_append_cf1ce 34 = .ok (.dup, 1) := by decide +kernel
theorem dJ5_append_cf1ce_35 : decode cJ5_append_cf1ce 35 = .ok (.getfield 79, 3) := by decide +kernel
theorem dJ5_append_cf1ce_38 : decode cJ5_append_cf1ce 38 = .ok (.iload_n 2, 1) := by decide +kernel
theorem dJ5_append_cf1ce_39 : decode cJ5_append_cf1ce 39 = .ok (.iadd, 1) := by decide +kernel
theorem dJ5_append_cf1ce_40 : decode cJ5_append_cf1ce 40 = .ok (.putfield 79, 3) := by decide +kernel
theorem dJ5_append_cf1ce_43 : decode cJ5_append_cf1ce 43 = .ok (.aload_n 0, 1) := by decide +kernel
theorem dJ5_append_cf1ce_44 : decode cJ5_append_cf1ce 44 = .ok (.areturn, 1) := by decide +kernel
set_option maxHeartbeats 1000000 in
set_option maxRecDepth 100000 in
/-- AbstractStringBuilder.append(String) -/
theorem c_J5_appendS {l : Launch} {G : tm_G} {Hb : Heap} {sh : tm_sh} {M : tm_M} {i a h : Nat} (hi : i < 5) {q V cap : Nat} {pr : List Int} (s1 : isSB sh M q V cap pr) (hlen : pr.length + 3 ≤ 60) : Met l yJ5_append_cf1ce (tws yJ5_append_cf1ce cJ5_append_cf1ce 3 (some (.object "java/lang/AbstractStringBuilder"))) ({ frames := 4, cells := 1, slots := 400, locals := 91 }) (va_Pc [.ref q, .ref a] (tk_St G Hb sh M h i a)) (tz_Qa G Hb (fun x sh1 M1 h1 => x = q ∧ SBx q V h sh M (pr ++ [kb i 0, kb i 1, kb i 2]) (pr ++ [kb i 0, kb i 1, kb i 2]).length sh1 M1 h1)) 1 400 (tm_A Hb) := by
  refine tk_begin (by decide +kernel) (Nat.le_of_ble_eq_true rfl) (fun p e s m below meth c ls hx hb hr hml hown htw hlk hnm hK hW hC hh hk hl => ?_)
  have hS : va_S (tm_A Hb) s.heap s.heap [] := va_S.rf
  have hl : lv_has ls 3 [(0, .ref q), (1, .ref a)] := hl
  have s0 := s1
  obtain ⟨hq, hr0, hV, hc, h3c, hlc, hcp, hby, hrg⟩ := s1
  refine lv_aload_n hx hb dJ5_append_cf1ce_0 rfl (lv_at hl 1 rfl) ?_
  refine lv_ifnonnull (tgt := 9) hx hb dJ5_append_cf1ce_1 (by decide) ?_
  refine lv_aload_n hx hb dJ5_append_cf1ce_9 rfl (lv_at hl 1 rfl) ?_
  refine tm_calli (cq_J5_32 hx hb hml hown htw (tk_preK hK hW hC hS hh hi hk) (c_J0_length hi) ⟨rfl, rfl, Nat.le_of_ble_eq_true rfl, Nat.le_of_ble_eq_true rfl⟩ hl.1 (Nat.le_of_ble_eq_true rfl) dJ5_append_cf1ce_10 ⟨(by first | omega | (dsimp only; omega)), (by first | omega | (dsimp only; omega))⟩) hS (fun x10 M10 H locs hp10 hW hS => ?_)
  obtain ⟨ex10, eM10⟩ := hp10
  rw [eM10] at hW
  rw [ex10]
  obtain ⟨hX, hXe⟩ : ∃ hX, H.size = hX := ⟨_, rfl⟩
  have hX0 : h ≤ hX := by rw [← hXe, ← hh]; exact hS.1
  refine lv_istore_n (lv' := [(2, _), (0, _), (1, _)]) hx hb dJ5_append_cf1ce_13 rfl hl (by decide) rfl (fun ls hl => ?_)
  refine lv_aload_n hx hb dJ5_append_cf1ce_14 rfl (lv_at hl 1 rfl) ?_
  refine lv_aload_n hx hb dJ5_append_cf1ce_15 rfl (lv_at hl 1 rfl) ?_
  refine gf_J5_79 hx hb htw hown hK hW hq dJ5_append_cf1ce_16 ?_
  refine lv_iload_n hx hb dJ5_append_cf1ce_19 rfl (lv_at hl 0 rfl) ?_
  refine ti_iadd hx hb dJ5_append_cf1ce_20 ?_
  rw [h3c]
  refine tz_callv (cq_J5_100 hx hb hml hown htw hC (tz_preV hK hW hC hS hXe hq (by decide) rfl) (c_J5_ensure (h := hX) s0 (by omega)) ⟨rfl, rfl, Nat.le_of_ble_eq_true rfl, Nat.le_of_ble_eq_true rfl⟩ hl.1 (Nat.le_of_ble_eq_true rfl) dJ5_append_cf1ce_21 ⟨(by first | omega | (dsimp only; omega)), (by first | omega | (dsimp only; omega))⟩) hS (fun sh21 M21 h21 H locs hp21 hW hS hz => ?_)
  obtain ⟨V1, cap1, s2, hn1, hV1, hh1, hf1, hf2⟩ := hp21
  have s3 := s2
  obtain ⟨kq, kr0, kV, kc, k3c, klc, kcp, kby, krg⟩ := s2
  obtain ⟨hY, hYe⟩ : ∃ hY, H.size = hY := ⟨_, rfl⟩
  have hV1 : V1 = V ∨ h ≤ V1 := by omega
  have hf1 : ∀ a, a < h → sh21 a = sh a := fun a ha => hf1 a (by omega)
  have hf2 : ∀ a k, a < h → a ≠ q → a ≠ V → mR M21 a k = mR M a k ∧ mI M21 a k = mI M a k ∧ mL M21 a k = mL M a k := fun a k ha => hf2 a k (by omega)
  refine lv_aload_n hx hb dJ5_append_cf1ce_24 rfl (lv_at hl 1 rfl) ?_
  refine lv_aload_n hx hb dJ5_append_cf1ce_25 rfl (lv_at hl 1 rfl) ?_
  refine gf_J5_79 hx hb htw hown hK hW kq dJ5_append_cf1ce_26 ?_
  refine lv_aload_n hx hb dJ5_append_cf1ce_29 rfl (lv_at hl 2 rfl) ?_
  rw [k3c]
  refine tm_callv (cq_J5_208 hx hb hml hown htw hC (tk_preV hK hW hC hS hYe hk kq (by decide) rfl) (c_J5_putStringAt (d := pr.length) hi kq kr0 kV kc (by omega)) ⟨rfl, rfl, Nat.le_of_ble_eq_true rfl, Nat.le_of_ble_eq_true rfl⟩ hl.1 (Nat.le_of_ble_eq_true rfl) dJ5_append_cf1ce_30 ⟨(by first | omega | (dsimp only; omega)), (by first | omega | (dsimp only; omega))⟩) hS (fun M30 H locs hp30 hW hS => ?_)
  rw [hp30] at hW
  have hne1 := SB_ne s3
  have e38 : mI (cpM M21 V1 pr.length 3 (kb i)) q 3 + 3 = (pr.length : Int) + 3 := by rw [show mI (cpM M21 V1 pr.length 3 (kb i)) q 3 = mI M21 q 3 from if_neg (fun z => hne1 z.1.symm), k3c]
  refine lv_aload_n hx hb dJ5_append_cf1ce_33 rfl (lv_at hl 1 rfl) ?_
  refine lv_dup hx hb dJ5_append_cf1ce_34 rfl ?_
  refine gf_J5_79 hx hb htw hown hK hW kq dJ5_append_cf1ce_35 ?_
  refine lv_iload_n hx hb dJ5_append_cf1ce_38 rfl (lv_at hl 0 rfl) ?_
  refine ti_iadd hx hb dJ5_append_cf1ce_39 ?_
  refine pf_J5_79 hx hb htw hown hK hW kq hS dJ5_append_cf1ce_40 (fun H locs hW hS => ?_)
  refine lv_aload_n hx hb dJ5_append_cf1ce_43 rfl (lv_at hl 1 rfl) ?_
  exact W.widen (k := 1) (n := 400) (by first | omega | (dsimp only; omega)) (by first | omega | (dsimp only; omega)) (tz_aret hx hb hr (Or.inl ⟨_, rfl⟩) hlk hK hW hS rfl ⟨rfl, SBx_fin hV1 hf1 hf2 (by rw [e38]; exact SB_str s3 (by omega)) (by rw [List.length_append]; show pr.length + 3 ≤ cap1; omega) (fun a k q1 q2 => ⟨rfl, (tm_up_a _ _ q1).trans (if_neg (fun z => q2 z.1)), rfl⟩) (by rw [← hh]; exact hS.1)⟩ dJ5_append_cf1ce_44)
theorem dJ4_append_15ec4_0 : decode cJ4_append_15ec4 0 = .ok (.aload_n 0, 1) := by decide +kernel
theorem dJ4_append_15ec4_1 : decode cJ4_append_15ec4 1 = .ok (.aload_n 1, 1) := by decide +kernel
theorem dJ4_append_15ec4_2 : decode cJ4_append_15ec4 2 = .ok (.invokespecial 29, 3) := by decide +kernel
theorem dJ4_append_15ec4_5 : decode cJ4_append_15ec4 5 = .ok (.pop, 1) := by decide +kernel
theorem dJ4_append_15ec4_6 : decode cJ4_append_15ec4 6 = .ok (.aload_n 0, 1) := by decide +kernel
theorem dJ4_append_15ec4_7 : decode cJ4_append_15ec4 7 = .ok (.areturn, 1) := by decide +kernel
set_option maxHeartbeats 1000000 in
set_option maxRecDepth 100000 in
/-- StringBuilder.append(String) -/
theorem c_J4_appendS {l : Launch} {G : tm_G} {Hb : Heap} {sh : tm_sh} {M : tm_M} {i a h : Nat} (hi : i < 5) {q V cap : Nat} {pr : List Int} (s1 : isSB sh M q V cap pr) (hlen : pr.length + 3 ≤ 60) : Met l yJ4_append_15ec4 (tws yJ4_append_15ec4 cJ4_append_15ec4 2 (some (.object "java/lang/StringBuilder"))) ({ frames := 5, cells := 1, slots := 400, locals := 113 }) (va_Pc [.ref q, .ref a] (tk_St G Hb sh M h i a)) (tz_Qa G Hb (fun x sh1 M1 h1 => x = q ∧ SBx q V h sh M (pr ++ [kb i 0, kb i 1, kb i 2]) (pr ++ [kb i 0, kb i 1, kb i 2]).length sh1 M1 h1)) 1 400 (tm_A Hb) := by
  refine tk_begin (by decide +kernel) (Nat.le_of_ble_eq_true rfl) (fun p e s m below meth c ls hx hb hr hml hown htw hlk hnm hK hW hC hh hk hl => ?_)
  have hS : va_S (tm_A Hb) s.heap s.heap [] := va_S.rf
  have hl : lv_has ls 2 [(0, .ref q), (1, .ref a)] := hl
  have hq := s1.1
  refine lv_aload_n hx hb dJ4_append_15ec4_0 rfl (lv_at hl 0 rfl) ?_
  refine lv_aload_n hx hb dJ4_append_15ec4_1 rfl (lv_at hl 1 rfl) ?_
  refine tz_calla (cq_J4_29 hx hb hml hown htw hK (tk_preV hK hW hC hS hh hk hq (by decide) rfl) (c_J5_appendS hi s1 hlen) ⟨rfl, rfl, Nat.le_of_ble_eq_true rfl, Nat.le_of_ble_eq_true rfl⟩ hl.1 (Nat.le_of_ble_eq_true rfl) dJ4_append_15ec4_2 ⟨(by first | omega | (dsimp only; omega)), (by first | omega | (dsimp only; omega))⟩) hS (fun x2 sh2 M2 h2 H locs hp2 hW hS hz => ?_)
  refine lv_pop hx hb dJ4_append_15ec4_5 rfl ?_
  refine lv_aload_n hx hb dJ4_append_15ec4_6 rfl (lv_at hl 0 rfl) ?_
  exact W.widen (k := 1) (n := 400) (by first | omega | (dsimp only; omega)) (by first | omega | (dsimp only; omega)) (tz_aret hx hb hr (Or.inl ⟨_, rfl⟩) hlk hK hW hS rfl ⟨rfl, by rw [hz]; exact hp2.2⟩ dJ4_append_15ec4_7)
theorem dJ3_checkIndex_8e157_0 : decode cJ3_checkIndex_8e157 0 = .ok (.iload_n 0, 1) := by decide +kernel
theorem dJ3_checkIndex_8e157_1 : decode cJ3_checkIndex_8e157 1 = .ok (.ifCond .lt 8, 3) := by decide +kernel
theorem dJ3_checkIndex_8e157_4 : decode cJ3_checkIndex_8e157 4 = .ok (.iload_n 0, 1) := by decide +kernel
theorem dJ3_checkIndex_8e157_5 : decode cJ3_checkIndex_8e157 5 = .ok (.iload_n 1, 1) := by decide +kernel
theorem dJ3_checkIndex_8e157_6 : decode cJ3_checkIndex_8e157 6 = .ok (.if_icmp .lt 10, 3) := by decide +kernel
theorem dJ3_checkIndex_8e157_9 : decode cJ3_checkIndex_8e157 9 = .ok (.aload_n 2, 1) := by decide +kernel
theorem dJ3_checkIndex_8e157_10 : decode cJ3_checkIndex_8e157 10 = .ok (.iload_n 0, 1) := by decide +kernel
theorem dJ3_checkIndex_8e157_11 : decode cJ3_checkIndex_8e157 11 = .ok (.iload_n 1, 1) := by decide +kernel
theorem dJ3_checkIndex_8e157_12 : decode cJ3_checkIndex_8e157 12 = .ok (.invokestatic 95, 3) := by decide +kernel
theorem dJ3_checkIndex_8e157_15 : decode cJ3_checkIndex_8e157 15 = .ok (.athrow, 1) := by decide +kernel
theorem dJ3_checkIndex_8e157_16 : decode cJ3_checkIndex_8e157 16 = .ok (.iload_n 0, 1) := by decide +kernel
theorem dJ3_checkIndex_8e157_17 : decode cJ3_checkIndex_8e157 17 = .ok (.ireturn, 1) := by decide +kernel
set_option maxHeartbeats 4000000 in
set_option maxRecDepth 100000 in
/-- Preconditions.checkIndex -/
theorem c_J3_checkIndex {l : Launch} {G : tm_G} {Hb : Heap} {sh : tm_sh} {M : tm_M} {x n : Int} {v : Value} (hvv : v = .null ∨ ∃ t, v = .ref t) (hx1 : 0 ≤ x ∧ x < n) (hn : n ≤ 1000) : Met l yJ3_checkIndex_8e157 (tws yJ3_checkIndex_8e157 cJ3_checkIndex_8e157 3 (some .int)) ({ frames := 0, cells := 0, slots := 0, locals := 0 }) (va_Pc [ji x, ji n, v] (tm_St G Hb sh M)) (tm_Qi G Hb sh (fun r M1 => M1 = M)) 0 0 (tm_A Hb) := by
  refine tm_beginF (by decide +kernel) (by rcases hvv with rfl | ⟨t, rfl⟩ <;> exact Nat.le_of_ble_eq_true rfl) (fun p e s m below meth c ls hx hb hr hml hown htw hlk hnm hK hW hl => ?_)
  have hS : va_S (tm_A Hb) s.heap s.heap [] := va_S.rf
  have hl : lv_has ls 3 [(0, ji x), (1, ji n), (2, v)] := hl
  refine lv_iload_n hx hb dJ3_checkIndex_8e157_0 rfl (lv_at hl 0 rfl) ?_
  refine ti_if_lt (tgt := 9) hx hb dJ3_checkIndex_8e157_1 (by decide) (by omega) (fun h1 => ?_) (fun h1 => ?_)
  · exact absurd h1 (by omega)
  · refine lv_iload_n hx hb dJ3_checkIndex_8e157_4 rfl (lv_at hl 0 rfl) ?_
    refine lv_iload_n hx hb dJ3_checkIndex_8e157_5 rfl (lv_at hl 1 rfl) ?_
    refine ti_icmp_lt (tgt := 16) hx hb dJ3_checkIndex_8e157_6 (by decide) (by omega) (by omega) (fun h6 => ?_) (fun h6 => ?_)
    · refine lv_iload_n hx hb dJ3_checkIndex_8e157_16 rfl (lv_at hl 0 rfl) ?_
      exact tm_iret hx hb hr hlk hK hW hS rfl dJ3_checkIndex_8e157_17
    · exact absurd hx1.2 h6
theorem tz_q {C n d : String} {A : Nat → Prop} {U : State} {H : Heap} (h : va_Zq C n d A U H) : ∃ v, va_Z C n d v A U H ∧ (v = .null ∨ ∃ t, v = .ref t) := by
  rcases h with h | ⟨t, h⟩
  · exact ⟨_, h, Or.inl rfl⟩
  · exact ⟨_, h, Or.inr ⟨t, rfl⟩⟩
theorem dJ0_checkIndex_df160_0 : decode cJ0_checkIndex_df160 0 = .ok (.iload_n 0, 1) := by decide +kernel
theorem dJ0_checkIndex_df160_1 : decode cJ0_checkIndex_df160 1 = .ok (.iload_n 1, 1) := by decide +kernel
theorem dJ0_checkIndex_df160_2 : decode cJ0_checkIndex_df160 2 = .ok (.getstatic 1053, 3) := by decide +kernel
theorem dJ0_checkIndex_df160_5 : decode cJ0_checkIndex_df160 5 = .ok (.invokestatic 1059, 3) := by decide +kernel
theorem dJ0_checkIndex_df160_8 : decode cJ0_checkIndex_df160 8 = .ok (.pop, 1) := by decide +kernel
theorem dJ0_checkIndex_df160_9 : decode cJ0_checkIndex_df160 9 = .ok (.return_, 1) := by decide +kernel
set_option maxHeartbeats 1000000 in
set_option maxRecDepth 100000 in
/-- String.checkIndex -/
theorem c_J0_checkIndex {l : Launch} {G : tm_G} {Hb : Heap} {sh : tm_sh} {M : tm_M} {x n : Int} {h : Nat} (hx1 : 0 ≤ x ∧ x < n) (hn : n ≤ 1000) : Met l yJ0_checkIndex_df160 (tws yJ0_checkIndex_df160 cJ0_checkIndex_df160 2 none) ({ frames := 1, cells := 0, slots := 0, locals := 22 }) (va_Pc [ji x, ji n] (tz_St G Hb sh M h)) (tm_Qv G Hb sh (fun M1 => M1 = M)) 0 0 (tm_A Hb) := by
  refine tz_beginF (by decide +kernel) (Nat.le_of_ble_eq_true rfl) (fun p e s m below meth c ls hx hb hr hml hown htw hlk hnm hK hW hC hh hl => ?_)
  have hS : va_S (tm_A Hb) s.heap s.heap [] := va_S.rf
  have hl : lv_has ls 2 [(0, ji x), (1, ji n)] := hl
  refine lv_iload_n hx hb dJ0_checkIndex_df160_0 rfl (lv_at hl 0 rfl) ?_
  refine lv_iload_n hx hb dJ0_checkIndex_df160_1 rfl (lv_at hl 1 rfl) ?_
  obtain ⟨vz, hvz, hvv⟩ := tz_q hC.1.2
  refine va_gets hx hb hvz hS hown (htw _ fl_J0_1053) (fun _ q => q) dJ0_checkIndex_df160_2 ?_
  refine tm_calli (cq_J0_1059 hx hb hml hown htw (tm_preS hK hW) (c_J3_checkIndex hvv hx1 hn) ⟨rfl, rfl, Nat.le_of_ble_eq_true rfl, Nat.le_of_ble_eq_true rfl⟩ hl.1 (Nat.le_of_ble_eq_true rfl) dJ0_checkIndex_df160_5 ⟨(by first | omega | (dsimp only; omega)), (by first | omega | (dsimp only; omega))⟩) hS (fun x5 M5 H locs hp5 hW hS => ?_)
  rw [hp5] at hW
  refine lv_pop hx hb dJ0_checkIndex_df160_8 rfl ?_
  exact tm_vret hx hb hr hlk hK hW hS rfl dJ0_checkIndex_df160_9
theorem tm_cret {p : Program} {l : Launch} {e : Env} {R : Room} {s : State} {m : MethodId} {args : Array Value} {below : List Frame} {meth : Method} {c : Code} {H : Heap} {locs : List Loc} {cells slots : Nat} {cc : ByteArray} {pc : Nat} {ls : Array Slot} {G : tm_G} {Hb : Heap} {sh : tm_sh} {M : tm_M} (hexec : p.tables.exec = Jvm.exec) (hb : c.code = cc) (hr : meth.sig.returnType = some .char) (hlocks : meth.locks = false) {x : Int} (hx : 0 ≤ x ∧ x < 65536) {P : Int → tm_M → Prop} (hK : va_K G.1 vwCl (tm_tys G) s) (hW : tm_W G Hb sh M H) (hS : va_S (tm_A Hb) s.heap H locs) (hP : P x M) (hdg : decode cc pc = .ok (.ireturn, 1)) : W p l e R s m args below meth c H locs cells slots (MQ below (tm_Qi G Hb sh P) args s cells slots (tm_A Hb)) (F0 m pc ls [ji x]) := by
  obtain ⟨n, rfl⟩ := Int.eq_ofNat_of_zero_le hx.1
  exact W.zret hexec hb hr (pk_charN (q := n) (by omega)).1 (fun t ht hw => ⟨⟨_, M, rfl, ⟨_, rfl, hP⟩, va_K.moved hw.alike hK, by rw [ht]; exact hW⟩, hS.F ht⟩) hS.2.2 hdg hlocks
theorem dJ5_charAt_5068e_0 : decode cJ5_charAt_5068e 0 = .ok (.aload_n 0, 1) := by decide +kernel
theorem dJ5_charAt_5068e_1 : decode cJ5_charAt_5068e 1 = .ok (.getfield 22, 3) := by decide +kernel
theorem dJ5_charAt_5068e_4 : decode cJ5_charAt_5068e 4 = .ok (.istore_n 2, 1) := by decide +kernel
theorem dJ5_charAt_5068e_5 : decode cJ5_charAt_5068e 5 = .ok (.aload_n 0, 1) := by decide +kernel
theorem dJ5_charAt_5068e_6 : decode cJ5_charAt_5068e 6 = .ok (.getfield 15, 3) := by decide +kernel
theorem dJ5_charAt_5068e_9 : decode cJ5_charAt_5068e 9 = .ok (.astore_n 3, 1) := by decide +kernel
theorem dJ5_charAt_5068e_10 : decode cJ5_charAt_5068e 10 = .ok (.aload_n 0, 1) := by decide +kernel
theorem dJ5_charAt_5068e_11 : decode cJ5_charAt_5068e 11 = .ok (.getfield 79, 3) := by decide +kernel
theorem dJ5_charAt_5068e_14 : decode cJ5_charAt_5068e 14 = .ok (.aload_n 3, 1) := by decide +kernel
theorem dJ5_charAt_5068e_15 : decode cJ5_charAt_5068e 15 = .ok (.arraylength, 1) := by decide +kernel
theorem dJ5_charAt_5068e_16 : decode cJ5_charAt_5068e 16 = .ok (.iload_n 2, 1) := by decide +kernel
theorem dJ5_charAt_5068e_17 : decode cJ5_charAt_5068e 17 = .ok (.ishr, 1) := by decide +kernel
theorem dJ5_charAt_5068e_18 : decode cJ5_charAt_5068e 18 = .ok (.invokestatic 138, 3) := by decide +kernel
theorem dJ5_charAt_5068e_21 : decode cJ5_charAt_5068e 21 = .ok (.istore 4, 2) := by decide +kernel
theorem dJ5_charAt_5068e_23 : decode cJ5_charAt_5068e 23 = .ok (.iload_n 1, 1) := by decide +kernel
theorem dJ5_charAt_5068e_24 : decode cJ5_charAt_5068e 24 = .ok (.iload 4, 2) := by decide +kernel
theorem dJ5_charAt_5068e_26 : decode cJ5_charAt_5068e 26 = .ok (.invokestatic 144, 3) := by decide +kernel
theorem dJ5_charAt_5068e_29 : decode cJ5_charAt_5068e 29 = .ok (.iload_n 2, 1) := by decide +kernel
theorem dJ5_charAt_5068e_30 : decode cJ5_charAt_5068e 30 = .ok (.ifCond .ne 12, 3) := by decide +kernel
theorem dJ5_charAt_5068e_33 : decode cJ5_charAt_5068e 33 = .ok (.aload_n 3, 1) := by decide +kernel
theorem dJ5_charAt_5068e_34 : decode cJ5_charAt_5068e 34 = .ok (.iload_n 1, 1) := by decide +kernel
theorem dJ5_charAt_5068e_35 : decode cJ5_charAt_5068e 35 = .ok (.baload, 1) := by decide +kernel
theorem dJ5_charAt_5068e_36 : decode cJ5_charAt_5068e 36 = .ok (.sipush 255, 3) := by decide +kernel
theorem dJ5_charAt_5068e_39 : decode cJ5_charAt_5068e 39 = .ok (.iand, 1) := by decide +kernel
theorem dJ5_charAt_5068e_40 : decode cJ5_charAt_5068e 40 = .ok (.i2c, 1) := by decide +kernel
theorem dJ5_charAt_5068e_41 : decode cJ5_charAt_5068e 41 = .ok (.ireturn, 1) := by decide +kernel
theorem dJ5_charAt_5068e_42 : decode cJ5_charAt_5068e 42 = .ok (.aload_n 3, 1) := by decide +kernel
theorem dJ5_charAt_5068e_43 : decode cJ5_charAt_5068e 43 = .ok (.iload_n 1, 1) := by decide +kernel
theorem dJ5_charAt_5068e_44 : decode cJ5_charAt_5068e 44 = .ok (.invokestatic 148, 3) := by decide +kernel
theorem dJ5_charAt_5068e_47 : decode cJ5_charAt_5068e 47 = .ok (.ireturn, 1) := by decide +kernel
set_option maxHeartbeats 1000000 in
set_option maxRecDepth 100000 in
/-- AbstractStringBuilder.charAt -/
theorem c_J5_charAt {l : Launch} {G : tm_G} {Hb : Heap} {sh : tm_sh} {M : tm_M} {q V cap h : Nat} {pr : List Int} (s1 : isSB sh M q V cap pr) {x : Int} (hx1 : 0 ≤ x ∧ x < pr.length) (hpa : ∀ j, j < pr.length → 0 ≤ pr.getD j 0 ∧ pr.getD j 0 < 128) : Met l yJ5_charAt_5068e (tws yJ5_charAt_5068e cJ5_charAt_5068e 5 (some .char)) ({ frames := 2, cells := 0, slots := 0, locals := 43 }) (va_Pc [.ref q, ji x] (tz_St G Hb sh M h)) (tm_Qi G Hb sh (fun r M1 => r = pr.getD x.toNat 0 ∧ M1 = M)) 0 0 (tm_A Hb) := by
  refine tz_beginF (by decide +kernel) (Nat.le_of_ble_eq_true rfl) (fun p e s m below meth c ls hx hb hr hml hown htw hlk hnm hK hW hC hh hl => ?_)
  have hS : va_S (tm_A Hb) s.heap s.heap [] := va_S.rf
  have hl : lv_has ls 5 [(0, .ref q), (1, ji x)] := hl
  have s0 := s1
  obtain ⟨hq, hr0, hV, hc, h3c, hlc, hcp, hby, hrg⟩ := s1
  refine lv_aload_n hx hb dJ5_charAt_5068e_0 rfl (lv_at hl 0 rfl) ?_
  refine gf_J5_22 hx hb htw hown hK hW hq dJ5_charAt_5068e_1 ?_
  rw [hc]
  refine lv_istore_n (lv' := [(2, _), (0, _), (1, _)]) hx hb dJ5_charAt_5068e_4 rfl hl (by decide) rfl (fun ls hl => ?_)
  refine lv_aload_n hx hb dJ5_charAt_5068e_5 rfl (lv_at hl 1 rfl) ?_
  refine gf_J5_15 hx hb htw hown hK hW hq hr0 dJ5_charAt_5068e_6 ?_
  refine lv_astore_n (lv' := [(3, _), (2, _), (0, _), (1, _)]) hx hb dJ5_charAt_5068e_9 rfl hl (by decide) rfl (fun ls hl => ?_)
  refine lv_aload_n hx hb dJ5_charAt_5068e_10 rfl (lv_at hl 2 rfl) ?_
  refine gf_J5_79 hx hb htw hown hK hW hq dJ5_charAt_5068e_11 ?_
  rw [h3c]
  refine lv_aload_n hx hb dJ5_charAt_5068e_14 rfl (lv_at hl 0 rfl) ?_
  refine tm_alen hx hb hK hW hV (Or.inr (Or.inr (Or.inl rfl))) dJ5_charAt_5068e_15 ?_
  refine lv_iload_n hx hb dJ5_charAt_5068e_16 rfl (lv_at hl 1 rfl) ?_
  refine ti_shr0 hx hb dJ5_charAt_5068e_17 ?_
  refine tm_min hx hb hml hl.1 hown htw mm_J5_138 ⟨Nat.le_of_ble_eq_true rfl, Nat.le_of_ble_eq_true rfl⟩ (Nat.le_of_ble_eq_true rfl) ⟨Nat.zero_le _, Nat.zero_le _⟩ (by omega) (by omega) dJ5_charAt_5068e_18 ?_
  rw [show (if ((cap : Nat) : Int) < (pr.length : Int) then ((cap : Nat) : Int) else (pr.length : Int)) = (pr.length : Int) from if_neg (by omega)]
  refine lv_istore (lv' := [(4, _), (3, _), (2, _), (0, _), (1, _)]) hx hb dJ5_charAt_5068e_21 hl (by decide) rfl (fun ls hl => ?_)
  refine lv_iload_n hx hb dJ5_charAt_5068e_23 rfl (lv_at hl 4 rfl) ?_
  refine lv_iload hx hb dJ5_charAt_5068e_24 (lv_at hl 0 rfl) ?_
  refine tm_callv (cq_J5_144 hx hb hml hown htw (tz_preS hK hW hC hS hh) (c_J0_checkIndex hx1 (by omega)) ⟨rfl, rfl, Nat.le_of_ble_eq_true rfl, Nat.le_of_ble_eq_true rfl⟩ hl.1 (Nat.le_of_ble_eq_true rfl) dJ5_charAt_5068e_26 ⟨(by first | omega | (dsimp only; omega)), (by first | omega | (dsimp only; omega))⟩) hS (fun M26 H locs hp26 hW hS => ?_)
  rw [hp26] at hW
  refine lv_iload_n hx hb dJ5_charAt_5068e_29 rfl (lv_at hl 2 rfl) ?_
  refine ti_if_ne (tgt := 42) hx hb dJ5_charAt_5068e_30 (by decide) (by decide) (fun h30 => ?_) (fun h30 => ?_)
  · exact absurd rfl h30
  · refine lv_aload_n hx hb dJ5_charAt_5068e_33 rfl (lv_at hl 1 rfl) ?_
    refine lv_iload_n hx hb dJ5_charAt_5068e_34 rfl (lv_at hl 4 rfl) ?_
    refine tm_bald hx hb hK hW hV (by omega) (by omega) (by omega) dJ5_charAt_5068e_35 ?_
    refine ti_sipush hx hb dJ5_charAt_5068e_36 (by decide) ?_
    rw [hby x.toNat (by omega)]
    refine ti_and255 hx hb dJ5_charAt_5068e_39 ?_
    rw [show pr.getD x.toNat 0 % 256 = pr.getD x.toNat 0 by have := hpa x.toNat (by omega); omega]
    refine ti_i2c hx hb (by have := hpa x.toNat (by omega); omega) dJ5_charAt_5068e_40 ?_
    exact tm_cret hx hb hr hlk (by have := hpa x.toNat (by omega); omega) hK hW hS ⟨rfl, rfl⟩ dJ5_charAt_5068e_41
theorem dJ4_charAt_5068e_0 : decode cJ4_charAt_5068e 0 = .ok (.aload_n 0, 1) := by decide +kernel
theorem dJ4_charAt_5068e_1 : decode cJ4_charAt_5068e 1 = .ok (.iload_n 1, 1) := by decide +kernel
theorem dJ4_charAt_5068e_2 : decode cJ4_charAt_5068e 2 = .ok (.invokespecial 329, 3) := by decide +kernel
theorem dJ4_charAt_5068e_5 : decode cJ4_charAt_5068e 5 = .ok (.ireturn, 1) := by decide +kernel
set_option maxHeartbeats 1000000 in
set_option maxRecDepth 100000 in
/-- StringBuilder.charAt -/
theorem c_J4_charAt {l : Launch} {G : tm_G} {Hb : Heap} {sh : tm_sh} {M : tm_M} {q V cap h : Nat} {pr : List Int} (s1 : isSB sh M q V cap pr) {x : Int} (hx1 : 0 ≤ x ∧ x < pr.length) (hpa : ∀ j, j < pr.length → 0 ≤ pr.getD j 0 ∧ pr.getD j 0 < 128) : Met l yJ4_charAt_5068e (tws yJ4_charAt_5068e cJ4_charAt_5068e 2 (some .char)) ({ frames := 3, cells := 0, slots := 0, locals := 67 }) (va_Pc [.ref q, ji x] (tz_St G Hb sh M h)) (tm_Qi G Hb sh (fun r M1 => r = pr.getD x.toNat 0 ∧ M1 = M)) 0 0 (tm_A Hb) := by
  refine tz_beginF (by decide +kernel) (Nat.le_of_ble_eq_true rfl) (fun p e s m below meth c ls hx hb hr hml hown htw hlk hnm hK hW hC hh hl => ?_)
  have hS : va_S (tm_A Hb) s.heap s.heap [] := va_S.rf
  have hl : lv_has ls 2 [(0, .ref q), (1, ji x)] := hl
  have hq := s1.1
  refine lv_aload_n hx hb dJ4_charAt_5068e_0 rfl (lv_at hl 0 rfl) ?_
  refine lv_iload_n hx hb dJ4_charAt_5068e_1 rfl (lv_at hl 1 rfl) ?_
  refine tm_calli (cq_J4_329 hx hb hml hown htw hK (tz_preV hK hW hC hS hh hq (by decide) rfl) (c_J5_charAt s1 hx1 hpa) ⟨rfl, rfl, Nat.le_of_ble_eq_true rfl, Nat.le_of_ble_eq_true rfl⟩ hl.1 (Nat.le_of_ble_eq_true rfl) dJ4_charAt_5068e_2 ⟨(by first | omega | (dsimp only; omega)), (by first | omega | (dsimp only; omega))⟩) hS (fun x2 M2 H locs hp2 hW hS => ?_)
  obtain ⟨ex2, eM2⟩ := hp2
  rw [eM2] at hW
  rw [ex2]
  exact tm_cret hx hb hr hlk (by have := hpa x.toNat (by omega); omega) hK hW hS ⟨rfl, rfl⟩ dJ4_charAt_5068e_5
