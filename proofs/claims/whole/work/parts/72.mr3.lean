/-! TutorLinesModel.read: a factor (by program: wip/whole/gen/mr3.py) -/
/-- a side at r more levels is read as the text says, and the machine goes on at its end -/
def mpSide (p : Program) (l : Launch) (e : Env) (s : State) (m : MethodId) (below : List Frame) (meth : Method) (c : Code) (G : tm_G) (Hb : Heap) (sh : tm_sh) (M0 : tm_M) (o n : Nat) (t : Nat → Int) (r : Nat) : Prop := ∀ (sd : Int) (lv p1 : Nat) (M : tm_M) (H : Heap) (locs : List Loc) (ls : Array Slot), lv + r = 8 → PSt sh M0 M o t n (p1) lv → mI M (o + 8) lv = 0 → mI M (o + 9) lv = 43 → mI M (o + 11) lv = -1 → (∀ f : Nat, tp_par t n r p1 = .inr f → tp_line t n = .inr f) → (∀ (x : Nat × tl_S) (M1 : tm_M) (H1 : Heap) (locs1 : List Loc) (ls1 : Array Slot), tp_par t n r p1 = .inl x → PSt sh M0 M1 o t n (x.1) lv → asS M1 (o + 6) (4 * lv) = x.2 → sok x.2 → p1 ≤ x.1 → tp_nx t n x.1 = x.1 → fq (pP o lv) M M1 → tm_W G Hb sh M1 H1 → va_S (tm_A Hb) s.heap H1 locs1 → lv_has ls1 10 [(0, .ref o), (2, ji sd), (3, ji 360), (4, ji 0), (5, ji 0), (6, ji (tp_ch t n (x.1))), (7, ji ((x.1 : Nat) : Int))] → mpW p l e s m below meth c G Hb sh M0 o n t 385 H1 locs1 ls1) → tm_W G Hb sh M H → va_S (tm_A Hb) s.heap H locs → lv_has ls 10 [(0, .ref o), (2, ji sd), (3, ji 360), (4, ji 1), (5, ji 1)] → mpW p l e s m below meth c G Hb sh M0 o n t 32 H locs ls
theorem tp_fa_p {t : Nat → Int} {n p : Nat} {inn : Option (Nat → tp_R)} (h : tp_ch t n (tp_nx t n p) = 40) : tp_factor t n inn p = tp_pars t n inn (tp_nx t n p) := if_pos h
theorem tp_fa_x {t : Nat → Int} {n p : Nat} {inn : Option (Nat → tp_R)} (h : tp_ch t n (tp_nx t n p) = 120) : tp_factor t n inn p = .inl (tp_nx t n p + 1, ((1, 1), (0, 1))) := by
  unfold tp_factor
  rw [if_neg (by omega), if_pos h]
theorem tp_fa_n {t : Nat → Int} {n p : Nat} {inn : Option (Nat → tp_R)} {x : Nat × Int × Nat} (h : ¬ tp_ch t n (tp_nx t n p) = 40) (h2 : ¬ tp_ch t n (tp_nx t n p) = 120) (hx : tp_num t n p = .inl x) : tp_factor t n inn p = .inl (x.1, ((0, 1), (x.2.1, 1))) := by
  unfold tp_factor
  rw [if_neg h, if_neg h2, hx]
  rfl
theorem tp_fa_f {t : Nat → Int} {n p : Nat} {inn : Option (Nat → tp_R)} (h : ¬ tp_ch t n (tp_nx t n p) = 40) (h2 : ¬ tp_ch t n (tp_nx t n p) = 120) (h3 : ¬ (48 ≤ tp_ch t n (tp_nx t n p) ∧ tp_ch t n (tp_nx t n p) ≤ 57)) : tp_factor t n inn p = .inr (tp_nx t n p) := by
  unfold tp_factor tp_num
  rw [if_neg h, if_neg h2, if_neg h3]
  rfl
theorem tp_fa_0 {t : Nat → Int} {n p r : Nat} (h : tp_ch t n (tp_nx t n p) = 40) (hr : r = 0) : tp_factor t n (tp_in t n r) p = .inr (tp_nx t n p) := by
  rw [tp_fa_p h, hr]
  rfl
theorem tp_fa_l {t : Nat → Int} {n p r : Nat} {x : Nat × tl_S} (h : tp_ch t n (tp_nx t n p) = 40) (hx : tp_par t n r (tp_nx t n p + 1) = .inl x) : tp_factor t n (tp_in t n (r + 1)) p = tp_close t n (.inl x) := by
  rw [tp_fa_p h, ← hx]
  rfl
theorem tp_fa_r {t : Nat → Int} {n p r f : Nat} (h : tp_ch t n (tp_nx t n p) = 40) (hx : tp_par t n r (tp_nx t n p + 1) = .inr f) : tp_factor t n (tp_in t n (r + 1)) p = .inr f := by
  rw [tp_fa_p h]
  show tp_close t n (tp_par t n r (tp_nx t n p + 1)) = _
  rw [hx]
  rfl
theorem pdg_T {o lv a k : Nat} (h : pdg o a k) : pT o lv a k := by unfold pdg at h; unfold pT pP; omega
theorem sok_x : sok ((1, 1), (0, 1)) := ⟨fok_num (by decide) (by decide), fok_num (by decide) (by decide)⟩
theorem sok_nm {x : Int} (h0 : 0 ≤ x) (h : x ≤ 9999) : sok ((0, 1), (x, 1)) := ⟨fok_num (by decide) (by decide), fok_num h0 h⟩
set_option maxHeartbeats 4000000 in
theorem mp_factN {p : Program} {l : Launch} {e : Env} {s : State} {m : MethodId} {below : List Frame} {meth : Method} {c : Code} {G : tm_G} {Hb : Heap} {sh : tm_sh} {M0 : tm_M} {o n : Nat} {t : Nat → Int} (Cx : mpC p l e s m below meth c G o n) {sd : Int} {r p1 lv : Nat} {M : tm_M} {H : Heap} {locs : List Loc} {ls : Array Slot} (ih : ∀ r1, r1 + 1 = r → mpSide p l e s m below meth c G Hb sh M0 o n t r1) (hr0 : lv + r = 8) (hp1 : p1 ≤ n) (hP : PSt sh M0 M o t n (tp_nx t n p1) lv) (hst : mI M (o + 11) lv = -1) (hF : ∀ f : Nat, (tp_factor t n (tp_in t n r) p1) = .inr f → tp_line t n = .inr f) (K : ∀ (q : Nat) (v : tl_S) (M1 : tm_M) (H1 : Heap) (locs1 : List Loc) (ls1 : Array Slot), (tp_factor t n (tp_in t n r) p1) = .inl (q, v) → PSt sh M0 M1 o t n (q) lv → asS M1 (o + 7) (4 * lv) = v → sok v → mI M1 (o + 11) lv = -1 → p1 < q → fq (pT o lv) M M1 → tm_W G Hb sh M1 H1 → va_S (tm_A Hb) s.heap H1 locs1 → lv_has ls1 10 [(0, .ref o), (2, ji sd), (3, ji 360), (4, ji 0), (5, ji 0)] → mpW p l e s m below meth c G Hb sh M0 o n t 32 H1 locs1 ls1) (hW : tm_W G Hb sh M H) (hS : va_S (tm_A Hb) s.heap H locs) (hl : lv_has ls 10 [(0, .ref o), (2, ji sd), (3, ji 360), (4, ji 0), (5, ji 1), (6, ji (tp_ch t n (tp_nx t n p1))), (7, ji ((tp_nx t n p1 : Nat) : Int))]) : mpW p l e s m below meth c G Hb sh M0 o n t 104 H locs ls := by
  have Cx0 := Cx
  obtain ⟨hx, hb, hr, hml, hown, htw, hlk, hK⟩ := Cx
  have hR := hP.1
  have h9 := hP.2.2.1
  have hlv := hP.2.1
  have h80 := hR.2.2.2.1
  have e19 := hR.2.2.2.2.1
  have q0 := tp_nx_le (t := t) hp1
  have cr := tp_ch_r (n := n) (p := tp_nx t n p1) (MS_t hR)
  obtain ⟨b0, ⟨t1, t2, t6, t7, t9, t12, t13, t14, t15, t16, t17, t24⟩, ⟨u1, u2, u3, u4, u5, u6, u7, u8, u9, u10, u11, u12⟩⟩ := hR.1
  refine lv_iload hx hb dX9_read_104 (lv_at hl 5 rfl) ?_
  refine ti_bipush hx hb dX9_read_106 (by decide) ?_
  refine ti_icmp_ne (tgt := 161) hx hb dX9_read_108 (by decide) (by omega) (by decide) (fun h108 => ?_) (fun h108 => ?_)
  · refine lv_iload hx hb dX9_read_161 (lv_at hl 5 rfl) ?_
    refine ti_bipush hx hb dX9_read_163 (by decide) ?_
    refine ti_icmp_eq (tgt := 176) hx hb dX9_read_165 (by decide) (by omega) (by decide) (fun h165 => ?_) (fun h165 => ?_)
    · refine ti_iconst hx hb dX9_read_176 ?_
      refine lv_goto (tgt := 181) hx hb dX9_read_177 (by decide) ?_
      refine lv_istore (lv' := [(8, _), (0, _), (2, _), (3, _), (4, _), (5, _), (6, _), (7, _)]) hx hb dX9_read_181 hl (by decide) rfl (fun ls hl => ?_)
      refine lv_iload hx hb dX9_read_183 (lv_at hl 0 rfl) ?_
      refine ti_if_ne (tgt := 195) hx hb dX9_read_185 (by decide) (by decide) (fun h185 => ?_) (fun h185 => ?_)
      · refine lv_iload hx hb dX9_read_195 (lv_at hl 6 rfl) ?_
        refine ti_bipush hx hb dX9_read_197 (by decide) ?_
        refine ti_icmp_ne (tgt := 215) hx hb dX9_read_199 (by decide) (by omega) (by decide) (fun h199 => ?_) (fun h199 => ?_)
        · exact absurd h165 h199
        · refine lv_aload_n hx hb dX9_read_202 rfl (lv_at hl 1 rfl) ?_
          refine lv_dup hx hb dX9_read_203 rfl ?_
          refine gf_X9_76 hx hb htw hown hK hW (by assumption) dX9_read_204 ?_
          refine ti_iconst hx hb dX9_read_207 ?_
          refine ti_iadd hx hb dX9_read_208 ?_
          refine pf_X9_76 hx hb htw hown hK hW (by assumption) hS dX9_read_209 (fun H locs hW hS => ?_)
          refine lv_goto (tgt := 219) hx hb dX9_read_212 (by decide) ?_
          have lt := tp_ch_lt (t := t) (n := n) (p := tp_nx t n p1) (by omega)
          have fA : fq (pT o lv) M (sI M o 19 (mI M o 19 + 1)) := fq_sI (p19_T ⟨rfl, rfl⟩)
          have pA : mI (sI M o 19 (mI M o 19 + 1)) o 19 = ((tp_nx t n p1 + 1 : Nat) : Int) := (tm_up_s _ _ _ _).trans (by rw [e19]; rfl)
          have lA : mI (sI M o 19 (mI M o 19 + 1)) o 18 = lv := (tm_up_k _ _ (by decide)).trans hlv
          have sA : mI (sI M o 19 (mI M o 19 + 1)) (o + 11) lv = mI M (o + 11) lv := tm_up_a _ _ (by omega)
          have LA : mL (sI M o 19 (mI M o 19 + 1)) = mL M := rfl
          generalize (sI M o 19 (mI M o 19 + 1)) = A at hW fA pA lA sA LA
          have mA := isMo_m hR.1 fA.1
          have wA : asS A (o + 7) (4 * lv) = asS M (o + 7) (4 * lv) := by show ((mL A _ _, mL A _ _), (mL A _ _, mL A _ _)) = _; rw [LA]
          refine lv_aload_n hx hb dX9_read_219 rfl (lv_at hl 1 rfl) ?_
          refine lv_iload hx hb dX9_read_220 (lv_at hl 6 rfl) ?_
          refine ti_bipush hx hb dX9_read_222 (by decide) ?_
          refine ti_icmp_ne (tgt := 231) hx hb dX9_read_224 (by decide) (by omega) (by decide) (fun h224 => ?_) (fun h224 => ?_)
          · exact absurd h165 h224
          · refine ti_lconst1 hx hb dX9_read_227 ?_
            refine lv_goto (tgt := 232) hx hb dX9_read_228 (by decide) ?_
            refine lv_iload hx hb dX9_read_232 (lv_at hl 6 rfl) ?_
            refine ti_bipush hx hb dX9_read_234 (by decide) ?_
            refine ti_icmp_ne (tgt := 243) hx hb dX9_read_236 (by decide) (by omega) (by decide) (fun h236 => ?_) (fun h236 => ?_)
            · exact absurd h165 h236
            · refine ti_lconst0 hx hb dX9_read_239 ?_
              refine lv_goto (tgt := 248) hx hb dX9_read_240 (by decide) ?_
              refine tm_calli (cs_X9_125 hx hb hml hown htw hK hW (by assumption) (c_X9_simpleN (a := 1) (b := 0) mA lA h9 (sA.trans hst)) ⟨rfl, rfl, Nat.le_of_ble_eq_true rfl, Nat.le_of_ble_eq_true rfl⟩ hl.1 (Nat.le_of_ble_eq_true rfl) dX9_read_248 ⟨Nat.le_of_ble_eq_true rfl, Nat.le_of_ble_eq_true rfl⟩) hS (fun x248 M248 H locs hp248 hW hS => ?_)
              obtain ⟨ex248, e248, s248, f248⟩ := hp248
              rw [ex248]
              have F := fq_tr fA (fq_wd f248 (fun _ _ z => pS_T z))
              refine ti_if_ne (tgt := 256) hx hb dX9_read_251 (by decide) (by decide) (fun h251 => ?_) (fun h251 => ?_)
              · refine ti_iconst hx hb dX9_read_256 ?_
                refine lv_istore (lv' := [(5, _), (8, _), (0, _), (2, _), (3, _), (4, _), (6, _), (7, _)]) hx hb dX9_read_257 hl (by decide) rfl (fun ls hl => ?_)
                refine lv_goto (tgt := 32) hx hb dX9_read_259 (by decide) ?_
                exact K (tp_nx t n p1 + 1) ((1, 1), (0, 1)) M248 _ _ _ (tp_fa_x h165) (PSt_m hP F (fun _ _ z => pT_0 z) ((f248.2 _ _ (by unfold pS pF; omega)).1.trans pA) lt ((f248.2 _ _ (by unfold pS pF; omega)).1.trans lA) h9) e248 sok_x s248 (by omega) F hW hS (lv_sub hl [2, 3, 4, 5, 0] rfl)
              · exact absurd h251 (by decide)
      · exact absurd h185 (by decide)
    · refine lv_iload hx hb dX9_read_168 (lv_at hl 5 rfl) ?_
      refine tm_calli (cs_X9_93 hx hb hml hown htw hK hW (c_X9_isDigit (by omega)) ⟨rfl, rfl, Nat.le_of_ble_eq_true rfl, Nat.le_of_ble_eq_true rfl⟩ hl.1 (Nat.le_of_ble_eq_true rfl) dX9_read_170 ⟨Nat.le_of_ble_eq_true rfl, Nat.le_of_ble_eq_true rfl⟩) hS (fun x170 M170 H locs hp170 hW hS => ?_)
      obtain ⟨ex170, eM170⟩ := hp170
      rw [eM170] at hW
      rw [ex170]
      refine ti_if_eq (tgt := 180) hx hb dX9_read_173 (by decide) (tl_b_r _) (fun h173 => ?_) (fun h173 => ?_)
      · refine ti_iconst hx hb dX9_read_180 ?_
        refine lv_istore (lv' := [(8, _), (0, _), (2, _), (3, _), (4, _), (5, _), (6, _), (7, _)]) hx hb dX9_read_181 hl (by decide) rfl (fun ls hl => ?_)
        refine lv_iload hx hb dX9_read_183 (lv_at hl 0 rfl) ?_
        refine ti_if_ne (tgt := 195) hx hb dX9_read_185 (by decide) (by decide) (fun h185 => ?_) (fun h185 => ?_)
        · exact absurd rfl h185
        · refine lv_aload_n hx hb dX9_read_188 rfl (lv_at hl 1 rfl) ?_
          refine lv_iload hx hb dX9_read_189 (lv_at hl 7 rfl) ?_
          refine tm_calli (cs_X9_103 hx hb hml hown htw hK hW (by assumption) (c_X9_fails b0) ⟨rfl, rfl, Nat.le_of_ble_eq_true rfl, Nat.le_of_ble_eq_true rfl⟩ hl.1 (Nat.le_of_ble_eq_true rfl) dX9_read_191 ⟨Nat.le_of_ble_eq_true rfl, Nat.le_of_ble_eq_true rfl⟩) hS (fun x191 M191 H locs hp191 hW hS => ?_)
          obtain ⟨ex191, eM191⟩ := hp191
          rw [ex191]
          exact tm_zret hx hb hr hlk (by first | exact Or.inl rfl | exact Or.inr rfl | assumption) hK hW hS ⟨fq_tr hP.2.2.2 (by rw [eM191]; exact fq_sI (by unfold pR pP; omega)), Or.inr ⟨rfl, tp_nx t n p1, hF _ (tp_fa_f h108 h165 (tl_b_0.mp h173)), by rw [eM191]; exact tm_up_s _ _ _ _⟩⟩ dX9_read_194
      · refine ti_iconst hx hb dX9_read_176 ?_
        refine lv_goto (tgt := 181) hx hb dX9_read_177 (by decide) ?_
        refine lv_istore (lv' := [(8, _), (0, _), (2, _), (3, _), (4, _), (5, _), (6, _), (7, _)]) hx hb dX9_read_181 hl (by decide) rfl (fun ls hl => ?_)
        refine lv_iload hx hb dX9_read_183 (lv_at hl 0 rfl) ?_
        refine ti_if_ne (tgt := 195) hx hb dX9_read_185 (by decide) (by decide) (fun h185 => ?_) (fun h185 => ?_)
        · refine lv_iload hx hb dX9_read_195 (lv_at hl 6 rfl) ?_
          refine ti_bipush hx hb dX9_read_197 (by decide) ?_
          refine ti_icmp_ne (tgt := 215) hx hb dX9_read_199 (by decide) (by omega) (by decide) (fun h199 => ?_) (fun h199 => ?_)
          · refine lv_aload_n hx hb dX9_read_215 rfl (lv_at hl 1 rfl) ?_
            refine tm_callv (cs_X9_118 hx hb hml hown htw hK hW (by assumption) (c_X9_digits hR (by rw [tp_nx_nx hp1]; exact tl_b_n.mp h173)) ⟨rfl, rfl, Nat.le_of_ble_eq_true rfl, Nat.le_of_ble_eq_true rfl⟩ hl.1 (Nat.le_of_ble_eq_true rfl) dX9_read_216 ⟨Nat.le_of_ble_eq_true rfl, Nat.le_of_ble_eq_true rfl⟩) hS (fun M216 H locs hp216 hW hS => ?_)
            obtain ⟨x, ex, g19, g22, g23, n216⟩ := hp216
            rw [tp_num_nx hp1] at ex
            have ok := tp_num_ok hp1 ex
            have lt := tp_num_lt hp1 ex
            have fA := fq_wd (Q := pT o lv) n216 (fun _ _ z => pdg_T z)
            have lA : mI M216 o 18 = lv := (n216.2 _ _ (by unfold pdg; omega)).1.trans hlv
            have sA : mI M216 (o + 11) lv = mI M (o + 11) lv := (n216.2 _ _ (by unfold pdg; omega)).1
            have mA := isMo_m hR.1 fA.1
            have wA : asS M216 (o + 7) (4 * lv) = asS M (o + 7) (4 * lv) := as_fq n216 (fun j hj => by unfold pdg; omega)
            refine lv_aload_n hx hb dX9_read_219 rfl (lv_at hl 1 rfl) ?_
            refine lv_iload hx hb dX9_read_220 (lv_at hl 6 rfl) ?_
            refine ti_bipush hx hb dX9_read_222 (by decide) ?_
            refine ti_icmp_ne (tgt := 231) hx hb dX9_read_224 (by decide) (by omega) (by decide) (fun h224 => ?_) (fun h224 => ?_)
            · refine ti_lconst0 hx hb dX9_read_231 ?_
              refine lv_iload hx hb dX9_read_232 (lv_at hl 6 rfl) ?_
              refine ti_bipush hx hb dX9_read_234 (by decide) ?_
              refine ti_icmp_ne (tgt := 243) hx hb dX9_read_236 (by decide) (by omega) (by decide) (fun h236 => ?_) (fun h236 => ?_)
              · refine lv_aload_n hx hb dX9_read_243 rfl (lv_at hl 1 rfl) ?_
                refine gf_X9_86 hx hb htw hown hK hW (by assumption) dX9_read_244 ?_
                rw [g22]
                refine ti_i2l hx hb dX9_read_247 (by omega) ?_
                refine tm_calli (cs_X9_125 hx hb hml hown htw hK hW (by assumption) (c_X9_simpleN (a := 0) (b := x.2.1) mA lA h9 (sA.trans hst)) ⟨rfl, rfl, Nat.le_of_ble_eq_true rfl, Nat.le_of_ble_eq_true rfl⟩ hl.1 (Nat.le_of_ble_eq_true rfl) dX9_read_248 ⟨Nat.le_of_ble_eq_true rfl, Nat.le_of_ble_eq_true rfl⟩) hS (fun x248 M248 H locs hp248 hW hS => ?_)
                obtain ⟨ex248, e248, s248, f248⟩ := hp248
                rw [ex248]
                have F := fq_tr fA (fq_wd f248 (fun _ _ z => pS_T z))
                refine ti_if_ne (tgt := 256) hx hb dX9_read_251 (by decide) (by decide) (fun h251 => ?_) (fun h251 => ?_)
                · refine ti_iconst hx hb dX9_read_256 ?_
                  refine lv_istore (lv' := [(5, _), (8, _), (0, _), (2, _), (3, _), (4, _), (6, _), (7, _)]) hx hb dX9_read_257 hl (by decide) rfl (fun ls hl => ?_)
                  refine lv_goto (tgt := 32) hx hb dX9_read_259 (by decide) ?_
                  exact K x.1 ((0, 1), (x.2.1, 1)) M248 _ _ _ (tp_fa_n h108 h165 ex) (PSt_m hP F (fun _ _ z => pT_0 z) ((f248.2 _ _ (by unfold pS pF; omega)).1.trans g19) ok.1 ((f248.2 _ _ (by unfold pS pF; omega)).1.trans lA) h9) e248 (sok_nm ok.2.1 ok.2.2.1) s248 lt F hW hS (lv_sub hl [2, 3, 4, 5, 0] rfl)
                · exact absurd h251 (by decide)
              · exact absurd h236 h165
            · exact absurd h224 h165
          · exact absurd h199 h165
        · exact absurd h185 (by decide)
  · refine lv_aload_n hx hb dX9_read_111 rfl (lv_at hl 0 rfl) ?_
    refine gf_X9_100 hx hb htw hown hK hW (by assumption) dX9_read_112 ?_
    refine ti_bipush hx hb dX9_read_115 (by decide) ?_
    refine ti_icmp_ne (tgt := 127) hx hb dX9_read_117 (by decide) (by omega) (by decide) (fun h117 => ?_) (fun h117 => ?_)
    · refine lv_aload_n hx hb dX9_read_127 rfl (lv_at hl 0 rfl) ?_
      refine lv_dup hx hb dX9_read_128 rfl ?_
      refine gf_X9_100 hx hb htw hown hK hW (by assumption) dX9_read_129 ?_
      refine ti_iconst hx hb dX9_read_132 ?_
      refine ti_iadd hx hb dX9_read_133 ?_
      refine pf_X9_100 hx hb htw hown hK hW (by assumption) hS dX9_read_134 (fun H locs hW hS => ?_)
      refine lv_aload_n hx hb dX9_read_137 rfl (lv_at hl 0 rfl) ?_
      refine lv_aload_n hx hb dX9_read_138 rfl (lv_at hl 0 rfl) ?_
      refine gf_X9_100 hx hb htw hown hK hW (by assumption) dX9_read_139 ?_
      rw [show mI (sI M o 18 (mI M o 18 + 1)) o 18 = ((lv + 1 : Nat) : Int) from (tm_up_s _ _ _ _).trans (by rw [hlv]; rfl)]
      refine tm_callv (cs_X9_121 hx hb hml hown htw hK hW (by assumption) (c_X9_open (x := lv + 1) (isMo_m hR.1 rfl) (by omega)) ⟨rfl, rfl, Nat.le_of_ble_eq_true rfl, Nat.le_of_ble_eq_true rfl⟩ hl.1 (Nat.le_of_ble_eq_true rfl) dX9_read_142 ⟨Nat.le_of_ble_eq_true rfl, Nat.le_of_ble_eq_true rfl⟩) hS (fun M142 H locs hp142 hW hS => ?_)
      have f1 : fq (pP o (lv + 1)) M (sI M o 18 (mI M o 18 + 1)) := fq_sI (by unfold pP; omega)
      have f2 : fq (pP o (lv + 1)) (sI M o 18 (mI M o 18 + 1)) M142 := by rw [hp142]; exact fq_tr (fq_tr (fq_sI (by unfold pP; omega)) (fq_sI (by unfold pP; omega))) (fq_sI (by unfold pP; omega))
      have a8 : mI M142 (o + 8) (lv + 1) = 0 := by rw [hp142]; exact (tm_up_a _ _ (by omega)).trans ((tm_up_a _ _ (by omega)).trans (tm_up_s _ _ _ _))
      have a9 : mI M142 (o + 9) (lv + 1) = 43 := by rw [hp142]; exact (tm_up_a _ _ (by omega)).trans (tm_up_s _ _ _ _)
      have a11 : mI M142 (o + 11) (lv + 1) = -1 := by rw [hp142]; exact tm_up_s _ _ _ _
      have b11 : mI M142 (o + 11) lv = mI M (o + 11) lv := by rw [hp142]; exact (tm_up_k _ _ (by omega)).trans ((tm_up_a _ _ (by omega)).trans ((tm_up_a _ _ (by omega)).trans (tm_up_a _ _ (by omega))))
      have a18 : mI M142 o 18 = ((lv + 1 : Nat) : Int) := by rw [hp142]; exact (tm_up_a _ _ (by omega)).trans ((tm_up_a _ _ (by omega)).trans ((tm_up_a _ _ (by omega)).trans ((tm_up_s _ _ _ _).trans (by rw [hlv]; rfl))))
      have a19 : mI M142 o 19 = tp_nx t n p1 := by rw [hp142]; exact (tm_up_a _ _ (by omega)).trans ((tm_up_a _ _ (by omega)).trans ((tm_up_a _ _ (by omega)).trans ((tm_up_k _ _ (by decide)).trans e19)))
      have aL : mL M142 = mL M := by rw [hp142]
      have F1 := fq_tr f1 f2
      clear hp142 f1 f2
      refine ti_iconst hx hb dX9_read_145 ?_
      refine lv_istore (lv' := [(4, _), (0, _), (2, _), (3, _), (5, _), (6, _), (7, _)]) hx hb dX9_read_146 hl (by decide) rfl (fun ls hl => ?_)
      refine lv_aload_n hx hb dX9_read_148 rfl (lv_at hl 1 rfl) ?_
      refine lv_dup hx hb dX9_read_149 rfl ?_
      refine gf_X9_76 hx hb htw hown hK hW (by assumption) dX9_read_150 ?_
      refine ti_iconst hx hb dX9_read_153 ?_
      refine ti_iadd hx hb dX9_read_154 ?_
      refine pf_X9_76 hx hb htw hown hK hW (by assumption) hS dX9_read_155 (fun H locs hW hS => ?_)
      refine lv_goto (tgt := 32) hx hb dX9_read_158 (by decide) ?_
      have lt := tp_ch_lt (t := t) (n := n) (p := tp_nx t n p1) (by omega)
      have F2 : fq (pP o (lv + 1)) M (sI M142 o 19 (mI M142 o 19 + 1)) := fq_tr F1 (fq_sI (by unfold pP; omega))
      have d8 : mI (sI M142 o 19 (mI M142 o 19 + 1)) (o + 8) (lv + 1) = 0 := (tm_up_a _ _ (by omega)).trans a8
      have d9 : mI (sI M142 o 19 (mI M142 o 19 + 1)) (o + 9) (lv + 1) = 43 := (tm_up_a _ _ (by omega)).trans a9
      have d11 : mI (sI M142 o 19 (mI M142 o 19 + 1)) (o + 11) (lv + 1) = -1 := (tm_up_a _ _ (by omega)).trans a11
      have s11 : mI (sI M142 o 19 (mI M142 o 19 + 1)) (o + 11) lv = mI M (o + 11) lv := (tm_up_a _ _ (by omega)).trans b11
      have d18 : mI (sI M142 o 19 (mI M142 o 19 + 1)) o 18 = ((lv + 1 : Nat) : Int) := (tm_up_k _ _ (by decide)).trans a18
      have d19 : mI (sI M142 o 19 (mI M142 o 19 + 1)) o 19 = ((tp_nx t n p1 + 1 : Nat) : Int) := (tm_up_s _ _ _ _).trans (by rw [a19]; rfl)
      have dL : mL (sI M142 o 19 (mI M142 o 19 + 1)) = mL M := aL
      generalize (sI M142 o 19 (mI M142 o 19 + 1)) = D at hW F2 d8 d9 d11 s11 d18 d19 dL
      have PD := PSt_m hP F2 (fun _ _ z => pP_0 z) d19 lt d18 (by omega)
      obtain ⟨r1, er⟩ : ∃ r1, r1 + 1 = r := ⟨r - 1, by omega⟩
      subst er
      refine ih r1 rfl sd (lv + 1) (tp_nx t n p1 + 1) D _ _ _ (by omega) PD d8 d9 d11 (fun f hf => hF f (tp_fa_r h108 hf)) ?_ hW hS (lv_sub hl [1, 2, 3, 0, 4] rfl)
      intro x M1 H1 locs1 ls1 ex Px vx sx gx nx fx hW hS hl
      have st1 : mI M1 (o + 11) lv = mI M (o + 11) lv := (fx.2 _ _ (by unfold pP; omega)).1.trans s11
      have w1 : asS M1 (o + 7) (4 * lv) = asS M (o + 7) (4 * lv) := (as_fq fx (fun j hj => by unfold pP; omega)).trans (by show ((mL D _ _, mL D _ _), (mL D _ _, mL D _ _)) = _; rw [dL])
      have F3 := fq_wd (Q := pT o lv) (fq_tr F2 fx) (fun _ _ z => pP_T z)
      refine mp_closeN Cx0 Px nx vx sx (st1.trans hst) (fun f hf => hF f ((tp_fa_l h108 ex).trans hf)) ?_ hW hS hl
      intro M2 H2 locs2 ls2 cx P2 v2 s2 t2 f2 hW hS hl
      exact K (x.1 + 1) _ M2 _ _ _ ((tp_fa_l h108 ex).trans cx) P2 v2 s2 t2 (by omega) (fq_tr F3 f2) hW hS hl
    · refine lv_aload_n hx hb dX9_read_120 rfl (lv_at hl 0 rfl) ?_
      refine lv_iload hx hb dX9_read_121 (lv_at hl 6 rfl) ?_
      refine tm_calli (cs_X9_103 hx hb hml hown htw hK hW (by assumption) (c_X9_fails b0) ⟨rfl, rfl, Nat.le_of_ble_eq_true rfl, Nat.le_of_ble_eq_true rfl⟩ hl.1 (Nat.le_of_ble_eq_true rfl) dX9_read_123 ⟨Nat.le_of_ble_eq_true rfl, Nat.le_of_ble_eq_true rfl⟩) hS (fun x123 M123 H locs hp123 hW hS => ?_)
      obtain ⟨ex123, eM123⟩ := hp123
      rw [ex123]
      exact tm_zret hx hb hr hlk (by first | exact Or.inl rfl | exact Or.inr rfl | assumption) hK hW hS ⟨fq_tr hP.2.2.2 (by rw [eM123]; exact fq_sI (by unfold pR pP; omega)), Or.inr ⟨rfl, tp_nx t n p1, hF _ (tp_fa_0 h108 (by omega)), by rw [eM123]; exact tm_up_s _ _ _ _⟩⟩ dX9_read_126
set_option maxHeartbeats 4000000 in
theorem mp_factS {p : Program} {l : Launch} {e : Env} {s : State} {m : MethodId} {below : List Frame} {meth : Method} {c : Code} {G : tm_G} {Hb : Heap} {sh : tm_sh} {M0 : tm_M} {o n : Nat} {t : Nat → Int} (Cx : mpC p l e s m below meth c G o n) {sd : Int} {r p1 lv ps : Nat} {M : tm_M} {H : Heap} {locs : List Loc} {ls : Array Slot} (ih : ∀ r1, r1 + 1 = r → mpSide p l e s m below meth c G Hb sh M0 o n t r1) (hr0 : lv + r = 8) (hp1 : p1 ≤ n) (hP : PSt sh M0 M o t n (tp_nx t n p1) lv) (hst : mI M (o + 11) lv = (ps : Nat)) (hps : ps ≤ 80) (hV : sok (asS M (o + 7) (4 * lv))) (hF : ∀ f : Nat, (∀ g, tp_fit ps (tp_mul (asS M (o + 7) (4 * lv)) ps (tp_factor t n (tp_in t n r) p1)) g = .inr f) → tp_line t n = .inr f) (K : ∀ (q : Nat) (v : tl_S) (M1 : tm_M) (H1 : Heap) (locs1 : List Loc) (ls1 : Array Slot), (∀ g, tp_fit ps (tp_mul (asS M (o + 7) (4 * lv)) ps (tp_factor t n (tp_in t n r) p1)) g = g q v) → PSt sh M0 M1 o t n (q) lv → asS M1 (o + 7) (4 * lv) = v → sok v → mI M1 (o + 11) lv = -1 → p1 < q → fq (pT o lv) M M1 → tm_W G Hb sh M1 H1 → va_S (tm_A Hb) s.heap H1 locs1 → lv_has ls1 10 [(0, .ref o), (2, ji sd), (3, ji 360), (4, ji 0), (5, ji 0)] → mpW p l e s m below meth c G Hb sh M0 o n t 32 H1 locs1 ls1) (hW : tm_W G Hb sh M H) (hS : va_S (tm_A Hb) s.heap H locs) (hl : lv_has ls 10 [(0, .ref o), (2, ji sd), (3, ji 360), (4, ji 0), (5, ji 1), (6, ji (tp_ch t n (tp_nx t n p1))), (7, ji ((tp_nx t n p1 : Nat) : Int))]) : mpW p l e s m below meth c G Hb sh M0 o n t 104 H locs ls := by
  have Cx0 := Cx
  obtain ⟨hx, hb, hr, hml, hown, htw, hlk, hK⟩ := Cx
  have hR := hP.1
  have h9 := hP.2.2.1
  have hlv := hP.2.1
  have h80 := hR.2.2.2.1
  have e19 := hR.2.2.2.2.1
  have q0 := tp_nx_le (t := t) hp1
  have cr := tp_ch_r (n := n) (p := tp_nx t n p1) (MS_t hR)
  obtain ⟨b0, ⟨t1, t2, t6, t7, t9, t12, t13, t14, t15, t16, t17, t24⟩, ⟨u1, u2, u3, u4, u5, u6, u7, u8, u9, u10, u11, u12⟩⟩ := hR.1
  refine lv_iload hx hb dX9_read_104 (lv_at hl 5 rfl) ?_
  refine ti_bipush hx hb dX9_read_106 (by decide) ?_
  refine ti_icmp_ne (tgt := 161) hx hb dX9_read_108 (by decide) (by omega) (by decide) (fun h108 => ?_) (fun h108 => ?_)
  · refine lv_iload hx hb dX9_read_161 (lv_at hl 5 rfl) ?_
    refine ti_bipush hx hb dX9_read_163 (by decide) ?_
    refine ti_icmp_eq (tgt := 176) hx hb dX9_read_165 (by decide) (by omega) (by decide) (fun h165 => ?_) (fun h165 => ?_)
    · refine ti_iconst hx hb dX9_read_176 ?_
      refine lv_goto (tgt := 181) hx hb dX9_read_177 (by decide) ?_
      refine lv_istore (lv' := [(8, _), (0, _), (2, _), (3, _), (4, _), (5, _), (6, _), (7, _)]) hx hb dX9_read_181 hl (by decide) rfl (fun ls hl => ?_)
      refine lv_iload hx hb dX9_read_183 (lv_at hl 0 rfl) ?_
      refine ti_if_ne (tgt := 195) hx hb dX9_read_185 (by decide) (by decide) (fun h185 => ?_) (fun h185 => ?_)
      · refine lv_iload hx hb dX9_read_195 (lv_at hl 6 rfl) ?_
        refine ti_bipush hx hb dX9_read_197 (by decide) ?_
        refine ti_icmp_ne (tgt := 215) hx hb dX9_read_199 (by decide) (by omega) (by decide) (fun h199 => ?_) (fun h199 => ?_)
        · exact absurd h165 h199
        · refine lv_aload_n hx hb dX9_read_202 rfl (lv_at hl 1 rfl) ?_
          refine lv_dup hx hb dX9_read_203 rfl ?_
          refine gf_X9_76 hx hb htw hown hK hW (by assumption) dX9_read_204 ?_
          refine ti_iconst hx hb dX9_read_207 ?_
          refine ti_iadd hx hb dX9_read_208 ?_
          refine pf_X9_76 hx hb htw hown hK hW (by assumption) hS dX9_read_209 (fun H locs hW hS => ?_)
          refine lv_goto (tgt := 219) hx hb dX9_read_212 (by decide) ?_
          have lt := tp_ch_lt (t := t) (n := n) (p := tp_nx t n p1) (by omega)
          have fA : fq (pT o lv) M (sI M o 19 (mI M o 19 + 1)) := fq_sI (p19_T ⟨rfl, rfl⟩)
          have pA : mI (sI M o 19 (mI M o 19 + 1)) o 19 = ((tp_nx t n p1 + 1 : Nat) : Int) := (tm_up_s _ _ _ _).trans (by rw [e19]; rfl)
          have lA : mI (sI M o 19 (mI M o 19 + 1)) o 18 = lv := (tm_up_k _ _ (by decide)).trans hlv
          have sA : mI (sI M o 19 (mI M o 19 + 1)) (o + 11) lv = mI M (o + 11) lv := tm_up_a _ _ (by omega)
          have LA : mL (sI M o 19 (mI M o 19 + 1)) = mL M := rfl
          generalize (sI M o 19 (mI M o 19 + 1)) = A at hW fA pA lA sA LA
          have mA := isMo_m hR.1 fA.1
          have wA : asS A (o + 7) (4 * lv) = asS M (o + 7) (4 * lv) := by show ((mL A _ _, mL A _ _), (mL A _ _, mL A _ _)) = _; rw [LA]
          refine lv_aload_n hx hb dX9_read_219 rfl (lv_at hl 1 rfl) ?_
          refine lv_iload hx hb dX9_read_220 (lv_at hl 6 rfl) ?_
          refine ti_bipush hx hb dX9_read_222 (by decide) ?_
          refine ti_icmp_ne (tgt := 231) hx hb dX9_read_224 (by decide) (by omega) (by decide) (fun h224 => ?_) (fun h224 => ?_)
          · exact absurd h165 h224
          · refine ti_lconst1 hx hb dX9_read_227 ?_
            refine lv_goto (tgt := 232) hx hb dX9_read_228 (by decide) ?_
            refine lv_iload hx hb dX9_read_232 (lv_at hl 6 rfl) ?_
            refine ti_bipush hx hb dX9_read_234 (by decide) ?_
            refine ti_icmp_ne (tgt := 243) hx hb dX9_read_236 (by decide) (by omega) (by decide) (fun h236 => ?_) (fun h236 => ?_)
            · exact absurd h165 h236
            · refine ti_lconst0 hx hb dX9_read_239 ?_
              refine lv_goto (tgt := 248) hx hb dX9_read_240 (by decide) ?_
              refine tm_calli (cs_X9_125 hx hb hml hown htw hK hW (by assumption) (c_X9_simpleS (a := 1) (b := 0) mA lA h9 (by rw [sA, hst]; omega) (by rw [sA, hst]; omega) (by rw [wA]; exact hV) sok_x) ⟨rfl, rfl, Nat.le_of_ble_eq_true rfl, Nat.le_of_ble_eq_true rfl⟩ hl.1 (Nat.le_of_ble_eq_true rfl) dX9_read_248 ⟨Nat.le_of_ble_eq_true rfl, Nat.le_of_ble_eq_true rfl⟩) hS (fun x248 M248 H locs hp248 hW hS => ?_)
              obtain ⟨f248, e248⟩ := hp248
              rw [wA, sA, hst] at e248
              have F := fq_tr fA (fq_wd f248 (fun _ _ z => pS_T z))
              refine ti_if_ne (tgt := 256) hx hb dX9_read_251 (by decide) (by rcases tl_01 e248 with z | z <;> omega) (fun h251 => ?_) (fun h251 => ?_)
              · refine ti_iconst hx hb dX9_read_256 ?_
                refine lv_istore (lv' := [(5, _), (8, _), (0, _), (2, _), (3, _), (4, _), (6, _), (7, _)]) hx hb dX9_read_257 hl (by decide) rfl (fun ls hl => ?_)
                refine lv_goto (tgt := 32) hx hb dX9_read_259 (by decide) ?_
                exact K (tp_nx t n p1 + 1) (smul (asS M (o + 7) (4 * lv)) ((1, 1), (0, 1))) M248 _ _ _ (fun g => by rw [tp_fa_x h165]; exact tp_mf1 (tl_r1 e248 h251).1 (tl_r1 e248 h251).2.1) (PSt_m hP F (fun _ _ z => pT_0 z) ((f248.2 _ _ (by unfold pS pF; omega)).1.trans pA) lt ((f248.2 _ _ (by unfold pS pF; omega)).1.trans lA) h9) (tl_r1 e248 h251).2.2.1 (sok_smul hV sok_x (tl_r1 e248 h251).2.1) (tl_r1 e248 h251).2.2.2 (by omega) F hW hS (lv_sub hl [2, 3, 4, 5, 0] rfl)
              · refine ti_iconst hx hb dX9_read_254 ?_
                exact tm_zret hx hb hr hlk (by first | exact Or.inl rfl | exact Or.inr rfl | assumption) hK hW hS ⟨fq_tr hP.2.2.2 (fq_wd F (fun _ _ z => Or.inl (pT_0 z))), Or.inr ⟨rfl, ps, hF ps (fun g => by rw [tp_fa_x h165]; exact tp_mf2 (tl_r0 e248 h251).1), (tl_r0 e248 h251).2⟩⟩ dX9_read_255
      · exact absurd h185 (by decide)
    · refine lv_iload hx hb dX9_read_168 (lv_at hl 5 rfl) ?_
      refine tm_calli (cs_X9_93 hx hb hml hown htw hK hW (c_X9_isDigit (by omega)) ⟨rfl, rfl, Nat.le_of_ble_eq_true rfl, Nat.le_of_ble_eq_true rfl⟩ hl.1 (Nat.le_of_ble_eq_true rfl) dX9_read_170 ⟨Nat.le_of_ble_eq_true rfl, Nat.le_of_ble_eq_true rfl⟩) hS (fun x170 M170 H locs hp170 hW hS => ?_)
      obtain ⟨ex170, eM170⟩ := hp170
      rw [eM170] at hW
      rw [ex170]
      refine ti_if_eq (tgt := 180) hx hb dX9_read_173 (by decide) (tl_b_r _) (fun h173 => ?_) (fun h173 => ?_)
      · refine ti_iconst hx hb dX9_read_180 ?_
        refine lv_istore (lv' := [(8, _), (0, _), (2, _), (3, _), (4, _), (5, _), (6, _), (7, _)]) hx hb dX9_read_181 hl (by decide) rfl (fun ls hl => ?_)
        refine lv_iload hx hb dX9_read_183 (lv_at hl 0 rfl) ?_
        refine ti_if_ne (tgt := 195) hx hb dX9_read_185 (by decide) (by decide) (fun h185 => ?_) (fun h185 => ?_)
        · exact absurd rfl h185
        · refine lv_aload_n hx hb dX9_read_188 rfl (lv_at hl 1 rfl) ?_
          refine lv_iload hx hb dX9_read_189 (lv_at hl 7 rfl) ?_
          refine tm_calli (cs_X9_103 hx hb hml hown htw hK hW (by assumption) (c_X9_fails b0) ⟨rfl, rfl, Nat.le_of_ble_eq_true rfl, Nat.le_of_ble_eq_true rfl⟩ hl.1 (Nat.le_of_ble_eq_true rfl) dX9_read_191 ⟨Nat.le_of_ble_eq_true rfl, Nat.le_of_ble_eq_true rfl⟩) hS (fun x191 M191 H locs hp191 hW hS => ?_)
          obtain ⟨ex191, eM191⟩ := hp191
          rw [ex191]
          exact tm_zret hx hb hr hlk (by first | exact Or.inl rfl | exact Or.inr rfl | assumption) hK hW hS ⟨fq_tr hP.2.2.2 (by rw [eM191]; exact fq_sI (by unfold pR pP; omega)), Or.inr ⟨rfl, tp_nx t n p1, hF _ (fun g => by rw [tp_fa_f h108 h165 (tl_b_0.mp h173)]; rfl), by rw [eM191]; exact tm_up_s _ _ _ _⟩⟩ dX9_read_194
      · refine ti_iconst hx hb dX9_read_176 ?_
        refine lv_goto (tgt := 181) hx hb dX9_read_177 (by decide) ?_
        refine lv_istore (lv' := [(8, _), (0, _), (2, _), (3, _), (4, _), (5, _), (6, _), (7, _)]) hx hb dX9_read_181 hl (by decide) rfl (fun ls hl => ?_)
        refine lv_iload hx hb dX9_read_183 (lv_at hl 0 rfl) ?_
        refine ti_if_ne (tgt := 195) hx hb dX9_read_185 (by decide) (by decide) (fun h185 => ?_) (fun h185 => ?_)
        · refine lv_iload hx hb dX9_read_195 (lv_at hl 6 rfl) ?_
          refine ti_bipush hx hb dX9_read_197 (by decide) ?_
          refine ti_icmp_ne (tgt := 215) hx hb dX9_read_199 (by decide) (by omega) (by decide) (fun h199 => ?_) (fun h199 => ?_)
          · refine lv_aload_n hx hb dX9_read_215 rfl (lv_at hl 1 rfl) ?_
            refine tm_callv (cs_X9_118 hx hb hml hown htw hK hW (by assumption) (c_X9_digits hR (by rw [tp_nx_nx hp1]; exact tl_b_n.mp h173)) ⟨rfl, rfl, Nat.le_of_ble_eq_true rfl, Nat.le_of_ble_eq_true rfl⟩ hl.1 (Nat.le_of_ble_eq_true rfl) dX9_read_216 ⟨Nat.le_of_ble_eq_true rfl, Nat.le_of_ble_eq_true rfl⟩) hS (fun M216 H locs hp216 hW hS => ?_)
            obtain ⟨x, ex, g19, g22, g23, n216⟩ := hp216
            rw [tp_num_nx hp1] at ex
            have ok := tp_num_ok hp1 ex
            have lt := tp_num_lt hp1 ex
            have fA := fq_wd (Q := pT o lv) n216 (fun _ _ z => pdg_T z)
            have lA : mI M216 o 18 = lv := (n216.2 _ _ (by unfold pdg; omega)).1.trans hlv
            have sA : mI M216 (o + 11) lv = mI M (o + 11) lv := (n216.2 _ _ (by unfold pdg; omega)).1
            have mA := isMo_m hR.1 fA.1
            have wA : asS M216 (o + 7) (4 * lv) = asS M (o + 7) (4 * lv) := as_fq n216 (fun j hj => by unfold pdg; omega)
            refine lv_aload_n hx hb dX9_read_219 rfl (lv_at hl 1 rfl) ?_
            refine lv_iload hx hb dX9_read_220 (lv_at hl 6 rfl) ?_
            refine ti_bipush hx hb dX9_read_222 (by decide) ?_
            refine ti_icmp_ne (tgt := 231) hx hb dX9_read_224 (by decide) (by omega) (by decide) (fun h224 => ?_) (fun h224 => ?_)
            · refine ti_lconst0 hx hb dX9_read_231 ?_
              refine lv_iload hx hb dX9_read_232 (lv_at hl 6 rfl) ?_
              refine ti_bipush hx hb dX9_read_234 (by decide) ?_
              refine ti_icmp_ne (tgt := 243) hx hb dX9_read_236 (by decide) (by omega) (by decide) (fun h236 => ?_) (fun h236 => ?_)
              · refine lv_aload_n hx hb dX9_read_243 rfl (lv_at hl 1 rfl) ?_
                refine gf_X9_86 hx hb htw hown hK hW (by assumption) dX9_read_244 ?_
                rw [g22]
                refine ti_i2l hx hb dX9_read_247 (by omega) ?_
                refine tm_calli (cs_X9_125 hx hb hml hown htw hK hW (by assumption) (c_X9_simpleS (a := 0) (b := x.2.1) mA lA h9 (by rw [sA, hst]; omega) (by rw [sA, hst]; omega) (by rw [wA]; exact hV) (sok_nm ok.2.1 ok.2.2.1)) ⟨rfl, rfl, Nat.le_of_ble_eq_true rfl, Nat.le_of_ble_eq_true rfl⟩ hl.1 (Nat.le_of_ble_eq_true rfl) dX9_read_248 ⟨Nat.le_of_ble_eq_true rfl, Nat.le_of_ble_eq_true rfl⟩) hS (fun x248 M248 H locs hp248 hW hS => ?_)
                obtain ⟨f248, e248⟩ := hp248
                rw [wA, sA, hst] at e248
                have F := fq_tr fA (fq_wd f248 (fun _ _ z => pS_T z))
                refine ti_if_ne (tgt := 256) hx hb dX9_read_251 (by decide) (by rcases tl_01 e248 with z | z <;> omega) (fun h251 => ?_) (fun h251 => ?_)
                · refine ti_iconst hx hb dX9_read_256 ?_
                  refine lv_istore (lv' := [(5, _), (8, _), (0, _), (2, _), (3, _), (4, _), (6, _), (7, _)]) hx hb dX9_read_257 hl (by decide) rfl (fun ls hl => ?_)
                  refine lv_goto (tgt := 32) hx hb dX9_read_259 (by decide) ?_
                  exact K x.1 (smul (asS M (o + 7) (4 * lv)) ((0, 1), (x.2.1, 1))) M248 _ _ _ (fun g => by rw [tp_fa_n h108 h165 ex]; exact tp_mf1 (tl_r1 e248 h251).1 (tl_r1 e248 h251).2.1) (PSt_m hP F (fun _ _ z => pT_0 z) ((f248.2 _ _ (by unfold pS pF; omega)).1.trans g19) ok.1 ((f248.2 _ _ (by unfold pS pF; omega)).1.trans lA) h9) (tl_r1 e248 h251).2.2.1 (sok_smul hV (sok_nm ok.2.1 ok.2.2.1) (tl_r1 e248 h251).2.1) (tl_r1 e248 h251).2.2.2 lt F hW hS (lv_sub hl [2, 3, 4, 5, 0] rfl)
                · refine ti_iconst hx hb dX9_read_254 ?_
                  exact tm_zret hx hb hr hlk (by first | exact Or.inl rfl | exact Or.inr rfl | assumption) hK hW hS ⟨fq_tr hP.2.2.2 (fq_wd F (fun _ _ z => Or.inl (pT_0 z))), Or.inr ⟨rfl, ps, hF ps (fun g => by rw [tp_fa_n h108 h165 ex]; exact tp_mf2 (tl_r0 e248 h251).1), (tl_r0 e248 h251).2⟩⟩ dX9_read_255
              · exact absurd h236 h165
            · exact absurd h224 h165
          · exact absurd h199 h165
        · exact absurd h185 (by decide)
  · refine lv_aload_n hx hb dX9_read_111 rfl (lv_at hl 0 rfl) ?_
    refine gf_X9_100 hx hb htw hown hK hW (by assumption) dX9_read_112 ?_
    refine ti_bipush hx hb dX9_read_115 (by decide) ?_
    refine ti_icmp_ne (tgt := 127) hx hb dX9_read_117 (by decide) (by omega) (by decide) (fun h117 => ?_) (fun h117 => ?_)
    · refine lv_aload_n hx hb dX9_read_127 rfl (lv_at hl 0 rfl) ?_
      refine lv_dup hx hb dX9_read_128 rfl ?_
      refine gf_X9_100 hx hb htw hown hK hW (by assumption) dX9_read_129 ?_
      refine ti_iconst hx hb dX9_read_132 ?_
      refine ti_iadd hx hb dX9_read_133 ?_
      refine pf_X9_100 hx hb htw hown hK hW (by assumption) hS dX9_read_134 (fun H locs hW hS => ?_)
      refine lv_aload_n hx hb dX9_read_137 rfl (lv_at hl 0 rfl) ?_
      refine lv_aload_n hx hb dX9_read_138 rfl (lv_at hl 0 rfl) ?_
      refine gf_X9_100 hx hb htw hown hK hW (by assumption) dX9_read_139 ?_
      rw [show mI (sI M o 18 (mI M o 18 + 1)) o 18 = ((lv + 1 : Nat) : Int) from (tm_up_s _ _ _ _).trans (by rw [hlv]; rfl)]
      refine tm_callv (cs_X9_121 hx hb hml hown htw hK hW (by assumption) (c_X9_open (x := lv + 1) (isMo_m hR.1 rfl) (by omega)) ⟨rfl, rfl, Nat.le_of_ble_eq_true rfl, Nat.le_of_ble_eq_true rfl⟩ hl.1 (Nat.le_of_ble_eq_true rfl) dX9_read_142 ⟨Nat.le_of_ble_eq_true rfl, Nat.le_of_ble_eq_true rfl⟩) hS (fun M142 H locs hp142 hW hS => ?_)
      have f1 : fq (pP o (lv + 1)) M (sI M o 18 (mI M o 18 + 1)) := fq_sI (by unfold pP; omega)
      have f2 : fq (pP o (lv + 1)) (sI M o 18 (mI M o 18 + 1)) M142 := by rw [hp142]; exact fq_tr (fq_tr (fq_sI (by unfold pP; omega)) (fq_sI (by unfold pP; omega))) (fq_sI (by unfold pP; omega))
      have a8 : mI M142 (o + 8) (lv + 1) = 0 := by rw [hp142]; exact (tm_up_a _ _ (by omega)).trans ((tm_up_a _ _ (by omega)).trans (tm_up_s _ _ _ _))
      have a9 : mI M142 (o + 9) (lv + 1) = 43 := by rw [hp142]; exact (tm_up_a _ _ (by omega)).trans (tm_up_s _ _ _ _)
      have a11 : mI M142 (o + 11) (lv + 1) = -1 := by rw [hp142]; exact tm_up_s _ _ _ _
      have b11 : mI M142 (o + 11) lv = mI M (o + 11) lv := by rw [hp142]; exact (tm_up_k _ _ (by omega)).trans ((tm_up_a _ _ (by omega)).trans ((tm_up_a _ _ (by omega)).trans (tm_up_a _ _ (by omega))))
      have a18 : mI M142 o 18 = ((lv + 1 : Nat) : Int) := by rw [hp142]; exact (tm_up_a _ _ (by omega)).trans ((tm_up_a _ _ (by omega)).trans ((tm_up_a _ _ (by omega)).trans ((tm_up_s _ _ _ _).trans (by rw [hlv]; rfl))))
      have a19 : mI M142 o 19 = tp_nx t n p1 := by rw [hp142]; exact (tm_up_a _ _ (by omega)).trans ((tm_up_a _ _ (by omega)).trans ((tm_up_a _ _ (by omega)).trans ((tm_up_k _ _ (by decide)).trans e19)))
      have aL : mL M142 = mL M := by rw [hp142]
      have F1 := fq_tr f1 f2
      clear hp142 f1 f2
      refine ti_iconst hx hb dX9_read_145 ?_
      refine lv_istore (lv' := [(4, _), (0, _), (2, _), (3, _), (5, _), (6, _), (7, _)]) hx hb dX9_read_146 hl (by decide) rfl (fun ls hl => ?_)
      refine lv_aload_n hx hb dX9_read_148 rfl (lv_at hl 1 rfl) ?_
      refine lv_dup hx hb dX9_read_149 rfl ?_
      refine gf_X9_76 hx hb htw hown hK hW (by assumption) dX9_read_150 ?_
      refine ti_iconst hx hb dX9_read_153 ?_
      refine ti_iadd hx hb dX9_read_154 ?_
      refine pf_X9_76 hx hb htw hown hK hW (by assumption) hS dX9_read_155 (fun H locs hW hS => ?_)
      refine lv_goto (tgt := 32) hx hb dX9_read_158 (by decide) ?_
      have lt := tp_ch_lt (t := t) (n := n) (p := tp_nx t n p1) (by omega)
      have F2 : fq (pP o (lv + 1)) M (sI M142 o 19 (mI M142 o 19 + 1)) := fq_tr F1 (fq_sI (by unfold pP; omega))
      have d8 : mI (sI M142 o 19 (mI M142 o 19 + 1)) (o + 8) (lv + 1) = 0 := (tm_up_a _ _ (by omega)).trans a8
      have d9 : mI (sI M142 o 19 (mI M142 o 19 + 1)) (o + 9) (lv + 1) = 43 := (tm_up_a _ _ (by omega)).trans a9
      have d11 : mI (sI M142 o 19 (mI M142 o 19 + 1)) (o + 11) (lv + 1) = -1 := (tm_up_a _ _ (by omega)).trans a11
      have s11 : mI (sI M142 o 19 (mI M142 o 19 + 1)) (o + 11) lv = mI M (o + 11) lv := (tm_up_a _ _ (by omega)).trans b11
      have d18 : mI (sI M142 o 19 (mI M142 o 19 + 1)) o 18 = ((lv + 1 : Nat) : Int) := (tm_up_k _ _ (by decide)).trans a18
      have d19 : mI (sI M142 o 19 (mI M142 o 19 + 1)) o 19 = ((tp_nx t n p1 + 1 : Nat) : Int) := (tm_up_s _ _ _ _).trans (by rw [a19]; rfl)
      have dL : mL (sI M142 o 19 (mI M142 o 19 + 1)) = mL M := aL
      generalize (sI M142 o 19 (mI M142 o 19 + 1)) = D at hW F2 d8 d9 d11 s11 d18 d19 dL
      have PD := PSt_m hP F2 (fun _ _ z => pP_0 z) d19 lt d18 (by omega)
      obtain ⟨r1, er⟩ : ∃ r1, r1 + 1 = r := ⟨r - 1, by omega⟩
      subst er
      refine ih r1 rfl sd (lv + 1) (tp_nx t n p1 + 1) D _ _ _ (by omega) PD d8 d9 d11 (fun f hf => hF f (fun g => by rw [tp_fa_r h108 hf]; rfl)) ?_ hW hS (lv_sub hl [1, 2, 3, 0, 4] rfl)
      intro x M1 H1 locs1 ls1 ex Px vx sx gx nx fx hW hS hl
      have st1 : mI M1 (o + 11) lv = mI M (o + 11) lv := (fx.2 _ _ (by unfold pP; omega)).1.trans s11
      have w1 : asS M1 (o + 7) (4 * lv) = asS M (o + 7) (4 * lv) := (as_fq fx (fun j hj => by unfold pP; omega)).trans (by show ((mL D _ _, mL D _ _), (mL D _ _, mL D _ _)) = _; rw [dL])
      have F3 := fq_wd (Q := pT o lv) (fq_tr F2 fx) (fun _ _ z => pP_T z)
      refine mp_closeS (ps := ps) Cx0 Px nx vx sx (st1.trans hst) hps (by rw [w1]; exact hV) (fun f hf => hF f (fun g => by rw [tp_fa_l h108 ex, ← w1]; exact hf g)) ?_ hW hS hl
      intro M2 H2 locs2 ls2 cx P2 v2 s2 t2 f2 hW hS hl
      rw [w1] at cx v2 s2
      exact K (x.1 + 1) _ M2 _ _ _ (fun g => by rw [tp_fa_l h108 ex]; exact cx g) P2 v2 s2 t2 (by omega) (fq_tr F3 f2) hW hS hl
    · refine lv_aload_n hx hb dX9_read_120 rfl (lv_at hl 0 rfl) ?_
      refine lv_iload hx hb dX9_read_121 (lv_at hl 6 rfl) ?_
      refine tm_calli (cs_X9_103 hx hb hml hown htw hK hW (by assumption) (c_X9_fails b0) ⟨rfl, rfl, Nat.le_of_ble_eq_true rfl, Nat.le_of_ble_eq_true rfl⟩ hl.1 (Nat.le_of_ble_eq_true rfl) dX9_read_123 ⟨Nat.le_of_ble_eq_true rfl, Nat.le_of_ble_eq_true rfl⟩) hS (fun x123 M123 H locs hp123 hW hS => ?_)
      obtain ⟨ex123, eM123⟩ := hp123
      rw [ex123]
      exact tm_zret hx hb hr hlk (by first | exact Or.inl rfl | exact Or.inr rfl | assumption) hK hW hS ⟨fq_tr hP.2.2.2 (by rw [eM123]; exact fq_sI (by unfold pR pP; omega)), Or.inr ⟨rfl, tp_nx t n p1, hF _ (fun g => by rw [tp_fa_0 h108 (by omega)]; rfl), by rw [eM123]; exact tm_up_s _ _ _ _⟩⟩ dX9_read_126
