/-! array lengths, Math.min, Math.max; Reader: readRelation, read (by program: wip/whole/gen/reader7.py) -/
theorem mc_min : Cond.code Lib.Math.min.name Lib.Math.min.code 2 (some .int) ∈ tw := tw_in 285 (by decide +kernel) rfl
theorem ms_min : Cond.static Lib.Math.min.name ∈ tw := tw_in 284 (by decide +kernel) rfl
theorem mc_max : Cond.code Lib.Math.max.name Lib.Math.max.code 2 (some .int) ∈ tw := tw_in 662 (by decide +kernel) rfl
theorem ms_max : Cond.static Lib.Math.max.name ∈ tw := tw_in 661 (by decide +kernel) rfl
theorem mi_m : Cond.initialized "java/lang/Math" ∈ tw := tw_in 17 (by decide +kernel) rfl
theorem mm_J5_138 : Cond.methodLink RJ5 138 Lib.Math.min.name ∈ tw := tw_in 283 (by decide +kernel) rfl
theorem mm_X4_28 : Cond.methodLink RX4 28 Lib.Math.min.name ∈ tw := tw_in 395 (by decide +kernel) rfl
theorem mm_X8_174 : Cond.methodLink RX8 174 Lib.Math.min.name ∈ tw := tw_in 636 (by decide +kernel) rfl
theorem mm_X8_186 : Cond.methodLink RX8 186 Lib.Math.max.name ∈ tw := tw_in 660 (by decide +kernel) rfl
theorem mm_J8_194 : Cond.methodLink RJ8 194 Lib.Math.max.name ∈ tw := tw_in 754 (by decide +kernel) rfl
theorem mm_J7_304 : Cond.methodLink RJ7 304 Lib.Math.min.name ∈ tw := tw_in 770 (by decide +kernel) rfl
section TMX
variable {p : Program} {l : Launch} {e : Env} {R : Room} {s : State} {m : MethodId} {args : Array Value} {below : List Frame} {meth : Method} {c : Code} {H : Heap} {locs : List Loc} {cells slots : Nat} {Q : State → Prop}
variable {cc : ByteArray} {pc nL : Nat} {ls : Array Slot} {rest : List Value} {G : tm_G} {Hb : Heap} {sh : tm_sh} {M : tm_M} {a kd n : Nat}
theorem tm_alen (hexec : p.tables.exec = Jvm.exec) (hb : c.code = cc) (hK : va_K G.1 vwCl (tm_tys G) s) (hW : tm_W G Hb sh M H) (hq : sh a = some (kd, n)) (hkd : kd = 20 ∨ kd = 21 ∨ kd = 22 ∨ kd = 23) (hdg : decode cc pc = .ok (.arraylength, 1))
    (kk : W p l e R s m args below meth c H locs cells slots Q (F0 m (pc + 1) ls (ji n :: rest))) : W p l e R s m args below meth c H locs cells slots Q (F0 m pc ls (.ref a :: rest)) := by
  rcases hkd with rfl | rfl | rfl | rfl
  · exact W.alen (n := Int32.ofNat n) hexec hb (tm_arr hW hq (by decide)) ((hK.2 0 _ rfl).1 n (tm_V 20 M a)) (by rw [arrV_size] <;> rfl) rfl rfl hdg kk
  · exact W.alen (n := Int32.ofNat n) hexec hb (tm_arr hW hq (by decide)) ((hK.2 1 _ rfl).1 n (tm_V 21 M a)) (by rw [arrV_size] <;> rfl) rfl rfl hdg kk
  · exact W.alen (n := Int32.ofNat n) hexec hb (tm_arr hW hq (by decide)) ((hK.2 2 _ rfl).1 n (tm_V 22 M a)) (by rw [arrV_size] <;> rfl) rfl rfl hdg kk
  · exact W.alen (n := Int32.ofNat n) hexec hb (tm_arr hW hq (by decide)) ((hK.2 3 _ rfl).1 n (tm_V 23 M a)) (by rw [arrV_size] <;> rfl) rfl rfl hdg kk
theorem tm_min (hexec : p.tables.exec = Jvm.exec) (hb : c.code = cc) (hml : c.maxLocals = nL) (hls : ls.size = nL) {own : String} {index : Nat} (hown : s.vm.findClass own = some m.cls) (htw : ∀ w ∈ tw, w.before args s = true) (h1 : Cond.methodLink own index Lib.Math.min.name ∈ tw) (hR : 1 ≤ R.frames ∧ 21 ≤ R.locals) (hrest : (rest.map fun v => v.category).sum ≤ 8) (hc : cells ≤ R.cells ∧ slots ≤ R.slots) {x y : Int} (hx : inI x) (hy : inI y) (hdg : decode cc pc = .ok (.invokestatic index, 3))
    (kk : W p l e R s m args below meth c H locs cells slots Q (F0 m (pc + 3) ls (ji (if y < x then y else x) :: rest))) : W p l e R s m args below meth c H locs cells slots Q (F0 m pc ls (ji y :: ji x :: rest)) := by
  refine va_mmin hexec hb (hml.trans hls.symm) hown (htw _ h1) (htw _ ms_min) (htw _ mi_m) (htw _ mc_min) hR.1 (by have := hR.2; omega) hc.1 hc.2 hdg ?_
  have e9 : (if Int32.ofInt y < Int32.ofInt x then Int32.ofInt y else Int32.ofInt x) = Int32.ofInt (if y < x then y else x) := by
    by_cases h : y < x
    · rw [if_pos h, if_pos ((tn_ilt hy hx).mpr h)]
    · rw [if_neg h, if_neg (fun q => h ((tn_ilt hy hx).mp q))]
  rw [e9]
  exact kk
theorem tm_max (hexec : p.tables.exec = Jvm.exec) (hb : c.code = cc) (hml : c.maxLocals = nL) (hls : ls.size = nL) {own : String} {index : Nat} (hown : s.vm.findClass own = some m.cls) (htw : ∀ w ∈ tw, w.before args s = true) (h1 : Cond.methodLink own index Lib.Math.max.name ∈ tw) (hR : 1 ≤ R.frames ∧ 21 ≤ R.locals) (hrest : (rest.map fun v => v.category).sum ≤ 8) (hc : cells ≤ R.cells ∧ slots ≤ R.slots) {x y : Int} (hx : inI x) (hy : inI y) (hdg : decode cc pc = .ok (.invokestatic index, 3))
    (kk : W p l e R s m args below meth c H locs cells slots Q (F0 m (pc + 3) ls (ji (if x < y then y else x) :: rest))) : W p l e R s m args below meth c H locs cells slots Q (F0 m pc ls (ji y :: ji x :: rest)) := by
  refine va_mmax hexec hb (hml.trans hls.symm) hown (htw _ h1) (htw _ ms_max) (htw _ mi_m) (htw _ mc_max) hR.1 (by have := hR.2; omega) hc.1 hc.2 hdg ?_
  have e9 : (if Int32.ofInt x < Int32.ofInt y then Int32.ofInt y else Int32.ofInt x) = Int32.ofInt (if x < y then y else x) := by
    by_cases h : x < y
    · rw [if_pos h, if_pos ((tn_ilt hx hy).mpr h)]
    · rw [if_neg h, if_neg (fun q => h ((tn_ilt hx hy).mp q))]
  rw [e9]
  exact kk
end TMX
def tp_rel (c : Int) : Int := if c = 60 then 1 else if c = 61 then 0 else 2
/-- a whole line's text: the line, or the fault's place -/
def tp_end (t : Nat → Int) (n : Nat) (v : tl_S) (r : Int) (x : tp_R) : tl_L ⊕ Nat := match x with
  | .inl x => if tp_ch t n (tp_nx t n x.1) = -1 then .inl (v, x.2, r) else .inr (tp_nx t n x.1)
  | .inr f => .inr f
def tp_mid (t : Nat → Int) (n : Nat) (x : tp_R) : tl_L ⊕ Nat := match x with
  | .inl x => if 60 ≤ tp_ch t n (tp_nx t n x.1) ∧ tp_ch t n (tp_nx t n x.1) ≤ 62 then tp_end t n x.2 (tp_rel (tp_ch t n (tp_nx t n x.1))) (tp_par t n 8 (tp_nx t n x.1 + 1)) else .inr (tp_nx t n x.1)
  | .inr f => .inr f
def tp_line (t : Nat → Int) (n : Nat) : tl_L ⊕ Nat := tp_mid t n (tp_par t n 8 0)
theorem tp_end_l {t : Nat → Int} {n : Nat} {v : tl_S} {r : Int} {x : tp_R} {y : Nat × tl_S} (h : x = .inl y) : tp_end t n v r x = if tp_ch t n (tp_nx t n y.1) = -1 then .inl (v, y.2, r) else .inr (tp_nx t n y.1) := by rw [h]; rfl
theorem tp_end_r {t : Nat → Int} {n : Nat} {v : tl_S} {r : Int} {x : tp_R} {f : Nat} (h : x = .inr f) : tp_end t n v r x = .inr f := by rw [h]; rfl
theorem tp_mid_l {t : Nat → Int} {n : Nat} {x : tp_R} {y : Nat × tl_S} (h : x = .inl y) : tp_mid t n x = if 60 ≤ tp_ch t n (tp_nx t n y.1) ∧ tp_ch t n (tp_nx t n y.1) ≤ 62 then tp_end t n y.2 (tp_rel (tp_ch t n (tp_nx t n y.1))) (tp_par t n 8 (tp_nx t n y.1 + 1)) else .inr (tp_nx t n y.1) := by rw [h]; rfl
theorem tp_mid_r {t : Nat → Int} {n : Nat} {x : tp_R} {f : Nat} (h : x = .inr f) : tp_mid t n x = .inr f := by rw [h]; rfl
theorem dX4_readRelation_0 : decode cX4_readRelation 0 = .ok (.aload_n 0, 1) := by decide +kernel
theorem dX4_readRelation_1 : decode cX4_readRelation 1 = .ok (.invokevirtual 65, 3) := by decide +kernel
theorem dX4_readRelation_4 : decode cX4_readRelation 4 = .ok (.tableswitch 52 60 62 #[36, 28, 44], 28) := by decide +kernel
theorem dX4_readRelation_32 : decode cX4_readRelation 32 = .ok (.aload_n 1, 1) := by decide +kernel
theorem dX4_readRelation_33 : decode cX4_readRelation 33 = .ok (.iconst 0, 1) := by decide +kernel
theorem dX4_readRelation_34 : decode cX4_readRelation 34 = .ok (.putfield 72, 3) := by decide +kernel
theorem dX4_readRelation_37 : decode cX4_readRelation 37 = .ok (.goto 28, 3) := by decide +kernel
theorem dX4_readRelation_40 : decode cX4_readRelation 40 = .ok (.aload_n 1, 1) := by decide +kernel
theorem dX4_readRelation_41 : decode cX4_readRelation 41 = .ok (.iconst 1, 1) := by decide +kernel
theorem dX4_readRelation_42 : decode cX4_readRelation 42 = .ok (.putfield 72, 3) := by decide +kernel
theorem dX4_readRelation_45 : decode cX4_readRelation 45 = .ok (.goto 20, 3) := by decide +kernel
theorem dX4_readRelation_48 : decode cX4_readRelation 48 = .ok (.aload_n 1, 1) := by decide +kernel
theorem dX4_readRelation_49 : decode cX4_readRelation 49 = .ok (.iconst 2, 1) := by decide +kernel
theorem dX4_readRelation_50 : decode cX4_readRelation 50 = .ok (.putfield 72, 3) := by decide +kernel
theorem dX4_readRelation_53 : decode cX4_readRelation 53 = .ok (.goto 12, 3) := by decide +kernel
theorem dX4_readRelation_56 : decode cX4_readRelation 56 = .ok (.aload_n 0, 1) := by decide +kernel
theorem dX4_readRelation_57 : decode cX4_readRelation 57 = .ok (.aload_n 0, 1) := by decide +kernel
theorem dX4_readRelation_58 : decode cX4_readRelation 58 = .ok (.getfield 38, 3) := by decide +kernel
theorem dX4_readRelation_61 : decode cX4_readRelation 61 = .ok (.invokevirtual 69, 3) := by decide +kernel
theorem dX4_readRelation_64 : decode cX4_readRelation 64 = .ok (.ireturn, 1) := by decide +kernel
theorem dX4_readRelation_65 : decode cX4_readRelation 65 = .ok (.aload_n 0, 1) := by decide +kernel
theorem dX4_readRelation_66 : decode cX4_readRelation 66 = .ok (.dup, 1) := by decide +kernel
theorem dX4_readRelation_67 : decode cX4_readRelation 67 = .ok (.getfield 38, 3) := by decide +kernel
theorem dX4_readRelation_70 : decode cX4_readRelation 70 = .ok (.iconst 1, 1) := by decide +kernel
theorem dX4_readRelation_71 : decode cX4_readRelation 71 = .ok (.iadd, 1) := by decide +kernel
theorem dX4_readRelation_72 : decode cX4_readRelation 72 = .ok (.putfield 38, 3) := by decide +kernel
theorem dX4_readRelation_75 : decode cX4_readRelation 75 = .ok (.iconst 1, 1) := by decide +kernel
theorem dX4_readRelation_76 : decode cX4_readRelation 76 = .ok (.ireturn, 1) := by decide +kernel
theorem tl_rel1 {M M1 : tm_M} {rd w : Nat} {t : Nat → Int} {n q : Nat} {v c : Int} (hne : w ≠ rd) (e1 : mI M1 rd 2 = q) (n1 : rdn rd M M1) (hc : c = tp_ch t n q) (hv : v = tp_rel c) (hr : 60 ≤ c ∧ c ≤ 62) {M2 : tm_M} (hM : M2 = sI (sI M1 w 2 v) rd 2 (mI (sI M1 w 2 v) rd 2 + 1)) : mR M2 = mR M ∧ mL M2 = mL M ∧ (∀ a k, a ≠ rd → a ≠ w → mI M2 a k = mI M a k) ∧ mI M2 rd 1 = mI M rd 1 ∧ ((60 ≤ tp_ch t n q ∧ tp_ch t n q ≤ 62 ∧ (1 : Int) = 1 ∧ mI M2 rd 2 = ((q + 1 : Nat) : Int) ∧ mI M2 w 2 = tp_rel (tp_ch t n q) ∧ mI M2 rd 3 = mI M rd 3) ∨ (¬ (60 ≤ tp_ch t n q ∧ tp_ch t n q ≤ 62) ∧ (1 : Int) = 0 ∧ mI M2 rd 3 = (q : Nat))) := by
  subst hM hc hv
  refine ⟨n1.1, n1.2.1, fun a k h1 h2 => ?_, ?_, Or.inl ⟨hr.1, hr.2, rfl, ?_, ?_, ?_⟩⟩
  · exact (tm_up_a _ _ h1).trans ((tm_up_a _ _ h2).trans (n1.2.2 a k (fun z => h1 z.1)))
  · exact (tm_up_k _ _ (by decide)).trans ((tm_up_a _ _ (Ne.symm hne)).trans (n1.2.2 rd 1 (fun z => absurd z.2 (by decide))))
  · exact (tm_up_s _ _ _ _).trans (by rw [show mI (sI M1 w 2 (tp_rel (tp_ch t n q))) rd 2 = mI M1 rd 2 from tm_up_a _ _ (Ne.symm hne), e1]; rfl)
  · exact (tm_up_a _ _ hne).trans (tm_up_s _ _ _ _)
  · exact (tm_up_k _ _ (by decide)).trans ((tm_up_a _ _ (Ne.symm hne)).trans (n1.2.2 rd 3 (fun z => absurd z.2 (by decide))))
set_option maxHeartbeats 4000000 in
set_option maxRecDepth 100000 in
/-- Reader.readRelation -/
theorem c_X4_readRelation {l : Launch} {G : tm_G} {Hb : Heap} {sh : tm_sh} {M : tm_M} {rd ta n p1 w : Nat} {t : Nat → Int} (hR : RS sh M rd ta t n p1) (hw : sh w = some (3, 0)) : Met l yX4_readRelation (tws yX4_readRelation cX4_readRelation 2 (some .boolean)) ({ frames := 1, cells := 0, slots := 0, locals := 21 }) (va_Pc [.ref rd, .ref w] (tm_St G Hb sh M)) (tm_Qi G Hb sh (fun x M1 => mR M1 = mR M ∧ mL M1 = mL M ∧ (∀ a k, a ≠ rd → a ≠ w → mI M1 a k = mI M a k) ∧ mI M1 rd 1 = mI M rd 1 ∧ ((60 ≤ tp_ch t n (tp_nx t n p1) ∧ tp_ch t n (tp_nx t n p1) ≤ 62 ∧ x = 1 ∧ mI M1 rd 2 = ((tp_nx t n p1 + 1 : Nat) : Int) ∧ mI M1 w 2 = tp_rel (tp_ch t n (tp_nx t n p1)) ∧ mI M1 rd 3 = mI M rd 3) ∨ (¬ (60 ≤ tp_ch t n (tp_nx t n p1) ∧ tp_ch t n (tp_nx t n p1) ≤ 62) ∧ x = 0 ∧ mI M1 rd 3 = (tp_nx t n p1 : Nat))))) 0 0 (tm_A Hb) := by
  refine tm_begin (by decide) (Nat.le_of_ble_eq_true rfl) (fun p e s m below meth c ls hx hb hr hml hown htw hlk hnm hK hW hl => ?_)
  have hS : va_S (tm_A Hb) s.heap s.heap [] := va_S.rf
  have hl : lv_has ls 2 [(0, .ref rd), (1, .ref w)] := hl
  have y0 := hR.1.1
  have hne : w ≠ rd := fun z => by rw [z, y0] at hw; cases hw
  have cr := tp_ch_r (n := n) (p := tp_nx t n p1) (RS_t hR)
  refine lv_aload_n hx hb dX4_readRelation_0 rfl (lv_at hl 0 rfl) ?_
  refine tm_calli (cs_X4_65 hx hb hml hown htw hK hW (by assumption) (c_X4_next hR) ⟨rfl, rfl, Nat.le_of_ble_eq_true rfl, Nat.le_of_ble_eq_true rfl⟩ hl.1 (Nat.le_of_ble_eq_true rfl) dX4_readRelation_1 ⟨Nat.le_of_ble_eq_true rfl, Nat.le_of_ble_eq_true rfl⟩) hS (fun x1 M1 H locs hp1 hW hS => ?_)
  obtain ⟨ex1, e1, n1⟩ := hp1
  rw [ex1]
  refine ti_ts_60_62 (td := 56) (t60 := 40) (t61 := 32) (t62 := 48) hx hb dX4_readRelation_4 (by omega) (by decide) (by decide) (by decide) (by decide) (fun h4 => ?_) (fun h4 => ?_) (fun h4 => ?_) (fun h4 => ?_)
  · refine lv_aload_n hx hb dX4_readRelation_40 rfl (lv_at hl 1 rfl) ?_
    refine ti_iconst hx hb dX4_readRelation_41 ?_
    refine pf_X4_72 hx hb htw hown hK hW (by assumption) hS dX4_readRelation_42 (fun H locs hW hS => ?_)
    refine lv_goto (tgt := 65) hx hb dX4_readRelation_45 (by decide) ?_
    refine lv_aload_n hx hb dX4_readRelation_65 rfl (lv_at hl 0 rfl) ?_
    refine lv_dup hx hb dX4_readRelation_66 rfl ?_
    refine gf_X4_38 hx hb htw hown hK hW (by assumption) dX4_readRelation_67 ?_
    refine ti_iconst hx hb dX4_readRelation_70 ?_
    refine ti_iadd hx hb dX4_readRelation_71 ?_
    refine pf_X4_38 hx hb htw hown hK hW (by assumption) hS dX4_readRelation_72 (fun H locs hW hS => ?_)
    refine ti_iconst hx hb dX4_readRelation_75 ?_
    exact tm_zret hx hb hr hlk (by first | exact Or.inl rfl | exact Or.inr rfl | assumption) hK hW hS (tl_rel1 hne e1 n1 rfl (show (1 : Int) = _ from by rw [h4]; rfl) (by rw [h4]; decide) rfl) dX4_readRelation_76
  · refine lv_aload_n hx hb dX4_readRelation_32 rfl (lv_at hl 1 rfl) ?_
    refine ti_iconst hx hb dX4_readRelation_33 ?_
    refine pf_X4_72 hx hb htw hown hK hW (by assumption) hS dX4_readRelation_34 (fun H locs hW hS => ?_)
    refine lv_goto (tgt := 65) hx hb dX4_readRelation_37 (by decide) ?_
    refine lv_aload_n hx hb dX4_readRelation_65 rfl (lv_at hl 0 rfl) ?_
    refine lv_dup hx hb dX4_readRelation_66 rfl ?_
    refine gf_X4_38 hx hb htw hown hK hW (by assumption) dX4_readRelation_67 ?_
    refine ti_iconst hx hb dX4_readRelation_70 ?_
    refine ti_iadd hx hb dX4_readRelation_71 ?_
    refine pf_X4_38 hx hb htw hown hK hW (by assumption) hS dX4_readRelation_72 (fun H locs hW hS => ?_)
    refine ti_iconst hx hb dX4_readRelation_75 ?_
    exact tm_zret hx hb hr hlk (by first | exact Or.inl rfl | exact Or.inr rfl | assumption) hK hW hS (tl_rel1 hne e1 n1 rfl (show (0 : Int) = _ from by rw [h4]; rfl) (by rw [h4]; decide) rfl) dX4_readRelation_76
  · refine lv_aload_n hx hb dX4_readRelation_48 rfl (lv_at hl 1 rfl) ?_
    refine ti_iconst hx hb dX4_readRelation_49 ?_
    refine pf_X4_72 hx hb htw hown hK hW (by assumption) hS dX4_readRelation_50 (fun H locs hW hS => ?_)
    refine lv_goto (tgt := 65) hx hb dX4_readRelation_53 (by decide) ?_
    refine lv_aload_n hx hb dX4_readRelation_65 rfl (lv_at hl 0 rfl) ?_
    refine lv_dup hx hb dX4_readRelation_66 rfl ?_
    refine gf_X4_38 hx hb htw hown hK hW (by assumption) dX4_readRelation_67 ?_
    refine ti_iconst hx hb dX4_readRelation_70 ?_
    refine ti_iadd hx hb dX4_readRelation_71 ?_
    refine pf_X4_38 hx hb htw hown hK hW (by assumption) hS dX4_readRelation_72 (fun H locs hW hS => ?_)
    refine ti_iconst hx hb dX4_readRelation_75 ?_
    exact tm_zret hx hb hr hlk (by first | exact Or.inl rfl | exact Or.inr rfl | assumption) hK hW hS (tl_rel1 hne e1 n1 rfl (show (2 : Int) = _ from by rw [h4]; rfl) (by rw [h4]; decide) rfl) dX4_readRelation_76
  · refine lv_aload_n hx hb dX4_readRelation_56 rfl (lv_at hl 0 rfl) ?_
    refine lv_aload_n hx hb dX4_readRelation_57 rfl (lv_at hl 0 rfl) ?_
    refine gf_X4_38 hx hb htw hown hK hW (by assumption) dX4_readRelation_58 ?_
    refine tm_calli (cs_X4_69 hx hb hml hown htw hK hW (by assumption) (c_X4_failAt (by assumption)) ⟨rfl, rfl, Nat.le_of_ble_eq_true rfl, Nat.le_of_ble_eq_true rfl⟩ hl.1 (Nat.le_of_ble_eq_true rfl) dX4_readRelation_61 ⟨Nat.le_of_ble_eq_true rfl, Nat.le_of_ble_eq_true rfl⟩) hS (fun x61 M61 H locs hp61 hW hS => ?_)
    obtain ⟨ex61, eM61⟩ := hp61
    rw [ex61]
    exact tm_zret hx hb hr hlk (Or.inl rfl) hK hW hS ⟨by rw [eM61]; exact n1.1, by rw [eM61]; exact n1.2.1, fun a k h1 h2 => by rw [eM61]; exact (tm_up_a _ _ h1).trans (n1.2.2 a k (fun z => h1 z.1)), by rw [eM61]; exact (tm_up_k _ _ (by decide)).trans (n1.2.2 rd 1 (fun z => absurd z.2 (by decide))), Or.inr ⟨by omega, rfl, by rw [eM61]; exact (tm_up_s _ _ _ _).trans e1⟩⟩ dX4_readRelation_64
