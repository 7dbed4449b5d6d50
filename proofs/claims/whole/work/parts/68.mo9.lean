/-! TutorLinesModel: divide (by program: wip/whole/gen/mo9.py) -/
theorem dX9_divide_0 : decode cX9_divide 0 = .ok (.aload_n 0, 1) := by decide +kernel
theorem dX9_divide_1 : decode cX9_divide 1 = .ok (.invokevirtual 89, 3) := by decide +kernel
theorem dX9_divide_4 : decode cX9_divide 4 = .ok (.invokestatic 93, 3) := by decide +kernel
theorem dX9_divide_7 : decode cX9_divide 7 = .ok (.ifCond .ne 27, 3) := by decide +kernel
theorem dX9_divide_10 : decode cX9_divide 10 = .ok (.aload_n 0, 1) := by decide +kernel
theorem dX9_divide_11 : decode cX9_divide 11 = .ok (.aload_n 0, 1) := by decide +kernel
theorem dX9_divide_12 : decode cX9_divide 12 = .ok (.invokevirtual 89, 3) := by decide +kernel
theorem dX9_divide_15 : decode cX9_divide 15 = .ok (.iconst (-1), 1) := by decide +kernel
theorem dX9_divide_16 : decode cX9_divide 16 = .ok (.if_icmp .ne 10, 3) := by decide +kernel
theorem dX9_divide_19 : decode cX9_divide 19 = .ok (.aload_n 0, 1) := by decide +kernel
theorem dX9_divide_20 : decode cX9_divide 20 = .ok (.getfield 79, 3) := by decide +kernel
theorem dX9_divide_23 : decode cX9_divide 23 = .ok (.goto 7, 3) := by decide +kernel
theorem dX9_divide_26 : decode cX9_divide 26 = .ok (.aload_n 0, 1) := by decide +kernel
theorem dX9_divide_27 : decode cX9_divide 27 = .ok (.getfield 76, 3) := by decide +kernel
theorem dX9_divide_30 : decode cX9_divide 30 = .ok (.invokevirtual 103, 3) := by decide +kernel
theorem dX9_divide_33 : decode cX9_divide 33 = .ok (.ireturn, 1) := by decide +kernel
theorem dX9_divide_34 : decode cX9_divide 34 = .ok (.aload_n 0, 1) := by decide +kernel
theorem dX9_divide_35 : decode cX9_divide 35 = .ok (.invokevirtual 118, 3) := by decide +kernel
theorem dX9_divide_38 : decode cX9_divide 38 = .ok (.aload_n 0, 1) := by decide +kernel
theorem dX9_divide_39 : decode cX9_divide 39 = .ok (.getfield 86, 3) := by decide +kernel
theorem dX9_divide_42 : decode cX9_divide 42 = .ok (.ifCond .ne 12, 3) := by decide +kernel
theorem dX9_divide_45 : decode cX9_divide 45 = .ok (.aload_n 0, 1) := by decide +kernel
theorem dX9_divide_46 : decode cX9_divide 46 = .ok (.aload_n 0, 1) := by decide +kernel
theorem dX9_divide_47 : decode cX9_divide 47 = .ok (.getfield 97, 3) := by decide +kernel
theorem dX9_divide_50 : decode cX9_divide 50 = .ok (.invokevirtual 103, 3) := by decide +kernel
theorem dX9_divide_53 : decode cX9_divide 53 = .ok (.ireturn, 1) := by decide +kernel
theorem dX9_divide_54 : decode cX9_divide 54 = .ok (.iconst 4, 1) := by decide +kernel
theorem dX9_divide_55 : decode cX9_divide 55 = .ok (.aload_n 0, 1) := by decide +kernel
theorem dX9_divide_56 : decode cX9_divide 56 = .ok (.getfield 100, 3) := by decide +kernel
theorem dX9_divide_59 : decode cX9_divide 59 = .ok (.imul, 1) := by decide +kernel
theorem dX9_divide_60 : decode cX9_divide 60 = .ok (.istore_n 2, 1) := by decide +kernel
theorem dX9_divide_61 : decode cX9_divide 61 = .ok (.iconst 0, 1) := by decide +kernel
theorem dX9_divide_62 : decode cX9_divide 62 = .ok (.istore_n 3, 1) := by decide +kernel
theorem dX9_divide_63 : decode cX9_divide 63 = .ok (.iload_n 3, 1) := by decide +kernel
theorem dX9_divide_64 : decode cX9_divide 64 = .ok (.iconst 4, 1) := by decide +kernel
theorem dX9_divide_65 : decode cX9_divide 65 = .ok (.if_icmp .ge 76, 3) := by decide +kernel
theorem dX9_divide_68 : decode cX9_divide 68 = .ok (.aload_n 0, 1) := by decide +kernel
theorem dX9_divide_69 : decode cX9_divide 69 = .ok (.aload_n 0, 1) := by decide +kernel
theorem dX9_divide_70 : decode cX9_divide 70 = .ok (.getfield 29, 3) := by decide +kernel
theorem dX9_divide_73 : decode cX9_divide 73 = .ok (.iload_n 2, 1) := by decide +kernel
theorem dX9_divide_74 : decode cX9_divide 74 = .ok (.iload_n 3, 1) := by decide +kernel
theorem dX9_divide_75 : decode cX9_divide 75 = .ok (.iadd, 1) := by decide +kernel
theorem dX9_divide_76 : decode cX9_divide 76 = .ok (.laload, 1) := by decide +kernel
theorem dX9_divide_77 : decode cX9_divide 77 = .ok (.aload_n 0, 1) := by decide +kernel
theorem dX9_divide_78 : decode cX9_divide 78 = .ok (.getfield 29, 3) := by decide +kernel
theorem dX9_divide_81 : decode cX9_divide 81 = .ok (.iload_n 2, 1) := by decide +kernel
theorem dX9_divide_82 : decode cX9_divide 82 = .ok (.iload_n 3, 1) := by decide +kernel
theorem dX9_divide_83 : decode cX9_divide 83 = .ok (.iadd, 1) := by decide +kernel
theorem dX9_divide_84 : decode cX9_divide 84 = .ok (.iconst 1, 1) := by decide +kernel
theorem dX9_divide_85 : decode cX9_divide 85 = .ok (.iadd, 1) := by decide +kernel
theorem dX9_divide_86 : decode cX9_divide 86 = .ok (.laload, 1) := by decide +kernel
theorem dX9_divide_87 : decode cX9_divide 87 = .ok (.aload_n 0, 1) := by decide +kernel
theorem dX9_divide_88 : decode cX9_divide 88 = .ok (.getfield 86, 3) := by decide +kernel
theorem dX9_divide_91 : decode cX9_divide 91 = .ok (.i2l, 1) := by decide +kernel
theorem dX9_divide_92 : decode cX9_divide 92 = .ok (.lmul, 1) := by decide +kernel
theorem dX9_divide_93 : decode cX9_divide 93 = .ok (.invokevirtual 106, 3) := by decide +kernel
theorem dX9_divide_96 : decode cX9_divide 96 = .ok (.aload_n 0, 1) := by decide +kernel
theorem dX9_divide_97 : decode cX9_divide 97 = .ok (.invokevirtual 110, 3) := by decide +kernel
theorem dX9_divide_100 : decode cX9_divide 100 = .ok (.ifCond .eq 9, 3) := by decide +kernel
theorem dX9_divide_103 : decode cX9_divide 103 = .ok (.aload_n 0, 1) := by decide +kernel
theorem dX9_divide_104 : decode cX9_divide 104 = .ok (.iload_n 1, 1) := by decide +kernel
theorem dX9_divide_105 : decode cX9_divide 105 = .ok (.invokevirtual 103, 3) := by decide +kernel
theorem dX9_divide_108 : decode cX9_divide 108 = .ok (.ireturn, 1) := by decide +kernel
theorem dX9_divide_109 : decode cX9_divide 109 = .ok (.aload_n 0, 1) := by decide +kernel
theorem dX9_divide_110 : decode cX9_divide 110 = .ok (.getfield 29, 3) := by decide +kernel
theorem dX9_divide_113 : decode cX9_divide 113 = .ok (.iload_n 2, 1) := by decide +kernel
theorem dX9_divide_114 : decode cX9_divide 114 = .ok (.iload_n 3, 1) := by decide +kernel
theorem dX9_divide_115 : decode cX9_divide 115 = .ok (.iadd, 1) := by decide +kernel
theorem dX9_divide_116 : decode cX9_divide 116 = .ok (.aload_n 0, 1) := by decide +kernel
theorem dX9_divide_117 : decode cX9_divide 117 = .ok (.getfield 56, 3) := by decide +kernel
theorem dX9_divide_120 : decode cX9_divide 120 = .ok (.lastore, 1) := by decide +kernel
theorem dX9_divide_121 : decode cX9_divide 121 = .ok (.aload_n 0, 1) := by decide +kernel
theorem dX9_divide_122 : decode cX9_divide 122 = .ok (.getfield 29, 3) := by decide +kernel
theorem dX9_divide_125 : decode cX9_divide 125 = .ok (.iload_n 2, 1) := by decide +kernel
theorem dX9_divide_126 : decode cX9_divide 126 = .ok (.iload_n 3, 1) := by decide +kernel
theorem dX9_divide_127 : decode cX9_divide 127 = .ok (.iadd, 1) := by decide +kernel
theorem dX9_divide_128 : decode cX9_divide 128 = .ok (.iconst 1, 1) := by decide +kernel
theorem dX9_divide_129 : decode cX9_divide 129 = .ok (.iadd, 1) := by decide +kernel
theorem dX9_divide_130 : decode cX9_divide 130 = .ok (.aload_n 0, 1) := by decide +kernel
theorem dX9_divide_131 : decode cX9_divide 131 = .ok (.getfield 60, 3) := by decide +kernel
theorem dX9_divide_134 : decode cX9_divide 134 = .ok (.lastore, 1) := by decide +kernel
theorem dX9_divide_135 : decode cX9_divide 135 = .ok (.iinc 3 2, 3) := by decide +kernel
theorem dX9_divide_138 : decode cX9_divide 138 = .ok (.goto (-75), 3) := by decide +kernel
theorem dX9_divide_141 : decode cX9_divide 141 = .ok (.iconst 1, 1) := by decide +kernel
theorem dX9_divide_142 : decode cX9_divide 142 = .ok (.ireturn, 1) := by decide +kernel
def pD (o lv : Nat) (a k : Nat) : Prop := (a = o ∧ (k = 10 ∨ k = 11 ∨ k = 19 ∨ k = 21 ∨ k = 22 ∨ k = 23)) ∨ (a = o + 7 ∧ 4 * lv ≤ k ∧ k < 4 * lv + 4)
theorem tp_dig_ge (t : Nat → Int) (n : Nat) : ∀ (k : Nat) (x : Int) (ld p : Nat), p ≤ n → p ≤ (tp_dig t n k x ld p).2.2
  | 0, x, ld, p, h => Nat.le_refl p
  | k + 1, x, ld, p, h => by
    have hq := tp_nx_le (t := t) h
    unfold tp_dig
    split
    · rename_i z
      have hl := tp_ch_lt (t := t) (n := n) (p := tp_nx t n p) (by omega)
      have := tp_dig_ge t n k (x * 10 + (tp_ch t n (tp_nx t n p) - 48)) (tp_nx t n p) (tp_nx t n p + 1) hl
      omega
    · exact hq.1
theorem tp_num_lt {t : Nat → Int} {n p : Nat} {x : Nat × Int × Nat} (hp : p ≤ n) (h : tp_num t n p = .inl x) : p < x.1 := by
  have hq := tp_nx_le (t := t) hp
  unfold tp_num at h
  split at h
  · rename_i z
    have hl := tp_ch_lt (t := t) (n := n) (p := tp_nx t n p) (by omega)
    cases h
    show p < (tp_dig t n 4 0 0 (tp_nx t n p)).2.2
    rw [show tp_dig t n 4 0 0 (tp_nx t n p) = tp_dig t n 3 (0 * 10 + (tp_ch t n (tp_nx t n p) - 48)) (tp_nx t n p) (tp_nx t n p + 1) from by rw [tp_dig, tp_nx_nx hp, if_pos z]]
    have := tp_dig_ge t n 3 (0 * 10 + (tp_ch t n (tp_nx t n p) - 48)) (tp_nx t n p) (tp_nx t n p + 1) hl
    omega
  · cases h
theorem tp_num_nx {t : Nat → Int} {n p : Nat} (hp : p ≤ n) : tp_num t n (tp_nx t n p) = tp_num t n p := by
  unfold tp_num
  rw [tp_nx_nx hp]
theorem fdiv_1 (f : tl_F) (x : Int) : tl_norm f.1 (f.2 * x) = fdiv f (x, 1) := by
  show _ = tl_norm (f.1 * 1) (f.2 * x)
  rw [Int.mul_one]
theorem tp_dvN {t : Nat → Int} {n p pl : Nat} {v : tl_S} {g : Nat → tl_S → tp_R} (h : ¬ (48 ≤ tp_ch t n (tp_nx t n p) ∧ tp_ch t n (tp_nx t n p) ≤ 57)) : tp_fit pl (tp_dvd v (tp_num t n p)) g = .inr (tp_nx t n p) := by
  unfold tp_num
  rw [if_neg h]
  rfl
theorem tp_dvZ {t : Nat → Int} {n p pl : Nat} {v : tl_S} {g : Nat → tl_S → tp_R} {x : Nat × Int × Nat} (h : tp_num t n p = .inl x) (h0 : x.2.1 = 0) : tp_fit pl (tp_dvd v (tp_num t n p)) g = .inr x.2.2 := by
  rw [h]
  show tp_fit pl (if x.2.1 = 0 then _ else _) g = _
  rw [if_pos h0]
  rfl
theorem tp_dvG {t : Nat → Int} {n p pl : Nat} {v : tl_S} {g : Nat → tl_S → tp_R} {x : Nat × Int × Nat} (h : tp_num t n p = .inl x) (h0 : ¬ x.2.1 = 0) : tp_fit pl (tp_dvd v (tp_num t n p)) g = if sfit (sdiv v (x.2.1, 1)) then g x.1 (sdiv v (x.2.1, 1)) else .inr pl := by
  rw [h]
  show tp_fit pl (if x.2.1 = 0 then _ else _) g = _
  rw [if_neg h0]
  rfl
theorem tl_end {t : Nat → Int} {n p : Nat} (h : tp_ch t n p = -1) (hp : p ≤ n) (ht : ∀ j, 0 ≤ t j ∧ t j < 256) : n = p := by
  unfold tp_ch at h
  split at h
  · have := ht p
    omega
  · omega
set_option maxHeartbeats 4000000 in
set_option maxRecDepth 100000 in
/-- TutorLinesModel.divide -/
theorem c_X9_divide {l : Launch} {G : tm_G} {Hb : Heap} {sh : tm_sh} {M : tm_M} {o lv n p1 pl : Nat} {t : Nat → Int} (hR : MS sh M o t n p1) (hlv : mI M o 18 = lv) (hl9 : lv < 9) (hpl : pl ≤ 80) (hv : sok (asS M (o + 7) (4 * lv))) : Met l yX9_divide (tws yX9_divide cX9_divide 4 (some .boolean)) ({ frames := 3, cells := 0, slots := 0, locals := 66 }) (va_Pc [.ref o, ji (pl : Nat)] (tm_St G Hb sh M)) (tm_Qi G Hb sh (fun r M1 => fq (pD o lv) M M1 ∧ ((r = 1 ∧ ∃ (q : Nat) (w : tl_S), (∀ g, tp_fit pl (tp_dvd (asS M (o + 7) (4 * lv)) (tp_num t n p1)) g = g q w) ∧ mI M1 o 19 = q ∧ q ≤ n ∧ p1 < q ∧ asS M1 (o + 7) (4 * lv) = w ∧ sok w) ∨ (r = 0 ∧ ∃ f : Nat, (∀ g, tp_fit pl (tp_dvd (asS M (o + 7) (4 * lv)) (tp_num t n p1)) g = .inr f) ∧ mI M1 o 21 = f)))) 0 0 (tm_A Hb) := by
  refine tm_begin (by decide) (Nat.le_of_ble_eq_true rfl) (fun p e s m below meth c ls hx hb hr hml hown htw hlk hnm hK hW hl => ?_)
  have hS : va_S (tm_A Hb) s.heap s.heap [] := va_S.rf
  have hl : lv_has ls 4 [(0, .ref o), (1, ji (pl : Nat))] := hl
  have hp0 := hR.2.2.2.2.2
  have h80 := hR.2.2.2.1
  have q0 := tp_nx_le (t := t) hp0
  have cr := tp_ch_r (n := n) (p := tp_nx t n p1) (MS_t hR)
  obtain ⟨b0, ⟨t1, t2, t6, t7, t9, t12, t13, t14, t15, t16, t17, t24⟩, ⟨u1, u2, u3, u4, u5, u6, u7, u8, u9, u10, u11, u12⟩⟩ := hR.1
  have ea : (4 * (lv : Int) + 0).toNat = 4 * lv := by omega
  have eb : (4 * (lv : Int) + 0 + 1).toNat = 4 * lv + 1 := by omega
  have ec : (4 * (lv : Int) + (0 + 2)).toNat = 4 * lv + 2 := by omega
  have ed : (4 * (lv : Int) + (0 + 2) + 1).toNat = 4 * lv + 3 := by omega
  obtain ⟨v1, v2⟩ := hv
  refine lv_aload_n hx hb dX9_divide_0 rfl (lv_at hl 0 rfl) ?_
  refine tm_calli (cs_X9_89 hx hb hml hown htw hK hW (by assumption) (c_X9_here hR) ⟨rfl, rfl, Nat.le_of_ble_eq_true rfl, Nat.le_of_ble_eq_true rfl⟩ hl.1 (Nat.le_of_ble_eq_true rfl) dX9_divide_1 ⟨Nat.le_of_ble_eq_true rfl, Nat.le_of_ble_eq_true rfl⟩) hS (fun x1 M1 H locs hp1 hW hS => ?_)
  obtain ⟨ex1, e1, n1⟩ := hp1
  have R1 := MS_m hR n1 (fun j => by unfold p19; omega) (by unfold p19; omega) e1 q0.2
  have f1 := fq_wd (Q := pD o lv) n1 (fun a k q => by unfold p19 at q; unfold pD; omega)
  rw [ex1]
  refine tm_calli (cs_X9_93 hx hb hml hown htw hK hW (c_X9_isDigit (by omega)) ⟨rfl, rfl, Nat.le_of_ble_eq_true rfl, Nat.le_of_ble_eq_true rfl⟩ hl.1 (Nat.le_of_ble_eq_true rfl) dX9_divide_4 ⟨Nat.le_of_ble_eq_true rfl, Nat.le_of_ble_eq_true rfl⟩) hS (fun x4 M4 H locs hp4 hW hS => ?_)
  obtain ⟨ex4, eM4⟩ := hp4
  rw [eM4] at hW
  rw [ex4]
  refine ti_if_ne (tgt := 34) hx hb dX9_divide_7 (by decide) (tl_b_r _) (fun h7 => ?_) (fun h7 => ?_)
  · refine lv_aload_n hx hb dX9_divide_34 rfl (lv_at hl 0 rfl) ?_
    refine tm_callv (cs_X9_118 hx hb hml hown htw hK hW (by assumption) (c_X9_digits R1 (by rw [tp_nx_nx hp0]; exact tl_b_n.mp h7)) ⟨rfl, rfl, Nat.le_of_ble_eq_true rfl, Nat.le_of_ble_eq_true rfl⟩ hl.1 (Nat.le_of_ble_eq_true rfl) dX9_divide_35 ⟨Nat.le_of_ble_eq_true rfl, Nat.le_of_ble_eq_true rfl⟩) hS (fun M35 H locs hp35 hW hS => ?_)
    obtain ⟨x, ex, g19, g22, g23, n35⟩ := hp35
    rw [tp_num_nx hp0] at ex
    have ok := tp_num_ok hp0 ex
    have lt := tp_num_lt hp0 ex
    have f35 := fq_tr f1 (fq_wd (Q := pD o lv) n35 (fun a k q => by unfold pdg at q; unfold pD; omega))
    have lv35 : mI M35 o 18 = lv := (f35.2 _ _ (by unfold pD; omega)).1.trans hlv
    have r35 : mR M35 o 13 = some (o + 7) := by rw [f35.1]; exact t13
    have n35L : ∀ a k, a ≠ o → a ≠ o + 7 → mL M35 a k = mL M a k := fun a k q1 q2 => (f35.2 a k (by unfold pD; omega)).2
    have L35 : ∀ k, mL M35 (o + 7) k = mL M (o + 7) k := fun k => ((n35.2 _ _ (by unfold pdg; omega)).2).trans (n1.2 _ _ (by unfold p19; omega)).2
    refine lv_aload_n hx hb dX9_divide_38 rfl (lv_at hl 0 rfl) ?_
    refine gf_X9_86 hx hb htw hown hK hW (by assumption) dX9_divide_39 ?_
    rw [g22]
    refine ti_if_ne (tgt := 54) hx hb dX9_divide_42 (by decide) (by omega) (fun h42 => ?_) (fun h42 => ?_)
    · refine ti_iconst hx hb dX9_divide_54 ?_
      refine lv_aload_n hx hb dX9_divide_55 rfl (lv_at hl 0 rfl) ?_
      refine gf_X9_100 hx hb htw hown hK hW (by assumption) dX9_divide_56 ?_
      rw [lv35]
      refine ti_imul hx hb dX9_divide_59 ?_
      refine lv_istore_n (lv' := [(2, _), (0, _), (1, _)]) hx hb dX9_divide_60 rfl hl (by decide) rfl (fun ls hl => ?_)
      refine ti_iconst hx hb dX9_divide_61 ?_
      refine lv_istore_n (lv' := [(3, _), (2, _), (0, _), (1, _)]) hx hb dX9_divide_62 rfl hl (by decide) rfl (fun ls hl => ?_)
      refine lv_iload_n hx hb dX9_divide_63 rfl (lv_at hl 0 rfl) ?_
      refine ti_iconst hx hb dX9_divide_64 ?_
      refine ti_icmp_ge (tgt := 141) hx hb dX9_divide_65 (by decide) (by decide) (by decide) (fun h65 => ?_) (fun h65 => ?_)
      · exact absurd h65 (by decide)
      · refine lv_aload_n hx hb dX9_divide_68 rfl (lv_at hl 2 rfl) ?_
        refine lv_aload_n hx hb dX9_divide_69 rfl (lv_at hl 2 rfl) ?_
        refine gf_X9_29 hx hb htw hown hK hW (by assumption) r35 dX9_divide_70 ?_
        refine lv_iload_n hx hb dX9_divide_73 rfl (lv_at hl 1 rfl) ?_
        refine lv_iload_n hx hb dX9_divide_74 rfl (lv_at hl 0 rfl) ?_
        refine ti_iadd hx hb dX9_divide_75 ?_
        refine tm_lald hx hb hK hW (by assumption) (by omega) (by omega) (by decide) dX9_divide_76 ?_
        rw [ea, L35]
        refine lv_aload_n hx hb dX9_divide_77 rfl (lv_at hl 2 rfl) ?_
        refine gf_X9_29 hx hb htw hown hK hW (by assumption) r35 dX9_divide_78 ?_
        refine lv_iload_n hx hb dX9_divide_81 rfl (lv_at hl 1 rfl) ?_
        refine lv_iload_n hx hb dX9_divide_82 rfl (lv_at hl 0 rfl) ?_
        refine ti_iadd hx hb dX9_divide_83 ?_
        refine ti_iconst hx hb dX9_divide_84 ?_
        refine ti_iadd hx hb dX9_divide_85 ?_
        refine tm_lald hx hb hK hW (by assumption) (by omega) (by omega) (by decide) dX9_divide_86 ?_
        rw [eb, L35]
        refine lv_aload_n hx hb dX9_divide_87 rfl (lv_at hl 2 rfl) ?_
        refine gf_X9_86 hx hb htw hown hK hW (by assumption) dX9_divide_88 ?_
        rw [g22]
        refine ti_i2l hx hb dX9_divide_91 (by omega) ?_
        refine ti_lmul hx hb dX9_divide_92 ?_
        refine tm_callv (cs_X9_106 hx hb hml hown htw hK hW (by assumption) (c_X9_make b0 (Nat.le_trans (fok_ab v1).1 (by decide)) (tl_bd v1 (fok_num ok.2.1 ok.2.2.1)).2.2.2.2.2.2 (tl_n0 (fok_ab v1).2.2 h42)) ⟨rfl, rfl, Nat.le_of_ble_eq_true rfl, Nat.le_of_ble_eq_true rfl⟩ hl.1 (Nat.le_of_ble_eq_true rfl) dX9_divide_93 ⟨Nat.le_of_ble_eq_true rfl, Nat.le_of_ble_eq_true rfl⟩) hS (fun M93 H locs hp93 hW hS => ?_)
        have hp93 : M93 = mk M35 o (tl_norm (asS M (o + 7) (4 * lv)).1.1 ((asS M (o + 7) (4 * lv)).1.2 * x.2.1)) := hp93
        rw [fdiv_1 (asS M (o + 7) (4 * lv)).1 x.2.1] at hp93
        have x1 : mL M93 o 10 = (fdiv (asS M (o + 7) (4 * lv)).1 (x.2.1, 1)).1 := by rw [hp93]; exact mk_0 _ _ _
        have y1 : mL M93 o 11 = (fdiv (asS M (o + 7) (4 * lv)).1 (x.2.1, 1)).2 := by rw [hp93]; exact mk_1 _ _ _
        have n9 : ∀ k, mL M93 (o + 7) k = mL M (o + 7) k := fun k => by rw [hp93, mk_n _ _ (Or.inl (by omega))]; exact L35 k
        have f9 : fq (pD o lv) M M93 := fq_tr f35 (by rw [hp93]; exact fq_mk (Or.inl ⟨rfl, by omega⟩) (Or.inl ⟨rfl, by omega⟩))
        have r9 : mR M93 o 13 = some (o + 7) := by rw [f9.1]; exact t13
        have i9 : mI M93 = mI M35 := by rw [hp93]
        refine lv_aload_n hx hb dX9_divide_96 rfl (lv_at hl 2 rfl) ?_
        refine tm_calli (cs_X9_110 hx hb hml hown htw hK hW (by assumption) (c_X9_isGreat (f := fdiv (asS M (o + 7) (4 * lv)).1 (x.2.1, 1)) b0 x1 y1 (fLok_div v1 (fok_num ok.2.1 ok.2.2.1) h42)) ⟨rfl, rfl, Nat.le_of_ble_eq_true rfl, Nat.le_of_ble_eq_true rfl⟩ hl.1 (Nat.le_of_ble_eq_true rfl) dX9_divide_97 ⟨Nat.le_of_ble_eq_true rfl, Nat.le_of_ble_eq_true rfl⟩) hS (fun x97 M97 H locs hp97 hW hS => ?_)
        obtain ⟨ex97, eM97⟩ := hp97
        rw [eM97] at hW
        rw [ex97]
        refine ti_if_eq (tgt := 109) hx hb dX9_divide_100 (by decide) (tl_b_r _) (fun h100 => ?_) (fun h100 => ?_)
        · have ok1 := Decidable.not_not.mp (tl_b_0.mp h100)
          refine lv_aload_n hx hb dX9_divide_109 rfl (lv_at hl 2 rfl) ?_
          refine gf_X9_29 hx hb htw hown hK hW (by assumption) r9 dX9_divide_110 ?_
          refine lv_iload_n hx hb dX9_divide_113 rfl (lv_at hl 1 rfl) ?_
          refine lv_iload_n hx hb dX9_divide_114 rfl (lv_at hl 0 rfl) ?_
          refine ti_iadd hx hb dX9_divide_115 ?_
          refine lv_aload_n hx hb dX9_divide_116 rfl (lv_at hl 2 rfl) ?_
          refine gf_X9_56 hx hb htw hown hK hW (by assumption) dX9_divide_117 ?_
          refine tm_last hx hb hK hW hS (by assumption) (by omega) (by omega) (by decide) dX9_divide_120 (fun H locs hW hS => ?_)
          refine lv_aload_n hx hb dX9_divide_121 rfl (lv_at hl 2 rfl) ?_
          refine gf_X9_29 hx hb htw hown hK hW (by assumption) r9 dX9_divide_122 ?_
          refine lv_iload_n hx hb dX9_divide_125 rfl (lv_at hl 1 rfl) ?_
          refine lv_iload_n hx hb dX9_divide_126 rfl (lv_at hl 0 rfl) ?_
          refine ti_iadd hx hb dX9_divide_127 ?_
          refine ti_iconst hx hb dX9_divide_128 ?_
          refine ti_iadd hx hb dX9_divide_129 ?_
          refine lv_aload_n hx hb dX9_divide_130 rfl (lv_at hl 2 rfl) ?_
          refine gf_X9_60 hx hb htw hown hK hW (by assumption) dX9_divide_131 ?_
          refine tm_last hx hb hK hW hS (by assumption) (by omega) (by omega) (by decide) dX9_divide_134 (fun H locs hW hS => ?_)
          have hC : sL (sL M93 (o + 7) (4 * (lv : Int) + 0).toNat (mL M93 o 10)) (o + 7) (4 * (lv : Int) + 0 + 1).toNat (mL (sL M93 (o + 7) (4 * (lv : Int) + 0).toNat (mL M93 o 10)) o 11) = st2 M93 (o + 7) (4 * lv) (fdiv (asS M (o + 7) (4 * lv)).1 (x.2.1, 1)) := by rw [ea, eb, x1, show mL (sL M93 (o + 7) (4 * lv) (fdiv (asS M (o + 7) (4 * lv)).1 (x.2.1, 1)).1) o 11 = (fdiv (asS M (o + 7) (4 * lv)).1 (x.2.1, 1)).2 from (tm_up_a _ _ (by omega)).trans y1]
          rw [hC] at hW
          have oC0 : mL (st2 M93 (o + 7) (4 * lv) (fdiv (asS M (o + 7) (4 * lv)).1 (x.2.1, 1))) (o + 7) (4 * lv) = (fdiv (asS M (o + 7) (4 * lv)).1 (x.2.1, 1)).1 := st2_0 _ _ _ _
          have oC1 : mL (st2 M93 (o + 7) (4 * lv) (fdiv (asS M (o + 7) (4 * lv)).1 (x.2.1, 1))) (o + 7) (4 * lv + 1) = (fdiv (asS M (o + 7) (4 * lv)).1 (x.2.1, 1)).2 := st2_1 _ _ _ _
          have oC2 : mL (st2 M93 (o + 7) (4 * lv) (fdiv (asS M (o + 7) (4 * lv)).1 (x.2.1, 1))) (o + 7) (4 * lv + 2) = mL M (o + 7) (4 * lv + 2) := (st2_n _ _ (Or.inr (by omega))).trans (n9 _)
          have oC3 : mL (st2 M93 (o + 7) (4 * lv) (fdiv (asS M (o + 7) (4 * lv)).1 (x.2.1, 1))) (o + 7) (4 * lv + 3) = mL M (o + 7) (4 * lv + 3) := (st2_n _ _ (Or.inr (by omega))).trans (n9 _)
          have fC : fq (pD o lv) M (st2 M93 (o + 7) (4 * lv) (fdiv (asS M (o + 7) (4 * lv)).1 (x.2.1, 1))) := fq_tr f9 (fq_st2 (Or.inr ⟨rfl, by omega, by omega⟩) (Or.inr ⟨rfl, by omega, by omega⟩))
          have iC : mI (st2 M93 (o + 7) (4 * lv) (fdiv (asS M (o + 7) (4 * lv)).1 (x.2.1, 1))) = mI M35 := i9
          generalize st2 M93 (o + 7) (4 * lv) (fdiv (asS M (o + 7) (4 * lv)).1 (x.2.1, 1)) = C at hW oC0 oC1 oC2 oC3 fC iC
          have rC : mR C o 13 = some (o + 7) := by rw [fC.1]; exact t13
          refine ti_iinc (k := 0) (lv' := [(3, _), (2, _), (0, _), (1, _)]) hx hb dX9_divide_135 hl rfl (by decide) rfl (fun ls hl => ?_)
          refine lv_goto (tgt := 63) hx hb dX9_divide_138 (by decide) ?_
          refine lv_iload_n hx hb dX9_divide_63 rfl (lv_at hl 0 rfl) ?_
          refine ti_iconst hx hb dX9_divide_64 ?_
          refine ti_icmp_ge (tgt := 141) hx hb dX9_divide_65 (by decide) (by decide) (by decide) (fun h65 => ?_) (fun h65 => ?_)
          · exact absurd h65 (by decide)
          · refine lv_aload_n hx hb dX9_divide_68 rfl (lv_at hl 2 rfl) ?_
            refine lv_aload_n hx hb dX9_divide_69 rfl (lv_at hl 2 rfl) ?_
            refine gf_X9_29 hx hb htw hown hK hW (by assumption) rC dX9_divide_70 ?_
            refine lv_iload_n hx hb dX9_divide_73 rfl (lv_at hl 1 rfl) ?_
            refine lv_iload_n hx hb dX9_divide_74 rfl (lv_at hl 0 rfl) ?_
            refine ti_iadd hx hb dX9_divide_75 ?_
            refine tm_lald hx hb hK hW (by assumption) (by omega) (by omega) (by decide) dX9_divide_76 ?_
            rw [ec, oC2]
            refine lv_aload_n hx hb dX9_divide_77 rfl (lv_at hl 2 rfl) ?_
            refine gf_X9_29 hx hb htw hown hK hW (by assumption) rC dX9_divide_78 ?_
            refine lv_iload_n hx hb dX9_divide_81 rfl (lv_at hl 1 rfl) ?_
            refine lv_iload_n hx hb dX9_divide_82 rfl (lv_at hl 0 rfl) ?_
            refine ti_iadd hx hb dX9_divide_83 ?_
            refine ti_iconst hx hb dX9_divide_84 ?_
            refine ti_iadd hx hb dX9_divide_85 ?_
            refine tm_lald hx hb hK hW (by assumption) (by omega) (by omega) (by decide) dX9_divide_86 ?_
            rw [ed, oC3]
            refine lv_aload_n hx hb dX9_divide_87 rfl (lv_at hl 2 rfl) ?_
            refine gf_X9_86 hx hb htw hown hK hW (by assumption) dX9_divide_88 ?_
            rw [show mI C o 22 = x.2.1 by rw [iC]; exact g22]
            refine ti_i2l hx hb dX9_divide_91 (by omega) ?_
            refine ti_lmul hx hb dX9_divide_92 ?_
            refine tm_callv (cs_X9_106 hx hb hml hown htw hK hW (by assumption) (c_X9_make b0 (Nat.le_trans (fok_ab v2).1 (by decide)) (tl_bd v2 (fok_num ok.2.1 ok.2.2.1)).2.2.2.2.2.2 (tl_n0 (fok_ab v2).2.2 h42)) ⟨rfl, rfl, Nat.le_of_ble_eq_true rfl, Nat.le_of_ble_eq_true rfl⟩ hl.1 (Nat.le_of_ble_eq_true rfl) dX9_divide_93 ⟨Nat.le_of_ble_eq_true rfl, Nat.le_of_ble_eq_true rfl⟩) hS (fun M93 H locs hp93 hW hS => ?_)
            have hp93 : M93 = mk C o (tl_norm (asS M (o + 7) (4 * lv)).2.1 ((asS M (o + 7) (4 * lv)).2.2 * x.2.1)) := hp93
            rw [fdiv_1 (asS M (o + 7) (4 * lv)).2 x.2.1] at hp93
            have x2 : mL M93 o 10 = (fdiv (asS M (o + 7) (4 * lv)).2 (x.2.1, 1)).1 := by rw [hp93]; exact mk_0 _ _ _
            have y2 : mL M93 o 11 = (fdiv (asS M (o + 7) (4 * lv)).2 (x.2.1, 1)).2 := by rw [hp93]; exact mk_1 _ _ _
            have n9 : ∀ k, mL M93 (o + 7) k = mL C (o + 7) k := fun k => by rw [hp93, mk_n _ _ (Or.inl (by omega))]
            have f9 : fq (pD o lv) M M93 := fq_tr fC (by rw [hp93]; exact fq_mk (Or.inl ⟨rfl, by omega⟩) (Or.inl ⟨rfl, by omega⟩))
            have r9 : mR M93 o 13 = some (o + 7) := by rw [f9.1]; exact t13
            have i9 : mI M93 = mI M35 := by rw [hp93]; exact iC
            refine lv_aload_n hx hb dX9_divide_96 rfl (lv_at hl 2 rfl) ?_
            refine tm_calli (cs_X9_110 hx hb hml hown htw hK hW (by assumption) (c_X9_isGreat (f := fdiv (asS M (o + 7) (4 * lv)).2 (x.2.1, 1)) b0 x2 y2 (fLok_div v2 (fok_num ok.2.1 ok.2.2.1) h42)) ⟨rfl, rfl, Nat.le_of_ble_eq_true rfl, Nat.le_of_ble_eq_true rfl⟩ hl.1 (Nat.le_of_ble_eq_true rfl) dX9_divide_97 ⟨Nat.le_of_ble_eq_true rfl, Nat.le_of_ble_eq_true rfl⟩) hS (fun x97 M97 H locs hp97 hW hS => ?_)
            obtain ⟨ex97, eM97⟩ := hp97
            rw [eM97] at hW
            rw [ex97]
            refine ti_if_eq (tgt := 109) hx hb dX9_divide_100 (by decide) (tl_b_r _) (fun h100 => ?_) (fun h100 => ?_)
            · have ok2 := Decidable.not_not.mp (tl_b_0.mp h100)
              refine lv_aload_n hx hb dX9_divide_109 rfl (lv_at hl 2 rfl) ?_
              refine gf_X9_29 hx hb htw hown hK hW (by assumption) r9 dX9_divide_110 ?_
              refine lv_iload_n hx hb dX9_divide_113 rfl (lv_at hl 1 rfl) ?_
              refine lv_iload_n hx hb dX9_divide_114 rfl (lv_at hl 0 rfl) ?_
              refine ti_iadd hx hb dX9_divide_115 ?_
              refine lv_aload_n hx hb dX9_divide_116 rfl (lv_at hl 2 rfl) ?_
              refine gf_X9_56 hx hb htw hown hK hW (by assumption) dX9_divide_117 ?_
              refine tm_last hx hb hK hW hS (by assumption) (by omega) (by omega) (by decide) dX9_divide_120 (fun H locs hW hS => ?_)
              refine lv_aload_n hx hb dX9_divide_121 rfl (lv_at hl 2 rfl) ?_
              refine gf_X9_29 hx hb htw hown hK hW (by assumption) r9 dX9_divide_122 ?_
              refine lv_iload_n hx hb dX9_divide_125 rfl (lv_at hl 1 rfl) ?_
              refine lv_iload_n hx hb dX9_divide_126 rfl (lv_at hl 0 rfl) ?_
              refine ti_iadd hx hb dX9_divide_127 ?_
              refine ti_iconst hx hb dX9_divide_128 ?_
              refine ti_iadd hx hb dX9_divide_129 ?_
              refine lv_aload_n hx hb dX9_divide_130 rfl (lv_at hl 2 rfl) ?_
              refine gf_X9_60 hx hb htw hown hK hW (by assumption) dX9_divide_131 ?_
              refine tm_last hx hb hK hW hS (by assumption) (by omega) (by omega) (by decide) dX9_divide_134 (fun H locs hW hS => ?_)
              have hC2 : sL (sL M93 (o + 7) (4 * (lv : Int) + (0 + 2)).toNat (mL M93 o 10)) (o + 7) (4 * (lv : Int) + (0 + 2) + 1).toNat (mL (sL M93 (o + 7) (4 * (lv : Int) + (0 + 2)).toNat (mL M93 o 10)) o 11) = st2 M93 (o + 7) (4 * lv + 2) (fdiv (asS M (o + 7) (4 * lv)).2 (x.2.1, 1)) := by rw [ec, ed, x2, show mL (sL M93 (o + 7) (4 * lv + 2) (fdiv (asS M (o + 7) (4 * lv)).2 (x.2.1, 1)).1) o 11 = (fdiv (asS M (o + 7) (4 * lv)).2 (x.2.1, 1)).2 from (tm_up_a _ _ (by omega)).trans y2]
              rw [hC2] at hW
              refine ti_iinc (k := 0) (lv' := [(3, _), (2, _), (0, _), (1, _)]) hx hb dX9_divide_135 hl rfl (by decide) rfl (fun ls hl => ?_)
              refine lv_goto (tgt := 63) hx hb dX9_divide_138 (by decide) ?_
              refine lv_iload_n hx hb dX9_divide_63 rfl (lv_at hl 0 rfl) ?_
              refine ti_iconst hx hb dX9_divide_64 ?_
              refine ti_icmp_ge (tgt := 141) hx hb dX9_divide_65 (by decide) (by decide) (by decide) (fun h65 => ?_) (fun h65 => ?_)
              · refine ti_iconst hx hb dX9_divide_141 ?_
                exact tm_zret hx hb hr hlk (by first | exact Or.inl rfl | exact Or.inr rfl | assumption) hK hW hS ⟨fq_tr f9 (fq_st2 (Or.inr ⟨rfl, by omega, by omega⟩) (Or.inr ⟨rfl, by omega, by omega⟩)), Or.inl ⟨rfl, x.1, sdiv (asS M (o + 7) (4 * lv)) (x.2.1, 1), fun g => (tp_dvG ex h42).trans (if_pos ⟨ok1, ok2⟩), (show mI M93 o 19 = x.1 by rw [i9]; exact g19), ok.1, lt, as_eq ((st2_n _ _ (Or.inr (by omega))).trans ((n9 _).trans oC0)) ((st2_n _ _ (Or.inr (by omega))).trans ((n9 _).trans oC1)) (st2_0 _ _ _ _) (st2_1 _ _ _ _), sok_sdiv ⟨v1, v2⟩ (fok_num ok.2.1 ok.2.2.1) h42 ⟨ok1, ok2⟩⟩⟩ dX9_divide_142
              · exact absurd h65 (by decide)
            · refine lv_aload_n hx hb dX9_divide_103 rfl (lv_at hl 2 rfl) ?_
              refine lv_iload_n hx hb dX9_divide_104 rfl (lv_at hl 3 rfl) ?_
              refine tm_calli (cs_X9_103 hx hb hml hown htw hK hW (by assumption) (c_X9_fails b0) ⟨rfl, rfl, Nat.le_of_ble_eq_true rfl, Nat.le_of_ble_eq_true rfl⟩ hl.1 (Nat.le_of_ble_eq_true rfl) dX9_divide_105 ⟨Nat.le_of_ble_eq_true rfl, Nat.le_of_ble_eq_true rfl⟩) hS (fun x105 M105 H locs hp105 hW hS => ?_)
              obtain ⟨ex105, eM105⟩ := hp105
              rw [ex105]
              exact tm_zret hx hb hr hlk (by first | exact Or.inl rfl | exact Or.inr rfl | assumption) hK hW hS ⟨fq_tr f9 (by rw [eM105]; exact fq_sI (Or.inl ⟨rfl, by omega⟩)), Or.inr ⟨rfl, pl, fun g => (tp_dvG ex h42).trans (if_neg (fun q => tl_b_n.mp h100 q.2)), by rw [eM105]; exact tm_up_s _ _ _ _⟩⟩ dX9_divide_108
        · refine lv_aload_n hx hb dX9_divide_103 rfl (lv_at hl 2 rfl) ?_
          refine lv_iload_n hx hb dX9_divide_104 rfl (lv_at hl 3 rfl) ?_
          refine tm_calli (cs_X9_103 hx hb hml hown htw hK hW (by assumption) (c_X9_fails b0) ⟨rfl, rfl, Nat.le_of_ble_eq_true rfl, Nat.le_of_ble_eq_true rfl⟩ hl.1 (Nat.le_of_ble_eq_true rfl) dX9_divide_105 ⟨Nat.le_of_ble_eq_true rfl, Nat.le_of_ble_eq_true rfl⟩) hS (fun x105 M105 H locs hp105 hW hS => ?_)
          obtain ⟨ex105, eM105⟩ := hp105
          rw [ex105]
          exact tm_zret hx hb hr hlk (by first | exact Or.inl rfl | exact Or.inr rfl | assumption) hK hW hS ⟨fq_tr f9 (by rw [eM105]; exact fq_sI (Or.inl ⟨rfl, by omega⟩)), Or.inr ⟨rfl, pl, fun g => (tp_dvG ex h42).trans (if_neg (fun q => tl_b_n.mp h100 q.1)), by rw [eM105]; exact tm_up_s _ _ _ _⟩⟩ dX9_divide_108
    · refine lv_aload_n hx hb dX9_divide_45 rfl (lv_at hl 0 rfl) ?_
      refine lv_aload_n hx hb dX9_divide_46 rfl (lv_at hl 0 rfl) ?_
      refine gf_X9_97 hx hb htw hown hK hW (by assumption) dX9_divide_47 ?_
      refine tm_calli (cs_X9_103 hx hb hml hown htw hK hW (by assumption) (c_X9_fails b0) ⟨rfl, rfl, Nat.le_of_ble_eq_true rfl, Nat.le_of_ble_eq_true rfl⟩ hl.1 (Nat.le_of_ble_eq_true rfl) dX9_divide_50 ⟨Nat.le_of_ble_eq_true rfl, Nat.le_of_ble_eq_true rfl⟩) hS (fun x50 M50 H locs hp50 hW hS => ?_)
      obtain ⟨ex50, eM50⟩ := hp50
      rw [ex50]
      exact tm_zret hx hb hr hlk (by first | exact Or.inl rfl | exact Or.inr rfl | assumption) hK hW hS ⟨fq_tr f35 (by rw [eM50]; exact fq_sI (Or.inl ⟨rfl, by omega⟩)), Or.inr ⟨rfl, x.2.2, fun g => tp_dvZ ex h42, by rw [eM50]; exact (tm_up_s _ _ _ _).trans g23⟩⟩ dX9_divide_53
  · refine lv_aload_n hx hb dX9_divide_10 rfl (lv_at hl 0 rfl) ?_
    refine lv_aload_n hx hb dX9_divide_11 rfl (lv_at hl 0 rfl) ?_
    refine tm_calli (cs_X9_89 hx hb hml hown htw hK hW (by assumption) (c_X9_here R1) ⟨rfl, rfl, Nat.le_of_ble_eq_true rfl, Nat.le_of_ble_eq_true rfl⟩ hl.1 (Nat.le_of_ble_eq_true rfl) dX9_divide_12 ⟨Nat.le_of_ble_eq_true rfl, Nat.le_of_ble_eq_true rfl⟩) hS (fun x12 M12 H locs hp12 hW hS => ?_)
    obtain ⟨ex12, e12, n12⟩ := hp12
    rw [tp_nx_nx hp0] at e12 ex12
    have R12 := MS_m R1 n12 (fun j => by unfold p19; omega) (by unfold p19; omega) e12 q0.2
    have f12 := fq_tr f1 (fq_wd (Q := pD o lv) n12 (fun a k q => by unfold p19 at q; unfold pD; omega))
    rw [ex12]
    have nd := tl_b_0.mp h7
    refine ti_iconst hx hb dX9_divide_15 ?_
    refine ti_icmp_ne (tgt := 26) hx hb dX9_divide_16 (by decide) (by omega) (by decide) (fun h16 => ?_) (fun h16 => ?_)
    · refine lv_aload_n hx hb dX9_divide_26 rfl (lv_at hl 0 rfl) ?_
      refine gf_X9_76 hx hb htw hown hK hW (by assumption) dX9_divide_27 ?_
      refine tm_calli (cs_X9_103 hx hb hml hown htw hK hW (by assumption) (c_X9_fails b0) ⟨rfl, rfl, Nat.le_of_ble_eq_true rfl, Nat.le_of_ble_eq_true rfl⟩ hl.1 (Nat.le_of_ble_eq_true rfl) dX9_divide_30 ⟨Nat.le_of_ble_eq_true rfl, Nat.le_of_ble_eq_true rfl⟩) hS (fun x30 M30 H locs hp30 hW hS => ?_)
      obtain ⟨ex30, eM30⟩ := hp30
      rw [ex30]
      exact tm_zret hx hb hr hlk (by first | exact Or.inl rfl | exact Or.inr rfl | assumption) hK hW hS ⟨fq_tr f12 (by rw [eM30]; exact fq_sI (Or.inl ⟨rfl, by omega⟩)), Or.inr ⟨rfl, tp_nx t n p1, fun g => tp_dvN nd, by rw [eM30]; exact (tm_up_s _ _ _ _).trans (e12)⟩⟩ dX9_divide_33
    · refine lv_aload_n hx hb dX9_divide_19 rfl (lv_at hl 0 rfl) ?_
      refine gf_X9_79 hx hb htw hown hK hW (by assumption) dX9_divide_20 ?_
      refine lv_goto (tgt := 30) hx hb dX9_divide_23 (by decide) ?_
      refine tm_calli (cs_X9_103 hx hb hml hown htw hK hW (by assumption) (c_X9_fails b0) ⟨rfl, rfl, Nat.le_of_ble_eq_true rfl, Nat.le_of_ble_eq_true rfl⟩ hl.1 (Nat.le_of_ble_eq_true rfl) dX9_divide_30 ⟨Nat.le_of_ble_eq_true rfl, Nat.le_of_ble_eq_true rfl⟩) hS (fun x30 M30 H locs hp30 hW hS => ?_)
      obtain ⟨ex30, eM30⟩ := hp30
      rw [ex30]
      exact tm_zret hx hb hr hlk (by first | exact Or.inl rfl | exact Or.inr rfl | assumption) hK hW hS ⟨fq_tr f12 (by rw [eM30]; exact fq_sI (Or.inl ⟨rfl, by omega⟩)), Or.inr ⟨rfl, tp_nx t n p1, fun g => tp_dvN nd, by rw [eM30]; exact (tm_up_s _ _ _ _).trans (by rw [R12.2.2.1, ← tl_end h16 q0.2 (MS_t hR)])⟩⟩ dX9_divide_33
