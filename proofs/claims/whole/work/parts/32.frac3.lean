/-! Fraction.compareWith (by program: wip/whole/gen/frac3.py) -/
theorem tl_md (p q : Int) : p - p / q * q = p % q := by rw [Int.emod_def, Int.mul_comm]
theorem tl_fin0 {a b c d g C : Int} (hb : 0 < b) (hd : 0 < d) (ha : 0 ≤ a) (hc : 0 ≤ c) (h : a = 0 ∨ c = 0) (hC : g * tl_cmp a b c d = C) : g * (if a < c then -1 else if a = c then 0 else 1) = C := by
  rw [← hC]
  congr 1
  by_cases z : a = 0
  · subst z
    by_cases z2 : c = 0
    · subst z2
      rw [tl_cmp_00]
      rfl
    · rw [tl_cmp_0p hb (by omega), if_pos (by omega)]
  · have z2 : c = 0 := by omega
    subst z2
    rw [tl_cmp_p0 hd (by omega), if_neg (by omega), if_neg z]
theorem tl_cw1 {p q : Int} {k : Nat} (hq : 0 < q) (hqp : q ≤ p) (h : p.natAbs * q.natAbs < 2 ^ (k + 1)) : q.natAbs * (p % q).natAbs < 2 ^ k := by
  have e : (p % q).natAbs = p.natAbs % q.natAbs := by
    obtain ⟨a, rfl⟩ := Int.eq_ofNat_of_zero_le (show 0 ≤ p by omega)
    obtain ⟨b, rfl⟩ := Int.eq_ofNat_of_zero_le (show 0 ≤ q by omega)
    rfl
  rw [e]
  exact tl_half (by omega) (by omega) h
theorem tl_cw2 {p q r s g C : Int} (h : p / q = r / s) (hc : g * tl_cmp p q r s = C) : -g * tl_cmp q (p % q) s (r % s) = C := by
  rw [← hc, tl_cmp_mod h, tl_cmp_inv (p % q) q (r % s) s, tl_cmp_neg q (p % q) s (r % s), Int.neg_mul, Int.mul_neg]
theorem dX0_compareWith_0 : decode cX0_compareWith 0 = .ok (.aload_n 0, 1) := by decide +kernel
theorem dX0_compareWith_1 : decode cX0_compareWith 1 = .ok (.getfield 17, 3) := by decide +kernel
theorem dX0_compareWith_4 : decode cX0_compareWith 4 = .ok (.lstore_n 2, 1) := by decide +kernel
theorem dX0_compareWith_5 : decode cX0_compareWith 5 = .ok (.aload_n 0, 1) := by decide +kernel
theorem dX0_compareWith_6 : decode cX0_compareWith 6 = .ok (.getfield 7, 3) := by decide +kernel
theorem dX0_compareWith_9 : decode cX0_compareWith 9 = .ok (.lstore 4, 2) := by decide +kernel
theorem dX0_compareWith_11 : decode cX0_compareWith 11 = .ok (.aload_n 1, 1) := by decide +kernel
theorem dX0_compareWith_12 : decode cX0_compareWith 12 = .ok (.getfield 17, 3) := by decide +kernel
theorem dX0_compareWith_15 : decode cX0_compareWith 15 = .ok (.lstore 6, 2) := by decide +kernel
theorem dX0_compareWith_17 : decode cX0_compareWith 17 = .ok (.aload_n 1, 1) := by decide +kernel
theorem dX0_compareWith_18 : decode cX0_compareWith 18 = .ok (.getfield 7, 3) := by decide +kernel
theorem dX0_compareWith_21 : decode cX0_compareWith 21 = .ok (.lstore 8, 2) := by decide +kernel
theorem dX0_compareWith_23 : decode cX0_compareWith 23 = .ok (.iconst 1, 1) := by decide +kernel
theorem dX0_compareWith_24 : decode cX0_compareWith 24 = .ok (.istore 10, 2) := by decide +kernel
theorem dX0_compareWith_26 : decode cX0_compareWith 26 = .ok (.iconst 0, 1) := by decide +kernel
theorem dX0_compareWith_27 : decode cX0_compareWith 27 = .ok (.istore 11, 2) := by decide +kernel
theorem dX0_compareWith_29 : decode cX0_compareWith 29 = .ok (.iload 11, 2) := by decide +kernel
theorem dX0_compareWith_31 : decode cX0_compareWith 31 = .ok (.sipush 200, 3) := by decide +kernel
theorem dX0_compareWith_34 : decode cX0_compareWith 34 = .ok (.if_icmp .ge 129, 3) := by decide +kernel
theorem dX0_compareWith_37 : decode cX0_compareWith 37 = .ok (.lload 4, 2) := by decide +kernel
theorem dX0_compareWith_39 : decode cX0_compareWith 39 = .ok (.lconst 0, 1) := by decide +kernel
theorem dX0_compareWith_40 : decode cX0_compareWith 40 = .ok (.lcmp, 1) := by decide +kernel
theorem dX0_compareWith_41 : decode cX0_compareWith 41 = .ok (.ifCond .le 122, 3) := by decide +kernel
theorem dX0_compareWith_44 : decode cX0_compareWith 44 = .ok (.lload 8, 2) := by decide +kernel
theorem dX0_compareWith_46 : decode cX0_compareWith 46 = .ok (.lconst 0, 1) := by decide +kernel
theorem dX0_compareWith_47 : decode cX0_compareWith 47 = .ok (.lcmp, 1) := by decide +kernel
theorem dX0_compareWith_48 : decode cX0_compareWith 48 = .ok (.ifCond .le 115, 3) := by decide +kernel
theorem dX0_compareWith_51 : decode cX0_compareWith 51 = .ok (.lload_n 2, 1) := by decide +kernel
theorem dX0_compareWith_52 : decode cX0_compareWith 52 = .ok (.lload 4, 2) := by decide +kernel
theorem dX0_compareWith_54 : decode cX0_compareWith 54 = .ok (.invokestatic 28, 3) := by decide +kernel
theorem dX0_compareWith_57 : decode cX0_compareWith 57 = .ok (.lstore 12, 2) := by decide +kernel
theorem dX0_compareWith_59 : decode cX0_compareWith 59 = .ok (.lload 6, 2) := by decide +kernel
theorem dX0_compareWith_61 : decode cX0_compareWith 61 = .ok (.lload 8, 2) := by decide +kernel
theorem dX0_compareWith_63 : decode cX0_compareWith 63 = .ok (.invokestatic 28, 3) := by decide +kernel
theorem dX0_compareWith_66 : decode cX0_compareWith 66 = .ok (.lstore 14, 2) := by decide +kernel
theorem dX0_compareWith_68 : decode cX0_compareWith 68 = .ok (.lload 12, 2) := by decide +kernel
theorem dX0_compareWith_70 : decode cX0_compareWith 70 = .ok (.lload 14, 2) := by decide +kernel
theorem dX0_compareWith_72 : decode cX0_compareWith 72 = .ok (.lcmp, 1) := by decide +kernel
theorem dX0_compareWith_73 : decode cX0_compareWith 73 = .ok (.ifCond .eq 20, 3) := by decide +kernel
theorem dX0_compareWith_76 : decode cX0_compareWith 76 = .ok (.lload 12, 2) := by decide +kernel
theorem dX0_compareWith_78 : decode cX0_compareWith 78 = .ok (.lload 14, 2) := by decide +kernel
theorem dX0_compareWith_80 : decode cX0_compareWith 80 = .ok (.lcmp, 1) := by decide +kernel
theorem dX0_compareWith_81 : decode cX0_compareWith 81 = .ok (.ifCond .ge 9, 3) := by decide +kernel
theorem dX0_compareWith_84 : decode cX0_compareWith 84 = .ok (.iload 10, 2) := by decide +kernel
theorem dX0_compareWith_86 : decode cX0_compareWith 86 = .ok (.ineg, 1) := by decide +kernel
theorem dX0_compareWith_87 : decode cX0_compareWith 87 = .ok (.goto 5, 3) := by decide +kernel
theorem dX0_compareWith_90 : decode cX0_compareWith 90 = .ok (.iload 10, 2) := by decide +kernel
theorem dX0_compareWith_92 : decode cX0_compareWith 92 = .ok (.ireturn, 1) := by decide +kernel
theorem dX0_compareWith_93 : decode cX0_compareWith 93 = .ok (.lload_n 2, 1) := by decide +kernel
theorem dX0_compareWith_94 : decode cX0_compareWith 94 = .ok (.lload 12, 2) := by decide +kernel
theorem dX0_compareWith_96 : decode cX0_compareWith 96 = .ok (.lload 4, 2) := by decide +kernel
theorem dX0_compareWith_98 : decode cX0_compareWith 98 = .ok (.lmul, 1) := by decide +kernel
theorem dX0_compareWith_99 : decode cX0_compareWith 99 = .ok (.lsub, 1) := by decide +kernel
theorem dX0_compareWith_100 : decode cX0_compareWith 100 = .ok (.lstore 16, 2) := by decide +kernel
theorem dX0_compareWith_102 : decode cX0_compareWith 102 = .ok (.lload 6, 2) := by decide +kernel
theorem dX0_compareWith_104 : decode cX0_compareWith 104 = .ok (.lload 14, 2) := by decide +kernel
theorem dX0_compareWith_106 : decode cX0_compareWith 106 = .ok (.lload 8, 2) := by decide +kernel
theorem dX0_compareWith_108 : decode cX0_compareWith 108 = .ok (.lmul, 1) := by decide +kernel
theorem dX0_compareWith_109 : decode cX0_compareWith 109 = .ok (.lsub, 1) := by decide +kernel
theorem dX0_compareWith_110 : decode cX0_compareWith 110 = .ok (.lstore 18, 2) := by decide +kernel
theorem dX0_compareWith_112 : decode cX0_compareWith 112 = .ok (.lload 16, 2) := by decide +kernel
theorem dX0_compareWith_114 : decode cX0_compareWith 114 = .ok (.lconst 0, 1) := by decide +kernel
theorem dX0_compareWith_115 : decode cX0_compareWith 115 = .ok (.lcmp, 1) := by decide +kernel
theorem dX0_compareWith_116 : decode cX0_compareWith 116 = .ok (.ifCond .eq 10, 3) := by decide +kernel
theorem dX0_compareWith_119 : decode cX0_compareWith 119 = .ok (.lload 18, 2) := by decide +kernel
theorem dX0_compareWith_121 : decode cX0_compareWith 121 = .ok (.lconst 0, 1) := by decide +kernel
theorem dX0_compareWith_122 : decode cX0_compareWith 122 = .ok (.lcmp, 1) := by decide +kernel
theorem dX0_compareWith_123 : decode cX0_compareWith 123 = .ok (.ifCond .ne 14, 3) := by decide +kernel
theorem dX0_compareWith_126 : decode cX0_compareWith 126 = .ok (.iload 10, 2) := by decide +kernel
theorem dX0_compareWith_128 : decode cX0_compareWith 128 = .ok (.lload 16, 2) := by decide +kernel
theorem dX0_compareWith_130 : decode cX0_compareWith 130 = .ok (.lload 18, 2) := by decide +kernel
theorem dX0_compareWith_132 : decode cX0_compareWith 132 = .ok (.invokestatic 34, 3) := by decide +kernel
theorem dX0_compareWith_135 : decode cX0_compareWith 135 = .ok (.imul, 1) := by decide +kernel
theorem dX0_compareWith_136 : decode cX0_compareWith 136 = .ok (.ireturn, 1) := by decide +kernel
theorem dX0_compareWith_137 : decode cX0_compareWith 137 = .ok (.lload 4, 2) := by decide +kernel
theorem dX0_compareWith_139 : decode cX0_compareWith 139 = .ok (.lstore_n 2, 1) := by decide +kernel
theorem dX0_compareWith_140 : decode cX0_compareWith 140 = .ok (.lload 16, 2) := by decide +kernel
theorem dX0_compareWith_142 : decode cX0_compareWith 142 = .ok (.lstore 4, 2) := by decide +kernel
theorem dX0_compareWith_144 : decode cX0_compareWith 144 = .ok (.lload 8, 2) := by decide +kernel
theorem dX0_compareWith_146 : decode cX0_compareWith 146 = .ok (.lstore 6, 2) := by decide +kernel
theorem dX0_compareWith_148 : decode cX0_compareWith 148 = .ok (.lload 18, 2) := by decide +kernel
theorem dX0_compareWith_150 : decode cX0_compareWith 150 = .ok (.lstore 8, 2) := by decide +kernel
theorem dX0_compareWith_152 : decode cX0_compareWith 152 = .ok (.iload 10, 2) := by decide +kernel
theorem dX0_compareWith_154 : decode cX0_compareWith 154 = .ok (.ineg, 1) := by decide +kernel
theorem dX0_compareWith_155 : decode cX0_compareWith 155 = .ok (.istore 10, 2) := by decide +kernel
theorem dX0_compareWith_157 : decode cX0_compareWith 157 = .ok (.iinc 11 1, 3) := by decide +kernel
theorem dX0_compareWith_160 : decode cX0_compareWith 160 = .ok (.goto (-131), 3) := by decide +kernel
theorem dX0_compareWith_163 : decode cX0_compareWith 163 = .ok (.iconst 0, 1) := by decide +kernel
theorem dX0_compareWith_164 : decode cX0_compareWith 164 = .ok (.ireturn, 1) := by decide +kernel
set_option maxHeartbeats 4000000 in
set_option maxRecDepth 100000 in
/-- compareWith: -1, 0, 1 -/
theorem c_X0_compareWith {l : Launch} {G : tm_G} {Hb : Heap} {sh : tm_sh} {M : tm_M} {q o : Nat} (h0 : sh q = some (2, 0)) (h1 : sh o = some (2, 0)) (hq0 : (mL M q 0).natAbs ≤ 4611686018427387904) (hq1 : 0 < mL M q 1 ∧ mL M q 1 ≤ 4611686018427387904) (ho0 : (mL M o 0).natAbs ≤ 4611686018427387904) (ho1 : 0 < mL M o 1 ∧ mL M o 1 ≤ 4611686018427387904) : Met l yX0_compareWith (tws yX0_compareWith cX0_compareWith 20 (some .int)) ({ frames := 1, cells := 0, slots := 0, locals := 25 }) (va_Pc [.ref q, .ref o] (tm_St G Hb sh M)) (tm_Qi G Hb sh (fun x M1 => x = tl_cmp (mL M q 0) (mL M q 1) (mL M o 0) (mL M o 1) ∧ M1 = M)) 0 0 (tm_A Hb) := by
  refine tm_begin (by decide) (Nat.le_of_ble_eq_true rfl) (fun p e s m below meth c ls hx hb hr hml hown htw hlk hnm hK hW hl => ?_)
  have hS : va_S (tm_A Hb) s.heap s.heap [] := va_S.rf
  have hl : lv_has ls 20 [(0, .ref q), (1, .ref o)] := hl
  have loop : ∀ (k : Nat) (n p1 q1 r1 s1 g : Int) (ls : Array Slot), 0 ≤ n → n + k ≤ 199 → 0 < q1 → q1 ≤ p1 → p1 ≤ 4611686018427387904 → 0 < s1 → s1 ≤ 4611686018427387904 → r1.natAbs ≤ 4611686018427387904 → p1.natAbs * q1.natAbs < 2 ^ k → (g = 1 ∨ g = -1) → g * tl_cmp p1 q1 r1 s1 = tl_cmp (mL M q 0) (mL M q 1) (mL M o 0) (mL M o 1) → ∀ (H : Heap) (locs : List Loc), tm_W G Hb sh M H → va_S (tm_A Hb) s.heap H locs → lv_has ls 20 [(0, .ref q), (1, .ref o), (2, jl p1), (4, jl q1), (6, jl r1), (8, jl s1), (10, ji g), (11, ji n)] → W p l e ({ frames := 1, cells := 0, slots := 0, locals := 25 }) s m [.ref q, .ref o].toArray below meth c H locs 0 0 (MQ below (tm_Qi G Hb sh (fun x M1 => x = tl_cmp (mL M q 0) (mL M q 1) (mL M o 0) (mL M o 1) ∧ M1 = M)) [.ref q, .ref o].toArray s 0 0 (tm_A Hb)) (F0 m 29 ls []) := by
    intro k
    induction k with
    | zero =>
      intro n p1 q1 r1 s1 g ls hn hk hq hqp hp hs hsB hrB hpr hg hc H locs hW hS hl
      have := Nat.mul_le_mul (show 1 ≤ p1.natAbs by omega) (show 1 ≤ q1.natAbs by omega)
      omega
    | succ k ih =>
      intro n p1 q1 r1 s1 g ls hn hk hq hqp hp hs hsB hrB hpr hg hc H locs hW hS hl
      have f1 := Int.natAbs_ediv_le_natAbs p1 q1
      have f2 := Int.natAbs_ediv_le_natAbs r1 s1
      have f3 := Int.emod_nonneg p1 (show q1 ≠ 0 by omega)
      have f4 := Int.emod_lt_of_pos p1 hq
      have f5 := Int.emod_nonneg r1 (show s1 ≠ 0 by omega)
      have f6 := Int.emod_lt_of_pos r1 hs
      refine lv_iload hx hb dX0_compareWith_29 (lv_at hl 7 rfl) ?_
      refine ti_sipush hx hb dX0_compareWith_31 (by decide) ?_
      refine ti_icmp_ge (tgt := 163) hx hb dX0_compareWith_34 (by decide) (by omega) (by omega) (fun h34 => ?_) (fun h34 => ?_)
      · exact absurd h34 (by omega)
      · refine lv_lload hx hb dX0_compareWith_37 (lv_at hl 3 rfl) ?_
        refine ti_lconst0 hx hb dX0_compareWith_39 ?_
        refine ti_lcmp_le (tgt := 163) hx hb dX0_compareWith_40 dX0_compareWith_41 (by decide) (by omega) (by omega) (fun h40 => ?_) (fun h40 => ?_)
        · exact absurd h40 (by omega)
        · refine lv_lload hx hb dX0_compareWith_44 (lv_at hl 5 rfl) ?_
          refine ti_lconst0 hx hb dX0_compareWith_46 ?_
          refine ti_lcmp_le (tgt := 163) hx hb dX0_compareWith_47 dX0_compareWith_48 (by decide) (by omega) (by omega) (fun h47 => ?_) (fun h47 => ?_)
          · exact absurd h47 (by omega)
          · refine lv_lload_n hx hb dX0_compareWith_51 rfl (lv_at hl 2 rfl) ?_
            refine lv_lload hx hb dX0_compareWith_52 (lv_at hl 3 rfl) ?_
            refine tm_calll (cs_X0_28 hx hb hml hown htw hK hW (c_J9_floorDiv hq (by omega) (by omega)) ⟨rfl, rfl, Nat.le_of_ble_eq_true rfl, Nat.le_of_ble_eq_true rfl⟩ hl.1 (Nat.le_of_ble_eq_true rfl) dX0_compareWith_54 ⟨Nat.le_of_ble_eq_true rfl, Nat.le_of_ble_eq_true rfl⟩) hS (fun x54 M54 H locs hp54 hW hS => ?_)
            obtain ⟨ex54, eM54⟩ := hp54
            rw [eM54] at hW
            rw [ex54]
            refine lv_lstore (lv' := [(12, _), (0, _), (1, _), (2, _), (4, _), (6, _), (8, _), (10, _), (11, _)]) hx hb dX0_compareWith_57 hl (by decide) rfl (fun ls hl => ?_)
            refine lv_lload hx hb dX0_compareWith_59 (lv_at hl 5 rfl) ?_
            refine lv_lload hx hb dX0_compareWith_61 (lv_at hl 6 rfl) ?_
            refine tm_calll (cs_X0_28 hx hb hml hown htw hK hW (c_J9_floorDiv hs (by omega) (by omega)) ⟨rfl, rfl, Nat.le_of_ble_eq_true rfl, Nat.le_of_ble_eq_true rfl⟩ hl.1 (Nat.le_of_ble_eq_true rfl) dX0_compareWith_63 ⟨Nat.le_of_ble_eq_true rfl, Nat.le_of_ble_eq_true rfl⟩) hS (fun x63 M63 H locs hp63 hW hS => ?_)
            obtain ⟨ex63, eM63⟩ := hp63
            rw [eM63] at hW
            rw [ex63]
            refine lv_lstore (lv' := [(14, _), (12, _), (0, _), (1, _), (2, _), (4, _), (6, _), (8, _), (10, _), (11, _)]) hx hb dX0_compareWith_66 hl (by decide) rfl (fun ls hl => ?_)
            refine lv_lload hx hb dX0_compareWith_68 (lv_at hl 1 rfl) ?_
            refine lv_lload hx hb dX0_compareWith_70 (lv_at hl 0 rfl) ?_
            refine ti_lcmp_eq (tgt := 93) hx hb dX0_compareWith_72 dX0_compareWith_73 (by decide) (by omega) (by omega) (fun h72 => ?_) (fun h72 => ?_)
            · refine lv_lload_n hx hb dX0_compareWith_93 rfl (lv_at hl 4 rfl) ?_
              refine lv_lload hx hb dX0_compareWith_94 (lv_at hl 1 rfl) ?_
              refine lv_lload hx hb dX0_compareWith_96 (lv_at hl 5 rfl) ?_
              refine ti_lmul hx hb dX0_compareWith_98 ?_
              refine ti_lsub hx hb dX0_compareWith_99 ?_
              rw [tl_md]
              refine lv_lstore (lv' := [(16, _), (14, _), (12, _), (0, _), (1, _), (2, _), (4, _), (6, _), (8, _), (10, _), (11, _)]) hx hb dX0_compareWith_100 hl (by decide) rfl (fun ls hl => ?_)
              refine lv_lload hx hb dX0_compareWith_102 (lv_at hl 7 rfl) ?_
              refine lv_lload hx hb dX0_compareWith_104 (lv_at hl 1 rfl) ?_
              refine lv_lload hx hb dX0_compareWith_106 (lv_at hl 8 rfl) ?_
              refine ti_lmul hx hb dX0_compareWith_108 ?_
              refine ti_lsub hx hb dX0_compareWith_109 ?_
              rw [tl_md]
              refine lv_lstore (lv' := [(18, _), (16, _), (14, _), (12, _), (0, _), (1, _), (2, _), (4, _), (6, _), (8, _), (10, _), (11, _)]) hx hb dX0_compareWith_110 hl (by decide) rfl (fun ls hl => ?_)
              refine lv_lload hx hb dX0_compareWith_112 (lv_at hl 1 rfl) ?_
              refine ti_lconst0 hx hb dX0_compareWith_114 ?_
              refine ti_lcmp_eq (tgt := 126) hx hb dX0_compareWith_115 dX0_compareWith_116 (by decide) (by omega) (by omega) (fun h115 => ?_) (fun h115 => ?_)
              · refine lv_iload hx hb dX0_compareWith_126 (lv_at hl 10 rfl) ?_
                refine lv_lload hx hb dX0_compareWith_128 (lv_at hl 1 rfl) ?_
                refine lv_lload hx hb dX0_compareWith_130 (lv_at hl 0 rfl) ?_
                refine tm_calli (cs_X0_34 hx hb hml hown htw hK hW (c_J13_compare (by omega) (by omega)) ⟨rfl, rfl, Nat.le_of_ble_eq_true rfl, Nat.le_of_ble_eq_true rfl⟩ hl.1 (Nat.le_of_ble_eq_true rfl) dX0_compareWith_132 ⟨Nat.le_of_ble_eq_true rfl, Nat.le_of_ble_eq_true rfl⟩) hS (fun x132 M132 H locs hp132 hW hS => ?_)
                obtain ⟨ex132, eM132⟩ := hp132
                rw [eM132] at hW
                rw [ex132]
                refine ti_imul hx hb dX0_compareWith_135 ?_
                exact tm_iret hx hb hr hlk hK hW hS ⟨tl_fin0 hq hs f3 f5 (by omega) (by rw [← tl_cmp_mod h72]; exact hc), rfl⟩ dX0_compareWith_136
              · refine lv_lload hx hb dX0_compareWith_119 (lv_at hl 0 rfl) ?_
                refine ti_lconst0 hx hb dX0_compareWith_121 ?_
                refine ti_lcmp_ne (tgt := 137) hx hb dX0_compareWith_122 dX0_compareWith_123 (by decide) (by omega) (by omega) (fun h122 => ?_) (fun h122 => ?_)
                · refine lv_lload hx hb dX0_compareWith_137 (lv_at hl 7 rfl) ?_
                  refine lv_lstore_n (lv' := [(2, _), (18, _), (16, _), (14, _), (12, _), (0, _), (1, _), (4, _), (6, _), (8, _), (10, _), (11, _)]) hx hb dX0_compareWith_139 rfl hl (by decide) rfl (fun ls hl => ?_)
                  refine lv_lload hx hb dX0_compareWith_140 (lv_at hl 2 rfl) ?_
                  refine lv_lstore (lv' := [(4, _), (2, _), (18, _), (16, _), (14, _), (12, _), (0, _), (1, _), (6, _), (8, _), (10, _), (11, _)]) hx hb dX0_compareWith_142 hl (by decide) rfl (fun ls hl => ?_)
                  refine lv_lload hx hb dX0_compareWith_144 (lv_at hl 9 rfl) ?_
                  refine lv_lstore (lv' := [(6, _), (4, _), (2, _), (18, _), (16, _), (14, _), (12, _), (0, _), (1, _), (8, _), (10, _), (11, _)]) hx hb dX0_compareWith_146 hl (by decide) rfl (fun ls hl => ?_)
                  refine lv_lload hx hb dX0_compareWith_148 (lv_at hl 3 rfl) ?_
                  refine lv_lstore (lv' := [(8, _), (6, _), (4, _), (2, _), (18, _), (16, _), (14, _), (12, _), (0, _), (1, _), (10, _), (11, _)]) hx hb dX0_compareWith_150 hl (by decide) rfl (fun ls hl => ?_)
                  refine lv_iload hx hb dX0_compareWith_152 (lv_at hl 10 rfl) ?_
                  refine ti_ineg hx hb dX0_compareWith_154 ?_
                  refine lv_istore (lv' := [(10, _), (8, _), (6, _), (4, _), (2, _), (18, _), (16, _), (14, _), (12, _), (0, _), (1, _), (11, _)]) hx hb dX0_compareWith_155 hl (by decide) rfl (fun ls hl => ?_)
                  refine ti_iinc (k := 11) (lv' := [(11, _), (10, _), (8, _), (6, _), (4, _), (2, _), (18, _), (16, _), (14, _), (12, _), (0, _), (1, _)]) hx hb dX0_compareWith_157 hl rfl (by decide) rfl (fun ls hl => ?_)
                  refine lv_goto (tgt := 29) hx hb dX0_compareWith_160 (by decide) ?_
                  exact ih (n + 1) q1 (p1 % q1) s1 (r1 % s1) (-g) ls (by omega) (by omega) (by omega) (by omega) (by omega) (by omega) (by omega) (by omega) (tl_cw1 hq hqp hpr) (by omega) (tl_cw2 h72 hc) _ _ hW hS (lv_sub hl [10, 11, 5, 4, 3, 2, 1, 0] rfl)
                · refine lv_iload hx hb dX0_compareWith_126 (lv_at hl 10 rfl) ?_
                  refine lv_lload hx hb dX0_compareWith_128 (lv_at hl 1 rfl) ?_
                  refine lv_lload hx hb dX0_compareWith_130 (lv_at hl 0 rfl) ?_
                  refine tm_calli (cs_X0_34 hx hb hml hown htw hK hW (c_J13_compare (by omega) (by omega)) ⟨rfl, rfl, Nat.le_of_ble_eq_true rfl, Nat.le_of_ble_eq_true rfl⟩ hl.1 (Nat.le_of_ble_eq_true rfl) dX0_compareWith_132 ⟨Nat.le_of_ble_eq_true rfl, Nat.le_of_ble_eq_true rfl⟩) hS (fun x132 M132 H locs hp132 hW hS => ?_)
                  obtain ⟨ex132, eM132⟩ := hp132
                  rw [eM132] at hW
                  rw [ex132]
                  refine ti_imul hx hb dX0_compareWith_135 ?_
                  exact tm_iret hx hb hr hlk hK hW hS ⟨tl_fin0 hq hs f3 f5 (by omega) (by rw [← tl_cmp_mod h72]; exact hc), rfl⟩ dX0_compareWith_136
            · refine lv_lload hx hb dX0_compareWith_76 (lv_at hl 1 rfl) ?_
              refine lv_lload hx hb dX0_compareWith_78 (lv_at hl 0 rfl) ?_
              refine ti_lcmp_ge (tgt := 90) hx hb dX0_compareWith_80 dX0_compareWith_81 (by decide) (by omega) (by omega) (fun h80 => ?_) (fun h80 => ?_)
              · refine lv_iload hx hb dX0_compareWith_90 (lv_at hl 8 rfl) ?_
                exact tm_iret hx hb hr hlk hK hW hS ⟨by first | (rw [tl_cmp_lt hq hs (by omega)] at hc; omega) | (rw [tl_cmp_gt hq hs (by omega)] at hc; omega), rfl⟩ dX0_compareWith_92
              · refine lv_iload hx hb dX0_compareWith_84 (lv_at hl 8 rfl) ?_
                refine ti_ineg hx hb dX0_compareWith_86 ?_
                refine lv_goto (tgt := 92) hx hb dX0_compareWith_87 (by decide) ?_
                exact tm_iret hx hb hr hlk hK hW hS ⟨by first | (rw [tl_cmp_lt hq hs (by omega)] at hc; omega) | (rw [tl_cmp_gt hq hs (by omega)] at hc; omega), rfl⟩ dX0_compareWith_92
  refine lv_aload_n hx hb dX0_compareWith_0 rfl (lv_at hl 0 rfl) ?_
  refine gf_X0_17 hx hb htw hown hK hW (by assumption) dX0_compareWith_1 ?_
  refine lv_lstore_n (lv' := [(2, _), (0, _), (1, _)]) hx hb dX0_compareWith_4 rfl hl (by decide) rfl (fun ls hl => ?_)
  refine lv_aload_n hx hb dX0_compareWith_5 rfl (lv_at hl 1 rfl) ?_
  refine gf_X0_7 hx hb htw hown hK hW (by assumption) dX0_compareWith_6 ?_
  refine lv_lstore (lv' := [(4, _), (2, _), (0, _), (1, _)]) hx hb dX0_compareWith_9 hl (by decide) rfl (fun ls hl => ?_)
  refine lv_aload_n hx hb dX0_compareWith_11 rfl (lv_at hl 3 rfl) ?_
  refine gf_X0_17 hx hb htw hown hK hW (by assumption) dX0_compareWith_12 ?_
  refine lv_lstore (lv' := [(6, _), (4, _), (2, _), (0, _), (1, _)]) hx hb dX0_compareWith_15 hl (by decide) rfl (fun ls hl => ?_)
  refine lv_aload_n hx hb dX0_compareWith_17 rfl (lv_at hl 4 rfl) ?_
  refine gf_X0_7 hx hb htw hown hK hW (by assumption) dX0_compareWith_18 ?_
  refine lv_lstore (lv' := [(8, _), (6, _), (4, _), (2, _), (0, _), (1, _)]) hx hb dX0_compareWith_21 hl (by decide) rfl (fun ls hl => ?_)
  refine ti_iconst hx hb dX0_compareWith_23 ?_
  refine lv_istore (lv' := [(10, _), (8, _), (6, _), (4, _), (2, _), (0, _), (1, _)]) hx hb dX0_compareWith_24 hl (by decide) rfl (fun ls hl => ?_)
  refine ti_iconst hx hb dX0_compareWith_26 ?_
  refine lv_istore (lv' := [(11, _), (10, _), (8, _), (6, _), (4, _), (2, _), (0, _), (1, _)]) hx hb dX0_compareWith_27 hl (by decide) rfl (fun ls hl => ?_)
  have f1 := Int.natAbs_ediv_le_natAbs (mL M q 0) (mL M q 1)
  have f2 := Int.natAbs_ediv_le_natAbs (mL M o 0) (mL M o 1)
  have f3 := Int.emod_nonneg (mL M q 0) (show (mL M q 1) ≠ 0 by omega)
  have f5 := Int.emod_nonneg (mL M o 0) (show (mL M o 1) ≠ 0 by omega)
  have f4 := Int.emod_lt_of_pos (mL M q 0) hq1.1
  have f6 := Int.emod_lt_of_pos (mL M o 0) ho1.1
  refine lv_iload hx hb dX0_compareWith_29 (lv_at hl 0 rfl) ?_
  refine ti_sipush hx hb dX0_compareWith_31 (by decide) ?_
  refine ti_icmp_ge (tgt := 163) hx hb dX0_compareWith_34 (by decide) (by omega) (by omega) (fun h34 => ?_) (fun h34 => ?_)
  · exact absurd h34 (by omega)
  · refine lv_lload hx hb dX0_compareWith_37 (lv_at hl 4 rfl) ?_
    refine ti_lconst0 hx hb dX0_compareWith_39 ?_
    refine ti_lcmp_le (tgt := 163) hx hb dX0_compareWith_40 dX0_compareWith_41 (by decide) (by omega) (by omega) (fun h40 => ?_) (fun h40 => ?_)
    · exact absurd h40 (by omega)
    · refine lv_lload hx hb dX0_compareWith_44 (lv_at hl 2 rfl) ?_
      refine ti_lconst0 hx hb dX0_compareWith_46 ?_
      refine ti_lcmp_le (tgt := 163) hx hb dX0_compareWith_47 dX0_compareWith_48 (by decide) (by omega) (by omega) (fun h47 => ?_) (fun h47 => ?_)
      · exact absurd h47 (by omega)
      · refine lv_lload_n hx hb dX0_compareWith_51 rfl (lv_at hl 5 rfl) ?_
        refine lv_lload hx hb dX0_compareWith_52 (lv_at hl 4 rfl) ?_
        refine tm_calll (cs_X0_28 hx hb hml hown htw hK hW (c_J9_floorDiv hq1.1 (by omega) (by omega)) ⟨rfl, rfl, Nat.le_of_ble_eq_true rfl, Nat.le_of_ble_eq_true rfl⟩ hl.1 (Nat.le_of_ble_eq_true rfl) dX0_compareWith_54 ⟨Nat.le_of_ble_eq_true rfl, Nat.le_of_ble_eq_true rfl⟩) hS (fun x54 M54 H locs hp54 hW hS => ?_)
        obtain ⟨ex54, eM54⟩ := hp54
        rw [eM54] at hW
        rw [ex54]
        refine lv_lstore (lv' := [(12, _), (11, _), (10, _), (8, _), (6, _), (4, _), (2, _), (0, _), (1, _)]) hx hb dX0_compareWith_57 hl (by decide) rfl (fun ls hl => ?_)
        refine lv_lload hx hb dX0_compareWith_59 (lv_at hl 4 rfl) ?_
        refine lv_lload hx hb dX0_compareWith_61 (lv_at hl 3 rfl) ?_
        refine tm_calll (cs_X0_28 hx hb hml hown htw hK hW (c_J9_floorDiv ho1.1 (by omega) (by omega)) ⟨rfl, rfl, Nat.le_of_ble_eq_true rfl, Nat.le_of_ble_eq_true rfl⟩ hl.1 (Nat.le_of_ble_eq_true rfl) dX0_compareWith_63 ⟨Nat.le_of_ble_eq_true rfl, Nat.le_of_ble_eq_true rfl⟩) hS (fun x63 M63 H locs hp63 hW hS => ?_)
        obtain ⟨ex63, eM63⟩ := hp63
        rw [eM63] at hW
        rw [ex63]
        refine lv_lstore (lv' := [(14, _), (12, _), (11, _), (10, _), (8, _), (6, _), (4, _), (2, _), (0, _), (1, _)]) hx hb dX0_compareWith_66 hl (by decide) rfl (fun ls hl => ?_)
        refine lv_lload hx hb dX0_compareWith_68 (lv_at hl 1 rfl) ?_
        refine lv_lload hx hb dX0_compareWith_70 (lv_at hl 0 rfl) ?_
        refine ti_lcmp_eq (tgt := 93) hx hb dX0_compareWith_72 dX0_compareWith_73 (by decide) (by omega) (by omega) (fun h72 => ?_) (fun h72 => ?_)
        · refine lv_lload_n hx hb dX0_compareWith_93 rfl (lv_at hl 7 rfl) ?_
          refine lv_lload hx hb dX0_compareWith_94 (lv_at hl 1 rfl) ?_
          refine lv_lload hx hb dX0_compareWith_96 (lv_at hl 6 rfl) ?_
          refine ti_lmul hx hb dX0_compareWith_98 ?_
          refine ti_lsub hx hb dX0_compareWith_99 ?_
          rw [tl_md]
          refine lv_lstore (lv' := [(16, _), (14, _), (12, _), (11, _), (10, _), (8, _), (6, _), (4, _), (2, _), (0, _), (1, _)]) hx hb dX0_compareWith_100 hl (by decide) rfl (fun ls hl => ?_)
          refine lv_lload hx hb dX0_compareWith_102 (lv_at hl 6 rfl) ?_
          refine lv_lload hx hb dX0_compareWith_104 (lv_at hl 1 rfl) ?_
          refine lv_lload hx hb dX0_compareWith_106 (lv_at hl 5 rfl) ?_
          refine ti_lmul hx hb dX0_compareWith_108 ?_
          refine ti_lsub hx hb dX0_compareWith_109 ?_
          rw [tl_md]
          refine lv_lstore (lv' := [(18, _), (16, _), (14, _), (12, _), (11, _), (10, _), (8, _), (6, _), (4, _), (2, _), (0, _), (1, _)]) hx hb dX0_compareWith_110 hl (by decide) rfl (fun ls hl => ?_)
          refine lv_lload hx hb dX0_compareWith_112 (lv_at hl 1 rfl) ?_
          refine ti_lconst0 hx hb dX0_compareWith_114 ?_
          refine ti_lcmp_eq (tgt := 126) hx hb dX0_compareWith_115 dX0_compareWith_116 (by decide) (by omega) (by omega) (fun h115 => ?_) (fun h115 => ?_)
          · refine lv_iload hx hb dX0_compareWith_126 (lv_at hl 5 rfl) ?_
            refine lv_lload hx hb dX0_compareWith_128 (lv_at hl 1 rfl) ?_
            refine lv_lload hx hb dX0_compareWith_130 (lv_at hl 0 rfl) ?_
            refine tm_calli (cs_X0_34 hx hb hml hown htw hK hW (c_J13_compare (by omega) (by omega)) ⟨rfl, rfl, Nat.le_of_ble_eq_true rfl, Nat.le_of_ble_eq_true rfl⟩ hl.1 (Nat.le_of_ble_eq_true rfl) dX0_compareWith_132 ⟨Nat.le_of_ble_eq_true rfl, Nat.le_of_ble_eq_true rfl⟩) hS (fun x132 M132 H locs hp132 hW hS => ?_)
            obtain ⟨ex132, eM132⟩ := hp132
            rw [eM132] at hW
            rw [ex132]
            refine ti_imul hx hb dX0_compareWith_135 ?_
            exact tm_iret hx hb hr hlk hK hW hS ⟨tl_fin0 hq1.1 ho1.1 f3 f5 (by omega) (by rw [← tl_cmp_mod h72, Int.one_mul]), rfl⟩ dX0_compareWith_136
          · refine lv_lload hx hb dX0_compareWith_119 (lv_at hl 0 rfl) ?_
            refine ti_lconst0 hx hb dX0_compareWith_121 ?_
            refine ti_lcmp_ne (tgt := 137) hx hb dX0_compareWith_122 dX0_compareWith_123 (by decide) (by omega) (by omega) (fun h122 => ?_) (fun h122 => ?_)
            · refine lv_lload hx hb dX0_compareWith_137 (lv_at hl 8 rfl) ?_
              refine lv_lstore_n (lv' := [(2, _), (18, _), (16, _), (14, _), (12, _), (11, _), (10, _), (8, _), (6, _), (4, _), (0, _), (1, _)]) hx hb dX0_compareWith_139 rfl hl (by decide) rfl (fun ls hl => ?_)
              refine lv_lload hx hb dX0_compareWith_140 (lv_at hl 2 rfl) ?_
              refine lv_lstore (lv' := [(4, _), (2, _), (18, _), (16, _), (14, _), (12, _), (11, _), (10, _), (8, _), (6, _), (0, _), (1, _)]) hx hb dX0_compareWith_142 hl (by decide) rfl (fun ls hl => ?_)
              refine lv_lload hx hb dX0_compareWith_144 (lv_at hl 8 rfl) ?_
              refine lv_lstore (lv' := [(6, _), (4, _), (2, _), (18, _), (16, _), (14, _), (12, _), (11, _), (10, _), (8, _), (0, _), (1, _)]) hx hb dX0_compareWith_146 hl (by decide) rfl (fun ls hl => ?_)
              refine lv_lload hx hb dX0_compareWith_148 (lv_at hl 3 rfl) ?_
              refine lv_lstore (lv' := [(8, _), (6, _), (4, _), (2, _), (18, _), (16, _), (14, _), (12, _), (11, _), (10, _), (0, _), (1, _)]) hx hb dX0_compareWith_150 hl (by decide) rfl (fun ls hl => ?_)
              refine lv_iload hx hb dX0_compareWith_152 (lv_at hl 9 rfl) ?_
              refine ti_ineg hx hb dX0_compareWith_154 ?_
              refine lv_istore (lv' := [(10, _), (8, _), (6, _), (4, _), (2, _), (18, _), (16, _), (14, _), (12, _), (11, _), (0, _), (1, _)]) hx hb dX0_compareWith_155 hl (by decide) rfl (fun ls hl => ?_)
              refine ti_iinc (k := 9) (lv' := [(11, _), (10, _), (8, _), (6, _), (4, _), (2, _), (18, _), (16, _), (14, _), (12, _), (0, _), (1, _)]) hx hb dX0_compareWith_157 hl rfl (by decide) rfl (fun ls hl => ?_)
              refine lv_goto (tgt := 29) hx hb dX0_compareWith_160 (by decide) ?_
              exact loop 126 1 (mL M q 1) (mL M q 0 % mL M q 1) (mL M o 1) (mL M o 0 % mL M o 1) (-1) ls (by omega) (by omega) (by omega) (by omega) (by omega) (by omega) (by omega) (by omega) (by have h2 := Nat.mul_le_mul (show (mL M q 1).natAbs ≤ 4611686018427387904 by omega) (show (mL M q 0 % mL M q 1).natAbs ≤ 4611686018427387903 by omega); exact Nat.lt_of_le_of_lt h2 (by decide)) (Or.inr rfl) (tl_cw2 (g := 1) h72 (Int.one_mul _)) _ _ hW hS (lv_sub hl [10, 11, 5, 4, 3, 2, 1, 0] rfl)
            · refine lv_iload hx hb dX0_compareWith_126 (lv_at hl 5 rfl) ?_
              refine lv_lload hx hb dX0_compareWith_128 (lv_at hl 1 rfl) ?_
              refine lv_lload hx hb dX0_compareWith_130 (lv_at hl 0 rfl) ?_
              refine tm_calli (cs_X0_34 hx hb hml hown htw hK hW (c_J13_compare (by omega) (by omega)) ⟨rfl, rfl, Nat.le_of_ble_eq_true rfl, Nat.le_of_ble_eq_true rfl⟩ hl.1 (Nat.le_of_ble_eq_true rfl) dX0_compareWith_132 ⟨Nat.le_of_ble_eq_true rfl, Nat.le_of_ble_eq_true rfl⟩) hS (fun x132 M132 H locs hp132 hW hS => ?_)
              obtain ⟨ex132, eM132⟩ := hp132
              rw [eM132] at hW
              rw [ex132]
              refine ti_imul hx hb dX0_compareWith_135 ?_
              exact tm_iret hx hb hr hlk hK hW hS ⟨tl_fin0 hq1.1 ho1.1 f3 f5 (by omega) (by rw [← tl_cmp_mod h72, Int.one_mul]), rfl⟩ dX0_compareWith_136
        · refine lv_lload hx hb dX0_compareWith_76 (lv_at hl 1 rfl) ?_
          refine lv_lload hx hb dX0_compareWith_78 (lv_at hl 0 rfl) ?_
          refine ti_lcmp_ge (tgt := 90) hx hb dX0_compareWith_80 dX0_compareWith_81 (by decide) (by omega) (by omega) (fun h80 => ?_) (fun h80 => ?_)
          · refine lv_iload hx hb dX0_compareWith_90 (lv_at hl 3 rfl) ?_
            exact tm_iret hx hb hr hlk hK hW hS ⟨by first | (rw [tl_cmp_lt hq1.1 ho1.1 (by omega)]) | (rw [tl_cmp_lt hq1.1 ho1.1 (by omega)]; rfl) | (rw [tl_cmp_gt hq1.1 ho1.1 (by omega)]), rfl⟩ dX0_compareWith_92
          · refine lv_iload hx hb dX0_compareWith_84 (lv_at hl 3 rfl) ?_
            refine ti_ineg hx hb dX0_compareWith_86 ?_
            refine lv_goto (tgt := 92) hx hb dX0_compareWith_87 (by decide) ?_
            exact tm_iret hx hb hr hlk hK hW hS ⟨by first | (rw [tl_cmp_lt hq1.1 ho1.1 (by omega)]) | (rw [tl_cmp_lt hq1.1 ho1.1 (by omega)]; rfl) | (rw [tl_cmp_gt hq1.1 ho1.1 (by omega)]), rfl⟩ dX0_compareWith_92
