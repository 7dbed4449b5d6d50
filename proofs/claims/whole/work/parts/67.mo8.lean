/-! TutorLinesModel: term, divide (by program: wip/whole/gen/mo8.py) -/
theorem dX9_term_0 : decode cX9_term 0 = .ok (.iconst 4, 1) := by decide +kernel
theorem dX9_term_1 : decode cX9_term 1 = .ok (.aload_n 0, 1) := by decide +kernel
theorem dX9_term_2 : decode cX9_term 2 = .ok (.getfield 100, 3) := by decide +kernel
theorem dX9_term_5 : decode cX9_term 5 = .ok (.imul, 1) := by decide +kernel
theorem dX9_term_6 : decode cX9_term 6 = .ok (.istore_n 1, 1) := by decide +kernel
theorem dX9_term_7 : decode cX9_term 7 = .ok (.aload_n 0, 1) := by decide +kernel
theorem dX9_term_8 : decode cX9_term 8 = .ok (.getfield 36, 3) := by decide +kernel
theorem dX9_term_11 : decode cX9_term 11 = .ok (.aload_n 0, 1) := by decide +kernel
theorem dX9_term_12 : decode cX9_term 12 = .ok (.getfield 100, 3) := by decide +kernel
theorem dX9_term_15 : decode cX9_term 15 = .ok (.iaload, 1) := by decide +kernel
theorem dX9_term_16 : decode cX9_term 16 = .ok (.bipush 45, 2) := by decide +kernel
theorem dX9_term_18 : decode cX9_term 18 = .ok (.if_icmp .ne 7, 3) := by decide +kernel
theorem dX9_term_21 : decode cX9_term 21 = .ok (.iconst 1, 1) := by decide +kernel
theorem dX9_term_22 : decode cX9_term 22 = .ok (.goto 4, 3) := by decide +kernel
theorem dX9_term_25 : decode cX9_term 25 = .ok (.iconst 0, 1) := by decide +kernel
theorem dX9_term_26 : decode cX9_term 26 = .ok (.istore_n 2, 1) := by decide +kernel
theorem dX9_term_27 : decode cX9_term 27 = .ok (.iconst 0, 1) := by decide +kernel
theorem dX9_term_28 : decode cX9_term 28 = .ok (.istore_n 3, 1) := by decide +kernel
theorem dX9_term_29 : decode cX9_term 29 = .ok (.iload_n 3, 1) := by decide +kernel
theorem dX9_term_30 : decode cX9_term 30 = .ok (.iconst 4, 1) := by decide +kernel
theorem dX9_term_31 : decode cX9_term 31 = .ok (.if_icmp .ge 156, 3) := by decide +kernel
theorem dX9_term_34 : decode cX9_term 34 = .ok (.iload_n 2, 1) := by decide +kernel
theorem dX9_term_35 : decode cX9_term 35 = .ok (.ifCond .eq 15, 3) := by decide +kernel
theorem dX9_term_38 : decode cX9_term 38 = .ok (.aload_n 0, 1) := by decide +kernel
theorem dX9_term_39 : decode cX9_term 39 = .ok (.getfield 29, 3) := by decide +kernel
theorem dX9_term_42 : decode cX9_term 42 = .ok (.iload_n 1, 1) := by decide +kernel
theorem dX9_term_43 : decode cX9_term 43 = .ok (.iload_n 3, 1) := by decide +kernel
theorem dX9_term_44 : decode cX9_term 44 = .ok (.iadd, 1) := by decide +kernel
theorem dX9_term_45 : decode cX9_term 45 = .ok (.laload, 1) := by decide +kernel
theorem dX9_term_46 : decode cX9_term 46 = .ok (.lneg, 1) := by decide +kernel
theorem dX9_term_47 : decode cX9_term 47 = .ok (.goto 11, 3) := by decide +kernel
theorem dX9_term_50 : decode cX9_term 50 = .ok (.aload_n 0, 1) := by decide +kernel
theorem dX9_term_51 : decode cX9_term 51 = .ok (.getfield 29, 3) := by decide +kernel
theorem dX9_term_54 : decode cX9_term 54 = .ok (.iload_n 1, 1) := by decide +kernel
theorem dX9_term_55 : decode cX9_term 55 = .ok (.iload_n 3, 1) := by decide +kernel
theorem dX9_term_56 : decode cX9_term 56 = .ok (.iadd, 1) := by decide +kernel
theorem dX9_term_57 : decode cX9_term 57 = .ok (.laload, 1) := by decide +kernel
theorem dX9_term_58 : decode cX9_term 58 = .ok (.lstore 4, 2) := by decide +kernel
theorem dX9_term_60 : decode cX9_term 60 = .ok (.aload_n 0, 1) := by decide +kernel
theorem dX9_term_61 : decode cX9_term 61 = .ok (.getfield 29, 3) := by decide +kernel
theorem dX9_term_64 : decode cX9_term 64 = .ok (.iload_n 1, 1) := by decide +kernel
theorem dX9_term_65 : decode cX9_term 65 = .ok (.iload_n 3, 1) := by decide +kernel
theorem dX9_term_66 : decode cX9_term 66 = .ok (.iadd, 1) := by decide +kernel
theorem dX9_term_67 : decode cX9_term 67 = .ok (.iconst 1, 1) := by decide +kernel
theorem dX9_term_68 : decode cX9_term 68 = .ok (.iadd, 1) := by decide +kernel
theorem dX9_term_69 : decode cX9_term 69 = .ok (.laload, 1) := by decide +kernel
theorem dX9_term_70 : decode cX9_term 70 = .ok (.lstore 6, 2) := by decide +kernel
theorem dX9_term_72 : decode cX9_term 72 = .ok (.aload_n 0, 1) := by decide +kernel
theorem dX9_term_73 : decode cX9_term 73 = .ok (.getfield 32, 3) := by decide +kernel
theorem dX9_term_76 : decode cX9_term 76 = .ok (.aload_n 0, 1) := by decide +kernel
theorem dX9_term_77 : decode cX9_term 77 = .ok (.getfield 100, 3) := by decide +kernel
theorem dX9_term_80 : decode cX9_term 80 = .ok (.baload, 1) := by decide +kernel
theorem dX9_term_81 : decode cX9_term 81 = .ok (.ifCond .eq 78, 3) := by decide +kernel
theorem dX9_term_84 : decode cX9_term 84 = .ok (.aload_n 0, 1) := by decide +kernel
theorem dX9_term_85 : decode cX9_term 85 = .ok (.aload_n 0, 1) := by decide +kernel
theorem dX9_term_86 : decode cX9_term 86 = .ok (.getfield 26, 3) := by decide +kernel
theorem dX9_term_89 : decode cX9_term 89 = .ok (.iload_n 1, 1) := by decide +kernel
theorem dX9_term_90 : decode cX9_term 90 = .ok (.iload_n 3, 1) := by decide +kernel
theorem dX9_term_91 : decode cX9_term 91 = .ok (.iadd, 1) := by decide +kernel
theorem dX9_term_92 : decode cX9_term 92 = .ok (.laload, 1) := by decide +kernel
theorem dX9_term_93 : decode cX9_term 93 = .ok (.lload 6, 2) := by decide +kernel
theorem dX9_term_95 : decode cX9_term 95 = .ok (.lmul, 1) := by decide +kernel
theorem dX9_term_96 : decode cX9_term 96 = .ok (.lload 4, 2) := by decide +kernel
theorem dX9_term_98 : decode cX9_term 98 = .ok (.aload_n 0, 1) := by decide +kernel
theorem dX9_term_99 : decode cX9_term 99 = .ok (.getfield 26, 3) := by decide +kernel
theorem dX9_term_102 : decode cX9_term 102 = .ok (.iload_n 1, 1) := by decide +kernel
theorem dX9_term_103 : decode cX9_term 103 = .ok (.iload_n 3, 1) := by decide +kernel
theorem dX9_term_104 : decode cX9_term 104 = .ok (.iadd, 1) := by decide +kernel
theorem dX9_term_105 : decode cX9_term 105 = .ok (.iconst 1, 1) := by decide +kernel
theorem dX9_term_106 : decode cX9_term 106 = .ok (.iadd, 1) := by decide +kernel
theorem dX9_term_107 : decode cX9_term 107 = .ok (.laload, 1) := by decide +kernel
theorem dX9_term_108 : decode cX9_term 108 = .ok (.lmul, 1) := by decide +kernel
theorem dX9_term_109 : decode cX9_term 109 = .ok (.ladd, 1) := by decide +kernel
theorem dX9_term_110 : decode cX9_term 110 = .ok (.aload_n 0, 1) := by decide +kernel
theorem dX9_term_111 : decode cX9_term 111 = .ok (.getfield 26, 3) := by decide +kernel
theorem dX9_term_114 : decode cX9_term 114 = .ok (.iload_n 1, 1) := by decide +kernel
theorem dX9_term_115 : decode cX9_term 115 = .ok (.iload_n 3, 1) := by decide +kernel
theorem dX9_term_116 : decode cX9_term 116 = .ok (.iadd, 1) := by decide +kernel
theorem dX9_term_117 : decode cX9_term 117 = .ok (.iconst 1, 1) := by decide +kernel
theorem dX9_term_118 : decode cX9_term 118 = .ok (.iadd, 1) := by decide +kernel
theorem dX9_term_119 : decode cX9_term 119 = .ok (.laload, 1) := by decide +kernel
theorem dX9_term_120 : decode cX9_term 120 = .ok (.lload 6, 2) := by decide +kernel
theorem dX9_term_122 : decode cX9_term 122 = .ok (.lmul, 1) := by decide +kernel
theorem dX9_term_123 : decode cX9_term 123 = .ok (.invokevirtual 106, 3) := by decide +kernel
theorem dX9_term_126 : decode cX9_term 126 = .ok (.aload_n 0, 1) := by decide +kernel
theorem dX9_term_127 : decode cX9_term 127 = .ok (.invokevirtual 110, 3) := by decide +kernel
theorem dX9_term_130 : decode cX9_term 130 = .ok (.ifCond .eq 17, 3) := by decide +kernel
theorem dX9_term_133 : decode cX9_term 133 = .ok (.aload_n 0, 1) := by decide +kernel
theorem dX9_term_134 : decode cX9_term 134 = .ok (.aload_n 0, 1) := by decide +kernel
theorem dX9_term_135 : decode cX9_term 135 = .ok (.getfield 39, 3) := by decide +kernel
theorem dX9_term_138 : decode cX9_term 138 = .ok (.aload_n 0, 1) := by decide +kernel
theorem dX9_term_139 : decode cX9_term 139 = .ok (.getfield 100, 3) := by decide +kernel
theorem dX9_term_142 : decode cX9_term 142 = .ok (.iaload, 1) := by decide +kernel
theorem dX9_term_143 : decode cX9_term 143 = .ok (.invokevirtual 103, 3) := by decide +kernel
theorem dX9_term_146 : decode cX9_term 146 = .ok (.ireturn, 1) := by decide +kernel
theorem dX9_term_147 : decode cX9_term 147 = .ok (.aload_n 0, 1) := by decide +kernel
theorem dX9_term_148 : decode cX9_term 148 = .ok (.getfield 56, 3) := by decide +kernel
theorem dX9_term_151 : decode cX9_term 151 = .ok (.lstore 4, 2) := by decide +kernel
theorem dX9_term_153 : decode cX9_term 153 = .ok (.aload_n 0, 1) := by decide +kernel
theorem dX9_term_154 : decode cX9_term 154 = .ok (.getfield 60, 3) := by decide +kernel
theorem dX9_term_157 : decode cX9_term 157 = .ok (.lstore 6, 2) := by decide +kernel
theorem dX9_term_159 : decode cX9_term 159 = .ok (.aload_n 0, 1) := by decide +kernel
theorem dX9_term_160 : decode cX9_term 160 = .ok (.getfield 26, 3) := by decide +kernel
theorem dX9_term_163 : decode cX9_term 163 = .ok (.iload_n 1, 1) := by decide +kernel
theorem dX9_term_164 : decode cX9_term 164 = .ok (.iload_n 3, 1) := by decide +kernel
theorem dX9_term_165 : decode cX9_term 165 = .ok (.iadd, 1) := by decide +kernel
theorem dX9_term_166 : decode cX9_term 166 = .ok (.lload 4, 2) := by decide +kernel
theorem dX9_term_168 : decode cX9_term 168 = .ok (.lastore, 1) := by decide +kernel
theorem dX9_term_169 : decode cX9_term 169 = .ok (.aload_n 0, 1) := by decide +kernel
theorem dX9_term_170 : decode cX9_term 170 = .ok (.getfield 26, 3) := by decide +kernel
theorem dX9_term_173 : decode cX9_term 173 = .ok (.iload_n 1, 1) := by decide +kernel
theorem dX9_term_174 : decode cX9_term 174 = .ok (.iload_n 3, 1) := by decide +kernel
theorem dX9_term_175 : decode cX9_term 175 = .ok (.iadd, 1) := by decide +kernel
theorem dX9_term_176 : decode cX9_term 176 = .ok (.iconst 1, 1) := by decide +kernel
theorem dX9_term_177 : decode cX9_term 177 = .ok (.iadd, 1) := by decide +kernel
theorem dX9_term_178 : decode cX9_term 178 = .ok (.lload 6, 2) := by decide +kernel
theorem dX9_term_180 : decode cX9_term 180 = .ok (.lastore, 1) := by decide +kernel
theorem dX9_term_181 : decode cX9_term 181 = .ok (.iinc 3 2, 3) := by decide +kernel
theorem dX9_term_184 : decode cX9_term 184 = .ok (.goto (-155), 3) := by decide +kernel
theorem dX9_term_187 : decode cX9_term 187 = .ok (.aload_n 0, 1) := by decide +kernel
theorem dX9_term_188 : decode cX9_term 188 = .ok (.getfield 32, 3) := by decide +kernel
theorem dX9_term_191 : decode cX9_term 191 = .ok (.aload_n 0, 1) := by decide +kernel
theorem dX9_term_192 : decode cX9_term 192 = .ok (.getfield 100, 3) := by decide +kernel
theorem dX9_term_195 : decode cX9_term 195 = .ok (.iconst 1, 1) := by decide +kernel
theorem dX9_term_196 : decode cX9_term 196 = .ok (.bastore, 1) := by decide +kernel
theorem dX9_term_197 : decode cX9_term 197 = .ok (.iconst 1, 1) := by decide +kernel
theorem dX9_term_198 : decode cX9_term 198 = .ok (.ireturn, 1) := by decide +kernel
def pM (o lv : Nat) (a k : Nat) : Prop := (a = o ∧ (k = 10 ∨ k = 11 ∨ k = 21)) ∨ (a = o + 6 ∧ 4 * lv ≤ k ∧ k < 4 * lv + 4) ∨ (a = o + 8 ∧ k = lv)
theorem fadd_n (f g : tl_F) : tl_norm (f.1 * g.2 + -g.1 * f.2) (f.2 * g.2) = fsub f g := fsub_j f g
set_option maxHeartbeats 4000000 in
set_option maxRecDepth 100000 in
/-- TutorLinesModel.term, the first of its side -/
theorem c_X9_termN {l : Launch} {G : tm_G} {Hb : Heap} {sh : tm_sh} {M : tm_M} {o lv : Nat} (h : isMo sh M o) (hlv : mI M o 18 = lv) (hl9 : lv < 9) (hsg : inI (mI M (o + 9) lv)) (hv : sok (asS M (o + 7) (4 * lv))) (hhs : mI M (o + 8) lv = 0) : Met l yX9_term (tws yX9_term cX9_term 8 (some .boolean)) ({ frames := 2, cells := 0, slots := 0, locals := 55 }) (va_Pc [.ref o] (tm_St G Hb sh M)) (tm_Qi G Hb sh (fun r M1 => r = 1 ∧ asS M1 (o + 6) (4 * lv) = (if mI M (o + 9) lv = 45 then sneg (asS M (o + 7) (4 * lv)) else asS M (o + 7) (4 * lv)) ∧ mI M1 (o + 8) lv = 1 ∧ fq (pM o lv) M M1)) 0 0 (tm_A Hb) := by
  refine tm_begin (by decide) (Nat.le_of_ble_eq_true rfl) (fun p e s m below meth c ls hx hb hr hml hown htw hlk hnm hK hW hl => ?_)
  have hS : va_S (tm_A Hb) s.heap s.heap [] := va_S.rf
  have hl : lv_has ls 8 [(0, .ref o)] := hl
  obtain ⟨b0, ⟨t1, t2, t6, t7, t9, t12, t13, t14, t15, t16, t17, t24⟩, ⟨u1, u2, u3, u4, u5, u6, u7, u8, u9, u10, u11, u12⟩⟩ := h
  have et : (mI M o 18).toNat = lv := by omega
  have ea : (4 * (lv : Int) + 0).toNat = 4 * lv := by omega
  have eb : (4 * (lv : Int) + 0 + 1).toNat = 4 * lv + 1 := by omega
  have ec : (4 * (lv : Int) + (0 + 2)).toNat = 4 * lv + 2 := by omega
  have ed : (4 * (lv : Int) + (0 + 2) + 1).toNat = 4 * lv + 3 := by omega
  obtain ⟨v1, v2⟩ := hv
  refine ti_iconst hx hb dX9_term_0 ?_
  refine lv_aload_n hx hb dX9_term_1 rfl (lv_at hl 0 rfl) ?_
  refine gf_X9_100 hx hb htw hown hK hW (by assumption) dX9_term_2 ?_
  rw [hlv]
  refine ti_imul hx hb dX9_term_5 ?_
  refine lv_istore_n (lv' := [(1, _), (0, _)]) hx hb dX9_term_6 rfl hl (by decide) rfl (fun ls hl => ?_)
  refine lv_aload_n hx hb dX9_term_7 rfl (lv_at hl 1 rfl) ?_
  refine gf_X9_36 hx hb htw hown hK hW (by assumption) (by assumption) dX9_term_8 ?_
  refine lv_aload_n hx hb dX9_term_11 rfl (lv_at hl 1 rfl) ?_
  refine gf_X9_100 hx hb htw hown hK hW (by assumption) dX9_term_12 ?_
  refine tm_iald hx hb hK hW (by assumption) (by omega) (by omega) (by decide) dX9_term_15 ?_
  rw [et]
  refine ti_bipush hx hb dX9_term_16 (by decide) ?_
  refine ti_icmp_ne (tgt := 25) hx hb dX9_term_18 (by decide) hsg (by decide) (fun h18 => ?_) (fun h18 => ?_)
  · refine ti_iconst hx hb dX9_term_25 ?_
    refine lv_istore_n (lv' := [(2, _), (1, _), (0, _)]) hx hb dX9_term_26 rfl hl (by decide) rfl (fun ls hl => ?_)
    refine ti_iconst hx hb dX9_term_27 ?_
    refine lv_istore_n (lv' := [(3, _), (2, _), (1, _), (0, _)]) hx hb dX9_term_28 rfl hl (by decide) rfl (fun ls hl => ?_)
    refine lv_iload_n hx hb dX9_term_29 rfl (lv_at hl 0 rfl) ?_
    refine ti_iconst hx hb dX9_term_30 ?_
    refine ti_icmp_ge (tgt := 187) hx hb dX9_term_31 (by decide) (by decide) (by decide) (fun h31 => ?_) (fun h31 => ?_)
    · exact absurd h31 (by decide)
    · refine lv_iload_n hx hb dX9_term_34 rfl (lv_at hl 1 rfl) ?_
      refine ti_if_eq (tgt := 50) hx hb dX9_term_35 (by decide) (by decide) (fun h35 => ?_) (fun h35 => ?_)
      · refine lv_aload_n hx hb dX9_term_50 rfl (lv_at hl 3 rfl) ?_
        refine gf_X9_29 hx hb htw hown hK hW (by assumption) t13 dX9_term_51 ?_
        refine lv_iload_n hx hb dX9_term_54 rfl (lv_at hl 2 rfl) ?_
        refine lv_iload_n hx hb dX9_term_55 rfl (lv_at hl 0 rfl) ?_
        refine ti_iadd hx hb dX9_term_56 ?_
        refine tm_lald hx hb hK hW (by assumption) (by omega) (by omega) (by decide) dX9_term_57 ?_
        rw [ea]
        refine lv_lstore (lv' := [(4, _), (3, _), (2, _), (1, _), (0, _)]) hx hb dX9_term_58 hl (by decide) rfl (fun ls hl => ?_)
        refine lv_aload_n hx hb dX9_term_60 rfl (lv_at hl 4 rfl) ?_
        refine gf_X9_29 hx hb htw hown hK hW (by assumption) t13 dX9_term_61 ?_
        refine lv_iload_n hx hb dX9_term_64 rfl (lv_at hl 3 rfl) ?_
        refine lv_iload_n hx hb dX9_term_65 rfl (lv_at hl 1 rfl) ?_
        refine ti_iadd hx hb dX9_term_66 ?_
        refine ti_iconst hx hb dX9_term_67 ?_
        refine ti_iadd hx hb dX9_term_68 ?_
        refine tm_lald hx hb hK hW (by assumption) (by omega) (by omega) (by decide) dX9_term_69 ?_
        rw [eb]
        refine lv_lstore (lv' := [(6, _), (4, _), (3, _), (2, _), (1, _), (0, _)]) hx hb dX9_term_70 hl (by decide) rfl (fun ls hl => ?_)
        refine lv_aload_n hx hb dX9_term_72 rfl (lv_at hl 5 rfl) ?_
        refine gf_X9_32 hx hb htw hown hK hW (by assumption) t14 dX9_term_73 ?_
        refine lv_aload_n hx hb dX9_term_76 rfl (lv_at hl 5 rfl) ?_
        refine gf_X9_100 hx hb htw hown hK hW (by assumption) dX9_term_77 ?_
        refine tm_zald hx hb hK hW (by assumption) (by omega) (by omega) (by decide) dX9_term_80 ?_
        rw [et, hhs]
        refine ti_if_eq (tgt := 159) hx hb dX9_term_81 (by decide) (by decide) (fun h81 => ?_) (fun h81 => ?_)
        · refine lv_aload_n hx hb dX9_term_159 rfl (lv_at hl 5 rfl) ?_
          refine gf_X9_26 hx hb htw hown hK hW (by assumption) t12 dX9_term_160 ?_
          refine lv_iload_n hx hb dX9_term_163 rfl (lv_at hl 4 rfl) ?_
          refine lv_iload_n hx hb dX9_term_164 rfl (lv_at hl 2 rfl) ?_
          refine ti_iadd hx hb dX9_term_165 ?_
          refine lv_lload hx hb dX9_term_166 (lv_at hl 1 rfl) ?_
          refine tm_last hx hb hK hW hS (by assumption) (by omega) (by omega) (by decide) dX9_term_168 (fun H locs hW hS => ?_)
          refine lv_aload_n hx hb dX9_term_169 rfl (lv_at hl 5 rfl) ?_
          refine gf_X9_26 hx hb htw hown hK hW (by assumption) t12 dX9_term_170 ?_
          refine lv_iload_n hx hb dX9_term_173 rfl (lv_at hl 4 rfl) ?_
          refine lv_iload_n hx hb dX9_term_174 rfl (lv_at hl 2 rfl) ?_
          refine ti_iadd hx hb dX9_term_175 ?_
          refine ti_iconst hx hb dX9_term_176 ?_
          refine ti_iadd hx hb dX9_term_177 ?_
          refine lv_lload hx hb dX9_term_178 (lv_at hl 0 rfl) ?_
          refine tm_last hx hb hK hW hS (by assumption) (by omega) (by omega) (by decide) dX9_term_180 (fun H locs hW hS => ?_)
          have hC : sL (sL M (o + 6) (4 * (lv : Int) + 0).toNat (((asS M (o + 7) (4 * lv)).1).1)) (o + 6) (4 * (lv : Int) + 0 + 1).toNat (((asS M (o + 7) (4 * lv)).1).2) = st2 M (o + 6) (4 * lv) ((asS M (o + 7) (4 * lv)).1) := by rw [ea, eb]
          rw [hC] at hW
          have oC0 : mL (st2 M (o + 6) (4 * lv) ((asS M (o + 7) (4 * lv)).1)) (o + 6) (4 * lv) = ((asS M (o + 7) (4 * lv)).1).1 := st2_0 _ _ _ _
          have oC1 : mL (st2 M (o + 6) (4 * lv) ((asS M (o + 7) (4 * lv)).1)) (o + 6) (4 * lv + 1) = ((asS M (o + 7) (4 * lv)).1).2 := st2_1 _ _ _ _
          have oC : ∀ a k, (a ≠ o + 6 ∨ (k ≠ 4 * lv ∧ k ≠ 4 * lv + 1)) → a ≠ o → mL (st2 M (o + 6) (4 * lv) ((asS M (o + 7) (4 * lv)).1)) a k = mL M a k := fun a k q q2 => (st2_n _ _ q).trans rfl
          have fC : fq (pM o lv) M (st2 M (o + 6) (4 * lv) ((asS M (o + 7) (4 * lv)).1)) := (fq_st2 (Or.inr (Or.inl ⟨rfl, by omega, by omega⟩)) (Or.inr (Or.inl ⟨rfl, by omega, by omega⟩)))
          have iC : mI (st2 M (o + 6) (4 * lv) ((asS M (o + 7) (4 * lv)).1)) = mI M := rfl
          have rC : mR (st2 M (o + 6) (4 * lv) ((asS M (o + 7) (4 * lv)).1)) = mR M := rfl
          generalize st2 M (o + 6) (4 * lv) ((asS M (o + 7) (4 * lv)).1) = C at hW oC0 oC1 oC fC iC rC
          have rC13 : mR C o 13 = some (o + 7) := by rw [rC]; exact t13
          have rC14 : mR C o 14 = some (o + 8) := by rw [rC]; exact t14
          have rC12 : mR C o 12 = some (o + 6) := by rw [rC]; exact t12
          have rC16 : mR C o 16 = some (o + 10) := by rw [rC]; exact t16
          refine ti_iinc (k := 2) (lv' := [(3, _), (6, _), (4, _), (2, _), (1, _), (0, _)]) hx hb dX9_term_181 hl rfl (by decide) rfl (fun ls hl => ?_)
          refine lv_goto (tgt := 29) hx hb dX9_term_184 (by decide) ?_
          refine lv_iload_n hx hb dX9_term_29 rfl (lv_at hl 0 rfl) ?_
          refine ti_iconst hx hb dX9_term_30 ?_
          refine ti_icmp_ge (tgt := 187) hx hb dX9_term_31 (by decide) (by decide) (by decide) (fun h31 => ?_) (fun h31 => ?_)
          · exact absurd h31 (by decide)
          · refine lv_iload_n hx hb dX9_term_34 rfl (lv_at hl 3 rfl) ?_
            refine ti_if_eq (tgt := 50) hx hb dX9_term_35 (by decide) (by decide) (fun h35 => ?_) (fun h35 => ?_)
            · refine lv_aload_n hx hb dX9_term_50 rfl (lv_at hl 5 rfl) ?_
              refine gf_X9_29 hx hb htw hown hK hW (by assumption) rC13 dX9_term_51 ?_
              refine lv_iload_n hx hb dX9_term_54 rfl (lv_at hl 4 rfl) ?_
              refine lv_iload_n hx hb dX9_term_55 rfl (lv_at hl 0 rfl) ?_
              refine ti_iadd hx hb dX9_term_56 ?_
              refine tm_lald hx hb hK hW (by assumption) (by omega) (by omega) (by decide) dX9_term_57 ?_
              rw [ec, oC (o + 7) (4 * lv + 2) (Or.inl (by omega)) (by omega)]
              refine lv_lstore (lv' := [(4, _), (3, _), (6, _), (2, _), (1, _), (0, _)]) hx hb dX9_term_58 hl (by decide) rfl (fun ls hl => ?_)
              refine lv_aload_n hx hb dX9_term_60 rfl (lv_at hl 5 rfl) ?_
              refine gf_X9_29 hx hb htw hown hK hW (by assumption) rC13 dX9_term_61 ?_
              refine lv_iload_n hx hb dX9_term_64 rfl (lv_at hl 4 rfl) ?_
              refine lv_iload_n hx hb dX9_term_65 rfl (lv_at hl 1 rfl) ?_
              refine ti_iadd hx hb dX9_term_66 ?_
              refine ti_iconst hx hb dX9_term_67 ?_
              refine ti_iadd hx hb dX9_term_68 ?_
              refine tm_lald hx hb hK hW (by assumption) (by omega) (by omega) (by decide) dX9_term_69 ?_
              rw [ed, oC (o + 7) (4 * lv + 3) (Or.inl (by omega)) (by omega)]
              refine lv_lstore (lv' := [(6, _), (4, _), (3, _), (2, _), (1, _), (0, _)]) hx hb dX9_term_70 hl (by decide) rfl (fun ls hl => ?_)
              refine lv_aload_n hx hb dX9_term_72 rfl (lv_at hl 5 rfl) ?_
              refine gf_X9_32 hx hb htw hown hK hW (by assumption) rC14 dX9_term_73 ?_
              refine lv_aload_n hx hb dX9_term_76 rfl (lv_at hl 5 rfl) ?_
              refine gf_X9_100 hx hb htw hown hK hW (by assumption) dX9_term_77 ?_
              refine tm_zald hx hb hK hW (by assumption) (by rw [iC]; omega) (by rw [iC]; omega) (by decide) dX9_term_80 ?_
              rw [iC, et, hhs]
              refine ti_if_eq (tgt := 159) hx hb dX9_term_81 (by decide) (by decide) (fun h81 => ?_) (fun h81 => ?_)
              · refine lv_aload_n hx hb dX9_term_159 rfl (lv_at hl 5 rfl) ?_
                refine gf_X9_26 hx hb htw hown hK hW (by assumption) rC12 dX9_term_160 ?_
                refine lv_iload_n hx hb dX9_term_163 rfl (lv_at hl 4 rfl) ?_
                refine lv_iload_n hx hb dX9_term_164 rfl (lv_at hl 2 rfl) ?_
                refine ti_iadd hx hb dX9_term_165 ?_
                refine lv_lload hx hb dX9_term_166 (lv_at hl 1 rfl) ?_
                refine tm_last hx hb hK hW hS (by assumption) (by omega) (by omega) (by decide) dX9_term_168 (fun H locs hW hS => ?_)
                refine lv_aload_n hx hb dX9_term_169 rfl (lv_at hl 5 rfl) ?_
                refine gf_X9_26 hx hb htw hown hK hW (by assumption) rC12 dX9_term_170 ?_
                refine lv_iload_n hx hb dX9_term_173 rfl (lv_at hl 4 rfl) ?_
                refine lv_iload_n hx hb dX9_term_174 rfl (lv_at hl 2 rfl) ?_
                refine ti_iadd hx hb dX9_term_175 ?_
                refine ti_iconst hx hb dX9_term_176 ?_
                refine ti_iadd hx hb dX9_term_177 ?_
                refine lv_lload hx hb dX9_term_178 (lv_at hl 0 rfl) ?_
                refine tm_last hx hb hK hW hS (by assumption) (by omega) (by omega) (by decide) dX9_term_180 (fun H locs hW hS => ?_)
                have hC : sL (sL C (o + 6) (4 * (lv : Int) + (0 + 2)).toNat (((asS M (o + 7) (4 * lv)).2).1)) (o + 6) (4 * (lv : Int) + (0 + 2) + 1).toNat (((asS M (o + 7) (4 * lv)).2).2) = st2 C (o + 6) (4 * lv + 2) ((asS M (o + 7) (4 * lv)).2) := by rw [ec, ed]
                rw [hC] at hW
                refine ti_iinc (k := 2) (lv' := [(3, _), (6, _), (4, _), (2, _), (1, _), (0, _)]) hx hb dX9_term_181 hl rfl (by decide) rfl (fun ls hl => ?_)
                refine lv_goto (tgt := 29) hx hb dX9_term_184 (by decide) ?_
                refine lv_iload_n hx hb dX9_term_29 rfl (lv_at hl 0 rfl) ?_
                refine ti_iconst hx hb dX9_term_30 ?_
                refine ti_icmp_ge (tgt := 187) hx hb dX9_term_31 (by decide) (by decide) (by decide) (fun h31 => ?_) (fun h31 => ?_)
                · have hi9 : mI (st2 C (o + 6) (4 * lv + 2) ((asS M (o + 7) (4 * lv)).2)) o 18 = lv := by rw [show mI (st2 C (o + 6) (4 * lv + 2) ((asS M (o + 7) (4 * lv)).2)) = mI M from iC]; exact hlv
                  have r14 : mR (st2 C (o + 6) (4 * lv + 2) ((asS M (o + 7) (4 * lv)).2)) o 14 = some (o + 8) := by rw [show mR (st2 C (o + 6) (4 * lv + 2) ((asS M (o + 7) (4 * lv)).2)) = mR M from rC]; exact t14
                  refine lv_aload_n hx hb dX9_term_187 rfl (lv_at hl 5 rfl) ?_
                  refine gf_X9_32 hx hb htw hown hK hW (by assumption) r14 dX9_term_188 ?_
                  refine lv_aload_n hx hb dX9_term_191 rfl (lv_at hl 5 rfl) ?_
                  refine gf_X9_100 hx hb htw hown hK hW (by assumption) dX9_term_192 ?_
                  rw [hi9]
                  refine ti_iconst hx hb dX9_term_195 ?_
                  refine tm_zast hx hb hK hW hS (by assumption) (by omega) (by omega) (by decide) (Or.inr rfl) dX9_term_196 (fun H locs hW hS => ?_)
                  rw [show (lv : Int).toNat = lv by omega] at hW
                  refine ti_iconst hx hb dX9_term_197 ?_
                  exact tm_zret hx hb hr hlk (by first | exact Or.inl rfl | exact Or.inr rfl | assumption) hK hW hS ⟨rfl, by rw [if_neg h18]; exact (as_eq (M := (sI (st2 C (o + 6) (4 * lv + 2) ((asS M (o + 7) (4 * lv)).2)) (o + 8) lv 1)) ((st2_n _ _ (Or.inr (by omega))).trans (oC0)) ((st2_n _ _ (Or.inr (by omega))).trans (oC1)) (st2_0 _ _ _ _) (st2_1 _ _ _ _)), tm_up_s _ _ _ _, fq_tr (fq_tr fC (fq_st2 (Or.inr (Or.inl ⟨rfl, by omega, by omega⟩)) (Or.inr (Or.inl ⟨rfl, by omega, by omega⟩)))) (fq_sI (Or.inr (Or.inr ⟨rfl, rfl⟩)))⟩ dX9_term_198
                · exact absurd h31 (by decide)
              · exact absurd h81 (by decide)
            · exact absurd h35 (by decide)
        · exact absurd h81 (by decide)
      · exact absurd h35 (by decide)
  · refine ti_iconst hx hb dX9_term_21 ?_
    refine lv_goto (tgt := 26) hx hb dX9_term_22 (by decide) ?_
    refine lv_istore_n (lv' := [(2, _), (1, _), (0, _)]) hx hb dX9_term_26 rfl hl (by decide) rfl (fun ls hl => ?_)
    refine ti_iconst hx hb dX9_term_27 ?_
    refine lv_istore_n (lv' := [(3, _), (2, _), (1, _), (0, _)]) hx hb dX9_term_28 rfl hl (by decide) rfl (fun ls hl => ?_)
    refine lv_iload_n hx hb dX9_term_29 rfl (lv_at hl 0 rfl) ?_
    refine ti_iconst hx hb dX9_term_30 ?_
    refine ti_icmp_ge (tgt := 187) hx hb dX9_term_31 (by decide) (by decide) (by decide) (fun h31 => ?_) (fun h31 => ?_)
    · exact absurd h31 (by decide)
    · refine lv_iload_n hx hb dX9_term_34 rfl (lv_at hl 1 rfl) ?_
      refine ti_if_eq (tgt := 50) hx hb dX9_term_35 (by decide) (by decide) (fun h35 => ?_) (fun h35 => ?_)
      · exact absurd h35 (by decide)
      · refine lv_aload_n hx hb dX9_term_38 rfl (lv_at hl 3 rfl) ?_
        refine gf_X9_29 hx hb htw hown hK hW (by assumption) t13 dX9_term_39 ?_
        refine lv_iload_n hx hb dX9_term_42 rfl (lv_at hl 2 rfl) ?_
        refine lv_iload_n hx hb dX9_term_43 rfl (lv_at hl 0 rfl) ?_
        refine ti_iadd hx hb dX9_term_44 ?_
        refine tm_lald hx hb hK hW (by assumption) (by omega) (by omega) (by decide) dX9_term_45 ?_
        rw [ea]
        refine ti_lneg hx hb dX9_term_46 ?_
        refine lv_goto (tgt := 58) hx hb dX9_term_47 (by decide) ?_
        refine lv_lstore (lv' := [(4, _), (3, _), (2, _), (1, _), (0, _)]) hx hb dX9_term_58 hl (by decide) rfl (fun ls hl => ?_)
        refine lv_aload_n hx hb dX9_term_60 rfl (lv_at hl 4 rfl) ?_
        refine gf_X9_29 hx hb htw hown hK hW (by assumption) t13 dX9_term_61 ?_
        refine lv_iload_n hx hb dX9_term_64 rfl (lv_at hl 3 rfl) ?_
        refine lv_iload_n hx hb dX9_term_65 rfl (lv_at hl 1 rfl) ?_
        refine ti_iadd hx hb dX9_term_66 ?_
        refine ti_iconst hx hb dX9_term_67 ?_
        refine ti_iadd hx hb dX9_term_68 ?_
        refine tm_lald hx hb hK hW (by assumption) (by omega) (by omega) (by decide) dX9_term_69 ?_
        rw [eb]
        refine lv_lstore (lv' := [(6, _), (4, _), (3, _), (2, _), (1, _), (0, _)]) hx hb dX9_term_70 hl (by decide) rfl (fun ls hl => ?_)
        refine lv_aload_n hx hb dX9_term_72 rfl (lv_at hl 5 rfl) ?_
        refine gf_X9_32 hx hb htw hown hK hW (by assumption) t14 dX9_term_73 ?_
        refine lv_aload_n hx hb dX9_term_76 rfl (lv_at hl 5 rfl) ?_
        refine gf_X9_100 hx hb htw hown hK hW (by assumption) dX9_term_77 ?_
        refine tm_zald hx hb hK hW (by assumption) (by omega) (by omega) (by decide) dX9_term_80 ?_
        rw [et, hhs]
        refine ti_if_eq (tgt := 159) hx hb dX9_term_81 (by decide) (by decide) (fun h81 => ?_) (fun h81 => ?_)
        · refine lv_aload_n hx hb dX9_term_159 rfl (lv_at hl 5 rfl) ?_
          refine gf_X9_26 hx hb htw hown hK hW (by assumption) t12 dX9_term_160 ?_
          refine lv_iload_n hx hb dX9_term_163 rfl (lv_at hl 4 rfl) ?_
          refine lv_iload_n hx hb dX9_term_164 rfl (lv_at hl 2 rfl) ?_
          refine ti_iadd hx hb dX9_term_165 ?_
          refine lv_lload hx hb dX9_term_166 (lv_at hl 1 rfl) ?_
          refine tm_last hx hb hK hW hS (by assumption) (by omega) (by omega) (by decide) dX9_term_168 (fun H locs hW hS => ?_)
          refine lv_aload_n hx hb dX9_term_169 rfl (lv_at hl 5 rfl) ?_
          refine gf_X9_26 hx hb htw hown hK hW (by assumption) t12 dX9_term_170 ?_
          refine lv_iload_n hx hb dX9_term_173 rfl (lv_at hl 4 rfl) ?_
          refine lv_iload_n hx hb dX9_term_174 rfl (lv_at hl 2 rfl) ?_
          refine ti_iadd hx hb dX9_term_175 ?_
          refine ti_iconst hx hb dX9_term_176 ?_
          refine ti_iadd hx hb dX9_term_177 ?_
          refine lv_lload hx hb dX9_term_178 (lv_at hl 0 rfl) ?_
          refine tm_last hx hb hK hW hS (by assumption) (by omega) (by omega) (by decide) dX9_term_180 (fun H locs hW hS => ?_)
          have hC : sL (sL M (o + 6) (4 * (lv : Int) + 0).toNat ((fneg (asS M (o + 7) (4 * lv)).1).1)) (o + 6) (4 * (lv : Int) + 0 + 1).toNat ((fneg (asS M (o + 7) (4 * lv)).1).2) = st2 M (o + 6) (4 * lv) (fneg (asS M (o + 7) (4 * lv)).1) := by rw [ea, eb]
          rw [hC] at hW
          have oC0 : mL (st2 M (o + 6) (4 * lv) (fneg (asS M (o + 7) (4 * lv)).1)) (o + 6) (4 * lv) = (fneg (asS M (o + 7) (4 * lv)).1).1 := st2_0 _ _ _ _
          have oC1 : mL (st2 M (o + 6) (4 * lv) (fneg (asS M (o + 7) (4 * lv)).1)) (o + 6) (4 * lv + 1) = (fneg (asS M (o + 7) (4 * lv)).1).2 := st2_1 _ _ _ _
          have oC : ∀ a k, (a ≠ o + 6 ∨ (k ≠ 4 * lv ∧ k ≠ 4 * lv + 1)) → a ≠ o → mL (st2 M (o + 6) (4 * lv) (fneg (asS M (o + 7) (4 * lv)).1)) a k = mL M a k := fun a k q q2 => (st2_n _ _ q).trans rfl
          have fC : fq (pM o lv) M (st2 M (o + 6) (4 * lv) (fneg (asS M (o + 7) (4 * lv)).1)) := (fq_st2 (Or.inr (Or.inl ⟨rfl, by omega, by omega⟩)) (Or.inr (Or.inl ⟨rfl, by omega, by omega⟩)))
          have iC : mI (st2 M (o + 6) (4 * lv) (fneg (asS M (o + 7) (4 * lv)).1)) = mI M := rfl
          have rC : mR (st2 M (o + 6) (4 * lv) (fneg (asS M (o + 7) (4 * lv)).1)) = mR M := rfl
          generalize st2 M (o + 6) (4 * lv) (fneg (asS M (o + 7) (4 * lv)).1) = C at hW oC0 oC1 oC fC iC rC
          have rC13 : mR C o 13 = some (o + 7) := by rw [rC]; exact t13
          have rC14 : mR C o 14 = some (o + 8) := by rw [rC]; exact t14
          have rC12 : mR C o 12 = some (o + 6) := by rw [rC]; exact t12
          have rC16 : mR C o 16 = some (o + 10) := by rw [rC]; exact t16
          refine ti_iinc (k := 2) (lv' := [(3, _), (6, _), (4, _), (2, _), (1, _), (0, _)]) hx hb dX9_term_181 hl rfl (by decide) rfl (fun ls hl => ?_)
          refine lv_goto (tgt := 29) hx hb dX9_term_184 (by decide) ?_
          refine lv_iload_n hx hb dX9_term_29 rfl (lv_at hl 0 rfl) ?_
          refine ti_iconst hx hb dX9_term_30 ?_
          refine ti_icmp_ge (tgt := 187) hx hb dX9_term_31 (by decide) (by decide) (by decide) (fun h31 => ?_) (fun h31 => ?_)
          · exact absurd h31 (by decide)
          · refine lv_iload_n hx hb dX9_term_34 rfl (lv_at hl 3 rfl) ?_
            refine ti_if_eq (tgt := 50) hx hb dX9_term_35 (by decide) (by decide) (fun h35 => ?_) (fun h35 => ?_)
            · exact absurd h35 (by decide)
            · refine lv_aload_n hx hb dX9_term_38 rfl (lv_at hl 5 rfl) ?_
              refine gf_X9_29 hx hb htw hown hK hW (by assumption) rC13 dX9_term_39 ?_
              refine lv_iload_n hx hb dX9_term_42 rfl (lv_at hl 4 rfl) ?_
              refine lv_iload_n hx hb dX9_term_43 rfl (lv_at hl 0 rfl) ?_
              refine ti_iadd hx hb dX9_term_44 ?_
              refine tm_lald hx hb hK hW (by assumption) (by omega) (by omega) (by decide) dX9_term_45 ?_
              rw [ec, oC (o + 7) (4 * lv + 2) (Or.inl (by omega)) (by omega)]
              refine ti_lneg hx hb dX9_term_46 ?_
              refine lv_goto (tgt := 58) hx hb dX9_term_47 (by decide) ?_
              refine lv_lstore (lv' := [(4, _), (3, _), (6, _), (2, _), (1, _), (0, _)]) hx hb dX9_term_58 hl (by decide) rfl (fun ls hl => ?_)
              refine lv_aload_n hx hb dX9_term_60 rfl (lv_at hl 5 rfl) ?_
              refine gf_X9_29 hx hb htw hown hK hW (by assumption) rC13 dX9_term_61 ?_
              refine lv_iload_n hx hb dX9_term_64 rfl (lv_at hl 4 rfl) ?_
              refine lv_iload_n hx hb dX9_term_65 rfl (lv_at hl 1 rfl) ?_
              refine ti_iadd hx hb dX9_term_66 ?_
              refine ti_iconst hx hb dX9_term_67 ?_
              refine ti_iadd hx hb dX9_term_68 ?_
              refine tm_lald hx hb hK hW (by assumption) (by omega) (by omega) (by decide) dX9_term_69 ?_
              rw [ed, oC (o + 7) (4 * lv + 3) (Or.inl (by omega)) (by omega)]
              refine lv_lstore (lv' := [(6, _), (4, _), (3, _), (2, _), (1, _), (0, _)]) hx hb dX9_term_70 hl (by decide) rfl (fun ls hl => ?_)
              refine lv_aload_n hx hb dX9_term_72 rfl (lv_at hl 5 rfl) ?_
              refine gf_X9_32 hx hb htw hown hK hW (by assumption) rC14 dX9_term_73 ?_
              refine lv_aload_n hx hb dX9_term_76 rfl (lv_at hl 5 rfl) ?_
              refine gf_X9_100 hx hb htw hown hK hW (by assumption) dX9_term_77 ?_
              refine tm_zald hx hb hK hW (by assumption) (by rw [iC]; omega) (by rw [iC]; omega) (by decide) dX9_term_80 ?_
              rw [iC, et, hhs]
              refine ti_if_eq (tgt := 159) hx hb dX9_term_81 (by decide) (by decide) (fun h81 => ?_) (fun h81 => ?_)
              · refine lv_aload_n hx hb dX9_term_159 rfl (lv_at hl 5 rfl) ?_
                refine gf_X9_26 hx hb htw hown hK hW (by assumption) rC12 dX9_term_160 ?_
                refine lv_iload_n hx hb dX9_term_163 rfl (lv_at hl 4 rfl) ?_
                refine lv_iload_n hx hb dX9_term_164 rfl (lv_at hl 2 rfl) ?_
                refine ti_iadd hx hb dX9_term_165 ?_
                refine lv_lload hx hb dX9_term_166 (lv_at hl 1 rfl) ?_
                refine tm_last hx hb hK hW hS (by assumption) (by omega) (by omega) (by decide) dX9_term_168 (fun H locs hW hS => ?_)
                refine lv_aload_n hx hb dX9_term_169 rfl (lv_at hl 5 rfl) ?_
                refine gf_X9_26 hx hb htw hown hK hW (by assumption) rC12 dX9_term_170 ?_
                refine lv_iload_n hx hb dX9_term_173 rfl (lv_at hl 4 rfl) ?_
                refine lv_iload_n hx hb dX9_term_174 rfl (lv_at hl 2 rfl) ?_
                refine ti_iadd hx hb dX9_term_175 ?_
                refine ti_iconst hx hb dX9_term_176 ?_
                refine ti_iadd hx hb dX9_term_177 ?_
                refine lv_lload hx hb dX9_term_178 (lv_at hl 0 rfl) ?_
                refine tm_last hx hb hK hW hS (by assumption) (by omega) (by omega) (by decide) dX9_term_180 (fun H locs hW hS => ?_)
                have hC : sL (sL C (o + 6) (4 * (lv : Int) + (0 + 2)).toNat ((fneg (asS M (o + 7) (4 * lv)).2).1)) (o + 6) (4 * (lv : Int) + (0 + 2) + 1).toNat ((fneg (asS M (o + 7) (4 * lv)).2).2) = st2 C (o + 6) (4 * lv + 2) (fneg (asS M (o + 7) (4 * lv)).2) := by rw [ec, ed]
                rw [hC] at hW
                refine ti_iinc (k := 2) (lv' := [(3, _), (6, _), (4, _), (2, _), (1, _), (0, _)]) hx hb dX9_term_181 hl rfl (by decide) rfl (fun ls hl => ?_)
                refine lv_goto (tgt := 29) hx hb dX9_term_184 (by decide) ?_
                refine lv_iload_n hx hb dX9_term_29 rfl (lv_at hl 0 rfl) ?_
                refine ti_iconst hx hb dX9_term_30 ?_
                refine ti_icmp_ge (tgt := 187) hx hb dX9_term_31 (by decide) (by decide) (by decide) (fun h31 => ?_) (fun h31 => ?_)
                · have hi9 : mI (st2 C (o + 6) (4 * lv + 2) (fneg (asS M (o + 7) (4 * lv)).2)) o 18 = lv := by rw [show mI (st2 C (o + 6) (4 * lv + 2) (fneg (asS M (o + 7) (4 * lv)).2)) = mI M from iC]; exact hlv
                  have r14 : mR (st2 C (o + 6) (4 * lv + 2) (fneg (asS M (o + 7) (4 * lv)).2)) o 14 = some (o + 8) := by rw [show mR (st2 C (o + 6) (4 * lv + 2) (fneg (asS M (o + 7) (4 * lv)).2)) = mR M from rC]; exact t14
                  refine lv_aload_n hx hb dX9_term_187 rfl (lv_at hl 5 rfl) ?_
                  refine gf_X9_32 hx hb htw hown hK hW (by assumption) r14 dX9_term_188 ?_
                  refine lv_aload_n hx hb dX9_term_191 rfl (lv_at hl 5 rfl) ?_
                  refine gf_X9_100 hx hb htw hown hK hW (by assumption) dX9_term_192 ?_
                  rw [hi9]
                  refine ti_iconst hx hb dX9_term_195 ?_
                  refine tm_zast hx hb hK hW hS (by assumption) (by omega) (by omega) (by decide) (Or.inr rfl) dX9_term_196 (fun H locs hW hS => ?_)
                  rw [show (lv : Int).toNat = lv by omega] at hW
                  refine ti_iconst hx hb dX9_term_197 ?_
                  exact tm_zret hx hb hr hlk (by first | exact Or.inl rfl | exact Or.inr rfl | assumption) hK hW hS ⟨rfl, by rw [if_pos h18]; exact (as_eq (M := (sI (st2 C (o + 6) (4 * lv + 2) (fneg (asS M (o + 7) (4 * lv)).2)) (o + 8) lv 1)) ((st2_n _ _ (Or.inr (by omega))).trans (oC0)) ((st2_n _ _ (Or.inr (by omega))).trans (oC1)) (st2_0 _ _ _ _) (st2_1 _ _ _ _)), tm_up_s _ _ _ _, fq_tr (fq_tr fC (fq_st2 (Or.inr (Or.inl ⟨rfl, by omega, by omega⟩)) (Or.inr (Or.inl ⟨rfl, by omega, by omega⟩)))) (fq_sI (Or.inr (Or.inr ⟨rfl, rfl⟩)))⟩ dX9_term_198
                · exact absurd h31 (by decide)
              · exact absurd h81 (by decide)
        · exact absurd h81 (by decide)
set_option maxHeartbeats 4000000 in
set_option maxRecDepth 100000 in
/-- TutorLinesModel.term, a later one -/
theorem c_X9_termS {l : Launch} {G : tm_G} {Hb : Heap} {sh : tm_sh} {M : tm_M} {o lv : Nat} (h : isMo sh M o) (hlv : mI M o 18 = lv) (hl9 : lv < 9) (hsg : inI (mI M (o + 9) lv)) (hv : sok (asS M (o + 7) (4 * lv))) (hhs : mI M (o + 8) lv = 1) (hs1 : sok (asS M (o + 6) (4 * lv))) : Met l yX9_term (tws yX9_term cX9_term 8 (some .boolean)) ({ frames := 2, cells := 0, slots := 0, locals := 55 }) (va_Pc [.ref o] (tm_St G Hb sh M)) (tm_Qi G Hb sh (fun r M1 => fq (pM o lv) M M1 ∧ ((r = 1 ∧ sfit (if mI M (o + 9) lv = 45 then ssub (asS M (o + 6) (4 * lv)) (asS M (o + 7) (4 * lv)) else sadd (asS M (o + 6) (4 * lv)) (asS M (o + 7) (4 * lv))) ∧ asS M1 (o + 6) (4 * lv) = (if mI M (o + 9) lv = 45 then ssub (asS M (o + 6) (4 * lv)) (asS M (o + 7) (4 * lv)) else sadd (asS M (o + 6) (4 * lv)) (asS M (o + 7) (4 * lv))) ∧ mI M1 (o + 8) lv = 1) ∨ (r = 0 ∧ ¬ sfit (if mI M (o + 9) lv = 45 then ssub (asS M (o + 6) (4 * lv)) (asS M (o + 7) (4 * lv)) else sadd (asS M (o + 6) (4 * lv)) (asS M (o + 7) (4 * lv))) ∧ mI M1 o 21 = mI M (o + 10) lv)))) 0 0 (tm_A Hb) := by
  refine tm_begin (by decide) (Nat.le_of_ble_eq_true rfl) (fun p e s m below meth c ls hx hb hr hml hown htw hlk hnm hK hW hl => ?_)
  have hS : va_S (tm_A Hb) s.heap s.heap [] := va_S.rf
  have hl : lv_has ls 8 [(0, .ref o)] := hl
  obtain ⟨b0, ⟨t1, t2, t6, t7, t9, t12, t13, t14, t15, t16, t17, t24⟩, ⟨u1, u2, u3, u4, u5, u6, u7, u8, u9, u10, u11, u12⟩⟩ := h
  have et : (mI M o 18).toNat = lv := by omega
  have ea : (4 * (lv : Int) + 0).toNat = 4 * lv := by omega
  have eb : (4 * (lv : Int) + 0 + 1).toNat = 4 * lv + 1 := by omega
  have ec : (4 * (lv : Int) + (0 + 2)).toNat = 4 * lv + 2 := by omega
  have ed : (4 * (lv : Int) + (0 + 2) + 1).toNat = 4 * lv + 3 := by omega
  obtain ⟨v1, v2⟩ := hv
  obtain ⟨s1, s2⟩ := hs1
  refine ti_iconst hx hb dX9_term_0 ?_
  refine lv_aload_n hx hb dX9_term_1 rfl (lv_at hl 0 rfl) ?_
  refine gf_X9_100 hx hb htw hown hK hW (by assumption) dX9_term_2 ?_
  rw [hlv]
  refine ti_imul hx hb dX9_term_5 ?_
  refine lv_istore_n (lv' := [(1, _), (0, _)]) hx hb dX9_term_6 rfl hl (by decide) rfl (fun ls hl => ?_)
  refine lv_aload_n hx hb dX9_term_7 rfl (lv_at hl 1 rfl) ?_
  refine gf_X9_36 hx hb htw hown hK hW (by assumption) (by assumption) dX9_term_8 ?_
  refine lv_aload_n hx hb dX9_term_11 rfl (lv_at hl 1 rfl) ?_
  refine gf_X9_100 hx hb htw hown hK hW (by assumption) dX9_term_12 ?_
  refine tm_iald hx hb hK hW (by assumption) (by omega) (by omega) (by decide) dX9_term_15 ?_
  rw [et]
  refine ti_bipush hx hb dX9_term_16 (by decide) ?_
  refine ti_icmp_ne (tgt := 25) hx hb dX9_term_18 (by decide) hsg (by decide) (fun h18 => ?_) (fun h18 => ?_)
  · refine ti_iconst hx hb dX9_term_25 ?_
    refine lv_istore_n (lv' := [(2, _), (1, _), (0, _)]) hx hb dX9_term_26 rfl hl (by decide) rfl (fun ls hl => ?_)
    refine ti_iconst hx hb dX9_term_27 ?_
    refine lv_istore_n (lv' := [(3, _), (2, _), (1, _), (0, _)]) hx hb dX9_term_28 rfl hl (by decide) rfl (fun ls hl => ?_)
    refine lv_iload_n hx hb dX9_term_29 rfl (lv_at hl 0 rfl) ?_
    refine ti_iconst hx hb dX9_term_30 ?_
    refine ti_icmp_ge (tgt := 187) hx hb dX9_term_31 (by decide) (by decide) (by decide) (fun h31 => ?_) (fun h31 => ?_)
    · exact absurd h31 (by decide)
    · refine lv_iload_n hx hb dX9_term_34 rfl (lv_at hl 1 rfl) ?_
      refine ti_if_eq (tgt := 50) hx hb dX9_term_35 (by decide) (by decide) (fun h35 => ?_) (fun h35 => ?_)
      · refine lv_aload_n hx hb dX9_term_50 rfl (lv_at hl 3 rfl) ?_
        refine gf_X9_29 hx hb htw hown hK hW (by assumption) t13 dX9_term_51 ?_
        refine lv_iload_n hx hb dX9_term_54 rfl (lv_at hl 2 rfl) ?_
        refine lv_iload_n hx hb dX9_term_55 rfl (lv_at hl 0 rfl) ?_
        refine ti_iadd hx hb dX9_term_56 ?_
        refine tm_lald hx hb hK hW (by assumption) (by omega) (by omega) (by decide) dX9_term_57 ?_
        rw [ea]
        refine lv_lstore (lv' := [(4, _), (3, _), (2, _), (1, _), (0, _)]) hx hb dX9_term_58 hl (by decide) rfl (fun ls hl => ?_)
        refine lv_aload_n hx hb dX9_term_60 rfl (lv_at hl 4 rfl) ?_
        refine gf_X9_29 hx hb htw hown hK hW (by assumption) t13 dX9_term_61 ?_
        refine lv_iload_n hx hb dX9_term_64 rfl (lv_at hl 3 rfl) ?_
        refine lv_iload_n hx hb dX9_term_65 rfl (lv_at hl 1 rfl) ?_
        refine ti_iadd hx hb dX9_term_66 ?_
        refine ti_iconst hx hb dX9_term_67 ?_
        refine ti_iadd hx hb dX9_term_68 ?_
        refine tm_lald hx hb hK hW (by assumption) (by omega) (by omega) (by decide) dX9_term_69 ?_
        rw [eb]
        refine lv_lstore (lv' := [(6, _), (4, _), (3, _), (2, _), (1, _), (0, _)]) hx hb dX9_term_70 hl (by decide) rfl (fun ls hl => ?_)
        refine lv_aload_n hx hb dX9_term_72 rfl (lv_at hl 5 rfl) ?_
        refine gf_X9_32 hx hb htw hown hK hW (by assumption) t14 dX9_term_73 ?_
        refine lv_aload_n hx hb dX9_term_76 rfl (lv_at hl 5 rfl) ?_
        refine gf_X9_100 hx hb htw hown hK hW (by assumption) dX9_term_77 ?_
        refine tm_zald hx hb hK hW (by assumption) (by omega) (by omega) (by decide) dX9_term_80 ?_
        rw [et, hhs]
        refine ti_if_eq (tgt := 159) hx hb dX9_term_81 (by decide) (by decide) (fun h81 => ?_) (fun h81 => ?_)
        · exact absurd h81 (by decide)
        · refine lv_aload_n hx hb dX9_term_84 rfl (lv_at hl 5 rfl) ?_
          refine lv_aload_n hx hb dX9_term_85 rfl (lv_at hl 5 rfl) ?_
          refine gf_X9_26 hx hb htw hown hK hW (by assumption) t12 dX9_term_86 ?_
          refine lv_iload_n hx hb dX9_term_89 rfl (lv_at hl 4 rfl) ?_
          refine lv_iload_n hx hb dX9_term_90 rfl (lv_at hl 2 rfl) ?_
          refine ti_iadd hx hb dX9_term_91 ?_
          refine tm_lald hx hb hK hW (by assumption) (by omega) (by omega) (by decide) dX9_term_92 ?_
          rw [ea]
          refine lv_lload hx hb dX9_term_93 (lv_at hl 0 rfl) ?_
          refine ti_lmul hx hb dX9_term_95 ?_
          refine lv_lload hx hb dX9_term_96 (lv_at hl 1 rfl) ?_
          refine lv_aload_n hx hb dX9_term_98 rfl (lv_at hl 5 rfl) ?_
          refine gf_X9_26 hx hb htw hown hK hW (by assumption) t12 dX9_term_99 ?_
          refine lv_iload_n hx hb dX9_term_102 rfl (lv_at hl 4 rfl) ?_
          refine lv_iload_n hx hb dX9_term_103 rfl (lv_at hl 2 rfl) ?_
          refine ti_iadd hx hb dX9_term_104 ?_
          refine ti_iconst hx hb dX9_term_105 ?_
          refine ti_iadd hx hb dX9_term_106 ?_
          refine tm_lald hx hb hK hW (by assumption) (by omega) (by omega) (by decide) dX9_term_107 ?_
          rw [eb]
          refine ti_lmul hx hb dX9_term_108 ?_
          refine ti_ladd hx hb dX9_term_109 ?_
          refine lv_aload_n hx hb dX9_term_110 rfl (lv_at hl 5 rfl) ?_
          refine gf_X9_26 hx hb htw hown hK hW (by assumption) t12 dX9_term_111 ?_
          refine lv_iload_n hx hb dX9_term_114 rfl (lv_at hl 4 rfl) ?_
          refine lv_iload_n hx hb dX9_term_115 rfl (lv_at hl 2 rfl) ?_
          refine ti_iadd hx hb dX9_term_116 ?_
          refine ti_iconst hx hb dX9_term_117 ?_
          refine ti_iadd hx hb dX9_term_118 ?_
          refine tm_lald hx hb hK hW (by assumption) (by omega) (by omega) (by decide) dX9_term_119 ?_
          rw [eb]
          refine lv_lload hx hb dX9_term_120 (lv_at hl 0 rfl) ?_
          refine ti_lmul hx hb dX9_term_122 ?_
          refine tm_callv (cs_X9_106 hx hb hml hown htw hK hW (by assumption) (c_X9_make b0 (tl_bd s1 v1).2.2.1 (tl_bd s1 v1).2.1 (tl_bd s1 v1).1) ⟨rfl, rfl, Nat.le_of_ble_eq_true rfl, Nat.le_of_ble_eq_true rfl⟩ hl.1 (Nat.le_of_ble_eq_true rfl) dX9_term_123 ⟨Nat.le_of_ble_eq_true rfl, Nat.le_of_ble_eq_true rfl⟩) hS (fun M123 H locs hp123 hW hS => ?_)
          have hp123 : M123 = mk M o (fadd (asS M (o + 6) (4 * lv)).1 (asS M (o + 7) (4 * lv)).1) := hp123
          have x1 : mL M123 o 10 = (fadd (asS M (o + 6) (4 * lv)).1 (asS M (o + 7) (4 * lv)).1).1 := by rw [hp123]; exact mk_0 _ _ _
          have y1 : mL M123 o 11 = (fadd (asS M (o + 6) (4 * lv)).1 (asS M (o + 7) (4 * lv)).1).2 := by rw [hp123]; exact mk_1 _ _ _
          have n1 : ∀ a k, a ≠ o → mL M123 a k = mL M a k := fun a k q => by rw [hp123]; exact mk_n _ _ (Or.inl q)
          have i1 : mI M123 = mI M := by rw [hp123]
          have g1 : mR M123 = mR M := by rw [hp123]
          have f1 : fq (pM o lv) M M123 := by rw [hp123]; exact fq_mk (Or.inl ⟨rfl, by omega⟩) (Or.inl ⟨rfl, by omega⟩)
          refine lv_aload_n hx hb dX9_term_126 rfl (lv_at hl 5 rfl) ?_
          refine tm_calli (cs_X9_110 hx hb hml hown htw hK hW (by assumption) (c_X9_isGreat (f := fadd (asS M (o + 6) (4 * lv)).1 (asS M (o + 7) (4 * lv)).1) b0 x1 y1 (fLok_add s1 v1)) ⟨rfl, rfl, Nat.le_of_ble_eq_true rfl, Nat.le_of_ble_eq_true rfl⟩ hl.1 (Nat.le_of_ble_eq_true rfl) dX9_term_127 ⟨Nat.le_of_ble_eq_true rfl, Nat.le_of_ble_eq_true rfl⟩) hS (fun x127 M127 H locs hp127 hW hS => ?_)
          obtain ⟨ex127, eM127⟩ := hp127
          rw [eM127] at hW
          rw [ex127]
          refine ti_if_eq (tgt := 147) hx hb dX9_term_130 (by decide) (tl_b_r _) (fun h130 => ?_) (fun h130 => ?_)
          · refine lv_aload_n hx hb dX9_term_147 rfl (lv_at hl 5 rfl) ?_
            refine gf_X9_56 hx hb htw hown hK hW (by assumption) dX9_term_148 ?_
            rw [x1]
            have ok1 := Decidable.not_not.mp (tl_b_0.mp h130)
            refine lv_lstore (lv' := [(4, _), (6, _), (3, _), (2, _), (1, _), (0, _)]) hx hb dX9_term_151 hl (by decide) rfl (fun ls hl => ?_)
            refine lv_aload_n hx hb dX9_term_153 rfl (lv_at hl 5 rfl) ?_
            refine gf_X9_60 hx hb htw hown hK hW (by assumption) dX9_term_154 ?_
            rw [y1]
            refine lv_lstore (lv' := [(6, _), (4, _), (3, _), (2, _), (1, _), (0, _)]) hx hb dX9_term_157 hl (by decide) rfl (fun ls hl => ?_)
            refine lv_aload_n hx hb dX9_term_159 rfl (lv_at hl 5 rfl) ?_
            refine gf_X9_26 hx hb htw hown hK hW (by assumption) (by rw [g1]; exact t12) dX9_term_160 ?_
            refine lv_iload_n hx hb dX9_term_163 rfl (lv_at hl 4 rfl) ?_
            refine lv_iload_n hx hb dX9_term_164 rfl (lv_at hl 2 rfl) ?_
            refine ti_iadd hx hb dX9_term_165 ?_
            refine lv_lload hx hb dX9_term_166 (lv_at hl 1 rfl) ?_
            refine tm_last hx hb hK hW hS (by assumption) (by omega) (by omega) (by decide) dX9_term_168 (fun H locs hW hS => ?_)
            refine lv_aload_n hx hb dX9_term_169 rfl (lv_at hl 5 rfl) ?_
            refine gf_X9_26 hx hb htw hown hK hW (by assumption) (by rw [g1]; exact t12) dX9_term_170 ?_
            refine lv_iload_n hx hb dX9_term_173 rfl (lv_at hl 4 rfl) ?_
            refine lv_iload_n hx hb dX9_term_174 rfl (lv_at hl 2 rfl) ?_
            refine ti_iadd hx hb dX9_term_175 ?_
            refine ti_iconst hx hb dX9_term_176 ?_
            refine ti_iadd hx hb dX9_term_177 ?_
            refine lv_lload hx hb dX9_term_178 (lv_at hl 0 rfl) ?_
            refine tm_last hx hb hK hW hS (by assumption) (by omega) (by omega) (by decide) dX9_term_180 (fun H locs hW hS => ?_)
            have hC : sL (sL M123 (o + 6) (4 * (lv : Int) + 0).toNat ((fadd (asS M (o + 6) (4 * lv)).1 (asS M (o + 7) (4 * lv)).1).1)) (o + 6) (4 * (lv : Int) + 0 + 1).toNat ((fadd (asS M (o + 6) (4 * lv)).1 (asS M (o + 7) (4 * lv)).1).2) = st2 M123 (o + 6) (4 * lv) (fadd (asS M (o + 6) (4 * lv)).1 (asS M (o + 7) (4 * lv)).1) := by rw [ea, eb]
            rw [hC] at hW
            have oC0 : mL (st2 M123 (o + 6) (4 * lv) (fadd (asS M (o + 6) (4 * lv)).1 (asS M (o + 7) (4 * lv)).1)) (o + 6) (4 * lv) = (fadd (asS M (o + 6) (4 * lv)).1 (asS M (o + 7) (4 * lv)).1).1 := st2_0 _ _ _ _
            have oC1 : mL (st2 M123 (o + 6) (4 * lv) (fadd (asS M (o + 6) (4 * lv)).1 (asS M (o + 7) (4 * lv)).1)) (o + 6) (4 * lv + 1) = (fadd (asS M (o + 6) (4 * lv)).1 (asS M (o + 7) (4 * lv)).1).2 := st2_1 _ _ _ _
            have oC : ∀ a k, (a ≠ o + 6 ∨ (k ≠ 4 * lv ∧ k ≠ 4 * lv + 1)) → a ≠ o → mL (st2 M123 (o + 6) (4 * lv) (fadd (asS M (o + 6) (4 * lv)).1 (asS M (o + 7) (4 * lv)).1)) a k = mL M a k := fun a k q q2 => (st2_n _ _ q).trans (n1 a k q2)
            have fC : fq (pM o lv) M (st2 M123 (o + 6) (4 * lv) (fadd (asS M (o + 6) (4 * lv)).1 (asS M (o + 7) (4 * lv)).1)) := fq_tr f1 (fq_st2 (Or.inr (Or.inl ⟨rfl, by omega, by omega⟩)) (Or.inr (Or.inl ⟨rfl, by omega, by omega⟩)))
            have iC : mI (st2 M123 (o + 6) (4 * lv) (fadd (asS M (o + 6) (4 * lv)).1 (asS M (o + 7) (4 * lv)).1)) = mI M := i1
            have rC : mR (st2 M123 (o + 6) (4 * lv) (fadd (asS M (o + 6) (4 * lv)).1 (asS M (o + 7) (4 * lv)).1)) = mR M := g1
            generalize st2 M123 (o + 6) (4 * lv) (fadd (asS M (o + 6) (4 * lv)).1 (asS M (o + 7) (4 * lv)).1) = C at hW oC0 oC1 oC fC iC rC
            have rC13 : mR C o 13 = some (o + 7) := by rw [rC]; exact t13
            have rC14 : mR C o 14 = some (o + 8) := by rw [rC]; exact t14
            have rC12 : mR C o 12 = some (o + 6) := by rw [rC]; exact t12
            have rC16 : mR C o 16 = some (o + 10) := by rw [rC]; exact t16
            refine ti_iinc (k := 2) (lv' := [(3, _), (6, _), (4, _), (2, _), (1, _), (0, _)]) hx hb dX9_term_181 hl rfl (by decide) rfl (fun ls hl => ?_)
            refine lv_goto (tgt := 29) hx hb dX9_term_184 (by decide) ?_
            refine lv_iload_n hx hb dX9_term_29 rfl (lv_at hl 0 rfl) ?_
            refine ti_iconst hx hb dX9_term_30 ?_
            refine ti_icmp_ge (tgt := 187) hx hb dX9_term_31 (by decide) (by decide) (by decide) (fun h31 => ?_) (fun h31 => ?_)
            · exact absurd h31 (by decide)
            · refine lv_iload_n hx hb dX9_term_34 rfl (lv_at hl 3 rfl) ?_
              refine ti_if_eq (tgt := 50) hx hb dX9_term_35 (by decide) (by decide) (fun h35 => ?_) (fun h35 => ?_)
              · refine lv_aload_n hx hb dX9_term_50 rfl (lv_at hl 5 rfl) ?_
                refine gf_X9_29 hx hb htw hown hK hW (by assumption) rC13 dX9_term_51 ?_
                refine lv_iload_n hx hb dX9_term_54 rfl (lv_at hl 4 rfl) ?_
                refine lv_iload_n hx hb dX9_term_55 rfl (lv_at hl 0 rfl) ?_
                refine ti_iadd hx hb dX9_term_56 ?_
                refine tm_lald hx hb hK hW (by assumption) (by omega) (by omega) (by decide) dX9_term_57 ?_
                rw [ec, oC (o + 7) (4 * lv + 2) (Or.inl (by omega)) (by omega)]
                refine lv_lstore (lv' := [(4, _), (3, _), (6, _), (2, _), (1, _), (0, _)]) hx hb dX9_term_58 hl (by decide) rfl (fun ls hl => ?_)
                refine lv_aload_n hx hb dX9_term_60 rfl (lv_at hl 5 rfl) ?_
                refine gf_X9_29 hx hb htw hown hK hW (by assumption) rC13 dX9_term_61 ?_
                refine lv_iload_n hx hb dX9_term_64 rfl (lv_at hl 4 rfl) ?_
                refine lv_iload_n hx hb dX9_term_65 rfl (lv_at hl 1 rfl) ?_
                refine ti_iadd hx hb dX9_term_66 ?_
                refine ti_iconst hx hb dX9_term_67 ?_
                refine ti_iadd hx hb dX9_term_68 ?_
                refine tm_lald hx hb hK hW (by assumption) (by omega) (by omega) (by decide) dX9_term_69 ?_
                rw [ed, oC (o + 7) (4 * lv + 3) (Or.inl (by omega)) (by omega)]
                refine lv_lstore (lv' := [(6, _), (4, _), (3, _), (2, _), (1, _), (0, _)]) hx hb dX9_term_70 hl (by decide) rfl (fun ls hl => ?_)
                refine lv_aload_n hx hb dX9_term_72 rfl (lv_at hl 5 rfl) ?_
                refine gf_X9_32 hx hb htw hown hK hW (by assumption) rC14 dX9_term_73 ?_
                refine lv_aload_n hx hb dX9_term_76 rfl (lv_at hl 5 rfl) ?_
                refine gf_X9_100 hx hb htw hown hK hW (by assumption) dX9_term_77 ?_
                refine tm_zald hx hb hK hW (by assumption) (by rw [iC]; omega) (by rw [iC]; omega) (by decide) dX9_term_80 ?_
                rw [iC, et, hhs]
                refine ti_if_eq (tgt := 159) hx hb dX9_term_81 (by decide) (by decide) (fun h81 => ?_) (fun h81 => ?_)
                · exact absurd h81 (by decide)
                · refine lv_aload_n hx hb dX9_term_84 rfl (lv_at hl 5 rfl) ?_
                  refine lv_aload_n hx hb dX9_term_85 rfl (lv_at hl 5 rfl) ?_
                  refine gf_X9_26 hx hb htw hown hK hW (by assumption) rC12 dX9_term_86 ?_
                  refine lv_iload_n hx hb dX9_term_89 rfl (lv_at hl 4 rfl) ?_
                  refine lv_iload_n hx hb dX9_term_90 rfl (lv_at hl 2 rfl) ?_
                  refine ti_iadd hx hb dX9_term_91 ?_
                  refine tm_lald hx hb hK hW (by assumption) (by omega) (by omega) (by decide) dX9_term_92 ?_
                  rw [ec, oC (o + 6) (4 * lv + 2) (Or.inr (by omega)) (by omega)]
                  refine lv_lload hx hb dX9_term_93 (lv_at hl 0 rfl) ?_
                  refine ti_lmul hx hb dX9_term_95 ?_
                  refine lv_lload hx hb dX9_term_96 (lv_at hl 1 rfl) ?_
                  refine lv_aload_n hx hb dX9_term_98 rfl (lv_at hl 5 rfl) ?_
                  refine gf_X9_26 hx hb htw hown hK hW (by assumption) rC12 dX9_term_99 ?_
                  refine lv_iload_n hx hb dX9_term_102 rfl (lv_at hl 4 rfl) ?_
                  refine lv_iload_n hx hb dX9_term_103 rfl (lv_at hl 2 rfl) ?_
                  refine ti_iadd hx hb dX9_term_104 ?_
                  refine ti_iconst hx hb dX9_term_105 ?_
                  refine ti_iadd hx hb dX9_term_106 ?_
                  refine tm_lald hx hb hK hW (by assumption) (by omega) (by omega) (by decide) dX9_term_107 ?_
                  rw [ed, oC (o + 6) (4 * lv + 3) (Or.inr (by omega)) (by omega)]
                  refine ti_lmul hx hb dX9_term_108 ?_
                  refine ti_ladd hx hb dX9_term_109 ?_
                  refine lv_aload_n hx hb dX9_term_110 rfl (lv_at hl 5 rfl) ?_
                  refine gf_X9_26 hx hb htw hown hK hW (by assumption) rC12 dX9_term_111 ?_
                  refine lv_iload_n hx hb dX9_term_114 rfl (lv_at hl 4 rfl) ?_
                  refine lv_iload_n hx hb dX9_term_115 rfl (lv_at hl 2 rfl) ?_
                  refine ti_iadd hx hb dX9_term_116 ?_
                  refine ti_iconst hx hb dX9_term_117 ?_
                  refine ti_iadd hx hb dX9_term_118 ?_
                  refine tm_lald hx hb hK hW (by assumption) (by omega) (by omega) (by decide) dX9_term_119 ?_
                  rw [ed, oC (o + 6) (4 * lv + 3) (Or.inr (by omega)) (by omega)]
                  refine lv_lload hx hb dX9_term_120 (lv_at hl 0 rfl) ?_
                  refine ti_lmul hx hb dX9_term_122 ?_
                  refine tm_callv (cs_X9_106 hx hb hml hown htw hK hW (by assumption) (c_X9_make b0 (tl_bd s2 v2).2.2.1 (tl_bd s2 v2).2.1 (tl_bd s2 v2).1) ⟨rfl, rfl, Nat.le_of_ble_eq_true rfl, Nat.le_of_ble_eq_true rfl⟩ hl.1 (Nat.le_of_ble_eq_true rfl) dX9_term_123 ⟨Nat.le_of_ble_eq_true rfl, Nat.le_of_ble_eq_true rfl⟩) hS (fun M123 H locs hp123 hW hS => ?_)
                  have hp123 : M123 = mk C o (fadd (asS M (o + 6) (4 * lv)).2 (asS M (o + 7) (4 * lv)).2) := hp123
                  have x1 : mL M123 o 10 = (fadd (asS M (o + 6) (4 * lv)).2 (asS M (o + 7) (4 * lv)).2).1 := by rw [hp123]; exact mk_0 _ _ _
                  have y1 : mL M123 o 11 = (fadd (asS M (o + 6) (4 * lv)).2 (asS M (o + 7) (4 * lv)).2).2 := by rw [hp123]; exact mk_1 _ _ _
                  have n2 : ∀ a k, a ≠ o → mL M123 a k = mL C a k := fun a k q => by rw [hp123]; exact mk_n _ _ (Or.inl q)
                  have i2 : mI M123 = mI M := by rw [hp123]; exact iC
                  have g2 : mR M123 = mR M := by rw [hp123]; exact rC
                  have f2 : fq (pM o lv) M M123 := fq_tr fC (by rw [hp123]; exact fq_mk (Or.inl ⟨rfl, by omega⟩) (Or.inl ⟨rfl, by omega⟩))
                  refine lv_aload_n hx hb dX9_term_126 rfl (lv_at hl 5 rfl) ?_
                  refine tm_calli (cs_X9_110 hx hb hml hown htw hK hW (by assumption) (c_X9_isGreat (f := fadd (asS M (o + 6) (4 * lv)).2 (asS M (o + 7) (4 * lv)).2) b0 x1 y1 (fLok_add s2 v2)) ⟨rfl, rfl, Nat.le_of_ble_eq_true rfl, Nat.le_of_ble_eq_true rfl⟩ hl.1 (Nat.le_of_ble_eq_true rfl) dX9_term_127 ⟨Nat.le_of_ble_eq_true rfl, Nat.le_of_ble_eq_true rfl⟩) hS (fun x127 M127 H locs hp127 hW hS => ?_)
                  obtain ⟨ex127, eM127⟩ := hp127
                  rw [eM127] at hW
                  rw [ex127]
                  refine ti_if_eq (tgt := 147) hx hb dX9_term_130 (by decide) (tl_b_r _) (fun h130 => ?_) (fun h130 => ?_)
                  · refine lv_aload_n hx hb dX9_term_147 rfl (lv_at hl 5 rfl) ?_
                    refine gf_X9_56 hx hb htw hown hK hW (by assumption) dX9_term_148 ?_
                    rw [x1]
                    have ok2 := Decidable.not_not.mp (tl_b_0.mp h130)
                    refine lv_lstore (lv' := [(4, _), (6, _), (3, _), (2, _), (1, _), (0, _)]) hx hb dX9_term_151 hl (by decide) rfl (fun ls hl => ?_)
                    refine lv_aload_n hx hb dX9_term_153 rfl (lv_at hl 5 rfl) ?_
                    refine gf_X9_60 hx hb htw hown hK hW (by assumption) dX9_term_154 ?_
                    rw [y1]
                    refine lv_lstore (lv' := [(6, _), (4, _), (3, _), (2, _), (1, _), (0, _)]) hx hb dX9_term_157 hl (by decide) rfl (fun ls hl => ?_)
                    refine lv_aload_n hx hb dX9_term_159 rfl (lv_at hl 5 rfl) ?_
                    refine gf_X9_26 hx hb htw hown hK hW (by assumption) (by rw [g2]; exact t12) dX9_term_160 ?_
                    refine lv_iload_n hx hb dX9_term_163 rfl (lv_at hl 4 rfl) ?_
                    refine lv_iload_n hx hb dX9_term_164 rfl (lv_at hl 2 rfl) ?_
                    refine ti_iadd hx hb dX9_term_165 ?_
                    refine lv_lload hx hb dX9_term_166 (lv_at hl 1 rfl) ?_
                    refine tm_last hx hb hK hW hS (by assumption) (by omega) (by omega) (by decide) dX9_term_168 (fun H locs hW hS => ?_)
                    refine lv_aload_n hx hb dX9_term_169 rfl (lv_at hl 5 rfl) ?_
                    refine gf_X9_26 hx hb htw hown hK hW (by assumption) (by rw [g2]; exact t12) dX9_term_170 ?_
                    refine lv_iload_n hx hb dX9_term_173 rfl (lv_at hl 4 rfl) ?_
                    refine lv_iload_n hx hb dX9_term_174 rfl (lv_at hl 2 rfl) ?_
                    refine ti_iadd hx hb dX9_term_175 ?_
                    refine ti_iconst hx hb dX9_term_176 ?_
                    refine ti_iadd hx hb dX9_term_177 ?_
                    refine lv_lload hx hb dX9_term_178 (lv_at hl 0 rfl) ?_
                    refine tm_last hx hb hK hW hS (by assumption) (by omega) (by omega) (by decide) dX9_term_180 (fun H locs hW hS => ?_)
                    have hC : sL (sL M123 (o + 6) (4 * (lv : Int) + (0 + 2)).toNat ((fadd (asS M (o + 6) (4 * lv)).2 (asS M (o + 7) (4 * lv)).2).1)) (o + 6) (4 * (lv : Int) + (0 + 2) + 1).toNat ((fadd (asS M (o + 6) (4 * lv)).2 (asS M (o + 7) (4 * lv)).2).2) = st2 M123 (o + 6) (4 * lv + 2) (fadd (asS M (o + 6) (4 * lv)).2 (asS M (o + 7) (4 * lv)).2) := by rw [ec, ed]
                    rw [hC] at hW
                    refine ti_iinc (k := 2) (lv' := [(3, _), (6, _), (4, _), (2, _), (1, _), (0, _)]) hx hb dX9_term_181 hl rfl (by decide) rfl (fun ls hl => ?_)
                    refine lv_goto (tgt := 29) hx hb dX9_term_184 (by decide) ?_
                    refine lv_iload_n hx hb dX9_term_29 rfl (lv_at hl 0 rfl) ?_
                    refine ti_iconst hx hb dX9_term_30 ?_
                    refine ti_icmp_ge (tgt := 187) hx hb dX9_term_31 (by decide) (by decide) (by decide) (fun h31 => ?_) (fun h31 => ?_)
                    · have hi9 : mI (st2 M123 (o + 6) (4 * lv + 2) (fadd (asS M (o + 6) (4 * lv)).2 (asS M (o + 7) (4 * lv)).2)) o 18 = lv := by rw [show mI (st2 M123 (o + 6) (4 * lv + 2) (fadd (asS M (o + 6) (4 * lv)).2 (asS M (o + 7) (4 * lv)).2)) = mI M from i2]; exact hlv
                      have r14 : mR (st2 M123 (o + 6) (4 * lv + 2) (fadd (asS M (o + 6) (4 * lv)).2 (asS M (o + 7) (4 * lv)).2)) o 14 = some (o + 8) := by rw [show mR (st2 M123 (o + 6) (4 * lv + 2) (fadd (asS M (o + 6) (4 * lv)).2 (asS M (o + 7) (4 * lv)).2)) = mR M from g2]; exact t14
                      refine lv_aload_n hx hb dX9_term_187 rfl (lv_at hl 5 rfl) ?_
                      refine gf_X9_32 hx hb htw hown hK hW (by assumption) r14 dX9_term_188 ?_
                      refine lv_aload_n hx hb dX9_term_191 rfl (lv_at hl 5 rfl) ?_
                      refine gf_X9_100 hx hb htw hown hK hW (by assumption) dX9_term_192 ?_
                      rw [hi9]
                      refine ti_iconst hx hb dX9_term_195 ?_
                      refine tm_zast hx hb hK hW hS (by assumption) (by omega) (by omega) (by decide) (Or.inr rfl) dX9_term_196 (fun H locs hW hS => ?_)
                      rw [show (lv : Int).toNat = lv by omega] at hW
                      refine ti_iconst hx hb dX9_term_197 ?_
                      exact tm_zret hx hb hr hlk (by first | exact Or.inl rfl | exact Or.inr rfl | assumption) hK hW hS ⟨fq_tr (fq_tr f2 (fq_st2 (Or.inr (Or.inl ⟨rfl, by omega, by omega⟩)) (Or.inr (Or.inl ⟨rfl, by omega, by omega⟩)))) (fq_sI (Or.inr (Or.inr ⟨rfl, rfl⟩))), Or.inl ⟨rfl, by rw [if_neg h18]; exact ⟨ok1, ok2⟩, by rw [if_neg h18]; exact (as_eq (M := (sI (st2 M123 (o + 6) (4 * lv + 2) (fadd (asS M (o + 6) (4 * lv)).2 (asS M (o + 7) (4 * lv)).2)) (o + 8) lv 1)) ((st2_n _ _ (Or.inr (by omega))).trans ((n2 _ _ (by omega)).trans oC0)) ((st2_n _ _ (Or.inr (by omega))).trans ((n2 _ _ (by omega)).trans oC1)) (st2_0 _ _ _ _) (st2_1 _ _ _ _)), tm_up_s _ _ _ _⟩⟩ dX9_term_198
                    · exact absurd h31 (by decide)
                  · refine lv_aload_n hx hb dX9_term_133 rfl (lv_at hl 5 rfl) ?_
                    refine lv_aload_n hx hb dX9_term_134 rfl (lv_at hl 5 rfl) ?_
                    refine gf_X9_39 hx hb htw hown hK hW (by assumption) (by rw [g2]; exact t16) dX9_term_135 ?_
                    refine lv_aload_n hx hb dX9_term_138 rfl (lv_at hl 5 rfl) ?_
                    refine gf_X9_100 hx hb htw hown hK hW (by assumption) dX9_term_139 ?_
                    refine tm_iald hx hb hK hW (by assumption) (by rw [i2]; omega) (by rw [i2]; omega) (by decide) dX9_term_142 ?_
                    rw [i2, et]
                    refine tm_calli (cs_X9_103 hx hb hml hown htw hK hW (by assumption) (c_X9_fails b0) ⟨rfl, rfl, Nat.le_of_ble_eq_true rfl, Nat.le_of_ble_eq_true rfl⟩ hl.1 (Nat.le_of_ble_eq_true rfl) dX9_term_143 ⟨Nat.le_of_ble_eq_true rfl, Nat.le_of_ble_eq_true rfl⟩) hS (fun x143 M143 H locs hp143 hW hS => ?_)
                    obtain ⟨ex143, eM143⟩ := hp143
                    rw [ex143]
                    exact tm_zret hx hb hr hlk (by first | exact Or.inl rfl | exact Or.inr rfl | assumption) hK hW hS ⟨fq_tr f2 (by rw [eM143]; exact fq_sI (Or.inl ⟨rfl, by omega⟩)), Or.inr ⟨rfl, by rw [if_neg h18]; exact fun q => tl_b_n.mp h130 q.2, by rw [eM143]; exact tm_up_s _ _ _ _⟩⟩ dX9_term_146
              · exact absurd h35 (by decide)
          · refine lv_aload_n hx hb dX9_term_133 rfl (lv_at hl 5 rfl) ?_
            refine lv_aload_n hx hb dX9_term_134 rfl (lv_at hl 5 rfl) ?_
            refine gf_X9_39 hx hb htw hown hK hW (by assumption) (by rw [g1]; exact t16) dX9_term_135 ?_
            refine lv_aload_n hx hb dX9_term_138 rfl (lv_at hl 5 rfl) ?_
            refine gf_X9_100 hx hb htw hown hK hW (by assumption) dX9_term_139 ?_
            refine tm_iald hx hb hK hW (by assumption) (by rw [i1]; omega) (by rw [i1]; omega) (by decide) dX9_term_142 ?_
            rw [i1, et]
            refine tm_calli (cs_X9_103 hx hb hml hown htw hK hW (by assumption) (c_X9_fails b0) ⟨rfl, rfl, Nat.le_of_ble_eq_true rfl, Nat.le_of_ble_eq_true rfl⟩ hl.1 (Nat.le_of_ble_eq_true rfl) dX9_term_143 ⟨Nat.le_of_ble_eq_true rfl, Nat.le_of_ble_eq_true rfl⟩) hS (fun x143 M143 H locs hp143 hW hS => ?_)
            obtain ⟨ex143, eM143⟩ := hp143
            rw [ex143]
            exact tm_zret hx hb hr hlk (by first | exact Or.inl rfl | exact Or.inr rfl | assumption) hK hW hS ⟨fq_tr f1 (by rw [eM143]; exact fq_sI (Or.inl ⟨rfl, by omega⟩)), Or.inr ⟨rfl, by rw [if_neg h18]; exact fun q => tl_b_n.mp h130 q.1, by rw [eM143]; exact tm_up_s _ _ _ _⟩⟩ dX9_term_146
      · exact absurd h35 (by decide)
  · refine ti_iconst hx hb dX9_term_21 ?_
    refine lv_goto (tgt := 26) hx hb dX9_term_22 (by decide) ?_
    refine lv_istore_n (lv' := [(2, _), (1, _), (0, _)]) hx hb dX9_term_26 rfl hl (by decide) rfl (fun ls hl => ?_)
    refine ti_iconst hx hb dX9_term_27 ?_
    refine lv_istore_n (lv' := [(3, _), (2, _), (1, _), (0, _)]) hx hb dX9_term_28 rfl hl (by decide) rfl (fun ls hl => ?_)
    refine lv_iload_n hx hb dX9_term_29 rfl (lv_at hl 0 rfl) ?_
    refine ti_iconst hx hb dX9_term_30 ?_
    refine ti_icmp_ge (tgt := 187) hx hb dX9_term_31 (by decide) (by decide) (by decide) (fun h31 => ?_) (fun h31 => ?_)
    · exact absurd h31 (by decide)
    · refine lv_iload_n hx hb dX9_term_34 rfl (lv_at hl 1 rfl) ?_
      refine ti_if_eq (tgt := 50) hx hb dX9_term_35 (by decide) (by decide) (fun h35 => ?_) (fun h35 => ?_)
      · exact absurd h35 (by decide)
      · refine lv_aload_n hx hb dX9_term_38 rfl (lv_at hl 3 rfl) ?_
        refine gf_X9_29 hx hb htw hown hK hW (by assumption) t13 dX9_term_39 ?_
        refine lv_iload_n hx hb dX9_term_42 rfl (lv_at hl 2 rfl) ?_
        refine lv_iload_n hx hb dX9_term_43 rfl (lv_at hl 0 rfl) ?_
        refine ti_iadd hx hb dX9_term_44 ?_
        refine tm_lald hx hb hK hW (by assumption) (by omega) (by omega) (by decide) dX9_term_45 ?_
        rw [ea]
        refine ti_lneg hx hb dX9_term_46 ?_
        refine lv_goto (tgt := 58) hx hb dX9_term_47 (by decide) ?_
        refine lv_lstore (lv' := [(4, _), (3, _), (2, _), (1, _), (0, _)]) hx hb dX9_term_58 hl (by decide) rfl (fun ls hl => ?_)
        refine lv_aload_n hx hb dX9_term_60 rfl (lv_at hl 4 rfl) ?_
        refine gf_X9_29 hx hb htw hown hK hW (by assumption) t13 dX9_term_61 ?_
        refine lv_iload_n hx hb dX9_term_64 rfl (lv_at hl 3 rfl) ?_
        refine lv_iload_n hx hb dX9_term_65 rfl (lv_at hl 1 rfl) ?_
        refine ti_iadd hx hb dX9_term_66 ?_
        refine ti_iconst hx hb dX9_term_67 ?_
        refine ti_iadd hx hb dX9_term_68 ?_
        refine tm_lald hx hb hK hW (by assumption) (by omega) (by omega) (by decide) dX9_term_69 ?_
        rw [eb]
        refine lv_lstore (lv' := [(6, _), (4, _), (3, _), (2, _), (1, _), (0, _)]) hx hb dX9_term_70 hl (by decide) rfl (fun ls hl => ?_)
        refine lv_aload_n hx hb dX9_term_72 rfl (lv_at hl 5 rfl) ?_
        refine gf_X9_32 hx hb htw hown hK hW (by assumption) t14 dX9_term_73 ?_
        refine lv_aload_n hx hb dX9_term_76 rfl (lv_at hl 5 rfl) ?_
        refine gf_X9_100 hx hb htw hown hK hW (by assumption) dX9_term_77 ?_
        refine tm_zald hx hb hK hW (by assumption) (by omega) (by omega) (by decide) dX9_term_80 ?_
        rw [et, hhs]
        refine ti_if_eq (tgt := 159) hx hb dX9_term_81 (by decide) (by decide) (fun h81 => ?_) (fun h81 => ?_)
        · exact absurd h81 (by decide)
        · refine lv_aload_n hx hb dX9_term_84 rfl (lv_at hl 5 rfl) ?_
          refine lv_aload_n hx hb dX9_term_85 rfl (lv_at hl 5 rfl) ?_
          refine gf_X9_26 hx hb htw hown hK hW (by assumption) t12 dX9_term_86 ?_
          refine lv_iload_n hx hb dX9_term_89 rfl (lv_at hl 4 rfl) ?_
          refine lv_iload_n hx hb dX9_term_90 rfl (lv_at hl 2 rfl) ?_
          refine ti_iadd hx hb dX9_term_91 ?_
          refine tm_lald hx hb hK hW (by assumption) (by omega) (by omega) (by decide) dX9_term_92 ?_
          rw [ea]
          refine lv_lload hx hb dX9_term_93 (lv_at hl 0 rfl) ?_
          refine ti_lmul hx hb dX9_term_95 ?_
          refine lv_lload hx hb dX9_term_96 (lv_at hl 1 rfl) ?_
          refine lv_aload_n hx hb dX9_term_98 rfl (lv_at hl 5 rfl) ?_
          refine gf_X9_26 hx hb htw hown hK hW (by assumption) t12 dX9_term_99 ?_
          refine lv_iload_n hx hb dX9_term_102 rfl (lv_at hl 4 rfl) ?_
          refine lv_iload_n hx hb dX9_term_103 rfl (lv_at hl 2 rfl) ?_
          refine ti_iadd hx hb dX9_term_104 ?_
          refine ti_iconst hx hb dX9_term_105 ?_
          refine ti_iadd hx hb dX9_term_106 ?_
          refine tm_lald hx hb hK hW (by assumption) (by omega) (by omega) (by decide) dX9_term_107 ?_
          rw [eb]
          refine ti_lmul hx hb dX9_term_108 ?_
          refine ti_ladd hx hb dX9_term_109 ?_
          refine lv_aload_n hx hb dX9_term_110 rfl (lv_at hl 5 rfl) ?_
          refine gf_X9_26 hx hb htw hown hK hW (by assumption) t12 dX9_term_111 ?_
          refine lv_iload_n hx hb dX9_term_114 rfl (lv_at hl 4 rfl) ?_
          refine lv_iload_n hx hb dX9_term_115 rfl (lv_at hl 2 rfl) ?_
          refine ti_iadd hx hb dX9_term_116 ?_
          refine ti_iconst hx hb dX9_term_117 ?_
          refine ti_iadd hx hb dX9_term_118 ?_
          refine tm_lald hx hb hK hW (by assumption) (by omega) (by omega) (by decide) dX9_term_119 ?_
          rw [eb]
          refine lv_lload hx hb dX9_term_120 (lv_at hl 0 rfl) ?_
          refine ti_lmul hx hb dX9_term_122 ?_
          refine tm_callv (cs_X9_106 hx hb hml hown htw hK hW (by assumption) (c_X9_make b0 (fsub_b s1 v1) (tl_bd s1 v1).2.1 (tl_bd s1 v1).1) ⟨rfl, rfl, Nat.le_of_ble_eq_true rfl, Nat.le_of_ble_eq_true rfl⟩ hl.1 (Nat.le_of_ble_eq_true rfl) dX9_term_123 ⟨Nat.le_of_ble_eq_true rfl, Nat.le_of_ble_eq_true rfl⟩) hS (fun M123 H locs hp123 hW hS => ?_)
          have hp123 : M123 = mk M o (tl_norm ((asS M (o + 6) (4 * lv)).1.1 * (asS M (o + 7) (4 * lv)).1.2 + -(asS M (o + 7) (4 * lv)).1.1 * (asS M (o + 6) (4 * lv)).1.2) ((asS M (o + 6) (4 * lv)).1.2 * (asS M (o + 7) (4 * lv)).1.2)) := hp123
          rw [fsub_j (asS M (o + 6) (4 * lv)).1 (asS M (o + 7) (4 * lv)).1] at hp123
          have hp123 : M123 = mk M o (fsub (asS M (o + 6) (4 * lv)).1 (asS M (o + 7) (4 * lv)).1) := hp123
          have x1 : mL M123 o 10 = (fsub (asS M (o + 6) (4 * lv)).1 (asS M (o + 7) (4 * lv)).1).1 := by rw [hp123]; exact mk_0 _ _ _
          have y1 : mL M123 o 11 = (fsub (asS M (o + 6) (4 * lv)).1 (asS M (o + 7) (4 * lv)).1).2 := by rw [hp123]; exact mk_1 _ _ _
          have n1 : ∀ a k, a ≠ o → mL M123 a k = mL M a k := fun a k q => by rw [hp123]; exact mk_n _ _ (Or.inl q)
          have i1 : mI M123 = mI M := by rw [hp123]
          have g1 : mR M123 = mR M := by rw [hp123]
          have f1 : fq (pM o lv) M M123 := by rw [hp123]; exact fq_mk (Or.inl ⟨rfl, by omega⟩) (Or.inl ⟨rfl, by omega⟩)
          refine lv_aload_n hx hb dX9_term_126 rfl (lv_at hl 5 rfl) ?_
          refine tm_calli (cs_X9_110 hx hb hml hown htw hK hW (by assumption) (c_X9_isGreat (f := fsub (asS M (o + 6) (4 * lv)).1 (asS M (o + 7) (4 * lv)).1) b0 x1 y1 (fLok_sub s1 v1)) ⟨rfl, rfl, Nat.le_of_ble_eq_true rfl, Nat.le_of_ble_eq_true rfl⟩ hl.1 (Nat.le_of_ble_eq_true rfl) dX9_term_127 ⟨Nat.le_of_ble_eq_true rfl, Nat.le_of_ble_eq_true rfl⟩) hS (fun x127 M127 H locs hp127 hW hS => ?_)
          obtain ⟨ex127, eM127⟩ := hp127
          rw [eM127] at hW
          rw [ex127]
          refine ti_if_eq (tgt := 147) hx hb dX9_term_130 (by decide) (tl_b_r _) (fun h130 => ?_) (fun h130 => ?_)
          · refine lv_aload_n hx hb dX9_term_147 rfl (lv_at hl 5 rfl) ?_
            refine gf_X9_56 hx hb htw hown hK hW (by assumption) dX9_term_148 ?_
            rw [x1]
            have ok1 := Decidable.not_not.mp (tl_b_0.mp h130)
            refine lv_lstore (lv' := [(4, _), (6, _), (3, _), (2, _), (1, _), (0, _)]) hx hb dX9_term_151 hl (by decide) rfl (fun ls hl => ?_)
            refine lv_aload_n hx hb dX9_term_153 rfl (lv_at hl 5 rfl) ?_
            refine gf_X9_60 hx hb htw hown hK hW (by assumption) dX9_term_154 ?_
            rw [y1]
            refine lv_lstore (lv' := [(6, _), (4, _), (3, _), (2, _), (1, _), (0, _)]) hx hb dX9_term_157 hl (by decide) rfl (fun ls hl => ?_)
            refine lv_aload_n hx hb dX9_term_159 rfl (lv_at hl 5 rfl) ?_
            refine gf_X9_26 hx hb htw hown hK hW (by assumption) (by rw [g1]; exact t12) dX9_term_160 ?_
            refine lv_iload_n hx hb dX9_term_163 rfl (lv_at hl 4 rfl) ?_
            refine lv_iload_n hx hb dX9_term_164 rfl (lv_at hl 2 rfl) ?_
            refine ti_iadd hx hb dX9_term_165 ?_
            refine lv_lload hx hb dX9_term_166 (lv_at hl 1 rfl) ?_
            refine tm_last hx hb hK hW hS (by assumption) (by omega) (by omega) (by decide) dX9_term_168 (fun H locs hW hS => ?_)
            refine lv_aload_n hx hb dX9_term_169 rfl (lv_at hl 5 rfl) ?_
            refine gf_X9_26 hx hb htw hown hK hW (by assumption) (by rw [g1]; exact t12) dX9_term_170 ?_
            refine lv_iload_n hx hb dX9_term_173 rfl (lv_at hl 4 rfl) ?_
            refine lv_iload_n hx hb dX9_term_174 rfl (lv_at hl 2 rfl) ?_
            refine ti_iadd hx hb dX9_term_175 ?_
            refine ti_iconst hx hb dX9_term_176 ?_
            refine ti_iadd hx hb dX9_term_177 ?_
            refine lv_lload hx hb dX9_term_178 (lv_at hl 0 rfl) ?_
            refine tm_last hx hb hK hW hS (by assumption) (by omega) (by omega) (by decide) dX9_term_180 (fun H locs hW hS => ?_)
            have hC : sL (sL M123 (o + 6) (4 * (lv : Int) + 0).toNat ((fsub (asS M (o + 6) (4 * lv)).1 (asS M (o + 7) (4 * lv)).1).1)) (o + 6) (4 * (lv : Int) + 0 + 1).toNat ((fsub (asS M (o + 6) (4 * lv)).1 (asS M (o + 7) (4 * lv)).1).2) = st2 M123 (o + 6) (4 * lv) (fsub (asS M (o + 6) (4 * lv)).1 (asS M (o + 7) (4 * lv)).1) := by rw [ea, eb]
            rw [hC] at hW
            have oC0 : mL (st2 M123 (o + 6) (4 * lv) (fsub (asS M (o + 6) (4 * lv)).1 (asS M (o + 7) (4 * lv)).1)) (o + 6) (4 * lv) = (fsub (asS M (o + 6) (4 * lv)).1 (asS M (o + 7) (4 * lv)).1).1 := st2_0 _ _ _ _
            have oC1 : mL (st2 M123 (o + 6) (4 * lv) (fsub (asS M (o + 6) (4 * lv)).1 (asS M (o + 7) (4 * lv)).1)) (o + 6) (4 * lv + 1) = (fsub (asS M (o + 6) (4 * lv)).1 (asS M (o + 7) (4 * lv)).1).2 := st2_1 _ _ _ _
            have oC : ∀ a k, (a ≠ o + 6 ∨ (k ≠ 4 * lv ∧ k ≠ 4 * lv + 1)) → a ≠ o → mL (st2 M123 (o + 6) (4 * lv) (fsub (asS M (o + 6) (4 * lv)).1 (asS M (o + 7) (4 * lv)).1)) a k = mL M a k := fun a k q q2 => (st2_n _ _ q).trans (n1 a k q2)
            have fC : fq (pM o lv) M (st2 M123 (o + 6) (4 * lv) (fsub (asS M (o + 6) (4 * lv)).1 (asS M (o + 7) (4 * lv)).1)) := fq_tr f1 (fq_st2 (Or.inr (Or.inl ⟨rfl, by omega, by omega⟩)) (Or.inr (Or.inl ⟨rfl, by omega, by omega⟩)))
            have iC : mI (st2 M123 (o + 6) (4 * lv) (fsub (asS M (o + 6) (4 * lv)).1 (asS M (o + 7) (4 * lv)).1)) = mI M := i1
            have rC : mR (st2 M123 (o + 6) (4 * lv) (fsub (asS M (o + 6) (4 * lv)).1 (asS M (o + 7) (4 * lv)).1)) = mR M := g1
            generalize st2 M123 (o + 6) (4 * lv) (fsub (asS M (o + 6) (4 * lv)).1 (asS M (o + 7) (4 * lv)).1) = C at hW oC0 oC1 oC fC iC rC
            have rC13 : mR C o 13 = some (o + 7) := by rw [rC]; exact t13
            have rC14 : mR C o 14 = some (o + 8) := by rw [rC]; exact t14
            have rC12 : mR C o 12 = some (o + 6) := by rw [rC]; exact t12
            have rC16 : mR C o 16 = some (o + 10) := by rw [rC]; exact t16
            refine ti_iinc (k := 2) (lv' := [(3, _), (6, _), (4, _), (2, _), (1, _), (0, _)]) hx hb dX9_term_181 hl rfl (by decide) rfl (fun ls hl => ?_)
            refine lv_goto (tgt := 29) hx hb dX9_term_184 (by decide) ?_
            refine lv_iload_n hx hb dX9_term_29 rfl (lv_at hl 0 rfl) ?_
            refine ti_iconst hx hb dX9_term_30 ?_
            refine ti_icmp_ge (tgt := 187) hx hb dX9_term_31 (by decide) (by decide) (by decide) (fun h31 => ?_) (fun h31 => ?_)
            · exact absurd h31 (by decide)
            · refine lv_iload_n hx hb dX9_term_34 rfl (lv_at hl 3 rfl) ?_
              refine ti_if_eq (tgt := 50) hx hb dX9_term_35 (by decide) (by decide) (fun h35 => ?_) (fun h35 => ?_)
              · exact absurd h35 (by decide)
              · refine lv_aload_n hx hb dX9_term_38 rfl (lv_at hl 5 rfl) ?_
                refine gf_X9_29 hx hb htw hown hK hW (by assumption) rC13 dX9_term_39 ?_
                refine lv_iload_n hx hb dX9_term_42 rfl (lv_at hl 4 rfl) ?_
                refine lv_iload_n hx hb dX9_term_43 rfl (lv_at hl 0 rfl) ?_
                refine ti_iadd hx hb dX9_term_44 ?_
                refine tm_lald hx hb hK hW (by assumption) (by omega) (by omega) (by decide) dX9_term_45 ?_
                rw [ec, oC (o + 7) (4 * lv + 2) (Or.inl (by omega)) (by omega)]
                refine ti_lneg hx hb dX9_term_46 ?_
                refine lv_goto (tgt := 58) hx hb dX9_term_47 (by decide) ?_
                refine lv_lstore (lv' := [(4, _), (3, _), (6, _), (2, _), (1, _), (0, _)]) hx hb dX9_term_58 hl (by decide) rfl (fun ls hl => ?_)
                refine lv_aload_n hx hb dX9_term_60 rfl (lv_at hl 5 rfl) ?_
                refine gf_X9_29 hx hb htw hown hK hW (by assumption) rC13 dX9_term_61 ?_
                refine lv_iload_n hx hb dX9_term_64 rfl (lv_at hl 4 rfl) ?_
                refine lv_iload_n hx hb dX9_term_65 rfl (lv_at hl 1 rfl) ?_
                refine ti_iadd hx hb dX9_term_66 ?_
                refine ti_iconst hx hb dX9_term_67 ?_
                refine ti_iadd hx hb dX9_term_68 ?_
                refine tm_lald hx hb hK hW (by assumption) (by omega) (by omega) (by decide) dX9_term_69 ?_
                rw [ed, oC (o + 7) (4 * lv + 3) (Or.inl (by omega)) (by omega)]
                refine lv_lstore (lv' := [(6, _), (4, _), (3, _), (2, _), (1, _), (0, _)]) hx hb dX9_term_70 hl (by decide) rfl (fun ls hl => ?_)
                refine lv_aload_n hx hb dX9_term_72 rfl (lv_at hl 5 rfl) ?_
                refine gf_X9_32 hx hb htw hown hK hW (by assumption) rC14 dX9_term_73 ?_
                refine lv_aload_n hx hb dX9_term_76 rfl (lv_at hl 5 rfl) ?_
                refine gf_X9_100 hx hb htw hown hK hW (by assumption) dX9_term_77 ?_
                refine tm_zald hx hb hK hW (by assumption) (by rw [iC]; omega) (by rw [iC]; omega) (by decide) dX9_term_80 ?_
                rw [iC, et, hhs]
                refine ti_if_eq (tgt := 159) hx hb dX9_term_81 (by decide) (by decide) (fun h81 => ?_) (fun h81 => ?_)
                · exact absurd h81 (by decide)
                · refine lv_aload_n hx hb dX9_term_84 rfl (lv_at hl 5 rfl) ?_
                  refine lv_aload_n hx hb dX9_term_85 rfl (lv_at hl 5 rfl) ?_
                  refine gf_X9_26 hx hb htw hown hK hW (by assumption) rC12 dX9_term_86 ?_
                  refine lv_iload_n hx hb dX9_term_89 rfl (lv_at hl 4 rfl) ?_
                  refine lv_iload_n hx hb dX9_term_90 rfl (lv_at hl 2 rfl) ?_
                  refine ti_iadd hx hb dX9_term_91 ?_
                  refine tm_lald hx hb hK hW (by assumption) (by omega) (by omega) (by decide) dX9_term_92 ?_
                  rw [ec, oC (o + 6) (4 * lv + 2) (Or.inr (by omega)) (by omega)]
                  refine lv_lload hx hb dX9_term_93 (lv_at hl 0 rfl) ?_
                  refine ti_lmul hx hb dX9_term_95 ?_
                  refine lv_lload hx hb dX9_term_96 (lv_at hl 1 rfl) ?_
                  refine lv_aload_n hx hb dX9_term_98 rfl (lv_at hl 5 rfl) ?_
                  refine gf_X9_26 hx hb htw hown hK hW (by assumption) rC12 dX9_term_99 ?_
                  refine lv_iload_n hx hb dX9_term_102 rfl (lv_at hl 4 rfl) ?_
                  refine lv_iload_n hx hb dX9_term_103 rfl (lv_at hl 2 rfl) ?_
                  refine ti_iadd hx hb dX9_term_104 ?_
                  refine ti_iconst hx hb dX9_term_105 ?_
                  refine ti_iadd hx hb dX9_term_106 ?_
                  refine tm_lald hx hb hK hW (by assumption) (by omega) (by omega) (by decide) dX9_term_107 ?_
                  rw [ed, oC (o + 6) (4 * lv + 3) (Or.inr (by omega)) (by omega)]
                  refine ti_lmul hx hb dX9_term_108 ?_
                  refine ti_ladd hx hb dX9_term_109 ?_
                  refine lv_aload_n hx hb dX9_term_110 rfl (lv_at hl 5 rfl) ?_
                  refine gf_X9_26 hx hb htw hown hK hW (by assumption) rC12 dX9_term_111 ?_
                  refine lv_iload_n hx hb dX9_term_114 rfl (lv_at hl 4 rfl) ?_
                  refine lv_iload_n hx hb dX9_term_115 rfl (lv_at hl 2 rfl) ?_
                  refine ti_iadd hx hb dX9_term_116 ?_
                  refine ti_iconst hx hb dX9_term_117 ?_
                  refine ti_iadd hx hb dX9_term_118 ?_
                  refine tm_lald hx hb hK hW (by assumption) (by omega) (by omega) (by decide) dX9_term_119 ?_
                  rw [ed, oC (o + 6) (4 * lv + 3) (Or.inr (by omega)) (by omega)]
                  refine lv_lload hx hb dX9_term_120 (lv_at hl 0 rfl) ?_
                  refine ti_lmul hx hb dX9_term_122 ?_
                  refine tm_callv (cs_X9_106 hx hb hml hown htw hK hW (by assumption) (c_X9_make b0 (fsub_b s2 v2) (tl_bd s2 v2).2.1 (tl_bd s2 v2).1) ⟨rfl, rfl, Nat.le_of_ble_eq_true rfl, Nat.le_of_ble_eq_true rfl⟩ hl.1 (Nat.le_of_ble_eq_true rfl) dX9_term_123 ⟨Nat.le_of_ble_eq_true rfl, Nat.le_of_ble_eq_true rfl⟩) hS (fun M123 H locs hp123 hW hS => ?_)
                  have hp123 : M123 = mk C o (tl_norm ((asS M (o + 6) (4 * lv)).2.1 * (asS M (o + 7) (4 * lv)).2.2 + -(asS M (o + 7) (4 * lv)).2.1 * (asS M (o + 6) (4 * lv)).2.2) ((asS M (o + 6) (4 * lv)).2.2 * (asS M (o + 7) (4 * lv)).2.2)) := hp123
                  rw [fsub_j (asS M (o + 6) (4 * lv)).2 (asS M (o + 7) (4 * lv)).2] at hp123
                  have hp123 : M123 = mk C o (fsub (asS M (o + 6) (4 * lv)).2 (asS M (o + 7) (4 * lv)).2) := hp123
                  have x1 : mL M123 o 10 = (fsub (asS M (o + 6) (4 * lv)).2 (asS M (o + 7) (4 * lv)).2).1 := by rw [hp123]; exact mk_0 _ _ _
                  have y1 : mL M123 o 11 = (fsub (asS M (o + 6) (4 * lv)).2 (asS M (o + 7) (4 * lv)).2).2 := by rw [hp123]; exact mk_1 _ _ _
                  have n2 : ∀ a k, a ≠ o → mL M123 a k = mL C a k := fun a k q => by rw [hp123]; exact mk_n _ _ (Or.inl q)
                  have i2 : mI M123 = mI M := by rw [hp123]; exact iC
                  have g2 : mR M123 = mR M := by rw [hp123]; exact rC
                  have f2 : fq (pM o lv) M M123 := fq_tr fC (by rw [hp123]; exact fq_mk (Or.inl ⟨rfl, by omega⟩) (Or.inl ⟨rfl, by omega⟩))
                  refine lv_aload_n hx hb dX9_term_126 rfl (lv_at hl 5 rfl) ?_
                  refine tm_calli (cs_X9_110 hx hb hml hown htw hK hW (by assumption) (c_X9_isGreat (f := fsub (asS M (o + 6) (4 * lv)).2 (asS M (o + 7) (4 * lv)).2) b0 x1 y1 (fLok_sub s2 v2)) ⟨rfl, rfl, Nat.le_of_ble_eq_true rfl, Nat.le_of_ble_eq_true rfl⟩ hl.1 (Nat.le_of_ble_eq_true rfl) dX9_term_127 ⟨Nat.le_of_ble_eq_true rfl, Nat.le_of_ble_eq_true rfl⟩) hS (fun x127 M127 H locs hp127 hW hS => ?_)
                  obtain ⟨ex127, eM127⟩ := hp127
                  rw [eM127] at hW
                  rw [ex127]
                  refine ti_if_eq (tgt := 147) hx hb dX9_term_130 (by decide) (tl_b_r _) (fun h130 => ?_) (fun h130 => ?_)
                  · refine lv_aload_n hx hb dX9_term_147 rfl (lv_at hl 5 rfl) ?_
                    refine gf_X9_56 hx hb htw hown hK hW (by assumption) dX9_term_148 ?_
                    rw [x1]
                    have ok2 := Decidable.not_not.mp (tl_b_0.mp h130)
                    refine lv_lstore (lv' := [(4, _), (6, _), (3, _), (2, _), (1, _), (0, _)]) hx hb dX9_term_151 hl (by decide) rfl (fun ls hl => ?_)
                    refine lv_aload_n hx hb dX9_term_153 rfl (lv_at hl 5 rfl) ?_
                    refine gf_X9_60 hx hb htw hown hK hW (by assumption) dX9_term_154 ?_
                    rw [y1]
                    refine lv_lstore (lv' := [(6, _), (4, _), (3, _), (2, _), (1, _), (0, _)]) hx hb dX9_term_157 hl (by decide) rfl (fun ls hl => ?_)
                    refine lv_aload_n hx hb dX9_term_159 rfl (lv_at hl 5 rfl) ?_
                    refine gf_X9_26 hx hb htw hown hK hW (by assumption) (by rw [g2]; exact t12) dX9_term_160 ?_
                    refine lv_iload_n hx hb dX9_term_163 rfl (lv_at hl 4 rfl) ?_
                    refine lv_iload_n hx hb dX9_term_164 rfl (lv_at hl 2 rfl) ?_
                    refine ti_iadd hx hb dX9_term_165 ?_
                    refine lv_lload hx hb dX9_term_166 (lv_at hl 1 rfl) ?_
                    refine tm_last hx hb hK hW hS (by assumption) (by omega) (by omega) (by decide) dX9_term_168 (fun H locs hW hS => ?_)
                    refine lv_aload_n hx hb dX9_term_169 rfl (lv_at hl 5 rfl) ?_
                    refine gf_X9_26 hx hb htw hown hK hW (by assumption) (by rw [g2]; exact t12) dX9_term_170 ?_
                    refine lv_iload_n hx hb dX9_term_173 rfl (lv_at hl 4 rfl) ?_
                    refine lv_iload_n hx hb dX9_term_174 rfl (lv_at hl 2 rfl) ?_
                    refine ti_iadd hx hb dX9_term_175 ?_
                    refine ti_iconst hx hb dX9_term_176 ?_
                    refine ti_iadd hx hb dX9_term_177 ?_
                    refine lv_lload hx hb dX9_term_178 (lv_at hl 0 rfl) ?_
                    refine tm_last hx hb hK hW hS (by assumption) (by omega) (by omega) (by decide) dX9_term_180 (fun H locs hW hS => ?_)
                    have hC : sL (sL M123 (o + 6) (4 * (lv : Int) + (0 + 2)).toNat ((fsub (asS M (o + 6) (4 * lv)).2 (asS M (o + 7) (4 * lv)).2).1)) (o + 6) (4 * (lv : Int) + (0 + 2) + 1).toNat ((fsub (asS M (o + 6) (4 * lv)).2 (asS M (o + 7) (4 * lv)).2).2) = st2 M123 (o + 6) (4 * lv + 2) (fsub (asS M (o + 6) (4 * lv)).2 (asS M (o + 7) (4 * lv)).2) := by rw [ec, ed]
                    rw [hC] at hW
                    refine ti_iinc (k := 2) (lv' := [(3, _), (6, _), (4, _), (2, _), (1, _), (0, _)]) hx hb dX9_term_181 hl rfl (by decide) rfl (fun ls hl => ?_)
                    refine lv_goto (tgt := 29) hx hb dX9_term_184 (by decide) ?_
                    refine lv_iload_n hx hb dX9_term_29 rfl (lv_at hl 0 rfl) ?_
                    refine ti_iconst hx hb dX9_term_30 ?_
                    refine ti_icmp_ge (tgt := 187) hx hb dX9_term_31 (by decide) (by decide) (by decide) (fun h31 => ?_) (fun h31 => ?_)
                    · have hi9 : mI (st2 M123 (o + 6) (4 * lv + 2) (fsub (asS M (o + 6) (4 * lv)).2 (asS M (o + 7) (4 * lv)).2)) o 18 = lv := by rw [show mI (st2 M123 (o + 6) (4 * lv + 2) (fsub (asS M (o + 6) (4 * lv)).2 (asS M (o + 7) (4 * lv)).2)) = mI M from i2]; exact hlv
                      have r14 : mR (st2 M123 (o + 6) (4 * lv + 2) (fsub (asS M (o + 6) (4 * lv)).2 (asS M (o + 7) (4 * lv)).2)) o 14 = some (o + 8) := by rw [show mR (st2 M123 (o + 6) (4 * lv + 2) (fsub (asS M (o + 6) (4 * lv)).2 (asS M (o + 7) (4 * lv)).2)) = mR M from g2]; exact t14
                      refine lv_aload_n hx hb dX9_term_187 rfl (lv_at hl 5 rfl) ?_
                      refine gf_X9_32 hx hb htw hown hK hW (by assumption) r14 dX9_term_188 ?_
                      refine lv_aload_n hx hb dX9_term_191 rfl (lv_at hl 5 rfl) ?_
                      refine gf_X9_100 hx hb htw hown hK hW (by assumption) dX9_term_192 ?_
                      rw [hi9]
                      refine ti_iconst hx hb dX9_term_195 ?_
                      refine tm_zast hx hb hK hW hS (by assumption) (by omega) (by omega) (by decide) (Or.inr rfl) dX9_term_196 (fun H locs hW hS => ?_)
                      rw [show (lv : Int).toNat = lv by omega] at hW
                      refine ti_iconst hx hb dX9_term_197 ?_
                      exact tm_zret hx hb hr hlk (by first | exact Or.inl rfl | exact Or.inr rfl | assumption) hK hW hS ⟨fq_tr (fq_tr f2 (fq_st2 (Or.inr (Or.inl ⟨rfl, by omega, by omega⟩)) (Or.inr (Or.inl ⟨rfl, by omega, by omega⟩)))) (fq_sI (Or.inr (Or.inr ⟨rfl, rfl⟩))), Or.inl ⟨rfl, by rw [if_pos h18]; exact ⟨ok1, ok2⟩, by rw [if_pos h18]; exact (as_eq (M := (sI (st2 M123 (o + 6) (4 * lv + 2) (fsub (asS M (o + 6) (4 * lv)).2 (asS M (o + 7) (4 * lv)).2)) (o + 8) lv 1)) ((st2_n _ _ (Or.inr (by omega))).trans ((n2 _ _ (by omega)).trans oC0)) ((st2_n _ _ (Or.inr (by omega))).trans ((n2 _ _ (by omega)).trans oC1)) (st2_0 _ _ _ _) (st2_1 _ _ _ _)), tm_up_s _ _ _ _⟩⟩ dX9_term_198
                    · exact absurd h31 (by decide)
                  · refine lv_aload_n hx hb dX9_term_133 rfl (lv_at hl 5 rfl) ?_
                    refine lv_aload_n hx hb dX9_term_134 rfl (lv_at hl 5 rfl) ?_
                    refine gf_X9_39 hx hb htw hown hK hW (by assumption) (by rw [g2]; exact t16) dX9_term_135 ?_
                    refine lv_aload_n hx hb dX9_term_138 rfl (lv_at hl 5 rfl) ?_
                    refine gf_X9_100 hx hb htw hown hK hW (by assumption) dX9_term_139 ?_
                    refine tm_iald hx hb hK hW (by assumption) (by rw [i2]; omega) (by rw [i2]; omega) (by decide) dX9_term_142 ?_
                    rw [i2, et]
                    refine tm_calli (cs_X9_103 hx hb hml hown htw hK hW (by assumption) (c_X9_fails b0) ⟨rfl, rfl, Nat.le_of_ble_eq_true rfl, Nat.le_of_ble_eq_true rfl⟩ hl.1 (Nat.le_of_ble_eq_true rfl) dX9_term_143 ⟨Nat.le_of_ble_eq_true rfl, Nat.le_of_ble_eq_true rfl⟩) hS (fun x143 M143 H locs hp143 hW hS => ?_)
                    obtain ⟨ex143, eM143⟩ := hp143
                    rw [ex143]
                    exact tm_zret hx hb hr hlk (by first | exact Or.inl rfl | exact Or.inr rfl | assumption) hK hW hS ⟨fq_tr f2 (by rw [eM143]; exact fq_sI (Or.inl ⟨rfl, by omega⟩)), Or.inr ⟨rfl, by rw [if_pos h18]; exact fun q => tl_b_n.mp h130 q.2, by rw [eM143]; exact tm_up_s _ _ _ _⟩⟩ dX9_term_146
          · refine lv_aload_n hx hb dX9_term_133 rfl (lv_at hl 5 rfl) ?_
            refine lv_aload_n hx hb dX9_term_134 rfl (lv_at hl 5 rfl) ?_
            refine gf_X9_39 hx hb htw hown hK hW (by assumption) (by rw [g1]; exact t16) dX9_term_135 ?_
            refine lv_aload_n hx hb dX9_term_138 rfl (lv_at hl 5 rfl) ?_
            refine gf_X9_100 hx hb htw hown hK hW (by assumption) dX9_term_139 ?_
            refine tm_iald hx hb hK hW (by assumption) (by rw [i1]; omega) (by rw [i1]; omega) (by decide) dX9_term_142 ?_
            rw [i1, et]
            refine tm_calli (cs_X9_103 hx hb hml hown htw hK hW (by assumption) (c_X9_fails b0) ⟨rfl, rfl, Nat.le_of_ble_eq_true rfl, Nat.le_of_ble_eq_true rfl⟩ hl.1 (Nat.le_of_ble_eq_true rfl) dX9_term_143 ⟨Nat.le_of_ble_eq_true rfl, Nat.le_of_ble_eq_true rfl⟩) hS (fun x143 M143 H locs hp143 hW hS => ?_)
            obtain ⟨ex143, eM143⟩ := hp143
            rw [ex143]
            exact tm_zret hx hb hr hlk (by first | exact Or.inl rfl | exact Or.inr rfl | assumption) hK hW hS ⟨fq_tr f1 (by rw [eM143]; exact fq_sI (Or.inl ⟨rfl, by omega⟩)), Or.inr ⟨rfl, by rw [if_pos h18]; exact fun q => tl_b_n.mp h130 q.1, by rw [eM143]; exact tm_up_s _ _ _ _⟩⟩ dX9_term_146
