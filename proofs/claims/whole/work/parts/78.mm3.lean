/-! TutorLinesModel: step (by program: wip/whole/gen/mm3.py) -/
theorem lok_rL {v : tl_L} (h : lok v) : inL v.2.2 := by
  have := h.2.2
  omega
theorem planv_r {v : tl_L} (h : lok v) : inL (tl_planv v).2.2 := by
  have := h.2.2
  unfold tl_planv
  split
  · show inL v.2.2; omega
  · split
    · show inL v.2.2; omega
    · split
      · show inL (if v.1.1.1 < 0 ∧ ¬ v.2.2 = 0 then 3 - v.2.2 else v.2.2)
        split <;> omega
      · omega
theorem tl_sk1 {e : Int} (h : 3 ≤ e) : 3 = (if 3 < e then 3 else e).toNat := by
  by_cases q : 3 < e
  · rw [if_pos q]; rfl
  · rw [if_neg q]; omega
theorem tl_sk2 {e : Int} (h : e ≤ 3) : e.toNat = (if 3 < e then 3 else e).toNat := by
  rw [if_neg (by omega)]
theorem ML_pt {sh : tm_sh} {M : tm_M} {o k : Nat} {z : tl_Z} {v : Int} (h : MLv sh M o z) : MLp sh o M (zpt z k v) (sI M (o + 4) k v) := by
  obtain ⟨h1, h2, h3, h4, h5, h6, h7, h8, h9, h10⟩ := h
  refine ⟨⟨isMo_m h1 rfl, fun i => (tm_up_a _ _ (by omega)).trans (h2 i), (tm_up_a _ _ (by omega)).trans h3, h4, (tm_up_a _ _ (by omega)).trans h5, fun q => ⟨(tm_up_a _ _ (by omega)).trans (h6 q).1, (h6 q).2⟩, fun j k1 k2 => ?_, (tm_up_a _ _ (by omega)).trans h8, (tm_up_a _ _ (by omega)).trans h9, (tm_up_a _ _ (by omega)).trans h10⟩, fq_sI (Or.inr ⟨by omega, by omega, by omega⟩)⟩
  show mI (sI M (o + 4) k v) (o + 4) j = tl_up (zp z) k v j
  by_cases e : j = k
  · subst e
    rw [tl_up_s]
    exact tm_up_s _ _ _ _
  · rw [tl_up_n _ _ e]
    exact (tm_up_k _ _ e).trans (h7 j k1 k2)
theorem ML_ptz {sh : tm_sh} {M M1 : tm_M} {o k : Nat} {z : tl_Z} {v : Int} (h : MLp sh o M z M1) (hv : zp z k = v) : MLp sh o M (zpt z k v) M1 := by
  have e : zpt z k v = z := by
    have e : tl_up (zp z) k v = zp z := funext fun j => by
      by_cases e : j = k
      · rw [e, tl_up_s, hv]
      · exact tl_up_n _ _ e
    show (zt z, zn z, zl z, zr z, zs z, zw z, tl_up (zp z) k v, za z) = z
    rw [e]
  rw [e]
  exact h
theorem ML_zw {sh : tm_sh} {M M1 : tm_M} {o : Nat} {z : tl_Z} {w : tl_L} (h : MLp sh o M z M1) (hr : zr z = 0) : MLp sh o M (zsw z w) M1 := by
  obtain ⟨⟨h1, h2, h3, h4, h5, h6, h7, h8, h9, h10⟩, f⟩ := h
  exact ⟨⟨h1, h2, h3, h4, h5, fun q => absurd (show zr z = 1 from q) (by omega), h7, h8, h9, h10⟩, f⟩
theorem ML_an {sh : tm_sh} {M : tm_M} {o c k : Nat} {z : tl_Z} (h : MLv sh M o z) (hk : (c = 1 ∧ k = 1) ∨ (c = 2 ∧ k = 0) ∨ (c = 3 ∧ k = 2)) : MLp sh o M (zan z k) (sI M (o + 3) c (mI M (o + 3) c + 1)) := by
  obtain ⟨h1, h2, h3, h4, h5, h6, h7, h8, h9, h10⟩ := h
  have g : ∀ d j : Nat, (d = 1 ∧ j = 1) ∨ (d = 2 ∧ j = 0) ∨ (d = 3 ∧ j = 2) → mI M (o + 3) d = za z j → mI (sI M (o + 3) c (mI M (o + 3) c + 1)) (o + 3) d = tl_up (za z) k (za z k + 1) j := fun d j hd e => by
    by_cases q : j = k
    · have e2 : d = c := by omega
      rw [q, tl_up_s, e2]
      exact (tm_up_s _ _ _ _).trans (by rw [← e2, e, q])
    · rw [tl_up_n _ _ q]
      exact (tm_up_k _ _ (by omega)).trans e
  exact ⟨⟨isMo_m h1 rfl, fun i => (tm_up_a _ _ (by omega)).trans (h2 i), (tm_up_a _ _ (by omega)).trans h3, h4, (tm_up_a _ _ (by omega)).trans h5, fun q => ⟨(tm_up_a _ _ (by omega)).trans (h6 q).1, (h6 q).2⟩, fun j k1 k2 => (tm_up_a _ _ (by omega)).trans (h7 j k1 k2), g 1 1 (by omega) h8, g 2 0 (by omega) h9, g 3 2 (by omega) h10⟩, fq_sI (Or.inr ⟨by omega, by omega, by omega⟩)⟩
theorem ML_rf {sh : tm_sh} {M M1 M2 : tm_M} {o : Nat} {z : tl_Z} {w : tl_L} {e : Int} (h : MLv sh M o z) (h40 : zn z ≤ 40) (f : fq (pL o 41) M M1) (hw : rl M1 o 41 = w) (g : fq (mP o) (sI M1 o 4 1) M2) (he : e = tl_exp (zl z (zn z - 1)) w 6 1) : MLp sh o M (zrf0 z w) (sI M2 o 5 e) := by
  obtain ⟨h1, h2, h3, h4, h5, h6, h7, h8, h9, h10⟩ := h
  have ea : ∀ a k, a ≠ o → a ≠ o + 2 → mI (sI M2 o 5 e) a k = mI M a k := fun a k ha hb => (tm_up_a _ _ ha).trans ((g.2 _ _ (by unfold mP; omega)).1.trans ((tm_up_a _ _ ha).trans (f.2 _ _ (by unfold pL; omega)).1))
  refine ⟨⟨isMo_m h1 (g.1.trans f.1), fun i => (ea _ _ (by omega) (by omega)).trans (h2 i), (tm_up_k _ _ (by decide)).trans ((g.2 _ _ (by unfold mP; omega)).1.trans ((tm_up_k _ _ (by decide)).trans ((f.2 _ _ (by unfold pL; omega)).1.trans h3))), fun i hi => ?_, (tm_up_k _ _ (by decide)).trans ((g.2 _ _ (by unfold mP; omega)).1.trans (tm_up_s _ _ _ _)), fun _ => ⟨(tm_up_s _ _ _ _).trans he, ?_⟩, fun k k1 k2 => (ea _ _ (by omega) (by omega)).trans (h7 k k1 k2), (ea _ _ (by omega) (by omega)).trans h8, (ea _ _ (by omega) (by omega)).trans h9, (ea _ _ (by omega) (by omega)).trans h10⟩, fq_tr (fq_wd f (fun a k q => by unfold pL at q; unfold mY; omega)) (fq_tr (fq_sI (Or.inl ⟨rfl, by decide⟩)) (fq_tr (fq_wd g (fun a k q => mX_Y (mP_X q))) (fq_sI (Or.inl ⟨rfl, by decide⟩))))⟩
  · have hi : i < zn z := hi
    show rl M2 o i = zl z i
    rw [fq_rl g (fun k hk => by unfold mP; omega)]
    show rl M1 o i = zl z i
    rw [fq_rl f (fun k hk => by unfold pL; omega)]
    exact h4 i hi
  · show rl M2 o 41 = w
    rw [fq_rl g (fun k hk => by unfold mP; omega)]
    exact hw
theorem zacc_0 {z : tl_Z} {w : tl_L} (h : ¬ (0 < tl_plan (zl z (zn z - 1)) ∧ tl_planv (zl z (zn z - 1)) = w)) : zacc (zan (zsw z w) 1) w = zsw (zan (zapp z w) 1) w := by
  have e : (if 0 < tl_plan (zl z (zn z - 1)) ∧ tl_planv (zl z (zn z - 1)) = w then zpt (zan (zsw z w) 1) (tl_plan (zl z (zn z - 1))).toNat (if 10 < zp z (tl_plan (zl z (zn z - 1))).toNat + 1 then 10 else zp z (tl_plan (zl z (zn z - 1))).toNat + 1) else zan (zsw z w) 1) = zan (zsw z w) 1 := if_neg h
  show zapp (if 0 < tl_plan (zl z (zn z - 1)) ∧ tl_planv (zl z (zn z - 1)) = w then zpt (zan (zsw z w) 1) (tl_plan (zl z (zn z - 1))).toNat (if 10 < zp z (tl_plan (zl z (zn z - 1))).toNat + 1 then 10 else zp z (tl_plan (zl z (zn z - 1))).toNat + 1) else zan (zsw z w) 1) w = _
  rw [e]
  rfl
theorem zacc_k {z : tl_Z} {w : tl_L} {k : Nat} {v : Int} (h : 0 < tl_plan (zl z (zn z - 1)) ∧ tl_planv (zl z (zn z - 1)) = w) (hk : k = (tl_plan (zl z (zn z - 1))).toNat) (hv : v = if 10 < zp z k + 1 then 10 else zp z k + 1) : zacc (zan (zsw z w) 1) w = zsw (zan (zapp (zpt z k v) w) 1) w := by
  subst hk
  have e : (if 0 < tl_plan (zl z (zn z - 1)) ∧ tl_planv (zl z (zn z - 1)) = w then zpt (zan (zsw z w) 1) (tl_plan (zl z (zn z - 1))).toNat (if 10 < zp z (tl_plan (zl z (zn z - 1))).toNat + 1 then 10 else zp z (tl_plan (zl z (zn z - 1))).toNat + 1) else zan (zsw z w) 1) = zpt (zan (zsw z w) 1) (tl_plan (zl z (zn z - 1))).toNat v := by rw [if_pos h, hv]
  show zapp (if 0 < tl_plan (zl z (zn z - 1)) ∧ tl_planv (zl z (zn z - 1)) = w then zpt (zan (zsw z w) 1) (tl_plan (zl z (zn z - 1))).toNat (if 10 < zp z (tl_plan (zl z (zn z - 1))).toNat + 1 then 10 else zp z (tl_plan (zl z (zn z - 1))).toNat + 1) else zan (zsw z w) 1) w = _
  rw [e]
  rfl
theorem zref_0 {z : tl_Z} {w : tl_L} {a : Nat} (h : ¬ 0 < tl_exp (zl z (zn z - 1)) w 6 1) : zref (zan (zsw z w) a) w = zan (zrf0 z w) a := if_neg h
theorem zref_k {z : tl_Z} {w : tl_L} {a k : Nat} {v : Int} (h : 0 < tl_exp (zl z (zn z - 1)) w 6 1) (hk : k = (if 3 < tl_exp (zl z (zn z - 1)) w 6 1 then 3 else tl_exp (zl z (zn z - 1)) w 6 1).toNat) (hv : v = if zp z k - 1 < 0 then 0 else zp z k - 1) : zref (zan (zsw z w) a) w = zan (zpt (zrf0 z w) k v) a := by
  subst hk
  rw [hv]
  exact if_pos h
theorem dX9_step_0 : decode cX9_step 0 = .ok (.aload_n 0, 1) := by decide +kernel
theorem dX9_step_1 : decode cX9_step 1 = .ok (.iload_n 1, 1) := by decide +kernel
theorem dX9_step_2 : decode cX9_step 2 = .ok (.invokevirtual 205, 3) := by decide +kernel
theorem dX9_step_5 : decode cX9_step 5 = .ok (.ifCond .ne 5, 3) := by decide +kernel
theorem dX9_step_8 : decode cX9_step 8 = .ok (.iconst 0, 1) := by decide +kernel
theorem dX9_step_9 : decode cX9_step 9 = .ok (.ireturn, 1) := by decide +kernel
theorem dX9_step_10 : decode cX9_step 10 = .ok (.aload_n 0, 1) := by decide +kernel
theorem dX9_step_11 : decode cX9_step 11 = .ok (.aload_n 0, 1) := by decide +kernel
theorem dX9_step_12 : decode cX9_step 12 = .ok (.getfield 159, 3) := by decide +kernel
theorem dX9_step_15 : decode cX9_step 15 = .ok (.ifCond .eq 12, 3) := by decide +kernel
theorem dX9_step_18 : decode cX9_step 18 = .ok (.aload_n 0, 1) := by decide +kernel
theorem dX9_step_19 : decode cX9_step 19 = .ok (.getfield 159, 3) := by decide +kernel
theorem dX9_step_22 : decode cX9_step 22 = .ok (.bipush 40, 2) := by decide +kernel
theorem dX9_step_24 : decode cX9_step 24 = .ok (.if_icmp .ne 7, 3) := by decide +kernel
theorem dX9_step_27 : decode cX9_step 27 = .ok (.iconst 2, 1) := by decide +kernel
theorem dX9_step_28 : decode cX9_step 28 = .ok (.goto 4, 3) := by decide +kernel
theorem dX9_step_31 : decode cX9_step 31 = .ok (.iconst 0, 1) := by decide +kernel
theorem dX9_step_32 : decode cX9_step 32 = .ok (.putfield 48, 3) := by decide +kernel
theorem dX9_step_35 : decode cX9_step 35 = .ok (.aload_n 0, 1) := by decide +kernel
theorem dX9_step_36 : decode cX9_step 36 = .ok (.getfield 48, 3) := by decide +kernel
theorem dX9_step_39 : decode cX9_step 39 = .ok (.ifCond .le 5, 3) := by decide +kernel
theorem dX9_step_42 : decode cX9_step 42 = .ok (.iconst 0, 1) := by decide +kernel
theorem dX9_step_43 : decode cX9_step 43 = .ok (.ireturn, 1) := by decide +kernel
theorem dX9_step_44 : decode cX9_step 44 = .ok (.aload_n 0, 1) := by decide +kernel
theorem dX9_step_45 : decode cX9_step 45 = .ok (.iload_n 1, 1) := by decide +kernel
theorem dX9_step_46 : decode cX9_step 46 = .ok (.invokevirtual 208, 3) := by decide +kernel
theorem dX9_step_49 : decode cX9_step 49 = .ok (.ifCond .ne 10, 3) := by decide +kernel
theorem dX9_step_52 : decode cX9_step 52 = .ok (.iconst (-1), 1) := by decide +kernel
theorem dX9_step_53 : decode cX9_step 53 = .ok (.aload_n 0, 1) := by decide +kernel
theorem dX9_step_54 : decode cX9_step 54 = .ok (.getfield 73, 3) := by decide +kernel
theorem dX9_step_57 : decode cX9_step 57 = .ok (.isub, 1) := by decide +kernel
theorem dX9_step_58 : decode cX9_step 58 = .ok (.ireturn, 1) := by decide +kernel
theorem dX9_step_59 : decode cX9_step 59 = .ok (.aload_n 0, 1) := by decide +kernel
theorem dX9_step_60 : decode cX9_step 60 = .ok (.aload_n 0, 1) := by decide +kernel
theorem dX9_step_61 : decode cX9_step 61 = .ok (.invokevirtual 166, 3) := by decide +kernel
theorem dX9_step_64 : decode cX9_step 64 = .ok (.bipush 40, 2) := by decide +kernel
theorem dX9_step_66 : decode cX9_step 66 = .ok (.invokevirtual 214, 3) := by decide +kernel
theorem dX9_step_69 : decode cX9_step 69 = .ok (.istore_n 2, 1) := by decide +kernel
theorem dX9_step_70 : decode cX9_step 70 = .ok (.iload_n 2, 1) := by decide +kernel
theorem dX9_step_71 : decode cX9_step 71 = .ok (.ifCond .eq 20, 3) := by decide +kernel
theorem dX9_step_74 : decode cX9_step 74 = .ok (.aload_n 0, 1) := by decide +kernel
theorem dX9_step_75 : decode cX9_step 75 = .ok (.bipush 40, 2) := by decide +kernel
theorem dX9_step_77 : decode cX9_step 77 = .ok (.aload_n 0, 1) := by decide +kernel
theorem dX9_step_78 : decode cX9_step 78 = .ok (.invokevirtual 166, 3) := by decide +kernel
theorem dX9_step_81 : decode cX9_step 81 = .ok (.invokevirtual 214, 3) := by decide +kernel
theorem dX9_step_84 : decode cX9_step 84 = .ok (.ifCond .eq 7, 3) := by decide +kernel
theorem dX9_step_87 : decode cX9_step 87 = .ok (.iconst 1, 1) := by decide +kernel
theorem dX9_step_88 : decode cX9_step 88 = .ok (.goto 4, 3) := by decide +kernel
theorem dX9_step_91 : decode cX9_step 91 = .ok (.iconst 0, 1) := by decide +kernel
theorem dX9_step_92 : decode cX9_step 92 = .ok (.istore_n 3, 1) := by decide +kernel
theorem dX9_step_93 : decode cX9_step 93 = .ok (.iload_n 3, 1) := by decide +kernel
theorem dX9_step_94 : decode cX9_step 94 = .ok (.ifCond .eq 85, 3) := by decide +kernel
theorem dX9_step_97 : decode cX9_step 97 = .ok (.aload_n 0, 1) := by decide +kernel
theorem dX9_step_98 : decode cX9_step 98 = .ok (.invokevirtual 217, 3) := by decide +kernel
theorem dX9_step_101 : decode cX9_step 101 = .ok (.istore 4, 2) := by decide +kernel
theorem dX9_step_103 : decode cX9_step 103 = .ok (.iload 4, 2) := by decide +kernel
theorem dX9_step_105 : decode cX9_step 105 = .ok (.ifCond .le 37, 3) := by decide +kernel
theorem dX9_step_108 : decode cX9_step 108 = .ok (.aload_n 0, 1) := by decide +kernel
theorem dX9_step_109 : decode cX9_step 109 = .ok (.bipush 42, 2) := by decide +kernel
theorem dX9_step_111 : decode cX9_step 111 = .ok (.bipush 40, 2) := by decide +kernel
theorem dX9_step_113 : decode cX9_step 113 = .ok (.invokevirtual 196, 3) := by decide +kernel
theorem dX9_step_116 : decode cX9_step 116 = .ok (.ifCond .eq 26, 3) := by decide +kernel
theorem dX9_step_119 : decode cX9_step 119 = .ok (.aload_n 0, 1) := by decide +kernel
theorem dX9_step_120 : decode cX9_step 120 = .ok (.getfield 20, 3) := by decide +kernel
theorem dX9_step_123 : decode cX9_step 123 = .ok (.iload 4, 2) := by decide +kernel
theorem dX9_step_125 : decode cX9_step 125 = .ok (.iaload, 1) := by decide +kernel
theorem dX9_step_126 : decode cX9_step 126 = .ok (.bipush 10, 2) := by decide +kernel
theorem dX9_step_128 : decode cX9_step 128 = .ok (.if_icmp .ge 14, 3) := by decide +kernel
theorem dX9_step_131 : decode cX9_step 131 = .ok (.aload_n 0, 1) := by decide +kernel
theorem dX9_step_132 : decode cX9_step 132 = .ok (.getfield 20, 3) := by decide +kernel
theorem dX9_step_135 : decode cX9_step 135 = .ok (.iload 4, 2) := by decide +kernel
theorem dX9_step_137 : decode cX9_step 137 = .ok (.dup2, 1) := by decide +kernel
theorem dX9_step_138 : decode cX9_step 138 = .ok (.iaload, 1) := by decide +kernel
theorem dX9_step_139 : decode cX9_step 139 = .ok (.iconst 1, 1) := by decide +kernel
theorem dX9_step_140 : decode cX9_step 140 = .ok (.iadd, 1) := by decide +kernel
theorem dX9_step_141 : decode cX9_step 141 = .ok (.iastore, 1) := by decide +kernel
theorem dX9_step_142 : decode cX9_step 142 = .ok (.aload_n 0, 1) := by decide +kernel
theorem dX9_step_143 : decode cX9_step 143 = .ok (.bipush 40, 2) := by decide +kernel
theorem dX9_step_145 : decode cX9_step 145 = .ok (.aload_n 0, 1) := by decide +kernel
theorem dX9_step_146 : decode cX9_step 146 = .ok (.getfield 159, 3) := by decide +kernel
theorem dX9_step_149 : decode cX9_step 149 = .ok (.invokevirtual 180, 3) := by decide +kernel
theorem dX9_step_152 : decode cX9_step 152 = .ok (.aload_n 0, 1) := by decide +kernel
theorem dX9_step_153 : decode cX9_step 153 = .ok (.dup, 1) := by decide +kernel
theorem dX9_step_154 : decode cX9_step 154 = .ok (.getfield 159, 3) := by decide +kernel
theorem dX9_step_157 : decode cX9_step 157 = .ok (.iconst 1, 1) := by decide +kernel
theorem dX9_step_158 : decode cX9_step 158 = .ok (.iadd, 1) := by decide +kernel
theorem dX9_step_159 : decode cX9_step 159 = .ok (.putfield 159, 3) := by decide +kernel
theorem dX9_step_162 : decode cX9_step 162 = .ok (.aload_n 0, 1) := by decide +kernel
theorem dX9_step_163 : decode cX9_step 163 = .ok (.iconst 0, 1) := by decide +kernel
theorem dX9_step_164 : decode cX9_step 164 = .ok (.putfield 211, 3) := by decide +kernel
theorem dX9_step_167 : decode cX9_step 167 = .ok (.aload_n 0, 1) := by decide +kernel
theorem dX9_step_168 : decode cX9_step 168 = .ok (.getfield 17, 3) := by decide +kernel
theorem dX9_step_171 : decode cX9_step 171 = .ok (.iconst 1, 1) := by decide +kernel
theorem dX9_step_172 : decode cX9_step 172 = .ok (.dup2, 1) := by decide +kernel
theorem dX9_step_173 : decode cX9_step 173 = .ok (.iaload, 1) := by decide +kernel
theorem dX9_step_174 : decode cX9_step 174 = .ok (.iconst 1, 1) := by decide +kernel
theorem dX9_step_175 : decode cX9_step 175 = .ok (.iadd, 1) := by decide +kernel
theorem dX9_step_176 : decode cX9_step 176 = .ok (.iastore, 1) := by decide +kernel
theorem dX9_step_177 : decode cX9_step 177 = .ok (.iconst 1, 1) := by decide +kernel
theorem dX9_step_178 : decode cX9_step 178 = .ok (.ireturn, 1) := by decide +kernel
theorem dX9_step_179 : decode cX9_step 179 = .ok (.aload_n 0, 1) := by decide +kernel
theorem dX9_step_180 : decode cX9_step 180 = .ok (.bipush 40, 2) := by decide +kernel
theorem dX9_step_182 : decode cX9_step 182 = .ok (.bipush 41, 2) := by decide +kernel
theorem dX9_step_184 : decode cX9_step 184 = .ok (.invokevirtual 180, 3) := by decide +kernel
theorem dX9_step_187 : decode cX9_step 187 = .ok (.aload_n 0, 1) := by decide +kernel
theorem dX9_step_188 : decode cX9_step 188 = .ok (.iconst 1, 1) := by decide +kernel
theorem dX9_step_189 : decode cX9_step 189 = .ok (.putfield 211, 3) := by decide +kernel
theorem dX9_step_192 : decode cX9_step 192 = .ok (.aload_n 0, 1) := by decide +kernel
theorem dX9_step_193 : decode cX9_step 193 = .ok (.aload_n 0, 1) := by decide +kernel
theorem dX9_step_194 : decode cX9_step 194 = .ok (.invokevirtual 220, 3) := by decide +kernel
theorem dX9_step_197 : decode cX9_step 197 = .ok (.putfield 223, 3) := by decide +kernel
theorem dX9_step_200 : decode cX9_step 200 = .ok (.aload_n 0, 1) := by decide +kernel
theorem dX9_step_201 : decode cX9_step 201 = .ok (.getfield 223, 3) := by decide +kernel
theorem dX9_step_204 : decode cX9_step 204 = .ok (.iconst 3, 1) := by decide +kernel
theorem dX9_step_205 : decode cX9_step 205 = .ok (.if_icmp .ge 10, 3) := by decide +kernel
theorem dX9_step_208 : decode cX9_step 208 = .ok (.aload_n 0, 1) := by decide +kernel
theorem dX9_step_209 : decode cX9_step 209 = .ok (.getfield 223, 3) := by decide +kernel
theorem dX9_step_212 : decode cX9_step 212 = .ok (.goto 4, 3) := by decide +kernel
theorem dX9_step_215 : decode cX9_step 215 = .ok (.iconst 3, 1) := by decide +kernel
theorem dX9_step_216 : decode cX9_step 216 = .ok (.istore 4, 2) := by decide +kernel
theorem dX9_step_218 : decode cX9_step 218 = .ok (.iload 4, 2) := by decide +kernel
theorem dX9_step_220 : decode cX9_step 220 = .ok (.ifCond .le 24, 3) := by decide +kernel
theorem dX9_step_223 : decode cX9_step 223 = .ok (.aload_n 0, 1) := by decide +kernel
theorem dX9_step_224 : decode cX9_step 224 = .ok (.getfield 20, 3) := by decide +kernel
theorem dX9_step_227 : decode cX9_step 227 = .ok (.iload 4, 2) := by decide +kernel
theorem dX9_step_229 : decode cX9_step 229 = .ok (.iaload, 1) := by decide +kernel
theorem dX9_step_230 : decode cX9_step 230 = .ok (.ifCond .le 14, 3) := by decide +kernel
theorem dX9_step_233 : decode cX9_step 233 = .ok (.aload_n 0, 1) := by decide +kernel
theorem dX9_step_234 : decode cX9_step 234 = .ok (.getfield 20, 3) := by decide +kernel
theorem dX9_step_237 : decode cX9_step 237 = .ok (.iload 4, 2) := by decide +kernel
theorem dX9_step_239 : decode cX9_step 239 = .ok (.dup2, 1) := by decide +kernel
theorem dX9_step_240 : decode cX9_step 240 = .ok (.iaload, 1) := by decide +kernel
theorem dX9_step_241 : decode cX9_step 241 = .ok (.iconst 1, 1) := by decide +kernel
theorem dX9_step_242 : decode cX9_step 242 = .ok (.isub, 1) := by decide +kernel
theorem dX9_step_243 : decode cX9_step 243 = .ok (.iastore, 1) := by decide +kernel
theorem dX9_step_244 : decode cX9_step 244 = .ok (.aload_n 0, 1) := by decide +kernel
theorem dX9_step_245 : decode cX9_step 245 = .ok (.getfield 17, 3) := by decide +kernel
theorem dX9_step_248 : decode cX9_step 248 = .ok (.iload_n 2, 1) := by decide +kernel
theorem dX9_step_249 : decode cX9_step 249 = .ok (.ifCond .eq 7, 3) := by decide +kernel
theorem dX9_step_252 : decode cX9_step 252 = .ok (.iconst 3, 1) := by decide +kernel
theorem dX9_step_253 : decode cX9_step 253 = .ok (.goto 4, 3) := by decide +kernel
theorem dX9_step_256 : decode cX9_step 256 = .ok (.iconst 2, 1) := by decide +kernel
theorem dX9_step_257 : decode cX9_step 257 = .ok (.dup2, 1) := by decide +kernel
theorem dX9_step_258 : decode cX9_step 258 = .ok (.iaload, 1) := by decide +kernel
theorem dX9_step_259 : decode cX9_step 259 = .ok (.iconst 1, 1) := by decide +kernel
theorem dX9_step_260 : decode cX9_step 260 = .ok (.iadd, 1) := by decide +kernel
theorem dX9_step_261 : decode cX9_step 261 = .ok (.iastore, 1) := by decide +kernel
theorem dX9_step_262 : decode cX9_step 262 = .ok (.iload_n 2, 1) := by decide +kernel
theorem dX9_step_263 : decode cX9_step 263 = .ok (.ifCond .eq 7, 3) := by decide +kernel
theorem dX9_step_266 : decode cX9_step 266 = .ok (.iconst 2, 1) := by decide +kernel
theorem dX9_step_267 : decode cX9_step 267 = .ok (.goto 4, 3) := by decide +kernel
theorem dX9_step_270 : decode cX9_step 270 = .ok (.iconst 0, 1) := by decide +kernel
theorem dX9_step_271 : decode cX9_step 271 = .ok (.ireturn, 1) := by decide +kernel
set_option maxHeartbeats 4000000 in
set_option maxRecDepth 100000 in
/-- TutorLinesModel.step -/
theorem c_X9_step {l : Launch} {G : tm_G} {Hb : Heap} {sh : tm_sh} {M : tm_M} {o : Nat} {z : tl_Z} (hz : MLv sh M o z) (hI : ZI z) {w : Int} (hw : inI w) : Met l yX9_step (tws yX9_step cX9_step 5 (some .int)) ({ frames := 7, cells := 0, slots := 0, locals := 175 }) (va_Pc [.ref o, ji w] (tm_St G Hb sh M)) (tm_Qi G Hb sh (fun x M1 => mI M1 o 0 = (if ¬ (0 ≤ w ∧ w ≤ 80) then 1 else if (zn z = 0 ∨ zn z = 40) then 2 else 0) ∧ (¬ ((0 ≤ w ∧ w ≤ 80) ∧ ¬ (zn z = 0 ∨ zn z = 40)) → MLp sh o M z M1) ∧ ((0 ≤ w ∧ w ≤ 80) → ¬ (zn z = 0 ∨ zn z = 40) → x = (sp_step z w.toNat).1 ∧ MLp sh o M (sp_step z w.toNat).2 M1))) 0 0 (tm_A Hb) := by
  refine tm_begin (by decide) (Nat.le_of_ble_eq_true rfl) (fun p e s m below meth c ls hx hb hr hml hown htw hlk hnm hK hW hl => ?_)
  have hS : va_S (tm_A Hb) s.heap s.heap [] := va_S.rf
  have hl : lv_has ls 5 [(0, .ref o), (1, ji w)] := hl
  have h40 := hI.2.1
  obtain ⟨b0, ⟨t1, t2, t6, t7, t9, t12, t13, t14, t15, t16, t17, t24⟩, ⟨u1, u2, u3, u4, u5, u6, u7, u8, u9, u10, u11, u12⟩⟩ := hz.1
  have e3 := hz.2.2.1
  have s1 : ∀ (z1 : tl_Z) (M1 : tm_M) (H : Heap) (locs : List Loc) (ls : Array Slot), (0 ≤ w ∧ w ≤ 80) → ¬ (zn z = 0 ∨ zn z = 40) → mI M1 o 0 = 0 → MLp sh o M z1 M1 → sp_step z w.toNat = (2, zan z1 2) → tm_W G Hb sh M1 H → va_S (tm_A Hb) s.heap H locs → lv_has ls 5 [(0, .ref o), (2, ji 1)] → W p l e ({ frames := 7, cells := 0, slots := 0, locals := 175 }) s m [.ref o, ji w].toArray below meth c H locs 0 0 (MQ below (tm_Qi G Hb sh (fun x M1 => mI M1 o 0 = (if ¬ (0 ≤ w ∧ w ≤ 80) then 1 else if (zn z = 0 ∨ zn z = 40) then 2 else 0) ∧ (¬ ((0 ≤ w ∧ w ≤ 80) ∧ ¬ (zn z = 0 ∨ zn z = 40)) → MLp sh o M z M1) ∧ ((0 ≤ w ∧ w ≤ 80) → ¬ (zn z = 0 ∨ zn z = 40) → x = (sp_step z w.toNat).1 ∧ MLp sh o M (sp_step z w.toNat).2 M1))) [.ref o, ji w].toArray s 0 0 (tm_A Hb)) (F0 m 244 ls []) := by
    intro z1 M1 H locs ls hc hfl h00 hP ez hW hS hl
    obtain ⟨b0a, ⟨t1a, t2a, t6a, t7a, t9a, t12a, t13a, t14a, t15a, t16a, t17a, t24a⟩, ⟨u1a, u2a, u3a, u4a, u5a, u6a, u7a, u8a, u9a, u10a, u11a, u12a⟩⟩ := hP.1.1
    refine lv_aload_n hx hb dX9_step_244 rfl (lv_at hl 0 rfl) ?_
    refine gf_X9_17 hx hb htw hown hK hW (by assumption) (by assumption) dX9_step_245 ?_
    refine lv_iload_n hx hb dX9_step_248 rfl (lv_at hl 1 rfl) ?_
    refine ti_if_eq (tgt := 256) hx hb dX9_step_249 (by decide) (by decide) (fun h249 => ?_) (fun h249 => ?_)
    · exact absurd h249 (by decide)
    · refine ti_iconst hx hb dX9_step_252 ?_
      refine lv_goto (tgt := 257) hx hb dX9_step_253 (by decide) ?_
      refine lv_dup2_11 hx hb dX9_step_257 rfl rfl ?_
      refine tm_iald hx hb hK hW (by assumption) (by decide) (by decide) (by decide) dX9_step_258 ?_
      refine ti_iconst hx hb dX9_step_259 ?_
      refine ti_iadd hx hb dX9_step_260 ?_
      refine tm_iast hx hb hK hW hS (by assumption) (by decide) (by decide) (by decide) dX9_step_261 (fun H locs hW hS => ?_)
      refine lv_iload_n hx hb dX9_step_262 rfl (lv_at hl 1 rfl) ?_
      refine ti_if_eq (tgt := 270) hx hb dX9_step_263 (by decide) (by decide) (fun h263 => ?_) (fun h263 => ?_)
      · exact absurd h263 (by decide)
      · refine ti_iconst hx hb dX9_step_266 ?_
        refine lv_goto (tgt := 271) hx hb dX9_step_267 (by decide) ?_
        exact tm_iret hx hb hr hlk hK hW hS ⟨(tm_up_a _ _ (by omega)).trans (h00.trans (by rw [if_neg (fun q => q hc), if_neg hfl])), fun q => absurd ⟨hc, hfl⟩ q, fun _ _ => ⟨by rw [ez], by rw [ez]; exact MLp_tr hP (ML_an hP.1 (by omega))⟩⟩ dX9_step_271
  have s0 : ∀ (z1 : tl_Z) (M1 : tm_M) (H : Heap) (locs : List Loc) (ls : Array Slot), (0 ≤ w ∧ w ≤ 80) → ¬ (zn z = 0 ∨ zn z = 40) → mI M1 o 0 = 0 → MLp sh o M z1 M1 → sp_step z w.toNat = (0, zan z1 0) → tm_W G Hb sh M1 H → va_S (tm_A Hb) s.heap H locs → lv_has ls 5 [(0, .ref o), (2, ji 0)] → W p l e ({ frames := 7, cells := 0, slots := 0, locals := 175 }) s m [.ref o, ji w].toArray below meth c H locs 0 0 (MQ below (tm_Qi G Hb sh (fun x M1 => mI M1 o 0 = (if ¬ (0 ≤ w ∧ w ≤ 80) then 1 else if (zn z = 0 ∨ zn z = 40) then 2 else 0) ∧ (¬ ((0 ≤ w ∧ w ≤ 80) ∧ ¬ (zn z = 0 ∨ zn z = 40)) → MLp sh o M z M1) ∧ ((0 ≤ w ∧ w ≤ 80) → ¬ (zn z = 0 ∨ zn z = 40) → x = (sp_step z w.toNat).1 ∧ MLp sh o M (sp_step z w.toNat).2 M1))) [.ref o, ji w].toArray s 0 0 (tm_A Hb)) (F0 m 244 ls []) := by
    intro z1 M1 H locs ls hc hfl h00 hP ez hW hS hl
    obtain ⟨b0a, ⟨t1a, t2a, t6a, t7a, t9a, t12a, t13a, t14a, t15a, t16a, t17a, t24a⟩, ⟨u1a, u2a, u3a, u4a, u5a, u6a, u7a, u8a, u9a, u10a, u11a, u12a⟩⟩ := hP.1.1
    refine lv_aload_n hx hb dX9_step_244 rfl (lv_at hl 0 rfl) ?_
    refine gf_X9_17 hx hb htw hown hK hW (by assumption) (by assumption) dX9_step_245 ?_
    refine lv_iload_n hx hb dX9_step_248 rfl (lv_at hl 1 rfl) ?_
    refine ti_if_eq (tgt := 256) hx hb dX9_step_249 (by decide) (by decide) (fun h249 => ?_) (fun h249 => ?_)
    · refine ti_iconst hx hb dX9_step_256 ?_
      refine lv_dup2_11 hx hb dX9_step_257 rfl rfl ?_
      refine tm_iald hx hb hK hW (by assumption) (by decide) (by decide) (by decide) dX9_step_258 ?_
      refine ti_iconst hx hb dX9_step_259 ?_
      refine ti_iadd hx hb dX9_step_260 ?_
      refine tm_iast hx hb hK hW hS (by assumption) (by decide) (by decide) (by decide) dX9_step_261 (fun H locs hW hS => ?_)
      refine lv_iload_n hx hb dX9_step_262 rfl (lv_at hl 1 rfl) ?_
      refine ti_if_eq (tgt := 270) hx hb dX9_step_263 (by decide) (by decide) (fun h263 => ?_) (fun h263 => ?_)
      · refine ti_iconst hx hb dX9_step_270 ?_
        exact tm_iret hx hb hr hlk hK hW hS ⟨(tm_up_a _ _ (by omega)).trans (h00.trans (by rw [if_neg (fun q => q hc), if_neg hfl])), fun q => absurd ⟨hc, hfl⟩ q, fun _ _ => ⟨by rw [ez], by rw [ez]; exact MLp_tr hP (ML_an hP.1 (by omega))⟩⟩ dX9_step_271
      · exact absurd rfl h263
    · exact absurd rfl h249
  have f1 : ∀ (Lw : tl_L) (M1 : tm_M) (H : Heap) (locs : List Loc) (ls : Array Slot), (0 ≤ w ∧ w ≤ 80) → ¬ (zn z = 0 ∨ zn z = 40) → mI M1 o 0 = 0 → MLp sh o M z M1 → rl M1 o 40 = Lw → lok Lw → sp_step z w.toNat = (2, zref (zan (zsw z Lw) 2) Lw) → tm_W G Hb sh M1 H → va_S (tm_A Hb) s.heap H locs → lv_has ls 5 [(0, .ref o), (2, ji 1)] → W p l e ({ frames := 7, cells := 0, slots := 0, locals := 175 }) s m [.ref o, ji w].toArray below meth c H locs 0 0 (MQ below (tm_Qi G Hb sh (fun x M1 => mI M1 o 0 = (if ¬ (0 ≤ w ∧ w ≤ 80) then 1 else if (zn z = 0 ∨ zn z = 40) then 2 else 0) ∧ (¬ ((0 ≤ w ∧ w ≤ 80) ∧ ¬ (zn z = 0 ∨ zn z = 40)) → MLp sh o M z M1) ∧ ((0 ≤ w ∧ w ≤ 80) → ¬ (zn z = 0 ∨ zn z = 40) → x = (sp_step z w.toNat).1 ∧ MLp sh o M (sp_step z w.toNat).2 M1))) [.ref o, ji w].toArray s 0 0 (tm_A Hb)) (F0 m 179 ls []) := by
    intro Lw M1 H locs ls hc hfl h00 hP h40r hlw ez hW hS hl
    have hn0 : 0 < zn z := by omega
    have er := tl_exp_r (zl z (zn z - 1)) Lw 6 1 (by decide) (by decide)
    have zpr := hI.2.2.2.2.2
    obtain ⟨b0a, ⟨t1a, t2a, t6a, t7a, t9a, t12a, t13a, t14a, t15a, t16a, t17a, t24a⟩, ⟨u1a, u2a, u3a, u4a, u5a, u6a, u7a, u8a, u9a, u10a, u11a, u12a⟩⟩ := hP.1.1
    refine lv_aload_n hx hb dX9_step_179 rfl (lv_at hl 0 rfl) ?_
    refine ti_bipush hx hb dX9_step_180 (by decide) ?_
    refine ti_bipush hx hb dX9_step_182 (by decide) ?_
    refine tm_callv (cs_X9_180 hx hb hml hown htw hK hW (by assumption) (c_X9_copyLine (i := 40) (j := 41) hP.1.1 (by decide) (by decide) (by decide)) ⟨rfl, rfl, Nat.le_of_ble_eq_true rfl, Nat.le_of_ble_eq_true rfl⟩ hl.1 (Nat.le_of_ble_eq_true rfl) dX9_step_184 ⟨Nat.le_of_ble_eq_true rfl, Nat.le_of_ble_eq_true rfl⟩) hS (fun M184 H locs hp184 hW hS => ?_)
    obtain ⟨cc, f184⟩ := hp184
    rw [h40r] at cc
    refine lv_aload_n hx hb dX9_step_187 rfl (lv_at hl 0 rfl) ?_
    refine ti_iconst hx hb dX9_step_188 ?_
    refine pf_X9_211 hx hb htw hown hK hW (by assumption) hS (Or.inr rfl) dX9_step_189 (fun H locs hW hS => ?_)
    refine lv_aload_n hx hb dX9_step_192 rfl (lv_at hl 0 rfl) ?_
    refine lv_aload_n hx hb dX9_step_193 rfl (lv_at hl 0 rfl) ?_
    refine tm_calli (cs_X9_220 hx hb hml hown htw hK hW (by assumption) (c_X9_explained (N := zn z) (v := zl z (zn z - 1)) ⟨isMo_m hP.1.1 f184.1, (tm_up_k _ _ (by decide)).trans ((f184.2 _ _ (by omega)).1.trans hP.1.2.2.1), hn0, h40⟩ ((fq_rl f184 (fun k hk => by omega)).trans (MLv_l hP.1 hn0)) (ZI_l hI hn0).1 (ZI_l hI hn0).2 (by rw [show rl (sI M184 o 4 1) o 41 = Lw from cc]; exact hlw)) ⟨rfl, rfl, Nat.le_of_ble_eq_true rfl, Nat.le_of_ble_eq_true rfl⟩ hl.1 (Nat.le_of_ble_eq_true rfl) dX9_step_194 ⟨Nat.le_of_ble_eq_true rfl, Nat.le_of_ble_eq_true rfl⟩) hS (fun x194 M194 H locs hp194 hW hS => ?_)
    obtain ⟨x194, f194⟩ := hp194
    rw [show rl (sI M184 o 4 1) o 41 = Lw from cc] at x194
    have PR := MLp_tr hP (ML_rf (e := tl_exp (zl z (zn z - 1)) Lw 6 1) hP.1 h40 f184 cc f194 rfl)
    rw [x194]
    refine pf_X9_223 hx hb htw hown hK hW (by assumption) hS dX9_step_197 (fun H locs hW hS => ?_)
    have k5 : mI (sI M194 o 5 (tl_exp (zl z (zn z - 1)) Lw 6 1)) o 5 = tl_exp (zl z (zn z - 1)) Lw 6 1 := tm_up_s _ _ _ _
    have k0 : mI (sI M194 o 5 (tl_exp (zl z (zn z - 1)) Lw 6 1)) o 0 = 0 := (tm_up_k _ _ (by decide)).trans ((f194.2 _ _ (by unfold mP; omega)).1.trans ((tm_up_k _ _ (by decide)).trans ((f184.2 _ _ (by omega)).1.trans h00)))
    generalize (sI M194 o 5 (tl_exp (zl z (zn z - 1)) Lw 6 1)) = A at hW PR k5 k0
    obtain ⟨b0b, ⟨t1b, t2b, t6b, t7b, t9b, t12b, t13b, t14b, t15b, t16b, t17b, t24b⟩, ⟨u1b, u2b, u3b, u4b, u5b, u6b, u7b, u8b, u9b, u10b, u11b, u12b⟩⟩ := PR.1.1
    have kp := PR.1.2.2.2.2.2.2.1
    refine lv_aload_n hx hb dX9_step_200 rfl (lv_at hl 0 rfl) ?_
    refine gf_X9_223 hx hb htw hown hK hW (by assumption) dX9_step_201 ?_
    rw [k5]
    refine ti_iconst hx hb dX9_step_204 ?_
    refine ti_icmp_ge (tgt := 215) hx hb dX9_step_205 (by decide) (by omega) (by decide) (fun h205 => ?_) (fun h205 => ?_)
    · refine ti_iconst hx hb dX9_step_215 ?_
      refine lv_istore (lv' := [(4, _), (0, _), (2, _)]) hx hb dX9_step_216 hl (by decide) rfl (fun ls hl => ?_)
      have e3k : 0 < tl_exp (zl z (zn z - 1)) Lw 6 1 := by omega
      have kk := kp 3 (by decide) (by decide)
      have zz := zpr 3 (by decide) (by decide)
      refine lv_iload hx hb dX9_step_218 (lv_at hl 0 rfl) ?_
      refine ti_if_le (tgt := 244) hx hb dX9_step_220 (by decide) (by decide) (fun h220 => ?_) (fun h220 => ?_)
      · exact absurd h220 (by decide)
      · refine lv_aload_n hx hb dX9_step_223 rfl (lv_at hl 1 rfl) ?_
        refine gf_X9_20 hx hb htw hown hK hW (by assumption) (by assumption) dX9_step_224 ?_
        refine lv_iload hx hb dX9_step_227 (lv_at hl 0 rfl) ?_
        refine tm_iald hx hb hK hW (by assumption) (by decide) (by decide) (by decide) dX9_step_229 ?_
        refine ti_if_le (tgt := 244) hx hb dX9_step_230 (by decide) (by rw [show mI A (o + 4) (3 : Int).toNat = zp z 3 from kk]; omega) (fun h230 => ?_) (fun h230 => ?_)
        · exact s1 (zpt (zrf0 z Lw) 3 0) A _ _ _ hc hfl k0 (ML_ptz PR (by show zp z 3 = 0; have : mI A (o + 4) 3 = zp z 3 := kk; have h230 : mI A (o + 4) 3 ≤ 0 := h230; omega)) (by rw [ez, zref_k (k := 3) (v := 0) e3k (tl_sk1 (by omega)) (by have q1 : mI A (o + 4) 3 = zp z 3 := kk; have q2 : mI A (o + 4) 3 ≤ 0 := h230; exact (if_pos (by omega)).symm)]) hW hS (lv_sub hl [1, 2] rfl)
        · refine lv_aload_n hx hb dX9_step_233 rfl (lv_at hl 1 rfl) ?_
          refine gf_X9_20 hx hb htw hown hK hW (by assumption) (by assumption) dX9_step_234 ?_
          refine lv_iload hx hb dX9_step_237 (lv_at hl 0 rfl) ?_
          refine lv_dup2_11 hx hb dX9_step_239 rfl rfl ?_
          refine tm_iald hx hb hK hW (by assumption) (by decide) (by decide) (by decide) dX9_step_240 ?_
          refine ti_iconst hx hb dX9_step_241 ?_
          refine ti_isub hx hb dX9_step_242 ?_
          refine tm_iast hx hb hK hW hS (by assumption) (by decide) (by decide) (by decide) dX9_step_243 (fun H locs hW hS => ?_)
          have q1 : mI A (o + 4) (3 : Int).toNat = zp z 3 := kk
          rw [q1] at hW
          exact s1 (zpt (zrf0 z Lw) 3 (zp z 3 - 1)) _ _ _ _ hc hfl ((tm_up_a _ _ (by omega)).trans k0) (MLp_tr PR (ML_pt PR.1)) (by rw [ez, zref_k (k := 3) (v := (zp z 3 - 1)) e3k (tl_sk1 (by omega)) (by have q1 : mI A (o + 4) 3 = zp z 3 := kk; have q2 : ¬ mI A (o + 4) 3 ≤ 0 := h230; exact (if_neg (by omega)).symm)]) hW hS (lv_sub hl [1, 2] rfl)
    · refine lv_aload_n hx hb dX9_step_208 rfl (lv_at hl 0 rfl) ?_
      refine gf_X9_223 hx hb htw hown hK hW (by assumption) dX9_step_209 ?_
      rw [k5]
      refine lv_goto (tgt := 216) hx hb dX9_step_212 (by decide) ?_
      refine lv_istore (lv' := [(4, _), (0, _), (2, _)]) hx hb dX9_step_216 hl (by decide) rfl (fun ls hl => ?_)
      refine lv_iload hx hb dX9_step_218 (lv_at hl 0 rfl) ?_
      refine ti_if_le (tgt := 244) hx hb dX9_step_220 (by decide) (by omega) (fun h220 => ?_) (fun h220 => ?_)
      · exact s1 (zrf0 z Lw) A _ _ _ hc hfl k0 PR (by rw [ez, zref_0 (by omega)]) hW hS (lv_sub hl [1, 2] rfl)
      · have e3k : 0 < tl_exp (zl z (zn z - 1)) Lw 6 1 := by omega
        have kk := kp (tl_exp (zl z (zn z - 1)) Lw 6 1).toNat (by omega) (by omega)
        have zz := zpr (tl_exp (zl z (zn z - 1)) Lw 6 1).toNat (by omega) (by omega)
        have kq : zp (zrf0 z Lw) (tl_exp (zl z (zn z - 1)) Lw 6 1).toNat = zp z (tl_exp (zl z (zn z - 1)) Lw 6 1).toNat := rfl
        refine lv_aload_n hx hb dX9_step_223 rfl (lv_at hl 1 rfl) ?_
        refine gf_X9_20 hx hb htw hown hK hW (by assumption) (by assumption) dX9_step_224 ?_
        refine lv_iload hx hb dX9_step_227 (lv_at hl 0 rfl) ?_
        refine tm_iald hx hb hK hW (by assumption) (by omega) (by omega) (by decide) dX9_step_229 ?_
        refine ti_if_le (tgt := 244) hx hb dX9_step_230 (by decide) (by rw [show mI A (o + 4) (tl_exp (zl z (zn z - 1)) Lw 6 1).toNat = zp z (tl_exp (zl z (zn z - 1)) Lw 6 1).toNat from kk]; omega) (fun h230 => ?_) (fun h230 => ?_)
        · exact s1 (zpt (zrf0 z Lw) (tl_exp (zl z (zn z - 1)) Lw 6 1).toNat 0) A _ _ _ hc hfl k0 (ML_ptz PR (by show zp z (tl_exp (zl z (zn z - 1)) Lw 6 1).toNat = 0; have : mI A (o + 4) (tl_exp (zl z (zn z - 1)) Lw 6 1).toNat = zp z (tl_exp (zl z (zn z - 1)) Lw 6 1).toNat := kk; have h230 : mI A (o + 4) (tl_exp (zl z (zn z - 1)) Lw 6 1).toNat ≤ 0 := h230; omega)) (by rw [ez, zref_k (k := (tl_exp (zl z (zn z - 1)) Lw 6 1).toNat) (v := 0) e3k (tl_sk2 (by omega)) (by have q1 : mI A (o + 4) (tl_exp (zl z (zn z - 1)) Lw 6 1).toNat = zp z (tl_exp (zl z (zn z - 1)) Lw 6 1).toNat := kk; have q2 : mI A (o + 4) (tl_exp (zl z (zn z - 1)) Lw 6 1).toNat ≤ 0 := h230; exact (if_pos (by omega)).symm)]) hW hS (lv_sub hl [1, 2] rfl)
        · refine lv_aload_n hx hb dX9_step_233 rfl (lv_at hl 1 rfl) ?_
          refine gf_X9_20 hx hb htw hown hK hW (by assumption) (by assumption) dX9_step_234 ?_
          refine lv_iload hx hb dX9_step_237 (lv_at hl 0 rfl) ?_
          refine lv_dup2_11 hx hb dX9_step_239 rfl rfl ?_
          refine tm_iald hx hb hK hW (by assumption) (by omega) (by omega) (by decide) dX9_step_240 ?_
          refine ti_iconst hx hb dX9_step_241 ?_
          refine ti_isub hx hb dX9_step_242 ?_
          refine tm_iast hx hb hK hW hS (by assumption) (by omega) (by omega) (by decide) dX9_step_243 (fun H locs hW hS => ?_)
          have q1 : mI A (o + 4) (tl_exp (zl z (zn z - 1)) Lw 6 1).toNat = zp z (tl_exp (zl z (zn z - 1)) Lw 6 1).toNat := kk
          rw [q1] at hW
          exact s1 (zpt (zrf0 z Lw) (tl_exp (zl z (zn z - 1)) Lw 6 1).toNat (zp z (tl_exp (zl z (zn z - 1)) Lw 6 1).toNat - 1)) _ _ _ _ hc hfl ((tm_up_a _ _ (by omega)).trans k0) (MLp_tr PR (ML_pt PR.1)) (by rw [ez, zref_k (k := (tl_exp (zl z (zn z - 1)) Lw 6 1).toNat) (v := (zp z (tl_exp (zl z (zn z - 1)) Lw 6 1).toNat - 1)) e3k (tl_sk2 (by omega)) (by have q1 : mI A (o + 4) (tl_exp (zl z (zn z - 1)) Lw 6 1).toNat = zp z (tl_exp (zl z (zn z - 1)) Lw 6 1).toNat := kk; have q2 : ¬ mI A (o + 4) (tl_exp (zl z (zn z - 1)) Lw 6 1).toNat ≤ 0 := h230; exact (if_neg (by omega)).symm)]) hW hS (lv_sub hl [1, 2] rfl)
  have f0 : ∀ (Lw : tl_L) (M1 : tm_M) (H : Heap) (locs : List Loc) (ls : Array Slot), (0 ≤ w ∧ w ≤ 80) → ¬ (zn z = 0 ∨ zn z = 40) → mI M1 o 0 = 0 → MLp sh o M z M1 → rl M1 o 40 = Lw → lok Lw → sp_step z w.toNat = (0, zref (zan (zsw z Lw) 0) Lw) → tm_W G Hb sh M1 H → va_S (tm_A Hb) s.heap H locs → lv_has ls 5 [(0, .ref o), (2, ji 0)] → W p l e ({ frames := 7, cells := 0, slots := 0, locals := 175 }) s m [.ref o, ji w].toArray below meth c H locs 0 0 (MQ below (tm_Qi G Hb sh (fun x M1 => mI M1 o 0 = (if ¬ (0 ≤ w ∧ w ≤ 80) then 1 else if (zn z = 0 ∨ zn z = 40) then 2 else 0) ∧ (¬ ((0 ≤ w ∧ w ≤ 80) ∧ ¬ (zn z = 0 ∨ zn z = 40)) → MLp sh o M z M1) ∧ ((0 ≤ w ∧ w ≤ 80) → ¬ (zn z = 0 ∨ zn z = 40) → x = (sp_step z w.toNat).1 ∧ MLp sh o M (sp_step z w.toNat).2 M1))) [.ref o, ji w].toArray s 0 0 (tm_A Hb)) (F0 m 179 ls []) := by
    intro Lw M1 H locs ls hc hfl h00 hP h40r hlw ez hW hS hl
    have hn0 : 0 < zn z := by omega
    have er := tl_exp_r (zl z (zn z - 1)) Lw 6 1 (by decide) (by decide)
    have zpr := hI.2.2.2.2.2
    obtain ⟨b0a, ⟨t1a, t2a, t6a, t7a, t9a, t12a, t13a, t14a, t15a, t16a, t17a, t24a⟩, ⟨u1a, u2a, u3a, u4a, u5a, u6a, u7a, u8a, u9a, u10a, u11a, u12a⟩⟩ := hP.1.1
    refine lv_aload_n hx hb dX9_step_179 rfl (lv_at hl 0 rfl) ?_
    refine ti_bipush hx hb dX9_step_180 (by decide) ?_
    refine ti_bipush hx hb dX9_step_182 (by decide) ?_
    refine tm_callv (cs_X9_180 hx hb hml hown htw hK hW (by assumption) (c_X9_copyLine (i := 40) (j := 41) hP.1.1 (by decide) (by decide) (by decide)) ⟨rfl, rfl, Nat.le_of_ble_eq_true rfl, Nat.le_of_ble_eq_true rfl⟩ hl.1 (Nat.le_of_ble_eq_true rfl) dX9_step_184 ⟨Nat.le_of_ble_eq_true rfl, Nat.le_of_ble_eq_true rfl⟩) hS (fun M184 H locs hp184 hW hS => ?_)
    obtain ⟨cc, f184⟩ := hp184
    rw [h40r] at cc
    refine lv_aload_n hx hb dX9_step_187 rfl (lv_at hl 0 rfl) ?_
    refine ti_iconst hx hb dX9_step_188 ?_
    refine pf_X9_211 hx hb htw hown hK hW (by assumption) hS (Or.inr rfl) dX9_step_189 (fun H locs hW hS => ?_)
    refine lv_aload_n hx hb dX9_step_192 rfl (lv_at hl 0 rfl) ?_
    refine lv_aload_n hx hb dX9_step_193 rfl (lv_at hl 0 rfl) ?_
    refine tm_calli (cs_X9_220 hx hb hml hown htw hK hW (by assumption) (c_X9_explained (N := zn z) (v := zl z (zn z - 1)) ⟨isMo_m hP.1.1 f184.1, (tm_up_k _ _ (by decide)).trans ((f184.2 _ _ (by omega)).1.trans hP.1.2.2.1), hn0, h40⟩ ((fq_rl f184 (fun k hk => by omega)).trans (MLv_l hP.1 hn0)) (ZI_l hI hn0).1 (ZI_l hI hn0).2 (by rw [show rl (sI M184 o 4 1) o 41 = Lw from cc]; exact hlw)) ⟨rfl, rfl, Nat.le_of_ble_eq_true rfl, Nat.le_of_ble_eq_true rfl⟩ hl.1 (Nat.le_of_ble_eq_true rfl) dX9_step_194 ⟨Nat.le_of_ble_eq_true rfl, Nat.le_of_ble_eq_true rfl⟩) hS (fun x194 M194 H locs hp194 hW hS => ?_)
    obtain ⟨x194, f194⟩ := hp194
    rw [show rl (sI M184 o 4 1) o 41 = Lw from cc] at x194
    have PR := MLp_tr hP (ML_rf (e := tl_exp (zl z (zn z - 1)) Lw 6 1) hP.1 h40 f184 cc f194 rfl)
    rw [x194]
    refine pf_X9_223 hx hb htw hown hK hW (by assumption) hS dX9_step_197 (fun H locs hW hS => ?_)
    have k5 : mI (sI M194 o 5 (tl_exp (zl z (zn z - 1)) Lw 6 1)) o 5 = tl_exp (zl z (zn z - 1)) Lw 6 1 := tm_up_s _ _ _ _
    have k0 : mI (sI M194 o 5 (tl_exp (zl z (zn z - 1)) Lw 6 1)) o 0 = 0 := (tm_up_k _ _ (by decide)).trans ((f194.2 _ _ (by unfold mP; omega)).1.trans ((tm_up_k _ _ (by decide)).trans ((f184.2 _ _ (by omega)).1.trans h00)))
    generalize (sI M194 o 5 (tl_exp (zl z (zn z - 1)) Lw 6 1)) = A at hW PR k5 k0
    obtain ⟨b0b, ⟨t1b, t2b, t6b, t7b, t9b, t12b, t13b, t14b, t15b, t16b, t17b, t24b⟩, ⟨u1b, u2b, u3b, u4b, u5b, u6b, u7b, u8b, u9b, u10b, u11b, u12b⟩⟩ := PR.1.1
    have kp := PR.1.2.2.2.2.2.2.1
    refine lv_aload_n hx hb dX9_step_200 rfl (lv_at hl 0 rfl) ?_
    refine gf_X9_223 hx hb htw hown hK hW (by assumption) dX9_step_201 ?_
    rw [k5]
    refine ti_iconst hx hb dX9_step_204 ?_
    refine ti_icmp_ge (tgt := 215) hx hb dX9_step_205 (by decide) (by omega) (by decide) (fun h205 => ?_) (fun h205 => ?_)
    · refine ti_iconst hx hb dX9_step_215 ?_
      refine lv_istore (lv' := [(4, _), (0, _), (2, _)]) hx hb dX9_step_216 hl (by decide) rfl (fun ls hl => ?_)
      have e3k : 0 < tl_exp (zl z (zn z - 1)) Lw 6 1 := by omega
      have kk := kp 3 (by decide) (by decide)
      have zz := zpr 3 (by decide) (by decide)
      refine lv_iload hx hb dX9_step_218 (lv_at hl 0 rfl) ?_
      refine ti_if_le (tgt := 244) hx hb dX9_step_220 (by decide) (by decide) (fun h220 => ?_) (fun h220 => ?_)
      · exact absurd h220 (by decide)
      · refine lv_aload_n hx hb dX9_step_223 rfl (lv_at hl 1 rfl) ?_
        refine gf_X9_20 hx hb htw hown hK hW (by assumption) (by assumption) dX9_step_224 ?_
        refine lv_iload hx hb dX9_step_227 (lv_at hl 0 rfl) ?_
        refine tm_iald hx hb hK hW (by assumption) (by decide) (by decide) (by decide) dX9_step_229 ?_
        refine ti_if_le (tgt := 244) hx hb dX9_step_230 (by decide) (by rw [show mI A (o + 4) (3 : Int).toNat = zp z 3 from kk]; omega) (fun h230 => ?_) (fun h230 => ?_)
        · exact s0 (zpt (zrf0 z Lw) 3 0) A _ _ _ hc hfl k0 (ML_ptz PR (by show zp z 3 = 0; have : mI A (o + 4) 3 = zp z 3 := kk; have h230 : mI A (o + 4) 3 ≤ 0 := h230; omega)) (by rw [ez, zref_k (k := 3) (v := 0) e3k (tl_sk1 (by omega)) (by have q1 : mI A (o + 4) 3 = zp z 3 := kk; have q2 : mI A (o + 4) 3 ≤ 0 := h230; exact (if_pos (by omega)).symm)]) hW hS (lv_sub hl [1, 2] rfl)
        · refine lv_aload_n hx hb dX9_step_233 rfl (lv_at hl 1 rfl) ?_
          refine gf_X9_20 hx hb htw hown hK hW (by assumption) (by assumption) dX9_step_234 ?_
          refine lv_iload hx hb dX9_step_237 (lv_at hl 0 rfl) ?_
          refine lv_dup2_11 hx hb dX9_step_239 rfl rfl ?_
          refine tm_iald hx hb hK hW (by assumption) (by decide) (by decide) (by decide) dX9_step_240 ?_
          refine ti_iconst hx hb dX9_step_241 ?_
          refine ti_isub hx hb dX9_step_242 ?_
          refine tm_iast hx hb hK hW hS (by assumption) (by decide) (by decide) (by decide) dX9_step_243 (fun H locs hW hS => ?_)
          have q1 : mI A (o + 4) (3 : Int).toNat = zp z 3 := kk
          rw [q1] at hW
          exact s0 (zpt (zrf0 z Lw) 3 (zp z 3 - 1)) _ _ _ _ hc hfl ((tm_up_a _ _ (by omega)).trans k0) (MLp_tr PR (ML_pt PR.1)) (by rw [ez, zref_k (k := 3) (v := (zp z 3 - 1)) e3k (tl_sk1 (by omega)) (by have q1 : mI A (o + 4) 3 = zp z 3 := kk; have q2 : ¬ mI A (o + 4) 3 ≤ 0 := h230; exact (if_neg (by omega)).symm)]) hW hS (lv_sub hl [1, 2] rfl)
    · refine lv_aload_n hx hb dX9_step_208 rfl (lv_at hl 0 rfl) ?_
      refine gf_X9_223 hx hb htw hown hK hW (by assumption) dX9_step_209 ?_
      rw [k5]
      refine lv_goto (tgt := 216) hx hb dX9_step_212 (by decide) ?_
      refine lv_istore (lv' := [(4, _), (0, _), (2, _)]) hx hb dX9_step_216 hl (by decide) rfl (fun ls hl => ?_)
      refine lv_iload hx hb dX9_step_218 (lv_at hl 0 rfl) ?_
      refine ti_if_le (tgt := 244) hx hb dX9_step_220 (by decide) (by omega) (fun h220 => ?_) (fun h220 => ?_)
      · exact s0 (zrf0 z Lw) A _ _ _ hc hfl k0 PR (by rw [ez, zref_0 (by omega)]) hW hS (lv_sub hl [1, 2] rfl)
      · have e3k : 0 < tl_exp (zl z (zn z - 1)) Lw 6 1 := by omega
        have kk := kp (tl_exp (zl z (zn z - 1)) Lw 6 1).toNat (by omega) (by omega)
        have zz := zpr (tl_exp (zl z (zn z - 1)) Lw 6 1).toNat (by omega) (by omega)
        have kq : zp (zrf0 z Lw) (tl_exp (zl z (zn z - 1)) Lw 6 1).toNat = zp z (tl_exp (zl z (zn z - 1)) Lw 6 1).toNat := rfl
        refine lv_aload_n hx hb dX9_step_223 rfl (lv_at hl 1 rfl) ?_
        refine gf_X9_20 hx hb htw hown hK hW (by assumption) (by assumption) dX9_step_224 ?_
        refine lv_iload hx hb dX9_step_227 (lv_at hl 0 rfl) ?_
        refine tm_iald hx hb hK hW (by assumption) (by omega) (by omega) (by decide) dX9_step_229 ?_
        refine ti_if_le (tgt := 244) hx hb dX9_step_230 (by decide) (by rw [show mI A (o + 4) (tl_exp (zl z (zn z - 1)) Lw 6 1).toNat = zp z (tl_exp (zl z (zn z - 1)) Lw 6 1).toNat from kk]; omega) (fun h230 => ?_) (fun h230 => ?_)
        · exact s0 (zpt (zrf0 z Lw) (tl_exp (zl z (zn z - 1)) Lw 6 1).toNat 0) A _ _ _ hc hfl k0 (ML_ptz PR (by show zp z (tl_exp (zl z (zn z - 1)) Lw 6 1).toNat = 0; have : mI A (o + 4) (tl_exp (zl z (zn z - 1)) Lw 6 1).toNat = zp z (tl_exp (zl z (zn z - 1)) Lw 6 1).toNat := kk; have h230 : mI A (o + 4) (tl_exp (zl z (zn z - 1)) Lw 6 1).toNat ≤ 0 := h230; omega)) (by rw [ez, zref_k (k := (tl_exp (zl z (zn z - 1)) Lw 6 1).toNat) (v := 0) e3k (tl_sk2 (by omega)) (by have q1 : mI A (o + 4) (tl_exp (zl z (zn z - 1)) Lw 6 1).toNat = zp z (tl_exp (zl z (zn z - 1)) Lw 6 1).toNat := kk; have q2 : mI A (o + 4) (tl_exp (zl z (zn z - 1)) Lw 6 1).toNat ≤ 0 := h230; exact (if_pos (by omega)).symm)]) hW hS (lv_sub hl [1, 2] rfl)
        · refine lv_aload_n hx hb dX9_step_233 rfl (lv_at hl 1 rfl) ?_
          refine gf_X9_20 hx hb htw hown hK hW (by assumption) (by assumption) dX9_step_234 ?_
          refine lv_iload hx hb dX9_step_237 (lv_at hl 0 rfl) ?_
          refine lv_dup2_11 hx hb dX9_step_239 rfl rfl ?_
          refine tm_iald hx hb hK hW (by assumption) (by omega) (by omega) (by decide) dX9_step_240 ?_
          refine ti_iconst hx hb dX9_step_241 ?_
          refine ti_isub hx hb dX9_step_242 ?_
          refine tm_iast hx hb hK hW hS (by assumption) (by omega) (by omega) (by decide) dX9_step_243 (fun H locs hW hS => ?_)
          have q1 : mI A (o + 4) (tl_exp (zl z (zn z - 1)) Lw 6 1).toNat = zp z (tl_exp (zl z (zn z - 1)) Lw 6 1).toNat := kk
          rw [q1] at hW
          exact s0 (zpt (zrf0 z Lw) (tl_exp (zl z (zn z - 1)) Lw 6 1).toNat (zp z (tl_exp (zl z (zn z - 1)) Lw 6 1).toNat - 1)) _ _ _ _ hc hfl ((tm_up_a _ _ (by omega)).trans k0) (MLp_tr PR (ML_pt PR.1)) (by rw [ez, zref_k (k := (tl_exp (zl z (zn z - 1)) Lw 6 1).toNat) (v := (zp z (tl_exp (zl z (zn z - 1)) Lw 6 1).toNat - 1)) e3k (tl_sk2 (by omega)) (by have q1 : mI A (o + 4) (tl_exp (zl z (zn z - 1)) Lw 6 1).toNat = zp z (tl_exp (zl z (zn z - 1)) Lw 6 1).toNat := kk; have q2 : ¬ mI A (o + 4) (tl_exp (zl z (zn z - 1)) Lw 6 1).toNat ≤ 0 := h230; exact (if_neg (by omega)).symm)]) hW hS (lv_sub hl [1, 2] rfl)
  have ac : ∀ (Lw : tl_L) (z1 : tl_Z) (M1 : tm_M) (H : Heap) (locs : List Loc) (ls : Array Slot), (0 ≤ w ∧ w ≤ 80) → ¬ (zn z = 0 ∨ zn z = 40) → mI M1 o 0 = 0 → MLp sh o M z1 M1 → zn z1 = zn z → rl M1 o 40 = Lw → sp_step z w.toNat = (1, zsw (zan (zapp z1 Lw) 1) Lw) → tm_W G Hb sh M1 H → va_S (tm_A Hb) s.heap H locs → lv_has ls 5 [(0, .ref o)] → W p l e ({ frames := 7, cells := 0, slots := 0, locals := 175 }) s m [.ref o, ji w].toArray below meth c H locs 0 0 (MQ below (tm_Qi G Hb sh (fun x M1 => mI M1 o 0 = (if ¬ (0 ≤ w ∧ w ≤ 80) then 1 else if (zn z = 0 ∨ zn z = 40) then 2 else 0) ∧ (¬ ((0 ≤ w ∧ w ≤ 80) ∧ ¬ (zn z = 0 ∨ zn z = 40)) → MLp sh o M z M1) ∧ ((0 ≤ w ∧ w ≤ 80) → ¬ (zn z = 0 ∨ zn z = 40) → x = (sp_step z w.toNat).1 ∧ MLp sh o M (sp_step z w.toNat).2 M1))) [.ref o, ji w].toArray s 0 0 (tm_A Hb)) (F0 m 142 ls []) := by
    intro Lw z1 M1 H locs ls hc hfl h00 hP hn1 h40r ez hW hS hl
    obtain ⟨b0a, ⟨t1a, t2a, t6a, t7a, t9a, t12a, t13a, t14a, t15a, t16a, t17a, t24a⟩, ⟨u1a, u2a, u3a, u4a, u5a, u6a, u7a, u8a, u9a, u10a, u11a, u12a⟩⟩ := hP.1.1
    have e3a := hP.1.2.2.1
    refine lv_aload_n hx hb dX9_step_142 rfl (lv_at hl 0 rfl) ?_
    refine ti_bipush hx hb dX9_step_143 (by decide) ?_
    refine lv_aload_n hx hb dX9_step_145 rfl (lv_at hl 0 rfl) ?_
    refine gf_X9_159 hx hb htw hown hK hW (by assumption) dX9_step_146 ?_
    rw [e3a]
    refine tm_callv (cs_X9_180 hx hb hml hown htw hK hW (by assumption) (c_X9_copyLine (i := 40) (j := zn z1) hP.1.1 (by decide) (by omega) (by omega)) ⟨rfl, rfl, Nat.le_of_ble_eq_true rfl, Nat.le_of_ble_eq_true rfl⟩ hl.1 (Nat.le_of_ble_eq_true rfl) dX9_step_149 ⟨Nat.le_of_ble_eq_true rfl, Nat.le_of_ble_eq_true rfl⟩) hS (fun M149 H locs hp149 hW hS => ?_)
    obtain ⟨cc, f149⟩ := hp149
    rw [h40r] at cc
    have e149 : mI M149 o 3 = zn z1 := (f149.2 _ _ (by omega)).1.trans e3a
    have r6 : mR M149 o 6 = some (o + 3) := by rw [f149.1]; exact t6a
    have Q1 := ML_ap (v := mI M149 o 3 + 1) hP.1 (Nat.le_refl _) (by omega) f149 cc (by rw [e149]; rfl) (show zapp z1 Lw = _ from rfl)
    refine lv_aload_n hx hb dX9_step_152 rfl (lv_at hl 0 rfl) ?_
    refine lv_dup hx hb dX9_step_153 rfl ?_
    refine gf_X9_159 hx hb htw hown hK hW (by assumption) dX9_step_154 ?_
    refine ti_iconst hx hb dX9_step_157 ?_
    refine ti_iadd hx hb dX9_step_158 ?_
    refine pf_X9_159 hx hb htw hown hK hW (by assumption) hS dX9_step_159 (fun H locs hW hS => ?_)
    refine lv_aload_n hx hb dX9_step_162 rfl (lv_at hl 0 rfl) ?_
    refine ti_iconst hx hb dX9_step_163 ?_
    refine pf_X9_211 hx hb htw hown hK hW (by assumption) hS (Or.inl rfl) dX9_step_164 (fun H locs hW hS => ?_)
    refine lv_aload_n hx hb dX9_step_167 rfl (lv_at hl 0 rfl) ?_
    refine gf_X9_17 hx hb htw hown hK hW (by assumption) r6 dX9_step_168 ?_
    refine ti_iconst hx hb dX9_step_171 ?_
    refine lv_dup2_11 hx hb dX9_step_172 rfl rfl ?_
    refine tm_iald hx hb hK hW (by assumption) (by decide) (by decide) (by decide) dX9_step_173 ?_
    refine ti_iconst hx hb dX9_step_174 ?_
    refine ti_iadd hx hb dX9_step_175 ?_
    refine tm_iast hx hb hK hW hS (by assumption) (by decide) (by decide) (by decide) dX9_step_176 (fun H locs hW hS => ?_)
    refine ti_iconst hx hb dX9_step_177 ?_
    exact tm_iret hx hb hr hlk hK hW hS ⟨(tm_up_a _ _ (by omega)).trans ((tm_up_k _ _ (by decide)).trans ((tm_up_k _ _ (by decide)).trans ((f149.2 _ _ (by omega)).1.trans (h00.trans (by rw [if_neg (fun q => q hc), if_neg hfl]))))), fun q => absurd ⟨hc, hfl⟩ q, fun _ _ => ⟨by rw [ez], by rw [ez]; exact ML_zw (MLp_tr hP (MLp_tr Q1 (ML_an (c := 1) (k := 1) Q1.1 (by omega)))) rfl⟩⟩ dX9_step_178
  have mn : ∀ (M1 : tm_M) (H : Heap) (locs : List Loc) (ls : Array Slot), (0 ≤ w ∧ w ≤ 80) → ¬ (zn z = 0 ∨ zn z = 40) → mI M1 o 0 = 0 → fq (mX o) M M1 → tm_W G Hb sh M1 H → va_S (tm_A Hb) s.heap H locs → lv_has ls 5 [(0, .ref o), (1, ji w)] → W p l e ({ frames := 7, cells := 0, slots := 0, locals := 175 }) s m [.ref o, ji w].toArray below meth c H locs 0 0 (MQ below (tm_Qi G Hb sh (fun x M1 => mI M1 o 0 = (if ¬ (0 ≤ w ∧ w ≤ 80) then 1 else if (zn z = 0 ∨ zn z = 40) then 2 else 0) ∧ (¬ ((0 ≤ w ∧ w ≤ 80) ∧ ¬ (zn z = 0 ∨ zn z = 40)) → MLp sh o M z M1) ∧ ((0 ≤ w ∧ w ≤ 80) → ¬ (zn z = 0 ∨ zn z = 40) → x = (sp_step z w.toNat).1 ∧ MLp sh o M (sp_step z w.toNat).2 M1))) [.ref o, ji w].toArray s 0 0 (tm_A Hb)) (F0 m 44 ls []) := by
    intro M1 H locs ls hc hfl h00 F0 hW hS hl
    have hn0 : 0 < zn z := by omega
    have V0 := MLv_m hz h40 F0
    refine lv_aload_n hx hb dX9_step_44 rfl (lv_at hl 0 rfl) ?_
    refine lv_iload_n hx hb dX9_step_45 rfl (lv_at hl 1 rfl) ?_
    refine tm_calli (cs_X9_208 hx hb hml hown htw hK hW (by assumption) (c_X9_readw (n := w.toNat) (t := zt z) (by omega) V0.1 (fun j => ⟨V0.2.1 j, hI.1 j⟩) (by omega)) ⟨rfl, rfl, Nat.le_of_ble_eq_true rfl, Nat.le_of_ble_eq_true rfl⟩ hl.1 (Nat.le_of_ble_eq_true rfl) dX9_step_46 ⟨Nat.le_of_ble_eq_true rfl, Nat.le_of_ble_eq_true rfl⟩) hS (fun x46 M46 H locs hp46 hW hS => ?_)
    obtain ⟨f46, e46⟩ := hp46
    have F := fq_tr F0 (fq_wd f46 (fun _ _ => pR_X))
    have V := MLv_m hz h40 F
    have c46 : mI M46 o 0 = 0 := (f46.2 _ _ (by unfold pR pP; omega)).1.trans h00
    refine ti_if_ne (tgt := 59) hx hb dX9_step_49 (by decide) (by rcases tl_01 e46 with z | z <;> omega) (fun h49 => ?_) (fun h49 => ?_)
    · obtain ⟨Lw, l1, l2, l3⟩ := tl_r1 e46 h49
      have la := MLv_l V hn0
      have lo := ZI_l hI hn0
      refine lv_aload_n hx hb dX9_step_59 rfl (lv_at hl 0 rfl) ?_
      refine lv_aload_n hx hb dX9_step_60 rfl (lv_at hl 0 rfl) ?_
      refine tm_calli (cs_X9_166 hx hb hml hown htw hK hW (by assumption) (c_X9_last (MLv_N V h40 hn0)) ⟨rfl, rfl, Nat.le_of_ble_eq_true rfl, Nat.le_of_ble_eq_true rfl⟩ hl.1 (Nat.le_of_ble_eq_true rfl) dX9_step_61 ⟨Nat.le_of_ble_eq_true rfl, Nat.le_of_ble_eq_true rfl⟩) hS (fun x61 M61 H locs hp61 hW hS => ?_)
      obtain ⟨ex61, eM61⟩ := hp61
      rw [eM61] at hW
      rw [ex61]
      refine ti_bipush hx hb dX9_step_64 (by decide) ?_
      refine tm_calli (cs_X9_214 hx hb hml hown htw hK hW (by assumption) (c_X9_isPart (i := zn z - 1) (j := 40) V.1 (by omega) (by decide) (by rw [la]; exact lo.1) (by rw [l2]; exact l3)) ⟨rfl, rfl, Nat.le_of_ble_eq_true rfl, Nat.le_of_ble_eq_true rfl⟩ hl.1 (Nat.le_of_ble_eq_true rfl) dX9_step_66 ⟨Nat.le_of_ble_eq_true rfl, Nat.le_of_ble_eq_true rfl⟩) hS (fun x66 M66 H locs hp66 hW hS => ?_)
      obtain ⟨x66, f66⟩ := hp66
      rw [la, l2] at x66
      rw [x66]
      have F6 := fq_tr F (fq_wd f66 (fun _ _ => mP_X))
      have V6 := MLv_m hz h40 F6
      have lb := MLv_l V6 hn0
      have l6 : rl M66 o 40 = Lw := (fq_rl f66 (fun k hk => by unfold mP; omega)).trans l2
      have c66 : mI M66 o 0 = 0 := (f66.2 _ _ (by unfold mP; omega)).1.trans c46
      have p1 := tl_part_z (tl_solve (zl z (zn z - 1))) (tl_solve Lw)
      have p2 := tl_part_z (tl_solve Lw) (tl_solve (zl z (zn z - 1)))
      refine lv_istore_n (lv' := [(2, _), (0, _), (1, _)]) hx hb dX9_step_69 rfl hl (by decide) rfl (fun ls hl => ?_)
      refine lv_iload_n hx hb dX9_step_70 rfl (lv_at hl 0 rfl) ?_
      refine ti_if_eq (tgt := 91) hx hb dX9_step_71 (by decide) (by omega) (fun h71 => ?_) (fun h71 => ?_)
      · refine ti_iconst hx hb dX9_step_91 ?_
        refine lv_istore_n (lv' := [(3, _), (2, _), (0, _), (1, _)]) hx hb dX9_step_92 rfl hl (by decide) rfl (fun ls hl => ?_)
        refine lv_iload_n hx hb dX9_step_93 rfl (lv_at hl 0 rfl) ?_
        refine ti_if_eq (tgt := 179) hx hb dX9_step_94 (by decide) (by decide) (fun h94 => ?_) (fun h94 => ?_)
        · have ej : tl_judge (tl_solve (zl z (zn z - 1))) (tl_solve Lw) = 0 := by unfold tl_judge; rw [if_pos h71]
          have hl2 := lv_sub hl [2, 1] rfl
          rw [show tl_part (tl_solve (zl z (zn z - 1))) (tl_solve Lw) = 0 from h71] at hl2
          exact f0 Lw M66 _ _ _ hc hfl c66 ⟨V6, fq_wd F6 (fun _ _ => mX_Y)⟩ l6 l3 ((sp_step_l l1 ej.symm).trans (by rw [if_neg (by decide)]; rfl)) hW hS hl2
        · exact absurd rfl h94
      · refine lv_aload_n hx hb dX9_step_74 rfl (lv_at hl 1 rfl) ?_
        refine ti_bipush hx hb dX9_step_75 (by decide) ?_
        refine lv_aload_n hx hb dX9_step_77 rfl (lv_at hl 1 rfl) ?_
        refine tm_calli (cs_X9_166 hx hb hml hown htw hK hW (by assumption) (c_X9_last (MLv_N V6 h40 hn0)) ⟨rfl, rfl, Nat.le_of_ble_eq_true rfl, Nat.le_of_ble_eq_true rfl⟩ hl.1 (Nat.le_of_ble_eq_true rfl) dX9_step_78 ⟨Nat.le_of_ble_eq_true rfl, Nat.le_of_ble_eq_true rfl⟩) hS (fun x78 M78 H locs hp78 hW hS => ?_)
        obtain ⟨ex78, eM78⟩ := hp78
        rw [eM78] at hW
        rw [ex78]
        refine tm_calli (cs_X9_214 hx hb hml hown htw hK hW (by assumption) (c_X9_isPart (i := 40) (j := zn z - 1) V6.1 (by decide) (by omega) (by rw [l6]; exact l3) (by rw [lb]; exact lo.1)) ⟨rfl, rfl, Nat.le_of_ble_eq_true rfl, Nat.le_of_ble_eq_true rfl⟩ hl.1 (Nat.le_of_ble_eq_true rfl) dX9_step_81 ⟨Nat.le_of_ble_eq_true rfl, Nat.le_of_ble_eq_true rfl⟩) hS (fun x81 M81 H locs hp81 hW hS => ?_)
        obtain ⟨x81, f81⟩ := hp81
        rw [lb, l6] at x81
        rw [x81]
        have F8 := fq_tr F6 (fq_wd f81 (fun _ _ => mP_X))
        have V8 := MLv_m hz h40 F8
        have lc := MLv_l V8 hn0
        have l8 : rl M81 o 40 = Lw := (fq_rl f81 (fun k hk => by unfold mP; omega)).trans l6
        have c81 : mI M81 o 0 = 0 := (f81.2 _ _ (by unfold mP; omega)).1.trans c66
        refine ti_if_eq (tgt := 91) hx hb dX9_step_84 (by decide) (by omega) (fun h84 => ?_) (fun h84 => ?_)
        · refine ti_iconst hx hb dX9_step_91 ?_
          refine lv_istore_n (lv' := [(3, _), (2, _), (0, _), (1, _)]) hx hb dX9_step_92 rfl hl (by decide) rfl (fun ls hl => ?_)
          refine lv_iload_n hx hb dX9_step_93 rfl (lv_at hl 0 rfl) ?_
          refine ti_if_eq (tgt := 179) hx hb dX9_step_94 (by decide) (by decide) (fun h94 => ?_) (fun h94 => ?_)
          · have ej : tl_judge (tl_solve (zl z (zn z - 1))) (tl_solve Lw) = 2 := by unfold tl_judge; rw [if_neg h71, if_pos h84]
            have hl2 := lv_sub hl [2, 1] rfl
            rw [show tl_part (tl_solve (zl z (zn z - 1))) (tl_solve Lw) = 1 by omega] at hl2
            exact f1 Lw M81 _ _ _ hc hfl c81 ⟨V8, fq_wd F8 (fun _ _ => mX_Y)⟩ l8 l3 ((sp_step_l l1 ej.symm).trans (by rw [if_neg (by decide)]; rfl)) hW hS hl2
          · exact absurd rfl h94
        · refine ti_iconst hx hb dX9_step_87 ?_
          refine lv_goto (tgt := 92) hx hb dX9_step_88 (by decide) ?_
          refine lv_istore_n (lv' := [(3, _), (2, _), (0, _), (1, _)]) hx hb dX9_step_92 rfl hl (by decide) rfl (fun ls hl => ?_)
          refine lv_iload_n hx hb dX9_step_93 rfl (lv_at hl 0 rfl) ?_
          refine ti_if_eq (tgt := 179) hx hb dX9_step_94 (by decide) (by decide) (fun h94 => ?_) (fun h94 => ?_)
          · exact absurd h94 (by decide)
          · refine lv_aload_n hx hb dX9_step_97 rfl (lv_at hl 2 rfl) ?_
            refine tm_calli (cs_X9_217 hx hb hml hown htw hK hW (by assumption) (c_X9_plan (MLv_N V8 h40 hn0) lc lo.1) ⟨rfl, rfl, Nat.le_of_ble_eq_true rfl, Nat.le_of_ble_eq_true rfl⟩ hl.1 (Nat.le_of_ble_eq_true rfl) dX9_step_98 ⟨Nat.le_of_ble_eq_true rfl, Nat.le_of_ble_eq_true rfl⟩) hS (fun x98 M98 H locs hp98 hW hS => ?_)
            obtain ⟨x98, g98, f98⟩ := hp98
            rw [x98]
            have ej : tl_judge (tl_solve (zl z (zn z - 1))) (tl_solve Lw) = 1 := by unfold tl_judge; rw [if_neg h71, if_neg h84]
            have es : sp_step z w.toNat = (1, zacc (zan (zsw z Lw) 1) Lw) := (sp_step_l l1 ej.symm).trans (by rw [if_pos rfl]; rfl)
            have F9 := fq_tr F8 (fq_wd f98 (fun _ _ => mP_X))
            have V9 := MLv_m hz h40 F9
            have l9 : rl M98 o 40 = Lw := (fq_rl f98 (fun k hk => by unfold mP; omega)).trans l8
            have c98 : mI M98 o 0 = 0 := (f98.2 _ _ (by unfold mP; omega)).1.trans c81
            have pr := tl_plan_r (zl z (zn z - 1))
            have P9 : MLp sh o M z M98 := ⟨V9, fq_wd F9 (fun _ _ => mX_Y)⟩
            obtain ⟨b0c, ⟨t1c, t2c, t6c, t7c, t9c, t12c, t13c, t14c, t15c, t16c, t17c, t24c⟩, ⟨u1c, u2c, u3c, u4c, u5c, u6c, u7c, u8c, u9c, u10c, u11c, u12c⟩⟩ := V9.1
            refine lv_istore (lv' := [(4, _), (3, _), (2, _), (0, _), (1, _)]) hx hb dX9_step_101 hl (by decide) rfl (fun ls hl => ?_)
            refine lv_iload hx hb dX9_step_103 (lv_at hl 0 rfl) ?_
            refine ti_if_le (tgt := 142) hx hb dX9_step_105 (by decide) (by omega) (fun h105 => ?_) (fun h105 => ?_)
            · exact ac Lw z M98 _ _ _ hc hfl c98 P9 rfl l9 (by rw [es, zacc_0 (fun q => absurd q.1 (by omega))]) hW hS (lv_sub hl [3] rfl)
            · refine lv_aload_n hx hb dX9_step_108 rfl (lv_at hl 3 rfl) ?_
              refine ti_bipush hx hb dX9_step_109 (by decide) ?_
              refine ti_bipush hx hb dX9_step_111 (by decide) ?_
              refine tm_calli (cs_X9_196 hx hb hml hown htw hK hW (by assumption) (c_X9_isSame (i := 42) (j := 40) V9.1 (by decide) (by decide) (rl_L (by rw [g98]; exact lLok_plan lo.1) (by rw [g98]; exact planv_r lo.1)) (rl_L (by rw [l9]; exact lLok_of l3) (by rw [l9]; exact lok_rL l3))) ⟨rfl, rfl, Nat.le_of_ble_eq_true rfl, Nat.le_of_ble_eq_true rfl⟩ hl.1 (Nat.le_of_ble_eq_true rfl) dX9_step_113 ⟨Nat.le_of_ble_eq_true rfl, Nat.le_of_ble_eq_true rfl⟩) hS (fun x113 M113 H locs hp113 hW hS => ?_)
              obtain ⟨ex113, eM113⟩ := hp113
              rw [eM113] at hW
              rw [ex113]
              rw [g98, l9]
              refine ti_if_eq (tgt := 142) hx hb dX9_step_116 (by decide) (tl_b_r _) (fun h116 => ?_) (fun h116 => ?_)
              · exact ac Lw z M98 _ _ _ hc hfl c98 P9 rfl l9 (by rw [es, zacc_0 (fun q => absurd q.2 (tl_b_0.mp h116))]) hW hS (lv_sub hl [3] rfl)
              · have kk := V9.2.2.2.2.2.2.1 (tl_plan (zl z (zn z - 1))).toNat (by omega) (by omega)
                have zz := hI.2.2.2.2.2 (tl_plan (zl z (zn z - 1))).toNat (by omega) (by omega)
                refine lv_aload_n hx hb dX9_step_119 rfl (lv_at hl 3 rfl) ?_
                refine gf_X9_20 hx hb htw hown hK hW (by assumption) (by assumption) dX9_step_120 ?_
                refine lv_iload hx hb dX9_step_123 (lv_at hl 0 rfl) ?_
                refine tm_iald hx hb hK hW (by assumption) (by omega) (by omega) (by decide) dX9_step_125 ?_
                refine ti_bipush hx hb dX9_step_126 (by decide) ?_
                refine ti_icmp_ge (tgt := 142) hx hb dX9_step_128 (by decide) (by rw [kk]; omega) (by decide) (fun h128 => ?_) (fun h128 => ?_)
                · exact ac Lw (zpt z (tl_plan (zl z (zn z - 1))).toNat 10) M98 _ _ _ hc hfl c98 (ML_ptz P9 (by have q1 : mI M98 (o + 4) (tl_plan (zl z (zn z - 1))).toNat = zp z (tl_plan (zl z (zn z - 1))).toNat := kk; omega)) rfl l9 (by rw [es, zacc_k (k := (tl_plan (zl z (zn z - 1))).toNat) (v := 10) ⟨by omega, tl_b_n.mp h116⟩ rfl (by have q1 : mI M98 (o + 4) (tl_plan (zl z (zn z - 1))).toNat = zp z (tl_plan (zl z (zn z - 1))).toNat := kk; exact (if_pos (by omega)).symm)]) hW hS (lv_sub hl [3] rfl)
                · refine lv_aload_n hx hb dX9_step_131 rfl (lv_at hl 3 rfl) ?_
                  refine gf_X9_20 hx hb htw hown hK hW (by assumption) (by assumption) dX9_step_132 ?_
                  refine lv_iload hx hb dX9_step_135 (lv_at hl 0 rfl) ?_
                  refine lv_dup2_11 hx hb dX9_step_137 rfl rfl ?_
                  refine tm_iald hx hb hK hW (by assumption) (by omega) (by omega) (by decide) dX9_step_138 ?_
                  refine ti_iconst hx hb dX9_step_139 ?_
                  refine ti_iadd hx hb dX9_step_140 ?_
                  refine tm_iast hx hb hK hW hS (by assumption) (by omega) (by omega) (by decide) dX9_step_141 (fun H locs hW hS => ?_)
                  rw [kk] at hW
                  exact ac Lw (zpt z (tl_plan (zl z (zn z - 1))).toNat (zp z (tl_plan (zl z (zn z - 1))).toNat + 1)) _ _ _ _ hc hfl ((tm_up_a _ _ (by omega)).trans c98) (MLp_tr P9 (ML_pt P9.1)) rfl l9 (by rw [es, zacc_k (k := (tl_plan (zl z (zn z - 1))).toNat) (v := zp z (tl_plan (zl z (zn z - 1))).toNat + 1) ⟨by omega, tl_b_n.mp h116⟩ rfl (by have q1 : mI M98 (o + 4) (tl_plan (zl z (zn z - 1))).toNat = zp z (tl_plan (zl z (zn z - 1))).toNat := kk; exact (if_neg (by omega)).symm)]) hW hS (lv_sub hl [3] rfl)
    · obtain ⟨f, l1, l2, l3⟩ := tl_rdi (M0 := M) (by omega) e46 h49
      refine ti_iconst hx hb dX9_step_52 ?_
      refine lv_aload_n hx hb dX9_step_53 rfl (lv_at hl 0 rfl) ?_
      refine gf_X9_73 hx hb htw hown hK hW (by assumption) dX9_step_54 ?_
      refine ti_isub hx hb dX9_step_57 ?_
      exact tm_iret hx hb hr hlk hK hW hS ⟨c46.trans (by rw [if_neg (fun q => q hc), if_neg hfl]), fun q => absurd ⟨hc, hfl⟩ q, fun _ _ => ⟨by rw [sp_step_r l1, l2], by rw [sp_step_r l1]; exact MLp_m hz h40 F⟩⟩ dX9_step_58
  refine lv_aload_n hx hb dX9_step_0 rfl (lv_at hl 0 rfl) ?_
  refine lv_iload_n hx hb dX9_step_1 rfl (lv_at hl 1 rfl) ?_
  refine tm_calli (cs_X9_205 hx hb hml hown htw hK hW (by assumption) (c_X9_isLength b0 hw) ⟨rfl, rfl, Nat.le_of_ble_eq_true rfl, Nat.le_of_ble_eq_true rfl⟩ hl.1 (Nat.le_of_ble_eq_true rfl) dX9_step_2 ⟨Nat.le_of_ble_eq_true rfl, Nat.le_of_ble_eq_true rfl⟩) hS (fun x2 M2 H locs hp2 hW hS => ?_)
  obtain ⟨ex2, eM2⟩ := hp2
  rw [eM2] at hW
  rw [ex2]
  refine ti_if_ne (tgt := 10) hx hb dX9_step_5 (by decide) (tl_b_r _) (fun h5 => ?_) (fun h5 => ?_)
  · refine lv_aload_n hx hb dX9_step_10 rfl (lv_at hl 0 rfl) ?_
    refine lv_aload_n hx hb dX9_step_11 rfl (lv_at hl 0 rfl) ?_
    refine gf_X9_159 hx hb htw hown hK hW (by assumption) dX9_step_12 ?_
    rw [show mI (sI M o 0 (tl_b (¬ (0 ≤ w ∧ w ≤ 80)))) o 3 = zn z from (tm_up_k _ _ (by decide)).trans e3]
    refine ti_if_eq (tgt := 27) hx hb dX9_step_15 (by decide) (by omega) (fun h15 => ?_) (fun h15 => ?_)
    · refine ti_iconst hx hb dX9_step_27 ?_
      refine lv_goto (tgt := 32) hx hb dX9_step_28 (by decide) ?_
      refine pf_X9_48 hx hb htw hown hK hW (by assumption) hS dX9_step_32 (fun H locs hW hS => ?_)
      refine lv_aload_n hx hb dX9_step_35 rfl (lv_at hl 0 rfl) ?_
      refine gf_X9_48 hx hb htw hown hK hW (by assumption) dX9_step_36 ?_
      rw [show mI (sI (sI M o 0 (tl_b (¬ (0 ≤ w ∧ w ≤ 80)))) o 0 2) o 0 = 2 from tm_up_s _ _ _ _]
      refine ti_if_le (tgt := 44) hx hb dX9_step_39 (by decide) (by decide) (fun h39 => ?_) (fun h39 => ?_)
      · exact absurd h39 (by decide)
      · refine ti_iconst hx hb dX9_step_42 ?_
        exact tm_iret hx hb hr hlk hK hW hS ⟨(tm_up_s _ _ _ _).trans (by rw [if_neg (fun q => q (tl_b_n.mp h5)), if_pos (by omega)]), fun _ => MLp_m hz h40 (fq_tr fq_c0 fq_c0), fun _ q => absurd (by omega) q⟩ dX9_step_43
    · refine lv_aload_n hx hb dX9_step_18 rfl (lv_at hl 0 rfl) ?_
      refine gf_X9_159 hx hb htw hown hK hW (by assumption) dX9_step_19 ?_
      rw [show mI (sI M o 0 (tl_b (¬ (0 ≤ w ∧ w ≤ 80)))) o 3 = zn z from (tm_up_k _ _ (by decide)).trans e3]
      refine ti_bipush hx hb dX9_step_22 (by decide) ?_
      refine ti_icmp_ne (tgt := 31) hx hb dX9_step_24 (by decide) (by omega) (by decide) (fun h24 => ?_) (fun h24 => ?_)
      · refine ti_iconst hx hb dX9_step_31 ?_
        refine pf_X9_48 hx hb htw hown hK hW (by assumption) hS dX9_step_32 (fun H locs hW hS => ?_)
        refine lv_aload_n hx hb dX9_step_35 rfl (lv_at hl 0 rfl) ?_
        refine gf_X9_48 hx hb htw hown hK hW (by assumption) dX9_step_36 ?_
        rw [show mI (sI (sI M o 0 (tl_b (¬ (0 ≤ w ∧ w ≤ 80)))) o 0 0) o 0 = 0 from tm_up_s _ _ _ _]
        refine ti_if_le (tgt := 44) hx hb dX9_step_39 (by decide) (by decide) (fun h39 => ?_) (fun h39 => ?_)
        · exact mn _ _ _ _ (tl_b_n.mp h5) (by omega) (tm_up_s _ _ _ _) (fq_tr fq_c0 fq_c0) hW hS (lv_sub hl [0, 1] rfl)
        · exact absurd (show (0 : Int) ≤ 0 by decide) h39
      · refine ti_iconst hx hb dX9_step_27 ?_
        refine lv_goto (tgt := 32) hx hb dX9_step_28 (by decide) ?_
        refine pf_X9_48 hx hb htw hown hK hW (by assumption) hS dX9_step_32 (fun H locs hW hS => ?_)
        refine lv_aload_n hx hb dX9_step_35 rfl (lv_at hl 0 rfl) ?_
        refine gf_X9_48 hx hb htw hown hK hW (by assumption) dX9_step_36 ?_
        rw [show mI (sI (sI M o 0 (tl_b (¬ (0 ≤ w ∧ w ≤ 80)))) o 0 2) o 0 = 2 from tm_up_s _ _ _ _]
        refine ti_if_le (tgt := 44) hx hb dX9_step_39 (by decide) (by decide) (fun h39 => ?_) (fun h39 => ?_)
        · exact absurd h39 (by decide)
        · refine ti_iconst hx hb dX9_step_42 ?_
          exact tm_iret hx hb hr hlk hK hW hS ⟨(tm_up_s _ _ _ _).trans (by rw [if_neg (fun q => q (tl_b_n.mp h5)), if_pos (by omega)]), fun _ => MLp_m hz h40 (fq_tr fq_c0 fq_c0), fun _ q => absurd (by omega) q⟩ dX9_step_43
  · refine ti_iconst hx hb dX9_step_8 ?_
    exact tm_iret hx hb hr hlk hK hW hS ⟨(tm_up_s _ _ _ _).trans (by rw [if_pos (tl_b_0.mp h5)]; exact (tl_b_t (tl_b_0.mp h5)).symm), fun _ => MLp_m hz h40 fq_c0, fun q => absurd q (tl_b_0.mp h5)⟩ dX9_step_9
