/-! the invariant of every state that calls lead to -/
def sg (v : tl_S) : Prop := fg v.1 ∧ fg v.2
abbrev so2 (v : tl_S) : Prop := sok v ∧ sg v
def tp_O (r : tp_R) : Prop := match r with
  | .inl x => so2 x.2
  | .inr _ => True
theorem fg_norm {a b : Int} (hb : b ≠ 0) : fg (tl_norm a b) := tl_norm_gcd hb
theorem fg_1 (x : Int) : fg (x, 1) := Int.gcd_one_right x
theorem fg_neg {f : tl_F} (h : fg f) : fg (fneg f) := (Int.neg_gcd (a := f.1) (b := f.2)).trans h
theorem so2_mul {v w : tl_S} (hv : so2 v) (hw : so2 w) (h : sfit (smul v w)) : so2 (smul v w) := by
  refine ⟨sok_smul hv.1 hw.1 h, ?_, fg_norm (tl_bd hv.1.2 hw.1.2).1⟩
  by_cases z : v.1.1 = 0
  · rw [show (smul v w).1 = fmul v.2 w.1 from if_pos z]
    exact fg_norm (tl_bd hv.1.2 hw.1.1).1
  · rw [show (smul v w).1 = fmul v.1 w.2 from if_neg z]
    exact fg_norm (tl_bd hv.1.1 hw.1.2).1
theorem so2_div {v : tl_S} {x : Int} (hv : so2 v) (h0 : 0 ≤ x) (h1 : x ≤ 9999) (hz : x ≠ 0) (h : sfit (sdiv v (x, 1))) : so2 (sdiv v (x, 1)) := ⟨sok_sdiv hv.1 (fok_num h0 h1) hz h, fg_norm (tl_n0 (fok_ab hv.1.1).2.2 hz), fg_norm (tl_n0 (fok_ab hv.1.2).2.2 hz)⟩
theorem so2_add {v w : tl_S} (hv : so2 v) (hw : so2 w) (h : sfit (sadd v w)) : so2 (sadd v w) := ⟨sok_sadd hv.1 hw.1 h, fg_norm (tl_bd hv.1.1 hw.1.1).1, fg_norm (tl_bd hv.1.2 hw.1.2).1⟩
theorem so2_sub {v w : tl_S} (hv : so2 v) (hw : so2 w) (h : sfit (ssub v w)) : so2 (ssub v w) := ⟨sok_ssub hv.1 hw.1 h, fg_norm (tl_bd hv.1.1 hw.1.1).1, fg_norm (tl_bd hv.1.2 hw.1.2).1⟩
theorem so2_neg {v : tl_S} (h : so2 v) : so2 (sneg v) := ⟨sok_sneg h.1, fg_neg h.2.1, fg_neg h.2.2⟩
theorem tp_O_num {t : Nat → Int} {n p : Nat} (h : p ≤ n) : tp_O (tp_numS (tp_num t n p)) := by
  cases e : tp_num t n p with
  | inr f => exact True.intro
  | inl x =>
    have h2 := tp_num_ok h e
    exact ⟨⟨fok_num (by decide) (by decide), fok_num h2.2.1 h2.2.2.1⟩, fg_1 0, fg_1 x.2.1⟩
theorem tp_O_close {t : Nat → Int} {n : Nat} {r : tp_R} (h : tp_O r) : tp_O (tp_close t n r) := by
  cases r with
  | inr f => exact True.intro
  | inl x =>
    show tp_O (if _ then _ else _)
    split
    · exact h
    · exact True.intro
def tp_KO (n : Nat) (inn : Option (Nat → tp_R)) : Prop := ∀ g, inn = some g → ∀ p, p ≤ n → tp_O (g p)
theorem tp_O_factor {t : Nat → Int} {n p : Nat} {inn : Option (Nat → tp_R)} (hi : tp_KO n inn) (h : p ≤ n) : tp_O (tp_factor t n inn p) := by
  unfold tp_factor
  split
  · rename_i z
    have hl := tp_ch_lt (t := t) (n := n) (p := tp_nx t n p) (by rw [z]; decide)
    cases inn with
    | none => exact True.intro
    | some g => exact tp_O_close (hi g rfl _ hl)
  · split
    · exact ⟨sok_x, fg_1 1, fg_1 0⟩
    · exact tp_O_num h
/-- the value of a step of a term, once it fits -/
theorem tp_O_fit {t : Nat → Int} {n p pl : Nat} {c : Int} {v : tl_S} {inn : Option (Nat → tp_R)} {g : Nat → tl_S → tp_R} (hi : tp_KO n inn) (h : p ≤ n) (hv : so2 v) (hb : tp_B n (tp_op t n inn c pl p v)) (hg : ∀ p v, p ≤ n → so2 v → tp_O (g p v)) : tp_O (tp_fit pl (tp_op t n inn c pl p v) g) := by
  unfold tp_op at hb ⊢
  split
  · rename_i z
    rw [if_pos z] at hb
    have h1 := tp_O_factor (t := t) hi h
    cases e : tp_factor t n inn p with
    | inr f => exact True.intro
    | inl x =>
      rw [e] at h1 hb
      by_cases z : ¬ v.1.1 = 0 ∧ ¬ x.2.1.1 = 0
      · rw [show tp_mul v pl (.inl x) = .inr pl from if_pos z]; exact True.intro
      · rw [show tp_mul v pl (.inl x) = .inl (x.1, smul v x.2) from if_neg z] at hb ⊢
        show tp_O (if _ then _ else _)
        split
        · rename_i q
          exact hg _ _ hb (so2_mul hv h1 q)
        · exact True.intro
  · rename_i z
    rw [if_neg z] at hb
    cases e : tp_num t n p with
    | inr f => exact True.intro
    | inl x =>
      have h2 := tp_num_ok h e
      rw [e] at hb
      by_cases z : x.2.1 = 0
      · rw [show tp_dvd v (.inl x) = .inr x.2.2 from if_pos z]; exact True.intro
      · rw [show tp_dvd v (.inl x) = .inl (x.1, sdiv v (x.2.1, 1)) from if_neg z] at hb ⊢
        show tp_O (if _ then _ else _)
        split
        · rename_i q
          exact hg _ _ hb (so2_div hv h2.2.1 h2.2.2.1 z q)
        · exact True.intro
theorem tp_O_tl {t : Nat → Int} {n : Nat} {inn : Option (Nat → tp_R)} (hb : tp_K n inn) (hi : tp_KO n inn) : ∀ (k p : Nat) (v : tl_S), p ≤ n → so2 v → tp_O (tp_tl t n inn k p v)
  | 0, p, v, h, hv => hv
  | k + 1, p, v, h, hv => by
    have hq := tp_nx_le (t := t) h
    unfold tp_tl
    split
    · rename_i z
      have hl := tp_ch_lt (t := t) (n := n) (p := tp_nx t n p) (by omega)
      exact tp_O_fit hi hl hv (tp_B_op hb hl hq.2) (fun p v hp hv => tp_O_tl hb hi k p v hp hv)
    · exact hv
theorem tp_O_bind {n : Nat} {r : tp_R} {g : Nat → tl_S → tp_R} (hb : tp_B n r) (h : tp_O r) (hg : ∀ p v, p ≤ n → so2 v → tp_O (g p v)) : tp_O (tp_bind r g) := by
  cases r with
  | inr f => exact True.intro
  | inl x => exact hg _ _ hb h
theorem tp_O_term {t : Nat → Int} {n p : Nat} {inn : Option (Nat → tp_R)} (hb : tp_K n inn) (hi : tp_KO n inn) (h : p ≤ n) : tp_O (tp_term t n inn p) := tp_O_bind (tp_B_factor hb h) (tp_O_factor hi h) (fun p v hp hv => tp_O_tl hb hi 80 p v hp hv)
theorem tp_O_sl {t : Nat → Int} {n : Nat} {inn : Option (Nat → tp_R)} (hb : tp_K n inn) (hi : tp_KO n inn) : ∀ (k p : Nat) (v : tl_S), p ≤ n → so2 v → tp_O (tp_sl t n inn k p v)
  | 0, p, v, h, hv => hv
  | k + 1, p, v, h, hv => by
    have hq := tp_nx_le (t := t) h
    unfold tp_sl
    split
    · rename_i z
      have hl := tp_ch_lt (t := t) (n := n) (p := tp_nx t n p) (by omega)
      have b1 := tp_B_term (t := t) hb hl
      have o1 := tp_O_term (t := t) hb hi hl
      cases e : tp_term t n inn (tp_nx t n p + 1) with
      | inr f => exact True.intro
      | inl x =>
        rw [e] at b1 o1
        have e1 : tp_sum (tp_ch t n (tp_nx t n p)) v (.inl x) = .inl (x.1, if tp_ch t n (tp_nx t n p) = 43 then sadd v x.2 else ssub v x.2) := rfl
        rw [e1]
        have ok : sfit (if tp_ch t n (tp_nx t n p) = 43 then sadd v x.2 else ssub v x.2) → so2 (if tp_ch t n (tp_nx t n p) = 43 then sadd v x.2 else ssub v x.2) := fun q => by
          by_cases z : tp_ch t n (tp_nx t n p) = 43
          · rw [if_pos z] at q ⊢
            exact so2_add hv o1 q
          · rw [if_neg z] at q ⊢
            exact so2_sub hv o1 q
        generalize (if tp_ch t n (tp_nx t n p) = 43 then sadd v x.2 else ssub v x.2) = y at ok
        by_cases q : sfit y
        · rw [show tp_fit (tp_nx t n p) (.inl (x.1, y)) (tp_sl t n inn k) = tp_sl t n inn k x.1 y from if_pos q]
          exact tp_O_sl hb hi k _ _ b1 (ok q)
        · rw [show tp_fit (tp_nx t n p) (.inl (x.1, y)) (tp_sl t n inn k) = .inr (tp_nx t n p) from if_neg q]
          exact True.intro
    · exact hv
theorem tp_O_side {t : Nat → Int} {n p : Nat} {inn : Option (Nat → tp_R)} (hb : tp_K n inn) (hi : tp_KO n inn) (h : p ≤ n) : tp_O (tp_side t n inn p) := by
  have hq := tp_nx_le (t := t) h
  unfold tp_side
  split
  · rename_i z
    have hl := tp_ch_lt (t := t) (n := n) (p := tp_nx t n p) (by rw [z]; decide)
    exact tp_O_bind (tp_B_term hb hl) (tp_O_term hb hi hl) (fun p v hp hv => tp_O_sl hb hi 80 p _ hp (so2_neg hv))
  · exact tp_O_bind (tp_B_term hb hq.2) (tp_O_term hb hi hq.2) (fun p v hp hv => tp_O_sl hb hi 80 p v hp hv)
theorem tp_O_par {t : Nat → Int} {n : Nat} : ∀ (r p : Nat), p ≤ n → tp_O (tp_par t n r p)
  | 0, p, h => tp_O_side (fun g z => by cases z) (fun g z => by cases z) h
  | r + 1, p, h => tp_O_side (fun g z q hq => by cases z; exact tp_B_par r q hq) (fun g z q hq => by cases z; exact tp_O_par r q hq) h
theorem tp_line_g {t : Nat → Int} {n : Nat} {L : tl_L} (h : tp_line t n = .inl L) : lok L ∧ lg L := by
  have h0 := tp_O_par (t := t) (n := n) 8 0 (Nat.zero_le n)
  have b0 := tp_B_par (t := t) (n := n) 8 0 (Nat.zero_le n)
  unfold tp_line at h
  cases e : tp_par t n 8 0 with
  | inr g => rw [e] at h; cases h
  | inl x =>
    rw [e] at h0 b0
    have hq := tp_nx_le (t := t) (show x.1 ≤ n from b0)
    rw [tp_mid_l e] at h
    split at h
    · rename_i z
      have hl := tp_ch_lt (t := t) (n := n) (p := tp_nx t n x.1) (by omega)
      have h1 := tp_O_par (t := t) (n := n) 8 (tp_nx t n x.1 + 1) hl
      cases e2 : tp_par t n 8 (tp_nx t n x.1 + 1) with
      | inr g => rw [tp_end_r e2] at h; cases h
      | inl y =>
        rw [e2] at h1
        rw [tp_end_l e2] at h
        split at h
        · cases h
          exact ⟨⟨h0.1, h1.1, tp_rel_r _⟩, h0.2, h1.2⟩
        · cases h
    · cases h
theorem tl_kz {v : tl_L} (h : tl_kind v = 3) : ¬ v.1.1.1 = 0 := by
  unfold tl_kind at h
  split at h
  · omega
  · split at h
    · omega
    · split at h
      · omega
      · rename_i q
        exact fun z => q (Or.inl z)
theorem lg_planv {v : tl_L} (h : lok v) (g : lg v) : lg (tl_planv v) := by
  unfold tl_planv
  split
  · exact ⟨⟨fg_norm (tl_bd h.1.1 h.2.1.1).1, g.1.2⟩, fg_1 0, g.2.2⟩
  · split
    · exact ⟨⟨g.1.1, fg_1 0⟩, g.2.1, fg_norm (tl_bd h.2.1.2 h.1.2).1⟩
    · split
      · rename_i q1 q2 q3
        have hz : ¬ v.1.1.1 = 0 := tl_kz q3
        exact ⟨⟨fg_1 1, g.1.2⟩, g.2.1, fg_norm (tl_n0 (fok_ab h.2.1.2).2.2 hz)⟩
      · exact g
theorem ZI_put {z : tl_Z} {i v : Int} (h : ZI z) : ZI (zputk z i v 4) := by
  refine ⟨fun j => ?_, h.2⟩
  show 0 ≤ (if i ≤ j ∧ (j : Int) < i + (4 : Nat) ∧ j < 80 then v / tl_pw (j - i).toNat % 256 else zt z j) ∧ (if i ≤ j ∧ (j : Int) < i + (4 : Nat) ∧ j < 80 then v / tl_pw (j - i).toNat % 256 else zt z j) < (256 : Int)
  split
  · omega
  · exact h.1 j
theorem ZI_app {z : tl_Z} {w : tl_L} (h : ZI z) (hn : zn z < 40) (hw : lok w ∧ lg w) : ZI (zapp z w) := by
  obtain ⟨h1, h2, h3, h4, h5, h6⟩ := h
  refine ⟨h1, hn, fun i hi => ?_, Or.inl rfl, fun q => absurd (show (0 : Int) = 1 from q) (by decide), h6⟩
  have hi : i < zn z + 1 := hi
  show lok (tl_up (zl z) (zn z) w i) ∧ lg (tl_up (zl z) (zn z) w i)
  by_cases e : i = zn z
  · rw [e, tl_up_s]
    exact hw
  · rw [tl_up_n _ _ e]
    exact h3 i (by omega)
theorem ZI_0 {z : tl_Z} {w : tl_L} (h : ZI z) (hw : lok w ∧ lg w) : ZI (zapp (z0n z) w) := by
  obtain ⟨h1, h2, h3, h4, h5, h6⟩ := h
  refine ⟨h1, by show 0 + 1 ≤ 40; decide, fun i hi => ?_, Or.inl rfl, fun q => absurd (show (0 : Int) = 1 from q) (by decide), h6⟩
  have hi : i < 0 + 1 := hi
  show lok (tl_up (zl z) 0 w i) ∧ lg (tl_up (zl z) 0 w i)
  rw [show i = 0 by omega, tl_up_s]
  exact hw
theorem ZI_begin {z : tl_Z} {n : Nat} (h : ZI z) : ZI (sp_begin z n).2 := by
  cases e : tp_line (zt z) n with
  | inr f => rw [sp_begin_r e]; exact h
  | inl w => rw [sp_begin_l e]; exact ZI_0 h (tp_line_g e)
theorem ZI_pt {z : tl_Z} {k : Nat} {v : Int} (h : ZI z) (hv : 0 ≤ v ∧ v ≤ 10) : ZI (zpt z k v) := by
  obtain ⟨h1, h2, h3, h4, h5, h6⟩ := h
  refine ⟨h1, h2, h3, h4, h5, fun j j1 j2 => ?_⟩
  show 0 ≤ tl_up (zp z) k v j ∧ tl_up (zp z) k v j ≤ 10
  by_cases e : j = k
  · rw [e, tl_up_s]
    exact hv
  · rw [tl_up_n _ _ e]
    exact h6 j j1 j2
theorem ZI_und {z : tl_Z} (h : ZI z) : ZI (zund z) := by
  obtain ⟨h1, h2, h3, h4, h5, h6⟩ := h
  exact ⟨h1, by show zn z - 1 ≤ 40; omega, fun i hi => h3 i (by have hi : i < zn z - 1 := hi; omega), Or.inl rfl, fun q => absurd (show (0 : Int) = 1 from q) (by decide), h6⟩
theorem ZI_take {z : tl_Z} (h : ZI z) (h0 : 0 < zn z) (hn : zn z < 40) : ZI (if 0 < tl_plan (zl z (zn z - 1)) then zapp z (tl_planv (zl z (zn z - 1))) else z) := by
  have l := ZI_l h h0
  split
  · rename_i q
    exact ZI_app h hn ⟨lok_planv l.1 q, lg_planv l.1 l.2⟩
  · exact h
theorem ZI_undo {z : tl_Z} (h : ZI z) : ZI (if zn z = 1 then z else zund z) := by
  split
  · exact h
  · exact ZI_und h
theorem ZI_acc {z : tl_Z} {w : tl_L} (h : ZI z) (h0 : 0 < zn z) (hn : zn z < 40) (hw : lok w ∧ lg w) : ZI (zsw (zan (zapp z w) 1) w) := by
  obtain ⟨h1, h2, h3, h4, h5, h6⟩ := ZI_app h hn hw
  exact ⟨h1, h2, h3, h4, fun q => absurd (show (0 : Int) = 1 from q) (by decide), h6⟩
theorem ZI_rf0 {z : tl_Z} {w : tl_L} {a : Nat} (h : ZI z) (h0 : 0 < zn z) (hw : lok w) : ZI (zan (zrf0 z w) a) := by
  obtain ⟨h1, h2, h3, h4, h5, h6⟩ := h
  have er := tl_exp_r (zl z (zn z - 1)) w 6 1 (by decide) (by decide)
  exact ⟨h1, h2, h3, Or.inr rfl, fun _ => ⟨h0, (by show inI (tl_exp (zl z (zn z - 1)) w 6 1); omega), hw⟩, h6⟩
/-- answers don't matter there -/
theorem ZI_rf1 {z : tl_Z} {w : tl_L} {k a b : Nat} {v : Int} (h : ZI (zpt (zan (zrf0 z w) a) k v)) : ZI (zan (zpt (zrf0 z w) k v) b) := h
theorem ZI_step {z : tl_Z} {n : Nat} (h : ZI z) (h0 : 0 < zn z) (hn : zn z < 40) : ZI (sp_step z n).2 := by
  cases e : tp_line (zt z) n with
  | inr f => rw [sp_step_r e]; exact h
  | inl w =>
    have hw := tp_line_g e
    have pr := tl_plan_r (zl z (zn z - 1))
    have er := tl_exp_r (zl z (zn z - 1)) w 6 1 (by decide) (by decide)
    rw [sp_step_l e rfl]
    show ZI (if _ then _ else _)
    split
    · rename_i q
      rw [q]
      show ZI (zacc (zan (zsw z w) 1) w)
      by_cases p : 0 < tl_plan (zl z (zn z - 1)) ∧ tl_planv (zl z (zn z - 1)) = w
      · rw [zacc_k p rfl rfl]
        refine ZI_acc (ZI_pt h ?_) h0 hn hw
        have := h.2.2.2.2.2 (tl_plan (zl z (zn z - 1))).toNat (by omega) (by omega)
        split <;> omega
      · rw [zacc_0 p]
        exact ZI_acc h h0 hn hw
    · by_cases p : 0 < tl_exp (zl z (zn z - 1)) w 6 1
      · rw [zref_k p rfl rfl]
        generalize hk : (if 3 < tl_exp (zl z (zn z - 1)) w 6 1 then 3 else tl_exp (zl z (zn z - 1)) w 6 1).toNat = k
        have k1 : 1 ≤ k ∧ k ≤ 3 := by
          split at hk <;> omega
        have := h.2.2.2.2.2 k k1.1 k1.2
        exact ZI_rf1 (ZI_pt (ZI_rf0 (a := 0) h h0 hw.1) (by split <;> omega))
      · rw [zref_0 p]
        exact ZI_rf0 h h0 hw.1
