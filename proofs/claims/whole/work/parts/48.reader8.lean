/-! Reader.read; faults lie within the text (by program: wip/whole/gen/reader8.py) -/
def tp_B (n : Nat) (r : tp_R) : Prop := match r with
  | .inl x => x.1 ≤ n
  | .inr f => f ≤ n
theorem tp_B_num {t : Nat → Int} {n p : Nat} (h : p ≤ n) : tp_B n (tp_numS (tp_num t n p)) := by
  cases e : tp_num t n p with
  | inl x => exact (tp_num_ok h e).1
  | inr f =>
    unfold tp_num at e
    split at e
    · cases e
    · cases e
      exact (tp_nx_le h).2
theorem tp_B_close {t : Nat → Int} {n : Nat} {r : tp_R} (h : tp_B n r) : tp_B n (tp_close t n r) := by
  cases r with
  | inr f => exact h
  | inl x =>
    show tp_B n (if _ then _ else _)
    split
    · rename_i z
      exact tp_ch_lt (t := t) (n := n) (by rw [z]; decide)
    · exact (tp_nx_le h).2
def tp_K (n : Nat) (inn : Option (Nat → tp_R)) : Prop := ∀ g, inn = some g → ∀ p, p ≤ n → tp_B n (g p)
theorem tp_B_factor {t : Nat → Int} {n p : Nat} {inn : Option (Nat → tp_R)} (hi : tp_K n inn) (h : p ≤ n) : tp_B n (tp_factor t n inn p) := by
  have hq := tp_nx_le (t := t) h
  unfold tp_factor
  split
  · rename_i z
    have hl := tp_ch_lt (t := t) (n := n) (p := tp_nx t n p) (by rw [z]; decide)
    cases inn with
    | none => exact hq.2
    | some g => exact tp_B_close (hi g rfl _ hl)
  · split
    · rename_i z
      exact tp_ch_lt (t := t) (n := n) (p := tp_nx t n p) (by rw [z]; decide)
    · exact tp_B_num h
theorem tp_B_mul {n pl : Nat} {v : tl_S} {r : tp_R} (h : tp_B n r) (hp : pl ≤ n) : tp_B n (tp_mul v pl r) := by
  cases r with
  | inr f => exact h
  | inl x =>
    show tp_B n (if _ then _ else _)
    split
    · exact hp
    · exact h
theorem tp_B_op {t : Nat → Int} {n p pl : Nat} {c : Int} {v : tl_S} {inn : Option (Nat → tp_R)} (hi : tp_K n inn) (h : p ≤ n) (hp : pl ≤ n) : tp_B n (tp_op t n inn c pl p v) := by
  unfold tp_op
  split
  · exact tp_B_mul (tp_B_factor hi h) hp
  · have h1 := tp_B_num (t := t) h
    cases e : tp_num t n p with
    | inr f => rw [e] at h1; exact h1
    | inl x =>
      show tp_B n (if _ then _ else _)
      have h2 := tp_num_ok h e
      split
      · exact h2.2.2.2
      · exact h2.1
theorem tp_B_fit {n pl : Nat} {r : tp_R} {g : Nat → tl_S → tp_R} (h : tp_B n r) (hp : pl ≤ n) (hg : ∀ p v, p ≤ n → tp_B n (g p v)) : tp_B n (tp_fit pl r g) := by
  cases r with
  | inr f => exact h
  | inl x =>
    show tp_B n (if _ then _ else _)
    split
    · exact hg _ _ h
    · exact hp
theorem tp_B_tl {t : Nat → Int} {n : Nat} {inn : Option (Nat → tp_R)} (hi : tp_K n inn) : ∀ (k p : Nat) (v : tl_S), p ≤ n → tp_B n (tp_tl t n inn k p v)
  | 0, p, v, h => h
  | k + 1, p, v, h => by
    have hq := tp_nx_le (t := t) h
    unfold tp_tl
    split
    · rename_i z
      have hl := tp_ch_lt (t := t) (n := n) (p := tp_nx t n p) (by omega)
      exact tp_B_fit (tp_B_op hi hl hq.2) hq.2 (fun p v hp => tp_B_tl hi k p v hp)
    · exact hq.2
theorem tp_B_bind {n : Nat} {r : tp_R} {g : Nat → tl_S → tp_R} (h : tp_B n r) (hg : ∀ p v, p ≤ n → tp_B n (g p v)) : tp_B n (tp_bind r g) := by
  cases r with
  | inr f => exact h
  | inl x => exact hg _ _ h
theorem tp_B_term {t : Nat → Int} {n p : Nat} {inn : Option (Nat → tp_R)} (hi : tp_K n inn) (h : p ≤ n) : tp_B n (tp_term t n inn p) := tp_B_bind (tp_B_factor hi h) (fun p v hp => tp_B_tl hi 80 p v hp)
theorem tp_B_sum {n : Nat} {c : Int} {v : tl_S} {r : tp_R} (h : tp_B n r) : tp_B n (tp_sum c v r) := by
  cases r with
  | inr f => exact h
  | inl x => exact h
theorem tp_B_sl {t : Nat → Int} {n : Nat} {inn : Option (Nat → tp_R)} (hi : tp_K n inn) : ∀ (k p : Nat) (v : tl_S), p ≤ n → tp_B n (tp_sl t n inn k p v)
  | 0, p, v, h => h
  | k + 1, p, v, h => by
    have hq := tp_nx_le (t := t) h
    unfold tp_sl
    split
    · rename_i z
      have hl := tp_ch_lt (t := t) (n := n) (p := tp_nx t n p) (by omega)
      exact tp_B_fit (tp_B_sum (tp_B_term hi hl)) hq.2 (fun p v hp => tp_B_sl hi k p v hp)
    · exact hq.2
theorem tp_B_side {t : Nat → Int} {n p : Nat} {inn : Option (Nat → tp_R)} (hi : tp_K n inn) (h : p ≤ n) : tp_B n (tp_side t n inn p) := by
  have hq := tp_nx_le (t := t) h
  unfold tp_side
  split
  · rename_i z
    have hl := tp_ch_lt (t := t) (n := n) (p := tp_nx t n p) (by rw [z]; decide)
    exact tp_B_bind (tp_B_term hi hl) (fun p v hp => tp_B_sl hi 80 p _ hp)
  · exact tp_B_bind (tp_B_term hi hq.2) (fun p v hp => tp_B_sl hi 80 p v hp)
theorem tp_B_par {t : Nat → Int} {n : Nat} : ∀ (r p : Nat), p ≤ n → tp_B n (tp_par t n r p)
  | 0, p, h => tp_B_side (fun g z => by cases z) h
  | r + 1, p, h => tp_B_side (fun g z q hq => by cases z; exact tp_B_par r q hq) h
theorem tp_line_f {t : Nat → Int} {n f : Nat} (h : tp_line t n = .inr f) : f ≤ n := by
  have h0 := tp_B_par (t := t) (n := n) 8 0 (Nat.zero_le n)
  unfold tp_line at h
  cases e : tp_par t n 8 0 with
  | inr g => rw [e] at h h0; cases h; exact h0
  | inl x =>
    rw [e] at h0
    have hq := tp_nx_le (t := t) (show x.1 ≤ n from h0)
    rw [tp_mid_l e] at h
    split at h
    · rename_i z
      have hl := tp_ch_lt (t := t) (n := n) (p := tp_nx t n x.1) (by omega)
      have h1 := tp_B_par (t := t) (n := n) 8 (tp_nx t n x.1 + 1) hl
      cases e2 : tp_par t n 8 (tp_nx t n x.1 + 1) with
      | inr g => rw [tp_end_r e2] at h; rw [e2] at h1; cases h; exact h1
      | inl y =>
        rw [e2] at h1
        have hq2 := tp_nx_le (t := t) (show y.1 ≤ n from h1)
        rw [tp_end_l e2] at h
        split at h
        · cases h
        · cases h; exact hq2.2
    · cases h; exact hq.2
/-- what read may change: the reader's own cells, the line's -/
def rdW (rd ta w : Nat) (M M9 : tm_M) : Prop := mR M9 = tm_up (mR M) rd 0 (some ta) ∧ (∀ a k, a ≠ rd → ¬ (w ≤ a ∧ a < w + 7) → mI M9 a k = mI M a k) ∧ ∀ a k, (a < rd + 5 ∨ rd + 86 ≤ a) → ¬ (w ≤ a ∧ a < w + 7) → mL M9 a k = mL M a k
theorem rdW_x {rd ta w : Nat} {M M1 M2 : tm_M} (h : rdW rd ta w M M1) (g : rdx rd (rd + 5) M1 M2) : rdW rd ta w M M2 := ⟨g.1.trans h.1, fun a k q z => (g.2.1 a k q).trans (h.2.1 a k q z), fun a k q z => (g.2.2.2 a k q).trans (h.2.2 a k q z)⟩
theorem rdW_sS {rd ta w q : Nat} {M M1 : tm_M} {v : tl_S} (h : rdW rd ta w M M1) (hq : w ≤ q ∧ q + 3 ≤ w + 7) : rdW rd ta w M (sS M1 q v) := ⟨h.1, h.2.1, fun a k q z => (fL_n _ _ (by omega)).trans ((fL_n _ _ (by omega)).trans (h.2.2 a k q z))⟩
theorem rdW_r {rd ta w : Nat} {M M1 M2 : tm_M} (h : rdW rd ta w M M1) (h1 : mR M2 = mR M1) (h2 : mL M2 = mL M1) (h3 : ∀ a k, a ≠ rd → a ≠ w → mI M2 a k = mI M1 a k) : rdW rd ta w M M2 := ⟨h1.trans h.1, fun a k q z => (h3 a k q (by omega)).trans (h.2.1 a k q z), fun a k q z => by rw [h2]; exact h.2.2 a k q z⟩
theorem RS_y {sh : tm_sh} {M M1 : tm_M} {rd ta : Nat} {t : Nat → Int} {n p p1 : Nat} (h : RS sh M rd ta t n p) (h1 : mR M1 = mR M) (h2 : ∀ j, mI M1 ta j = mI M ta j) (h3 : mI M1 rd 1 = mI M rd 1) (hp : mI M1 rd 2 = p1) (hl : p1 ≤ n) : RS sh M1 rd ta t n p1 :=
  ⟨isRd_m h.1 h1, h.2.1, fun j => by rw [h2 j]; exact h.2.2.1 j, h3.trans h.2.2.2.1, h.2.2.2.2.1, hp, hl⟩
def rdP (rd ta w n : Nat) (t : Nat → Int) (M : tm_M) (x : Int) (M9 : tm_M) : Prop := rdW rd ta w M M9 ∧ ((∃ L : tl_L, tp_line t n = .inl L ∧ x = -1 ∧ ln M9 w = L ∧ lok L) ∨ ∃ f : Nat, tp_line t n = .inr f ∧ x = f)
def RD0 (sh : tm_sh) (M : tm_M) (rd ta : Nat) (t : Nat → Int) : Prop := isRd sh (sR M rd 0 (some ta)) rd ta ∧ ta ≠ rd ∧ ∀ j, mI M ta j % 256 = t j ∧ -128 ≤ mI M ta j ∧ mI M ta j < 128
theorem c_X4_side8 {l : Launch} {G : tm_G} {Hb : Heap} {sh : tm_sh} {M : tm_M} {rd ta n p1 : Nat} {t : Nat → Int} (hR : RS sh M rd ta t n p1) : Met l yX4_readSide (tws yX4_readSide cX4_readSide 7 (some .boolean)) ({ frames := 68, cells := 0, slots := 0, locals := 1440 }) (va_Pc [.ref rd, ji 0] (tm_St G Hb sh M)) (tm_Qi G Hb sh (fun x M1 => rdR rd (rd + 5) (rd + 5) n M M1 (tp_par t n 8 p1) x)) 0 0 (tm_A Hb) := c_X4_readSide 8 (by omega) M 0 p1 (by omega) hR
theorem tp_rel_r (c : Int) : 0 ≤ tp_rel c ∧ tp_rel c ≤ 2 := by
  unfold tp_rel
  split
  · omega
  · split <;> omega
theorem dX4_read_0 : decode cX4_read 0 = .ok (.aload_n 0, 1) := by decide +kernel
theorem dX4_read_1 : decode cX4_read 1 = .ok (.aload_n 1, 1) := by decide +kernel
theorem dX4_read_2 : decode cX4_read 2 = .ok (.putfield 9, 3) := by decide +kernel
theorem dX4_read_5 : decode cX4_read 5 = .ok (.aload_n 0, 1) := by decide +kernel
theorem dX4_read_6 : decode cX4_read 6 = .ok (.iload_n 2, 1) := by decide +kernel
theorem dX4_read_7 : decode cX4_read 7 = .ok (.aload_n 1, 1) := by decide +kernel
theorem dX4_read_8 : decode cX4_read 8 = .ok (.arraylength, 1) := by decide +kernel
theorem dX4_read_9 : decode cX4_read 9 = .ok (.invokestatic 28, 3) := by decide +kernel
theorem dX4_read_12 : decode cX4_read 12 = .ok (.putfield 34, 3) := by decide +kernel
theorem dX4_read_15 : decode cX4_read 15 = .ok (.aload_n 0, 1) := by decide +kernel
theorem dX4_read_16 : decode cX4_read 16 = .ok (.iconst 0, 1) := by decide +kernel
theorem dX4_read_17 : decode cX4_read 17 = .ok (.putfield 38, 3) := by decide +kernel
theorem dX4_read_20 : decode cX4_read 20 = .ok (.aload_n 0, 1) := by decide +kernel
theorem dX4_read_21 : decode cX4_read 21 = .ok (.iconst (-1), 1) := by decide +kernel
theorem dX4_read_22 : decode cX4_read 22 = .ok (.putfield 41, 3) := by decide +kernel
theorem dX4_read_25 : decode cX4_read 25 = .ok (.aload_n 0, 1) := by decide +kernel
theorem dX4_read_26 : decode cX4_read 26 = .ok (.iconst 0, 1) := by decide +kernel
theorem dX4_read_27 : decode cX4_read 27 = .ok (.invokevirtual 44, 3) := by decide +kernel
theorem dX4_read_30 : decode cX4_read 30 = .ok (.ifCond .eq 62, 3) := by decide +kernel
theorem dX4_read_33 : decode cX4_read 33 = .ok (.aload_n 3, 1) := by decide +kernel
theorem dX4_read_34 : decode cX4_read 34 = .ok (.getfield 48, 3) := by decide +kernel
theorem dX4_read_37 : decode cX4_read 37 = .ok (.aload_n 0, 1) := by decide +kernel
theorem dX4_read_38 : decode cX4_read 38 = .ok (.getfield 17, 3) := by decide +kernel
theorem dX4_read_41 : decode cX4_read 41 = .ok (.iconst 0, 1) := by decide +kernel
theorem dX4_read_42 : decode cX4_read 42 = .ok (.aaload, 1) := by decide +kernel
theorem dX4_read_43 : decode cX4_read 43 = .ok (.invokevirtual 54, 3) := by decide +kernel
theorem dX4_read_46 : decode cX4_read 46 = .ok (.aload_n 0, 1) := by decide +kernel
theorem dX4_read_47 : decode cX4_read 47 = .ok (.aload_n 3, 1) := by decide +kernel
theorem dX4_read_48 : decode cX4_read 48 = .ok (.invokevirtual 58, 3) := by decide +kernel
theorem dX4_read_51 : decode cX4_read 51 = .ok (.ifCond .eq 41, 3) := by decide +kernel
theorem dX4_read_54 : decode cX4_read 54 = .ok (.aload_n 0, 1) := by decide +kernel
theorem dX4_read_55 : decode cX4_read 55 = .ok (.iconst 0, 1) := by decide +kernel
theorem dX4_read_56 : decode cX4_read 56 = .ok (.invokevirtual 44, 3) := by decide +kernel
theorem dX4_read_59 : decode cX4_read 59 = .ok (.ifCond .eq 33, 3) := by decide +kernel
theorem dX4_read_62 : decode cX4_read 62 = .ok (.aload_n 3, 1) := by decide +kernel
theorem dX4_read_63 : decode cX4_read 63 = .ok (.getfield 62, 3) := by decide +kernel
theorem dX4_read_66 : decode cX4_read 66 = .ok (.aload_n 0, 1) := by decide +kernel
theorem dX4_read_67 : decode cX4_read 67 = .ok (.getfield 17, 3) := by decide +kernel
theorem dX4_read_70 : decode cX4_read 70 = .ok (.iconst 0, 1) := by decide +kernel
theorem dX4_read_71 : decode cX4_read 71 = .ok (.aaload, 1) := by decide +kernel
theorem dX4_read_72 : decode cX4_read 72 = .ok (.invokevirtual 54, 3) := by decide +kernel
theorem dX4_read_75 : decode cX4_read 75 = .ok (.aload_n 0, 1) := by decide +kernel
theorem dX4_read_76 : decode cX4_read 76 = .ok (.invokevirtual 65, 3) := by decide +kernel
theorem dX4_read_79 : decode cX4_read 79 = .ok (.iconst (-1), 1) := by decide +kernel
theorem dX4_read_80 : decode cX4_read 80 = .ok (.if_icmp .eq 12, 3) := by decide +kernel
theorem dX4_read_83 : decode cX4_read 83 = .ok (.aload_n 0, 1) := by decide +kernel
theorem dX4_read_84 : decode cX4_read 84 = .ok (.aload_n 0, 1) := by decide +kernel
theorem dX4_read_85 : decode cX4_read 85 = .ok (.getfield 38, 3) := by decide +kernel
theorem dX4_read_88 : decode cX4_read 88 = .ok (.invokevirtual 69, 3) := by decide +kernel
theorem dX4_read_91 : decode cX4_read 91 = .ok (.pop, 1) := by decide +kernel
theorem dX4_read_92 : decode cX4_read 92 = .ok (.aload_n 0, 1) := by decide +kernel
theorem dX4_read_93 : decode cX4_read 93 = .ok (.getfield 41, 3) := by decide +kernel
theorem dX4_read_96 : decode cX4_read 96 = .ok (.ireturn, 1) := by decide +kernel
theorem isLn_R {sh : tm_sh} {M : tm_M} {w rd : Nat} {v : Option Nat} (hne : w ≠ rd) (h : isLn sh (sR M rd 0 v) w) (h0 : sh rd = some (5, 0)) : isLn sh M w := by
  obtain ⟨h1, h2, h3, h4, h5⟩ := h
  have e1 : mR (sR M rd 0 v) w = mR M w := funext fun b => tm_up_a _ _ hne
  have n1 : w + 1 ≠ rd := fun z => by have := h4.1; rw [z, h0] at this; cases this
  have n4 : w + 4 ≠ rd := fun z => by have := h5.1; rw [z, h0] at this; cases this
  have e2 : mR (sR M rd 0 v) (w + 1) = mR M (w + 1) := funext fun b => tm_up_a _ _ n1
  have e3 : mR (sR M rd 0 v) (w + 4) = mR M (w + 4) := funext fun b => tm_up_a _ _ n4
  exact ⟨h1, by rw [← e1]; exact h2, by rw [← e1]; exact h3, ⟨h4.1, h4.2.1, h4.2.2.1, by rw [← e2]; exact h4.2.2.2.1, by rw [← e2]; exact h4.2.2.2.2⟩, ⟨h5.1, h5.2.1, h5.2.2.1, by rw [← e3]; exact h5.2.2.2.1, by rw [← e3]; exact h5.2.2.2.2⟩⟩
theorem isLn_up {sh : tm_sh} {M M1 : tm_M} {w rd : Nat} {v : Option Nat} (h : isLn sh M w) (h0 : sh rd = some (5, 0)) (e : mR M1 = tm_up (mR M) rd 0 v) : isLn sh M1 w := by
  obtain ⟨h1, h2, h3, h4, h5⟩ := h
  have n0 : w ≠ rd := fun z => by rw [z, h0] at h1; cases h1
  have n1 : w + 1 ≠ rd := fun z => by have := h4.1; rw [z, h0] at this; cases this
  have n4 : w + 4 ≠ rd := fun z => by have := h5.1; rw [z, h0] at this; cases this
  have e0 : ∀ b, mR M1 w b = mR M w b := fun b => by rw [e]; exact tm_up_a _ _ n0
  have e2 : ∀ b, mR M1 (w + 1) b = mR M (w + 1) b := fun b => by rw [e]; exact tm_up_a _ _ n1
  have e3 : ∀ b, mR M1 (w + 4) b = mR M (w + 4) b := fun b => by rw [e]; exact tm_up_a _ _ n4
  exact ⟨h1, by rw [e0]; exact h2, by rw [e0]; exact h3, ⟨h4.1, h4.2.1, h4.2.2.1, by rw [e2]; exact h4.2.2.2.1, by rw [e2]; exact h4.2.2.2.2⟩, ⟨h5.1, h5.2.1, h5.2.2.1, by rw [e3]; exact h5.2.2.2.1, by rw [e3]; exact h5.2.2.2.2⟩⟩
set_option maxHeartbeats 4000000 in
set_option maxRecDepth 100000 in
/-- Reader.read -/
theorem c_X4_read {l : Launch} {G : tm_G} {Hb : Heap} {sh : tm_sh} {M : tm_M} {rd ta n w : Nat} {t : Nat → Int} (hR : RD0 sh M rd ta t) (hn : n ≤ 80) (hw : isLn sh M w) (hd : w + 7 ≤ rd ∨ rd + 86 ≤ w) : Met l yX4_read (tws yX4_read cX4_read 4 (some .int)) ({ frames := 69, cells := 0, slots := 0, locals := 1466 }) (va_Pc [.ref rd, .ref ta, ji (n : Nat), .ref w] (tm_St G Hb sh M)) (tm_Qi G Hb sh (rdP rd ta w n t M)) 0 0 (tm_A Hb) := by
  refine tm_begin (by decide) (Nat.le_of_ble_eq_true rfl) (fun p e s m below meth c ls hx hb hr hml hown htw hlk hnm hK hW hl => ?_)
  have hS : va_S (tm_A Hb) s.heap s.heap [] := va_S.rf
  have hl : lv_has ls 4 [(0, .ref rd), (1, .ref ta), (2, ji (n : Nat)), (3, .ref w)] := hl
  obtain ⟨hR1, hta, hbt⟩ := hR
  have y0 := hR1.1
  have y2 := hR1.2.2.1
  have w0 := hw.1
  have hwt : ta ≠ w := fun z => by rw [z, w0] at y2; cases y2
  have hwr : w ≠ rd := fun z => by rw [z, y0] at w0; cases w0
  have fin : ∀ (x : Int) (M9 : tm_M) (H : Heap) (locs : List Loc) (ls : Array Slot), mI M9 rd 3 = x → rdP rd ta w n t M x M9 → tm_W G Hb sh M9 H → va_S (tm_A Hb) s.heap H locs → lv_has ls 4 [(0, .ref rd)] → W p l e ({ frames := 69, cells := 0, slots := 0, locals := 1466 }) s m [.ref rd, .ref ta, ji (n : Nat), .ref w].toArray below meth c H locs 0 0 (MQ below (tm_Qi G Hb sh (rdP rd ta w n t M)) [.ref rd, .ref ta, ji (n : Nat), .ref w].toArray s 0 0 (tm_A Hb)) (F0 m 92 ls []) := by
    intro x M9 H locs ls hx9 hP hW hS hl
    refine lv_aload_n hx hb dX4_read_92 rfl (lv_at hl 0 rfl) ?_
    refine gf_X4_41 hx hb htw hown hK hW (by assumption) dX4_read_93 ?_
    exact tm_iret hx hb hr hlk hK hW hS (by rw [hx9]; exact hP) dX4_read_96
  refine lv_aload_n hx hb dX4_read_0 rfl (lv_at hl 0 rfl) ?_
  refine lv_aload_n hx hb dX4_read_1 rfl (lv_at hl 1 rfl) ?_
  refine pf_X4_9 hx hb htw hown hK hW (by assumption) hS dX4_read_2 (fun H locs hW hS => ?_)
  refine lv_aload_n hx hb dX4_read_5 rfl (lv_at hl 0 rfl) ?_
  refine lv_iload_n hx hb dX4_read_6 rfl (lv_at hl 2 rfl) ?_
  refine lv_aload_n hx hb dX4_read_7 rfl (lv_at hl 1 rfl) ?_
  refine tm_alen hx hb hK hW y2 (Or.inr (Or.inr (Or.inl rfl))) dX4_read_8 ?_
  refine tm_min hx hb hml hl.1 hown htw mm_X4_28 ⟨Nat.le_of_ble_eq_true rfl, Nat.le_of_ble_eq_true rfl⟩ (Nat.le_of_ble_eq_true rfl) ⟨Nat.zero_le _, Nat.zero_le _⟩ (by omega) (by omega) dX4_read_9 ?_
  rw [if_neg (show ¬ ((80 : Nat) : Int) < (n : Int) by omega)]
  refine pf_X4_34 hx hb htw hown hK hW (by assumption) hS dX4_read_12 (fun H locs hW hS => ?_)
  refine lv_aload_n hx hb dX4_read_15 rfl (lv_at hl 0 rfl) ?_
  refine ti_iconst hx hb dX4_read_16 ?_
  refine pf_X4_38 hx hb htw hown hK hW (by assumption) hS dX4_read_17 (fun H locs hW hS => ?_)
  refine lv_aload_n hx hb dX4_read_20 rfl (lv_at hl 0 rfl) ?_
  refine ti_iconst hx hb dX4_read_21 ?_
  refine pf_X4_41 hx hb htw hown hK hW (by assumption) hS dX4_read_22 (fun H locs hW hS => ?_)
  have R4 : RS sh (sI (sI (sI (sR M rd 0 (some ta)) rd 1 n) rd 2 0) rd 3 (-1)) rd ta t n 0 := ⟨isRd_m hR1 rfl, hta, fun j => by rw [show mI (sI (sI (sI (sR M rd 0 (some ta)) rd 1 n) rd 2 0) rd 3 (-1)) ta j = mI M ta j from (tm_up_a _ _ hta).trans ((tm_up_a _ _ hta).trans (tm_up_a _ _ hta))]; exact hbt j, (tm_up_k _ _ (by decide)).trans ((tm_up_k _ _ (by decide)).trans (tm_up_s _ _ _ _)), hn, (tm_up_k _ _ (by decide)).trans (tm_up_s _ _ _ _), Nat.zero_le n⟩
  have W4 : rdW rd ta w M (sI (sI (sI (sR M rd 0 (some ta)) rd 1 n) rd 2 0) rd 3 (-1)) := ⟨rfl, fun a k q z => (tm_up_a _ _ q).trans ((tm_up_a _ _ q).trans (tm_up_a _ _ q)), fun _ _ _ _ => rfl⟩
  have f4 : mI (sI (sI (sI (sR M rd 0 (some ta)) rd 1 n) rd 2 0) rd 3 (-1)) rd 3 = -1 := tm_up_s _ _ _ _
  generalize (sI (sI (sI (sR M rd 0 (some ta)) rd 1 n) rd 2 0) rd 3 (-1)) = M4 at R4 W4 f4 hW
  refine lv_aload_n hx hb dX4_read_25 rfl (lv_at hl 0 rfl) ?_
  refine ti_iconst hx hb dX4_read_26 ?_
  refine tm_calli (cs_X4_44 hx hb hml hown htw hK hW (by assumption) (c_X4_side8 R4) ⟨rfl, rfl, Nat.le_of_ble_eq_true rfl, Nat.le_of_ble_eq_true rfl⟩ hl.1 (Nat.le_of_ble_eq_true rfl) dX4_read_27 ⟨Nat.le_of_ble_eq_true rfl, Nat.le_of_ble_eq_true rfl⟩) hS (fun x27 M27 H locs hp27 hW hS => ?_)
  refine ti_if_eq (tgt := 92) hx hb dX4_read_30 (by decide) (rdR_r hp27) (fun h30 => ?_) (fun h30 => ?_)
  · first
    | exact fin _ M88 _ _ _ (by rw [eM88]; exact tm_up_s _ _ _ _) ⟨by rw [eM88]; exact rdW_x W76 rdx_sI, Or.inr ⟨tp_nx t n yv.1, by rw [hT]; exact if_neg h80, e76⟩⟩ hW hS (lv_sub hl [0] rfl)
    | exact fin _ M76 _ _ _ f76 ⟨W76, Or.inl ⟨_, by rw [hT]; exact if_pos h80, rfl, L76, ⟨gk, hk2, tp_rel_r _⟩⟩⟩ hW hS (lv_sub hl [0] rfl)
    | (obtain ⟨f9, e9, g9⟩ := rdR_0 hp56 h59; exact fin _ M56 _ _ _ g9 ⟨rdW_x W48 hp56.1, Or.inr ⟨f9, by rw [tp_line, tp_mid_l ev, if_pos ⟨c1, c2⟩, tp_end_r e9], rfl⟩⟩ hW hS (lv_sub hl [0] rfl))
    | (rcases g5 with z | z; · exact absurd z.2.2.1 (by omega)
       exact fin _ M48 _ _ _ z.2.2 ⟨W48, Or.inr ⟨tp_nx t n xv.1, by rw [tp_line, tp_mid_l ev]; exact if_neg z.1, rfl⟩⟩ hW hS (lv_sub hl [0] rfl))
    | (obtain ⟨f9, e9, g9⟩ := rdR_0 hp27 h30; exact fin _ M27 _ _ _ g9 ⟨rdW_x W4 hp27.1, Or.inr ⟨f9, by rw [tp_line, tp_mid_r e9], rfl⟩⟩ hW hS (lv_sub hl [0] rfl))
  · obtain ⟨xv, ev, gp, gl, gv, gk, s27⟩ := rdR_1 hp27 h30
    have W27 := rdW_x W4 (rdf_x s27)
    have R27 := RS_m R4 s27 gp gl
    have y3 := R27.1.2.2.2.1.1
    have y6 := R27.1.2.2.2.2.1.1
    have w27 := isLn_up hw y0 W27.1
    have v27 := w27.2.2.2.1
    have z27 := rdA R27.1 (d := 0) (by omega)
    have rr27 : mR M27 (rd + 2) (0 : Int).toNat = some (rd + 5) := z27.1
    have sm27 : isSd sh M27 (rd + 5) := z27.2.2.2.1
    have l27 := w27.2.1
    have i27 := v27.1
    have f27 : mI M27 rd 3 = -1 := s27.2.2.2.2.trans f4
    refine lv_aload_n hx hb dX4_read_33 rfl (lv_at hl 3 rfl) ?_
    refine gf_X4_48 hx hb htw hown hK hW (by assumption) (by assumption) dX4_read_34 ?_
    refine lv_aload_n hx hb dX4_read_37 rfl (lv_at hl 0 rfl) ?_
    refine gf_X4_17 hx hb htw hown hK hW (by assumption) (by assumption) dX4_read_38 ?_
    refine ti_iconst hx hb dX4_read_41 ?_
    refine tm_aaldS hx hb hK hW (by assumption) (by omega) (by omega) (by decide) (by assumption) dX4_read_42 ?_
    refine tm_callv (cs_X4_54 hx hb hml hown htw hK hW (by assumption) (c_X5_copy v27 sm27 (by omega)) ⟨rfl, rfl, Nat.le_of_ble_eq_true rfl, Nat.le_of_ble_eq_true rfl⟩ hl.1 (Nat.le_of_ble_eq_true rfl) dX4_read_43 ⟨Nat.le_of_ble_eq_true rfl, Nat.le_of_ble_eq_true rfl⟩) hS (fun M43 H locs hp43 hW hS => ?_)
    have W43 : rdW rd ta w M M43 := by rw [hp43]; exact rdW_sS W27 (by omega)
    have R43 : RS sh M43 rd ta t n xv.1 := RS_y R27 (by rw [hp43]) (by rw [hp43]; exact fun _ => rfl) (by rw [hp43]) (by rw [hp43]; exact gp) gl
    have v43 : sd M43 (w + 1) = xv.2 := by rw [hp43, sd_self]; exact gv
    have f43 : mI M43 rd 3 = -1 := by rw [hp43]; exact f27
    refine lv_aload_n hx hb dX4_read_46 rfl (lv_at hl 0 rfl) ?_
    refine lv_aload_n hx hb dX4_read_47 rfl (lv_at hl 3 rfl) ?_
    refine tm_calli (cs_X4_58 hx hb hml hown htw hK hW (by assumption) (c_X4_readRelation R43 w0) ⟨rfl, rfl, Nat.le_of_ble_eq_true rfl, Nat.le_of_ble_eq_true rfl⟩ hl.1 (Nat.le_of_ble_eq_true rfl) dX4_read_48 ⟨Nat.le_of_ble_eq_true rfl, Nat.le_of_ble_eq_true rfl⟩) hS (fun x48 M48 H locs hp48 hW hS => ?_)
    obtain ⟨g1, g2, g3, g4, g5⟩ := hp48
    have W48 : rdW rd ta w M M48 := rdW_r W43 g1 g2 g3
    have v48 : sd M48 (w + 1) = xv.2 := by rw [← v43]; show ((mL M48 (w + 1 + 1) 0, mL M48 (w + 1 + 1) 1), (mL M48 (w + 1 + 2) 0, mL M48 (w + 1 + 2) 1)) = _; rw [g2]
    refine ti_if_eq (tgt := 92) hx hb dX4_read_51 (by decide) (by rcases g5 with z | z <;> omega) (fun h51 => ?_) (fun h51 => ?_)
    · first
      | exact fin _ M88 _ _ _ (by rw [eM88]; exact tm_up_s _ _ _ _) ⟨by rw [eM88]; exact rdW_x W76 rdx_sI, Or.inr ⟨tp_nx t n yv.1, by rw [hT]; exact if_neg h80, e76⟩⟩ hW hS (lv_sub hl [0] rfl)
      | exact fin _ M76 _ _ _ f76 ⟨W76, Or.inl ⟨_, by rw [hT]; exact if_pos h80, rfl, L76, ⟨gk, hk2, tp_rel_r _⟩⟩⟩ hW hS (lv_sub hl [0] rfl)
      | (obtain ⟨f9, e9, g9⟩ := rdR_0 hp56 h59; exact fin _ M56 _ _ _ g9 ⟨rdW_x W48 hp56.1, Or.inr ⟨f9, by rw [tp_line, tp_mid_l ev, if_pos ⟨c1, c2⟩, tp_end_r e9], rfl⟩⟩ hW hS (lv_sub hl [0] rfl))
      | (rcases g5 with z | z; · exact absurd z.2.2.1 (by omega)
         exact fin _ M48 _ _ _ z.2.2 ⟨W48, Or.inr ⟨tp_nx t n xv.1, by rw [tp_line, tp_mid_l ev]; exact if_neg z.1, rfl⟩⟩ hW hS (lv_sub hl [0] rfl))
      | (obtain ⟨f9, e9, g9⟩ := rdR_0 hp27 h30; exact fin _ M27 _ _ _ g9 ⟨rdW_x W4 hp27.1, Or.inr ⟨f9, by rw [tp_line, tp_mid_r e9], rfl⟩⟩ hW hS (lv_sub hl [0] rfl))
    · obtain ⟨c1, c2, -, g6, g7, g8⟩ : 60 ≤ tp_ch t n (tp_nx t n xv.1) ∧ tp_ch t n (tp_nx t n xv.1) ≤ 62 ∧ x48 = 1 ∧ mI M48 rd 2 = ((tp_nx t n xv.1 + 1 : Nat) : Int) ∧ mI M48 w 2 = tp_rel (tp_ch t n (tp_nx t n xv.1)) ∧ mI M48 rd 3 = mI M43 rd 3 := by
          rcases g5 with z | z
          · exact z
          · exact absurd z.2.1 h51
      have R48 : RS sh M48 rd ta t n (tp_nx t n xv.1 + 1) := RS_y R43 g1 (fun j => g3 ta j hta hwt) g4 g6 (tp_ch_lt (t := t) (by omega))
      refine lv_aload_n hx hb dX4_read_54 rfl (lv_at hl 0 rfl) ?_
      refine ti_iconst hx hb dX4_read_55 ?_
      refine tm_calli (cs_X4_44 hx hb hml hown htw hK hW (by assumption) (c_X4_side8 R48) ⟨rfl, rfl, Nat.le_of_ble_eq_true rfl, Nat.le_of_ble_eq_true rfl⟩ hl.1 (Nat.le_of_ble_eq_true rfl) dX4_read_56 ⟨Nat.le_of_ble_eq_true rfl, Nat.le_of_ble_eq_true rfl⟩) hS (fun x56 M56 H locs hp56 hW hS => ?_)
      refine ti_if_eq (tgt := 92) hx hb dX4_read_59 (by decide) (rdR_r hp56) (fun h59 => ?_) (fun h59 => ?_)
      · first
        | exact fin _ M88 _ _ _ (by rw [eM88]; exact tm_up_s _ _ _ _) ⟨by rw [eM88]; exact rdW_x W76 rdx_sI, Or.inr ⟨tp_nx t n yv.1, by rw [hT]; exact if_neg h80, e76⟩⟩ hW hS (lv_sub hl [0] rfl)
        | exact fin _ M76 _ _ _ f76 ⟨W76, Or.inl ⟨_, by rw [hT]; exact if_pos h80, rfl, L76, ⟨gk, hk2, tp_rel_r _⟩⟩⟩ hW hS (lv_sub hl [0] rfl)
        | (obtain ⟨f9, e9, g9⟩ := rdR_0 hp56 h59; exact fin _ M56 _ _ _ g9 ⟨rdW_x W48 hp56.1, Or.inr ⟨f9, by rw [tp_line, tp_mid_l ev, if_pos ⟨c1, c2⟩, tp_end_r e9], rfl⟩⟩ hW hS (lv_sub hl [0] rfl))
        | (rcases g5 with z | z; · exact absurd z.2.2.1 (by omega)
           exact fin _ M48 _ _ _ z.2.2 ⟨W48, Or.inr ⟨tp_nx t n xv.1, by rw [tp_line, tp_mid_l ev]; exact if_neg z.1, rfl⟩⟩ hW hS (lv_sub hl [0] rfl))
        | (obtain ⟨f9, e9, g9⟩ := rdR_0 hp27 h30; exact fin _ M27 _ _ _ g9 ⟨rdW_x W4 hp27.1, Or.inr ⟨f9, by rw [tp_line, tp_mid_r e9], rfl⟩⟩ hW hS (lv_sub hl [0] rfl))
      · obtain ⟨yv, ev2, hp2, hl2, hv2, hk2, s56⟩ := rdR_1 hp56 h59
        have W56 := rdW_x W48 (rdf_x s56)
        have R56 := RS_m R48 s56 hp2 hl2
        have w56 := isLn_up hw y0 W56.1
        have u56 := w56.2.2.2.2
        have y3b := R56.1.2.2.2.1.1
        have y6b := R56.1.2.2.2.2.1.1
        have z56 := rdA R56.1 (d := 0) (by omega)
        have rr56 : mR M56 (rd + 2) (0 : Int).toNat = some (rd + 5) := z56.1
        have sm56 : isSd sh M56 (rd + 5) := z56.2.2.2.1
        have l56 := w56.2.2.1
        have i56 := u56.1
        have f56 : mI M56 rd 3 = -1 := s56.2.2.2.2.trans (g8.trans f43)
        have r56 : mI M56 w 2 = tp_rel (tp_ch t n (tp_nx t n xv.1)) := (s56.2.1 w 2 hwr).trans g7
        have v56 : sd M56 (w + 1) = xv.2 := (rdf_sd s56 (by omega)).trans v48
        refine lv_aload_n hx hb dX4_read_62 rfl (lv_at hl 3 rfl) ?_
        refine gf_X4_62 hx hb htw hown hK hW (by assumption) (by assumption) dX4_read_63 ?_
        refine lv_aload_n hx hb dX4_read_66 rfl (lv_at hl 0 rfl) ?_
        refine gf_X4_17 hx hb htw hown hK hW (by assumption) (by assumption) dX4_read_67 ?_
        refine ti_iconst hx hb dX4_read_70 ?_
        refine tm_aaldS hx hb hK hW (by assumption) (by omega) (by omega) (by decide) (by assumption) dX4_read_71 ?_
        refine tm_callv (cs_X4_54 hx hb hml hown htw hK hW (by assumption) (c_X5_copy u56 sm56 (by omega)) ⟨rfl, rfl, Nat.le_of_ble_eq_true rfl, Nat.le_of_ble_eq_true rfl⟩ hl.1 (Nat.le_of_ble_eq_true rfl) dX4_read_72 ⟨Nat.le_of_ble_eq_true rfl, Nat.le_of_ble_eq_true rfl⟩) hS (fun M72 H locs hp72 hW hS => ?_)
        have W72 : rdW rd ta w M M72 := by rw [hp72]; exact rdW_sS W56 (by omega)
        have R72 : RS sh M72 rd ta t n yv.1 := RS_y R56 (by rw [hp72]) (by rw [hp72]; exact fun _ => rfl) (by rw [hp72]) (by rw [hp72]; exact hp2) hl2
        have v72 : sd M72 (w + 1) = xv.2 := by rw [hp72]; exact (sd_sS _ _ (by omega)).trans v56
        have u72 : sd M72 (w + 4) = yv.2 := by rw [hp72, sd_self]; exact hv2
        have r72 : mI M72 w 2 = tp_rel (tp_ch t n (tp_nx t n xv.1)) := by rw [hp72]; exact r56
        have f72 : mI M72 rd 3 = -1 := by rw [hp72]; exact f56
        refine lv_aload_n hx hb dX4_read_75 rfl (lv_at hl 0 rfl) ?_
        refine tm_calli (cs_X4_65 hx hb hml hown htw hK hW (by assumption) (c_X4_next R72) ⟨rfl, rfl, Nat.le_of_ble_eq_true rfl, Nat.le_of_ble_eq_true rfl⟩ hl.1 (Nat.le_of_ble_eq_true rfl) dX4_read_76 ⟨Nat.le_of_ble_eq_true rfl, Nat.le_of_ble_eq_true rfl⟩) hS (fun x76 M76 H locs hp76 hW hS => ?_)
        obtain ⟨ex76, e76, n76⟩ := hp76
        rw [ex76]
        have cr := tp_ch_r (n := n) (p := tp_nx t n yv.1) (RS_t R72)
        have W76 := rdW_x W72 (rdf_x (rdn_f n76))
        have L76 : ln M76 w = (xv.2, yv.2, tp_rel (tp_ch t n (tp_nx t n xv.1))) := by rw [← v72, ← u72, ← r72, ← rdn_sd n76, ← rdn_sd n76, ← n76.2.2 w 2 (fun z => hwr z.1)]
        have f76 : mI M76 rd 3 = -1 := (n76.2.2 rd 3 (fun z => absurd z.2 (by decide))).trans f72
        have hT : tp_line t n = if tp_ch t n (tp_nx t n yv.1) = -1 then .inl (xv.2, yv.2, tp_rel (tp_ch t n (tp_nx t n xv.1))) else .inr (tp_nx t n yv.1) := by rw [tp_line, tp_mid_l ev, if_pos ⟨c1, c2⟩, tp_end_l ev2]
        refine ti_iconst hx hb dX4_read_79 ?_
        refine ti_icmp_eq (tgt := 92) hx hb dX4_read_80 (by decide) (by omega) (by omega) (fun h80 => ?_) (fun h80 => ?_)
        · first
          | exact fin _ M88 _ _ _ (by rw [eM88]; exact tm_up_s _ _ _ _) ⟨by rw [eM88]; exact rdW_x W76 rdx_sI, Or.inr ⟨tp_nx t n yv.1, by rw [hT]; exact if_neg h80, e76⟩⟩ hW hS (lv_sub hl [0] rfl)
          | exact fin _ M76 _ _ _ f76 ⟨W76, Or.inl ⟨_, by rw [hT]; exact if_pos h80, rfl, L76, ⟨gk, hk2, tp_rel_r _⟩⟩⟩ hW hS (lv_sub hl [0] rfl)
          | (obtain ⟨f9, e9, g9⟩ := rdR_0 hp56 h59; exact fin _ M56 _ _ _ g9 ⟨rdW_x W48 hp56.1, Or.inr ⟨f9, by rw [tp_line, tp_mid_l ev, if_pos ⟨c1, c2⟩, tp_end_r e9], rfl⟩⟩ hW hS (lv_sub hl [0] rfl))
          | (rcases g5 with z | z; · exact absurd z.2.2.1 (by omega)
             exact fin _ M48 _ _ _ z.2.2 ⟨W48, Or.inr ⟨tp_nx t n xv.1, by rw [tp_line, tp_mid_l ev]; exact if_neg z.1, rfl⟩⟩ hW hS (lv_sub hl [0] rfl))
          | (obtain ⟨f9, e9, g9⟩ := rdR_0 hp27 h30; exact fin _ M27 _ _ _ g9 ⟨rdW_x W4 hp27.1, Or.inr ⟨f9, by rw [tp_line, tp_mid_r e9], rfl⟩⟩ hW hS (lv_sub hl [0] rfl))
        · refine lv_aload_n hx hb dX4_read_83 rfl (lv_at hl 0 rfl) ?_
          refine lv_aload_n hx hb dX4_read_84 rfl (lv_at hl 0 rfl) ?_
          refine gf_X4_38 hx hb htw hown hK hW (by assumption) dX4_read_85 ?_
          refine tm_calli (cs_X4_69 hx hb hml hown htw hK hW (by assumption) (c_X4_failAt y0) ⟨rfl, rfl, Nat.le_of_ble_eq_true rfl, Nat.le_of_ble_eq_true rfl⟩ hl.1 (Nat.le_of_ble_eq_true rfl) dX4_read_88 ⟨Nat.le_of_ble_eq_true rfl, Nat.le_of_ble_eq_true rfl⟩) hS (fun x88 M88 H locs hp88 hW hS => ?_)
          obtain ⟨ex88, eM88⟩ := hp88
          rw [ex88]
          refine lv_pop hx hb dX4_read_91 rfl ?_
          first
          | exact fin _ M88 _ _ _ (by rw [eM88]; exact tm_up_s _ _ _ _) ⟨by rw [eM88]; exact rdW_x W76 rdx_sI, Or.inr ⟨tp_nx t n yv.1, by rw [hT]; exact if_neg h80, e76⟩⟩ hW hS (lv_sub hl [0] rfl)
          | exact fin _ M76 _ _ _ f76 ⟨W76, Or.inl ⟨_, by rw [hT]; exact if_pos h80, rfl, L76, ⟨gk, hk2, tp_rel_r _⟩⟩⟩ hW hS (lv_sub hl [0] rfl)
          | (obtain ⟨f9, e9, g9⟩ := rdR_0 hp56 h59; exact fin _ M56 _ _ _ g9 ⟨rdW_x W48 hp56.1, Or.inr ⟨f9, by rw [tp_line, tp_mid_l ev, if_pos ⟨c1, c2⟩, tp_end_r e9], rfl⟩⟩ hW hS (lv_sub hl [0] rfl))
          | (rcases g5 with z | z; · exact absurd z.2.2.1 (by omega)
             exact fin _ M48 _ _ _ z.2.2 ⟨W48, Or.inr ⟨tp_nx t n xv.1, by rw [tp_line, tp_mid_l ev]; exact if_neg z.1, rfl⟩⟩ hW hS (lv_sub hl [0] rfl))
          | (obtain ⟨f9, e9, g9⟩ := rdR_0 hp27 h30; exact fin _ M27 _ _ _ g9 ⟨rdW_x W4 hp27.1, Or.inr ⟨f9, by rw [tp_line, tp_mid_r e9], rfl⟩⟩ hW hS (lv_sub hl [0] rfl))
