/-! Reader: its small methods (by program: wip/whole/gen/reader.py) -/
/-- the reader at rd: its text array ta; sums, terms, factors at rd + 2, + 3, + 4, their sides nine cells a level from rd + 5 on -/
def isRd (sh : tm_sh) (M : tm_M) (rd ta : Nat) : Prop := sh rd = some (5, 0) ∧ mR M rd 0 = some ta ∧ sh ta = some (22, 80) ∧ (mR M rd 5 = some (rd + 2) ∧ mR M rd 6 = some (rd + 3) ∧ mR M rd 7 = some (rd + 4)) ∧ (sh (rd + 2) = some (24, 9) ∧ sh (rd + 3) = some (24, 9) ∧ sh (rd + 4) = some (24, 9)) ∧ ∀ i, i < 9 → (mR M (rd + 2) i = some (rd + 5 + 9 * i) ∧ mR M (rd + 3) i = some (rd + 8 + 9 * i) ∧ mR M (rd + 4) i = some (rd + 11 + 9 * i)) ∧ isSd sh M (rd + 5 + 9 * i) ∧ isSd sh M (rd + 8 + 9 * i) ∧ isSd sh M (rd + 11 + 9 * i)
/-- what it reads: the bytes t, n of them, from p on -/
def RS (sh : tm_sh) (M : tm_M) (rd ta : Nat) (t : Nat → Int) (n p : Nat) : Prop := isRd sh M rd ta ∧ ta ≠ rd ∧ (∀ j, mI M ta j % 256 = t j ∧ -128 ≤ mI M ta j ∧ mI M ta j < 128) ∧ mI M rd 1 = n ∧ n ≤ 80 ∧ mI M rd 2 = p ∧ p ≤ n
/-- what it may change: its place, fault, last digit; the longs of cells lo .. rd + 85 -/
def rdf (rd lo : Nat) (M M1 : tm_M) : Prop := mR M1 = mR M ∧ (∀ a k, a ≠ rd → mI M1 a k = mI M a k) ∧ mI M1 rd 1 = mI M rd 1 ∧ (∀ a k, (a < lo ∨ rd + 86 ≤ a) → mL M1 a k = mL M a k) ∧ mI M1 rd 3 = mI M rd 3
def rdx (rd lo : Nat) (M M1 : tm_M) : Prop := mR M1 = mR M ∧ (∀ a k, a ≠ rd → mI M1 a k = mI M a k) ∧ mI M1 rd 1 = mI M rd 1 ∧ ∀ a k, (a < lo ∨ rd + 86 ≤ a) → mL M1 a k = mL M a k
theorem rdf_x {rd lo : Nat} {M M1 : tm_M} (h : rdf rd lo M M1) : rdx rd lo M M1 := ⟨h.1, h.2.1, h.2.2.1, h.2.2.2.1⟩
theorem rdx_tr {rd lo : Nat} {M M1 M2 : tm_M} (h : rdx rd lo M M1) (g : rdx rd lo M1 M2) : rdx rd lo M M2 := ⟨g.1.trans h.1, fun a k q => (g.2.1 a k q).trans (h.2.1 a k q), g.2.2.1.trans h.2.2.1, fun a k q => (g.2.2.2 a k q).trans (h.2.2.2 a k q)⟩
theorem rdx_wd {rd lo lo' : Nat} {M M1 : tm_M} (h : rdx rd lo M M1) (hl : lo' ≤ lo) : rdx rd lo' M M1 := ⟨h.1, h.2.1, h.2.2.1, fun a k q => h.2.2.2 a k (by omega)⟩
theorem rdx_sI {rd lo : Nat} {M : tm_M} {v : Int} : rdx rd lo M (sI M rd 3 v) := ⟨rfl, fun a j h => tm_up_a _ _ h, tm_up_k _ _ (by decide), fun _ _ _ => rfl⟩
theorem rdf_rf {rd lo : Nat} {M : tm_M} : rdf rd lo M M := ⟨rfl, fun _ _ _ => rfl, rfl, fun _ _ _ => rfl, rfl⟩
theorem rdf_tr {rd lo : Nat} {M M1 M2 : tm_M} (h : rdf rd lo M M1) (g : rdf rd lo M1 M2) : rdf rd lo M M2 := ⟨g.1.trans h.1, fun a k q => (g.2.1 a k q).trans (h.2.1 a k q), g.2.2.1.trans h.2.2.1, fun a k q => (g.2.2.2.1 a k q).trans (h.2.2.2.1 a k q), g.2.2.2.2.trans h.2.2.2.2⟩
theorem rdf_wd {rd lo lo' : Nat} {M M1 : tm_M} (h : rdf rd lo M M1) (hl : lo' ≤ lo) : rdf rd lo' M M1 := ⟨h.1, h.2.1, h.2.2.1, fun a k q => h.2.2.2.1 a k (by omega), h.2.2.2.2⟩
theorem rdf_sI {rd lo k : Nat} {M : tm_M} {v : Int} (hk : k ≠ 1 ∧ k ≠ 3) : rdf rd lo M (sI M rd k v) := ⟨rfl, fun a j h => tm_up_a _ _ h, tm_up_k _ _ (Ne.symm hk.1), fun _ _ _ => rfl, tm_up_k _ _ (Ne.symm hk.2)⟩
theorem rdf_fS {rd lo q : Nat} {M : tm_M} {f : tl_F} (h1 : lo ≤ q) (h2 : q < rd + 86) : rdf rd lo M (fS M q f) := ⟨rfl, fun _ _ _ => rfl, rfl, fun a k h => fL_n M f (by omega), rfl⟩
theorem rdf_sS {rd lo q : Nat} {M : tm_M} {v : tl_S} (h1 : lo ≤ q + 1) (h2 : q + 2 < rd + 86) : rdf rd lo M (sS M q v) := rdf_tr (rdf_fS h1 (by omega)) (rdf_fS (by omega) h2)
theorem rdf_fr {rd lo a : Nat} {M M1 : tm_M} (h : rdf rd lo M M1) (g : a < lo ∨ rd + 86 ≤ a) : fr M1 a = fr M a := by
  show (mL M1 a 0, mL M1 a 1) = _
  rw [h.2.2.2.1 a 0 g, h.2.2.2.1 a 1 g]
theorem rdf_sd {rd lo a : Nat} {M M1 : tm_M} (h : rdf rd lo M M1) (g : a + 3 ≤ lo ∨ rd + 86 ≤ a) : sd M1 a = sd M a := by
  show (fr M1 (a + 1), fr M1 (a + 2)) = _
  rw [rdf_fr h (by omega), rdf_fr h (by omega)]
theorem isRd_m {sh : tm_sh} {M M1 : tm_M} {rd ta : Nat} (h : isRd sh M rd ta) (e : mR M1 = mR M) : isRd sh M1 rd ta := by
  obtain ⟨h1, h2, h3, h4, h5, h6⟩ := h
  refine ⟨h1, by rw [e]; exact h2, h3, by rw [e]; exact h4, h5, fun i hi => ?_⟩
  obtain ⟨a1, a2, a3, a4⟩ := h6 i hi
  exact ⟨by rw [e]; exact a1, isSd_m a2 e, isSd_m a3 e, isSd_m a4 e⟩
theorem RS_m {sh : tm_sh} {M M1 : tm_M} {rd ta lo : Nat} {t : Nat → Int} {n p p1 : Nat} (h : RS sh M rd ta t n p) (f : rdf rd lo M M1) (hp : mI M1 rd 2 = p1) (hl : p1 ≤ n) : RS sh M1 rd ta t n p1 :=
  ⟨isRd_m h.1 f.1, h.2.1, fun j => by rw [f.2.1 ta j h.2.1]; exact h.2.2.1 j, f.2.2.1.trans h.2.2.2.1, h.2.2.2.2.1, hp, hl⟩
theorem RS_t {sh : tm_sh} {M : tm_M} {rd ta : Nat} {t : Nat → Int} {n p : Nat} (h : RS sh M rd ta t n p) (j : Nat) : 0 ≤ t j ∧ t j < 256 := by
  have := h.2.2.1 j
  omega
theorem tn_and255 (x : Int) : Int32.ofInt x &&& Int32.ofInt 255 = Int32.ofInt (x % 256) := by
  apply Int32.toInt_inj.mp
  have h1 := pk_and (Int32.ofInt x) (m := Int32.ofInt 255) 8 (by decide)
  rw [h1]
  have h2 : (Int32.ofInt x).toBitVec.toNat % 2 ^ 8 < 2 ^ 31 := Nat.lt_of_lt_of_le (Nat.mod_lt _ (by decide)) (by decide)
  rw [nI_toInt h2, tn_i (x := x % 256) (by omega)]
  have h3 : (Int32.ofInt x).toBitVec = BitVec.ofInt 32 x := rfl
  rw [h3, BitVec.toNat_ofInt]
  omega
section TIA
variable {p : Program} {l : Launch} {e : Env} {R : Room} {s : State} {m : MethodId} {args : Array Value} {below : List Frame} {meth : Method} {c : Code} {H : Heap} {locs : List Loc} {cells slots : Nat} {Q : State → Prop}
variable {cc : ByteArray} {pc : Nat} {ls : Array Slot} {rest : List Value}
theorem ti_and255 (hexec : p.tables.exec = Jvm.exec) (hb : c.code = cc) {x : Int} (hdg : decode cc pc = .ok (.iand, 1)) (k : W p l e R s m args below meth c H locs cells slots Q (F0 m (pc + 1) ls (ji (x % 256) :: rest))) : W p l e R s m args below meth c H locs cells slots Q (F0 m pc ls (ji 255 :: ji x :: rest)) := lv_iand hexec hb hdg (by rw [tn_and255]; exact k)
end TIA
/-- the place alone has moved -/
def rdn (rd : Nat) (M M1 : tm_M) : Prop := mR M1 = mR M ∧ mL M1 = mL M ∧ ∀ a k, ¬ (a = rd ∧ k = 2) → mI M1 a k = mI M a k
theorem rdn_f {rd lo : Nat} {M M1 : tm_M} (h : rdn rd M M1) : rdf rd lo M M1 := ⟨h.1, fun a k q => h.2.2 a k (fun z => q z.1), h.2.2 rd 1 (fun z => absurd z.2 (by decide)), fun a k _ => by rw [h.2.1], h.2.2 rd 3 (fun z => absurd z.2 (by decide))⟩
theorem dX4_failAt_0 : decode cX4_failAt 0 = .ok (.aload_n 0, 1) := by decide +kernel
theorem dX4_failAt_1 : decode cX4_failAt 1 = .ok (.iload_n 1, 1) := by decide +kernel
theorem dX4_failAt_2 : decode cX4_failAt 2 = .ok (.putfield 41, 3) := by decide +kernel
theorem dX4_failAt_5 : decode cX4_failAt 5 = .ok (.iconst 0, 1) := by decide +kernel
theorem dX4_failAt_6 : decode cX4_failAt 6 = .ok (.ireturn, 1) := by decide +kernel
set_option maxHeartbeats 4000000 in
set_option maxRecDepth 100000 in
/-- Reader.failAt -/
theorem c_X4_failAt {l : Launch} {G : tm_G} {Hb : Heap} {sh : tm_sh} {M : tm_M} {rd : Nat} {x : Int} (h0 : sh rd = some (5, 0)) : Met l yX4_failAt (tws yX4_failAt cX4_failAt 2 (some .boolean)) ({ frames := 0, cells := 0, slots := 0, locals := 0 }) (va_Pc [.ref rd, ji x] (tm_St G Hb sh M)) (tm_Qi G Hb sh (fun r M1 => r = 0 ∧ M1 = sI M rd 3 x)) 0 0 (tm_A Hb) := by
  refine tm_begin (by decide) (Nat.le_of_ble_eq_true rfl) (fun p e s m below meth c ls hx hb hr hml hown htw hlk hnm hK hW hl => ?_)
  have hS : va_S (tm_A Hb) s.heap s.heap [] := va_S.rf
  have hl : lv_has ls 2 [(0, .ref rd), (1, ji x)] := hl
  refine lv_aload_n hx hb dX4_failAt_0 rfl (lv_at hl 0 rfl) ?_
  refine lv_iload_n hx hb dX4_failAt_1 rfl (lv_at hl 1 rfl) ?_
  refine pf_X4_41 hx hb htw hown hK hW (by assumption) hS dX4_failAt_2 (fun H locs hW hS => ?_)
  refine ti_iconst hx hb dX4_failAt_5 ?_
  exact tm_zret hx hb hr hlk (by first | exact Or.inl rfl | exact Or.inr rfl | assumption) hK hW hS ⟨rfl, rfl⟩ dX4_failAt_6
theorem dX4_isDigit_0 : decode cX4_isDigit 0 = .ok (.iload_n 0, 1) := by decide +kernel
theorem dX4_isDigit_1 : decode cX4_isDigit 1 = .ok (.bipush 48, 2) := by decide +kernel
theorem dX4_isDigit_3 : decode cX4_isDigit 3 = .ok (.if_icmp .lt 13, 3) := by decide +kernel
theorem dX4_isDigit_6 : decode cX4_isDigit 6 = .ok (.iload_n 0, 1) := by decide +kernel
theorem dX4_isDigit_7 : decode cX4_isDigit 7 = .ok (.bipush 57, 2) := by decide +kernel
theorem dX4_isDigit_9 : decode cX4_isDigit 9 = .ok (.if_icmp .gt 7, 3) := by decide +kernel
theorem dX4_isDigit_12 : decode cX4_isDigit 12 = .ok (.iconst 1, 1) := by decide +kernel
theorem dX4_isDigit_13 : decode cX4_isDigit 13 = .ok (.goto 4, 3) := by decide +kernel
theorem dX4_isDigit_16 : decode cX4_isDigit 16 = .ok (.iconst 0, 1) := by decide +kernel
theorem dX4_isDigit_17 : decode cX4_isDigit 17 = .ok (.ireturn, 1) := by decide +kernel
set_option maxHeartbeats 4000000 in
set_option maxRecDepth 100000 in
/-- Reader.isDigit -/
theorem c_X4_isDigit {l : Launch} {G : tm_G} {Hb : Heap} {sh : tm_sh} {M : tm_M} {x : Int} (hx0 : inI x) : Met l yX4_isDigit (tws yX4_isDigit cX4_isDigit 1 (some .boolean)) ({ frames := 0, cells := 0, slots := 0, locals := 0 }) (va_Pc [ji x] (tm_St G Hb sh M)) (tm_Qi G Hb sh (fun r M1 => r = tl_b (48 ≤ x ∧ x ≤ 57) ∧ M1 = M)) 0 0 (tm_A Hb) := by
  refine tm_begin (by decide) (Nat.le_of_ble_eq_true rfl) (fun p e s m below meth c ls hx hb hr hml hown htw hlk hnm hK hW hl => ?_)
  have hS : va_S (tm_A Hb) s.heap s.heap [] := va_S.rf
  have hl : lv_has ls 1 [(0, ji x)] := hl
  refine lv_iload_n hx hb dX4_isDigit_0 rfl (lv_at hl 0 rfl) ?_
  refine ti_bipush hx hb dX4_isDigit_1 (by decide) ?_
  refine ti_icmp_lt (tgt := 16) hx hb dX4_isDigit_3 (by decide) (by omega) (by omega) (fun h3 => ?_) (fun h3 => ?_)
  · refine ti_iconst hx hb dX4_isDigit_16 ?_
    exact tm_zret hx hb hr hlk (by first | exact Or.inl rfl | exact Or.inr rfl | assumption) hK hW hS ⟨by first | exact tl_b_t (by omega) | exact tl_b_f (by omega), rfl⟩ dX4_isDigit_17
  · refine lv_iload_n hx hb dX4_isDigit_6 rfl (lv_at hl 0 rfl) ?_
    refine ti_bipush hx hb dX4_isDigit_7 (by decide) ?_
    refine ti_icmp_gt (tgt := 16) hx hb dX4_isDigit_9 (by decide) (by omega) (by omega) (fun h9 => ?_) (fun h9 => ?_)
    · refine ti_iconst hx hb dX4_isDigit_16 ?_
      exact tm_zret hx hb hr hlk (by first | exact Or.inl rfl | exact Or.inr rfl | assumption) hK hW hS ⟨by first | exact tl_b_t (by omega) | exact tl_b_f (by omega), rfl⟩ dX4_isDigit_17
    · refine ti_iconst hx hb dX4_isDigit_12 ?_
      refine lv_goto (tgt := 17) hx hb dX4_isDigit_13 (by decide) ?_
      exact tm_zret hx hb hr hlk (by first | exact Or.inl rfl | exact Or.inr rfl | assumption) hK hW hS ⟨by first | exact tl_b_t (by omega) | exact tl_b_f (by omega), rfl⟩ dX4_isDigit_17
theorem dX4_next_0 : decode cX4_next 0 = .ok (.aload_n 0, 1) := by decide +kernel
theorem dX4_next_1 : decode cX4_next 1 = .ok (.getfield 38, 3) := by decide +kernel
theorem dX4_next_4 : decode cX4_next 4 = .ok (.aload_n 0, 1) := by decide +kernel
theorem dX4_next_5 : decode cX4_next 5 = .ok (.getfield 34, 3) := by decide +kernel
theorem dX4_next_8 : decode cX4_next 8 = .ok (.if_icmp .ge 30, 3) := by decide +kernel
theorem dX4_next_11 : decode cX4_next 11 = .ok (.aload_n 0, 1) := by decide +kernel
theorem dX4_next_12 : decode cX4_next 12 = .ok (.getfield 9, 3) := by decide +kernel
theorem dX4_next_15 : decode cX4_next 15 = .ok (.aload_n 0, 1) := by decide +kernel
theorem dX4_next_16 : decode cX4_next 16 = .ok (.getfield 38, 3) := by decide +kernel
theorem dX4_next_19 : decode cX4_next 19 = .ok (.baload, 1) := by decide +kernel
theorem dX4_next_20 : decode cX4_next 20 = .ok (.bipush 32, 2) := by decide +kernel
theorem dX4_next_22 : decode cX4_next 22 = .ok (.if_icmp .ne 16, 3) := by decide +kernel
theorem dX4_next_25 : decode cX4_next 25 = .ok (.aload_n 0, 1) := by decide +kernel
theorem dX4_next_26 : decode cX4_next 26 = .ok (.dup, 1) := by decide +kernel
theorem dX4_next_27 : decode cX4_next 27 = .ok (.getfield 38, 3) := by decide +kernel
theorem dX4_next_30 : decode cX4_next 30 = .ok (.iconst 1, 1) := by decide +kernel
theorem dX4_next_31 : decode cX4_next 31 = .ok (.iadd, 1) := by decide +kernel
theorem dX4_next_32 : decode cX4_next 32 = .ok (.putfield 38, 3) := by decide +kernel
theorem dX4_next_35 : decode cX4_next 35 = .ok (.goto (-35), 3) := by decide +kernel
theorem dX4_next_38 : decode cX4_next 38 = .ok (.aload_n 0, 1) := by decide +kernel
theorem dX4_next_39 : decode cX4_next 39 = .ok (.getfield 38, 3) := by decide +kernel
theorem dX4_next_42 : decode cX4_next 42 = .ok (.aload_n 0, 1) := by decide +kernel
theorem dX4_next_43 : decode cX4_next 43 = .ok (.getfield 34, 3) := by decide +kernel
theorem dX4_next_46 : decode cX4_next 46 = .ok (.if_icmp .ge 19, 3) := by decide +kernel
theorem dX4_next_49 : decode cX4_next 49 = .ok (.aload_n 0, 1) := by decide +kernel
theorem dX4_next_50 : decode cX4_next 50 = .ok (.getfield 9, 3) := by decide +kernel
theorem dX4_next_53 : decode cX4_next 53 = .ok (.aload_n 0, 1) := by decide +kernel
theorem dX4_next_54 : decode cX4_next 54 = .ok (.getfield 38, 3) := by decide +kernel
theorem dX4_next_57 : decode cX4_next 57 = .ok (.baload, 1) := by decide +kernel
theorem dX4_next_58 : decode cX4_next 58 = .ok (.sipush 255, 3) := by decide +kernel
theorem dX4_next_61 : decode cX4_next 61 = .ok (.iand, 1) := by decide +kernel
theorem dX4_next_62 : decode cX4_next 62 = .ok (.goto 4, 3) := by decide +kernel
theorem dX4_next_65 : decode cX4_next 65 = .ok (.iconst (-1), 1) := by decide +kernel
theorem dX4_next_66 : decode cX4_next 66 = .ok (.ireturn, 1) := by decide +kernel
theorem tm_un {M : tm_M} {rd a k : Nat} {v : Int} (h : ¬ (a = rd ∧ k = 2)) : mI (sI M rd 2 v) a k = mI M a k := if_neg h
set_option maxHeartbeats 4000000 in
set_option maxRecDepth 100000 in
/-- Reader.next: blanks are passed over -/
theorem c_X4_next {l : Launch} {G : tm_G} {Hb : Heap} {sh : tm_sh} {M : tm_M} {rd ta n p1 : Nat} {t : Nat → Int} (hR : RS sh M rd ta t n p1) : Met l yX4_next (tws yX4_next cX4_next 1 (some .int)) ({ frames := 0, cells := 0, slots := 0, locals := 0 }) (va_Pc [.ref rd] (tm_St G Hb sh M)) (tm_Qi G Hb sh (fun r M1 => r = tp_ch t n (tp_nx t n p1) ∧ mI M1 rd 2 = tp_nx t n p1 ∧ rdn rd M M1)) 0 0 (tm_A Hb) := by
  refine tm_begin (by decide) (Nat.le_of_ble_eq_true rfl) (fun p e s m below meth c ls hx hb hr hml hown htw hlk hnm hK hW hl => ?_)
  have hS : va_S (tm_A Hb) s.heap s.heap [] := va_S.rf
  have hl : lv_has ls 1 [(0, .ref rd)] := hl
  have loop : ∀ (k p2 : Nat) (M1 : tm_M) (H : Heap) (locs : List Loc) (ls : Array Slot), n - p2 = k → tp_nx t n p2 = tp_nx t n p1 → RS sh M1 rd ta t n p2 → rdn rd M M1 → tm_W G Hb sh M1 H → va_S (tm_A Hb) s.heap H locs → lv_has ls 1 [(0, .ref rd)] → W p l e ({ frames := 0, cells := 0, slots := 0, locals := 0 }) s m [.ref rd].toArray below meth c H locs 0 0 (MQ below (tm_Qi G Hb sh (fun r M1 => r = tp_ch t n (tp_nx t n p1) ∧ mI M1 rd 2 = tp_nx t n p1 ∧ rdn rd M M1)) [.ref rd].toArray s 0 0 (tm_A Hb)) (F0 m 0 ls []) := by
    intro k
    induction k with
    | zero =>
      intro p2 M1 H locs ls hk hx2 hR hn hW hS hl
      obtain ⟨⟨r0, r1, r2, -⟩, hta, ht, hL1, hL2, hP1, hP2⟩ := hR
      have h3 := ht p2
      have en : tp_nx t n p2 = p2 := tp_nx_end (by omega)
      refine lv_aload_n hx hb dX4_next_0 rfl (lv_at hl 0 rfl) ?_
      refine gf_X4_38 hx hb htw hown hK hW (by assumption) dX4_next_1 ?_
      refine lv_aload_n hx hb dX4_next_4 rfl (lv_at hl 0 rfl) ?_
      refine gf_X4_34 hx hb htw hown hK hW (by assumption) dX4_next_5 ?_
      refine ti_icmp_ge (tgt := 38) hx hb dX4_next_8 (by decide) (by omega) (by omega) (fun h8 => ?_) (fun h8 => ?_)
      · refine lv_aload_n hx hb dX4_next_38 rfl (lv_at hl 0 rfl) ?_
        refine gf_X4_38 hx hb htw hown hK hW (by assumption) dX4_next_39 ?_
        refine lv_aload_n hx hb dX4_next_42 rfl (lv_at hl 0 rfl) ?_
        refine gf_X4_34 hx hb htw hown hK hW (by assumption) dX4_next_43 ?_
        refine ti_icmp_ge (tgt := 65) hx hb dX4_next_46 (by decide) (by omega) (by omega) (fun h46 => ?_) (fun h46 => ?_)
        · refine ti_iconst hx hb dX4_next_65 ?_
          exact tm_iret hx hb hr hlk hK hW hS ⟨by rw [← hx2, en, tp_ch, if_neg (by omega)], by rw [← hx2, en]; exact hP1, hn⟩ dX4_next_66
        · exact absurd h46 (by omega)
      · exact absurd h8 (by omega)
    | succ k ih =>
      intro p2 M1 H locs ls hk hx2 hR hn hW hS hl
      have hR0 := hR
      obtain ⟨⟨r0, r1, r2, -⟩, hta, ht, hL1, hL2, hP1, hP2⟩ := hR
      have h3 := ht p2
      have eI : mI M1 ta (mI M1 rd 2).toNat = mI M1 ta p2 := by rw [hP1]; rfl
      refine lv_aload_n hx hb dX4_next_0 rfl (lv_at hl 0 rfl) ?_
      refine gf_X4_38 hx hb htw hown hK hW (by assumption) dX4_next_1 ?_
      refine lv_aload_n hx hb dX4_next_4 rfl (lv_at hl 0 rfl) ?_
      refine gf_X4_34 hx hb htw hown hK hW (by assumption) dX4_next_5 ?_
      refine ti_icmp_ge (tgt := 38) hx hb dX4_next_8 (by decide) (by omega) (by omega) (fun h8 => ?_) (fun h8 => ?_)
      · exact absurd h8 (by omega)
      · refine lv_aload_n hx hb dX4_next_11 rfl (lv_at hl 0 rfl) ?_
        refine gf_X4_9 hx hb htw hown hK hW (by assumption) (by assumption) dX4_next_12 ?_
        refine lv_aload_n hx hb dX4_next_15 rfl (lv_at hl 0 rfl) ?_
        refine gf_X4_38 hx hb htw hown hK hW (by assumption) dX4_next_16 ?_
        refine tm_bald hx hb hK hW (by assumption) (by omega) (by omega) (by decide) dX4_next_19 ?_
        refine ti_bipush hx hb dX4_next_20 (by decide) ?_
        refine ti_icmp_ne (tgt := 38) hx hb dX4_next_22 (by decide) (by rw [eI]; omega) (by decide) (fun h22 => ?_) (fun h22 => ?_)
        · rw [eI] at h22
          have en : tp_nx t n p2 = p2 := tp_nx_end (by omega)
          refine lv_aload_n hx hb dX4_next_38 rfl (lv_at hl 0 rfl) ?_
          refine gf_X4_38 hx hb htw hown hK hW (by assumption) dX4_next_39 ?_
          refine lv_aload_n hx hb dX4_next_42 rfl (lv_at hl 0 rfl) ?_
          refine gf_X4_34 hx hb htw hown hK hW (by assumption) dX4_next_43 ?_
          refine ti_icmp_ge (tgt := 65) hx hb dX4_next_46 (by decide) (by omega) (by omega) (fun h46 => ?_) (fun h46 => ?_)
          · exact absurd h46 (by omega)
          · refine lv_aload_n hx hb dX4_next_49 rfl (lv_at hl 0 rfl) ?_
            refine gf_X4_9 hx hb htw hown hK hW (by assumption) (by assumption) dX4_next_50 ?_
            refine lv_aload_n hx hb dX4_next_53 rfl (lv_at hl 0 rfl) ?_
            refine gf_X4_38 hx hb htw hown hK hW (by assumption) dX4_next_54 ?_
            refine tm_bald hx hb hK hW (by assumption) (by omega) (by omega) (by decide) dX4_next_57 ?_
            refine ti_sipush hx hb dX4_next_58 (by decide) ?_
            refine ti_and255 hx hb dX4_next_61 ?_
            refine lv_goto (tgt := 66) hx hb dX4_next_62 (by decide) ?_
            exact tm_iret hx hb hr hlk hK hW hS ⟨by rw [← hx2, en, tp_ch, if_pos (by omega), ← h3.1, eI], by rw [← hx2, en]; exact hP1, hn⟩ dX4_next_66
        · rw [eI] at h22
          refine lv_aload_n hx hb dX4_next_25 rfl (lv_at hl 0 rfl) ?_
          refine lv_dup hx hb dX4_next_26 rfl ?_
          refine gf_X4_38 hx hb htw hown hK hW (by assumption) dX4_next_27 ?_
          refine ti_iconst hx hb dX4_next_30 ?_
          refine ti_iadd hx hb dX4_next_31 ?_
          refine pf_X4_38 hx hb htw hown hK hW (by assumption) hS dX4_next_32 (fun H locs hW hS => ?_)
          refine lv_goto (tgt := 0) hx hb dX4_next_35 (by decide) ?_
          exact ih (p2 + 1) _ _ _ _ (by omega) (by rw [← hx2]; exact (tp_nx_go (by omega) (by omega)).symm) (RS_m (lo := 0) hR0 (rdf_sI (by decide)) (by rw [show mI (sI M1 rd 2 (mI M1 rd 2 + 1)) rd 2 = mI M1 rd 2 + 1 from tm_up_s _ _ _ _, hP1]; rfl) (by omega)) ⟨hn.1, hn.2.1, fun a k q => (tm_un q).trans (hn.2.2 a k q)⟩ hW hS (lv_sub hl [0] rfl)
  exact loop (n - p1) p1 M _ _ _ rfl rfl hR ⟨rfl, rfl, fun _ _ _ => rfl⟩ hW hS hl
