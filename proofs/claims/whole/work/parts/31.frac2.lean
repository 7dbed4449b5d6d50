/-! Fraction: set (Euclid), sums, differences, products, quotients, comparing (by program: wip/whole/gen/frac2.py) -/
/-- a method's begin, of a class of the JDK -/
theorem tm_beginF {l : Launch} {y : MethodName} {cc : ByteArray} {maxL : Nat} {ret : Option FieldType} {rm : Room} {av : List Value} {G : tm_G} {Hb : Heap} {sh : tm_sh} {M : tm_M} {Qc : Array Value → State → Outcome → State → Prop} {mc ms : Nat} {free : Addr → Prop} (hy : plainFor y = true) (hlen : (lg_sl av).length ≤ maxL)
    (body : ∀ (p : Program) (e : Env) (s : State) (m : MethodId) (below : List Frame) (meth : Method) (c : Code) (ls : Array Slot), p.tables.exec = Jvm.exec → c.code = cc → meth.sig.returnType = ret → c.maxLocals = maxL → s.vm.findClass y.cls = some m.cls → (∀ w ∈ tw, w.before av.toArray s = true) → meth.locks = false → meth.name = y.name → va_K G.1 vwCl (tm_tys G) s → tm_W G Hb sh M s.heap → lv_has ls maxL (lv_args 0 av) →
      W p l e rm s m av.toArray below meth c s.heap [] 0 0 (MQ below Qc av.toArray s mc ms free) (F0 m 0 ls [])) : Met l y (tws y cc maxL ret) rm (va_Pc av (tm_St G Hb sh M)) Qc mc ms free := by
  refine va_MetF (cc := cc) (maxL := maxL) (ret := ret) hy rfl ?_
  intro p e s m args below meth c s₁ B hml hv
  obtain ⟨rfl, hK, hW⟩ := hv
  have hts := atoms_spec (ws := tws y cc maxL ret) B.pre
  have hl := lv_entry av (n := maxL) hlen
  rw [lg_entry_eq]
  exact body p e s m below meth c _ B.exec B.bytes B.returns hml (findClass_of_methodNamed B.named) (fun w hw => hts w (List.mem_cons_of_mem _ hw)) B.notSynchronized (name_of_methodNamed B.named B.method).1 hK hW hl
theorem tl_tdm {x y : Int} (hy : 0 < y) (hx : inL x) : inL (x.tdiv y * y) := by
  have h1 := Int.mul_tdiv_add_tmod x y
  have h2 := Int.natAbs_tmod x y
  have h3 : x.natAbs % y.natAbs ≤ x.natAbs := Nat.mod_le _ _
  have h4 : (x.tmod y).natAbs ≤ x.natAbs := by omega
  rw [Int.mul_comm] at h1
  have h5 : (0 ≤ x ∧ 0 ≤ x.tmod y) ∨ (x ≤ 0 ∧ x.tmod y ≤ 0) := by
    rcases Int.lt_or_le x 0 with z | z
    · have := Int.tmod_nonneg (a := -x) y (by omega)
      rw [Int.neg_tmod] at this
      exact Or.inr ⟨by omega, by omega⟩
    · exact Or.inl ⟨z, Int.tmod_nonneg y z⟩
  have := hx.1
  have := hx.2
  exact ⟨by omega, by omega⟩
theorem tl_gcd_step {d r : Int} : Int.gcd r (d.tmod r) = Int.gcd d r := by
  show Nat.gcd r.natAbs (d.tmod r).natAbs = Nat.gcd d.natAbs r.natAbs
  rw [Int.natAbs_tmod, Nat.gcd_comm d.natAbs, Nat.gcd_rec r.natAbs d.natAbs, Nat.gcd_comm]
theorem tl_tmod_lt {d r : Int} (hr : r ≠ 0) : (d.tmod r).natAbs < r.natAbs := by
  rw [Int.natAbs_tmod]
  exact Nat.mod_lt _ (by omega)
theorem tl_set_fin {a b d : Int} (hb : b ≠ 0) (h : d.natAbs = Int.gcd a b) (hs : d < 0 ↔ b < 0) : a.tdiv d = (tl_norm a b).1 ∧ b.tdiv d = (tl_norm a b).2 := by
  have hg := tl_gcd_pos (a := a) hb
  have h1 : (Int.gcd a b : Int) ∣ a := Int.gcd_dvd_left a b
  have h2 : (Int.gcd a b : Int) ∣ b := Int.gcd_dvd_right a b
  unfold tl_norm
  by_cases hn : b < 0
  · rw [if_pos hn]
    have e : d = -(Int.gcd a b : Int) := by have := hs.mpr hn; omega
    obtain ⟨x, hx⟩ := h1
    obtain ⟨y, hy⟩ := h2
    have ex : -a = (Int.gcd a b : Int) * (-x) := by rw [Int.mul_neg, ← hx]
    have ey : -b = (Int.gcd a b : Int) * (-y) := by rw [Int.mul_neg, ← hy]
    refine ⟨?_, ?_⟩
    · show a.tdiv d = -a / (Int.gcd a b : Int)
      rw [ex, Int.mul_ediv_cancel_left _ (by omega), e, Int.tdiv_neg]
      conv => lhs; arg 1; arg 1; rw [hx]
      rw [Int.mul_tdiv_cancel_left _ (by omega)]
    · show b.tdiv d = -b / (Int.gcd a b : Int)
      rw [ey, Int.mul_ediv_cancel_left _ (by omega), e, Int.tdiv_neg]
      conv => lhs; arg 1; arg 1; rw [hy]
      rw [Int.mul_tdiv_cancel_left _ (by omega)]
  · rw [if_neg hn]
    have e : d = (Int.gcd a b : Int) := by
      have : ¬ d < 0 := fun z => hn (hs.mp z)
      omega
    rw [e]
    exact ⟨Int.tdiv_eq_ediv_of_dvd h1, Int.tdiv_eq_ediv_of_dvd h2⟩
section TIX
variable {p : Program} {l : Launch} {e : Env} {R : Room} {s : State} {m : MethodId} {args : Array Value} {below : List Frame} {meth : Method} {c : Code} {H : Heap} {locs : List Loc} {cells slots : Nat} {Q : State → Prop}
variable {cc : ByteArray} {pc : Nat} {ls : Array Slot} {rest : List Value}
theorem tn_neg64 (x : Int64) : x.toInt < 0 ↔ x.toBitVec.msb = true := by
  rw [BitVec.msb_eq_toInt]
  simp
theorem ti_lxor (hexec : p.tables.exec = Jvm.exec) (hb : c.code = cc) {x y : Int} (hdg : decode cc pc = .ok (.lxor, 1)) (hx : inL x) (hy : inL y) (k : ∀ z : Int, inL z → (z < 0 ↔ ¬ (x < 0 ↔ y < 0)) → W p l e R s m args below meth c H locs cells slots Q (F0 m (pc + 1) ls (jl z :: rest))) : W p l e R s m args below meth c H locs cells slots Q (F0 m pc ls (jl y :: jl x :: rest)) := by
  refine lv_lxor hexec hb hdg ?_
  have h := k (Int64.ofInt x ^^^ Int64.ofInt y).toInt ⟨Int64.le_toInt _, Int64.toInt_lt _⟩ ?_
  · rw [show jl (Int64.ofInt x ^^^ Int64.ofInt y).toInt = Value.long (Int64.ofInt x ^^^ Int64.ofInt y) from congrArg Value.long (Int64.ofInt_toInt _)] at h
    exact h
  · rw [tn_neg64]
    have e1 : x < 0 ↔ (Int64.ofInt x).toBitVec.msb = true := by rw [← tn_neg64, tn_l hx]
    have e2 : y < 0 ↔ (Int64.ofInt y).toBitVec.msb = true := by rw [← tn_neg64, tn_l hy]
    rw [e1, e2]
    show ((Int64.ofInt x).toBitVec ^^^ (Int64.ofInt y).toBitVec).msb = true ↔ _
    rw [BitVec.msb_xor]
    cases (Int64.ofInt x).toBitVec.msb <;> cases (Int64.ofInt y).toBitVec.msb <;> simp
end TIX
theorem dX0_set_0 : decode cX0_set 0 = .ok (.lload_n 3, 1) := by decide +kernel
theorem dX0_set_1 : decode cX0_set 1 = .ok (.lconst 0, 1) := by decide +kernel
theorem dX0_set_2 : decode cX0_set 2 = .ok (.lcmp, 1) := by decide +kernel
theorem dX0_set_3 : decode cX0_set 3 = .ok (.ifCond .ne 9, 3) := by decide +kernel
theorem dX0_set_6 : decode cX0_set 6 = .ok (.aload_n 0, 1) := by decide +kernel
theorem dX0_set_7 : decode cX0_set 7 = .ok (.lconst 0, 1) := by decide +kernel
theorem dX0_set_8 : decode cX0_set 8 = .ok (.invokevirtual 13, 3) := by decide +kernel
theorem dX0_set_11 : decode cX0_set 11 = .ok (.return_, 1) := by decide +kernel
theorem dX0_set_12 : decode cX0_set 12 = .ok (.lload_n 3, 1) := by decide +kernel
theorem dX0_set_13 : decode cX0_set 13 = .ok (.lstore 5, 2) := by decide +kernel
theorem dX0_set_15 : decode cX0_set 15 = .ok (.lload_n 1, 1) := by decide +kernel
theorem dX0_set_16 : decode cX0_set 16 = .ok (.lstore 7, 2) := by decide +kernel
theorem dX0_set_18 : decode cX0_set 18 = .ok (.iconst 0, 1) := by decide +kernel
theorem dX0_set_19 : decode cX0_set 19 = .ok (.istore 9, 2) := by decide +kernel
theorem dX0_set_21 : decode cX0_set 21 = .ok (.iload 9, 2) := by decide +kernel
theorem dX0_set_23 : decode cX0_set 23 = .ok (.sipush 200, 3) := by decide +kernel
theorem dX0_set_26 : decode cX0_set 26 = .ok (.if_icmp .ge 31, 3) := by decide +kernel
theorem dX0_set_29 : decode cX0_set 29 = .ok (.lload 7, 2) := by decide +kernel
theorem dX0_set_31 : decode cX0_set 31 = .ok (.lconst 0, 1) := by decide +kernel
theorem dX0_set_32 : decode cX0_set 32 = .ok (.lcmp, 1) := by decide +kernel
theorem dX0_set_33 : decode cX0_set 33 = .ok (.ifCond .eq 24, 3) := by decide +kernel
theorem dX0_set_36 : decode cX0_set 36 = .ok (.lload 5, 2) := by decide +kernel
theorem dX0_set_38 : decode cX0_set 38 = .ok (.lload 7, 2) := by decide +kernel
theorem dX0_set_40 : decode cX0_set 40 = .ok (.lrem, 1) := by decide +kernel
theorem dX0_set_41 : decode cX0_set 41 = .ok (.lstore 10, 2) := by decide +kernel
theorem dX0_set_43 : decode cX0_set 43 = .ok (.lload 7, 2) := by decide +kernel
theorem dX0_set_45 : decode cX0_set 45 = .ok (.lstore 5, 2) := by decide +kernel
theorem dX0_set_47 : decode cX0_set 47 = .ok (.lload 10, 2) := by decide +kernel
theorem dX0_set_49 : decode cX0_set 49 = .ok (.lstore 7, 2) := by decide +kernel
theorem dX0_set_51 : decode cX0_set 51 = .ok (.iinc 9 1, 3) := by decide +kernel
theorem dX0_set_54 : decode cX0_set 54 = .ok (.goto (-33), 3) := by decide +kernel
theorem dX0_set_57 : decode cX0_set 57 = .ok (.lload 5, 2) := by decide +kernel
theorem dX0_set_59 : decode cX0_set 59 = .ok (.lconst 0, 1) := by decide +kernel
theorem dX0_set_60 : decode cX0_set 60 = .ok (.lcmp, 1) := by decide +kernel
theorem dX0_set_61 : decode cX0_set 61 = .ok (.ifCond .ge 7, 3) := by decide +kernel
theorem dX0_set_64 : decode cX0_set 64 = .ok (.iconst 1, 1) := by decide +kernel
theorem dX0_set_65 : decode cX0_set 65 = .ok (.goto 4, 3) := by decide +kernel
theorem dX0_set_68 : decode cX0_set 68 = .ok (.iconst 0, 1) := by decide +kernel
theorem dX0_set_69 : decode cX0_set 69 = .ok (.lload_n 3, 1) := by decide +kernel
theorem dX0_set_70 : decode cX0_set 70 = .ok (.lconst 0, 1) := by decide +kernel
theorem dX0_set_71 : decode cX0_set 71 = .ok (.lcmp, 1) := by decide +kernel
theorem dX0_set_72 : decode cX0_set 72 = .ok (.ifCond .ge 7, 3) := by decide +kernel
theorem dX0_set_75 : decode cX0_set 75 = .ok (.iconst 1, 1) := by decide +kernel
theorem dX0_set_76 : decode cX0_set 76 = .ok (.goto 4, 3) := by decide +kernel
theorem dX0_set_79 : decode cX0_set 79 = .ok (.iconst 0, 1) := by decide +kernel
theorem dX0_set_80 : decode cX0_set 80 = .ok (.if_icmp .eq 8, 3) := by decide +kernel
theorem dX0_set_83 : decode cX0_set 83 = .ok (.lload 5, 2) := by decide +kernel
theorem dX0_set_85 : decode cX0_set 85 = .ok (.lneg, 1) := by decide +kernel
theorem dX0_set_86 : decode cX0_set 86 = .ok (.lstore 5, 2) := by decide +kernel
theorem dX0_set_88 : decode cX0_set 88 = .ok (.aload_n 0, 1) := by decide +kernel
theorem dX0_set_89 : decode cX0_set 89 = .ok (.lload_n 1, 1) := by decide +kernel
theorem dX0_set_90 : decode cX0_set 90 = .ok (.lload 5, 2) := by decide +kernel
theorem dX0_set_92 : decode cX0_set 92 = .ok (.ldiv, 1) := by decide +kernel
theorem dX0_set_93 : decode cX0_set 93 = .ok (.putfield 17, 3) := by decide +kernel
theorem dX0_set_96 : decode cX0_set 96 = .ok (.aload_n 0, 1) := by decide +kernel
theorem dX0_set_97 : decode cX0_set 97 = .ok (.lload_n 3, 1) := by decide +kernel
theorem dX0_set_98 : decode cX0_set 98 = .ok (.lload 5, 2) := by decide +kernel
theorem dX0_set_100 : decode cX0_set 100 = .ok (.ldiv, 1) := by decide +kernel
theorem dX0_set_101 : decode cX0_set 101 = .ok (.putfield 7, 3) := by decide +kernel
theorem dX0_set_104 : decode cX0_set 104 = .ok (.return_, 1) := by decide +kernel
set_option maxHeartbeats 4000000 in
set_option maxRecDepth 100000 in
/-- set(a, b), b not 0: the fraction in lowest terms -/
theorem c_X0_set {l : Launch} {G : tm_G} {Hb : Heap} {sh : tm_sh} {M : tm_M} {q : Nat} {a b : Int} (h0 : sh q = some (2, 0)) (hb0 : b ≠ 0) (ha : a.natAbs ≤ 4611686018427387904) (hbb : b.natAbs ≤ 4611686018427387904) : Met l yX0_set (tws yX0_set cX0_set 12 none) ({ frames := 1, cells := 0, slots := 0, locals := 22 }) (va_Pc [.ref q, jl a, jl b] (tm_St G Hb sh M)) (tm_Qv G Hb sh (fun M1 => M1 = fS M q (tl_norm a b))) 0 0 (tm_A Hb) := by
  refine tm_begin (by decide) (Nat.le_of_ble_eq_true rfl) (fun p e s m below meth c ls hx hb hr hml hown htw hlk hnm hK hW hl => ?_)
  have hS : va_S (tm_A Hb) s.heap s.heap [] := va_S.rf
  have hl : lv_has ls 12 [(0, .ref q), (1, jl a), (3, jl b)] := hl
  have ex : ∀ (d : Int) (ls : Array Slot), d ≠ 0 → d.natAbs ≤ 4611686018427387904 → d.natAbs = Int.gcd a b → lv_has ls 12 [(0, .ref q), (1, jl a), (3, jl b), (5, jl d)] → W p l e ({ frames := 1, cells := 0, slots := 0, locals := 22 }) s m [.ref q, jl a, jl b].toArray below meth c s.heap [] 0 0 (MQ below (tm_Qv G Hb sh (fun M1 => M1 = fS M q (tl_norm a b))) [.ref q, jl a, jl b].toArray s 0 0 (tm_A Hb)) (F0 m 57 ls []) := by
    intro d ls hd0 hdL hdg hl
    refine lv_lload hx hb dX0_set_57 (lv_at hl 3 rfl) ?_
    refine ti_lconst0 hx hb dX0_set_59 ?_
    refine ti_lcmp_ge (tgt := 68) hx hb dX0_set_60 dX0_set_61 (by decide) (by omega) (by omega) (fun h60 => ?_) (fun h60 => ?_)
    · refine ti_iconst hx hb dX0_set_68 ?_
      refine lv_lload_n hx hb dX0_set_69 rfl (lv_at hl 2 rfl) ?_
      refine ti_lconst0 hx hb dX0_set_70 ?_
      refine ti_lcmp_ge (tgt := 79) hx hb dX0_set_71 dX0_set_72 (by decide) (by omega) (by omega) (fun h71 => ?_) (fun h71 => ?_)
      · refine ti_iconst hx hb dX0_set_79 ?_
        refine ti_icmp_eq (tgt := 88) hx hb dX0_set_80 (by decide) (by omega) (by omega) (fun h80 => ?_) (fun h80 => ?_)
        · refine lv_aload_n hx hb dX0_set_88 rfl (lv_at hl 0 rfl) ?_
          refine lv_lload_n hx hb dX0_set_89 rfl (lv_at hl 1 rfl) ?_
          refine lv_lload hx hb dX0_set_90 (lv_at hl 3 rfl) ?_
          refine ti_ldiv hx hb dX0_set_92 (by omega) (by omega) (by omega) ?_
          refine pf_X0_17 hx hb htw hown hK hW (by assumption) hS dX0_set_93 (fun H locs hW hS => ?_)
          refine lv_aload_n hx hb dX0_set_96 rfl (lv_at hl 0 rfl) ?_
          refine lv_lload_n hx hb dX0_set_97 rfl (lv_at hl 2 rfl) ?_
          refine lv_lload hx hb dX0_set_98 (lv_at hl 3 rfl) ?_
          refine ti_ldiv hx hb dX0_set_100 (by omega) (by omega) (by omega) ?_
          refine pf_X0_7 hx hb htw hown hK hW (by assumption) hS dX0_set_101 (fun H locs hW hS => ?_)
          exact tm_vret hx hb hr hlk hK hW hS (fS_eq (tl_set_fin hb0 (by omega) (by omega)).1 (tl_set_fin hb0 (by omega) (by omega)).2) dX0_set_104
        · refine lv_lload hx hb dX0_set_83 (lv_at hl 3 rfl) ?_
          refine ti_lneg hx hb dX0_set_85 ?_
          refine lv_lstore (lv' := [(5, _), (0, _), (1, _), (3, _)]) hx hb dX0_set_86 hl (by decide) rfl (fun ls hl => ?_)
          refine lv_aload_n hx hb dX0_set_88 rfl (lv_at hl 1 rfl) ?_
          refine lv_lload_n hx hb dX0_set_89 rfl (lv_at hl 2 rfl) ?_
          refine lv_lload hx hb dX0_set_90 (lv_at hl 0 rfl) ?_
          refine ti_ldiv hx hb dX0_set_92 (by omega) (by omega) (by omega) ?_
          refine pf_X0_17 hx hb htw hown hK hW (by assumption) hS dX0_set_93 (fun H locs hW hS => ?_)
          refine lv_aload_n hx hb dX0_set_96 rfl (lv_at hl 1 rfl) ?_
          refine lv_lload_n hx hb dX0_set_97 rfl (lv_at hl 3 rfl) ?_
          refine lv_lload hx hb dX0_set_98 (lv_at hl 0 rfl) ?_
          refine ti_ldiv hx hb dX0_set_100 (by omega) (by omega) (by omega) ?_
          refine pf_X0_7 hx hb htw hown hK hW (by assumption) hS dX0_set_101 (fun H locs hW hS => ?_)
          exact tm_vret hx hb hr hlk hK hW hS (fS_eq (tl_set_fin hb0 (by omega) (by omega)).1 (tl_set_fin hb0 (by omega) (by omega)).2) dX0_set_104
      · refine ti_iconst hx hb dX0_set_75 ?_
        refine lv_goto (tgt := 80) hx hb dX0_set_76 (by decide) ?_
        refine ti_icmp_eq (tgt := 88) hx hb dX0_set_80 (by decide) (by omega) (by omega) (fun h80 => ?_) (fun h80 => ?_)
        · refine lv_aload_n hx hb dX0_set_88 rfl (lv_at hl 0 rfl) ?_
          refine lv_lload_n hx hb dX0_set_89 rfl (lv_at hl 1 rfl) ?_
          refine lv_lload hx hb dX0_set_90 (lv_at hl 3 rfl) ?_
          refine ti_ldiv hx hb dX0_set_92 (by omega) (by omega) (by omega) ?_
          refine pf_X0_17 hx hb htw hown hK hW (by assumption) hS dX0_set_93 (fun H locs hW hS => ?_)
          refine lv_aload_n hx hb dX0_set_96 rfl (lv_at hl 0 rfl) ?_
          refine lv_lload_n hx hb dX0_set_97 rfl (lv_at hl 2 rfl) ?_
          refine lv_lload hx hb dX0_set_98 (lv_at hl 3 rfl) ?_
          refine ti_ldiv hx hb dX0_set_100 (by omega) (by omega) (by omega) ?_
          refine pf_X0_7 hx hb htw hown hK hW (by assumption) hS dX0_set_101 (fun H locs hW hS => ?_)
          exact tm_vret hx hb hr hlk hK hW hS (fS_eq (tl_set_fin hb0 (by omega) (by omega)).1 (tl_set_fin hb0 (by omega) (by omega)).2) dX0_set_104
        · refine lv_lload hx hb dX0_set_83 (lv_at hl 3 rfl) ?_
          refine ti_lneg hx hb dX0_set_85 ?_
          refine lv_lstore (lv' := [(5, _), (0, _), (1, _), (3, _)]) hx hb dX0_set_86 hl (by decide) rfl (fun ls hl => ?_)
          refine lv_aload_n hx hb dX0_set_88 rfl (lv_at hl 1 rfl) ?_
          refine lv_lload_n hx hb dX0_set_89 rfl (lv_at hl 2 rfl) ?_
          refine lv_lload hx hb dX0_set_90 (lv_at hl 0 rfl) ?_
          refine ti_ldiv hx hb dX0_set_92 (by omega) (by omega) (by omega) ?_
          refine pf_X0_17 hx hb htw hown hK hW (by assumption) hS dX0_set_93 (fun H locs hW hS => ?_)
          refine lv_aload_n hx hb dX0_set_96 rfl (lv_at hl 1 rfl) ?_
          refine lv_lload_n hx hb dX0_set_97 rfl (lv_at hl 3 rfl) ?_
          refine lv_lload hx hb dX0_set_98 (lv_at hl 0 rfl) ?_
          refine ti_ldiv hx hb dX0_set_100 (by omega) (by omega) (by omega) ?_
          refine pf_X0_7 hx hb htw hown hK hW (by assumption) hS dX0_set_101 (fun H locs hW hS => ?_)
          exact tm_vret hx hb hr hlk hK hW hS (fS_eq (tl_set_fin hb0 (by omega) (by omega)).1 (tl_set_fin hb0 (by omega) (by omega)).2) dX0_set_104
    · refine ti_iconst hx hb dX0_set_64 ?_
      refine lv_goto (tgt := 69) hx hb dX0_set_65 (by decide) ?_
      refine lv_lload_n hx hb dX0_set_69 rfl (lv_at hl 2 rfl) ?_
      refine ti_lconst0 hx hb dX0_set_70 ?_
      refine ti_lcmp_ge (tgt := 79) hx hb dX0_set_71 dX0_set_72 (by decide) (by omega) (by omega) (fun h71 => ?_) (fun h71 => ?_)
      · refine ti_iconst hx hb dX0_set_79 ?_
        refine ti_icmp_eq (tgt := 88) hx hb dX0_set_80 (by decide) (by omega) (by omega) (fun h80 => ?_) (fun h80 => ?_)
        · refine lv_aload_n hx hb dX0_set_88 rfl (lv_at hl 0 rfl) ?_
          refine lv_lload_n hx hb dX0_set_89 rfl (lv_at hl 1 rfl) ?_
          refine lv_lload hx hb dX0_set_90 (lv_at hl 3 rfl) ?_
          refine ti_ldiv hx hb dX0_set_92 (by omega) (by omega) (by omega) ?_
          refine pf_X0_17 hx hb htw hown hK hW (by assumption) hS dX0_set_93 (fun H locs hW hS => ?_)
          refine lv_aload_n hx hb dX0_set_96 rfl (lv_at hl 0 rfl) ?_
          refine lv_lload_n hx hb dX0_set_97 rfl (lv_at hl 2 rfl) ?_
          refine lv_lload hx hb dX0_set_98 (lv_at hl 3 rfl) ?_
          refine ti_ldiv hx hb dX0_set_100 (by omega) (by omega) (by omega) ?_
          refine pf_X0_7 hx hb htw hown hK hW (by assumption) hS dX0_set_101 (fun H locs hW hS => ?_)
          exact tm_vret hx hb hr hlk hK hW hS (fS_eq (tl_set_fin hb0 (by omega) (by omega)).1 (tl_set_fin hb0 (by omega) (by omega)).2) dX0_set_104
        · refine lv_lload hx hb dX0_set_83 (lv_at hl 3 rfl) ?_
          refine ti_lneg hx hb dX0_set_85 ?_
          refine lv_lstore (lv' := [(5, _), (0, _), (1, _), (3, _)]) hx hb dX0_set_86 hl (by decide) rfl (fun ls hl => ?_)
          refine lv_aload_n hx hb dX0_set_88 rfl (lv_at hl 1 rfl) ?_
          refine lv_lload_n hx hb dX0_set_89 rfl (lv_at hl 2 rfl) ?_
          refine lv_lload hx hb dX0_set_90 (lv_at hl 0 rfl) ?_
          refine ti_ldiv hx hb dX0_set_92 (by omega) (by omega) (by omega) ?_
          refine pf_X0_17 hx hb htw hown hK hW (by assumption) hS dX0_set_93 (fun H locs hW hS => ?_)
          refine lv_aload_n hx hb dX0_set_96 rfl (lv_at hl 1 rfl) ?_
          refine lv_lload_n hx hb dX0_set_97 rfl (lv_at hl 3 rfl) ?_
          refine lv_lload hx hb dX0_set_98 (lv_at hl 0 rfl) ?_
          refine ti_ldiv hx hb dX0_set_100 (by omega) (by omega) (by omega) ?_
          refine pf_X0_7 hx hb htw hown hK hW (by assumption) hS dX0_set_101 (fun H locs hW hS => ?_)
          exact tm_vret hx hb hr hlk hK hW hS (fS_eq (tl_set_fin hb0 (by omega) (by omega)).1 (tl_set_fin hb0 (by omega) (by omega)).2) dX0_set_104
      · refine ti_iconst hx hb dX0_set_75 ?_
        refine lv_goto (tgt := 80) hx hb dX0_set_76 (by decide) ?_
        refine ti_icmp_eq (tgt := 88) hx hb dX0_set_80 (by decide) (by omega) (by omega) (fun h80 => ?_) (fun h80 => ?_)
        · refine lv_aload_n hx hb dX0_set_88 rfl (lv_at hl 0 rfl) ?_
          refine lv_lload_n hx hb dX0_set_89 rfl (lv_at hl 1 rfl) ?_
          refine lv_lload hx hb dX0_set_90 (lv_at hl 3 rfl) ?_
          refine ti_ldiv hx hb dX0_set_92 (by omega) (by omega) (by omega) ?_
          refine pf_X0_17 hx hb htw hown hK hW (by assumption) hS dX0_set_93 (fun H locs hW hS => ?_)
          refine lv_aload_n hx hb dX0_set_96 rfl (lv_at hl 0 rfl) ?_
          refine lv_lload_n hx hb dX0_set_97 rfl (lv_at hl 2 rfl) ?_
          refine lv_lload hx hb dX0_set_98 (lv_at hl 3 rfl) ?_
          refine ti_ldiv hx hb dX0_set_100 (by omega) (by omega) (by omega) ?_
          refine pf_X0_7 hx hb htw hown hK hW (by assumption) hS dX0_set_101 (fun H locs hW hS => ?_)
          exact tm_vret hx hb hr hlk hK hW hS (fS_eq (tl_set_fin hb0 (by omega) (by omega)).1 (tl_set_fin hb0 (by omega) (by omega)).2) dX0_set_104
        · refine lv_lload hx hb dX0_set_83 (lv_at hl 3 rfl) ?_
          refine ti_lneg hx hb dX0_set_85 ?_
          refine lv_lstore (lv' := [(5, _), (0, _), (1, _), (3, _)]) hx hb dX0_set_86 hl (by decide) rfl (fun ls hl => ?_)
          refine lv_aload_n hx hb dX0_set_88 rfl (lv_at hl 1 rfl) ?_
          refine lv_lload_n hx hb dX0_set_89 rfl (lv_at hl 2 rfl) ?_
          refine lv_lload hx hb dX0_set_90 (lv_at hl 0 rfl) ?_
          refine ti_ldiv hx hb dX0_set_92 (by omega) (by omega) (by omega) ?_
          refine pf_X0_17 hx hb htw hown hK hW (by assumption) hS dX0_set_93 (fun H locs hW hS => ?_)
          refine lv_aload_n hx hb dX0_set_96 rfl (lv_at hl 1 rfl) ?_
          refine lv_lload_n hx hb dX0_set_97 rfl (lv_at hl 3 rfl) ?_
          refine lv_lload hx hb dX0_set_98 (lv_at hl 0 rfl) ?_
          refine ti_ldiv hx hb dX0_set_100 (by omega) (by omega) (by omega) ?_
          refine pf_X0_7 hx hb htw hown hK hW (by assumption) hS dX0_set_101 (fun H locs hW hS => ?_)
          exact tm_vret hx hb hr hlk hK hW hS (fS_eq (tl_set_fin hb0 (by omega) (by omega)).1 (tl_set_fin hb0 (by omega) (by omega)).2) dX0_set_104
  have loop : ∀ (k : Nat) (n d r : Int) (ls : Array Slot), 0 ≤ n → n + k ≤ 199 → d ≠ 0 → d.natAbs ≤ 4611686018427387904 → r.natAbs ≤ d.natAbs → d.natAbs * r.natAbs < 2 ^ k → Int.gcd d r = Int.gcd a b → lv_has ls 12 [(0, .ref q), (1, jl a), (3, jl b), (5, jl d), (7, jl r), (9, ji n)] → W p l e ({ frames := 1, cells := 0, slots := 0, locals := 22 }) s m [.ref q, jl a, jl b].toArray below meth c s.heap [] 0 0 (MQ below (tm_Qv G Hb sh (fun M1 => M1 = fS M q (tl_norm a b))) [.ref q, jl a, jl b].toArray s 0 0 (tm_A Hb)) (F0 m 21 ls []) := by
    intro k
    induction k with
    | zero =>
      intro n d r ls hn hk hd0 hdL hrd hpr hgc hl
      have hr0 : r = 0 := by
        rcases Nat.eq_zero_or_pos r.natAbs with z | z
        · omega
        · have := Nat.mul_le_mul (show 1 ≤ d.natAbs by omega) (show 1 ≤ r.natAbs from z)
          omega
      subst hr0
      refine lv_iload hx hb dX0_set_21 (lv_at hl 5 rfl) ?_
      refine ti_sipush hx hb dX0_set_23 (by decide) ?_
      refine ti_icmp_ge (tgt := 57) hx hb dX0_set_26 (by decide) (by omega) (by omega) (fun h26 => ?_) (fun h26 => ?_)
      · exact absurd h26 (by omega)
      · refine lv_lload hx hb dX0_set_29 (lv_at hl 4 rfl) ?_
        refine ti_lconst0 hx hb dX0_set_31 ?_
        refine ti_lcmp_eq (tgt := 57) hx hb dX0_set_32 dX0_set_33 (by decide) (by omega) (by omega) (fun h32 => ?_) (fun h32 => ?_)
        · exact ex d ls hd0 hdL (by rw [← hgc]; exact (Int.gcd_zero_right d).symm) (lv_sub hl [0, 1, 2, 3] rfl)
        · exact absurd rfl h32
    | succ k ih =>
      intro n d r ls hn hk hd0 hdL hrd hpr hgc hl
      refine lv_iload hx hb dX0_set_21 (lv_at hl 5 rfl) ?_
      refine ti_sipush hx hb dX0_set_23 (by decide) ?_
      refine ti_icmp_ge (tgt := 57) hx hb dX0_set_26 (by decide) (by omega) (by omega) (fun h26 => ?_) (fun h26 => ?_)
      · exact absurd h26 (by omega)
      · refine lv_lload hx hb dX0_set_29 (lv_at hl 4 rfl) ?_
        refine ti_lconst0 hx hb dX0_set_31 ?_
        refine ti_lcmp_eq (tgt := 57) hx hb dX0_set_32 dX0_set_33 (by decide) (by omega) (by omega) (fun h32 => ?_) (fun h32 => ?_)
        · subst h32
          exact ex d ls hd0 hdL (by rw [← hgc]; exact (Int.gcd_zero_right d).symm) (lv_sub hl [0, 1, 2, 3] rfl)
        · refine lv_lload hx hb dX0_set_36 (lv_at hl 3 rfl) ?_
          refine lv_lload hx hb dX0_set_38 (lv_at hl 4 rfl) ?_
          refine ti_lrem hx hb dX0_set_40 (by omega) (by omega) (by omega) ?_
          refine lv_lstore (lv' := [(10, _), (0, _), (1, _), (3, _), (5, _), (7, _), (9, _)]) hx hb dX0_set_41 hl (by decide) rfl (fun ls hl => ?_)
          refine lv_lload hx hb dX0_set_43 (lv_at hl 5 rfl) ?_
          refine lv_lstore (lv' := [(5, _), (10, _), (0, _), (1, _), (3, _), (7, _), (9, _)]) hx hb dX0_set_45 hl (by decide) rfl (fun ls hl => ?_)
          refine lv_lload hx hb dX0_set_47 (lv_at hl 1 rfl) ?_
          refine lv_lstore (lv' := [(7, _), (5, _), (10, _), (0, _), (1, _), (3, _), (9, _)]) hx hb dX0_set_49 hl (by decide) rfl (fun ls hl => ?_)
          refine ti_iinc (k := 6) (lv' := [(9, _), (7, _), (5, _), (10, _), (0, _), (1, _), (3, _)]) hx hb dX0_set_51 hl rfl (by decide) rfl (fun ls hl => ?_)
          refine lv_goto (tgt := 21) hx hb dX0_set_54 (by decide) ?_
          exact ih (n + 1) r (d.tmod r) ls (by omega) (by omega) h32 (by omega) (Nat.le_of_lt (tl_tmod_lt h32)) (by rw [Int.natAbs_tmod]; exact tl_half (by omega) hrd hpr) (tl_gcd_step.trans hgc) (lv_sub hl [4, 5, 6, 2, 1, 0] rfl)
  refine lv_lload_n hx hb dX0_set_0 rfl (lv_at hl 2 rfl) ?_
  refine ti_lconst0 hx hb dX0_set_1 ?_
  refine ti_lcmp_ne (tgt := 12) hx hb dX0_set_2 dX0_set_3 (by decide) (by omega) (by omega) (fun h2 => ?_) (fun h2 => ?_)
  · refine lv_lload_n hx hb dX0_set_12 rfl (lv_at hl 2 rfl) ?_
    refine lv_lstore (lv' := [(5, _), (0, _), (1, _), (3, _)]) hx hb dX0_set_13 hl (by decide) rfl (fun ls hl => ?_)
    refine lv_lload_n hx hb dX0_set_15 rfl (lv_at hl 2 rfl) ?_
    refine lv_lstore (lv' := [(7, _), (5, _), (0, _), (1, _), (3, _)]) hx hb dX0_set_16 hl (by decide) rfl (fun ls hl => ?_)
    refine ti_iconst hx hb dX0_set_18 ?_
    refine lv_istore (lv' := [(9, _), (7, _), (5, _), (0, _), (1, _), (3, _)]) hx hb dX0_set_19 hl (by decide) rfl (fun ls hl => ?_)
    refine lv_iload hx hb dX0_set_21 (lv_at hl 0 rfl) ?_
    refine ti_sipush hx hb dX0_set_23 (by decide) ?_
    refine ti_icmp_ge (tgt := 57) hx hb dX0_set_26 (by decide) (by omega) (by omega) (fun h26 => ?_) (fun h26 => ?_)
    · exact absurd h26 (by decide)
    · refine lv_lload hx hb dX0_set_29 (lv_at hl 1 rfl) ?_
      refine ti_lconst0 hx hb dX0_set_31 ?_
      refine ti_lcmp_eq (tgt := 57) hx hb dX0_set_32 dX0_set_33 (by decide) (by omega) (by omega) (fun h32 => ?_) (fun h32 => ?_)
      · subst h32
        exact ex b ls hb0 hbb (by rw [Int.gcd_zero_left]) (lv_sub hl [3, 4, 5, 2] rfl)
      · refine lv_lload hx hb dX0_set_36 (lv_at hl 2 rfl) ?_
        refine lv_lload hx hb dX0_set_38 (lv_at hl 1 rfl) ?_
        refine ti_lrem hx hb dX0_set_40 (by omega) (by omega) (by omega) ?_
        refine lv_lstore (lv' := [(10, _), (9, _), (7, _), (5, _), (0, _), (1, _), (3, _)]) hx hb dX0_set_41 hl (by decide) rfl (fun ls hl => ?_)
        refine lv_lload hx hb dX0_set_43 (lv_at hl 2 rfl) ?_
        refine lv_lstore (lv' := [(5, _), (10, _), (9, _), (7, _), (0, _), (1, _), (3, _)]) hx hb dX0_set_45 hl (by decide) rfl (fun ls hl => ?_)
        refine lv_lload hx hb dX0_set_47 (lv_at hl 1 rfl) ?_
        refine lv_lstore (lv' := [(7, _), (5, _), (10, _), (9, _), (0, _), (1, _), (3, _)]) hx hb dX0_set_49 hl (by decide) rfl (fun ls hl => ?_)
        refine ti_iinc (k := 3) (lv' := [(9, _), (7, _), (5, _), (10, _), (0, _), (1, _), (3, _)]) hx hb dX0_set_51 hl rfl (by decide) rfl (fun ls hl => ?_)
        refine lv_goto (tgt := 21) hx hb dX0_set_54 (by decide) ?_
        exact loop 126 1 a (b.tmod a) ls (by omega) (by omega) h32 ha (Nat.le_of_lt (tl_tmod_lt h32)) (by have h1 := tl_tmod_lt (d := b) h32; have h2 := Nat.mul_le_mul ha (show (b.tmod a).natAbs ≤ 4611686018427387903 by omega); exact Nat.lt_of_le_of_lt h2 (by decide)) (tl_gcd_step.trans (Int.gcd_comm b a)) (lv_sub hl [4, 5, 6, 2, 1, 0] rfl)
  · exact absurd h2 hb0
theorem dX0_setSum_0 : decode cX0_setSum 0 = .ok (.aload_n 0, 1) := by decide +kernel
theorem dX0_setSum_1 : decode cX0_setSum 1 = .ok (.aload_n 1, 1) := by decide +kernel
theorem dX0_setSum_2 : decode cX0_setSum 2 = .ok (.getfield 17, 3) := by decide +kernel
theorem dX0_setSum_5 : decode cX0_setSum 5 = .ok (.aload_n 2, 1) := by decide +kernel
theorem dX0_setSum_6 : decode cX0_setSum 6 = .ok (.getfield 7, 3) := by decide +kernel
theorem dX0_setSum_9 : decode cX0_setSum 9 = .ok (.lmul, 1) := by decide +kernel
theorem dX0_setSum_10 : decode cX0_setSum 10 = .ok (.aload_n 2, 1) := by decide +kernel
theorem dX0_setSum_11 : decode cX0_setSum 11 = .ok (.getfield 17, 3) := by decide +kernel
theorem dX0_setSum_14 : decode cX0_setSum 14 = .ok (.aload_n 1, 1) := by decide +kernel
theorem dX0_setSum_15 : decode cX0_setSum 15 = .ok (.getfield 7, 3) := by decide +kernel
theorem dX0_setSum_18 : decode cX0_setSum 18 = .ok (.lmul, 1) := by decide +kernel
theorem dX0_setSum_19 : decode cX0_setSum 19 = .ok (.ladd, 1) := by decide +kernel
theorem dX0_setSum_20 : decode cX0_setSum 20 = .ok (.aload_n 1, 1) := by decide +kernel
theorem dX0_setSum_21 : decode cX0_setSum 21 = .ok (.getfield 7, 3) := by decide +kernel
theorem dX0_setSum_24 : decode cX0_setSum 24 = .ok (.aload_n 2, 1) := by decide +kernel
theorem dX0_setSum_25 : decode cX0_setSum 25 = .ok (.getfield 7, 3) := by decide +kernel
theorem dX0_setSum_28 : decode cX0_setSum 28 = .ok (.lmul, 1) := by decide +kernel
theorem dX0_setSum_29 : decode cX0_setSum 29 = .ok (.invokevirtual 20, 3) := by decide +kernel
theorem dX0_setSum_32 : decode cX0_setSum 32 = .ok (.return_, 1) := by decide +kernel
set_option maxHeartbeats 4000000 in
set_option maxRecDepth 100000 in
/-- setSum -/
theorem c_X0_setSum {l : Launch} {G : tm_G} {Hb : Heap} {sh : tm_sh} {M : tm_M} {q p1 p2 : Nat} (h0 : sh q = some (2, 0)) (h1 : sh p1 = some (2, 0)) (h2 : sh p2 = some (2, 0)) (hd : mL M p1 1 * mL M p2 1 ≠ 0) (hn1 : (mL M p1 0 * mL M p2 1 + mL M p2 0 * mL M p1 1).natAbs ≤ 4611686018427387904) (hn2 : (mL M p1 1 * mL M p2 1).natAbs ≤ 4611686018427387904) : Met l yX0_setSum (tws yX0_setSum cX0_setSum 3 none) ({ frames := 2, cells := 0, slots := 0, locals := 53 }) (va_Pc [.ref q, .ref p1, .ref p2] (tm_St G Hb sh M)) (tm_Qv G Hb sh (fun M1 => M1 = fS M q (tl_norm (mL M p1 0 * mL M p2 1 + mL M p2 0 * mL M p1 1) (mL M p1 1 * mL M p2 1)))) 0 0 (tm_A Hb) := by
  refine tm_begin (by decide) (Nat.le_of_ble_eq_true rfl) (fun p e s m below meth c ls hx hb hr hml hown htw hlk hnm hK hW hl => ?_)
  have hS : va_S (tm_A Hb) s.heap s.heap [] := va_S.rf
  have hl : lv_has ls 3 [(0, .ref q), (1, .ref p1), (2, .ref p2)] := hl
  refine lv_aload_n hx hb dX0_setSum_0 rfl (lv_at hl 0 rfl) ?_
  refine lv_aload_n hx hb dX0_setSum_1 rfl (lv_at hl 1 rfl) ?_
  refine gf_X0_17 hx hb htw hown hK hW (by assumption) dX0_setSum_2 ?_
  refine lv_aload_n hx hb dX0_setSum_5 rfl (lv_at hl 2 rfl) ?_
  refine gf_X0_7 hx hb htw hown hK hW (by assumption) dX0_setSum_6 ?_
  refine ti_lmul hx hb dX0_setSum_9 ?_
  refine lv_aload_n hx hb dX0_setSum_10 rfl (lv_at hl 2 rfl) ?_
  refine gf_X0_17 hx hb htw hown hK hW (by assumption) dX0_setSum_11 ?_
  refine lv_aload_n hx hb dX0_setSum_14 rfl (lv_at hl 1 rfl) ?_
  refine gf_X0_7 hx hb htw hown hK hW (by assumption) dX0_setSum_15 ?_
  refine ti_lmul hx hb dX0_setSum_18 ?_
  refine ti_ladd hx hb dX0_setSum_19 ?_
  refine lv_aload_n hx hb dX0_setSum_20 rfl (lv_at hl 1 rfl) ?_
  refine gf_X0_7 hx hb htw hown hK hW (by assumption) dX0_setSum_21 ?_
  refine lv_aload_n hx hb dX0_setSum_24 rfl (lv_at hl 2 rfl) ?_
  refine gf_X0_7 hx hb htw hown hK hW (by assumption) dX0_setSum_25 ?_
  refine ti_lmul hx hb dX0_setSum_28 ?_
  refine tm_callv (cs_X0_20 hx hb hml hown htw hK hW (by assumption) (c_X0_set (by assumption) (by assumption) (by assumption) (by assumption)) ⟨rfl, rfl, Nat.le_of_ble_eq_true rfl, Nat.le_of_ble_eq_true rfl⟩ hl.1 (Nat.le_of_ble_eq_true rfl) dX0_setSum_29 ⟨Nat.le_of_ble_eq_true rfl, Nat.le_of_ble_eq_true rfl⟩) hS (fun M29 H locs hp29 hW hS => ?_)
  exact tm_vret hx hb hr hlk hK hW hS hp29 dX0_setSum_32
theorem dX0_setDifference_0 : decode cX0_setDifference 0 = .ok (.aload_n 0, 1) := by decide +kernel
theorem dX0_setDifference_1 : decode cX0_setDifference 1 = .ok (.aload_n 1, 1) := by decide +kernel
theorem dX0_setDifference_2 : decode cX0_setDifference 2 = .ok (.getfield 17, 3) := by decide +kernel
theorem dX0_setDifference_5 : decode cX0_setDifference 5 = .ok (.aload_n 2, 1) := by decide +kernel
theorem dX0_setDifference_6 : decode cX0_setDifference 6 = .ok (.getfield 7, 3) := by decide +kernel
theorem dX0_setDifference_9 : decode cX0_setDifference 9 = .ok (.lmul, 1) := by decide +kernel
theorem dX0_setDifference_10 : decode cX0_setDifference 10 = .ok (.aload_n 2, 1) := by decide +kernel
theorem dX0_setDifference_11 : decode cX0_setDifference 11 = .ok (.getfield 17, 3) := by decide +kernel
theorem dX0_setDifference_14 : decode cX0_setDifference 14 = .ok (.aload_n 1, 1) := by decide +kernel
theorem dX0_setDifference_15 : decode cX0_setDifference 15 = .ok (.getfield 7, 3) := by decide +kernel
theorem dX0_setDifference_18 : decode cX0_setDifference 18 = .ok (.lmul, 1) := by decide +kernel
theorem dX0_setDifference_19 : decode cX0_setDifference 19 = .ok (.lsub, 1) := by decide +kernel
theorem dX0_setDifference_20 : decode cX0_setDifference 20 = .ok (.aload_n 1, 1) := by decide +kernel
theorem dX0_setDifference_21 : decode cX0_setDifference 21 = .ok (.getfield 7, 3) := by decide +kernel
theorem dX0_setDifference_24 : decode cX0_setDifference 24 = .ok (.aload_n 2, 1) := by decide +kernel
theorem dX0_setDifference_25 : decode cX0_setDifference 25 = .ok (.getfield 7, 3) := by decide +kernel
theorem dX0_setDifference_28 : decode cX0_setDifference 28 = .ok (.lmul, 1) := by decide +kernel
theorem dX0_setDifference_29 : decode cX0_setDifference 29 = .ok (.invokevirtual 20, 3) := by decide +kernel
theorem dX0_setDifference_32 : decode cX0_setDifference 32 = .ok (.return_, 1) := by decide +kernel
set_option maxHeartbeats 4000000 in
set_option maxRecDepth 100000 in
/-- setDifference -/
theorem c_X0_setDifference {l : Launch} {G : tm_G} {Hb : Heap} {sh : tm_sh} {M : tm_M} {q p1 p2 : Nat} (h0 : sh q = some (2, 0)) (h1 : sh p1 = some (2, 0)) (h2 : sh p2 = some (2, 0)) (hd : mL M p1 1 * mL M p2 1 ≠ 0) (hn1 : (mL M p1 0 * mL M p2 1 - mL M p2 0 * mL M p1 1).natAbs ≤ 4611686018427387904) (hn2 : (mL M p1 1 * mL M p2 1).natAbs ≤ 4611686018427387904) : Met l yX0_setDifference (tws yX0_setDifference cX0_setDifference 3 none) ({ frames := 2, cells := 0, slots := 0, locals := 53 }) (va_Pc [.ref q, .ref p1, .ref p2] (tm_St G Hb sh M)) (tm_Qv G Hb sh (fun M1 => M1 = fS M q (tl_norm (mL M p1 0 * mL M p2 1 - mL M p2 0 * mL M p1 1) (mL M p1 1 * mL M p2 1)))) 0 0 (tm_A Hb) := by
  refine tm_begin (by decide) (Nat.le_of_ble_eq_true rfl) (fun p e s m below meth c ls hx hb hr hml hown htw hlk hnm hK hW hl => ?_)
  have hS : va_S (tm_A Hb) s.heap s.heap [] := va_S.rf
  have hl : lv_has ls 3 [(0, .ref q), (1, .ref p1), (2, .ref p2)] := hl
  refine lv_aload_n hx hb dX0_setDifference_0 rfl (lv_at hl 0 rfl) ?_
  refine lv_aload_n hx hb dX0_setDifference_1 rfl (lv_at hl 1 rfl) ?_
  refine gf_X0_17 hx hb htw hown hK hW (by assumption) dX0_setDifference_2 ?_
  refine lv_aload_n hx hb dX0_setDifference_5 rfl (lv_at hl 2 rfl) ?_
  refine gf_X0_7 hx hb htw hown hK hW (by assumption) dX0_setDifference_6 ?_
  refine ti_lmul hx hb dX0_setDifference_9 ?_
  refine lv_aload_n hx hb dX0_setDifference_10 rfl (lv_at hl 2 rfl) ?_
  refine gf_X0_17 hx hb htw hown hK hW (by assumption) dX0_setDifference_11 ?_
  refine lv_aload_n hx hb dX0_setDifference_14 rfl (lv_at hl 1 rfl) ?_
  refine gf_X0_7 hx hb htw hown hK hW (by assumption) dX0_setDifference_15 ?_
  refine ti_lmul hx hb dX0_setDifference_18 ?_
  refine ti_lsub hx hb dX0_setDifference_19 ?_
  refine lv_aload_n hx hb dX0_setDifference_20 rfl (lv_at hl 1 rfl) ?_
  refine gf_X0_7 hx hb htw hown hK hW (by assumption) dX0_setDifference_21 ?_
  refine lv_aload_n hx hb dX0_setDifference_24 rfl (lv_at hl 2 rfl) ?_
  refine gf_X0_7 hx hb htw hown hK hW (by assumption) dX0_setDifference_25 ?_
  refine ti_lmul hx hb dX0_setDifference_28 ?_
  refine tm_callv (cs_X0_20 hx hb hml hown htw hK hW (by assumption) (c_X0_set (by assumption) (by assumption) (by assumption) (by assumption)) ⟨rfl, rfl, Nat.le_of_ble_eq_true rfl, Nat.le_of_ble_eq_true rfl⟩ hl.1 (Nat.le_of_ble_eq_true rfl) dX0_setDifference_29 ⟨Nat.le_of_ble_eq_true rfl, Nat.le_of_ble_eq_true rfl⟩) hS (fun M29 H locs hp29 hW hS => ?_)
  exact tm_vret hx hb hr hlk hK hW hS hp29 dX0_setDifference_32
theorem dX0_setProduct_0 : decode cX0_setProduct 0 = .ok (.aload_n 0, 1) := by decide +kernel
theorem dX0_setProduct_1 : decode cX0_setProduct 1 = .ok (.aload_n 1, 1) := by decide +kernel
theorem dX0_setProduct_2 : decode cX0_setProduct 2 = .ok (.getfield 17, 3) := by decide +kernel
theorem dX0_setProduct_5 : decode cX0_setProduct 5 = .ok (.aload_n 2, 1) := by decide +kernel
theorem dX0_setProduct_6 : decode cX0_setProduct 6 = .ok (.getfield 17, 3) := by decide +kernel
theorem dX0_setProduct_9 : decode cX0_setProduct 9 = .ok (.lmul, 1) := by decide +kernel
theorem dX0_setProduct_10 : decode cX0_setProduct 10 = .ok (.aload_n 1, 1) := by decide +kernel
theorem dX0_setProduct_11 : decode cX0_setProduct 11 = .ok (.getfield 7, 3) := by decide +kernel
theorem dX0_setProduct_14 : decode cX0_setProduct 14 = .ok (.aload_n 2, 1) := by decide +kernel
theorem dX0_setProduct_15 : decode cX0_setProduct 15 = .ok (.getfield 7, 3) := by decide +kernel
theorem dX0_setProduct_18 : decode cX0_setProduct 18 = .ok (.lmul, 1) := by decide +kernel
theorem dX0_setProduct_19 : decode cX0_setProduct 19 = .ok (.invokevirtual 20, 3) := by decide +kernel
theorem dX0_setProduct_22 : decode cX0_setProduct 22 = .ok (.return_, 1) := by decide +kernel
set_option maxHeartbeats 4000000 in
set_option maxRecDepth 100000 in
/-- setProduct -/
theorem c_X0_setProduct {l : Launch} {G : tm_G} {Hb : Heap} {sh : tm_sh} {M : tm_M} {q p1 p2 : Nat} (h0 : sh q = some (2, 0)) (h1 : sh p1 = some (2, 0)) (h2 : sh p2 = some (2, 0)) (hd : mL M p1 1 * mL M p2 1 ≠ 0) (hn1 : (mL M p1 0 * mL M p2 0).natAbs ≤ 4611686018427387904) (hn2 : (mL M p1 1 * mL M p2 1).natAbs ≤ 4611686018427387904) : Met l yX0_setProduct (tws yX0_setProduct cX0_setProduct 3 none) ({ frames := 2, cells := 0, slots := 0, locals := 53 }) (va_Pc [.ref q, .ref p1, .ref p2] (tm_St G Hb sh M)) (tm_Qv G Hb sh (fun M1 => M1 = fS M q (tl_norm (mL M p1 0 * mL M p2 0) (mL M p1 1 * mL M p2 1)))) 0 0 (tm_A Hb) := by
  refine tm_begin (by decide) (Nat.le_of_ble_eq_true rfl) (fun p e s m below meth c ls hx hb hr hml hown htw hlk hnm hK hW hl => ?_)
  have hS : va_S (tm_A Hb) s.heap s.heap [] := va_S.rf
  have hl : lv_has ls 3 [(0, .ref q), (1, .ref p1), (2, .ref p2)] := hl
  refine lv_aload_n hx hb dX0_setProduct_0 rfl (lv_at hl 0 rfl) ?_
  refine lv_aload_n hx hb dX0_setProduct_1 rfl (lv_at hl 1 rfl) ?_
  refine gf_X0_17 hx hb htw hown hK hW (by assumption) dX0_setProduct_2 ?_
  refine lv_aload_n hx hb dX0_setProduct_5 rfl (lv_at hl 2 rfl) ?_
  refine gf_X0_17 hx hb htw hown hK hW (by assumption) dX0_setProduct_6 ?_
  refine ti_lmul hx hb dX0_setProduct_9 ?_
  refine lv_aload_n hx hb dX0_setProduct_10 rfl (lv_at hl 1 rfl) ?_
  refine gf_X0_7 hx hb htw hown hK hW (by assumption) dX0_setProduct_11 ?_
  refine lv_aload_n hx hb dX0_setProduct_14 rfl (lv_at hl 2 rfl) ?_
  refine gf_X0_7 hx hb htw hown hK hW (by assumption) dX0_setProduct_15 ?_
  refine ti_lmul hx hb dX0_setProduct_18 ?_
  refine tm_callv (cs_X0_20 hx hb hml hown htw hK hW (by assumption) (c_X0_set (by assumption) (by assumption) (by assumption) (by assumption)) ⟨rfl, rfl, Nat.le_of_ble_eq_true rfl, Nat.le_of_ble_eq_true rfl⟩ hl.1 (Nat.le_of_ble_eq_true rfl) dX0_setProduct_19 ⟨Nat.le_of_ble_eq_true rfl, Nat.le_of_ble_eq_true rfl⟩) hS (fun M19 H locs hp19 hW hS => ?_)
  exact tm_vret hx hb hr hlk hK hW hS hp19 dX0_setProduct_22
theorem dX0_setQuotient_0 : decode cX0_setQuotient 0 = .ok (.aload_n 0, 1) := by decide +kernel
theorem dX0_setQuotient_1 : decode cX0_setQuotient 1 = .ok (.aload_n 1, 1) := by decide +kernel
theorem dX0_setQuotient_2 : decode cX0_setQuotient 2 = .ok (.getfield 17, 3) := by decide +kernel
theorem dX0_setQuotient_5 : decode cX0_setQuotient 5 = .ok (.aload_n 2, 1) := by decide +kernel
theorem dX0_setQuotient_6 : decode cX0_setQuotient 6 = .ok (.getfield 7, 3) := by decide +kernel
theorem dX0_setQuotient_9 : decode cX0_setQuotient 9 = .ok (.lmul, 1) := by decide +kernel
theorem dX0_setQuotient_10 : decode cX0_setQuotient 10 = .ok (.aload_n 1, 1) := by decide +kernel
theorem dX0_setQuotient_11 : decode cX0_setQuotient 11 = .ok (.getfield 7, 3) := by decide +kernel
theorem dX0_setQuotient_14 : decode cX0_setQuotient 14 = .ok (.aload_n 2, 1) := by decide +kernel
theorem dX0_setQuotient_15 : decode cX0_setQuotient 15 = .ok (.getfield 17, 3) := by decide +kernel
theorem dX0_setQuotient_18 : decode cX0_setQuotient 18 = .ok (.lmul, 1) := by decide +kernel
theorem dX0_setQuotient_19 : decode cX0_setQuotient 19 = .ok (.invokevirtual 20, 3) := by decide +kernel
theorem dX0_setQuotient_22 : decode cX0_setQuotient 22 = .ok (.return_, 1) := by decide +kernel
set_option maxHeartbeats 4000000 in
set_option maxRecDepth 100000 in
/-- setQuotient -/
theorem c_X0_setQuotient {l : Launch} {G : tm_G} {Hb : Heap} {sh : tm_sh} {M : tm_M} {q p1 p2 : Nat} (h0 : sh q = some (2, 0)) (h1 : sh p1 = some (2, 0)) (h2 : sh p2 = some (2, 0)) (hd : mL M p1 1 * mL M p2 0 ≠ 0) (hn1 : (mL M p1 0 * mL M p2 1).natAbs ≤ 4611686018427387904) (hn2 : (mL M p1 1 * mL M p2 0).natAbs ≤ 4611686018427387904) : Met l yX0_setQuotient (tws yX0_setQuotient cX0_setQuotient 3 none) ({ frames := 2, cells := 0, slots := 0, locals := 53 }) (va_Pc [.ref q, .ref p1, .ref p2] (tm_St G Hb sh M)) (tm_Qv G Hb sh (fun M1 => M1 = fS M q (tl_norm (mL M p1 0 * mL M p2 1) (mL M p1 1 * mL M p2 0)))) 0 0 (tm_A Hb) := by
  refine tm_begin (by decide) (Nat.le_of_ble_eq_true rfl) (fun p e s m below meth c ls hx hb hr hml hown htw hlk hnm hK hW hl => ?_)
  have hS : va_S (tm_A Hb) s.heap s.heap [] := va_S.rf
  have hl : lv_has ls 3 [(0, .ref q), (1, .ref p1), (2, .ref p2)] := hl
  refine lv_aload_n hx hb dX0_setQuotient_0 rfl (lv_at hl 0 rfl) ?_
  refine lv_aload_n hx hb dX0_setQuotient_1 rfl (lv_at hl 1 rfl) ?_
  refine gf_X0_17 hx hb htw hown hK hW (by assumption) dX0_setQuotient_2 ?_
  refine lv_aload_n hx hb dX0_setQuotient_5 rfl (lv_at hl 2 rfl) ?_
  refine gf_X0_7 hx hb htw hown hK hW (by assumption) dX0_setQuotient_6 ?_
  refine ti_lmul hx hb dX0_setQuotient_9 ?_
  refine lv_aload_n hx hb dX0_setQuotient_10 rfl (lv_at hl 1 rfl) ?_
  refine gf_X0_7 hx hb htw hown hK hW (by assumption) dX0_setQuotient_11 ?_
  refine lv_aload_n hx hb dX0_setQuotient_14 rfl (lv_at hl 2 rfl) ?_
  refine gf_X0_17 hx hb htw hown hK hW (by assumption) dX0_setQuotient_15 ?_
  refine ti_lmul hx hb dX0_setQuotient_18 ?_
  refine tm_callv (cs_X0_20 hx hb hml hown htw hK hW (by assumption) (c_X0_set (by assumption) (by assumption) (by assumption) (by assumption)) ⟨rfl, rfl, Nat.le_of_ble_eq_true rfl, Nat.le_of_ble_eq_true rfl⟩ hl.1 (Nat.le_of_ble_eq_true rfl) dX0_setQuotient_19 ⟨Nat.le_of_ble_eq_true rfl, Nat.le_of_ble_eq_true rfl⟩) hS (fun M19 H locs hp19 hW hS => ?_)
  exact tm_vret hx hb hr hlk hK hW hS hp19 dX0_setQuotient_22
theorem tl_floor {x y : Int} (hy : 0 < y) : (0 ≤ x → x.tdiv y = x / y) ∧ (x < 0 → x.tdiv y * y = x → x.tdiv y = x / y) ∧ (x < 0 → ¬ x.tdiv y * y = x → x.tdiv y - 1 = x / y) := by
  have h1 := Int.mul_tdiv_add_tmod x y
  refine ⟨fun h => Int.tdiv_eq_ediv_of_nonneg h, fun h e => ?_, fun h e => ?_⟩
  · refine (((Int.ediv_emod_unique (r := 0) hy).mpr ⟨?_, by omega, hy⟩).1).symm
    rw [Int.mul_comm] at e
    omega
  · have h2 : x.tmod y ≤ 0 := by
      have := Int.tmod_nonneg (a := -x) y (by omega)
      rw [Int.neg_tmod] at this
      omega
    have h3 : -y < x.tmod y := by
      have := Int.natAbs_tmod x y
      have h4 : x.natAbs % y.natAbs < y.natAbs := Nat.mod_lt _ (by omega)
      omega
    refine (((Int.ediv_emod_unique (r := x.tmod y + y) hy).mpr ⟨?_, by omega, ?_⟩).1).symm
    · rw [Int.mul_sub, Int.mul_one]
      omega
    · have h5 : x.tmod y ≠ 0 := fun z => e (by rw [z] at h1; rw [Int.mul_comm]; omega)
      omega
theorem dJ9_floorDiv_f86c9_0 : decode cJ9_floorDiv_f86c9 0 = .ok (.lload_n 0, 1) := by decide +kernel
theorem dJ9_floorDiv_f86c9_1 : decode cJ9_floorDiv_f86c9 1 = .ok (.lload_n 2, 1) := by decide +kernel
theorem dJ9_floorDiv_f86c9_2 : decode cJ9_floorDiv_f86c9 2 = .ok (.ldiv, 1) := by decide +kernel
theorem dJ9_floorDiv_f86c9_3 : decode cJ9_floorDiv_f86c9 3 = .ok (.lstore 4, 2) := by decide +kernel
theorem dJ9_floorDiv_f86c9_5 : decode cJ9_floorDiv_f86c9 5 = .ok (.lload_n 0, 1) := by decide +kernel
theorem dJ9_floorDiv_f86c9_6 : decode cJ9_floorDiv_f86c9 6 = .ok (.lload_n 2, 1) := by decide +kernel
theorem dJ9_floorDiv_f86c9_7 : decode cJ9_floorDiv_f86c9 7 = .ok (.lxor, 1) := by decide +kernel
theorem dJ9_floorDiv_f86c9_8 : decode cJ9_floorDiv_f86c9 8 = .ok (.lconst 0, 1) := by decide +kernel
theorem dJ9_floorDiv_f86c9_9 : decode cJ9_floorDiv_f86c9 9 = .ok (.lcmp, 1) := by decide +kernel
theorem dJ9_floorDiv_f86c9_10 : decode cJ9_floorDiv_f86c9 10 = .ok (.ifCond .ge 17, 3) := by decide +kernel
theorem dJ9_floorDiv_f86c9_13 : decode cJ9_floorDiv_f86c9 13 = .ok (.lload 4, 2) := by decide +kernel
theorem dJ9_floorDiv_f86c9_15 : decode cJ9_floorDiv_f86c9 15 = .ok (.lload_n 2, 1) := by decide +kernel
theorem dJ9_floorDiv_f86c9_16 : decode cJ9_floorDiv_f86c9 16 = .ok (.lmul, 1) := by decide +kernel
theorem dJ9_floorDiv_f86c9_17 : decode cJ9_floorDiv_f86c9 17 = .ok (.lload_n 0, 1) := by decide +kernel
theorem dJ9_floorDiv_f86c9_18 : decode cJ9_floorDiv_f86c9 18 = .ok (.lcmp, 1) := by decide +kernel
theorem dJ9_floorDiv_f86c9_19 : decode cJ9_floorDiv_f86c9 19 = .ok (.ifCond .eq 8, 3) := by decide +kernel
theorem dJ9_floorDiv_f86c9_22 : decode cJ9_floorDiv_f86c9 22 = .ok (.lload 4, 2) := by decide +kernel
theorem dJ9_floorDiv_f86c9_24 : decode cJ9_floorDiv_f86c9 24 = .ok (.lconst 1, 1) := by decide +kernel
theorem dJ9_floorDiv_f86c9_25 : decode cJ9_floorDiv_f86c9 25 = .ok (.lsub, 1) := by decide +kernel
theorem dJ9_floorDiv_f86c9_26 : decode cJ9_floorDiv_f86c9 26 = .ok (.lreturn, 1) := by decide +kernel
theorem dJ9_floorDiv_f86c9_27 : decode cJ9_floorDiv_f86c9 27 = .ok (.lload 4, 2) := by decide +kernel
theorem dJ9_floorDiv_f86c9_29 : decode cJ9_floorDiv_f86c9 29 = .ok (.lreturn, 1) := by decide +kernel
set_option maxHeartbeats 4000000 in
set_option maxRecDepth 100000 in
/-- Math.floorDiv of longs, the divisor above 0 -/
theorem c_J9_floorDiv {l : Launch} {G : tm_G} {Hb : Heap} {sh : tm_sh} {M : tm_M} {x y : Int} (hy : 0 < y) (hx1 : inL x) (hy1 : inL y) : Met l yJ9_floorDiv_f86c9 (tws yJ9_floorDiv_f86c9 cJ9_floorDiv_f86c9 6 (some .long)) ({ frames := 0, cells := 0, slots := 0, locals := 0 }) (va_Pc [jl x, jl y] (tm_St G Hb sh M)) (tm_Ql G Hb sh (fun r M1 => r = x / y ∧ M1 = M)) 0 0 (tm_A Hb) := by
  refine tm_beginF (by decide +kernel) (Nat.le_of_ble_eq_true rfl) (fun p e s m below meth c ls hx hb hr hml hown htw hlk hnm hK hW hl => ?_)
  have hS : va_S (tm_A Hb) s.heap s.heap [] := va_S.rf
  have hl : lv_has ls 6 [(0, jl x), (2, jl y)] := hl
  refine lv_lload_n hx hb dJ9_floorDiv_f86c9_0 rfl (lv_at hl 0 rfl) ?_
  refine lv_lload_n hx hb dJ9_floorDiv_f86c9_1 rfl (lv_at hl 1 rfl) ?_
  refine ti_ldiv hx hb dJ9_floorDiv_f86c9_2 (by omega) (by omega) (by omega) ?_
  refine lv_lstore (lv' := [(4, _), (0, _), (2, _)]) hx hb dJ9_floorDiv_f86c9_3 hl (by decide) rfl (fun ls hl => ?_)
  refine lv_lload_n hx hb dJ9_floorDiv_f86c9_5 rfl (lv_at hl 1 rfl) ?_
  refine lv_lload_n hx hb dJ9_floorDiv_f86c9_6 rfl (lv_at hl 2 rfl) ?_
  refine ti_lxor hx hb dJ9_floorDiv_f86c9_7 (by omega) (by omega) (fun e7 he7 hs7 => ?_)
  refine ti_lconst0 hx hb dJ9_floorDiv_f86c9_8 ?_
  refine ti_lcmp_ge (tgt := 27) hx hb dJ9_floorDiv_f86c9_9 dJ9_floorDiv_f86c9_10 (by decide) he7 (by decide) (fun h9 => ?_) (fun h9 => ?_)
  · refine lv_lload hx hb dJ9_floorDiv_f86c9_27 (lv_at hl 0 rfl) ?_
    exact tm_lret hx hb hr hlk hK hW hS ⟨by first | exact (tl_floor hy).2.1 (by omega) h18 | exact (tl_floor hy).1 (by omega), rfl⟩ dJ9_floorDiv_f86c9_29
  · refine lv_lload hx hb dJ9_floorDiv_f86c9_13 (lv_at hl 0 rfl) ?_
    refine lv_lload_n hx hb dJ9_floorDiv_f86c9_15 rfl (lv_at hl 2 rfl) ?_
    refine ti_lmul hx hb dJ9_floorDiv_f86c9_16 ?_
    refine lv_lload_n hx hb dJ9_floorDiv_f86c9_17 rfl (lv_at hl 1 rfl) ?_
    refine ti_lcmp_eq (tgt := 27) hx hb dJ9_floorDiv_f86c9_18 dJ9_floorDiv_f86c9_19 (by decide) (tl_tdm hy hx1) hx1 (fun h18 => ?_) (fun h18 => ?_)
    · refine lv_lload hx hb dJ9_floorDiv_f86c9_27 (lv_at hl 0 rfl) ?_
      exact tm_lret hx hb hr hlk hK hW hS ⟨by first | exact (tl_floor hy).2.1 (by omega) h18 | exact (tl_floor hy).1 (by omega), rfl⟩ dJ9_floorDiv_f86c9_29
    · refine lv_lload hx hb dJ9_floorDiv_f86c9_22 (lv_at hl 0 rfl) ?_
      refine ti_lconst1 hx hb dJ9_floorDiv_f86c9_24 ?_
      refine ti_lsub hx hb dJ9_floorDiv_f86c9_25 ?_
      exact tm_lret hx hb hr hlk hK hW hS ⟨(tl_floor hy).2.2 (by omega) h18, rfl⟩ dJ9_floorDiv_f86c9_26
theorem dJ13_compare_74951_0 : decode cJ13_compare_74951 0 = .ok (.lload_n 0, 1) := by decide +kernel
theorem dJ13_compare_74951_1 : decode cJ13_compare_74951 1 = .ok (.lload_n 2, 1) := by decide +kernel
theorem dJ13_compare_74951_2 : decode cJ13_compare_74951 2 = .ok (.lcmp, 1) := by decide +kernel
theorem dJ13_compare_74951_3 : decode cJ13_compare_74951 3 = .ok (.ifCond .ge 7, 3) := by decide +kernel
theorem dJ13_compare_74951_6 : decode cJ13_compare_74951 6 = .ok (.iconst (-1), 1) := by decide +kernel
theorem dJ13_compare_74951_7 : decode cJ13_compare_74951 7 = .ok (.goto 14, 3) := by decide +kernel
theorem dJ13_compare_74951_10 : decode cJ13_compare_74951 10 = .ok (.lload_n 0, 1) := by decide +kernel
theorem dJ13_compare_74951_11 : decode cJ13_compare_74951 11 = .ok (.lload_n 2, 1) := by decide +kernel
theorem dJ13_compare_74951_12 : decode cJ13_compare_74951 12 = .ok (.lcmp, 1) := by decide +kernel
theorem dJ13_compare_74951_13 : decode cJ13_compare_74951 13 = .ok (.ifCond .ne 7, 3) := by decide +kernel
theorem dJ13_compare_74951_16 : decode cJ13_compare_74951 16 = .ok (.iconst 0, 1) := by decide +kernel
theorem dJ13_compare_74951_17 : decode cJ13_compare_74951 17 = .ok (.goto 4, 3) := by decide +kernel
theorem dJ13_compare_74951_20 : decode cJ13_compare_74951 20 = .ok (.iconst 1, 1) := by decide +kernel
theorem dJ13_compare_74951_21 : decode cJ13_compare_74951 21 = .ok (.ireturn, 1) := by decide +kernel
set_option maxHeartbeats 4000000 in
set_option maxRecDepth 100000 in
/-- Long.compare -/
theorem c_J13_compare {l : Launch} {G : tm_G} {Hb : Heap} {sh : tm_sh} {M : tm_M} {x y : Int} (hx1 : inL x) (hy1 : inL y) : Met l yJ13_compare_74951 (tws yJ13_compare_74951 cJ13_compare_74951 4 (some .int)) ({ frames := 0, cells := 0, slots := 0, locals := 0 }) (va_Pc [jl x, jl y] (tm_St G Hb sh M)) (tm_Qi G Hb sh (fun r M1 => r = (if x < y then -1 else if x = y then 0 else 1) ∧ M1 = M)) 0 0 (tm_A Hb) := by
  refine tm_beginF (by decide +kernel) (Nat.le_of_ble_eq_true rfl) (fun p e s m below meth c ls hx hb hr hml hown htw hlk hnm hK hW hl => ?_)
  have hS : va_S (tm_A Hb) s.heap s.heap [] := va_S.rf
  have hl : lv_has ls 4 [(0, jl x), (2, jl y)] := hl
  refine lv_lload_n hx hb dJ13_compare_74951_0 rfl (lv_at hl 0 rfl) ?_
  refine lv_lload_n hx hb dJ13_compare_74951_1 rfl (lv_at hl 1 rfl) ?_
  refine ti_lcmp_ge (tgt := 10) hx hb dJ13_compare_74951_2 dJ13_compare_74951_3 (by decide) (by omega) (by omega) (fun h2 => ?_) (fun h2 => ?_)
  · refine lv_lload_n hx hb dJ13_compare_74951_10 rfl (lv_at hl 0 rfl) ?_
    refine lv_lload_n hx hb dJ13_compare_74951_11 rfl (lv_at hl 1 rfl) ?_
    refine ti_lcmp_ne (tgt := 20) hx hb dJ13_compare_74951_12 dJ13_compare_74951_13 (by decide) (by omega) (by omega) (fun h12 => ?_) (fun h12 => ?_)
    · refine ti_iconst hx hb dJ13_compare_74951_20 ?_
      exact tm_iret hx hb hr hlk hK hW hS ⟨by first | rw [if_pos (by omega)] | rw [if_neg (by omega), if_pos (by omega)] | rw [if_neg (by omega), if_neg (by omega)], rfl⟩ dJ13_compare_74951_21
    · refine ti_iconst hx hb dJ13_compare_74951_16 ?_
      refine lv_goto (tgt := 21) hx hb dJ13_compare_74951_17 (by decide) ?_
      exact tm_iret hx hb hr hlk hK hW hS ⟨by first | rw [if_pos (by omega)] | rw [if_neg (by omega), if_pos (by omega)] | rw [if_neg (by omega), if_neg (by omega)], rfl⟩ dJ13_compare_74951_21
  · refine ti_iconst hx hb dJ13_compare_74951_6 ?_
    refine lv_goto (tgt := 21) hx hb dJ13_compare_74951_7 (by decide) ?_
    exact tm_iret hx hb hr hlk hK hW hS ⟨by first | rw [if_pos (by omega)] | rw [if_neg (by omega), if_pos (by omega)] | rw [if_neg (by omega), if_neg (by omega)], rfl⟩ dJ13_compare_74951_21
