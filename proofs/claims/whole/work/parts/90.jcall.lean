/-! calls of the JDK's code: inherited and private methods, the superclass's own, a String constant's -/
theorem sel_priv {C : String} {x0 y0 y : MethodName} {s : State} {args : Array Value} {n : Nat} (hy : y.cls ≠ "java/lang/invoke/MethodHandle" ∧ y.cls ≠ "java/lang/invoke/VarHandle") (hins : (Cond.instantiable C n).before args s = true) (hpriv : (Cond.privateMethod y).before args s = true) (hinst : (Cond.instanceMethod y).before args s = true) (hs0 : (Cond.selects C x0 y0).before args s = true) (h0 : y0.cls = y.cls) : (Cond.selects C y y).before args s = true := by
  obtain ⟨c, k, hc, hk, -, hniab, -, -⟩ := Cond.instantiable_spec hins
  obtain ⟨mk, methM, hnamed, hmethM, -, -⟩ := Cond.instanceMethod_spec hinst
  obtain ⟨c0, r0, m0, -, -, hn0, -, mk0, hk0, hi0⟩ := Cond.selects_spec (args := args) (first := s) (o := none) (s := s) (idx := []) hs0
  have e1 := findClass_of_methodNamed hn0
  rw [h0] at e1
  have e2 : m0.cls = mk.cls := Option.some.inj (e1.symm.trans (findClass_of_methodNamed hnamed))
  have hfound : s.methodFound? y.cls y.name y.desc = some mk := State.methodFound?_of_named hnamed hy
  have hsel : selectMethod {} s.vm c mk = .method mk := selectMethod_private hmethM (Cond.privateMethod_at hpriv mk methM hnamed hmethM)
  simp only [Cond.before, Cond.holds, Cond.value, hc, hfound, hnamed, hsel, hk]
  simp
  rw [← e2, hk0]
  simp [hi0]
def kx (i : Nat) : Nat × String := match i with
  | 0 => (42, " < ")
  | 1 => (48, " > ")
  | 2 => (50, " = ")
  | 3 => (84, " - ")
  | _ => (86, " + ")
/-- the constant number i lies at a -/
def kR (i a : Nat) (U : State) : Prop := vk_R RX2 (kx i).1 (kx i).2 a U
def kb (i j : Nat) : Int := if j = 0 then 32 else if j = 1 then (if i = 0 then 60 else if i = 1 then 62 else if i = 2 then 61 else if i = 3 then 45 else 43) else 32
theorem kb_ok : ∀ i, i < 5 → ∀ j, j < 3 → (tc_byt.getD i []).getD j 0 = Int32.ofInt (kb i j) := by decide +kernel
theorem tc_at {Hb : Heap} {s : State} (hC : tm_Cs Hb s) {i : Nat} (hi : i < 5) : ∃ a, kR i a s := by
  obtain ⟨-, -, -, -, -, -, -, k, v, -, r0, r1, r2, r3, r4⟩ := hC
  have e : i = 0 ∨ i = 1 ∨ i = 2 ∨ i = 3 ∨ i = 4 := by omega
  rcases e with rfl | rfl | rfl | rfl | rfl
  · exact ⟨_, r0⟩
  · exact ⟨_, r1⟩
  · exact ⟨_, r2⟩
  · exact ⟨_, r3⟩
  · exact ⟨_, r4⟩
/-- what such a constant is -/
theorem tc_str {Hb : Heap} {s : State} (hC : tm_Cs Hb s) {i a : Nat} (hi : i < 5) (hk : kR i a s) : ∃ V, va_O "java/lang/String" a (tm_A Hb) s s.heap ∧ va_OF "java/lang/String" "coder" "B" (ji 0) a (tm_A Hb) s s.heap ∧ va_OF "java/lang/String" "value" "[B" (.ref V) a (tm_A Hb) s s.heap ∧ va_T .byte V 3 (fun j => .int ((tc_byt.getD i []).getD j 0)) (tm_A Hb) s s.heap := by
  obtain ⟨-, -, -, -, -, -, -, k, v, hs, r0, r1, r2, r3, r4⟩ := hC
  have q := hs.1 i hi
  have e : i = 0 ∨ i = 1 ∨ i = 2 ∨ i = 3 ∨ i = 4 := by omega
  have ea : k i = a := by
    rcases e with rfl | rfl | rfl | rfl | rfl
    · exact Value.ref.inj (Option.some.inj (r0.2.symm.trans hk.2))
    · exact Value.ref.inj (Option.some.inj (r1.2.symm.trans hk.2))
    · exact Value.ref.inj (Option.some.inj (r2.2.symm.trans hk.2))
    · exact Value.ref.inj (Option.some.inj (r3.2.symm.trans hk.2))
    · exact Value.ref.inj (Option.some.inj (r4.2.symm.trans hk.2))
  have el : tc_len.getD i 0 = 3 := by
    rcases e with rfl | rfl | rfl | rfl | rfl <;> rfl
  rw [ea, el] at q
  exact ⟨v i, q⟩
/-- the state, and a constant at a -/
def tk_St (G : tm_G) (Hb : Heap) (sh : tm_sh) (M : tm_M) (h i a : Nat) (U : State) : Prop := tz_St G Hb sh M h U ∧ kR i a U
theorem tk_blind {G : tm_G} {Hb : Heap} {sh : tm_sh} {M : tm_M} {h i a : Nat} {av : List Value} : FrameBlind (va_Pc av (tk_St G Hb sh M h i a)) := fun b U g mk q => ⟨q.1, (tz_blind (av := av) b U g mk ⟨q.1, q.2.1⟩).2, vk_R.warm (State.WarmedH.refl U) q.2.2⟩
theorem tk_begin {l : Launch} {y : MethodName} {cc : ByteArray} {maxL : Nat} {ret : Option FieldType} {rm : Room} {av : List Value} {G : tm_G} {Hb : Heap} {sh : tm_sh} {M : tm_M} {h i a : Nat} {Qc : Array Value → State → Outcome → State → Prop} {mc ms : Nat} {free : Addr → Prop} (hy : plainFor y = true) (hlen : (lg_sl av).length ≤ maxL)
    (body : ∀ (p : Program) (e : Env) (s : State) (m : MethodId) (below : List Frame) (meth : Method) (c : Code) (ls : Array Slot), p.tables.exec = Jvm.exec → c.code = cc → meth.sig.returnType = ret → c.maxLocals = maxL → s.vm.findClass y.cls = some m.cls → (∀ w ∈ tw, w.before av.toArray s = true) → meth.locks = false → meth.name = y.name → va_K G.1 vwCl (tm_tys G) s → tm_W G Hb sh M s.heap → tm_Cs Hb s → s.heap.size = h → kR i a s → lv_has ls maxL (lv_args 0 av) →
      W p l e rm s m av.toArray below meth c s.heap [] 0 0 (MQ below Qc av.toArray s mc ms free) (F0 m 0 ls [])) : Met l y (tws y cc maxL ret) rm (va_Pc av (tk_St G Hb sh M h i a)) Qc mc ms free := by
  refine va_MetF (cc := cc) (maxL := maxL) (ret := ret) hy rfl ?_
  intro p e s m args below meth c s₁ B hml hv
  obtain ⟨rfl, ⟨⟨hK, hW⟩, hC, hh⟩, hk⟩ := hv
  have hts := atoms_spec (ws := tws y cc maxL ret) B.pre
  have hl := lv_entry av (n := maxL) hlen
  rw [lg_entry_eq]
  exact body p e s m below meth c _ B.exec B.bytes B.returns hml (findClass_of_methodNamed B.named) (fun w hw => hts w (List.mem_cons_of_mem _ hw)) B.notSynchronized (name_of_methodNamed B.named B.method).1 hK hW hC hh hk hl
def cpM (M : tm_M) (y d N : Nat) (f : Nat → Int) : tm_M := (M.1, fun a k => if a = y ∧ d ≤ k ∧ k < d + N then f (k - d) else M.2.1 a k, M.2.2)
theorem tb_fit {v : Int} (h : -128 ≤ v ∧ v < 128) : fits .byte (ji v) = true := by
  show (decide ((-128 : Int32) ≤ Int32.ofInt v) && decide (Int32.ofInt v ≤ (127 : Int32))) = true
  have e : (Int32.ofInt v).toInt = v := Int32.toInt_ofInt_of_le (by omega) (by omega)
  rw [Bool.and_eq_true, decide_eq_true_eq, decide_eq_true_eq, Int32.le_iff_toInt_le, Int32.le_iff_toInt_le, e]
  exact ⟨by show (-128 : Int) ≤ v; omega, by show v ≤ 127; omega⟩
section TKC
variable {p : Program} {l : Launch} {e : Env} {R : Room} {s : State} {m : MethodId} {args : Array Value} {below : List Frame} {meth : Method} {c : Code} {H : Heap} {locs : List Loc} {cells slots : Nat} {Q : State → Prop}
variable {cc : ByteArray} {pc nL : Nat} {ls : Array Slot} {rest st0 : List Value} {G : tm_G} {Hb H0 : Heap} {sh : tm_sh} {M : tm_M} {b kd n0 h i ka : Nat} {mc ms : Nat} {a : Array Value} {Qc : Array Value → State → Outcome → State → Prop}
theorem tk_preV {C : String} {T : u_T} {N : Nat} {As : List Value} (hK : va_K G.1 vwCl (tm_tys G) s) (hW : tm_W G Hb sh M H) (hC : tm_Cs Hb s) (hS : va_S (tm_A Hb) s.heap H locs) (hh : H.size = h) (hk : kR i ka s) (hq : sh b = some (kd, n0)) (hkd : kd < 20) (hc : vwCl[kd]? = some (C, T, N)) : PreV s H C b (va_Pc (.ref b :: As) (tk_St G Hb sh M h i ka)) As := by
  obtain ⟨h1, h2, h3⟩ := tz_preV (As := As) hK hW hC hS hh hq hkd hc
  exact ⟨tk_blind, h2, fun U hU hw => ⟨rfl, (h3 U hU hw).2, vk_R.warm hw hk⟩⟩
/-- a String constant as the receiver -/
theorem tk_preK {As : List Value} (hK : va_K G.1 vwCl (tm_tys G) s) (hW : tm_W G Hb sh M H) (hC : tm_Cs Hb s) (hS : va_S (tm_A Hb) s.heap H locs) (hh : H.size = h) (hi : i < 5) (hk : kR i b s) : PreV s H "java/lang/String" b (va_Pc (.ref b :: As) (tk_St G Hb sh M h i b)) As := by
  obtain ⟨V, ⟨cell, h1, h2, h3, -⟩, -⟩ := tc_str hC hi hk
  obtain ⟨cell, h1, h2, h3, -⟩ := (tc_str hC hi hk).choose_spec.1.kept hS.2.1
  exact ⟨tk_blind, ⟨cell, h1, h2, h3⟩, fun U hU hw => ⟨rfl, ⟨⟨va_K.moved hw.alike hK, by rw [hU]; exact hW⟩, hC.to hS hU hw, by rw [hU]; exact hh⟩, vk_R.warm hw hk⟩⟩
/-- a method that a builder inherits -/
theorem tq_runU {Pc : Array Value → State → Prop} {own : String} {index : Nat} {y : MethodName} {bytes : ByteArray} {maxL n : Nat} {ret : Option FieldType} {rm : Room} {As : List Value} (hexec : p.tables.exec = Jvm.exec) (hb : c.code = cc) (hml : c.maxLocals = nL) (hown : s.vm.findClass own = some m.cls) (htw : ∀ w ∈ tw, w.before args s = true) (hp : PreV s H RJ4 b Pc As)
    (h1 : Cond.methodLink own index y ∈ tw) (h2 : Cond.instanceMethod y ∈ tw) (h3 : Cond.sameMethod y.cls y.cls y.name y.desc ∈ tw) (h4 : Cond.initialized y.cls ∈ tw) (h5 : Cond.code y bytes maxL ret ∈ tw) (h6 : (Cond.selects RJ4 y y).before args s = true) (hd : y.cls ≠ "java/lang/invoke/MethodHandle" ∧ y.cls ≠ "java/lang/invoke/VarHandle" ∧ (parseMethodDescriptor y.desc).map (fun d => d.parameters.length) = some n)
    (hM : Met l y (tws y bytes maxL ret) rm Pc Qc mc ms (tm_A Hb)) (hrm : rm.cells = mc ∧ rm.slots = ms ∧ rm.frames + 1 ≤ R.frames ∧ 8 + (maxL + 11) + rm.locals ≤ R.locals) (hn : As.length = n) (hsize : ls.size = nL) (hst : st0 = As.reverse ++ .ref b :: rest) (hrest : (rest.map fun v => v.category).sum ≤ 8) (hdg : decode cc pc = .ok (.invokevirtual index, 3)) (hf : cells + mc ≤ R.cells ∧ slots + ms ≤ R.slots) :
    va_Run p l e R s m args below meth c H locs cells slots mc ms (F0 m pc ls st0) rest (Qc (Value.ref b :: As).toArray) (tm_A Hb) :=
  va_runU (x := y) (owner := y.cls) ⟨hexec, hb, hml, hown, htw⟩ hM ⟨⟨hrm.1, hrm.2.1, hrm.2.2.1, hrm.2.2.2, pay_in htw (tw_C h5), List.mem_cons_self⟩, htw _ h5, htw _ h4, ⟨hd.1, hd.2.1⟩, fun sig h => by have h2 := hd.2.2; rw [h] at h2; exact (Option.some.inj h2).symm, htw _ h1, htw _ h3, va_Decl.of (htw _ h2) (htw _ h5), h6, htw _ h2⟩ hp rfl hn hsize hst (lv_room hrest) hdg hf
/-- the superclass's method -/
theorem tq_runSU {Pc : Array Value → State → Prop} {own : String} {index : Nat} {y : MethodName} {bytes : ByteArray} {maxL n : Nat} {ret : Option FieldType} {rm : Room} {As : List Value} (hexec : p.tables.exec = Jvm.exec) (hb : c.code = cc) (hml : c.maxLocals = nL) (hown : s.vm.findClass own = some m.cls) (htw : ∀ w ∈ tw, w.before args s = true) (hK : va_K G.1 vwCl (tm_tys G) s) (hp : PreV s H RJ4 b Pc As)
    (h1 : Cond.methodLink own index y ∈ tw) (h2 : Cond.instanceMethod y ∈ tw) (h3 : Cond.sameMethod y.cls y.cls y.name y.desc ∈ tw) (h4 : Cond.initialized y.cls ∈ tw) (h5 : Cond.code y bytes maxL ret ∈ tw) (h6 : Cond.superclass own y.cls ∈ tw) (hd : y.name ≠ "<init>" ∧ (parseMethodDescriptor y.desc).map (fun d => d.parameters.length) = some n)
    (hM : Met l y (tws y bytes maxL ret) rm Pc Qc mc ms (tm_A Hb)) (hrm : rm.cells = mc ∧ rm.slots = ms ∧ rm.frames + 1 ≤ R.frames ∧ 8 + (maxL + 11) + rm.locals ≤ R.locals) (hn : As.length = n) (hsize : ls.size = nL) (hst : st0 = As.reverse ++ .ref b :: rest) (hrest : (rest.map fun v => v.category).sum ≤ 8) (hdg : decode cc pc = .ok (.invokespecial index, 3)) (hf : cells + mc ≤ R.cells ∧ slots + ms ≤ R.slots) :
    va_Run p l e R s m args below meth c H locs cells slots mc ms (F0 m pc ls st0) rest (Qc (Value.ref b :: As).toArray) (tm_A Hb) := by
  obtain ⟨-, hfc, kC, hkC, hkind⟩ := hK.1 1 _ rfl
  exact va_runSU (cC := G.1.1 1) ⟨hfc, kC, hkC, hkind⟩ ⟨hexec, hb, hml, hown, htw⟩ hM ⟨⟨hrm.1, hrm.2.1, hrm.2.2.1, hrm.2.2.2, pay_in htw (tw_C h5), List.mem_cons_self⟩, htw _ h1, htw _ h3, htw _ h6, htw _ h2, htw _ h4, htw _ h5, hd.1, fun sig h => by have h2 := hd.2; rw [h] at h2; exact (Option.some.inj h2).symm⟩ hp rfl hn hsize hst (lv_room hrest) hdg hf
/-- a virtual method of the receiver's own class -/
theorem tq_runV {Pc : Array Value → State → Prop} {own C : String} {index : Nat} {y : MethodName} {bytes : ByteArray} {maxL n : Nat} {ret : Option FieldType} {rm : Room} {As : List Value} (hexec : p.tables.exec = Jvm.exec) (hb : c.code = cc) (hml : c.maxLocals = nL) (hown : s.vm.findClass own = some m.cls) (htw : ∀ w ∈ tw, w.before args s = true) (hp : PreV s H C b Pc As)
    (h1 : Cond.methodLink own index y ∈ tw) (h2 : Cond.instanceMethod y ∈ tw) (h3 : Cond.selects C y y ∈ tw) (h4 : Cond.initialized C ∈ tw) (h5 : Cond.code y bytes maxL ret ∈ tw) (hd : y.cls = C ∧ y.cls ≠ "java/lang/invoke/MethodHandle" ∧ y.cls ≠ "java/lang/invoke/VarHandle" ∧ (parseMethodDescriptor y.desc).map (fun d => d.parameters.length) = some n)
    (hM : Met l y (tws y bytes maxL ret) rm Pc Qc mc ms (tm_A Hb)) (hrm : rm.cells = mc ∧ rm.slots = ms ∧ rm.frames + 1 ≤ R.frames ∧ 8 + (maxL + 11) + rm.locals ≤ R.locals) (hn : As.length = n) (hsize : ls.size = nL) (hst : st0 = As.reverse ++ .ref b :: rest) (hrest : (rest.map fun v => v.category).sum ≤ 8) (hdg : decode cc pc = .ok (.invokevirtual index, 3)) (hf : cells + mc ≤ R.cells ∧ slots + ms ≤ R.slots) :
    va_Run p l e R s m args below meth c H locs cells slots mc ms (F0 m pc ls st0) rest (Qc (Value.ref b :: As).toArray) (tm_A Hb) :=
  va_runV ⟨hexec, hb, hml, hown, htw⟩ hM (cwV n htw (tw_V h1 h2 h3 h4 h5) rfl hrm.1 hrm.2.1 hd hrm.2.2) hp rfl hn hsize hst (lv_room hrest) hdg hf
/-- bytes copied to a row from place d on -/
theorem tm_copyk (hexec : p.tables.exec = Jvm.exec) (hb : c.code = cc) (hml : c.maxLocals = nL) (hls : ls.size = nL) {own : String} {index : Nat} (hown : s.vm.findClass own = some m.cls) (htw : ∀ w ∈ tw, w.before args s = true) (hl1 : Cond.methodLink own index arraycopyName ∈ tw) (hl2 : Cond.native arraycopyName ∈ tw) (hl3 : Cond.static arraycopyName ∈ tw) (hl4 : Cond.initialized "java/lang/System" ∈ tw)
    (hK : va_K G.1 vwCl (tm_tys G) s) (hW : tm_W G Hb sh M H) (hS : va_S (tm_A Hb) s.heap H locs) {x n0 : Nat} {scr : Cell} {f : Nat → Int} (hc0 : H[x]? = some scr) (hs2 : s.isArrayOf scr .byte) (hs3 : scr.vm ≠ .unknown) (hs4 : n0 ≤ scr.slots.size) (hs5 : ∀ j, j < n0 → scr.slots[j]? = some (ji (f j))) (hbt : ∀ j, j < n0 → -128 ≤ f j ∧ f j < 128) {y ny d N : Nat} (hy : sh y = some (22, ny)) (hN : N ≤ n0 ∧ d + N ≤ ny ∧ ny < 65536) (hR : 1 ≤ R.frames ∧ 40 ≤ R.locals) (hrest : (rest.map fun v => v.category).sum ≤ 8) (hdg : decode cc pc = .ok (.invokestatic index, 3))
    (kk : ∀ (H1 : Heap) (locs1 : List Loc), tm_W G Hb sh (cpM M y d N f) H1 → va_S (tm_A Hb) s.heap H1 locs1 → W p l e R s m args below meth c H1 locs1 cells slots Q (F0 m (pc + 3) ls rest)) : W p l e R s m args below meth c H locs cells slots Q (F0 m pc ls (ji (N : Nat) :: ji (d : Nat) :: .ref y :: ji 0 :: .ref x :: rest)) := by
  have z0 := tm_nn (e := 0) (by decide) (by decide)
  have zN := tm_nn (e := (N : Int)) (by omega) (by omega)
  have zd := tm_nn (e := (d : Int)) (by omega) (by omega)
  have ez : (Int32.ofInt 0).toNatClampNeg = 0 := z0.2
  have eN : (Int32.ofInt (N : Int)).toNatClampNeg = N := by rw [zN.2]; omega
  have ed : (Int32.ofInt (d : Int)).toNatClampNeg = d := by rw [zd.2]; omega
  have nn : ∀ z : Int32, ¬ z < 0 → z.toInt = (z.toNatClampNeg : Int) := by
    intro z hz
    have hz0 : (0 : Int) ≤ z.toInt := by
      have := Int32.not_lt.mp hz
      simpa using Int32.le_iff_toInt_le.mp this
    show z.toInt = ((z.toInt.toNat : Nat) : Int)
    omega
  have hw9 : nativeFrameWords "java/lang/System" "arraycopy" 5 + 11 ≤ 32 := by decide +kernel
  have hr9 := hR.2
  intro T hT X
  have hc1 : H[y]? = some (vp_cell (G.2 22) (ny, .inl (fun j => Int32.ofInt (mI M y j)))) := tm_arr hW hy (by decide)
  obtain ⟨hs6, k0, hk0, cm0, hkk0⟩ := hs2
  obtain ⟨-, k1, hk1, cm1, hkk1⟩ := (hK.2 2 _ rfl).1 ny (fun j => .int (Int32.ofInt (mI M y j)))
  obtain ⟨vm', X', step⟩ := X.arraycopy hexec hown (htw _ hl1) (htw _ hl2) (htw _ hl3) (htw _ hl4) (src := x) (dst := y) (cs := scr) (cd := vp_cell (G.2 22) (ny, .inl (fun j => Int32.ofInt (mI M y j)))) (srcPos := Int32.ofInt 0) (destPos := Int32.ofInt (d : Int)) (n := Int32.ofInt (N : Int)) (by rw [hT]; exact hc0) (by rw [hT]; exact hc1)
    hs6 (fun _ h => by cases h) hs3 (fun h => by cases h) hk0 hk1 hkk0 hkk1 (by simp [refKind]) z0.1 zd.1 zN.1
    (by rw [nn _ z0.1, nn _ zN.1, ez, eN]; omega)
    (by rw [nn _ zd.1, nn _ zN.1, ed, eN]; show ¬ _ > ((arrV (G.2 22) ny (fun j => .int (Int32.ofInt (mI M y j)))).slots.size : Int); rw [arrV_size]; omega)
    (fun vm₁ _ i hi => by
      rw [eN] at hi
      rw [ez]
      have e : scr.slots.getD (0 + i) .null = ji (f (0 + i)) := by
        rw [Array.getD_eq_getD_getElem?, hs5 _ (by omega)]
        rfl
      refine ⟨?_, ?_⟩
      · rw [e]
        exact tb_fit (hbt (0 + i) (by omega))
      · rw [e]
        exact trivial)
    (g := F0 m pc ls (ji (N : Nat) :: ji (d : Nat) :: .ref y :: ji 0 :: .ref x :: rest)) rfl (hls.trans hml.symm) (rest := rest) rfl (by rw [hb]; exact hdg) hR.1 (by show 2 * 0 + _ + (nativeFrameWords "java/lang/System" "arraycopy" 5 + 11) ≤ _; omega)
  have e1 : copied scr (vp_cell (G.2 22) (ny, .inl (fun j => Int32.ofInt (mI M y j)))) (Int32.ofInt 0) (Int32.ofInt (d : Int)) (Int32.ofInt (N : Int)) = vp_cell (G.2 22) (ny, .inl (va_cpy (fun j => Int32.ofInt (f j)) (fun j => Int32.ofInt (mI M y j)) 0 d N)) := by
    have h9 := va_copiedX (sp := 0) (dp := d) (n := N) (fun z => .int z) scr (G.2 22) (n1 := ny) (fun j => Int32.ofInt (f j)) (fun j => Int32.ofInt (mI M y j)) hs5 (by omega)
    unfold copied
    rw [ez, ed, eN]
    exact h9
  rw [e1] at X' step
  generalize hH1 : H.setIfInBounds y (vp_cell (G.2 22) (ny, .inl (va_cpy (fun j => Int32.ofInt (f j)) (fun j => Int32.ofInt (mI M y j)) 0 d N))) = H1
  have hl : y < H.size := (Array.getElem?_eq_some_iff.mp hc1).1
  have hheap : ((T.setVm vm').setCell y (vp_cell (G.2 22) (ny, .inl (va_cpy (fun j => Int32.ofInt (f j)) (fun j => Int32.ofInt (mI M y j)) 0 d N)))).heap = H1 := by rw [← hH1, ← hT]; rfl
  have oq : ∀ q : Nat, q ≠ y → H1[q]? = H[q]? := fun q hq => by rw [← hH1]; simp [Array.getElem?_setIfInBounds, Ne.symm hq]
  have eq1 : H1[y]? = some (vp_cell (G.2 22) (ny, .inl (va_cpy (fun j => Int32.ofInt (f j)) (fun j => Int32.ofInt (mI M y j)) 0 d N))) := by rw [← hH1]; simp [Array.getElem?_setIfInBounds, hl]
  obtain ⟨t, a1, b1⟩ := kk H1 _ (hW.set hy ⟨fun z => absurd z (by decide), fun _ => by
      rw [eq1]
      show some (arrV (G.2 22) ny (fun j => .int (va_cpy (fun j => Int32.ofInt (f j)) (fun j => Int32.ofInt (mI M y j)) 0 d N j))) = _
      congr 2
      funext j
      rw [tm_V0 rfl]
      show _ = ji (if y = y ∧ d ≤ j ∧ j < d + N then f (j - d) else mI M y j)
      unfold va_cpy
      by_cases q : d ≤ j ∧ j < d + N
      · rw [if_pos q, if_pos ⟨rfl, q⟩, show 0 + (j - d) = j - d by omega]
      · rw [if_neg q, if_neg (fun z => q z.2)]⟩ oq (fun kd q j hne => by
      have e : mI (cpM M y d N f) q j = mI M q j := if_neg (fun z => hne z.1)
      simp only [tm_V]
      split
      · rw [e]
      · rfl
      · rfl)) ⟨by rw [← hH1]; simp; exact hS.1, fun q g1 g2 => by
      rw [oq q (fun e => g2 (by rw [e]; exact (hW.1 y _ _ hy).1))]
      exact hS.2.1 q g1 g2, fun q hq => by
      rcases List.mem_append.mp hq with h | h
      · exact hS.2.2 q h
      · obtain ⟨z, -, hz⟩ := List.mem_map.mp h
        rw [← hz]
        exact (hW.1 y _ _ hy).1⟩ _ hheap X'
  exact ⟨t, step t a1, b1⟩
end TKC
