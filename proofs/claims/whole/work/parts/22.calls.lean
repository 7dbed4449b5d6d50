/-! contracts over my memory: one list of words for all methods; a method's begin, its ends, its calls -/
def tw : List Cond := lw_tbl.filter goodWord
abbrev tws (y : MethodName) (b : ByteArray) (n : Nat) (r : Option FieldType) : List Cond := Cond.code y b n r :: tw
theorem tw_in {w : Cond} (i : Nat) (h : tables_1[i]? = some w) (hg : goodWord w = true) : w ∈ tw := List.mem_filter.mpr ⟨List.mem_append_right _ (List.mem_of_getElem? h), hg⟩
theorem tw_pv {w : Cond} (i : Nat) (h : (k2_sels lw_privs)[i]? = some w) (hg : goodWord w = true) : w ∈ tw := List.mem_filter.mpr ⟨List.mem_append_left _ (List.mem_of_getElem? h), hg⟩
theorem tw_gd {w : Cond} (h : w ∈ tw) : w ∈ tw ∧ ((w.onTables && w.keeps) = true ∨ ∃ ty, w = .arrayClass ty) := ⟨h, good_of_word (List.mem_filter.mp h).2⟩
theorem tw_cs {y : MethodName} {b : ByteArray} {n : Nat} {r : Option FieldType} (h : Cond.code y b n r ∈ tw) : ∀ w ∈ tws y b n r, w ∈ tw := fun w hw => by
  rcases List.mem_cons.mp hw with e | e
  · rw [e]; exact h
  · exact e
theorem tw_V {own C : String} {idx : Nat} {y : MethodName} {b : ByteArray} {n : Nat} {r : Option FieldType} (h1 : Cond.methodLink own idx y ∈ tw) (h2 : Cond.instanceMethod y ∈ tw) (h3 : Cond.selects C y y ∈ tw) (h4 : Cond.initialized C ∈ tw) (h5 : Cond.code y b n r ∈ tw) : GoodIn tw (wsV own idx C y (tws y b n r)) := fun w hw => by
  refine tw_gd ?_
  unfold wsV at hw
  rcases List.mem_append.mp hw with e | e
  · simp only [List.mem_cons, List.not_mem_nil, or_false] at e
    rcases e with e | e | e | e <;> rw [e] <;> assumption
  · exact tw_cs h5 w e
theorem tw_C {y : MethodName} {b : ByteArray} {n : Nat} {r : Option FieldType} (h5 : Cond.code y b n r ∈ tw) : GoodIn tw (tws y b n r) := fun w hw => tw_gd (tw_cs h5 w hw)
def tm_St (G : tm_G) (Hb : Heap) (sh : tm_sh) (M : tm_M) (U : State) : Prop := va_K G.1 vwCl (tm_tys G) U ∧ tm_W G Hb sh M U.heap
theorem tm_blind {G : tm_G} {Hb : Heap} {sh : tm_sh} {M : tm_M} {av : List Value} : FrameBlind (va_Pc av (tm_St G Hb sh M)) := fun a U g mk q => ⟨q.1, va_K.moved (u := U) (U := U.calling g mk a) (Vm.Alike.refl U.vm) q.2.1, q.2.2⟩
/-- what comes back: nothing, an int, a long, a reference; the memory behind it -/
abbrev tm_Qv (G : tm_G) (Hb : Heap) (sh : tm_sh) (P : tm_M → Prop) : Array Value → State → Outcome → State → Prop := va_Qv P (fun M t => tm_St G Hb sh M t) (tm_A Hb)
abbrev tm_Qi (G : tm_G) (Hb : Heap) (sh : tm_sh) (P : Int → tm_M → Prop) : Array Value → State → Outcome → State → Prop := va_Qi (fun r M => ∃ x : Int, r = Int32.ofInt x ∧ P x M) (fun M t => tm_St G Hb sh M t) (tm_A Hb)
abbrev tm_Ql (G : tm_G) (Hb : Heap) (sh : tm_sh) (P : Int → tm_M → Prop) : Array Value → State → Outcome → State → Prop := va_Ql (fun r M => ∃ x : Int, r = Int64.ofInt x ∧ P x M) (fun M t => tm_St G Hb sh M t) (tm_A Hb)
abbrev tm_Qa (G : tm_G) (Hb : Heap) (sh : tm_sh) (P : Nat → tm_M → Prop) : Array Value → State → Outcome → State → Prop := va_Qr (S := Nat × tm_M) (fun u => P u.1 u.2) (fun u a t => a = u.1 ∧ tm_St G Hb sh u.2 t) (tm_A Hb)
/-- a method's begin -/
theorem tm_begin {l : Launch} {y : MethodName} {cc : ByteArray} {maxL : Nat} {ret : Option FieldType} {rm : Room} {av : List Value} {G : tm_G} {Hb : Heap} {sh : tm_sh} {M : tm_M} {Qc : Array Value → State → Outcome → State → Prop} {mc ms : Nat} {free : Addr → Prop} (hy : plainName y.cls = true) (hlen : (lg_sl av).length ≤ maxL)
    (body : ∀ (p : Program) (e : Env) (s : State) (m : MethodId) (below : List Frame) (meth : Method) (c : Code) (ls : Array Slot), p.tables.exec = Jvm.exec → c.code = cc → meth.sig.returnType = ret → c.maxLocals = maxL → s.vm.findClass y.cls = some m.cls → (∀ w ∈ tw, w.before av.toArray s = true) → meth.locks = false → meth.name = y.name → va_K G.1 vwCl (tm_tys G) s → tm_W G Hb sh M s.heap → lv_has ls maxL (lv_args 0 av) →
      W p l e rm s m av.toArray below meth c s.heap [] 0 0 (MQ below Qc av.toArray s mc ms free) (F0 m 0 ls [])) : Met l y (tws y cc maxL ret) rm (va_Pc av (tm_St G Hb sh M)) Qc mc ms free := by
  refine Met.ofW (cc := cc) (maxL := maxL) (ret := ret) hy rfl ?_
  intro p e s m args below meth c s₁ B hml hv
  obtain ⟨rfl, hK, hW⟩ := hv
  have hts := atoms_spec (ws := tws y cc maxL ret) B.pre
  have hl := lv_entry av (n := maxL) hlen
  rw [lg_entry_eq]
  exact body p e s m below meth c _ B.exec B.bytes B.returns hml (findClass_of_methodNamed B.named) (fun w hw => hts w (List.mem_cons_of_mem _ hw)) B.notSynchronized (name_of_methodNamed B.named B.method).1 hK hW hl
section TMC
variable {p : Program} {l : Launch} {e : Env} {R : Room} {s : State} {m : MethodId} {args : Array Value} {below : List Frame} {meth : Method} {c : Code} {H : Heap} {locs : List Loc} {cells slots : Nat} {Q : State → Prop}
variable {cc : ByteArray} {pc : Nat} {ls : Array Slot} {rest st0 : List Value} {G : tm_G} {Hb H0 : Heap} {sh : tm_sh} {M : tm_M} {b kd n0 : Nat} {tys : List (ClassId × FieldType)} {mc ms : Nat} {a : Array Value}
theorem tm_vret (hexec : p.tables.exec = Jvm.exec) (hb : c.code = cc) (hr : meth.sig.returnType = none) (hlocks : meth.locks = false) {P : tm_M → Prop} (hK : va_K G.1 vwCl (tm_tys G) s) (hW : tm_W G Hb sh M H) (hS : va_S (tm_A Hb) s.heap H locs) (hP : P M) (hdg : decode cc pc = .ok (.return_, 1)) : W p l e R s m args below meth c H locs cells slots (MQ below (tm_Qv G Hb sh P) args s cells slots (tm_A Hb)) (F0 m pc ls []) :=
  W.vret hexec hb hr (fun t ht hw => ⟨⟨M, rfl, hP, va_K.moved hw.alike hK, by rw [ht]; exact hW⟩, hS.F ht⟩) hS.2.2 hdg hlocks
theorem tm_iret (hexec : p.tables.exec = Jvm.exec) (hb : c.code = cc) (hr : meth.sig.returnType = some .int) (hlocks : meth.locks = false) {x : Int} {P : Int → tm_M → Prop} (hK : va_K G.1 vwCl (tm_tys G) s) (hW : tm_W G Hb sh M H) (hS : va_S (tm_A Hb) s.heap H locs) (hP : P x M) (hdg : decode cc pc = .ok (.ireturn, 1)) : W p l e R s m args below meth c H locs cells slots (MQ below (tm_Qi G Hb sh P) args s cells slots (tm_A Hb)) (F0 m pc ls [ji x]) :=
  W.iret hexec hb hr (fun t ht hw => ⟨⟨_, M, rfl, ⟨x, rfl, hP⟩, va_K.moved hw.alike hK, by rw [ht]; exact hW⟩, hS.F ht⟩) hS.2.2 hdg hlocks
theorem tm_zret (hexec : p.tables.exec = Jvm.exec) (hb : c.code = cc) (hr : meth.sig.returnType = some .boolean) (hlocks : meth.locks = false) {x : Int} (hx : x = 0 ∨ x = 1) {P : Int → tm_M → Prop} (hK : va_K G.1 vwCl (tm_tys G) s) (hW : tm_W G Hb sh M H) (hS : va_S (tm_A Hb) s.heap H locs) (hP : P x M) (hdg : decode cc pc = .ok (.ireturn, 1)) : W p l e R s m args below meth c H locs cells slots (MQ below (tm_Qi G Hb sh P) args s cells slots (tm_A Hb)) (F0 m pc ls [ji x]) :=
  W.zret hexec hb hr (tm_nz hx) (fun t ht hw => ⟨⟨_, M, rfl, ⟨x, rfl, hP⟩, va_K.moved hw.alike hK, by rw [ht]; exact hW⟩, hS.F ht⟩) hS.2.2 hdg hlocks
theorem tm_lret (hexec : p.tables.exec = Jvm.exec) (hb : c.code = cc) (hr : meth.sig.returnType = some .long) (hlocks : meth.locks = false) {x : Int} {P : Int → tm_M → Prop} (hK : va_K G.1 vwCl (tm_tys G) s) (hW : tm_W G Hb sh M H) (hS : va_S (tm_A Hb) s.heap H locs) (hP : P x M) (hdg : decode cc pc = .ok (.lreturn, 1)) : W p l e R s m args below meth c H locs cells slots (MQ below (tm_Ql G Hb sh P) args s cells slots (tm_A Hb)) (F0 m pc ls [jl x]) :=
  W.lret hexec hb hr (fun t ht hw => ⟨⟨_, M, rfl, ⟨x, rfl, hP⟩, va_K.moved hw.alike hK, by rw [ht]; exact hW⟩, hS.F ht⟩) hS.2.2 hdg hlocks
theorem tm_aret (hexec : p.tables.exec = Jvm.exec) (hb : c.code = cc) {nm : String} (hr : meth.sig.returnType = some (.object nm)) (hlocks : meth.locks = false) {x : Nat} {P : Nat → tm_M → Prop} (hK : va_K G.1 vwCl (tm_tys G) s) (hW : tm_W G Hb sh M H) (hS : va_S (tm_A Hb) s.heap H locs) (hP : P x M) (hdg : decode cc pc = .ok (.areturn, 1)) : W p l e R s m args below meth c H locs cells slots (MQ below (tm_Qa G Hb sh P) args s cells slots (tm_A Hb)) (F0 m pc ls [.ref x]) :=
  W.aret hexec hb hr (Or.inl ⟨nm, rfl⟩) (Or.inr ⟨x, rfl⟩) (fun t ht hw => ⟨⟨(x, M), x, rfl, hP, rfl, va_K.moved hw.alike hK, by rw [ht]; exact hW⟩, hS.F ht⟩) hS.2.2 hdg hlocks
/-- the receiver and the world, as a call wants them -/
theorem tm_preV {C : String} {T : u_T} {N : Nat} {As : List Value} (hK : va_K G.1 vwCl (tm_tys G) s) (hW : tm_W G Hb sh M H) (hq : sh b = some (kd, n0)) (hkd : kd < 20) (hc : vwCl[kd]? = some (C, T, N)) : PreV s H C b (va_Pc (.ref b :: As) (tm_St G Hb sh M)) As := by
  refine ⟨tm_blind, ?_, fun U hU hw => ⟨rfl, va_K.moved hw.alike hK, by rw [hU]; exact hW⟩⟩
  obtain ⟨r, h1, cell, q1, q2, q3, q4⟩ := (hW.1 b kd n0 hq).2.1 hkd
  exact ⟨cell, q1, by rw [q3]; rfl, by rw [q2]; exact (hK.1 kd _ hc).2.1⟩
theorem tm_preS {As : List Value} (hK : va_K G.1 vwCl (tm_tys G) s) (hW : tm_W G Hb sh M H) : PreS s H (va_Pc As (tm_St G Hb sh M)) As := ⟨tm_blind, fun U hU hw => ⟨rfl, va_K.moved hw.alike hK, by rw [hU]; exact hW⟩⟩
theorem tm_runV {own C : String} {T : u_T} {N index : Nat} {y : MethodName} {bytes : ByteArray} {maxL nL n : Nat} {ret : Option FieldType} {rm : Room} {Qc : Array Value → State → Outcome → State → Prop} {As : List Value} (hexec : p.tables.exec = Jvm.exec) (hb : c.code = cc) (hml : c.maxLocals = nL) (hown : s.vm.findClass own = some m.cls) (htw : ∀ w ∈ tw, w.before args s = true) (hK : va_K G.1 vwCl (tm_tys G) s) (hW : tm_W G Hb sh M H) (hq : sh b = some (kd, n0)) (hkd : kd < 20) (hc : vwCl[kd]? = some (C, T, N))
    (h1 : Cond.methodLink own index y ∈ tw) (h2 : Cond.instanceMethod y ∈ tw) (h3 : Cond.selects C y y ∈ tw) (h4 : Cond.initialized C ∈ tw) (h5 : Cond.code y bytes maxL ret ∈ tw) (hd : y.cls = C ∧ y.cls ≠ "java/lang/invoke/MethodHandle" ∧ y.cls ≠ "java/lang/invoke/VarHandle" ∧ (parseMethodDescriptor y.desc).map (fun d => d.parameters.length) = some n)
    (hM : Met l y (tws y bytes maxL ret) rm (va_Pc (.ref b :: As) (tm_St G Hb sh M)) Qc mc ms (tm_A Hb)) (hrm : rm.cells = mc ∧ rm.slots = ms ∧ rm.frames + 1 ≤ R.frames ∧ 8 + (maxL + 11) + rm.locals ≤ R.locals) (hn : As.length = n) (hsize : ls.size = nL) (hst : st0 = As.reverse ++ .ref b :: rest) (hrest : (rest.map fun v => v.category).sum ≤ 8) (hdg : decode cc pc = .ok (.invokevirtual index, 3)) (hf : cells + mc ≤ R.cells ∧ slots + ms ≤ R.slots) :
    va_Run p l e R s m args below meth c H locs cells slots mc ms (F0 m pc ls st0) rest (Qc (Value.ref b :: As).toArray) (tm_A Hb) :=
  va_runV ⟨hexec, hb, hml, hown, htw⟩ hM (cwV n htw (tw_V h1 h2 h3 h4 h5) rfl hrm.1 hrm.2.1 hd hrm.2.2) (tm_preV hK hW hq hkd hc) rfl hn hsize hst (lv_room hrest) hdg hf
theorem tm_runS {own : String} {index : Nat} {y : MethodName} {bytes : ByteArray} {maxL nL n : Nat} {ret : Option FieldType} {rm : Room} {Qc : Array Value → State → Outcome → State → Prop} {As : List Value} (hexec : p.tables.exec = Jvm.exec) (hb : c.code = cc) (hml : c.maxLocals = nL) (hown : s.vm.findClass own = some m.cls) (htw : ∀ w ∈ tw, w.before args s = true) (hK : va_K G.1 vwCl (tm_tys G) s) (hW : tm_W G Hb sh M H)
    (h1 : Cond.methodLink own index y ∈ tw) (h2 : Cond.static y ∈ tw) (h4 : Cond.initialized y.cls ∈ tw) (h5 : Cond.code y bytes maxL ret ∈ tw) (hd : y.cls ≠ "java/lang/invoke/MethodHandle" ∧ y.cls ≠ "java/lang/invoke/VarHandle" ∧ (parseMethodDescriptor y.desc).map (fun d => d.parameters.length) = some n)
    (hM : Met l y (tws y bytes maxL ret) rm (va_Pc As (tm_St G Hb sh M)) Qc mc ms (tm_A Hb)) (hrm : rm.cells = mc ∧ rm.slots = ms ∧ rm.frames + 1 ≤ R.frames ∧ 8 + (maxL + 11) + rm.locals ≤ R.locals) (hn : As.length = n) (hsize : ls.size = nL) (hst : st0 = As.reverse ++ rest) (hrest : (rest.map fun v => v.category).sum ≤ 8) (hdg : decode cc pc = .ok (.invokestatic index, 3)) (hf : cells + mc ≤ R.cells ∧ slots + ms ≤ R.slots) :
    va_Run p l e R s m args below meth c H locs cells slots mc ms (F0 m pc ls st0) rest (Qc As.toArray) (tm_A Hb) :=
  va_runS ⟨hexec, hb, hml, hown, htw⟩ hM ⟨callB_of n htw (tw_C h5) rfl hrm.1 hrm.2.1 (htw _ h4) (htw _ h1) hd hrm.2.2, htw _ h2⟩ (tm_preS hK hW) rfl hn hsize hst (lv_room hrest) hdg hf
theorem tm_callv {P : tm_M → Prop} (hr : va_Run p l e R s m args below meth c H locs cells slots mc ms (F0 m pc ls st0) rest (tm_Qv G Hb sh P a) (tm_A Hb)) (hS : va_S (tm_A Hb) H0 H locs)
    (kk : ∀ (M1 : tm_M) (H1 : Heap) (locs1 : List Loc), P M1 → tm_W G Hb sh M1 H1 → va_S (tm_A Hb) H0 H1 locs1 → W p l e R s m args below meth c H1 locs1 (cells + mc) (slots + ms) Q (F0 m (pc + 3) ls rest)) : W p l e R s m args below meth c H locs cells slots Q (F0 m pc ls st0) :=
  va_callv hr hS (fun _ _ h => h) (fun _ h => h) (fun u t H1 locs1 ht hvm hp hB hz hk hS1 => kk u H1 locs1 hp (by rw [← ht]; exact hB.2) hS1)
theorem tm_calli {P : Int → tm_M → Prop} (hr : va_Run p l e R s m args below meth c H locs cells slots mc ms (F0 m pc ls st0) rest (tm_Qi G Hb sh P a) (tm_A Hb)) (hS : va_S (tm_A Hb) H0 H locs)
    (kk : ∀ (x : Int) (M1 : tm_M) (H1 : Heap) (locs1 : List Loc), P x M1 → tm_W G Hb sh M1 H1 → va_S (tm_A Hb) H0 H1 locs1 → W p l e R s m args below meth c H1 locs1 (cells + mc) (slots + ms) Q (F0 m (pc + 3) ls (ji x :: rest))) : W p l e R s m args below meth c H locs cells slots Q (F0 m pc ls st0) :=
  va_calli hr hS (fun _ _ h => h) (fun _ h => h) (fun r u t H1 locs1 ht hvm hp hB hz hk hS1 => by
    obtain ⟨x, rfl, hp⟩ := hp
    exact kk x u H1 locs1 hp (by rw [← ht]; exact hB.2) hS1)
theorem tm_calll {P : Int → tm_M → Prop} (hr : va_Run p l e R s m args below meth c H locs cells slots mc ms (F0 m pc ls st0) rest (tm_Ql G Hb sh P a) (tm_A Hb)) (hS : va_S (tm_A Hb) H0 H locs)
    (kk : ∀ (x : Int) (M1 : tm_M) (H1 : Heap) (locs1 : List Loc), P x M1 → tm_W G Hb sh M1 H1 → va_S (tm_A Hb) H0 H1 locs1 → W p l e R s m args below meth c H1 locs1 (cells + mc) (slots + ms) Q (F0 m (pc + 3) ls (jl x :: rest))) : W p l e R s m args below meth c H locs cells slots Q (F0 m pc ls st0) :=
  va_calll hr hS (fun _ _ h => h) (fun _ h => h) (fun r u t H1 locs1 ht hvm hp hB hz hk hS1 => by
    obtain ⟨x, rfl, hp⟩ := hp
    exact kk x u H1 locs1 hp (by rw [← ht]; exact hB.2) hS1)
theorem tm_calla {P : Nat → tm_M → Prop} (hr : va_Run p l e R s m args below meth c H locs cells slots mc ms (F0 m pc ls st0) rest (tm_Qa G Hb sh P a) (tm_A Hb)) (hS : va_S (tm_A Hb) H0 H locs)
    (kk : ∀ (x : Nat) (M1 : tm_M) (H1 : Heap) (locs1 : List Loc), P x M1 → tm_W G Hb sh M1 H1 → va_S (tm_A Hb) H0 H1 locs1 → W p l e R s m args below meth c H1 locs1 (cells + mc) (slots + ms) Q (F0 m (pc + 3) ls (.ref x :: rest))) : W p l e R s m args below meth c H locs cells slots Q (F0 m pc ls st0) :=
  va_callr hr hS (fun _ _ h => h) (fun _ h => h) (fun u ra t H1 locs1 ht hvm hp hB hz hk hS1 => by
    obtain ⟨rfl, hB⟩ := hB
    exact kk u.1 u.2 H1 locs1 hp (by rw [← ht]; exact hB.2) hS1)
end TMC
