/-! methods that may throw: their begin, throws, calls, ends over my memory (by program: wip/whole/gen/throws.py) -/
abbrev tx_nm : List String := ["java/lang/RuntimeException", "java/lang/Exception"]
def tx_cl : List Cond := [.declares ⟨"java/lang/RuntimeException", "<init>", "()V"⟩, .declares ⟨"java/lang/Exception", "<init>", "()V"⟩, .declares ⟨"java/lang/Throwable", "<init>", "()V"⟩, .castable "java/lang/IllegalArgumentException" "java/lang/IllegalArgumentException", .castable "java/lang/IllegalStateException" "java/lang/IllegalStateException"]
theorem tx_aIA : ((vx_at0 RX8 166 "java/lang/IllegalArgumentException" tx_nm).all (fun w => (decide (w ∈ tables_1) && goodWord w) || decide (w ∈ tx_cl))) = true := by decide +kernel
theorem tx_aIS : ((vx_at0 RX8 113 "java/lang/IllegalStateException" tx_nm).all (fun w => (decide (w ∈ tables_1) && goodWord w) || decide (w ∈ tx_cl))) = true := by decide +kernel
theorem tx_at {L : List Cond} (h : (L.all (fun w => (decide (w ∈ tables_1) && goodWord w) || decide (w ∈ tx_cl))) = true) : ∀ w ∈ L, w ∈ tw ∨ w ∈ tx_cl := fun w hw => by
  have h1 := List.all_eq_true.mp h w hw
  simp only [Bool.or_eq_true, Bool.and_eq_true, decide_eq_true_eq] at h1
  rcases h1 with h1 | h1
  · exact Or.inl (List.mem_filter.mpr ⟨List.mem_append_right _ h1.1, h1.2⟩)
  · exact Or.inr h1
theorem tx_gIA : ((Cond.classLink RX8 164 "java/lang/IllegalArgumentException" :: Cond.initialized "java/lang/IllegalArgumentException" :: vx_at0 RX8 166 "java/lang/IllegalArgumentException" tx_nm).all vx_ot) = true := by decide +kernel
theorem tx_gIS : ((Cond.classLink RX8 111 "java/lang/IllegalStateException" :: Cond.initialized "java/lang/IllegalStateException" :: vx_at0 RX8 113 "java/lang/IllegalStateException" tx_nm).all vx_ot) = true := by decide +kernel
theorem kl_IA : Cond.classLink RX8 164 "java/lang/IllegalArgumentException" ∈ tw := tw_in 321 (by decide +kernel) rfl
theorem kl_IS : Cond.classLink RX8 111 "java/lang/IllegalStateException" ∈ tw := tw_in 536 (by decide +kernel) rfl
theorem in_IA : Cond.initialized "java/lang/IllegalArgumentException" ∈ tw := tw_in 16 (by decide +kernel) rfl
theorem in_IS : Cond.initialized "java/lang/IllegalStateException" ∈ tw := tw_in 18 (by decide +kernel) rfl
def tl_sf (j : Nat) : Int := if j = 0 then 0 else if j = 1 then -1 else 1
/-- what was there before the law began and stays: the statics that a throw reads, the witness shifts -/
def tm_Bs (Hb : Heap) (U : State) : Prop := vx_Zq Bundle.tN "UNASSIGNED_STACK" Bundle.steD (tm_A Hb) U U.heap ∧ vx_Zq Bundle.tN "SUPPRESSED_SENTINEL" Bundle.listD (tm_A Hb) U U.heap ∧ (∀ w ∈ tx_cl, va_Nw w U) ∧ ∃ w, va_Z "TutorLines" "WITNESS_SHIFTS" "[I" (.ref w) (tm_A Hb) U U.heap ∧ va_T .int w 3 (fun j => ji (tl_sf j)) (tm_A Hb) U U.heap
theorem tx_warm {w : Cond} {s U : State} (hw : w ∈ tx_cl) (hW : s.WarmedH U.vm) (h : va_Nw w s) : va_Nw w U := by
  unfold tx_cl at hw
  simp only [List.mem_cons, List.not_mem_nil, or_false] at hw
  rcases hw with rfl | rfl | rfl | rfl | rfl
  · exact va_Nw.warmD hW h
  · exact va_Nw.warmD hW h
  · exact va_Nw.warmD hW h
  · exact va_Nw.warmC hW h
  · exact va_Nw.warmC hW h
theorem tm_Bs.to {Hb : Heap} {s U : State} {H : Heap} {locs : List Loc} (h : tm_Bs Hb s) (hS : va_S (tm_A Hb) s.heap H locs) (hU : U.heap = H) (hW : s.WarmedH U.vm) : tm_Bs Hb U := by
  obtain ⟨h1, h2, h3, w, h4, h5⟩ := h
  subst hU
  exact ⟨vx_Zq.moved hW.alike (h1.kept hS.2.1), vx_Zq.moved hW.alike (h2.kept hS.2.1), fun w hw => tx_warm hw hW (h3 w hw), w, va_Z.moved hW.alike (h4.kept hS.2.1), va_T.moved hW.alike (h5.kept hS.2.1)⟩
theorem tm_Bs.call {Hb : Heap} {U : State} {g : JFrame} {mk : MethodId} {a : Array Value} (h : tm_Bs Hb U) : tm_Bs Hb (U.calling g mk a) :=
  tm_Bs.to (locs := []) h va_S.rf rfl (State.WarmedH.refl U)
def tx_St (G : tm_G) (Hb : Heap) (sh : tm_sh) (M : tm_M) (U : State) : Prop := tm_St G Hb sh M U ∧ tm_Bs Hb U
theorem tx_blind {G : tm_G} {Hb : Heap} {sh : tm_sh} {M : tm_M} {av : List Value} : FrameBlind (va_Pc av (tx_St G Hb sh M)) := fun a U g mk q => ⟨q.1, ⟨va_K.moved (u := U) (U := U.calling g mk a) (Vm.Alike.refl U.vm) q.2.1.1, q.2.1.2⟩, q.2.2.call⟩
def tx_X (G : tm_G) (Hb : Heap) (sh : tm_sh) (P : String → tm_M → Prop) : String → State → State → Prop := vx_X (S := tm_M) (fun _ => True) (fun E u t => P E u ∧ tm_St G Hb sh u t) (tm_A Hb)
theorem tm_W.ext {G : tm_G} {Hb : Heap} {sh : tm_sh} {M : tm_M} {H H1 : Heap} (h : tm_W G Hb sh M H) (hq : ∀ q : Nat, q < H.size → H1[q]? = H[q]?) : tm_W G Hb sh M H1 := by
  refine ⟨fun q kd n hs => ⟨(h.1 q kd n hs).1, (h.1 q kd n hs).2.kept (hq q (h.1 q kd n hs).2.lt)⟩, fun q hb => ?_⟩
  have h2 := h.2 q hb
  have h3 : q < H.size := by
    rw [Array.getElem?_eq_getElem hb] at h2
    exact (Array.getElem?_eq_some_iff.mp h2).1
  rw [hq q h3]
  exact h2
theorem tx_begin {l : Launch} {y : MethodName} {cc : ByteArray} {maxL : Nat} {ret : Option FieldType} {rm : Room} {av : List Value} {G : tm_G} {Hb : Heap} {sh : tm_sh} {M : tm_M} {Qc : Array Value → State → Outcome → State → Prop} {XC : String → State → State → Prop} {mc ms : Nat} {free : Addr → Prop} (hy : plainName y.cls = true) (hlen : (lg_sl av).length ≤ maxL)
    (body : ∀ (p : Program) (e : Env) (s : State) (m : MethodId) (below : List Frame) (meth : Method) (c : Code) (ls : Array Slot), p.tables.exec = Jvm.exec → c.code = cc → meth.sig.returnType = ret → c.maxLocals = maxL → s.vm.findClass y.cls = some m.cls → (∀ w ∈ tw, w.before av.toArray s = true) → meth.locks = false → (∀ x ∈ c.exceptionTable.toList, False) → va_K G.1 vwCl (tm_tys G) s → tm_W G Hb sh M s.heap → tm_Bs Hb s → lv_has ls maxL (lv_args 0 av) →
      W p l e rm s m av.toArray below meth c s.heap [] 0 0 (vx_MQ below Qc XC av.toArray s mc ms free) (F0 m 0 ls [])) : vx_Met l y (tws y cc maxL ret) rm (va_Pc av (tx_St G Hb sh M)) Qc XC mc ms free := by
  refine vx_ofW (cc := cc) (maxL := maxL) (ret := ret) hy rfl ?_
  intro p e s m args below meth c s₁ B hml htab hv
  obtain ⟨rfl, ⟨hK, hW⟩, hB⟩ := hv
  have hts := atoms_spec (ws := tws y cc maxL ret) B.pre
  have hl := lv_entry av (n := maxL) hlen
  rw [lg_entry_eq]
  exact body p e s m below meth c _ B.exec B.bytes B.returns hml (findClass_of_methodNamed B.named) (fun w hw => hts w (List.mem_cons_of_mem _ hw)) B.notSynchronized htab hK hW hB hl
section TXR
variable {p : Program} {l : Launch} {e : Env} {R : Room} {s : State} {m : MethodId} {args : Array Value} {below : List Frame} {meth : Method} {c : Code} {H : Heap} {locs : List Loc} {cells slots : Nat} {Q : State → Prop}
variable {cc : ByteArray} {pc nL : Nat} {ls : Array Slot} {rest st0 : List Value} {G : tm_G} {Hb H0 : Heap} {sh : tm_sh} {M : tm_M} {b kd n0 : Nat} {mc ms : Nat} {a : Array Value} {Qc : Array Value → State → Outcome → State → Prop} {PX : String → tm_M → Prop}
theorem tx_throw (hexec : p.tables.exec = Jvm.exec) (hb : c.code = cc) (hl : l.stackTraces = false) (hml : c.maxLocals = nL) (hls : ls.size = nL) (hown : s.vm.findClass RX8 = some m.cls) (htw : ∀ w ∈ tw, w.before args s = true) (hlk : meth.locks = false) (htab : ∀ x ∈ c.exceptionTable.toList, False) (hK : va_K G.1 vwCl (tm_tys G) s) (hW : tm_W G Hb sh M H) (hB : tm_Bs Hb s) (hS : va_S (tm_A Hb) s.heap H locs) {cls : String} {ik ic : Nat} (hcls : Bundle.fit cls = true) (h1 : Cond.classLink RX8 ik cls ∈ tw) (h2 : Cond.initialized cls ∈ tw) (h3 : ∀ w ∈ vx_at0 RX8 ic cls tx_nm, w ∈ tw ∨ w ∈ tx_cl) (h4 : ((Cond.classLink RX8 ik cls :: Cond.initialized cls :: vx_at0 RX8 ic cls tx_nm).all vx_ot) = true)
    (d0 : decode cc pc = .ok (.new ik, 3)) (d3 : decode cc (pc + 3) = .ok (.dup, 1)) (d4 : decode cc (pc + 4) = .ok (.invokespecial ic, 3)) (d7 : decode cc (pc + 7) = .ok (.athrow, 1)) (hR : 6 ≤ R.frames ∧ 81 ≤ R.locals ∧ cells + 1 ≤ R.cells ∧ slots + 6 ≤ R.slots) (hc : cells + 1 ≤ mc ∧ slots + 6 ≤ ms) (hP : PX cls M) :
    W p l e R s m args below meth c H locs cells slots (vx_MQ below Qc (tx_X G Hb sh PX) args s mc ms (tm_A Hb)) (F0 m pc ls []) := by
  refine vx_throw0 (own := RX8) (cls := cls) (names := tx_nm) (A := tm_A Hb) hexec hb hl hown hcls (by decide) (htw _ h1) (htw _ h2) (fun w hw => ?_) (fun w hw => List.all_eq_true.mp h4 w hw) hB.1 hB.2.1 hS (hls.trans hml.symm) d0 d3 d4 d7 (fun x hx => (htab x hx).elim) hR.1 (by show 0 + (13 * (2 + 1) + 42) ≤ _; have := hR.2.1; omega) hR.2.2.1 hR.2.2.2 hlk (fun t ha hz hq => ?_) hS.2.2 hc.1 hc.2
  · rcases h3 w hw with h | h
    · exact htw w h
    · refine va_Nw.use ?_ (hB.2.2.1 w h)
      unfold tx_cl at h
      simp only [List.mem_cons, List.not_mem_nil, or_false] at h
      rcases h with rfl | rfl | rfl | rfl | rfl <;> rfl
  · exact ⟨M, trivial, ⟨hP, va_K.moved ha hK, hW.ext hq⟩, Nat.le_trans hS.1 hz, fun q h5 h6 => by rw [hq q (Nat.lt_of_lt_of_le h5 hS.1)]; exact hS.2.1 q h5 h6⟩
theorem tx_preV {C : String} {T : u_T} {N : Nat} {As : List Value} (hK : va_K G.1 vwCl (tm_tys G) s) (hW : tm_W G Hb sh M H) (hB : tm_Bs Hb s) (hS : va_S (tm_A Hb) s.heap H locs) (hq : sh b = some (kd, n0)) (hkd : kd < 20) (hc : vwCl[kd]? = some (C, T, N)) : PreV s H C b (va_Pc (.ref b :: As) (tx_St G Hb sh M)) As := by
  refine ⟨tx_blind, ?_, fun U hU hw => ⟨rfl, ⟨va_K.moved hw.alike hK, by rw [hU]; exact hW⟩, hB.to hS hU hw⟩⟩
  obtain ⟨r, h1, cell, q1, q2, q3, q4⟩ := (hW.1 b kd n0 hq).2.1 hkd
  exact ⟨cell, q1, by rw [q3]; rfl, by rw [q2]; exact (hK.1 kd _ hc).2.1⟩
theorem tx_preS {As : List Value} (hK : va_K G.1 vwCl (tm_tys G) s) (hW : tm_W G Hb sh M H) (hB : tm_Bs Hb s) (hS : va_S (tm_A Hb) s.heap H locs) : PreS s H (va_Pc As (tx_St G Hb sh M)) As := ⟨tx_blind, fun U hU hw => ⟨rfl, ⟨va_K.moved hw.alike hK, by rw [hU]; exact hW⟩, hB.to hS hU hw⟩⟩
theorem tx_runV {own C : String} {T : u_T} {N index : Nat} {y : MethodName} {bytes : ByteArray} {maxL n : Nat} {ret : Option FieldType} {rm : Room} {XC : String → State → State → Prop} {As : List Value} (hexec : p.tables.exec = Jvm.exec) (hb : c.code = cc) (hml : c.maxLocals = nL) (hown : s.vm.findClass own = some m.cls) (htw : ∀ w ∈ tw, w.before args s = true) (hK : va_K G.1 vwCl (tm_tys G) s) (hW : tm_W G Hb sh M H) (hB : tm_Bs Hb s) (hS : va_S (tm_A Hb) s.heap H locs) (hq : sh b = some (kd, n0)) (hkd : kd < 20) (hc : vwCl[kd]? = some (C, T, N))
    (h1 : Cond.methodLink own index y ∈ tw) (h2 : Cond.instanceMethod y ∈ tw) (h3 : Cond.selects C y y ∈ tw) (h4 : Cond.initialized C ∈ tw) (h5 : Cond.code y bytes maxL ret ∈ tw) (hd : y.cls = C ∧ y.cls ≠ "java/lang/invoke/MethodHandle" ∧ y.cls ≠ "java/lang/invoke/VarHandle" ∧ (parseMethodDescriptor y.desc).map (fun d => d.parameters.length) = some n)
    (hM : vx_Met l y (tws y bytes maxL ret) rm (va_Pc (.ref b :: As) (tx_St G Hb sh M)) Qc XC mc ms (tm_A Hb)) (hrm : rm.cells = mc ∧ rm.slots = ms ∧ rm.frames + 1 ≤ R.frames ∧ 8 + (maxL + 11) + rm.locals ≤ R.locals) (hn : As.length = n) (hsize : ls.size = nL) (hst : st0 = As.reverse ++ .ref b :: rest) (hrest : (rest.map fun v => v.category).sum ≤ 8) (hdg : decode cc pc = .ok (.invokevirtual index, 3)) (hf : cells + mc ≤ R.cells ∧ slots + ms ≤ R.slots) :
    vx_Run p l e R s m args below meth c H locs cells slots mc ms (F0 m pc ls st0) rest (Qc (Value.ref b :: As).toArray) XC (tm_A Hb) :=
  vx_runV ⟨hexec, hb, hml, hown, htw⟩ hM (cwV n htw (tw_V h1 h2 h3 h4 h5) rfl hrm.1 hrm.2.1 hd hrm.2.2) (tx_preV hK hW hB hS hq hkd hc) rfl hn hsize hst (lv_room hrest) hdg hf
theorem tx_runS {own : String} {index : Nat} {y : MethodName} {bytes : ByteArray} {maxL n : Nat} {ret : Option FieldType} {rm : Room} {XC : String → State → State → Prop} {As : List Value} (hexec : p.tables.exec = Jvm.exec) (hb : c.code = cc) (hml : c.maxLocals = nL) (hown : s.vm.findClass own = some m.cls) (htw : ∀ w ∈ tw, w.before args s = true) (hK : va_K G.1 vwCl (tm_tys G) s) (hW : tm_W G Hb sh M H) (hB : tm_Bs Hb s) (hS : va_S (tm_A Hb) s.heap H locs)
    (h1 : Cond.methodLink own index y ∈ tw) (h2 : Cond.static y ∈ tw) (h4 : Cond.initialized y.cls ∈ tw) (h5 : Cond.code y bytes maxL ret ∈ tw) (hd : y.cls ≠ "java/lang/invoke/MethodHandle" ∧ y.cls ≠ "java/lang/invoke/VarHandle" ∧ (parseMethodDescriptor y.desc).map (fun d => d.parameters.length) = some n)
    (hM : vx_Met l y (tws y bytes maxL ret) rm (va_Pc As (tx_St G Hb sh M)) Qc XC mc ms (tm_A Hb)) (hrm : rm.cells = mc ∧ rm.slots = ms ∧ rm.frames + 1 ≤ R.frames ∧ 8 + (maxL + 11) + rm.locals ≤ R.locals) (hn : As.length = n) (hsize : ls.size = nL) (hst : st0 = As.reverse ++ rest) (hrest : (rest.map fun v => v.category).sum ≤ 8) (hdg : decode cc pc = .ok (.invokestatic index, 3)) (hf : cells + mc ≤ R.cells ∧ slots + ms ≤ R.slots) :
    vx_Run p l e R s m args below meth c H locs cells slots mc ms (F0 m pc ls st0) rest (Qc As.toArray) XC (tm_A Hb) :=
  vx_runS ⟨hexec, hb, hml, hown, htw⟩ hM ⟨callB_of n htw (tw_C h5) rfl hrm.1 hrm.2.1 (htw _ h4) (htw _ h1) hd hrm.2.2, htw _ h2⟩ (tx_preS hK hW hB hS) rfl hn hsize hst (lv_room hrest) hdg hf
/-- not caught: on to the caller -/
theorem tx_out {E : String} {ce : Cell} {q9 : Addr} (htab : ∀ x ∈ c.exceptionTable.toList, False) (hlk : meth.locks = false) (hK : va_K G.1 vwCl (tm_tys G) s) (hW : tm_W G Hb sh M H) (hS : va_S (tm_A Hb) s.heap H locs) (hcell : H[q9]? = some ce) (hv : ce.vm = .none) (hcl : s.vm.findClass E = some ce.cls) (hP : PX E M) (hc : cells ≤ mc ∧ slots ≤ ms) :
    vx_W p l e R s m args below meth c H locs cells slots (vx_MQ below Qc (tx_X G Hb sh PX) args s mc ms (tm_A Hb)) (F0 m pc ls rest) q9 :=
  vx_out (E := E) (fun x hx => (htab x hx).elim) hlk hcell hv hcl (fun t ht ha => ⟨M, trivial, ⟨hP, va_K.moved ha hK, by rw [ht]; exact hW⟩, hS.F ht⟩) hS.2.2 hc.1 hc.2
theorem tx_callv {P : tm_M → Prop} (hr : vx_Run p l e R s m args below meth c H locs cells slots mc ms (F0 m pc ls st0) rest (tm_Qv G Hb sh P a) (tx_X G Hb sh PX) (tm_A Hb)) (hS : va_S (tm_A Hb) H0 H locs)
    (kx : ∀ (E : String) (ce : Cell) (q9 : Addr) (M1 : tm_M) (H1 : Heap) (locs1 : List Loc), PX E M1 → tm_W G Hb sh M1 H1 → va_S (tm_A Hb) H0 H1 locs1 → H1[q9]? = some ce → ce.vm = .none → s.vm.findClass E = some ce.cls → vx_W p l e R s m args below meth c H1 locs1 (cells + mc) (slots + ms) Q (F0 m pc ls rest) q9)
    (kk : ∀ (M1 : tm_M) (H1 : Heap) (locs1 : List Loc), P M1 → tm_W G Hb sh M1 H1 → va_S (tm_A Hb) H0 H1 locs1 → W p l e R s m args below meth c H1 locs1 (cells + mc) (slots + ms) Q (F0 m (pc + 3) ls rest)) : W p l e R s m args below meth c H locs cells slots Q (F0 m pc ls st0) :=
  vx_callv hr hS (fun _ _ h => h) (fun _ h => h) (fun _ _ h => h) (fun E ce q9 u t H1 locs1 ht hvm _ hB hz hk hS1 h1 h2 h3 => kx E ce q9 u H1 locs1 hB.1 (by rw [← ht]; exact hB.2.2) hS1 h1 h2 h3) (fun u t H1 locs1 ht hvm hp hB hz hk hS1 => kk u H1 locs1 hp (by rw [← ht]; exact hB.2) hS1)
theorem tx_calli {P : Int → tm_M → Prop} (hr : vx_Run p l e R s m args below meth c H locs cells slots mc ms (F0 m pc ls st0) rest (tm_Qi G Hb sh P a) (tx_X G Hb sh PX) (tm_A Hb)) (hS : va_S (tm_A Hb) H0 H locs)
    (kx : ∀ (E : String) (ce : Cell) (q9 : Addr) (M1 : tm_M) (H1 : Heap) (locs1 : List Loc), PX E M1 → tm_W G Hb sh M1 H1 → va_S (tm_A Hb) H0 H1 locs1 → H1[q9]? = some ce → ce.vm = .none → s.vm.findClass E = some ce.cls → vx_W p l e R s m args below meth c H1 locs1 (cells + mc) (slots + ms) Q (F0 m pc ls rest) q9)
    (kk : ∀ (x : Int) (M1 : tm_M) (H1 : Heap) (locs1 : List Loc), P x M1 → tm_W G Hb sh M1 H1 → va_S (tm_A Hb) H0 H1 locs1 → W p l e R s m args below meth c H1 locs1 (cells + mc) (slots + ms) Q (F0 m (pc + 3) ls (ji x :: rest))) : W p l e R s m args below meth c H locs cells slots Q (F0 m pc ls st0) :=
  vx_calli hr hS (fun _ _ h => h) (fun _ h => h) (fun _ _ h => h) (fun E ce q9 u t H1 locs1 ht hvm _ hB hz hk hS1 h1 h2 h3 => kx E ce q9 u H1 locs1 hB.1 (by rw [← ht]; exact hB.2.2) hS1 h1 h2 h3) (fun r u t H1 locs1 ht hvm hp hB hz hk hS1 => by
    obtain ⟨x, rfl, hp⟩ := hp
    exact kk x u H1 locs1 hp (by rw [← ht]; exact hB.2) hS1)
theorem tx_calll {P : Int → tm_M → Prop} (hr : vx_Run p l e R s m args below meth c H locs cells slots mc ms (F0 m pc ls st0) rest (tm_Ql G Hb sh P a) (tx_X G Hb sh PX) (tm_A Hb)) (hS : va_S (tm_A Hb) H0 H locs)
    (kx : ∀ (E : String) (ce : Cell) (q9 : Addr) (M1 : tm_M) (H1 : Heap) (locs1 : List Loc), PX E M1 → tm_W G Hb sh M1 H1 → va_S (tm_A Hb) H0 H1 locs1 → H1[q9]? = some ce → ce.vm = .none → s.vm.findClass E = some ce.cls → vx_W p l e R s m args below meth c H1 locs1 (cells + mc) (slots + ms) Q (F0 m pc ls rest) q9)
    (kk : ∀ (x : Int) (M1 : tm_M) (H1 : Heap) (locs1 : List Loc), P x M1 → tm_W G Hb sh M1 H1 → va_S (tm_A Hb) H0 H1 locs1 → W p l e R s m args below meth c H1 locs1 (cells + mc) (slots + ms) Q (F0 m (pc + 3) ls (jl x :: rest))) : W p l e R s m args below meth c H locs cells slots Q (F0 m pc ls st0) :=
  vx_calll hr hS (fun _ _ h => h) (fun _ h => h) (fun _ _ h => h) (fun E ce q9 u t H1 locs1 ht hvm _ hB hz hk hS1 h1 h2 h3 => kx E ce q9 u H1 locs1 hB.1 (by rw [← ht]; exact hB.2.2) hS1 h1 h2 h3) (fun r u t H1 locs1 ht hvm hp hB hz hk hS1 => by
    obtain ⟨x, rfl, hp⟩ := hp
    exact kk x u H1 locs1 hp (by rw [← ht]; exact hB.2) hS1)
theorem cx_X8_65 {rm : Room} {XC : String → State → State → Prop} {a1 a2 a3 : Value} (hexec : p.tables.exec = Jvm.exec) (hb : c.code = cc) (hml : c.maxLocals = nL) (hown : s.vm.findClass RX8 = some m.cls) (htw : ∀ w ∈ tw, w.before args s = true) (hK : va_K G.1 vwCl (tm_tys G) s) (hW : tm_W G Hb sh M H) (hB : tm_Bs Hb s) (hS : va_S (tm_A Hb) s.heap H locs) (hM : vx_Met l yX8_requireNumber (tws yX8_requireNumber cX8_requireNumber 3 none) rm (va_Pc [a1, a2, a3] (tx_St G Hb sh M)) Qc XC mc ms (tm_A Hb)) (hrm : rm.cells = mc ∧ rm.slots = ms ∧ rm.frames + 1 ≤ R.frames ∧ 8 + (3 + 11) + rm.locals ≤ R.locals) (hsize : ls.size = nL) (hrest : (rest.map fun v => v.category).sum ≤ 8) (hdg : decode cc pc = .ok (.invokestatic 65, 3)) (hf : cells + mc ≤ R.cells ∧ slots + ms ≤ R.slots) : vx_Run p l e R s m args below meth c H locs cells slots mc ms (F0 m pc ls (a3 :: a2 :: a1 :: rest)) rest (Qc #[a1, a2, a3]) XC (tm_A Hb) := tx_runS (n := 3) (As := [a1, a2, a3]) hexec hb hml hown htw hK hW hB hS ml_X8_65 st_X8_requireNumber in_X8 co_X8_requireNumber (by decide +kernel) hM hrm rfl hsize rfl hrest hdg hf
theorem cx_X8_81 {rm : Room} {XC : String → State → State → Prop} (hexec : p.tables.exec = Jvm.exec) (hb : c.code = cc) (hml : c.maxLocals = nL) (hown : s.vm.findClass RX8 = some m.cls) (htw : ∀ w ∈ tw, w.before args s = true) (hK : va_K G.1 vwCl (tm_tys G) s) (hW : tm_W G Hb sh M H) (hB : tm_Bs Hb s) (hS : va_S (tm_A Hb) s.heap H locs) (hq : sh b = some (8, 0)) (hM : vx_Met l yX8_requireTask (tws yX8_requireTask cX8_requireTask 1 none) rm (va_Pc [.ref b] (tx_St G Hb sh M)) Qc XC mc ms (tm_A Hb)) (hrm : rm.cells = mc ∧ rm.slots = ms ∧ rm.frames + 1 ≤ R.frames ∧ 8 + (1 + 11) + rm.locals ≤ R.locals) (hsize : ls.size = nL) (hrest : (rest.map fun v => v.category).sum ≤ 8) (hdg : decode cc pc = .ok (.invokevirtual 81, 3)) (hf : cells + mc ≤ R.cells ∧ slots + ms ≤ R.slots) : vx_Run p l e R s m args below meth c H locs cells slots mc ms (F0 m pc ls (.ref b :: rest)) rest (Qc #[.ref b]) XC (tm_A Hb) := tx_runV (n := 0) (As := []) hexec hb hml hown htw hK hW hB hS hq (by decide) rfl ml_X8_81 im_X8_requireTask se_X8_requireTask in_X8 co_X8_requireTask (by decide +kernel) hM hrm rfl hsize rfl hrest hdg hf
theorem cx_X8_84 {rm : Room} {XC : String → State → State → Prop} (hexec : p.tables.exec = Jvm.exec) (hb : c.code = cc) (hml : c.maxLocals = nL) (hown : s.vm.findClass RX8 = some m.cls) (htw : ∀ w ∈ tw, w.before args s = true) (hK : va_K G.1 vwCl (tm_tys G) s) (hW : tm_W G Hb sh M H) (hB : tm_Bs Hb s) (hS : va_S (tm_A Hb) s.heap H locs) (hq : sh b = some (8, 0)) (hM : vx_Met l yX8_requireRoom (tws yX8_requireRoom cX8_requireRoom 1 none) rm (va_Pc [.ref b] (tx_St G Hb sh M)) Qc XC mc ms (tm_A Hb)) (hrm : rm.cells = mc ∧ rm.slots = ms ∧ rm.frames + 1 ≤ R.frames ∧ 8 + (1 + 11) + rm.locals ≤ R.locals) (hsize : ls.size = nL) (hrest : (rest.map fun v => v.category).sum ≤ 8) (hdg : decode cc pc = .ok (.invokevirtual 84, 3)) (hf : cells + mc ≤ R.cells ∧ slots + ms ≤ R.slots) : vx_Run p l e R s m args below meth c H locs cells slots mc ms (F0 m pc ls (.ref b :: rest)) rest (Qc #[.ref b]) XC (tm_A Hb) := tx_runV (n := 0) (As := []) hexec hb hml hown htw hK hW hB hS hq (by decide) rfl ml_X8_84 im_X8_requireRoom se_X8_requireRoom in_X8 co_X8_requireRoom (by decide +kernel) hM hrm rfl hsize rfl hrest hdg hf
theorem cx_X8_114 {rm : Room} {XC : String → State → State → Prop} (hexec : p.tables.exec = Jvm.exec) (hb : c.code = cc) (hml : c.maxLocals = nL) (hown : s.vm.findClass RX8 = some m.cls) (htw : ∀ w ∈ tw, w.before args s = true) (hK : va_K G.1 vwCl (tm_tys G) s) (hW : tm_W G Hb sh M H) (hB : tm_Bs Hb s) (hS : va_S (tm_A Hb) s.heap H locs) (hq : sh b = some (8, 0)) (hM : vx_Met l yX8_findWitness (tws yX8_findWitness cX8_findWitness 5 none) rm (va_Pc [.ref b] (tx_St G Hb sh M)) Qc XC mc ms (tm_A Hb)) (hrm : rm.cells = mc ∧ rm.slots = ms ∧ rm.frames + 1 ≤ R.frames ∧ 8 + (5 + 11) + rm.locals ≤ R.locals) (hsize : ls.size = nL) (hrest : (rest.map fun v => v.category).sum ≤ 8) (hdg : decode cc pc = .ok (.invokevirtual 114, 3)) (hf : cells + mc ≤ R.cells ∧ slots + ms ≤ R.slots) : vx_Run p l e R s m args below meth c H locs cells slots mc ms (F0 m pc ls (.ref b :: rest)) rest (Qc #[.ref b]) XC (tm_A Hb) := tx_runV (n := 0) (As := []) hexec hb hml hown htw hK hW hB hS hq (by decide) rfl ml_X8_114 im_X8_findWitness se_X8_findWitness in_X8 co_X8_findWitness (by decide +kernel) hM hrm rfl hsize rfl hrest hdg hf
end TXR
