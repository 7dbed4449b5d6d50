/-! a throw that the law's own method catches -/
theorem lc_row {Q : Handler → Pre} {E : CtlPost} {e : Env} {d : Bool} {acts : List Action} {s : State} {f : JFrame} {a : Addr} {x : ExceptionTableEntry} {t : List ExceptionTableEntry} {c : ClassId} {cell : Cell} (hx : covers x f.pc = true) (h0 : x.catchType ≠ 0) (hl : s.vm.ClassLinks e.platform f.method.cls x.catchType c) (hcell : s.heap[a]? = some cell) (hobj : ∀ k, cell.vm ≠ .statics k) (hk : ∃ k, s.vm.classes[cell.cls]? = some k) (hc : ∃ k, s.vm.classes[c]? = some k) :
    wp (findHandler.go f a (x :: t)) Q E e d acts s ↔ (if s.vm.assignable cell.cls c = true then Q (.found x.handlerPc) d acts (s.setVm (s.vm.noted f.method.cls x.catchType (.cls c))) else wp (findHandler.go f a t) Q E e d acts (s.setVm (s.vm.noted f.method.cls x.catchType (.cls c)))) := by
  have hx' := hx
  simp only [covers] at hx'
  obtain ⟨g1, g2⟩ := (resolveClass_links e.toSetting hl).op (op := VmOp.resolveClass f.method.cls x.catchType) rfl
  have al : s.vm.Alike (s.vm.noted f.method.cls x.catchType (.cls c)) := (Vm.Alike.refl s.vm).noted _ _ _
  obtain ⟨k1, hk1⟩ := hk
  obtain ⟨k2, hk2⟩ := hc
  obtain ⟨n1, hn1, -⟩ := al.2.2 _ _ hk1
  obtain ⟨n2, hn2, -⟩ := al.2.2 _ _ hk2
  by_cases hf : s.vm.assignable cell.cls c = true
  · have hf' : (s.vm.noted f.method.cls x.catchType (.cls c)).assignable cell.cls c = true := by rw [al.assignable]; exact hf
    rw [if_pos hf]
    simp [findHandler.go, hx', h0, g1, g2, hcell, hobj, hn1, hn2, hf', VmOp.dirties, VmOp.acts]
  · have hf2 : s.vm.assignable cell.cls c = false := by simpa using hf
    have hf' : (s.vm.noted f.method.cls x.catchType (.cls c)).assignable cell.cls c = false := by rw [al.assignable]; exact hf2
    rw [if_neg hf]
    simp [findHandler.go, hx', h0, g1, g2, hcell, hobj, hn1, hn2, hf', VmOp.dirties, VmOp.acts]
theorem lc_step {e : Env} {s : State} {a : Addr} {f : JFrame} {r : List Frame} {pc : Nat} {vm' : Vm} (hf : ∀ (Q : Handler → Pre) (E : CtlPost) (d : Bool) (acts : List Action), wp (findHandler f a) Q E e d acts s ↔ Q (.found pc) d acts (s.setVm vm')) :
    (stepThrowing e s a (.java f :: r)).Is ((s.setVm vm').setFrames (.java { f with pc := pc, stack := [.ref a] } :: r)) [] := by
  simp only [stepThrowing, searchFrame, vmDo]
  generalize hr : Sem.go _ e false [] s = res
  obtain ⟨as, rfl, ha⟩ := Sem.eq_ok_of hr (a := Handler.found pc) (s' := s.setVm vm') (acts' := []) (by simp [hf _ _ _ _])
  exact ⟨rfl, ha⟩
theorem lc_steps {tb : Tables} {e : Env} {s target : State} {g : JFrame} {c : Code} {below : List Frame} {a : Addr} (h : At s g.method c below) {pc : Nat} {vm' : Vm} (hf : ∀ (Q : Handler → Pre) (E : CtlPost) (d : Bool) (acts : List Action), wp (findHandler g a) Q E e d acts ((s.setTop g).pushFrame (.throwing a)) ↔ Q (.found pc) d acts (((s.setTop g).pushFrame (.throwing a)).setVm vm'))
    (hk : Steps tb e below ((s.setVm vm').setTop { g with pc := pc, stack := [.ref a] }) target) : Steps tb e below ((s.setTop g).pushFrame (.throwing a)) target := by
  obtain ⟨g1, g2⟩ := h.throwing a
  refine Steps.head g1 g2 ?_
  rw [stepThread_throwing (frames_entered h.top _), (lc_step (s := (s.setTop g).pushFrame (.throwing a)) hf).1]
  obtain ⟨g₀, hg⟩ := Option.isSome_iff_exists.mp h.top
  obtain ⟨r, hr⟩ := State.topJava?_eq_some.mp hg
  have hr' : (s.setVm vm').frames = .java g₀ :: r := hr
  rw [State.setTop_of_frames _ hr'] at hk
  have e1 : ∀ (u : State) (F G : List Frame), ((u.setFrames F).setVm vm').setFrames G = (u.setVm vm').setFrames G := fun u F G => by
    have e0 : (u.setFrames F).setVm vm' = (u.setVm vm').setFrames F := rfl
    rw [e0, State.setFrames_setFrames]
  rw [hr, List.tail_cons, State.pushFrame, e1, State.setTop_of_frames _ hr, e1]
  exact hk
section LCC
variable {p : Program} {l : Launch} {e : Env} {R : Room} {s : State} {m : MethodId} {args : Array Value} {below : List Frame} {meth : Method} {c : Code} {H : Heap} {locs : List Loc} {cells slots : Nat} {Q : State → Prop} {ls : Array Slot} {rest : List Value} {pc : Nat}
/-- the first row of the table catches -/
theorem lc_catch {own name E : String} {ce : Cell} {q : Addr} (hown : s.vm.findClass own = some m.cls) {x : ExceptionTableEntry} {suf : List ExceptionTableEntry} (ht : c.exceptionTable.toList = x :: suf) (hx : covers x pc = true) (h0 : x.catchType ≠ 0) (hl : (Cond.classLink own x.catchType name).before args s = true) (hE : E = name) (hcell : H[q]? = some ce) (hv : ce.vm = .none) (hcl : s.vm.findClass E = some ce.cls)
    (kk : W p l e R s m args below meth c H locs cells slots Q (F0 m x.handlerPc ls [.ref q])) : vx_W p l e R s m args below meth c H locs cells slots Q (F0 m pc ls rest) q := by
  intro T hT X
  have hpl : e.platform.magicAccessors = ({} : Platform).magicAccessors := by rw [X.admits.platform]
  obtain ⟨c5, hc5, hl5⟩ := Cond.classLink_spec hown hl e.platform hpl
  subst hE
  cases Option.some.inj (hc5.symm.trans hcl)
  obtain ⟨dk, _, _, kt, hd, _, _, _, _, hkt, _, hopen⟩ := hl5.here
  have hW2 : s.WarmedH (T.vm.noted m.cls x.catchType (.cls ce.cls)) := X.warmed.noted hd hopen (State.rightAt_cls hl5)
  obtain ⟨kt', hkt', -⟩ := X.warmed.alike.2.2 _ _ hkt
  obtain ⟨t, a1, b1⟩ := kk (T.setVm (T.vm.noted m.cls x.catchType (.cls ce.cls))) hT (X.noted hW2)
  refine ⟨t, lc_steps (g := F0 m pc ls rest) X.here (pc := x.handlerPc) (fun Q9 E9 d acts => ?_) a1, b1⟩
  rw [_root_.Jvm.W.findHandler_eq (meth := meth) (code := c) X.method' X.code, ht, lc_row (s := (T.setTop (F0 m pc ls rest)).pushFrame (.throwing q)) (f := F0 m pc ls rest) (c := ce.cls) (cell := ce) hx h0 (X.warmed.classLinks hl5) (by show T.heap[q]? = _; rw [hT]; exact hcell) (fun k h => by rw [hv] at h; cases h) ⟨kt', hkt'⟩ ⟨kt', hkt'⟩, if_pos (_root_.Jvm.Free.SB.assignable_self _ _)]
  exact Iff.rfl
/-- the second row of the table catches -/
theorem lc_catch2 {own name nm1 E : String} {ce : Cell} {q : Addr} (hown : s.vm.findClass own = some m.cls) {x1 x : ExceptionTableEntry} {suf : List ExceptionTableEntry} (ht : c.exceptionTable.toList = x1 :: x :: suf) (hx1 : covers x1 pc = true) (h01 : x1.catchType ≠ 0) (hl1 : (Cond.classLink own x1.catchType nm1).before args s = true) (hno : va_Nc E nm1 s) (hx : covers x pc = true) (h0 : x.catchType ≠ 0) (hl : (Cond.classLink own x.catchType name).before args s = true) (hE : E = name) (hcell : H[q]? = some ce) (hv : ce.vm = .none) (hcl : s.vm.findClass E = some ce.cls)
    (kk : W p l e R s m args below meth c H locs cells slots Q (F0 m x.handlerPc ls [.ref q])) : vx_W p l e R s m args below meth c H locs cells slots Q (F0 m pc ls rest) q := by
  intro T hT X
  have hpl : e.platform.magicAccessors = ({} : Platform).magicAccessors := by rw [X.admits.platform]
  obtain ⟨c5, hc5, hl5⟩ := Cond.classLink_spec hown hl e.platform hpl
  obtain ⟨c6, hc6, hl6⟩ := Cond.classLink_spec hown hl1 e.platform hpl
  obtain ⟨c7, c8, hc7, hc8, has⟩ := hno
  subst hE
  cases Option.some.inj (hc5.symm.trans hcl)
  cases Option.some.inj (hc7.symm.trans hcl)
  cases Option.some.inj (hc8.symm.trans hc6)
  obtain ⟨dk, _, _, kt, hd, _, _, _, _, hkt, _, hopen⟩ := hl5.here
  obtain ⟨dk6, _, _, kt6, hd6, _, _, _, _, hkt6, _, hopen6⟩ := hl6.here
  have hW1 : s.WarmedH (T.vm.noted m.cls x1.catchType (.cls c6)) := X.warmed.noted hd6 hopen6 (State.rightAt_cls hl6)
  have hW2 : s.WarmedH ((T.vm.noted m.cls x1.catchType (.cls c6)).noted m.cls x.catchType (.cls ce.cls)) := hW1.noted hd hopen (State.rightAt_cls hl5)
  obtain ⟨kt', hkt', -⟩ := X.warmed.alike.2.2 _ _ hkt
  obtain ⟨kt6', hkt6', -⟩ := X.warmed.alike.2.2 _ _ hkt6
  obtain ⟨kt2', hkt2', -⟩ := hW1.alike.2.2 _ _ hkt
  obtain ⟨t, a1, b1⟩ := kk (T.setVm ((T.vm.noted m.cls x1.catchType (.cls c6)).noted m.cls x.catchType (.cls ce.cls))) hT (X.noted hW2)
  refine ⟨t, lc_steps (g := F0 m pc ls rest) X.here (pc := x.handlerPc) (fun Q9 E9 d acts => ?_) a1, b1⟩
  rw [_root_.Jvm.W.findHandler_eq (meth := meth) (code := c) X.method' X.code, ht, lc_row (s := (T.setTop (F0 m pc ls rest)).pushFrame (.throwing q)) (f := F0 m pc ls rest) (c := c6) (cell := ce) hx1 h01 (X.warmed.classLinks hl6) (by show T.heap[q]? = _; rw [hT]; exact hcell) (fun k h => by rw [hv] at h; cases h) ⟨kt', hkt'⟩ ⟨kt6', hkt6'⟩, if_neg (by
    have : T.vm.assignable ce.cls c6 = false := by rw [X.warmed.alike.assignable]; exact has
    show ¬ T.vm.assignable ce.cls c6 = true
    rw [this]; decide)]
  refine Iff.trans (lc_row (s := ((T.setTop (F0 m pc ls rest)).pushFrame (.throwing q)).setVm (T.vm.noted m.cls x1.catchType (.cls c6))) (f := F0 m pc ls rest) (c := ce.cls) (cell := ce) hx h0 (hW1.classLinks hl5) (by show T.heap[q]? = _; rw [hT]; exact hcell) (fun k h => by rw [hv] at h; cases h) ⟨kt2', hkt2'⟩ ⟨kt2', hkt2'⟩) ?_
  rw [if_pos (_root_.Jvm.Free.SB.assignable_self _ _)]
  exact Iff.rfl
end LCC
