/-! making objects and rows over my memory: sh grows by one cell at the heap's end -/
def sN (sh : tm_sh) (h kd N : Nat) : tm_sh := fun a => if a = h then some (kd, N) else sh a
theorem sN_s {sh : tm_sh} {h kd N : Nat} : sN sh h kd N h = some (kd, N) := if_pos rfl
theorem sN_n {sh : tm_sh} {h kd N a : Nat} (q : a ≠ h) : sN sh h kd N a = sh a := if_neg q
def zM (M : tm_M) (h : Nat) : tm_M := (fun a k => if a = h then none else M.1 a k, fun a k => if a = h then 0 else M.2.1 a k, fun a k => if a = h then 0 else M.2.2 a k)
theorem zM_R {M : tm_M} {h a : Nat} (q : a ≠ h) (k : Nat) : mR (zM M h) a k = mR M a k := if_neg q
theorem zM_I {M : tm_M} {h a : Nat} (q : a ≠ h) (k : Nat) : mI (zM M h) a k = mI M a k := if_neg q
theorem zM_L {M : tm_M} {h a : Nat} (q : a ≠ h) (k : Nat) : mL (zM M h) a k = mL M a k := if_neg q
theorem zM_Rs {M : tm_M} {h : Nat} (k : Nat) : mR (zM M h) h k = none := if_pos rfl
theorem zM_Is {M : tm_M} {h : Nat} (k : Nat) : mI (zM M h) h k = 0 := if_pos rfl
theorem zM_Ls {M : tm_M} {h : Nat} (k : Nat) : mL (zM M h) h k = 0 := if_pos rfl
theorem tm_V_z {kd h q : Nat} {M : tm_M} (k : Nat) (n : q ≠ h) : tm_V kd (zM M h) q k = tm_V kd M q k := by
  simp only [tm_V]
  split
  · rw [zM_I n]
  · rw [zM_L n]
  · rw [zM_R n]
theorem tm_W.le {G : tm_G} {Hb : Heap} {sh : tm_sh} {M : tm_M} {H : Heap} (h : tm_W G Hb sh M H) : Hb.size ≤ H.size := by
  rcases Nat.eq_zero_or_pos Hb.size with z | z
  · omega
  · have h2 := h.2 (Hb.size - 1) (by omega)
    rw [Array.getElem?_eq_getElem (show Hb.size - 1 < Hb.size by omega)] at h2
    have := (Array.getElem?_eq_some_iff.mp h2).1
    omega
theorem tm_W.free {G : tm_G} {Hb : Heap} {sh : tm_sh} {M : tm_M} {H : Heap} (h : tm_W G Hb sh M H) {a : Nat} {x : Nat × Nat} (ha : sh a = some x) : a < H.size := (h.1 a x.1 x.2 ha).2.lt
theorem tm_W.new {G : tm_G} {Hb : Heap} {sh : tm_sh} {M : tm_M} {H H1 : Heap} {kd N : Nat} (h : tm_W G Hb sh M H) (o1 : ∀ q : Nat, q < H.size → H1[q]? = H[q]?) (hat : tm_at G kd N H.size (tm_V kd (zM M H.size) H.size) H1) : tm_W G Hb (sN sh H.size kd N) (zM M H.size) H1 := by
  refine ⟨fun q kq nq hq => ?_, fun q hq => ?_⟩
  · by_cases e : q = H.size
    · subst e
      rw [sN_s] at hq
      cases hq
      exact ⟨h.le, hat⟩
    · rw [sN_n e] at hq
      obtain ⟨h1, h2⟩ := h.1 q kq nq hq
      exact ⟨h1, (h2.to (fun k => (tm_V_z k e).symm)).kept (o1 q h2.lt)⟩
  · have := h.le
    rw [o1 q (by omega)]
    exact h.2 q hq
theorem va_S.new {A : Nat → Prop} {H0 H H1 : Heap} {locs : List Loc} (hS : va_S A H0 H locs) (z : H1.size = H.size + 1) (o1 : ∀ q : Nat, q < H.size → H1[q]? = H[q]?) : va_S A H0 H1 locs := ⟨Nat.le_trans hS.1 (by omega), fun x h1 h2 => (o1 x (Nat.lt_of_lt_of_le h1 hS.1)).trans (hS.2.1 x h1 h2), hS.2.2⟩
section TAL
variable {p : Program} {l : Launch} {e : Env} {R : Room} {s : State} {m : MethodId} {args : Array Value} {below : List Frame} {meth : Method} {c : Code} {H : Heap} {locs : List Loc} {cells slots : Nat} {Q : State → Prop}
variable {cc : ByteArray} {pc : Nat} {ls : Array Slot} {rest : List Value} {G : tm_G} {Hb H0 : Heap} {sh : tm_sh} {M : tm_M} {a kd n : Nat}
/-- newarray -/
theorem tm_newa (hexec : p.tables.exec = Jvm.exec) (hb : c.code = cc) (htw : ∀ w ∈ tw, w.before args s = true) (hK : va_K G.1 vwCl (tm_tys G) s) (hW : tm_W G Hb sh M H) (hS : va_S (tm_A Hb) H0 H locs) (kd t0 : Nat) {ty : FieldType} {atype : ArrayType} (hw : Cond.arrayClass (newarray.typeOf atype) ∈ tw) (hty : newarray.typeOf atype = ty) (ht : (tm_tys G)[t0]? = some (G.2 kd, ty)) (hkd : 20 ≤ kd) (hz : ∀ (M : tm_M) (h j : Nat), tm_V kd (zM M h) h j = defaultValue ty) (hra : va_RA s (G.2 kd) ty = (s.vm.findClass ("[" ++ ty.toString) = some (G.2 kd)))
    {x : Int} {N : Nat} (hx : x = (N : Nat)) (hN : N < 65536) (hby : N * componentBytes ty ≤ 536870912) (hcells : cells + 1 ≤ R.cells) (hslots : slots + N ≤ R.slots) (hdg : decode cc pc = .ok (.newarray atype, 2))
    (kk : ∀ (H1 : Heap), tm_W G Hb (sN sh H.size kd N) (zM M H.size) H1 → va_S (tm_A Hb) H0 H1 locs → H1.size = H.size + 1 → W p l e R s m args below meth c H1 locs (cells + 1) (slots + N) Q (F0 m (pc + 2) ls (.ref H.size :: rest))) : W p l e R s m args below meth c H locs cells slots Q (F0 m pc ls (ji x :: rest)) := by
  subst hty
  subst hx
  have hn := tm_nn (e := (N : Int)) (by omega) (by omega)
  refine va_newaK hexec hb (htw _ hw) rfl hdg rfl hn.1 (N := N) (by rw [hn.2]; omega) hby hcells hslots rfl fun H1 cA e1 z1 o1 hAr hNm => ?_
  have hc := (hK.2 t0 _ ht).2
  rw [hra] at hc
  have ec : cA = G.2 kd := Option.some.inj (hNm.symm.trans hc)
  subst ec
  refine kk H1 (hW.new o1 ⟨fun z => absurd z (by omega), fun _ => ?_⟩) (hS.new z1 o1) z1
  rw [e1]
  congr 2
  funext j
  exact (hz M _ j).symm
/-- anewarray -/
theorem tm_newr (hexec : p.tables.exec = Jvm.exec) (hb : c.code = cc) (htw : ∀ w ∈ tw, w.before args s = true) (hK : va_K G.1 vwCl (tm_tys G) s) (hW : tm_W G Hb sh M H) (hS : va_S (tm_A Hb) H0 H locs) (kd t0 : Nat) {own C : String} {index : Nat} (hown : s.vm.findClass own = some m.cls) (hclink : Cond.classLink own index C ∈ tw) (hover : va_AO C s) (ht : (tm_tys G)[t0]? = some (G.2 kd, .object C)) (hkd : 20 ≤ kd) (hz : ∀ (M : tm_M) (h j : Nat), tm_V kd (zM M h) h j = .null)
    {x : Int} {N : Nat} (hx : x = (N : Nat)) (hN : N < 65536) (hcells : cells + 1 ≤ R.cells) (hslots : slots + N ≤ R.slots) (hdg : decode cc pc = .ok (.anewarray index, 3))
    (kk : ∀ (H1 : Heap), tm_W G Hb (sN sh H.size kd N) (zM M H.size) H1 → va_S (tm_A Hb) H0 H1 locs → H1.size = H.size + 1 → W p l e R s m args below meth c H1 locs (cells + 1) (slots + N) Q (F0 m (pc + 3) ls (.ref H.size :: rest))) : W p l e R s m args below meth c H locs cells slots Q (F0 m pc ls (ji x :: rest)) := by
  subst hx
  have hn := tm_nn (e := (N : Int)) (by omega) (by omega)
  have eN : (Int32.ofInt (N : Int)).toNatClampNeg = N := by rw [hn.2]; omega
  refine W.anew hexec hb hown (htw _ hclink) (va_AO.use hover) rfl hdg rfl hn.1 (by rw [eN]; omega) hcells (by rw [eN]; exact hslots) fun cA kA comp f1 f2 f3 f4 => ?_
  rw [eN]
  generalize hH1 : H.push ({ cls := cA, slots := Array.replicate N .null, vm := .none } : Cell) = H1
  have z1 : H1.size = H.size + 1 := by rw [← hH1, Array.size_push]
  have e1 : H1[H.size]? = some (arrV cA N (fun _ => .null)) := by rw [← hH1, Array.getElem?_push_size, ← arrV_new]
  have o1 : ∀ q : Nat, q < H.size → H1[q]? = H[q]? := fun q hq => by rw [← hH1, Array.getElem?_push, if_neg (Nat.ne_of_lt hq)]
  obtain ⟨kA', comp', g1, g2, g3, g4⟩ := (hK.2 t0 _ ht).2
  have ec : cA = G.2 kd := Option.some.inj (f1.symm.trans g4)
  subst ec
  refine kk H1 (hW.new o1 ⟨fun z => absurd z (by omega), fun _ => ?_⟩) (hS.new z1 o1) z1
  rw [e1]
  congr 2
  funext j
  exact (hz M _ j).symm
/-- new -/
theorem tm_newo (hexec : p.tables.exec = Jvm.exec) (hb : c.code = cc) (htw : ∀ w ∈ tw, w.before args s = true) (hK : va_K G.1 vwCl (tm_tys G) s) (hW : tm_W G Hb sh M H) (hS : va_S (tm_A Hb) H0 H locs) (kd : Nat) {own C : String} {T : u_T} {N index : Nat} (hown : s.vm.findClass own = some m.cls) (hcl : Cond.classLink own index C ∈ tw) (hinst : Cond.instantiable C N ∈ tw) (hini : Cond.initialized C ∈ tw) (hly : ∀ w ∈ u_ws C T N, w ∈ tw) (hc : vwCl[kd]? = some (C, T, N)) (hkd : kd < 20) (ty : Nat → FieldType) (hty : ∀ k, k < N → parseFieldDescriptor (T k).2.2.1 = some (ty k)) (hz : ∀ (M : tm_M) (h k : Nat), k < N → tm_V kd (zM M h) h k = defaultValue (ty k))
    (hcells : cells + 1 ≤ R.cells) (hslots : slots + N ≤ R.slots) (hdg : decode cc pc = .ok (.new index, 3))
    (kk : ∀ (H1 : Heap), tm_W G Hb (sN sh H.size kd 0) (zM M H.size) H1 → va_S (tm_A Hb) H0 H1 locs → H1.size = H.size + 1 → W p l e R s m args below meth c H1 locs (cells + 1) (slots + N) Q (F0 m (pc + 3) ls (.ref H.size :: rest))) : W p l e R s m args below meth c H locs cells slots Q (F0 m pc ls rest) := by
  have hKn := hK.1 kd _ hc
  refine W.newcK hexec hb hown (htw _ hcl) (htw _ hinst) (htw _ hini) rfl hdg hcells hslots hKn.2.1 rfl fun H1 kC hkC e1 z1 o1 => ?_
  refine kk H1 (hW.new o1 ⟨fun _ => ⟨_, hc, ?_⟩, fun z => absurd z (by omega)⟩) (hS.new z1 o1) z1
  exact (u_born ty htw hly hKn hkC e1 hty).to (fun k hk => (hz M _ k hk).symm)
/-- aastore of an object of that class -/
theorem tm_aast (hexec : p.tables.exec = Jvm.exec) (hb : c.code = cc) (hK : va_K G.1 vwCl (tm_tys G) s) (hW : tm_W G Hb sh M H) (hS : va_S (tm_A Hb) H0 H locs) (kd t0 k1 : Nat) {C : String} {T : u_T} {N n1 v : Nat} (hq : sh a = some (kd, n)) (hkd : 20 ≤ kd) (ht : (tm_tys G)[t0]? = some (G.2 kd, .object C)) (hr : sh v = some (k1, n1)) (hk1 : k1 < 20) (hc : vwCl[k1]? = some (C, T, N)) (hV : ∀ (M : tm_M) (q j : Nat), tm_V kd M q j = va_rf (mR M q j)) {x : Int} (h0 : 0 ≤ x) (h1 : x < n) (hn : n < 2147483648) (hdg : decode cc pc = .ok (.aastore, 1))
    (kk : ∀ (H1 : Heap) (locs1 : List Loc), tm_W G Hb sh (sR M a x.toNat (some v)) H1 → va_S (tm_A Hb) H0 H1 locs1 → H1.size = H.size → W p l e R s m args below meth c H1 locs1 cells slots Q (F0 m (pc + 1) ls (rest))) : W p l e R s m args below meth c H locs cells slots Q (F0 m pc ls (.ref v :: ji x :: .ref a :: rest)) := by
  obtain ⟨hin, hcl⟩ := tm_ix h0 h1 hn
  have hi0 : ¬ Int32.ofInt x < 0 := fun q => hin (Or.inl q)
  have hlt : (Int32.ofInt x).toNatClampNeg < n := Nat.not_le.mp fun q => hin (Or.inr q)
  obtain ⟨r, e1, cell, q1, q2, q3, q4⟩ := (hW.1 v k1 n1 hr).2.1 hk1
  have er : r = (C, T, N) := Option.some.inj (e1.symm.trans hc)
  subst er
  obtain ⟨-, hfc, kC, hkC, -⟩ := hK.1 k1 _ hc
  obtain ⟨kA, comp, g1, g2, g3, g4⟩ := (hK.2 t0 _ ht).2
  obtain ⟨kE, hkE, -⟩ := Vm.findClass_spec g3
  have ec : comp = G.1.1 k1 := Option.some.inj (g3.symm.trans hfc)
  refine W.aast hexec hb (tm_arr hW hq hkd) (fun q h => by cases h) (fun h => by cases h) g1 g2 rfl hkE ⟨hi0, by rw [arrV_size]; exact hlt⟩ q1 (fun q h => by rw [q3] at h; cases h) (by rw [q2]; exact hkC) (by rw [q2, ec]; exact va_asg _ _) rfl rfl hdg fun H1 f1 z oq => ?_
  refine kk H1 _ (hW.setA hq hkd f1 oq (by rw [hcl, hV, show mR (sR M a x.toNat (some v)) a x.toNat = some v from tm_up_s _ _ _ _]; rfl) (fun kd q j h => tm_V_sR (by rw [← hcl]; exact h))) (hS.put z oq (hW.1 a _ _ hq).1) z
end TAL
