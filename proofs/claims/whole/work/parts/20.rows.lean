/-! MY MEMORY: every cell that the law's run makes, by its address and slot: references, ints, longs as functions; sh says what lies at an address: (kind, length): kinds under 20 are places in vwCl, 20 int[], 21 long[], 22 byte[], 23 boolean[], 24 Side[], 25 Line[] -/
abbrev ji (x : Int) : Value := Value.int (Int32.ofInt x)
abbrev jl (x : Int) : Value := Value.long (Int64.ofInt x)
abbrev tm_M : Type := (Nat → Nat → Option Nat) × (Nat → Nat → Int) × (Nat → Nat → Int)
abbrev mR (M : tm_M) : Nat → Nat → Option Nat := M.1
abbrev mI (M : tm_M) : Nat → Nat → Int := M.2.1
abbrev mL (M : tm_M) : Nat → Nat → Int := M.2.2
def tm_up {α : Type} (f : Nat → Nat → α) (q k : Nat) (v : α) : Nat → Nat → α := fun a b => if a = q ∧ b = k then v else f a b
theorem tm_up_s {α : Type} (f : Nat → Nat → α) (q k : Nat) (v : α) : tm_up f q k v q k = v := by simp [tm_up]
theorem tm_up_a {α : Type} (f : Nat → Nat → α) {q k a b : Nat} (v : α) (h : a ≠ q) : tm_up f q k v a b = f a b := by simp [tm_up, h]
theorem tm_up_k {α : Type} (f : Nat → Nat → α) {q k a b : Nat} (v : α) (h : b ≠ k) : tm_up f q k v a b = f a b := by simp [tm_up, h]
abbrev sR (M : tm_M) (q k : Nat) (v : Option Nat) : tm_M := (tm_up M.1 q k v, M.2.1, M.2.2)
abbrev sI (M : tm_M) (q k : Nat) (v : Int) : tm_M := (M.1, tm_up M.2.1 q k v, M.2.2)
abbrev sL (M : tm_M) (q k : Nat) (v : Int) : tm_M := (M.1, M.2.1, tm_up M.2.2 q k v)
/-- what a slot holds: 0 an int (boolean, byte), 1 a long, 2 a reference -/
def tm_ty (kd k : Nat) : Nat := match kd with
  | 0 => if k = 0 then 2 else 0
  | 1 => if k = 0 then 2 else 0
  | 2 => 1
  | 3 => if k < 2 then 2 else 0
  | 4 => 2
  | 5 => if k = 0 ∨ 5 ≤ k then 2 else 0
  | 6 => 2
  | 7 => if k = 0 then 0 else 2
  | 8 => if k = 3 ∨ k = 8 ∨ k = 9 then 0 else 2
  | 9 => if k = 10 ∨ k = 11 ∨ k = 26 ∨ k = 27 then 1 else if k = 1 ∨ k = 2 ∨ k = 6 ∨ k = 7 ∨ k = 9 ∨ (12 ≤ k ∧ k ≤ 17) ∨ k = 24 then 2 else 0
  | 21 => 1
  | 24 => 2
  | 25 => 2
  | _ => 0
def tm_V (kd : Nat) (M : tm_M) (q k : Nat) : Value := match tm_ty kd k with
  | 0 => ji (mI M q k)
  | 1 => jl (mL M q k)
  | _ => va_rf (mR M q k)
theorem tm_V0 {kd k : Nat} (h : tm_ty kd k = 0) (M : tm_M) (q : Nat) : tm_V kd M q k = ji (mI M q k) := by simp [tm_V, h]
theorem tm_V1 {kd k : Nat} (h : tm_ty kd k = 1) (M : tm_M) (q : Nat) : tm_V kd M q k = jl (mL M q k) := by simp [tm_V, h]
theorem tm_V2 {kd k : Nat} (h : tm_ty kd k = 2) (M : tm_M) (q : Nat) : tm_V kd M q k = va_rf (mR M q k) := by simp [tm_V, h]
theorem tm_V_sI {kd a k q j : Nat} {M : tm_M} {v : Int} (h : q ≠ a ∨ j ≠ k) : tm_V kd (sI M a k v) q j = tm_V kd M q j := by
  have e : mI (sI M a k v) q j = mI M q j := by
    rcases h with h | h
    · exact tm_up_a _ _ h
    · exact tm_up_k _ _ h
  simp only [tm_V]
  split <;> first | rw [e] | rfl
theorem tm_V_sL {kd a k q j : Nat} {M : tm_M} {v : Int} (h : q ≠ a ∨ j ≠ k) : tm_V kd (sL M a k v) q j = tm_V kd M q j := by
  have e : mL (sL M a k v) q j = mL M q j := by
    rcases h with h | h
    · exact tm_up_a _ _ h
    · exact tm_up_k _ _ h
  simp only [tm_V]
  split <;> first | rw [e] | rfl
theorem tm_V_sR {kd a k q j : Nat} {M : tm_M} {v : Option Nat} (h : q ≠ a ∨ j ≠ k) : tm_V kd (sR M a k v) q j = tm_V kd M q j := by
  have e : mR (sR M a k v) q j = mR M q j := by
    rcases h with h | h
    · exact tm_up_a _ _ h
    · exact tm_up_k _ _ h
  simp only [tm_V]
  split <;> first | rw [e] | rfl
abbrev tm_G : Type := va_G × (Nat → ClassId)
abbrev tm_sh : Type := Nat → Option (Nat × Nat)
def tm_at (G : tm_G) (kd n q : Nat) (V : Nat → Value) (H : Heap) : Prop := (kd < 20 → ∃ r : vw_C, vwCl[kd]? = some r ∧ t_OB q (G.1.1 kd) r.2.2 (G.1.2 kd) H V) ∧ (20 ≤ kd → H[q]? = some (arrV (G.2 kd) n V))
theorem tm_at.kept {G : tm_G} {kd n q : Nat} {V : Nat → Value} {H H1 : Heap} (h : tm_at G kd n q V H) (hq : H1[q]? = H[q]?) : tm_at G kd n q V H1 :=
  ⟨fun hk => by obtain ⟨r, h1, h2⟩ := h.1 hk; exact ⟨r, h1, h2.kept hq⟩, fun hk => hq.trans (h.2 hk)⟩
theorem tm_at.lt {G : tm_G} {kd n q : Nat} {V : Nat → Value} {H : Heap} (h : tm_at G kd n q V H) : q < H.size := by
  rcases Nat.lt_or_ge kd 20 with z | z
  · obtain ⟨r, -, cell, h2, -⟩ := h.1 z
    exact (Array.getElem?_eq_some_iff.mp h2).1
  · exact (Array.getElem?_eq_some_iff.mp (h.2 z)).1
theorem tm_at.to {G : tm_G} {kd n q : Nat} {V V' : Nat → Value} {H : Heap} (h : tm_at G kd n q V H) (e : ∀ k, V k = V' k) : tm_at G kd n q V' H := by
  have : V = V' := funext e
  rw [← this]
  exact h
/-- the world: the cells that were there before the law began are as they were; the others as sh and M say -/
def tm_W (G : tm_G) (Hb : Heap) (sh : tm_sh) (M : tm_M) (H : Heap) : Prop := (∀ q kd n, sh q = some (kd, n) → Hb.size ≤ q ∧ tm_at G kd n q (tm_V kd M q) H) ∧ ∀ q, q < Hb.size → H[q]? = Hb[q]?
abbrev tm_A (Hb : Heap) : Nat → Prop := fun q => Hb.size ≤ q
def tm_tys (G : tm_G) : List (ClassId × FieldType) := [(G.2 20, .int), (G.2 21, .long), (G.2 22, .byte), (G.2 23, .boolean), (G.2 24, .object "TutorLines$Side"), (G.2 25, .object "TutorLines$Line")]
theorem tm_W.set {G : tm_G} {Hb : Heap} {sh : tm_sh} {M M' : tm_M} {H H1 : Heap} {a kd n : Nat} (h : tm_W G Hb sh M H) (ha : sh a = some (kd, n)) (hnew : tm_at G kd n a (tm_V kd M' a) H1) (oq : ∀ q : Nat, q ≠ a → H1[q]? = H[q]?) (hM : ∀ kd q k, q ≠ a → tm_V kd M' q k = tm_V kd M q k) : tm_W G Hb sh M' H1 := by
  refine ⟨fun q kq nq hq => ?_, fun q hq => ?_⟩
  · obtain ⟨h1, h2⟩ := h.1 q kq nq hq
    refine ⟨h1, ?_⟩
    by_cases e : q = a
    · subst e
      cases ha.symm.trans hq
      exact hnew
    · exact (h2.to (fun k => (hM kq q k e).symm)).kept (oq q e)
  · have h3 := (h.1 a kd n ha).1
    rw [oq q (by omega)]
    exact h.2 q hq
section TMR
variable {p : Program} {l : Launch} {e : Env} {R : Room} {s : State} {m : MethodId} {args : Array Value} {below : List Frame} {meth : Method} {c : Code} {H : Heap} {locs : List Loc} {cells slots : Nat} {Q : State → Prop}
variable {cc : ByteArray} {pc : Nat} {ls : Array Slot} {rest : List Value} {G : tm_G} {Hb H0 : Heap} {sh : tm_sh} {M : tm_M} {a kd n : Nat} {tys : List (ClassId × FieldType)}
theorem tm_get (hexec : p.tables.exec = Jvm.exec) (hb : c.code = cc) {own ref C : String} {T : u_T} {N index : Nat} {Ts : List Cond} (hts : ∀ w ∈ Ts, w.before args s = true) (hin : ∀ w ∈ u_ws C T N, w ∈ Ts) (hown : s.vm.findClass own = some m.cls) (hK : va_K G.1 vwCl tys s) (hW : tm_W G Hb sh M H) (hq : sh a = some (kd, n)) (hkd : kd < 20) (hc : vwCl[kd]? = some (C, T, N)) (k : Nat) (hk : k < N) (hlink : (Cond.fieldLink own index ref (T k).2.1 (T k).2.2.1).before args s = true) (hsame : ∀ x, s.fieldFound? (T k).1 (T k).2.1 (T k).2.2.1 = some x → s.fieldFound? ref (T k).2.1 (T k).2.2.1 = some x) (hdg : decode cc pc = .ok (.getfield index, 3))
    (kk : W p l e R s m args below meth c H locs cells slots Q (F0 m (pc + 3) ls (tm_V kd M a k :: rest))) : W p l e R s m args below meth c H locs cells slots Q (F0 m pc ls (.ref a :: rest)) := by
  obtain ⟨r, h1, cell, q1, q2, q3, q4⟩ := (hW.1 a kd n hq).2.1 hkd
  have hr : r = (C, T, N) := Option.some.inj (h1.symm.trans hc)
  subst hr
  obtain ⟨hS, hfc, kC, hkC, hkind⟩ := hK.1 kd _ hc
  obtain ⟨cf, kf, fi, f, hi, hsl⟩ := hS k hk
  refine W.getf hexec hb hown hlink (hsame _ hi) (u_facts hfc hkC (u_lays hts hin hk) hi).1 q1 (by rw [q3]; exact fun h => by cases h) (v := tm_V kd M a k) ?_ rfl rfl hdg kk
  rw [hsl, q4 k hk]
theorem tm_put (hexec : p.tables.exec = Jvm.exec) (hb : c.code = cc) {own ref C : String} {T : u_T} {N index : Nat} {Ts : List Cond} (hts : ∀ w ∈ Ts, w.before args s = true) (hin : ∀ w ∈ u_ws C T N, w ∈ Ts) (ty0 : Nat → FieldType) (hty : ∀ k, k < N → parseFieldDescriptor (T k).2.2.1 = some (ty0 k)) (hnm : ∀ a, a < N → ∀ b, b < N → a ≠ b → (T a).2.1 ≠ (T b).2.1) (hown : s.vm.findClass own = some m.cls) (hK : va_K G.1 vwCl tys s) (hW : tm_W G Hb sh M H) (hS0 : va_S (tm_A Hb) H0 H locs) (hq : sh a = some (kd, n)) (hkd : kd < 20) (hc : vwCl[kd]? = some (C, T, N)) (k : Nat) (hk : k < N) (hlink : (Cond.fieldLink own index ref (T k).2.1 (T k).2.2.1).before args s = true) (hsame : ∀ x, s.fieldFound? (T k).1 (T k).2.1 (T k).2.2.1 = some x → s.fieldFound? ref (T k).2.1 (T k).2.2.1 = some x) (hfin : (T k).2.2.2 = false) {ty : FieldType} {v : Value} (hd : parseFieldDescriptor (T k).2.2.1 = some ty) (hn : narrow ty v = v) (hfit : fits ty v = true) {M' : tm_M} (hv : tm_V kd M' a k = v) (ho : ∀ kd q j, (q ≠ a ∨ j ≠ k) → tm_V kd M' q j = tm_V kd M q j)
    (hdg : decode cc pc = .ok (.putfield index, 3)) (kk : ∀ (H1 : Heap) (locs1 : List Loc), tm_W G Hb sh M' H1 → va_S (tm_A Hb) H0 H1 locs1 → W p l e R s m args below meth c H1 locs1 cells slots Q (F0 m (pc + 3) ls rest)) : W p l e R s m args below meth c H locs cells slots Q (F0 m pc ls (v :: .ref a :: rest)) := by
  have hap := va_apart (own := own) hts hin ty0 hty hnm hK hc
  obtain ⟨hlo, hat, -⟩ := hW.1 a kd n hq
  obtain ⟨r, h1, cell, q1, q2, q3, q4⟩ := hat hkd
  have hr : r = (C, T, N) := Option.some.inj (h1.symm.trans hc)
  subst hr
  obtain ⟨hS, hfc, kC, hkC, hkind⟩ := hK.1 kd _ hc
  obtain ⟨cf, kf, fi, f, hi, hsl⟩ := hS k hk
  have hlay := hts _ (hin _ (u_in_lay hk))
  unfold u_lay at hlay
  rw [if_neg (by rw [hfin]; decide)] at hlay
  have hst := (u_facts hfc hkC (u_lays hts hin hk) hi).1
  have h6 := u_store hfc hkC hkind hlay hi hd hn hfit
  refine W.putK hexec hb (f := f) ⟨hown, hlink, ⟨_, _, _, hsame _ hi⟩, hst⟩ (by rw [q2]; exact h6) q1 q3 (by rw [hsl]; exact k2_hasslot (q4 k hk)) rfl rfl hdg fun H' e1 e2 e3 => ?_
  rw [hsl] at e1 ⊢
  refine kk H' _ (hW.set hq ⟨fun _ => ⟨_, hc, t_OB.to (V := updV (tm_V kd M a) k v) ⟨_, e1, q2, q3, t_set q4 hap hk v⟩ (fun j _ => ?_)⟩, fun z => absurd z (by omega)⟩ e3 (fun kd q j hne => ho kd q j (Or.inl hne))) (hS0.put e2 e3 hlo)
  by_cases hj : j = k
  · subst hj
    rw [hv]
    simp [updV]
  · rw [ho kd a j (Or.inr hj)]
    simp [updV, hj]
theorem tm_putF (hexec : p.tables.exec = Jvm.exec) (hb : c.code = cc) {own ref C : String} {T : u_T} {N index : Nat} {Ts : List Cond} (hts : ∀ w ∈ Ts, w.before args s = true) (hin : ∀ w ∈ u_ws C T N, w ∈ Ts) (ty0 : Nat → FieldType) (hty : ∀ k, k < N → parseFieldDescriptor (T k).2.2.1 = some (ty0 k)) (hnm : ∀ a, a < N → ∀ b, b < N → a ≠ b → (T a).2.1 ≠ (T b).2.1) (hown : s.vm.findClass own = some m.cls) (hK : va_K G.1 vwCl tys s) (hW : tm_W G Hb sh M H) (hS0 : va_S (tm_A Hb) H0 H locs) (hq : sh a = some (kd, n)) (hkd : kd < 20) (hc : vwCl[kd]? = some (C, T, N)) (k : Nat) (hk : k < N) (hlink : (Cond.fieldLink own index ref (T k).2.1 (T k).2.2.1).before args s = true) (hsame : ∀ x, s.fieldFound? (T k).1 (T k).2.1 (T k).2.2.1 = some x → s.fieldFound? ref (T k).2.1 (T k).2.2.1 = some x) (hfin : (T k).2.2.2 = true) (hin2 : meth.name = "<init>") (hdecl : (T k).1 = own) {ty : FieldType} {v : Value} (hd : parseFieldDescriptor (T k).2.2.1 = some ty) (hn : narrow ty v = v) (hfit : fits ty v = true) {M' : tm_M} (hv : tm_V kd M' a k = v) (ho : ∀ kd q j, (q ≠ a ∨ j ≠ k) → tm_V kd M' q j = tm_V kd M q j)
    (hdg : decode cc pc = .ok (.putfield index, 3)) (kk : ∀ (H1 : Heap) (locs1 : List Loc), tm_W G Hb sh M' H1 → va_S (tm_A Hb) H0 H1 locs1 → W p l e R s m args below meth c H1 locs1 cells slots Q (F0 m (pc + 3) ls rest)) : W p l e R s m args below meth c H locs cells slots Q (F0 m pc ls (v :: .ref a :: rest)) := by
  have hap := va_apart (own := own) hts hin ty0 hty hnm hK hc
  obtain ⟨hlo, hat, -⟩ := hW.1 a kd n hq
  obtain ⟨r, h1, cell, q1, q2, q3, q4⟩ := hat hkd
  have hr : r = (C, T, N) := Option.some.inj (h1.symm.trans hc)
  subst hr
  obtain ⟨hS, hfc, kC, hkC, hkind⟩ := hK.1 kd _ hc
  obtain ⟨cf, kf, fi, f, hi, hsl⟩ := hS k hk
  have hlay := hts _ (hin _ (u_in_lay hk))
  unfold u_lay at hlay
  rw [if_pos hfin] at hlay
  have hst := (u_facts hfc hkC (u_lays hts hin hk) hi).1
  have hcf : m.cls = cf := by
    obtain ⟨_, _, c', _, _, _, -, -, hf', -, -, -, hown2, -⟩ := Cond.laysFinal_spec hlay
    have e1 : c' = cf := by have := hi.symm.trans hf'; simp at this; exact this.1.symm
    rw [hdecl] at hown2
    rw [← e1]; exact Option.some.inj (hown.symm.trans hown2)
  have h6 := u_fits hfc hkC hkind (Or.inr hlay) hi hd hn hfit
  refine W.putFinK hexec hb hown hlink (hsame _ hi) hst hcf hin2 (by rw [q2]; exact h6) q1 q3 (by rw [hsl]; exact k2_hasslot (q4 k hk)) rfl rfl hdg fun H' e1 e2 e3 => ?_
  rw [hsl] at e1 ⊢
  refine kk H' _ (hW.set hq ⟨fun _ => ⟨_, hc, t_OB.to (V := updV (tm_V kd M a) k v) ⟨_, e1, q2, q3, t_set q4 hap hk v⟩ (fun j _ => ?_)⟩, fun z => absurd z (by omega)⟩ e3 (fun kd q j hne => ho kd q j (Or.inl hne))) (hS0.put e2 e3 hlo)
  by_cases hj : j = k
  · subst hj
    rw [hv]
    simp [updV]
  · rw [ho kd a j (Or.inr hj)]
    simp [updV, hj]
end TMR
theorem tm_nb {v : Int} (h : -128 ≤ v ∧ v < 128) : narrow .byte (.int (Int32.ofInt v)) = .int (Int32.ofInt v) := by
  have e : (Int32.ofInt v).toInt8.toInt32 = Int32.ofInt v := by
    apply Int32.toInt_inj.mp
    rw [Int8.toInt_toInt32, Int32.toInt_toInt8, Int32.toInt_ofInt_of_le (by omega) (by omega)]
    exact Int.bmod_eq_of_le (by omega) (by omega)
  have h2 := pk_nb (Int32.ofInt v)
  rw [e] at h2
  exact h2
theorem tm_nz {v : Int} (h : v = 0 ∨ v = 1) : narrow .boolean (.int (Int32.ofInt v)) = .int (Int32.ofInt v) := by
  rcases h with rfl | rfl <;> decide
theorem tm_nn {e : Int} (h0 : 0 ≤ e) (h1 : e < 2147483648) : ¬ Int32.ofInt e < 0 ∧ (Int32.ofInt e).toNatClampNeg = e.toNat := by
  have e1 : (Int32.ofInt e).toInt = e := Int32.toInt_ofInt_of_le (by omega) (by omega)
  refine ⟨fun h => ?_, ?_⟩
  · have h2 := Int32.lt_iff_toInt_lt.mp h
    rw [e1, Int32.toInt_zero] at h2
    omega
  · show (Int32.ofInt e).toInt.toNat = e.toNat
    rw [e1]
theorem tm_ix {e : Int} {n : Nat} (h0 : 0 ≤ e) (h1 : e < n) (hn : n < 2147483648) : vp_in (Int32.ofInt e) n ∧ (Int32.ofInt e).toNatClampNeg = e.toNat := by
  obtain ⟨h2, h3⟩ := tm_nn h0 (by omega)
  refine ⟨fun h => ?_, h3⟩
  rcases h with h | h
  · exact h2 h
  · rw [h3] at h
    omega
theorem tm_arr {G : tm_G} {Hb H : Heap} {sh : tm_sh} {M : tm_M} {a kd n : Nat} (hW : tm_W G Hb sh M H) (hq : sh a = some (kd, n)) (hk : 20 ≤ kd) : H[a]? = some (arrV (G.2 kd) n (tm_V kd M a)) := (hW.1 a kd n hq).2.2 hk
theorem tm_W.setA {G : tm_G} {Hb : Heap} {sh : tm_sh} {M M' : tm_M} {H H1 : Heap} {a kd n k : Nat} {v : Value} (h : tm_W G Hb sh M H) (ha : sh a = some (kd, n)) (hk : 20 ≤ kd) (e1 : H1[a]? = some ((arrV (G.2 kd) n (tm_V kd M a)).setSlot k v)) (oq : ∀ q : Nat, q ≠ a → H1[q]? = H[q]?) (hv : tm_V kd M' a k = v) (ho : ∀ kd q j, (q ≠ a ∨ j ≠ k) → tm_V kd M' q j = tm_V kd M q j) : tm_W G Hb sh M' H1 := by
  refine h.set ha ⟨fun z => absurd z (by omega), fun _ => ?_⟩ oq (fun kd q j hne => ho kd q j (Or.inl hne))
  rw [e1, arrV_store]
  congr 2
  funext j
  by_cases hj : j = k
  · subst hj
    rw [hv]
    simp [updV]
  · rw [ho kd a j (Or.inr hj)]
    simp [updV, hj]
section TMS
variable {p : Program} {l : Launch} {e : Env} {R : Room} {s : State} {m : MethodId} {args : Array Value} {below : List Frame} {meth : Method} {c : Code} {H : Heap} {locs : List Loc} {cells slots : Nat} {Q : State → Prop}
variable {cc : ByteArray} {pc : Nat} {ls : Array Slot} {rest : List Value} {G : tm_G} {Hb H0 : Heap} {sh : tm_sh} {M : tm_M} {a kd n : Nat} {tys : List (ClassId × FieldType)}
theorem tm_iald (hexec : p.tables.exec = Jvm.exec) (hb : c.code = cc) (hK : va_K G.1 vwCl (tm_tys G) s) (hW : tm_W G Hb sh M H) (hq : sh a = some (20, n)) {x : Int} (h0 : 0 ≤ x) (h1 : x < n) (hn : n < 2147483648) (hdg : decode cc pc = .ok (.iaload, 1))
    (kk : W p l e R s m args below meth c H locs cells slots Q (F0 m (pc + 1) ls (ji (mI M a x.toNat) :: rest))) : W p l e R s m args below meth c H locs cells slots Q (F0 m pc ls (ji x :: .ref a :: rest)) := by
  obtain ⟨hin, hcl⟩ := tm_ix h0 h1 hn
  have hlt : x.toNat < n := by omega
  exact W.iald (v := ji (mI M a x.toNat)) hexec hb (tm_arr hW hq (by decide)) ((hK.2 0 _ rfl).1 n (tm_V 20 M a)) (fun q => by cases q) (by rw [arrV_size]; exact hin) (by rw [hcl, arrV_read _ _ hlt]; exact congrArg some (tm_V0 rfl M a)) rfl rfl hdg kk
theorem tm_lald (hexec : p.tables.exec = Jvm.exec) (hb : c.code = cc) (hK : va_K G.1 vwCl (tm_tys G) s) (hW : tm_W G Hb sh M H) (hq : sh a = some (21, n)) {x : Int} (h0 : 0 ≤ x) (h1 : x < n) (hn : n < 2147483648) (hdg : decode cc pc = .ok (.laload, 1))
    (kk : W p l e R s m args below meth c H locs cells slots Q (F0 m (pc + 1) ls (jl (mL M a x.toNat) :: rest))) : W p l e R s m args below meth c H locs cells slots Q (F0 m pc ls (ji x :: .ref a :: rest)) := by
  obtain ⟨hin, hcl⟩ := tm_ix h0 h1 hn
  have hlt : x.toNat < n := by omega
  exact W.lald (v := jl (mL M a x.toNat)) hexec hb (tm_arr hW hq (by decide)) ((hK.2 1 _ rfl).1 n (tm_V 21 M a)) (fun q => by cases q) (by rw [arrV_size]; exact hin) (by rw [hcl, arrV_read _ _ hlt]; exact congrArg some (tm_V1 rfl M a)) rfl rfl hdg kk
theorem tm_bald (hexec : p.tables.exec = Jvm.exec) (hb : c.code = cc) (hK : va_K G.1 vwCl (tm_tys G) s) (hW : tm_W G Hb sh M H) (hq : sh a = some (22, n)) {x : Int} (h0 : 0 ≤ x) (h1 : x < n) (hn : n < 2147483648) (hdg : decode cc pc = .ok (.baload, 1))
    (kk : W p l e R s m args below meth c H locs cells slots Q (F0 m (pc + 1) ls (ji (mI M a x.toNat) :: rest))) : W p l e R s m args below meth c H locs cells slots Q (F0 m pc ls (ji x :: .ref a :: rest)) := by
  obtain ⟨hin, hcl⟩ := tm_ix h0 h1 hn
  have hlt : x.toNat < n := by omega
  exact W.bald (v := ji (mI M a x.toNat)) hexec hb (tm_arr hW hq (by decide)) ((hK.2 2 _ rfl).1 n (tm_V 22 M a)) (fun q => by cases q) (by rw [arrV_size]; exact hin) (by rw [hcl, arrV_read _ _ hlt]; exact congrArg some (tm_V0 rfl M a)) rfl rfl hdg kk
theorem tm_zald (hexec : p.tables.exec = Jvm.exec) (hb : c.code = cc) (hK : va_K G.1 vwCl (tm_tys G) s) (hW : tm_W G Hb sh M H) (hq : sh a = some (23, n)) {x : Int} (h0 : 0 ≤ x) (h1 : x < n) (hn : n < 2147483648) (hdg : decode cc pc = .ok (.baload, 1))
    (kk : W p l e R s m args below meth c H locs cells slots Q (F0 m (pc + 1) ls (ji (mI M a x.toNat) :: rest))) : W p l e R s m args below meth c H locs cells slots Q (F0 m pc ls (ji x :: .ref a :: rest)) := by
  obtain ⟨hin, hcl⟩ := tm_ix h0 h1 hn
  have hlt : x.toNat < n := by omega
  exact W.zald (v := ji (mI M a x.toNat)) hexec hb (tm_arr hW hq (by decide)) ((hK.2 3 _ rfl).1 n (tm_V 23 M a)) (fun q => by cases q) (by rw [arrV_size]; exact hin) (by rw [hcl, arrV_read _ _ hlt]; exact congrArg some (tm_V0 rfl M a)) rfl rfl hdg kk
theorem tm_aaldS (hexec : p.tables.exec = Jvm.exec) (hb : c.code = cc) (hK : va_K G.1 vwCl (tm_tys G) s) (hW : tm_W G Hb sh M H) (hq : sh a = some (24, n)) {x : Int} (h0 : 0 ≤ x) (h1 : x < n) (hn : n < 2147483648) {b : Nat} (hr : mR M a x.toNat = some b) (hdg : decode cc pc = .ok (.aaload, 1))
    (kk : W p l e R s m args below meth c H locs cells slots Q (F0 m (pc + 1) ls (.ref b :: rest))) : W p l e R s m args below meth c H locs cells slots Q (F0 m pc ls (ji x :: .ref a :: rest)) := by
  obtain ⟨hin, hcl⟩ := tm_ix h0 h1 hn
  have hlt : x.toNat < n := by omega
  exact W.aald (v := .ref b) (ty := .object "TutorLines$Side") hexec hb (tm_arr hW hq (by decide)) ((hK.2 4 _ rfl).1 n (tm_V 24 M a)) rfl (fun q => by cases q) (by rw [arrV_size]; exact hin) (by rw [hcl, arrV_read _ _ hlt]; exact congrArg some ((tm_V2 rfl M a).trans (by rw [hr]; rfl))) rfl rfl hdg kk
theorem tm_aaldL (hexec : p.tables.exec = Jvm.exec) (hb : c.code = cc) (hK : va_K G.1 vwCl (tm_tys G) s) (hW : tm_W G Hb sh M H) (hq : sh a = some (25, n)) {x : Int} (h0 : 0 ≤ x) (h1 : x < n) (hn : n < 2147483648) {b : Nat} (hr : mR M a x.toNat = some b) (hdg : decode cc pc = .ok (.aaload, 1))
    (kk : W p l e R s m args below meth c H locs cells slots Q (F0 m (pc + 1) ls (.ref b :: rest))) : W p l e R s m args below meth c H locs cells slots Q (F0 m pc ls (ji x :: .ref a :: rest)) := by
  obtain ⟨hin, hcl⟩ := tm_ix h0 h1 hn
  have hlt : x.toNat < n := by omega
  exact W.aald (v := .ref b) (ty := .object "TutorLines$Line") hexec hb (tm_arr hW hq (by decide)) ((hK.2 5 _ rfl).1 n (tm_V 25 M a)) rfl (fun q => by cases q) (by rw [arrV_size]; exact hin) (by rw [hcl, arrV_read _ _ hlt]; exact congrArg some ((tm_V2 rfl M a).trans (by rw [hr]; rfl))) rfl rfl hdg kk
theorem tm_iast (hexec : p.tables.exec = Jvm.exec) (hb : c.code = cc) (hK : va_K G.1 vwCl (tm_tys G) s) (hW : tm_W G Hb sh M H) (hS : va_S (tm_A Hb) H0 H locs) (hq : sh a = some (20, n)) {x v : Int} (h0 : 0 ≤ x) (h1 : x < n) (hn : n < 2147483648) (hdg : decode cc pc = .ok (.iastore, 1))
    (kk : ∀ (H1 : Heap) (locs1 : List Loc), tm_W G Hb sh (sI M a x.toNat v) H1 → va_S (tm_A Hb) H0 H1 locs1 → W p l e R s m args below meth c H1 locs1 cells slots Q (F0 m (pc + 1) ls (rest))) : W p l e R s m args below meth c H locs cells slots Q (F0 m pc ls (ji v :: ji x :: .ref a :: rest)) := by
  obtain ⟨hin, hcl⟩ := tm_ix h0 h1 hn
  refine W.iast hexec hb (tm_arr hW hq (by decide)) ((hK.2 0 _ rfl).1 n (tm_V 20 M a)) (fun q => by cases q) (by rw [arrV_size]; exact hin) rfl rfl hdg fun H1 e1 z oq => ?_
  exact kk H1 _ (hW.setA hq (by decide) e1 oq (by rw [hcl]; exact (tm_V0 rfl _ a).trans (by rw [show mI (sI M a x.toNat v) a x.toNat = v from tm_up_s _ _ _ _])) (fun kd q j h => tm_V_sI (by rw [← hcl]; exact h))) (hS.put z oq (hW.1 a _ _ hq).1)
theorem tm_last (hexec : p.tables.exec = Jvm.exec) (hb : c.code = cc) (hK : va_K G.1 vwCl (tm_tys G) s) (hW : tm_W G Hb sh M H) (hS : va_S (tm_A Hb) H0 H locs) (hq : sh a = some (21, n)) {x v : Int} (h0 : 0 ≤ x) (h1 : x < n) (hn : n < 2147483648) (hdg : decode cc pc = .ok (.lastore, 1))
    (kk : ∀ (H1 : Heap) (locs1 : List Loc), tm_W G Hb sh (sL M a x.toNat v) H1 → va_S (tm_A Hb) H0 H1 locs1 → W p l e R s m args below meth c H1 locs1 cells slots Q (F0 m (pc + 1) ls (rest))) : W p l e R s m args below meth c H locs cells slots Q (F0 m pc ls (jl v :: ji x :: .ref a :: rest)) := by
  obtain ⟨hin, hcl⟩ := tm_ix h0 h1 hn
  refine W.last hexec hb (tm_arr hW hq (by decide)) ((hK.2 1 _ rfl).1 n (tm_V 21 M a)) (fun q => by cases q) (by rw [arrV_size]; exact hin) rfl rfl hdg fun H1 e1 z oq => ?_
  exact kk H1 _ (hW.setA hq (by decide) e1 oq (by rw [hcl]; exact (tm_V1 rfl _ a).trans (by rw [show mL (sL M a x.toNat v) a x.toNat = v from tm_up_s _ _ _ _])) (fun kd q j h => tm_V_sL (by rw [← hcl]; exact h))) (hS.put z oq (hW.1 a _ _ hq).1)
theorem tm_bast (hexec : p.tables.exec = Jvm.exec) (hb : c.code = cc) (hK : va_K G.1 vwCl (tm_tys G) s) (hW : tm_W G Hb sh M H) (hS : va_S (tm_A Hb) H0 H locs) (hq : sh a = some (22, n)) {x v : Int} (h0 : 0 ≤ x) (h1 : x < n) (hn : n < 2147483648) (hv : -128 ≤ v ∧ v < 128) (hdg : decode cc pc = .ok (.bastore, 1))
    (kk : ∀ (H1 : Heap) (locs1 : List Loc), tm_W G Hb sh (sI M a x.toNat v) H1 → va_S (tm_A Hb) H0 H1 locs1 → W p l e R s m args below meth c H1 locs1 cells slots Q (F0 m (pc + 1) ls (rest))) : W p l e R s m args below meth c H locs cells slots Q (F0 m pc ls (ji v :: ji x :: .ref a :: rest)) := by
  obtain ⟨hin, hcl⟩ := tm_ix h0 h1 hn
  have hnar : narrow .byte (.int (Int32.ofInt v)) = .int (Int32.ofInt v) := tm_nb hv
  refine W.bast hexec hb (tm_arr hW hq (by decide)) ((hK.2 2 _ rfl).1 n (tm_V 22 M a)) (fun q => by cases q) (by rw [arrV_size]; exact hin) rfl rfl hdg fun H1 e1 z oq => ?_
  exact kk H1 _ (hW.setA hq (by decide) e1 oq (by rw [hcl]; refine (tm_V0 rfl _ a).trans ?_; rw [show mI (sI M a x.toNat v) a x.toNat = v from tm_up_s _ _ _ _]; exact hnar.symm) (fun kd q j h => tm_V_sI (by rw [← hcl]; exact h))) (hS.put z oq (hW.1 a _ _ hq).1)
theorem tm_zast (hexec : p.tables.exec = Jvm.exec) (hb : c.code = cc) (hK : va_K G.1 vwCl (tm_tys G) s) (hW : tm_W G Hb sh M H) (hS : va_S (tm_A Hb) H0 H locs) (hq : sh a = some (23, n)) {x v : Int} (h0 : 0 ≤ x) (h1 : x < n) (hn : n < 2147483648) (hv : v = 0 ∨ v = 1) (hdg : decode cc pc = .ok (.bastore, 1))
    (kk : ∀ (H1 : Heap) (locs1 : List Loc), tm_W G Hb sh (sI M a x.toNat v) H1 → va_S (tm_A Hb) H0 H1 locs1 → W p l e R s m args below meth c H1 locs1 cells slots Q (F0 m (pc + 1) ls (rest))) : W p l e R s m args below meth c H locs cells slots Q (F0 m pc ls (ji v :: ji x :: .ref a :: rest)) := by
  obtain ⟨hin, hcl⟩ := tm_ix h0 h1 hn
  have hnar : narrow .boolean (.int (Int32.ofInt v)) = .int (Int32.ofInt v) := tm_nz hv
  refine W.zast hexec hb (tm_arr hW hq (by decide)) ((hK.2 3 _ rfl).1 n (tm_V 23 M a)) (fun q => by cases q) (by rw [arrV_size]; exact hin) rfl rfl hdg fun H1 e1 z oq => ?_
  exact kk H1 _ (hW.setA hq (by decide) e1 oq (by rw [hcl]; refine (tm_V0 rfl _ a).trans ?_; rw [show mI (sI M a x.toNat v) a x.toNat = v from tm_up_s _ _ _ _]; exact hnar.symm) (fun kd q j h => tm_V_sI (by rw [← hcl]; exact h))) (hS.put z oq (hW.1 a _ _ hq).1)
end TMS
