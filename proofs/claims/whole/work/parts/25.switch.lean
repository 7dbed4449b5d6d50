/-! switches over Int (by program: wip/whole/gen/switch.py) -/
section TSW
variable {p : Program} {l : Launch} {e : Env} {R : Room} {s : State} {m : MethodId} {args : Array Value} {below : List Frame} {meth : Method} {c : Code} {H : Heap} {locs : List Loc} {cells slots : Nat} {Q : State → Prop}
variable {cc : ByteArray} {pc : Nat} {ls : Array Slot} {rest : List Value}
theorem ti_ts_1_3 (hexec : p.tables.exec = Jvm.exec) (hb : c.code = cc) {x d o1 o2 o3 : Int} {len td t1 t2 t3 : Nat} (hdg : decode cc pc = .ok (.tableswitch d 1 3 #[o1, o2, o3], len)) (hx : inI x) (ht1 : (pc : Int) + o1 = (t1 : Int)) (ht2 : (pc : Int) + o2 = (t2 : Int)) (ht3 : (pc : Int) + o3 = (t3 : Int)) (htd : (pc : Int) + d = (td : Int)) (k1 : x = 1 → W p l e R s m args below meth c H locs cells slots Q (F0 m t1 ls rest)) (k2 : x = 2 → W p l e R s m args below meth c H locs cells slots Q (F0 m t2 ls rest)) (k3 : x = 3 → W p l e R s m args below meth c H locs cells slots Q (F0 m t3 ls rest)) (kd : (x < 1 ∨ 3 < x) → W p l e R s m args below meth c H locs cells slots Q (F0 m td ls rest)) : W p l e R s m args below meth c H locs cells slots Q (F0 m pc ls (ji x :: rest)) := by
  by_cases h1 : x = 1
  · subst h1
    exact lv_tableIn hexec hb hdg (by decide) (by decide) rfl ht1 (k1 rfl)
  by_cases h2 : x = 2
  · subst h2
    exact lv_tableIn hexec hb hdg (by decide) (by decide) rfl ht2 (k2 rfl)
  by_cases h3 : x = 3
  · subst h3
    exact lv_tableIn hexec hb hdg (by decide) (by decide) rfl ht3 (k3 rfl)
  exact lv_tableOut hexec hb hdg (by rw [tn_i hx]; omega) htd (kd (by omega))
theorem ti_ts_60_62 (hexec : p.tables.exec = Jvm.exec) (hb : c.code = cc) {x d o60 o61 o62 : Int} {len td t60 t61 t62 : Nat} (hdg : decode cc pc = .ok (.tableswitch d 60 62 #[o60, o61, o62], len)) (hx : inI x) (ht60 : (pc : Int) + o60 = (t60 : Int)) (ht61 : (pc : Int) + o61 = (t61 : Int)) (ht62 : (pc : Int) + o62 = (t62 : Int)) (htd : (pc : Int) + d = (td : Int)) (k60 : x = 60 → W p l e R s m args below meth c H locs cells slots Q (F0 m t60 ls rest)) (k61 : x = 61 → W p l e R s m args below meth c H locs cells slots Q (F0 m t61 ls rest)) (k62 : x = 62 → W p l e R s m args below meth c H locs cells slots Q (F0 m t62 ls rest)) (kd : (x < 60 ∨ 62 < x) → W p l e R s m args below meth c H locs cells slots Q (F0 m td ls rest)) : W p l e R s m args below meth c H locs cells slots Q (F0 m pc ls (ji x :: rest)) := by
  by_cases h60 : x = 60
  · subst h60
    exact lv_tableIn hexec hb hdg (by decide) (by decide) rfl ht60 (k60 rfl)
  by_cases h61 : x = 61
  · subst h61
    exact lv_tableIn hexec hb hdg (by decide) (by decide) rfl ht61 (k61 rfl)
  by_cases h62 : x = 62
  · subst h62
    exact lv_tableIn hexec hb hdg (by decide) (by decide) rfl ht62 (k62 rfl)
  exact lv_tableOut hexec hb hdg (by rw [tn_i hx]; omega) htd (kd (by omega))
theorem ti_ts_1_6 (hexec : p.tables.exec = Jvm.exec) (hb : c.code = cc) {x d o1 o2 o3 o4 o5 o6 : Int} {len td t1 t2 t3 t4 t5 t6 : Nat} (hdg : decode cc pc = .ok (.tableswitch d 1 6 #[o1, o2, o3, o4, o5, o6], len)) (hx : inI x) (ht1 : (pc : Int) + o1 = (t1 : Int)) (ht2 : (pc : Int) + o2 = (t2 : Int)) (ht3 : (pc : Int) + o3 = (t3 : Int)) (ht4 : (pc : Int) + o4 = (t4 : Int)) (ht5 : (pc : Int) + o5 = (t5 : Int)) (ht6 : (pc : Int) + o6 = (t6 : Int)) (htd : (pc : Int) + d = (td : Int)) (k1 : x = 1 → W p l e R s m args below meth c H locs cells slots Q (F0 m t1 ls rest)) (k2 : x = 2 → W p l e R s m args below meth c H locs cells slots Q (F0 m t2 ls rest)) (k3 : x = 3 → W p l e R s m args below meth c H locs cells slots Q (F0 m t3 ls rest)) (k4 : x = 4 → W p l e R s m args below meth c H locs cells slots Q (F0 m t4 ls rest)) (k5 : x = 5 → W p l e R s m args below meth c H locs cells slots Q (F0 m t5 ls rest)) (k6 : x = 6 → W p l e R s m args below meth c H locs cells slots Q (F0 m t6 ls rest)) (kd : (x < 1 ∨ 6 < x) → W p l e R s m args below meth c H locs cells slots Q (F0 m td ls rest)) : W p l e R s m args below meth c H locs cells slots Q (F0 m pc ls (ji x :: rest)) := by
  by_cases h1 : x = 1
  · subst h1
    exact lv_tableIn hexec hb hdg (by decide) (by decide) rfl ht1 (k1 rfl)
  by_cases h2 : x = 2
  · subst h2
    exact lv_tableIn hexec hb hdg (by decide) (by decide) rfl ht2 (k2 rfl)
  by_cases h3 : x = 3
  · subst h3
    exact lv_tableIn hexec hb hdg (by decide) (by decide) rfl ht3 (k3 rfl)
  by_cases h4 : x = 4
  · subst h4
    exact lv_tableIn hexec hb hdg (by decide) (by decide) rfl ht4 (k4 rfl)
  by_cases h5 : x = 5
  · subst h5
    exact lv_tableIn hexec hb hdg (by decide) (by decide) rfl ht5 (k5 rfl)
  by_cases h6 : x = 6
  · subst h6
    exact lv_tableIn hexec hb hdg (by decide) (by decide) rfl ht6 (k6 rfl)
  exact lv_tableOut hexec hb hdg (by rw [tn_i hx]; omega) htd (kd (by omega))
theorem ti_ts_1_4 (hexec : p.tables.exec = Jvm.exec) (hb : c.code = cc) {x d o1 o2 o3 o4 : Int} {len td t1 t2 t3 t4 : Nat} (hdg : decode cc pc = .ok (.tableswitch d 1 4 #[o1, o2, o3, o4], len)) (hx : inI x) (ht1 : (pc : Int) + o1 = (t1 : Int)) (ht2 : (pc : Int) + o2 = (t2 : Int)) (ht3 : (pc : Int) + o3 = (t3 : Int)) (ht4 : (pc : Int) + o4 = (t4 : Int)) (htd : (pc : Int) + d = (td : Int)) (k1 : x = 1 → W p l e R s m args below meth c H locs cells slots Q (F0 m t1 ls rest)) (k2 : x = 2 → W p l e R s m args below meth c H locs cells slots Q (F0 m t2 ls rest)) (k3 : x = 3 → W p l e R s m args below meth c H locs cells slots Q (F0 m t3 ls rest)) (k4 : x = 4 → W p l e R s m args below meth c H locs cells slots Q (F0 m t4 ls rest)) (kd : (x < 1 ∨ 4 < x) → W p l e R s m args below meth c H locs cells slots Q (F0 m td ls rest)) : W p l e R s m args below meth c H locs cells slots Q (F0 m pc ls (ji x :: rest)) := by
  by_cases h1 : x = 1
  · subst h1
    exact lv_tableIn hexec hb hdg (by decide) (by decide) rfl ht1 (k1 rfl)
  by_cases h2 : x = 2
  · subst h2
    exact lv_tableIn hexec hb hdg (by decide) (by decide) rfl ht2 (k2 rfl)
  by_cases h3 : x = 3
  · subst h3
    exact lv_tableIn hexec hb hdg (by decide) (by decide) rfl ht3 (k3 rfl)
  by_cases h4 : x = 4
  · subst h4
    exact lv_tableIn hexec hb hdg (by decide) (by decide) rfl ht4 (k4 rfl)
  exact lv_tableOut hexec hb hdg (by rw [tn_i hx]; omega) htd (kd (by omega))
theorem ti_ts_0_3 (hexec : p.tables.exec = Jvm.exec) (hb : c.code = cc) {x d o0 o1 o2 o3 : Int} {len td t0 t1 t2 t3 : Nat} (hdg : decode cc pc = .ok (.tableswitch d 0 3 #[o0, o1, o2, o3], len)) (hx : inI x) (ht0 : (pc : Int) + o0 = (t0 : Int)) (ht1 : (pc : Int) + o1 = (t1 : Int)) (ht2 : (pc : Int) + o2 = (t2 : Int)) (ht3 : (pc : Int) + o3 = (t3 : Int)) (htd : (pc : Int) + d = (td : Int)) (k0 : x = 0 → W p l e R s m args below meth c H locs cells slots Q (F0 m t0 ls rest)) (k1 : x = 1 → W p l e R s m args below meth c H locs cells slots Q (F0 m t1 ls rest)) (k2 : x = 2 → W p l e R s m args below meth c H locs cells slots Q (F0 m t2 ls rest)) (k3 : x = 3 → W p l e R s m args below meth c H locs cells slots Q (F0 m t3 ls rest)) (kd : (x < 0 ∨ 3 < x) → W p l e R s m args below meth c H locs cells slots Q (F0 m td ls rest)) : W p l e R s m args below meth c H locs cells slots Q (F0 m pc ls (ji x :: rest)) := by
  by_cases h0 : x = 0
  · subst h0
    exact lv_tableIn hexec hb hdg (by decide) (by decide) rfl ht0 (k0 rfl)
  by_cases h1 : x = 1
  · subst h1
    exact lv_tableIn hexec hb hdg (by decide) (by decide) rfl ht1 (k1 rfl)
  by_cases h2 : x = 2
  · subst h2
    exact lv_tableIn hexec hb hdg (by decide) (by decide) rfl ht2 (k2 rfl)
  by_cases h3 : x = 3
  · subst h3
    exact lv_tableIn hexec hb hdg (by decide) (by decide) rfl ht3 (k3 rfl)
  exact lv_tableOut hexec hb hdg (by rw [tn_i hx]; omega) htd (kd (by omega))
theorem ti_ts_0_13 (hexec : p.tables.exec = Jvm.exec) (hb : c.code = cc) {x d o0 o1 o2 o3 o4 o5 o6 o7 o8 o9 o10 o11 o12 o13 : Int} {len td t0 t1 t2 t3 t4 t5 t6 t7 t8 t9 t10 t11 t12 t13 : Nat} (hdg : decode cc pc = .ok (.tableswitch d 0 13 #[o0, o1, o2, o3, o4, o5, o6, o7, o8, o9, o10, o11, o12, o13], len)) (hx : inI x) (ht0 : (pc : Int) + o0 = (t0 : Int)) (ht1 : (pc : Int) + o1 = (t1 : Int)) (ht2 : (pc : Int) + o2 = (t2 : Int)) (ht3 : (pc : Int) + o3 = (t3 : Int)) (ht4 : (pc : Int) + o4 = (t4 : Int)) (ht5 : (pc : Int) + o5 = (t5 : Int)) (ht6 : (pc : Int) + o6 = (t6 : Int)) (ht7 : (pc : Int) + o7 = (t7 : Int)) (ht8 : (pc : Int) + o8 = (t8 : Int)) (ht9 : (pc : Int) + o9 = (t9 : Int)) (ht10 : (pc : Int) + o10 = (t10 : Int)) (ht11 : (pc : Int) + o11 = (t11 : Int)) (ht12 : (pc : Int) + o12 = (t12 : Int)) (ht13 : (pc : Int) + o13 = (t13 : Int)) (htd : (pc : Int) + d = (td : Int)) (k0 : x = 0 → W p l e R s m args below meth c H locs cells slots Q (F0 m t0 ls rest)) (k1 : x = 1 → W p l e R s m args below meth c H locs cells slots Q (F0 m t1 ls rest)) (k2 : x = 2 → W p l e R s m args below meth c H locs cells slots Q (F0 m t2 ls rest)) (k3 : x = 3 → W p l e R s m args below meth c H locs cells slots Q (F0 m t3 ls rest)) (k4 : x = 4 → W p l e R s m args below meth c H locs cells slots Q (F0 m t4 ls rest)) (k5 : x = 5 → W p l e R s m args below meth c H locs cells slots Q (F0 m t5 ls rest)) (k6 : x = 6 → W p l e R s m args below meth c H locs cells slots Q (F0 m t6 ls rest)) (k7 : x = 7 → W p l e R s m args below meth c H locs cells slots Q (F0 m t7 ls rest)) (k8 : x = 8 → W p l e R s m args below meth c H locs cells slots Q (F0 m t8 ls rest)) (k9 : x = 9 → W p l e R s m args below meth c H locs cells slots Q (F0 m t9 ls rest)) (k10 : x = 10 → W p l e R s m args below meth c H locs cells slots Q (F0 m t10 ls rest)) (k11 : x = 11 → W p l e R s m args below meth c H locs cells slots Q (F0 m t11 ls rest)) (k12 : x = 12 → W p l e R s m args below meth c H locs cells slots Q (F0 m t12 ls rest)) (k13 : x = 13 → W p l e R s m args below meth c H locs cells slots Q (F0 m t13 ls rest)) (kd : (x < 0 ∨ 13 < x) → W p l e R s m args below meth c H locs cells slots Q (F0 m td ls rest)) : W p l e R s m args below meth c H locs cells slots Q (F0 m pc ls (ji x :: rest)) := by
  by_cases h0 : x = 0
  · subst h0
    exact lv_tableIn hexec hb hdg (by decide) (by decide) rfl ht0 (k0 rfl)
  by_cases h1 : x = 1
  · subst h1
    exact lv_tableIn hexec hb hdg (by decide) (by decide) rfl ht1 (k1 rfl)
  by_cases h2 : x = 2
  · subst h2
    exact lv_tableIn hexec hb hdg (by decide) (by decide) rfl ht2 (k2 rfl)
  by_cases h3 : x = 3
  · subst h3
    exact lv_tableIn hexec hb hdg (by decide) (by decide) rfl ht3 (k3 rfl)
  by_cases h4 : x = 4
  · subst h4
    exact lv_tableIn hexec hb hdg (by decide) (by decide) rfl ht4 (k4 rfl)
  by_cases h5 : x = 5
  · subst h5
    exact lv_tableIn hexec hb hdg (by decide) (by decide) rfl ht5 (k5 rfl)
  by_cases h6 : x = 6
  · subst h6
    exact lv_tableIn hexec hb hdg (by decide) (by decide) rfl ht6 (k6 rfl)
  by_cases h7 : x = 7
  · subst h7
    exact lv_tableIn hexec hb hdg (by decide) (by decide) rfl ht7 (k7 rfl)
  by_cases h8 : x = 8
  · subst h8
    exact lv_tableIn hexec hb hdg (by decide) (by decide) rfl ht8 (k8 rfl)
  by_cases h9 : x = 9
  · subst h9
    exact lv_tableIn hexec hb hdg (by decide) (by decide) rfl ht9 (k9 rfl)
  by_cases h10 : x = 10
  · subst h10
    exact lv_tableIn hexec hb hdg (by decide) (by decide) rfl ht10 (k10 rfl)
  by_cases h11 : x = 11
  · subst h11
    exact lv_tableIn hexec hb hdg (by decide) (by decide) rfl ht11 (k11 rfl)
  by_cases h12 : x = 12
  · subst h12
    exact lv_tableIn hexec hb hdg (by decide) (by decide) rfl ht12 (k12 rfl)
  by_cases h13 : x = 13
  · subst h13
    exact lv_tableIn hexec hb hdg (by decide) (by decide) rfl ht13 (k13 rfl)
  exact lv_tableOut hexec hb hdg (by rw [tn_i hx]; omega) htd (kd (by omega))
theorem ti_lk_1_2 (hexec : p.tables.exec = Jvm.exec) (hb : c.code = cc) {x d o1 o2 : Int} {len td t1 t2 : Nat} (hdg : decode cc pc = .ok (.lookupswitch d #[(1, o1), (2, o2)], len)) (hx : inI x) (ht1 : (pc : Int) + o1 = (t1 : Int)) (ht2 : (pc : Int) + o2 = (t2 : Int)) (htd : (pc : Int) + d = (td : Int)) (k1 : x = 1 → W p l e R s m args below meth c H locs cells slots Q (F0 m t1 ls rest)) (k2 : x = 2 → W p l e R s m args below meth c H locs cells slots Q (F0 m t2 ls rest)) (kd : x ≠ 1 ∧ x ≠ 2 → W p l e R s m args below meth c H locs cells slots Q (F0 m td ls rest)) : W p l e R s m args below meth c H locs cells slots Q (F0 m pc ls (ji x :: rest)) := by
  by_cases h1 : x = 1
  · subst h1
    exact lv_lookup hexec hb hdg rfl rfl ht1 (k1 rfl)
  by_cases h2 : x = 2
  · subst h2
    exact lv_lookup hexec hb hdg rfl rfl ht2 (k2 rfl)
  refine lv_lookup hexec hb hdg rfl ?_ htd (kd ⟨h1, h2⟩)
  rw [tn_i hx, Op.lookupswitch.offset_cons, if_neg (by omega), Op.lookupswitch.offset_cons, if_neg (by omega)]
  rfl
theorem ti_lk_40_120 (hexec : p.tables.exec = Jvm.exec) (hb : c.code = cc) {x d o1 o2 : Int} {len td t1 t2 : Nat} (hdg : decode cc pc = .ok (.lookupswitch d #[(40, o1), (120, o2)], len)) (hx : inI x) (ht1 : (pc : Int) + o1 = (t1 : Int)) (ht2 : (pc : Int) + o2 = (t2 : Int)) (htd : (pc : Int) + d = (td : Int)) (k1 : x = 40 → W p l e R s m args below meth c H locs cells slots Q (F0 m t1 ls rest)) (k2 : x = 120 → W p l e R s m args below meth c H locs cells slots Q (F0 m t2 ls rest)) (kd : x ≠ 40 ∧ x ≠ 120 → W p l e R s m args below meth c H locs cells slots Q (F0 m td ls rest)) : W p l e R s m args below meth c H locs cells slots Q (F0 m pc ls (ji x :: rest)) := by
  by_cases h1 : x = 40
  · subst h1
    exact lv_lookup hexec hb hdg rfl rfl ht1 (k1 rfl)
  by_cases h2 : x = 120
  · subst h2
    exact lv_lookup hexec hb hdg rfl rfl ht2 (k2 rfl)
  refine lv_lookup hexec hb hdg rfl ?_ htd (kd ⟨h1, h2⟩)
  rw [tn_i hx, Op.lookupswitch.offset_cons, if_neg (by omega), Op.lookupswitch.offset_cons, if_neg (by omega)]
  rfl
end TSW
