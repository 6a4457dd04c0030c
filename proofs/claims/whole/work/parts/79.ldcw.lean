/-! A ROW MORE: a float that a wide constant row loads -/
theorem va_ldcwF {p : Program} {l : Launch} {e : Env} {R : Room} {s : State} {m : MethodId} {args : Array Value} {below : List Frame} {meth : Method} {c : Code} {locs : List Loc} {cells slots : Nat} {T : State} (X : Stand p l e R s m args below meth c T locs cells slots) (hexec : p.tables.exec = Jvm.exec) {own : String} {index : Nat} {v : UInt32} (hown : s.vm.findClass own = some m.cls)
    (hconst : (Cond.constantFloat own index v).before args s = true) {g : JFrame} (hg : g.method = m) (hdg : decode c.code g.pc = .ok (.ldc_w index, 3)) :
    ∀ target, Steps p.tables e below (T.setTop { g with pc := g.pc + 3, stack := .float v :: g.stack }) target → Steps p.tables e below (T.setTop g) target := by
  obtain ⟨k, cf, hk, hcf, hcp⟩ := Cond.constantFloat_spec hown hconst
  obtain ⟨k', hk', he⟩ := X.warmed.alike.2.2 _ _ hk
  intro target hrest
  subst hg
  jvm_step X.here [hexec, hdg, ldc_w.sem, ldc.wp_float (s := T) (f := g) X.here.top hk' (by rw [he]; exact hcf) hcp]
  exact hrest
section LDCW
variable {G : GP} {Y : MD} {pc pc' : Nat} {lo : List (Option Value)} {st : List Value} {σ : Sh} {d : Dt} {u : Nat × Nat} {Q : Option Value → Sh → Dt → Prop}
theorem m_ldcfw {i : Nat} {v : UInt32} (hd : decode (y_cc Y) pc = .ok (.ldc_w i, 3)) (hc : Cond.constantFloat Y.1.cls i v ∈ y_ws Y) (hp : pc + 3 = pc') (k : mM G Y pc' lo (.float v :: st) σ d u Q) : mM G Y pc lo (st) σ d u Q := by
  subst hp
  intro p e s m args below meth c C d0 hd0 H locs ls str hH hL hlo hst T hT X
  obtain ⟨t, a, b⟩ := k p e s m args below meth c C d0 hd0 H locs ls (.float v :: str) hH hL hlo ⟨_, _, rfl, ⟨_, rfl, fR_rfl _⟩, hst⟩ T hT X
  exact ⟨t, va_ldcwF X C.1 C.2.2.2.2.1 (dr_words C.2.2.2.2.2.1 d0 _ hc) (g := F0 m pc ls str) rfl (by rw [C.2.1]; exact hd) t a, b⟩
end LDCW
