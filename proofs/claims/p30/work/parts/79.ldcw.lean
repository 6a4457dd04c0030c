/-! A ROW MORE: a float that a wide constant row loads -/
theorem va_ldcwF {p : Program} {l : Launch} {e : Env} {R : Room} {s : State} {m : MethodId} {args : Array Value} {below : List Frame} {meth : Method} {c : Code} {locs : List Loc} {cells slots : Nat} {T : State} (X : Stand p l e R s m args below meth c T locs cells slots) (hexec : p.tables.exec = Jvm.exec) {own : String} {index : Nat} {v : UInt32} (hown : s.vm.findClass own = some m.cls)
    (hconst : (Cond.constantFloat own index v).before args s = true) {g : JFrame} (hg : g.method = m) (hdg : decode c.code g.pc = .ok (.ldc_w index, 3)) :
    ∀ target, Steps p.tables e below (T.setTop { g with pc := g.pc + 3, stack := .float v :: g.stack }) target → Steps p.tables e below (T.setTop g) target := by
  obtain ⟨k, cf, hk, hcf, hcp⟩ := Cond.constantFloat_spec hown hconst
  obtain ⟨k', hk', he⟩ := X.warmed.alike.2.2 _ _ hk
  intro target hrest
  subst hg
  jvm_step X.here [hexec, hdg, ldc_w.sem, ldc.wp_float (s := T) (f := g) X.here.top hk' (by rw [he]; exact hcf) hcp]
  exact hrest
section LDCW
variable {G : GP} {Y : MD} {pc pc' : Nat} {lo : List (Option Value)} {st : List Value} {σ : Sh} {d : Dt} {u : Nat × Nat} {Q : Option Value → Sh → Dt → Prop}
theorem m_ldcfw {i : Nat} {v : UInt32} (hd : decode (y_cc Y) pc = .ok (.ldc_w i, 3)) (hc : Cond.constantFloat Y.1.cls i v ∈ y_ws Y) (hp : pc + 3 = pc') (k : mM G Y pc' lo (.float v :: st) σ d u Q) : mM G Y pc lo (st) σ d u Q := by
  subst hp
  intro p e s m args below meth c C d0 hd0 H locs ls str hH hL hlo hst T hT X
  obtain ⟨t, a, b⟩ := k p e s m args below meth c C d0 hd0 H locs ls (.float v :: str) hH hL hlo ⟨_, _, rfl, ⟨_, rfl, fR_rfl _⟩, hst⟩ T hT X
  exact ⟨t, va_ldcwF X C.1 C.2.2.2.2.1 (dr_words C.2.2.2.2.2.1 d0 _ hc) (g := F0 m pc ls str) rfl (by rw [C.2.1]; exact hd) t a, b⟩
end LDCW
/-! CONTRACTS of methods whose class has rows of the machine's own, but not this method -/
theorem metD_ofWF {cs : List Choice} {l : Launch} {y : MethodName} {ws ws' : List Cond} {rm : Room} {Pc : Array Value → State → Prop} {Qc : Array Value → State → Outcome → State → Prop} {mc ms : Nat} {free : Addr → Prop} {cc : ByteArray} {maxL : Nat} {ret : Option FieldType}
    (hy : plainFor y = true) (hw : ws = Cond.code y cc maxL ret :: ws')
    (body : ∀ p e s m args below meth c s₁, BodyLoose p l y (headSpec ws rm) cc maxL ret e s m args below meth c s₁ → c.maxLocals = maxL → Pc args s → s.drawn.sameBut s.drawn cs →
      W p l e (headSpec ws rm).room (s.setDrawn s.drawn) m args below meth c s.heap [] 0 0 (MQD cs below Qc args s mc ms free) (entryFrame m args maxL)) : MetD cs l y ws rm Pc Qc mc ms free := by
  refine MetFree.of_bodySF (code := cc) (maxLocals := maxL) (ret := ret) hy ?_ ?_
  · intro args s m h hn
    obtain ⟨meth, c, h1, h2, h3, h4, h5, h6, -, -⟩ := Cond.code_spec hn (atoms_spec (ws := ws) h _ (by rw [hw]; exact List.mem_cons_self))
    exact ⟨meth, c, h1, h2, h3, h4, h5, h6⟩
  · intro p e s m args below meth c s₁ B hml hP _
    have hh0 : s₁.heap = s.heap := by rw [B.state]; rfl
    have X0 : Stand p l e (headSpec ws rm).room (s.setDrawn s.drawn) m args below meth c s₁ [] 0 0 := Stand.of_body B
    obtain ⟨t, a1, d, hd, o, b1, b2, b3, b4⟩ := body p e s m args below meth c s₁ B hml hP (Drawn.sameBut.refl _ _) s₁ hh0 X0
    exact ⟨t, o, a1, b1, b2, d, hd, b3, b4⟩
section OFF
variable {G : GP} {Y : MD} {σ : Sh} {d : Dt} {Q : Option Value → Sh → Dt → Prop} {A : List Value}
theorem mC_ofF (hpl : plainFor Y.1 = true) (hw : ∃ ws', y_ws Y = Cond.code Y.1 (y_cc Y) (y_nl Y) (y_rt Y) :: ws') (hA : A.length ≤ y_nl Y) (kk : mM G Y 0 (lo0 A (y_nl Y)) [] σ d (0, 0) Q) (h1A : (A.all fun a => vct a == 1) = true := by rfl) : mC G Y A σ d Q := by
  obtain ⟨ws', hw⟩ := hw
  intro Ar hAr
  refine metD_ofWF (cc := y_cc Y) (maxL := y_nl Y) (ret := y_rt Y) hpl hw ?_
  intro p e s m args below meth c s₁ B hml hv hd0
  obtain ⟨rfl, hH, hK⟩ := hv
  have hts := atoms_spec (ws := y_ws Y) B.pre
  have hown : s.vm.findClass Y.1.cls = some m.cls := findClass_of_methodNamed B.named
  have hlen : (lg_sl Ar).length ≤ y_nl Y := by rw [lg_sl_vRs h1A hAr, List.length_map, vRs_len hAr]; exact hA
  have hl := lv_entry Ar (n := y_nl Y) hlen
  rw [lg_entry_eq]
  refine kk p e s m Ar.toArray below meth c ⟨B.exec, B.bytes, B.returns, hml, hown, hts, B.notSynchronized, hK, (name_of_methodNamed B.named B.method).1⟩ s.drawn hd0 s.heap [] _ [] hH (fun q h => by cases h) ⟨_, hl, ?_, fun i v hi _ => ?_⟩ rfl
  · unfold lo0
    rw [List.length_append, List.length_map, List.length_replicate]
    omega
  · unfold lo0 at hi
    rcases Nat.lt_or_ge i A.length with h | h
    · rw [List.getElem?_append_left (by rw [List.length_map]; exact h), List.getElem?_map] at hi
      cases hv : A[i]? with
      | none => rw [hv] at hi; cases hi
      | some w =>
        rw [hv] at hi; cases hi
        obtain ⟨r, h1, h2⟩ := lv_args_vRs 0 h1A hAr i _ hv
        rw [Nat.zero_add] at h1
        exact ⟨r, h1, h2⟩
    · rw [List.getElem?_append_right (by rw [List.length_map]; exact h)] at hi
      have := List.mem_of_getElem? hi
      rw [List.mem_replicate] at this
      cases this.2
end OFF
