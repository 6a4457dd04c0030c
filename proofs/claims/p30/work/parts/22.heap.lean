/-! THE HEAP'S ROWS over mM -/
def u2 {α : Type} (m : Nat → Nat → α) (k j : Nat) (x : α) : Nat → Nat → α := fun a b => if a = k then (if b = j then x else m a b) else m a b
theorem u2_ne {α : Type} {m : Nat → Nat → α} {k j a : Nat} {x : α} (h : a ≠ k) : u2 m k j x a = m a := by funext b; simp [u2, h]
theorem u2_same {α : Type} {m : Nat → Nat → α} {k j : Nat} {x : α} : u2 m k j x k j = x := by simp [u2]
theorem u2_oth {α : Type} {m : Nat → Nat → α} {k j b : Nat} {x : α} (h : b ≠ j) (a : Nat) : u2 m k j x a b = m a b := by simp [u2, h]
/-- the abstract value of a field -/
def avl (σ : Sh) (d : Dt) (k j c : Nat) : Value := if c = 0 then .int (d.1 k j) else if c = 1 then .float (d.2 k j) else if c = 2 then va_rf (σ.2.2.2.1 k j) else .int (σ.2.2.2.2 k)
/-- a field that an instruction of Y names: class ci, field j, descriptor, final -/
def FA (Y : MD) (i ci j : Nat) (ds : String) (fin : Bool) : Prop := ∃ (C : String) (T : u_T) (N : Nat), vwCl[ci]? = some (C, T, N) ∧ j < N ∧ (∀ w ∈ u_ws C T N, w ∈ y_ws Y) ∧ Cond.fieldLink Y.1.cls i (T j).1 (T j).2.1 (T j).2.2.1 ∈ y_ws Y ∧ N = (fco ci).length ∧ (T j).2.2.1 = ds ∧ (T j).2.2.2 = fin ∧ (fin = true → Y.1.name = "<init>" → (T j).1 = Y.1.cls)
def CF (C : String) (T : u_T) (N : Nat) : Prop := ∃ ty0 : Nat → FieldType, (∀ k, k < N → parseFieldDescriptor (T k).2.2.1 = some (ty0 k)) ∧ (∀ a, a < N → ∀ b, b < N → a ≠ b → (T a).2.1 ≠ (T b).2.1)
theorem cf_all : ∀ (ci : Nat) (C : String) (T : u_T) (N : Nat), vwCl[ci]? = some (C, T, N) → ci < 12 ∧ CF C T N := by
  intro ci C T N h
  match ci, h with
  | 0, h => cases h; exact ⟨by decide, _, tyX0_ok, nmX0⟩
  | 1, h => cases h; exact ⟨by decide, _, tyX1_ok, nmX1⟩
  | 2, h => cases h; exact ⟨by decide, _, tyX2_ok, nmX2⟩
  | 3, h => cases h; exact ⟨by decide, _, tyX3_ok, nmX3⟩
  | 4, h => cases h; exact ⟨by decide, _, tyX4_ok, nmX4⟩
  | 5, h => cases h; exact ⟨by decide, _, tyX5_ok, nmX5⟩
  | 6, h => cases h; exact ⟨by decide, _, tyX6_ok, nmX6⟩
  | 7, h => cases h; exact ⟨by decide, _, tyX7_ok, nmX7⟩
  | 8, h => cases h; exact ⟨by decide, _, tyX8_ok, nmX8⟩
  | 9, h => cases h; exact ⟨by decide, _, tyX9_ok, nmX9⟩
  | 10, h => cases h; exact ⟨by decide, _, tyX10_ok, nmX10⟩
  | n + 11, h => simp [vwCl] at h
section MVPUT
variable {p : Program} {l : Launch} {e : Env} {R : Room} {s : State} {m : MethodId} {args : Array Value} {below : List Frame} {meth : Method} {c : Code} {H : Heap} {locs : List Loc} {cells slots : Nat} {Q : State → Prop}
variable {cc : ByteArray} {pc : Nat} {ls : Array Slot} {rest : List Value} {D : va_G} {cl : List vw_C} {tys : List (ClassId × FieldType)} {a : Nat}
theorem mv_put (hexec : p.tables.exec = Jvm.exec) (hb : c.code = cc) {own C : String} {T : u_T} {N ci index : Nat} {Ts : List Cond} (hts : ∀ w ∈ Ts, w.before args s = true) (hin : ∀ w ∈ u_ws C T N, w ∈ Ts) (ty0 : Nat → FieldType) (hty : ∀ k, k < N → parseFieldDescriptor (T k).2.2.1 = some (ty0 k)) (hnm : ∀ a, a < N → ∀ b, b < N → a ≠ b → (T a).2.1 ≠ (T b).2.1) (hown : s.vm.findClass own = some m.cls) (hK : va_K D cl tys s) {fs : List Value} (hat : va_at D cl (a, .inr (ci, fs)) H) (hc : cl[ci]? = some (C, T, N)) (k : Nat) (hk : k < N) (hlink : (Cond.fieldLink own index (T k).1 (T k).2.1 (T k).2.2.1).before args s = true) (hfin : (T k).2.2.2 = false) {ty : FieldType} {v : Value} (hd : parseFieldDescriptor (T k).2.2.1 = some ty) (hn : narrow ty v = v) (hfit : fits ty v = true) (hl : k < fs.length)
    (hdg : decode cc pc = .ok (.putfield index, 3)) (kk : ∀ (H1 : Heap) (z : Nat), va_at D cl (a, .inr (ci, fs.set k v)) H1 → H1.size = H.size → (∀ q, q ≠ a → H1[q]? = H[q]?) → W p l e R s m args below meth c H1 (locs ++ [⟨a, z⟩]) cells slots Q (F0 m (pc + 3) ls rest)) : W p l e R s m args below meth c H locs cells slots Q (F0 m pc ls (v :: .ref a :: rest)) := by
  have hap := va_apart (own := own) hts hin ty0 hty hnm hK hc
  obtain ⟨r, h1, cell, q1, q2, q3, q4⟩ := hat
  have hr : r = (C, T, N) := Option.some.inj (h1.symm.trans hc)
  subst hr
  obtain ⟨hS, hfc, kC, hkC, hkind⟩ := hK.1 ci _ hc
  obtain ⟨cf, kf, fi, f, hi, hsl⟩ := hS k hk
  have hlay := hts _ (hin _ (u_in_lay hk))
  unfold u_lay at hlay
  rw [if_neg (by rw [hfin]; decide)] at hlay
  have hst := (u_facts hfc hkC (u_lays hts hin hk) hi).1
  have h6 := u_store hfc hkC hkind hlay hi hd hn hfit
  refine W.putK hexec hb (f := f) ⟨hown, hlink, ⟨_, _, _, hi⟩, hst⟩ (by rw [q2]; exact h6) q1 q3 (by rw [hsl]; exact k2_hasslot (q4 k hk)) rfl rfl hdg fun H' e1 e2 e3 => ?_
  rw [hsl] at e1 ⊢
  exact kk H' _ ⟨_, hc, t_OB.to (V := updV (vp_V fs) k v) ⟨_, e1, q2, q3, t_set q4 hap hk v⟩ (fun j _ => vp_updV_set hl v j)⟩ e2 e3
theorem mv_putF (hexec : p.tables.exec = Jvm.exec) (hb : c.code = cc) {own C : String} {T : u_T} {N ci index : Nat} {Ts : List Cond} (hts : ∀ w ∈ Ts, w.before args s = true) (hin : ∀ w ∈ u_ws C T N, w ∈ Ts) (ty0 : Nat → FieldType) (hty : ∀ k, k < N → parseFieldDescriptor (T k).2.2.1 = some (ty0 k)) (hnm : ∀ a, a < N → ∀ b, b < N → a ≠ b → (T a).2.1 ≠ (T b).2.1) (hown : s.vm.findClass own = some m.cls) (hK : va_K D cl tys s) {fs : List Value} (hat : va_at D cl (a, .inr (ci, fs)) H) (hc : cl[ci]? = some (C, T, N)) (k : Nat) (hk : k < N) (hlink : (Cond.fieldLink own index (T k).1 (T k).2.1 (T k).2.2.1).before args s = true) (hfin : (T k).2.2.2 = true) (hin2 : meth.name = "<init>") (hdecl : (T k).1 = own) {ty : FieldType} {v : Value} (hd : parseFieldDescriptor (T k).2.2.1 = some ty) (hn : narrow ty v = v) (hfit : fits ty v = true) (hl : k < fs.length)
    (hdg : decode cc pc = .ok (.putfield index, 3)) (kk : ∀ (H1 : Heap) (z : Nat), va_at D cl (a, .inr (ci, fs.set k v)) H1 → H1.size = H.size → (∀ q, q ≠ a → H1[q]? = H[q]?) → W p l e R s m args below meth c H1 (locs ++ [⟨a, z⟩]) cells slots Q (F0 m (pc + 3) ls rest)) : W p l e R s m args below meth c H locs cells slots Q (F0 m pc ls (v :: .ref a :: rest)) := by
  have hap := va_apart (own := own) hts hin ty0 hty hnm hK hc
  obtain ⟨r, h1, cell, q1, q2, q3, q4⟩ := hat
  have hr : r = (C, T, N) := Option.some.inj (h1.symm.trans hc)
  subst hr
  obtain ⟨hS, hfc, kC, hkC, hkind⟩ := hK.1 ci _ hc
  obtain ⟨cf, kf, fi, f, hi, hsl⟩ := hS k hk
  have hlay := hts _ (hin _ (u_in_lay hk))
  unfold u_lay at hlay
  rw [if_pos hfin] at hlay
  have hst := (u_facts hfc hkC (u_lays hts hin hk) hi).1
  have hcf : m.cls = cf := by
    obtain ⟨_, _, c', _, _, _, -, -, hf', -, -, -, hown2, -⟩ := Cond.laysFinal_spec hlay
    have e1 : c' = cf := by have := hi.symm.trans hf'; simp at this; exact this.1.symm
    rw [hdecl] at hown2
    rw [← e1]; exact Option.some.inj (hown.symm.trans hown2)
  have h6 := u_fits hfc hkC hkind (Or.inr hlay) hi hd hn hfit
  refine W.putFinK hexec hb hown hlink hi hst hcf hin2 (by rw [q2]; exact h6) q1 q3 (by rw [hsl]; exact k2_hasslot (q4 k hk)) rfl rfl hdg fun H' e1 e2 e3 => ?_
  rw [hsl] at e1 ⊢
  exact kk H' _ ⟨_, hc, t_OB.to (V := updV (vp_V fs) k v) ⟨_, e1, q2, q3, t_set q4 hap hk v⟩ (fun j _ => vp_updV_set hl v j)⟩ e2 e3
theorem mv_new {c0 : Code} (hexec : p.tables.exec = Jvm.exec) (hb : c0.code = cc) {own C : String} {T : u_T} {N ci index : Nat} {Ts : List Cond} (hts : ∀ w ∈ Ts, w.before args s = true) (hin : ∀ w ∈ u_ws C T N, w ∈ Ts) (ty : Nat → FieldType) (hty : ∀ k, k < N → parseFieldDescriptor (T k).2.2.1 = some (ty k)) (hown : s.vm.findClass own = some m.cls) (hcl : (Cond.classLink own index C).before args s = true) (hinst : (Cond.instantiable C N).before args s = true) (hini : (Cond.initialized C).before args s = true)
    (hK : va_K D cl tys s) (hc : cl[ci]? = some (C, T, N)) {fs : List Value} (hfs : ∀ j, j < N → defaultValue (ty j) = vp_V fs j) (hcells : cells + 1 ≤ R.cells) (hslots : slots + N ≤ R.slots) (hdg : decode cc pc = .ok (.new index, 3))
    (kk : ∀ (H1 : Heap), va_at D cl (H.size, .inr (ci, fs)) H1 → H1.size = H.size + 1 → (∀ q, q < H.size → H1[q]? = H[q]?) →
      W p l e R s m args below meth c0 H1 locs (cells + 1) (slots + N) Q (F0 m (pc + 3) ls (.ref H.size :: rest))) : W p l e R s m args below meth c0 H locs cells slots Q (F0 m pc ls rest) := by
  have hKn := hK.1 ci _ hc
  refine W.newcK hexec hb hown hcl hinst hini rfl hdg hcells hslots hKn.2.1 rfl fun H1 kC hkC e1 z1 o1 => ?_
  exact kk H1 ⟨_, hc, (u_born ty hts hin hKn hkC e1 hty).to hfs⟩ z1 o1
end MVPUT
section HEAP
variable {G : GP} {Y Z : MD} {pc pc' tgt : Nat} {lo lo' : List (Option Value)} {st : List Value} {σ σ' : Sh} {d d' : Dt} {u : Nat × Nat} {Q : Option Value → Sh → Dt → Prop} {H H1 : Heap} {k : Nat} {f : Nat → Nat → UInt32}
theorem cel_obj {ci : Nat} (hc : σ.2.1 k = ci) (h : ci < 12) : cel G σ d k = .inr (ci, (fco ci).mapIdx (fun j c => fvl (g_bs G) σ d k j c)) := by
  subst hc; unfold cel; rw [if_pos h]
theorem cel_c (hc : σ.2.1 k = 12) : cel G σ d k = .inl (g_cy G 0, σ.2.2.1 k, .inl (d.1 k)) := by unfold cel; rw [hc]; rfl
theorem cel_f (hc : σ.2.1 k = 13) : cel G σ d k = .inl (g_cy G 1, σ.2.2.1 k, .inr (.inr (.inl (d.2 k)))) := by unfold cel; rw [hc]; rfl
theorem cel_i (hc : σ.2.1 k = 14) : cel G σ d k = .inl (g_cy G 2, σ.2.2.1 k, .inl (d.1 k)) := by unfold cel; rw [hc]; rfl
theorem cel_q (hc : σ.2.1 k = 15) : cel G σ d k = .inl (g_cy G 3, σ.2.2.1 k, .inr (.inr (.inr (.inr (fun j => (σ.2.2.2.1 k j).map (g_bs G + ·)))))) := by unfold cel; rw [hc]; rfl
theorem avl_R {j c : Nat} (hf : ∀ k j, fR (f k j) (d.2 k j)) : vR G (avl σ d k j c) (fvl (g_bs G) σ (d.1, f) k j c) := by
  unfold avl fvl
  split
  · rfl
  · split
    · exact ⟨_, rfl, hf k j⟩
    · split
      · unfold rv
        cases σ.2.2.2.1 k j <;> rfl
      · rfl
/-- one cell rewritten: the heap is the new memory -/
theorem HR_upd (hz : H.size = g_bs G + σ.1) (hlow : ∀ q, q < g_bs G → H[q]? = (g_H G)[q]?) (hold : ∀ k, k < σ.1 → va_at (g_D G) vwCl (g_bs G + k, cel G σ (d.1, f) k) H) (hs : H1.size = H.size) (ho : ∀ q, q ≠ g_bs G + k → H1[q]? = H[q]?) (f' : Nat → Nat → UInt32) (hf' : ∀ k j, fR (f' k j) (d'.2 k j)) (hσ : σ'.1 = σ.1) (hne : ∀ k', k' ≠ k → cel G σ' (d'.1, f') k' = cel G σ (d.1, f) k') (hnew : va_at (g_D G) vwCl (g_bs G + k, cel G σ' (d'.1, f') k) H1) : HR G σ' d' H1 := by
  refine ⟨by rw [hs, hz, hσ], fun q hq => by rw [ho q (by omega)]; exact hlow q hq, f', hf', fun k' hk' => ?_⟩
  by_cases hkk : k' = k
  · subst hkk; exact hnew
  · rw [hne k' hkk]
    exact (hold k' (by rw [← hσ]; exact hk')).kept (ho _ (by show g_bs G + k' ≠ _; omega))
/-- a cell more -/
theorem HR_new (hz : H.size = g_bs G + σ.1) (hlow : ∀ q, q < g_bs G → H[q]? = (g_H G)[q]?) (hold : ∀ k, k < σ.1 → va_at (g_D G) vwCl (g_bs G + k, cel G σ (d.1, f) k) H) (hs : H1.size = H.size + 1) (ho : ∀ q, q < H.size → H1[q]? = H[q]?) (f' : Nat → Nat → UInt32) (hf' : ∀ k j, fR (f' k j) (d'.2 k j)) (hσ : σ'.1 = σ.1 + 1) (hne : ∀ k', k' < σ.1 → cel G σ' (d'.1, f') k' = cel G σ (d.1, f) k') (hnew : va_at (g_D G) vwCl (g_bs G + σ.1, cel G σ' (d'.1, f') σ.1) H1) : HR G σ' d' H1 := by
  refine ⟨by rw [hs, hz, hσ]; omega, fun q hq => by rw [ho q (by omega)]; exact hlow q hq, f', hf', fun k' hk' => ?_⟩
  by_cases hkk : k' = σ.1
  · subst hkk; exact hnew
  · have hlt : k' < σ.1 := by omega
    rw [hne k' hlt]
    exact (hold k' hlt).kept (ho _ (by show g_bs G + k' < _; omega))
theorem m_getf {i ci j c : Nat} {ds : String} {fin : Bool} {v : Value} (fa : FA Y i ci j ds fin) (hd : decode (y_cc Y) pc = .ok (.getfield i, 3)) (hk : k < σ.1) (hc : σ.2.1 k = ci) (hj : (fco ci)[j]? = some c) (hv : avl σ d k j c = v) (hp : pc + 3 = pc') (kk : mM G Y pc' lo (v :: st) σ d u Q) : mM G Y pc lo (.ref k :: st) σ d u Q := by
  subst hp
  intro p e s m args below meth cd C d0 hd0 H locs ls str hH hL hlo hst
  obtain ⟨_, _, rfl, hx, hst⟩ := hst
  obtain rfl := vR_ref hx
  obtain ⟨Cn, T, N, f1, f2, f3, f4, f5, -⟩ := fa
  obtain ⟨hci, -⟩ := cf_all ci Cn T N f1
  obtain ⟨hz, hlow, f, hf, hold⟩ := id hH
  have h1 := hold k hk
  rw [cel_obj hc hci] at h1
  have hts := dr_words (C.2.2.2.2.2.1) d0
  have hP : va_P (g_D G) vwCl [(g_bs G + k, .inr (ci, (fco ci).mapIdx (fun j c => fvl (g_bs G) σ (d.1, f) k j c)))] H := fun q x hq => by
    have : q < 1 := (List.getElem?_eq_some_iff.mp hq).1
    obtain rfl : q = 0 := by omega
    cases hq; exact h1
  refine va_get (D := g_D G) (cl := vwCl) (tys := g_ty G) (Ts := y_ws Y) (ci := ci) (T := T) (N := N) (C := Cn) (v := fvl (g_bs G) σ (d.1, f) k j c) C.1 C.2.1 hts f3 C.2.2.2.2.1 C.2.2.2.2.2.2.2.1.1 hP 0 rfl f1 j f2 (hts _ f4) (fun _ h9 => h9) ?_ hd ?_
  · rw [List.getElem?_mapIdx, hj]; rfl
  · exact kk p e s m args below meth cd C d0 hd0 H locs ls _ hH hL hlo ⟨_, _, rfl, by rw [← hv]; exact avl_R hf, hst⟩
theorem m_getI {i ci j : Nat} {ds : String} {fin : Bool} (fa : FA Y i ci j ds fin) (hd : decode (y_cc Y) pc = .ok (.getfield i, 3)) (hk : k < σ.1) (hc : σ.2.1 k = ci) (hj : (fco ci)[j]? = some 0) (hp : pc + 3 = pc') (kk : mM G Y pc' lo (.int (d.1 k j) :: st) σ d u Q) : mM G Y pc lo (.ref k :: st) σ d u Q := m_getf fa hd hk hc hj rfl hp kk
theorem m_getF {i ci j : Nat} {ds : String} {fin : Bool} (fa : FA Y i ci j ds fin) (hd : decode (y_cc Y) pc = .ok (.getfield i, 3)) (hk : k < σ.1) (hc : σ.2.1 k = ci) (hj : (fco ci)[j]? = some 1) (hp : pc + 3 = pc') (kk : mM G Y pc' lo (.float (d.2 k j) :: st) σ d u Q) : mM G Y pc lo (.ref k :: st) σ d u Q := m_getf fa hd hk hc hj rfl hp kk
theorem m_getR {i ci j q : Nat} {ds : String} {fin : Bool} (fa : FA Y i ci j ds fin) (hd : decode (y_cc Y) pc = .ok (.getfield i, 3)) (hk : k < σ.1) (hc : σ.2.1 k = ci) (hj : (fco ci)[j]? = some 2) (hq : σ.2.2.2.1 k j = some q) (hp : pc + 3 = pc') (kk : mM G Y pc' lo (.ref q :: st) σ d u Q) : mM G Y pc lo (.ref k :: st) σ d u Q := m_getf fa hd hk hc hj (by show va_rf (σ.2.2.2.1 k j) = _; rw [hq]; rfl) hp kk
theorem m_getW {i ci j : Nat} {ds : String} {fin : Bool} (fa : FA Y i ci j ds fin) (hd : decode (y_cc Y) pc = .ok (.getfield i, 3)) (hk : k < σ.1) (hc : σ.2.1 k = ci) (hj : (fco ci)[j]? = some 3) (hp : pc + 3 = pc') (kk : mM G Y pc' lo (.int (σ.2.2.2.2 k) :: st) σ d u Q) : mM G Y pc lo (.ref k :: st) σ d u Q := m_getf fa hd hk hc hj rfl hp kk
theorem mapIdx_set {α β : Type} (l : List α) (g h : Nat → α → β) (j : Nat) (v : β) (hj : ∀ c, l[j]? = some c → h j c = v) (ho : ∀ i c, l[i]? = some c → i ≠ j → h i c = g i c) : l.mapIdx h = (l.mapIdx g).set j v := by
  apply List.ext_getElem?
  intro i
  rw [List.getElem?_mapIdx, List.getElem?_set]
  by_cases hi : j = i
  · subst hi
    rw [if_pos rfl, List.length_mapIdx]
    cases hc : l[j]? with
    | none =>
      have : ¬ j < l.length := by
        intro hlt
        rw [List.getElem?_eq_getElem hlt] at hc; cases hc
      rw [if_neg this]; rfl
    | some c =>
      rw [if_pos (List.getElem?_eq_some_iff.mp hc).1]
      exact congrArg some (hj c hc)
  · rw [if_neg hi, List.getElem?_mapIdx]
    cases hc : l[i]? with
    | none => rfl
    | some c => exact congrArg some (ho i c hc (Ne.symm hi))
theorem cel_int_ne {j k' : Nat} {x : Int32} (h : k' ≠ k) : cel G σ (u2 d.1 k j x, f) k' = cel G σ (d.1, f) k' := by
  unfold cel fvl
  simp only [u2_ne h]
theorem cel_flt_ne {j k' : Nat} {x : UInt32} {m : Nat → Nat → Int32} (h : k' ≠ k) : cel G σ (m, u2 f k j x) k' = cel G σ (m, f) k' := by
  unfold cel fvl
  simp only [u2_ne h]
/-- a field of whole numbers is written -/
theorem m_putI {i ci j : Nat} {x : Int32} {ds : String} {ty : FieldType} (fa : FA Y i ci j ds false) (hd : decode (y_cc Y) pc = .ok (.putfield i, 3)) (hds : parseFieldDescriptor ds = some ty) (hn : narrow ty (.int x) = .int x) (hfit : fits ty (.int x) = true) (hk : k < σ.1) (hc : σ.2.1 k = ci) (hj : (fco ci)[j]? = some 0) (hp : pc + 3 = pc') (kk : mM G Y pc' lo st σ (u2 d.1 k j x, d.2) u Q) : mM G Y pc lo (.int x :: .ref k :: st) σ d u Q := by
  subst hp
  intro p e s m args below meth cd C d0 hd0 H locs ls str hH hL hlo hst
  obtain ⟨_, _, rfl, hx, _, _, rfl, hy, hst⟩ := hst
  obtain rfl := vR_int hx
  obtain rfl := vR_ref hy
  obtain ⟨Cn, T, N, f1, f2, f3, f4, f5, f6, f7, -⟩ := fa
  obtain ⟨hci, ty0, t1, t2⟩ := cf_all ci Cn T N f1
  obtain ⟨hz, hlow, f, hf, hold⟩ := id hH
  have h1 := hold k hk
  rw [cel_obj hc hci] at h1
  have hts := dr_words (C.2.2.2.2.2.1) d0
  refine mv_put (D := g_D G) (cl := vwCl) (tys := g_ty G) (Ts := y_ws Y) (ci := ci) (T := T) (N := N) (C := Cn) (ty := ty) C.1 C.2.1 hts f3 ty0 t1 t2 C.2.2.2.2.1 C.2.2.2.2.2.2.2.1.1 h1 f1 j f2 (hts _ f4) f7 (by rw [f6]; exact hds) hn hfit (by rw [List.length_mapIdx, ← f5]; exact f2) hd (fun H1 z h2 h3 h4 => ?_)
  refine kk p e s m args below meth cd C d0 hd0 H1 _ ls _ ?_ ?_ hlo hst
  · refine HR_upd (σ' := σ) (d' := (u2 d.1 k j x, d.2)) hz hlow hold h3 h4 f hf rfl (fun k' hk' => cel_int_ne hk') ?_
    rw [cel_obj hc hci]
    rw [mapIdx_set (fco ci) (fun j c => fvl (g_bs G) σ (d.1, f) k j c) (fun j' c => fvl (g_bs G) σ (u2 d.1 k j x, f) k j' c) j (.int x) ?_ ?_]
    · exact h2
    · intro c hcc
      rw [hj] at hcc; cases hcc
      show Value.int (u2 d.1 k j x k j) = _
      rw [u2_same]
    · intro i' c _ hne
      unfold fvl
      simp only [u2_oth hne]
  · intro q hq
    rcases List.mem_append.mp hq with h | h
    · exact hL q h
    · obtain rfl := List.mem_singleton.mp h
      exact Nat.le_add_right _ _
/-- a field of floats is written -/
theorem m_putFl {i ci j : Nat} {x : UInt32} (fa : FA Y i ci j "F" false) (hd : decode (y_cc Y) pc = .ok (.putfield i, 3)) (hk : k < σ.1) (hc : σ.2.1 k = ci) (hj : (fco ci)[j]? = some 1) (hp : pc + 3 = pc') (kk : mM G Y pc' lo st σ (d.1, u2 d.2 k j x) u Q) : mM G Y pc lo (.float x :: .ref k :: st) σ d u Q := by
  subst hp
  intro p e s m args below meth cd C d0 hd0 H locs ls str hH hL hlo hst
  obtain ⟨_, _, rfl, hx, _, _, rfl, hy, hst⟩ := hst
  obtain ⟨x', rfl, hx'⟩ := vR_float hx
  obtain rfl := vR_ref hy
  obtain ⟨Cn, T, N, f1, f2, f3, f4, f5, f6, f7, -⟩ := fa
  obtain ⟨hci, ty0, t1, t2⟩ := cf_all ci Cn T N f1
  obtain ⟨hz, hlow, f, hf, hold⟩ := id hH
  have h1 := hold k hk
  rw [cel_obj hc hci] at h1
  have hts := dr_words (C.2.2.2.2.2.1) d0
  refine mv_put (D := g_D G) (cl := vwCl) (tys := g_ty G) (Ts := y_ws Y) (ci := ci) (T := T) (N := N) (C := Cn) (ty := .float) C.1 C.2.1 hts f3 ty0 t1 t2 C.2.2.2.2.1 C.2.2.2.2.2.2.2.1.1 h1 f1 j f2 (hts _ f4) f7 (by rw [f6]; decide +kernel) rfl rfl (by rw [List.length_mapIdx, ← f5]; exact f2) hd (fun H1 z h2 h3 h4 => ?_)
  refine kk p e s m args below meth cd C d0 hd0 H1 _ ls _ ?_ ?_ hlo hst
  · refine HR_upd (σ' := σ) (d' := (d.1, u2 d.2 k j x)) hz hlow hold h3 h4 (u2 f k j x') (fun a b => ?_) rfl (fun k' hk' => cel_flt_ne hk') ?_
    · show fR (u2 f k j x' a b) (u2 d.2 k j x a b)
      unfold u2
      split
      · split
        · exact hx'
        · exact hf a b
      · exact hf a b
    rw [cel_obj hc hci]
    rw [mapIdx_set (fco ci) (fun j c => fvl (g_bs G) σ (d.1, f) k j c) (fun j' c => fvl (g_bs G) σ (d.1, u2 f k j x') k j' c) j (.float x') ?_ ?_]
    · exact h2
    · intro c hcc
      rw [hj] at hcc; cases hcc
      show Value.float (u2 f k j x' k j) = _
      rw [u2_same]
    · intro i' c _ hne
      unfold fvl
      simp only [u2_oth hne]
  · intro q hq
    rcases List.mem_append.mp hq with h | h
    · exact hL q h
    · obtain rfl := List.mem_singleton.mp h
      exact Nat.le_add_right _ _
end HEAP
