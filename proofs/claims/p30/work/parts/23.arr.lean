/-! ARRAYS, NEW CELLS, CALLS over mM -/
section MVARR
variable {p : Program} {l : Launch} {e : Env} {R : Room} {s : State} {m : MethodId} {args : Array Value} {below : List Frame} {meth : Method} {c : Code} {H : Heap} {locs : List Loc} {cells slots : Nat} {Q : State → Prop}
variable {cc : ByteArray} {pc : Nat} {ls : Array Slot} {rest : List Value} {D : va_G} {cl : List vw_C} {tys : List (ClassId × FieldType)} {a : Nat}
theorem mv_iast (hexec : p.tables.exec = Jvm.exec) (hb : c.code = cc) (hK : va_K D cl tys s) {cA : ClassId} {n : Nat} {f : Nat → Int32} (hat : va_at D cl (a, .inl (cA, n, .inl f)) H) (t0 : Nat) (ht : tys[t0]? = some (cA, .int)) {i : Int32} {x : Int32} (hin : vp_in i n) (hdg : decode cc pc = .ok (.iastore, 1))
    (kk : ∀ (H1 : Heap) (z : Nat), va_at D cl (a, .inl (cA, n, .inl (upd f i.toNatClampNeg x))) H1 → H1.size = H.size → (∀ q, q ≠ a → H1[q]? = H[q]?) → W p l e R s m args below meth c H1 (locs ++ [⟨a, z⟩]) cells slots Q (F0 m (pc + 1) ls rest)) : W p l e R s m args below meth c H locs cells slots Q (F0 m pc ls (.int x :: .int i :: .ref a :: rest)) := by
  refine W.iast hexec hb hat ((hK.2 t0 _ ht).1 n (fun j => .int (f j))) (fun q => by cases q) (by show ¬ (i < 0 ∨ (arrV _ _ _).slots.size ≤ _); rw [arrV_size]; exact hin) rfl rfl hdg fun H1 e z oq => ?_
  refine kk H1 _ ?_ z oq
  show H1[a]? = some (vp_cell _ _)
  rw [e]
  rw [vp_cell_i, vp_cell_i, arrV_store]
  congr 2
  funext q
  by_cases hq : q = i.toNatClampNeg
  · subst hq
    simp [updV, upd]
  · simp [updV, upd, hq]
theorem mv_cast (hexec : p.tables.exec = Jvm.exec) (hb : c.code = cc) (hK : va_K D cl tys s) {cA : ClassId} {n : Nat} {f : Nat → Int32} (hat : va_at D cl (a, .inl (cA, n, .inl f)) H) (t0 : Nat) (ht : tys[t0]? = some (cA, .char)) {i : Int32} {x : Int32} (hin : vp_in i n) (hdg : decode cc pc = .ok (.castore, 1))
    (kk : ∀ (H1 : Heap) (z : Nat), va_at D cl (a, .inl (cA, n, .inl (upd f i.toNatClampNeg (vp_nar .char x)))) H1 → H1.size = H.size → (∀ q, q ≠ a → H1[q]? = H[q]?) → W p l e R s m args below meth c H1 (locs ++ [⟨a, z⟩]) cells slots Q (F0 m (pc + 1) ls rest)) : W p l e R s m args below meth c H locs cells slots Q (F0 m pc ls (.int x :: .int i :: .ref a :: rest)) := by
  refine W.cast hexec hb hat ((hK.2 t0 _ ht).1 n (fun j => .int (f j))) (fun q => by cases q) (by show ¬ (i < 0 ∨ (arrV _ _ _).slots.size ≤ _); rw [arrV_size]; exact hin) rfl rfl hdg fun H1 e z oq => ?_
  refine kk H1 _ ?_ z oq
  show H1[a]? = some (vp_cell _ _)
  rw [e]
  rw [vp_cell_i, vp_cell_i, arrV_store]
  congr 2
  funext q
  by_cases hq : q = i.toNatClampNeg
  · subst hq
    simp [updV, upd, vp_nar, narrow]
  · simp [updV, upd, hq]
theorem mv_astq (hexec : p.tables.exec = Jvm.exec) (hb : c.code = cc) (hK : va_K D cl tys s) {cA : ClassId} {r : vw_C} {n v ci : Nat} {vs : List Value} {f : Nat → Option Nat} (hat : va_at D cl (a, .inl (cA, n, .inr (.inr (.inr (.inr f))))) H) (t0 : Nat) (ht : tys[t0]? = some (cA, .object r.1)) (hv : va_at D cl (v, .inr (ci, vs)) H) (hc : cl[ci]? = some r) {i : Int32} (hin : vp_in i n) (hdg : decode cc pc = .ok (.aastore, 1))
    (kk : ∀ (H1 : Heap) (z : Nat), va_at D cl (a, .inl (cA, n, .inr (.inr (.inr (.inr (va_up f i.toNatClampNeg (some v))))))) H1 → H1.size = H.size → (∀ q, q ≠ a → H1[q]? = H[q]?) → W p l e R s m args below meth c H1 (locs ++ [⟨a, z⟩]) cells slots Q (F0 m (pc + 1) ls rest)) : W p l e R s m args below meth c H locs cells slots Q (F0 m pc ls (.ref v :: .int i :: .ref a :: rest)) := by
  have hlt : i.toNatClampNeg < n := Nat.not_le.mp fun q => hin (Or.inr q)
  have h0 : ¬ i < 0 := fun q => hin (Or.inl q)
  obtain ⟨r', hr', cellV, g1, g2, g3, -⟩ := hv
  have hcls := (hK.1 ci r hc).2
  obtain ⟨kA, comp, k1, k2, k3, -⟩ := (hK.2 t0 _ ht).2
  have hcomp : comp = D.1 ci := Option.some.inj (k3.symm.trans hcls.1)
  subst hcomp
  obtain ⟨kC, hkC, -⟩ := hcls.2
  refine W.aast hexec hb hat (fun q h => by cases h) (fun h => by cases h) k1 k2 rfl hkC ⟨h0, by show _ < (arrV _ _ _).slots.size; rw [arrV_size]; exact hlt⟩ g1 (fun q h => by rw [g3] at h; cases h) (by rw [g2]; exact hkC) (by rw [g2]; exact va_assign hcls) rfl rfl hdg fun H1 e z oq => ?_
  refine kk H1 _ ?_ z oq
  show H1[a]? = some (vp_cell _ _)
  rw [e]
  rw [vp_cell_q, vp_cell_q, arrV_store]
  congr 2
  funext q
  by_cases hq : q = i.toNatClampNeg
  · subst hq
    simp [updV, va_up, va_rf]
  · simp [updV, va_up, hq]
theorem mv_copyi (hexec : p.tables.exec = Jvm.exec) (hb : c.code = cc) (hml : c.maxLocals = ls.size) {own : String} {index : Nat} (hown : s.vm.findClass own = some m.cls) (hlink : (Cond.methodLink own index arraycopyName).before args s = true) (hnat : (Cond.native arraycopyName).before args s = true) (hstat : (Cond.static arraycopyName).before args s = true) (hini : (Cond.initialized "java/lang/System").before args s = true)
    (hK : va_K D cl tys s) (t0 : Nat) {a0 : Nat} {c0 : ClassId} {n0 n1 : Nat} {f g : Nat → Int32} (ha0 : va_at D cl (a0, .inl (c0, n0, .inl f)) H) (ha1 : va_at D cl (a, .inl (c0, n1, .inl g)) H) (ht0 : tys[t0]? = some (c0, .int))
    {sp dp n : Int32} (h1 : ¬ sp < 0) (h2 : ¬ dp < 0) (h3 : ¬ n < 0) (h4 : sp.toNatClampNeg + n.toNatClampNeg ≤ n0) (h5 : dp.toNatClampNeg + n.toNatClampNeg ≤ n1)
    (hframes : 1 ≤ R.frames) (hlocals : (rest.map fun v => v.category).sum + (nativeFrameWords "java/lang/System" "arraycopy" 5 + 11) ≤ R.locals) (hdg : decode cc pc = .ok (.invokestatic index, 3))
    (kk : ∀ (H1 : Heap) (L : List Loc), va_at D cl (a, .inl (c0, n1, .inl (va_cpy f g sp.toNatClampNeg dp.toNatClampNeg n.toNatClampNeg))) H1 → H1.size = H.size → (∀ q, q ≠ a → H1[q]? = H[q]?) → (∀ q ∈ L, q.base = a) → W p l e R s m args below meth c H1 (locs ++ L) cells slots Q (F0 m (pc + 3) ls rest)) : W p l e R s m args below meth c H locs cells slots Q (F0 m pc ls (.int n :: .int dp :: .ref a :: .int sp :: .ref a0 :: rest)) := by
  have nn : ∀ z : Int32, ¬ z < 0 → z.toInt = (z.toNatClampNeg : Int) := by
    intro z hz
    have hz0 : (0 : Int) ≤ z.toInt := by
      have := Int32.not_lt.mp hz
      simpa using Int32.le_iff_toInt_le.mp this
    show z.toInt = ((z.toInt.toNat : Nat) : Int)
    omega
  intro T hT X
  have hc0 : H[a0]? = some (vp_cell c0 (n0, .inl f)) := ha0
  have hc1 : H[a]? = some (vp_cell c0 (n1, .inl g)) := ha1
  obtain ⟨-, k0, hk0, cm0, hkk0⟩ := (hK.2 t0 _ ht0).1 n0 (fun j => .int (f j))
  obtain ⟨-, k1, hk1, cm1, hkk1⟩ := (hK.2 t0 _ ht0).1 n1 (fun j => .int (g j))
  obtain ⟨vm', X', step⟩ := X.arraycopy hexec hown hlink hnat hstat hini (src := a0) (dst := a) (cs := vp_cell c0 (n0, .inl f)) (cd := vp_cell c0 (n1, .inl g)) (srcPos := sp) (destPos := dp) (n := n) (by rw [hT]; exact hc0) (by rw [hT]; exact hc1)
    (fun _ h => by cases h) (fun _ h => by cases h) (fun h => by cases h) (fun h => by cases h) hk0 hk1 hkk0 hkk1 (by simp [refKind]) h1 h2 h3
    (by rw [nn sp h1, nn n h3]; show ¬ _ > ((arrV c0 n0 (fun j => .int (f j))).slots.size : Int); rw [arrV_size]; omega)
    (by rw [nn dp h2, nn n h3]; show ¬ _ > ((arrV c0 n1 (fun j => .int (g j))).slots.size : Int); rw [arrV_size]; omega)
    (fun vm₁ _ i hi => by
      have e : (vp_cell c0 (n0, .inl f)).slots.getD (sp.toNatClampNeg + i) .null = .int (f (sp.toNatClampNeg + i)) := by
        show (arrV c0 n0 (fun j => .int (f j))).slots.getD _ _ = _
        rw [Array.getD_eq_getD_getElem?, arrV_read _ _ (by omega)]
        rfl
      refine ⟨?_, ?_⟩
      · rw [e]
        rfl
      · rw [e]
        exact trivial)
    (g := F0 m pc ls (.int n :: .int dp :: .ref a :: .int sp :: .ref a0 :: rest)) rfl (by rw [hml]) (rest := rest) rfl (by rw [hb]; exact hdg) hframes (by show 2 * 0 + _ + _ ≤ _; omega)
  have e1 : copied (vp_cell c0 (n0, .inl f)) (vp_cell c0 (n1, .inl g)) sp dp n = vp_cell c0 (n1, .inl (va_cpy f g sp.toNatClampNeg dp.toNatClampNeg n.toNatClampNeg)) := va_copied (fun z => .int z) c0 c0 f g h4
  rw [e1] at X' step
  have hl : a < H.size := (Array.getElem?_eq_some_iff.mp hc1).1
  have hheap : ((T.setVm vm').setCell a (vp_cell c0 (n1, .inl (va_cpy f g sp.toNatClampNeg dp.toNatClampNeg n.toNatClampNeg)))).heap = H.setIfInBounds a (vp_cell c0 (n1, .inl (va_cpy f g sp.toNatClampNeg dp.toNatClampNeg n.toNatClampNeg))) := by rw [← hT]; rfl
  have oq : ∀ q : Nat, q ≠ a → (H.setIfInBounds a (vp_cell c0 (n1, .inl (va_cpy f g sp.toNatClampNeg dp.toNatClampNeg n.toNatClampNeg))))[q]? = H[q]? := fun q hq => by simp [Array.getElem?_setIfInBounds, Ne.symm hq]
  obtain ⟨t, a1, b1⟩ := kk _ _ (show (H.setIfInBounds a _)[a]? = some _ by simp [Array.getElem?_setIfInBounds, hl]) (by simp) oq (fun q h => by
      obtain ⟨z, -, hz⟩ := List.mem_map.mp h
      rw [← hz]) _ hheap X'
  exact ⟨t, step t a1, b1⟩
end MVARR
section ARR
variable {G : GP} {Y Z : MD} {pc pc' tgt : Nat} {lo lo' : List (Option Value)} {st : List Value} {σ σ' : Sh} {d d' : Dt} {u : Nat × Nat} {Q : Option Value → Sh → Dt → Prop} {H H1 : Heap} {k : Nat} {f : Nat → Nat → UInt32}
theorem P1 {D : va_G} {cl : List vw_C} {x : Nat × va_E} (h : va_at D cl x H) : va_P D cl [x] H := fun q y hq => by
  have : q < 1 := (List.getElem?_eq_some_iff.mp hq).1
  obtain rfl : q = 0 := by omega
  cases hq; exact h
theorem m_iald {i : Int32} (hd : decode (y_cc Y) pc = .ok (.iaload, 1)) (hk : k < σ.1) (hc : σ.2.1 k = 14) (hin : vp_in i (σ.2.2.1 k)) (hp : pc + 1 = pc') (kk : mM G Y pc' lo (.int (d.1 k i.toNatClampNeg) :: st) σ d u Q) : mM G Y pc lo (.int i :: .ref k :: st) σ d u Q := by
  subst hp
  intro p e s m args below meth cd C d0 hd0 H locs ls str hH hL hlo hst
  obtain ⟨_, _, rfl, hx, _, _, rfl, hy, hst⟩ := hst
  obtain rfl := vR_int hx
  obtain rfl := vR_ref hy
  obtain ⟨hz, hlow, f, hf, hold⟩ := id hH
  have h1 := hold k hk
  rw [cel_i hc] at h1
  exact va_iald (s := s.setDrawn d0) (D := g_D G) (cl := vwCl) (tys := g_ty G) C.1 C.2.1 C.2.2.2.2.2.2.2.1.1 (P1 h1) 0 2 rfl rfl hin hd (kk p e s m args below meth cd C d0 hd0 H locs ls _ hH hL hlo ⟨_, _, rfl, rfl, hst⟩)
theorem m_cald {i : Int32} (hd : decode (y_cc Y) pc = .ok (.caload, 1)) (hk : k < σ.1) (hc : σ.2.1 k = 12) (hin : vp_in i (σ.2.2.1 k)) (hp : pc + 1 = pc') (kk : mM G Y pc' lo (.int (d.1 k i.toNatClampNeg) :: st) σ d u Q) : mM G Y pc lo (.int i :: .ref k :: st) σ d u Q := by
  subst hp
  intro p e s m args below meth cd C d0 hd0 H locs ls str hH hL hlo hst
  obtain ⟨_, _, rfl, hx, _, _, rfl, hy, hst⟩ := hst
  obtain rfl := vR_int hx
  obtain rfl := vR_ref hy
  obtain ⟨hz, hlow, f, hf, hold⟩ := id hH
  have h1 := hold k hk
  rw [cel_c hc] at h1
  exact va_cald (s := s.setDrawn d0) (D := g_D G) (cl := vwCl) (tys := g_ty G) C.1 C.2.1 C.2.2.2.2.2.2.2.1.1 (P1 h1) 0 0 rfl rfl hin hd (kk p e s m args below meth cd C d0 hd0 H locs ls _ hH hL hlo ⟨_, _, rfl, rfl, hst⟩)
theorem m_aald {i : Int32} {q : Nat} (hd : decode (y_cc Y) pc = .ok (.aaload, 1)) (hk : k < σ.1) (hc : σ.2.1 k = 15) (hin : vp_in i (σ.2.2.1 k)) (hq : σ.2.2.2.1 k i.toNatClampNeg = some q) (hp : pc + 1 = pc') (kk : mM G Y pc' lo (.ref q :: st) σ d u Q) : mM G Y pc lo (.int i :: .ref k :: st) σ d u Q := by
  subst hp
  intro p e s m args below meth cd C d0 hd0 H locs ls str hH hL hlo hst
  obtain ⟨_, _, rfl, hx, _, _, rfl, hy, hst⟩ := hst
  obtain rfl := vR_int hx
  obtain rfl := vR_ref hy
  obtain ⟨hz, hlow, f, hf, hold⟩ := id hH
  have h1 := hold k hk
  rw [cel_q hc] at h1
  refine va_aldq (s := s.setDrawn d0) (D := g_D G) (cl := vwCl) (tys := g_ty G) C.1 C.2.1 C.2.2.2.2.2.2.2.1.1 (P1 h1) 0 3 rfl rfl hin hd ?_
  rw [hq]
  exact kk p e s m args below meth cd C d0 hd0 H locs ls _ hH hL hlo ⟨_, _, rfl, rfl, hst⟩
theorem m_alen {v : Int32} (hd : decode (y_cc Y) pc = .ok (.arraylength, 1)) (hk : k < σ.1) (hc : 12 ≤ σ.2.1 k) (hc2 : σ.2.1 k ≤ 15) (hv : Int32.ofNat (σ.2.2.1 k) = v) (hp : pc + 1 = pc') (kk : mM G Y pc' lo (.int v :: st) σ d u Q) : mM G Y pc lo (.ref k :: st) σ d u Q := by
  subst hp
  intro p e s m args below meth cd C d0 hd0 H locs ls str hH hL hlo hst
  obtain ⟨_, _, rfl, hy, hst⟩ := hst
  obtain rfl := vR_ref hy
  obtain ⟨hz, hlow, f, hf, hold⟩ := id hH
  have h1 := hold k hk
  rcases (show σ.2.1 k = 12 ∨ σ.2.1 k = 13 ∨ σ.2.1 k = 14 ∨ σ.2.1 k = 15 by omega) with h | h | h | h
  · rw [cel_c h] at h1
    exact va_alen (s := s.setDrawn d0) (D := g_D G) (cl := vwCl) (tys := g_ty G) C.1 C.2.1 C.2.2.2.2.2.2.2.1.1 (P1 h1) 0 0 rfl rfl hv hd (kk p e s m args below meth cd C d0 hd0 H locs ls _ hH hL hlo ⟨_, _, rfl, rfl, hst⟩)
  · rw [cel_f h] at h1
    exact va_alen (s := s.setDrawn d0) (D := g_D G) (cl := vwCl) (tys := g_ty G) C.1 C.2.1 C.2.2.2.2.2.2.2.1.1 (P1 h1) 0 1 rfl rfl hv hd (kk p e s m args below meth cd C d0 hd0 H locs ls _ hH hL hlo ⟨_, _, rfl, rfl, hst⟩)
  · rw [cel_i h] at h1
    exact va_alen (s := s.setDrawn d0) (D := g_D G) (cl := vwCl) (tys := g_ty G) C.1 C.2.1 C.2.2.2.2.2.2.2.1.1 (P1 h1) 0 2 rfl rfl hv hd (kk p e s m args below meth cd C d0 hd0 H locs ls _ hH hL hlo ⟨_, _, rfl, rfl, hst⟩)
  · rw [cel_q h] at h1
    exact va_alen (s := s.setDrawn d0) (D := g_D G) (cl := vwCl) (tys := g_ty G) C.1 C.2.1 C.2.2.2.2.2.2.2.1.1 (P1 h1) 0 3 rfl rfl hv hd (kk p e s m args below meth cd C d0 hd0 H locs ls _ hH hL hlo ⟨_, _, rfl, rfl, hst⟩)
theorem locs_1 {G : GP} {locs : List Loc} {k z : Nat} (hL : ∀ q ∈ locs, g_bs G ≤ q.base) : ∀ q ∈ locs ++ [⟨g_bs G + k, z⟩], g_bs G ≤ q.base := by
  intro q hq
  rcases List.mem_append.mp hq with h | h
  · exact hL q h
  · obtain rfl := List.mem_singleton.mp h
    exact Nat.le_add_right _ _
theorem m_iast {i x : Int32} (hd : decode (y_cc Y) pc = .ok (.iastore, 1)) (hk : k < σ.1) (hc : σ.2.1 k = 14) (hin : vp_in i (σ.2.2.1 k)) (hp : pc + 1 = pc') (kk : mM G Y pc' lo st σ (u2 d.1 k i.toNatClampNeg x, d.2) u Q) : mM G Y pc lo (.int x :: .int i :: .ref k :: st) σ d u Q := by
  subst hp
  intro p e s m args below meth cd C d0 hd0 H locs ls str hH hL hlo hst
  obtain ⟨_, _, rfl, hw, _, _, rfl, hx, _, _, rfl, hy, hst⟩ := hst
  obtain rfl := vR_int hw
  obtain rfl := vR_int hx
  obtain rfl := vR_ref hy
  obtain ⟨hz, hlow, f, hf, hold⟩ := id hH
  have h1 := hold k hk
  rw [cel_i hc] at h1
  refine mv_iast (s := s.setDrawn d0) (D := g_D G) (cl := vwCl) (tys := g_ty G) C.1 C.2.1 C.2.2.2.2.2.2.2.1.1 h1 2 rfl hin hd (fun H1 z h2 h3 h4 => ?_)
  refine kk p e s m args below meth cd C d0 hd0 H1 _ ls _ ?_ (locs_1 hL) hlo hst
  refine HR_upd (σ' := σ) (d' := (u2 d.1 k i.toNatClampNeg x, d.2)) hz hlow hold h3 h4 f hf rfl (fun k' hk' => cel_int_ne hk') ?_
  rw [cel_i hc]
  have e : u2 d.1 k i.toNatClampNeg x k = upd (d.1 k) i.toNatClampNeg x := by
    funext q
    simp [u2, upd]
  show va_at _ _ (_, .inl (_, _, .inl (u2 d.1 k i.toNatClampNeg x k))) _
  rw [e]
  exact h2
theorem m_cast {i x : Int32} (hd : decode (y_cc Y) pc = .ok (.castore, 1)) (hk : k < σ.1) (hc : σ.2.1 k = 12) (hin : vp_in i (σ.2.2.1 k)) (hp : pc + 1 = pc') (kk : mM G Y pc' lo st σ (u2 d.1 k i.toNatClampNeg (vp_nar .char x), d.2) u Q) : mM G Y pc lo (.int x :: .int i :: .ref k :: st) σ d u Q := by
  subst hp
  intro p e s m args below meth cd C d0 hd0 H locs ls str hH hL hlo hst
  obtain ⟨_, _, rfl, hw, _, _, rfl, hx, _, _, rfl, hy, hst⟩ := hst
  obtain rfl := vR_int hw
  obtain rfl := vR_int hx
  obtain rfl := vR_ref hy
  obtain ⟨hz, hlow, f, hf, hold⟩ := id hH
  have h1 := hold k hk
  rw [cel_c hc] at h1
  refine mv_cast (s := s.setDrawn d0) (D := g_D G) (cl := vwCl) (tys := g_ty G) C.1 C.2.1 C.2.2.2.2.2.2.2.1.1 h1 0 rfl hin hd (fun H1 z h2 h3 h4 => ?_)
  refine kk p e s m args below meth cd C d0 hd0 H1 _ ls _ ?_ (locs_1 hL) hlo hst
  refine HR_upd (σ' := σ) (d' := (u2 d.1 k i.toNatClampNeg (vp_nar .char x), d.2)) hz hlow hold h3 h4 f hf rfl (fun k' hk' => cel_int_ne hk') ?_
  rw [cel_c hc]
  have e : u2 d.1 k i.toNatClampNeg (vp_nar .char x) k = upd (d.1 k) i.toNatClampNeg (vp_nar .char x) := by
    funext q
    simp [u2, upd]
  show va_at _ _ (_, .inl (_, _, .inl (u2 d.1 k i.toNatClampNeg (vp_nar .char x) k))) _
  rw [e]
  exact h2
end ARR
