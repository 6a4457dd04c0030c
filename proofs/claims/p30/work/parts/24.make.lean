/-! REFERENCES WRITTEN IN CONSTRUCTORS, NEW CELLS, CALLS, CONTRACTS -/
/-- shapes with one thing changed -/
def sh_rf (σ : Sh) (k j : Nat) (q : Option Nat) : Sh := (σ.1, σ.2.1, σ.2.2.1, u2 σ.2.2.2.1 k j q, σ.2.2.2.2)
def sh_w (σ : Sh) (k : Nat) (x : Int32) : Sh := (σ.1, σ.2.1, σ.2.2.1, σ.2.2.2.1, fun a => if a = k then x else σ.2.2.2.2 a)
def sh_new (σ : Sh) (ci len : Nat) : Sh := (σ.1 + 1, fun a => if a = σ.1 then ci else σ.2.1 a, fun a => if a = σ.1 then len else σ.2.2.1 a, fun a j => if a = σ.1 then none else σ.2.2.2.1 a j, fun a => if a = σ.1 then 0 else σ.2.2.2.2 a)
def d_new (σ : Sh) (d : Dt) : Dt := (fun a j => if a = σ.1 then 0 else d.1 a j, fun a j => if a = σ.1 then 0 else d.2 a j)
/-- a class that an instruction of Y makes -/
def FN (Y : MD) (i ci : Nat) : Prop := ∃ (C : String) (T : u_T) (N : Nat), vwCl[ci]? = some (C, T, N) ∧ (∀ w ∈ u_ws C T N, w ∈ y_ws Y) ∧ Cond.classLink Y.1.cls i C ∈ y_ws Y ∧ Cond.instantiable C N ∈ y_ws Y ∧ Cond.initialized C ∈ y_ws Y ∧ N = (fco ci).length
/-- the default of a field by its code -/
def dvc (c : Nat) : Value := if c = 1 then .float 0 else if c = 2 then .null else .int 0
theorem ty_all : ∀ (ci : Nat) (C : String) (T : u_T) (N : Nat), vwCl[ci]? = some (C, T, N) → ∃ ty0 : Nat → FieldType, (∀ k, k < N → parseFieldDescriptor (T k).2.2.1 = some (ty0 k)) ∧ ∀ j, j < N → defaultValue (ty0 j) = dvc ((fco ci).getD j 0) := by
  intro ci C T N h
  match ci, h with
  | 0, h => cases h; exact ⟨_, tyX0_ok, by intro j hj; match j, hj with | 0, _ => rfl | 1, _ => rfl | 2, _ => rfl | 3, _ => rfl | 4, _ => rfl⟩
  | 1, h => cases h; exact ⟨_, tyX1_ok, by intro j hj; match j, hj with | 0, _ => rfl | 1, _ => rfl | 2, _ => rfl⟩
  | 2, h => cases h; exact ⟨_, tyX2_ok, by intro j hj; match j, hj with | 0, _ => rfl | 1, _ => rfl | 2, _ => rfl⟩
  | 3, h => cases h; exact ⟨_, tyX3_ok, by intro j hj; match j, hj with | 0, _ => rfl | 1, _ => rfl | 2, _ => rfl | 3, _ => rfl⟩
  | 4, h => cases h; exact ⟨_, tyX4_ok, by intro j hj; match j, hj with | 0, _ => rfl | 1, _ => rfl⟩
  | 5, h => cases h; exact ⟨_, tyX5_ok, by intro j hj; match j, hj with | 0, _ => rfl | 1, _ => rfl | 2, _ => rfl⟩
  | 6, h => cases h; exact ⟨_, tyX6_ok, by intro j hj; match j, hj with | 0, _ => rfl | 1, _ => rfl | 2, _ => rfl | 3, _ => rfl | 4, _ => rfl | 5, _ => rfl | 6, _ => rfl⟩
  | 7, h => cases h; exact ⟨_, tyX7_ok, by intro j hj; match j, hj with | 0, _ => rfl | 1, _ => rfl⟩
  | 8, h => cases h; exact ⟨_, tyX8_ok, by intro j hj; match j, hj with | 0, _ => rfl | 1, _ => rfl⟩
  | 9, h => cases h; exact ⟨_, tyX9_ok, by intro j hj; match j, hj with | 0, _ => rfl | 1, _ => rfl | 2, _ => rfl | 3, _ => rfl⟩
  | 10, h => cases h; exact ⟨_, tyX10_ok, by intro j hj; match j, hj with | 0, _ => rfl | 1, _ => rfl | 2, _ => rfl | 3, _ => rfl | 4, _ => rfl | 5, _ => rfl⟩
  | n + 11, h => simp [vwCl] at h
section MVQ
variable {p : Program} {l : Launch} {e : Env} {R : Room} {s : State} {m : MethodId} {args : Array Value} {below : List Frame} {meth : Method} {c : Code} {H : Heap} {locs : List Loc} {cells slots : Nat} {Q : State → Prop}
variable {cc : ByteArray} {pc : Nat} {ls : Array Slot} {rest : List Value} {D : va_G} {cl : List vw_C} {tys : List (ClassId × FieldType)} {a : Nat}
theorem mv_newq (hexec : p.tables.exec = Jvm.exec) (hb : c.code = cc) {own C : String} {index : Nat} (hown : s.vm.findClass own = some m.cls) (hclink : (Cond.classLink own index C).before args s = true) (hover : va_AO C s) (hK : va_K D cl tys s) (t0 : Nat) {c0 : ClassId} (ht : tys[t0]? = some (c0, .object C)) {n : Int32} {N' : Nat} (hn : ¬ n < 0) (hN : n.toNatClampNeg = N') (hbytes : N' * 4 ≤ 536870912) (hcells : cells + 1 ≤ R.cells) (hslots : slots + N' ≤ R.slots) (hdg : decode cc pc = .ok (.anewarray index, 3))
    (kk : ∀ (H1 : Heap), H1[H.size]? = some (arrV c0 N' (fun _ => .null)) → H1.size = H.size + 1 → (∀ q : Nat, q < H.size → H1[q]? = H[q]?) → W p l e R s m args below meth c H1 locs (cells + 1) (slots + N') Q (F0 m (pc + 3) ls (.ref H.size :: rest))) : W p l e R s m args below meth c H locs cells slots Q (F0 m pc ls (.int n :: rest)) := by
  subst hN
  refine W.anew hexec hb hown hclink (va_AO.use hover) rfl hdg rfl hn hbytes hcells hslots fun cA kA comp f1 f2 f3 f4 => ?_
  have hcy : cA = c0 := by
    obtain ⟨kA', comp', -, -, -, h10⟩ := (hK.2 t0 _ ht).2
    exact Option.some.inj (f1.symm.trans h10)
  subst hcy
  generalize hH1 : H.push ({ cls := cA, slots := Array.replicate n.toNatClampNeg .null, vm := .none } : Cell) = H1
  have z1 : H1.size = H.size + 1 := by rw [← hH1, Array.size_push]
  have e1 : H1[H.size]? = some (arrV cA n.toNatClampNeg (fun _ => .null)) := by rw [← hH1, Array.getElem?_push_size, ← arrV_new]
  have o1 : ∀ q : Nat, q < H.size → H1[q]? = H[q]? := fun q hq => by rw [← hH1, Array.getElem?_push, if_neg (Nat.ne_of_lt hq)]
  exact kk H1 e1 z1 o1
theorem mv_obj (hexec : p.tables.exec = Jvm.exec) (hb : c.code = cc) {own : String} (hown : s.vm.findClass own = some m.cls) {idx : Nat}
    (hlink : (Cond.methodLink own idx Lib.objectInit).before args s = true) (hinst : (Cond.instanceMethod Lib.objectInit).before args s = true) (hcode : (Cond.code Lib.objectInit ⟨#[0xb1]⟩ 1 none).before args s = true)
    (hsize : ls.size = c.maxLocals) {a : Addr} (hd : decode cc pc = .ok (.invokespecial idx, 3)) (hframes : 1 ≤ R.frames) (hlocals : (rest.map fun v => v.category).sum + 12 ≤ R.locals)
    (kk : W p l e R s m args below meth c H locs cells slots Q (F0 m (pc + 3) ls rest)) : W p l e R s m args below meth c H locs cells slots Q (F0 m pc ls (.ref a :: rest)) := by
  refine W.objInit (g := F0 m pc ls (.ref a :: rest)) hexec hb hown hlink hinst hcode rfl hsize rfl hd hframes (by show 2 * 0 + _ + 12 ≤ _; omega) ?_
  exact W.eq rfl kk
end MVQ
section MAKE
variable {G : GP} {Y Z : MD} {pc pc' tgt : Nat} {lo lo' : List (Option Value)} {st : List Value} {σ σ' : Sh} {d d' : Dt} {u : Nat × Nat} {Q : Option Value → Sh → Dt → Prop} {H H1 : Heap} {k : Nat} {f : Nat → Nat → UInt32}
theorem cel_rf_ne {j k' : Nat} {q : Option Nat} {m : Dt} (h : k' ≠ k) : cel G (sh_rf σ k j q) m k' = cel G σ m k' := by
  unfold cel fvl sh_rf
  simp only [u2_ne h]
theorem cel_w_ne {k' : Nat} {x : Int32} {m : Dt} (h : k' ≠ k) : cel G (sh_w σ k x) m k' = cel G σ m k' := by
  unfold cel fvl sh_w
  simp only [if_neg h]
theorem cel_new_old {ci len k' : Nat} {m : Nat → Nat → Int32} (h : k' ≠ σ.1) : cel G (sh_new σ ci len) (fun a j => if a = σ.1 then 0 else m a j, fun a j => if a = σ.1 then 0 else f a j) k' = cel G σ (m, f) k' := by
  unfold cel fvl sh_new
  simp only [if_neg h]
/-- a final reference is written in a constructor -/
theorem m_putRf {i ci j q : Nat} {ds : String} {ty : FieldType} (fa : FA Y i ci j ds true) (hin2 : Y.1.name = "<init>") (hds : parseFieldDescriptor ds = some ty) (hrf : ty.isReference = true) (hd : decode (y_cc Y) pc = .ok (.putfield i, 3)) (hk : k < σ.1) (hc : σ.2.1 k = ci) (hj : (fco ci)[j]? = some 2) (hp : pc + 3 = pc') (kk : mM G Y pc' lo st (sh_rf σ k j (some q)) d u Q) : mM G Y pc lo (.ref q :: .ref k :: st) σ d u Q := by
  subst hp
  intro p e s m args below meth cd C d0 hd0 H locs ls str hH hL hlo hst
  obtain ⟨_, _, rfl, hx, _, _, rfl, hy, hst⟩ := hst
  obtain rfl := vR_ref hx
  obtain rfl := vR_ref hy
  obtain ⟨Cn, T, N, f1, f2, f3, f4, f5, f6, f7, f8⟩ := fa
  obtain ⟨hci, ty0, t1, t2⟩ := cf_all ci Cn T N f1
  obtain ⟨hz, hlow, f, hf, hold⟩ := id hH
  have h1 := hold k hk
  rw [cel_obj hc hci] at h1
  have hts := dr_words (C.2.2.2.2.2.1) d0
  refine mv_putF (D := g_D G) (cl := vwCl) (tys := g_ty G) (Ts := y_ws Y) (ci := ci) (T := T) (N := N) (C := Cn) (ty := ty) C.1 C.2.1 hts f3 ty0 t1 t2 C.2.2.2.2.1 C.2.2.2.2.2.2.2.1.1 h1 f1 j f2 (hts _ f4) f7 (C.2.2.2.2.2.2.2.2.trans hin2) (f8 rfl hin2) (by rw [f6]; exact hds) (by cases ty <;> first | rfl | simp [FieldType.isReference] at hrf) (by cases ty <;> first | rfl | simp [FieldType.isReference] at hrf) (by rw [List.length_mapIdx, ← f5]; exact f2) hd (fun H1 z h2 h3 h4 => ?_)
  refine kk p e s m args below meth cd C d0 hd0 H1 _ ls _ ?_ (locs_1 hL) hlo hst
  refine HR_upd (σ' := sh_rf σ k j (some q)) (d' := d) hz hlow hold h3 h4 f hf rfl (fun k' hk' => cel_rf_ne hk') ?_
  rw [cel_obj (σ := sh_rf σ k j (some q)) hc hci]
  rw [mapIdx_set (fco ci) (fun j c => fvl (g_bs G) σ (d.1, f) k j c) (fun j' c => fvl (g_bs G) (sh_rf σ k j (some q)) (d.1, f) k j' c) j (.ref (g_bs G + q)) ?_ ?_]
  · exact h2
  · intro c hcc
    rw [hj] at hcc; cases hcc
    show rv (g_bs G) (u2 σ.2.2.2.1 k j (some q) k j) = _
    rw [u2_same]; rfl
  · intro i' c _ hne
    unfold fvl sh_rf
    simp only [u2_oth hne]
/-- a table's width is written in its constructor -/
theorem m_putW {i ci j : Nat} {x : Int32} (fa : FA Y i ci j "I" true) (hin2 : Y.1.name = "<init>") (hd : decode (y_cc Y) pc = .ok (.putfield i, 3)) (hk : k < σ.1) (hc : σ.2.1 k = ci) (hj : (fco ci)[j]? = some 3) (ho : ∀ i' c, (fco ci)[i']? = some c → i' ≠ j → c < 3) (hp : pc + 3 = pc') (kk : mM G Y pc' lo st (sh_w σ k x) d u Q) : mM G Y pc lo (.int x :: .ref k :: st) σ d u Q := by
  subst hp
  intro p e s m args below meth cd C d0 hd0 H locs ls str hH hL hlo hst
  obtain ⟨_, _, rfl, hx, _, _, rfl, hy, hst⟩ := hst
  obtain rfl := vR_int hx
  obtain rfl := vR_ref hy
  obtain ⟨Cn, T, N, f1, f2, f3, f4, f5, f6, f7, f8⟩ := fa
  obtain ⟨hci, ty0, t1, t2⟩ := cf_all ci Cn T N f1
  obtain ⟨hz, hlow, f, hf, hold⟩ := id hH
  have h1 := hold k hk
  rw [cel_obj hc hci] at h1
  have hts := dr_words (C.2.2.2.2.2.1) d0
  refine mv_putF (D := g_D G) (cl := vwCl) (tys := g_ty G) (Ts := y_ws Y) (ci := ci) (T := T) (N := N) (C := Cn) (ty := .int) C.1 C.2.1 hts f3 ty0 t1 t2 C.2.2.2.2.1 C.2.2.2.2.2.2.2.1.1 h1 f1 j f2 (hts _ f4) f7 (C.2.2.2.2.2.2.2.2.trans hin2) (f8 rfl hin2) (by rw [f6]; decide +kernel) rfl rfl (by rw [List.length_mapIdx, ← f5]; exact f2) hd (fun H1 z h2 h3 h4 => ?_)
  refine kk p e s m args below meth cd C d0 hd0 H1 _ ls _ ?_ (locs_1 hL) hlo hst
  refine HR_upd (σ' := sh_w σ k x) (d' := d) hz hlow hold h3 h4 f hf rfl (fun k' hk' => cel_w_ne hk') ?_
  rw [cel_obj (σ := sh_w σ k x) hc hci]
  rw [mapIdx_set (fco ci) (fun j c => fvl (g_bs G) σ (d.1, f) k j c) (fun j' c => fvl (g_bs G) (sh_w σ k x) (d.1, f) k j' c) j (.int x) ?_ ?_]
  · exact h2
  · intro c hcc
    rw [hj] at hcc; cases hcc
    show Value.int (if k = k then x else σ.2.2.2.2 k) = _
    rw [if_pos rfl]
  · intro i' c hcc hne
    have := ho i' c hcc hne
    unfold fvl sh_w
    rcases (show c = 0 ∨ c = 1 ∨ c = 2 by omega) with h | h | h <;> subst h <;> rfl
theorem vp_V_mapIdx {l : List Nat} {g : Nat → Nat → Value} {j : Nat} (hj : j < l.length) (h : ∀ j c, g j c = dvc c) : vp_V (l.mapIdx g) j = dvc (l.getD j 0) := by
  unfold vp_V
  rw [List.getD_eq_getElem?_getD, List.getElem?_mapIdx, List.getD_eq_getElem?_getD, List.getElem?_eq_getElem hj]
  simp [h]
theorem m_new {i ci : Nat} (fn : FN Y i ci) (hd : decode (y_cc Y) pc = .ok (.new i, 3)) (hu : u.1 + 1 ≤ (y_rm Y).cells ∧ u.2 + (fco ci).length ≤ (y_rm Y).slots) (hp : pc + 3 = pc') (kk : mM G Y pc' lo (.ref σ.1 :: st) (sh_new σ ci 0) (d_new σ d) (u.1 + 1, u.2 + (fco ci).length) Q) : mM G Y pc lo st σ d u Q := by
  subst hp
  intro p e s m args below meth cd C d0 hd0 H locs ls str hH hL hlo hst
  obtain ⟨Cn, T, N, f1, f2, f3, f4, f5, rfl⟩ := fn
  obtain ⟨hci, -⟩ := cf_all ci Cn T _ f1
  obtain ⟨ty0, t1, t2⟩ := ty_all ci Cn T _ f1
  obtain ⟨hz, hlow, f, hf, hold⟩ := id hH
  have hts := dr_words (C.2.2.2.2.2.1) d0
  refine mv_new (D := g_D G) (cl := vwCl) (tys := g_ty G) (Ts := y_ws Y) (ci := ci) (T := T) (C := Cn) (fs := (fco ci).mapIdx (fun j c => fvl (g_bs G) (sh_new σ ci 0) (fun a j => if a = σ.1 then 0 else d.1 a j, fun a j => if a = σ.1 then 0 else f a j) σ.1 j c)) C.1 C.2.1 hts f2 ty0 t1 C.2.2.2.2.1 (hts _ f3) (hts _ f4) (hts _ f5) C.2.2.2.2.2.2.2.1.1 f1 (fun j hj => ?_) hu.1 hu.2 hd (fun H1 h2 h3 h4 => ?_)
  · rw [t2 j hj, vp_V_mapIdx hj]
    intro j c
    unfold fvl dvc sh_new rv
    simp only [if_pos]
    split
    · rename_i h; subst h; rfl
    · split
      · rfl
      · split <;> rfl
  · rw [hz] at h2
    rw [hz]
    refine kk p e s m args below meth cd C d0 hd0 H1 _ ls _ ?_ hL hlo ⟨_, _, rfl, rfl, hst⟩
    refine HR_new (σ' := sh_new σ ci 0) (d' := d_new σ d) hz hlow hold h3 h4 (fun a j => if a = σ.1 then 0 else f a j) (fun a j => ?_) rfl (fun k' hk' => cel_new_old (by omega)) ?_
    · show fR (if a = σ.1 then 0 else f a j) (if a = σ.1 then 0 else d.2 a j)
      split
      · exact fR_rfl _
      · exact hf a j
    · rw [cel_obj (σ := sh_new σ ci 0) (show (if σ.1 = σ.1 then ci else σ.2.1 σ.1) = ci from if_pos rfl) hci]
      exact h2
/-- newarray: at is the kind (12 char, 13 float, 14 int) -/
theorem m_newaI {n : Int32} {N : Nat} (hw : Cond.arrayClass .int ∈ y_ws Y) (hd : decode (y_cc Y) pc = .ok (.newarray .int, 2)) (hn : ¬ n < 0) (hN : n.toNatClampNeg = N) (hb : N ≤ 65536) (hu : u.1 + 1 ≤ (y_rm Y).cells ∧ u.2 + N ≤ (y_rm Y).slots) (hp : pc + 2 = pc') (kk : mM G Y pc' lo (.ref σ.1 :: st) (sh_new σ 14 N) (d_new σ d) (u.1 + 1, u.2 + N) Q) : mM G Y pc lo (.int n :: st) σ d u Q := by
  subst hp
  intro p e s m args below meth cd C d0 hd0 H locs ls str hH hL hlo hst
  obtain ⟨_, _, rfl, hx, hst⟩ := hst
  obtain rfl := vR_int hx
  obtain ⟨hz, hlow, f, hf, hold⟩ := id hH
  have hts := dr_words (C.2.2.2.2.2.1) d0
  refine va_newaK C.1 C.2.1 (atype := .int) (hts _ hw) rfl hd rfl hn hN (by show N * 4 ≤ _; omega) hu.1 hu.2 rfl (fun H1 cA h2 h3 h4 h5 h6 => ?_)
  have hcy : cA = g_cy G 2 := Option.some.inj (h6.symm.trans (C.2.2.2.2.2.2.2.1.1.2 2 _ rfl).2)
  subst hcy
  rw [hz] at h2
  rw [hz]
  refine kk p e s m args below meth cd C d0 hd0 H1 _ ls _ ?_ hL hlo ⟨_, _, rfl, rfl, hst⟩
  refine HR_new (σ' := sh_new σ 14 N) (d' := d_new σ d) hz hlow hold (by rw [h3]) h4 (fun a j => if a = σ.1 then 0 else f a j) (fun a j => ?_) rfl (fun k' hk' => cel_new_old (by omega)) ?_
  · show fR (if a = σ.1 then 0 else f a j) (if a = σ.1 then 0 else d.2 a j)
    split
    · exact fR_rfl _
    · exact hf a j
  · rw [cel_i (σ := sh_new σ 14 N) (show (if σ.1 = σ.1 then 14 else σ.2.1 σ.1) = 14 from if_pos rfl)]
    show H1[_]? = some (vp_cell _ _)
    rw [h2]
    show _ = some (arrV _ (if σ.1 = σ.1 then N else σ.2.2.1 σ.1) (fun j => .int (if σ.1 = σ.1 then 0 else d.1 σ.1 j)))
    rw [if_pos rfl]
    simp only [if_pos]
    rfl
theorem m_newaC {n : Int32} {N : Nat} (hw : Cond.arrayClass .char ∈ y_ws Y) (hd : decode (y_cc Y) pc = .ok (.newarray .char, 2)) (hn : ¬ n < 0) (hN : n.toNatClampNeg = N) (hb : N ≤ 65536) (hu : u.1 + 1 ≤ (y_rm Y).cells ∧ u.2 + N ≤ (y_rm Y).slots) (hp : pc + 2 = pc') (kk : mM G Y pc' lo (.ref σ.1 :: st) (sh_new σ 12 N) (d_new σ d) (u.1 + 1, u.2 + N) Q) : mM G Y pc lo (.int n :: st) σ d u Q := by
  subst hp
  intro p e s m args below meth cd C d0 hd0 H locs ls str hH hL hlo hst
  obtain ⟨_, _, rfl, hx, hst⟩ := hst
  obtain rfl := vR_int hx
  obtain ⟨hz, hlow, f, hf, hold⟩ := id hH
  have hts := dr_words (C.2.2.2.2.2.1) d0
  refine va_newaK C.1 C.2.1 (atype := .char) (hts _ hw) rfl hd rfl hn hN (by show N * 2 ≤ _; omega) hu.1 hu.2 rfl (fun H1 cA h2 h3 h4 h5 h6 => ?_)
  have hcy : cA = g_cy G 0 := Option.some.inj (h6.symm.trans (C.2.2.2.2.2.2.2.1.1.2 0 _ rfl).2)
  subst hcy
  rw [hz] at h2
  rw [hz]
  refine kk p e s m args below meth cd C d0 hd0 H1 _ ls _ ?_ hL hlo ⟨_, _, rfl, rfl, hst⟩
  refine HR_new (σ' := sh_new σ 12 N) (d' := d_new σ d) hz hlow hold (by rw [h3]) h4 (fun a j => if a = σ.1 then 0 else f a j) (fun a j => ?_) rfl (fun k' hk' => cel_new_old (by omega)) ?_
  · show fR (if a = σ.1 then 0 else f a j) (if a = σ.1 then 0 else d.2 a j)
    split
    · exact fR_rfl _
    · exact hf a j
  · rw [cel_c (σ := sh_new σ 12 N) (show (if σ.1 = σ.1 then 12 else σ.2.1 σ.1) = 12 from if_pos rfl)]
    show H1[_]? = some (vp_cell _ _)
    rw [h2]
    show _ = some (arrV _ (if σ.1 = σ.1 then N else σ.2.2.1 σ.1) (fun j => .int (if σ.1 = σ.1 then 0 else d.1 σ.1 j)))
    rw [if_pos rfl]
    simp only [if_pos]
    rfl
theorem m_newaQ {i : Nat} {n : Int32} {N : Nat} (hw : Cond.classLink Y.1.cls i "ScanRing$State" ∈ y_ws Y) (hd : decode (y_cc Y) pc = .ok (.anewarray i, 3)) (hn : ¬ n < 0) (hN : n.toNatClampNeg = N) (hb : N ≤ 65536) (hu : u.1 + 1 ≤ (y_rm Y).cells ∧ u.2 + N ≤ (y_rm Y).slots) (hp : pc + 3 = pc') (kk : mM G Y pc' lo (.ref σ.1 :: st) (sh_new σ 15 N) (d_new σ d) (u.1 + 1, u.2 + N) Q) : mM G Y pc lo (.int n :: st) σ d u Q := by
  subst hp
  subst hN
  intro p e s m args below meth cd C d0 hd0 H locs ls str hH hL hlo hst
  obtain ⟨_, _, rfl, hx, hst⟩ := hst
  obtain rfl := vR_int hx
  obtain ⟨hz, hlow, f, hf, hold⟩ := id hH
  have hts := dr_words (C.2.2.2.2.2.1) d0
  refine mv_newq (s := s.setDrawn d0) (D := g_D G) (cl := vwCl) (tys := g_ty G) (C := "ScanRing$State") C.1 C.2.1 C.2.2.2.2.1 (hts _ hw) (va_AO.moved (u := s) (Vm.Alike.refl _) C.2.2.2.2.2.2.2.1.2.1) (va_K.moved (u := s) (Vm.Alike.refl _) C.2.2.2.2.2.2.2.1.1) 3 rfl hn rfl (by omega) hu.1 hu.2 hd (fun H1 h2 h3 h4 => ?_)
  rw [hz] at h2
  rw [hz]
  refine kk p e s m args below meth cd C d0 hd0 H1 _ ls _ ?_ hL hlo ⟨_, _, rfl, rfl, hst⟩
  refine HR_new (σ' := sh_new σ 15 n.toNatClampNeg) (d' := d_new σ d) hz hlow hold h3 h4 (fun a j => if a = σ.1 then 0 else f a j) (fun a j => ?_) rfl (fun k' hk' => cel_new_old (by omega)) ?_
  · show fR (if a = σ.1 then 0 else f a j) (if a = σ.1 then 0 else d.2 a j)
    split
    · exact fR_rfl _
    · exact hf a j
  · rw [cel_q (σ := sh_new σ 15 n.toNatClampNeg) (show (if σ.1 = σ.1 then 15 else σ.2.1 σ.1) = 15 from if_pos rfl)]
    show H1[_]? = some (vp_cell _ _)
    rw [h2]
    show _ = some (arrV _ (if σ.1 = σ.1 then n.toNatClampNeg else σ.2.2.1 σ.1) (fun j => va_rf ((if σ.1 = σ.1 then none else σ.2.2.2.1 σ.1 j : Option Nat).map (g_bs G + ·))))
    rw [if_pos rfl]
    simp only [if_pos]
    rfl
theorem m_aast {i : Int32} {q ci : Nat} (hd : decode (y_cc Y) pc = .ok (.aastore, 1)) (hk : k < σ.1) (hc : σ.2.1 k = 15) (hin : vp_in i (σ.2.2.1 k)) (hq : q < σ.1) (hcq : σ.2.1 q = 6) (hp : pc + 1 = pc') (kk : mM G Y pc' lo st (sh_rf σ k i.toNatClampNeg (some q)) d u Q) : mM G Y pc lo (.ref q :: .int i :: .ref k :: st) σ d u Q := by
  subst hp
  intro p e s m args below meth cd C d0 hd0 H locs ls str hH hL hlo hst
  obtain ⟨_, _, rfl, hw, _, _, rfl, hx, _, _, rfl, hy, hst⟩ := hst
  obtain rfl := vR_ref hw
  obtain rfl := vR_int hx
  obtain rfl := vR_ref hy
  obtain ⟨hz, hlow, f, hf, hold⟩ := id hH
  have h1 := hold k hk
  rw [cel_q hc] at h1
  have h5 := hold q hq
  rw [cel_obj hcq (by decide)] at h5
  refine mv_astq (s := s.setDrawn d0) (D := g_D G) (cl := vwCl) (tys := g_ty G) (r := (RX6, TX6, 7)) (ci := 6) C.1 C.2.1 C.2.2.2.2.2.2.2.1.1 h1 3 rfl h5 rfl hin hd (fun H1 z h2 h3 h4 => ?_)
  refine kk p e s m args below meth cd C d0 hd0 H1 _ ls _ ?_ (locs_1 hL) hlo hst
  refine HR_upd (σ' := sh_rf σ k i.toNatClampNeg (some q)) (d' := d) hz hlow hold h3 h4 f hf rfl (fun k' hk' => cel_rf_ne hk') ?_
  rw [cel_q (σ := sh_rf σ k i.toNatClampNeg (some q)) hc]
  have e : (fun j => (u2 σ.2.2.2.1 k i.toNatClampNeg (some q) k j).map (g_bs G + ·)) = va_up (fun j => (σ.2.2.2.1 k j).map (g_bs G + ·)) i.toNatClampNeg (some (g_bs G + q)) := by
    funext j
    unfold u2 va_up
    rw [if_pos rfl]
    split <;> rfl
  show va_at _ _ (_, .inl (_, _, .inr (.inr (.inr (.inr (fun j => (u2 σ.2.2.2.1 k i.toNatClampNeg (some q) k j).map (g_bs G + ·))))))) _
  rw [e]
  exact h2
/-- Object's constructor -/
theorem m_obj {i : Nat} (hw : Cond.methodLink Y.1.cls i objectInit ∈ y_ws Y ∧ Cond.instanceMethod objectInit ∈ y_ws Y ∧ Cond.code objectInit ⟨#[0xb1]⟩ 1 none ∈ y_ws Y) (hR : 1 ≤ (y_rm Y).frames ∧ (st.map vct).sum + 12 ≤ (y_rm Y).locals) (hd : decode (y_cc Y) pc = .ok (.invokespecial i, 3)) (hp : pc + 3 = pc') (kk : mM G Y pc' lo st σ d u Q) : mM G Y pc lo (.ref k :: st) σ d u Q := by
  subst hp
  intro p e s m args below meth cd C d0 hd0 H locs ls str hH hL hlo hst
  obtain ⟨_, _, rfl, hx, hst⟩ := hst
  obtain rfl := vR_ref hx
  have hts := dr_words (C.2.2.2.2.2.1) d0
  refine mv_obj (s := s.setDrawn d0) C.1 C.2.1 C.2.2.2.2.1 (hts _ hw.1) (hts _ hw.2.1) (hts _ hw.2.2) (by rw [C.2.2.2.1]; exact mL_siz hlo) hd hR.1 (by rw [vRs_cat hst]; exact hR.2) ?_
  exact kk p e s m args below meth cd C d0 hd0 H locs ls _ hH hL hlo hst
end MAKE
