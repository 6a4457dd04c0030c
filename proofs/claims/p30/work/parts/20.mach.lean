/-! THE WALKER'S OWN MACHINE: an abstract memory (shape and data) that the heap from the law's first new cell on is; a judgement mM over it, one row an instruction. -/
/-- launch, class numbers, classes of the arrays, the heap at the law's entry -/
abbrev GP : Type := Launch × va_G × (Nat → ClassId) × Heap
/-- method, code, locals, return type, words, room -/
abbrev MD : Type := MethodName × ByteArray × Nat × Option FieldType × List Cond × Room
/-- shape: how many cells, their kinds, lengths of arrays, references, widths of tables -/
abbrev Sh : Type := Nat × (Nat → Nat) × (Nat → Nat) × (Nat → Nat → Option Nat) × (Nat → Int32)
/-- data: whole numbers, floats -/
abbrev Dt : Type := (Nat → Nat → Int32) × (Nat → Nat → UInt32)
abbrev g_D (G : GP) : va_G := G.2.1
abbrev g_cy (G : GP) : Nat → ClassId := G.2.2.1
abbrev g_H (G : GP) : Heap := G.2.2.2
abbrev g_bs (G : GP) : Nat := G.2.2.2.size
abbrev g_ty (G : GP) : List (ClassId × FieldType) := [(G.2.2.1 0, .char), (G.2.2.1 1, .int), (G.2.2.1 2, .int), (G.2.2.1 3, .object "ScanRing$State")]
abbrev y_cc (Y : MD) : ByteArray := Y.2.1
abbrev y_nl (Y : MD) : Nat := Y.2.2.1
abbrev y_rt (Y : MD) : Option FieldType := Y.2.2.2.1
abbrev y_ws (Y : MD) : List Cond := Y.2.2.2.2.1
abbrev y_rm (Y : MD) : Room := Y.2.2.2.2.2
/-- floats that stand for one datum -/
def fR (r x : UInt32) : Prop := FP.Core.decode FP.Core.b32 r.toNat = FP.Core.decode FP.Core.b32 x.toNat
theorem fR_rfl (x : UInt32) : fR x x := rfl
/-- a value of the abstract memory, and the machine's own -/
def vR (G : GP) (a r : Value) : Prop := match a with
  | .int x => r = .int x
  | .float x => ∃ y, r = .float y ∧ fR y x
  | .ref k => r = .ref (g_bs G + k)
  | .null => r = .null
  | .long x => r = .long x
  | .double _ => r = .ref (G.2.2.1 4)
  | _ => False
/-- how many places a value takes -/
def vct (v : Value) : Nat := match v with
  | .long _ => 2
  | _ => 1
theorem vct_1 : ¬ (1 : Nat) = 2 := by decide
def vRs (G : GP) : List Value → List Value → Prop
  | [], r => r = []
  | a :: l, r => ∃ x t, r = x :: t ∧ vR G a x ∧ vRs G l t
def vRo (G : GP) (a r : Option Value) : Prop := match a with
  | none => r = none
  | some v => ∃ w, r = some w ∧ vR G v w
/-- the codes of a class's fields: 0 a whole number, 1 a float, 2 a reference, 3 a table's width -/
def fco (k : Nat) : List Nat := match k with
  | 0 => [1, 0, 0, 0, 0]
  | 1 => [2, 0, 0]
  | 2 => [2, 0, 0]
  | 3 => [2, 2, 2, 0]
  | 4 => [2, 0]
  | 5 => [2, 2, 2]
  | 6 => [2, 2, 2, 2, 2, 2, 1]
  | 7 => [3, 2]
  | 8 => [2, 0]
  | 9 => [2, 2, 0, 0]
  | 10 => [2, 2, 2, 2, 2, 2]
  | _ => [0, 2, 2, 2, 2, 0, 1, 2, 0, 1, 0, 0, 0, 0, 2, 0, 0]
def rv (b : Nat) (o : Option Nat) : Value := va_rf (o.map (b + ·))
def fvl (b : Nat) (σ : Sh) (d : Dt) (k j c : Nat) : Value := if c = 0 then .int (d.1 k j) else if c = 1 then .float (d.2 k j) else if c = 2 then rv b (σ.2.2.2.1 k j) else .int (σ.2.2.2.2 k)
/-- the cell at the abstract address k -/
def cel (G : GP) (σ : Sh) (d : Dt) (k : Nat) : va_E :=
  if σ.2.1 k < 12 then .inr (σ.2.1 k, (fco (σ.2.1 k)).mapIdx (fun j c => fvl (g_bs G) σ d k j c))
  else if σ.2.1 k = 12 then .inl (g_cy G 0, σ.2.2.1 k, .inl (d.1 k))
  else if σ.2.1 k = 13 then .inl (g_cy G 1, σ.2.2.1 k, .inr (.inr (.inl (d.2 k))))
  else if σ.2.1 k = 14 then .inl (g_cy G 2, σ.2.2.1 k, .inl (d.1 k))
  else .inl (g_cy G 3, σ.2.2.1 k, .inr (.inr (.inr (.inr (fun j => (σ.2.2.2.1 k j).map (g_bs G + ·))))))
/-- the heap is what it was below, and from there on the abstract memory -/
def HR (G : GP) (σ : Sh) (d : Dt) (H : Heap) : Prop :=
  H.size = g_bs G + σ.1 ∧ (∀ q, q < g_bs G → H[q]? = (g_H G)[q]?) ∧ ∃ f : Nat → Nat → UInt32, (∀ k j, fR (f k j) (d.2 k j)) ∧ ∀ k, k < σ.1 → va_at (g_D G) vwCl (g_bs G + k, cel G σ (d.1, f) k) H
/-- links between nest mates -/
def nws : List (String × Nat × MethodName × String) := [("ScanRing", 25, yX0_init, "ScanRing"), ("ScanRing", 32, yX5_init, "ScanRing"), ("ScanRing", 46, yX9_init, "ScanRing"), ("ScanRing$Setup", 67, yX10_readingWith, "ScanRing"), ("ScanRing$State", 20, yX2_init, "ScanRing"), ("ScanRing$State", 39, yX4_init, "ScanRing"), ("ScanRing$TextReader", 11, yX8_init, "ScanRing"), ("ScanRing$TextReader", 101, yX10_isWithin, "ScanRing")]
/-- what the tables say, the same through the whole run -/
def mK (G : GP) (s : State) : Prop := va_K (g_D G) vwCl (g_ty G) s ∧ va_AO "ScanRing$State" s ∧ (∀ x ∈ nws, va_Nw (.methodLinkNest x.1 x.2.1 x.2.2.1 x.2.2.2) s) ∧ ArrOfT s (G.2.2.1 5) .int
theorem mK.moved {G : GP} {s U : State} (hW : s.WarmedH U.vm) (h : mK G s) : mK G U := ⟨va_K.moved hW.alike h.1, va_AO.moved hW.alike h.2.1, fun x hx => va_Nw.warmM hW (h.2.2.1 x hx), arrOfT_moved hW.alike h.2.2.2⟩
theorem mK.same {G : GP} {s U : State} (hv : s.vm = U.vm) (h : mK G s) : mK G U := ⟨va_K.moved (by rw [hv]; exact Vm.Alike.refl U.vm) h.1, va_AO.moved (by rw [hv]; exact Vm.Alike.refl U.vm) h.2.1, fun x hx => va_Nw.same rfl hv (h.2.2.1 x hx), arrOfT_moved (by rw [hv]; exact Vm.Alike.refl U.vm) h.2.2.2⟩
/-- the locals -/
def mL (G : GP) (lo : List (Option Value)) (ls : Array Slot) (n : Nat) : Prop := ∃ lv : List (Nat × Value), lv_has ls n lv ∧ lo.length = n ∧ ∀ i v, lo[i]? = some (some v) → (vct v = 2 → lo[i + 1]? = some none) → ∃ r, (i, r) ∈ lv ∧ vR G v r
def mCx (G : GP) (Y : MD) (p : Program) (s : State) (m : MethodId) (args : Array Value) (meth : Method) (c : Code) : Prop :=
  p.tables.exec = Jvm.exec ∧ c.code = y_cc Y ∧ meth.sig.returnType = y_rt Y ∧ c.maxLocals = y_nl Y ∧ s.vm.findClass Y.1.cls = some m.cls ∧ (∀ w ∈ y_ws Y, w.before args s = true) ∧ meth.locks = false ∧ mK G s ∧ meth.name = Y.1.name
/-- what a method's end says -/
def mQ (G : GP) (Q : Option Value → Sh → Dt → Prop) : Array Value → State → Outcome → State → Prop := fun _ _ oc t => ∃ v v' σ' d', oc = .returned v' ∧ vRo G v v' ∧ Q v σ' d' ∧ HR G σ' d' t.heap
/-- THE JUDGEMENT: method Y at pc, with these locals, this stack, this memory and so much made, ends with Q -/
def mM (G : GP) (Y : MD) (pc : Nat) (lo : List (Option Value)) (st : List Value) (σ : Sh) (d : Dt) (u : Nat × Nat) (Q : Option Value → Sh → Dt → Prop) : Prop :=
  ∀ (p : Program) (e : Env) (s : State) (m : MethodId) (args : Array Value) (below : List Frame) (meth : Method) (c : Code), mCx G Y p s m args meth c →
  ∀ (d0 : Drawn), s.drawn.sameBut d0 lw_cs → ∀ (H : Heap) (locs : List Loc) (ls : Array Slot) (str : List Value), HR G σ d H → (∀ q ∈ locs, g_bs G ≤ q.base) → mL G lo ls (y_nl Y) → vRs G st str →
    W p G.1 e (y_rm Y) (s.setDrawn d0) m args below meth c H locs u.1 u.2 (MQD lw_cs below (mQ G Q) args s (y_rm Y).cells (y_rm Y).slots (fun q => g_bs G ≤ q)) (F0 m pc ls str)
/-- A CONTRACT: called with A over this memory, Y ends with Q -/
def mC (G : GP) (Y : MD) (A : List Value) (σ : Sh) (d : Dt) (Q : Option Value → Sh → Dt → Prop) : Prop :=
  ∀ Ar : List Value, vRs G A Ar → MetD lw_cs G.1 Y.1 (y_ws Y) (y_rm Y) (va_Pc Ar (fun U => HR G σ d U.heap ∧ mK G U)) (mQ G Q) (y_rm Y).cells (y_rm Y).slots (fun q => g_bs G ≤ q)
section MACH
variable {G : GP} {Y Z : MD} {pc pc' : Nat} {lo lo' : List (Option Value)} {st : List Value} {σ : Sh} {d : Dt} {u : Nat × Nat} {Q : Option Value → Sh → Dt → Prop}
theorem vR_int {x : Int32} {r : Value} (h : vR G (.int x) r) : r = .int x := h
theorem vR_long {x : Int64} {r : Value} (h : vR G (.long x) r) : r = .long x := h
theorem vR_ref {k : Nat} {r : Value} (h : vR G (.ref k) r) : r = .ref (g_bs G + k) := h
theorem vR_null {r : Value} (h : vR G .null r) : r = .null := h
theorem vR_float {x : UInt32} {r : Value} (h : vR G (.float x) r) : ∃ y, r = .float y ∧ fR y x := h
theorem vR_cat {v r : Value} (h : vR G v r) : r.category = vct v := by
  cases v with
  | int x => cases vR_int h; rfl
  | float x => obtain ⟨y, rfl, -⟩ := vR_float h; rfl
  | ref k => cases vR_ref h; rfl
  | null => cases vR_null h; rfl
  | long x => cases (show r = .long x from h); rfl
  | double x => cases (show r = .ref (G.2.2.1 4) from h); rfl
  | _ => exact h.elim
theorem vRs_cat : ∀ {l r : List Value}, vRs G l r → (r.map fun v => v.category).sum = (l.map vct).sum
  | [], _, h => by cases h; rfl
  | a :: l, _, h => by
    obtain ⟨x, t, rfl, h1, h2⟩ := h
    have h3 := vRs_cat h2
    simp only [List.map_cons, List.sum_cons, vR_cat h1, h3]
theorem vRs_len : ∀ {l r : List Value}, vRs G l r → r.length = l.length
  | [], _, h => by cases h; rfl
  | a :: l, _, h => by
    obtain ⟨x, t, rfl, h1, h2⟩ := h
    simp [vRs_len h2]
theorem vRs_append : ∀ {a b r t : List Value}, vRs G a r → vRs G b t → vRs G (a ++ b) (r ++ t)
  | [], _, _, _, h1, h2 => by cases h1; exact h2
  | a :: l, _, _, _, h1, h2 => by
    obtain ⟨x, t, rfl, h3, h4⟩ := h1
    exact ⟨x, _, rfl, h3, vRs_append h4 h2⟩
theorem vRs_split : ∀ {a b r : List Value}, vRs G (a ++ b) r → ∃ r1 r2, r = r1 ++ r2 ∧ vRs G a r1 ∧ vRs G b r2
  | [], _, r, h => ⟨[], r, rfl, rfl, h⟩
  | a :: l, _, _, h => by
    obtain ⟨x, t, rfl, h1, h2⟩ := h
    obtain ⟨r1, r2, rfl, h3, h4⟩ := vRs_split h2
    exact ⟨x :: r1, r2, rfl, ⟨x, r1, rfl, h1, h3⟩, h4⟩
theorem vRs_rev : ∀ {a r : List Value}, vRs G a r → vRs G a.reverse r.reverse
  | [], _, h => by cases h; rfl
  | a :: l, _, h => by
    obtain ⟨x, t, rfl, h1, h2⟩ := h
    rw [List.reverse_cons, List.reverse_cons]
    exact vRs_append (vRs_rev h2) ⟨x, [], rfl, h1, rfl⟩
theorem mL_at {ls : Array Slot} {n i : Nat} {v : Value} (h : mL G lo ls n) (hi : lo[i]? = some (some v)) (hc : vct v = 2 → lo[i + 1]? = some none := by exact fun h => absurd h vct_1) : ∃ r, ls[i]? = some (.val r) ∧ vR G v r := by
  obtain ⟨lv, h1, h2, h3⟩ := h
  obtain ⟨r, h4, h5⟩ := h3 i v hi hc
  exact ⟨r, h1.2.2 _ h4, h5⟩
theorem mL_siz {ls : Array Slot} {n : Nat} (h : mL G lo ls n) : ls.size = n := h.choose_spec.1.1
theorem mL_len {ls : Array Slot} {n : Nat} (h : mL G lo ls n) : lo.length = n := h.choose_spec.2.1
theorem mL_store {ls' : Array Slot} {n i : Nat} {v r : Value} {lv : List (Nat × Value)} (h1 : lv_has ls' n ((i, r) :: lv.filter (fun q => !(q.1 == i) && !(q.1 + 1 == i && q.2.category == 2)))) (h2 : lo.length = n) (h3 : ∀ i v, lo[i]? = some (some v) → (vct v = 2 → lo[i + 1]? = some none) → ∃ r, (i, r) ∈ lv ∧ vR G v r) (hv : vR G v r) : mL G (lo.set i (some v)) ls' n := by
  refine ⟨_, h1, by rw [List.length_set]; exact h2, fun j w hj hn => ?_⟩
  by_cases hji : j = i
  · subst hji
    have hlt : j < lo.length := by
      have := (List.getElem?_eq_some_iff.mp hj).1
      rwa [List.length_set] at this
    rw [List.getElem?_set_self hlt] at hj
    cases hj
    exact ⟨r, List.mem_cons_self, hv⟩
  · rw [List.getElem?_set_ne (Ne.symm hji)] at hj
    have hn2 : vct w = 2 → j + 1 ≠ i ∧ lo[j + 1]? = some none := fun hc => by
      have h0 := hn hc
      by_cases e : j + 1 = i
      · subst e
        have hlt : j + 1 < lo.length := by
          have := (List.getElem?_eq_some_iff.mp h0).1
          rwa [List.length_set] at this
        rw [List.getElem?_set_self hlt] at h0
        cases h0
      · rw [List.getElem?_set_ne (Ne.symm e)] at h0
        exact ⟨e, h0⟩
    obtain ⟨r', h4, h5⟩ := h3 j w hj (fun hc => (hn2 hc).2)
    refine ⟨r', List.mem_cons_of_mem _ (List.mem_filter.mpr ⟨h4, ?_⟩), h5⟩
    have hc := vR_cat h5
    by_cases h2 : vct w = 2
    · have := (hn2 h2).1
      simp [hji, this]
    · simp [hji, hc, h2]
theorem mL_store2 {ls' : Array Slot} {n i : Nat} {x : Int64} {r : Value} {lv : List (Nat × Value)} (h1 : lv_has ls' n ((i, r) :: lv.filter (fun q => !(q.1 == i) && (!(q.1 == i + 1) && !(q.1 + 1 == i && q.2.category == 2))))) (h2 : lo.length = n) (h3 : ∀ i v, lo[i]? = some (some v) → (vct v = 2 → lo[i + 1]? = some none) → ∃ r, (i, r) ∈ lv ∧ vR G v r) (hv : vR G (.long x) r) : mL G ((lo.set i (some (.long x))).set (i + 1) none) ls' n := by
  refine ⟨_, h1, by rw [List.length_set, List.length_set]; exact h2, fun j w hj hn => ?_⟩
  have hj1 : j ≠ i + 1 := fun e => by
    subst e
    have hlt : i + 1 < (lo.set i (some (.long x))).length := by
      have := (List.getElem?_eq_some_iff.mp hj).1
      rwa [List.length_set] at this
    rw [List.getElem?_set_self hlt] at hj
    cases hj
  rw [List.getElem?_set_ne (Ne.symm hj1)] at hj
  by_cases hji : j = i
  · subst hji
    have hlt : j < lo.length := by
      have := (List.getElem?_eq_some_iff.mp hj).1
      rwa [List.length_set] at this
    rw [List.getElem?_set_self hlt] at hj
    cases hj
    exact ⟨r, List.mem_cons_self, hv⟩
  · rw [List.getElem?_set_ne (Ne.symm hji)] at hj
    have hn2 : vct w = 2 → j + 1 ≠ i ∧ lo[j + 1]? = some none := fun hc => by
      have h0 := hn hc
      rw [List.getElem?_set_ne (show i + 1 ≠ j + 1 by omega)] at h0
      by_cases e : j + 1 = i
      · subst e
        have hlt : j + 1 < lo.length := by
          have := (List.getElem?_eq_some_iff.mp h0).1
          rwa [List.length_set] at this
        rw [List.getElem?_set_self hlt] at h0
        cases h0
      · rw [List.getElem?_set_ne (Ne.symm e)] at h0
        exact ⟨e, h0⟩
    obtain ⟨r', h4, h5⟩ := h3 j w hj (fun hc => (hn2 hc).2)
    refine ⟨r', List.mem_cons_of_mem _ (List.mem_filter.mpr ⟨h4, ?_⟩), h5⟩
    have hc := vR_cat h5
    by_cases h2 : vct w = 2
    · have := (hn2 h2).1
      simp [hji, hj1, this]
    · simp [hji, hj1, hc, h2]
/-! fR and the arithmetic -/
theorem fR_nan {b : UInt32} (h : isNaN32 b = true) : FP.Core.decode FP.Core.b32 b.toNat = .nan := by
  have h1 := isNaN32_iff.mp h
  have h2 : b.toNat &&& 0x7fffffff = b.toNat % 2147483648 := by
    rw [show (0x7fffffff : Nat) = 2 ^ 31 - 1 from rfl, Nat.and_two_pow_sub_one_eq_mod]
  rw [h2] at h1
  have h3 : b.toNat < 4294967296 := b.toNat_lt
  have hE : b.toNat / 8388608 % 256 = 255 := by omega
  have hT : b.toNat % 8388608 ≠ 0 := by omega
  unfold FP.Core.decode
  have e1 : FP.Core.fieldE FP.Core.b32 b.toNat = b.toNat / 8388608 % 256 := rfl
  have e2 : FP.Core.fieldT FP.Core.b32 b.toNat = b.toNat % 8388608 := rfl
  have e3 : FP.Core.b32.exps - 1 = 255 := rfl
  rw [e1, e2, e3, if_pos hE, if_neg hT]
theorem fR_of_alike {r x : UInt32} (h : alike32 r x = true) : fR r x := by
  unfold alike32 at h
  rcases Bool.or_eq_true_iff.mp h with h | h
  · rw [of_decide_eq_true h]; exact fR_rfl x
  · have h := Bool.and_eq_true_iff.mp h
    unfold fR
    rw [fR_nan h.1, fR_nan h.2]
theorem fR_trans {a b c : UInt32} (h1 : fR a b) (h2 : fR b c) : fR a c := Eq.trans h1 h2
theorem fR_add {a b x y : UInt32} (h1 : fR a x) (h2 : fR b y) : fR (FP.fadd a b) (FP.fadd x y) := by
  have : FP.fadd a b = FP.fadd x y := by
    show UInt32.ofNat (FP.Core.add FP.Core.b32 a.toNat b.toNat) = UInt32.ofNat (FP.Core.add FP.Core.b32 x.toNat y.toNat)
    unfold FP.Core.add
    rw [show FP.Core.decode FP.Core.b32 a.toNat = _ from h1, show FP.Core.decode FP.Core.b32 b.toNat = _ from h2]
  rw [this]; exact fR_rfl _
theorem fR_sub {a b x y : UInt32} (h1 : fR a x) (h2 : fR b y) : fR (FP.fsub a b) (FP.fsub x y) := by
  have : FP.fsub a b = FP.fsub x y := by
    show UInt32.ofNat (FP.Core.sub FP.Core.b32 a.toNat b.toNat) = UInt32.ofNat (FP.Core.sub FP.Core.b32 x.toNat y.toNat)
    unfold FP.Core.sub
    rw [show FP.Core.decode FP.Core.b32 a.toNat = _ from h1, show FP.Core.decode FP.Core.b32 b.toNat = _ from h2]
  rw [this]; exact fR_rfl _
theorem fR_mul {a b x y : UInt32} (h1 : fR a x) (h2 : fR b y) : fR (FP.fmul a b) (FP.fmul x y) := by
  have : FP.fmul a b = FP.fmul x y := by
    show UInt32.ofNat (FP.Core.mul FP.Core.b32 a.toNat b.toNat) = UInt32.ofNat (FP.Core.mul FP.Core.b32 x.toNat y.toNat)
    unfold FP.Core.mul
    rw [show FP.Core.decode FP.Core.b32 a.toNat = _ from h1, show FP.Core.decode FP.Core.b32 b.toNat = _ from h2]
  rw [this]; exact fR_rfl _
theorem fR_div {a b x y : UInt32} (h1 : fR a x) (h2 : fR b y) : fR (FP.fdiv a b) (FP.fdiv x y) := by
  have : FP.fdiv a b = FP.fdiv x y := by
    show UInt32.ofNat (FP.Core.div FP.Core.b32 a.toNat b.toNat) = UInt32.ofNat (FP.Core.div FP.Core.b32 x.toNat y.toNat)
    unfold FP.Core.div
    rw [show FP.Core.decode FP.Core.b32 a.toNat = _ from h1, show FP.Core.decode FP.Core.b32 b.toNat = _ from h2]
  rw [this]; exact fR_rfl _
theorem fR_cmp {a b x y : UInt32} (h1 : fR a x) (h2 : fR b y) : FP.fcmp a b = FP.fcmp x y := by
  show FP.Core.cmp FP.Core.b32 a.toNat b.toNat = FP.Core.cmp FP.Core.b32 x.toNat y.toNat
  unfold FP.Core.cmp
  rw [show FP.Core.decode FP.Core.b32 a.toNat = _ from h1, show FP.Core.decode FP.Core.b32 b.toNat = _ from h2]
theorem fR_f2i {a x : UInt32} (h1 : fR a x) : FP.f2i a = FP.f2i x := by
  show Int32.ofInt (FP.Core.toInt _ _ (FP.Core.decode FP.Core.b32 a.toNat)) = Int32.ofInt (FP.Core.toInt _ _ (FP.Core.decode FP.Core.b32 x.toNat))
  rw [show FP.Core.decode FP.Core.b32 a.toNat = _ from h1]
end MACH
