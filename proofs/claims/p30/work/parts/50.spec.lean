/-! WHAT IS COMPUTED: pure words over a state of whole numbers, laid as the check lays it (408 places) -/
abbrev SS : Type := Nat → Int32
def sU (s : SS) (k : Nat) (v : Int32) : SS := fun j => if j = k then v else s j
theorem sU_u2 (m : Nat → Nat → Int32) (a k : Nat) (v : Int32) : u2 m a k v a = sU (m a) k v := by funext j; simp [u2, sU]
theorem sU_eq (s : SS) (k : Nat) (v : Int32) : sU s k v k = v := by simp [sU]
theorem sU_ne (s : SS) {k j : Nat} (v : Int32) (h : j ≠ k) : sU s k v j = s j := by simp [sU, h]
def bin (v a b : Int32) : Int32 := if a ≤ v ∧ v ≤ b then 1 else 0
def siz (v : Int32) : Int32 := if v < 0 then -v else v
def dwn (a b : Int32) : Int32 := if a < 0 then -((b - 1 - a) / b) else a / b
def clp (x : Int32) : Int32 := if x < 0 then 0 else if 4095 < x then 4095 else x
/-- a channel's value at a time -/
def cvl (s : SS) (c : Nat) (t : Int32) : Int32 := clp (if s (5 * c) = 1 then s (5 * c + 1) + dwn (s (5 * c + 2) * t) 16 else if s (5 * c) = 2 ∧ s (5 * c + 3) / 2 ≤ t - t / s (5 * c + 3) * s (5 * c + 3) then s (5 * c + 2) else s (5 * c + 1))
/-- a place's value at a time -/
def pvl (s : SS) (p : Nat) (t : Int32) : Int32 := if p = 8 then 0 else if p = 9 then s 40 else cvl s p t
/-- a place's resistance -/
def rsl (s : SS) (p : Nat) : Int32 := if p < 8 then s (5 * p + 4) else 0
/-- the charge behind a slot -/
def slt (s : SS) (p : Nat) (t : Int32) (h : UInt32) : UInt32 := if rsl s p = 0 then FP.i2f (pvl s p t) else FP.fadd h (FP.fdiv (FP.fsub (FP.i2f (pvl s p t)) h) (FP.i2f (1 + rsl s p)))
def rsum (h : UInt32) (g o : Int32) : UInt32 := FP.fadd (FP.fadd (FP.fmul h (FP.fdiv (FP.i2f g) 1148846080)) (FP.i2f o)) 1056964608
/-- a reading of a charge -/
def rdb (h : UInt32) (g o : Int32) : Int32 := if 0 ≤ Op.cmpValue (FP.fcmp (rsum h g o) FP.fconst0) CmpOp.g then (if 4095 < FP.f2i (rsum h g o) then 4095 else FP.f2i (rsum h g o)) else 0
/-- slots one behind the other: the charge, the charge without what was there, at times t, t + 1 .. -/
def cos (s : SS) (p : Nat) : Nat → Nat → UInt32 → UInt32
  | 0, _, h => h
  | n + 1, t, h => slt s p (nI (t + n)) (cos s p n t h)
/-- a source that is in its ranges -/
def okC (s : SS) (c : Nat) : Prop := ∃ k lv r : Nat, s (5 * c) = nI k ∧ k ≤ 2 ∧ s (5 * c + 1) = nI lv ∧ lv ≤ 4095 ∧ s (5 * c + 4) = nI r ∧ r ≤ 31 ∧ (-64 ≤ (s (5 * c + 2)).toInt ∧ (s (5 * c + 2)).toInt ≤ 4095) ∧ (k = 2 → ∃ x : Nat, x ≤ 4095 ∧ s (5 * c + 2) = nI x) ∧ (k = 2 → ∃ x : Nat, 2 ≤ x ∧ x ≤ 200 ∧ s (5 * c + 3) = nI x)
/-- a list of n entries that are in their ranges -/
def okL (s : SS) (n : Nat) : Prop := n ≤ 16 ∧ s 43 = nI n ∧ ∀ i, i < n → (∃ p : Nat, p ≤ 9 ∧ s (44 + 2 * i) = nI p) ∧ ∃ q : Nat, q ≤ 7 ∧ s (45 + 2 * i) = nI q
def okR (s : SS) : Prop := ∃ r : Nat, r ≤ 4095 ∧ s 40 = nI r
theorem okC_per {s : SS} {c : Nat} (h : okC s c) (h2 : s (5 * c) = 2) : ¬ s (5 * c + 3) = 0 := by
  obtain ⟨k, lv, r, e1, k2, -, -, -, -, -, -, h3⟩ := h
  have hk : k = 2 := (nI_eq (by omega) (by decide)).mp (e1.symm.trans (h2.trans (show (2 : Int32) = nI 2 from rfl)))
  obtain ⟨x, x1, x2, x3⟩ := h3 hk
  rw [x3]
  exact nI_ne0 (by omega) (by omega)
/-- a place that is in its range, whose period is none of 0 where it counts -/
def pok (s : SS) (p : Nat) : Prop := p ≤ 9 ∧ (p < 8 → s (5 * p) = 2 → ¬ s (5 * p + 3) = 0)
theorem pok_of {s : SS} {p : Nat} (h : ∀ c, c < 8 → okC s c) (hp : p ≤ 9) : pok s p := ⟨hp, fun h8 h2 => okC_per (h p h8) h2⟩
/-- an entry carried out: the charge behind it, its reading, its carry, its error -/
def xh (s : SS) (p q t : Nat) (h : UInt32) : UInt32 := cos s p (q + 1) t h
def xr (s : SS) (p q t : Nat) (h : UInt32) : Int32 := rdb (xh s p q t h) (s 41) (s 42)
def xc (s : SS) (p q t : Nat) (h : UInt32) : Int32 := xr s p q t h - rdb (cos s p (q + 1) t FP.fconst0) (s 41) (s 42)
def xe (s : SS) (p q t : Nat) (h : UInt32) : Int32 := xr s p q t h - pvl s p (nI (t + q))
/-- two memories that differ at most where E and EF say -/
def fr (E EF : Nat → Nat → Prop) (d d' : Dt) : Prop := (∀ a j, ¬ E a j → d'.1 a j = d.1 a j) ∧ ∀ a j, ¬ EF a j → d'.2 a j = d.2 a j
theorem fr.rfl {E EF : Nat → Nat → Prop} {d : Dt} : fr E EF d d := ⟨fun _ _ _ => Eq.refl _, fun _ _ _ => Eq.refl _⟩
theorem fr.trans {E EF : Nat → Nat → Prop} {a b c : Dt} (h : fr E EF a b) (h2 : fr E EF b c) : fr E EF a c := ⟨fun x y hx => (h2.1 x y hx).trans (h.1 x y hx), fun x y hx => (h2.2 x y hx).trans (h.2 x y hx)⟩
theorem fr.mono {E EF E2 EF2 : Nat → Nat → Prop} {a b : Dt} (h : fr E EF a b) (h1 : ∀ x y, E x y → E2 x y) (h2 : ∀ x y, EF x y → EF2 x y) : fr E2 EF2 a b := ⟨fun x y hx => h.1 x y (fun q => hx (h1 x y q)), fun x y hx => h.2 x y (fun q => hx (h2 x y q))⟩
theorem fr.i {E EF : Nat → Nat → Prop} {d d' : Dt} (h : fr E EF d d') {k j : Nat} (x : Int32) (hE : E k j) : fr E EF d (u2 d'.1 k j x, d'.2) := ⟨fun a b hab => by
  show u2 d'.1 k j x a b = _
  by_cases h1 : a = k
  · by_cases h2 : b = j
    · subst h1; subst h2; exact absurd hE hab
    · rw [u2_oth h2]; exact h.1 a b hab
  · rw [u2_ne h1]; exact h.1 a b hab, h.2⟩
theorem fr.f {E EF : Nat → Nat → Prop} {d d' : Dt} (h : fr E EF d d') {k j : Nat} (x : UInt32) (hE : EF k j) : fr E EF d (d'.1, u2 d'.2 k j x) := ⟨h.1, fun a b hab => by
  show u2 d'.2 k j x a b = _
  by_cases h1 : a = k
  · by_cases h2 : b = j
    · subst h1; subst h2; exact absurd hE hab
    · rw [u2_oth h2]; exact h.2 a b hab
  · rw [u2_ne h1]; exact h.2 a b hab⟩
theorem fr.row {E EF : Nat → Nat → Prop} {d d' : Dt} (h : fr E EF d d') {a : Nat} (hE : ∀ j, ¬ E a j) : d'.1 a = d.1 a := funext fun j => h.1 a j (hE j)
theorem fr.rowf {E EF : Nat → Nat → Prop} {d d' : Dt} (h : fr E EF d d') {a : Nat} (hE : ∀ j, ¬ EF a j) : d'.2 a = d.2 a := funext fun j => h.2 a j (hE j)
/-- only what the check's trial run writes is different -/
abbrev simE (a j : Nat) : Prop := a = 214 ∧ 10 ≤ j ∧ j ≤ 13
abbrev simF (a j : Nat) : Prop := a = 214 ∧ j = 9
abbrev simD (d d' : Dt) : Prop := fr simE simF d d'
theorem simD.s {d d' : Dt} (h : simD d d') {s : SS} (hs : d.1 215 = s) : d'.1 215 = s := (fr.row h (fun j q => absurd q.1 (by decide))).trans hs
theorem ix_e (i : Nat) : (44 : Int32) + 2 * nI i = nI (44 + 2 * i) := by rw [show (2 : Int32) = nI 2 from rfl, show (44 : Int32) = nI 44 from rfl, pk_mul, nI_add]
theorem ix_f (i : Nat) : (44 : Int32) + 2 * nI i + 1 = nI (45 + 2 * i) := by rw [ix_e, nI_1]; congr 1; omega
theorem ix_c (c k : Nat) : (5 : Int32) * nI c + nI k = nI (5 * c + k) := by rw [show (5 : Int32) = nI 5 from rfl, pk_mul, nI_add]
