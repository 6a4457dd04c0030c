/-! LISTS of entries: what is ahead of each, what each has -/
def pn (s : SS) (i : Nat) : Nat := (s (44 + 2 * i)).toNatClampNeg
def qn (s : SS) (i : Nat) : Nat := (s (45 + 2 * i)).toNatClampNeg
theorem okL_p {s : SS} {n i : Nat} (h : okL s n) (hi : i < n) : s (44 + 2 * i) = nI (pn s i) ∧ pn s i ≤ 9 := by
  obtain ⟨p, h1, h2⟩ := (h.2.2 i hi).1
  have : pn s i = p := by unfold pn; rw [h2, nI_clamp (by omega)]
  rw [this]; exact ⟨h2, h1⟩
theorem okL_q {s : SS} {n i : Nat} (h : okL s n) (hi : i < n) : s (45 + 2 * i) = nI (qn s i) ∧ qn s i ≤ 7 := by
  obtain ⟨p, h1, h2⟩ := (h.2.2 i hi).2
  have : qn s i = p := by unfold qn; rw [h2, nI_clamp (by omega)]
  rw [this]; exact ⟨h2, h1⟩
/-- the time ahead of entry i -/
def et (s : SS) (t0 : Nat) : Nat → Nat
  | 0 => t0
  | i + 1 => et s t0 i + (qn s i + 1)
/-- the charge ahead of entry i -/
def eh (s : SS) (t0 : Nat) (h0 : UInt32) : Nat → UInt32
  | 0 => h0
  | i + 1 => xh s (pn s i) (qn s i) (et s t0 i) (eh s t0 h0 i)
def er (s : SS) (t0 : Nat) (h0 : UInt32) (i : Nat) : Int32 := xr s (pn s i) (qn s i) (et s t0 i) (eh s t0 h0 i)
def ec (s : SS) (t0 : Nat) (h0 : UInt32) (i : Nat) : Int32 := xc s (pn s i) (qn s i) (et s t0 i) (eh s t0 h0 i)
def ee (s : SS) (t0 : Nat) (h0 : UInt32) (i : Nat) : Int32 := xe s (pn s i) (qn s i) (et s t0 i) (eh s t0 h0 i)
/-- the sum of the first carries without their signs -/
def esm (s : SS) (t0 : Nat) (h0 : UInt32) : Nat → Int32
  | 0 => 0
  | i + 1 => esm s t0 h0 i + siz (ec s t0 h0 i)
theorem et_le {s : SS} {n t0 : Nat} (h : okL s n) : ∀ i, i ≤ n → et s t0 i ≤ t0 + 8 * i
  | 0, _ => Nat.le_refl _
  | i + 1, hi => by
    have h1 := et_le (t0 := t0) h i (by omega)
    have h2 := (okL_q h (show i < n by omega)).2
    show et s t0 i + (qn s i + 1) ≤ _
    omega
/-- the slots of the first entries -/
def sls (s : SS) : Nat → Int32
  | 0 => 0
  | i + 1 => sls s i + (s (45 + 2 * i) + 1)
/-- how many of the first channels have a kind; how many of the first entries a place -/
def cks (s : SS) (k : Int32) : Nat → Int32
  | 0 => 0
  | i + 1 => cks s k i + (if s (5 * i) = k then 1 else 0)
def cen (s : SS) (p : Int32) : Nat → Int32
  | 0 => 0
  | i + 1 => cen s p i + (if s (44 + 2 * i) = p then 1 else 0)
/-- a reading as it is corrected; -1 stands for none that was read -/
def cor (s : SS) (y a b : Int32) : Int32 := if y = -1 ∨ a = -1 ∨ b ≤ a then -10000009 else dwn ((y - a) * s 40) (b - a)
