/-! MORE WORDS: keys, sources, lists that change -/
theorem sub_nz {a b : Int32} (h : a < b) : ¬ b - a = 0 := by
  intro e
  have h1 : b - a + a = 0 + a := congrArg (· + a) e
  rw [Int32.sub_add_cancel, Int32.zero_add] at h1
  rw [h1] at h
  exact absurd h (by simp)
theorem tI_ne {k m : Int32} (h : ¬ k = m) : k.toInt ≠ m.toInt := fun e => h (Int32.toInt_inj.mp e)
/-- an entry's key by a rule -/
def kyl (s : SS) (r : Int32) (i : Nat) : Int32 := if r = 0 then s (44 + 2 * i) else if r = 1 then rsl s (pn s i) else pvl s (pn s i) (s 76)
/-- whether a source is in its ranges -/
def isrc (k l x p : Int32) : Int32 := if bin l 0 4095 = 0 then 0 else if k = 0 then (if x = 0 ∧ p = 0 then 1 else 0) else if k = 1 then (if ¬ bin x (-64) 64 = 0 ∧ p = 0 then 1 else 0) else if k = 2 then (if ¬ bin x 0 4095 = 0 ∧ ¬ bin p 2 200 = 0 then 1 else 0) else 0
theorem isrc_01 (k l x p : Int32) : isrc k l x p = 0 ∨ isrc k l x p = 1 := by
  unfold isrc
  repeat' split
  all_goals first | exact Or.inl rfl | exact Or.inr rfl
theorem bin_01 (v a b : Int32) : bin v a b = 0 ∨ bin v a b = 1 := by
  unfold bin
  split
  · exact Or.inr rfl
  · exact Or.inl rfl
theorem nar_01 {v : Int32} (h : v = 0 ∨ v = 1) : narrow .boolean (.int v) = .int v := by rcases h with h | h <;> subst h <;> rfl
/-- a source put in -/
def pso (s : SS) (c : Nat) (k l x p : Int32) : SS := sU (sU (sU (sU s (5 * c) k) (5 * c + 1) l) (5 * c + 2) x) (5 * c + 3) p
/-- an entry put in ahead of place b; one taken out -/
def ins (s : SS) (n b : Nat) (p q : Int32) : SS := fun j => if j = 43 then nI (n + 1) else if j = 44 + 2 * b then p else if j = 45 + 2 * b then q else if 46 + 2 * b ≤ j ∧ j < 46 + 2 * n then s (j - 2) else s j
def rem (s : SS) (n e : Nat) : SS := fun j => if j = 43 then nI (n - 1) else if 44 + 2 * e ≤ j ∧ j < 44 + 2 * (n - 1) then s (j + 2) else s j
/-- the first 408 places of another -/
def cpr (a b : SS) : SS := fun j => if j < 408 then a j else b j
/-- the first i places of another -/
def cpi (a b : SS) (i : Nat) : SS := fun j => if j < i then a j else b j
theorem cpi_0 (a b : SS) : cpi a b 0 = b := by funext j; simp [cpi]
theorem cpi_s (a b : SS) (i : Nat) : sU (cpi a b i) i (a i) = cpi a b (i + 1) := by
  funext j
  unfold sU cpi
  by_cases h : j = i
  · subst h; simp
  · rw [if_neg h]
    by_cases h2 : j < i
    · rw [if_pos h2, if_pos (by omega)]
    · rw [if_neg h2, if_neg (by omega)]
theorem cpi_ge {a b : SS} {i j : Nat} (h : i ≤ j) : cpi a b i j = b j := by unfold cpi; rw [if_neg (by omega)]
theorem cpi_lt {a b : SS} {i j : Nat} (h : j < i) : cpi a b i j = a j := by unfold cpi; rw [if_pos h]
theorem cpi_408 (a b : SS) : cpi a b 408 = cpr a b := rfl
/-- only row 208 -/
abbrev rE (r : Nat) (a _j : Nat) : Prop := a = r
abbrev nE (_a _j : Nat) : Prop := False
theorem u2_row {m : Nat → Nat → Int32} {a j : Nat} {x : Int32} {s : SS} (h : m a = s) : u2 m a j x a = sU s j x := by rw [sU_u2, h]
