/-! HISTORY and LOG, in the check's own rows -/
/-- k places from o on are those of a -/
def cpw (a b : SS) (o k : Nat) : SS := fun j => if o ≤ j ∧ j < o + k then a (j - o) else b j
theorem cpw_0 (a b : SS) (o : Nat) : cpw a b o 0 = b := by funext j; unfold cpw; rw [if_neg (by omega)]
theorem cpw_s (a b : SS) (o k : Nat) : sU (cpw a b o k) (o + k) (a k) = cpw a b o (k + 1) := by
  funext j
  unfold sU cpw
  by_cases h : j = o + k
  · subst h
    rw [if_pos rfl, if_pos (by omega)]
    congr 1; omega
  · rw [if_neg h]
    by_cases h2 : o ≤ j ∧ j < o + k
    · rw [if_pos h2, if_pos (by omega)]
    · rw [if_neg h2, if_neg (by omega)]
theorem ix_s (a b : Nat) : (408 : Int32) * nI a + nI b = nI (408 * a + b) := by rw [show (408 : Int32) = nI 408 from rfl, pk_mul, nI_add]
/-- the rows behind a new state: how many were there, the rows, the charges -/
def hm (m : Nat) : Nat := if m = 5 then 4 else m
def hsv (m : Nat) (sv : SS) : SS := if m = 5 then (fun j => if j < 1632 then sv (j + 408) else sv j) else sv
def hsc (m : Nat) (sc : Nat → UInt32) : Nat → UInt32 := if m = 5 then (fun j => if j < 4 then sc (j + 1) else sc j) else sc
def hsv2 (m : Nat) (sv s : SS) : SS := cpw s (hsv m sv) (408 * hm m) 408
def hsc2 (m : Nat) (sc : Nat → UInt32) (h : UInt32) : Nat → UInt32 := fun j => if j = hm m then h else hsc m sc j
abbrev actE (a j : Nat) : Prop := a = 217 ∨ (a = 214 ∧ j = 5)
abbrev actF (a _j : Nat) : Prop := a = 218
/-- the log's oldest reading dropped -/
def lsh (s : SS) : SS := fun j => if 94 ≤ j ∧ j < 249 then s (j + 5) else if j = 77 then 31 else s j
/-- a reading noted where cnt are -/
def nt0 (s : SS) (cnt p q : Nat) (tm r c e : Int32) : SS :=
  let s1 := sU (sU (sU (sU (sU s (94 + 5 * cnt) (nI p)) (95 + 5 * cnt) tm) (96 + 5 * cnt) r) (97 + 5 * cnt) c) (98 + 5 * cnt) e
  let s2 := sU s1 77 (nI (cnt + 1))
  let s3 := sU s2 (78 + p) r
  let ai := if p < 8 then 88 else 81 + p
  let s4 := sU s3 ai (s3 ai + (nI q + 1))
  let s5 := sU s4 92 (s4 92 + 1)
  sU s5 93 (s5 93 + siz c)
def ntS (s : SS) (cnt p q : Nat) (tm r c e : Int32) : SS := if cnt = 32 then nt0 (lsh s) 31 p q tm r c e else nt0 s cnt p q tm r c e
