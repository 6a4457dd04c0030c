/-! THE CLASS: values as the check has them -/
theorem clp_n {n : Nat} (h : n ≤ 4095) : clp (nI n) = nI n := by
  unfold clp
  rw [if_neg (show ¬ nI n < 0 from Int32.not_lt.mpr (nI_le (a := 0) (Nat.zero_le n) (by omega))), if_neg (show ¬ (4095 : Int32) < nI n from Int32.not_lt.mpr (nI_le (b := 4095) h (by decide)))]
theorem clp_mm (x : Int32) : (if (0 : Int32) < (if x < 4095 then x else 4095) then (if x < 4095 then x else 4095) else 0) = clp x := by
  have z0 : (0 : Int32).toInt = 0 := by decide
  have z1 : (4095 : Int32).toInt = 4095 := by decide
  unfold clp
  by_cases h1 : x < 4095
  · have h1' := Int32.lt_iff_toInt_lt.mp h1
    rw [z1] at h1'
    rw [if_pos h1, if_neg (show ¬ (4095 : Int32) < x from fun h => by have := Int32.lt_iff_toInt_lt.mp h; rw [z1] at this; omega)]
    by_cases h2 : x < 0
    · have h2' := Int32.lt_iff_toInt_lt.mp h2
      rw [z0] at h2'
      rw [if_pos h2, if_neg (fun h => by have := Int32.lt_iff_toInt_lt.mp h; rw [z0] at this; omega)]
    · rw [if_neg h2]
      by_cases h3 : 0 < x
      · rw [if_pos h3]
      · rw [if_neg h3]
        have a1 : ¬ x.toInt < 0 := fun h => h2 (Int32.lt_iff_toInt_lt.mpr (by rw [z0]; exact h))
        have a2 : ¬ 0 < x.toInt := fun h => h3 (Int32.lt_iff_toInt_lt.mpr (by rw [z0]; exact h))
        exact Int32.toInt_inj.mp (by rw [z0]; omega)
  · have h1' : ¬ x.toInt < 4095 := fun h => h1 (Int32.lt_iff_toInt_lt.mpr (by rw [z1]; exact h))
    rw [if_neg h1, if_pos (show (0 : Int32) < 4095 by decide), if_neg (show ¬ x < 0 from fun h => by have := Int32.lt_iff_toInt_lt.mp h; rw [z0] at this; omega)]
    by_cases h2 : (4095 : Int32) < x
    · rw [if_pos h2]
    · rw [if_neg h2]
      have a2 : ¬ 4095 < x.toInt := fun h => h2 (Int32.lt_iff_toInt_lt.mpr (by rw [z1]; exact h))
      exact Int32.toInt_inj.mp (by rw [z1]; omega)
theorem mul_lo {x : Int32} {t : Nat} (h1 : -64 ≤ x.toInt) (h2 : x.toInt ≤ 4095) (ht : t < 100000) : -(2 ^ 30 : Int) ≤ (x * nI t).toInt := by
  have hp1 : -6400000 ≤ x.toInt * (t : Int) := by
    have : -64 * (t : Int) ≤ x.toInt * (t : Int) := Int.mul_le_mul_of_nonneg_right h1 (by omega)
    omega
  have hp2 : x.toInt * (t : Int) ≤ 409500000 := by
    have : x.toInt * (t : Int) ≤ 4095 * (t : Int) := Int.mul_le_mul_of_nonneg_right h2 (by omega)
    omega
  rw [Int32.toInt_mul, nI_toInt (by omega)]
  generalize x.toInt * (t : Int) = y at hp1 hp2 ⊢
  rw [Int.bmod_eq_of_le (by omega) (by omega)]
  omega
theorem rsl_nn {s : SS} {p : Nat} (hc : ∀ c, c < 8 → okC s c) : ¬ rsl s p < 0 := by
  unfold rsl
  by_cases h : p < 8
  · rw [if_pos h]
    obtain ⟨k, lv, r, -, -, -, -, e5, r31, -⟩ := hc p h
    rw [e5]
    exact Int32.not_lt.mpr (nI_le (a := 0) (Nat.zero_le r) (by omega))
  · rw [if_neg h]; decide
theorem su_191 {a : Nat} (ha : a ∈ suL) : a + 7 ≤ 189 ∨ 189 < a := (show ∀ a ∈ suL, a + 7 ≤ 189 ∨ 189 < a by decide +kernel) a ha
abbrev cvE (x j : Nat) : Prop := x = 189 ∧ 1 ≤ j
abbrev cvF (x j : Nat) : Prop := x = 189 ∧ j = 0
abbrev cvD (d d' : Dt) : Prop := fr cvE cvF d d'
theorem SR.cv {d d' : Dt} {a : Nat} {s : SS} (hB : a ∈ suL) (h : SR d a s) (hf : cvD d d') : SR d' a s := by
  have := su_191 hB
  exact h.fr hf (by intro j; omega) (by intro j; omega) (by intro j; omega) (by omega)
