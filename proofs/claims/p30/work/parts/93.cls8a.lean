/-! THE CLASS: what its looks say in the check's words -/
def lat (s : SS) (p : Nat) : Int32 := if s (78 + p) = -1 then -10000009 else s (78 + p)
/-- a latest reading: none, or in its range -/
abbrev okr (s : SS) (p : Nat) : Prop := s (78 + p) = -1 ∨ ∃ r : Nat, r ≤ 4095 ∧ s (78 + p) = nI r
theorem lat_no {s : SS} {p : Nat} (h : okr s p) : lat s p = -10000009 ↔ s (78 + p) = -1 := by
  unfold lat
  by_cases c : s (78 + p) = -1
  · rw [if_pos c]; exact ⟨fun _ => c, fun _ => rfl⟩
  · rw [if_neg c]
    refine ⟨fun q => ?_, fun q => absurd q c⟩
    rcases h with h | ⟨r, r1, r2⟩
    · exact h
    · rw [r2] at q
      have := congrArg Int32.toInt q
      rw [nI_toInt (by omega), show (-10000009 : Int32).toInt = -10000009 by decide] at this
      omega
theorem lat_ok {s : SS} {p : Nat} (h : ¬ s (78 + p) = -1) : lat s p = s (78 + p) := if_neg h
theorem cor_eq {s : SS} {c r0 : Nat} (hy : okr s c) (ha : okr s 8) (hb : okr s 9) (h40 : s 40 = nI r0) (hr : r0 ≤ 4095) :
    cor s (s (78 + c)) (s 86) (s 87) = if lat s c = -10000009 ∨ lat s 8 = -10000009 ∨ lat s 9 = -10000009 ∨ lat s 9 ≤ lat s 8 then -10000009 else fdl ((lat s c - lat s 8) * s 40) (lat s 9 - lat s 8) := by
  unfold cor
  by_cases c1 : s (78 + c) = -1
  · rw [if_pos (Or.inl c1), if_pos (Or.inl ((lat_no hy).mpr c1))]
  by_cases c2 : s (78 + 8) = -1
  · rw [if_pos (Or.inr (Or.inl c2)), if_pos (Or.inr (Or.inl ((lat_no ha).mpr c2)))]
  obtain ⟨y, y1, y2⟩ := hy.resolve_left c1
  obtain ⟨a, a1, a2⟩ := ha.resolve_left c2
  have a2' : s 86 = nI a := a2
  by_cases c3 : s (78 + 9) = -1
  · rw [if_pos (Or.inr (Or.inr (by
      show s (78 + 9) ≤ s 86
      rw [c3, a2']; apply Int32.le_iff_toInt_le.mpr; rw [nI_toInt (by omega), show (-1 : Int32).toInt = -1 by decide]; omega))), if_pos (Or.inr (Or.inr (Or.inl ((lat_no hb).mpr c3))))]
  obtain ⟨b, b1, b2⟩ := hb.resolve_left c3
  have b2' : s 87 = nI b := b2
  rw [lat_ok c1, lat_ok c2, lat_ok c3]
  show (if s (78 + c) = -1 ∨ s 86 = -1 ∨ s 87 ≤ s 86 then (-10000009 : Int32) else dwn ((s (78 + c) - s 86) * s 40) (s 87 - s 86)) = if s (78 + c) = -10000009 ∨ s 86 = -10000009 ∨ s 87 = -10000009 ∨ s 87 ≤ s 86 then -10000009 else fdl ((s (78 + c) - s 86) * s 40) (s 87 - s 86)
  have nn : ∀ r : Nat, r ≤ 4095 → ¬ nI r = -10000009 := fun r hr q => by
    have := congrArg Int32.toInt q
    rw [nI_toInt (by omega), show (-10000009 : Int32).toInt = -10000009 by decide] at this
    omega
  by_cases c4 : s 87 ≤ s 86
  · rw [if_pos (Or.inr (Or.inr c4)), if_pos (Or.inr (Or.inr (Or.inr c4)))]
  · rw [if_neg (not_or.mpr ⟨c1, not_or.mpr ⟨c2, c4⟩⟩), if_neg (not_or.mpr ⟨by rw [y2]; exact nn y y1, not_or.mpr ⟨by rw [a2']; exact nn a a1, not_or.mpr ⟨by rw [b2']; exact nn b b1, c4⟩⟩⟩)]
    have hab : a < b := by
      rw [a2', b2'] at c4
      exact Nat.not_le.mp (fun h => c4 (nI_le h (by omega)))
    have e : s 87 - s 86 = nI (b - a) := by rw [a2', b2']; exact pk_dif (by omega)
    rw [e]
    refine (fdl_dwn (by omega) (by omega) ?_).symm
    rw [y2, a2', h40]
    have e1 : (nI y - nI a).toInt = (y : Int) - a := pk_sub_toInt (by omega) (by omega)
    rw [Int32.toInt_mul, e1, nI_toInt (by omega)]
    have p1 : ((y : Int) - a) * (r0 : Int) ≤ 4095 * 4095 := by
      have q1 : ((y : Int) - a) * (r0 : Int) ≤ 4095 * (r0 : Int) := Int.mul_le_mul_of_nonneg_right (by omega) (by omega)
      omega
    have p2 : -(4095 * 4095 : Int) ≤ ((y : Int) - a) * (r0 : Int) := by
      have q1 : -4095 * (r0 : Int) ≤ ((y : Int) - a) * (r0 : Int) := Int.mul_le_mul_of_nonneg_right (by omega) (by omega)
      omega
    generalize ((y : Int) - a) * (r0 : Int) = z at p1 p2 ⊢
    rw [Int.bmod_eq_of_le (by omega) (by omega)]
    omega
