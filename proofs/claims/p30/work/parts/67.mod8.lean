/-! THE CHECK'S OWN CALLS (4): looks at the state -/
section MOD8
theorem pk_dif {a b : Nat} (h : b ≤ a) : nI a - nI b = nI (a - b) := by rw [pk_sub h]
theorem bin_nI {a b : Nat} (h : a ≤ b) (hb : b < 2 ^ 31 := by decide) : bin (nI a) 0 (nI b) = 1 := by
  unfold bin; rw [if_pos ⟨nI_le (a := 0) (Nat.zero_le a) (by omega), nI_le h hb⟩]
end MOD8
