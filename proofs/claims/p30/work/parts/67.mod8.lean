/-! THE CHECK'S OWN CALLS (4): looks at the state -/
section MOD8
variable {G : GP} {Q : Option Value → Sh → Dt → Prop} {d : Dt}
theorem OK.t {A : AS} (h : OK A) : ∃ t : Nat, t ≤ 9999 ∧ a_s A 76 = nI t := h.1.2.1
theorem OK.g {A : AS} (h : OK A) : ∃ c : Nat, c ≤ 32 ∧ a_s A 77 = nI c := h.1.2.2.1
theorem pk_dif {a b : Nat} (h : b ≤ a) : nI a - nI b = nI (a - b) := by rw [pk_sub h]
theorem bin_nI {a b : Nat} (h : a ≤ b) (hb : b < 2 ^ 31 := by decide) : bin (nI a) 0 (nI b) = 1 := by
  unfold bin; rw [if_pos ⟨nI_le (a := 0) (Nat.zero_le a) (by omega), nI_le h hb⟩]
end MOD8
