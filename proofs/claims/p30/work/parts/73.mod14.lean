/-! THE CHECK'S OWN CALLS (10): a text loaded -/
section MOD14
abbrev ldF (a j : Nat) : Prop := a = 215 ∨ a = 216 ∨ (a = 214 ∧ (j = 15 ∨ j = 16))
theorem MM.ldf {d d' : Dt} {s s' : SS} {T : Nat × SS × (Nat → UInt32) × UInt32 × SS × Nat} (h : MM d (s, T)) (hf : fr ldF nE d d') (e : d'.1 215 = s') : MM d' (s', T) :=
  ⟨e, h.2.1, (hf.1 214 5 (by show ¬ (_ ∨ _ ∨ _); omega)).trans h.2.2.1, (hf.row (by intro j; show ¬ (_ ∨ _ ∨ _); omega)).trans h.2.2.2.1, (hf.rowf (fun j => id)).trans h.2.2.2.2.1, (hf.2 214 6 id).trans h.2.2.2.2.2.1, (hf.row (by intro j; show ¬ (_ ∨ _ ∨ _); omega)).trans h.2.2.2.2.2.2.1, (hf.1 214 8 (by show ¬ (_ ∨ _ ∨ _); omega)).trans h.2.2.2.2.2.2.2⟩
theorem OK.x {A : AS} (h : OK A) {j : Nat} (hj : j < a_n A) : ∃ c : Nat, 1 ≤ c ∧ c ≤ 255 ∧ a_t A j = nI c := h.2.2.2.2 j hj
theorem OK.m {A : AS} (h : OK A) : okm (a_s A) := by obtain ⟨n, hn⟩ := h.l; exact ⟨n, hn.1, hn.2.1⟩
end MOD14
