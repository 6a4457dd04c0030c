/-! THE CHECK'S OWN CALLS (7): orders, the best of them -/
section MOD11B
variable {G : GP} {Q : Option Value → Sh → Dt → Prop} {d : Dt}
theorem MM.ord {d d' : Dt} {s s' : SS} {T : Nat × SS × (Nat → UInt32) × UInt32 × SS × Nat} (h : MM d (s, T)) (hf : fr (fun a _ => a = 215 ∨ a = 220) nE d d') (e : d'.1 215 = s') : MM d' (s', T) :=
  ⟨e, h.2.1, (hf.1 214 5 (by show ¬ (_ ∨ _); omega)).trans h.2.2.1, (hf.row (by intro j; show ¬ (_ ∨ _); omega)).trans h.2.2.2.1, (hf.rowf (fun j => id)).trans h.2.2.2.2.1, (hf.2 214 6 id).trans h.2.2.2.2.2.1, (hf.row (by intro j; show ¬ (_ ∨ _); omega)).trans h.2.2.2.2.2.2.1, (hf.1 214 8 (by show ¬ (_ ∨ _); omega)).trans h.2.2.2.2.2.2.2⟩
end MOD11B
