/-! STATES THAT CAN BE: what holds of every state that a run comes to -/
def okS (s : SS) : Prop := (∀ c, c < 8 → okC s c) ∧ okR s ∧ ∃ n, okL s n
def okT (s : SS) : Prop := okS s ∧ (∃ t : Nat, t ≤ 9999 ∧ s 76 = nI t) ∧ (∃ c : Nat, c ≤ 32 ∧ s 77 = nI c) ∧ (∀ p, p < 10 → s (78 + p) = -1 ∨ ∃ r : Nat, r ≤ 4095 ∧ s (78 + p) = nI r) ∧ (∀ p, p < 2 → s (254 + 77 * p) = 0 ∨ (s (254 + 77 * p) = 1 ∧ okS (fun j => s (255 + 77 * p + j)))) ∧ s 76 = s 88 + s 89 + s 90 + s 91
def OK (A : AS) : Prop := okT (a_s A) ∧ a_m A ≤ 5 ∧ (∀ i, i < a_m A → okT (fun j => a_v A (408 * i + j))) ∧ a_n A ≤ 140 ∧ ∀ j, j < a_n A → ∃ c : Nat, 1 ≤ c ∧ c ≤ 255 ∧ a_t A j = nI c
/-- lists moved up, moved down -/
def shf (s : SS) (n k : Nat) : SS := fun j => if 46 + 2 * k ≤ j ∧ j < 46 + 2 * n then s (j - 2) else s j
theorem shf_n (s : SS) (n : Nat) : shf s n n = s := by funext j; unfold shf; rw [if_neg (by omega)]
theorem shf_s (s : SS) (n k : Nat) (h : k < n) : sU (sU (shf s n (k + 1)) (44 + 2 * (k + 1)) (s (44 + 2 * k))) (45 + 2 * (k + 1)) (s (45 + 2 * k)) = shf s n k := by
  funext j
  unfold sU shf
  by_cases h1 : j = 45 + 2 * (k + 1)
  · subst h1
    rw [if_pos rfl, if_pos (by omega)]
    congr 1 <;> omega
  · rw [if_neg h1]
    by_cases h2 : j = 44 + 2 * (k + 1)
    · subst h2
      rw [if_pos rfl, if_pos (by omega)]
      congr 1 <;> omega
    · rw [if_neg h2]
      by_cases h3 : 46 + 2 * (k + 1) ≤ j ∧ j < 46 + 2 * n
      · rw [if_pos h3, if_pos (by omega)]
      · rw [if_neg h3, if_neg (by omega)]
theorem shf_lo {s : SS} {n k j : Nat} (h : j < 46 + 2 * k) : shf s n k j = s j := by unfold shf; rw [if_neg (by omega)]
theorem shf_ins (s : SS) (n b : Nat) (p q : Int32) (h : b ≤ n) : sU (sU (sU (shf s n b) (44 + 2 * b) p) (45 + 2 * b) q) 43 (nI (n + 1)) = ins s n b p q := by
  funext j
  unfold sU shf ins
  by_cases h1 : j = 43
  · rw [if_pos h1, if_pos h1]
  · rw [if_neg h1, if_neg h1]
    by_cases h2 : j = 45 + 2 * b
    · rw [if_pos h2, if_neg (by omega), if_pos h2]
    · rw [if_neg h2]
      by_cases h3 : j = 44 + 2 * b
      · rw [if_pos h3, if_pos h3]
      · rw [if_neg h3, if_neg h3, if_neg h2]
def rmf (s : SS) (n e k : Nat) : SS := fun j => if j = 43 then nI (n - 1) else if 44 + 2 * e ≤ j ∧ j < k then s (j + 2) else s j
theorem rmf_0 (s : SS) (n e : Nat) : sU s 43 (nI (n - 1)) = rmf s n e (44 + 2 * e) := by
  funext j
  unfold sU rmf
  by_cases h : j = 43
  · rw [if_pos h, if_pos h]
  · rw [if_neg h, if_neg h, if_neg (by omega)]
theorem rmf_s (s : SS) (n e k : Nat) (h : 44 + 2 * e ≤ k) : sU (rmf s n e k) k (s (k + 2)) = rmf s n e (k + 1) := by
  funext j
  unfold sU rmf
  by_cases h1 : j = k
  · subst h1; rw [if_pos rfl, if_neg (by omega), if_pos (by omega)]
  · rw [if_neg h1]
    by_cases h2 : j = 43
    · rw [if_pos h2, if_pos h2]
    · rw [if_neg h2, if_neg h2]
      by_cases h3 : 44 + 2 * e ≤ j ∧ j < k
      · rw [if_pos h3, if_pos (by omega)]
      · rw [if_neg h3, if_neg (by omega)]
theorem rmf_hi {s : SS} {n e k j : Nat} (h : k ≤ j) (h2 : 43 < j) : rmf s n e k j = s j := by unfold rmf; rw [if_neg (by omega), if_neg (by omega)]
theorem ix_e2 (k : Nat) : (44 : Int32) + 2 * nI (k + 1) - 2 = nI (44 + 2 * k) := by
  rw [ix_e, show (2 : Int32) = nI 2 from rfl, pk_sub (by omega)]; congr 1 <;> omega
theorem ix_e1 (k : Nat) : (44 : Int32) + 2 * nI (k + 1) - 1 = nI (45 + 2 * k) := by
  rw [ix_e, show (1 : Int32) = nI 1 from rfl, pk_sub (by omega)]; congr 1 <;> omega
theorem ix_t (p : Nat) : (254 : Int32) + 77 * nI p = nI (254 + 77 * p) := by rw [show (77 : Int32) = nI 77 from rfl, show (254 : Int32) = nI 254 from rfl, pk_mul, nI_add]
theorem ix_t2 (p k : Nat) : nI (254 + 77 * p) + 1 + nI k = nI (255 + 77 * p + k) := by rw [nI_1, nI_add]; congr 1 <;> omega
theorem okL_n {s : SS} (h : okS s) : okL s (nn (s 43)) := by
  obtain ⟨-, -, n, hn⟩ := h
  have : nn (s 43) = n := by rw [hn.2.1]; exact nn_nI (by have := hn.1; omega)
  rw [this]; exact hn
