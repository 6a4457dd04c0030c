/-! THE CLASS: tables read and written by place; a setup that holds a state's first places -/
section CLS0
variable {G : GP} {Q : Option Value → Sh → Dt → Prop} {d : Dt}
theorem ix_tab (a W b : Nat) : nI a * nI W + nI b = nI (a * W + b) := by rw [pk_mul, nI_add]
theorem tat_N {t W L a b k : Nat} (hk : a * W + b = k) (hl : k < L) (hL : L < 2 ^ 31) : tat d t W L (nI a) (nI b) = d.1 (t + 1) k := by
  unfold tat
  rw [ix_tab, hk, if_pos ⟨nI_le (a := 0) (Nat.zero_le k) (by omega), nI_lt hl (by omega)⟩, nI_clamp (by omega)]
theorem tpt_N {t W L a b k : Nat} {x : Int32} (hk : a * W + b = k) (hl : k < L) (hL : L < 2 ^ 31) : tpt d t W L (nI a) (nI b) x = (u2 d.1 (t + 1) k x, d.2) := by
  unfold tpt
  rw [ix_tab, hk, if_pos ⟨nI_le (a := 0) (Nat.zero_le k) (by omega), nI_lt hl (by omega)⟩, nI_clamp (by omega)]
theorem c_atN {t W L a b k : Nat} (hT : isT t W L) (hL : L < 2 ^ 31) (hk : a * W + b = k) (hl : k < L) (hQ : Q (some (.int (d.1 (t + 1) k))) S1 d) : mC G mX7_at [.ref t, .int (nI a), .int (nI b)] S1 d Q :=
  c_at hT hL (q_i hQ (tat_N hk hl hL))
theorem c_putN {t W L a b k : Nat} {x : Int32} (hT : isT t W L) (hL : L < 2 ^ 31) (hk : a * W + b = k) (hl : k < L) (hQ : Q none S1 (u2 d.1 (t + 1) k x, d.2)) : mC G mX7_put [.ref t, .int (nI a), .int (nI b), .int x] S1 d Q :=
  c_put hT hL (q_d hQ (tpt_N hk hl hL))
theorem c_row2N {t L f g : Nat} (hT : isT t 2 L) (hL : L < 2 ^ 31) (hf : 2 * f + 1 < L) (hg : 2 * g + 1 < L) (hQ : Q none S1 (u2 (u2 d.1 (t + 1) (2 * g) (d.1 (t + 1) (2 * f))) (t + 1) (2 * g + 1) (d.1 (t + 1) (2 * f + 1)), d.2)) : mC G mX7_copyRow [.ref t, .int (nI f), .int (nI g)] S1 d Q := by
  refine c_copyRow2 hT hL (q_d hQ ?_)
  unfold tcr2
  have e0 : tat d t 2 L (nI f) 0 = d.1 (t + 1) (2 * f) := tat_N (b := 0) (by omega) (by omega) hL
  have e1 : tpt d t 2 L (nI g) 0 (d.1 (t + 1) (2 * f)) = (u2 d.1 (t + 1) (2 * g) (d.1 (t + 1) (2 * f)), d.2) := tpt_N (b := 0) (by omega) (by omega) hL
  rw [e0, e1]
  have e2 : tat (u2 d.1 (t + 1) (2 * g) (d.1 (t + 1) (2 * f)), d.2) t 2 L (nI f) 1 = d.1 (t + 1) (2 * f + 1) := (tat_N (b := 1) (by omega) hf hL).trans (u2_oth (by omega) _)
  rw [e2]
  exact tpt_N (b := 1) (by omega) hg hL
theorem c_row1N {t L f g : Nat} (hT : isT t 1 L) (hL : L < 2 ^ 31) (hf : f < L) (hg : g < L) (hQ : Q none S1 (u2 d.1 (t + 1) g (d.1 (t + 1) f), d.2)) : mC G mX7_copyRow [.ref t, .int (nI f), .int (nI g)] S1 d Q := by
  refine c_copyRow1 hT hL (q_d hQ ?_)
  unfold tcr1
  have e0 : tat d t 1 L (nI f) 0 = d.1 (t + 1) f := tat_N (b := 0) (by omega) hf hL
  rw [e0]
  exact tpt_N (b := 0) (by omega) hg hL
end CLS0
theorem cpy_at {d : Dt} {k0 k L j : Nat} (h : j < L) : (d_cpy d k0 k 0 0 L).1 k j = d.1 k0 j := by
  show (if k = k then va_cpy (d.1 k0) (d.1 k) 0 0 L j else d.1 k j) = _
  rw [if_pos rfl]; unfold va_cpy
  rw [if_pos (by omega), Nat.sub_zero, Nat.zero_add]
theorem cpy_ne {d : Dt} {k0 k L a : Nat} (h : a ≠ k) : (d_cpy d k0 k 0 0 L).1 a = d.1 a := by
  funext j; show (if a = k then _ else d.1 a j) = _; rw [if_neg h]
/-- a setup at a holds s -/
def SR (d : Dt) (a : Nat) (s : SS) : Prop := (∀ j, j < 40 → d.1 (a + 2) j = s j) ∧ (∀ j, j < 32 → d.1 (a + 4) j = s (44 + j)) ∧ (∀ j, j < 3 → d.1 (a + 6) j = s (40 + j)) ∧ d.1 a 3 = s 43
abbrev suE (a x j : Nat) : Prop := x = a + 2 ∨ x = a + 4 ∨ x = a + 6 ∨ (x = a ∧ j = 3)
theorem SR.fr {d d' : Dt} {a : Nat} {s : SS} {E EF : Nat → Nat → Prop} (h : SR d a s) (hf : fr E EF d d') (h1 : ∀ j, ¬ E (a + 2) j) (h2 : ∀ j, ¬ E (a + 4) j) (h3 : ∀ j, ¬ E (a + 6) j) (h4 : ¬ E a 3) : SR d' a s :=
  ⟨fun j hj => (hf.1 _ _ (h1 j)).trans (h.1 j hj), fun j hj => (hf.1 _ _ (h2 j)).trans (h.2.1 j hj), fun j hj => (hf.1 _ _ (h3 j)).trans (h.2.2.1 j hj), (hf.1 _ _ h4).trans h.2.2.2⟩
theorem SR.ch {d : Dt} {a k m : Nat} {s : SS} {x : Int32} (h : SR d a s) (hk : k < 40) (e : k = m) : SR (u2 d.1 (a + 2) k x, d.2) a (sU s m x) := by
  subst e
  refine ⟨fun j hj => ?_, fun j hj => ?_, fun j hj => ?_, ?_⟩
  · show u2 d.1 (a + 2) k x (a + 2) j = _
    rw [u2_row rfl]; unfold sU; by_cases c : j = k
    · rw [if_pos c, if_pos c]
    · rw [if_neg c, if_neg c]; exact h.1 j hj
  · show u2 d.1 (a + 2) k x (a + 4) j = _
    rw [u2_ne (show a + 4 ≠ a + 2 by omega), sU_ne _ _ (by omega)]; exact h.2.1 j hj
  · show u2 d.1 (a + 2) k x (a + 6) j = _
    rw [u2_ne (show a + 6 ≠ a + 2 by omega), sU_ne _ _ (by omega)]; exact h.2.2.1 j hj
  · show u2 d.1 (a + 2) k x a 3 = _
    rw [u2_ne (show a ≠ a + 2 by omega), sU_ne _ _ (by omega)]; exact h.2.2.2
theorem SR.li {d : Dt} {a k m : Nat} {s : SS} {x : Int32} (h : SR d a s) (hk : k < 32) (e : 44 + k = m) : SR (u2 d.1 (a + 4) k x, d.2) a (sU s m x) := by
  subst e
  refine ⟨fun j hj => ?_, fun j hj => ?_, fun j hj => ?_, ?_⟩
  · show u2 d.1 (a + 4) k x (a + 2) j = _
    rw [u2_ne (show a + 2 ≠ a + 4 by omega), sU_ne _ _ (by omega)]; exact h.1 j hj
  · show u2 d.1 (a + 4) k x (a + 4) j = _
    rw [u2_row rfl]; unfold sU; by_cases c : j = k
    · rw [if_pos c, if_pos (by omega)]
    · rw [if_neg c, if_neg (by omega)]; exact h.2.1 j hj
  · show u2 d.1 (a + 4) k x (a + 6) j = _
    rw [u2_ne (show a + 6 ≠ a + 4 by omega), sU_ne _ _ (by omega)]; exact h.2.2.1 j hj
  · show u2 d.1 (a + 4) k x a 3 = _
    rw [u2_ne (show a ≠ a + 4 by omega), sU_ne _ _ (by omega)]; exact h.2.2.2
theorem SR.st {d : Dt} {a k m : Nat} {s : SS} {x : Int32} (h : SR d a s) (hk : k < 3) (e : 40 + k = m) : SR (u2 d.1 (a + 6) k x, d.2) a (sU s m x) := by
  subst e
  refine ⟨fun j hj => ?_, fun j hj => ?_, fun j hj => ?_, ?_⟩
  · show u2 d.1 (a + 6) k x (a + 2) j = _
    rw [u2_ne (show a + 2 ≠ a + 6 by omega), sU_ne _ _ (by omega)]; exact h.1 j hj
  · show u2 d.1 (a + 6) k x (a + 4) j = _
    rw [u2_ne (show a + 4 ≠ a + 6 by omega), sU_ne _ _ (by omega)]; exact h.2.1 j hj
  · show u2 d.1 (a + 6) k x (a + 6) j = _
    rw [u2_row rfl]; unfold sU; by_cases c : j = k
    · rw [if_pos c, if_pos (by omega)]
    · rw [if_neg c, if_neg (by omega)]; exact h.2.2.1 j hj
  · show u2 d.1 (a + 6) k x a 3 = _
    rw [u2_ne (show a ≠ a + 6 by omega), sU_ne _ _ (by omega)]; exact h.2.2.2
theorem SR.en {d : Dt} {a : Nat} {s : SS} {x : Int32} (h : SR d a s) : SR (u2 d.1 a 3 x, d.2) a (sU s 43 x) := by
  refine ⟨fun j hj => ?_, fun j hj => ?_, fun j hj => ?_, ?_⟩
  · show u2 d.1 a 3 x (a + 2) j = _
    rw [u2_ne (show a + 2 ≠ a by omega), sU_ne _ _ (by omega)]; exact h.1 j hj
  · show u2 d.1 a 3 x (a + 4) j = _
    rw [u2_ne (show a + 4 ≠ a by omega), sU_ne _ _ (by omega)]; exact h.2.1 j hj
  · show u2 d.1 a 3 x (a + 6) j = _
    rw [u2_ne (show a + 6 ≠ a by omega), sU_ne _ _ (by omega)]; exact h.2.2.1 j hj
  · show u2 d.1 a 3 x a 3 = _
    rw [u2_same, sU_eq]
theorem SR.cg {d : Dt} {a : Nat} {s s' : SS} (h : SR d a s) (e : ∀ j, j < 76 → s' j = s j) : SR d a s' :=
  ⟨fun j hj => (h.1 j hj).trans (e j (by omega)).symm, fun j hj => (h.2.1 j hj).trans (e _ (by omega)).symm, fun j hj => (h.2.2.1 j hj).trans (e _ (by omega)).symm, h.2.2.2.trans (e 43 (by omega)).symm⟩
/-- lists moved down -/
def rmg (s : SS) (e k : Nat) : SS := fun j => if 44 + 2 * e ≤ j ∧ j < 44 + 2 * k then s (j + 2) else s j
theorem rmg_0 (s : SS) (e : Nat) : rmg s e e = s := by funext j; unfold rmg; rw [if_neg (by omega)]
theorem rmg_hi {s : SS} {e k j : Nat} (h : 44 + 2 * k ≤ j) : rmg s e k j = s j := by unfold rmg; rw [if_neg (by omega)]
theorem rmg_s (s : SS) {e k : Nat} (h : e ≤ k) : sU (sU (rmg s e k) (44 + 2 * k) (s (46 + 2 * k))) (45 + 2 * k) (s (47 + 2 * k)) = rmg s e (k + 1) := by
  funext j
  unfold sU rmg
  by_cases h1 : j = 45 + 2 * k
  · rw [if_pos h1, if_pos (by omega)]; congr 1; omega
  · rw [if_neg h1]
    by_cases h2 : j = 44 + 2 * k
    · rw [if_pos h2, if_pos (by omega)]; congr 1; omega
    · rw [if_neg h2]
      by_cases h3 : 44 + 2 * e ≤ j ∧ j < 44 + 2 * k
      · rw [if_pos h3, if_pos (by omega)]
      · rw [if_neg h3, if_neg (by omega)]
theorem rmg_e (s : SS) {n e : Nat} : sU (rmg s e (n - 1)) 43 (nI (n - 1)) = rem s n e := by
  funext j
  unfold sU rmg rem
  by_cases h : j = 43
  · simp only [if_pos h]
  · simp only [if_neg h]
