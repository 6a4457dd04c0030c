/-! THE CLASS: a state block, the history, all of it -/
/-- what a setup's cells say, whatever they hold -/
def rdS (d : Dt) (a : Nat) : SS := fun j => if j < 40 then d.1 (a + 2) j else if j < 43 then d.1 (a + 6) (j - 40) else if j = 43 then d.1 a 3 else d.1 (a + 4) (j - 44)
theorem SR_rd (d : Dt) (a : Nat) : SR d a (rdS d a) := by
  refine ⟨fun j hj => ?_, fun j hj => ?_, fun j hj => ?_, ?_⟩
  · unfold rdS; rw [if_pos hj]
  · unfold rdS; rw [if_neg (by omega), if_neg (by omega), if_neg (by omega)]; exact congrArg (d.1 (a + 4)) (show j = 44 + j - 44 by omega)
  · unfold rdS; rw [if_neg (by omega), if_pos (by omega)]; exact congrArg (d.1 (a + 6)) (show j = 40 + j - 40 by omega)
  · unfold rdS; rw [if_neg (by omega), if_neg (by omega), if_pos rfl]
theorem rd_SR {d : Dt} {a : Nat} {s : SS} (h : SR d a s) : ∀ j, j < 76 → s j = rdS d a j := fun j hj => by
  unfold rdS
  by_cases h1 : j < 40
  · rw [if_pos h1]; exact (h.1 j h1).symm
  · rw [if_neg h1]
    by_cases h2 : j < 43
    · rw [if_pos h2]; exact ((h.2.2.1 (j - 40) (by omega)).trans (by congr 1; omega)).symm
    · rw [if_neg h2]
      by_cases h3 : j = 43
      · rw [if_pos h3, h3]; exact h.2.2.2.symm
      · rw [if_neg h3]; exact ((h.2.1 (j - 44) (by omega)).trans (by congr 1; omega)).symm
/-- the log at b: next, kept, the rows by turns -/
def LR (d : Dt) (b : Nat) (s : SS) : Prop := ∃ nx c : Nat, nx < 32 ∧ c ≤ 32 ∧ d.1 b 1 = nI nx ∧ d.1 b 2 = nI c ∧ s 77 = nI c ∧ ∀ k j, k < c → j < 5 → d.1 (b + 2) (5 * ((nx + 32 - c + k) % 32) + j) = s (94 + 5 * k + j)
/-- a state at b -/
def TR (d : Dt) (b : Nat) (s : SS) (h : UInt32) : Prop := SR d (b + 1) s ∧ LR d (b + 8) s ∧ (∀ p, p < 10 → d.1 (b + 12) p = if s (78 + p) = -1 then -10000009 else s (78 + p)) ∧ (∀ i, i < 6 → d.1 (b + 14) i = s (88 + i)) ∧
  (d.1 (b + 15) 1 = s 254 ∧ (s 254 = 1 → SR d (b + 16) (fun j => s (255 + j)))) ∧ (d.1 (b + 23) 1 = s 331 ∧ (s 331 = 1 → SR d (b + 24) (fun j => s (332 + j)))) ∧ d.2 b 6 = h
theorem SR_cg {d : Dt} {a : Nat} {s s' : SS} (h : SR d a s) (e : ∀ j, j < 76 → s' j = s j) : SR d a s' := h.cg e
theorem LR_cg {d : Dt} {b : Nat} {s s' : SS} (h : LR d b s) (e : ∀ j, 76 ≤ j → j < 254 → s' j = s j) : LR d b s' := by
  obtain ⟨nx, c, h1, h2, h3, h4, h5, h6⟩ := h
  exact ⟨nx, c, h1, h2, h3, h4, (e 77 (by omega) (by omega)).trans h5, fun k j hk hj => (h6 k j hk hj).trans (e _ (by omega) (by omega)).symm⟩
theorem TR_cg {d : Dt} {b : Nat} {s s' : SS} {h : UInt32} (hT : TR d b s h) (e : ∀ j, j < 408 → s' j = s j) : TR d b s' h := by
  obtain ⟨h1, h2, h3, h4, h5, h6, h7⟩ := hT
  refine ⟨h1.cg (fun j hj => e j (by omega)), LR_cg h2 (fun j _ hj => e j (by omega)), fun p hp => ?_, fun i hi => (h4 i hi).trans (e _ (by omega)).symm, ⟨h5.1.trans (e 254 (by omega)).symm, fun q => ?_⟩, ⟨h6.1.trans (e 331 (by omega)).symm, fun q => ?_⟩, h7⟩
  · rw [e (78 + p) (by omega)]; exact h3 p hp
  · exact (h5.2 ((e 254 (by omega)).symm.trans q)).cg (fun j hj => e _ (by omega))
  · exact (h6.2 ((e 331 (by omega)).symm.trans q)).cg (fun j hj => e _ (by omega))
/-- memories that agree on a block -/
def blk (d d' : Dt) (b : Nat) : Prop := (∀ x j, b ≤ x → x < b + 31 → d'.1 x j = d.1 x j) ∧ ∀ j, d'.2 b j = d.2 b j
theorem SR_bk {d d' : Dt} {a b : Nat} {s : SS} (h : SR d a s) (hb : blk d d' b) (h1 : b ≤ a) (h2 : a + 6 < b + 31) : SR d' a s :=
  ⟨fun j hj => (hb.1 _ _ (by omega) (by omega)).trans (h.1 j hj), fun j hj => (hb.1 _ _ (by omega) (by omega)).trans (h.2.1 j hj), fun j hj => (hb.1 _ _ (by omega) (by omega)).trans (h.2.2.1 j hj), (hb.1 _ _ (by omega) (by omega)).trans h.2.2.2⟩
theorem TR_bk {d d' : Dt} {b : Nat} {s : SS} {h : UInt32} (hT : TR d b s h) (hb : blk d d' b) : TR d' b s h := by
  obtain ⟨h1, ⟨nx, c, l1, l2, l3, l4, l5, l6⟩, h3, h4, h5, h6, h7⟩ := hT
  refine ⟨SR_bk h1 hb (by omega) (by omega), ⟨nx, c, l1, l2, (hb.1 _ _ (by omega) (by omega)).trans l3, (hb.1 _ _ (by omega) (by omega)).trans l4, l5, fun k j hk hj => (hb.1 _ _ (by omega) (by omega)).trans (l6 k j hk hj)⟩,
    fun p hp => (hb.1 _ _ (by omega) (by omega)).trans (h3 p hp), fun i hi => (hb.1 _ _ (by omega) (by omega)).trans (h4 i hi), ⟨(hb.1 _ _ (by omega) (by omega)).trans h5.1, fun q => SR_bk (h5.2 q) hb (by omega) (by omega)⟩, ⟨(hb.1 _ _ (by omega) (by omega)).trans h6.1, fun q => SR_bk (h6.2 q) hb (by omega) (by omega)⟩, (hb.2 6).trans h7⟩
theorem st_far {a b : Nat} (ha : a ∈ stL) (hb : b ∈ stL) (h : a ≠ b) : a + 31 ≤ b ∨ b + 31 ≤ a := (show ∀ a ∈ stL, ∀ b ∈ stL, a ≠ b → a + 31 ≤ b ∨ b + 31 ≤ a by decide +kernel) a ha b hb h
abbrev stE (a x _j : Nat) : Prop := a ≤ x ∧ x < a + 31
abbrev stF (a x _j : Nat) : Prop := x = a
abbrev lgE (a x j : Nat) : Prop := x = a + 10 ∨ (x = a + 8 ∧ 1 ≤ j)
abbrev snE (o x j : Nat) : Prop := suE (o + 1) x j ∨ (x = o ∧ j = 1)
theorem sa_lt1 {A : Nat} (h : A ∈ stL) : (A + 1) < S1.1 := (show ∀ A ∈ stL, (A + 1) < S1.1 by decide +kernel) A h
theorem sa_k1 {A : Nat} (h : A ∈ stL) : S1.2.1 (A + 1) = 3 := (show ∀ A ∈ stL, S1.2.1 (A + 1) = 3 by decide +kernel) A h
theorem sa_lt9 {A : Nat} (h : A ∈ stL) : (A + 9) < S1.1 := (show ∀ A ∈ stL, (A + 9) < S1.1 by decide +kernel) A h
theorem sa_k9 {A : Nat} (h : A ∈ stL) : S1.2.1 (A + 9) = 7 := (show ∀ A ∈ stL, S1.2.1 (A + 9) = 7 by decide +kernel) A h
theorem sa_lt11 {A : Nat} (h : A ∈ stL) : (A + 11) < S1.1 := (show ∀ A ∈ stL, (A + 11) < S1.1 by decide +kernel) A h
theorem sa_k11 {A : Nat} (h : A ∈ stL) : S1.2.1 (A + 11) = 7 := (show ∀ A ∈ stL, S1.2.1 (A + 11) = 7 by decide +kernel) A h
theorem sa_lt13 {A : Nat} (h : A ∈ stL) : (A + 13) < S1.1 := (show ∀ A ∈ stL, (A + 13) < S1.1 by decide +kernel) A h
theorem sa_k13 {A : Nat} (h : A ∈ stL) : S1.2.1 (A + 13) = 7 := (show ∀ A ∈ stL, S1.2.1 (A + 13) = 7 by decide +kernel) A h
theorem sa_lt16 {A : Nat} (h : A ∈ stL) : (A + 16) < S1.1 := (show ∀ A ∈ stL, (A + 16) < S1.1 by decide +kernel) A h
theorem sa_k16 {A : Nat} (h : A ∈ stL) : S1.2.1 (A + 16) = 3 := (show ∀ A ∈ stL, S1.2.1 (A + 16) = 3 by decide +kernel) A h
theorem sa_lt24 {A : Nat} (h : A ∈ stL) : (A + 24) < S1.1 := (show ∀ A ∈ stL, (A + 24) < S1.1 by decide +kernel) A h
theorem sa_k24 {A : Nat} (h : A ∈ stL) : S1.2.1 (A + 24) = 3 := (show ∀ A ∈ stL, S1.2.1 (A + 24) = 3 by decide +kernel) A h
theorem fit_01 {v : Int32} (h : v = 0 ∨ v = 1) : fits .boolean (.int v) = true := by rcases h with h | h <;> subst h <;> rfl
/-- the history -/
def HS (d : Dt) (A : AS) : Prop := ∃ nx : Nat, nx < 5 ∧ d.1 32 1 = nI nx ∧ d.1 32 2 = nI (a_m A) ∧ a_m A ≤ 5 ∧ ∀ k, k < a_m A → TR d (34 + 31 * ((nx + 5 - a_m A + k) % 5)) (fun j => a_v A (408 * k + j)) (a_c A k)
/-- the class's memory holds the state -/
def CR (d : Dt) (A : AS) : Prop := TR d 1 (a_s A) (a_h A) ∧ HS d A ∧ d.1 205 1 = nI (a_n A) ∧ ∀ j, j < a_n A → d.1 206 j = a_t A j
