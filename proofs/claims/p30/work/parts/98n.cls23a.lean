/-! THE CLASS: lists put in order -/
abbrev soE (x _j : Nat) : Prop := x = 192 ∨ x = 194
abbrev arE (a x _j : Nat) : Prop := x = 192 ∨ x = 194 ∨ x = 196 ∨ x = a + 4
theorem su_so {a : Nat} (h : a ∈ suL) : a + 6 < 190 ∨ 196 < a := (show ∀ a ∈ suL, a + 6 < 190 ∨ 196 < a by decide +kernel) a h
theorem SR_so {d d' : Dt} {a : Nat} {s : SS} (h : SR d a s) (hB : a ∈ suL) (hf : fr soE nE d d') : SR d' a s := by
  have := su_so hB
  exact h.fr hf (fun j => by omega) (fun j => by omega) (fun j => by omega) (by omega)
/-- the class's key -/
def kyc (s : SS) (r : Nat) (i : Nat) : Int32 := if r = 3 then -nI i else kyl s (nI r) i
/-- the first e in order -/
def KO (d : Dt) (key : Nat → Int32) (o : Nat → Nat) (e : Nat) : Prop := ∀ i, i < e → d.1 192 i = key (o i) ∧ d.1 194 i = nI (o i)
theorem nI_ps {p : Nat} (hp : p < 2 ^ 31) (h : ¬ nI p ≤ 0) : 1 ≤ p := Nat.pos_of_ne_zero (fun z => h (by rw [z]; exact Int32.le_refl _))
theorem nI_zero {p : Nat} (hp : p < 2 ^ 31) (h : nI p ≤ 0) : p = 0 := Nat.le_zero.mp ((nI_leI (b := 0) hp (by decide)).mp h)
theorem pk_m1' {p : Nat} (h : 1 ≤ p) : nI p + (-1) = nI (p - 1) := by
  obtain ⟨j, rfl⟩ : ∃ j, p = j + 1 := ⟨p - 1, by omega⟩
  exact pk_m1 j
theorem pos_gt {o : Nat → Nat} {key : Nat → Int32} {ke : Int32} {p : Nat} (h : 1 ≤ p) (hk : ke < key (o (p - 1))) : pos o key ke p = pos o key ke (p - 1) := by
  obtain ⟨j, rfl⟩ : ∃ j, p = j + 1 := ⟨p - 1, by omega⟩
  show (if ke < key (o j) then pos o key ke j else j + 1) = _
  exact if_pos hk
theorem pos_at {o : Nat → Nat} {key : Nat → Int32} {ke : Int32} {p : Nat} (h : 1 ≤ p) (hk : ¬ ke < key (o (p - 1))) : pos o key ke p = p := by
  obtain ⟨j, rfl⟩ : ∃ j, p = j + 1 := ⟨p - 1, by omega⟩
  show (if ke < key (o j) then pos o key ke j else j + 1) = _
  exact if_neg hk
theorem pos_all {o : Nat → Nat} {key : Nat → Int32} {ke : Int32} : ∀ p, (∀ j, j < p → ke < key (o j)) → pos o key ke p = 0
  | 0, _ => rfl
  | p + 1, h => by
    show (if ke < key (o p) then pos o key ke p else p + 1) = _
    rw [if_pos (h p (by omega))]
    exact pos_all p (fun j hj => h j (by omega))
theorem srt_neg : ∀ e, e ≤ 16 → ∀ i, srt (fun i => -nI i) e i = if i < e then e - 1 - i else i
  | 0, _, i => by rw [if_neg (Nat.not_lt_zero i)]; rfl
  | e + 1, h, i => by
    have ih := srt_neg e (by omega)
    have hp : pos (srt (fun i => -nI i) e) (fun i => -nI i) (-nI e) e = 0 := pos_all e (fun j hj => by
      show -nI e < -nI (srt (fun i => -nI i) e j)
      rw [ih j, if_pos hj]
      apply Int32.lt_iff_toInt_lt.mpr
      rw [sb_negT (by omega), sb_negT (by omega)]; omega)
    show inso (srt (fun i => -nI i) e) e (pos (srt (fun i => -nI i) e) (fun i => -nI i) (-nI e) e) i = _
    rw [hp]
    unfold inso
    rw [if_neg (Nat.not_lt_zero i)]
    by_cases h0 : i = 0
    · rw [if_pos h0, if_pos (by omega), h0]; omega
    · rw [if_neg h0]
      by_cases h1 : i ≤ e
      · rw [if_pos h1, if_pos (by omega), ih (i - 1), if_pos (by omega)]; omega
      · rw [if_neg h1, if_neg (by omega), ih i, if_neg (by omega)]
theorem tau_kyc {s : SS} {r n : Nat} (hr : r ≤ 3) (hn : n ≤ 16) : ∀ i, i < n → srt (kyc s r) n i = tau s (nI r) n i := by
  intro i hi
  unfold tau
  by_cases h3 : r = 3
  · subst h3
    rw [if_pos (show nI 3 = (3 : Int32) from rfl), show kyc s 3 = fun i => -nI i from by funext x; unfold kyc; rw [if_pos rfl], srt_neg n hn, if_pos hi]
  · rw [if_neg (show ¬ nI r = (3 : Int32) from fun h => h3 ((nI_eq (b := 3) (by omega) (by decide)).mp h)), show kyc s r = kyl s (nI r) from by funext x; unfold kyc; rw [if_neg h3]]
theorem mvd_cg {τ τ' : Nat → Nat} : ∀ n, (∀ i, i < n → τ i = τ' i) → mvd τ n = mvd τ' n
  | 0, _ => rfl
  | n + 1, h => by
    show mvd τ n + _ = mvd τ' n + _
    rw [mvd_cg n (fun i hi => h i (by omega)), h n (by omega)]
theorem arr_cg {s : SS} {τ τ' : Nat → Nat} {n : Nat} (h : ∀ i, i < n → τ i = τ' i) : arr s τ n = arr s τ' n := aR_eq (aR_cg (aR_arr s τ n) h)
theorem arr_0 (s : SS) (τ : Nat → Nat) : arr s τ 0 = s := by funext j; unfold arr; rw [if_neg (by omega)]
theorem arr_s (s : SS) (τ : Nat → Nat) (i : Nat) : sU (sU (arr s τ i) (44 + 2 * i) (s (44 + 2 * τ i))) (45 + 2 * i) (s (45 + 2 * τ i)) = arr s τ (i + 1) := by
  funext j
  unfold sU arr
  by_cases h1 : j = 45 + 2 * i
  · subst h1; rw [if_pos rfl, if_pos (by omega), show (45 + 2 * i - 44) / 2 = i by omega]; exact congrArg s (by omega)
  · rw [if_neg h1]
    by_cases h2 : j = 44 + 2 * i
    · subst h2; rw [if_pos rfl, if_pos (by omega), show (44 + 2 * i - 44) / 2 = i by omega]; exact congrArg s (by omega)
    · rw [if_neg h2]
      by_cases h3 : 44 ≤ j ∧ j < 44 + 2 * i
      · rw [if_pos h3, if_pos (by omega)]
      · rw [if_neg h3, if_neg (by omega)]
theorem CR_so {d d' : Dt} {s s' : SS} {T : Nat × SS × (Nat → UInt32) × UInt32 × SS × Nat} (hC : CR d (s, T)) (hf : fr (arE 2) nE d d') (hS : SR d' 2 s') (he : ∀ j, 76 ≤ j → s' j = s j) : CR d' (s', T) := by
  obtain ⟨hT, hH, c1, c2⟩ := hC
  obtain ⟨h1, h2, h3, h4, h5, h6, h7⟩ := hT
  have k : ∀ x j, 9 ≤ x → x ≤ 188 ∨ 205 ≤ x → d'.1 x j = d.1 x j := fun x j hx hx2 => hf.1 x j (by omega)
  obtain ⟨nx, c, l1, l2, l3, l4, l5, l6⟩ := h2
  refine ⟨⟨hS, ⟨nx, c, l1, l2, (k _ _ (by decide) (by decide)).trans l3, (k _ _ (by decide) (by decide)).trans l4, (he 77 (by decide)).trans l5, fun i j hi hj => (k _ _ (by decide) (by decide)).trans ((l6 i j hi hj).trans (he _ (by omega)).symm)⟩, fun p hp => ?_, fun i hi => (k _ _ (by decide) (by decide)).trans ((h4 i hi).trans (he _ (by omega)).symm), ⟨(k _ _ (by decide) (by decide)).trans (h5.1.trans (he 254 (by decide)).symm), fun q => ?_⟩, ⟨(k _ _ (by decide) (by decide)).trans (h6.1.trans (he 331 (by decide)).symm), fun q => ?_⟩, (hf.2 1 6 id).trans h7⟩, HS_bk (A := (s, T)) hH (fun x j h1 h2 => k x j (by omega) (by omega)) (fun x j _ _ => hf.2 x j id), (k 205 1 (by decide) (by decide)).trans c1, fun j hj => (k 206 j (by decide) (by decide)).trans (c2 j hj)⟩
  · show d'.1 13 p = if s' (78 + p) = -1 then -10000009 else s' (78 + p)
    rw [he (78 + p) (by omega)]; exact (k _ _ (by decide) (by decide)).trans (h3 p hp)
  · exact ((h5.2 ((he 254 (by decide)).symm.trans q)).fr hf (by intro j; omega) (by intro j; omega) (by intro j; omega) (by omega)).cg (fun j hj => he _ (by omega))
  · exact ((h6.2 ((he 331 (by decide)).symm.trans q)).fr hf (by intro j; omega) (by intro j; omega) (by intro j; omega) (by omega)).cg (fun j hj => he _ (by omega))
