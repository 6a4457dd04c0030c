/-! ORDERS: lists put in another order -/
def aR (s : SS) (τ : Nat → Nat) (n : Nat) (s' : SS) : Prop := (∀ j, (j < 44 ∨ 44 + 2 * n ≤ j) → s' j = s j) ∧ ∀ i, i < n → s' (44 + 2 * i) = s (44 + 2 * τ i) ∧ s' (45 + 2 * i) = s (45 + 2 * τ i)
def arr (s : SS) (τ : Nat → Nat) (n : Nat) : SS := fun j => if 44 ≤ j ∧ j < 44 + 2 * n then s (44 + 2 * τ ((j - 44) / 2) + (j - 44) % 2) else s j
theorem aR_arr (s : SS) (τ : Nat → Nat) (n : Nat) : aR s τ n (arr s τ n) := by
  refine ⟨fun j hj => by unfold arr; rw [if_neg (by omega)], fun i hi => ⟨?_, ?_⟩⟩
  · unfold arr
    rw [if_pos (by omega), show (44 + 2 * i - 44) / 2 = i by omega, show (44 + 2 * i - 44) % 2 = 0 by omega]; rfl
  · unfold arr
    rw [if_pos (by omega), show (45 + 2 * i - 44) / 2 = i by omega, show (45 + 2 * i - 44) % 2 = 1 by omega]; congr 1; omega
theorem aR_eq {s s' : SS} {τ : Nat → Nat} {n : Nat} (h : aR s τ n s') : s' = arr s τ n := by
  have h2 := aR_arr s τ n
  funext j
  by_cases hj : j < 44 ∨ 44 + 2 * n ≤ j
  · rw [h.1 j hj, h2.1 j hj]
  · rcases (show ∃ i, i < n ∧ (j = 44 + 2 * i ∨ j = 45 + 2 * i) from ⟨(j - 44) / 2, by omega, by omega⟩) with ⟨i, hi, rfl | rfl⟩
    · rw [(h.2 i hi).1, (h2.2 i hi).1]
    · rw [(h.2 i hi).2, (h2.2 i hi).2]
theorem aR_cg {s s' : SS} {τ τ' : Nat → Nat} {n : Nat} (h : aR s τ n s') (e : ∀ i, i < n → τ i = τ' i) : aR s τ' n s' :=
  ⟨h.1, fun i hi => by rw [← e i hi]; exact h.2 i hi⟩
theorem aR_id (s : SS) (n : Nat) : aR s id n s := ⟨fun _ _ => rfl, fun _ _ => ⟨rfl, rfl⟩⟩
/-- two places with each other's -/
def sw2 (s : SS) (a b : Nat) : SS := sU (sU s a (s b)) b (s a)
theorem sw2_at (s : SS) (a b x : Nat) : sw2 s a b x = if x = b then s a else if x = a then s b else s x := by unfold sw2 sU; rfl
def swp (s : SS) (i j : Nat) : SS := sw2 (sw2 s (44 + 2 * i) (44 + 2 * j)) (45 + 2 * i) (45 + 2 * j)
def swN (τ : Nat → Nat) (i j : Nat) : Nat → Nat := fun x => if x = j then τ i else if x = i then τ j else τ x
theorem aR_sw {s s' : SS} {τ : Nat → Nat} {n i j : Nat} (h : aR s τ n s') (hi : i < n) (hj : j < n) : aR s (swN τ i j) n (swp s' i j) := by
  refine ⟨fun x hx => ?_, fun x hx => ?_⟩
  · unfold swp
    rw [sw2_at, if_neg (by omega), if_neg (by omega), sw2_at, if_neg (by omega), if_neg (by omega)]
    exact h.1 x hx
  · unfold swp swN
    have e1 : ∀ k, sw2 s' (44 + 2 * i) (44 + 2 * j) (45 + 2 * k) = s' (45 + 2 * k) := fun k => by rw [sw2_at, if_neg (by omega), if_neg (by omega)]
    rw [sw2_at (sw2 s' _ _), if_neg (show ¬ 44 + 2 * x = 45 + 2 * j by omega), if_neg (show ¬ 44 + 2 * x = 45 + 2 * i by omega), sw2_at s', sw2_at (sw2 s' _ _), e1, e1, e1]
    by_cases h1 : x = j
    · subst h1; rw [if_pos rfl, if_pos rfl, if_pos rfl]; exact h.2 i hi
    · by_cases h2 : x = i
      · subst h2; rw [if_neg (show ¬ 44 + 2 * x = 44 + 2 * j by omega), if_pos rfl, if_neg (show ¬ 45 + 2 * x = 45 + 2 * j by omega), if_pos rfl, if_neg h1, if_pos rfl]; exact h.2 j hj
      · rw [if_neg (show ¬ 44 + 2 * x = 44 + 2 * j by omega), if_neg (show ¬ 44 + 2 * x = 44 + 2 * i by omega), if_neg (show ¬ 45 + 2 * x = 45 + 2 * j by omega), if_neg (show ¬ 45 + 2 * x = 45 + 2 * i by omega), if_neg h1, if_neg h2]; exact h.2 x hx
def hR (τ : Nat → Nat) (n : Nat) (b : SS) : Prop := ∀ i, i < n → b i = nI (τ i)
theorem hR_sw {τ : Nat → Nat} {n i j : Nat} {b : SS} (h : hR τ n b) (hi : i < n) (hj : j < n) : hR (swN τ i j) n (sw2 b i j) := by
  intro x hx
  rw [sw2_at]; unfold swN
  by_cases h1 : x = j
  · rw [if_pos h1, if_pos h1]; exact h i hi
  · by_cases h2 : x = i
    · rw [if_neg h1, if_pos h2, if_neg h1, if_pos h2]; exact h j hj
    · rw [if_neg h1, if_neg h2, if_neg h1, if_neg h2]; exact h x hx
theorem hR_cg {τ τ' : Nat → Nat} {n : Nat} {b : SS} (h : hR τ n b) (e : ∀ i, i < n → τ i = τ' i) : hR τ' n b := fun i hi => by rw [← e i hi]; exact h i hi
/-- how many stand at another place than before -/
def mvd (τ : Nat → Nat) : Nat → Int32
  | 0 => 0
  | i + 1 => mvd τ i + (if τ i = i then 0 else 1)
theorem mvd_nI (τ : Nat → Nat) : ∀ n, ∃ k, k ≤ n ∧ mvd τ n = nI k
  | 0 => ⟨0, Nat.le_refl _, rfl⟩
  | n + 1 => by
    obtain ⟨k, h1, h2⟩ := mvd_nI τ n
    unfold mvd
    by_cases h : τ n = n
    · exact ⟨k, by omega, by rw [if_pos h, h2, Int32.add_zero]⟩
    · exact ⟨k + 1, by omega, by rw [if_neg h, h2]; exact nI_1 k⟩
/-- sorting in -/
def pos (o : Nat → Nat) (key : Nat → Int32) (ke : Int32) : Nat → Nat
  | 0 => 0
  | p + 1 => if ke < key (o p) then pos o key ke p else p + 1
theorem pos_le (o : Nat → Nat) (key : Nat → Int32) (ke : Int32) : ∀ p, pos o key ke p ≤ p
  | 0 => Nat.le_refl _
  | p + 1 => by
    unfold pos
    split
    · have := pos_le o key ke p; omega
    · exact Nat.le_refl _
def inso (o : Nat → Nat) (e p : Nat) : Nat → Nat := fun j => if j < p then o j else if j = p then e else if j ≤ e then o (j - 1) else o j
def srt (key : Nat → Int32) : Nat → Nat → Nat
  | 0 => id
  | e + 1 => inso (srt key e) e (pos (srt key e) key (key e) e)
theorem srt_hi (key : Nat → Int32) : ∀ e j, e ≤ j → srt key e j = j
  | 0, _, _ => rfl
  | e + 1, j, h => by
    have h1 := pos_le (srt key e) key (key e) e
    show inso _ _ _ j = j
    unfold inso
    rw [if_neg (by omega), if_neg (by omega), if_neg (by omega)]
    exact srt_hi key e j (by omega)
theorem srt_lt (key : Nat → Int32) : ∀ e j, j < e → srt key e j < e
  | 0, _, h => absurd h (Nat.not_lt_zero _)
  | e + 1, j, h => by
    show inso _ _ _ j < e + 1
    unfold inso
    by_cases h1 : j < pos (srt key e) key (key e) e
    · rw [if_pos h1]
      by_cases h2 : j < e
      · have := srt_lt key e j h2; omega
      · have := srt_hi key e j (by omega); omega
    · rw [if_neg h1]
      by_cases h2 : j = pos (srt key e) key (key e) e
      · rw [if_pos h2]; omega
      · rw [if_neg h2, if_pos (by omega)]
        by_cases h3 : j - 1 < e
        · have := srt_lt key e (j - 1) h3; omega
        · omega
theorem inso_e {o : Nat → Nat} {e : Nat} (h : o e = e) (j : Nat) : o j = inso o e e j := by
  unfold inso
  by_cases h1 : j < e
  · rw [if_pos h1]
  · rw [if_neg h1]
    by_cases h2 : j = e
    · rw [if_pos h2, h2, h]
    · rw [if_neg h2, if_neg (by omega)]
theorem inso_s {o : Nat → Nat} {e m : Nat} (h : m < e) (x : Nat) : swN (inso o e (m + 1)) m (m + 1) x = inso o e m x := by
  unfold swN inso
  by_cases h1 : x = m + 1
  · rw [if_pos h1, if_pos (by omega), if_neg (by omega), if_neg (by omega), if_pos (by omega)]; congr 1; omega
  · rw [if_neg h1]
    by_cases h2 : x = m
    · rw [if_pos h2, if_neg (by omega), if_pos rfl, if_neg (by omega), if_pos h2]
    · rw [if_neg h2]
      by_cases h3 : x < m
      · rw [if_pos (by omega), if_pos h3]
      · rw [if_neg (by omega), if_neg h1, if_neg h3, if_neg h2]
theorem inso_lt {o : Nat → Nat} {e m n : Nat} (hm : m ≤ e) (he : e < n) (ho : ∀ j, j < n → o j < n) : ∀ j, j < n → inso o e m j < n := by
  intro j hj
  unfold inso
  split
  · exact ho j hj
  · split
    · omega
    · split
      · exact ho (j - 1) (by omega)
      · exact ho j hj
theorem srt_ltn (key : Nat → Int32) {e n : Nat} (he : e ≤ n) : ∀ j, j < n → srt key e j < n := by
  intro j hj
  by_cases h : j < e
  · have := srt_lt key e j h; omega
  · rw [srt_hi key e j (by omega)]; exact hj
def tau (s : SS) (r : Int32) (n : Nat) : Nat → Nat := if r = 3 then (fun i => n - 1 - i) else srt (kyl s r) n
theorem tau_lt {s : SS} {r : Int32} {n : Nat} : ∀ j, j < n → tau s r n j < n := by
  intro j hj
  unfold tau
  split
  · show n - 1 - j < n; omega
  · exact srt_ltn _ (Nat.le_refl n) j hj
def rvi (n i : Nat) : Nat → Nat := fun x => if x < i ∨ n - i ≤ x then n - 1 - x else x
theorem rvi_s {n i : Nat} (h : i < n / 2) (x : Nat) (hx : x < n) : swN (rvi n i) i (n - 1 - i) x = rvi n (i + 1) x := by
  unfold swN rvi
  by_cases h1 : x = n - 1 - i
  · rw [if_pos h1, if_neg (by omega), if_pos (by omega)]; omega
  · rw [if_neg h1]
    by_cases h2 : x = i
    · rw [if_pos h2, if_neg (by omega), if_pos (by omega)]; omega
    · rw [if_neg h2]
      by_cases h3 : x < i ∨ n - i ≤ x
      · rw [if_pos h3, if_pos (by omega)]
      · rw [if_neg h3, if_neg (by omega)]
theorem rvi_lt {n i : Nat} (x : Nat) (hx : x < n) : rvi n i x < n := by unfold rvi; split <;> omega
theorem okL_ar {s s' : SS} {τ : Nat → Nat} {n : Nat} (h : aR s τ n s') (hl : okL s n) (ht : ∀ i, i < n → τ i < n) : okL s' n := by
  refine ⟨hl.1, (h.1 43 (by omega)).trans hl.2.1, fun i hi => ?_⟩
  rw [(h.2 i hi).1, (h.2 i hi).2]
  exact hl.2.2 (τ i) (ht i hi)
theorem okC_ar {s s' : SS} {τ : Nat → Nat} {n : Nat} (h : aR s τ n s') (hc : ∀ c, c < 8 → okC s c) : ∀ c, c < 8 → okC s' c := fun c hc8 => okC_lo (fun j hj => h.1 j (by omega)) hc8 (hc c hc8)
theorem kyl_ar {s s' : SS} {τ : Nat → Nat} {n : Nat} (h : aR s τ n s') (hl : okL s n) (ht : ∀ i, i < n → τ i < n) (r : Int32) {i : Nat} (hi : i < n) : kyl s' r i = kyl s r (τ i) := by
  have hlo : lo43 s s' := fun j hj => h.1 j (by omega)
  have h16 := hl.1
  have ep : pn s' i = pn s (τ i) := by unfold pn; rw [(h.2 i hi).1]
  unfold kyl
  rw [ep, (h.2 i hi).1, l3_rsl hlo, l3_pvl hlo (okL_p hl (ht i hi)).2, h.1 76 (by omega)]
def opOrder (A : AS) (r : Int32) : Int32 × AS := if bin r 0 3 = 0 then (eI, A) else (mvd (tau (a_s A) r (nn (a_s A 43))) (nn (a_s A 43)), rec A (arr (a_s A) (tau (a_s A) r (nn (a_s A 43))) (nn (a_s A 43))) (a_h A))
/-- the rule that carries least -/
def bst (s : SS) (t0 : Nat) (h : UInt32) (n : Nat) : Nat → Int32 × Int32
  | 0 => (-1, esm s t0 h n)
  | r + 1 => if esm (arr s (tau s (nI r) n) n) t0 h n < (bst s t0 h n r).2 then (nI r, esm (arr s (tau s (nI r) n) n) t0 h n) else bst s t0 h n r
def vBest (A : AS) : Int32 := (bst (a_s A) (nn (a_s A 76)) (a_h A) (nn (a_s A 43)) 4).1
theorem half16 {n : Nat} (h : n ≤ 16) : nI n / 2 = nI (n / 2) := by
  have : ∀ k : Fin 17, nI k.1 / 2 = nI (k.1 / 2) := by decide
  exact this ⟨n, by omega⟩
theorem ix_ek (i k : Nat) : (44 : Int32) + 2 * nI i + nI k = nI (44 + k + 2 * i) := by rw [ix_e, nI_add]; congr 1; omega
