/-! THE PROPERTY (4): what the law asks of a state -/
theorem tp_len {A : AS} (hO : OK A) : nn (a_s A 43) ≤ 16 ∧ a_s A 43 = nI (nn (a_s A 43)) := ⟨(okL_n hO.1.1).1, (okL_n hO.1.1).2.1⟩
theorem tp_we {A : AS} {k : Nat} (hO : OK A) (hk : k < nn (a_s A 43)) : bin (nI k) 0 (a_s A 43 - 1) = 1 := by
  obtain ⟨h1, h2⟩ := tp_len hO
  rw [h2]; exact bin_en hk h1
theorem tp_entry {A : AS} {k : Nat} (hO : OK A) (hk : k < nn (a_s A 43)) (w : Nat) (hw : w ≤ 1) : vEntry A (nI k) (nI w) = a_s A (44 + 2 * k + w) := by
  obtain ⟨h1, h2⟩ := tp_len hO
  unfold vEntry
  rw [if_neg, if_pos, nn_nI (by omega), nn_nI (by omega)]
  · rw [h2]; exact nI_lt hk (by omega)
  · intro z
    rcases z with z | z
    · exact nI_pos (by omega) z
    · rw [show (1 : Int32) = nI 1 from rfl, bin_nI hw] at z; cases z
theorem tp_w0 {A : AS} {k : Nat} (hO : OK A) (hk : k < nn (a_s A 43)) : vWould A (nI k) 0 = er (a_s A) (nn (a_s A 76)) (a_h A) k ∧ vWould A (nI k) 1 = ec (a_s A) (nn (a_s A 76)) (a_h A) k ∧ vWould A (nI k) 2 = ee (a_s A) (nn (a_s A 76)) (a_h A) k := by
  have h1 := tp_we hO hk
  have h16 := (tp_len hO).1
  have e : nn (nI k) = k := nn_nI (by omega)
  unfold vWould
  rw [h1, e]
  exact ⟨rfl, rfl, rfl⟩
theorem tp_er {s : SS} {t : Nat} {h : UInt32} {k : Nat} : ∃ y : Nat, y ≤ 4095 ∧ er s t h k = nI y := rdb_ok _ _ _
theorem clp_nI (x : Int32) : ∃ y : Nat, y ≤ 4095 ∧ clp x = nI y := by
  unfold clp
  by_cases h : x < 0
  · rw [if_pos h]; exact ⟨0, by omega, rfl⟩
  · rw [if_neg h]
    obtain ⟨j, hj, rfl⟩ := nI_of h
    by_cases h2 : 4095 < nI j
    · rw [if_pos h2]; exact ⟨4095, Nat.le_refl _, rfl⟩
    · rw [if_neg h2]; exact ⟨j, (nI_leI (b := 4095) hj (by decide)).mp (Int32.not_lt.mp h2), rfl⟩
theorem pvl_nI {s : SS} (hS : okS s) {p : Nat} (t : Int32) : ∃ y : Nat, y ≤ 4095 ∧ pvl s p t = nI y := by
  unfold pvl
  split
  · exact ⟨0, by omega, rfl⟩
  · split
    · exact hS.2.1
    · exact clp_nI _
theorem siz_neg {x : Int32} {y : Nat} (hy : y ≤ 4095) (h : siz x = nI y) : ¬ siz x < 0 ∧ siz x ≤ 4095 := by
  rw [h]; exact ⟨nI_pos (by omega), nI_le (b := 4095) hy (by decide)⟩
theorem tp_ee {A : AS} {k : Nat} (hO : OK A) {t : Nat} {h : UInt32} : ∃ y : Nat, y ≤ 4095 ∧ siz (ee (a_s A) t h k) = nI y := by
  obtain ⟨r, r1, r2⟩ := tp_er (s := a_s A) (t := t) (h := h) (k := k)
  obtain ⟨v, v1, v2⟩ := pvl_nI hO.1.1 (p := pn (a_s A) k) (nI (et (a_s A) t k + qn (a_s A) k))
  obtain ⟨z, z1, z2⟩ := tp_siz r1 v1
  refine ⟨z, z1, ?_⟩
  unfold ee xe
  rw [show xr (a_s A) (pn (a_s A) k) (qn (a_s A) k) (et (a_s A) t k) (eh (a_s A) t h k) = nI r from r2, v2]
  exact z2
/-- why: its five answers -/
theorem tp_why {A : AS} {k : Nat} (hO : OK A) (hk : k < nn (a_s A 43)) :
    (vWhy A (nI k) = 0 ↔ vWould A (nI k) 2 = 0) ∧ (vWhy A (nI k) = 1 → 0 < vWould A (nI k) 1) ∧ (vWhy A (nI k) = 2 → vWould A (nI k) 1 < 0) ∧ (2 < vWhy A (nI k) → vWould A (nI k) 1 = 0) := by
  obtain ⟨-, e1, e2⟩ := tp_w0 hO hk
  have h1 := tp_we hO hk
  have h16 := (tp_len hO).1
  have e : nn (nI k) = k := nn_nI (by omega)
  rw [e1, e2]
  unfold vWhy
  rw [h1, e, if_neg (show ¬ (1 : Int32) = 0 by decide)]
  by_cases c : ee (a_s A) (nn (a_s A 76)) (a_h A) k = 0
  · rw [if_pos c]
    exact ⟨⟨fun _ => c, fun _ => rfl⟩, fun z => absurd z (by decide), fun z => absurd z (by decide), fun z => absurd z (by decide)⟩
  rw [if_neg c]
  by_cases c2 : ¬ ec (a_s A) (nn (a_s A 76)) (a_h A) k = 0
  · rw [if_pos c2]
    by_cases c3 : 0 < ec (a_s A) (nn (a_s A 76)) (a_h A) k
    · rw [if_pos c3]
      exact ⟨⟨fun z => absurd z (by decide), fun z => absurd z c⟩, fun _ => c3, fun z => absurd z (by decide), fun z => absurd z (by decide)⟩
    · rw [if_neg c3]
      refine ⟨⟨fun z => absurd z (by decide), fun z => absurd z c⟩, fun z => absurd z (by decide), fun _ => ?_, fun z => absurd z (by decide)⟩
      have h3 := Int32.not_lt.mp c3
      rw [Int32.le_iff_toInt_le] at h3
      rw [Int32.lt_iff_toInt_lt]
      have h4 := tI_ne c2
      omega
  · rw [if_neg c2]
    have c2 := Classical.not_not.mp c2
    by_cases c4 : rdb (eh (a_s A) (nn (a_s A 76)) (a_h A) (k + 1)) 1000 0 = pvl (a_s A) (pn (a_s A) k) (nI (et (a_s A) (nn (a_s A 76)) k + qn (a_s A) k))
    · rw [if_pos c4]
      exact ⟨⟨fun z => absurd z (by decide), fun z => absurd z c⟩, fun z => absurd z (by decide), fun z => absurd z (by decide), fun _ => c2⟩
    · rw [if_neg c4]
      exact ⟨⟨fun z => absurd z (by decide), fun z => absurd z c⟩, fun z => absurd z (by decide), fun z => absurd z (by decide), fun _ => c2⟩
/-- nothing is carried where there is no resistance, and none behind a ground -/
theorem slt_r0 {s : SS} {p : Nat} (hr : rsl s p = 0) (t : Int32) (h : UInt32) : slt s p t h = FP.i2f (pvl s p t) := by unfold slt; rw [if_pos hr]
theorem tp_c0 {s : SS} {t : Nat} {h : UInt32} {k : Nat} (hr : rsl s (pn s k) = 0) : ec s t h k = 0 := by
  unfold ec xc xr xh
  rw [show cos s (pn s k) (qn s k + 1) (et s t k) (eh s t h k) = slt s (pn s k) (nI (et s t k + qn s k)) (cos s (pn s k) (qn s k) (et s t k) (eh s t h k)) from rfl,
    show cos s (pn s k) (qn s k + 1) (et s t k) FP.fconst0 = slt s (pn s k) (nI (et s t k + qn s k)) (cos s (pn s k) (qn s k) (et s t k) FP.fconst0) from rfl, slt_r0 hr, slt_r0 hr]
  exact Int32.sub_self _
theorem i2f_0 : FP.i2f 0 = FP.fconst0 := by decide +kernel
theorem tp_cg {s : SS} {t : Nat} {h : UInt32} {k : Nat} (hp : pn s k = 8) : ec s t h (k + 1) = 0 := by
  have e : eh s t h (k + 1) = FP.fconst0 := by
    show xh s (pn s k) (qn s k) (et s t k) (eh s t h k) = _
    unfold xh
    rw [show cos s (pn s k) (qn s k + 1) (et s t k) (eh s t h k) = slt s (pn s k) (nI (et s t k + qn s k)) (cos s (pn s k) (qn s k) (et s t k) (eh s t h k)) from rfl, hp, slt_r0 (by unfold rsl; rw [if_neg (by decide)])]
    unfold pvl
    rw [if_pos rfl]; exact i2f_0
  unfold ec xc xr xh
  rw [e]
  exact Int32.sub_self _
/-- the settle that is found is none greater -/
theorem stl_le {s : SS} {t : Nat} {h : UInt32} {p : Nat} {lim : Int32} {q : Nat} (hq : q ≤ 7) (hx : siz (xe s p q t h) ≤ lim) : ∃ y : Nat, y ≤ q ∧ stl s t h p lim 8 = nI y := by
  have key : ∀ n, n ≤ 8 → (stl s t h p lim n = -10000009 ∨ ∃ y : Nat, y < n ∧ stl s t h p lim n = nI y) := by
    intro n
    induction n with
    | zero => intro _; exact Or.inl rfl
    | succ n ih =>
      intro hn
      show (if stl s t h p lim n = -10000009 then _ else _) = _ ∨ ∃ y : Nat, y < n + 1 ∧ (if stl s t h p lim n = -10000009 then _ else _) = _
      rcases ih (by omega) with z | ⟨y, y1, y2⟩
      · rw [if_pos z]
        by_cases c : siz (xe s p n t h) ≤ lim
        · rw [if_pos c]; exact Or.inr ⟨n, by omega, rfl⟩
        · rw [if_neg c]; exact Or.inl rfl
      · rw [if_neg (fun z => by
          have := tp_nI (k := y) (by omega)
          rw [← y2, z] at this
          exact this (by decide))]
        exact Or.inr ⟨y, by omega, y2⟩
  have h1 : ∃ y : Nat, y < q + 1 ∧ stl s t h p lim (q + 1) = nI y := by
    rcases key q (by omega) with z | ⟨y, y1, y2⟩
    · refine ⟨q, by omega, ?_⟩
      show (if stl s t h p lim q = -10000009 then _ else _) = _
      rw [if_pos z, if_pos hx]
    · refine ⟨y, by omega, ?_⟩
      show (if stl s t h p lim q = -10000009 then _ else _) = _
      rw [if_neg (fun z => by
          have := tp_nI (k := y) (by omega)
          rw [← y2, z] at this
          exact this (by decide))]
      exact y2
  obtain ⟨y, y1, y2⟩ := h1
  have hne : ¬ stl s t h p lim (q + 1) = -10000009 := fun z => by
    have := tp_nI (k := y) (by omega)
    rw [← y2, z] at this
    exact this (by decide)
  exact ⟨y, by omega, by rw [← stl_stay8 (by omega) hne]; exact y2⟩
theorem tp_stl {A : AS} {k : Nat} (hO : OK A) (hk : k < nn (a_s A 43)) : ∃ y : Nat, y ≤ qn (a_s A) k ∧ vSettle A (nI k) (siz (vWould A (nI k) 2)) = nI y := by
  obtain ⟨-, -, e2⟩ := tp_w0 hO hk
  have h1 := tp_we hO hk
  have h16 := (tp_len hO).1
  have e : nn (nI k) = k := nn_nI (by omega)
  have hl := okL_n hO.1.1
  obtain ⟨y, y1, y2⟩ := tp_ee (k := k) hO (t := nn (a_s A 76)) (h := a_h A)
  unfold vSettle
  rw [e2, h1, e, y2, show (4095 : Int32) = nI 4095 from rfl, bin_nI y1, if_neg (by decide)]
  rw [← y2]
  exact stl_le (okL_q hl hk).2 (Int32.le_refl _)
/-- sums over the channels -/
theorem cks_3 {s : SS} (h : ∀ c, c < 8 → okC s c) : ∀ n, n ≤ 8 → ∃ a b c : Nat, a + b + c = n ∧ cks s 0 n = nI a ∧ cks s 1 n = nI b ∧ cks s 2 n = nI c
  | 0, _ => ⟨0, 0, 0, rfl, rfl, rfl, rfl⟩
  | n + 1, hn => by
    obtain ⟨a, b, c, h1, h2, h3, h4⟩ := cks_3 h n (by omega)
    obtain ⟨k, _, _, e, k2, -⟩ := h n (by omega)
    show ∃ a b c : Nat, a + b + c = n + 1 ∧ cks s 0 n + (if s (5 * n) = 0 then 1 else 0) = nI a ∧ cks s 1 n + (if s (5 * n) = 1 then 1 else 0) = nI b ∧ cks s 2 n + (if s (5 * n) = 2 then 1 else 0) = nI c
    rw [h2, h3, h4, e]
    rcases (show k = 0 ∨ k = 1 ∨ k = 2 by omega) with rfl | rfl | rfl
    · exact ⟨a + 1, b, c, by omega, nI_1 a, Int32.add_zero _, Int32.add_zero _⟩
    · exact ⟨a, b + 1, c, by omega, Int32.add_zero _, nI_1 b, Int32.add_zero _⟩
    · exact ⟨a, b, c + 1, by omega, Int32.add_zero _, Int32.add_zero _, nI_1 c⟩
/-- how many of the first entries have one of the first channels -/
def cnc (s : SS) (n : Nat) : Nat → Int32
  | 0 => 0
  | c + 1 => cnc s n c + cen s (nI c) n
theorem cnc_0 (s : SS) : ∀ c, cnc s 0 c = 0
  | 0 => rfl
  | c + 1 => by show cnc s 0 c + 0 = 0; rw [cnc_0 s c]; rfl
theorem cnc_s (s : SS) (n : Nat) : ∀ c, cnc s (n + 1) c = cnc s n c + (if ∃ i, i < c ∧ s (44 + 2 * n) = nI i then 1 else 0) ∨ 2 ^ 31 ≤ c := by
  classical
  intro c
  induction c with
  | zero =>
    left
    rw [if_neg (fun ⟨i, hi, _⟩ => absurd hi (Nat.not_lt_zero i))]
    rfl
  | succ c ih =>
    by_cases hc : c + 1 < 2 ^ 31
    · left
      have ih := ih.resolve_right (by omega)
      show cnc s (n + 1) c + (cen s (nI c) n + (if s (44 + 2 * n) = nI c then 1 else 0)) = cnc s n c + cen s (nI c) n + _
      rw [ih]
      by_cases e : s (44 + 2 * n) = nI c
      · rw [if_neg (fun ⟨i, hi, hx⟩ => by rw [e] at hx; have := (nI_eq (by omega) (by omega)).mp hx; omega), if_pos e, if_pos ⟨c, by omega, e⟩, Int32.add_zero, Int32.add_assoc]
      · rw [if_neg e, Int32.add_zero]
        by_cases e2 : ∃ i, i < c ∧ s (44 + 2 * n) = nI i
        · rw [if_pos e2, if_pos (let ⟨i, h1, h2⟩ := e2; ⟨i, by omega, h2⟩)]; ac_rfl
        · rw [if_neg e2, if_neg (fun ⟨i, h1, h2⟩ => by
            by_cases q : i = c
            · subst q; exact e h2
            · exact e2 ⟨i, by omega, h2⟩)]
          ac_rfl
    · right; omega
theorem cnc_le (s : SS) (n : Nat) : ∃ y : Nat, y ≤ n ∧ cnc s n 8 = nI y := by
  classical
  induction n with
  | zero => exact ⟨0, Nat.le_refl _, cnc_0 s 8⟩
  | succ n ih =>
    obtain ⟨y, y1, y2⟩ := ih
    rw [(cnc_s s n 8).resolve_right (by decide), y2]
    split
    · exact ⟨y + 1, by omega, nI_1 y⟩
    · exact ⟨y, by omega, Int32.add_zero _⟩
theorem gns_n {s : SS} {t : Nat} {h : UInt32} : ∀ n, ∃ y : Nat, y ≤ n ∧ (gns s t h n).2.2 = nI y
  | 0 => ⟨0, Nat.le_refl _, rfl⟩
  | n + 1 => by
    obtain ⟨y, y1, y2⟩ := gns_n (s := s) (t := t) (h := h) n
    unfold gns
    split
    · exact ⟨y, by omega, y2⟩
    · exact ⟨y + 1, by omega, by show (gns s t h n).2.2 + 1 = _; rw [y2]; exact nI_1 y⟩
theorem bst_r {s : SS} {t : Nat} {h : UInt32} {n : Nat} : ∀ r, r ≤ 4 → (bst s t h n r).1 = -1 ∨ ∃ y : Nat, y < r ∧ (bst s t h n r).1 = nI y
  | 0, _ => Or.inl rfl
  | r + 1, hr => by
    unfold bst
    split
    · exact Or.inr ⟨r, by omega, rfl⟩
    · exact (bst_r r (by omega)).imp_right (fun ⟨y, y1, y2⟩ => ⟨y, by omega, y2⟩)
theorem tp_best (A : AS) : ¬ vBest A < -1 ∧ ¬ 3 < vBest A := by
  unfold vBest
  rcases bst_r (s := a_s A) (t := nn (a_s A 76)) (h := a_h A) (n := nn (a_s A 43)) 4 (Nat.le_refl _) with z | ⟨y, y1, y2⟩
  · rw [z]; decide
  · rw [y2]
    have : ∀ k : Fin 4, ¬ nI k.1 < -1 ∧ ¬ 3 < nI k.1 := by decide
    exact this ⟨y, y1⟩
/-- the channels' last looks -/
theorem tp_chan {A : AS} {c : Nat} (hO : OK A) (hc : c < 8) : ¬ vChannel A (nI c) 6 = -10000009 → ¬ vChannel A (nI c) 5 < 0 := by
  intro h
  have hb : bin (nI c) 0 7 = 1 := by rw [show (7 : Int32) = nI 7 from rfl]; exact bin_nI (by omega)
  have e : nn (nI c) = c := nn_nI (by omega)
  unfold vChannel at h ⊢
  rw [hb, e] at h ⊢
  have h5 : ¬ a_s A (78 + c) = -1 := fun z => h (by
    show cor (a_s A) (a_s A (78 + c)) (a_s A 86) (a_s A 87) = _
    unfold cor; rw [if_pos (Or.inl z)])
  obtain ⟨r, r1, r2⟩ := (hO.1.2.2.2.1 c (by omega)).resolve_left h5
  show ¬ (if a_s A (78 + c) = -1 then eN else a_s A (78 + c)) < 0
  rw [if_neg h5, r2]; exact nI_pos (by omega)
theorem tp_val {A : AS} {T c : Nat} (hI : tp_I A T) (hc : c < 8) : ∃ y : Nat, y ≤ 4095 ∧ vValue A (nI c) (vCount A 0) = nI y := by
  obtain ⟨t, -, t2, t3, -⟩ := tp_76 hI
  have hb : bin (nI c) 0 7 = 1 := by rw [show (7 : Int32) = nI 7 from rfl]; exact bin_nI (by omega)
  unfold vValue
  rw [show vCount A 0 = nI t from t3, hb, show (9999 : Int32) = nI 9999 from rfl, bin_nI t2, if_neg (by decide)]
  exact clp_nI _
theorem tp_c7 {A : AS} {c : Nat} (hc : c < 8) : vChannel A (nI c) 7 = cen (a_s A) (nI c) (nn (a_s A 43)) := by
  have hb : bin (nI c) 0 7 = 1 := by rw [show (7 : Int32) = nI 7 from rfl]; exact bin_nI (by omega)
  unfold vChannel
  rw [hb]; rfl
theorem tp_c4 {A : AS} {p : Nat} (hp : p < 8) : vChannel A (nI p) 4 = rsl (a_s A) p := by
  have hb : bin (nI p) 0 7 = 1 := by rw [show (7 : Int32) = nI 7 from rfl]; exact bin_nI (by omega)
  have e : nn (nI p) = p := nn_nI (by omega)
  unfold vChannel rsl
  rw [hb, e, if_pos hp]; rfl
/-- the log -/
theorem tp_log {A : AS} {T : Nat} (hI : tp_I A T) (hT9 : T ≤ 9999) : ∃ c m : Nat, c ≤ 32 ∧ a_s A 77 = nI c ∧ a_s A 92 = nI m ∧ m ≤ 9999 ∧ c ≤ m ∧ (c = 32 ∨ m = c) ∧ (∀ k, 1 ≤ k → k < c → vSample A (nI k) 1 < vSample A (nI k - 1) 1) ∧ vSample A (nI c) 0 = -10000009 := by
  obtain ⟨t, c, m, τ, h1, h2, h3, h4, h5, h6, h7, h8, h9, h10⟩ := hI.2.2.2.2
  obtain ⟨t', t1, t2, t3, -⟩ := tp_76 hI
  have et : t = t' := by
    by_cases z : t < 2 ^ 31
    · rw [t3] at h1; exact ((nI_eq (by omega) z).mp h1).symm
    · omega
  subst et
  have mono : ∀ i j, i < j → j < c → τ i < τ j := by
    intro i j hij
    induction j with
    | zero => omega
    | succ j ih =>
      intro hj
      have h := h10 j hj
      by_cases e : i = j
      · subst e; exact h
      · exact Nat.lt_trans (ih (by omega) (by omega)) h
  have sm : ∀ k, k < c → vSample A (nI k) 1 = nI (τ (c - 1 - k)) := fun k hk => by
    unfold vSample
    rw [if_neg, if_pos, h3, nn_nI (by omega), nn_nI (by omega), show nn (1 : Int32) = 1 from rfl]
    · rw [show 94 + 5 * (c - 1 - k) + 1 = 95 + 5 * (c - 1 - k) by omega]; exact (h9 _ (by omega)).1
    · rw [h3]; exact nI_lt hk (by omega)
    · intro z
      rcases z with z | z
      · exact nI_pos (by omega) z
      · exact absurd z (by decide)
  refine ⟨c, m, h4, h3, h5, by omega, h6, h7, fun k hk1 hk2 => ?_, ?_⟩
  · have e : nI k - 1 = nI (k - 1) := by rw [show (1 : Int32) = nI 1 from rfl]; exact pk_sub hk1
    rw [e, sm k hk2, sm (k - 1) (by omega)]
    have := mono (c - 1 - k) (c - 1 - (k - 1)) (by omega) (by omega)
    have h2 := (h9 (c - 1 - (k - 1)) (by omega)).2
    exact nI_lt this (by omega)
  · unfold vSample
    rw [if_neg, if_neg]
    · rw [h3]; exact fun z => nI_nlt (Nat.le_refl c) (by omega) z
    · intro z
      rcases z with z | z
      · exact nI_pos (by omega) z
      · exact absurd z (by decide)
