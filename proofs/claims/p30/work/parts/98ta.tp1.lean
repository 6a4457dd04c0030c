/-! THE PROPERTY (1): what a call answers and leaves, out of the state and the charge alone -/
theorem tp_nI {k : Nat} (h : k < 2 ^ 31) : ¬ nI k ≤ -10000001 := fun z => by
  have h1 := Int32.le_iff_toInt_le.mp z
  rw [nI_toInt h, show ((-10000001 : Int32)).toInt = -10000001 by decide] at h1
  omega
theorem tp_b {v : Int32} (h : -10000001 < v.toInt) : ¬ v ≤ -10000001 := fun z => by
  have h1 := Int32.le_iff_toInt_le.mp z
  rw [show ((-10000001 : Int32)).toInt = -10000001 by decide] at h1
  omega
/-- gain and offset are no errors' codes -/
def tp_G (s : SS) : Prop := -10000001 < (s 41).toInt ∧ -10000001 < (s 42).toInt
/-- the log and the time -/
def tp_L (s : SS) (T : Nat) : Prop := ∃ (t c m : Nat) (τ : Nat → Nat), s 76 = nI t ∧ t ≤ T ∧ s 77 = nI c ∧ c ≤ 32 ∧ s 92 = nI m ∧ c ≤ m ∧ (c = 32 ∨ m = c) ∧ m ≤ t ∧ (∀ i, i < c → s (95 + 5 * i) = nI (τ i) ∧ τ i < t) ∧ ∀ i, i + 1 < c → τ i < τ (i + 1)
def tp_V (s : SS) (T : Nat) : Prop := tp_G s ∧ (∀ p, p < 2 → s (254 + 77 * p) = 0 ∨ tp_G (fun j => s (255 + 77 * p + j))) ∧ tp_L s T
/-- what holds of the state ahead of each turn -/
def tp_I (A : AS) (T : Nat) : Prop := OK A ∧ a_n A = 0 ∧ tp_V (a_s A) T
theorem tp_G_cg {s s' : SS} (h : s' 41 = s 41 ∧ s' 42 = s 42) (hG : tp_G s) : tp_G s' := by unfold tp_G; rw [h.1, h.2]; exact hG
theorem tp_L_cg {s s' : SS} {T : Nat} (h : ∀ j, 76 ≤ j → j < 254 → s' j = s j) (hL : tp_L s T) : tp_L s' T := by
  obtain ⟨t, c, m, τ, h1, h2, h3, h4, h5, h6, h7, h8, h9, h10⟩ := hL
  exact ⟨t, c, m, τ, (h 76 (by decide) (by decide)).trans h1, h2, (h 77 (by decide) (by decide)).trans h3, h4, (h 92 (by decide) (by decide)).trans h5, h6, h7, h8, fun i hi => ⟨(h _ (by omega) (by omega)).trans (h9 i hi).1, (h9 i hi).2⟩, h10⟩
theorem tp_L_mono {s : SS} {T T' : Nat} (h : T ≤ T') (hL : tp_L s T) : tp_L s T' := by
  obtain ⟨t, c, m, τ, h1, h2, h3⟩ := hL
  exact ⟨t, c, m, τ, h1, Nat.le_trans h2 h, h3⟩
theorem tp_V_mono {s : SS} {T T' : Nat} (h : T ≤ T') (hV : tp_V s T) : tp_V s T' := ⟨hV.1, hV.2.1, tp_L_mono h hV.2.2⟩
theorem tp_I_mono {A : AS} {T T' : Nat} (h : T ≤ T') (hI : tp_I A T) : tp_I A T' := ⟨hI.1, hI.2.1, tp_V_mono h hI.2.2⟩
/-- a setup changed: gain and offset, what lies behind as it was -/
theorem tp_V_lo {s s' : SS} {T : Nat} (hG : tp_G s') (h : ∀ j, 76 ≤ j → s' j = s j) (hV : tp_V s T) : tp_V s' T := by
  refine ⟨hG, fun p hp => ?_, tp_L_cg (fun j h1 _ => h j h1) hV.2.2⟩
  rw [h (254 + 77 * p) (by omega)]
  exact (hV.2.1 p hp).imp_right (fun z => tp_G_cg ⟨h _ (by omega), h _ (by omega)⟩ z)
/-- the form of every call that the law makes: its answer, its new state, its new charge -/
def tp_F (f : AS → Int32 × AS) (R : SS → UInt32 → Int32) (S : SS → UInt32 → SS) (H : SS → UInt32 → UInt32) (N : Nat) : Prop :=
  ∀ (A : AS) (T : Nat), tp_I A T → T + N ≤ 9999 → ((f A).1 = R (a_s A) (a_h A) ∧ (f A).2 = A ∧ R (a_s A) (a_h A) ≤ -10000001) ∨ ((f A).1 = R (a_s A) (a_h A) ∧ (f A).2 = rec A (S (a_s A) (a_h A)) (H (a_s A) (a_h A)) ∧ ¬ R (a_s A) (a_h A) ≤ -10000001 ∧ (∀ j, 408 ≤ j → S (a_s A) (a_h A) j = a_s A j) ∧ tp_V (S (a_s A) (a_h A)) (T + N))
abbrev tp_E (f : AS → Int32 × AS) (N : Nat) : Prop := ∃ R S H, tp_F f R S H N
/-- a call that changes the setup alone -/
theorem tp_mk {f : AS → Int32 × AS} {c : SS → Prop} {R0 : SS → Int32} {R1 : SS → Int32} {S : SS → SS} (hf : ∀ A, (c (a_s A) → f A = (R0 (a_s A), A)) ∧ (¬ c (a_s A) → f A = (R1 (a_s A), rec A (S (a_s A)) (a_h A)))) (h0 : ∀ s, R0 s ≤ -10000001) (h1 : ∀ A T, tp_I A T → ¬ c (a_s A) → ¬ R1 (a_s A) ≤ -10000001 ∧ (∀ j, 408 ≤ j → S (a_s A) j = a_s A j) ∧ tp_V (S (a_s A)) T) : tp_E f 0 := by
  classical
  refine ⟨fun s _ => if c s then R0 s else R1 s, fun s _ => S s, fun _ h => h, fun A T hI _ => ?_⟩
  by_cases hc : c (a_s A)
  · left
    have e := (hf A).1 hc
    show (f A).1 = (if c (a_s A) then _ else _) ∧ _ ∧ (if c (a_s A) then _ else _) ≤ (-10000001 : Int32)
    rw [if_pos hc, e]
    exact ⟨rfl, rfl, h0 _⟩
  · right
    have e := (hf A).2 hc
    obtain ⟨q1, q2, q3⟩ := h1 A T hI hc
    show (f A).1 = (if c (a_s A) then _ else _) ∧ _ ∧ ¬ (if c (a_s A) then _ else _) ≤ (-10000001 : Int32) ∧ _ ∧ _
    rw [if_neg hc, e]
    exact ⟨rfl, rfl, q1, q2, q3⟩
theorem tp_n {A : AS} {T : Nat} (hI : tp_I A T) : okL (a_s A) (nn (a_s A 43)) := okL_n hI.1.1.1
theorem tp_setSource (c k l x p : Int32) : tp_E (fun A => opSetSource A c k l x p) 0 := by
  refine tp_mk (c := fun _ => bin c 0 7 = 0 ∨ isrc k l x p = 0) (R0 := fun _ => eI) (R1 := fun s => s (5 * nn c)) (S := fun s => pso s (nn c) k l x p) (fun A => ⟨fun h => if_pos h, fun h => if_neg h⟩) (fun _ => by decide) (fun A T hI h => ?_)
  obtain ⟨c, hc, rfl⟩ := bin_t (b := 7) (by decide) (fun z => h (Or.inl z))
  rw [nn_nI (by omega)]
  obtain ⟨y, -, -, e, y2, -⟩ := hI.1.1.1.1 c (by omega)
  refine ⟨?_, fun j hj => pso_ne (by omega), tp_V_lo (tp_G_cg ⟨pso_ne (by omega), pso_ne (by omega)⟩ hI.2.2.1) (fun j hj => pso_ne (by omega)) hI.2.2⟩
  show ¬ a_s A (5 * c) ≤ _
  rw [e]; exact tp_nI (by omega)
theorem tp_setRes (c r : Int32) : tp_E (fun A => opSetRes A c r) 0 := by
  refine tp_mk (c := fun _ => bin c 0 7 = 0 ∨ bin r 0 31 = 0) (R0 := fun _ => eI) (R1 := fun s => s (5 * nn c + 4)) (S := fun s => sU s (5 * nn c + 4) r) (fun A => ⟨fun h => if_pos h, fun h => if_neg h⟩) (fun _ => by decide) (fun A T hI h => ?_)
  obtain ⟨c, hc, rfl⟩ := bin_t (b := 7) (by decide) (fun z => h (Or.inl z))
  rw [nn_nI (by omega)]
  obtain ⟨_, _, y, -, -, -, -, e, y2, -⟩ := hI.1.1.1.1 c (by omega)
  refine ⟨?_, fun j hj => sU_ne _ _ (by omega), tp_V_lo (tp_G_cg ⟨sU_ne _ _ (by omega), sU_ne _ _ (by omega)⟩ hI.2.2.1) (fun j hj => sU_ne _ _ (by omega)) hI.2.2⟩
  show ¬ a_s A (5 * c + 4) ≤ _
  rw [e]; exact tp_nI (by omega)
theorem tp_set (w v : Int32) : tp_E (fun A => opSet A w v) 0 := by
  refine tp_mk (c := fun _ => oset w v = 0) (R0 := fun _ => eI) (R1 := fun s => s (40 + nn w)) (S := fun s => sU s (40 + nn w) v) (fun A => ⟨fun h => if_pos h, fun h => if_neg h⟩) (fun _ => by decide) (fun A T hI h => ?_)
  obtain ⟨w, hw, rfl⟩ := oset_w h
  rw [nn_nI (by omega)]
  have hG := hI.2.2.1
  have hlo : ∀ j, 76 ≤ j → sU (a_s A) (40 + w) v j = a_s A j := fun j hj => sU_ne _ _ (by omega)
  refine ⟨?_, fun j hj => hlo j (by omega), tp_V_lo ?_ hlo hI.2.2⟩
  · show ¬ a_s A (40 + w) ≤ _
    rcases (show w = 0 ∨ w = 1 ∨ w = 2 by omega) with rfl | rfl | rfl
    · obtain ⟨r, r1, e⟩ := hI.1.1.1.2.1
      show ¬ a_s A 40 ≤ _
      rw [e]; exact tp_nI (by omega)
    · exact tp_b hG.1
    · exact tp_b hG.2
  · rcases (show w = 0 ∨ w = 1 ∨ w = 2 by omega) with rfl | rfl | rfl
    · exact tp_G_cg ⟨sU_ne _ _ (by decide), sU_ne _ _ (by decide)⟩ hG
    · have hv : -10000001 < v.toInt := by
        have h2 : ¬ bin v 900 1100 = 0 := fun z => h ((oset_1 v).trans z)
        unfold bin at h2
        by_cases q : (900 : Int32) ≤ v ∧ v ≤ 1100
        · have q1 := Int32.le_iff_toInt_le.mp q.1
          rw [show (900 : Int32).toInt = 900 by decide] at q1
          omega
        · rw [if_neg q] at h2; exact absurd rfl h2
      exact ⟨by rw [show sU (a_s A) (40 + 1) v 41 = v from sU_eq _ _ _]; exact hv, by rw [sU_ne _ _ (by decide)]; exact hG.2⟩
    · have hv : -10000001 < v.toInt := by
        have h2 : ¬ bin v (-100) 100 = 0 := fun z => h ((oset_2 v).trans z)
        unfold bin at h2
        by_cases q : (-100 : Int32) ≤ v ∧ v ≤ 100
        · have q1 := Int32.le_iff_toInt_le.mp q.1
          rw [show (-100 : Int32).toInt = -100 by decide] at q1
          omega
        · rw [if_neg q] at h2; exact absurd rfl h2
      exact ⟨by rw [sU_ne _ _ (by decide)]; exact hG.1, by rw [show sU (a_s A) (40 + 2) v 42 = v from sU_eq _ _ _]; exact hv⟩
theorem tp_add (p q b : Int32) : tp_E (fun A => opAdd A p q b) 0 := by
  refine tp_mk (c := fun s => (bin p 0 9 = 0 ∨ bin q 0 7 = 0 ∨ bin b 0 (s 43) = 0) ∨ s 43 = 16) (R0 := fun s => if bin p 0 9 = 0 ∨ bin q 0 7 = 0 ∨ bin b 0 (s 43) = 0 then eI else eC) (R1 := fun s => nI (nn (s 43) + 1)) (S := fun s => ins s (nn (s 43)) (nn b) p q) (fun A => ⟨fun h => ?_, fun h => ?_⟩) (fun s => by split <;> decide) (fun A T hI h => ?_)
  · show opAdd A p q b = _
    unfold opAdd
    by_cases c : bin p 0 9 = 0 ∨ bin q 0 7 = 0 ∨ bin b 0 (a_s A 43) = 0
    · rw [if_pos c]; rw [if_pos c]
    · rw [if_neg c, if_pos (h.resolve_left c)]; rw [if_neg c]
  · show opAdd A p q b = _
    unfold opAdd
    rw [if_neg (fun z => h (Or.inl z)), if_neg (fun z => h (Or.inr z))]
  · have hl := tp_n hI
    have h16 := hl.1
    obtain ⟨b, hb, rfl⟩ := bin_t (v := b) (b := nn (a_s A 43)) (by omega) (fun z => h (Or.inl (Or.inr (Or.inr (by rw [hl.2.1]; exact z)))))
    have e3 : nn (nI b) = b := nn_nI (by omega)
    have hlo : ∀ j, 76 ≤ j → ins (a_s A) (nn (a_s A 43)) (nn (nI b)) p q j = a_s A j := fun j hj => by
      have hne : nn (a_s A 43) ≠ 16 := fun z => h (Or.inr (by rw [hl.2.1, z]; rfl))
      rw [e3]; unfold ins; rw [if_neg (by omega), if_neg (by omega), if_neg (by omega), if_neg (by omega)]
    refine ⟨tp_nI (by omega), fun j hj => hlo j (by omega), tp_V_lo (tp_G_cg ⟨?_, ?_⟩ hI.2.2.1) hlo hI.2.2⟩
    · unfold ins; rw [if_neg (by omega), if_neg (by omega), if_neg (by omega), if_neg (by omega)]
    · unfold ins; rw [if_neg (by omega), if_neg (by omega), if_neg (by omega), if_neg (by omega)]
theorem tp_rem (e : Int32) : tp_E (fun A => opRem A e) 0 := by
  refine tp_mk (c := fun s => bin e 0 (s 43 - 1) = 0) (R0 := fun _ => eI) (R1 := fun s => nI (nn (s 43) - 1)) (S := fun s => rem s (nn (s 43)) (nn e)) (fun A => ⟨fun h => if_pos h, fun h => if_neg h⟩) (fun _ => by decide) (fun A T hI h => ?_)
  have h16 := (tp_n hI).1
  have hlo : ∀ j, (j < 43 ∨ 76 ≤ j) → rem (a_s A) (nn (a_s A 43)) (nn e) j = a_s A j := fun j hj => by unfold rem; rw [if_neg (by omega), if_neg (by omega)]
  exact ⟨tp_nI (by omega), fun j hj => hlo j (by omega), tp_V_lo (tp_G_cg ⟨hlo _ (by decide), hlo _ (by decide)⟩ hI.2.2.1) (fun j hj => hlo j (Or.inr hj)) hI.2.2⟩
theorem tp_settle (e q : Int32) : tp_E (fun A => opSettle A e q) 0 := by
  refine tp_mk (c := fun s => bin e 0 (s 43 - 1) = 0 ∨ bin q 0 7 = 0) (R0 := fun _ => eI) (R1 := fun s => s (45 + 2 * nn e)) (S := fun s => sU s (45 + 2 * nn e) q) (fun A => ⟨fun h => if_pos h, fun h => if_neg h⟩) (fun _ => by decide) (fun A T hI h => ?_)
  have hl := tp_n hI
  have h16 := hl.1
  obtain ⟨e, he, rfl⟩ := bin_e (n := nn (a_s A 43)) (by omega) (by rw [← hl.2.1]; exact fun z => h (Or.inl z))
  have e3 : nn (nI e) = e := nn_nI (by omega)
  rw [e3]
  have hlo : ∀ j, (j < 43 ∨ 76 ≤ j) → sU (a_s A) (45 + 2 * e) q j = a_s A j := fun j hj => sU_ne _ _ (by omega)
  refine ⟨?_, fun j hj => hlo j (by omega), tp_V_lo (tp_G_cg ⟨hlo _ (by decide), hlo _ (by decide)⟩ hI.2.2.1) (fun j hj => hlo j (Or.inr hj)) hI.2.2⟩
  show ¬ a_s A (45 + 2 * e) ≤ _
  obtain ⟨q1, q2⟩ := okL_q hl he
  rw [q1]; exact tp_nI (by omega)
theorem tp_order (r : Int32) : tp_E (fun A => opOrder A r) 0 := by
  refine tp_mk (c := fun _ => bin r 0 3 = 0) (R0 := fun _ => eI) (R1 := fun s => mvd (tau s r (nn (s 43))) (nn (s 43))) (S := fun s => arr s (tau s r (nn (s 43))) (nn (s 43))) (fun A => ⟨fun h => if_pos h, fun h => if_neg h⟩) (fun _ => by decide) (fun A T hI h => ?_)
  have h16 := (tp_n hI).1
  have hlo : ∀ j, (j < 43 ∨ 76 ≤ j) → arr (a_s A) (tau (a_s A) r (nn (a_s A 43))) (nn (a_s A 43)) j = a_s A j := fun j hj => by unfold arr; rw [if_neg (by omega)]
  refine ⟨?_, fun j hj => hlo j (by omega), tp_V_lo (tp_G_cg ⟨hlo _ (by decide), hlo _ (by decide)⟩ hI.2.2.1) (fun j hj => hlo j (Or.inr hj)) hI.2.2⟩
  obtain ⟨k, k1, k2⟩ := mvd_nI (tau (a_s A) r (nn (a_s A 43))) (nn (a_s A 43))
  show ¬ mvd _ _ ≤ _
  rw [k2]; exact tp_nI (by omega)
theorem tp_take (p : Int32) : tp_E (fun A => opTake A p) 0 := by
  refine tp_mk (c := fun _ => bin p 0 1 = 0) (R0 := fun _ => eI) (R1 := fun s => s 43) (S := fun s => tks s (nn p)) (fun A => ⟨fun h => if_pos h, fun h => if_neg h⟩) (fun _ => by decide) (fun A T hI h => ?_)
  obtain ⟨p, hp, rfl⟩ := bin_t (b := 1) (by decide) h
  have e3 : nn (nI p) = p := nn_nI (by omega)
  rw [e3]
  have hl := tp_n hI
  have h16 := hl.1
  have lo : ∀ j, (j < 254 + 77 * p ∨ 254 + 77 * p + 77 ≤ j) → tks (a_s A) p j = a_s A j := fun j hj => by unfold tks cpw; rw [if_neg (by omega), sU_ne _ _ (by omega)]
  refine ⟨?_, fun j hj => lo j (by omega), tp_G_cg ⟨lo _ (by omega), lo _ (by omega)⟩ hI.2.2.1, fun y hy => ?_, tp_L_cg (fun j h1 h2 => lo j (by omega)) hI.2.2.2.2⟩
  · show ¬ a_s A 43 ≤ _
    rw [hl.2.1]; exact tp_nI (by omega)
  · by_cases e : y = p
    · subst e
      refine Or.inr (tp_G_cg (s := a_s A) ⟨?_, ?_⟩ hI.2.2.1)
      · show tks (a_s A) y (255 + 77 * y + 41) = _
        unfold tks cpw; rw [if_pos (by omega), Nat.add_sub_cancel_left]
      · show tks (a_s A) y (255 + 77 * y + 42) = _
        unfold tks cpw; rw [if_pos (by omega), Nat.add_sub_cancel_left]
    · rw [lo (254 + 77 * y) (by omega)]
      exact (hI.2.2.2.1 y hy).imp_right (fun z => tp_G_cg ⟨lo _ (by omega), lo _ (by omega)⟩ z)
theorem tp_restore (p : Int32) : tp_E (fun A => opRestore A p) 0 := by
  refine tp_mk (c := fun s => bin p 0 1 = 0 ∨ s (254 + 77 * nn p) = 0) (R0 := fun s => if bin p 0 1 = 0 then eI else eS) (R1 := fun s => s (298 + 77 * nn p)) (S := fun s => rst s (nn p)) (fun A => ⟨fun h => ?_, fun h => ?_⟩) (fun s => by split <;> decide) (fun A T hI h => ?_)
  · show opRestore A p = _
    unfold opRestore
    by_cases c : bin p 0 1 = 0
    · rw [if_pos c]; rw [if_pos c]
    · rw [if_neg c, if_pos (h.resolve_left c)]; rw [if_neg c]
  · show opRestore A p = _
    unfold opRestore
    rw [if_neg (fun z => h (Or.inl z)), if_neg (fun z => h (Or.inr z))]
  · obtain ⟨p, hp, rfl⟩ := bin_t (b := 1) (by decide) (fun z => h (Or.inl z))
    have e3 : nn (nI p) = p := nn_nI (by omega)
    rw [e3] at h ⊢
    have hz : ¬ a_s A (254 + 77 * p) = 0 := fun z => h (Or.inr z)
    obtain ⟨-, -, n, hn⟩ := ((hI.1.1.2.2.2.2.1 p (by omega)).resolve_left hz).2
    have hg : tp_G (fun j => a_s A (255 + 77 * p + j)) := (hI.2.2.2.1 p (by omega)).resolve_left hz
    have hlo : ∀ j, 76 ≤ j → rst (a_s A) p j = a_s A j := fun j hj => cpi_ge hj
    refine ⟨?_, fun j hj => hlo j (by omega), tp_V_lo (tp_G_cg (s := fun j => a_s A (255 + 77 * p + j)) ⟨cpi_lt (by decide), cpi_lt (by decide)⟩ hg) hlo hI.2.2⟩
    have e : a_s A (298 + 77 * p) = nI n := by rw [← hn.2.1]; exact congrArg (a_s A) (by omega)
    show ¬ a_s A (298 + 77 * p) ≤ _
    have := hn.1
    rw [e]; exact tp_nI (by omega)
