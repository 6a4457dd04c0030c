/-! THE CLASS: its memory through a call -/
abbrev cfE (x _j : Nat) : Prop := x < 214
abbrev cfr (d d' : Dt) : Prop := fr cfE cfE d d'
theorem TR_su {d d' : Dt} {s s' : SS} {h : UInt32} (hT : TR d 1 s h) (hf : fr (suE 2) nE d d') (hS : SR d' 2 s') (he : ∀ j, 76 ≤ j → s' j = s j) : TR d' 1 s' h := by
  obtain ⟨h1, h2, h3, h4, h5, h6, h7⟩ := hT
  have k : ∀ x j, 9 ≤ x → d'.1 x j = d.1 x j := fun x j hx => hf.1 x j (by omega)
  obtain ⟨nx, c, l1, l2, l3, l4, l5, l6⟩ := h2
  refine ⟨hS, ⟨nx, c, l1, l2, (k _ _ (by decide)).trans l3, (k _ _ (by decide)).trans l4, (he 77 (by decide)).trans l5, fun i j hi hj => (k _ _ (by decide)).trans ((l6 i j hi hj).trans (he _ (by omega)).symm)⟩, fun p hp => ?_, fun i hi => (k _ _ (by decide)).trans ((h4 i hi).trans (he _ (by omega)).symm), ⟨(k _ _ (by decide)).trans (h5.1.trans (he 254 (by decide)).symm), fun q => ?_⟩, ⟨(k _ _ (by decide)).trans (h6.1.trans (he 331 (by decide)).symm), fun q => ?_⟩, (hf.2 1 6 id).trans h7⟩
  · rw [he (78 + p) (by omega)]; exact (k _ _ (by decide)).trans (h3 p hp)
  · exact ((h5.2 ((he 254 (by decide)).symm.trans q)).fr hf (by intro j; omega) (by intro j; omega) (by intro j; omega) (by omega)).cg (fun j hj => he _ (by omega))
  · exact ((h6.2 ((he 331 (by decide)).symm.trans q)).fr hf (by intro j; omega) (by intro j; omega) (by intro j; omega) (by omega)).cg (fun j hj => he _ (by omega))
theorem HS_bk {d d' : Dt} {A : AS} (h : HS d A) (h1 : ∀ x j, 32 ≤ x → x ≤ 188 → d'.1 x j = d.1 x j) (h2 : ∀ x j, 32 ≤ x → x ≤ 188 → d'.2 x j = d.2 x j) : HS d' A := by
  obtain ⟨nx, hnx, a1, a2, a3, a4⟩ := h
  refine ⟨nx, hnx, (h1 32 1 (by decide) (by decide)).trans a1, (h1 32 2 (by decide) (by decide)).trans a2, a3, fun k hk => TR_bk (a4 k hk) ⟨fun x j q1 q2 => h1 x j (by omega) (by omega), fun j => h2 _ j (by omega) (by omega)⟩⟩
theorem CR_keep {d d' : Dt} {A : AS} (hC : CR d A) (hf : fr kpE kpE d d') (hH : HS d' (rec A (a_s A) (a_h A))) : CR d' (rec A (a_s A) (a_h A)) :=
  ⟨TR_bk hC.1 ⟨fun x j h1 h2 => hf.1 x j (by omega), fun j => hf.2 1 j (by omega)⟩, hH, (hf.1 205 1 (by omega)).trans hC.2.2.1, fun j hj => (hf.1 206 j (by omega)).trans (hC.2.2.2 j hj)⟩
/-- the state's own setup changed -/
theorem CR_su {d d' : Dt} {s s' : SS} {T : Nat × SS × (Nat → UInt32) × UInt32 × SS × Nat} (hC : CR d (s, T)) (hf : fr (suE 2) nE d d') (hS : SR d' 2 s') (he : ∀ j, 76 ≤ j → s' j = s j) : CR d' (s', T) :=
  ⟨TR_su hC.1 hf hS he, HS_bk (A := (s, T)) hC.2.1 (fun x j h1 h2 => hf.1 x j (by omega)) (fun x j _ _ => hf.2 x j id), (hf.1 205 1 (by omega)).trans hC.2.2.1, fun j hj => (hf.1 206 j (by omega)).trans (hC.2.2.2 j hj)⟩
theorem kp_cf {d d' : Dt} (h : fr kpE kpE d d') : cfr d d' := h.mono (by intro x j; omega) (by intro x j; omega)
theorem su_cf {d d' : Dt} (h : fr (suE 2) nE d d') : cfr d d' := h.mono (by intro x j; omega) (fun _ _ => False.elim)
