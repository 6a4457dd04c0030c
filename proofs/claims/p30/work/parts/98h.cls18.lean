/-! THE CLASS'S OWN CALLS (9): would -/
section CLS18
variable {G : GP} {Q : Option Value → Sh → Dt → Prop} {d : Dt}
theorem CR_cv {d d' : Dt} {A : AS} (hC : CR d A) (hf : fr cvE cvF d d') : CR d' A :=
  ⟨TR_bk hC.1 ⟨fun x j h1 h2 => hf.1 x j (by omega), fun j => hf.2 1 j (by omega)⟩, HS_bk hC.2.1 (fun x j h1 h2 => hf.1 x j (by omega)) (fun x j h1 h2 => hf.2 x j (by omega)), (hf.1 205 1 (by omega)).trans hC.2.2.1, fun j hj => (hf.1 206 j (by omega)).trans (hC.2.2.2 j hj)⟩
theorem cv_cf {d d' : Dt} (h : fr cvE cvF d d') : cfr d d' := h.mono (by intro x j; omega) (by intro x j; omega)
set_option maxHeartbeats 4000000 in
set_option maxRecDepth 100000 in
theorem k_would0 {A : AS} {e : Int32} (hC : CR d A) (hO : OK A) (hQ : ∀ d', cfr d d' → CR d' A → Q (some (.int (vWould A e 0))) S1 d') : mC G mX10_would [.ref 0, .int e, .int 0] S1 d Q := by
  by_cases hb : bin e 0 (a_s A 43 - 1) = 0
  · skip
    rw [show vWould A e 0 = eI from if_pos (Or.inl hb)] at hQ
    refine mC_of (by decide +kernel) ⟨_, rfl⟩ (Nat.le_of_ble_eq_true rfl) ?_
    show mM G mX10_would 0 [some (.ref 0), some (.int e), some (.int 0)] [] S1 d (0, 0) Q
    refine m_aload_n (pc' := 1) dX10_would_0 rfl rfl ?_
    refine m_iload_n (pc' := 2) dX10_would_1 rfl rfl ?_
    refine m_callV (pc' := 5) (A := [.int e]) (rest := []) (b := 0) cl_X10_would_111 dX10_would_2 rfl rfl (Nat.le_of_ble_eq_true rfl) ⟨by decide, by decide⟩ (by decide) rfl rfl rfl rfl ?_
    refine c_isEntry (s := a_s A) hC.1.1.2.2.2 ?_
    show mM G mX10_would 5 [some (.ref 0), some (.int e), some (.int 0)] [.int (bin e 0 (a_s A 43 - 1))] S1 d (0, 0) Q
    rw [show (bin e 0 (a_s A 43 - 1)) = 0 from hb]
    refine m_if_eq (tgt := 17) (pc' := 8) dX10_would_5 (by decide) rfl (fun h5 => ?_) (fun h5 => absurd h5 (by decide))
    refine m_ldc (pc' := 19) dX10_would_17 kc_X10_would_59 rfl ?_
    refine m_iret dX10_would_19 rfl rfl ⟨by decide, by decide⟩ ?_
    exact hQ _ fr.rfl hC
  obtain ⟨n, hl⟩ := hO.l
  have e43 := hl.2.1
  have hn16 := hl.1
  obtain ⟨t0, ht0, et76⟩ := hO.t
  have hc := hO.c
  have ett : nn (a_s A 76) = t0 := by rw [et76]; exact nn_nI (by omega)
  obtain ⟨e, hen, rfl⟩ := bin_e (n := n) (by omega) (by rw [← e43]; exact hb)
  rw [show vWould A (nI e) 0 = er (a_s A) t0 (a_h A) e from by unfold vWould; rw [if_neg (not_or.mpr ⟨hb, by decide⟩), ett, nn_nI (by omega), if_pos rfl]] at hQ
  refine mC_of (by decide +kernel) ⟨_, rfl⟩ (Nat.le_of_ble_eq_true rfl) ?_
  show mM G mX10_would 0 [some (.ref 0), some (.int (nI e)), some (.int 0)] [] S1 d (0, 0) Q
  refine m_aload_n (pc' := 1) dX10_would_0 rfl rfl ?_
  refine m_iload_n (pc' := 2) dX10_would_1 rfl rfl ?_
  refine m_callV (pc' := 5) (A := [.int (nI e)]) (rest := []) (b := 0) cl_X10_would_111 dX10_would_2 rfl rfl (Nat.le_of_ble_eq_true rfl) ⟨by decide, by decide⟩ (by decide) rfl rfl rfl rfl ?_
  refine c_isEntry (s := a_s A) hC.1.1.2.2.2 ?_
  show mM G mX10_would 5 [some (.ref 0), some (.int (nI e)), some (.int 0)] [.int (bin (nI e) 0 (a_s A 43 - 1))] S1 d (0, 0) Q
  rw [show (bin (nI e) 0 (a_s A 43 - 1)) = 1 from bin_1 hb]
  refine m_if_eq (tgt := 17) (pc' := 8) dX10_would_5 (by decide) rfl (fun h5 => absurd h5 (by decide)) (fun h5 => ?_)
  refine m_iload_n (pc' := 9) dX10_would_8 rfl rfl ?_
  refine m_iconst (pc' := 10) (v := 0) dX10_would_9 (by decide) rfl ?_
  refine m_iconst (pc' := 11) (v := 2) dX10_would_10 (by decide) rfl ?_
  refine m_callS (pc' := 14) (A := [.int 0, .int 0, .int 2]) (rest := []) cl_X10_would_81 dX10_would_11 rfl rfl (Nat.le_of_ble_eq_true rfl) ⟨by decide, by decide⟩ rfl rfl ?_
  refine c_within ?_
  show mM G mX10_would 14 [some (.ref 0), some (.int (nI e)), some (.int 0)] [.int (bin 0 0 2)] S1 d (0, 0) Q
  rw [show (bin 0 0 2) = 1 from rfl]
  refine m_if_ne (tgt := 20) (pc' := 17) dX10_would_14 (by decide) rfl (fun h14 => ?_) (fun h14 => absurd h14 (by decide))
  refine m_aload_n (pc' := 21) dX10_would_20 rfl rfl ?_
  refine m_aload_n (pc' := 22) dX10_would_21 rfl rfl ?_
  refine m_getR (pc' := 25) fa_X10_would_10 dX10_would_22 (by decide) rfl rfl rfl rfl ?_
  refine m_getR (pc' := 28) fa_X10_would_64 dX10_would_25 (by decide) rfl rfl rfl rfl ?_
  refine m_iload_n (pc' := 29) dX10_would_28 rfl rfl ?_
  refine m_iconst (pc' := 30) (v := 1) dX10_would_29 (by decide) rfl ?_
  refine m_iadd (pc' := 31) dX10_would_30 rfl ?_
  rw [show ((nI e) + 1) = (nI (e + 1)) from nI_1 e]
  refine m_callV (pc' := 34) (A := [.ref 2, .int (nI (e + 1))]) (rest := []) (b := 0) cl_X10_would_234 dX10_would_31 rfl rfl (Nat.le_of_ble_eq_true rfl) ⟨by decide, by decide⟩ (by decide) rfl rfl rfl rfl ?_
  refine c_try (n := n) (m := e + 1) (t0 := t0) (h := a_h A) (sA := a_s A) (s := a_s A) hC.1 hO.1.2.2.2.2.2 et76 ht0 (by decide) hC.1.1 hl hc (by omega) (fun f f0 fS f1 f9 fq => ?_)
  show mM G mX10_would 34 [some (.ref 0), some (.int (nI e)), some (.int 0)] [.int (esm (a_s A) t0 (a_h A) (e + 1))] S1 f (0, 0) Q
  have r2 : f.1 189 2 = er (a_s A) t0 (a_h A) e := (fq (by omega)).1
  have r3 : f.1 189 3 = ec (a_s A) t0 (a_h A) e := (fq (by omega)).2.1
  have r4 : f.1 189 4 = pvl (a_s A) (pn (a_s A) e) (nI (et (a_s A) t0 e + qn (a_s A) e)) := (fq (by omega)).2.2
  refine m_pop (pc' := 35) dX10_would_34 rfl ?_
  refine m_iload_n (pc' := 36) dX10_would_35 rfl rfl ?_
  refine m_lookup (tgt := 64) (off := 28) dX10_would_36 (by decide) (by decide) (by decide) ?_
  refine m_aload_n (pc' := 65) dX10_would_64 rfl rfl ?_
  refine m_getR (pc' := 68) fa_X10_would_26 dX10_would_65 (by decide) rfl rfl rfl rfl ?_
  refine m_getI (pc' := 71) fa_X10_would_238 dX10_would_68 (by decide) rfl rfl rfl ?_
  rw [show (f.1 189 2) = (er (a_s A) t0 (a_h A) e) from r2]
  refine m_iret dX10_would_71 rfl rfl ⟨by decide, by decide⟩ ?_
  exact hQ f (cv_cf f0) (CR_cv hC f0)
set_option maxHeartbeats 4000000 in
set_option maxRecDepth 100000 in
theorem k_would1 {A : AS} {e : Int32} (hC : CR d A) (hO : OK A) (hQ : ∀ d', cfr d d' → CR d' A → Q (some (.int (vWould A e 1))) S1 d') : mC G mX10_would [.ref 0, .int e, .int 1] S1 d Q := by
  by_cases hb : bin e 0 (a_s A 43 - 1) = 0
  · skip
    rw [show vWould A e 1 = eI from if_pos (Or.inl hb)] at hQ
    refine mC_of (by decide +kernel) ⟨_, rfl⟩ (Nat.le_of_ble_eq_true rfl) ?_
    show mM G mX10_would 0 [some (.ref 0), some (.int e), some (.int 1)] [] S1 d (0, 0) Q
    refine m_aload_n (pc' := 1) dX10_would_0 rfl rfl ?_
    refine m_iload_n (pc' := 2) dX10_would_1 rfl rfl ?_
    refine m_callV (pc' := 5) (A := [.int e]) (rest := []) (b := 0) cl_X10_would_111 dX10_would_2 rfl rfl (Nat.le_of_ble_eq_true rfl) ⟨by decide, by decide⟩ (by decide) rfl rfl rfl rfl ?_
    refine c_isEntry (s := a_s A) hC.1.1.2.2.2 ?_
    show mM G mX10_would 5 [some (.ref 0), some (.int e), some (.int 1)] [.int (bin e 0 (a_s A 43 - 1))] S1 d (0, 0) Q
    rw [show (bin e 0 (a_s A 43 - 1)) = 0 from hb]
    refine m_if_eq (tgt := 17) (pc' := 8) dX10_would_5 (by decide) rfl (fun h5 => ?_) (fun h5 => absurd h5 (by decide))
    refine m_ldc (pc' := 19) dX10_would_17 kc_X10_would_59 rfl ?_
    refine m_iret dX10_would_19 rfl rfl ⟨by decide, by decide⟩ ?_
    exact hQ _ fr.rfl hC
  obtain ⟨n, hl⟩ := hO.l
  have e43 := hl.2.1
  have hn16 := hl.1
  obtain ⟨t0, ht0, et76⟩ := hO.t
  have hc := hO.c
  have ett : nn (a_s A 76) = t0 := by rw [et76]; exact nn_nI (by omega)
  obtain ⟨e, hen, rfl⟩ := bin_e (n := n) (by omega) (by rw [← e43]; exact hb)
  rw [show vWould A (nI e) 1 = ec (a_s A) t0 (a_h A) e from by unfold vWould; rw [if_neg (not_or.mpr ⟨hb, by decide⟩), ett, nn_nI (by omega), if_neg (by decide), if_pos rfl]] at hQ
  refine mC_of (by decide +kernel) ⟨_, rfl⟩ (Nat.le_of_ble_eq_true rfl) ?_
  show mM G mX10_would 0 [some (.ref 0), some (.int (nI e)), some (.int 1)] [] S1 d (0, 0) Q
  refine m_aload_n (pc' := 1) dX10_would_0 rfl rfl ?_
  refine m_iload_n (pc' := 2) dX10_would_1 rfl rfl ?_
  refine m_callV (pc' := 5) (A := [.int (nI e)]) (rest := []) (b := 0) cl_X10_would_111 dX10_would_2 rfl rfl (Nat.le_of_ble_eq_true rfl) ⟨by decide, by decide⟩ (by decide) rfl rfl rfl rfl ?_
  refine c_isEntry (s := a_s A) hC.1.1.2.2.2 ?_
  show mM G mX10_would 5 [some (.ref 0), some (.int (nI e)), some (.int 1)] [.int (bin (nI e) 0 (a_s A 43 - 1))] S1 d (0, 0) Q
  rw [show (bin (nI e) 0 (a_s A 43 - 1)) = 1 from bin_1 hb]
  refine m_if_eq (tgt := 17) (pc' := 8) dX10_would_5 (by decide) rfl (fun h5 => absurd h5 (by decide)) (fun h5 => ?_)
  refine m_iload_n (pc' := 9) dX10_would_8 rfl rfl ?_
  refine m_iconst (pc' := 10) (v := 0) dX10_would_9 (by decide) rfl ?_
  refine m_iconst (pc' := 11) (v := 2) dX10_would_10 (by decide) rfl ?_
  refine m_callS (pc' := 14) (A := [.int 1, .int 0, .int 2]) (rest := []) cl_X10_would_81 dX10_would_11 rfl rfl (Nat.le_of_ble_eq_true rfl) ⟨by decide, by decide⟩ rfl rfl ?_
  refine c_within ?_
  show mM G mX10_would 14 [some (.ref 0), some (.int (nI e)), some (.int 1)] [.int (bin 1 0 2)] S1 d (0, 0) Q
  rw [show (bin 1 0 2) = 1 from rfl]
  refine m_if_ne (tgt := 20) (pc' := 17) dX10_would_14 (by decide) rfl (fun h14 => ?_) (fun h14 => absurd h14 (by decide))
  refine m_aload_n (pc' := 21) dX10_would_20 rfl rfl ?_
  refine m_aload_n (pc' := 22) dX10_would_21 rfl rfl ?_
  refine m_getR (pc' := 25) fa_X10_would_10 dX10_would_22 (by decide) rfl rfl rfl rfl ?_
  refine m_getR (pc' := 28) fa_X10_would_64 dX10_would_25 (by decide) rfl rfl rfl rfl ?_
  refine m_iload_n (pc' := 29) dX10_would_28 rfl rfl ?_
  refine m_iconst (pc' := 30) (v := 1) dX10_would_29 (by decide) rfl ?_
  refine m_iadd (pc' := 31) dX10_would_30 rfl ?_
  rw [show ((nI e) + 1) = (nI (e + 1)) from nI_1 e]
  refine m_callV (pc' := 34) (A := [.ref 2, .int (nI (e + 1))]) (rest := []) (b := 0) cl_X10_would_234 dX10_would_31 rfl rfl (Nat.le_of_ble_eq_true rfl) ⟨by decide, by decide⟩ (by decide) rfl rfl rfl rfl ?_
  refine c_try (n := n) (m := e + 1) (t0 := t0) (h := a_h A) (sA := a_s A) (s := a_s A) hC.1 hO.1.2.2.2.2.2 et76 ht0 (by decide) hC.1.1 hl hc (by omega) (fun f f0 fS f1 f9 fq => ?_)
  show mM G mX10_would 34 [some (.ref 0), some (.int (nI e)), some (.int 1)] [.int (esm (a_s A) t0 (a_h A) (e + 1))] S1 f (0, 0) Q
  have r2 : f.1 189 2 = er (a_s A) t0 (a_h A) e := (fq (by omega)).1
  have r3 : f.1 189 3 = ec (a_s A) t0 (a_h A) e := (fq (by omega)).2.1
  have r4 : f.1 189 4 = pvl (a_s A) (pn (a_s A) e) (nI (et (a_s A) t0 e + qn (a_s A) e)) := (fq (by omega)).2.2
  refine m_pop (pc' := 35) dX10_would_34 rfl ?_
  refine m_iload_n (pc' := 36) dX10_would_35 rfl rfl ?_
  refine m_lookup (tgt := 72) (off := 36) dX10_would_36 (by decide) (by decide) (by decide) ?_
  refine m_aload_n (pc' := 73) dX10_would_72 rfl rfl ?_
  refine m_getR (pc' := 76) fa_X10_would_26 dX10_would_73 (by decide) rfl rfl rfl rfl ?_
  refine m_getI (pc' := 79) fa_X10_would_241 dX10_would_76 (by decide) rfl rfl rfl ?_
  rw [show (f.1 189 3) = (ec (a_s A) t0 (a_h A) e) from r3]
  refine m_iret dX10_would_79 rfl rfl ⟨by decide, by decide⟩ ?_
  exact hQ f (cv_cf f0) (CR_cv hC f0)
set_option maxHeartbeats 4000000 in
set_option maxRecDepth 100000 in
theorem k_would2 {A : AS} {e : Int32} (hC : CR d A) (hO : OK A) (hQ : ∀ d', cfr d d' → CR d' A → Q (some (.int (vWould A e 2))) S1 d') : mC G mX10_would [.ref 0, .int e, .int 2] S1 d Q := by
  by_cases hb : bin e 0 (a_s A 43 - 1) = 0
  · skip
    rw [show vWould A e 2 = eI from if_pos (Or.inl hb)] at hQ
    refine mC_of (by decide +kernel) ⟨_, rfl⟩ (Nat.le_of_ble_eq_true rfl) ?_
    show mM G mX10_would 0 [some (.ref 0), some (.int e), some (.int 2)] [] S1 d (0, 0) Q
    refine m_aload_n (pc' := 1) dX10_would_0 rfl rfl ?_
    refine m_iload_n (pc' := 2) dX10_would_1 rfl rfl ?_
    refine m_callV (pc' := 5) (A := [.int e]) (rest := []) (b := 0) cl_X10_would_111 dX10_would_2 rfl rfl (Nat.le_of_ble_eq_true rfl) ⟨by decide, by decide⟩ (by decide) rfl rfl rfl rfl ?_
    refine c_isEntry (s := a_s A) hC.1.1.2.2.2 ?_
    show mM G mX10_would 5 [some (.ref 0), some (.int e), some (.int 2)] [.int (bin e 0 (a_s A 43 - 1))] S1 d (0, 0) Q
    rw [show (bin e 0 (a_s A 43 - 1)) = 0 from hb]
    refine m_if_eq (tgt := 17) (pc' := 8) dX10_would_5 (by decide) rfl (fun h5 => ?_) (fun h5 => absurd h5 (by decide))
    refine m_ldc (pc' := 19) dX10_would_17 kc_X10_would_59 rfl ?_
    refine m_iret dX10_would_19 rfl rfl ⟨by decide, by decide⟩ ?_
    exact hQ _ fr.rfl hC
  obtain ⟨n, hl⟩ := hO.l
  have e43 := hl.2.1
  have hn16 := hl.1
  obtain ⟨t0, ht0, et76⟩ := hO.t
  have hc := hO.c
  have ett : nn (a_s A 76) = t0 := by rw [et76]; exact nn_nI (by omega)
  obtain ⟨e, hen, rfl⟩ := bin_e (n := n) (by omega) (by rw [← e43]; exact hb)
  rw [show vWould A (nI e) 2 = ee (a_s A) t0 (a_h A) e from by unfold vWould; rw [if_neg (not_or.mpr ⟨hb, by decide⟩), ett, nn_nI (by omega), if_neg (by decide), if_neg (by decide)]] at hQ
  refine mC_of (by decide +kernel) ⟨_, rfl⟩ (Nat.le_of_ble_eq_true rfl) ?_
  show mM G mX10_would 0 [some (.ref 0), some (.int (nI e)), some (.int 2)] [] S1 d (0, 0) Q
  refine m_aload_n (pc' := 1) dX10_would_0 rfl rfl ?_
  refine m_iload_n (pc' := 2) dX10_would_1 rfl rfl ?_
  refine m_callV (pc' := 5) (A := [.int (nI e)]) (rest := []) (b := 0) cl_X10_would_111 dX10_would_2 rfl rfl (Nat.le_of_ble_eq_true rfl) ⟨by decide, by decide⟩ (by decide) rfl rfl rfl rfl ?_
  refine c_isEntry (s := a_s A) hC.1.1.2.2.2 ?_
  show mM G mX10_would 5 [some (.ref 0), some (.int (nI e)), some (.int 2)] [.int (bin (nI e) 0 (a_s A 43 - 1))] S1 d (0, 0) Q
  rw [show (bin (nI e) 0 (a_s A 43 - 1)) = 1 from bin_1 hb]
  refine m_if_eq (tgt := 17) (pc' := 8) dX10_would_5 (by decide) rfl (fun h5 => absurd h5 (by decide)) (fun h5 => ?_)
  refine m_iload_n (pc' := 9) dX10_would_8 rfl rfl ?_
  refine m_iconst (pc' := 10) (v := 0) dX10_would_9 (by decide) rfl ?_
  refine m_iconst (pc' := 11) (v := 2) dX10_would_10 (by decide) rfl ?_
  refine m_callS (pc' := 14) (A := [.int 2, .int 0, .int 2]) (rest := []) cl_X10_would_81 dX10_would_11 rfl rfl (Nat.le_of_ble_eq_true rfl) ⟨by decide, by decide⟩ rfl rfl ?_
  refine c_within ?_
  show mM G mX10_would 14 [some (.ref 0), some (.int (nI e)), some (.int 2)] [.int (bin 2 0 2)] S1 d (0, 0) Q
  rw [show (bin 2 0 2) = 1 from rfl]
  refine m_if_ne (tgt := 20) (pc' := 17) dX10_would_14 (by decide) rfl (fun h14 => ?_) (fun h14 => absurd h14 (by decide))
  refine m_aload_n (pc' := 21) dX10_would_20 rfl rfl ?_
  refine m_aload_n (pc' := 22) dX10_would_21 rfl rfl ?_
  refine m_getR (pc' := 25) fa_X10_would_10 dX10_would_22 (by decide) rfl rfl rfl rfl ?_
  refine m_getR (pc' := 28) fa_X10_would_64 dX10_would_25 (by decide) rfl rfl rfl rfl ?_
  refine m_iload_n (pc' := 29) dX10_would_28 rfl rfl ?_
  refine m_iconst (pc' := 30) (v := 1) dX10_would_29 (by decide) rfl ?_
  refine m_iadd (pc' := 31) dX10_would_30 rfl ?_
  rw [show ((nI e) + 1) = (nI (e + 1)) from nI_1 e]
  refine m_callV (pc' := 34) (A := [.ref 2, .int (nI (e + 1))]) (rest := []) (b := 0) cl_X10_would_234 dX10_would_31 rfl rfl (Nat.le_of_ble_eq_true rfl) ⟨by decide, by decide⟩ (by decide) rfl rfl rfl rfl ?_
  refine c_try (n := n) (m := e + 1) (t0 := t0) (h := a_h A) (sA := a_s A) (s := a_s A) hC.1 hO.1.2.2.2.2.2 et76 ht0 (by decide) hC.1.1 hl hc (by omega) (fun f f0 fS f1 f9 fq => ?_)
  show mM G mX10_would 34 [some (.ref 0), some (.int (nI e)), some (.int 2)] [.int (esm (a_s A) t0 (a_h A) (e + 1))] S1 f (0, 0) Q
  have r2 : f.1 189 2 = er (a_s A) t0 (a_h A) e := (fq (by omega)).1
  have r3 : f.1 189 3 = ec (a_s A) t0 (a_h A) e := (fq (by omega)).2.1
  have r4 : f.1 189 4 = pvl (a_s A) (pn (a_s A) e) (nI (et (a_s A) t0 e + qn (a_s A) e)) := (fq (by omega)).2.2
  refine m_pop (pc' := 35) dX10_would_34 rfl ?_
  refine m_iload_n (pc' := 36) dX10_would_35 rfl rfl ?_
  refine m_lookup (tgt := 80) (off := 44) dX10_would_36 (by decide) (by decide) (by decide) ?_
  refine m_aload_n (pc' := 81) dX10_would_80 rfl rfl ?_
  refine m_getR (pc' := 84) fa_X10_would_26 dX10_would_81 (by decide) rfl rfl rfl rfl ?_
  refine m_callV (pc' := 87) (A := []) (rest := []) (b := 189) cl_X10_would_244 dX10_would_84 rfl rfl (Nat.le_of_ble_eq_true rfl) ⟨by decide, by decide⟩ (by decide) rfl rfl rfl rfl ?_
  refine c_error ?_
  show mM G mX10_would 87 [some (.ref 0), some (.int (nI e)), some (.int 2)] [.int ((f.1 189 2) - (f.1 189 4))] S1 f (0, 0) Q
  rw [show ((f.1 189 2) - (f.1 189 4)) = (ee (a_s A) t0 (a_h A) e) from (by rw [r2, r4]; rfl)]
  refine m_iret dX10_would_87 rfl rfl ⟨by decide, by decide⟩ ?_
  exact hQ f (cv_cf f0) (CR_cv hC f0)
set_option maxHeartbeats 4000000 in
set_option maxRecDepth 100000 in
theorem k_wouldX {A : AS} {e w : Int32} (hC : CR d A) (h2 : bin w 0 2 = 0) (hQ : ∀ d', cfr d d' → CR d' A → Q (some (.int (vWould A e w))) S1 d') : mC G mX10_would [.ref 0, .int e, .int w] S1 d Q := by
  by_cases hb : bin e 0 (a_s A 43 - 1) = 0
  · skip
    rw [show vWould A e w = eI from if_pos (Or.inl hb)] at hQ
    refine mC_of (by decide +kernel) ⟨_, rfl⟩ (Nat.le_of_ble_eq_true rfl) ?_
    show mM G mX10_would 0 [some (.ref 0), some (.int e), some (.int w)] [] S1 d (0, 0) Q
    refine m_aload_n (pc' := 1) dX10_would_0 rfl rfl ?_
    refine m_iload_n (pc' := 2) dX10_would_1 rfl rfl ?_
    refine m_callV (pc' := 5) (A := [.int e]) (rest := []) (b := 0) cl_X10_would_111 dX10_would_2 rfl rfl (Nat.le_of_ble_eq_true rfl) ⟨by decide, by decide⟩ (by decide) rfl rfl rfl rfl ?_
    refine c_isEntry (s := a_s A) hC.1.1.2.2.2 ?_
    show mM G mX10_would 5 [some (.ref 0), some (.int e), some (.int w)] [.int (bin e 0 (a_s A 43 - 1))] S1 d (0, 0) Q
    rw [show (bin e 0 (a_s A 43 - 1)) = 0 from hb]
    refine m_if_eq (tgt := 17) (pc' := 8) dX10_would_5 (by decide) rfl (fun h5 => ?_) (fun h5 => absurd h5 (by decide))
    refine m_ldc (pc' := 19) dX10_would_17 kc_X10_would_59 rfl ?_
    refine m_iret dX10_would_19 rfl rfl ⟨by decide, by decide⟩ ?_
    exact hQ _ fr.rfl hC
  rw [show vWould A e w = eI from if_pos (Or.inr h2)] at hQ
  refine mC_of (by decide +kernel) ⟨_, rfl⟩ (Nat.le_of_ble_eq_true rfl) ?_
  show mM G mX10_would 0 [some (.ref 0), some (.int e), some (.int w)] [] S1 d (0, 0) Q
  refine m_aload_n (pc' := 1) dX10_would_0 rfl rfl ?_
  refine m_iload_n (pc' := 2) dX10_would_1 rfl rfl ?_
  refine m_callV (pc' := 5) (A := [.int e]) (rest := []) (b := 0) cl_X10_would_111 dX10_would_2 rfl rfl (Nat.le_of_ble_eq_true rfl) ⟨by decide, by decide⟩ (by decide) rfl rfl rfl rfl ?_
  refine c_isEntry (s := a_s A) hC.1.1.2.2.2 ?_
  show mM G mX10_would 5 [some (.ref 0), some (.int e), some (.int w)] [.int (bin e 0 (a_s A 43 - 1))] S1 d (0, 0) Q
  rw [show (bin e 0 (a_s A 43 - 1)) = 1 from bin_1 hb]
  refine m_if_eq (tgt := 17) (pc' := 8) dX10_would_5 (by decide) rfl (fun h5 => absurd h5 (by decide)) (fun h5 => ?_)
  refine m_iload_n (pc' := 9) dX10_would_8 rfl rfl ?_
  refine m_iconst (pc' := 10) (v := 0) dX10_would_9 (by decide) rfl ?_
  refine m_iconst (pc' := 11) (v := 2) dX10_would_10 (by decide) rfl ?_
  refine m_callS (pc' := 14) (A := [.int w, .int 0, .int 2]) (rest := []) cl_X10_would_81 dX10_would_11 rfl rfl (Nat.le_of_ble_eq_true rfl) ⟨by decide, by decide⟩ rfl rfl ?_
  refine c_within ?_
  show mM G mX10_would 14 [some (.ref 0), some (.int e), some (.int w)] [.int (bin w 0 2)] S1 d (0, 0) Q
  rw [show (bin w 0 2) = 0 from h2]
  refine m_if_ne (tgt := 20) (pc' := 17) dX10_would_14 (by decide) rfl (fun h14 => absurd h14 (by decide)) (fun h14 => ?_)
  refine m_ldc (pc' := 19) dX10_would_17 kc_X10_would_59 rfl ?_
  refine m_iret dX10_would_19 rfl rfl ⟨by decide, by decide⟩ ?_
  exact hQ _ fr.rfl hC
theorem k_would {A : AS} {e w : Int32} (hC : CR d A) (hO : OK A) (hQ : ∀ d', cfr d d' → CR d' A → Q (some (.int (vWould A e w))) S1 d') : mC G mX10_would [.ref 0, .int e, .int w] S1 d Q := by
  by_cases h2 : bin w 0 2 = 0
  · exact k_wouldX hC h2 hQ
  obtain ⟨w, hw, rfl⟩ := bin_t (b := 2) (by decide) h2
  rcases (show w = 0 ∨ w = 1 ∨ w = 2 by omega) with rfl | rfl | rfl
  · exact k_would0 hC hO hQ
  · exact k_would1 hC hO hQ
  · exact k_would2 hC hO hQ
end CLS18
