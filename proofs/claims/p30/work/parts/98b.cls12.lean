/-! THE CLASS'S OWN CALLS (4) -/
section CLS12
variable {G : GP} {Q : Option Value → Sh → Dt → Prop} {d : Dt}
theorem bin_56 {w : Int32} (h : ¬ w = 6) : bin w 0 6 = bin w 0 5 := by
  have z5 : (5 : Int32).toInt = 5 := by decide
  have z6 : (6 : Int32).toInt = 6 := by decide
  have e : (0 ≤ w ∧ w ≤ 6) ↔ (0 ≤ w ∧ w ≤ 5) := by
    constructor
    · rintro ⟨a, b⟩
      refine ⟨a, Int32.le_iff_toInt_le.mpr ?_⟩
      have b' := Int32.le_iff_toInt_le.mp b
      have : w.toInt ≠ 6 := fun q => h (Int32.toInt_inj.mp (by rw [q, z6]))
      omega
    · rintro ⟨a, b⟩
      refine ⟨a, Int32.le_iff_toInt_le.mpr ?_⟩
      have b' := Int32.le_iff_toInt_le.mp b
      omega
  unfold bin
  by_cases c : 0 ≤ w ∧ w ≤ 5
  · rw [if_pos (e.mpr c), if_pos c]
  · rw [if_neg (fun q => c (e.mp q)), if_neg c]
theorem bin_en {x n : Nat} (h : x < n) (hn : n ≤ 16) : bin (nI x) 0 (nI n - 1) = 1 := by
  rw [show nI n - 1 = nI (n - 1) from pk_dif (b := 1) (by omega)]; exact bin_nI (by omega) (by omega)
theorem bin_e0 {x n : Nat} (h : ¬ x < n) (hn : n ≤ 16) (hx : x < 2 ^ 31) : bin (nI x) 0 (nI n - 1) = 0 := by
  refine Classical.byContradiction (fun q => ?_)
  obtain ⟨j, j1, j2⟩ := bin_e (by omega) q
  exact h (by have := (nI_eq hx (by omega)).mp j2; omega)
set_option maxHeartbeats 4000000 in
set_option maxRecDepth 100000 in
theorem k_account {A : AS} {w : Int32} (hC : CR d A) (hO : OK A) (hQ : ∀ d', cfr d d' → CR d' A → Q (some (.int (vAccount A w))) S1 d') : mC G mX10_account [.ref 0, .int (w)] S1 d Q := by
  by_cases h6 : w = 6
  · skip
    subst h6
    rw [show vAccount A 6 = a_s A 76 from by unfold vAccount; rw [if_neg (by decide), if_neg (by decide)]; exact hO.1.2.2.2.2.2.symm] at hQ
    refine mC_of (by decide +kernel) ⟨_, rfl⟩ (Nat.le_of_ble_eq_true rfl) ?_
    show mM G mX10_account 0 [some (.ref 0), some (.int 6)] [] S1 d (0, 0) Q
    refine m_iload_n (pc' := 1) dX10_account_0 rfl rfl ?_
    refine m_bipush (pc' := 3) (v := 6) dX10_account_1 (by decide) rfl ?_
    refine m_icmp_ne (tgt := 14) (pc' := 6) dX10_account_3 (by decide) rfl (fun h3 => absurd h3 (by decide)) (fun h3 => ?_)
    refine m_aload_n (pc' := 7) dX10_account_6 rfl rfl ?_
    refine m_getR (pc' := 10) fa_X10_account_10 dX10_account_7 (by decide) rfl rfl rfl rfl ?_
    refine m_callV (pc' := 13) (A := []) (rest := []) (b := 1) cl_X10_account_121 dX10_account_10 rfl rfl (Nat.le_of_ble_eq_true rfl) ⟨by decide, by decide⟩ (by decide) rfl rfl rfl rfl ?_
    refine c_time hC.1 hO.1.2.2.2.2.2 ?_
    show mM G mX10_account 13 [some (.ref 0), some (.int 6)] [.int (a_s A 76)] S1 d (0, 0) Q
    refine m_iret dX10_account_13 rfl rfl ⟨by decide, by decide⟩ ?_
    exact hQ _ fr.rfl hC
  by_cases h1 : bin w 0 5 = 0
  · skip
    rw [show vAccount A w = eI from if_pos ((bin_56 h6).trans h1)] at hQ
    refine mC_of (by decide +kernel) ⟨_, rfl⟩ (Nat.le_of_ble_eq_true rfl) ?_
    show mM G mX10_account 0 [some (.ref 0), some (.int w)] [] S1 d (0, 0) Q
    refine m_iload_n (pc' := 1) dX10_account_0 rfl rfl ?_
    refine m_bipush (pc' := 3) (v := 6) dX10_account_1 (by decide) rfl ?_
    refine m_icmp_ne (tgt := 14) (pc' := 6) dX10_account_3 (by decide) rfl (fun h3 => ?_) (fun h3 => absurd h3 (h6))
    refine m_iload_n (pc' := 15) dX10_account_14 rfl rfl ?_
    refine m_iconst (pc' := 16) (v := 0) dX10_account_15 (by decide) rfl ?_
    refine m_iconst (pc' := 17) (v := 5) dX10_account_16 (by decide) rfl ?_
    refine m_callS (pc' := 20) (A := [.int w, .int 0, .int 5]) (rest := []) cl_X10_account_81 dX10_account_17 rfl rfl (Nat.le_of_ble_eq_true rfl) ⟨by decide, by decide⟩ rfl rfl ?_
    refine c_within ?_
    show mM G mX10_account 20 [some (.ref 0), some (.int w)] [.int (bin w 0 5)] S1 d (0, 0) Q
    rw [show (bin w 0 5) = 0 from h1]
    refine m_if_eq (tgt := 38) (pc' := 23) dX10_account_20 (by decide) rfl (fun h20 => ?_) (fun h20 => absurd h20 (by decide))
    refine m_ldc (pc' := 40) dX10_account_38 kc_X10_account_59 rfl ?_
    refine m_iret dX10_account_40 rfl rfl ⟨by decide, by decide⟩ ?_
    exact hQ _ fr.rfl hC
  obtain ⟨w, hw, rfl⟩ := bin_t (b := 5) (by decide) h1
  rw [show vAccount A (nI w) = a_s A (88 + w) from by unfold vAccount; rw [if_neg (by rw [bin_56 h6]; exact h1), if_pos (show nI w < 6 from nI_lt (b := 6) (by omega) (by decide)), nn_nI (by omega)]] at hQ
  refine mC_of (by decide +kernel) ⟨_, rfl⟩ (Nat.le_of_ble_eq_true rfl) ?_
  show mM G mX10_account 0 [some (.ref 0), some (.int (nI w))] [] S1 d (0, 0) Q
  refine m_iload_n (pc' := 1) dX10_account_0 rfl rfl ?_
  refine m_bipush (pc' := 3) (v := 6) dX10_account_1 (by decide) rfl ?_
  refine m_icmp_ne (tgt := 14) (pc' := 6) dX10_account_3 (by decide) rfl (fun h3 => ?_) (fun h3 => absurd h3 (h6))
  refine m_iload_n (pc' := 15) dX10_account_14 rfl rfl ?_
  refine m_iconst (pc' := 16) (v := 0) dX10_account_15 (by decide) rfl ?_
  refine m_iconst (pc' := 17) (v := 5) dX10_account_16 (by decide) rfl ?_
  refine m_callS (pc' := 20) (A := [.int (nI w), .int 0, .int 5]) (rest := []) cl_X10_account_81 dX10_account_17 rfl rfl (Nat.le_of_ble_eq_true rfl) ⟨by decide, by decide⟩ rfl rfl ?_
  refine c_within ?_
  show mM G mX10_account 20 [some (.ref 0), some (.int (nI w))] [.int (bin (nI w) 0 5)] S1 d (0, 0) Q
  rw [show (bin (nI w) 0 5) = 1 from bin_1 h1]
  refine m_if_eq (tgt := 38) (pc' := 23) dX10_account_20 (by decide) rfl (fun h20 => absurd h20 (by decide)) (fun h20 => ?_)
  refine m_aload_n (pc' := 24) dX10_account_23 rfl rfl ?_
  refine m_getR (pc' := 27) fa_X10_account_10 dX10_account_24 (by decide) rfl rfl rfl rfl ?_
  refine m_getR (pc' := 30) fa_X10_account_133 dX10_account_27 (by decide) rfl rfl rfl rfl ?_
  refine m_iload_n (pc' := 31) dX10_account_30 rfl rfl ?_
  refine m_iconst (pc' := 32) (v := 0) dX10_account_31 (by decide) rfl ?_
  refine m_callV (pc' := 35) (A := [.int (nI w), .int 0]) (rest := []) (b := 14) cl_X10_account_71 dX10_account_32 rfl rfl (Nat.le_of_ble_eq_true rfl) ⟨by decide, by decide⟩ (by decide) rfl rfl rfl rfl ?_
  refine c_atN (t := 14) (W := 1) (L := 6) (a := w) (b := 0) (k := w) (isT_lit (by decide +kernel)) (by decide) (by omega) (by omega) ?_
  show mM G mX10_account 35 [some (.ref 0), some (.int (nI w))] [.int (d.1 15 w)] S1 d (0, 0) Q
  rw [show (d.1 15 w) = (a_s A (88 + w)) from hC.1.2.2.2.1 w (by omega)]
  refine m_goto (tgt := 40) dX10_account_35 (by decide) ?_
  refine m_iret dX10_account_40 rfl rfl ⟨by decide, by decide⟩ ?_
  exact hQ _ fr.rfl hC
set_option maxHeartbeats 4000000 in
set_option maxRecDepth 100000 in
theorem k_entry {A : AS} {e w : Int32} (hC : CR d A) (hO : OK A) (hQ : ∀ d', cfr d d' → CR d' A → Q (some (.int (vEntry A e w))) S1 d') : mC G mX10_entry [.ref 0, .int e, .int w] S1 d Q := by
  by_cases hg : e < 0
  · skip
    rw [show vEntry A e w = eI from if_pos (Or.inl hg)] at hQ
    refine mC_of (by decide +kernel) ⟨_, rfl⟩ (Nat.le_of_ble_eq_true rfl) ?_
    show mM G mX10_entry 0 [some (.ref 0), some (.int e), some (.int w)] [] S1 d (0, 0) Q
    refine m_iload_n (pc' := 1) dX10_entry_0 rfl rfl ?_
    refine m_if_lt (tgt := 13) (pc' := 4) dX10_entry_1 (by decide) rfl (fun h1 => ?_) (fun h1 => (h1 hg).elim)
    refine m_ldc (pc' := 15) dX10_entry_13 kc_X10_entry_59 rfl ?_
    refine m_iret dX10_entry_15 rfl rfl ⟨by decide, by decide⟩ ?_
    exact hQ _ fr.rfl hC
  by_cases h2 : bin w 0 1 = 0
  · skip
    rw [show vEntry A e w = eI from if_pos (Or.inr h2)] at hQ
    refine mC_of (by decide +kernel) ⟨_, rfl⟩ (Nat.le_of_ble_eq_true rfl) ?_
    show mM G mX10_entry 0 [some (.ref 0), some (.int e), some (.int w)] [] S1 d (0, 0) Q
    refine m_iload_n (pc' := 1) dX10_entry_0 rfl rfl ?_
    refine m_if_lt (tgt := 13) (pc' := 4) dX10_entry_1 (by decide) rfl (fun h1 => absurd h1 (hg)) (fun h1 => ?_)
    refine m_iload_n (pc' := 5) dX10_entry_4 rfl rfl ?_
    refine m_iconst (pc' := 6) (v := 0) dX10_entry_5 (by decide) rfl ?_
    refine m_iconst (pc' := 7) (v := 1) dX10_entry_6 (by decide) rfl ?_
    refine m_callS (pc' := 10) (A := [.int w, .int 0, .int 1]) (rest := []) cl_X10_entry_81 dX10_entry_7 rfl rfl (Nat.le_of_ble_eq_true rfl) ⟨by decide, by decide⟩ rfl rfl ?_
    refine c_within ?_
    show mM G mX10_entry 10 [some (.ref 0), some (.int e), some (.int w)] [.int (bin w 0 1)] S1 d (0, 0) Q
    rw [show (bin w 0 1) = 0 from h2]
    refine m_if_ne (tgt := 16) (pc' := 13) dX10_entry_10 (by decide) rfl (fun h10 => absurd h10 (by decide)) (fun h10 => ?_)
    refine m_ldc (pc' := 15) dX10_entry_13 kc_X10_entry_59 rfl ?_
    refine m_iret dX10_entry_15 rfl rfl ⟨by decide, by decide⟩ ?_
    exact hQ _ fr.rfl hC
  obtain ⟨n, hl⟩ := hO.l
  have e43 := hl.2.1
  have hn16 := hl.1
  obtain ⟨x, hx31, rfl⟩ := nI_of hg
  obtain ⟨w, hw, rfl⟩ := bin_t (b := 1) (by decide) h2
  have hv : vEntry A (nI x) (nI w) = if nI x < a_s A 43 then a_s A (44 + 2 * x + w) else eN := by unfold vEntry; rw [if_neg (not_or.mpr ⟨hg, h2⟩), nn_nI hx31, nn_nI (by omega)]
  by_cases hx : x < n
  · skip
    rw [show vEntry A (nI x) (nI w) = a_s A (44 + 2 * x + w) from hv.trans (if_pos (by rw [e43]; exact nI_lt hx (by omega)))] at hQ
    refine mC_of (by decide +kernel) ⟨_, rfl⟩ (Nat.le_of_ble_eq_true rfl) ?_
    show mM G mX10_entry 0 [some (.ref 0), some (.int (nI x)), some (.int (nI w))] [] S1 d (0, 0) Q
    refine m_iload_n (pc' := 1) dX10_entry_0 rfl rfl ?_
    refine m_if_lt (tgt := 13) (pc' := 4) dX10_entry_1 (by decide) rfl (fun h1 => absurd h1 (hg)) (fun h1 => ?_)
    refine m_iload_n (pc' := 5) dX10_entry_4 rfl rfl ?_
    refine m_iconst (pc' := 6) (v := 0) dX10_entry_5 (by decide) rfl ?_
    refine m_iconst (pc' := 7) (v := 1) dX10_entry_6 (by decide) rfl ?_
    refine m_callS (pc' := 10) (A := [.int (nI w), .int 0, .int 1]) (rest := []) cl_X10_entry_81 dX10_entry_7 rfl rfl (Nat.le_of_ble_eq_true rfl) ⟨by decide, by decide⟩ rfl rfl ?_
    refine c_within ?_
    show mM G mX10_entry 10 [some (.ref 0), some (.int (nI x)), some (.int (nI w))] [.int (bin (nI w) 0 1)] S1 d (0, 0) Q
    rw [show (bin (nI w) 0 1) = 1 from bin_1 h2]
    refine m_if_ne (tgt := 16) (pc' := 13) dX10_entry_10 (by decide) rfl (fun h10 => ?_) (fun h10 => absurd h10 (by decide))
    refine m_aload_n (pc' := 17) dX10_entry_16 rfl rfl ?_
    refine m_iload_n (pc' := 18) dX10_entry_17 rfl rfl ?_
    refine m_callV (pc' := 21) (A := [.int (nI x)]) (rest := []) (b := 0) cl_X10_entry_111 dX10_entry_18 rfl rfl (Nat.le_of_ble_eq_true rfl) ⟨by decide, by decide⟩ (by decide) rfl rfl rfl rfl ?_
    refine c_isEntry (s := a_s A) hC.1.1.2.2.2 ?_
    show mM G mX10_entry 21 [some (.ref 0), some (.int (nI x)), some (.int (nI w))] [.int (bin (nI x) 0 (a_s A 43 - 1))] S1 d (0, 0) Q
    rw [show (bin (nI x) 0 (a_s A 43 - 1)) = 1 from (by rw [e43]; exact bin_en hx hn16)]
    refine m_if_eq (tgt := 42) (pc' := 24) dX10_entry_21 (by decide) rfl (fun h21 => absurd h21 (by decide)) (fun h21 => ?_)
    refine m_aload_n (pc' := 25) dX10_entry_24 rfl rfl ?_
    refine m_getR (pc' := 28) fa_X10_entry_10 dX10_entry_25 (by decide) rfl rfl rfl rfl ?_
    refine m_getR (pc' := 31) fa_X10_entry_64 dX10_entry_28 (by decide) rfl rfl rfl rfl ?_
    refine m_getR (pc' := 34) fa_X10_entry_118 dX10_entry_31 (by decide) rfl rfl rfl rfl ?_
    refine m_iload_n (pc' := 35) dX10_entry_34 rfl rfl ?_
    refine m_iload_n (pc' := 36) dX10_entry_35 rfl rfl ?_
    refine m_callV (pc' := 39) (A := [.int (nI x), .int (nI w)]) (rest := []) (b := 5) cl_X10_entry_71 dX10_entry_36 rfl rfl (Nat.le_of_ble_eq_true rfl) ⟨by decide, by decide⟩ (by decide) rfl rfl rfl rfl ?_
    refine c_atN (t := 5) (W := 2) (L := 32) (a := x) (b := w) (k := 2 * x + w) (isT_lit (by decide +kernel)) (by decide) (by omega) (by omega) ?_
    show mM G mX10_entry 39 [some (.ref 0), some (.int (nI x)), some (.int (nI w))] [.int (d.1 6 (2 * x + w))] S1 d (0, 0) Q
    rw [show (d.1 6 (2 * x + w)) = (a_s A (44 + 2 * x + w)) from (hC.1.1.2.1 (2 * x + w) (by omega)).trans (congrArg (a_s A) (by omega))]
    refine m_goto (tgt := 44) dX10_entry_39 (by decide) ?_
    refine m_iret dX10_entry_44 rfl rfl ⟨by decide, by decide⟩ ?_
    exact hQ _ fr.rfl hC
  rw [show vEntry A (nI x) (nI w) = eN from hv.trans (if_neg (by rw [e43]; exact fun q => hx ((nI_ltI hx31 (by omega)).mp q)))] at hQ
  refine mC_of (by decide +kernel) ⟨_, rfl⟩ (Nat.le_of_ble_eq_true rfl) ?_
  show mM G mX10_entry 0 [some (.ref 0), some (.int (nI x)), some (.int (nI w))] [] S1 d (0, 0) Q
  refine m_iload_n (pc' := 1) dX10_entry_0 rfl rfl ?_
  refine m_if_lt (tgt := 13) (pc' := 4) dX10_entry_1 (by decide) rfl (fun h1 => absurd h1 (hg)) (fun h1 => ?_)
  refine m_iload_n (pc' := 5) dX10_entry_4 rfl rfl ?_
  refine m_iconst (pc' := 6) (v := 0) dX10_entry_5 (by decide) rfl ?_
  refine m_iconst (pc' := 7) (v := 1) dX10_entry_6 (by decide) rfl ?_
  refine m_callS (pc' := 10) (A := [.int (nI w), .int 0, .int 1]) (rest := []) cl_X10_entry_81 dX10_entry_7 rfl rfl (Nat.le_of_ble_eq_true rfl) ⟨by decide, by decide⟩ rfl rfl ?_
  refine c_within ?_
  show mM G mX10_entry 10 [some (.ref 0), some (.int (nI x)), some (.int (nI w))] [.int (bin (nI w) 0 1)] S1 d (0, 0) Q
  rw [show (bin (nI w) 0 1) = 1 from bin_1 h2]
  refine m_if_ne (tgt := 16) (pc' := 13) dX10_entry_10 (by decide) rfl (fun h10 => ?_) (fun h10 => absurd h10 (by decide))
  refine m_aload_n (pc' := 17) dX10_entry_16 rfl rfl ?_
  refine m_iload_n (pc' := 18) dX10_entry_17 rfl rfl ?_
  refine m_callV (pc' := 21) (A := [.int (nI x)]) (rest := []) (b := 0) cl_X10_entry_111 dX10_entry_18 rfl rfl (Nat.le_of_ble_eq_true rfl) ⟨by decide, by decide⟩ (by decide) rfl rfl rfl rfl ?_
  refine c_isEntry (s := a_s A) hC.1.1.2.2.2 ?_
  show mM G mX10_entry 21 [some (.ref 0), some (.int (nI x)), some (.int (nI w))] [.int (bin (nI x) 0 (a_s A 43 - 1))] S1 d (0, 0) Q
  rw [show (bin (nI x) 0 (a_s A 43 - 1)) = 0 from (by rw [e43]; exact bin_e0 hx hn16 hx31)]
  refine m_if_eq (tgt := 42) (pc' := 24) dX10_entry_21 (by decide) rfl (fun h21 => ?_) (fun h21 => absurd h21 (by decide))
  refine m_ldc (pc' := 44) dX10_entry_42 kc_X10_entry_222 rfl ?_
  refine m_iret dX10_entry_44 rfl rfl ⟨by decide, by decide⟩ ?_
  exact hQ _ fr.rfl hC
set_option maxHeartbeats 4000000 in
set_option maxRecDepth 100000 in
theorem k_sample {A : AS} {b w : Int32} (hC : CR d A) (hO : OK A) (hQ : ∀ d', cfr d d' → CR d' A → Q (some (.int (vSample A b w))) S1 d') : mC G mX10_sample [.ref 0, .int b, .int w] S1 d Q := by
  by_cases hg : b < 0
  · skip
    rw [show vSample A b w = eI from if_pos (Or.inl hg)] at hQ
    refine mC_of (by decide +kernel) ⟨_, rfl⟩ (Nat.le_of_ble_eq_true rfl) ?_
    show mM G mX10_sample 0 [some (.ref 0), some (.int b), some (.int w)] [] S1 d (0, 0) Q
    refine m_iload_n (pc' := 1) dX10_sample_0 rfl rfl ?_
    refine m_if_lt (tgt := 13) (pc' := 4) dX10_sample_1 (by decide) rfl (fun h1 => ?_) (fun h1 => (h1 hg).elim)
    refine m_ldc (pc' := 15) dX10_sample_13 kc_X10_sample_59 rfl ?_
    refine m_iret dX10_sample_15 rfl rfl ⟨by decide, by decide⟩ ?_
    exact hQ _ fr.rfl hC
  by_cases h2 : bin w 0 4 = 0
  · skip
    rw [show vSample A b w = eI from if_pos (Or.inr h2)] at hQ
    refine mC_of (by decide +kernel) ⟨_, rfl⟩ (Nat.le_of_ble_eq_true rfl) ?_
    show mM G mX10_sample 0 [some (.ref 0), some (.int b), some (.int w)] [] S1 d (0, 0) Q
    refine m_iload_n (pc' := 1) dX10_sample_0 rfl rfl ?_
    refine m_if_lt (tgt := 13) (pc' := 4) dX10_sample_1 (by decide) rfl (fun h1 => absurd h1 (hg)) (fun h1 => ?_)
    refine m_iload_n (pc' := 5) dX10_sample_4 rfl rfl ?_
    refine m_iconst (pc' := 6) (v := 0) dX10_sample_5 (by decide) rfl ?_
    refine m_iconst (pc' := 7) (v := 4) dX10_sample_6 (by decide) rfl ?_
    refine m_callS (pc' := 10) (A := [.int w, .int 0, .int 4]) (rest := []) cl_X10_sample_81 dX10_sample_7 rfl rfl (Nat.le_of_ble_eq_true rfl) ⟨by decide, by decide⟩ rfl rfl ?_
    refine c_within ?_
    show mM G mX10_sample 10 [some (.ref 0), some (.int b), some (.int w)] [.int (bin w 0 4)] S1 d (0, 0) Q
    rw [show (bin w 0 4) = 0 from h2]
    refine m_if_ne (tgt := 16) (pc' := 13) dX10_sample_10 (by decide) rfl (fun h10 => absurd h10 (by decide)) (fun h10 => ?_)
    refine m_ldc (pc' := 15) dX10_sample_13 kc_X10_sample_59 rfl ?_
    refine m_iret dX10_sample_15 rfl rfl ⟨by decide, by decide⟩ ?_
    exact hQ _ fr.rfl hC
  obtain ⟨nx, c, l1, l2, l3, l4, l5, l6⟩ := hC.1.2.1
  obtain ⟨x, hx31, rfl⟩ := nI_of hg
  obtain ⟨w, hw, rfl⟩ := bin_t (b := 4) (by decide) h2
  have hv : vSample A (nI x) (nI w) = if nI x < a_s A 77 then a_s A (94 + 5 * (c - 1 - x) + w) else eN := by unfold vSample; rw [if_neg (not_or.mpr ⟨hg, h2⟩), l5, nn_nI hx31, nn_nI (by omega), nn_nI (by omega)]
  by_cases hx : x < c
  · skip
    rw [show vSample A (nI x) (nI w) = a_s A (94 + 5 * (c - 1 - x) + w) from hv.trans (if_pos (by rw [l5]; exact nI_lt hx (by omega)))] at hQ
    refine mC_of (by decide +kernel) ⟨_, rfl⟩ (Nat.le_of_ble_eq_true rfl) ?_
    show mM G mX10_sample 0 [some (.ref 0), some (.int (nI x)), some (.int (nI w))] [] S1 d (0, 0) Q
    refine m_iload_n (pc' := 1) dX10_sample_0 rfl rfl ?_
    refine m_if_lt (tgt := 13) (pc' := 4) dX10_sample_1 (by decide) rfl (fun h1 => absurd h1 (hg)) (fun h1 => ?_)
    refine m_iload_n (pc' := 5) dX10_sample_4 rfl rfl ?_
    refine m_iconst (pc' := 6) (v := 0) dX10_sample_5 (by decide) rfl ?_
    refine m_iconst (pc' := 7) (v := 4) dX10_sample_6 (by decide) rfl ?_
    refine m_callS (pc' := 10) (A := [.int (nI w), .int 0, .int 4]) (rest := []) cl_X10_sample_81 dX10_sample_7 rfl rfl (Nat.le_of_ble_eq_true rfl) ⟨by decide, by decide⟩ rfl rfl ?_
    refine c_within ?_
    show mM G mX10_sample 10 [some (.ref 0), some (.int (nI x)), some (.int (nI w))] [.int (bin (nI w) 0 4)] S1 d (0, 0) Q
    rw [show (bin (nI w) 0 4) = 1 from bin_1 h2]
    refine m_if_ne (tgt := 16) (pc' := 13) dX10_sample_10 (by decide) rfl (fun h10 => ?_) (fun h10 => absurd h10 (by decide))
    refine m_iload_n (pc' := 17) dX10_sample_16 rfl rfl ?_
    refine m_aload_n (pc' := 18) dX10_sample_17 rfl rfl ?_
    refine m_getR (pc' := 21) fa_X10_sample_10 dX10_sample_18 (by decide) rfl rfl rfl rfl ?_
    refine m_getR (pc' := 24) fa_X10_sample_200 dX10_sample_21 (by decide) rfl rfl rfl rfl ?_
    refine m_getI (pc' := 27) fa_X10_sample_204 dX10_sample_24 (by decide) rfl rfl rfl ?_
    rw [show (d.1 9 2) = (nI c) from l4]
    refine m_icmp_ge (tgt := 45) (pc' := 30) dX10_sample_27 (by decide) rfl (fun h27 => absurd h27 (nI_ge hx (by omega))) (fun h27 => ?_)
    refine m_aload_n (pc' := 31) dX10_sample_30 rfl rfl ?_
    refine m_getR (pc' := 34) fa_X10_sample_10 dX10_sample_31 (by decide) rfl rfl rfl rfl ?_
    refine m_getR (pc' := 37) fa_X10_sample_200 dX10_sample_34 (by decide) rfl rfl rfl rfl ?_
    refine m_iload_n (pc' := 38) dX10_sample_37 rfl rfl ?_
    refine m_iload_n (pc' := 39) dX10_sample_38 rfl rfl ?_
    refine m_callV (pc' := 42) (A := [.int (nI x), .int (nI w)]) (rest := []) (b := 9) cl_X10_sample_226 dX10_sample_39 rfl rfl (Nat.le_of_ble_eq_true rfl) ⟨by decide, by decide⟩ (by decide) rfl rfl rfl rfl ?_
    refine c_part (x := x) (w := w) (nx := nx) l3 l1 (by omega) (by omega) ?_
    show mM G mX10_sample 42 [some (.ref 0), some (.int (nI x)), some (.int (nI w))] [.int (d.1 11 (5 * ((nx + 31 - x) % 32) + w))] S1 d (0, 0) Q
    rw [show (d.1 11 (5 * ((nx + 31 - x) % 32) + w)) = (a_s A (94 + 5 * (c - 1 - x) + w)) from (by have q := l6 (c - 1 - x) w (by omega) (by omega); rw [show (nx + 32 - c + (c - 1 - x)) % 32 = (nx + 31 - x) % 32 by omega] at q; exact q)]
    refine m_goto (tgt := 47) dX10_sample_42 (by decide) ?_
    refine m_iret dX10_sample_47 rfl rfl ⟨by decide, by decide⟩ ?_
    exact hQ _ fr.rfl hC
  rw [show vSample A (nI x) (nI w) = eN from hv.trans (if_neg (by rw [l5]; exact fun q => hx ((nI_ltI hx31 (by omega)).mp q)))] at hQ
  refine mC_of (by decide +kernel) ⟨_, rfl⟩ (Nat.le_of_ble_eq_true rfl) ?_
  show mM G mX10_sample 0 [some (.ref 0), some (.int (nI x)), some (.int (nI w))] [] S1 d (0, 0) Q
  refine m_iload_n (pc' := 1) dX10_sample_0 rfl rfl ?_
  refine m_if_lt (tgt := 13) (pc' := 4) dX10_sample_1 (by decide) rfl (fun h1 => absurd h1 (hg)) (fun h1 => ?_)
  refine m_iload_n (pc' := 5) dX10_sample_4 rfl rfl ?_
  refine m_iconst (pc' := 6) (v := 0) dX10_sample_5 (by decide) rfl ?_
  refine m_iconst (pc' := 7) (v := 4) dX10_sample_6 (by decide) rfl ?_
  refine m_callS (pc' := 10) (A := [.int (nI w), .int 0, .int 4]) (rest := []) cl_X10_sample_81 dX10_sample_7 rfl rfl (Nat.le_of_ble_eq_true rfl) ⟨by decide, by decide⟩ rfl rfl ?_
  refine c_within ?_
  show mM G mX10_sample 10 [some (.ref 0), some (.int (nI x)), some (.int (nI w))] [.int (bin (nI w) 0 4)] S1 d (0, 0) Q
  rw [show (bin (nI w) 0 4) = 1 from bin_1 h2]
  refine m_if_ne (tgt := 16) (pc' := 13) dX10_sample_10 (by decide) rfl (fun h10 => ?_) (fun h10 => absurd h10 (by decide))
  refine m_iload_n (pc' := 17) dX10_sample_16 rfl rfl ?_
  refine m_aload_n (pc' := 18) dX10_sample_17 rfl rfl ?_
  refine m_getR (pc' := 21) fa_X10_sample_10 dX10_sample_18 (by decide) rfl rfl rfl rfl ?_
  refine m_getR (pc' := 24) fa_X10_sample_200 dX10_sample_21 (by decide) rfl rfl rfl rfl ?_
  refine m_getI (pc' := 27) fa_X10_sample_204 dX10_sample_24 (by decide) rfl rfl rfl ?_
  rw [show (d.1 9 2) = (nI c) from l4]
  refine m_icmp_ge (tgt := 45) (pc' := 30) dX10_sample_27 (by decide) rfl (fun h27 => ?_) (fun h27 => (h27 (Int32.not_lt.mp (fun q => hx ((nI_ltI hx31 (by omega)).mp q)))).elim)
  refine m_ldc (pc' := 47) dX10_sample_45 kc_X10_sample_222 rfl ?_
  refine m_iret dX10_sample_47 rfl rfl ⟨by decide, by decide⟩ ?_
  exact hQ _ fr.rfl hC
end CLS12
