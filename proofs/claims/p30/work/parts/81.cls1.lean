/-! THE CLASS'S OWN METHODS (1): setups -/
section CLS1
variable {G : GP} {Q : Option Value → Sh → Dt → Prop} {d : Dt} {a : Nat} {s : SS}
set_option maxHeartbeats 4000000 in
set_option maxRecDepth 100000 in
theorem c_setting {w : Nat} (hB : a ∈ suL) (hS : SR d a s) (hw : w < 3) (hQ : Q (some (.int (s (40 + w)))) S1 d) : mC G mX3_setting [.ref a, .int (nI w)] S1 d Q := by
  refine mC_of (by decide +kernel) ⟨_, rfl⟩ (Nat.le_of_ble_eq_true rfl) ?_
  show mM G mX3_setting 0 [some (.ref a), some (.int (nI w))] [] S1 d (0, 0) Q
  refine m_aload_n (pc' := 1) dX3_setting_0 rfl rfl ?_
  refine m_getR (pc' := 4) fa_X3_setting_23 dX3_setting_1 (su_lt0 hB) (su_k0 hB) rfl (su_r0_2 hB) rfl ?_
  refine m_iload_n (pc' := 5) dX3_setting_4 rfl rfl ?_
  refine m_iconst (pc' := 6) (v := 0) dX3_setting_5 (by decide) rfl ?_
  refine m_callV (pc' := 9) (A := [.int (nI w), .int 0]) (rest := []) (b := a + 5) cl_X3_setting_38 dX3_setting_6 rfl rfl (Nat.le_of_ble_eq_true rfl) ⟨by decide, by decide⟩ (su_lt5 hB) (su_k5 hB) rfl rfl rfl ?_
  refine c_atN (a := w) (b := 0) (k := w) (su_T5 hB) (by decide) (by omega) (by omega) ?_
  show mM G mX3_setting 9 [some (.ref a), some (.int (nI w))] [.int (d.1 (a + 5 + 1) w)] S1 d (0, 0) Q
  rw [show (d.1 (a + 5 + 1) w) = (s (40 + w)) from hS.2.2.1 w hw]
  refine m_iret dX3_setting_9 rfl rfl ⟨by decide, by decide⟩ ?_
  exact hQ
set_option maxHeartbeats 4000000 in
set_option maxRecDepth 100000 in
theorem c_putSource {c : Nat} {k l x p : Int32} (hB : a ∈ suL) (hS : SR d a s) (hc : c < 8) (hQ : ∀ d', fr (suE a) nE d d' → SR d' a (pso s c k l x p) → Q none S1 d') : mC G mX3_putSource [.ref a, .int (nI c), .int k, .int l, .int x, .int p] S1 d Q := by
  refine mC_of (by decide +kernel) ⟨_, rfl⟩ (Nat.le_of_ble_eq_true rfl) ?_
  show mM G mX3_putSource 0 [some (.ref a), some (.int (nI c)), some (.int k), some (.int l), some (.int x), some (.int p)] [] S1 d (0, 0) Q
  refine m_aload_n (pc' := 1) dX3_putSource_0 rfl rfl ?_
  refine m_getR (pc' := 4) fa_X3_putSource_14 dX3_putSource_1 (su_lt0 hB) (su_k0 hB) rfl (su_r0_0 hB) rfl ?_
  refine m_iload_n (pc' := 5) dX3_putSource_4 rfl rfl ?_
  refine m_iconst (pc' := 6) (v := 0) dX3_putSource_5 (by decide) rfl ?_
  refine m_iload_n (pc' := 7) dX3_putSource_6 rfl rfl ?_
  refine m_callV (pc' := 10) (A := [.int (nI c), .int 0, .int k]) (rest := []) (b := a + 1) cl_X3_putSource_26 dX3_putSource_7 rfl rfl (Nat.le_of_ble_eq_true rfl) ⟨by decide, by decide⟩ (su_lt1 hB) (su_k1 hB) rfl rfl rfl ?_
  refine c_putN (a := c) (b := 0) (k := 5 * c) (su_T1 hB) (by decide) (by omega) (by omega) ?_
  show mM G mX3_putSource 10 [some (.ref a), some (.int (nI c)), some (.int k), some (.int l), some (.int x), some (.int p)] [] S1 (u2 d.1 (a + 1 + 1) (5 * c) k, d.2) (0, 0) Q
  refine m_aload_n (pc' := 11) dX3_putSource_10 rfl rfl ?_
  refine m_getR (pc' := 14) fa_X3_putSource_14 dX3_putSource_11 (su_lt0 hB) (su_k0 hB) rfl (su_r0_0 hB) rfl ?_
  refine m_iload_n (pc' := 15) dX3_putSource_14 rfl rfl ?_
  refine m_iconst (pc' := 16) (v := 1) dX3_putSource_15 (by decide) rfl ?_
  refine m_iload_n (pc' := 17) dX3_putSource_16 rfl rfl ?_
  refine m_callV (pc' := 20) (A := [.int (nI c), .int 1, .int l]) (rest := []) (b := a + 1) cl_X3_putSource_26 dX3_putSource_17 rfl rfl (Nat.le_of_ble_eq_true rfl) ⟨by decide, by decide⟩ (su_lt1 hB) (su_k1 hB) rfl rfl rfl ?_
  refine c_putN (a := c) (b := 1) (k := 5 * c + 1) (su_T1 hB) (by decide) (by omega) (by omega) ?_
  show mM G mX3_putSource 20 [some (.ref a), some (.int (nI c)), some (.int k), some (.int l), some (.int x), some (.int p)] [] S1 (u2 (u2 d.1 (a + 1 + 1) (5 * c) k) (a + 1 + 1) (5 * c + 1) l, d.2) (0, 0) Q
  refine m_aload_n (pc' := 21) dX3_putSource_20 rfl rfl ?_
  refine m_getR (pc' := 24) fa_X3_putSource_14 dX3_putSource_21 (su_lt0 hB) (su_k0 hB) rfl (su_r0_0 hB) rfl ?_
  refine m_iload_n (pc' := 25) dX3_putSource_24 rfl rfl ?_
  refine m_iconst (pc' := 26) (v := 2) dX3_putSource_25 (by decide) rfl ?_
  refine m_iload (pc' := 28) dX3_putSource_26 rfl rfl ?_
  refine m_callV (pc' := 31) (A := [.int (nI c), .int 2, .int x]) (rest := []) (b := a + 1) cl_X3_putSource_26 dX3_putSource_28 rfl rfl (Nat.le_of_ble_eq_true rfl) ⟨by decide, by decide⟩ (su_lt1 hB) (su_k1 hB) rfl rfl rfl ?_
  refine c_putN (a := c) (b := 2) (k := 5 * c + 2) (su_T1 hB) (by decide) (by omega) (by omega) ?_
  show mM G mX3_putSource 31 [some (.ref a), some (.int (nI c)), some (.int k), some (.int l), some (.int x), some (.int p)] [] S1 (u2 (u2 (u2 d.1 (a + 1 + 1) (5 * c) k) (a + 1 + 1) (5 * c + 1) l) (a + 1 + 1) (5 * c + 2) x, d.2) (0, 0) Q
  refine m_aload_n (pc' := 32) dX3_putSource_31 rfl rfl ?_
  refine m_getR (pc' := 35) fa_X3_putSource_14 dX3_putSource_32 (su_lt0 hB) (su_k0 hB) rfl (su_r0_0 hB) rfl ?_
  refine m_iload_n (pc' := 36) dX3_putSource_35 rfl rfl ?_
  refine m_iconst (pc' := 37) (v := 3) dX3_putSource_36 (by decide) rfl ?_
  refine m_iload (pc' := 39) dX3_putSource_37 rfl rfl ?_
  refine m_callV (pc' := 42) (A := [.int (nI c), .int 3, .int p]) (rest := []) (b := a + 1) cl_X3_putSource_26 dX3_putSource_39 rfl rfl (Nat.le_of_ble_eq_true rfl) ⟨by decide, by decide⟩ (su_lt1 hB) (su_k1 hB) rfl rfl rfl ?_
  refine c_putN (a := c) (b := 3) (k := 5 * c + 3) (su_T1 hB) (by decide) (by omega) (by omega) ?_
  show mM G mX3_putSource 42 [some (.ref a), some (.int (nI c)), some (.int k), some (.int l), some (.int x), some (.int p)] [] S1 (u2 (u2 (u2 (u2 d.1 (a + 1 + 1) (5 * c) k) (a + 1 + 1) (5 * c + 1) l) (a + 1 + 1) (5 * c + 2) x) (a + 1 + 1) (5 * c + 3) p, d.2) (0, 0) Q
  refine m_vret dX3_putSource_42 rfl ⟨by decide, by decide⟩ ?_
  refine hQ _ (((((fr.rfl (E := suE a) (EF := nE)).i _ (Or.inl rfl)).i _ (Or.inl rfl)).i _ (Or.inl rfl)).i _ (Or.inl rfl)) ?_
  exact (((hS.ch (by omega) rfl).ch (by omega) rfl).ch (by omega) rfl).ch (by omega) rfl
set_option maxHeartbeats 4000000 in
set_option maxRecDepth 100000 in
theorem c_sourcesOf {kd : Int32} (hB : a ∈ suL) (hS : SR d a s) (hQ : Q (some (.int (cks s kd 8))) S1 d) : mC G mX3_sourcesOf [.ref a, .int kd] S1 d Q := by
  have J : ∀ (n0 : Nat) (k : Nat) (_ : k + n0 = 8), mM G mX3_sourcesOf 4 [some (.ref a), some (.int kd), some (.int (cks s kd k)), some (.int (nI k))] [] S1 d (0, 0) Q := by
    intro n0
    induction n0 with
    | zero =>
      intro k hk
      refine m_iload_n (pc' := 5) dX3_sourcesOf_4 rfl rfl ?_
      refine m_bipush (pc' := 7) (v := 8) dX3_sourcesOf_5 (by decide) rfl ?_
      refine m_icmp_ge (tgt := 37) (pc' := 10) dX3_sourcesOf_7 (by decide) rfl (fun h7 => ?_) (fun h7 => (h7 (nI_le (a := 8) (by omega) (by omega))).elim)
      refine m_iload_n (pc' := 38) dX3_sourcesOf_37 rfl rfl ?_
      refine m_iret dX3_sourcesOf_38 rfl rfl ⟨by decide, by decide⟩ ?_
      obtain rfl : k = 8 := by omega
      exact hQ
    | succ n0 ih =>
      intro k hk
      refine m_iload_n (pc' := 5) dX3_sourcesOf_4 rfl rfl ?_
      refine m_bipush (pc' := 7) (v := 8) dX3_sourcesOf_5 (by decide) rfl ?_
      refine m_icmp_ge (tgt := 37) (pc' := 10) dX3_sourcesOf_7 (by decide) rfl (fun h7 => absurd h7 (nI_ge (b := 8) (by omega) (by omega))) (fun h7 => ?_)
      refine m_iload_n (pc' := 11) dX3_sourcesOf_10 rfl rfl ?_
      refine m_aload_n (pc' := 12) dX3_sourcesOf_11 rfl rfl ?_
      refine m_getR (pc' := 15) fa_X3_sourcesOf_14 dX3_sourcesOf_12 (su_lt0 hB) (su_k0 hB) rfl (su_r0_0 hB) rfl ?_
      refine m_iload_n (pc' := 16) dX3_sourcesOf_15 rfl rfl ?_
      refine m_iconst (pc' := 17) (v := 0) dX3_sourcesOf_16 (by decide) rfl ?_
      refine m_callV (pc' := 20) (A := [.int (nI k), .int 0]) (rest := [.int (cks s kd k)]) (b := a + 1) cl_X3_sourcesOf_38 dX3_sourcesOf_17 rfl rfl (Nat.le_of_ble_eq_true rfl) ⟨by decide, by decide⟩ (su_lt1 hB) (su_k1 hB) rfl rfl rfl ?_
      refine c_atN (a := k) (b := 0) (k := 5 * k) (su_T1 hB) (by decide) (by omega) (by omega) ?_
      show mM G mX3_sourcesOf 20 [some (.ref a), some (.int kd), some (.int (cks s kd k)), some (.int (nI k))] [.int (d.1 (a + 1 + 1) (5 * k)), .int (cks s kd k)] S1 d (0, 0) Q
      rw [show (d.1 (a + 1 + 1) (5 * k)) = (s (5 * k)) from hS.1 (5 * k) (by omega)]
      refine m_iload_n (pc' := 21) dX3_sourcesOf_20 rfl rfl ?_
      refine m_icmp_ne (tgt := 28) (pc' := 24) dX3_sourcesOf_21 (by decide) rfl (fun h21 => ?_) (fun h21 => ?_)
      · skip
        refine m_iconst (pc' := 29) (v := 0) dX3_sourcesOf_28 (by decide) rfl ?_
        refine m_iadd (pc' := 30) dX3_sourcesOf_29 rfl ?_
        refine m_istore_n (pc' := 31) dX3_sourcesOf_30 (by decide) rfl rfl ?_
        refine m_iinc (pc' := 34) dX3_sourcesOf_31 rfl (by decide) (v := nI (k + 1)) (nI_1 k) rfl rfl ?_
        refine m_goto (tgt := 4) dX3_sourcesOf_34 (by decide) ?_
        have e9 := ih (k + 1) (by omega)
        unfold cks at e9; rw [if_neg h21] at e9; exact e9
      · skip
        refine m_iconst (pc' := 25) (v := 1) dX3_sourcesOf_24 (by decide) rfl ?_
        refine m_goto (tgt := 29) dX3_sourcesOf_25 (by decide) ?_
        refine m_iadd (pc' := 30) dX3_sourcesOf_29 rfl ?_
        refine m_istore_n (pc' := 31) dX3_sourcesOf_30 (by decide) rfl rfl ?_
        refine m_iinc (pc' := 34) dX3_sourcesOf_31 rfl (by decide) (v := nI (k + 1)) (nI_1 k) rfl rfl ?_
        refine m_goto (tgt := 4) dX3_sourcesOf_34 (by decide) ?_
        have e9 := ih (k + 1) (by omega)
        unfold cks at e9; rw [if_pos h21] at e9; exact e9
  refine mC_of (by decide +kernel) ⟨_, rfl⟩ (Nat.le_of_ble_eq_true rfl) ?_
  show mM G mX3_sourcesOf 0 [some (.ref a), some (.int kd), none, none] [] S1 d (0, 0) Q
  refine m_iconst (pc' := 1) (v := 0) dX3_sourcesOf_0 (by decide) rfl ?_
  refine m_istore_n (pc' := 2) dX3_sourcesOf_1 (by decide) rfl rfl ?_
  refine m_iconst (pc' := 3) (v := 0) dX3_sourcesOf_2 (by decide) rfl ?_
  refine m_istore_n (pc' := 4) dX3_sourcesOf_3 (by decide) rfl rfl ?_
  exact J 8 0 (by omega)
set_option maxHeartbeats 4000000 in
set_option maxRecDepth 100000 in
theorem c_entriesOf {n : Nat} {pl : Int32} (hB : a ∈ suL) (hS : SR d a s) (hl : okL s n) (hQ : Q (some (.int (cen s pl n))) S1 d) : mC G mX3_entriesOf [.ref a, .int pl] S1 d Q := by
  have hn16 := hl.1
  have J : ∀ (n0 : Nat) (k : Nat) (_ : k + n0 = n), mM G mX3_entriesOf 4 [some (.ref a), some (.int pl), some (.int (cen s pl k)), some (.int (nI k))] [] S1 d (0, 0) Q := by
    intro n0
    induction n0 with
    | zero =>
      intro k hk
      refine m_iload_n (pc' := 5) dX3_entriesOf_4 rfl rfl ?_
      refine m_aload_n (pc' := 6) dX3_entriesOf_5 rfl rfl ?_
      refine m_getI (pc' := 9) fa_X3_entriesOf_34 dX3_entriesOf_6 (su_lt0 hB) (su_k0 hB) rfl rfl ?_
      rw [show (d.1 a 3) = (nI n) from hS.2.2.2.trans hl.2.1]
      refine m_icmp_ge (tgt := 39) (pc' := 12) dX3_entriesOf_9 (by decide) rfl (fun h9 => ?_) (fun h9 => (h9 (nI_le (by omega) (by omega))).elim)
      refine m_iload_n (pc' := 40) dX3_entriesOf_39 rfl rfl ?_
      refine m_iret dX3_entriesOf_40 rfl rfl ⟨by decide, by decide⟩ ?_
      obtain rfl : k = n := by omega
      exact hQ
    | succ n0 ih =>
      intro k hk
      refine m_iload_n (pc' := 5) dX3_entriesOf_4 rfl rfl ?_
      refine m_aload_n (pc' := 6) dX3_entriesOf_5 rfl rfl ?_
      refine m_getI (pc' := 9) fa_X3_entriesOf_34 dX3_entriesOf_6 (su_lt0 hB) (su_k0 hB) rfl rfl ?_
      rw [show (d.1 a 3) = (nI n) from hS.2.2.2.trans hl.2.1]
      refine m_icmp_ge (tgt := 39) (pc' := 12) dX3_entriesOf_9 (by decide) rfl (fun h9 => absurd h9 (nI_ge (by omega) (by omega))) (fun h9 => ?_)
      refine m_iload_n (pc' := 13) dX3_entriesOf_12 rfl rfl ?_
      refine m_aload_n (pc' := 14) dX3_entriesOf_13 rfl rfl ?_
      refine m_getR (pc' := 17) fa_X3_entriesOf_20 dX3_entriesOf_14 (su_lt0 hB) (su_k0 hB) rfl (su_r0_1 hB) rfl ?_
      refine m_iload_n (pc' := 18) dX3_entriesOf_17 rfl rfl ?_
      refine m_iconst (pc' := 19) (v := 0) dX3_entriesOf_18 (by decide) rfl ?_
      refine m_callV (pc' := 22) (A := [.int (nI k), .int 0]) (rest := [.int (cen s pl k)]) (b := a + 3) cl_X3_entriesOf_38 dX3_entriesOf_19 rfl rfl (Nat.le_of_ble_eq_true rfl) ⟨by decide, by decide⟩ (su_lt3 hB) (su_k3 hB) rfl rfl rfl ?_
      refine c_atN (a := k) (b := 0) (k := 2 * k) (su_T3 hB) (by decide) (by omega) (by omega) ?_
      show mM G mX3_entriesOf 22 [some (.ref a), some (.int pl), some (.int (cen s pl k)), some (.int (nI k))] [.int (d.1 (a + 3 + 1) (2 * k)), .int (cen s pl k)] S1 d (0, 0) Q
      rw [show (d.1 (a + 3 + 1) (2 * k)) = (s (44 + 2 * k)) from hS.2.1 (2 * k) (by omega)]
      refine m_iload_n (pc' := 23) dX3_entriesOf_22 rfl rfl ?_
      refine m_icmp_ne (tgt := 30) (pc' := 26) dX3_entriesOf_23 (by decide) rfl (fun h23 => ?_) (fun h23 => ?_)
      · skip
        refine m_iconst (pc' := 31) (v := 0) dX3_entriesOf_30 (by decide) rfl ?_
        refine m_iadd (pc' := 32) dX3_entriesOf_31 rfl ?_
        refine m_istore_n (pc' := 33) dX3_entriesOf_32 (by decide) rfl rfl ?_
        refine m_iinc (pc' := 36) dX3_entriesOf_33 rfl (by decide) (v := nI (k + 1)) (nI_1 k) rfl rfl ?_
        refine m_goto (tgt := 4) dX3_entriesOf_36 (by decide) ?_
        have e9 := ih (k + 1) (by omega)
        unfold cen at e9; rw [if_neg h23] at e9; exact e9
      · skip
        refine m_iconst (pc' := 27) (v := 1) dX3_entriesOf_26 (by decide) rfl ?_
        refine m_goto (tgt := 31) dX3_entriesOf_27 (by decide) ?_
        refine m_iadd (pc' := 32) dX3_entriesOf_31 rfl ?_
        refine m_istore_n (pc' := 33) dX3_entriesOf_32 (by decide) rfl rfl ?_
        refine m_iinc (pc' := 36) dX3_entriesOf_33 rfl (by decide) (v := nI (k + 1)) (nI_1 k) rfl rfl ?_
        refine m_goto (tgt := 4) dX3_entriesOf_36 (by decide) ?_
        have e9 := ih (k + 1) (by omega)
        unfold cen at e9; rw [if_pos h23] at e9; exact e9
  refine mC_of (by decide +kernel) ⟨_, rfl⟩ (Nat.le_of_ble_eq_true rfl) ?_
  show mM G mX3_entriesOf 0 [some (.ref a), some (.int pl), none, none] [] S1 d (0, 0) Q
  refine m_iconst (pc' := 1) (v := 0) dX3_entriesOf_0 (by decide) rfl ?_
  refine m_istore_n (pc' := 2) dX3_entriesOf_1 (by decide) rfl rfl ?_
  refine m_iconst (pc' := 3) (v := 0) dX3_entriesOf_2 (by decide) rfl ?_
  refine m_istore_n (pc' := 4) dX3_entriesOf_3 (by decide) rfl rfl ?_
  exact J n 0 (by omega)
set_option maxHeartbeats 4000000 in
set_option maxRecDepth 100000 in
theorem c_slotsOfEntry {i : Nat} (hB : a ∈ suL) (hS : SR d a s) (hi : i < 16) (hQ : Q (some (.int (s (45 + 2 * i) + 1))) S1 d) : mC G mX3_slotsOfEntry [.ref a, .int (nI i)] S1 d Q := by
  refine mC_of (by decide +kernel) ⟨_, rfl⟩ (Nat.le_of_ble_eq_true rfl) ?_
  show mM G mX3_slotsOfEntry 0 [some (.ref a), some (.int (nI i))] [] S1 d (0, 0) Q
  refine m_aload_n (pc' := 1) dX3_slotsOfEntry_0 rfl rfl ?_
  refine m_getR (pc' := 4) fa_X3_slotsOfEntry_20 dX3_slotsOfEntry_1 (su_lt0 hB) (su_k0 hB) rfl (su_r0_1 hB) rfl ?_
  refine m_iload_n (pc' := 5) dX3_slotsOfEntry_4 rfl rfl ?_
  refine m_iconst (pc' := 6) (v := 1) dX3_slotsOfEntry_5 (by decide) rfl ?_
  refine m_callV (pc' := 9) (A := [.int (nI i), .int 1]) (rest := []) (b := a + 3) cl_X3_slotsOfEntry_38 dX3_slotsOfEntry_6 rfl rfl (Nat.le_of_ble_eq_true rfl) ⟨by decide, by decide⟩ (su_lt3 hB) (su_k3 hB) rfl rfl rfl ?_
  refine c_atN (a := i) (b := 1) (k := 2 * i + 1) (su_T3 hB) (by decide) (by omega) (by omega) ?_
  show mM G mX3_slotsOfEntry 9 [some (.ref a), some (.int (nI i))] [.int (d.1 (a + 3 + 1) (2 * i + 1))] S1 d (0, 0) Q
  rw [show (d.1 (a + 3 + 1) (2 * i + 1)) = (s (45 + 2 * i)) from (hS.2.1 (2 * i + 1) (by omega)).trans (by congr 1; omega)]
  refine m_iconst (pc' := 10) (v := 1) dX3_slotsOfEntry_9 (by decide) rfl ?_
  refine m_iadd (pc' := 11) dX3_slotsOfEntry_10 rfl ?_
  refine m_iret dX3_slotsOfEntry_11 rfl rfl ⟨by decide, by decide⟩ ?_
  exact hQ
set_option maxHeartbeats 4000000 in
set_option maxRecDepth 100000 in
theorem c_slotsOfScan {n : Nat} (hB : a ∈ suL) (hS : SR d a s) (hl : okL s n) (hQ : Q (some (.int (sls s n))) S1 d) : mC G mX3_slotsOfScan [.ref a] S1 d Q := by
  have hn16 := hl.1
  have J : ∀ (n0 : Nat) (k : Nat) (_ : k + n0 = n), mM G mX3_slotsOfScan 4 [some (.ref a), some (.int (sls s k)), some (.int (nI k))] [] S1 d (0, 0) Q := by
    intro n0
    induction n0 with
    | zero =>
      intro k hk
      refine m_iload_n (pc' := 5) dX3_slotsOfScan_4 rfl rfl ?_
      refine m_aload_n (pc' := 6) dX3_slotsOfScan_5 rfl rfl ?_
      refine m_getI (pc' := 9) fa_X3_slotsOfScan_34 dX3_slotsOfScan_6 (su_lt0 hB) (su_k0 hB) rfl rfl ?_
      rw [show (d.1 a 3) = (nI n) from hS.2.2.2.trans hl.2.1]
      refine m_icmp_ge (tgt := 26) (pc' := 12) dX3_slotsOfScan_9 (by decide) rfl (fun h9 => ?_) (fun h9 => (h9 (nI_le (by omega) (by omega))).elim)
      refine m_iload_n (pc' := 27) dX3_slotsOfScan_26 rfl rfl ?_
      refine m_iret dX3_slotsOfScan_27 rfl rfl ⟨by decide, by decide⟩ ?_
      obtain rfl : k = n := by omega
      exact hQ
    | succ n0 ih =>
      intro k hk
      refine m_iload_n (pc' := 5) dX3_slotsOfScan_4 rfl rfl ?_
      refine m_aload_n (pc' := 6) dX3_slotsOfScan_5 rfl rfl ?_
      refine m_getI (pc' := 9) fa_X3_slotsOfScan_34 dX3_slotsOfScan_6 (su_lt0 hB) (su_k0 hB) rfl rfl ?_
      rw [show (d.1 a 3) = (nI n) from hS.2.2.2.trans hl.2.1]
      refine m_icmp_ge (tgt := 26) (pc' := 12) dX3_slotsOfScan_9 (by decide) rfl (fun h9 => absurd h9 (nI_ge (by omega) (by omega))) (fun h9 => ?_)
      refine m_iload_n (pc' := 13) dX3_slotsOfScan_12 rfl rfl ?_
      refine m_aload_n (pc' := 14) dX3_slotsOfScan_13 rfl rfl ?_
      refine m_iload_n (pc' := 15) dX3_slotsOfScan_14 rfl rfl ?_
      refine m_callV (pc' := 18) (A := [.int (nI k)]) (rest := [.int (sls s k)]) (b := a) cl_X3_slotsOfScan_45 dX3_slotsOfScan_15 rfl rfl (Nat.le_of_ble_eq_true rfl) ⟨by decide, by decide⟩ (su_lt0 hB) (su_k0 hB) rfl rfl rfl ?_
      refine c_slotsOfEntry (i := k) (s := s) hB hS (by omega) ?_
      show mM G mX3_slotsOfScan 18 [some (.ref a), some (.int (sls s k)), some (.int (nI k))] [.int (s (45 + 2 * k) + 1), .int (sls s k)] S1 d (0, 0) Q
      refine m_iadd (pc' := 19) dX3_slotsOfScan_18 rfl ?_
      refine m_istore_n (pc' := 20) dX3_slotsOfScan_19 (by decide) rfl rfl ?_
      refine m_iinc (pc' := 23) dX3_slotsOfScan_20 rfl (by decide) (v := nI (k + 1)) (nI_1 k) rfl rfl ?_
      refine m_goto (tgt := 4) dX3_slotsOfScan_23 (by decide) ?_
      exact ih (k + 1) (by omega)
  refine mC_of (by decide +kernel) ⟨_, rfl⟩ (Nat.le_of_ble_eq_true rfl) ?_
  show mM G mX3_slotsOfScan 0 [some (.ref a), none, none] [] S1 d (0, 0) Q
  refine m_iconst (pc' := 1) (v := 0) dX3_slotsOfScan_0 (by decide) rfl ?_
  refine m_istore_n (pc' := 2) dX3_slotsOfScan_1 (by decide) rfl rfl ?_
  refine m_iconst (pc' := 3) (v := 0) dX3_slotsOfScan_2 (by decide) rfl ?_
  refine m_istore_n (pc' := 4) dX3_slotsOfScan_3 (by decide) rfl rfl ?_
  exact J n 0 (by omega)
set_option maxHeartbeats 4000000 in
set_option maxRecDepth 100000 in
theorem c_resAt {p : Nat} (hB : a ∈ suL) (hS : SR d a s) (hp : p ≤ 9) (hQ : Q (some (.int (rsl s p))) S1 d) : mC G mX3_resistanceAt [.ref a, .int (nI p)] S1 d Q := by
  refine mC_of (by decide +kernel) ⟨_, rfl⟩ (Nat.le_of_ble_eq_true rfl) ?_
  show mM G mX3_resistanceAt 0 [some (.ref a), some (.int (nI p))] [] S1 d (0, 0) Q
  refine m_iload_n (pc' := 1) dX3_resistanceAt_0 rfl rfl ?_
  refine m_bipush (pc' := 3) (v := 8) dX3_resistanceAt_1 (by decide) rfl ?_
  refine m_icmp_ge (tgt := 18) (pc' := 6) dX3_resistanceAt_3 (by decide) rfl (fun h3 => ?_) (fun h3 => ?_)
  · skip
    refine m_iconst (pc' := 19) (v := 0) dX3_resistanceAt_18 (by decide) rfl ?_
    refine m_iret dX3_resistanceAt_19 rfl rfl ⟨by decide, by decide⟩ ?_
    exact q_i hQ (by unfold rsl; rw [if_neg (show ¬ p < 8 from Nat.not_lt.mpr ((nI_leI (a := 8) (by decide) (by omega)).mp h3))])
  · skip
    refine m_aload_n (pc' := 7) dX3_resistanceAt_6 rfl rfl ?_
    refine m_getR (pc' := 10) fa_X3_resistanceAt_14 dX3_resistanceAt_7 (su_lt0 hB) (su_k0 hB) rfl (su_r0_0 hB) rfl ?_
    refine m_iload_n (pc' := 11) dX3_resistanceAt_10 rfl rfl ?_
    refine m_iconst (pc' := 12) (v := 4) dX3_resistanceAt_11 (by decide) rfl ?_
    refine m_callV (pc' := 15) (A := [.int (nI p), .int 4]) (rest := []) (b := a + 1) cl_X3_resistanceAt_38 dX3_resistanceAt_12 rfl rfl (Nat.le_of_ble_eq_true rfl) ⟨by decide, by decide⟩ (su_lt1 hB) (su_k1 hB) rfl rfl rfl ?_
    refine c_atN (a := p) (b := 4) (k := 5 * p + 4) (su_T1 hB) (by decide) (by omega) (by have := Nat.not_le.mp (fun h => h3 ((nI_leI (a := 8) (by decide) (by omega)).mpr h)); omega) ?_
    show mM G mX3_resistanceAt 15 [some (.ref a), some (.int (nI p))] [.int (d.1 (a + 1 + 1) (5 * p + 4))] S1 d (0, 0) Q
    rw [show (d.1 (a + 1 + 1) (5 * p + 4)) = (s (5 * p + 4)) from hS.1 (5 * p + 4) (by have := Nat.not_le.mp (fun h => h3 ((nI_leI (a := 8) (by decide) (by omega)).mpr h)); omega)]
    refine m_goto (tgt := 19) dX3_resistanceAt_15 (by decide) ?_
    refine m_iret dX3_resistanceAt_19 rfl rfl ⟨by decide, by decide⟩ ?_
    exact q_i hQ (by unfold rsl; rw [if_pos (Nat.not_le.mp (fun h => h3 ((nI_leI (a := 8) (by decide) (by omega)).mpr h)))])
set_option maxHeartbeats 4000000 in
set_option maxRecDepth 100000 in
theorem c_readingWith {h : UInt32} {g o : Int32} (hQ : Q (some (.int (rdb h g o))) S1 d) : mC G mX10_readingWith [.float h, .int g, .int o] S1 d Q := by
  refine mC_of (by decide +kernel) ⟨_, rfl⟩ (Nat.le_of_ble_eq_true rfl) ?_
  show mM G mX10_readingWith 0 [some (.float h), some (.int g), some (.int o), none] [] S1 d (0, 0) Q
  refine m_fload_n (pc' := 1) dX10_readingWith_0 rfl rfl ?_
  refine m_iload_n (pc' := 2) dX10_readingWith_1 rfl rfl ?_
  refine m_i2f (pc' := 3) dX10_readingWith_2 rfl ?_
  refine m_ldcfw (pc' := 6) dX10_readingWith_3 kc_X10_readingWith_277 rfl ?_
  refine m_fdiv (pc' := 7) dX10_readingWith_6 rfl ?_
  refine m_fmul (pc' := 8) dX10_readingWith_7 rfl ?_
  refine m_iload_n (pc' := 9) dX10_readingWith_8 rfl rfl ?_
  refine m_i2f (pc' := 10) dX10_readingWith_9 rfl ?_
  refine m_fadd (pc' := 11) dX10_readingWith_10 rfl ?_
  refine m_ldcfw (pc' := 14) dX10_readingWith_11 kc_X10_readingWith_278 rfl ?_
  refine m_fadd (pc' := 15) dX10_readingWith_14 rfl ?_
  refine m_fstore_n (pc' := 16) dX10_readingWith_15 (by decide) rfl rfl ?_
  refine m_fload_n (pc' := 17) dX10_readingWith_16 rfl rfl ?_
  refine m_fconst0 (pc' := 18) dX10_readingWith_17 rfl ?_
  refine m_fcmp (pc' := 19) dX10_readingWith_18 rfl ?_
  refine m_if_ge (tgt := 26) (pc' := 22) dX10_readingWith_19 (by decide) rfl (fun h19 => ?_) (fun h19 => ?_)
  · skip
    refine m_fload_n (pc' := 27) dX10_readingWith_26 rfl rfl ?_
    refine m_f2i (pc' := 28) dX10_readingWith_27 rfl ?_
    refine m_sipush (pc' := 31) (v := 4095) dX10_readingWith_28 (by decide) rfl ?_
    refine m_mmin (pc' := 34) wm_X10_readingWith_279 dX10_readingWith_31 (Nat.le_of_ble_eq_true rfl) ⟨by decide, by decide⟩ rfl ?_
    refine m_iret dX10_readingWith_34 rfl rfl ⟨by decide, by decide⟩ ?_
    exact q_i hQ (by unfold rdb rsum; rw [if_pos h19])
  · skip
    refine m_iconst (pc' := 23) (v := 0) dX10_readingWith_22 (by decide) rfl ?_
    refine m_goto (tgt := 34) dX10_readingWith_23 (by decide) ?_
    refine m_iret dX10_readingWith_34 rfl rfl ⟨by decide, by decide⟩ ?_
    exact q_i hQ (by unfold rdb rsum; rw [if_neg h19])
set_option maxHeartbeats 4000000 in
set_option maxRecDepth 100000 in
theorem c_readingOf {h : UInt32} (hB : a ∈ suL) (hS : SR d a s) (hQ : Q (some (.int (rdb h (s 41) (s 42)))) S1 d) : mC G mX3_readingOf [.ref a, .float h] S1 d Q := by
  refine mC_of (by decide +kernel) ⟨_, rfl⟩ (Nat.le_of_ble_eq_true rfl) ?_
  show mM G mX3_readingOf 0 [some (.ref a), some (.float h)] [] S1 d (0, 0) Q
  refine m_fload_n (pc' := 1) dX3_readingOf_0 rfl rfl ?_
  refine m_aload_n (pc' := 2) dX3_readingOf_1 rfl rfl ?_
  refine m_iconst (pc' := 3) (v := 1) dX3_readingOf_2 (by decide) rfl ?_
  refine m_callV (pc' := 6) (A := [.int 1]) (rest := [.float h]) (b := a) cl_X3_readingOf_49 dX3_readingOf_3 rfl rfl (Nat.le_of_ble_eq_true rfl) ⟨by decide, by decide⟩ (su_lt0 hB) (su_k0 hB) rfl rfl rfl ?_
  refine c_setting (w := 1) (s := s) hB hS (by decide) ?_
  show mM G mX3_readingOf 6 [some (.ref a), some (.float h)] [.int (s (40 + 1)), .float h] S1 d (0, 0) Q
  refine m_aload_n (pc' := 7) dX3_readingOf_6 rfl rfl ?_
  refine m_iconst (pc' := 8) (v := 2) dX3_readingOf_7 (by decide) rfl ?_
  refine m_callV (pc' := 11) (A := [.int 2]) (rest := [.int (s (40 + 1)), .float h]) (b := a) cl_X3_readingOf_49 dX3_readingOf_8 rfl rfl (Nat.le_of_ble_eq_true rfl) ⟨by decide, by decide⟩ (su_lt0 hB) (su_k0 hB) rfl rfl rfl ?_
  refine c_setting (w := 2) (s := s) hB hS (by decide) ?_
  show mM G mX3_readingOf 11 [some (.ref a), some (.float h)] [.int (s (40 + 2)), .int (s (40 + 1)), .float h] S1 d (0, 0) Q
  refine m_callSN (pc' := 14) (A := [.float h, .int (s (40 + 1)), .int (s (40 + 2))]) (rest := []) cl_X3_readingOf_67 dX3_readingOf_11 rfl rfl (Nat.le_of_ble_eq_true rfl) ⟨by decide, by decide⟩ rfl rfl ?_
  refine c_readingWith ?_
  show mM G mX3_readingOf 14 [some (.ref a), some (.float h)] [.int (rdb h (s (40 + 1)) (s (40 + 2)))] S1 d (0, 0) Q
  refine m_iret dX3_readingOf_14 rfl rfl ⟨by decide, by decide⟩ ?_
  exact hQ
set_option maxHeartbeats 4000000 in
set_option maxRecDepth 100000 in
theorem c_insert {n b : Nat} {p q : Int32} (hB : a ∈ suL) (hS : SR d a s) (hn : s 43 = nI n) (hb : b ≤ n) (hn2 : n < 16) (hQ : ∀ d', fr (suE a) nE d d' → SR d' a (ins s n b p q) → Q none S1 d') : mC G mX3_insert [.ref a, .int p, .int q, .int (nI b)] S1 d Q := by
  have J : ∀ (n0 : Nat) (k : Nat) (d1 : Dt) (_ : k = b + n0) (_ : k ≤ n) (_ : fr (suE a) nE d d1) (_ : SR d1 a (shf s n k)), mM G mX3_insert 6 [some (.ref a), some (.int p), some (.int q), some (.int (nI b)), some (.int (nI k))] [] S1 d1 (0, 0) Q := by
    intro n0
    induction n0 with
    | zero =>
      intro k d1 hk hkn hd hS
      refine m_iload (pc' := 8) dX3_insert_6 rfl rfl ?_
      refine m_iload_n (pc' := 9) dX3_insert_8 rfl rfl ?_
      refine m_icmp_le (tgt := 31) (pc' := 12) dX3_insert_9 (by decide) rfl (fun h9 => ?_) (fun h9 => (h9 (nI_le (by omega) (by omega))).elim)
      refine m_aload_n (pc' := 32) dX3_insert_31 rfl rfl ?_
      refine m_getR (pc' := 35) fa_X3_insert_20 dX3_insert_32 (su_lt0 hB) (su_k0 hB) rfl (su_r0_1 hB) rfl ?_
      refine m_iload_n (pc' := 36) dX3_insert_35 rfl rfl ?_
      refine m_iconst (pc' := 37) (v := 0) dX3_insert_36 (by decide) rfl ?_
      refine m_iload_n (pc' := 38) dX3_insert_37 rfl rfl ?_
      refine m_callV (pc' := 41) (A := [.int (nI b), .int 0, .int p]) (rest := []) (b := a + 3) cl_X3_insert_26 dX3_insert_38 rfl rfl (Nat.le_of_ble_eq_true rfl) ⟨by decide, by decide⟩ (su_lt3 hB) (su_k3 hB) rfl rfl rfl ?_
      refine c_putN (a := b) (b := 0) (k := 2 * b) (su_T3 hB) (by decide) (by omega) (by omega) ?_
      show mM G mX3_insert 41 [some (.ref a), some (.int p), some (.int q), some (.int (nI b)), some (.int (nI k))] [] S1 (u2 d1.1 (a + 3 + 1) (2 * b) p, d1.2) (0, 0) Q
      refine m_aload_n (pc' := 42) dX3_insert_41 rfl rfl ?_
      refine m_getR (pc' := 45) fa_X3_insert_20 dX3_insert_42 (su_lt0 hB) (su_k0 hB) rfl (su_r0_1 hB) rfl ?_
      refine m_iload_n (pc' := 46) dX3_insert_45 rfl rfl ?_
      refine m_iconst (pc' := 47) (v := 1) dX3_insert_46 (by decide) rfl ?_
      refine m_iload_n (pc' := 48) dX3_insert_47 rfl rfl ?_
      refine m_callV (pc' := 51) (A := [.int (nI b), .int 1, .int q]) (rest := []) (b := a + 3) cl_X3_insert_26 dX3_insert_48 rfl rfl (Nat.le_of_ble_eq_true rfl) ⟨by decide, by decide⟩ (su_lt3 hB) (su_k3 hB) rfl rfl rfl ?_
      refine c_putN (a := b) (b := 1) (k := 2 * b + 1) (su_T3 hB) (by decide) (by omega) (by omega) ?_
      show mM G mX3_insert 51 [some (.ref a), some (.int p), some (.int q), some (.int (nI b)), some (.int (nI k))] [] S1 (u2 (u2 d1.1 (a + 3 + 1) (2 * b) p) (a + 3 + 1) (2 * b + 1) q, d1.2) (0, 0) Q
      refine m_aload_n (pc' := 52) dX3_insert_51 rfl rfl ?_
      refine m_dup (pc' := 53) dX3_insert_52 rfl ?_
      refine m_getI (pc' := 56) fa_X3_insert_34 dX3_insert_53 (su_lt0 hB) (su_k0 hB) rfl rfl ?_
      show mM G mX3_insert 56 [some (.ref a), some (.int p), some (.int q), some (.int (nI b)), some (.int (nI k))] [.int ((((u2 (u2 d1.1 (a + 3 + 1) (2 * b) p) (a + 3 + 1) (2 * b + 1) q, d1.2)).1) a 3), .ref a] S1 (u2 (u2 d1.1 (a + 3 + 1) (2 * b) p) (a + 3 + 1) (2 * b + 1) q, d1.2) (0, 0) Q
      rw [show ((((u2 (u2 d1.1 (a + 3 + 1) (2 * b) p) (a + 3 + 1) (2 * b + 1) q, d1.2)).1) a 3) = (nI n) from (by show u2 (u2 d1.1 (a + 1 + 1 + 2) (2 * b) p) (a + 1 + 1 + 2) (2 * b + 1) q a 3 = nI n; rw [u2_ne (show a ≠ a + 1 + 1 + 2 by omega), u2_ne (show a ≠ a + 1 + 1 + 2 by omega)]; exact hS.2.2.2.trans ((shf_lo (show 43 < 46 + 2 * k by omega)).trans hn))]
      refine m_iconst (pc' := 57) (v := 1) dX3_insert_56 (by decide) rfl ?_
      refine m_iadd (pc' := 58) dX3_insert_57 rfl ?_
      rw [show ((nI n) + 1) = (nI (n + 1)) from nI_1 n]
      refine m_putI (pc' := 61) (ty := .int) fa_X3_insert_34 dX3_insert_58 (by decide +kernel) rfl rfl (su_lt0 hB) (su_k0 hB) rfl rfl ?_
      refine m_vret dX3_insert_61 rfl ⟨by decide, by decide⟩ ?_
      have hbk : k = b := by omega
      rw [hbk] at hS
      refine hQ _ (((hd.i _ (Or.inr (Or.inl rfl))).i _ (Or.inr (Or.inl rfl))).i _ (Or.inr (Or.inr (Or.inr ⟨rfl, rfl⟩)))) ?_
      rw [← shf_ins s n b p q hb]
      exact ((hS.li (by omega) rfl).li (by omega) (by omega)).en
    | succ n0 ih =>
      intro k d1 hk hkn hd hS
      obtain ⟨j, rfl⟩ : ∃ j, k = j + 1 := ⟨b + n0, by omega⟩
      refine m_iload (pc' := 8) dX3_insert_6 rfl rfl ?_
      refine m_iload_n (pc' := 9) dX3_insert_8 rfl rfl ?_
      refine m_icmp_le (tgt := 31) (pc' := 12) dX3_insert_9 (by decide) rfl (fun h9 => absurd h9 (nI_ge (by omega) (by omega))) (fun h9 => ?_)
      refine m_aload_n (pc' := 13) dX3_insert_12 rfl rfl ?_
      refine m_getR (pc' := 16) fa_X3_insert_20 dX3_insert_13 (su_lt0 hB) (su_k0 hB) rfl (su_r0_1 hB) rfl ?_
      refine m_iload (pc' := 18) dX3_insert_16 rfl rfl ?_
      refine m_iconst (pc' := 19) (v := 1) dX3_insert_18 (by decide) rfl ?_
      refine m_isub (pc' := 20) dX3_insert_19 rfl ?_
      rw [show ((nI (j + 1)) - 1) = (nI j) from nI_pred j]
      refine m_iload (pc' := 22) dX3_insert_20 rfl rfl ?_
      refine m_callV (pc' := 25) (A := [.int (nI j), .int (nI (j + 1))]) (rest := []) (b := a + 3) cl_X3_insert_42 dX3_insert_22 rfl rfl (Nat.le_of_ble_eq_true rfl) ⟨by decide, by decide⟩ (su_lt3 hB) (su_k3 hB) rfl rfl rfl ?_
      refine c_row2N (f := j) (g := (j + 1)) (su_T3 hB) (by decide) (by omega) (by omega) ?_
      show mM G mX3_insert 25 [some (.ref a), some (.int p), some (.int q), some (.int (nI b)), some (.int (nI (j + 1)))] [] S1 (u2 (u2 d1.1 (a + 3 + 1) (2 * (j + 1)) (d1.1 (a + 3 + 1) (2 * j))) (a + 3 + 1) (2 * (j + 1) + 1) (d1.1 (a + 3 + 1) (2 * j + 1)), d1.2) (0, 0) Q
      refine m_iinc (pc' := 28) dX3_insert_25 rfl (by decide) (v := nI j) (pk_m1 j) rfl rfl ?_
      refine m_goto (tgt := 6) dX3_insert_28 (by decide) ?_
      have e1 : d1.1 (a + 4) (2 * j) = s (44 + 2 * j) := (hS.2.1 (2 * j) (by omega)).trans (shf_lo (by omega))
      have e2 : d1.1 (a + 4) (2 * j + 1) = s (45 + 2 * j) := (hS.2.1 (2 * j + 1) (by omega)).trans ((shf_lo (by omega)).trans (by congr 1; omega))
      refine ih j _ (by omega) (by omega) ((hd.i _ (Or.inr (Or.inl rfl))).i _ (Or.inr (Or.inl rfl))) ?_
      rw [← shf_s s n j (by omega), ← e1, ← e2]
      exact (hS.li (by omega) (by omega)).li (by omega) (by omega)
  refine mC_of (by decide +kernel) ⟨_, rfl⟩ (Nat.le_of_ble_eq_true rfl) ?_
  show mM G mX3_insert 0 [some (.ref a), some (.int p), some (.int q), some (.int (nI b)), none] [] S1 d (0, 0) Q
  refine m_aload_n (pc' := 1) dX3_insert_0 rfl rfl ?_
  refine m_getI (pc' := 4) fa_X3_insert_34 dX3_insert_1 (su_lt0 hB) (su_k0 hB) rfl rfl ?_
  rw [show (d.1 a 3) = (nI n) from hS.2.2.2.trans hn]
  refine m_istore (pc' := 6) dX3_insert_4 (by decide) rfl rfl ?_
  exact J (n - b) n d (by omega) (Nat.le_refl n) fr.rfl (by rw [shf_n]; exact hS)
set_option maxHeartbeats 4000000 in
set_option maxRecDepth 100000 in
theorem c_removeAt {n e : Nat} (hB : a ∈ suL) (hS : SR d a s) (hn : s 43 = nI n) (he : e < n) (hn2 : n ≤ 16) (hQ : ∀ d', fr (suE a) nE d d' → SR d' a (rem s n e) → Q none S1 d') : mC G mX3_removeAt [.ref a, .int (nI e)] S1 d Q := by
  have J : ∀ (n0 : Nat) (k : Nat) (d1 : Dt) (_ : k + n0 = n - 1) (_ : e ≤ k) (_ : fr (suE a) nE d d1) (_ : SR d1 a (rmg s e k)), mM G mX3_removeAt 2 [some (.ref a), some (.int (nI e)), some (.int (nI k))] [] S1 d1 (0, 0) Q := by
    intro n0
    induction n0 with
    | zero =>
      intro k d1 hk hek hd hS
      refine m_iload_n (pc' := 3) dX3_removeAt_2 rfl rfl ?_
      refine m_aload_n (pc' := 4) dX3_removeAt_3 rfl rfl ?_
      refine m_getI (pc' := 7) fa_X3_removeAt_34 dX3_removeAt_4 (su_lt0 hB) (su_k0 hB) rfl rfl ?_
      rw [show (d1.1 a 3) = (nI n) from hS.2.2.2.trans ((show rmg s e k 43 = s 43 by unfold rmg; rw [if_neg (by omega)]).trans hn)]
      refine m_iconst (pc' := 8) (v := 1) dX3_removeAt_7 (by decide) rfl ?_
      refine m_isub (pc' := 9) dX3_removeAt_8 rfl ?_
      rw [show ((nI n) - 1) = (nI (n - 1)) from pk_dif (b := 1) (by omega)]
      refine m_icmp_ge (tgt := 29) (pc' := 12) dX3_removeAt_9 (by decide) rfl (fun h9 => ?_) (fun h9 => (h9 (nI_le (by omega) (by omega))).elim)
      refine m_aload_n (pc' := 30) dX3_removeAt_29 rfl rfl ?_
      refine m_dup (pc' := 31) dX3_removeAt_30 rfl ?_
      refine m_getI (pc' := 34) fa_X3_removeAt_34 dX3_removeAt_31 (su_lt0 hB) (su_k0 hB) rfl rfl ?_
      rw [show (d1.1 a 3) = (nI n) from hS.2.2.2.trans ((show rmg s e k 43 = s 43 by unfold rmg; rw [if_neg (by omega)]).trans hn)]
      refine m_iconst (pc' := 35) (v := 1) dX3_removeAt_34 (by decide) rfl ?_
      refine m_isub (pc' := 36) dX3_removeAt_35 rfl ?_
      rw [show ((nI n) - 1) = (nI (n - 1)) from pk_dif (b := 1) (by omega)]
      refine m_putI (pc' := 39) (ty := .int) fa_X3_removeAt_34 dX3_removeAt_36 (by decide +kernel) rfl rfl (su_lt0 hB) (su_k0 hB) rfl rfl ?_
      refine m_vret dX3_removeAt_39 rfl ⟨by decide, by decide⟩ ?_
      have hkn : k = n - 1 := by omega
      rw [hkn] at hS
      refine hQ _ (hd.i _ (Or.inr (Or.inr (Or.inr ⟨rfl, rfl⟩)))) ?_
      rw [← rmg_e s]
      exact hS.en
    | succ n0 ih =>
      intro k d1 hk hek hd hS
      refine m_iload_n (pc' := 3) dX3_removeAt_2 rfl rfl ?_
      refine m_aload_n (pc' := 4) dX3_removeAt_3 rfl rfl ?_
      refine m_getI (pc' := 7) fa_X3_removeAt_34 dX3_removeAt_4 (su_lt0 hB) (su_k0 hB) rfl rfl ?_
      rw [show (d1.1 a 3) = (nI n) from hS.2.2.2.trans ((show rmg s e k 43 = s 43 by unfold rmg; rw [if_neg (by omega)]).trans hn)]
      refine m_iconst (pc' := 8) (v := 1) dX3_removeAt_7 (by decide) rfl ?_
      refine m_isub (pc' := 9) dX3_removeAt_8 rfl ?_
      rw [show ((nI n) - 1) = (nI (n - 1)) from pk_dif (b := 1) (by omega)]
      refine m_icmp_ge (tgt := 29) (pc' := 12) dX3_removeAt_9 (by decide) rfl (fun h9 => absurd h9 (nI_ge (by omega) (by omega))) (fun h9 => ?_)
      refine m_aload_n (pc' := 13) dX3_removeAt_12 rfl rfl ?_
      refine m_getR (pc' := 16) fa_X3_removeAt_20 dX3_removeAt_13 (su_lt0 hB) (su_k0 hB) rfl (su_r0_1 hB) rfl ?_
      refine m_iload_n (pc' := 17) dX3_removeAt_16 rfl rfl ?_
      refine m_iconst (pc' := 18) (v := 1) dX3_removeAt_17 (by decide) rfl ?_
      refine m_iadd (pc' := 19) dX3_removeAt_18 rfl ?_
      rw [show ((nI k) + 1) = (nI (k + 1)) from nI_1 k]
      refine m_iload_n (pc' := 20) dX3_removeAt_19 rfl rfl ?_
      refine m_callV (pc' := 23) (A := [.int (nI (k + 1)), .int (nI k)]) (rest := []) (b := a + 3) cl_X3_removeAt_42 dX3_removeAt_20 rfl rfl (Nat.le_of_ble_eq_true rfl) ⟨by decide, by decide⟩ (su_lt3 hB) (su_k3 hB) rfl rfl rfl ?_
      refine c_row2N (f := (k + 1)) (g := k) (su_T3 hB) (by decide) (by omega) (by omega) ?_
      show mM G mX3_removeAt 23 [some (.ref a), some (.int (nI e)), some (.int (nI k))] [] S1 (u2 (u2 d1.1 (a + 3 + 1) (2 * k) (d1.1 (a + 3 + 1) (2 * (k + 1)))) (a + 3 + 1) (2 * k + 1) (d1.1 (a + 3 + 1) (2 * (k + 1) + 1)), d1.2) (0, 0) Q
      refine m_iinc (pc' := 26) dX3_removeAt_23 rfl (by decide) (v := nI (k + 1)) (nI_1 k) rfl rfl ?_
      refine m_goto (tgt := 2) dX3_removeAt_26 (by decide) ?_
      have e1 : d1.1 (a + 4) (2 * (k + 1)) = s (46 + 2 * k) := (hS.2.1 (2 * (k + 1)) (by omega)).trans ((rmg_hi (by omega)).trans (by congr 1; omega))
      have e2 : d1.1 (a + 4) (2 * (k + 1) + 1) = s (47 + 2 * k) := (hS.2.1 (2 * (k + 1) + 1) (by omega)).trans ((rmg_hi (by omega)).trans (by congr 1; omega))
      refine ih (k + 1) _ (by omega) (by omega) ((hd.i _ (Or.inr (Or.inl rfl))).i _ (Or.inr (Or.inl rfl))) ?_
      rw [← rmg_s s hek, ← e1, ← e2]
      exact (hS.li (by omega) (by omega)).li (by omega) (by omega)
  refine mC_of (by decide +kernel) ⟨_, rfl⟩ (Nat.le_of_ble_eq_true rfl) ?_
  show mM G mX3_removeAt 0 [some (.ref a), some (.int (nI e)), none] [] S1 d (0, 0) Q
  refine m_iload_n (pc' := 1) dX3_removeAt_0 rfl rfl ?_
  refine m_istore_n (pc' := 2) dX3_removeAt_1 (by decide) rfl rfl ?_
  exact J (n - 1 - e) e d (by omega) (Nat.le_refl e) fr.rfl (by rw [rmg_0]; exact hS)
end CLS1
