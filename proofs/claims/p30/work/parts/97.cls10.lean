/-! THE CLASS'S OWN CALLS (2) -/
section CLS10
variable {G : GP} {Q : Option Value → Sh → Dt → Prop} {d : Dt}
set_option maxHeartbeats 4000000 in
set_option maxRecDepth 100000 in
theorem c_isSet0 {v : Int32} (hQ : Q (some (.int (bin v 0 4095))) S1 d) : mC G mX10_isSetting [.int 0, .int v] S1 d Q := by
  refine mC_of (by decide +kernel) ⟨_, rfl⟩ (Nat.le_of_ble_eq_true rfl) ?_
  show mM G mX10_isSetting 0 [some (.int 0), some (.int v)] [] S1 d (0, 0) Q
  refine m_iload_n (pc' := 1) dX10_isSetting_0 rfl rfl ?_
  refine m_tableIn (tgt := 28) (off := 27) dX10_isSetting_1 (by decide) (by decide) rfl (by decide) ?_
  refine m_iload_n (pc' := 29) dX10_isSetting_28 rfl rfl ?_
  refine m_iconst (pc' := 30) (v := 0) dX10_isSetting_29 (by decide) rfl ?_
  refine m_sipush (pc' := 33) (v := 4095) dX10_isSetting_30 (by decide) rfl ?_
  refine m_callS (pc' := 36) (A := [.int v, .int 0, .int 4095]) (rest := []) cl_X10_isSetting_81 dX10_isSetting_33 rfl rfl (Nat.le_of_ble_eq_true rfl) ⟨by decide, by decide⟩ rfl rfl ?_
  refine c_within ?_
  show mM G mX10_isSetting 36 [some (.int 0), some (.int v)] [.int (bin v 0 4095)] S1 d (0, 0) Q
  refine m_iret dX10_isSetting_36 rfl (nar_01 (bin_01 _ _ _)) ⟨by decide, by decide⟩ ?_
  exact hQ
set_option maxHeartbeats 4000000 in
set_option maxRecDepth 100000 in
theorem c_isSet1 {v : Int32} (hQ : Q (some (.int (bin v 900 1100))) S1 d) : mC G mX10_isSetting [.int 1, .int v] S1 d Q := by
  refine mC_of (by decide +kernel) ⟨_, rfl⟩ (Nat.le_of_ble_eq_true rfl) ?_
  show mM G mX10_isSetting 0 [some (.int 1), some (.int v)] [] S1 d (0, 0) Q
  refine m_iload_n (pc' := 1) dX10_isSetting_0 rfl rfl ?_
  refine m_tableIn (tgt := 37) (off := 36) dX10_isSetting_1 (by decide) (by decide) rfl (by decide) ?_
  refine m_iload_n (pc' := 38) dX10_isSetting_37 rfl rfl ?_
  refine m_sipush (pc' := 41) (v := 900) dX10_isSetting_38 (by decide) rfl ?_
  refine m_sipush (pc' := 44) (v := 1100) dX10_isSetting_41 (by decide) rfl ?_
  refine m_callS (pc' := 47) (A := [.int v, .int 900, .int 1100]) (rest := []) cl_X10_isSetting_81 dX10_isSetting_44 rfl rfl (Nat.le_of_ble_eq_true rfl) ⟨by decide, by decide⟩ rfl rfl ?_
  refine c_within ?_
  show mM G mX10_isSetting 47 [some (.int 1), some (.int v)] [.int (bin v 900 1100)] S1 d (0, 0) Q
  refine m_iret dX10_isSetting_47 rfl (nar_01 (bin_01 _ _ _)) ⟨by decide, by decide⟩ ?_
  exact hQ
set_option maxHeartbeats 4000000 in
set_option maxRecDepth 100000 in
theorem c_isSet2 {v : Int32} (hQ : Q (some (.int (bin v (-100) 100))) S1 d) : mC G mX10_isSetting [.int 2, .int v] S1 d Q := by
  refine mC_of (by decide +kernel) ⟨_, rfl⟩ (Nat.le_of_ble_eq_true rfl) ?_
  show mM G mX10_isSetting 0 [some (.int 2), some (.int v)] [] S1 d (0, 0) Q
  refine m_iload_n (pc' := 1) dX10_isSetting_0 rfl rfl ?_
  refine m_tableIn (tgt := 48) (off := 47) dX10_isSetting_1 (by decide) (by decide) rfl (by decide) ?_
  refine m_iload_n (pc' := 49) dX10_isSetting_48 rfl rfl ?_
  refine m_bipush (pc' := 51) (v := (-100)) dX10_isSetting_49 (by decide) rfl ?_
  refine m_bipush (pc' := 53) (v := 100) dX10_isSetting_51 (by decide) rfl ?_
  refine m_callS (pc' := 56) (A := [.int v, .int (-100), .int 100]) (rest := []) cl_X10_isSetting_81 dX10_isSetting_53 rfl rfl (Nat.le_of_ble_eq_true rfl) ⟨by decide, by decide⟩ rfl rfl ?_
  refine c_within ?_
  show mM G mX10_isSetting 56 [some (.int 2), some (.int v)] [.int (bin v (-100) 100)] S1 d (0, 0) Q
  refine m_iret dX10_isSetting_56 rfl (nar_01 (bin_01 _ _ _)) ⟨by decide, by decide⟩ ?_
  exact hQ
set_option maxHeartbeats 4000000 in
set_option maxRecDepth 100000 in
theorem c_isSetX {w v : Int32} (w0 : ¬ w = 0) (w1 : ¬ w = 1) (w2 : ¬ w = 2) (hQ : Q (some (.int 0)) S1 d) : mC G mX10_isSetting [.int w, .int v] S1 d Q := by
  refine mC_of (by decide +kernel) ⟨_, rfl⟩ (Nat.le_of_ble_eq_true rfl) ?_
  show mM G mX10_isSetting 0 [some (.int w), some (.int v)] [] S1 d (0, 0) Q
  refine m_iload_n (pc' := 1) dX10_isSetting_0 rfl rfl ?_
  refine m_tableOut (tgt := 57) dX10_isSetting_1 (by have z0 := tI_ne w0; have y0 : ((0 : Int32)).toInt = 0 := (by decide); have z1 := tI_ne w1; have y1 : ((1 : Int32)).toInt = 1 := (by decide); have z2 := tI_ne w2; have y2 : ((2 : Int32)).toInt = 2 := (by decide); omega) (by decide) ?_
  refine m_iconst (pc' := 58) (v := 0) dX10_isSetting_57 (by decide) rfl ?_
  refine m_iret dX10_isSetting_58 rfl (by decide) ⟨by decide, by decide⟩ ?_
  exact hQ
theorem c_isSetting {w v : Int32} (hQ : Q (some (.int (oset w v))) S1 d) : mC G mX10_isSetting [.int w, .int v] S1 d Q := by
  by_cases w0 : w = 0
  · subst w0; exact c_isSet0 (q_i hQ (oset_0 v).symm)
  by_cases w1 : w = 1
  · subst w1; exact c_isSet1 (q_i hQ (oset_1 v).symm)
  by_cases w2 : w = 2
  · subst w2; exact c_isSet2 (q_i hQ (oset_2 v).symm)
  exact c_isSetX w0 w1 w2 (q_i hQ (oset_X v w0 w1 w2).symm)
theorem oset_01 (w v : Int32) : oset w v = 0 ∨ oset w v = 1 := by
  unfold oset
  split
  · exact bin_01 _ _ _
  · split
    · exact bin_01 _ _ _
    · split
      · exact bin_01 _ _ _
      · exact Or.inl rfl
theorem oset_w {w v : Int32} (h : ¬ oset w v = 0) : ∃ n : Nat, n < 3 ∧ w = nI n := by
  by_cases w0 : w = 0
  · exact ⟨0, by decide, w0⟩
  by_cases w1 : w = 1
  · exact ⟨1, by decide, w1⟩
  by_cases w2 : w = 2
  · exact ⟨2, by decide, w2⟩
  exact absurd (oset_X v w0 w1 w2) h
set_option maxHeartbeats 4000000 in
set_option maxRecDepth 100000 in
theorem c_isEntry {e : Int32} {s : SS} (hS : d.1 2 3 = s 43) (hQ : Q (some (.int (bin e 0 (s 43 - 1)))) S1 d) : mC G mX10_isEntry [.ref 0, .int e] S1 d Q := by
  refine mC_of (by decide +kernel) ⟨_, rfl⟩ (Nat.le_of_ble_eq_true rfl) ?_
  show mM G mX10_isEntry 0 [some (.ref 0), some (.int e)] [] S1 d (0, 0) Q
  refine m_iload_n (pc' := 1) dX10_isEntry_0 rfl rfl ?_
  refine m_iconst (pc' := 2) (v := 0) dX10_isEntry_1 (by decide) rfl ?_
  refine m_aload_n (pc' := 3) dX10_isEntry_2 rfl rfl ?_
  refine m_getR (pc' := 6) fa_X10_isEntry_10 dX10_isEntry_3 (by decide) rfl rfl rfl rfl ?_
  refine m_getR (pc' := 9) fa_X10_isEntry_64 dX10_isEntry_6 (by decide) rfl rfl rfl rfl ?_
  refine m_getI (pc' := 12) fa_X10_isEntry_100 dX10_isEntry_9 (by decide) rfl rfl rfl ?_
  rw [show (d.1 2 3) = (s 43) from hS]
  refine m_iconst (pc' := 13) (v := 1) dX10_isEntry_12 (by decide) rfl ?_
  refine m_isub (pc' := 14) dX10_isEntry_13 rfl ?_
  refine m_callS (pc' := 17) (A := [.int e, .int 0, .int ((s 43) - 1)]) (rest := []) cl_X10_isEntry_81 dX10_isEntry_14 rfl rfl (Nat.le_of_ble_eq_true rfl) ⟨by decide, by decide⟩ rfl rfl ?_
  refine c_within ?_
  show mM G mX10_isEntry 17 [some (.ref 0), some (.int e)] [.int (bin e 0 ((s 43) - 1))] S1 d (0, 0) Q
  refine m_iret dX10_isEntry_17 rfl (nar_01 (bin_01 _ _ _)) ⟨by decide, by decide⟩ ?_
  exact hQ
set_option maxHeartbeats 4000000 in
set_option maxRecDepth 100000 in
theorem k_set {A : AS} {w v : Int32} (hC : CR d A) (hO : OK A) (hQ : ∀ d', cfr d d' → CR d' (opSet A w v).2 → Q (some (.int (opSet A w v).1)) S1 d') : mC G mX10_set [.ref 0, .int w, .int v] S1 d Q := by
  by_cases h1 : oset w v = 0
  · skip
    rw [show opSet A w v = (eI, A) from opSet_no h1] at hQ
    refine mC_of (by decide +kernel) ⟨_, rfl⟩ (Nat.le_of_ble_eq_true rfl) ?_
    show mM G mX10_set 0 [some (.ref 0), some (.int w), some (.int v), none] [] S1 d (0, 0) Q
    refine m_iload_n (pc' := 1) dX10_set_0 rfl rfl ?_
    refine m_iload_n (pc' := 2) dX10_set_1 rfl rfl ?_
    refine m_callS (pc' := 5) (A := [.int w, .int v]) (rest := []) cl_X10_set_89 dX10_set_2 rfl rfl (Nat.le_of_ble_eq_true rfl) ⟨by decide, by decide⟩ rfl rfl ?_
    refine c_isSetting ?_
    show mM G mX10_set 5 [some (.ref 0), some (.int w), some (.int v), none] [.int (oset w v)] S1 d (0, 0) Q
    rw [show (oset w v) = 0 from h1]
    refine m_if_ne (tgt := 11) (pc' := 8) dX10_set_5 (by decide) rfl (fun h5 => absurd h5 (by decide)) (fun h5 => ?_)
    refine m_ldc (pc' := 10) dX10_set_8 kc_X10_set_59 rfl ?_
    refine m_iret dX10_set_10 rfl rfl ⟨by decide, by decide⟩ ?_
    exact hQ _ fr.rfl hC
  obtain ⟨w, hw, rfl⟩ := oset_w h1
  rw [show opSet A (nI w) v = (a_s A (40 + w), rec A (sU (a_s A) (40 + w) v) (a_h A)) from by rw [opSet_yes h1, nn_nI (by omega)]] at hQ
  refine mC_of (by decide +kernel) ⟨_, rfl⟩ (Nat.le_of_ble_eq_true rfl) ?_
  show mM G mX10_set 0 [some (.ref 0), some (.int (nI w)), some (.int v), none] [] S1 d (0, 0) Q
  refine m_iload_n (pc' := 1) dX10_set_0 rfl rfl ?_
  refine m_iload_n (pc' := 2) dX10_set_1 rfl rfl ?_
  refine m_callS (pc' := 5) (A := [.int (nI w), .int v]) (rest := []) cl_X10_set_89 dX10_set_2 rfl rfl (Nat.le_of_ble_eq_true rfl) ⟨by decide, by decide⟩ rfl rfl ?_
  refine c_isSetting ?_
  show mM G mX10_set 5 [some (.ref 0), some (.int (nI w)), some (.int v), none] [.int (oset (nI w) v)] S1 d (0, 0) Q
  rw [show (oset (nI w) v) = 1 from (oset_01 _ _).resolve_left h1]
  refine m_if_ne (tgt := 11) (pc' := 8) dX10_set_5 (by decide) rfl (fun h5 => ?_) (fun h5 => absurd h5 (by decide))
  refine m_aload_n (pc' := 12) dX10_set_11 rfl rfl ?_
  refine m_getR (pc' := 15) fa_X10_set_19 dX10_set_12 (by decide) rfl rfl rfl rfl ?_
  refine m_aload_n (pc' := 16) dX10_set_15 rfl rfl ?_
  refine m_getR (pc' := 19) fa_X10_set_10 dX10_set_16 (by decide) rfl rfl rfl rfl ?_
  refine m_callV (pc' := 22) (A := [.ref 1]) (rest := []) (b := 32) cl_X10_set_60 dX10_set_19 rfl rfl (Nat.le_of_ble_eq_true rfl) ⟨by decide, by decide⟩ (by decide) rfl rfl rfl rfl ?_
  refine c_keep hC.1 hC.2.1 hO (fun g g0 gH => ?_)
  show mM G mX10_set 22 [some (.ref 0), some (.int (nI w)), some (.int v), none] [] S1 g (0, 0) Q
  have gC := CR_keep hC g0 gH
  have hS : SR g 2 (a_s A) := gC.1.1
  refine m_aload_n (pc' := 23) dX10_set_22 rfl rfl ?_
  refine m_getR (pc' := 26) fa_X10_set_10 dX10_set_23 (by decide) rfl rfl rfl rfl ?_
  refine m_getR (pc' := 29) fa_X10_set_64 dX10_set_26 (by decide) rfl rfl rfl rfl ?_
  refine m_iload_n (pc' := 30) dX10_set_29 rfl rfl ?_
  refine m_callV (pc' := 33) (A := [.int (nI w)]) (rest := []) (b := 2) cl_X10_set_93 dX10_set_30 rfl rfl (Nat.le_of_ble_eq_true rfl) ⟨by decide, by decide⟩ (by decide) rfl rfl rfl rfl ?_
  refine c_setting (w := w) (s := a_s A) (by decide) hS hw ?_
  show mM G mX10_set 33 [some (.ref 0), some (.int (nI w)), some (.int v), none] [.int (a_s A (40 + w))] S1 g (0, 0) Q
  refine m_istore_n (pc' := 34) dX10_set_33 (by decide) rfl rfl ?_
  refine m_aload_n (pc' := 35) dX10_set_34 rfl rfl ?_
  refine m_getR (pc' := 38) fa_X10_set_10 dX10_set_35 (by decide) rfl rfl rfl rfl ?_
  refine m_getR (pc' := 41) fa_X10_set_64 dX10_set_38 (by decide) rfl rfl rfl rfl ?_
  refine m_getR (pc' := 44) fa_X10_set_97 dX10_set_41 (by decide) rfl rfl rfl rfl ?_
  refine m_iload_n (pc' := 45) dX10_set_44 rfl rfl ?_
  refine m_iconst (pc' := 46) (v := 0) dX10_set_45 (by decide) rfl ?_
  refine m_iload_n (pc' := 47) dX10_set_46 rfl rfl ?_
  refine m_callV (pc' := 50) (A := [.int (nI w), .int 0, .int v]) (rest := []) (b := 7) cl_X10_set_85 dX10_set_47 rfl rfl (Nat.le_of_ble_eq_true rfl) ⟨by decide, by decide⟩ (by decide) rfl rfl rfl rfl ?_
  refine c_putN (t := 7) (W := 1) (L := 3) (a := w) (b := 0) (k := w) (isT_lit (by decide +kernel)) (by decide) (by omega) (by omega) ?_
  show mM G mX10_set 50 [some (.ref 0), some (.int (nI w)), some (.int v), some (.int (a_s A (40 + w)))] [] S1 (u2 g.1 8 w v, g.2) (0, 0) Q
  refine m_iload_n (pc' := 51) dX10_set_50 rfl rfl ?_
  refine m_iret dX10_set_51 rfl rfl ⟨by decide, by decide⟩ ?_
  have f0 : fr (suE 2) nE g (u2 g.1 8 w v, g.2) := fr.i fr.rfl _ (Or.inr (Or.inr (Or.inl rfl)))
  exact hQ _ ((kp_cf g0).trans (su_cf f0)) (CR_su (s := a_s A) gC f0 (hS.st hw rfl) (fun j hj => sU_ne _ _ (by omega)))
set_option maxHeartbeats 4000000 in
set_option maxRecDepth 100000 in
theorem k_addEntry {A : AS} {p q b : Int32} (hC : CR d A) (hO : OK A) (hQ : ∀ d', cfr d d' → CR d' (opAdd A p q b).2 → Q (some (.int (opAdd A p q b).1)) S1 d') : mC G mX10_addEntry [.ref 0, .int p, .int q, .int b] S1 d Q := by
  by_cases h1 : bin p 0 9 = 0
  · skip
    rw [show opAdd A p q b = (eI, A) from if_pos (Or.inl h1)] at hQ
    refine mC_of (by decide +kernel) ⟨_, rfl⟩ (Nat.le_of_ble_eq_true rfl) ?_
    show mM G mX10_addEntry 0 [some (.ref 0), some (.int p), some (.int q), some (.int b), none] [] S1 d (0, 0) Q
    refine m_aload_n (pc' := 1) dX10_addEntry_0 rfl rfl ?_
    refine m_getR (pc' := 4) fa_X10_addEntry_10 dX10_addEntry_1 (by decide) rfl rfl rfl rfl ?_
    refine m_getR (pc' := 7) fa_X10_addEntry_64 dX10_addEntry_4 (by decide) rfl rfl rfl rfl ?_
    refine m_getI (pc' := 10) fa_X10_addEntry_100 dX10_addEntry_7 (by decide) rfl rfl rfl ?_
    rw [show (d.1 2 3) = (a_s A 43) from hC.1.1.2.2.2]
    refine m_istore (pc' := 12) dX10_addEntry_10 (by decide) rfl rfl ?_
    refine m_iload_n (pc' := 13) dX10_addEntry_12 rfl rfl ?_
    refine m_iconst (pc' := 14) (v := 0) dX10_addEntry_13 (by decide) rfl ?_
    refine m_bipush (pc' := 16) (v := 9) dX10_addEntry_14 (by decide) rfl ?_
    refine m_callS (pc' := 19) (A := [.int p, .int 0, .int 9]) (rest := []) cl_X10_addEntry_81 dX10_addEntry_16 rfl rfl (Nat.le_of_ble_eq_true rfl) ⟨by decide, by decide⟩ rfl rfl ?_
    refine c_within ?_
    show mM G mX10_addEntry 19 [some (.ref 0), some (.int p), some (.int q), some (.int b), some (.int (a_s A 43))] [.int (bin p 0 9)] S1 d (0, 0) Q
    rw [show (bin p 0 9) = 0 from h1]
    refine m_if_eq (tgt := 39) (pc' := 22) dX10_addEntry_19 (by decide) rfl (fun h19 => ?_) (fun h19 => absurd h19 (by decide))
    refine m_ldc (pc' := 41) dX10_addEntry_39 kc_X10_addEntry_59 rfl ?_
    refine m_iret dX10_addEntry_41 rfl rfl ⟨by decide, by decide⟩ ?_
    exact hQ _ fr.rfl hC
  by_cases h2 : bin q 0 7 = 0
  · skip
    rw [show opAdd A p q b = (eI, A) from if_pos (Or.inr (Or.inl h2))] at hQ
    refine mC_of (by decide +kernel) ⟨_, rfl⟩ (Nat.le_of_ble_eq_true rfl) ?_
    show mM G mX10_addEntry 0 [some (.ref 0), some (.int p), some (.int q), some (.int b), none] [] S1 d (0, 0) Q
    refine m_aload_n (pc' := 1) dX10_addEntry_0 rfl rfl ?_
    refine m_getR (pc' := 4) fa_X10_addEntry_10 dX10_addEntry_1 (by decide) rfl rfl rfl rfl ?_
    refine m_getR (pc' := 7) fa_X10_addEntry_64 dX10_addEntry_4 (by decide) rfl rfl rfl rfl ?_
    refine m_getI (pc' := 10) fa_X10_addEntry_100 dX10_addEntry_7 (by decide) rfl rfl rfl ?_
    rw [show (d.1 2 3) = (a_s A 43) from hC.1.1.2.2.2]
    refine m_istore (pc' := 12) dX10_addEntry_10 (by decide) rfl rfl ?_
    refine m_iload_n (pc' := 13) dX10_addEntry_12 rfl rfl ?_
    refine m_iconst (pc' := 14) (v := 0) dX10_addEntry_13 (by decide) rfl ?_
    refine m_bipush (pc' := 16) (v := 9) dX10_addEntry_14 (by decide) rfl ?_
    refine m_callS (pc' := 19) (A := [.int p, .int 0, .int 9]) (rest := []) cl_X10_addEntry_81 dX10_addEntry_16 rfl rfl (Nat.le_of_ble_eq_true rfl) ⟨by decide, by decide⟩ rfl rfl ?_
    refine c_within ?_
    show mM G mX10_addEntry 19 [some (.ref 0), some (.int p), some (.int q), some (.int b), some (.int (a_s A 43))] [.int (bin p 0 9)] S1 d (0, 0) Q
    rw [show (bin p 0 9) = 1 from bin_1 h1]
    refine m_if_eq (tgt := 39) (pc' := 22) dX10_addEntry_19 (by decide) rfl (fun h19 => absurd h19 (by decide)) (fun h19 => ?_)
    refine m_iload_n (pc' := 23) dX10_addEntry_22 rfl rfl ?_
    refine m_callS (pc' := 26) (A := [.int q]) (rest := []) cl_X10_addEntry_104 dX10_addEntry_23 rfl rfl (Nat.le_of_ble_eq_true rfl) ⟨by decide, by decide⟩ rfl rfl ?_
    refine c_isSettle ?_
    show mM G mX10_addEntry 26 [some (.ref 0), some (.int p), some (.int q), some (.int b), some (.int (a_s A 43))] [.int (bin q 0 7)] S1 d (0, 0) Q
    rw [show (bin q 0 7) = 0 from h2]
    refine m_if_eq (tgt := 39) (pc' := 29) dX10_addEntry_26 (by decide) rfl (fun h26 => ?_) (fun h26 => absurd h26 (by decide))
    refine m_ldc (pc' := 41) dX10_addEntry_39 kc_X10_addEntry_59 rfl ?_
    refine m_iret dX10_addEntry_41 rfl rfl ⟨by decide, by decide⟩ ?_
    exact hQ _ fr.rfl hC
  by_cases h3 : bin b 0 (a_s A 43) = 0
  · skip
    rw [show opAdd A p q b = (eI, A) from if_pos (Or.inr (Or.inr h3))] at hQ
    refine mC_of (by decide +kernel) ⟨_, rfl⟩ (Nat.le_of_ble_eq_true rfl) ?_
    show mM G mX10_addEntry 0 [some (.ref 0), some (.int p), some (.int q), some (.int b), none] [] S1 d (0, 0) Q
    refine m_aload_n (pc' := 1) dX10_addEntry_0 rfl rfl ?_
    refine m_getR (pc' := 4) fa_X10_addEntry_10 dX10_addEntry_1 (by decide) rfl rfl rfl rfl ?_
    refine m_getR (pc' := 7) fa_X10_addEntry_64 dX10_addEntry_4 (by decide) rfl rfl rfl rfl ?_
    refine m_getI (pc' := 10) fa_X10_addEntry_100 dX10_addEntry_7 (by decide) rfl rfl rfl ?_
    rw [show (d.1 2 3) = (a_s A 43) from hC.1.1.2.2.2]
    refine m_istore (pc' := 12) dX10_addEntry_10 (by decide) rfl rfl ?_
    refine m_iload_n (pc' := 13) dX10_addEntry_12 rfl rfl ?_
    refine m_iconst (pc' := 14) (v := 0) dX10_addEntry_13 (by decide) rfl ?_
    refine m_bipush (pc' := 16) (v := 9) dX10_addEntry_14 (by decide) rfl ?_
    refine m_callS (pc' := 19) (A := [.int p, .int 0, .int 9]) (rest := []) cl_X10_addEntry_81 dX10_addEntry_16 rfl rfl (Nat.le_of_ble_eq_true rfl) ⟨by decide, by decide⟩ rfl rfl ?_
    refine c_within ?_
    show mM G mX10_addEntry 19 [some (.ref 0), some (.int p), some (.int q), some (.int b), some (.int (a_s A 43))] [.int (bin p 0 9)] S1 d (0, 0) Q
    rw [show (bin p 0 9) = 1 from bin_1 h1]
    refine m_if_eq (tgt := 39) (pc' := 22) dX10_addEntry_19 (by decide) rfl (fun h19 => absurd h19 (by decide)) (fun h19 => ?_)
    refine m_iload_n (pc' := 23) dX10_addEntry_22 rfl rfl ?_
    refine m_callS (pc' := 26) (A := [.int q]) (rest := []) cl_X10_addEntry_104 dX10_addEntry_23 rfl rfl (Nat.le_of_ble_eq_true rfl) ⟨by decide, by decide⟩ rfl rfl ?_
    refine c_isSettle ?_
    show mM G mX10_addEntry 26 [some (.ref 0), some (.int p), some (.int q), some (.int b), some (.int (a_s A 43))] [.int (bin q 0 7)] S1 d (0, 0) Q
    rw [show (bin q 0 7) = 1 from bin_1 h2]
    refine m_if_eq (tgt := 39) (pc' := 29) dX10_addEntry_26 (by decide) rfl (fun h26 => absurd h26 (by decide)) (fun h26 => ?_)
    refine m_iload_n (pc' := 30) dX10_addEntry_29 rfl rfl ?_
    refine m_iconst (pc' := 31) (v := 0) dX10_addEntry_30 (by decide) rfl ?_
    refine m_iload (pc' := 33) dX10_addEntry_31 rfl rfl ?_
    refine m_callS (pc' := 36) (A := [.int b, .int 0, .int (a_s A 43)]) (rest := []) cl_X10_addEntry_81 dX10_addEntry_33 rfl rfl (Nat.le_of_ble_eq_true rfl) ⟨by decide, by decide⟩ rfl rfl ?_
    refine c_within ?_
    show mM G mX10_addEntry 36 [some (.ref 0), some (.int p), some (.int q), some (.int b), some (.int (a_s A 43))] [.int (bin b 0 (a_s A 43))] S1 d (0, 0) Q
    rw [show (bin b 0 (a_s A 43)) = 0 from h3]
    refine m_if_ne (tgt := 42) (pc' := 39) dX10_addEntry_36 (by decide) rfl (fun h36 => absurd h36 (by decide)) (fun h36 => ?_)
    refine m_ldc (pc' := 41) dX10_addEntry_39 kc_X10_addEntry_59 rfl ?_
    refine m_iret dX10_addEntry_41 rfl rfl ⟨by decide, by decide⟩ ?_
    exact hQ _ fr.rfl hC
  obtain ⟨n, hl⟩ := hO.l
  have e43 := hl.2.1
  have hn16 := hl.1
  have hx : ¬ (bin p 0 9 = 0 ∨ bin q 0 7 = 0 ∨ bin b 0 (a_s A 43) = 0) := not_or.mpr ⟨h1, not_or.mpr ⟨h2, h3⟩⟩
  by_cases h4 : a_s A 43 = 16
  · skip
    rw [show opAdd A p q b = (eC, A) from by unfold opAdd; rw [if_neg hx, if_pos h4]] at hQ
    refine mC_of (by decide +kernel) ⟨_, rfl⟩ (Nat.le_of_ble_eq_true rfl) ?_
    show mM G mX10_addEntry 0 [some (.ref 0), some (.int p), some (.int q), some (.int b), none] [] S1 d (0, 0) Q
    refine m_aload_n (pc' := 1) dX10_addEntry_0 rfl rfl ?_
    refine m_getR (pc' := 4) fa_X10_addEntry_10 dX10_addEntry_1 (by decide) rfl rfl rfl rfl ?_
    refine m_getR (pc' := 7) fa_X10_addEntry_64 dX10_addEntry_4 (by decide) rfl rfl rfl rfl ?_
    refine m_getI (pc' := 10) fa_X10_addEntry_100 dX10_addEntry_7 (by decide) rfl rfl rfl ?_
    rw [show (d.1 2 3) = (a_s A 43) from hC.1.1.2.2.2]
    refine m_istore (pc' := 12) dX10_addEntry_10 (by decide) rfl rfl ?_
    refine m_iload_n (pc' := 13) dX10_addEntry_12 rfl rfl ?_
    refine m_iconst (pc' := 14) (v := 0) dX10_addEntry_13 (by decide) rfl ?_
    refine m_bipush (pc' := 16) (v := 9) dX10_addEntry_14 (by decide) rfl ?_
    refine m_callS (pc' := 19) (A := [.int p, .int 0, .int 9]) (rest := []) cl_X10_addEntry_81 dX10_addEntry_16 rfl rfl (Nat.le_of_ble_eq_true rfl) ⟨by decide, by decide⟩ rfl rfl ?_
    refine c_within ?_
    show mM G mX10_addEntry 19 [some (.ref 0), some (.int p), some (.int q), some (.int b), some (.int (a_s A 43))] [.int (bin p 0 9)] S1 d (0, 0) Q
    rw [show (bin p 0 9) = 1 from bin_1 h1]
    refine m_if_eq (tgt := 39) (pc' := 22) dX10_addEntry_19 (by decide) rfl (fun h19 => absurd h19 (by decide)) (fun h19 => ?_)
    refine m_iload_n (pc' := 23) dX10_addEntry_22 rfl rfl ?_
    refine m_callS (pc' := 26) (A := [.int q]) (rest := []) cl_X10_addEntry_104 dX10_addEntry_23 rfl rfl (Nat.le_of_ble_eq_true rfl) ⟨by decide, by decide⟩ rfl rfl ?_
    refine c_isSettle ?_
    show mM G mX10_addEntry 26 [some (.ref 0), some (.int p), some (.int q), some (.int b), some (.int (a_s A 43))] [.int (bin q 0 7)] S1 d (0, 0) Q
    rw [show (bin q 0 7) = 1 from bin_1 h2]
    refine m_if_eq (tgt := 39) (pc' := 29) dX10_addEntry_26 (by decide) rfl (fun h26 => absurd h26 (by decide)) (fun h26 => ?_)
    refine m_iload_n (pc' := 30) dX10_addEntry_29 rfl rfl ?_
    refine m_iconst (pc' := 31) (v := 0) dX10_addEntry_30 (by decide) rfl ?_
    refine m_iload (pc' := 33) dX10_addEntry_31 rfl rfl ?_
    refine m_callS (pc' := 36) (A := [.int b, .int 0, .int (a_s A 43)]) (rest := []) cl_X10_addEntry_81 dX10_addEntry_33 rfl rfl (Nat.le_of_ble_eq_true rfl) ⟨by decide, by decide⟩ rfl rfl ?_
    refine c_within ?_
    show mM G mX10_addEntry 36 [some (.ref 0), some (.int p), some (.int q), some (.int b), some (.int (a_s A 43))] [.int (bin b 0 (a_s A 43))] S1 d (0, 0) Q
    rw [show (bin b 0 (a_s A 43)) = 1 from bin_1 h3]
    refine m_if_ne (tgt := 42) (pc' := 39) dX10_addEntry_36 (by decide) rfl (fun h36 => ?_) (fun h36 => absurd h36 (by decide))
    refine m_iload (pc' := 44) dX10_addEntry_42 rfl rfl ?_
    refine m_bipush (pc' := 46) (v := 16) dX10_addEntry_44 (by decide) rfl ?_
    refine m_icmp_lt (tgt := 52) (pc' := 49) dX10_addEntry_46 (by decide) rfl (fun h46 => absurd h46 (by rw [h4]; decide)) (fun h46 => ?_)
    refine m_ldc (pc' := 51) dX10_addEntry_49 kc_X10_addEntry_107 rfl ?_
    refine m_iret dX10_addEntry_51 rfl rfl ⟨by decide, by decide⟩ ?_
    exact hQ _ fr.rfl hC
  have hn15 : n < 16 := by
    have : n ≠ 16 := fun h => h4 (by rw [e43, h]; rfl)
    omega
  obtain ⟨b, hbn, rfl⟩ := bin_t (b := n) (by omega) (by rw [← e43]; exact h3)
  rw [show opAdd A p q (nI b) = (nI (n + 1), rec A (ins (a_s A) n b p q) (a_h A)) from by unfold opAdd; rw [if_neg hx, if_neg h4, e43, nn_nI (by omega), nn_nI (by omega)]] at hQ
  refine mC_of (by decide +kernel) ⟨_, rfl⟩ (Nat.le_of_ble_eq_true rfl) ?_
  show mM G mX10_addEntry 0 [some (.ref 0), some (.int p), some (.int q), some (.int (nI b)), none] [] S1 d (0, 0) Q
  refine m_aload_n (pc' := 1) dX10_addEntry_0 rfl rfl ?_
  refine m_getR (pc' := 4) fa_X10_addEntry_10 dX10_addEntry_1 (by decide) rfl rfl rfl rfl ?_
  refine m_getR (pc' := 7) fa_X10_addEntry_64 dX10_addEntry_4 (by decide) rfl rfl rfl rfl ?_
  refine m_getI (pc' := 10) fa_X10_addEntry_100 dX10_addEntry_7 (by decide) rfl rfl rfl ?_
  rw [show (d.1 2 3) = (a_s A 43) from hC.1.1.2.2.2]
  refine m_istore (pc' := 12) dX10_addEntry_10 (by decide) rfl rfl ?_
  refine m_iload_n (pc' := 13) dX10_addEntry_12 rfl rfl ?_
  refine m_iconst (pc' := 14) (v := 0) dX10_addEntry_13 (by decide) rfl ?_
  refine m_bipush (pc' := 16) (v := 9) dX10_addEntry_14 (by decide) rfl ?_
  refine m_callS (pc' := 19) (A := [.int p, .int 0, .int 9]) (rest := []) cl_X10_addEntry_81 dX10_addEntry_16 rfl rfl (Nat.le_of_ble_eq_true rfl) ⟨by decide, by decide⟩ rfl rfl ?_
  refine c_within ?_
  show mM G mX10_addEntry 19 [some (.ref 0), some (.int p), some (.int q), some (.int (nI b)), some (.int (a_s A 43))] [.int (bin p 0 9)] S1 d (0, 0) Q
  rw [show (bin p 0 9) = 1 from bin_1 h1]
  refine m_if_eq (tgt := 39) (pc' := 22) dX10_addEntry_19 (by decide) rfl (fun h19 => absurd h19 (by decide)) (fun h19 => ?_)
  refine m_iload_n (pc' := 23) dX10_addEntry_22 rfl rfl ?_
  refine m_callS (pc' := 26) (A := [.int q]) (rest := []) cl_X10_addEntry_104 dX10_addEntry_23 rfl rfl (Nat.le_of_ble_eq_true rfl) ⟨by decide, by decide⟩ rfl rfl ?_
  refine c_isSettle ?_
  show mM G mX10_addEntry 26 [some (.ref 0), some (.int p), some (.int q), some (.int (nI b)), some (.int (a_s A 43))] [.int (bin q 0 7)] S1 d (0, 0) Q
  rw [show (bin q 0 7) = 1 from bin_1 h2]
  refine m_if_eq (tgt := 39) (pc' := 29) dX10_addEntry_26 (by decide) rfl (fun h26 => absurd h26 (by decide)) (fun h26 => ?_)
  refine m_iload_n (pc' := 30) dX10_addEntry_29 rfl rfl ?_
  refine m_iconst (pc' := 31) (v := 0) dX10_addEntry_30 (by decide) rfl ?_
  refine m_iload (pc' := 33) dX10_addEntry_31 rfl rfl ?_
  refine m_callS (pc' := 36) (A := [.int (nI b), .int 0, .int (a_s A 43)]) (rest := []) cl_X10_addEntry_81 dX10_addEntry_33 rfl rfl (Nat.le_of_ble_eq_true rfl) ⟨by decide, by decide⟩ rfl rfl ?_
  refine c_within ?_
  show mM G mX10_addEntry 36 [some (.ref 0), some (.int p), some (.int q), some (.int (nI b)), some (.int (a_s A 43))] [.int (bin (nI b) 0 (a_s A 43))] S1 d (0, 0) Q
  rw [show (bin (nI b) 0 (a_s A 43)) = 1 from bin_1 h3]
  refine m_if_ne (tgt := 42) (pc' := 39) dX10_addEntry_36 (by decide) rfl (fun h36 => ?_) (fun h36 => absurd h36 (by decide))
  refine m_iload (pc' := 44) dX10_addEntry_42 rfl rfl ?_
  refine m_bipush (pc' := 46) (v := 16) dX10_addEntry_44 (by decide) rfl ?_
  refine m_icmp_lt (tgt := 52) (pc' := 49) dX10_addEntry_46 (by decide) rfl (fun h46 => ?_) (fun h46 => (h46 (by rw [e43]; exact nI_lt (b := 16) hn15 (by decide))).elim)
  refine m_aload_n (pc' := 53) dX10_addEntry_52 rfl rfl ?_
  refine m_getR (pc' := 56) fa_X10_addEntry_19 dX10_addEntry_53 (by decide) rfl rfl rfl rfl ?_
  refine m_aload_n (pc' := 57) dX10_addEntry_56 rfl rfl ?_
  refine m_getR (pc' := 60) fa_X10_addEntry_10 dX10_addEntry_57 (by decide) rfl rfl rfl rfl ?_
  refine m_callV (pc' := 63) (A := [.ref 1]) (rest := []) (b := 32) cl_X10_addEntry_60 dX10_addEntry_60 rfl rfl (Nat.le_of_ble_eq_true rfl) ⟨by decide, by decide⟩ (by decide) rfl rfl rfl rfl ?_
  refine c_keep hC.1 hC.2.1 hO (fun g g0 gH => ?_)
  show mM G mX10_addEntry 63 [some (.ref 0), some (.int p), some (.int q), some (.int (nI b)), some (.int (a_s A 43))] [] S1 g (0, 0) Q
  have gC := CR_keep hC g0 gH
  have hS : SR g 2 (a_s A) := gC.1.1
  refine m_aload_n (pc' := 64) dX10_addEntry_63 rfl rfl ?_
  refine m_getR (pc' := 67) fa_X10_addEntry_10 dX10_addEntry_64 (by decide) rfl rfl rfl rfl ?_
  refine m_getR (pc' := 70) fa_X10_addEntry_64 dX10_addEntry_67 (by decide) rfl rfl rfl rfl ?_
  refine m_iload_n (pc' := 71) dX10_addEntry_70 rfl rfl ?_
  refine m_iload_n (pc' := 72) dX10_addEntry_71 rfl rfl ?_
  refine m_iload_n (pc' := 73) dX10_addEntry_72 rfl rfl ?_
  refine m_callV (pc' := 76) (A := [.int p, .int q, .int (nI b)]) (rest := []) (b := 2) cl_X10_addEntry_108 dX10_addEntry_73 rfl rfl (Nat.le_of_ble_eq_true rfl) ⟨by decide, by decide⟩ (by decide) rfl rfl rfl rfl ?_
  refine c_insert (n := n) (b := b) (s := a_s A) (by decide) hS e43 hbn (by omega) (fun f f0 fS => ?_)
  show mM G mX10_addEntry 76 [some (.ref 0), some (.int p), some (.int q), some (.int (nI b)), some (.int (a_s A 43))] [] S1 f (0, 0) Q
  refine m_aload_n (pc' := 77) dX10_addEntry_76 rfl rfl ?_
  refine m_getR (pc' := 80) fa_X10_addEntry_10 dX10_addEntry_77 (by decide) rfl rfl rfl rfl ?_
  refine m_getR (pc' := 83) fa_X10_addEntry_64 dX10_addEntry_80 (by decide) rfl rfl rfl rfl ?_
  refine m_getI (pc' := 86) fa_X10_addEntry_100 dX10_addEntry_83 (by decide) rfl rfl rfl ?_
  rw [show (f.1 2 3) = (nI (n + 1)) from fS.2.2.2.trans (if_pos rfl : ins (a_s A) n b p q 43 = nI (n + 1))]
  refine m_iret dX10_addEntry_86 rfl rfl ⟨by decide, by decide⟩ ?_
  exact hQ f ((kp_cf g0).trans (su_cf f0)) (CR_su (s := a_s A) gC f0 fS (fun j hj => by unfold ins; rw [if_neg (by omega), if_neg (by omega), if_neg (by omega), if_neg (by omega)]))
set_option maxHeartbeats 4000000 in
set_option maxRecDepth 100000 in
theorem k_removeEntry {A : AS} {x : Int32} (hC : CR d A) (hO : OK A) (hQ : ∀ d', cfr d d' → CR d' (opRem A x).2 → Q (some (.int (opRem A x).1)) S1 d') : mC G mX10_removeEntry [.ref 0, .int x] S1 d Q := by
  by_cases h1 : bin x 0 (a_s A 43 - 1) = 0
  · skip
    rw [show opRem A x = (eI, A) from if_pos h1] at hQ
    refine mC_of (by decide +kernel) ⟨_, rfl⟩ (Nat.le_of_ble_eq_true rfl) ?_
    show mM G mX10_removeEntry 0 [some (.ref 0), some (.int x)] [] S1 d (0, 0) Q
    refine m_aload_n (pc' := 1) dX10_removeEntry_0 rfl rfl ?_
    refine m_iload_n (pc' := 2) dX10_removeEntry_1 rfl rfl ?_
    refine m_callV (pc' := 5) (A := [.int x]) (rest := []) (b := 0) cl_X10_removeEntry_111 dX10_removeEntry_2 rfl rfl (Nat.le_of_ble_eq_true rfl) ⟨by decide, by decide⟩ (by decide) rfl rfl rfl rfl ?_
    refine c_isEntry (s := a_s A) hC.1.1.2.2.2 ?_
    show mM G mX10_removeEntry 5 [some (.ref 0), some (.int x)] [.int (bin x 0 (a_s A 43 - 1))] S1 d (0, 0) Q
    rw [show (bin x 0 (a_s A 43 - 1)) = 0 from h1]
    refine m_if_ne (tgt := 11) (pc' := 8) dX10_removeEntry_5 (by decide) rfl (fun h5 => absurd h5 (by decide)) (fun h5 => ?_)
    refine m_ldc (pc' := 10) dX10_removeEntry_8 kc_X10_removeEntry_59 rfl ?_
    refine m_iret dX10_removeEntry_10 rfl rfl ⟨by decide, by decide⟩ ?_
    exact hQ _ fr.rfl hC
  obtain ⟨n, hl⟩ := hO.l
  have e43 := hl.2.1
  have hn16 := hl.1
  obtain ⟨x, hxn, rfl⟩ := bin_e (n := n) (by omega) (by rw [← e43]; exact h1)
  rw [show opRem A (nI x) = (nI (n - 1), rec A (rem (a_s A) n x) (a_h A)) from by unfold opRem; rw [if_neg h1, e43, nn_nI (by omega), nn_nI (by omega)]] at hQ
  refine mC_of (by decide +kernel) ⟨_, rfl⟩ (Nat.le_of_ble_eq_true rfl) ?_
  show mM G mX10_removeEntry 0 [some (.ref 0), some (.int (nI x))] [] S1 d (0, 0) Q
  refine m_aload_n (pc' := 1) dX10_removeEntry_0 rfl rfl ?_
  refine m_iload_n (pc' := 2) dX10_removeEntry_1 rfl rfl ?_
  refine m_callV (pc' := 5) (A := [.int (nI x)]) (rest := []) (b := 0) cl_X10_removeEntry_111 dX10_removeEntry_2 rfl rfl (Nat.le_of_ble_eq_true rfl) ⟨by decide, by decide⟩ (by decide) rfl rfl rfl rfl ?_
  refine c_isEntry (s := a_s A) hC.1.1.2.2.2 ?_
  show mM G mX10_removeEntry 5 [some (.ref 0), some (.int (nI x))] [.int (bin (nI x) 0 (a_s A 43 - 1))] S1 d (0, 0) Q
  rw [show (bin (nI x) 0 (a_s A 43 - 1)) = 1 from bin_1 h1]
  refine m_if_ne (tgt := 11) (pc' := 8) dX10_removeEntry_5 (by decide) rfl (fun h5 => ?_) (fun h5 => absurd h5 (by decide))
  refine m_aload_n (pc' := 12) dX10_removeEntry_11 rfl rfl ?_
  refine m_getR (pc' := 15) fa_X10_removeEntry_19 dX10_removeEntry_12 (by decide) rfl rfl rfl rfl ?_
  refine m_aload_n (pc' := 16) dX10_removeEntry_15 rfl rfl ?_
  refine m_getR (pc' := 19) fa_X10_removeEntry_10 dX10_removeEntry_16 (by decide) rfl rfl rfl rfl ?_
  refine m_callV (pc' := 22) (A := [.ref 1]) (rest := []) (b := 32) cl_X10_removeEntry_60 dX10_removeEntry_19 rfl rfl (Nat.le_of_ble_eq_true rfl) ⟨by decide, by decide⟩ (by decide) rfl rfl rfl rfl ?_
  refine c_keep hC.1 hC.2.1 hO (fun g g0 gH => ?_)
  show mM G mX10_removeEntry 22 [some (.ref 0), some (.int (nI x))] [] S1 g (0, 0) Q
  have gC := CR_keep hC g0 gH
  have hS : SR g 2 (a_s A) := gC.1.1
  refine m_aload_n (pc' := 23) dX10_removeEntry_22 rfl rfl ?_
  refine m_getR (pc' := 26) fa_X10_removeEntry_10 dX10_removeEntry_23 (by decide) rfl rfl rfl rfl ?_
  refine m_getR (pc' := 29) fa_X10_removeEntry_64 dX10_removeEntry_26 (by decide) rfl rfl rfl rfl ?_
  refine m_iload_n (pc' := 30) dX10_removeEntry_29 rfl rfl ?_
  refine m_callV (pc' := 33) (A := [.int (nI x)]) (rest := []) (b := 2) cl_X10_removeEntry_114 dX10_removeEntry_30 rfl rfl (Nat.le_of_ble_eq_true rfl) ⟨by decide, by decide⟩ (by decide) rfl rfl rfl rfl ?_
  refine c_removeAt (n := n) (e := x) (s := a_s A) (by decide) hS e43 hxn hn16 (fun f f0 fS => ?_)
  show mM G mX10_removeEntry 33 [some (.ref 0), some (.int (nI x))] [] S1 f (0, 0) Q
  refine m_aload_n (pc' := 34) dX10_removeEntry_33 rfl rfl ?_
  refine m_getR (pc' := 37) fa_X10_removeEntry_10 dX10_removeEntry_34 (by decide) rfl rfl rfl rfl ?_
  refine m_getR (pc' := 40) fa_X10_removeEntry_64 dX10_removeEntry_37 (by decide) rfl rfl rfl rfl ?_
  refine m_getI (pc' := 43) fa_X10_removeEntry_100 dX10_removeEntry_40 (by decide) rfl rfl rfl ?_
  rw [show (f.1 2 3) = (nI (n - 1)) from fS.2.2.2.trans (if_pos rfl : rem (a_s A) n x 43 = nI (n - 1))]
  refine m_iret dX10_removeEntry_43 rfl rfl ⟨by decide, by decide⟩ ?_
  exact hQ f ((kp_cf g0).trans (su_cf f0)) (CR_su (s := a_s A) gC f0 fS (fun j hj => by unfold rem; rw [if_neg (by omega), if_neg (by omega)]))
set_option maxHeartbeats 4000000 in
set_option maxRecDepth 100000 in
theorem k_setSettle {A : AS} {x q : Int32} (hC : CR d A) (hO : OK A) (hQ : ∀ d', cfr d d' → CR d' (opSettle A x q).2 → Q (some (.int (opSettle A x q).1)) S1 d') : mC G mX10_setSettle [.ref 0, .int x, .int q] S1 d Q := by
  by_cases h1 : bin x 0 (a_s A 43 - 1) = 0
  · skip
    rw [show opSettle A x q = (eI, A) from if_pos (Or.inl h1)] at hQ
    refine mC_of (by decide +kernel) ⟨_, rfl⟩ (Nat.le_of_ble_eq_true rfl) ?_
    show mM G mX10_setSettle 0 [some (.ref 0), some (.int x), some (.int q), none] [] S1 d (0, 0) Q
    refine m_aload_n (pc' := 1) dX10_setSettle_0 rfl rfl ?_
    refine m_iload_n (pc' := 2) dX10_setSettle_1 rfl rfl ?_
    refine m_callV (pc' := 5) (A := [.int x]) (rest := []) (b := 0) cl_X10_setSettle_111 dX10_setSettle_2 rfl rfl (Nat.le_of_ble_eq_true rfl) ⟨by decide, by decide⟩ (by decide) rfl rfl rfl rfl ?_
    refine c_isEntry (s := a_s A) hC.1.1.2.2.2 ?_
    show mM G mX10_setSettle 5 [some (.ref 0), some (.int x), some (.int q), none] [.int (bin x 0 (a_s A 43 - 1))] S1 d (0, 0) Q
    rw [show (bin x 0 (a_s A 43 - 1)) = 0 from h1]
    refine m_if_eq (tgt := 15) (pc' := 8) dX10_setSettle_5 (by decide) rfl (fun h5 => ?_) (fun h5 => absurd h5 (by decide))
    refine m_ldc (pc' := 17) dX10_setSettle_15 kc_X10_setSettle_59 rfl ?_
    refine m_iret dX10_setSettle_17 rfl rfl ⟨by decide, by decide⟩ ?_
    exact hQ _ fr.rfl hC
  by_cases h2 : bin q 0 7 = 0
  · skip
    rw [show opSettle A x q = (eI, A) from if_pos (Or.inr h2)] at hQ
    refine mC_of (by decide +kernel) ⟨_, rfl⟩ (Nat.le_of_ble_eq_true rfl) ?_
    show mM G mX10_setSettle 0 [some (.ref 0), some (.int x), some (.int q), none] [] S1 d (0, 0) Q
    refine m_aload_n (pc' := 1) dX10_setSettle_0 rfl rfl ?_
    refine m_iload_n (pc' := 2) dX10_setSettle_1 rfl rfl ?_
    refine m_callV (pc' := 5) (A := [.int x]) (rest := []) (b := 0) cl_X10_setSettle_111 dX10_setSettle_2 rfl rfl (Nat.le_of_ble_eq_true rfl) ⟨by decide, by decide⟩ (by decide) rfl rfl rfl rfl ?_
    refine c_isEntry (s := a_s A) hC.1.1.2.2.2 ?_
    show mM G mX10_setSettle 5 [some (.ref 0), some (.int x), some (.int q), none] [.int (bin x 0 (a_s A 43 - 1))] S1 d (0, 0) Q
    rw [show (bin x 0 (a_s A 43 - 1)) = 1 from bin_1 h1]
    refine m_if_eq (tgt := 15) (pc' := 8) dX10_setSettle_5 (by decide) rfl (fun h5 => absurd h5 (by decide)) (fun h5 => ?_)
    refine m_iload_n (pc' := 9) dX10_setSettle_8 rfl rfl ?_
    refine m_callS (pc' := 12) (A := [.int q]) (rest := []) cl_X10_setSettle_104 dX10_setSettle_9 rfl rfl (Nat.le_of_ble_eq_true rfl) ⟨by decide, by decide⟩ rfl rfl ?_
    refine c_isSettle ?_
    show mM G mX10_setSettle 12 [some (.ref 0), some (.int x), some (.int q), none] [.int (bin q 0 7)] S1 d (0, 0) Q
    rw [show (bin q 0 7) = 0 from h2]
    refine m_if_ne (tgt := 18) (pc' := 15) dX10_setSettle_12 (by decide) rfl (fun h12 => absurd h12 (by decide)) (fun h12 => ?_)
    refine m_ldc (pc' := 17) dX10_setSettle_15 kc_X10_setSettle_59 rfl ?_
    refine m_iret dX10_setSettle_17 rfl rfl ⟨by decide, by decide⟩ ?_
    exact hQ _ fr.rfl hC
  obtain ⟨n, hl⟩ := hO.l
  have e43 := hl.2.1
  have hn16 := hl.1
  obtain ⟨x, hxn, rfl⟩ := bin_e (n := n) (by omega) (by rw [← e43]; exact h1)
  rw [show opSettle A (nI x) q = (a_s A (45 + 2 * x), rec A (sU (a_s A) (45 + 2 * x) q) (a_h A)) from by unfold opSettle; rw [if_neg (not_or.mpr ⟨h1, h2⟩), nn_nI (by omega)]] at hQ
  refine mC_of (by decide +kernel) ⟨_, rfl⟩ (Nat.le_of_ble_eq_true rfl) ?_
  show mM G mX10_setSettle 0 [some (.ref 0), some (.int (nI x)), some (.int q), none] [] S1 d (0, 0) Q
  refine m_aload_n (pc' := 1) dX10_setSettle_0 rfl rfl ?_
  refine m_iload_n (pc' := 2) dX10_setSettle_1 rfl rfl ?_
  refine m_callV (pc' := 5) (A := [.int (nI x)]) (rest := []) (b := 0) cl_X10_setSettle_111 dX10_setSettle_2 rfl rfl (Nat.le_of_ble_eq_true rfl) ⟨by decide, by decide⟩ (by decide) rfl rfl rfl rfl ?_
  refine c_isEntry (s := a_s A) hC.1.1.2.2.2 ?_
  show mM G mX10_setSettle 5 [some (.ref 0), some (.int (nI x)), some (.int q), none] [.int (bin (nI x) 0 (a_s A 43 - 1))] S1 d (0, 0) Q
  rw [show (bin (nI x) 0 (a_s A 43 - 1)) = 1 from bin_1 h1]
  refine m_if_eq (tgt := 15) (pc' := 8) dX10_setSettle_5 (by decide) rfl (fun h5 => absurd h5 (by decide)) (fun h5 => ?_)
  refine m_iload_n (pc' := 9) dX10_setSettle_8 rfl rfl ?_
  refine m_callS (pc' := 12) (A := [.int q]) (rest := []) cl_X10_setSettle_104 dX10_setSettle_9 rfl rfl (Nat.le_of_ble_eq_true rfl) ⟨by decide, by decide⟩ rfl rfl ?_
  refine c_isSettle ?_
  show mM G mX10_setSettle 12 [some (.ref 0), some (.int (nI x)), some (.int q), none] [.int (bin q 0 7)] S1 d (0, 0) Q
  rw [show (bin q 0 7) = 1 from bin_1 h2]
  refine m_if_ne (tgt := 18) (pc' := 15) dX10_setSettle_12 (by decide) rfl (fun h12 => ?_) (fun h12 => absurd h12 (by decide))
  refine m_aload_n (pc' := 19) dX10_setSettle_18 rfl rfl ?_
  refine m_getR (pc' := 22) fa_X10_setSettle_19 dX10_setSettle_19 (by decide) rfl rfl rfl rfl ?_
  refine m_aload_n (pc' := 23) dX10_setSettle_22 rfl rfl ?_
  refine m_getR (pc' := 26) fa_X10_setSettle_10 dX10_setSettle_23 (by decide) rfl rfl rfl rfl ?_
  refine m_callV (pc' := 29) (A := [.ref 1]) (rest := []) (b := 32) cl_X10_setSettle_60 dX10_setSettle_26 rfl rfl (Nat.le_of_ble_eq_true rfl) ⟨by decide, by decide⟩ (by decide) rfl rfl rfl rfl ?_
  refine c_keep hC.1 hC.2.1 hO (fun g g0 gH => ?_)
  show mM G mX10_setSettle 29 [some (.ref 0), some (.int (nI x)), some (.int q), none] [] S1 g (0, 0) Q
  have gC := CR_keep hC g0 gH
  have hS : SR g 2 (a_s A) := gC.1.1
  refine m_aload_n (pc' := 30) dX10_setSettle_29 rfl rfl ?_
  refine m_getR (pc' := 33) fa_X10_setSettle_10 dX10_setSettle_30 (by decide) rfl rfl rfl rfl ?_
  refine m_getR (pc' := 36) fa_X10_setSettle_64 dX10_setSettle_33 (by decide) rfl rfl rfl rfl ?_
  refine m_getR (pc' := 39) fa_X10_setSettle_118 dX10_setSettle_36 (by decide) rfl rfl rfl rfl ?_
  refine m_iload_n (pc' := 40) dX10_setSettle_39 rfl rfl ?_
  refine m_iconst (pc' := 41) (v := 1) dX10_setSettle_40 (by decide) rfl ?_
  refine m_callV (pc' := 44) (A := [.int (nI x), .int 1]) (rest := []) (b := 5) cl_X10_setSettle_71 dX10_setSettle_41 rfl rfl (Nat.le_of_ble_eq_true rfl) ⟨by decide, by decide⟩ (by decide) rfl rfl rfl rfl ?_
  refine c_atN (t := 5) (W := 2) (L := 32) (a := x) (b := 1) (k := 2 * x + 1) (isT_lit (by decide +kernel)) (by decide) (by omega) (by omega) ?_
  show mM G mX10_setSettle 44 [some (.ref 0), some (.int (nI x)), some (.int q), none] [.int (g.1 6 (2 * x + 1))] S1 g (0, 0) Q
  rw [show (g.1 6 (2 * x + 1)) = (a_s A (45 + 2 * x)) from (hS.2.1 (2 * x + 1) (by omega)).trans (congrArg (a_s A) (by omega))]
  refine m_istore_n (pc' := 45) dX10_setSettle_44 (by decide) rfl rfl ?_
  refine m_aload_n (pc' := 46) dX10_setSettle_45 rfl rfl ?_
  refine m_getR (pc' := 49) fa_X10_setSettle_10 dX10_setSettle_46 (by decide) rfl rfl rfl rfl ?_
  refine m_getR (pc' := 52) fa_X10_setSettle_64 dX10_setSettle_49 (by decide) rfl rfl rfl rfl ?_
  refine m_getR (pc' := 55) fa_X10_setSettle_118 dX10_setSettle_52 (by decide) rfl rfl rfl rfl ?_
  refine m_iload_n (pc' := 56) dX10_setSettle_55 rfl rfl ?_
  refine m_iconst (pc' := 57) (v := 1) dX10_setSettle_56 (by decide) rfl ?_
  refine m_iload_n (pc' := 58) dX10_setSettle_57 rfl rfl ?_
  refine m_callV (pc' := 61) (A := [.int (nI x), .int 1, .int q]) (rest := []) (b := 5) cl_X10_setSettle_85 dX10_setSettle_58 rfl rfl (Nat.le_of_ble_eq_true rfl) ⟨by decide, by decide⟩ (by decide) rfl rfl rfl rfl ?_
  refine c_putN (t := 5) (W := 2) (L := 32) (a := x) (b := 1) (k := 2 * x + 1) (isT_lit (by decide +kernel)) (by decide) (by omega) (by omega) ?_
  show mM G mX10_setSettle 61 [some (.ref 0), some (.int (nI x)), some (.int q), some (.int (a_s A (45 + 2 * x)))] [] S1 (u2 g.1 6 (2 * x + 1) q, g.2) (0, 0) Q
  refine m_iload_n (pc' := 62) dX10_setSettle_61 rfl rfl ?_
  refine m_iret dX10_setSettle_62 rfl rfl ⟨by decide, by decide⟩ ?_
  have f0 : fr (suE 2) nE g (u2 g.1 6 (2 * x + 1) q, g.2) := fr.i fr.rfl _ (Or.inr (Or.inl rfl))
  exact hQ _ ((kp_cf g0).trans (su_cf f0)) (CR_su (s := a_s A) gC f0 (hS.li (by omega) (by omega)) (fun j hj => sU_ne _ _ (by omega)))
end CLS10
