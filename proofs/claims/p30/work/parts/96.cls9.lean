/-! THE CLASS'S OWN CALLS (1) -/
section CLS9
variable {G : GP} {Q : Option Value → Sh → Dt → Prop} {d : Dt}
set_option maxHeartbeats 4000000 in
set_option maxRecDepth 100000 in
theorem c_isCh {c : Int32} (hQ : Q (some (.int (bin c 0 7))) S1 d) : mC G mX10_isChannel [.int c] S1 d Q := by
  refine mC_of (by decide +kernel) ⟨_, rfl⟩ (Nat.le_of_ble_eq_true rfl) ?_
  show mM G mX10_isChannel 0 [some (.int c)] [] S1 d (0, 0) Q
  refine m_iload_n (pc' := 1) dX10_isChannel_0 rfl rfl ?_
  refine m_iconst (pc' := 2) (v := 0) dX10_isChannel_1 (by decide) rfl ?_
  refine m_bipush (pc' := 4) (v := 7) dX10_isChannel_2 (by decide) rfl ?_
  refine m_callS (pc' := 7) (A := [.int c, .int 0, .int 7]) (rest := []) cl_X10_isChannel_81 dX10_isChannel_4 rfl rfl (Nat.le_of_ble_eq_true rfl) ⟨by decide, by decide⟩ rfl rfl ?_
  refine c_within ?_
  show mM G mX10_isChannel 7 [some (.int c)] [.int (bin c 0 7)] S1 d (0, 0) Q
  refine m_iret dX10_isChannel_7 rfl (nar_01 (bin_01 _ _ _)) ⟨by decide, by decide⟩ ?_
  exact hQ
set_option maxHeartbeats 4000000 in
set_option maxRecDepth 100000 in
theorem c_isSettle {c : Int32} (hQ : Q (some (.int (bin c 0 7))) S1 d) : mC G mX10_isSettle [.int c] S1 d Q := by
  refine mC_of (by decide +kernel) ⟨_, rfl⟩ (Nat.le_of_ble_eq_true rfl) ?_
  show mM G mX10_isSettle 0 [some (.int c)] [] S1 d (0, 0) Q
  refine m_iload_n (pc' := 1) dX10_isSettle_0 rfl rfl ?_
  refine m_iconst (pc' := 2) (v := 0) dX10_isSettle_1 (by decide) rfl ?_
  refine m_bipush (pc' := 4) (v := 7) dX10_isSettle_2 (by decide) rfl ?_
  refine m_callS (pc' := 7) (A := [.int c, .int 0, .int 7]) (rest := []) cl_X10_isSettle_81 dX10_isSettle_4 rfl rfl (Nat.le_of_ble_eq_true rfl) ⟨by decide, by decide⟩ rfl rfl ?_
  refine c_within ?_
  show mM G mX10_isSettle 7 [some (.int c)] [.int (bin c 0 7)] S1 d (0, 0) Q
  refine m_iret dX10_isSettle_7 rfl (nar_01 (bin_01 _ _ _)) ⟨by decide, by decide⟩ ?_
  exact hQ
set_option maxHeartbeats 4000000 in
set_option maxRecDepth 100000 in
theorem c_isSnap {c : Int32} (hQ : Q (some (.int (bin c 0 1))) S1 d) : mC G mX10_isSnapshotPlace [.int c] S1 d Q := by
  refine mC_of (by decide +kernel) ⟨_, rfl⟩ (Nat.le_of_ble_eq_true rfl) ?_
  show mM G mX10_isSnapshotPlace 0 [some (.int c)] [] S1 d (0, 0) Q
  refine m_iload_n (pc' := 1) dX10_isSnapshotPlace_0 rfl rfl ?_
  refine m_iconst (pc' := 2) (v := 0) dX10_isSnapshotPlace_1 (by decide) rfl ?_
  refine m_iconst (pc' := 3) (v := 1) dX10_isSnapshotPlace_2 (by decide) rfl ?_
  refine m_callS (pc' := 6) (A := [.int c, .int 0, .int 1]) (rest := []) cl_X10_isSnapshotPlace_81 dX10_isSnapshotPlace_3 rfl rfl (Nat.le_of_ble_eq_true rfl) ⟨by decide, by decide⟩ rfl rfl ?_
  refine c_within ?_
  show mM G mX10_isSnapshotPlace 6 [some (.int c)] [.int (bin c 0 1)] S1 d (0, 0) Q
  refine m_iret dX10_isSnapshotPlace_6 rfl (nar_01 (bin_01 _ _ _)) ⟨by decide, by decide⟩ ?_
  exact hQ
set_option maxHeartbeats 4000000 in
set_option maxRecDepth 100000 in
theorem k_setSource {A : AS} {c k l x p : Int32} (hC : CR d A) (hO : OK A) (hQ : ∀ d', cfr d d' → CR d' (opSetSource A c k l x p).2 → Q (some (.int (opSetSource A c k l x p).1)) S1 d') : mC G mX10_setSource [.ref 0, .int c, .int k, .int l, .int x, .int p] S1 d Q := by
  by_cases h1 : bin c 0 7 = 0
  · skip
    rw [show opSetSource A c k l x p = (eI, A) from if_pos (Or.inl h1)] at hQ
    refine mC_of (by decide +kernel) ⟨_, rfl⟩ (Nat.le_of_ble_eq_true rfl) ?_
    show mM G mX10_setSource 0 [some (.ref 0), some (.int c), some (.int k), some (.int l), some (.int x), some (.int p), none] [] S1 d (0, 0) Q
    refine m_iload_n (pc' := 1) dX10_setSource_0 rfl rfl ?_
    refine m_callS (pc' := 4) (A := [.int c]) (rest := []) cl_X10_setSource_51 dX10_setSource_1 rfl rfl (Nat.le_of_ble_eq_true rfl) ⟨by decide, by decide⟩ rfl rfl ?_
    refine c_isCh ?_
    show mM G mX10_setSource 4 [some (.ref 0), some (.int c), some (.int k), some (.int l), some (.int x), some (.int p), none] [.int (bin c 0 7)] S1 d (0, 0) Q
    rw [show (bin c 0 7) = 0 from h1]
    refine m_if_eq (tgt := 19) (pc' := 7) dX10_setSource_4 (by decide) rfl (fun h4 => ?_) (fun h4 => absurd h4 (by decide))
    refine m_ldc (pc' := 21) dX10_setSource_19 kc_X10_setSource_59 rfl ?_
    refine m_iret dX10_setSource_21 rfl rfl ⟨by decide, by decide⟩ ?_
    exact hQ _ fr.rfl hC
  by_cases h2 : isrc k l x p = 0
  · skip
    rw [show opSetSource A c k l x p = (eI, A) from if_pos (Or.inr h2)] at hQ
    refine mC_of (by decide +kernel) ⟨_, rfl⟩ (Nat.le_of_ble_eq_true rfl) ?_
    show mM G mX10_setSource 0 [some (.ref 0), some (.int c), some (.int k), some (.int l), some (.int x), some (.int p), none] [] S1 d (0, 0) Q
    refine m_iload_n (pc' := 1) dX10_setSource_0 rfl rfl ?_
    refine m_callS (pc' := 4) (A := [.int c]) (rest := []) cl_X10_setSource_51 dX10_setSource_1 rfl rfl (Nat.le_of_ble_eq_true rfl) ⟨by decide, by decide⟩ rfl rfl ?_
    refine c_isCh ?_
    show mM G mX10_setSource 4 [some (.ref 0), some (.int c), some (.int k), some (.int l), some (.int x), some (.int p), none] [.int (bin c 0 7)] S1 d (0, 0) Q
    rw [show (bin c 0 7) = 1 from bin_1 h1]
    refine m_if_eq (tgt := 19) (pc' := 7) dX10_setSource_4 (by decide) rfl (fun h4 => absurd h4 (by decide)) (fun h4 => ?_)
    refine m_iload_n (pc' := 8) dX10_setSource_7 rfl rfl ?_
    refine m_iload_n (pc' := 9) dX10_setSource_8 rfl rfl ?_
    refine m_iload (pc' := 11) dX10_setSource_9 rfl rfl ?_
    refine m_iload (pc' := 13) dX10_setSource_11 rfl rfl ?_
    refine m_callS (pc' := 16) (A := [.int k, .int l, .int x, .int p]) (rest := []) cl_X10_setSource_55 dX10_setSource_13 rfl rfl (Nat.le_of_ble_eq_true rfl) ⟨by decide, by decide⟩ rfl rfl ?_
    refine c_isSource ?_
    show mM G mX10_setSource 16 [some (.ref 0), some (.int c), some (.int k), some (.int l), some (.int x), some (.int p), none] [.int (isrc k l x p)] S1 d (0, 0) Q
    rw [show (isrc k l x p) = 0 from h2]
    refine m_if_ne (tgt := 22) (pc' := 19) dX10_setSource_16 (by decide) rfl (fun h16 => absurd h16 (by decide)) (fun h16 => ?_)
    refine m_ldc (pc' := 21) dX10_setSource_19 kc_X10_setSource_59 rfl ?_
    refine m_iret dX10_setSource_21 rfl rfl ⟨by decide, by decide⟩ ?_
    exact hQ _ fr.rfl hC
  obtain ⟨c, hcn, rfl⟩ := bin_t (b := 7) (by decide) h1
  rw [show opSetSource A (nI c) k l x p = (a_s A (5 * c), rec A (pso (a_s A) c k l x p) (a_h A)) from by unfold opSetSource; rw [if_neg (not_or.mpr ⟨h1, h2⟩), nn_nI (by omega)]] at hQ
  refine mC_of (by decide +kernel) ⟨_, rfl⟩ (Nat.le_of_ble_eq_true rfl) ?_
  show mM G mX10_setSource 0 [some (.ref 0), some (.int (nI c)), some (.int k), some (.int l), some (.int x), some (.int p), none] [] S1 d (0, 0) Q
  refine m_iload_n (pc' := 1) dX10_setSource_0 rfl rfl ?_
  refine m_callS (pc' := 4) (A := [.int (nI c)]) (rest := []) cl_X10_setSource_51 dX10_setSource_1 rfl rfl (Nat.le_of_ble_eq_true rfl) ⟨by decide, by decide⟩ rfl rfl ?_
  refine c_isCh ?_
  show mM G mX10_setSource 4 [some (.ref 0), some (.int (nI c)), some (.int k), some (.int l), some (.int x), some (.int p), none] [.int (bin (nI c) 0 7)] S1 d (0, 0) Q
  rw [show (bin (nI c) 0 7) = 1 from bin_1 h1]
  refine m_if_eq (tgt := 19) (pc' := 7) dX10_setSource_4 (by decide) rfl (fun h4 => absurd h4 (by decide)) (fun h4 => ?_)
  refine m_iload_n (pc' := 8) dX10_setSource_7 rfl rfl ?_
  refine m_iload_n (pc' := 9) dX10_setSource_8 rfl rfl ?_
  refine m_iload (pc' := 11) dX10_setSource_9 rfl rfl ?_
  refine m_iload (pc' := 13) dX10_setSource_11 rfl rfl ?_
  refine m_callS (pc' := 16) (A := [.int k, .int l, .int x, .int p]) (rest := []) cl_X10_setSource_55 dX10_setSource_13 rfl rfl (Nat.le_of_ble_eq_true rfl) ⟨by decide, by decide⟩ rfl rfl ?_
  refine c_isSource ?_
  show mM G mX10_setSource 16 [some (.ref 0), some (.int (nI c)), some (.int k), some (.int l), some (.int x), some (.int p), none] [.int (isrc k l x p)] S1 d (0, 0) Q
  rw [show (isrc k l x p) = 1 from isrc_1 h2]
  refine m_if_ne (tgt := 22) (pc' := 19) dX10_setSource_16 (by decide) rfl (fun h16 => ?_) (fun h16 => absurd h16 (by decide))
  refine m_aload_n (pc' := 23) dX10_setSource_22 rfl rfl ?_
  refine m_getR (pc' := 26) fa_X10_setSource_19 dX10_setSource_23 (by decide) rfl rfl rfl rfl ?_
  refine m_aload_n (pc' := 27) dX10_setSource_26 rfl rfl ?_
  refine m_getR (pc' := 30) fa_X10_setSource_10 dX10_setSource_27 (by decide) rfl rfl rfl rfl ?_
  refine m_callV (pc' := 33) (A := [.ref 1]) (rest := []) (b := 32) cl_X10_setSource_60 dX10_setSource_30 rfl rfl (Nat.le_of_ble_eq_true rfl) ⟨by decide, by decide⟩ (by decide) rfl rfl rfl rfl ?_
  refine c_keep hC.1 hC.2.1 hO (fun g g0 gH => ?_)
  show mM G mX10_setSource 33 [some (.ref 0), some (.int (nI c)), some (.int k), some (.int l), some (.int x), some (.int p), none] [] S1 g (0, 0) Q
  have gC := CR_keep hC g0 gH
  have hS : SR g 2 (a_s A) := gC.1.1
  refine m_aload_n (pc' := 34) dX10_setSource_33 rfl rfl ?_
  refine m_getR (pc' := 37) fa_X10_setSource_10 dX10_setSource_34 (by decide) rfl rfl rfl rfl ?_
  refine m_getR (pc' := 40) fa_X10_setSource_64 dX10_setSource_37 (by decide) rfl rfl rfl rfl ?_
  refine m_getR (pc' := 43) fa_X10_setSource_67 dX10_setSource_40 (by decide) rfl rfl rfl rfl ?_
  refine m_iload_n (pc' := 44) dX10_setSource_43 rfl rfl ?_
  refine m_iconst (pc' := 45) (v := 0) dX10_setSource_44 (by decide) rfl ?_
  refine m_callV (pc' := 48) (A := [.int (nI c), .int 0]) (rest := []) (b := 3) cl_X10_setSource_71 dX10_setSource_45 rfl rfl (Nat.le_of_ble_eq_true rfl) ⟨by decide, by decide⟩ (by decide) rfl rfl rfl rfl ?_
  refine c_atN (t := 3) (W := 5) (L := 40) (a := c) (b := 0) (k := 5 * c) (isT_lit (by decide +kernel)) (by decide) (by omega) (by omega) ?_
  show mM G mX10_setSource 48 [some (.ref 0), some (.int (nI c)), some (.int k), some (.int l), some (.int x), some (.int p), none] [.int (g.1 4 (5 * c))] S1 g (0, 0) Q
  rw [show (g.1 4 (5 * c)) = (a_s A (5 * c)) from hS.1 (5 * c) (by omega)]
  refine m_istore (pc' := 50) dX10_setSource_48 (by decide) rfl rfl ?_
  refine m_aload_n (pc' := 51) dX10_setSource_50 rfl rfl ?_
  refine m_getR (pc' := 54) fa_X10_setSource_10 dX10_setSource_51 (by decide) rfl rfl rfl rfl ?_
  refine m_getR (pc' := 57) fa_X10_setSource_64 dX10_setSource_54 (by decide) rfl rfl rfl rfl ?_
  refine m_iload_n (pc' := 58) dX10_setSource_57 rfl rfl ?_
  refine m_iload_n (pc' := 59) dX10_setSource_58 rfl rfl ?_
  refine m_iload_n (pc' := 60) dX10_setSource_59 rfl rfl ?_
  refine m_iload (pc' := 62) dX10_setSource_60 rfl rfl ?_
  refine m_iload (pc' := 64) dX10_setSource_62 rfl rfl ?_
  refine m_callV (pc' := 67) (A := [.int (nI c), .int k, .int l, .int x, .int p]) (rest := []) (b := 2) cl_X10_setSource_77 dX10_setSource_64 rfl rfl (Nat.le_of_ble_eq_true rfl) ⟨by decide, by decide⟩ (by decide) rfl rfl rfl rfl ?_
  refine c_putSource (c := c) (s := a_s A) (by decide) hS (by omega) (fun f f0 fS => ?_)
  show mM G mX10_setSource 67 [some (.ref 0), some (.int (nI c)), some (.int k), some (.int l), some (.int x), some (.int p), some (.int (a_s A (5 * c)))] [] S1 f (0, 0) Q
  refine m_iload (pc' := 69) dX10_setSource_67 rfl rfl ?_
  refine m_iret dX10_setSource_69 rfl rfl ⟨by decide, by decide⟩ ?_
  exact hQ f ((kp_cf g0).trans (su_cf f0)) (CR_su (s := a_s A) gC f0 fS (fun j hj => pso_hi (by omega) j (by omega)))
set_option maxHeartbeats 4000000 in
set_option maxRecDepth 100000 in
theorem k_setRes {A : AS} {c r : Int32} (hC : CR d A) (hO : OK A) (hQ : ∀ d', cfr d d' → CR d' (opSetRes A c r).2 → Q (some (.int (opSetRes A c r).1)) S1 d') : mC G mX10_setResistance [.ref 0, .int c, .int r] S1 d Q := by
  by_cases h1 : bin c 0 7 = 0
  · skip
    rw [show opSetRes A c r = (eI, A) from if_pos (Or.inl h1)] at hQ
    refine mC_of (by decide +kernel) ⟨_, rfl⟩ (Nat.le_of_ble_eq_true rfl) ?_
    show mM G mX10_setResistance 0 [some (.ref 0), some (.int c), some (.int r), none] [] S1 d (0, 0) Q
    refine m_iload_n (pc' := 1) dX10_setResistance_0 rfl rfl ?_
    refine m_callS (pc' := 4) (A := [.int c]) (rest := []) cl_X10_setResistance_51 dX10_setResistance_1 rfl rfl (Nat.le_of_ble_eq_true rfl) ⟨by decide, by decide⟩ rfl rfl ?_
    refine c_isCh ?_
    show mM G mX10_setResistance 4 [some (.ref 0), some (.int c), some (.int r), none] [.int (bin c 0 7)] S1 d (0, 0) Q
    rw [show (bin c 0 7) = 0 from h1]
    refine m_if_eq (tgt := 17) (pc' := 7) dX10_setResistance_4 (by decide) rfl (fun h4 => ?_) (fun h4 => absurd h4 (by decide))
    refine m_ldc (pc' := 19) dX10_setResistance_17 kc_X10_setResistance_59 rfl ?_
    refine m_iret dX10_setResistance_19 rfl rfl ⟨by decide, by decide⟩ ?_
    exact hQ _ fr.rfl hC
  by_cases h2 : bin r 0 31 = 0
  · skip
    rw [show opSetRes A c r = (eI, A) from if_pos (Or.inr h2)] at hQ
    refine mC_of (by decide +kernel) ⟨_, rfl⟩ (Nat.le_of_ble_eq_true rfl) ?_
    show mM G mX10_setResistance 0 [some (.ref 0), some (.int c), some (.int r), none] [] S1 d (0, 0) Q
    refine m_iload_n (pc' := 1) dX10_setResistance_0 rfl rfl ?_
    refine m_callS (pc' := 4) (A := [.int c]) (rest := []) cl_X10_setResistance_51 dX10_setResistance_1 rfl rfl (Nat.le_of_ble_eq_true rfl) ⟨by decide, by decide⟩ rfl rfl ?_
    refine c_isCh ?_
    show mM G mX10_setResistance 4 [some (.ref 0), some (.int c), some (.int r), none] [.int (bin c 0 7)] S1 d (0, 0) Q
    rw [show (bin c 0 7) = 1 from bin_1 h1]
    refine m_if_eq (tgt := 17) (pc' := 7) dX10_setResistance_4 (by decide) rfl (fun h4 => absurd h4 (by decide)) (fun h4 => ?_)
    refine m_iload_n (pc' := 8) dX10_setResistance_7 rfl rfl ?_
    refine m_iconst (pc' := 9) (v := 0) dX10_setResistance_8 (by decide) rfl ?_
    refine m_bipush (pc' := 11) (v := 31) dX10_setResistance_9 (by decide) rfl ?_
    refine m_callS (pc' := 14) (A := [.int r, .int 0, .int 31]) (rest := []) cl_X10_setResistance_81 dX10_setResistance_11 rfl rfl (Nat.le_of_ble_eq_true rfl) ⟨by decide, by decide⟩ rfl rfl ?_
    refine c_within ?_
    show mM G mX10_setResistance 14 [some (.ref 0), some (.int c), some (.int r), none] [.int (bin r 0 31)] S1 d (0, 0) Q
    rw [show (bin r 0 31) = 0 from h2]
    refine m_if_ne (tgt := 20) (pc' := 17) dX10_setResistance_14 (by decide) rfl (fun h14 => absurd h14 (by decide)) (fun h14 => ?_)
    refine m_ldc (pc' := 19) dX10_setResistance_17 kc_X10_setResistance_59 rfl ?_
    refine m_iret dX10_setResistance_19 rfl rfl ⟨by decide, by decide⟩ ?_
    exact hQ _ fr.rfl hC
  obtain ⟨c, hcn, rfl⟩ := bin_t (b := 7) (by decide) h1
  rw [show opSetRes A (nI c) r = (a_s A (5 * c + 4), rec A (sU (a_s A) (5 * c + 4) r) (a_h A)) from by unfold opSetRes; rw [if_neg (not_or.mpr ⟨h1, h2⟩), nn_nI (by omega)]] at hQ
  refine mC_of (by decide +kernel) ⟨_, rfl⟩ (Nat.le_of_ble_eq_true rfl) ?_
  show mM G mX10_setResistance 0 [some (.ref 0), some (.int (nI c)), some (.int r), none] [] S1 d (0, 0) Q
  refine m_iload_n (pc' := 1) dX10_setResistance_0 rfl rfl ?_
  refine m_callS (pc' := 4) (A := [.int (nI c)]) (rest := []) cl_X10_setResistance_51 dX10_setResistance_1 rfl rfl (Nat.le_of_ble_eq_true rfl) ⟨by decide, by decide⟩ rfl rfl ?_
  refine c_isCh ?_
  show mM G mX10_setResistance 4 [some (.ref 0), some (.int (nI c)), some (.int r), none] [.int (bin (nI c) 0 7)] S1 d (0, 0) Q
  rw [show (bin (nI c) 0 7) = 1 from bin_1 h1]
  refine m_if_eq (tgt := 17) (pc' := 7) dX10_setResistance_4 (by decide) rfl (fun h4 => absurd h4 (by decide)) (fun h4 => ?_)
  refine m_iload_n (pc' := 8) dX10_setResistance_7 rfl rfl ?_
  refine m_iconst (pc' := 9) (v := 0) dX10_setResistance_8 (by decide) rfl ?_
  refine m_bipush (pc' := 11) (v := 31) dX10_setResistance_9 (by decide) rfl ?_
  refine m_callS (pc' := 14) (A := [.int r, .int 0, .int 31]) (rest := []) cl_X10_setResistance_81 dX10_setResistance_11 rfl rfl (Nat.le_of_ble_eq_true rfl) ⟨by decide, by decide⟩ rfl rfl ?_
  refine c_within ?_
  show mM G mX10_setResistance 14 [some (.ref 0), some (.int (nI c)), some (.int r), none] [.int (bin r 0 31)] S1 d (0, 0) Q
  rw [show (bin r 0 31) = 1 from bin_1 h2]
  refine m_if_ne (tgt := 20) (pc' := 17) dX10_setResistance_14 (by decide) rfl (fun h14 => ?_) (fun h14 => absurd h14 (by decide))
  refine m_aload_n (pc' := 21) dX10_setResistance_20 rfl rfl ?_
  refine m_getR (pc' := 24) fa_X10_setResistance_19 dX10_setResistance_21 (by decide) rfl rfl rfl rfl ?_
  refine m_aload_n (pc' := 25) dX10_setResistance_24 rfl rfl ?_
  refine m_getR (pc' := 28) fa_X10_setResistance_10 dX10_setResistance_25 (by decide) rfl rfl rfl rfl ?_
  refine m_callV (pc' := 31) (A := [.ref 1]) (rest := []) (b := 32) cl_X10_setResistance_60 dX10_setResistance_28 rfl rfl (Nat.le_of_ble_eq_true rfl) ⟨by decide, by decide⟩ (by decide) rfl rfl rfl rfl ?_
  refine c_keep hC.1 hC.2.1 hO (fun g g0 gH => ?_)
  show mM G mX10_setResistance 31 [some (.ref 0), some (.int (nI c)), some (.int r), none] [] S1 g (0, 0) Q
  have gC := CR_keep hC g0 gH
  have hS : SR g 2 (a_s A) := gC.1.1
  refine m_aload_n (pc' := 32) dX10_setResistance_31 rfl rfl ?_
  refine m_getR (pc' := 35) fa_X10_setResistance_10 dX10_setResistance_32 (by decide) rfl rfl rfl rfl ?_
  refine m_getR (pc' := 38) fa_X10_setResistance_64 dX10_setResistance_35 (by decide) rfl rfl rfl rfl ?_
  refine m_getR (pc' := 41) fa_X10_setResistance_67 dX10_setResistance_38 (by decide) rfl rfl rfl rfl ?_
  refine m_iload_n (pc' := 42) dX10_setResistance_41 rfl rfl ?_
  refine m_iconst (pc' := 43) (v := 4) dX10_setResistance_42 (by decide) rfl ?_
  refine m_callV (pc' := 46) (A := [.int (nI c), .int 4]) (rest := []) (b := 3) cl_X10_setResistance_71 dX10_setResistance_43 rfl rfl (Nat.le_of_ble_eq_true rfl) ⟨by decide, by decide⟩ (by decide) rfl rfl rfl rfl ?_
  refine c_atN (t := 3) (W := 5) (L := 40) (a := c) (b := 4) (k := 5 * c + 4) (isT_lit (by decide +kernel)) (by decide) (by omega) (by omega) ?_
  show mM G mX10_setResistance 46 [some (.ref 0), some (.int (nI c)), some (.int r), none] [.int (g.1 4 (5 * c + 4))] S1 g (0, 0) Q
  rw [show (g.1 4 (5 * c + 4)) = (a_s A (5 * c + 4)) from hS.1 (5 * c + 4) (by omega)]
  refine m_istore_n (pc' := 47) dX10_setResistance_46 (by decide) rfl rfl ?_
  refine m_aload_n (pc' := 48) dX10_setResistance_47 rfl rfl ?_
  refine m_getR (pc' := 51) fa_X10_setResistance_10 dX10_setResistance_48 (by decide) rfl rfl rfl rfl ?_
  refine m_getR (pc' := 54) fa_X10_setResistance_64 dX10_setResistance_51 (by decide) rfl rfl rfl rfl ?_
  refine m_getR (pc' := 57) fa_X10_setResistance_67 dX10_setResistance_54 (by decide) rfl rfl rfl rfl ?_
  refine m_iload_n (pc' := 58) dX10_setResistance_57 rfl rfl ?_
  refine m_iconst (pc' := 59) (v := 4) dX10_setResistance_58 (by decide) rfl ?_
  refine m_iload_n (pc' := 60) dX10_setResistance_59 rfl rfl ?_
  refine m_callV (pc' := 63) (A := [.int (nI c), .int 4, .int r]) (rest := []) (b := 3) cl_X10_setResistance_85 dX10_setResistance_60 rfl rfl (Nat.le_of_ble_eq_true rfl) ⟨by decide, by decide⟩ (by decide) rfl rfl rfl rfl ?_
  refine c_putN (t := 3) (W := 5) (L := 40) (a := c) (b := 4) (k := 5 * c + 4) (isT_lit (by decide +kernel)) (by decide) (by omega) (by omega) ?_
  show mM G mX10_setResistance 63 [some (.ref 0), some (.int (nI c)), some (.int r), some (.int (a_s A (5 * c + 4)))] [] S1 (u2 g.1 4 (5 * c + 4) r, g.2) (0, 0) Q
  refine m_iload_n (pc' := 64) dX10_setResistance_63 rfl rfl ?_
  refine m_iret dX10_setResistance_64 rfl rfl ⟨by decide, by decide⟩ ?_
  have f0 : fr (suE 2) nE g (u2 g.1 4 (5 * c + 4) r, g.2) := fr.i fr.rfl _ (Or.inl rfl)
  exact hQ _ ((kp_cf g0).trans (su_cf f0)) (CR_su (s := a_s A) gC f0 (hS.ch (by omega) rfl) (fun j hj => sU_ne _ _ (by omega)))
end CLS9
