/-! THE CHECK'S OWN CALLS (1) -/
section MOD5
variable {G : GP} {Q : Option Value → Sh → Dt → Prop} {d : Dt}
set_option maxHeartbeats 4000000 in
set_option maxRecDepth 100000 in
theorem p_setSource {A : AS} {c k l x p : Int32} (hM : MM d A)  (hQ : ∀ d', mfr d d' → MM d' (opSetSource A c k l x p).2 → Q (some (.int (opSetSource A c k l x p).1)) S1 d') : mC G mX11_setSource [.ref 214, .int c, .int k, .int l, .int x, .int p] S1 d Q := by
  by_cases h1 : bin c 0 7 = 0
  · skip
    rw [show opSetSource A c k l x p = (eI, A) from if_pos (Or.inl h1)] at hQ
    refine mC_of (by decide +kernel) ⟨_, rfl⟩ (Nat.le_of_ble_eq_true rfl) ?_
    show mM G mX11_setSource 0 [some (.ref 214), some (.int c), some (.int k), some (.int l), some (.int x), some (.int p), none] [] S1 d (0, 0) Q
    refine m_aload_n (pc' := 1) dX11_setSource_0 rfl rfl ?_
    refine m_iconst (pc' := 2) (v := 0) dX11_setSource_1 (by decide) rfl ?_
    refine m_putI (pc' := 5) (ty := .int) fa_X11_setSource_29 dX11_setSource_2 (by decide +kernel) rfl rfl (by decide) rfl rfl rfl ?_
    refine m_iload_n (pc' := 6) dX11_setSource_5 rfl rfl ?_
    refine m_callS (pc' := 9) (A := [.int c]) (rest := []) cl_X11_setSource_103 dX11_setSource_6 rfl rfl (Nat.le_of_ble_eq_true rfl) ⟨by decide, by decide⟩ rfl rfl ?_
    refine c_mch ?_
    show mM G mX11_setSource 9 [some (.ref 214), some (.int c), some (.int k), some (.int l), some (.int x), some (.int p), none] [.int (bin c 0 7)] S1 (u2 d.1 214 0 0, d.2) (0, 0) Q
    rw [show (bin c 0 7) = 0 from h1]
    refine m_if_eq (tgt := 24) (pc' := 12) dX11_setSource_9 (by decide) rfl (fun h9 => ?_) (fun h9 => absurd h9 (by decide))
    refine m_ldc (pc' := 26) dX11_setSource_24 kc_X11_setSource_111 rfl ?_
    refine m_iret dX11_setSource_26 rfl rfl ⟨by decide, by decide⟩ ?_
    exact hQ _ mfr.th hM.th
  by_cases h2 : isrc k l x p = 0
  · skip
    rw [show opSetSource A c k l x p = (eI, A) from if_pos (Or.inr h2)] at hQ
    refine mC_of (by decide +kernel) ⟨_, rfl⟩ (Nat.le_of_ble_eq_true rfl) ?_
    show mM G mX11_setSource 0 [some (.ref 214), some (.int c), some (.int k), some (.int l), some (.int x), some (.int p), none] [] S1 d (0, 0) Q
    refine m_aload_n (pc' := 1) dX11_setSource_0 rfl rfl ?_
    refine m_iconst (pc' := 2) (v := 0) dX11_setSource_1 (by decide) rfl ?_
    refine m_putI (pc' := 5) (ty := .int) fa_X11_setSource_29 dX11_setSource_2 (by decide +kernel) rfl rfl (by decide) rfl rfl rfl ?_
    refine m_iload_n (pc' := 6) dX11_setSource_5 rfl rfl ?_
    refine m_callS (pc' := 9) (A := [.int c]) (rest := []) cl_X11_setSource_103 dX11_setSource_6 rfl rfl (Nat.le_of_ble_eq_true rfl) ⟨by decide, by decide⟩ rfl rfl ?_
    refine c_mch ?_
    show mM G mX11_setSource 9 [some (.ref 214), some (.int c), some (.int k), some (.int l), some (.int x), some (.int p), none] [.int (bin c 0 7)] S1 (u2 d.1 214 0 0, d.2) (0, 0) Q
    rw [show (bin c 0 7) = 1 from bin_1 h1]
    refine m_if_eq (tgt := 24) (pc' := 12) dX11_setSource_9 (by decide) rfl (fun h9 => absurd h9 (by decide)) (fun h9 => ?_)
    refine m_iload_n (pc' := 13) dX11_setSource_12 rfl rfl ?_
    refine m_iload_n (pc' := 14) dX11_setSource_13 rfl rfl ?_
    refine m_iload (pc' := 16) dX11_setSource_14 rfl rfl ?_
    refine m_iload (pc' := 18) dX11_setSource_16 rfl rfl ?_
    refine m_callS (pc' := 21) (A := [.int k, .int l, .int x, .int p]) (rest := []) cl_X11_setSource_107 dX11_setSource_18 rfl rfl (Nat.le_of_ble_eq_true rfl) ⟨by decide, by decide⟩ rfl rfl ?_
    refine c_misSource ?_
    show mM G mX11_setSource 21 [some (.ref 214), some (.int c), some (.int k), some (.int l), some (.int x), some (.int p), none] [.int (isrc k l x p)] S1 (u2 d.1 214 0 0, d.2) (0, 0) Q
    rw [show (isrc k l x p) = 0 from h2]
    refine m_if_ne (tgt := 27) (pc' := 24) dX11_setSource_21 (by decide) rfl (fun h21 => absurd h21 (by decide)) (fun h21 => ?_)
    refine m_ldc (pc' := 26) dX11_setSource_24 kc_X11_setSource_111 rfl ?_
    refine m_iret dX11_setSource_26 rfl rfl ⟨by decide, by decide⟩ ?_
    exact hQ _ mfr.th hM.th
  have hM0 := hM.th
  have hs : d.1 215 = a_s A := hM.1
  obtain ⟨cn, hcn, rfl⟩ := bin_t (b := 7) (by decide) h1
  rw [show opSetSource A (nI cn) k l x p = (a_s A (5 * cn), rec A (pso (a_s A) cn k l x p) (a_h A)) from by unfold opSetSource; rw [if_neg (not_or.mpr ⟨h1, h2⟩), nn_nI (by omega)]] at hQ
  refine mC_of (by decide +kernel) ⟨_, rfl⟩ (Nat.le_of_ble_eq_true rfl) ?_
  show mM G mX11_setSource 0 [some (.ref 214), some (.int (nI cn)), some (.int k), some (.int l), some (.int x), some (.int p), none] [] S1 d (0, 0) Q
  refine m_aload_n (pc' := 1) dX11_setSource_0 rfl rfl ?_
  refine m_iconst (pc' := 2) (v := 0) dX11_setSource_1 (by decide) rfl ?_
  refine m_putI (pc' := 5) (ty := .int) fa_X11_setSource_29 dX11_setSource_2 (by decide +kernel) rfl rfl (by decide) rfl rfl rfl ?_
  refine m_iload_n (pc' := 6) dX11_setSource_5 rfl rfl ?_
  refine m_callS (pc' := 9) (A := [.int (nI cn)]) (rest := []) cl_X11_setSource_103 dX11_setSource_6 rfl rfl (Nat.le_of_ble_eq_true rfl) ⟨by decide, by decide⟩ rfl rfl ?_
  refine c_mch ?_
  show mM G mX11_setSource 9 [some (.ref 214), some (.int (nI cn)), some (.int k), some (.int l), some (.int x), some (.int p), none] [.int (bin (nI cn) 0 7)] S1 (u2 d.1 214 0 0, d.2) (0, 0) Q
  rw [show (bin (nI cn) 0 7) = 1 from bin_1 h1]
  refine m_if_eq (tgt := 24) (pc' := 12) dX11_setSource_9 (by decide) rfl (fun h9 => absurd h9 (by decide)) (fun h9 => ?_)
  refine m_iload_n (pc' := 13) dX11_setSource_12 rfl rfl ?_
  refine m_iload_n (pc' := 14) dX11_setSource_13 rfl rfl ?_
  refine m_iload (pc' := 16) dX11_setSource_14 rfl rfl ?_
  refine m_iload (pc' := 18) dX11_setSource_16 rfl rfl ?_
  refine m_callS (pc' := 21) (A := [.int k, .int l, .int x, .int p]) (rest := []) cl_X11_setSource_107 dX11_setSource_18 rfl rfl (Nat.le_of_ble_eq_true rfl) ⟨by decide, by decide⟩ rfl rfl ?_
  refine c_misSource ?_
  show mM G mX11_setSource 21 [some (.ref 214), some (.int (nI cn)), some (.int k), some (.int l), some (.int x), some (.int p), none] [.int (isrc k l x p)] S1 (u2 d.1 214 0 0, d.2) (0, 0) Q
  rw [show (isrc k l x p) = 1 from isrc_1 h2]
  refine m_if_ne (tgt := 27) (pc' := 24) dX11_setSource_21 (by decide) rfl (fun h21 => ?_) (fun h21 => absurd h21 (by decide))
  refine m_aload_n (pc' := 28) dX11_setSource_27 rfl rfl ?_
  refine m_callV (pc' := 31) (A := []) (rest := []) (b := 214) cl_X11_setSource_112 dX11_setSource_28 rfl rfl (Nat.le_of_ble_eq_true rfl) ⟨by decide, by decide⟩ (by decide) rfl rfl rfl rfl ?_
  refine c_mact (s := a_s A) (h := a_h A) hM0.1 hM0.2.1 hM0.2.2.1 hM0.2.2.2.1 hM0.2.2.2.2.1 hM0.2.2.2.2.2.1 (fun e e0 e1 e2 e3 => ?_)
  show mM G mX11_setSource 31 [some (.ref 214), some (.int (nI cn)), some (.int k), some (.int l), some (.int x), some (.int p), none] [] S1 e (0, 0) Q
  have eM := hM0.act e0 e1 e2 e3
  have hs : e.1 215 = a_s A := eM.1
  refine m_aload_n (pc' := 32) dX11_setSource_31 rfl rfl ?_
  refine m_iload_n (pc' := 33) dX11_setSource_32 rfl rfl ?_
  refine m_iconst (pc' := 34) (v := 0) dX11_setSource_33 (by decide) rfl ?_
  refine m_callV (pc' := 37) (A := [.int (nI cn), .int 0]) (rest := []) (b := 214) cl_X11_setSource_44 dX11_setSource_34 rfl rfl (Nat.le_of_ble_eq_true rfl) ⟨by decide, by decide⟩ (by decide) rfl rfl rfl rfl ?_
  refine c_of (k := 5 * cn) (s := a_s A) hs (ix_c cn 0) (by omega) ?_
  show mM G mX11_setSource 37 [some (.ref 214), some (.int (nI cn)), some (.int k), some (.int l), some (.int x), some (.int p), none] [.int ((a_s A) (5 * cn))] S1 e (0, 0) Q
  refine m_istore (pc' := 39) dX11_setSource_37 (by decide) rfl rfl ?_
  refine m_aload_n (pc' := 40) dX11_setSource_39 rfl rfl ?_
  refine m_iload_n (pc' := 41) dX11_setSource_40 rfl rfl ?_
  refine m_iload_n (pc' := 42) dX11_setSource_41 rfl rfl ?_
  refine m_iload_n (pc' := 43) dX11_setSource_42 rfl rfl ?_
  refine m_iload (pc' := 45) dX11_setSource_43 rfl rfl ?_
  refine m_iload (pc' := 47) dX11_setSource_45 rfl rfl ?_
  refine m_callV (pc' := 50) (A := [.int (nI cn), .int k, .int l, .int x, .int p]) (rest := []) (b := 214) cl_X11_setSource_115 dX11_setSource_47 rfl rfl (Nat.le_of_ble_eq_true rfl) ⟨by decide, by decide⟩ (by decide) rfl rfl rfl rfl ?_
  refine c_mputSource (c := cn) (s := a_s A) hs (by omega) (fun f f0 f1 => ?_)
  show mM G mX11_setSource 50 [some (.ref 214), some (.int (nI cn)), some (.int k), some (.int l), some (.int x), some (.int p), some (.int ((a_s A) (5 * cn)))] [] S1 f (0, 0) Q
  refine m_iload (pc' := 52) dX11_setSource_50 rfl rfl ?_
  refine m_iret dX11_setSource_52 rfl rfl ⟨by decide, by decide⟩ ?_
  exact hQ f ((mfr.th.trans (act_mf e0)).trans (row_mf f0)) (eM.row f0 f1)
set_option maxHeartbeats 4000000 in
set_option maxRecDepth 100000 in
theorem c_mput {A : AS} {i x : Int32} {j : Nat} (hM : MM d A) (hi : i = nI j) (hj : j < 408) (hQ : ∀ d', mfr d d' → MM d' (rec A (sU (a_s A) j x) (a_h A)) → Q (some (.int (a_s A j))) S1 d') : mC G mX11_put [.ref 214, .int i, .int x] S1 d Q := by
  refine mC_of (by decide +kernel) ⟨_, rfl⟩ (Nat.le_of_ble_eq_true rfl) ?_
  show mM G mX11_put 0 [some (.ref 214), some (.int i), some (.int x), none] [] S1 d (0, 0) Q
  refine m_aload_n (pc' := 1) dX11_put_0 rfl rfl ?_
  refine m_callV (pc' := 4) (A := []) (rest := []) (b := 214) cl_X11_put_112 dX11_put_1 rfl rfl (Nat.le_of_ble_eq_true rfl) ⟨by decide, by decide⟩ (by decide) rfl rfl rfl rfl ?_
  refine c_mact (s := a_s A) (h := a_h A) hM.1 hM.2.1 hM.2.2.1 hM.2.2.2.1 hM.2.2.2.2.1 hM.2.2.2.2.2.1 (fun e e0 e1 e2 e3 => ?_)
  show mM G mX11_put 4 [some (.ref 214), some (.int i), some (.int x), none] [] S1 e (0, 0) Q
  have eM := hM.act e0 e1 e2 e3
  have hs : e.1 215 = a_s A := eM.1
  refine m_aload_n (pc' := 5) dX11_put_4 rfl rfl ?_
  refine m_getR (pc' := 8) fa_X11_put_7 dX11_put_5 (by decide) rfl rfl rfl rfl ?_
  refine m_iload_n (pc' := 9) dX11_put_8 rfl rfl ?_
  refine m_ialdN (pc' := 10) (j := j) (L := 408) dX11_put_9 (by decide) rfl rfl (hi) (hj) (by decide) rfl ?_
  rw [show (e.1 215 j) = (a_s A j) from congrFun hs j]
  refine m_istore_n (pc' := 11) dX11_put_10 (by decide) rfl rfl ?_
  refine m_aload_n (pc' := 12) dX11_put_11 rfl rfl ?_
  refine m_getR (pc' := 15) fa_X11_put_7 dX11_put_12 (by decide) rfl rfl rfl rfl ?_
  refine m_iload_n (pc' := 16) dX11_put_15 rfl rfl ?_
  refine m_iload_n (pc' := 17) dX11_put_16 rfl rfl ?_
  refine m_iastN (pc' := 18) (j := j) (L := 408) dX11_put_17 (by decide) rfl rfl (hi) (hj) (by decide) rfl ?_
  refine m_iload_n (pc' := 19) dX11_put_18 rfl rfl ?_
  refine m_iret dX11_put_19 rfl rfl ⟨by decide, by decide⟩ ?_
  have f0 : fr (rE 215) nE e (u2 e.1 215 j x, e.2) := fr.i fr.rfl _ rfl
  exact hQ _ ((act_mf e0).trans (row_mf f0)) (eM.row f0 (u2_row eM.1))
set_option maxHeartbeats 4000000 in
set_option maxRecDepth 100000 in
theorem p_setRes {A : AS} {c r : Int32} (hM : MM d A)  (hQ : ∀ d', mfr d d' → MM d' (opSetRes A c r).2 → Q (some (.int (opSetRes A c r).1)) S1 d') : mC G mX11_setResistance [.ref 214, .int c, .int r] S1 d Q := by
  by_cases h1 : bin c 0 7 = 0
  · skip
    rw [show opSetRes A c r = (eI, A) from if_pos (Or.inl h1)] at hQ
    refine mC_of (by decide +kernel) ⟨_, rfl⟩ (Nat.le_of_ble_eq_true rfl) ?_
    show mM G mX11_setResistance 0 [some (.ref 214), some (.int c), some (.int r)] [] S1 d (0, 0) Q
    refine m_aload_n (pc' := 1) dX11_setResistance_0 rfl rfl ?_
    refine m_iconst (pc' := 2) (v := 0) dX11_setResistance_1 (by decide) rfl ?_
    refine m_putI (pc' := 5) (ty := .int) fa_X11_setResistance_29 dX11_setResistance_2 (by decide +kernel) rfl rfl (by decide) rfl rfl rfl ?_
    refine m_iload_n (pc' := 6) dX11_setResistance_5 rfl rfl ?_
    refine m_callS (pc' := 9) (A := [.int c]) (rest := []) cl_X11_setResistance_103 dX11_setResistance_6 rfl rfl (Nat.le_of_ble_eq_true rfl) ⟨by decide, by decide⟩ rfl rfl ?_
    refine c_mch ?_
    show mM G mX11_setResistance 9 [some (.ref 214), some (.int c), some (.int r)] [.int (bin c 0 7)] S1 (u2 d.1 214 0 0, d.2) (0, 0) Q
    rw [show (bin c 0 7) = 0 from h1]
    refine m_if_eq (tgt := 35) (pc' := 12) dX11_setResistance_9 (by decide) rfl (fun h9 => ?_) (fun h9 => absurd h9 (by decide))
    refine m_ldc (pc' := 37) dX11_setResistance_35 kc_X11_setResistance_111 rfl ?_
    refine m_iret dX11_setResistance_37 rfl rfl ⟨by decide, by decide⟩ ?_
    exact hQ _ mfr.th hM.th
  by_cases h2 : bin r 0 31 = 0
  · skip
    rw [show opSetRes A c r = (eI, A) from if_pos (Or.inr h2)] at hQ
    refine mC_of (by decide +kernel) ⟨_, rfl⟩ (Nat.le_of_ble_eq_true rfl) ?_
    show mM G mX11_setResistance 0 [some (.ref 214), some (.int c), some (.int r)] [] S1 d (0, 0) Q
    refine m_aload_n (pc' := 1) dX11_setResistance_0 rfl rfl ?_
    refine m_iconst (pc' := 2) (v := 0) dX11_setResistance_1 (by decide) rfl ?_
    refine m_putI (pc' := 5) (ty := .int) fa_X11_setResistance_29 dX11_setResistance_2 (by decide +kernel) rfl rfl (by decide) rfl rfl rfl ?_
    refine m_iload_n (pc' := 6) dX11_setResistance_5 rfl rfl ?_
    refine m_callS (pc' := 9) (A := [.int c]) (rest := []) cl_X11_setResistance_103 dX11_setResistance_6 rfl rfl (Nat.le_of_ble_eq_true rfl) ⟨by decide, by decide⟩ rfl rfl ?_
    refine c_mch ?_
    show mM G mX11_setResistance 9 [some (.ref 214), some (.int c), some (.int r)] [.int (bin c 0 7)] S1 (u2 d.1 214 0 0, d.2) (0, 0) Q
    rw [show (bin c 0 7) = 1 from bin_1 h1]
    refine m_if_eq (tgt := 35) (pc' := 12) dX11_setResistance_9 (by decide) rfl (fun h9 => absurd h9 (by decide)) (fun h9 => ?_)
    refine m_iload_n (pc' := 13) dX11_setResistance_12 rfl rfl ?_
    refine m_iconst (pc' := 14) (v := 0) dX11_setResistance_13 (by decide) rfl ?_
    refine m_bipush (pc' := 16) (v := 31) dX11_setResistance_14 (by decide) rfl ?_
    refine m_callS (pc' := 19) (A := [.int r, .int 0, .int 31]) (rest := []) cl_X11_setResistance_40 dX11_setResistance_16 rfl rfl (Nat.le_of_ble_eq_true rfl) ⟨by decide, by decide⟩ rfl rfl ?_
    refine c_in ?_
    show mM G mX11_setResistance 19 [some (.ref 214), some (.int c), some (.int r)] [.int (bin r 0 31)] S1 (u2 d.1 214 0 0, d.2) (0, 0) Q
    rw [show (bin r 0 31) = 0 from h2]
    refine m_if_eq (tgt := 35) (pc' := 22) dX11_setResistance_19 (by decide) rfl (fun h19 => ?_) (fun h19 => absurd h19 (by decide))
    refine m_ldc (pc' := 37) dX11_setResistance_35 kc_X11_setResistance_111 rfl ?_
    refine m_iret dX11_setResistance_37 rfl rfl ⟨by decide, by decide⟩ ?_
    exact hQ _ mfr.th hM.th
  have hM0 := hM.th
  obtain ⟨cn, hcn, rfl⟩ := bin_t (b := 7) (by decide) h1
  rw [show opSetRes A (nI cn) r = (a_s A (5 * cn + 4), rec A (sU (a_s A) (5 * cn + 4) r) (a_h A)) from by unfold opSetRes; rw [if_neg (not_or.mpr ⟨h1, h2⟩), nn_nI (by omega)]] at hQ
  refine mC_of (by decide +kernel) ⟨_, rfl⟩ (Nat.le_of_ble_eq_true rfl) ?_
  show mM G mX11_setResistance 0 [some (.ref 214), some (.int (nI cn)), some (.int r)] [] S1 d (0, 0) Q
  refine m_aload_n (pc' := 1) dX11_setResistance_0 rfl rfl ?_
  refine m_iconst (pc' := 2) (v := 0) dX11_setResistance_1 (by decide) rfl ?_
  refine m_putI (pc' := 5) (ty := .int) fa_X11_setResistance_29 dX11_setResistance_2 (by decide +kernel) rfl rfl (by decide) rfl rfl rfl ?_
  refine m_iload_n (pc' := 6) dX11_setResistance_5 rfl rfl ?_
  refine m_callS (pc' := 9) (A := [.int (nI cn)]) (rest := []) cl_X11_setResistance_103 dX11_setResistance_6 rfl rfl (Nat.le_of_ble_eq_true rfl) ⟨by decide, by decide⟩ rfl rfl ?_
  refine c_mch ?_
  show mM G mX11_setResistance 9 [some (.ref 214), some (.int (nI cn)), some (.int r)] [.int (bin (nI cn) 0 7)] S1 (u2 d.1 214 0 0, d.2) (0, 0) Q
  rw [show (bin (nI cn) 0 7) = 1 from bin_1 h1]
  refine m_if_eq (tgt := 35) (pc' := 12) dX11_setResistance_9 (by decide) rfl (fun h9 => absurd h9 (by decide)) (fun h9 => ?_)
  refine m_iload_n (pc' := 13) dX11_setResistance_12 rfl rfl ?_
  refine m_iconst (pc' := 14) (v := 0) dX11_setResistance_13 (by decide) rfl ?_
  refine m_bipush (pc' := 16) (v := 31) dX11_setResistance_14 (by decide) rfl ?_
  refine m_callS (pc' := 19) (A := [.int r, .int 0, .int 31]) (rest := []) cl_X11_setResistance_40 dX11_setResistance_16 rfl rfl (Nat.le_of_ble_eq_true rfl) ⟨by decide, by decide⟩ rfl rfl ?_
  refine c_in ?_
  show mM G mX11_setResistance 19 [some (.ref 214), some (.int (nI cn)), some (.int r)] [.int (bin r 0 31)] S1 (u2 d.1 214 0 0, d.2) (0, 0) Q
  rw [show (bin r 0 31) = 1 from bin_1 h2]
  refine m_if_eq (tgt := 35) (pc' := 22) dX11_setResistance_19 (by decide) rfl (fun h19 => absurd h19 (by decide)) (fun h19 => ?_)
  refine m_aload_n (pc' := 23) dX11_setResistance_22 rfl rfl ?_
  refine m_iconst (pc' := 24) (v := 5) dX11_setResistance_23 (by decide) rfl ?_
  refine m_iload_n (pc' := 25) dX11_setResistance_24 rfl rfl ?_
  refine m_imul (pc' := 26) dX11_setResistance_25 rfl ?_
  refine m_iconst (pc' := 27) (v := 4) dX11_setResistance_26 (by decide) rfl ?_
  refine m_iadd (pc' := 28) dX11_setResistance_27 rfl ?_
  refine m_iload_n (pc' := 29) dX11_setResistance_28 rfl rfl ?_
  refine m_callV (pc' := 32) (A := [.int ((5 * (nI cn)) + 4), .int r]) (rest := []) (b := 214) cl_X11_setResistance_119 dX11_setResistance_29 rfl rfl (Nat.le_of_ble_eq_true rfl) ⟨by decide, by decide⟩ (by decide) rfl rfl rfl rfl ?_
  refine c_mput (A := A) (j := 5 * cn + 4) hM0 (ix_c cn 4) (by omega) (fun e e0 eM => ?_)
  show mM G mX11_setResistance 32 [some (.ref 214), some (.int (nI cn)), some (.int r)] [.int (a_s A (5 * cn + 4))] S1 e (0, 0) Q
  refine m_goto (tgt := 37) dX11_setResistance_32 (by decide) ?_
  refine m_iret dX11_setResistance_37 rfl rfl ⟨by decide, by decide⟩ ?_
  exact hQ e (mfr.th.trans e0) eM
end MOD5
