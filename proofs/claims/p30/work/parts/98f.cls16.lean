/-! THE CLASS'S OWN CALLS (8): snapshots brought back -/
section CLS16
variable {G : GP} {Q : Option Value → Sh → Dt → Prop} {d : Dt}
set_option maxHeartbeats 4000000 in
set_option maxRecDepth 100000 in
theorem k_restore0 {A : AS}  (hC : CR d A) (hO : OK A) (hQ : ∀ d', cfr d d' → CR d' (opRestore A 0).2 → Q (some (.int (opRestore A 0).1)) S1 d') : mC G mX10_restore [.ref 0, .int 0] S1 d Q := by
  by_cases h2 : a_s A 254 = 0
  · skip
    rw [show opRestore A 0 = (eS, A) from by unfold opRestore; rw [if_neg (by decide)]; exact if_pos h2] at hQ
    refine mC_of (by decide +kernel) ⟨_, rfl⟩ (Nat.le_of_ble_eq_true rfl) ?_
    show mM G mX10_restore 0 [some (.ref 0), some (.int 0), none] [] S1 d (0, 0) Q
    refine m_iload_n (pc' := 1) dX10_restore_0 rfl rfl ?_
    refine m_callS (pc' := 4) (A := [.int 0]) (rest := []) cl_X10_restore_151 dX10_restore_1 rfl rfl (Nat.le_of_ble_eq_true rfl) ⟨by decide, by decide⟩ rfl rfl ?_
    refine c_isSnap ?_
    show mM G mX10_restore 4 [some (.ref 0), some (.int 0), none] [.int (bin 0 0 1)] S1 d (0, 0) Q
    rw [show (bin 0 0 1) = 1 from rfl]
    refine m_if_ne (tgt := 10) (pc' := 7) dX10_restore_4 (by decide) rfl (fun h4 => ?_) (fun h4 => absurd h4 (by decide))
    refine m_aload_n (pc' := 11) dX10_restore_10 rfl rfl ?_
    refine m_getR (pc' := 14) fa_X10_restore_10 dX10_restore_11 (by decide) rfl rfl rfl rfl ?_
    refine m_iload_n (pc' := 15) dX10_restore_14 rfl rfl ?_
    refine m_callV (pc' := 18) (A := [.int 0]) (rest := []) (b := 1) cl_X10_restore_154 dX10_restore_15 rfl rfl (Nat.le_of_ble_eq_true rfl) ⟨by decide, by decide⟩ (by decide) rfl rfl rfl rfl ?_
    refine c_snapAt0 ?_
    show mM G mX10_restore 18 [some (.ref 0), some (.int 0), none] [.ref 16] S1 d (0, 0) Q
    refine m_astore_n (pc' := 19) dX10_restore_18 (by decide) rfl rfl ?_
    refine m_aload_n (pc' := 20) dX10_restore_19 rfl rfl ?_
    refine m_getI (pc' := 23) fa_X10_restore_158 dX10_restore_20 (by decide) rfl rfl rfl ?_
    rw [show (d.1 16 1) = 0 from hC.1.2.2.2.2.1.1.trans h2]
    refine m_if_ne (tgt := 29) (pc' := 26) dX10_restore_23 (by decide) rfl (fun h23 => absurd h23 (by decide)) (fun h23 => ?_)
    refine m_ldc (pc' := 28) dX10_restore_26 kc_X10_restore_129 rfl ?_
    refine m_iret dX10_restore_28 rfl rfl ⟨by decide, by decide⟩ ?_
    exact hQ _ fr.rfl hC
  have h1s : a_s A 254 = 1 := hO.sn.1.resolve_left h2
  rw [show opRestore A 0 = (a_s A 298, rec A (rst (a_s A) 0) (a_h A)) from by unfold opRestore; rw [if_neg (by decide)]; exact if_neg h2] at hQ
  refine mC_of (by decide +kernel) ⟨_, rfl⟩ (Nat.le_of_ble_eq_true rfl) ?_
  show mM G mX10_restore 0 [some (.ref 0), some (.int 0), none] [] S1 d (0, 0) Q
  refine m_iload_n (pc' := 1) dX10_restore_0 rfl rfl ?_
  refine m_callS (pc' := 4) (A := [.int 0]) (rest := []) cl_X10_restore_151 dX10_restore_1 rfl rfl (Nat.le_of_ble_eq_true rfl) ⟨by decide, by decide⟩ rfl rfl ?_
  refine c_isSnap ?_
  show mM G mX10_restore 4 [some (.ref 0), some (.int 0), none] [.int (bin 0 0 1)] S1 d (0, 0) Q
  rw [show (bin 0 0 1) = 1 from rfl]
  refine m_if_ne (tgt := 10) (pc' := 7) dX10_restore_4 (by decide) rfl (fun h4 => ?_) (fun h4 => absurd h4 (by decide))
  refine m_aload_n (pc' := 11) dX10_restore_10 rfl rfl ?_
  refine m_getR (pc' := 14) fa_X10_restore_10 dX10_restore_11 (by decide) rfl rfl rfl rfl ?_
  refine m_iload_n (pc' := 15) dX10_restore_14 rfl rfl ?_
  refine m_callV (pc' := 18) (A := [.int 0]) (rest := []) (b := 1) cl_X10_restore_154 dX10_restore_15 rfl rfl (Nat.le_of_ble_eq_true rfl) ⟨by decide, by decide⟩ (by decide) rfl rfl rfl rfl ?_
  refine c_snapAt0 ?_
  show mM G mX10_restore 18 [some (.ref 0), some (.int 0), none] [.ref 16] S1 d (0, 0) Q
  refine m_astore_n (pc' := 19) dX10_restore_18 (by decide) rfl rfl ?_
  refine m_aload_n (pc' := 20) dX10_restore_19 rfl rfl ?_
  refine m_getI (pc' := 23) fa_X10_restore_158 dX10_restore_20 (by decide) rfl rfl rfl ?_
  rw [show (d.1 16 1) = 1 from hC.1.2.2.2.2.1.1.trans h1s]
  refine m_if_ne (tgt := 29) (pc' := 26) dX10_restore_23 (by decide) rfl (fun h23 => ?_) (fun h23 => absurd h23 (by decide))
  refine m_aload_n (pc' := 30) dX10_restore_29 rfl rfl ?_
  refine m_getR (pc' := 33) fa_X10_restore_19 dX10_restore_30 (by decide) rfl rfl rfl rfl ?_
  refine m_aload_n (pc' := 34) dX10_restore_33 rfl rfl ?_
  refine m_getR (pc' := 37) fa_X10_restore_10 dX10_restore_34 (by decide) rfl rfl rfl rfl ?_
  refine m_callV (pc' := 40) (A := [.ref 1]) (rest := []) (b := 32) cl_X10_restore_60 dX10_restore_37 rfl rfl (Nat.le_of_ble_eq_true rfl) ⟨by decide, by decide⟩ (by decide) rfl rfl rfl rfl ?_
  refine c_keep hC.1 hC.2.1 hO (fun g g0 gH => ?_)
  show mM G mX10_restore 40 [some (.ref 0), some (.int 0), some (.ref 16)] [] S1 g (0, 0) Q
  have gC := CR_keep hC g0 gH
  have hS : SR g 2 (a_s A) := gC.1.1
  refine m_aload_n (pc' := 41) dX10_restore_40 rfl rfl ?_
  refine m_getR (pc' := 44) fa_X10_restore_10 dX10_restore_41 (by decide) rfl rfl rfl rfl ?_
  refine m_getR (pc' := 47) fa_X10_restore_64 dX10_restore_44 (by decide) rfl rfl rfl rfl ?_
  refine m_aload_n (pc' := 48) dX10_restore_47 rfl rfl ?_
  refine m_getR (pc' := 51) fa_X10_restore_164 dX10_restore_48 (by decide) rfl rfl rfl rfl ?_
  refine m_callV (pc' := 54) (A := [.ref 17]) (rest := []) (b := 2) cl_X10_restore_165 dX10_restore_51 rfl rfl (Nat.le_of_ble_eq_true rfl) ⟨by decide, by decide⟩ (by decide) rfl rfl rfl rfl ?_
  refine c_scopy (a := 2) (b := 17) (s := fun j => a_s A (255 + j)) (by decide) (by decide) (by decide) (gC.1.2.2.2.2.1.2 h1s) (fun f f0 fS => ?_)
  show mM G mX10_restore 54 [some (.ref 0), some (.int 0), some (.ref 16)] [] S1 f (0, 0) Q
  refine m_aload_n (pc' := 55) dX10_restore_54 rfl rfl ?_
  refine m_getR (pc' := 58) fa_X10_restore_10 dX10_restore_55 (by decide) rfl rfl rfl rfl ?_
  refine m_getR (pc' := 61) fa_X10_restore_64 dX10_restore_58 (by decide) rfl rfl rfl rfl ?_
  refine m_getI (pc' := 64) fa_X10_restore_100 dX10_restore_61 (by decide) rfl rfl rfl ?_
  rw [show (f.1 2 3) = (a_s A 298) from fS.2.2.2]
  refine m_iret dX10_restore_64 rfl rfl ⟨by decide, by decide⟩ ?_
  exact hQ f ((kp_cf g0).trans (su_cf f0)) (CR_su (s := a_s A) (s' := rst (a_s A) 0) gC f0 (fS.cg (fun j hj => cpi_lt hj)) (fun j hj => cpi_ge hj))
set_option maxHeartbeats 4000000 in
set_option maxRecDepth 100000 in
theorem k_restore1 {A : AS}  (hC : CR d A) (hO : OK A) (hQ : ∀ d', cfr d d' → CR d' (opRestore A 1).2 → Q (some (.int (opRestore A 1).1)) S1 d') : mC G mX10_restore [.ref 0, .int 1] S1 d Q := by
  by_cases h2 : a_s A 331 = 0
  · skip
    rw [show opRestore A 1 = (eS, A) from by unfold opRestore; rw [if_neg (by decide)]; exact if_pos h2] at hQ
    refine mC_of (by decide +kernel) ⟨_, rfl⟩ (Nat.le_of_ble_eq_true rfl) ?_
    show mM G mX10_restore 0 [some (.ref 0), some (.int 1), none] [] S1 d (0, 0) Q
    refine m_iload_n (pc' := 1) dX10_restore_0 rfl rfl ?_
    refine m_callS (pc' := 4) (A := [.int 1]) (rest := []) cl_X10_restore_151 dX10_restore_1 rfl rfl (Nat.le_of_ble_eq_true rfl) ⟨by decide, by decide⟩ rfl rfl ?_
    refine c_isSnap ?_
    show mM G mX10_restore 4 [some (.ref 0), some (.int 1), none] [.int (bin 1 0 1)] S1 d (0, 0) Q
    rw [show (bin 1 0 1) = 1 from rfl]
    refine m_if_ne (tgt := 10) (pc' := 7) dX10_restore_4 (by decide) rfl (fun h4 => ?_) (fun h4 => absurd h4 (by decide))
    refine m_aload_n (pc' := 11) dX10_restore_10 rfl rfl ?_
    refine m_getR (pc' := 14) fa_X10_restore_10 dX10_restore_11 (by decide) rfl rfl rfl rfl ?_
    refine m_iload_n (pc' := 15) dX10_restore_14 rfl rfl ?_
    refine m_callV (pc' := 18) (A := [.int 1]) (rest := []) (b := 1) cl_X10_restore_154 dX10_restore_15 rfl rfl (Nat.le_of_ble_eq_true rfl) ⟨by decide, by decide⟩ (by decide) rfl rfl rfl rfl ?_
    refine c_snapAt1 ?_
    show mM G mX10_restore 18 [some (.ref 0), some (.int 1), none] [.ref 24] S1 d (0, 0) Q
    refine m_astore_n (pc' := 19) dX10_restore_18 (by decide) rfl rfl ?_
    refine m_aload_n (pc' := 20) dX10_restore_19 rfl rfl ?_
    refine m_getI (pc' := 23) fa_X10_restore_158 dX10_restore_20 (by decide) rfl rfl rfl ?_
    rw [show (d.1 24 1) = 0 from hC.1.2.2.2.2.2.1.1.trans h2]
    refine m_if_ne (tgt := 29) (pc' := 26) dX10_restore_23 (by decide) rfl (fun h23 => absurd h23 (by decide)) (fun h23 => ?_)
    refine m_ldc (pc' := 28) dX10_restore_26 kc_X10_restore_129 rfl ?_
    refine m_iret dX10_restore_28 rfl rfl ⟨by decide, by decide⟩ ?_
    exact hQ _ fr.rfl hC
  have h1s : a_s A 331 = 1 := hO.sn.2.resolve_left h2
  rw [show opRestore A 1 = (a_s A 375, rec A (rst (a_s A) 1) (a_h A)) from by unfold opRestore; rw [if_neg (by decide)]; exact if_neg h2] at hQ
  refine mC_of (by decide +kernel) ⟨_, rfl⟩ (Nat.le_of_ble_eq_true rfl) ?_
  show mM G mX10_restore 0 [some (.ref 0), some (.int 1), none] [] S1 d (0, 0) Q
  refine m_iload_n (pc' := 1) dX10_restore_0 rfl rfl ?_
  refine m_callS (pc' := 4) (A := [.int 1]) (rest := []) cl_X10_restore_151 dX10_restore_1 rfl rfl (Nat.le_of_ble_eq_true rfl) ⟨by decide, by decide⟩ rfl rfl ?_
  refine c_isSnap ?_
  show mM G mX10_restore 4 [some (.ref 0), some (.int 1), none] [.int (bin 1 0 1)] S1 d (0, 0) Q
  rw [show (bin 1 0 1) = 1 from rfl]
  refine m_if_ne (tgt := 10) (pc' := 7) dX10_restore_4 (by decide) rfl (fun h4 => ?_) (fun h4 => absurd h4 (by decide))
  refine m_aload_n (pc' := 11) dX10_restore_10 rfl rfl ?_
  refine m_getR (pc' := 14) fa_X10_restore_10 dX10_restore_11 (by decide) rfl rfl rfl rfl ?_
  refine m_iload_n (pc' := 15) dX10_restore_14 rfl rfl ?_
  refine m_callV (pc' := 18) (A := [.int 1]) (rest := []) (b := 1) cl_X10_restore_154 dX10_restore_15 rfl rfl (Nat.le_of_ble_eq_true rfl) ⟨by decide, by decide⟩ (by decide) rfl rfl rfl rfl ?_
  refine c_snapAt1 ?_
  show mM G mX10_restore 18 [some (.ref 0), some (.int 1), none] [.ref 24] S1 d (0, 0) Q
  refine m_astore_n (pc' := 19) dX10_restore_18 (by decide) rfl rfl ?_
  refine m_aload_n (pc' := 20) dX10_restore_19 rfl rfl ?_
  refine m_getI (pc' := 23) fa_X10_restore_158 dX10_restore_20 (by decide) rfl rfl rfl ?_
  rw [show (d.1 24 1) = 1 from hC.1.2.2.2.2.2.1.1.trans h1s]
  refine m_if_ne (tgt := 29) (pc' := 26) dX10_restore_23 (by decide) rfl (fun h23 => ?_) (fun h23 => absurd h23 (by decide))
  refine m_aload_n (pc' := 30) dX10_restore_29 rfl rfl ?_
  refine m_getR (pc' := 33) fa_X10_restore_19 dX10_restore_30 (by decide) rfl rfl rfl rfl ?_
  refine m_aload_n (pc' := 34) dX10_restore_33 rfl rfl ?_
  refine m_getR (pc' := 37) fa_X10_restore_10 dX10_restore_34 (by decide) rfl rfl rfl rfl ?_
  refine m_callV (pc' := 40) (A := [.ref 1]) (rest := []) (b := 32) cl_X10_restore_60 dX10_restore_37 rfl rfl (Nat.le_of_ble_eq_true rfl) ⟨by decide, by decide⟩ (by decide) rfl rfl rfl rfl ?_
  refine c_keep hC.1 hC.2.1 hO (fun g g0 gH => ?_)
  show mM G mX10_restore 40 [some (.ref 0), some (.int 1), some (.ref 24)] [] S1 g (0, 0) Q
  have gC := CR_keep hC g0 gH
  have hS : SR g 2 (a_s A) := gC.1.1
  refine m_aload_n (pc' := 41) dX10_restore_40 rfl rfl ?_
  refine m_getR (pc' := 44) fa_X10_restore_10 dX10_restore_41 (by decide) rfl rfl rfl rfl ?_
  refine m_getR (pc' := 47) fa_X10_restore_64 dX10_restore_44 (by decide) rfl rfl rfl rfl ?_
  refine m_aload_n (pc' := 48) dX10_restore_47 rfl rfl ?_
  refine m_getR (pc' := 51) fa_X10_restore_164 dX10_restore_48 (by decide) rfl rfl rfl rfl ?_
  refine m_callV (pc' := 54) (A := [.ref 25]) (rest := []) (b := 2) cl_X10_restore_165 dX10_restore_51 rfl rfl (Nat.le_of_ble_eq_true rfl) ⟨by decide, by decide⟩ (by decide) rfl rfl rfl rfl ?_
  refine c_scopy (a := 2) (b := 25) (s := fun j => a_s A (332 + j)) (by decide) (by decide) (by decide) (gC.1.2.2.2.2.2.1.2 h1s) (fun f f0 fS => ?_)
  show mM G mX10_restore 54 [some (.ref 0), some (.int 1), some (.ref 24)] [] S1 f (0, 0) Q
  refine m_aload_n (pc' := 55) dX10_restore_54 rfl rfl ?_
  refine m_getR (pc' := 58) fa_X10_restore_10 dX10_restore_55 (by decide) rfl rfl rfl rfl ?_
  refine m_getR (pc' := 61) fa_X10_restore_64 dX10_restore_58 (by decide) rfl rfl rfl rfl ?_
  refine m_getI (pc' := 64) fa_X10_restore_100 dX10_restore_61 (by decide) rfl rfl rfl ?_
  rw [show (f.1 2 3) = (a_s A 375) from fS.2.2.2]
  refine m_iret dX10_restore_64 rfl rfl ⟨by decide, by decide⟩ ?_
  exact hQ f ((kp_cf g0).trans (su_cf f0)) (CR_su (s := a_s A) (s' := rst (a_s A) 1) gC f0 (fS.cg (fun j hj => cpi_lt hj)) (fun j hj => cpi_ge hj))
set_option maxHeartbeats 4000000 in
set_option maxRecDepth 100000 in
theorem k_restoreX {A : AS} {p : Int32} (hC : CR d A) (hb : bin p 0 1 = 0) (hQ : ∀ d', cfr d d' → CR d' (opRestore A p).2 → Q (some (.int (opRestore A p).1)) S1 d') : mC G mX10_restore [.ref 0, .int p] S1 d Q := by
  rw [show opRestore A p = (eI, A) from if_pos hb] at hQ
  refine mC_of (by decide +kernel) ⟨_, rfl⟩ (Nat.le_of_ble_eq_true rfl) ?_
  show mM G mX10_restore 0 [some (.ref 0), some (.int p), none] [] S1 d (0, 0) Q
  refine m_iload_n (pc' := 1) dX10_restore_0 rfl rfl ?_
  refine m_callS (pc' := 4) (A := [.int p]) (rest := []) cl_X10_restore_151 dX10_restore_1 rfl rfl (Nat.le_of_ble_eq_true rfl) ⟨by decide, by decide⟩ rfl rfl ?_
  refine c_isSnap ?_
  show mM G mX10_restore 4 [some (.ref 0), some (.int p), none] [.int (bin p 0 1)] S1 d (0, 0) Q
  rw [show (bin p 0 1) = 0 from hb]
  refine m_if_ne (tgt := 10) (pc' := 7) dX10_restore_4 (by decide) rfl (fun h4 => absurd h4 (by decide)) (fun h4 => ?_)
  refine m_ldc (pc' := 9) dX10_restore_7 kc_X10_restore_59 rfl ?_
  refine m_iret dX10_restore_9 rfl rfl ⟨by decide, by decide⟩ ?_
  exact hQ _ fr.rfl hC
theorem k_restore {A : AS} {p : Int32} (hC : CR d A) (hO : OK A) (hQ : ∀ d', cfr d d' → CR d' (opRestore A p).2 → Q (some (.int (opRestore A p).1)) S1 d') : mC G mX10_restore [.ref 0, .int p] S1 d Q := by
  by_cases hb : bin p 0 1 = 0
  · exact k_restoreX hC hb hQ
  obtain ⟨p, hp, rfl⟩ := bin_t (b := 1) (by decide) hb
  rcases (show p = 0 ∨ p = 1 by omega) with rfl | rfl
  · exact k_restore0 hC hO hQ
  · exact k_restore1 hC hO hQ
end CLS16
