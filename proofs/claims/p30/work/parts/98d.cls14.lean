/-! THE CLASS'S OWN CALLS (6) -/
section CLS14
variable {G : GP} {Q : Option Value → Sh → Dt → Prop} {d : Dt}
theorem TR_ac {d : Dt} {s : SS} {h : UInt32} {i : Nat} {x v : Int32} (hT : TR d 1 s h) (hi : i < 6) : TR (u2 d.1 15 i v, d.2) 1 (sU (sU s 76 x) (88 + i) v) h := by
  have hf : fr (fun y _ => y = 15) nE d (u2 d.1 15 i v, d.2) := fr.i fr.rfl _ rfl
  have k : ∀ y j, y ≠ 15 → (u2 d.1 15 i v) y j = d.1 y j := fun y j hy => congrFun (u2_ne hy) j
  have e : ∀ j, j ≠ 76 → (j < 88 ∨ 94 ≤ j) → sU (sU s 76 x) (88 + i) v j = s j := fun j h1 h2 => (sU_ne _ _ (by omega)).trans (sU_ne _ _ h1)
  obtain ⟨h1, ⟨nx, c, l1, l2, l3, l4, l5, l6⟩, h3, h4, h5, h6, h7⟩ := hT
  have bk : ∀ a, a + 6 < 15 ∨ 15 < a → ∀ t, SR d a t → SR (u2 d.1 15 i v, d.2) a t := fun a ha t ht => ht.fr hf (fun j => show ¬ (a + 2 = 15) by omega) (fun j => show ¬ (a + 4 = 15) by omega) (fun j => show ¬ (a + 6 = 15) by omega) (show ¬ (a = 15) by omega)
  refine ⟨(bk 2 (by omega) s h1).cg (fun j hj => e j (by omega) (by omega)), ⟨nx, c, l1, l2, (k _ _ (by decide)).trans l3, (k _ _ (by decide)).trans l4, (e 77 (by decide) (by decide)).trans l5, fun y j hy hj => (k _ _ (by decide)).trans ((l6 y j hy hj).trans (e _ (by omega) (by omega)).symm)⟩, fun p hp => ?_, fun y hy => ?_, ⟨(k _ _ (by decide)).trans (h5.1.trans (e 254 (by decide) (by decide)).symm), fun q => ?_⟩, ⟨(k _ _ (by decide)).trans (h6.1.trans (e 331 (by decide) (by decide)).symm), fun q => ?_⟩, h7⟩
  · rw [e (78 + p) (by omega) (by omega)]; exact (k _ _ (by decide)).trans (h3 p hp)
  · show u2 d.1 15 i v 15 y = _
    by_cases c : y = i
    · subst c; rw [u2_same, sU_eq]
    · rw [u2_oth c, sU_ne _ _ (by omega), sU_ne _ _ (by omega)]; exact h4 y hy
  · exact (bk 17 (by omega) _ (h5.2 ((e 254 (by decide) (by decide)).symm.trans q))).cg (fun j hj => e _ (by omega) (by omega))
  · exact (bk 25 (by omega) _ (h6.2 ((e 331 (by decide) (by decide)).symm.trans q))).cg (fun j hj => e _ (by omega) (by omega))
set_option maxHeartbeats 4000000 in
set_option maxRecDepth 100000 in
theorem k_pass {A : AS} {n : Int32} (hC : CR d A) (hO : OK A) (hQ : ∀ d', cfr d d' → CR d' (opPass A n).2 → Q (some (.int (opPass A n).1)) S1 d') : mC G mX10_pass [.ref 0, .int n] S1 d Q := by
  by_cases hb : bin n 1 1000 = 0
  · skip
    rw [show opPass A n = (eI, A) from if_pos hb] at hQ
    refine mC_of (by decide +kernel) ⟨_, rfl⟩ (Nat.le_of_ble_eq_true rfl) ?_
    show mM G mX10_pass 0 [some (.ref 0), some (.int n)] [] S1 d (0, 0) Q
    refine m_iload_n (pc' := 1) dX10_pass_0 rfl rfl ?_
    refine m_iconst (pc' := 2) (v := 1) dX10_pass_1 (by decide) rfl ?_
    refine m_sipush (pc' := 5) (v := 1000) dX10_pass_2 (by decide) rfl ?_
    refine m_callS (pc' := 8) (A := [.int n, .int 1, .int 1000]) (rest := []) cl_X10_pass_81 dX10_pass_5 rfl rfl (Nat.le_of_ble_eq_true rfl) ⟨by decide, by decide⟩ rfl rfl ?_
    refine c_within ?_
    show mM G mX10_pass 8 [some (.ref 0), some (.int n)] [.int (bin n 1 1000)] S1 d (0, 0) Q
    rw [show (bin n 1 1000) = 0 from hb]
    refine m_if_ne (tgt := 14) (pc' := 11) dX10_pass_8 (by decide) rfl (fun h8 => absurd h8 (by decide)) (fun h8 => ?_)
    refine m_ldc (pc' := 13) dX10_pass_11 kc_X10_pass_59 rfl ?_
    refine m_iret dX10_pass_13 rfl rfl ⟨by decide, by decide⟩ ?_
    exact hQ _ fr.rfl hC
  by_cases hg : 9999 < a_s A 76 + n
  · skip
    rw [show opPass A n = (eC, A) from by unfold opPass; rw [if_neg hb, if_pos hg]] at hQ
    refine mC_of (by decide +kernel) ⟨_, rfl⟩ (Nat.le_of_ble_eq_true rfl) ?_
    show mM G mX10_pass 0 [some (.ref 0), some (.int n)] [] S1 d (0, 0) Q
    refine m_iload_n (pc' := 1) dX10_pass_0 rfl rfl ?_
    refine m_iconst (pc' := 2) (v := 1) dX10_pass_1 (by decide) rfl ?_
    refine m_sipush (pc' := 5) (v := 1000) dX10_pass_2 (by decide) rfl ?_
    refine m_callS (pc' := 8) (A := [.int n, .int 1, .int 1000]) (rest := []) cl_X10_pass_81 dX10_pass_5 rfl rfl (Nat.le_of_ble_eq_true rfl) ⟨by decide, by decide⟩ rfl rfl ?_
    refine c_within ?_
    show mM G mX10_pass 8 [some (.ref 0), some (.int n)] [.int (bin n 1 1000)] S1 d (0, 0) Q
    rw [show (bin n 1 1000) = 1 from bin_1 hb]
    refine m_if_ne (tgt := 14) (pc' := 11) dX10_pass_8 (by decide) rfl (fun h8 => ?_) (fun h8 => absurd h8 (by decide))
    refine m_aload_n (pc' := 15) dX10_pass_14 rfl rfl ?_
    refine m_getR (pc' := 18) fa_X10_pass_10 dX10_pass_15 (by decide) rfl rfl rfl rfl ?_
    refine m_callV (pc' := 21) (A := []) (rest := []) (b := 1) cl_X10_pass_121 dX10_pass_18 rfl rfl (Nat.le_of_ble_eq_true rfl) ⟨by decide, by decide⟩ (by decide) rfl rfl rfl rfl ?_
    refine c_time hC.1 hO.1.2.2.2.2.2 ?_
    show mM G mX10_pass 21 [some (.ref 0), some (.int n)] [.int (a_s A 76)] S1 d (0, 0) Q
    refine m_iload_n (pc' := 22) dX10_pass_21 rfl rfl ?_
    refine m_iadd (pc' := 23) dX10_pass_22 rfl ?_
    refine m_sipush (pc' := 26) (v := 9999) dX10_pass_23 (by decide) rfl ?_
    refine m_icmp_le (tgt := 32) (pc' := 29) dX10_pass_26 (by decide) rfl (fun h26 => absurd h26 (Int32.not_le.mpr hg)) (fun h26 => ?_)
    refine m_ldc (pc' := 31) dX10_pass_29 kc_X10_pass_107 rfl ?_
    refine m_iret dX10_pass_31 rfl rfl ⟨by decide, by decide⟩ ?_
    exact hQ _ fr.rfl hC
  rw [show opPass A n = (a_s A 76 + n, rec A (sU (sU (a_s A) 76 (a_s A 76 + n)) 91 (a_s A 91 + n)) (a_h A)) from by unfold opPass; rw [if_neg hb, if_neg hg]] at hQ
  refine mC_of (by decide +kernel) ⟨_, rfl⟩ (Nat.le_of_ble_eq_true rfl) ?_
  show mM G mX10_pass 0 [some (.ref 0), some (.int n)] [] S1 d (0, 0) Q
  refine m_iload_n (pc' := 1) dX10_pass_0 rfl rfl ?_
  refine m_iconst (pc' := 2) (v := 1) dX10_pass_1 (by decide) rfl ?_
  refine m_sipush (pc' := 5) (v := 1000) dX10_pass_2 (by decide) rfl ?_
  refine m_callS (pc' := 8) (A := [.int n, .int 1, .int 1000]) (rest := []) cl_X10_pass_81 dX10_pass_5 rfl rfl (Nat.le_of_ble_eq_true rfl) ⟨by decide, by decide⟩ rfl rfl ?_
  refine c_within ?_
  show mM G mX10_pass 8 [some (.ref 0), some (.int n)] [.int (bin n 1 1000)] S1 d (0, 0) Q
  rw [show (bin n 1 1000) = 1 from bin_1 hb]
  refine m_if_ne (tgt := 14) (pc' := 11) dX10_pass_8 (by decide) rfl (fun h8 => ?_) (fun h8 => absurd h8 (by decide))
  refine m_aload_n (pc' := 15) dX10_pass_14 rfl rfl ?_
  refine m_getR (pc' := 18) fa_X10_pass_10 dX10_pass_15 (by decide) rfl rfl rfl rfl ?_
  refine m_callV (pc' := 21) (A := []) (rest := []) (b := 1) cl_X10_pass_121 dX10_pass_18 rfl rfl (Nat.le_of_ble_eq_true rfl) ⟨by decide, by decide⟩ (by decide) rfl rfl rfl rfl ?_
  refine c_time hC.1 hO.1.2.2.2.2.2 ?_
  show mM G mX10_pass 21 [some (.ref 0), some (.int n)] [.int (a_s A 76)] S1 d (0, 0) Q
  refine m_iload_n (pc' := 22) dX10_pass_21 rfl rfl ?_
  refine m_iadd (pc' := 23) dX10_pass_22 rfl ?_
  refine m_sipush (pc' := 26) (v := 9999) dX10_pass_23 (by decide) rfl ?_
  refine m_icmp_le (tgt := 32) (pc' := 29) dX10_pass_26 (by decide) rfl (fun h26 => ?_) (fun h26 => (h26 (Int32.not_lt.mp hg)).elim)
  refine m_aload_n (pc' := 33) dX10_pass_32 rfl rfl ?_
  refine m_getR (pc' := 36) fa_X10_pass_19 dX10_pass_33 (by decide) rfl rfl rfl rfl ?_
  refine m_aload_n (pc' := 37) dX10_pass_36 rfl rfl ?_
  refine m_getR (pc' := 40) fa_X10_pass_10 dX10_pass_37 (by decide) rfl rfl rfl rfl ?_
  refine m_callV (pc' := 43) (A := [.ref 1]) (rest := []) (b := 32) cl_X10_pass_60 dX10_pass_40 rfl rfl (Nat.le_of_ble_eq_true rfl) ⟨by decide, by decide⟩ (by decide) rfl rfl rfl rfl ?_
  refine c_keep hC.1 hC.2.1 hO (fun g g0 gH => ?_)
  show mM G mX10_pass 43 [some (.ref 0), some (.int n)] [] S1 g (0, 0) Q
  have gC := CR_keep hC g0 gH
  have hS : SR g 2 (a_s A) := gC.1.1
  refine m_aload_n (pc' := 44) dX10_pass_43 rfl rfl ?_
  refine m_getR (pc' := 47) fa_X10_pass_10 dX10_pass_44 (by decide) rfl rfl rfl rfl ?_
  refine m_iconst (pc' := 48) (v := 3) dX10_pass_47 (by decide) rfl ?_
  refine m_iload_n (pc' := 49) dX10_pass_48 rfl rfl ?_
  refine m_callV (pc' := 52) (A := [.int 3, .int n]) (rest := []) (b := 1) cl_X10_pass_147 dX10_pass_49 rfl rfl (Nat.le_of_ble_eq_true rfl) ⟨by decide, by decide⟩ (by decide) rfl rfl rfl rfl ?_
  refine c_addTo (i := 3) (by decide) ?_
  show mM G mX10_pass 52 [some (.ref 0), some (.int n)] [] S1 (u2 g.1 15 3 (g.1 15 3 + n), g.2) (0, 0) Q
  have e3 : g.1 15 3 = a_s A 91 := gC.1.2.2.2.1 3 (by decide)
  have gT : TR (u2 g.1 15 3 (g.1 15 3 + n), g.2) 1 (sU (sU (a_s A) 76 (a_s A 76 + n)) 91 (a_s A 91 + n)) (a_h A) := by rw [e3]; exact TR_ac (i := 3) gC.1 (by decide)
  have h76 : (sU (sU (a_s A) 76 (a_s A 76 + n)) 91 (a_s A 91 + n)) 76 = (sU (sU (a_s A) 76 (a_s A 76 + n)) 91 (a_s A 91 + n)) 88 + (sU (sU (a_s A) 76 (a_s A 76 + n)) 91 (a_s A 91 + n)) 89 + (sU (sU (a_s A) 76 (a_s A 76 + n)) 91 (a_s A 91 + n)) 90 + (sU (sU (a_s A) 76 (a_s A 76 + n)) 91 (a_s A 91 + n)) 91 := by
    rw [sU_eq, sU_ne _ _ (show 76 ≠ 91 by decide), sU_eq, sU_ne _ _ (show 88 ≠ 91 by decide), sU_ne _ _ (show 88 ≠ 76 by decide), sU_ne _ _ (show 89 ≠ 91 by decide), sU_ne _ _ (show 89 ≠ 76 by decide), sU_ne _ _ (show 90 ≠ 91 by decide), sU_ne _ _ (show 90 ≠ 76 by decide), hO.1.2.2.2.2.2, ← Int32.add_assoc]
  refine m_aload_n (pc' := 53) dX10_pass_52 rfl rfl ?_
  refine m_getR (pc' := 56) fa_X10_pass_10 dX10_pass_53 (by decide) rfl rfl rfl rfl ?_
  refine m_callV (pc' := 59) (A := []) (rest := []) (b := 1) cl_X10_pass_121 dX10_pass_56 rfl rfl (Nat.le_of_ble_eq_true rfl) ⟨by decide, by decide⟩ (by decide) rfl rfl rfl rfl ?_
  refine c_time (s := (sU (sU (a_s A) 76 (a_s A 76 + n)) 91 (a_s A 91 + n))) gT h76 ?_
  show mM G mX10_pass 59 [some (.ref 0), some (.int n)] [.int (a_s A 76 + n)] S1 (u2 g.1 15 3 (g.1 15 3 + n), g.2) (0, 0) Q
  refine m_iret dX10_pass_59 rfl rfl ⟨by decide, by decide⟩ ?_
  have f0 : fr (fun y _ => y = 15) nE g (u2 g.1 15 3 (g.1 15 3 + n), g.2) := fr.i fr.rfl _ rfl
  exact hQ _ ((kp_cf g0).trans (f0.mono (by intro x j h; have : x = 15 := h; omega) (fun _ _ => False.elim))) ⟨gT, HS_bk (A := rec A (sU (sU (a_s A) 76 (a_s A 76 + n)) 91 (a_s A 91 + n)) (a_h A)) gC.2.1 (fun x j h1 h2 => f0.1 x j (show ¬ (x = 15) by omega)) (fun _ _ _ _ => rfl), gC.2.2.1, gC.2.2.2⟩
end CLS14
