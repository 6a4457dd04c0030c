/-! THE CLASS'S OWN CALLS (7): snapshots -/
section CLS15
variable {G : GP} {Q : Option Value → Sh → Dt → Prop} {d : Dt}
theorem TR_tk0 {d d' : Dt} {s : SS} {h : UInt32} (hT : TR d 1 s h) (hf : fr (fun x j => suE 17 x j ∨ (x = 16 ∧ j = 1)) nE d d') (q1 : d'.1 16 1 = 1) (hS : SR d' 17 s) : TR d' 1 (tks s 0) h := by
  have k : ∀ y j, (y < 16 ∨ 23 < y) → True → d'.1 y j = d.1 y j := fun y j hy _ => hf.1 y j (by omega)
  have e : ∀ j, (j < 254 ∨ 331 ≤ j) → tks s 0 j = s j := fun j hj => by unfold tks cpw; rw [if_neg (by omega), sU_ne _ _ (by omega)]
  have tk_at : tks s 0 254 = 1 := by unfold tks cpw; rw [if_neg (by omega)]; exact sU_eq _ _ _
  have tk_in : ∀ j, j < 76 → tks s 0 (255 + j) = s j := fun j hj => by unfold tks cpw; rw [if_pos (by omega)]; exact congrArg s (by omega)
  obtain ⟨h1, ⟨nx, c, l1, l2, l3, l4, l5, l6⟩, h3, h4, h5, h6, h7⟩ := hT
  have bk : ∀ a, a + 6 < 16 ∨ 23 < a → ∀ t, SR d a t → SR d' a t := fun a ha t ht => ht.fr hf (fun j => by omega) (fun j => by omega) (fun j => by omega) (by omega)
  refine ⟨(bk 2 (by omega) s h1).cg (fun j hj => e j (by omega)), ⟨nx, c, l1, l2, (k _ _ (by decide) trivial).trans l3, (k _ _ (by decide) trivial).trans l4, (e 77 (by omega)).trans l5, fun y j hy hj => (k _ _ (by decide) trivial).trans ((l6 y j hy hj).trans (e _ (by omega)).symm)⟩, fun p hp => ?_, fun y hy => (k _ _ (by decide) trivial).trans ((h4 y hy).trans (e _ (by omega)).symm), ?_, ?_, (hf.2 1 6 id).trans h7⟩
  · rw [e (78 + p) (by omega)]; exact (k _ _ (by decide) trivial).trans (h3 p hp)
  · exact ⟨q1.trans tk_at.symm, fun _ => hS.cg tk_in⟩
  · exact ⟨(k _ _ (by decide) trivial).trans (h6.1.trans (e 331 (by omega)).symm), fun q => (bk 25 (by omega) _ (h6.2 ((e 331 (by omega)).symm.trans q))).cg (fun j hj => e _ (by omega))⟩
theorem TR_tk1 {d d' : Dt} {s : SS} {h : UInt32} (hT : TR d 1 s h) (hf : fr (fun x j => suE 25 x j ∨ (x = 24 ∧ j = 1)) nE d d') (q1 : d'.1 24 1 = 1) (hS : SR d' 25 s) : TR d' 1 (tks s 1) h := by
  have k : ∀ y j, (y < 24 ∨ 31 < y) → True → d'.1 y j = d.1 y j := fun y j hy _ => hf.1 y j (by omega)
  have e : ∀ j, (j < 331 ∨ 408 ≤ j) → tks s 1 j = s j := fun j hj => by unfold tks cpw; rw [if_neg (by omega), sU_ne _ _ (by omega)]
  have tk_at : tks s 1 331 = 1 := by unfold tks cpw; rw [if_neg (by omega)]; exact sU_eq _ _ _
  have tk_in : ∀ j, j < 76 → tks s 1 (332 + j) = s j := fun j hj => by unfold tks cpw; rw [if_pos (by omega)]; exact congrArg s (by omega)
  obtain ⟨h1, ⟨nx, c, l1, l2, l3, l4, l5, l6⟩, h3, h4, h5, h6, h7⟩ := hT
  have bk : ∀ a, a + 6 < 24 ∨ 31 < a → ∀ t, SR d a t → SR d' a t := fun a ha t ht => ht.fr hf (fun j => by omega) (fun j => by omega) (fun j => by omega) (by omega)
  refine ⟨(bk 2 (by omega) s h1).cg (fun j hj => e j (by omega)), ⟨nx, c, l1, l2, (k _ _ (by decide) trivial).trans l3, (k _ _ (by decide) trivial).trans l4, (e 77 (by omega)).trans l5, fun y j hy hj => (k _ _ (by decide) trivial).trans ((l6 y j hy hj).trans (e _ (by omega)).symm)⟩, fun p hp => ?_, fun y hy => (k _ _ (by decide) trivial).trans ((h4 y hy).trans (e _ (by omega)).symm), ?_, ?_, (hf.2 1 6 id).trans h7⟩
  · rw [e (78 + p) (by omega)]; exact (k _ _ (by decide) trivial).trans (h3 p hp)
  · exact ⟨(k _ _ (by decide) trivial).trans (h5.1.trans (e 254 (by omega)).symm), fun q => (bk 17 (by omega) _ (h5.2 ((e 254 (by omega)).symm.trans q))).cg (fun j hj => e _ (by omega))⟩
  · exact ⟨q1.trans tk_at.symm, fun _ => hS.cg tk_in⟩
set_option maxHeartbeats 4000000 in
set_option maxRecDepth 100000 in
theorem k_take0 {A : AS}  (hC : CR d A) (hO : OK A) (hQ : ∀ d', cfr d d' → CR d' (opTake A 0).2 → Q (some (.int (opTake A 0).1)) S1 d') : mC G mX10_take [.ref 0, .int 0] S1 d Q := by
  rw [show opTake A 0 = (a_s A 43, rec A (tks (a_s A) 0) (a_h A)) from by unfold opTake; rw [if_neg (by decide)]; rfl] at hQ
  refine mC_of (by decide +kernel) ⟨_, rfl⟩ (Nat.le_of_ble_eq_true rfl) ?_
  show mM G mX10_take 0 [some (.ref 0), some (.int 0), none] [] S1 d (0, 0) Q
  refine m_iload_n (pc' := 1) dX10_take_0 rfl rfl ?_
  refine m_callS (pc' := 4) (A := [.int 0]) (rest := []) cl_X10_take_151 dX10_take_1 rfl rfl (Nat.le_of_ble_eq_true rfl) ⟨by decide, by decide⟩ rfl rfl ?_
  refine c_isSnap ?_
  show mM G mX10_take 4 [some (.ref 0), some (.int 0), none] [.int (bin 0 0 1)] S1 d (0, 0) Q
  rw [show (bin 0 0 1) = 1 from rfl]
  refine m_if_ne (tgt := 10) (pc' := 7) dX10_take_4 (by decide) rfl (fun h4 => ?_) (fun h4 => absurd h4 (by decide))
  refine m_aload_n (pc' := 11) dX10_take_10 rfl rfl ?_
  refine m_getR (pc' := 14) fa_X10_take_19 dX10_take_11 (by decide) rfl rfl rfl rfl ?_
  refine m_aload_n (pc' := 15) dX10_take_14 rfl rfl ?_
  refine m_getR (pc' := 18) fa_X10_take_10 dX10_take_15 (by decide) rfl rfl rfl rfl ?_
  refine m_callV (pc' := 21) (A := [.ref 1]) (rest := []) (b := 32) cl_X10_take_60 dX10_take_18 rfl rfl (Nat.le_of_ble_eq_true rfl) ⟨by decide, by decide⟩ (by decide) rfl rfl rfl rfl ?_
  refine c_keep hC.1 hC.2.1 hO (fun g g0 gH => ?_)
  show mM G mX10_take 21 [some (.ref 0), some (.int 0), none] [] S1 g (0, 0) Q
  have gC := CR_keep hC g0 gH
  have hS : SR g 2 (a_s A) := gC.1.1
  refine m_aload_n (pc' := 22) dX10_take_21 rfl rfl ?_
  refine m_getR (pc' := 25) fa_X10_take_10 dX10_take_22 (by decide) rfl rfl rfl rfl ?_
  refine m_iload_n (pc' := 26) dX10_take_25 rfl rfl ?_
  refine m_callV (pc' := 29) (A := [.int 0]) (rest := []) (b := 1) cl_X10_take_154 dX10_take_26 rfl rfl (Nat.le_of_ble_eq_true rfl) ⟨by decide, by decide⟩ (by decide) rfl rfl rfl rfl ?_
  refine c_snapAt0 ?_
  show mM G mX10_take 29 [some (.ref 0), some (.int 0), none] [.ref 16] S1 g (0, 0) Q
  refine m_astore_n (pc' := 30) dX10_take_29 (by decide) rfl rfl ?_
  refine m_aload_n (pc' := 31) dX10_take_30 rfl rfl ?_
  refine m_iconst (pc' := 32) (v := 1) dX10_take_31 (by decide) rfl ?_
  refine m_putI (pc' := 35) (ty := .boolean) fa_X10_take_158 dX10_take_32 (by decide +kernel) (by decide) (by decide) (by decide) rfl rfl rfl ?_
  refine m_aload_n (pc' := 36) dX10_take_35 rfl rfl ?_
  refine m_getR (pc' := 39) fa_X10_take_164 dX10_take_36 (by decide) rfl rfl rfl rfl ?_
  refine m_aload_n (pc' := 40) dX10_take_39 rfl rfl ?_
  refine m_getR (pc' := 43) fa_X10_take_10 dX10_take_40 (by decide) rfl rfl rfl rfl ?_
  refine m_getR (pc' := 46) fa_X10_take_64 dX10_take_43 (by decide) rfl rfl rfl rfl ?_
  refine m_callV (pc' := 49) (A := [.ref 2]) (rest := []) (b := 17) cl_X10_take_165 dX10_take_46 rfl rfl (Nat.le_of_ble_eq_true rfl) ⟨by decide, by decide⟩ (by decide) rfl rfl rfl rfl ?_
  have fq : fr (fun x j => x = 16 ∧ j = 1) nE g (u2 g.1 16 1 1, g.2) := fr.i fr.rfl _ ⟨rfl, rfl⟩
  refine c_scopy (a := 17) (b := 2) (s := a_s A) (by decide) (by decide) (by decide) (hS.fr fq (fun j => by omega) (fun j => by omega) (fun j => by omega) (by omega)) (fun f f0 fS => ?_)
  show mM G mX10_take 49 [some (.ref 0), some (.int 0), some (.ref 16)] [] S1 f (0, 0) Q
  refine m_aload_n (pc' := 50) dX10_take_49 rfl rfl ?_
  refine m_getR (pc' := 53) fa_X10_take_164 dX10_take_50 (by decide) rfl rfl rfl rfl ?_
  refine m_getI (pc' := 56) fa_X10_take_100 dX10_take_53 (by decide) rfl rfl rfl ?_
  rw [show (f.1 17 3) = (a_s A 43) from fS.2.2.2]
  refine m_iret dX10_take_56 rfl rfl ⟨by decide, by decide⟩ ?_
  have fg : fr (fun x j => suE 17 x j ∨ (x = 16 ∧ j = 1)) nE g f := (fq.mono (fun x j h => Or.inr h) (fun _ _ => id)).trans (f0.mono (fun x j h => Or.inl h) (fun _ _ => id))
  have q1 : f.1 16 1 = 1 := (f0.1 16 1 (by omega)).trans (u2_same (m := g.1) (k := 16) (j := 1) (x := 1))
  exact hQ f ((kp_cf g0).trans (fg.mono (by intro x j h; omega) (fun _ _ => False.elim))) ⟨TR_tk0 gC.1 fg q1 fS, HS_bk (A := rec A (tks (a_s A) 0) (a_h A)) gC.2.1 (fun x j h1 h2 => fg.1 x j (by omega)) (fun x j _ _ => fg.2 x j id), (fg.1 205 1 (by omega)).trans gC.2.2.1, fun j hj => (fg.1 206 j (by omega)).trans (gC.2.2.2 j hj)⟩
set_option maxHeartbeats 4000000 in
set_option maxRecDepth 100000 in
theorem k_take1 {A : AS}  (hC : CR d A) (hO : OK A) (hQ : ∀ d', cfr d d' → CR d' (opTake A 1).2 → Q (some (.int (opTake A 1).1)) S1 d') : mC G mX10_take [.ref 0, .int 1] S1 d Q := by
  rw [show opTake A 1 = (a_s A 43, rec A (tks (a_s A) 1) (a_h A)) from by unfold opTake; rw [if_neg (by decide)]; rfl] at hQ
  refine mC_of (by decide +kernel) ⟨_, rfl⟩ (Nat.le_of_ble_eq_true rfl) ?_
  show mM G mX10_take 0 [some (.ref 0), some (.int 1), none] [] S1 d (0, 0) Q
  refine m_iload_n (pc' := 1) dX10_take_0 rfl rfl ?_
  refine m_callS (pc' := 4) (A := [.int 1]) (rest := []) cl_X10_take_151 dX10_take_1 rfl rfl (Nat.le_of_ble_eq_true rfl) ⟨by decide, by decide⟩ rfl rfl ?_
  refine c_isSnap ?_
  show mM G mX10_take 4 [some (.ref 0), some (.int 1), none] [.int (bin 1 0 1)] S1 d (0, 0) Q
  rw [show (bin 1 0 1) = 1 from rfl]
  refine m_if_ne (tgt := 10) (pc' := 7) dX10_take_4 (by decide) rfl (fun h4 => ?_) (fun h4 => absurd h4 (by decide))
  refine m_aload_n (pc' := 11) dX10_take_10 rfl rfl ?_
  refine m_getR (pc' := 14) fa_X10_take_19 dX10_take_11 (by decide) rfl rfl rfl rfl ?_
  refine m_aload_n (pc' := 15) dX10_take_14 rfl rfl ?_
  refine m_getR (pc' := 18) fa_X10_take_10 dX10_take_15 (by decide) rfl rfl rfl rfl ?_
  refine m_callV (pc' := 21) (A := [.ref 1]) (rest := []) (b := 32) cl_X10_take_60 dX10_take_18 rfl rfl (Nat.le_of_ble_eq_true rfl) ⟨by decide, by decide⟩ (by decide) rfl rfl rfl rfl ?_
  refine c_keep hC.1 hC.2.1 hO (fun g g0 gH => ?_)
  show mM G mX10_take 21 [some (.ref 0), some (.int 1), none] [] S1 g (0, 0) Q
  have gC := CR_keep hC g0 gH
  have hS : SR g 2 (a_s A) := gC.1.1
  refine m_aload_n (pc' := 22) dX10_take_21 rfl rfl ?_
  refine m_getR (pc' := 25) fa_X10_take_10 dX10_take_22 (by decide) rfl rfl rfl rfl ?_
  refine m_iload_n (pc' := 26) dX10_take_25 rfl rfl ?_
  refine m_callV (pc' := 29) (A := [.int 1]) (rest := []) (b := 1) cl_X10_take_154 dX10_take_26 rfl rfl (Nat.le_of_ble_eq_true rfl) ⟨by decide, by decide⟩ (by decide) rfl rfl rfl rfl ?_
  refine c_snapAt1 ?_
  show mM G mX10_take 29 [some (.ref 0), some (.int 1), none] [.ref 24] S1 g (0, 0) Q
  refine m_astore_n (pc' := 30) dX10_take_29 (by decide) rfl rfl ?_
  refine m_aload_n (pc' := 31) dX10_take_30 rfl rfl ?_
  refine m_iconst (pc' := 32) (v := 1) dX10_take_31 (by decide) rfl ?_
  refine m_putI (pc' := 35) (ty := .boolean) fa_X10_take_158 dX10_take_32 (by decide +kernel) (by decide) (by decide) (by decide) rfl rfl rfl ?_
  refine m_aload_n (pc' := 36) dX10_take_35 rfl rfl ?_
  refine m_getR (pc' := 39) fa_X10_take_164 dX10_take_36 (by decide) rfl rfl rfl rfl ?_
  refine m_aload_n (pc' := 40) dX10_take_39 rfl rfl ?_
  refine m_getR (pc' := 43) fa_X10_take_10 dX10_take_40 (by decide) rfl rfl rfl rfl ?_
  refine m_getR (pc' := 46) fa_X10_take_64 dX10_take_43 (by decide) rfl rfl rfl rfl ?_
  refine m_callV (pc' := 49) (A := [.ref 2]) (rest := []) (b := 25) cl_X10_take_165 dX10_take_46 rfl rfl (Nat.le_of_ble_eq_true rfl) ⟨by decide, by decide⟩ (by decide) rfl rfl rfl rfl ?_
  have fq : fr (fun x j => x = 24 ∧ j = 1) nE g (u2 g.1 24 1 1, g.2) := fr.i fr.rfl _ ⟨rfl, rfl⟩
  refine c_scopy (a := 25) (b := 2) (s := a_s A) (by decide) (by decide) (by decide) (hS.fr fq (fun j => by omega) (fun j => by omega) (fun j => by omega) (by omega)) (fun f f0 fS => ?_)
  show mM G mX10_take 49 [some (.ref 0), some (.int 1), some (.ref 24)] [] S1 f (0, 0) Q
  refine m_aload_n (pc' := 50) dX10_take_49 rfl rfl ?_
  refine m_getR (pc' := 53) fa_X10_take_164 dX10_take_50 (by decide) rfl rfl rfl rfl ?_
  refine m_getI (pc' := 56) fa_X10_take_100 dX10_take_53 (by decide) rfl rfl rfl ?_
  rw [show (f.1 25 3) = (a_s A 43) from fS.2.2.2]
  refine m_iret dX10_take_56 rfl rfl ⟨by decide, by decide⟩ ?_
  have fg : fr (fun x j => suE 25 x j ∨ (x = 24 ∧ j = 1)) nE g f := (fq.mono (fun x j h => Or.inr h) (fun _ _ => id)).trans (f0.mono (fun x j h => Or.inl h) (fun _ _ => id))
  have q1 : f.1 24 1 = 1 := (f0.1 24 1 (by omega)).trans (u2_same (m := g.1) (k := 24) (j := 1) (x := 1))
  exact hQ f ((kp_cf g0).trans (fg.mono (by intro x j h; omega) (fun _ _ => False.elim))) ⟨TR_tk1 gC.1 fg q1 fS, HS_bk (A := rec A (tks (a_s A) 1) (a_h A)) gC.2.1 (fun x j h1 h2 => fg.1 x j (by omega)) (fun x j _ _ => fg.2 x j id), (fg.1 205 1 (by omega)).trans gC.2.2.1, fun j hj => (fg.1 206 j (by omega)).trans (gC.2.2.2 j hj)⟩
set_option maxHeartbeats 4000000 in
set_option maxRecDepth 100000 in
theorem k_takeX {A : AS} {p : Int32} (hC : CR d A) (hb : bin p 0 1 = 0) (hQ : ∀ d', cfr d d' → CR d' (opTake A p).2 → Q (some (.int (opTake A p).1)) S1 d') : mC G mX10_take [.ref 0, .int p] S1 d Q := by
  rw [show opTake A p = (eI, A) from if_pos hb] at hQ
  refine mC_of (by decide +kernel) ⟨_, rfl⟩ (Nat.le_of_ble_eq_true rfl) ?_
  show mM G mX10_take 0 [some (.ref 0), some (.int p), none] [] S1 d (0, 0) Q
  refine m_iload_n (pc' := 1) dX10_take_0 rfl rfl ?_
  refine m_callS (pc' := 4) (A := [.int p]) (rest := []) cl_X10_take_151 dX10_take_1 rfl rfl (Nat.le_of_ble_eq_true rfl) ⟨by decide, by decide⟩ rfl rfl ?_
  refine c_isSnap ?_
  show mM G mX10_take 4 [some (.ref 0), some (.int p), none] [.int (bin p 0 1)] S1 d (0, 0) Q
  rw [show (bin p 0 1) = 0 from hb]
  refine m_if_ne (tgt := 10) (pc' := 7) dX10_take_4 (by decide) rfl (fun h4 => absurd h4 (by decide)) (fun h4 => ?_)
  refine m_ldc (pc' := 9) dX10_take_7 kc_X10_take_59 rfl ?_
  refine m_iret dX10_take_9 rfl rfl ⟨by decide, by decide⟩ ?_
  exact hQ _ fr.rfl hC
theorem k_take {A : AS} {p : Int32} (hC : CR d A) (hO : OK A) (hQ : ∀ d', cfr d d' → CR d' (opTake A p).2 → Q (some (.int (opTake A p).1)) S1 d') : mC G mX10_take [.ref 0, .int p] S1 d Q := by
  by_cases hb : bin p 0 1 = 0
  · exact k_takeX hC hb hQ
  obtain ⟨p, hp, rfl⟩ := bin_t (b := 1) (by decide) hb
  rcases (show p = 0 ∨ p = 1 by omega) with rfl | rfl
  · exact k_take0 hC hO hQ
  · exact k_take1 hC hO hQ
end CLS15
