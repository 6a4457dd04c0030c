/-! THE CLASS'S OWN METHODS (4): states copied -/
section CLS4
variable {G : GP} {Q : Option Value → Sh → Dt → Prop} {d : Dt} {a b : Nat} {s : SS}
set_option maxHeartbeats 4000000 in
set_option maxRecDepth 100000 in
theorem c_logcopy  (hA : a ∈ stL) (hB : b ∈ stL) (hab : a ≠ b) (hQ : ∀ d', fr (lgE a) nE d d' → (∀ j, j < 160 → d'.1 (a + 10) j = d.1 (b + 10) j) → d'.1 (a + 8) 1 = d.1 (b + 8) 1 → d'.1 (a + 8) 2 = d.1 (b + 8) 2 → Q none S1 d') : mC G mX2_copyFrom [.ref (a + 8), .ref (b + 8)] S1 d Q := by
  have hf := st_far hA hB hab
  refine mC_of (by decide +kernel) ⟨_, rfl⟩ (Nat.le_of_ble_eq_true rfl) ?_
  show mM G mX2_copyFrom 0 [some (.ref (a + 8)), some (.ref (b + 8))] [] S1 d (0, 0) Q
  refine m_aload_n (pc' := 1) dX2_copyFrom_0 rfl rfl ?_
  refine m_getR (pc' := 4) fa_X2_copyFrom_14 dX2_copyFrom_1 (sa_lt8 hA) (sa_k8 hA) rfl (sa_r8_0 hA) rfl ?_
  refine m_aload_n (pc' := 5) dX2_copyFrom_4 rfl rfl ?_
  refine m_getR (pc' := 8) fa_X2_copyFrom_14 dX2_copyFrom_5 (sa_lt8 hB) (sa_k8 hB) rfl (sa_r8_0 hB) rfl ?_
  refine m_callV (pc' := 11) (A := [.ref (b + 9)]) (rest := []) (b := a + 9) cl_X2_copyFrom_20 dX2_copyFrom_8 rfl rfl (Nat.le_of_ble_eq_true rfl) ⟨by decide, by decide⟩ (sa_lt9 hA) (sa_k9 hA) rfl rfl rfl ?_
  refine c_tcopy (sa_T9 hA) (sa_T9 hB) (by decide) ?_
  show mM G mX2_copyFrom 11 [some (.ref (a + 8)), some (.ref (b + 8))] [] S1 (d_cpy d (b + 10) (a + 10) 0 0 160) (0, 0) Q
  refine m_aload_n (pc' := 12) dX2_copyFrom_11 rfl rfl ?_
  refine m_aload_n (pc' := 13) dX2_copyFrom_12 rfl rfl ?_
  refine m_getI (pc' := 16) fa_X2_copyFrom_24 dX2_copyFrom_13 (sa_lt8 hB) (sa_k8 hB) rfl rfl ?_
  rw [show ((d_cpy d (b + 10) (a + 10) 0 0 160).1 (b + 8) 1) = (d.1 (b + 8) 1) from congrFun (cpy_ne (show b + 8 ≠ a + 10 by omega)) 1]
  refine m_putI (pc' := 19) (ty := .int) fa_X2_copyFrom_24 dX2_copyFrom_16 (by decide +kernel) rfl rfl (sa_lt8 hA) (sa_k8 hA) rfl rfl ?_
  refine m_aload_n (pc' := 20) dX2_copyFrom_19 rfl rfl ?_
  refine m_aload_n (pc' := 21) dX2_copyFrom_20 rfl rfl ?_
  refine m_getI (pc' := 24) fa_X2_copyFrom_28 dX2_copyFrom_21 (sa_lt8 hB) (sa_k8 hB) rfl rfl ?_
  show mM G mX2_copyFrom 24 [some (.ref (a + 8)), some (.ref (b + 8))] [.int ((((u2 ((d_cpy d (b + 10) (a + 10) 0 0 160).1) (a + 8) 1 (d.1 (b + 8) 1), (d_cpy d (b + 10) (a + 10) 0 0 160).2)).1) (b + 8) 2), .ref (a + 8)] S1 (u2 ((d_cpy d (b + 10) (a + 10) 0 0 160).1) (a + 8) 1 (d.1 (b + 8) 1), (d_cpy d (b + 10) (a + 10) 0 0 160).2) (0, 0) Q
  rw [show ((((u2 ((d_cpy d (b + 10) (a + 10) 0 0 160).1) (a + 8) 1 (d.1 (b + 8) 1), (d_cpy d (b + 10) (a + 10) 0 0 160).2)).1) (b + 8) 2) = (d.1 (b + 8) 2) from (by show u2 _ _ _ _ _ _ = _; rw [u2_ne (show b + 8 ≠ a + 8 by omega), cpy_ne (show b + 8 ≠ a + 10 by omega)])]
  refine m_putI (pc' := 27) (ty := .int) fa_X2_copyFrom_28 dX2_copyFrom_24 (by decide +kernel) rfl rfl (sa_lt8 hA) (sa_k8 hA) rfl rfl ?_
  refine m_vret dX2_copyFrom_27 rfl ⟨by decide, by decide⟩ ?_
  have f0 : fr (lgE a) nE d (d_cpy d (b + 10) (a + 10) 0 0 160) := ⟨fun y j hy => congrFun (cpy_ne (fun h => hy (Or.inl h))) j, fun _ _ _ => rfl⟩
  refine hQ _ ((f0.i _ (Or.inr ⟨rfl, by decide⟩)).i _ (Or.inr ⟨rfl, by decide⟩)) (fun j hj => ?_) ?_ u2_same
  · show u2 (u2 (d_cpy d (b + 10) (a + 10) 0 0 160).1 (a + 8) 1 _) (a + 8) 2 _ (a + 10) j = _
    rw [u2_ne (show a + 10 ≠ a + 8 by omega), u2_ne (show a + 10 ≠ a + 8 by omega)]; exact cpy_at hj
  · exact (u2_oth (show 1 ≠ 2 by decide) (a + 8)).trans u2_same
set_option maxHeartbeats 4000000 in
set_option maxRecDepth 100000 in
theorem c_sncopy15  (hA : a ∈ stL) (hB : b ∈ stL) (hab : a ≠ b) (h01 : d.1 (b + 15) 1 = 0 ∨ d.1 (b + 15) 1 = 1) (hQ : ∀ d', fr (snE (a + 15)) nE d d' → SR d' (a + 16) (rdS d (b + 16)) → d'.1 (a + 15) 1 = d.1 (b + 15) 1 → Q none S1 d') : mC G mX4_copyFrom [.ref (a + 15), .ref (b + 15)] S1 d Q := by
  have hf := st_far hA hB hab
  refine mC_of (by decide +kernel) ⟨_, rfl⟩ (Nat.le_of_ble_eq_true rfl) ?_
  show mM G mX4_copyFrom 0 [some (.ref (a + 15)), some (.ref (b + 15))] [] S1 d (0, 0) Q
  refine m_aload_n (pc' := 1) dX4_copyFrom_0 rfl rfl ?_
  refine m_getR (pc' := 4) fa_X4_copyFrom_10 dX4_copyFrom_1 (sa_lt15 hA) (sa_k15 hA) rfl (sa_r15_0 hA) rfl ?_
  refine m_aload_n (pc' := 5) dX4_copyFrom_4 rfl rfl ?_
  refine m_getR (pc' := 8) fa_X4_copyFrom_10 dX4_copyFrom_5 (sa_lt15 hB) (sa_k15 hB) rfl (sa_r15_0 hB) rfl ?_
  refine m_callV (pc' := 11) (A := [.ref (b + 16)]) (rest := []) (b := a + 16) cl_X4_copyFrom_16 dX4_copyFrom_8 rfl rfl (Nat.le_of_ble_eq_true rfl) ⟨by decide, by decide⟩ (sa_lt16 hA) (sa_k16 hA) rfl rfl rfl ?_
  refine c_scopy (a := a + 16) (b := b + 16) (s := rdS d (b + 16)) (sa_B16 hA) (sa_B16 hB) (by omega) (SR_rd d (b + 16)) (fun e e0 eS => ?_)
  show mM G mX4_copyFrom 11 [some (.ref (a + 15)), some (.ref (b + 15))] [] S1 e (0, 0) Q
  refine m_aload_n (pc' := 12) dX4_copyFrom_11 rfl rfl ?_
  refine m_aload_n (pc' := 13) dX4_copyFrom_12 rfl rfl ?_
  refine m_getI (pc' := 16) fa_X4_copyFrom_20 dX4_copyFrom_13 (sa_lt15 hB) (sa_k15 hB) rfl rfl ?_
  rw [show (e.1 (b + 15) 1) = (d.1 (b + 15) 1) from e0.1 (b + 15) 1 (by show ¬ (_ ∨ _ ∨ _ ∨ _); omega)]
  refine m_putI (pc' := 19) (ty := .boolean) fa_X4_copyFrom_20 dX4_copyFrom_16 (by decide +kernel) (nar_01 h01) (fit_01 h01) (sa_lt15 hA) (sa_k15 hA) rfl rfl ?_
  refine m_vret dX4_copyFrom_19 rfl ⟨by decide, by decide⟩ ?_
  have f0 : fr (snE (a + 15)) nE d e := e0.mono (fun x j h => Or.inl h) (fun _ _ => id)
  have f1 : fr (fun x j => x = a + 15 ∧ j = 1) nE e (u2 e.1 (a + 15) 1 (d.1 (b + 15) 1), e.2) := fr.i fr.rfl _ ⟨rfl, rfl⟩
  exact hQ _ (f0.i _ (Or.inr ⟨rfl, rfl⟩)) (eS.fr f1 (by intro j; omega) (by intro j; omega) (by intro j; omega) (by omega)) u2_same
set_option maxHeartbeats 4000000 in
set_option maxRecDepth 100000 in
theorem c_sncopy23  (hA : a ∈ stL) (hB : b ∈ stL) (hab : a ≠ b) (h01 : d.1 (b + 23) 1 = 0 ∨ d.1 (b + 23) 1 = 1) (hQ : ∀ d', fr (snE (a + 23)) nE d d' → SR d' (a + 24) (rdS d (b + 24)) → d'.1 (a + 23) 1 = d.1 (b + 23) 1 → Q none S1 d') : mC G mX4_copyFrom [.ref (a + 23), .ref (b + 23)] S1 d Q := by
  have hf := st_far hA hB hab
  refine mC_of (by decide +kernel) ⟨_, rfl⟩ (Nat.le_of_ble_eq_true rfl) ?_
  show mM G mX4_copyFrom 0 [some (.ref (a + 23)), some (.ref (b + 23))] [] S1 d (0, 0) Q
  refine m_aload_n (pc' := 1) dX4_copyFrom_0 rfl rfl ?_
  refine m_getR (pc' := 4) fa_X4_copyFrom_10 dX4_copyFrom_1 (sa_lt23 hA) (sa_k23 hA) rfl (sa_r23_0 hA) rfl ?_
  refine m_aload_n (pc' := 5) dX4_copyFrom_4 rfl rfl ?_
  refine m_getR (pc' := 8) fa_X4_copyFrom_10 dX4_copyFrom_5 (sa_lt23 hB) (sa_k23 hB) rfl (sa_r23_0 hB) rfl ?_
  refine m_callV (pc' := 11) (A := [.ref (b + 24)]) (rest := []) (b := a + 24) cl_X4_copyFrom_16 dX4_copyFrom_8 rfl rfl (Nat.le_of_ble_eq_true rfl) ⟨by decide, by decide⟩ (sa_lt24 hA) (sa_k24 hA) rfl rfl rfl ?_
  refine c_scopy (a := a + 24) (b := b + 24) (s := rdS d (b + 24)) (sa_B24 hA) (sa_B24 hB) (by omega) (SR_rd d (b + 24)) (fun e e0 eS => ?_)
  show mM G mX4_copyFrom 11 [some (.ref (a + 23)), some (.ref (b + 23))] [] S1 e (0, 0) Q
  refine m_aload_n (pc' := 12) dX4_copyFrom_11 rfl rfl ?_
  refine m_aload_n (pc' := 13) dX4_copyFrom_12 rfl rfl ?_
  refine m_getI (pc' := 16) fa_X4_copyFrom_20 dX4_copyFrom_13 (sa_lt23 hB) (sa_k23 hB) rfl rfl ?_
  rw [show (e.1 (b + 23) 1) = (d.1 (b + 23) 1) from e0.1 (b + 23) 1 (by show ¬ (_ ∨ _ ∨ _ ∨ _); omega)]
  refine m_putI (pc' := 19) (ty := .boolean) fa_X4_copyFrom_20 dX4_copyFrom_16 (by decide +kernel) (nar_01 h01) (fit_01 h01) (sa_lt23 hA) (sa_k23 hA) rfl rfl ?_
  refine m_vret dX4_copyFrom_19 rfl ⟨by decide, by decide⟩ ?_
  have f0 : fr (snE (a + 23)) nE d e := e0.mono (fun x j h => Or.inl h) (fun _ _ => id)
  have f1 : fr (fun x j => x = a + 23 ∧ j = 1) nE e (u2 e.1 (a + 23) 1 (d.1 (b + 23) 1), e.2) := fr.i fr.rfl _ ⟨rfl, rfl⟩
  exact hQ _ (f0.i _ (Or.inr ⟨rfl, rfl⟩)) (eS.fr f1 (by intro j; omega) (by intro j; omega) (by intro j; omega) (by omega)) u2_same
end CLS4
