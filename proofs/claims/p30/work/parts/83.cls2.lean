/-! THE CLASS'S OWN METHODS (2) -/
section CLS2
variable {G : GP} {Q : Option Value → Sh → Dt → Prop} {d : Dt} {a : Nat} {s : SS}
set_option maxHeartbeats 4000000 in
set_option maxRecDepth 100000 in
theorem c_floorDiv {x y : Int32} (hy : ¬ y = 0) (hQ : Q (some (.int (fdl x y))) S1 d) : mC G mJ9_floorDiv_7cf53 [.int x, .int y] S1 d Q := by
  refine mC_ofF (by decide +kernel) ⟨_, rfl⟩ (Nat.le_of_ble_eq_true rfl) ?_
  show mM G mJ9_floorDiv_7cf53 0 [some (.int x), some (.int y), none] [] S1 d (0, 0) Q
  refine m_iload_n (pc' := 1) dJ9_floorDiv_7cf53_0 rfl rfl ?_
  refine m_iload_n (pc' := 2) dJ9_floorDiv_7cf53_1 rfl rfl ?_
  refine m_idiv (pc' := 3) dJ9_floorDiv_7cf53_2 hy rfl ?_
  refine m_istore_n (pc' := 4) dJ9_floorDiv_7cf53_3 (by decide) rfl rfl ?_
  refine m_iload_n (pc' := 5) dJ9_floorDiv_7cf53_4 rfl rfl ?_
  refine m_iload_n (pc' := 6) dJ9_floorDiv_7cf53_5 rfl rfl ?_
  refine m_ixor (pc' := 7) dJ9_floorDiv_7cf53_6 rfl ?_
  refine m_if_ge (tgt := 21) (pc' := 10) dJ9_floorDiv_7cf53_7 (by decide) rfl (fun h7 => ?_) (fun h7 => ?_)
  · skip
    refine m_iload_n (pc' := 22) dJ9_floorDiv_7cf53_21 rfl rfl ?_
    refine m_iret dJ9_floorDiv_7cf53_22 rfl rfl ⟨by decide, by decide⟩ ?_
    exact q_i hQ (by unfold fdl; rw [if_neg (fun h => Int32.not_lt.mpr h7 h.1)])
  · skip
    refine m_iload_n (pc' := 11) dJ9_floorDiv_7cf53_10 rfl rfl ?_
    refine m_iload_n (pc' := 12) dJ9_floorDiv_7cf53_11 rfl rfl ?_
    refine m_imul (pc' := 13) dJ9_floorDiv_7cf53_12 rfl ?_
    refine m_iload_n (pc' := 14) dJ9_floorDiv_7cf53_13 rfl rfl ?_
    refine m_icmp_eq (tgt := 21) (pc' := 17) dJ9_floorDiv_7cf53_14 (by decide) rfl (fun h14 => ?_) (fun h14 => ?_)
    · skip
      refine m_iload_n (pc' := 22) dJ9_floorDiv_7cf53_21 rfl rfl ?_
      refine m_iret dJ9_floorDiv_7cf53_22 rfl rfl ⟨by decide, by decide⟩ ?_
      exact q_i hQ (by unfold fdl; rw [if_neg (fun h => h.2 h14)])
    · skip
      refine m_iload_n (pc' := 18) dJ9_floorDiv_7cf53_17 rfl rfl ?_
      refine m_iconst (pc' := 19) (v := 1) dJ9_floorDiv_7cf53_18 (by decide) rfl ?_
      refine m_isub (pc' := 20) dJ9_floorDiv_7cf53_19 rfl ?_
      refine m_iret dJ9_floorDiv_7cf53_20 rfl rfl ⟨by decide, by decide⟩ ?_
      exact q_i hQ (by unfold fdl; rw [if_pos ⟨Int32.not_le.mp h7, h14⟩])
set_option maxHeartbeats 4000000 in
set_option maxRecDepth 100000 in
theorem c_scopy {b : Nat} (hB : a ∈ suL) (hB2 : b ∈ suL) (hab : a ≠ b) (hS : SR d b s) (hQ : ∀ d', fr (suE a) nE d d' → SR d' a s → Q none S1 d') : mC G mX3_copyFrom [.ref a, .ref b] S1 d Q := by
  have hf := su_far hB hB2 hab
  refine mC_of (by decide +kernel) ⟨_, rfl⟩ (Nat.le_of_ble_eq_true rfl) ?_
  show mM G mX3_copyFrom 0 [some (.ref a), some (.ref b)] [] S1 d (0, 0) Q
  refine m_aload_n (pc' := 1) dX3_copyFrom_0 rfl rfl ?_
  refine m_getR (pc' := 4) fa_X3_copyFrom_14 dX3_copyFrom_1 (su_lt0 hB) (su_k0 hB) rfl (su_r0_0 hB) rfl ?_
  refine m_aload_n (pc' := 5) dX3_copyFrom_4 rfl rfl ?_
  refine m_getR (pc' := 8) fa_X3_copyFrom_14 dX3_copyFrom_5 (su_lt0 hB2) (su_k0 hB2) rfl (su_r0_0 hB2) rfl ?_
  refine m_callV (pc' := 11) (A := [.ref (b + 1)]) (rest := []) (b := a + 1) cl_X3_copyFrom_30 dX3_copyFrom_8 rfl rfl (Nat.le_of_ble_eq_true rfl) ⟨by decide, by decide⟩ (su_lt1 hB) (su_k1 hB) rfl rfl rfl ?_
  refine c_tcopy (su_T1 hB) (su_T1 hB2) (by decide) ?_
  show mM G mX3_copyFrom 11 [some (.ref a), some (.ref b)] [] S1 (d_cpy d (b + 2) (a + 2) 0 0 40) (0, 0) Q
  refine m_aload_n (pc' := 12) dX3_copyFrom_11 rfl rfl ?_
  refine m_getR (pc' := 15) fa_X3_copyFrom_20 dX3_copyFrom_12 (su_lt0 hB) (su_k0 hB) rfl (su_r0_1 hB) rfl ?_
  refine m_aload_n (pc' := 16) dX3_copyFrom_15 rfl rfl ?_
  refine m_getR (pc' := 19) fa_X3_copyFrom_20 dX3_copyFrom_16 (su_lt0 hB2) (su_k0 hB2) rfl (su_r0_1 hB2) rfl ?_
  refine m_callV (pc' := 22) (A := [.ref (b + 3)]) (rest := []) (b := a + 3) cl_X3_copyFrom_30 dX3_copyFrom_19 rfl rfl (Nat.le_of_ble_eq_true rfl) ⟨by decide, by decide⟩ (su_lt3 hB) (su_k3 hB) rfl rfl rfl ?_
  refine c_tcopy (su_T3 hB) (su_T3 hB2) (by decide) ?_
  show mM G mX3_copyFrom 22 [some (.ref a), some (.ref b)] [] S1 (d_cpy (d_cpy d (b + 2) (a + 2) 0 0 40) (b + 4) (a + 4) 0 0 32) (0, 0) Q
  refine m_aload_n (pc' := 23) dX3_copyFrom_22 rfl rfl ?_
  refine m_getR (pc' := 26) fa_X3_copyFrom_23 dX3_copyFrom_23 (su_lt0 hB) (su_k0 hB) rfl (su_r0_2 hB) rfl ?_
  refine m_aload_n (pc' := 27) dX3_copyFrom_26 rfl rfl ?_
  refine m_getR (pc' := 30) fa_X3_copyFrom_23 dX3_copyFrom_27 (su_lt0 hB2) (su_k0 hB2) rfl (su_r0_2 hB2) rfl ?_
  refine m_callV (pc' := 33) (A := [.ref (b + 5)]) (rest := []) (b := a + 5) cl_X3_copyFrom_30 dX3_copyFrom_30 rfl rfl (Nat.le_of_ble_eq_true rfl) ⟨by decide, by decide⟩ (su_lt5 hB) (su_k5 hB) rfl rfl rfl ?_
  refine c_tcopy (su_T5 hB) (su_T5 hB2) (by decide) ?_
  show mM G mX3_copyFrom 33 [some (.ref a), some (.ref b)] [] S1 (sucp d a b) (0, 0) Q
  refine m_aload_n (pc' := 34) dX3_copyFrom_33 rfl rfl ?_
  refine m_aload_n (pc' := 35) dX3_copyFrom_34 rfl rfl ?_
  refine m_getI (pc' := 38) fa_X3_copyFrom_34 dX3_copyFrom_35 (su_lt0 hB2) (su_k0 hB2) rfl rfl ?_
  refine m_putI (pc' := 41) (ty := .int) fa_X3_copyFrom_34 dX3_copyFrom_38 (by decide +kernel) rfl rfl (su_lt0 hB) (su_k0 hB) rfl rfl ?_
  refine m_vret dX3_copyFrom_41 rfl ⟨by decide, by decide⟩ ?_
  exact hQ _ sucp_fr (SR.cpy hf hS ((sucp_3 hf).trans hS.2.2.2))
def fst2 (t p : Int32) : Int32 := if 0 < p ∧ t - t / p * p < p / 2 then 1 else 0
theorem fst2_01 (t p : Int32) : fst2 t p = 0 ∨ fst2 t p = 1 := by unfold fst2; split; (exact Or.inr rfl); (exact Or.inl rfl)
set_option maxHeartbeats 4000000 in
set_option maxRecDepth 100000 in
theorem c_half {t p : Int32} (hp : ¬ p = 0) (hQ : Q (some (.int (fst2 t p))) S1 d) : mC G mX3_isFirstHalf [.int t, .int p] S1 d Q := by
  refine mC_of (by decide +kernel) ⟨_, rfl⟩ (Nat.le_of_ble_eq_true rfl) ?_
  show mM G mX3_isFirstHalf 0 [some (.int t), some (.int p)] [] S1 d (0, 0) Q
  refine m_iload_n (pc' := 1) dX3_isFirstHalf_0 rfl rfl ?_
  refine m_if_le (tgt := 17) (pc' := 4) dX3_isFirstHalf_1 (by decide) rfl (fun h1 => ?_) (fun h1 => ?_)
  · skip
    refine m_iconst (pc' := 18) (v := 0) dX3_isFirstHalf_17 (by decide) rfl ?_
    refine m_iret dX3_isFirstHalf_18 rfl (by decide) ⟨by decide, by decide⟩ ?_
    exact q_i hQ (by unfold fst2; rw [if_neg (fun h => Int32.not_le.mpr h.1 h1)])
  · skip
    refine m_iload_n (pc' := 5) dX3_isFirstHalf_4 rfl rfl ?_
    refine m_iload_n (pc' := 6) dX3_isFirstHalf_5 rfl rfl ?_
    refine m_irem (pc' := 7) dX3_isFirstHalf_6 hp rfl ?_
    refine m_iload_n (pc' := 8) dX3_isFirstHalf_7 rfl rfl ?_
    refine m_iconst (pc' := 9) (v := 2) dX3_isFirstHalf_8 (by decide) rfl ?_
    refine m_idiv (pc' := 10) dX3_isFirstHalf_9 (by decide) rfl ?_
    refine m_icmp_ge (tgt := 17) (pc' := 13) dX3_isFirstHalf_10 (by decide) rfl (fun h10 => ?_) (fun h10 => ?_)
    · skip
      refine m_iconst (pc' := 18) (v := 0) dX3_isFirstHalf_17 (by decide) rfl ?_
      refine m_iret dX3_isFirstHalf_18 rfl (by decide) ⟨by decide, by decide⟩ ?_
      exact q_i hQ (by unfold fst2; rw [if_neg (fun h => Int32.not_lt.mpr h10 h.2)])
    · skip
      refine m_iconst (pc' := 14) (v := 1) dX3_isFirstHalf_13 (by decide) rfl ?_
      refine m_goto (tgt := 18) dX3_isFirstHalf_14 (by decide) ?_
      refine m_iret dX3_isFirstHalf_18 rfl (by decide) ⟨by decide, by decide⟩ ?_
      exact q_i hQ (by unfold fst2; rw [if_pos ⟨Int32.not_le.mp h1, Int32.not_le.mp h10⟩])
end CLS2
