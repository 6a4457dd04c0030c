/-! CONSTRUCTORS, one by one -/
section INI2
variable {G : GP} {Q : Option Value → Sh → Dt → Prop} {σ : Sh} {d : Dt}
def bX7_8_5_0 (a : Nat) : Nat → VC := fun _ => fsh 7 0
def bX7_8_5_1 (a : Nat) : Nat → VC := bn (bX7_8_5_0 a) 0 (cv_w ((bX7_8_5_0 a) 0) 5)
def bX7_8_5_2 (a : Nat) : Nat → VC := bn (bX7_8_5_1 a) 1 (fsh 14 40)
def bX7_8_5_3 (a : Nat) : Nat → VC := bn (bX7_8_5_2 a) 0 (cv_rf ((bX7_8_5_2 a) 0) 1 (a + 1))
set_option maxHeartbeats 4000000 in
set_option maxRecDepth 100000 in
theorem c_iX7_8_5 {a : Nat} (h1 : σ.1 = a + 1) (hf : Vw σ d a = fsh 7 0) (hQ : ∀ σ' d', σ'.1 = a + 2 → Vw σ' d' = ov (Vw σ d) a 2 (bX7_8_5_3 a) → Q none σ' d') : mC G mX7_init [.ref a, .int 8, .int 5] σ d Q := by
  have eV0 : Vw σ d = ov (Vw σ d) a 1 (bX7_8_5_0 a) := ov_self hf
  refine mC_of (by decide +kernel) ⟨_, rfl⟩ (Nat.le_of_ble_eq_true rfl) ?_
  show mM G mX7_init 0 [some (.ref a), some (.int 8), some (.int 5)] [] σ d (0, 0) Q
  refine m_aload_n (pc' := 1) dX7_init_0 rfl rfl ?_
  refine m_obj (pc' := 4) ob_X7_init_1 ⟨by decide, by decide⟩ dX7_init_1 rfl ?_
  refine m_aload_n (pc' := 5) dX7_init_4 rfl rfl ?_
  refine m_iconst (pc' := 6) (v := 1) dX7_init_5 (by decide) rfl ?_
  refine m_iload_n (pc' := 7) dX7_init_6 rfl rfl ?_
  refine m_mmax (pc' := 10) wm_X7_init_7 dX7_init_7 (Nat.le_of_ble_eq_true rfl) ⟨by decide, by decide⟩ rfl ?_
  show mM G mX7_init 10 [some (.ref a), some (.int 8), some (.int 5)] [.int 5, .ref a] σ d (0, 0) Q
  refine z_w (pc' := 13) 0 fa_X7_init_13 rfl dX7_init_10 rfl (by intro i' c h1 h2; match i', h1 with | 0, _ => exact absurd rfl h2 | 1, h1 => cases h1; decide | n + 2, h1 => cases h1) rfl h1 eV0 (by decide) rfl (fun s1 e1 w1 => ?_)
  have v1 : Vw s1 d = ov (Vw σ d) a 1 (bX7_8_5_1 a) := w1
  show mM G mX7_init 13 [some (.ref a), some (.int 8), some (.int 5)] [] s1 d (0, 0) Q
  refine m_aload_n (pc' := 14) dX7_init_13 rfl rfl ?_
  refine m_iconst (pc' := 15) (v := 1) dX7_init_14 (by decide) rfl ?_
  refine m_iload_n (pc' := 16) dX7_init_15 rfl rfl ?_
  refine m_mmax (pc' := 19) wm_X7_init_7 dX7_init_16 (Nat.le_of_ble_eq_true rfl) ⟨by decide, by decide⟩ rfl ?_
  show mM G mX7_init 19 [some (.ref a), some (.int 8), some (.int 5)] [.int 8, .ref a] s1 d (0, 0) Q
  refine m_iconst (pc' := 20) (v := 1) dX7_init_19 (by decide) rfl ?_
  refine m_iload_n (pc' := 21) dX7_init_20 rfl rfl ?_
  refine m_mmax (pc' := 24) wm_X7_init_7 dX7_init_21 (Nat.le_of_ble_eq_true rfl) ⟨by decide, by decide⟩ rfl ?_
  show mM G mX7_init 24 [some (.ref a), some (.int 8), some (.int 5)] [.int 5, .int 8, .ref a] s1 d (0, 0) Q
  refine m_imul (pc' := 25) dX7_init_24 rfl ?_
  show mM G mX7_init 25 [some (.ref a), some (.int 8), some (.int 5)] [.int 40, .ref a] s1 d (0, 0) Q
  refine z_newaI (pc' := 27) (L := 40) (u' := (1, 40)) ac_X7_init_int dX7_init_25 (by decide) (by decide) (by decide) ⟨by decide, by decide⟩ rfl rfl e1 v1 (fun s2 d2 e2 w2 => ?_)
  have v2 : Vw s2 d2 = ov (Vw σ d) a 2 (bX7_8_5_2 a) := w2
  show mM G mX7_init 27 [some (.ref a), some (.int 8), some (.int 5)] [.ref (a + 1), .ref a] s2 d2 (1, 40) Q
  refine z_rf (pc' := 30) (q := a + 1) 0 fa_X7_init_19 rfl rfl rfl dX7_init_27 rfl rfl e2 v2 (by decide) rfl (fun s3 e3 w3 => ?_)
  have v3 : Vw s3 d2 = ov (Vw σ d) a 2 (bX7_8_5_3 a) := w3
  show mM G mX7_init 30 [some (.ref a), some (.int 8), some (.int 5)] [] s3 d2 (1, 40) Q
  refine m_vret dX7_init_30 rfl ⟨by decide, by decide⟩ ?_
  exact hQ _ _ e3 v3
def bX7_16_2_0 (a : Nat) : Nat → VC := fun _ => fsh 7 0
def bX7_16_2_1 (a : Nat) : Nat → VC := bn (bX7_16_2_0 a) 0 (cv_w ((bX7_16_2_0 a) 0) 2)
def bX7_16_2_2 (a : Nat) : Nat → VC := bn (bX7_16_2_1 a) 1 (fsh 14 32)
def bX7_16_2_3 (a : Nat) : Nat → VC := bn (bX7_16_2_2 a) 0 (cv_rf ((bX7_16_2_2 a) 0) 1 (a + 1))
set_option maxHeartbeats 4000000 in
set_option maxRecDepth 100000 in
theorem c_iX7_16_2 {a : Nat} (h1 : σ.1 = a + 1) (hf : Vw σ d a = fsh 7 0) (hQ : ∀ σ' d', σ'.1 = a + 2 → Vw σ' d' = ov (Vw σ d) a 2 (bX7_16_2_3 a) → Q none σ' d') : mC G mX7_init [.ref a, .int 16, .int 2] σ d Q := by
  have eV0 : Vw σ d = ov (Vw σ d) a 1 (bX7_16_2_0 a) := ov_self hf
  refine mC_of (by decide +kernel) ⟨_, rfl⟩ (Nat.le_of_ble_eq_true rfl) ?_
  show mM G mX7_init 0 [some (.ref a), some (.int 16), some (.int 2)] [] σ d (0, 0) Q
  refine m_aload_n (pc' := 1) dX7_init_0 rfl rfl ?_
  refine m_obj (pc' := 4) ob_X7_init_1 ⟨by decide, by decide⟩ dX7_init_1 rfl ?_
  refine m_aload_n (pc' := 5) dX7_init_4 rfl rfl ?_
  refine m_iconst (pc' := 6) (v := 1) dX7_init_5 (by decide) rfl ?_
  refine m_iload_n (pc' := 7) dX7_init_6 rfl rfl ?_
  refine m_mmax (pc' := 10) wm_X7_init_7 dX7_init_7 (Nat.le_of_ble_eq_true rfl) ⟨by decide, by decide⟩ rfl ?_
  show mM G mX7_init 10 [some (.ref a), some (.int 16), some (.int 2)] [.int 2, .ref a] σ d (0, 0) Q
  refine z_w (pc' := 13) 0 fa_X7_init_13 rfl dX7_init_10 rfl (by intro i' c h1 h2; match i', h1 with | 0, _ => exact absurd rfl h2 | 1, h1 => cases h1; decide | n + 2, h1 => cases h1) rfl h1 eV0 (by decide) rfl (fun s1 e1 w1 => ?_)
  have v1 : Vw s1 d = ov (Vw σ d) a 1 (bX7_16_2_1 a) := w1
  show mM G mX7_init 13 [some (.ref a), some (.int 16), some (.int 2)] [] s1 d (0, 0) Q
  refine m_aload_n (pc' := 14) dX7_init_13 rfl rfl ?_
  refine m_iconst (pc' := 15) (v := 1) dX7_init_14 (by decide) rfl ?_
  refine m_iload_n (pc' := 16) dX7_init_15 rfl rfl ?_
  refine m_mmax (pc' := 19) wm_X7_init_7 dX7_init_16 (Nat.le_of_ble_eq_true rfl) ⟨by decide, by decide⟩ rfl ?_
  show mM G mX7_init 19 [some (.ref a), some (.int 16), some (.int 2)] [.int 16, .ref a] s1 d (0, 0) Q
  refine m_iconst (pc' := 20) (v := 1) dX7_init_19 (by decide) rfl ?_
  refine m_iload_n (pc' := 21) dX7_init_20 rfl rfl ?_
  refine m_mmax (pc' := 24) wm_X7_init_7 dX7_init_21 (Nat.le_of_ble_eq_true rfl) ⟨by decide, by decide⟩ rfl ?_
  show mM G mX7_init 24 [some (.ref a), some (.int 16), some (.int 2)] [.int 2, .int 16, .ref a] s1 d (0, 0) Q
  refine m_imul (pc' := 25) dX7_init_24 rfl ?_
  show mM G mX7_init 25 [some (.ref a), some (.int 16), some (.int 2)] [.int 32, .ref a] s1 d (0, 0) Q
  refine z_newaI (pc' := 27) (L := 32) (u' := (1, 32)) ac_X7_init_int dX7_init_25 (by decide) (by decide) (by decide) ⟨by decide, by decide⟩ rfl rfl e1 v1 (fun s2 d2 e2 w2 => ?_)
  have v2 : Vw s2 d2 = ov (Vw σ d) a 2 (bX7_16_2_2 a) := w2
  show mM G mX7_init 27 [some (.ref a), some (.int 16), some (.int 2)] [.ref (a + 1), .ref a] s2 d2 (1, 32) Q
  refine z_rf (pc' := 30) (q := a + 1) 0 fa_X7_init_19 rfl rfl rfl dX7_init_27 rfl rfl e2 v2 (by decide) rfl (fun s3 e3 w3 => ?_)
  have v3 : Vw s3 d2 = ov (Vw σ d) a 2 (bX7_16_2_3 a) := w3
  show mM G mX7_init 30 [some (.ref a), some (.int 16), some (.int 2)] [] s3 d2 (1, 32) Q
  refine m_vret dX7_init_30 rfl ⟨by decide, by decide⟩ ?_
  exact hQ _ _ e3 v3
def bX7_3_1_0 (a : Nat) : Nat → VC := fun _ => fsh 7 0
def bX7_3_1_1 (a : Nat) : Nat → VC := bn (bX7_3_1_0 a) 0 (cv_w ((bX7_3_1_0 a) 0) 1)
def bX7_3_1_2 (a : Nat) : Nat → VC := bn (bX7_3_1_1 a) 1 (fsh 14 3)
def bX7_3_1_3 (a : Nat) : Nat → VC := bn (bX7_3_1_2 a) 0 (cv_rf ((bX7_3_1_2 a) 0) 1 (a + 1))
set_option maxHeartbeats 4000000 in
set_option maxRecDepth 100000 in
theorem c_iX7_3_1 {a : Nat} (h1 : σ.1 = a + 1) (hf : Vw σ d a = fsh 7 0) (hQ : ∀ σ' d', σ'.1 = a + 2 → Vw σ' d' = ov (Vw σ d) a 2 (bX7_3_1_3 a) → Q none σ' d') : mC G mX7_init [.ref a, .int 3, .int 1] σ d Q := by
  have eV0 : Vw σ d = ov (Vw σ d) a 1 (bX7_3_1_0 a) := ov_self hf
  refine mC_of (by decide +kernel) ⟨_, rfl⟩ (Nat.le_of_ble_eq_true rfl) ?_
  show mM G mX7_init 0 [some (.ref a), some (.int 3), some (.int 1)] [] σ d (0, 0) Q
  refine m_aload_n (pc' := 1) dX7_init_0 rfl rfl ?_
  refine m_obj (pc' := 4) ob_X7_init_1 ⟨by decide, by decide⟩ dX7_init_1 rfl ?_
  refine m_aload_n (pc' := 5) dX7_init_4 rfl rfl ?_
  refine m_iconst (pc' := 6) (v := 1) dX7_init_5 (by decide) rfl ?_
  refine m_iload_n (pc' := 7) dX7_init_6 rfl rfl ?_
  refine m_mmax (pc' := 10) wm_X7_init_7 dX7_init_7 (Nat.le_of_ble_eq_true rfl) ⟨by decide, by decide⟩ rfl ?_
  show mM G mX7_init 10 [some (.ref a), some (.int 3), some (.int 1)] [.int 1, .ref a] σ d (0, 0) Q
  refine z_w (pc' := 13) 0 fa_X7_init_13 rfl dX7_init_10 rfl (by intro i' c h1 h2; match i', h1 with | 0, _ => exact absurd rfl h2 | 1, h1 => cases h1; decide | n + 2, h1 => cases h1) rfl h1 eV0 (by decide) rfl (fun s1 e1 w1 => ?_)
  have v1 : Vw s1 d = ov (Vw σ d) a 1 (bX7_3_1_1 a) := w1
  show mM G mX7_init 13 [some (.ref a), some (.int 3), some (.int 1)] [] s1 d (0, 0) Q
  refine m_aload_n (pc' := 14) dX7_init_13 rfl rfl ?_
  refine m_iconst (pc' := 15) (v := 1) dX7_init_14 (by decide) rfl ?_
  refine m_iload_n (pc' := 16) dX7_init_15 rfl rfl ?_
  refine m_mmax (pc' := 19) wm_X7_init_7 dX7_init_16 (Nat.le_of_ble_eq_true rfl) ⟨by decide, by decide⟩ rfl ?_
  show mM G mX7_init 19 [some (.ref a), some (.int 3), some (.int 1)] [.int 3, .ref a] s1 d (0, 0) Q
  refine m_iconst (pc' := 20) (v := 1) dX7_init_19 (by decide) rfl ?_
  refine m_iload_n (pc' := 21) dX7_init_20 rfl rfl ?_
  refine m_mmax (pc' := 24) wm_X7_init_7 dX7_init_21 (Nat.le_of_ble_eq_true rfl) ⟨by decide, by decide⟩ rfl ?_
  show mM G mX7_init 24 [some (.ref a), some (.int 3), some (.int 1)] [.int 1, .int 3, .ref a] s1 d (0, 0) Q
  refine m_imul (pc' := 25) dX7_init_24 rfl ?_
  show mM G mX7_init 25 [some (.ref a), some (.int 3), some (.int 1)] [.int 3, .ref a] s1 d (0, 0) Q
  refine z_newaI (pc' := 27) (L := 3) (u' := (1, 3)) ac_X7_init_int dX7_init_25 (by decide) (by decide) (by decide) ⟨by decide, by decide⟩ rfl rfl e1 v1 (fun s2 d2 e2 w2 => ?_)
  have v2 : Vw s2 d2 = ov (Vw σ d) a 2 (bX7_3_1_2 a) := w2
  show mM G mX7_init 27 [some (.ref a), some (.int 3), some (.int 1)] [.ref (a + 1), .ref a] s2 d2 (1, 3) Q
  refine z_rf (pc' := 30) (q := a + 1) 0 fa_X7_init_19 rfl rfl rfl dX7_init_27 rfl rfl e2 v2 (by decide) rfl (fun s3 e3 w3 => ?_)
  have v3 : Vw s3 d2 = ov (Vw σ d) a 2 (bX7_3_1_3 a) := w3
  show mM G mX7_init 30 [some (.ref a), some (.int 3), some (.int 1)] [] s3 d2 (1, 3) Q
  refine m_vret dX7_init_30 rfl ⟨by decide, by decide⟩ ?_
  exact hQ _ _ e3 v3
def bX7_32_5_0 (a : Nat) : Nat → VC := fun _ => fsh 7 0
def bX7_32_5_1 (a : Nat) : Nat → VC := bn (bX7_32_5_0 a) 0 (cv_w ((bX7_32_5_0 a) 0) 5)
def bX7_32_5_2 (a : Nat) : Nat → VC := bn (bX7_32_5_1 a) 1 (fsh 14 160)
def bX7_32_5_3 (a : Nat) : Nat → VC := bn (bX7_32_5_2 a) 0 (cv_rf ((bX7_32_5_2 a) 0) 1 (a + 1))
set_option maxHeartbeats 4000000 in
set_option maxRecDepth 100000 in
theorem c_iX7_32_5 {a : Nat} (h1 : σ.1 = a + 1) (hf : Vw σ d a = fsh 7 0) (hQ : ∀ σ' d', σ'.1 = a + 2 → Vw σ' d' = ov (Vw σ d) a 2 (bX7_32_5_3 a) → Q none σ' d') : mC G mX7_init [.ref a, .int 32, .int 5] σ d Q := by
  have eV0 : Vw σ d = ov (Vw σ d) a 1 (bX7_32_5_0 a) := ov_self hf
  refine mC_of (by decide +kernel) ⟨_, rfl⟩ (Nat.le_of_ble_eq_true rfl) ?_
  show mM G mX7_init 0 [some (.ref a), some (.int 32), some (.int 5)] [] σ d (0, 0) Q
  refine m_aload_n (pc' := 1) dX7_init_0 rfl rfl ?_
  refine m_obj (pc' := 4) ob_X7_init_1 ⟨by decide, by decide⟩ dX7_init_1 rfl ?_
  refine m_aload_n (pc' := 5) dX7_init_4 rfl rfl ?_
  refine m_iconst (pc' := 6) (v := 1) dX7_init_5 (by decide) rfl ?_
  refine m_iload_n (pc' := 7) dX7_init_6 rfl rfl ?_
  refine m_mmax (pc' := 10) wm_X7_init_7 dX7_init_7 (Nat.le_of_ble_eq_true rfl) ⟨by decide, by decide⟩ rfl ?_
  show mM G mX7_init 10 [some (.ref a), some (.int 32), some (.int 5)] [.int 5, .ref a] σ d (0, 0) Q
  refine z_w (pc' := 13) 0 fa_X7_init_13 rfl dX7_init_10 rfl (by intro i' c h1 h2; match i', h1 with | 0, _ => exact absurd rfl h2 | 1, h1 => cases h1; decide | n + 2, h1 => cases h1) rfl h1 eV0 (by decide) rfl (fun s1 e1 w1 => ?_)
  have v1 : Vw s1 d = ov (Vw σ d) a 1 (bX7_32_5_1 a) := w1
  show mM G mX7_init 13 [some (.ref a), some (.int 32), some (.int 5)] [] s1 d (0, 0) Q
  refine m_aload_n (pc' := 14) dX7_init_13 rfl rfl ?_
  refine m_iconst (pc' := 15) (v := 1) dX7_init_14 (by decide) rfl ?_
  refine m_iload_n (pc' := 16) dX7_init_15 rfl rfl ?_
  refine m_mmax (pc' := 19) wm_X7_init_7 dX7_init_16 (Nat.le_of_ble_eq_true rfl) ⟨by decide, by decide⟩ rfl ?_
  show mM G mX7_init 19 [some (.ref a), some (.int 32), some (.int 5)] [.int 32, .ref a] s1 d (0, 0) Q
  refine m_iconst (pc' := 20) (v := 1) dX7_init_19 (by decide) rfl ?_
  refine m_iload_n (pc' := 21) dX7_init_20 rfl rfl ?_
  refine m_mmax (pc' := 24) wm_X7_init_7 dX7_init_21 (Nat.le_of_ble_eq_true rfl) ⟨by decide, by decide⟩ rfl ?_
  show mM G mX7_init 24 [some (.ref a), some (.int 32), some (.int 5)] [.int 5, .int 32, .ref a] s1 d (0, 0) Q
  refine m_imul (pc' := 25) dX7_init_24 rfl ?_
  show mM G mX7_init 25 [some (.ref a), some (.int 32), some (.int 5)] [.int 160, .ref a] s1 d (0, 0) Q
  refine z_newaI (pc' := 27) (L := 160) (u' := (1, 160)) ac_X7_init_int dX7_init_25 (by decide) (by decide) (by decide) ⟨by decide, by decide⟩ rfl rfl e1 v1 (fun s2 d2 e2 w2 => ?_)
  have v2 : Vw s2 d2 = ov (Vw σ d) a 2 (bX7_32_5_2 a) := w2
  show mM G mX7_init 27 [some (.ref a), some (.int 32), some (.int 5)] [.ref (a + 1), .ref a] s2 d2 (1, 160) Q
  refine z_rf (pc' := 30) (q := a + 1) 0 fa_X7_init_19 rfl rfl rfl dX7_init_27 rfl rfl e2 v2 (by decide) rfl (fun s3 e3 w3 => ?_)
  have v3 : Vw s3 d2 = ov (Vw σ d) a 2 (bX7_32_5_3 a) := w3
  show mM G mX7_init 30 [some (.ref a), some (.int 32), some (.int 5)] [] s3 d2 (1, 160) Q
  refine m_vret dX7_init_30 rfl ⟨by decide, by decide⟩ ?_
  exact hQ _ _ e3 v3
def bX7_10_1_0 (a : Nat) : Nat → VC := fun _ => fsh 7 0
def bX7_10_1_1 (a : Nat) : Nat → VC := bn (bX7_10_1_0 a) 0 (cv_w ((bX7_10_1_0 a) 0) 1)
def bX7_10_1_2 (a : Nat) : Nat → VC := bn (bX7_10_1_1 a) 1 (fsh 14 10)
def bX7_10_1_3 (a : Nat) : Nat → VC := bn (bX7_10_1_2 a) 0 (cv_rf ((bX7_10_1_2 a) 0) 1 (a + 1))
set_option maxHeartbeats 4000000 in
set_option maxRecDepth 100000 in
theorem c_iX7_10_1 {a : Nat} (h1 : σ.1 = a + 1) (hf : Vw σ d a = fsh 7 0) (hQ : ∀ σ' d', σ'.1 = a + 2 → Vw σ' d' = ov (Vw σ d) a 2 (bX7_10_1_3 a) → Q none σ' d') : mC G mX7_init [.ref a, .int 10, .int 1] σ d Q := by
  have eV0 : Vw σ d = ov (Vw σ d) a 1 (bX7_10_1_0 a) := ov_self hf
  refine mC_of (by decide +kernel) ⟨_, rfl⟩ (Nat.le_of_ble_eq_true rfl) ?_
  show mM G mX7_init 0 [some (.ref a), some (.int 10), some (.int 1)] [] σ d (0, 0) Q
  refine m_aload_n (pc' := 1) dX7_init_0 rfl rfl ?_
  refine m_obj (pc' := 4) ob_X7_init_1 ⟨by decide, by decide⟩ dX7_init_1 rfl ?_
  refine m_aload_n (pc' := 5) dX7_init_4 rfl rfl ?_
  refine m_iconst (pc' := 6) (v := 1) dX7_init_5 (by decide) rfl ?_
  refine m_iload_n (pc' := 7) dX7_init_6 rfl rfl ?_
  refine m_mmax (pc' := 10) wm_X7_init_7 dX7_init_7 (Nat.le_of_ble_eq_true rfl) ⟨by decide, by decide⟩ rfl ?_
  show mM G mX7_init 10 [some (.ref a), some (.int 10), some (.int 1)] [.int 1, .ref a] σ d (0, 0) Q
  refine z_w (pc' := 13) 0 fa_X7_init_13 rfl dX7_init_10 rfl (by intro i' c h1 h2; match i', h1 with | 0, _ => exact absurd rfl h2 | 1, h1 => cases h1; decide | n + 2, h1 => cases h1) rfl h1 eV0 (by decide) rfl (fun s1 e1 w1 => ?_)
  have v1 : Vw s1 d = ov (Vw σ d) a 1 (bX7_10_1_1 a) := w1
  show mM G mX7_init 13 [some (.ref a), some (.int 10), some (.int 1)] [] s1 d (0, 0) Q
  refine m_aload_n (pc' := 14) dX7_init_13 rfl rfl ?_
  refine m_iconst (pc' := 15) (v := 1) dX7_init_14 (by decide) rfl ?_
  refine m_iload_n (pc' := 16) dX7_init_15 rfl rfl ?_
  refine m_mmax (pc' := 19) wm_X7_init_7 dX7_init_16 (Nat.le_of_ble_eq_true rfl) ⟨by decide, by decide⟩ rfl ?_
  show mM G mX7_init 19 [some (.ref a), some (.int 10), some (.int 1)] [.int 10, .ref a] s1 d (0, 0) Q
  refine m_iconst (pc' := 20) (v := 1) dX7_init_19 (by decide) rfl ?_
  refine m_iload_n (pc' := 21) dX7_init_20 rfl rfl ?_
  refine m_mmax (pc' := 24) wm_X7_init_7 dX7_init_21 (Nat.le_of_ble_eq_true rfl) ⟨by decide, by decide⟩ rfl ?_
  show mM G mX7_init 24 [some (.ref a), some (.int 10), some (.int 1)] [.int 1, .int 10, .ref a] s1 d (0, 0) Q
  refine m_imul (pc' := 25) dX7_init_24 rfl ?_
  show mM G mX7_init 25 [some (.ref a), some (.int 10), some (.int 1)] [.int 10, .ref a] s1 d (0, 0) Q
  refine z_newaI (pc' := 27) (L := 10) (u' := (1, 10)) ac_X7_init_int dX7_init_25 (by decide) (by decide) (by decide) ⟨by decide, by decide⟩ rfl rfl e1 v1 (fun s2 d2 e2 w2 => ?_)
  have v2 : Vw s2 d2 = ov (Vw σ d) a 2 (bX7_10_1_2 a) := w2
  show mM G mX7_init 27 [some (.ref a), some (.int 10), some (.int 1)] [.ref (a + 1), .ref a] s2 d2 (1, 10) Q
  refine z_rf (pc' := 30) (q := a + 1) 0 fa_X7_init_19 rfl rfl rfl dX7_init_27 rfl rfl e2 v2 (by decide) rfl (fun s3 e3 w3 => ?_)
  have v3 : Vw s3 d2 = ov (Vw σ d) a 2 (bX7_10_1_3 a) := w3
  show mM G mX7_init 30 [some (.ref a), some (.int 10), some (.int 1)] [] s3 d2 (1, 10) Q
  refine m_vret dX7_init_30 rfl ⟨by decide, by decide⟩ ?_
  exact hQ _ _ e3 v3
def bX7_6_1_0 (a : Nat) : Nat → VC := fun _ => fsh 7 0
def bX7_6_1_1 (a : Nat) : Nat → VC := bn (bX7_6_1_0 a) 0 (cv_w ((bX7_6_1_0 a) 0) 1)
def bX7_6_1_2 (a : Nat) : Nat → VC := bn (bX7_6_1_1 a) 1 (fsh 14 6)
def bX7_6_1_3 (a : Nat) : Nat → VC := bn (bX7_6_1_2 a) 0 (cv_rf ((bX7_6_1_2 a) 0) 1 (a + 1))
set_option maxHeartbeats 4000000 in
set_option maxRecDepth 100000 in
theorem c_iX7_6_1 {a : Nat} (h1 : σ.1 = a + 1) (hf : Vw σ d a = fsh 7 0) (hQ : ∀ σ' d', σ'.1 = a + 2 → Vw σ' d' = ov (Vw σ d) a 2 (bX7_6_1_3 a) → Q none σ' d') : mC G mX7_init [.ref a, .int 6, .int 1] σ d Q := by
  have eV0 : Vw σ d = ov (Vw σ d) a 1 (bX7_6_1_0 a) := ov_self hf
  refine mC_of (by decide +kernel) ⟨_, rfl⟩ (Nat.le_of_ble_eq_true rfl) ?_
  show mM G mX7_init 0 [some (.ref a), some (.int 6), some (.int 1)] [] σ d (0, 0) Q
  refine m_aload_n (pc' := 1) dX7_init_0 rfl rfl ?_
  refine m_obj (pc' := 4) ob_X7_init_1 ⟨by decide, by decide⟩ dX7_init_1 rfl ?_
  refine m_aload_n (pc' := 5) dX7_init_4 rfl rfl ?_
  refine m_iconst (pc' := 6) (v := 1) dX7_init_5 (by decide) rfl ?_
  refine m_iload_n (pc' := 7) dX7_init_6 rfl rfl ?_
  refine m_mmax (pc' := 10) wm_X7_init_7 dX7_init_7 (Nat.le_of_ble_eq_true rfl) ⟨by decide, by decide⟩ rfl ?_
  show mM G mX7_init 10 [some (.ref a), some (.int 6), some (.int 1)] [.int 1, .ref a] σ d (0, 0) Q
  refine z_w (pc' := 13) 0 fa_X7_init_13 rfl dX7_init_10 rfl (by intro i' c h1 h2; match i', h1 with | 0, _ => exact absurd rfl h2 | 1, h1 => cases h1; decide | n + 2, h1 => cases h1) rfl h1 eV0 (by decide) rfl (fun s1 e1 w1 => ?_)
  have v1 : Vw s1 d = ov (Vw σ d) a 1 (bX7_6_1_1 a) := w1
  show mM G mX7_init 13 [some (.ref a), some (.int 6), some (.int 1)] [] s1 d (0, 0) Q
  refine m_aload_n (pc' := 14) dX7_init_13 rfl rfl ?_
  refine m_iconst (pc' := 15) (v := 1) dX7_init_14 (by decide) rfl ?_
  refine m_iload_n (pc' := 16) dX7_init_15 rfl rfl ?_
  refine m_mmax (pc' := 19) wm_X7_init_7 dX7_init_16 (Nat.le_of_ble_eq_true rfl) ⟨by decide, by decide⟩ rfl ?_
  show mM G mX7_init 19 [some (.ref a), some (.int 6), some (.int 1)] [.int 6, .ref a] s1 d (0, 0) Q
  refine m_iconst (pc' := 20) (v := 1) dX7_init_19 (by decide) rfl ?_
  refine m_iload_n (pc' := 21) dX7_init_20 rfl rfl ?_
  refine m_mmax (pc' := 24) wm_X7_init_7 dX7_init_21 (Nat.le_of_ble_eq_true rfl) ⟨by decide, by decide⟩ rfl ?_
  show mM G mX7_init 24 [some (.ref a), some (.int 6), some (.int 1)] [.int 1, .int 6, .ref a] s1 d (0, 0) Q
  refine m_imul (pc' := 25) dX7_init_24 rfl ?_
  show mM G mX7_init 25 [some (.ref a), some (.int 6), some (.int 1)] [.int 6, .ref a] s1 d (0, 0) Q
  refine z_newaI (pc' := 27) (L := 6) (u' := (1, 6)) ac_X7_init_int dX7_init_25 (by decide) (by decide) (by decide) ⟨by decide, by decide⟩ rfl rfl e1 v1 (fun s2 d2 e2 w2 => ?_)
  have v2 : Vw s2 d2 = ov (Vw σ d) a 2 (bX7_6_1_2 a) := w2
  show mM G mX7_init 27 [some (.ref a), some (.int 6), some (.int 1)] [.ref (a + 1), .ref a] s2 d2 (1, 6) Q
  refine z_rf (pc' := 30) (q := a + 1) 0 fa_X7_init_19 rfl rfl rfl dX7_init_27 rfl rfl e2 v2 (by decide) rfl (fun s3 e3 w3 => ?_)
  have v3 : Vw s3 d2 = ov (Vw σ d) a 2 (bX7_6_1_3 a) := w3
  show mM G mX7_init 30 [some (.ref a), some (.int 6), some (.int 1)] [] s3 d2 (1, 6) Q
  refine m_vret dX7_init_30 rfl ⟨by decide, by decide⟩ ?_
  exact hQ _ _ e3 v3
def bX7_16_1_0 (a : Nat) : Nat → VC := fun _ => fsh 7 0
def bX7_16_1_1 (a : Nat) : Nat → VC := bn (bX7_16_1_0 a) 0 (cv_w ((bX7_16_1_0 a) 0) 1)
def bX7_16_1_2 (a : Nat) : Nat → VC := bn (bX7_16_1_1 a) 1 (fsh 14 16)
def bX7_16_1_3 (a : Nat) : Nat → VC := bn (bX7_16_1_2 a) 0 (cv_rf ((bX7_16_1_2 a) 0) 1 (a + 1))
set_option maxHeartbeats 4000000 in
set_option maxRecDepth 100000 in
theorem c_iX7_16_1 {a : Nat} (h1 : σ.1 = a + 1) (hf : Vw σ d a = fsh 7 0) (hQ : ∀ σ' d', σ'.1 = a + 2 → Vw σ' d' = ov (Vw σ d) a 2 (bX7_16_1_3 a) → Q none σ' d') : mC G mX7_init [.ref a, .int 16, .int 1] σ d Q := by
  have eV0 : Vw σ d = ov (Vw σ d) a 1 (bX7_16_1_0 a) := ov_self hf
  refine mC_of (by decide +kernel) ⟨_, rfl⟩ (Nat.le_of_ble_eq_true rfl) ?_
  show mM G mX7_init 0 [some (.ref a), some (.int 16), some (.int 1)] [] σ d (0, 0) Q
  refine m_aload_n (pc' := 1) dX7_init_0 rfl rfl ?_
  refine m_obj (pc' := 4) ob_X7_init_1 ⟨by decide, by decide⟩ dX7_init_1 rfl ?_
  refine m_aload_n (pc' := 5) dX7_init_4 rfl rfl ?_
  refine m_iconst (pc' := 6) (v := 1) dX7_init_5 (by decide) rfl ?_
  refine m_iload_n (pc' := 7) dX7_init_6 rfl rfl ?_
  refine m_mmax (pc' := 10) wm_X7_init_7 dX7_init_7 (Nat.le_of_ble_eq_true rfl) ⟨by decide, by decide⟩ rfl ?_
  show mM G mX7_init 10 [some (.ref a), some (.int 16), some (.int 1)] [.int 1, .ref a] σ d (0, 0) Q
  refine z_w (pc' := 13) 0 fa_X7_init_13 rfl dX7_init_10 rfl (by intro i' c h1 h2; match i', h1 with | 0, _ => exact absurd rfl h2 | 1, h1 => cases h1; decide | n + 2, h1 => cases h1) rfl h1 eV0 (by decide) rfl (fun s1 e1 w1 => ?_)
  have v1 : Vw s1 d = ov (Vw σ d) a 1 (bX7_16_1_1 a) := w1
  show mM G mX7_init 13 [some (.ref a), some (.int 16), some (.int 1)] [] s1 d (0, 0) Q
  refine m_aload_n (pc' := 14) dX7_init_13 rfl rfl ?_
  refine m_iconst (pc' := 15) (v := 1) dX7_init_14 (by decide) rfl ?_
  refine m_iload_n (pc' := 16) dX7_init_15 rfl rfl ?_
  refine m_mmax (pc' := 19) wm_X7_init_7 dX7_init_16 (Nat.le_of_ble_eq_true rfl) ⟨by decide, by decide⟩ rfl ?_
  show mM G mX7_init 19 [some (.ref a), some (.int 16), some (.int 1)] [.int 16, .ref a] s1 d (0, 0) Q
  refine m_iconst (pc' := 20) (v := 1) dX7_init_19 (by decide) rfl ?_
  refine m_iload_n (pc' := 21) dX7_init_20 rfl rfl ?_
  refine m_mmax (pc' := 24) wm_X7_init_7 dX7_init_21 (Nat.le_of_ble_eq_true rfl) ⟨by decide, by decide⟩ rfl ?_
  show mM G mX7_init 24 [some (.ref a), some (.int 16), some (.int 1)] [.int 1, .int 16, .ref a] s1 d (0, 0) Q
  refine m_imul (pc' := 25) dX7_init_24 rfl ?_
  show mM G mX7_init 25 [some (.ref a), some (.int 16), some (.int 1)] [.int 16, .ref a] s1 d (0, 0) Q
  refine z_newaI (pc' := 27) (L := 16) (u' := (1, 16)) ac_X7_init_int dX7_init_25 (by decide) (by decide) (by decide) ⟨by decide, by decide⟩ rfl rfl e1 v1 (fun s2 d2 e2 w2 => ?_)
  have v2 : Vw s2 d2 = ov (Vw σ d) a 2 (bX7_16_1_2 a) := w2
  show mM G mX7_init 27 [some (.ref a), some (.int 16), some (.int 1)] [.ref (a + 1), .ref a] s2 d2 (1, 16) Q
  refine z_rf (pc' := 30) (q := a + 1) 0 fa_X7_init_19 rfl rfl rfl dX7_init_27 rfl rfl e2 v2 (by decide) rfl (fun s3 e3 w3 => ?_)
  have v3 : Vw s3 d2 = ov (Vw σ d) a 2 (bX7_16_1_3 a) := w3
  show mM G mX7_init 30 [some (.ref a), some (.int 16), some (.int 1)] [] s3 d2 (1, 16) Q
  refine m_vret dX7_init_30 rfl ⟨by decide, by decide⟩ ?_
  exact hQ _ _ e3 v3
def bX3_0 (a : Nat) : Nat → VC := fun _ => fsh 3 0
def bX3_1 (a : Nat) : Nat → VC := bn (bX3_0 a) 1 (fsh 7 0)
def bX3_2 (a : Nat) : Nat → VC := bo (bX3_1 a) 1 (bX7_8_5_3 (a + 1))
def bX3_3 (a : Nat) : Nat → VC := bn (bX3_2 a) 0 (cv_rf ((bX3_2 a) 0) 0 (a + 1))
def bX3_4 (a : Nat) : Nat → VC := bn (bX3_3 a) 3 (fsh 7 0)
def bX3_5 (a : Nat) : Nat → VC := bo (bX3_4 a) 3 (bX7_16_2_3 (a + 3))
def bX3_6 (a : Nat) : Nat → VC := bn (bX3_5 a) 0 (cv_rf ((bX3_5 a) 0) 1 (a + 3))
def bX3_7 (a : Nat) : Nat → VC := bn (bX3_6 a) 5 (fsh 7 0)
def bX3_8 (a : Nat) : Nat → VC := bo (bX3_7 a) 5 (bX7_3_1_3 (a + 5))
def bX3_9 (a : Nat) : Nat → VC := bn (bX3_8 a) 0 (cv_rf ((bX3_8 a) 0) 2 (a + 5))
def bX3_10 (a : Nat) : Nat → VC := bn (bX3_9 a) 6 (cv_in ((bX3_9 a) 6) 0 2048)
def bX3_11 (a : Nat) : Nat → VC := bn (bX3_10 a) 6 (cv_in ((bX3_10 a) 6) 1 1000)
set_option maxHeartbeats 4000000 in
set_option maxRecDepth 100000 in
theorem c_iX3 {a : Nat} (h1 : σ.1 = a + 1) (hf : Vw σ d a = fsh 3 0) (hQ : ∀ σ' d', σ'.1 = a + 7 → Vw σ' d' = ov (Vw σ d) a 7 (bX3_11 a) → Q none σ' d') : mC G mX3_init [.ref a] σ d Q := by
  have eV0 : Vw σ d = ov (Vw σ d) a 1 (bX3_0 a) := ov_self hf
  refine mC_of (by decide +kernel) ⟨_, rfl⟩ (Nat.le_of_ble_eq_true rfl) ?_
  show mM G mX3_init 0 [some (.ref a)] [] σ d (0, 0) Q
  refine m_aload_n (pc' := 1) dX3_init_0 rfl rfl ?_
  refine m_obj (pc' := 4) ob_X3_init_3 ⟨by decide, by decide⟩ dX3_init_1 rfl ?_
  refine m_aload_n (pc' := 5) dX3_init_4 rfl rfl ?_
  refine z_new (pc' := 8) (u' := (1, 2)) fn_X3_init_9 dX3_init_5 ⟨by decide, by decide⟩ rfl rfl h1 eV0 (fun s1 d1 e1 w1 => ?_)
  have v1 : Vw s1 d1 = ov (Vw σ d) a 2 (bX3_1 a) := w1
  show mM G mX3_init 8 [some (.ref a)] [.ref (a + 1), .ref a] s1 d1 (1, 2) Q
  refine m_dup (pc' := 9) dX3_init_8 rfl ?_
  refine m_bipush (pc' := 11) (v := 8) dX3_init_9 (by decide) rfl ?_
  refine m_iconst (pc' := 12) (v := 5) dX3_init_11 (by decide) rfl ?_
  refine m_callI (pc' := 15) (A := [.int 8, .int 5]) (rest := [.ref (a + 1), .ref a]) (b := a + 1) (u' := (2, 202)) cl_X3_init_11 dX3_init_12 rfl rfl (Nat.le_of_ble_eq_true rfl) ⟨by decide, by decide⟩ rfl rfl ?_
  refine c_iX7_8_5 (a := a + 1) (e1.trans rfl) ((z_at (m := 1) v1 (by decide)).trans rfl) (fun s2 d2 e2' w2' => ?_)
  have e2 : s2.1 = a + 3 := e2'.trans (Nat.add_assoc a 1 2)
  have w2 : Vw s2 d2 = ov (Vw σ d) a (1 + 2) (bo (bX3_1 a) 1 (bX7_8_5_3 (a + 1))) := by rw [w2', v1]; exact ov_ov (by decide)
  have v2 : Vw s2 d2 = ov (Vw σ d) a 3 (bX3_2 a) := w2
  show mM G mX3_init 15 [some (.ref a)] [.ref (a + 1), .ref a] s2 d2 (2, 202) Q
  refine z_rf (pc' := 18) (q := a + 1) 0 fa_X3_init_14 rfl rfl rfl dX3_init_15 rfl rfl e2 v2 (by decide) rfl (fun s3 e3 w3 => ?_)
  have v3 : Vw s3 d2 = ov (Vw σ d) a 3 (bX3_3 a) := w3
  show mM G mX3_init 18 [some (.ref a)] [] s3 d2 (2, 202) Q
  refine m_aload_n (pc' := 19) dX3_init_18 rfl rfl ?_
  refine z_new (pc' := 22) (u' := (3, 204)) fn_X3_init_9 dX3_init_19 ⟨by decide, by decide⟩ rfl rfl e3 v3 (fun s4 d4 e4 w4 => ?_)
  have v4 : Vw s4 d4 = ov (Vw σ d) a 4 (bX3_4 a) := w4
  show mM G mX3_init 22 [some (.ref a)] [.ref (a + 3), .ref a] s4 d4 (3, 204) Q
  refine m_dup (pc' := 23) dX3_init_22 rfl ?_
  refine m_bipush (pc' := 25) (v := 16) dX3_init_23 (by decide) rfl ?_
  refine m_iconst (pc' := 26) (v := 2) dX3_init_25 (by decide) rfl ?_
  refine m_callI (pc' := 29) (A := [.int 16, .int 2]) (rest := [.ref (a + 3), .ref a]) (b := a + 3) (u' := (4, 404)) cl_X3_init_11 dX3_init_26 rfl rfl (Nat.le_of_ble_eq_true rfl) ⟨by decide, by decide⟩ rfl rfl ?_
  refine c_iX7_16_2 (a := a + 3) (e4.trans rfl) ((z_at (m := 3) v4 (by decide)).trans rfl) (fun s5 d5 e5' w5' => ?_)
  have e5 : s5.1 = a + 5 := e5'.trans (Nat.add_assoc a 3 2)
  have w5 : Vw s5 d5 = ov (Vw σ d) a (3 + 2) (bo (bX3_4 a) 3 (bX7_16_2_3 (a + 3))) := by rw [w5', v4]; exact ov_ov (by decide)
  have v5 : Vw s5 d5 = ov (Vw σ d) a 5 (bX3_5 a) := w5
  show mM G mX3_init 29 [some (.ref a)] [.ref (a + 3), .ref a] s5 d5 (4, 404) Q
  refine z_rf (pc' := 32) (q := a + 3) 0 fa_X3_init_20 rfl rfl rfl dX3_init_29 rfl rfl e5 v5 (by decide) rfl (fun s6 e6 w6 => ?_)
  have v6 : Vw s6 d5 = ov (Vw σ d) a 5 (bX3_6 a) := w6
  show mM G mX3_init 32 [some (.ref a)] [] s6 d5 (4, 404) Q
  refine m_aload_n (pc' := 33) dX3_init_32 rfl rfl ?_
  refine z_new (pc' := 36) (u' := (5, 406)) fn_X3_init_9 dX3_init_33 ⟨by decide, by decide⟩ rfl rfl e6 v6 (fun s7 d7 e7 w7 => ?_)
  have v7 : Vw s7 d7 = ov (Vw σ d) a 6 (bX3_7 a) := w7
  show mM G mX3_init 36 [some (.ref a)] [.ref (a + 5), .ref a] s7 d7 (5, 406) Q
  refine m_dup (pc' := 37) dX3_init_36 rfl ?_
  refine m_iconst (pc' := 38) (v := 3) dX3_init_37 (by decide) rfl ?_
  refine m_iconst (pc' := 39) (v := 1) dX3_init_38 (by decide) rfl ?_
  refine m_callI (pc' := 42) (A := [.int 3, .int 1]) (rest := [.ref (a + 5), .ref a]) (b := a + 5) (u' := (6, 606)) cl_X3_init_11 dX3_init_39 rfl rfl (Nat.le_of_ble_eq_true rfl) ⟨by decide, by decide⟩ rfl rfl ?_
  refine c_iX7_3_1 (a := a + 5) (e7.trans rfl) ((z_at (m := 5) v7 (by decide)).trans rfl) (fun s8 d8 e8' w8' => ?_)
  have e8 : s8.1 = a + 7 := e8'.trans (Nat.add_assoc a 5 2)
  have w8 : Vw s8 d8 = ov (Vw σ d) a (5 + 2) (bo (bX3_7 a) 5 (bX7_3_1_3 (a + 5))) := by rw [w8', v7]; exact ov_ov (by decide)
  have v8 : Vw s8 d8 = ov (Vw σ d) a 7 (bX3_8 a) := w8
  show mM G mX3_init 42 [some (.ref a)] [.ref (a + 5), .ref a] s8 d8 (6, 606) Q
  refine z_rf (pc' := 45) (q := a + 5) 0 fa_X3_init_23 rfl rfl rfl dX3_init_42 rfl rfl e8 v8 (by decide) rfl (fun s9 e9 w9 => ?_)
  have v9 : Vw s9 d8 = ov (Vw σ d) a 7 (bX3_9 a) := w9
  show mM G mX3_init 45 [some (.ref a)] [] s9 d8 (6, 606) Q
  refine m_aload_n (pc' := 46) dX3_init_45 rfl rfl ?_
  refine z_getR (pc' := 49) (q := a + 5) 0 fa_X3_init_23 dX3_init_46 rfl rfl e9 v9 (by decide) rfl rfl ?_
  refine m_iconst (pc' := 50) (v := 0) dX3_init_49 (by decide) rfl ?_
  refine m_iconst (pc' := 51) (v := 0) dX3_init_50 (by decide) rfl ?_
  refine m_sipush (pc' := 54) (v := 2048) dX3_init_51 (by decide) rfl ?_
  refine m_callV (pc' := 57) (A := [.int 0, .int 0, .int 2048]) (rest := []) (b := a + 5) (u' := (6, 606)) cl_X3_init_26 dX3_init_54 rfl rfl (Nat.le_of_ble_eq_true rfl) ⟨by decide, by decide⟩ (z_lt (m := 5) e9 (by decide)) (z_kd (m := 5) v9 (by decide) rfl) rfl rfl rfl ?_
  refine z_put (W := 1) (L := 3) (r := 0) (c := 0) (k := 0) 5 (by decide) (by decide) (by decide) e9 v9 (by decide) rfl rfl rfl rfl rfl (fun d10 w10 => ?_)
  have v10 : Vw s9 d10 = ov (Vw σ d) a 7 (bX3_10 a) := w10
  show mM G mX3_init 57 [some (.ref a)] [] s9 d10 (6, 606) Q
  refine m_aload_n (pc' := 58) dX3_init_57 rfl rfl ?_
  refine z_getR (pc' := 61) (q := a + 5) 0 fa_X3_init_23 dX3_init_58 rfl rfl e9 v10 (by decide) rfl rfl ?_
  refine m_iconst (pc' := 62) (v := 1) dX3_init_61 (by decide) rfl ?_
  refine m_iconst (pc' := 63) (v := 0) dX3_init_62 (by decide) rfl ?_
  refine m_sipush (pc' := 66) (v := 1000) dX3_init_63 (by decide) rfl ?_
  refine m_callV (pc' := 69) (A := [.int 1, .int 0, .int 1000]) (rest := []) (b := a + 5) (u' := (6, 606)) cl_X3_init_26 dX3_init_66 rfl rfl (Nat.le_of_ble_eq_true rfl) ⟨by decide, by decide⟩ (z_lt (m := 5) e9 (by decide)) (z_kd (m := 5) v10 (by decide) rfl) rfl rfl rfl ?_
  refine z_put (W := 1) (L := 3) (r := 1) (c := 0) (k := 1) 5 (by decide) (by decide) (by decide) e9 v10 (by decide) rfl rfl rfl rfl rfl (fun d11 w11 => ?_)
  have v11 : Vw s9 d11 = ov (Vw σ d) a 7 (bX3_11 a) := w11
  show mM G mX3_init 69 [some (.ref a)] [] s9 d11 (6, 606) Q
  refine m_vret dX3_init_69 rfl ⟨by decide, by decide⟩ ?_
  exact hQ _ _ e9 v11
def bX2_0 (a : Nat) : Nat → VC := fun _ => fsh 2 0
def bX2_1 (a : Nat) : Nat → VC := bn (bX2_0 a) 1 (fsh 7 0)
def bX2_2 (a : Nat) : Nat → VC := bo (bX2_1 a) 1 (bX7_32_5_3 (a + 1))
def bX2_3 (a : Nat) : Nat → VC := bn (bX2_2 a) 0 (cv_rf ((bX2_2 a) 0) 0 (a + 1))
set_option maxHeartbeats 4000000 in
set_option maxRecDepth 100000 in
theorem c_iX2 {a : Nat} (h1 : σ.1 = a + 1) (hf : Vw σ d a = fsh 2 0) (hQ : ∀ σ' d', σ'.1 = a + 3 → Vw σ' d' = ov (Vw σ d) a 3 (bX2_3 a) → Q none σ' d') : mC G mX2_init [.ref a] σ d Q := by
  have eV0 : Vw σ d = ov (Vw σ d) a 1 (bX2_0 a) := ov_self hf
  refine mC_of (by decide +kernel) ⟨_, rfl⟩ (Nat.le_of_ble_eq_true rfl) ?_
  show mM G mX2_init 0 [some (.ref a)] [] σ d (0, 0) Q
  refine m_aload_n (pc' := 1) dX2_init_0 rfl rfl ?_
  refine m_obj (pc' := 4) ob_X2_init_3 ⟨by decide, by decide⟩ dX2_init_1 rfl ?_
  refine m_aload_n (pc' := 5) dX2_init_4 rfl rfl ?_
  refine z_new (pc' := 8) (u' := (1, 2)) fn_X2_init_9 dX2_init_5 ⟨by decide, by decide⟩ rfl rfl h1 eV0 (fun s1 d1 e1 w1 => ?_)
  have v1 : Vw s1 d1 = ov (Vw σ d) a 2 (bX2_1 a) := w1
  show mM G mX2_init 8 [some (.ref a)] [.ref (a + 1), .ref a] s1 d1 (1, 2) Q
  refine m_dup (pc' := 9) dX2_init_8 rfl ?_
  refine m_bipush (pc' := 11) (v := 32) dX2_init_9 (by decide) rfl ?_
  refine m_iconst (pc' := 12) (v := 5) dX2_init_11 (by decide) rfl ?_
  refine m_callI (pc' := 15) (A := [.int 32, .int 5]) (rest := [.ref (a + 1), .ref a]) (b := a + 1) (u' := (2, 202)) cl_X2_init_11 dX2_init_12 rfl rfl (Nat.le_of_ble_eq_true rfl) ⟨by decide, by decide⟩ rfl rfl ?_
  refine c_iX7_32_5 (a := a + 1) (e1.trans rfl) ((z_at (m := 1) v1 (by decide)).trans rfl) (fun s2 d2 e2' w2' => ?_)
  have e2 : s2.1 = a + 3 := e2'.trans (Nat.add_assoc a 1 2)
  have w2 : Vw s2 d2 = ov (Vw σ d) a (1 + 2) (bo (bX2_1 a) 1 (bX7_32_5_3 (a + 1))) := by rw [w2', v1]; exact ov_ov (by decide)
  have v2 : Vw s2 d2 = ov (Vw σ d) a 3 (bX2_2 a) := w2
  show mM G mX2_init 15 [some (.ref a)] [.ref (a + 1), .ref a] s2 d2 (2, 202) Q
  refine z_rf (pc' := 18) (q := a + 1) 0 fa_X2_init_14 rfl rfl rfl dX2_init_15 rfl rfl e2 v2 (by decide) rfl (fun s3 e3 w3 => ?_)
  have v3 : Vw s3 d2 = ov (Vw σ d) a 3 (bX2_3 a) := w3
  show mM G mX2_init 18 [some (.ref a)] [] s3 d2 (2, 202) Q
  refine m_vret dX2_init_18 rfl ⟨by decide, by decide⟩ ?_
  exact hQ _ _ e3 v3
def bX4_0 (a : Nat) : Nat → VC := fun _ => fsh 4 0
def bX4_1 (a : Nat) : Nat → VC := bn (bX4_0 a) 1 (fsh 3 0)
def bX4_2 (a : Nat) : Nat → VC := bo (bX4_1 a) 1 (bX3_11 (a + 1))
def bX4_3 (a : Nat) : Nat → VC := bn (bX4_2 a) 0 (cv_rf ((bX4_2 a) 0) 0 (a + 1))
set_option maxHeartbeats 4000000 in
set_option maxRecDepth 100000 in
theorem c_iX4 {a : Nat} (h1 : σ.1 = a + 1) (hf : Vw σ d a = fsh 4 0) (hQ : ∀ σ' d', σ'.1 = a + 8 → Vw σ' d' = ov (Vw σ d) a 8 (bX4_3 a) → Q none σ' d') : mC G mX4_init [.ref a] σ d Q := by
  have eV0 : Vw σ d = ov (Vw σ d) a 1 (bX4_0 a) := ov_self hf
  refine mC_of (by decide +kernel) ⟨_, rfl⟩ (Nat.le_of_ble_eq_true rfl) ?_
  show mM G mX4_init 0 [some (.ref a)] [] σ d (0, 0) Q
  refine m_aload_n (pc' := 1) dX4_init_0 rfl rfl ?_
  refine m_obj (pc' := 4) ob_X4_init_1 ⟨by decide, by decide⟩ dX4_init_1 rfl ?_
  refine m_aload_n (pc' := 5) dX4_init_4 rfl rfl ?_
  refine z_new (pc' := 8) (u' := (1, 4)) fn_X4_init_7 dX4_init_5 ⟨by decide, by decide⟩ rfl rfl h1 eV0 (fun s1 d1 e1 w1 => ?_)
  have v1 : Vw s1 d1 = ov (Vw σ d) a 2 (bX4_1 a) := w1
  show mM G mX4_init 8 [some (.ref a)] [.ref (a + 1), .ref a] s1 d1 (1, 4) Q
  refine m_dup (pc' := 9) dX4_init_8 rfl ?_
  refine m_callI (pc' := 12) (A := []) (rest := [.ref (a + 1), .ref a]) (b := a + 1) (u' := (7, 610)) cl_X4_init_9 dX4_init_9 rfl rfl (Nat.le_of_ble_eq_true rfl) ⟨by decide, by decide⟩ rfl rfl ?_
  refine c_iX3 (a := a + 1) (e1.trans rfl) ((z_at (m := 1) v1 (by decide)).trans rfl) (fun s2 d2 e2' w2' => ?_)
  have e2 : s2.1 = a + 8 := e2'.trans (Nat.add_assoc a 1 7)
  have w2 : Vw s2 d2 = ov (Vw σ d) a (1 + 7) (bo (bX4_1 a) 1 (bX3_11 (a + 1))) := by rw [w2', v1]; exact ov_ov (by decide)
  have v2 : Vw s2 d2 = ov (Vw σ d) a 8 (bX4_2 a) := w2
  show mM G mX4_init 12 [some (.ref a)] [.ref (a + 1), .ref a] s2 d2 (7, 610) Q
  refine z_rf (pc' := 15) (q := a + 1) 0 fa_X4_init_10 rfl rfl rfl dX4_init_12 rfl rfl e2 v2 (by decide) rfl (fun s3 e3 w3 => ?_)
  have v3 : Vw s3 d2 = ov (Vw σ d) a 8 (bX4_3 a) := w3
  show mM G mX4_init 15 [some (.ref a)] [] s3 d2 (7, 610) Q
  refine m_vret dX4_init_15 rfl ⟨by decide, by decide⟩ ?_
  exact hQ _ _ e3 v3
def bX6_0 (a : Nat) : Nat → VC := fun _ => fsh 6 0
def bX6_1 (a : Nat) : Nat → VC := bn (bX6_0 a) 1 (fsh 3 0)
def bX6_2 (a : Nat) : Nat → VC := bo (bX6_1 a) 1 (bX3_11 (a + 1))
def bX6_3 (a : Nat) : Nat → VC := bn (bX6_2 a) 0 (cv_rf ((bX6_2 a) 0) 0 (a + 1))
def bX6_4 (a : Nat) : Nat → VC := bn (bX6_3 a) 8 (fsh 2 0)
def bX6_5 (a : Nat) : Nat → VC := bo (bX6_4 a) 8 (bX2_3 (a + 8))
def bX6_6 (a : Nat) : Nat → VC := bn (bX6_5 a) 0 (cv_rf ((bX6_5 a) 0) 1 (a + 8))
def bX6_7 (a : Nat) : Nat → VC := bn (bX6_6 a) 11 (fsh 7 0)
def bX6_8 (a : Nat) : Nat → VC := bo (bX6_7 a) 11 (bX7_10_1_3 (a + 11))
def bX6_9 (a : Nat) : Nat → VC := bn (bX6_8 a) 0 (cv_rf ((bX6_8 a) 0) 2 (a + 11))
def bX6_10 (a : Nat) : Nat → VC := bn (bX6_9 a) 13 (fsh 7 0)
def bX6_11 (a : Nat) : Nat → VC := bo (bX6_10 a) 13 (bX7_6_1_3 (a + 13))
def bX6_12 (a : Nat) : Nat → VC := bn (bX6_11 a) 0 (cv_rf ((bX6_11 a) 0) 3 (a + 13))
def bX6_13 (a : Nat) : Nat → VC := bn (bX6_12 a) 15 (fsh 4 0)
def bX6_14 (a : Nat) : Nat → VC := bo (bX6_13 a) 15 (bX4_3 (a + 15))
def bX6_15 (a : Nat) : Nat → VC := bn (bX6_14 a) 0 (cv_rf ((bX6_14 a) 0) 4 (a + 15))
def bX6_16 (a : Nat) : Nat → VC := bn (bX6_15 a) 23 (fsh 4 0)
def bX6_17 (a : Nat) : Nat → VC := bo (bX6_16 a) 23 (bX4_3 (a + 23))
def bX6_18 (a : Nat) : Nat → VC := bn (bX6_17 a) 0 (cv_rf ((bX6_17 a) 0) 5 (a + 23))
def bX6_19 (a : Nat) : Nat → VC := bn (bX6_18 a) 12 (cv_in ((bX6_18 a) 12) 0 (-10000009))
def bX6_20 (a : Nat) : Nat → VC := bn (bX6_19 a) 12 (cv_in ((bX6_19 a) 12) 1 (-10000009))
def bX6_21 (a : Nat) : Nat → VC := bn (bX6_20 a) 12 (cv_in ((bX6_20 a) 12) 2 (-10000009))
def bX6_22 (a : Nat) : Nat → VC := bn (bX6_21 a) 12 (cv_in ((bX6_21 a) 12) 3 (-10000009))
def bX6_23 (a : Nat) : Nat → VC := bn (bX6_22 a) 12 (cv_in ((bX6_22 a) 12) 4 (-10000009))
def bX6_24 (a : Nat) : Nat → VC := bn (bX6_23 a) 12 (cv_in ((bX6_23 a) 12) 5 (-10000009))
def bX6_25 (a : Nat) : Nat → VC := bn (bX6_24 a) 12 (cv_in ((bX6_24 a) 12) 6 (-10000009))
def bX6_26 (a : Nat) : Nat → VC := bn (bX6_25 a) 12 (cv_in ((bX6_25 a) 12) 7 (-10000009))
def bX6_27 (a : Nat) : Nat → VC := bn (bX6_26 a) 12 (cv_in ((bX6_26 a) 12) 8 (-10000009))
def bX6_28 (a : Nat) : Nat → VC := bn (bX6_27 a) 12 (cv_in ((bX6_27 a) 12) 9 (-10000009))
set_option maxHeartbeats 4000000 in
set_option maxRecDepth 100000 in
theorem c_iX6 {a : Nat} (h1 : σ.1 = a + 1) (hf : Vw σ d a = fsh 6 0) (hQ : ∀ σ' d', σ'.1 = a + 31 → Vw σ' d' = ov (Vw σ d) a 31 (bX6_28 a) → Q none σ' d') : mC G mX6_init [.ref a] σ d Q := by
  have eV0 : Vw σ d = ov (Vw σ d) a 1 (bX6_0 a) := ov_self hf
  refine mC_of (by decide +kernel) ⟨_, rfl⟩ (Nat.le_of_ble_eq_true rfl) ?_
  show mM G mX6_init 0 [some (.ref a), none] [] σ d (0, 0) Q
  refine m_aload_n (pc' := 1) dX6_init_0 rfl rfl ?_
  refine m_obj (pc' := 4) ob_X6_init_3 ⟨by decide, by decide⟩ dX6_init_1 rfl ?_
  refine m_aload_n (pc' := 5) dX6_init_4 rfl rfl ?_
  refine z_new (pc' := 8) (u' := (1, 4)) fn_X6_init_9 dX6_init_5 ⟨by decide, by decide⟩ rfl rfl h1 eV0 (fun s1 d1 e1 w1 => ?_)
  have v1 : Vw s1 d1 = ov (Vw σ d) a 2 (bX6_1 a) := w1
  show mM G mX6_init 8 [some (.ref a), none] [.ref (a + 1), .ref a] s1 d1 (1, 4) Q
  refine m_dup (pc' := 9) dX6_init_8 rfl ?_
  refine m_callI (pc' := 12) (A := []) (rest := [.ref (a + 1), .ref a]) (b := a + 1) (u' := (7, 610)) cl_X6_init_11 dX6_init_9 rfl rfl (Nat.le_of_ble_eq_true rfl) ⟨by decide, by decide⟩ rfl rfl ?_
  refine c_iX3 (a := a + 1) (e1.trans rfl) ((z_at (m := 1) v1 (by decide)).trans rfl) (fun s2 d2 e2' w2' => ?_)
  have e2 : s2.1 = a + 8 := e2'.trans (Nat.add_assoc a 1 7)
  have w2 : Vw s2 d2 = ov (Vw σ d) a (1 + 7) (bo (bX6_1 a) 1 (bX3_11 (a + 1))) := by rw [w2', v1]; exact ov_ov (by decide)
  have v2 : Vw s2 d2 = ov (Vw σ d) a 8 (bX6_2 a) := w2
  show mM G mX6_init 12 [some (.ref a), none] [.ref (a + 1), .ref a] s2 d2 (7, 610) Q
  refine z_rf (pc' := 15) (q := a + 1) 0 fa_X6_init_12 rfl rfl rfl dX6_init_12 rfl rfl e2 v2 (by decide) rfl (fun s3 e3 w3 => ?_)
  have v3 : Vw s3 d2 = ov (Vw σ d) a 8 (bX6_3 a) := w3
  show mM G mX6_init 15 [some (.ref a), none] [] s3 d2 (7, 610) Q
  refine m_aload_n (pc' := 16) dX6_init_15 rfl rfl ?_
  refine z_new (pc' := 19) (u' := (8, 613)) fn_X6_init_18 dX6_init_16 ⟨by decide, by decide⟩ rfl rfl e3 v3 (fun s4 d4 e4 w4 => ?_)
  have v4 : Vw s4 d4 = ov (Vw σ d) a 9 (bX6_4 a) := w4
  show mM G mX6_init 19 [some (.ref a), none] [.ref (a + 8), .ref a] s4 d4 (8, 613) Q
  refine m_dup (pc' := 20) dX6_init_19 rfl ?_
  refine m_callIN (pc' := 23) (A := []) (rest := [.ref (a + 8), .ref a]) (b := a + 8) (u' := (10, 815)) cl_X6_init_20 dX6_init_20 rfl rfl (Nat.le_of_ble_eq_true rfl) ⟨by decide, by decide⟩ rfl rfl ?_
  refine c_iX2 (a := a + 8) (e4.trans rfl) ((z_at (m := 8) v4 (by decide)).trans rfl) (fun s5 d5 e5' w5' => ?_)
  have e5 : s5.1 = a + 11 := e5'.trans (Nat.add_assoc a 8 3)
  have w5 : Vw s5 d5 = ov (Vw σ d) a (8 + 3) (bo (bX6_4 a) 8 (bX2_3 (a + 8))) := by rw [w5', v4]; exact ov_ov (by decide)
  have v5 : Vw s5 d5 = ov (Vw σ d) a 11 (bX6_5 a) := w5
  show mM G mX6_init 23 [some (.ref a), none] [.ref (a + 8), .ref a] s5 d5 (10, 815) Q
  refine z_rf (pc' := 26) (q := a + 8) 0 fa_X6_init_21 rfl rfl rfl dX6_init_23 rfl rfl e5 v5 (by decide) rfl (fun s6 e6 w6 => ?_)
  have v6 : Vw s6 d5 = ov (Vw σ d) a 11 (bX6_6 a) := w6
  show mM G mX6_init 26 [some (.ref a), none] [] s6 d5 (10, 815) Q
  refine m_aload_n (pc' := 27) dX6_init_26 rfl rfl ?_
  refine z_new (pc' := 30) (u' := (11, 817)) fn_X6_init_25 dX6_init_27 ⟨by decide, by decide⟩ rfl rfl e6 v6 (fun s7 d7 e7 w7 => ?_)
  have v7 : Vw s7 d7 = ov (Vw σ d) a 12 (bX6_7 a) := w7
  show mM G mX6_init 30 [some (.ref a), none] [.ref (a + 11), .ref a] s7 d7 (11, 817) Q
  refine m_dup (pc' := 31) dX6_init_30 rfl ?_
  refine m_bipush (pc' := 33) (v := 10) dX6_init_31 (by decide) rfl ?_
  refine m_iconst (pc' := 34) (v := 1) dX6_init_33 (by decide) rfl ?_
  refine m_callI (pc' := 37) (A := [.int 10, .int 1]) (rest := [.ref (a + 11), .ref a]) (b := a + 11) (u' := (12, 1017)) cl_X6_init_27 dX6_init_34 rfl rfl (Nat.le_of_ble_eq_true rfl) ⟨by decide, by decide⟩ rfl rfl ?_
  refine c_iX7_10_1 (a := a + 11) (e7.trans rfl) ((z_at (m := 11) v7 (by decide)).trans rfl) (fun s8 d8 e8' w8' => ?_)
  have e8 : s8.1 = a + 13 := e8'.trans (Nat.add_assoc a 11 2)
  have w8 : Vw s8 d8 = ov (Vw σ d) a (11 + 2) (bo (bX6_7 a) 11 (bX7_10_1_3 (a + 11))) := by rw [w8', v7]; exact ov_ov (by decide)
  have v8 : Vw s8 d8 = ov (Vw σ d) a 13 (bX6_8 a) := w8
  show mM G mX6_init 37 [some (.ref a), none] [.ref (a + 11), .ref a] s8 d8 (12, 1017) Q
  refine z_rf (pc' := 40) (q := a + 11) 0 fa_X6_init_30 rfl rfl rfl dX6_init_37 rfl rfl e8 v8 (by decide) rfl (fun s9 e9 w9 => ?_)
  have v9 : Vw s9 d8 = ov (Vw σ d) a 13 (bX6_9 a) := w9
  show mM G mX6_init 40 [some (.ref a), none] [] s9 d8 (12, 1017) Q
  refine m_aload_n (pc' := 41) dX6_init_40 rfl rfl ?_
  refine z_new (pc' := 44) (u' := (13, 1019)) fn_X6_init_25 dX6_init_41 ⟨by decide, by decide⟩ rfl rfl e9 v9 (fun s10 d10 e10 w10 => ?_)
  have v10 : Vw s10 d10 = ov (Vw σ d) a 14 (bX6_10 a) := w10
  show mM G mX6_init 44 [some (.ref a), none] [.ref (a + 13), .ref a] s10 d10 (13, 1019) Q
  refine m_dup (pc' := 45) dX6_init_44 rfl ?_
  refine m_bipush (pc' := 47) (v := 6) dX6_init_45 (by decide) rfl ?_
  refine m_iconst (pc' := 48) (v := 1) dX6_init_47 (by decide) rfl ?_
  refine m_callI (pc' := 51) (A := [.int 6, .int 1]) (rest := [.ref (a + 13), .ref a]) (b := a + 13) (u' := (14, 1219)) cl_X6_init_27 dX6_init_48 rfl rfl (Nat.le_of_ble_eq_true rfl) ⟨by decide, by decide⟩ rfl rfl ?_
  refine c_iX7_6_1 (a := a + 13) (e10.trans rfl) ((z_at (m := 13) v10 (by decide)).trans rfl) (fun s11 d11 e11' w11' => ?_)
  have e11 : s11.1 = a + 15 := e11'.trans (Nat.add_assoc a 13 2)
  have w11 : Vw s11 d11 = ov (Vw σ d) a (13 + 2) (bo (bX6_10 a) 13 (bX7_6_1_3 (a + 13))) := by rw [w11', v10]; exact ov_ov (by decide)
  have v11 : Vw s11 d11 = ov (Vw σ d) a 15 (bX6_11 a) := w11
  show mM G mX6_init 51 [some (.ref a), none] [.ref (a + 13), .ref a] s11 d11 (14, 1219) Q
  refine z_rf (pc' := 54) (q := a + 13) 0 fa_X6_init_34 rfl rfl rfl dX6_init_51 rfl rfl e11 v11 (by decide) rfl (fun s12 e12 w12 => ?_)
  have v12 : Vw s12 d11 = ov (Vw σ d) a 15 (bX6_12 a) := w12
  show mM G mX6_init 54 [some (.ref a), none] [] s12 d11 (14, 1219) Q
  refine m_aload_n (pc' := 55) dX6_init_54 rfl rfl ?_
  refine z_new (pc' := 58) (u' := (15, 1221)) fn_X6_init_37 dX6_init_55 ⟨by decide, by decide⟩ rfl rfl e12 v12 (fun s13 d13 e13 w13 => ?_)
  have v13 : Vw s13 d13 = ov (Vw σ d) a 16 (bX6_13 a) := w13
  show mM G mX6_init 58 [some (.ref a), none] [.ref (a + 15), .ref a] s13 d13 (15, 1221) Q
  refine m_dup (pc' := 59) dX6_init_58 rfl ?_
  refine m_callIN (pc' := 62) (A := []) (rest := [.ref (a + 15), .ref a]) (b := a + 15) (u' := (22, 1831)) cl_X6_init_39 dX6_init_59 rfl rfl (Nat.le_of_ble_eq_true rfl) ⟨by decide, by decide⟩ rfl rfl ?_
  refine c_iX4 (a := a + 15) (e13.trans rfl) ((z_at (m := 15) v13 (by decide)).trans rfl) (fun s14 d14 e14' w14' => ?_)
  have e14 : s14.1 = a + 23 := e14'.trans (Nat.add_assoc a 15 8)
  have w14 : Vw s14 d14 = ov (Vw σ d) a (15 + 8) (bo (bX6_13 a) 15 (bX4_3 (a + 15))) := by rw [w14', v13]; exact ov_ov (by decide)
  have v14 : Vw s14 d14 = ov (Vw σ d) a 23 (bX6_14 a) := w14
  show mM G mX6_init 62 [some (.ref a), none] [.ref (a + 15), .ref a] s14 d14 (22, 1831) Q
  refine z_rf (pc' := 65) (q := a + 15) 0 fa_X6_init_40 rfl rfl rfl dX6_init_62 rfl rfl e14 v14 (by decide) rfl (fun s15 e15 w15 => ?_)
  have v15 : Vw s15 d14 = ov (Vw σ d) a 23 (bX6_15 a) := w15
  show mM G mX6_init 65 [some (.ref a), none] [] s15 d14 (22, 1831) Q
  refine m_aload_n (pc' := 66) dX6_init_65 rfl rfl ?_
  refine z_new (pc' := 69) (u' := (23, 1833)) fn_X6_init_37 dX6_init_66 ⟨by decide, by decide⟩ rfl rfl e15 v15 (fun s16 d16 e16 w16 => ?_)
  have v16 : Vw s16 d16 = ov (Vw σ d) a 24 (bX6_16 a) := w16
  show mM G mX6_init 69 [some (.ref a), none] [.ref (a + 23), .ref a] s16 d16 (23, 1833) Q
  refine m_dup (pc' := 70) dX6_init_69 rfl ?_
  refine m_callIN (pc' := 73) (A := []) (rest := [.ref (a + 23), .ref a]) (b := a + 23) (u' := (30, 2443)) cl_X6_init_39 dX6_init_70 rfl rfl (Nat.le_of_ble_eq_true rfl) ⟨by decide, by decide⟩ rfl rfl ?_
  refine c_iX4 (a := a + 23) (e16.trans rfl) ((z_at (m := 23) v16 (by decide)).trans rfl) (fun s17 d17 e17' w17' => ?_)
  have e17 : s17.1 = a + 31 := e17'.trans (Nat.add_assoc a 23 8)
  have w17 : Vw s17 d17 = ov (Vw σ d) a (23 + 8) (bo (bX6_16 a) 23 (bX4_3 (a + 23))) := by rw [w17', v16]; exact ov_ov (by decide)
  have v17 : Vw s17 d17 = ov (Vw σ d) a 31 (bX6_17 a) := w17
  show mM G mX6_init 73 [some (.ref a), none] [.ref (a + 23), .ref a] s17 d17 (30, 2443) Q
  refine z_rf (pc' := 76) (q := a + 23) 0 fa_X6_init_44 rfl rfl rfl dX6_init_73 rfl rfl e17 v17 (by decide) rfl (fun s18 e18 w18 => ?_)
  have v18 : Vw s18 d17 = ov (Vw σ d) a 31 (bX6_18 a) := w18
  show mM G mX6_init 76 [some (.ref a), none] [] s18 d17 (30, 2443) Q
  refine m_iconst (pc' := 77) (v := 0) dX6_init_76 (by decide) rfl ?_
  refine m_istore_n (pc' := 78) dX6_init_77 (by decide) rfl rfl ?_
  refine m_iload_n (pc' := 79) dX6_init_78 rfl rfl ?_
  refine m_bipush (pc' := 81) (v := 10) dX6_init_79 (by decide) rfl ?_
  refine m_icmp_ge (tgt := 101) (pc' := 84) dX6_init_81 (by decide) rfl (fun h => absurd h (by decide)) (fun _ => ?_)
  refine m_aload_n (pc' := 85) dX6_init_84 rfl rfl ?_
  refine z_getR (pc' := 88) (q := a + 11) 0 fa_X6_init_30 dX6_init_85 rfl rfl e18 v18 (by decide) rfl rfl ?_
  refine m_iload_n (pc' := 89) dX6_init_88 rfl rfl ?_
  refine m_iconst (pc' := 90) (v := 0) dX6_init_89 (by decide) rfl ?_
  refine m_ldc (pc' := 92) dX6_init_90 kc_X6_init_47 rfl ?_
  refine m_callV (pc' := 95) (A := [.int 0, .int 0, .int (-10000009)]) (rest := []) (b := a + 11) (u' := (30, 2443)) cl_X6_init_48 dX6_init_92 rfl rfl (Nat.le_of_ble_eq_true rfl) ⟨by decide, by decide⟩ (z_lt (m := 11) e18 (by decide)) (z_kd (m := 11) v18 (by decide) rfl) rfl rfl rfl ?_
  refine z_put (W := 1) (L := 10) (r := 0) (c := 0) (k := 0) 11 (by decide) (by decide) (by decide) e18 v18 (by decide) rfl rfl rfl rfl rfl (fun d19 w19 => ?_)
  have v19 : Vw s18 d19 = ov (Vw σ d) a 31 (bX6_19 a) := w19
  show mM G mX6_init 95 [some (.ref a), some (.int 0)] [] s18 d19 (30, 2443) Q
  refine m_iinc (pc' := 98) dX6_init_95 rfl (by decide) (v := 1) (by decide) rfl rfl ?_
  refine m_goto (tgt := 78) dX6_init_98 (by decide) ?_
  refine m_iload_n (pc' := 79) dX6_init_78 rfl rfl ?_
  refine m_bipush (pc' := 81) (v := 10) dX6_init_79 (by decide) rfl ?_
  refine m_icmp_ge (tgt := 101) (pc' := 84) dX6_init_81 (by decide) rfl (fun h => absurd h (by decide)) (fun _ => ?_)
  refine m_aload_n (pc' := 85) dX6_init_84 rfl rfl ?_
  refine z_getR (pc' := 88) (q := a + 11) 0 fa_X6_init_30 dX6_init_85 rfl rfl e18 v19 (by decide) rfl rfl ?_
  refine m_iload_n (pc' := 89) dX6_init_88 rfl rfl ?_
  refine m_iconst (pc' := 90) (v := 0) dX6_init_89 (by decide) rfl ?_
  refine m_ldc (pc' := 92) dX6_init_90 kc_X6_init_47 rfl ?_
  refine m_callV (pc' := 95) (A := [.int 1, .int 0, .int (-10000009)]) (rest := []) (b := a + 11) (u' := (30, 2443)) cl_X6_init_48 dX6_init_92 rfl rfl (Nat.le_of_ble_eq_true rfl) ⟨by decide, by decide⟩ (z_lt (m := 11) e18 (by decide)) (z_kd (m := 11) v19 (by decide) rfl) rfl rfl rfl ?_
  refine z_put (W := 1) (L := 10) (r := 1) (c := 0) (k := 1) 11 (by decide) (by decide) (by decide) e18 v19 (by decide) rfl rfl rfl rfl rfl (fun d20 w20 => ?_)
  have v20 : Vw s18 d20 = ov (Vw σ d) a 31 (bX6_20 a) := w20
  show mM G mX6_init 95 [some (.ref a), some (.int 1)] [] s18 d20 (30, 2443) Q
  refine m_iinc (pc' := 98) dX6_init_95 rfl (by decide) (v := 2) (by decide) rfl rfl ?_
  refine m_goto (tgt := 78) dX6_init_98 (by decide) ?_
  refine m_iload_n (pc' := 79) dX6_init_78 rfl rfl ?_
  refine m_bipush (pc' := 81) (v := 10) dX6_init_79 (by decide) rfl ?_
  refine m_icmp_ge (tgt := 101) (pc' := 84) dX6_init_81 (by decide) rfl (fun h => absurd h (by decide)) (fun _ => ?_)
  refine m_aload_n (pc' := 85) dX6_init_84 rfl rfl ?_
  refine z_getR (pc' := 88) (q := a + 11) 0 fa_X6_init_30 dX6_init_85 rfl rfl e18 v20 (by decide) rfl rfl ?_
  refine m_iload_n (pc' := 89) dX6_init_88 rfl rfl ?_
  refine m_iconst (pc' := 90) (v := 0) dX6_init_89 (by decide) rfl ?_
  refine m_ldc (pc' := 92) dX6_init_90 kc_X6_init_47 rfl ?_
  refine m_callV (pc' := 95) (A := [.int 2, .int 0, .int (-10000009)]) (rest := []) (b := a + 11) (u' := (30, 2443)) cl_X6_init_48 dX6_init_92 rfl rfl (Nat.le_of_ble_eq_true rfl) ⟨by decide, by decide⟩ (z_lt (m := 11) e18 (by decide)) (z_kd (m := 11) v20 (by decide) rfl) rfl rfl rfl ?_
  refine z_put (W := 1) (L := 10) (r := 2) (c := 0) (k := 2) 11 (by decide) (by decide) (by decide) e18 v20 (by decide) rfl rfl rfl rfl rfl (fun d21 w21 => ?_)
  have v21 : Vw s18 d21 = ov (Vw σ d) a 31 (bX6_21 a) := w21
  show mM G mX6_init 95 [some (.ref a), some (.int 2)] [] s18 d21 (30, 2443) Q
  refine m_iinc (pc' := 98) dX6_init_95 rfl (by decide) (v := 3) (by decide) rfl rfl ?_
  refine m_goto (tgt := 78) dX6_init_98 (by decide) ?_
  refine m_iload_n (pc' := 79) dX6_init_78 rfl rfl ?_
  refine m_bipush (pc' := 81) (v := 10) dX6_init_79 (by decide) rfl ?_
  refine m_icmp_ge (tgt := 101) (pc' := 84) dX6_init_81 (by decide) rfl (fun h => absurd h (by decide)) (fun _ => ?_)
  refine m_aload_n (pc' := 85) dX6_init_84 rfl rfl ?_
  refine z_getR (pc' := 88) (q := a + 11) 0 fa_X6_init_30 dX6_init_85 rfl rfl e18 v21 (by decide) rfl rfl ?_
  refine m_iload_n (pc' := 89) dX6_init_88 rfl rfl ?_
  refine m_iconst (pc' := 90) (v := 0) dX6_init_89 (by decide) rfl ?_
  refine m_ldc (pc' := 92) dX6_init_90 kc_X6_init_47 rfl ?_
  refine m_callV (pc' := 95) (A := [.int 3, .int 0, .int (-10000009)]) (rest := []) (b := a + 11) (u' := (30, 2443)) cl_X6_init_48 dX6_init_92 rfl rfl (Nat.le_of_ble_eq_true rfl) ⟨by decide, by decide⟩ (z_lt (m := 11) e18 (by decide)) (z_kd (m := 11) v21 (by decide) rfl) rfl rfl rfl ?_
  refine z_put (W := 1) (L := 10) (r := 3) (c := 0) (k := 3) 11 (by decide) (by decide) (by decide) e18 v21 (by decide) rfl rfl rfl rfl rfl (fun d22 w22 => ?_)
  have v22 : Vw s18 d22 = ov (Vw σ d) a 31 (bX6_22 a) := w22
  show mM G mX6_init 95 [some (.ref a), some (.int 3)] [] s18 d22 (30, 2443) Q
  refine m_iinc (pc' := 98) dX6_init_95 rfl (by decide) (v := 4) (by decide) rfl rfl ?_
  refine m_goto (tgt := 78) dX6_init_98 (by decide) ?_
  refine m_iload_n (pc' := 79) dX6_init_78 rfl rfl ?_
  refine m_bipush (pc' := 81) (v := 10) dX6_init_79 (by decide) rfl ?_
  refine m_icmp_ge (tgt := 101) (pc' := 84) dX6_init_81 (by decide) rfl (fun h => absurd h (by decide)) (fun _ => ?_)
  refine m_aload_n (pc' := 85) dX6_init_84 rfl rfl ?_
  refine z_getR (pc' := 88) (q := a + 11) 0 fa_X6_init_30 dX6_init_85 rfl rfl e18 v22 (by decide) rfl rfl ?_
  refine m_iload_n (pc' := 89) dX6_init_88 rfl rfl ?_
  refine m_iconst (pc' := 90) (v := 0) dX6_init_89 (by decide) rfl ?_
  refine m_ldc (pc' := 92) dX6_init_90 kc_X6_init_47 rfl ?_
  refine m_callV (pc' := 95) (A := [.int 4, .int 0, .int (-10000009)]) (rest := []) (b := a + 11) (u' := (30, 2443)) cl_X6_init_48 dX6_init_92 rfl rfl (Nat.le_of_ble_eq_true rfl) ⟨by decide, by decide⟩ (z_lt (m := 11) e18 (by decide)) (z_kd (m := 11) v22 (by decide) rfl) rfl rfl rfl ?_
  refine z_put (W := 1) (L := 10) (r := 4) (c := 0) (k := 4) 11 (by decide) (by decide) (by decide) e18 v22 (by decide) rfl rfl rfl rfl rfl (fun d23 w23 => ?_)
  have v23 : Vw s18 d23 = ov (Vw σ d) a 31 (bX6_23 a) := w23
  show mM G mX6_init 95 [some (.ref a), some (.int 4)] [] s18 d23 (30, 2443) Q
  refine m_iinc (pc' := 98) dX6_init_95 rfl (by decide) (v := 5) (by decide) rfl rfl ?_
  refine m_goto (tgt := 78) dX6_init_98 (by decide) ?_
  refine m_iload_n (pc' := 79) dX6_init_78 rfl rfl ?_
  refine m_bipush (pc' := 81) (v := 10) dX6_init_79 (by decide) rfl ?_
  refine m_icmp_ge (tgt := 101) (pc' := 84) dX6_init_81 (by decide) rfl (fun h => absurd h (by decide)) (fun _ => ?_)
  refine m_aload_n (pc' := 85) dX6_init_84 rfl rfl ?_
  refine z_getR (pc' := 88) (q := a + 11) 0 fa_X6_init_30 dX6_init_85 rfl rfl e18 v23 (by decide) rfl rfl ?_
  refine m_iload_n (pc' := 89) dX6_init_88 rfl rfl ?_
  refine m_iconst (pc' := 90) (v := 0) dX6_init_89 (by decide) rfl ?_
  refine m_ldc (pc' := 92) dX6_init_90 kc_X6_init_47 rfl ?_
  refine m_callV (pc' := 95) (A := [.int 5, .int 0, .int (-10000009)]) (rest := []) (b := a + 11) (u' := (30, 2443)) cl_X6_init_48 dX6_init_92 rfl rfl (Nat.le_of_ble_eq_true rfl) ⟨by decide, by decide⟩ (z_lt (m := 11) e18 (by decide)) (z_kd (m := 11) v23 (by decide) rfl) rfl rfl rfl ?_
  refine z_put (W := 1) (L := 10) (r := 5) (c := 0) (k := 5) 11 (by decide) (by decide) (by decide) e18 v23 (by decide) rfl rfl rfl rfl rfl (fun d24 w24 => ?_)
  have v24 : Vw s18 d24 = ov (Vw σ d) a 31 (bX6_24 a) := w24
  show mM G mX6_init 95 [some (.ref a), some (.int 5)] [] s18 d24 (30, 2443) Q
  refine m_iinc (pc' := 98) dX6_init_95 rfl (by decide) (v := 6) (by decide) rfl rfl ?_
  refine m_goto (tgt := 78) dX6_init_98 (by decide) ?_
  refine m_iload_n (pc' := 79) dX6_init_78 rfl rfl ?_
  refine m_bipush (pc' := 81) (v := 10) dX6_init_79 (by decide) rfl ?_
  refine m_icmp_ge (tgt := 101) (pc' := 84) dX6_init_81 (by decide) rfl (fun h => absurd h (by decide)) (fun _ => ?_)
  refine m_aload_n (pc' := 85) dX6_init_84 rfl rfl ?_
  refine z_getR (pc' := 88) (q := a + 11) 0 fa_X6_init_30 dX6_init_85 rfl rfl e18 v24 (by decide) rfl rfl ?_
  refine m_iload_n (pc' := 89) dX6_init_88 rfl rfl ?_
  refine m_iconst (pc' := 90) (v := 0) dX6_init_89 (by decide) rfl ?_
  refine m_ldc (pc' := 92) dX6_init_90 kc_X6_init_47 rfl ?_
  refine m_callV (pc' := 95) (A := [.int 6, .int 0, .int (-10000009)]) (rest := []) (b := a + 11) (u' := (30, 2443)) cl_X6_init_48 dX6_init_92 rfl rfl (Nat.le_of_ble_eq_true rfl) ⟨by decide, by decide⟩ (z_lt (m := 11) e18 (by decide)) (z_kd (m := 11) v24 (by decide) rfl) rfl rfl rfl ?_
  refine z_put (W := 1) (L := 10) (r := 6) (c := 0) (k := 6) 11 (by decide) (by decide) (by decide) e18 v24 (by decide) rfl rfl rfl rfl rfl (fun d25 w25 => ?_)
  have v25 : Vw s18 d25 = ov (Vw σ d) a 31 (bX6_25 a) := w25
  show mM G mX6_init 95 [some (.ref a), some (.int 6)] [] s18 d25 (30, 2443) Q
  refine m_iinc (pc' := 98) dX6_init_95 rfl (by decide) (v := 7) (by decide) rfl rfl ?_
  refine m_goto (tgt := 78) dX6_init_98 (by decide) ?_
  refine m_iload_n (pc' := 79) dX6_init_78 rfl rfl ?_
  refine m_bipush (pc' := 81) (v := 10) dX6_init_79 (by decide) rfl ?_
  refine m_icmp_ge (tgt := 101) (pc' := 84) dX6_init_81 (by decide) rfl (fun h => absurd h (by decide)) (fun _ => ?_)
  refine m_aload_n (pc' := 85) dX6_init_84 rfl rfl ?_
  refine z_getR (pc' := 88) (q := a + 11) 0 fa_X6_init_30 dX6_init_85 rfl rfl e18 v25 (by decide) rfl rfl ?_
  refine m_iload_n (pc' := 89) dX6_init_88 rfl rfl ?_
  refine m_iconst (pc' := 90) (v := 0) dX6_init_89 (by decide) rfl ?_
  refine m_ldc (pc' := 92) dX6_init_90 kc_X6_init_47 rfl ?_
  refine m_callV (pc' := 95) (A := [.int 7, .int 0, .int (-10000009)]) (rest := []) (b := a + 11) (u' := (30, 2443)) cl_X6_init_48 dX6_init_92 rfl rfl (Nat.le_of_ble_eq_true rfl) ⟨by decide, by decide⟩ (z_lt (m := 11) e18 (by decide)) (z_kd (m := 11) v25 (by decide) rfl) rfl rfl rfl ?_
  refine z_put (W := 1) (L := 10) (r := 7) (c := 0) (k := 7) 11 (by decide) (by decide) (by decide) e18 v25 (by decide) rfl rfl rfl rfl rfl (fun d26 w26 => ?_)
  have v26 : Vw s18 d26 = ov (Vw σ d) a 31 (bX6_26 a) := w26
  show mM G mX6_init 95 [some (.ref a), some (.int 7)] [] s18 d26 (30, 2443) Q
  refine m_iinc (pc' := 98) dX6_init_95 rfl (by decide) (v := 8) (by decide) rfl rfl ?_
  refine m_goto (tgt := 78) dX6_init_98 (by decide) ?_
  refine m_iload_n (pc' := 79) dX6_init_78 rfl rfl ?_
  refine m_bipush (pc' := 81) (v := 10) dX6_init_79 (by decide) rfl ?_
  refine m_icmp_ge (tgt := 101) (pc' := 84) dX6_init_81 (by decide) rfl (fun h => absurd h (by decide)) (fun _ => ?_)
  refine m_aload_n (pc' := 85) dX6_init_84 rfl rfl ?_
  refine z_getR (pc' := 88) (q := a + 11) 0 fa_X6_init_30 dX6_init_85 rfl rfl e18 v26 (by decide) rfl rfl ?_
  refine m_iload_n (pc' := 89) dX6_init_88 rfl rfl ?_
  refine m_iconst (pc' := 90) (v := 0) dX6_init_89 (by decide) rfl ?_
  refine m_ldc (pc' := 92) dX6_init_90 kc_X6_init_47 rfl ?_
  refine m_callV (pc' := 95) (A := [.int 8, .int 0, .int (-10000009)]) (rest := []) (b := a + 11) (u' := (30, 2443)) cl_X6_init_48 dX6_init_92 rfl rfl (Nat.le_of_ble_eq_true rfl) ⟨by decide, by decide⟩ (z_lt (m := 11) e18 (by decide)) (z_kd (m := 11) v26 (by decide) rfl) rfl rfl rfl ?_
  refine z_put (W := 1) (L := 10) (r := 8) (c := 0) (k := 8) 11 (by decide) (by decide) (by decide) e18 v26 (by decide) rfl rfl rfl rfl rfl (fun d27 w27 => ?_)
  have v27 : Vw s18 d27 = ov (Vw σ d) a 31 (bX6_27 a) := w27
  show mM G mX6_init 95 [some (.ref a), some (.int 8)] [] s18 d27 (30, 2443) Q
  refine m_iinc (pc' := 98) dX6_init_95 rfl (by decide) (v := 9) (by decide) rfl rfl ?_
  refine m_goto (tgt := 78) dX6_init_98 (by decide) ?_
  refine m_iload_n (pc' := 79) dX6_init_78 rfl rfl ?_
  refine m_bipush (pc' := 81) (v := 10) dX6_init_79 (by decide) rfl ?_
  refine m_icmp_ge (tgt := 101) (pc' := 84) dX6_init_81 (by decide) rfl (fun h => absurd h (by decide)) (fun _ => ?_)
  refine m_aload_n (pc' := 85) dX6_init_84 rfl rfl ?_
  refine z_getR (pc' := 88) (q := a + 11) 0 fa_X6_init_30 dX6_init_85 rfl rfl e18 v27 (by decide) rfl rfl ?_
  refine m_iload_n (pc' := 89) dX6_init_88 rfl rfl ?_
  refine m_iconst (pc' := 90) (v := 0) dX6_init_89 (by decide) rfl ?_
  refine m_ldc (pc' := 92) dX6_init_90 kc_X6_init_47 rfl ?_
  refine m_callV (pc' := 95) (A := [.int 9, .int 0, .int (-10000009)]) (rest := []) (b := a + 11) (u' := (30, 2443)) cl_X6_init_48 dX6_init_92 rfl rfl (Nat.le_of_ble_eq_true rfl) ⟨by decide, by decide⟩ (z_lt (m := 11) e18 (by decide)) (z_kd (m := 11) v27 (by decide) rfl) rfl rfl rfl ?_
  refine z_put (W := 1) (L := 10) (r := 9) (c := 0) (k := 9) 11 (by decide) (by decide) (by decide) e18 v27 (by decide) rfl rfl rfl rfl rfl (fun d28 w28 => ?_)
  have v28 : Vw s18 d28 = ov (Vw σ d) a 31 (bX6_28 a) := w28
  show mM G mX6_init 95 [some (.ref a), some (.int 9)] [] s18 d28 (30, 2443) Q
  refine m_iinc (pc' := 98) dX6_init_95 rfl (by decide) (v := 10) (by decide) rfl rfl ?_
  refine m_goto (tgt := 78) dX6_init_98 (by decide) ?_
  refine m_iload_n (pc' := 79) dX6_init_78 rfl rfl ?_
  refine m_bipush (pc' := 81) (v := 10) dX6_init_79 (by decide) rfl ?_
  refine m_icmp_ge (tgt := 101) (pc' := 84) dX6_init_81 (by decide) rfl (fun _ => ?_) (fun h => absurd h (by decide))
  refine m_vret dX6_init_101 rfl ⟨by decide, by decide⟩ ?_
  exact hQ _ _ e18 v28
def bX1_0 (a : Nat) : Nat → VC := fun _ => fsh 1 0
def bX1_1 (a : Nat) : Nat → VC := bn (bX1_0 a) 1 (fsh 15 5)
def bX1_2 (a : Nat) : Nat → VC := bn (bX1_1 a) 0 (cv_rf ((bX1_1 a) 0) 0 (a + 1))
def bX1_3 (a : Nat) : Nat → VC := bn (bX1_2 a) 2 (fsh 6 0)
def bX1_4 (a : Nat) : Nat → VC := bo (bX1_3 a) 2 (bX6_28 (a + 2))
def bX1_5 (a : Nat) : Nat → VC := bn (bX1_4 a) 1 (cv_rf ((bX1_4 a) 1) 0 (a + 2))
def bX1_6 (a : Nat) : Nat → VC := bn (bX1_5 a) 33 (fsh 6 0)
def bX1_7 (a : Nat) : Nat → VC := bo (bX1_6 a) 33 (bX6_28 (a + 33))
def bX1_8 (a : Nat) : Nat → VC := bn (bX1_7 a) 1 (cv_rf ((bX1_7 a) 1) 1 (a + 33))
def bX1_9 (a : Nat) : Nat → VC := bn (bX1_8 a) 64 (fsh 6 0)
def bX1_10 (a : Nat) : Nat → VC := bo (bX1_9 a) 64 (bX6_28 (a + 64))
def bX1_11 (a : Nat) : Nat → VC := bn (bX1_10 a) 1 (cv_rf ((bX1_10 a) 1) 2 (a + 64))
def bX1_12 (a : Nat) : Nat → VC := bn (bX1_11 a) 95 (fsh 6 0)
def bX1_13 (a : Nat) : Nat → VC := bo (bX1_12 a) 95 (bX6_28 (a + 95))
def bX1_14 (a : Nat) : Nat → VC := bn (bX1_13 a) 1 (cv_rf ((bX1_13 a) 1) 3 (a + 95))
def bX1_15 (a : Nat) : Nat → VC := bn (bX1_14 a) 126 (fsh 6 0)
def bX1_16 (a : Nat) : Nat → VC := bo (bX1_15 a) 126 (bX6_28 (a + 126))
def bX1_17 (a : Nat) : Nat → VC := bn (bX1_16 a) 1 (cv_rf ((bX1_16 a) 1) 4 (a + 126))
set_option maxHeartbeats 4000000 in
set_option maxRecDepth 100000 in
theorem c_iX1 {a : Nat} (h1 : σ.1 = a + 1) (hf : Vw σ d a = fsh 1 0) (hQ : ∀ σ' d', σ'.1 = a + 157 → Vw σ' d' = ov (Vw σ d) a 157 (bX1_17 a) → Q none σ' d') : mC G mX1_init [.ref a] σ d Q := by
  have eV0 : Vw σ d = ov (Vw σ d) a 1 (bX1_0 a) := ov_self hf
  refine mC_of (by decide +kernel) ⟨_, rfl⟩ (Nat.le_of_ble_eq_true rfl) ?_
  show mM G mX1_init 0 [some (.ref a), none] [] σ d (0, 0) Q
  refine m_aload_n (pc' := 1) dX1_init_0 rfl rfl ?_
  refine m_obj (pc' := 4) ob_X1_init_3 ⟨by decide, by decide⟩ dX1_init_1 rfl ?_
  refine m_aload_n (pc' := 5) dX1_init_4 rfl rfl ?_
  refine m_iconst (pc' := 6) (v := 5) dX1_init_5 (by decide) rfl ?_
  refine z_newaQ (pc' := 9) (L := 5) (u' := (1, 5)) ac_X1_init_9 dX1_init_6 (by decide) (by decide) (by decide) ⟨by decide, by decide⟩ rfl rfl h1 eV0 (fun s1 d1 e1 w1 => ?_)
  have v1 : Vw s1 d1 = ov (Vw σ d) a 2 (bX1_1 a) := w1
  show mM G mX1_init 9 [some (.ref a), none] [.ref (a + 1), .ref a] s1 d1 (1, 5) Q
  refine z_rf (pc' := 12) (q := a + 1) 0 fa_X1_init_11 rfl rfl rfl dX1_init_9 rfl rfl e1 v1 (by decide) rfl (fun s2 e2 w2 => ?_)
  have v2 : Vw s2 d1 = ov (Vw σ d) a 2 (bX1_2 a) := w2
  show mM G mX1_init 12 [some (.ref a), none] [] s2 d1 (1, 5) Q
  refine m_iconst (pc' := 13) (v := 0) dX1_init_12 (by decide) rfl ?_
  refine m_istore_n (pc' := 14) dX1_init_13 (by decide) rfl rfl ?_
  refine m_iload_n (pc' := 15) dX1_init_14 rfl rfl ?_
  refine m_aload_n (pc' := 16) dX1_init_15 rfl rfl ?_
  refine z_getR (pc' := 19) (q := a + 1) 0 fa_X1_init_11 dX1_init_16 rfl rfl e2 v2 (by decide) rfl rfl ?_
  refine z_alen 1 (pc' := 20) (v := 5) (L := 5) dX1_init_19 (by decide) rfl e2 v2 (by decide) rfl rfl ?_
  refine m_icmp_ge (tgt := 42) (pc' := 23) dX1_init_20 (by decide) rfl (fun h => absurd h (by decide)) (fun _ => ?_)
  refine m_aload_n (pc' := 24) dX1_init_23 rfl rfl ?_
  refine z_getR (pc' := 27) (q := a + 1) 0 fa_X1_init_11 dX1_init_24 rfl rfl e2 v2 (by decide) rfl rfl ?_
  refine m_iload_n (pc' := 28) dX1_init_27 rfl rfl ?_
  refine z_new (pc' := 31) (u' := (2, 12)) fn_X1_init_9 dX1_init_28 ⟨by decide, by decide⟩ rfl rfl e2 v2 (fun s3 d3 e3 w3 => ?_)
  have v3 : Vw s3 d3 = ov (Vw σ d) a 3 (bX1_3 a) := w3
  show mM G mX1_init 31 [some (.ref a), some (.int 0)] [.ref (a + 2), .int 0, .ref (a + 1)] s3 d3 (2, 12) Q
  refine m_dup (pc' := 32) dX1_init_31 rfl ?_
  refine m_callI (pc' := 35) (A := []) (rest := [.ref (a + 2), .int 0, .ref (a + 1)]) (b := a + 2) (u' := (32, 2455)) cl_X1_init_17 dX1_init_32 rfl rfl (Nat.le_of_ble_eq_true rfl) ⟨by decide, by decide⟩ rfl rfl ?_
  refine c_iX6 (a := a + 2) (e3.trans rfl) ((z_at (m := 2) v3 (by decide)).trans rfl) (fun s4 d4 e4' w4' => ?_)
  have e4 : s4.1 = a + 33 := e4'.trans (Nat.add_assoc a 2 31)
  have w4 : Vw s4 d4 = ov (Vw σ d) a (2 + 31) (bo (bX1_3 a) 2 (bX6_28 (a + 2))) := by rw [w4', v3]; exact ov_ov (by decide)
  have v4 : Vw s4 d4 = ov (Vw σ d) a 33 (bX1_4 a) := w4
  show mM G mX1_init 35 [some (.ref a), some (.int 0)] [.ref (a + 2), .int 0, .ref (a + 1)] s4 d4 (32, 2455) Q
  refine z_aast (pc' := 36) (j := 0) (L := 5) 1 2 dX1_init_35 (by decide) (vp_in_nI (n := 0) (N := 5) (by decide) (by decide)) rfl e4 v4 (by decide) rfl rfl (by decide) rfl (fun s5 e5 w5 => ?_)
  have v5 : Vw s5 d4 = ov (Vw σ d) a 33 (bX1_5 a) := w5
  show mM G mX1_init 36 [some (.ref a), some (.int 0)] [] s5 d4 (32, 2455) Q
  refine m_iinc (pc' := 39) dX1_init_36 rfl (by decide) (v := 1) (by decide) rfl rfl ?_
  refine m_goto (tgt := 14) dX1_init_39 (by decide) ?_
  refine m_iload_n (pc' := 15) dX1_init_14 rfl rfl ?_
  refine m_aload_n (pc' := 16) dX1_init_15 rfl rfl ?_
  refine z_getR (pc' := 19) (q := a + 1) 0 fa_X1_init_11 dX1_init_16 rfl rfl e5 v5 (by decide) rfl rfl ?_
  refine z_alen 1 (pc' := 20) (v := 5) (L := 5) dX1_init_19 (by decide) rfl e5 v5 (by decide) rfl rfl ?_
  refine m_icmp_ge (tgt := 42) (pc' := 23) dX1_init_20 (by decide) rfl (fun h => absurd h (by decide)) (fun _ => ?_)
  refine m_aload_n (pc' := 24) dX1_init_23 rfl rfl ?_
  refine z_getR (pc' := 27) (q := a + 1) 0 fa_X1_init_11 dX1_init_24 rfl rfl e5 v5 (by decide) rfl rfl ?_
  refine m_iload_n (pc' := 28) dX1_init_27 rfl rfl ?_
  refine z_new (pc' := 31) (u' := (33, 2462)) fn_X1_init_9 dX1_init_28 ⟨by decide, by decide⟩ rfl rfl e5 v5 (fun s6 d6 e6 w6 => ?_)
  have v6 : Vw s6 d6 = ov (Vw σ d) a 34 (bX1_6 a) := w6
  show mM G mX1_init 31 [some (.ref a), some (.int 1)] [.ref (a + 33), .int 1, .ref (a + 1)] s6 d6 (33, 2462) Q
  refine m_dup (pc' := 32) dX1_init_31 rfl ?_
  refine m_callI (pc' := 35) (A := []) (rest := [.ref (a + 33), .int 1, .ref (a + 1)]) (b := a + 33) (u' := (63, 4905)) cl_X1_init_17 dX1_init_32 rfl rfl (Nat.le_of_ble_eq_true rfl) ⟨by decide, by decide⟩ rfl rfl ?_
  refine c_iX6 (a := a + 33) (e6.trans rfl) ((z_at (m := 33) v6 (by decide)).trans rfl) (fun s7 d7 e7' w7' => ?_)
  have e7 : s7.1 = a + 64 := e7'.trans (Nat.add_assoc a 33 31)
  have w7 : Vw s7 d7 = ov (Vw σ d) a (33 + 31) (bo (bX1_6 a) 33 (bX6_28 (a + 33))) := by rw [w7', v6]; exact ov_ov (by decide)
  have v7 : Vw s7 d7 = ov (Vw σ d) a 64 (bX1_7 a) := w7
  show mM G mX1_init 35 [some (.ref a), some (.int 1)] [.ref (a + 33), .int 1, .ref (a + 1)] s7 d7 (63, 4905) Q
  refine z_aast (pc' := 36) (j := 1) (L := 5) 1 33 dX1_init_35 (by decide) (vp_in_nI (n := 1) (N := 5) (by decide) (by decide)) rfl e7 v7 (by decide) rfl rfl (by decide) rfl (fun s8 e8 w8 => ?_)
  have v8 : Vw s8 d7 = ov (Vw σ d) a 64 (bX1_8 a) := w8
  show mM G mX1_init 36 [some (.ref a), some (.int 1)] [] s8 d7 (63, 4905) Q
  refine m_iinc (pc' := 39) dX1_init_36 rfl (by decide) (v := 2) (by decide) rfl rfl ?_
  refine m_goto (tgt := 14) dX1_init_39 (by decide) ?_
  refine m_iload_n (pc' := 15) dX1_init_14 rfl rfl ?_
  refine m_aload_n (pc' := 16) dX1_init_15 rfl rfl ?_
  refine z_getR (pc' := 19) (q := a + 1) 0 fa_X1_init_11 dX1_init_16 rfl rfl e8 v8 (by decide) rfl rfl ?_
  refine z_alen 1 (pc' := 20) (v := 5) (L := 5) dX1_init_19 (by decide) rfl e8 v8 (by decide) rfl rfl ?_
  refine m_icmp_ge (tgt := 42) (pc' := 23) dX1_init_20 (by decide) rfl (fun h => absurd h (by decide)) (fun _ => ?_)
  refine m_aload_n (pc' := 24) dX1_init_23 rfl rfl ?_
  refine z_getR (pc' := 27) (q := a + 1) 0 fa_X1_init_11 dX1_init_24 rfl rfl e8 v8 (by decide) rfl rfl ?_
  refine m_iload_n (pc' := 28) dX1_init_27 rfl rfl ?_
  refine z_new (pc' := 31) (u' := (64, 4912)) fn_X1_init_9 dX1_init_28 ⟨by decide, by decide⟩ rfl rfl e8 v8 (fun s9 d9 e9 w9 => ?_)
  have v9 : Vw s9 d9 = ov (Vw σ d) a 65 (bX1_9 a) := w9
  show mM G mX1_init 31 [some (.ref a), some (.int 2)] [.ref (a + 64), .int 2, .ref (a + 1)] s9 d9 (64, 4912) Q
  refine m_dup (pc' := 32) dX1_init_31 rfl ?_
  refine m_callI (pc' := 35) (A := []) (rest := [.ref (a + 64), .int 2, .ref (a + 1)]) (b := a + 64) (u' := (94, 7355)) cl_X1_init_17 dX1_init_32 rfl rfl (Nat.le_of_ble_eq_true rfl) ⟨by decide, by decide⟩ rfl rfl ?_
  refine c_iX6 (a := a + 64) (e9.trans rfl) ((z_at (m := 64) v9 (by decide)).trans rfl) (fun s10 d10 e10' w10' => ?_)
  have e10 : s10.1 = a + 95 := e10'.trans (Nat.add_assoc a 64 31)
  have w10 : Vw s10 d10 = ov (Vw σ d) a (64 + 31) (bo (bX1_9 a) 64 (bX6_28 (a + 64))) := by rw [w10', v9]; exact ov_ov (by decide)
  have v10 : Vw s10 d10 = ov (Vw σ d) a 95 (bX1_10 a) := w10
  show mM G mX1_init 35 [some (.ref a), some (.int 2)] [.ref (a + 64), .int 2, .ref (a + 1)] s10 d10 (94, 7355) Q
  refine z_aast (pc' := 36) (j := 2) (L := 5) 1 64 dX1_init_35 (by decide) (vp_in_nI (n := 2) (N := 5) (by decide) (by decide)) rfl e10 v10 (by decide) rfl rfl (by decide) rfl (fun s11 e11 w11 => ?_)
  have v11 : Vw s11 d10 = ov (Vw σ d) a 95 (bX1_11 a) := w11
  show mM G mX1_init 36 [some (.ref a), some (.int 2)] [] s11 d10 (94, 7355) Q
  refine m_iinc (pc' := 39) dX1_init_36 rfl (by decide) (v := 3) (by decide) rfl rfl ?_
  refine m_goto (tgt := 14) dX1_init_39 (by decide) ?_
  refine m_iload_n (pc' := 15) dX1_init_14 rfl rfl ?_
  refine m_aload_n (pc' := 16) dX1_init_15 rfl rfl ?_
  refine z_getR (pc' := 19) (q := a + 1) 0 fa_X1_init_11 dX1_init_16 rfl rfl e11 v11 (by decide) rfl rfl ?_
  refine z_alen 1 (pc' := 20) (v := 5) (L := 5) dX1_init_19 (by decide) rfl e11 v11 (by decide) rfl rfl ?_
  refine m_icmp_ge (tgt := 42) (pc' := 23) dX1_init_20 (by decide) rfl (fun h => absurd h (by decide)) (fun _ => ?_)
  refine m_aload_n (pc' := 24) dX1_init_23 rfl rfl ?_
  refine z_getR (pc' := 27) (q := a + 1) 0 fa_X1_init_11 dX1_init_24 rfl rfl e11 v11 (by decide) rfl rfl ?_
  refine m_iload_n (pc' := 28) dX1_init_27 rfl rfl ?_
  refine z_new (pc' := 31) (u' := (95, 7362)) fn_X1_init_9 dX1_init_28 ⟨by decide, by decide⟩ rfl rfl e11 v11 (fun s12 d12 e12 w12 => ?_)
  have v12 : Vw s12 d12 = ov (Vw σ d) a 96 (bX1_12 a) := w12
  show mM G mX1_init 31 [some (.ref a), some (.int 3)] [.ref (a + 95), .int 3, .ref (a + 1)] s12 d12 (95, 7362) Q
  refine m_dup (pc' := 32) dX1_init_31 rfl ?_
  refine m_callI (pc' := 35) (A := []) (rest := [.ref (a + 95), .int 3, .ref (a + 1)]) (b := a + 95) (u' := (125, 9805)) cl_X1_init_17 dX1_init_32 rfl rfl (Nat.le_of_ble_eq_true rfl) ⟨by decide, by decide⟩ rfl rfl ?_
  refine c_iX6 (a := a + 95) (e12.trans rfl) ((z_at (m := 95) v12 (by decide)).trans rfl) (fun s13 d13 e13' w13' => ?_)
  have e13 : s13.1 = a + 126 := e13'.trans (Nat.add_assoc a 95 31)
  have w13 : Vw s13 d13 = ov (Vw σ d) a (95 + 31) (bo (bX1_12 a) 95 (bX6_28 (a + 95))) := by rw [w13', v12]; exact ov_ov (by decide)
  have v13 : Vw s13 d13 = ov (Vw σ d) a 126 (bX1_13 a) := w13
  show mM G mX1_init 35 [some (.ref a), some (.int 3)] [.ref (a + 95), .int 3, .ref (a + 1)] s13 d13 (125, 9805) Q
  refine z_aast (pc' := 36) (j := 3) (L := 5) 1 95 dX1_init_35 (by decide) (vp_in_nI (n := 3) (N := 5) (by decide) (by decide)) rfl e13 v13 (by decide) rfl rfl (by decide) rfl (fun s14 e14 w14 => ?_)
  have v14 : Vw s14 d13 = ov (Vw σ d) a 126 (bX1_14 a) := w14
  show mM G mX1_init 36 [some (.ref a), some (.int 3)] [] s14 d13 (125, 9805) Q
  refine m_iinc (pc' := 39) dX1_init_36 rfl (by decide) (v := 4) (by decide) rfl rfl ?_
  refine m_goto (tgt := 14) dX1_init_39 (by decide) ?_
  refine m_iload_n (pc' := 15) dX1_init_14 rfl rfl ?_
  refine m_aload_n (pc' := 16) dX1_init_15 rfl rfl ?_
  refine z_getR (pc' := 19) (q := a + 1) 0 fa_X1_init_11 dX1_init_16 rfl rfl e14 v14 (by decide) rfl rfl ?_
  refine z_alen 1 (pc' := 20) (v := 5) (L := 5) dX1_init_19 (by decide) rfl e14 v14 (by decide) rfl rfl ?_
  refine m_icmp_ge (tgt := 42) (pc' := 23) dX1_init_20 (by decide) rfl (fun h => absurd h (by decide)) (fun _ => ?_)
  refine m_aload_n (pc' := 24) dX1_init_23 rfl rfl ?_
  refine z_getR (pc' := 27) (q := a + 1) 0 fa_X1_init_11 dX1_init_24 rfl rfl e14 v14 (by decide) rfl rfl ?_
  refine m_iload_n (pc' := 28) dX1_init_27 rfl rfl ?_
  refine z_new (pc' := 31) (u' := (126, 9812)) fn_X1_init_9 dX1_init_28 ⟨by decide, by decide⟩ rfl rfl e14 v14 (fun s15 d15 e15 w15 => ?_)
  have v15 : Vw s15 d15 = ov (Vw σ d) a 127 (bX1_15 a) := w15
  show mM G mX1_init 31 [some (.ref a), some (.int 4)] [.ref (a + 126), .int 4, .ref (a + 1)] s15 d15 (126, 9812) Q
  refine m_dup (pc' := 32) dX1_init_31 rfl ?_
  refine m_callI (pc' := 35) (A := []) (rest := [.ref (a + 126), .int 4, .ref (a + 1)]) (b := a + 126) (u' := (156, 12255)) cl_X1_init_17 dX1_init_32 rfl rfl (Nat.le_of_ble_eq_true rfl) ⟨by decide, by decide⟩ rfl rfl ?_
  refine c_iX6 (a := a + 126) (e15.trans rfl) ((z_at (m := 126) v15 (by decide)).trans rfl) (fun s16 d16 e16' w16' => ?_)
  have e16 : s16.1 = a + 157 := e16'.trans (Nat.add_assoc a 126 31)
  have w16 : Vw s16 d16 = ov (Vw σ d) a (126 + 31) (bo (bX1_15 a) 126 (bX6_28 (a + 126))) := by rw [w16', v15]; exact ov_ov (by decide)
  have v16 : Vw s16 d16 = ov (Vw σ d) a 157 (bX1_16 a) := w16
  show mM G mX1_init 35 [some (.ref a), some (.int 4)] [.ref (a + 126), .int 4, .ref (a + 1)] s16 d16 (156, 12255) Q
  refine z_aast (pc' := 36) (j := 4) (L := 5) 1 126 dX1_init_35 (by decide) (vp_in_nI (n := 4) (N := 5) (by decide) (by decide)) rfl e16 v16 (by decide) rfl rfl (by decide) rfl (fun s17 e17 w17 => ?_)
  have v17 : Vw s17 d16 = ov (Vw σ d) a 157 (bX1_17 a) := w17
  show mM G mX1_init 36 [some (.ref a), some (.int 4)] [] s17 d16 (156, 12255) Q
  refine m_iinc (pc' := 39) dX1_init_36 rfl (by decide) (v := 5) (by decide) rfl rfl ?_
  refine m_goto (tgt := 14) dX1_init_39 (by decide) ?_
  refine m_iload_n (pc' := 15) dX1_init_14 rfl rfl ?_
  refine m_aload_n (pc' := 16) dX1_init_15 rfl rfl ?_
  refine z_getR (pc' := 19) (q := a + 1) 0 fa_X1_init_11 dX1_init_16 rfl rfl e17 v17 (by decide) rfl rfl ?_
  refine z_alen 1 (pc' := 20) (v := 5) (L := 5) dX1_init_19 (by decide) rfl e17 v17 (by decide) rfl rfl ?_
  refine m_icmp_ge (tgt := 42) (pc' := 23) dX1_init_20 (by decide) rfl (fun _ => ?_) (fun h => absurd h (by decide))
  refine m_vret dX1_init_42 rfl ⟨by decide, by decide⟩ ?_
  exact hQ _ _ e17 v17
def bX8_0 (a : Nat) : Nat → VC := fun _ => fsh 8 0
def bX8_1 (a : Nat) : Nat → VC := bn (bX8_0 a) 1 (fsh 12 140)
def bX8_2 (a : Nat) : Nat → VC := bn (bX8_1 a) 0 (cv_rf ((bX8_1 a) 0) 0 (a + 1))
set_option maxHeartbeats 4000000 in
set_option maxRecDepth 100000 in
theorem c_iX8 {a : Nat} (h1 : σ.1 = a + 1) (hf : Vw σ d a = fsh 8 0) (hQ : ∀ σ' d', σ'.1 = a + 2 → Vw σ' d' = ov (Vw σ d) a 2 (bX8_2 a) → Q none σ' d') : mC G mX8_init [.ref a] σ d Q := by
  have eV0 : Vw σ d = ov (Vw σ d) a 1 (bX8_0 a) := ov_self hf
  refine mC_of (by decide +kernel) ⟨_, rfl⟩ (Nat.le_of_ble_eq_true rfl) ?_
  show mM G mX8_init 0 [some (.ref a)] [] σ d (0, 0) Q
  refine m_aload_n (pc' := 1) dX8_init_0 rfl rfl ?_
  refine m_obj (pc' := 4) ob_X8_init_3 ⟨by decide, by decide⟩ dX8_init_1 rfl ?_
  refine m_aload_n (pc' := 5) dX8_init_4 rfl rfl ?_
  refine m_sipush (pc' := 8) (v := 140) dX8_init_5 (by decide) rfl ?_
  refine z_newaC (pc' := 10) (L := 140) (u' := (1, 140)) ac_X8_init_char dX8_init_8 (by decide) (by decide) (by decide) ⟨by decide, by decide⟩ rfl rfl h1 eV0 (fun s1 d1 e1 w1 => ?_)
  have v1 : Vw s1 d1 = ov (Vw σ d) a 2 (bX8_1 a) := w1
  show mM G mX8_init 10 [some (.ref a)] [.ref (a + 1), .ref a] s1 d1 (1, 140) Q
  refine z_rf (pc' := 13) (q := a + 1) 0 fa_X8_init_9 rfl rfl rfl dX8_init_10 rfl rfl e1 v1 (by decide) rfl (fun s2 e2 w2 => ?_)
  have v2 : Vw s2 d1 = ov (Vw σ d) a 2 (bX8_2 a) := w2
  show mM G mX8_init 13 [some (.ref a)] [] s2 d1 (1, 140) Q
  refine m_vret dX8_init_13 rfl ⟨by decide, by decide⟩ ?_
  exact hQ _ _ e2 v2
def bX0_0 (a : Nat) : Nat → VC := fun _ => fsh 0 0
set_option maxHeartbeats 4000000 in
set_option maxRecDepth 100000 in
theorem c_iX0 {a : Nat} (h1 : σ.1 = a + 1) (hf : Vw σ d a = fsh 0 0) (hQ : ∀ σ' d', σ'.1 = a + 1 → Vw σ' d' = ov (Vw σ d) a 1 (bX0_0 a) → Q none σ' d') : mC G mX0_init [.ref a] σ d Q := by
  have eV0 : Vw σ d = ov (Vw σ d) a 1 (bX0_0 a) := ov_self hf
  refine mC_of (by decide +kernel) ⟨_, rfl⟩ (Nat.le_of_ble_eq_true rfl) ?_
  show mM G mX0_init 0 [some (.ref a)] [] σ d (0, 0) Q
  refine m_aload_n (pc' := 1) dX0_init_0 rfl rfl ?_
  refine m_obj (pc' := 4) ob_X0_init_3 ⟨by decide, by decide⟩ dX0_init_1 rfl ?_
  refine m_vret dX0_init_4 rfl ⟨by decide, by decide⟩ ?_
  exact hQ _ _ h1 eV0
def bX5_0 (a : Nat) : Nat → VC := fun _ => fsh 5 0
def bX5_1 (a : Nat) : Nat → VC := bn (bX5_0 a) 1 (fsh 7 0)
def bX5_2 (a : Nat) : Nat → VC := bo (bX5_1 a) 1 (bX7_16_1_3 (a + 1))
def bX5_3 (a : Nat) : Nat → VC := bn (bX5_2 a) 0 (cv_rf ((bX5_2 a) 0) 0 (a + 1))
def bX5_4 (a : Nat) : Nat → VC := bn (bX5_3 a) 3 (fsh 7 0)
def bX5_5 (a : Nat) : Nat → VC := bo (bX5_4 a) 3 (bX7_16_1_3 (a + 3))
def bX5_6 (a : Nat) : Nat → VC := bn (bX5_5 a) 0 (cv_rf ((bX5_5 a) 0) 1 (a + 3))
def bX5_7 (a : Nat) : Nat → VC := bn (bX5_6 a) 5 (fsh 7 0)
def bX5_8 (a : Nat) : Nat → VC := bo (bX5_7 a) 5 (bX7_16_2_3 (a + 5))
def bX5_9 (a : Nat) : Nat → VC := bn (bX5_8 a) 0 (cv_rf ((bX5_8 a) 0) 2 (a + 5))
set_option maxHeartbeats 4000000 in
set_option maxRecDepth 100000 in
theorem c_iX5 {a : Nat} (h1 : σ.1 = a + 1) (hf : Vw σ d a = fsh 5 0) (hQ : ∀ σ' d', σ'.1 = a + 7 → Vw σ' d' = ov (Vw σ d) a 7 (bX5_9 a) → Q none σ' d') : mC G mX5_init [.ref a] σ d Q := by
  have eV0 : Vw σ d = ov (Vw σ d) a 1 (bX5_0 a) := ov_self hf
  refine mC_of (by decide +kernel) ⟨_, rfl⟩ (Nat.le_of_ble_eq_true rfl) ?_
  show mM G mX5_init 0 [some (.ref a)] [] σ d (0, 0) Q
  refine m_aload_n (pc' := 1) dX5_init_0 rfl rfl ?_
  refine m_obj (pc' := 4) ob_X5_init_3 ⟨by decide, by decide⟩ dX5_init_1 rfl ?_
  refine m_aload_n (pc' := 5) dX5_init_4 rfl rfl ?_
  refine z_new (pc' := 8) (u' := (1, 2)) fn_X5_init_9 dX5_init_5 ⟨by decide, by decide⟩ rfl rfl h1 eV0 (fun s1 d1 e1 w1 => ?_)
  have v1 : Vw s1 d1 = ov (Vw σ d) a 2 (bX5_1 a) := w1
  show mM G mX5_init 8 [some (.ref a)] [.ref (a + 1), .ref a] s1 d1 (1, 2) Q
  refine m_dup (pc' := 9) dX5_init_8 rfl ?_
  refine m_bipush (pc' := 11) (v := 16) dX5_init_9 (by decide) rfl ?_
  refine m_iconst (pc' := 12) (v := 1) dX5_init_11 (by decide) rfl ?_
  refine m_callI (pc' := 15) (A := [.int 16, .int 1]) (rest := [.ref (a + 1), .ref a]) (b := a + 1) (u' := (2, 202)) cl_X5_init_11 dX5_init_12 rfl rfl (Nat.le_of_ble_eq_true rfl) ⟨by decide, by decide⟩ rfl rfl ?_
  refine c_iX7_16_1 (a := a + 1) (e1.trans rfl) ((z_at (m := 1) v1 (by decide)).trans rfl) (fun s2 d2 e2' w2' => ?_)
  have e2 : s2.1 = a + 3 := e2'.trans (Nat.add_assoc a 1 2)
  have w2 : Vw s2 d2 = ov (Vw σ d) a (1 + 2) (bo (bX5_1 a) 1 (bX7_16_1_3 (a + 1))) := by rw [w2', v1]; exact ov_ov (by decide)
  have v2 : Vw s2 d2 = ov (Vw σ d) a 3 (bX5_2 a) := w2
  show mM G mX5_init 15 [some (.ref a)] [.ref (a + 1), .ref a] s2 d2 (2, 202) Q
  refine z_rf (pc' := 18) (q := a + 1) 0 fa_X5_init_14 rfl rfl rfl dX5_init_15 rfl rfl e2 v2 (by decide) rfl (fun s3 e3 w3 => ?_)
  have v3 : Vw s3 d2 = ov (Vw σ d) a 3 (bX5_3 a) := w3
  show mM G mX5_init 18 [some (.ref a)] [] s3 d2 (2, 202) Q
  refine m_aload_n (pc' := 19) dX5_init_18 rfl rfl ?_
  refine z_new (pc' := 22) (u' := (3, 204)) fn_X5_init_9 dX5_init_19 ⟨by decide, by decide⟩ rfl rfl e3 v3 (fun s4 d4 e4 w4 => ?_)
  have v4 : Vw s4 d4 = ov (Vw σ d) a 4 (bX5_4 a) := w4
  show mM G mX5_init 22 [some (.ref a)] [.ref (a + 3), .ref a] s4 d4 (3, 204) Q
  refine m_dup (pc' := 23) dX5_init_22 rfl ?_
  refine m_bipush (pc' := 25) (v := 16) dX5_init_23 (by decide) rfl ?_
  refine m_iconst (pc' := 26) (v := 1) dX5_init_25 (by decide) rfl ?_
  refine m_callI (pc' := 29) (A := [.int 16, .int 1]) (rest := [.ref (a + 3), .ref a]) (b := a + 3) (u' := (4, 404)) cl_X5_init_11 dX5_init_26 rfl rfl (Nat.le_of_ble_eq_true rfl) ⟨by decide, by decide⟩ rfl rfl ?_
  refine c_iX7_16_1 (a := a + 3) (e4.trans rfl) ((z_at (m := 3) v4 (by decide)).trans rfl) (fun s5 d5 e5' w5' => ?_)
  have e5 : s5.1 = a + 5 := e5'.trans (Nat.add_assoc a 3 2)
  have w5 : Vw s5 d5 = ov (Vw σ d) a (3 + 2) (bo (bX5_4 a) 3 (bX7_16_1_3 (a + 3))) := by rw [w5', v4]; exact ov_ov (by decide)
  have v5 : Vw s5 d5 = ov (Vw σ d) a 5 (bX5_5 a) := w5
  show mM G mX5_init 29 [some (.ref a)] [.ref (a + 3), .ref a] s5 d5 (4, 404) Q
  refine z_rf (pc' := 32) (q := a + 3) 0 fa_X5_init_20 rfl rfl rfl dX5_init_29 rfl rfl e5 v5 (by decide) rfl (fun s6 e6 w6 => ?_)
  have v6 : Vw s6 d5 = ov (Vw σ d) a 5 (bX5_6 a) := w6
  show mM G mX5_init 32 [some (.ref a)] [] s6 d5 (4, 404) Q
  refine m_aload_n (pc' := 33) dX5_init_32 rfl rfl ?_
  refine z_new (pc' := 36) (u' := (5, 406)) fn_X5_init_9 dX5_init_33 ⟨by decide, by decide⟩ rfl rfl e6 v6 (fun s7 d7 e7 w7 => ?_)
  have v7 : Vw s7 d7 = ov (Vw σ d) a 6 (bX5_7 a) := w7
  show mM G mX5_init 36 [some (.ref a)] [.ref (a + 5), .ref a] s7 d7 (5, 406) Q
  refine m_dup (pc' := 37) dX5_init_36 rfl ?_
  refine m_bipush (pc' := 39) (v := 16) dX5_init_37 (by decide) rfl ?_
  refine m_iconst (pc' := 40) (v := 2) dX5_init_39 (by decide) rfl ?_
  refine m_callI (pc' := 43) (A := [.int 16, .int 2]) (rest := [.ref (a + 5), .ref a]) (b := a + 5) (u' := (6, 606)) cl_X5_init_11 dX5_init_40 rfl rfl (Nat.le_of_ble_eq_true rfl) ⟨by decide, by decide⟩ rfl rfl ?_
  refine c_iX7_16_2 (a := a + 5) (e7.trans rfl) ((z_at (m := 5) v7 (by decide)).trans rfl) (fun s8 d8 e8' w8' => ?_)
  have e8 : s8.1 = a + 7 := e8'.trans (Nat.add_assoc a 5 2)
  have w8 : Vw s8 d8 = ov (Vw σ d) a (5 + 2) (bo (bX5_7 a) 5 (bX7_16_2_3 (a + 5))) := by rw [w8', v7]; exact ov_ov (by decide)
  have v8 : Vw s8 d8 = ov (Vw σ d) a 7 (bX5_8 a) := w8
  show mM G mX5_init 43 [some (.ref a)] [.ref (a + 5), .ref a] s8 d8 (6, 606) Q
  refine z_rf (pc' := 46) (q := a + 5) 0 fa_X5_init_23 rfl rfl rfl dX5_init_43 rfl rfl e8 v8 (by decide) rfl (fun s9 e9 w9 => ?_)
  have v9 : Vw s9 d8 = ov (Vw σ d) a 7 (bX5_9 a) := w9
  show mM G mX5_init 46 [some (.ref a)] [] s9 d8 (6, 606) Q
  refine m_vret dX5_init_46 rfl ⟨by decide, by decide⟩ ?_
  exact hQ _ _ e9 v9
def bX9_0 (a : Nat) : Nat → VC := fun _ => fsh 9 0
def bX9_1 (a : Nat) : Nat → VC := bn (bX9_0 a) 1 (fsh 8 0)
def bX9_2 (a : Nat) : Nat → VC := bo (bX9_1 a) 1 (bX8_2 (a + 1))
def bX9_3 (a : Nat) : Nat → VC := bn (bX9_2 a) 0 (cv_rf ((bX9_2 a) 0) 0 (a + 1))
def bX9_4 (a : Nat) : Nat → VC := bn (bX9_3 a) 3 (fsh 3 0)
def bX9_5 (a : Nat) : Nat → VC := bo (bX9_4 a) 3 (bX3_11 (a + 3))
def bX9_6 (a : Nat) : Nat → VC := bn (bX9_5 a) 0 (cv_rf ((bX9_5 a) 0) 1 (a + 3))
set_option maxHeartbeats 4000000 in
set_option maxRecDepth 100000 in
theorem c_iX9 {a : Nat} (h1 : σ.1 = a + 1) (hf : Vw σ d a = fsh 9 0) (hQ : ∀ σ' d', σ'.1 = a + 10 → Vw σ' d' = ov (Vw σ d) a 10 (bX9_6 a) → Q none σ' d') : mC G mX9_init [.ref a] σ d Q := by
  have eV0 : Vw σ d = ov (Vw σ d) a 1 (bX9_0 a) := ov_self hf
  refine mC_of (by decide +kernel) ⟨_, rfl⟩ (Nat.le_of_ble_eq_true rfl) ?_
  show mM G mX9_init 0 [some (.ref a)] [] σ d (0, 0) Q
  refine m_aload_n (pc' := 1) dX9_init_0 rfl rfl ?_
  refine m_obj (pc' := 4) ob_X9_init_3 ⟨by decide, by decide⟩ dX9_init_1 rfl ?_
  refine m_aload_n (pc' := 5) dX9_init_4 rfl rfl ?_
  refine z_new (pc' := 8) (u' := (1, 2)) fn_X9_init_9 dX9_init_5 ⟨by decide, by decide⟩ rfl rfl h1 eV0 (fun s1 d1 e1 w1 => ?_)
  have v1 : Vw s1 d1 = ov (Vw σ d) a 2 (bX9_1 a) := w1
  show mM G mX9_init 8 [some (.ref a)] [.ref (a + 1), .ref a] s1 d1 (1, 2) Q
  refine m_dup (pc' := 9) dX9_init_8 rfl ?_
  refine m_callIN (pc' := 12) (A := []) (rest := [.ref (a + 1), .ref a]) (b := a + 1) (u' := (2, 142)) cl_X9_init_11 dX9_init_9 rfl rfl (Nat.le_of_ble_eq_true rfl) ⟨by decide, by decide⟩ rfl rfl ?_
  refine c_iX8 (a := a + 1) (e1.trans rfl) ((z_at (m := 1) v1 (by decide)).trans rfl) (fun s2 d2 e2' w2' => ?_)
  have e2 : s2.1 = a + 3 := e2'.trans (Nat.add_assoc a 1 2)
  have w2 : Vw s2 d2 = ov (Vw σ d) a (1 + 2) (bo (bX9_1 a) 1 (bX8_2 (a + 1))) := by rw [w2', v1]; exact ov_ov (by decide)
  have v2 : Vw s2 d2 = ov (Vw σ d) a 3 (bX9_2 a) := w2
  show mM G mX9_init 12 [some (.ref a)] [.ref (a + 1), .ref a] s2 d2 (2, 142) Q
  refine z_rf (pc' := 15) (q := a + 1) 0 fa_X9_init_12 rfl rfl rfl dX9_init_12 rfl rfl e2 v2 (by decide) rfl (fun s3 e3 w3 => ?_)
  have v3 : Vw s3 d2 = ov (Vw σ d) a 3 (bX9_3 a) := w3
  show mM G mX9_init 15 [some (.ref a)] [] s3 d2 (2, 142) Q
  refine m_aload_n (pc' := 16) dX9_init_15 rfl rfl ?_
  refine z_new (pc' := 19) (u' := (3, 146)) fn_X9_init_18 dX9_init_16 ⟨by decide, by decide⟩ rfl rfl e3 v3 (fun s4 d4 e4 w4 => ?_)
  have v4 : Vw s4 d4 = ov (Vw σ d) a 4 (bX9_4 a) := w4
  show mM G mX9_init 19 [some (.ref a)] [.ref (a + 3), .ref a] s4 d4 (3, 146) Q
  refine m_dup (pc' := 20) dX9_init_19 rfl ?_
  refine m_callI (pc' := 23) (A := []) (rest := [.ref (a + 3), .ref a]) (b := a + 3) (u' := (9, 752)) cl_X9_init_20 dX9_init_20 rfl rfl (Nat.le_of_ble_eq_true rfl) ⟨by decide, by decide⟩ rfl rfl ?_
  refine c_iX3 (a := a + 3) (e4.trans rfl) ((z_at (m := 3) v4 (by decide)).trans rfl) (fun s5 d5 e5' w5' => ?_)
  have e5 : s5.1 = a + 10 := e5'.trans (Nat.add_assoc a 3 7)
  have w5 : Vw s5 d5 = ov (Vw σ d) a (3 + 7) (bo (bX9_4 a) 3 (bX3_11 (a + 3))) := by rw [w5', v4]; exact ov_ov (by decide)
  have v5 : Vw s5 d5 = ov (Vw σ d) a 10 (bX9_5 a) := w5
  show mM G mX9_init 23 [some (.ref a)] [.ref (a + 3), .ref a] s5 d5 (9, 752) Q
  refine z_rf (pc' := 26) (q := a + 3) 0 fa_X9_init_21 rfl rfl rfl dX9_init_23 rfl rfl e5 v5 (by decide) rfl (fun s6 e6 w6 => ?_)
  have v6 : Vw s6 d5 = ov (Vw σ d) a 10 (bX9_6 a) := w6
  show mM G mX9_init 26 [some (.ref a)] [] s6 d5 (9, 752) Q
  refine m_vret dX9_init_26 rfl ⟨by decide, by decide⟩ ?_
  exact hQ _ _ e6 v6
def bX10_0 (a : Nat) : Nat → VC := fun _ => fsh 10 0
def bX10_1 (a : Nat) : Nat → VC := bn (bX10_0 a) 1 (fsh 6 0)
def bX10_2 (a : Nat) : Nat → VC := bo (bX10_1 a) 1 (bX6_28 (a + 1))
def bX10_3 (a : Nat) : Nat → VC := bn (bX10_2 a) 0 (cv_rf ((bX10_2 a) 0) 0 (a + 1))
def bX10_4 (a : Nat) : Nat → VC := bn (bX10_3 a) 32 (fsh 1 0)
def bX10_5 (a : Nat) : Nat → VC := bo (bX10_4 a) 32 (bX1_17 (a + 32))
def bX10_6 (a : Nat) : Nat → VC := bn (bX10_5 a) 0 (cv_rf ((bX10_5 a) 0) 1 (a + 32))
def bX10_7 (a : Nat) : Nat → VC := bn (bX10_6 a) 189 (fsh 0 0)
def bX10_8 (a : Nat) : Nat → VC := bo (bX10_7 a) 189 (bX0_0 (a + 189))
def bX10_9 (a : Nat) : Nat → VC := bn (bX10_8 a) 0 (cv_rf ((bX10_8 a) 0) 2 (a + 189))
def bX10_10 (a : Nat) : Nat → VC := bn (bX10_9 a) 190 (fsh 5 0)
def bX10_11 (a : Nat) : Nat → VC := bo (bX10_10 a) 190 (bX5_9 (a + 190))
def bX10_12 (a : Nat) : Nat → VC := bn (bX10_11 a) 0 (cv_rf ((bX10_11 a) 0) 3 (a + 190))
def bX10_13 (a : Nat) : Nat → VC := bn (bX10_12 a) 197 (fsh 3 0)
def bX10_14 (a : Nat) : Nat → VC := bo (bX10_13 a) 197 (bX3_11 (a + 197))
def bX10_15 (a : Nat) : Nat → VC := bn (bX10_14 a) 0 (cv_rf ((bX10_14 a) 0) 4 (a + 197))
def bX10_16 (a : Nat) : Nat → VC := bn (bX10_15 a) 204 (fsh 9 0)
def bX10_17 (a : Nat) : Nat → VC := bo (bX10_16 a) 204 (bX9_6 (a + 204))
def bX10_18 (a : Nat) : Nat → VC := bn (bX10_17 a) 0 (cv_rf ((bX10_17 a) 0) 5 (a + 204))
set_option maxHeartbeats 4000000 in
set_option maxRecDepth 100000 in
theorem c_iX10 {a : Nat} (h1 : σ.1 = a + 1) (hf : Vw σ d a = fsh 10 0) (hQ : ∀ σ' d', σ'.1 = a + 214 → Vw σ' d' = ov (Vw σ d) a 214 (bX10_18 a) → Q none σ' d') : mC G mX10_init [.ref a] σ d Q := by
  have eV0 : Vw σ d = ov (Vw σ d) a 1 (bX10_0 a) := ov_self hf
  refine mC_of (by decide +kernel) ⟨_, rfl⟩ (Nat.le_of_ble_eq_true rfl) ?_
  show mM G mX10_init 0 [some (.ref a)] [] σ d (0, 0) Q
  refine m_aload_n (pc' := 1) dX10_init_0 rfl rfl ?_
  refine m_obj (pc' := 4) ob_X10_init_1 ⟨by decide, by decide⟩ dX10_init_1 rfl ?_
  refine m_aload_n (pc' := 5) dX10_init_4 rfl rfl ?_
  refine z_new (pc' := 8) (u' := (1, 7)) fn_X10_init_7 dX10_init_5 ⟨by decide, by decide⟩ rfl rfl h1 eV0 (fun s1 d1 e1 w1 => ?_)
  have v1 : Vw s1 d1 = ov (Vw σ d) a 2 (bX10_1 a) := w1
  show mM G mX10_init 8 [some (.ref a)] [.ref (a + 1), .ref a] s1 d1 (1, 7) Q
  refine m_dup (pc' := 9) dX10_init_8 rfl ?_
  refine m_callI (pc' := 12) (A := []) (rest := [.ref (a + 1), .ref a]) (b := a + 1) (u' := (31, 2450)) cl_X10_init_9 dX10_init_9 rfl rfl (Nat.le_of_ble_eq_true rfl) ⟨by decide, by decide⟩ rfl rfl ?_
  refine c_iX6 (a := a + 1) (e1.trans rfl) ((z_at (m := 1) v1 (by decide)).trans rfl) (fun s2 d2 e2' w2' => ?_)
  have e2 : s2.1 = a + 32 := e2'.trans (Nat.add_assoc a 1 31)
  have w2 : Vw s2 d2 = ov (Vw σ d) a (1 + 31) (bo (bX10_1 a) 1 (bX6_28 (a + 1))) := by rw [w2', v1]; exact ov_ov (by decide)
  have v2 : Vw s2 d2 = ov (Vw σ d) a 32 (bX10_2 a) := w2
  show mM G mX10_init 12 [some (.ref a)] [.ref (a + 1), .ref a] s2 d2 (31, 2450) Q
  refine z_rf (pc' := 15) (q := a + 1) 0 fa_X10_init_10 rfl rfl rfl dX10_init_12 rfl rfl e2 v2 (by decide) rfl (fun s3 e3 w3 => ?_)
  have v3 : Vw s3 d2 = ov (Vw σ d) a 32 (bX10_3 a) := w3
  show mM G mX10_init 15 [some (.ref a)] [] s3 d2 (31, 2450) Q
  refine m_aload_n (pc' := 16) dX10_init_15 rfl rfl ?_
  refine z_new (pc' := 19) (u' := (32, 2453)) fn_X10_init_16 dX10_init_16 ⟨by decide, by decide⟩ rfl rfl e3 v3 (fun s4 d4 e4 w4 => ?_)
  have v4 : Vw s4 d4 = ov (Vw σ d) a 33 (bX10_4 a) := w4
  show mM G mX10_init 19 [some (.ref a)] [.ref (a + 32), .ref a] s4 d4 (32, 2453) Q
  refine m_dup (pc' := 20) dX10_init_19 rfl ?_
  refine m_callI (pc' := 23) (A := []) (rest := [.ref (a + 32), .ref a]) (b := a + 32) (u' := (188, 14708)) cl_X10_init_18 dX10_init_20 rfl rfl (Nat.le_of_ble_eq_true rfl) ⟨by decide, by decide⟩ rfl rfl ?_
  refine c_iX1 (a := a + 32) (e4.trans rfl) ((z_at (m := 32) v4 (by decide)).trans rfl) (fun s5 d5 e5' w5' => ?_)
  have e5 : s5.1 = a + 189 := e5'.trans (Nat.add_assoc a 32 157)
  have w5 : Vw s5 d5 = ov (Vw σ d) a (32 + 157) (bo (bX10_4 a) 32 (bX1_17 (a + 32))) := by rw [w5', v4]; exact ov_ov (by decide)
  have v5 : Vw s5 d5 = ov (Vw σ d) a 189 (bX10_5 a) := w5
  show mM G mX10_init 23 [some (.ref a)] [.ref (a + 32), .ref a] s5 d5 (188, 14708) Q
  refine z_rf (pc' := 26) (q := a + 32) 0 fa_X10_init_19 rfl rfl rfl dX10_init_23 rfl rfl e5 v5 (by decide) rfl (fun s6 e6 w6 => ?_)
  have v6 : Vw s6 d5 = ov (Vw σ d) a 189 (bX10_6 a) := w6
  show mM G mX10_init 26 [some (.ref a)] [] s6 d5 (188, 14708) Q
  refine m_aload_n (pc' := 27) dX10_init_26 rfl rfl ?_
  refine z_new (pc' := 30) (u' := (189, 14713)) fn_X10_init_23 dX10_init_27 ⟨by decide, by decide⟩ rfl rfl e6 v6 (fun s7 d7 e7 w7 => ?_)
  have v7 : Vw s7 d7 = ov (Vw σ d) a 190 (bX10_7 a) := w7
  show mM G mX10_init 30 [some (.ref a)] [.ref (a + 189), .ref a] s7 d7 (189, 14713) Q
  refine m_dup (pc' := 31) dX10_init_30 rfl ?_
  refine m_callIN (pc' := 34) (A := []) (rest := [.ref (a + 189), .ref a]) (b := a + 189) (u' := (189, 14713)) cl_X10_init_25 dX10_init_31 rfl rfl (Nat.le_of_ble_eq_true rfl) ⟨by decide, by decide⟩ rfl rfl ?_
  refine c_iX0 (a := a + 189) (e7.trans rfl) ((z_at (m := 189) v7 (by decide)).trans rfl) (fun s8 d8 e8' w8' => ?_)
  have e8 : s8.1 = a + 190 := e8'.trans (Nat.add_assoc a 189 1)
  have w8 : Vw s8 d8 = ov (Vw σ d) a (189 + 1) (bo (bX10_7 a) 189 (bX0_0 (a + 189))) := by rw [w8', v7]; exact ov_ov (by decide)
  have v8 : Vw s8 d8 = ov (Vw σ d) a 190 (bX10_8 a) := w8
  show mM G mX10_init 34 [some (.ref a)] [.ref (a + 189), .ref a] s8 d8 (189, 14713) Q
  refine z_rf (pc' := 37) (q := a + 189) 0 fa_X10_init_26 rfl rfl rfl dX10_init_34 rfl rfl e8 v8 (by decide) rfl (fun s9 e9 w9 => ?_)
  have v9 : Vw s9 d8 = ov (Vw σ d) a 190 (bX10_9 a) := w9
  show mM G mX10_init 37 [some (.ref a)] [] s9 d8 (189, 14713) Q
  refine m_aload_n (pc' := 38) dX10_init_37 rfl rfl ?_
  refine z_new (pc' := 41) (u' := (190, 14716)) fn_X10_init_30 dX10_init_38 ⟨by decide, by decide⟩ rfl rfl e9 v9 (fun s10 d10 e10 w10 => ?_)
  have v10 : Vw s10 d10 = ov (Vw σ d) a 191 (bX10_10 a) := w10
  show mM G mX10_init 41 [some (.ref a)] [.ref (a + 190), .ref a] s10 d10 (190, 14716) Q
  refine m_dup (pc' := 42) dX10_init_41 rfl ?_
  refine m_callIN (pc' := 45) (A := []) (rest := [.ref (a + 190), .ref a]) (b := a + 190) (u' := (196, 15322)) cl_X10_init_32 dX10_init_42 rfl rfl (Nat.le_of_ble_eq_true rfl) ⟨by decide, by decide⟩ rfl rfl ?_
  refine c_iX5 (a := a + 190) (e10.trans rfl) ((z_at (m := 190) v10 (by decide)).trans rfl) (fun s11 d11 e11' w11' => ?_)
  have e11 : s11.1 = a + 197 := e11'.trans (Nat.add_assoc a 190 7)
  have w11 : Vw s11 d11 = ov (Vw σ d) a (190 + 7) (bo (bX10_10 a) 190 (bX5_9 (a + 190))) := by rw [w11', v10]; exact ov_ov (by decide)
  have v11 : Vw s11 d11 = ov (Vw σ d) a 197 (bX10_11 a) := w11
  show mM G mX10_init 45 [some (.ref a)] [.ref (a + 190), .ref a] s11 d11 (196, 15322) Q
  refine z_rf (pc' := 48) (q := a + 190) 0 fa_X10_init_33 rfl rfl rfl dX10_init_45 rfl rfl e11 v11 (by decide) rfl (fun s12 e12 w12 => ?_)
  have v12 : Vw s12 d11 = ov (Vw σ d) a 197 (bX10_12 a) := w12
  show mM G mX10_init 48 [some (.ref a)] [] s12 d11 (196, 15322) Q
  refine m_aload_n (pc' := 49) dX10_init_48 rfl rfl ?_
  refine z_new (pc' := 52) (u' := (197, 15326)) fn_X10_init_37 dX10_init_49 ⟨by decide, by decide⟩ rfl rfl e12 v12 (fun s13 d13 e13 w13 => ?_)
  have v13 : Vw s13 d13 = ov (Vw σ d) a 198 (bX10_13 a) := w13
  show mM G mX10_init 52 [some (.ref a)] [.ref (a + 197), .ref a] s13 d13 (197, 15326) Q
  refine m_dup (pc' := 53) dX10_init_52 rfl ?_
  refine m_callI (pc' := 56) (A := []) (rest := [.ref (a + 197), .ref a]) (b := a + 197) (u' := (203, 15932)) cl_X10_init_39 dX10_init_53 rfl rfl (Nat.le_of_ble_eq_true rfl) ⟨by decide, by decide⟩ rfl rfl ?_
  refine c_iX3 (a := a + 197) (e13.trans rfl) ((z_at (m := 197) v13 (by decide)).trans rfl) (fun s14 d14 e14' w14' => ?_)
  have e14 : s14.1 = a + 204 := e14'.trans (Nat.add_assoc a 197 7)
  have w14 : Vw s14 d14 = ov (Vw σ d) a (197 + 7) (bo (bX10_13 a) 197 (bX3_11 (a + 197))) := by rw [w14', v13]; exact ov_ov (by decide)
  have v14 : Vw s14 d14 = ov (Vw σ d) a 204 (bX10_14 a) := w14
  show mM G mX10_init 56 [some (.ref a)] [.ref (a + 197), .ref a] s14 d14 (203, 15932) Q
  refine z_rf (pc' := 59) (q := a + 197) 0 fa_X10_init_40 rfl rfl rfl dX10_init_56 rfl rfl e14 v14 (by decide) rfl (fun s15 e15 w15 => ?_)
  have v15 : Vw s15 d14 = ov (Vw σ d) a 204 (bX10_15 a) := w15
  show mM G mX10_init 59 [some (.ref a)] [] s15 d14 (203, 15932) Q
  refine m_aload_n (pc' := 60) dX10_init_59 rfl rfl ?_
  refine z_new (pc' := 63) (u' := (204, 15936)) fn_X10_init_44 dX10_init_60 ⟨by decide, by decide⟩ rfl rfl e15 v15 (fun s16 d16 e16 w16 => ?_)
  have v16 : Vw s16 d16 = ov (Vw σ d) a 205 (bX10_16 a) := w16
  show mM G mX10_init 63 [some (.ref a)] [.ref (a + 204), .ref a] s16 d16 (204, 15936) Q
  refine m_dup (pc' := 64) dX10_init_63 rfl ?_
  refine m_callIN (pc' := 67) (A := []) (rest := [.ref (a + 204), .ref a]) (b := a + 204) (u' := (213, 16688)) cl_X10_init_46 dX10_init_64 rfl rfl (Nat.le_of_ble_eq_true rfl) ⟨by decide, by decide⟩ rfl rfl ?_
  refine c_iX9 (a := a + 204) (e16.trans rfl) ((z_at (m := 204) v16 (by decide)).trans rfl) (fun s17 d17 e17' w17' => ?_)
  have e17 : s17.1 = a + 214 := e17'.trans (Nat.add_assoc a 204 10)
  have w17 : Vw s17 d17 = ov (Vw σ d) a (204 + 10) (bo (bX10_16 a) 204 (bX9_6 (a + 204))) := by rw [w17', v16]; exact ov_ov (by decide)
  have v17 : Vw s17 d17 = ov (Vw σ d) a 214 (bX10_17 a) := w17
  show mM G mX10_init 67 [some (.ref a)] [.ref (a + 204), .ref a] s17 d17 (213, 16688) Q
  refine z_rf (pc' := 70) (q := a + 204) 0 fa_X10_init_47 rfl rfl rfl dX10_init_67 rfl rfl e17 v17 (by decide) rfl (fun s18 e18 w18 => ?_)
  have v18 : Vw s18 d17 = ov (Vw σ d) a 214 (bX10_18 a) := w18
  show mM G mX10_init 70 [some (.ref a)] [] s18 d17 (213, 16688) Q
  refine m_vret dX10_init_70 rfl ⟨by decide, by decide⟩ ?_
  exact hQ _ _ e18 v18
def bX11_0 (a : Nat) : Nat → VC := fun _ => fsh 11 0
def bX11_1 (a : Nat) : Nat → VC := bn (bX11_0 a) 1 (fsh 14 408)
def bX11_2 (a : Nat) : Nat → VC := bn (bX11_1 a) 0 (cv_rf ((bX11_1 a) 0) 1 (a + 1))
def bX11_3 (a : Nat) : Nat → VC := bn (bX11_2 a) 2 (fsh 14 408)
def bX11_4 (a : Nat) : Nat → VC := bn (bX11_3 a) 0 (cv_rf ((bX11_3 a) 0) 2 (a + 2))
def bX11_5 (a : Nat) : Nat → VC := bn (bX11_4 a) 3 (fsh 14 2040)
def bX11_6 (a : Nat) : Nat → VC := bn (bX11_5 a) 0 (cv_rf ((bX11_5 a) 0) 3 (a + 3))
def bX11_7 (a : Nat) : Nat → VC := bn (bX11_6 a) 4 (fsh 13 5)
def bX11_8 (a : Nat) : Nat → VC := bn (bX11_7 a) 0 (cv_rf ((bX11_7 a) 0) 4 (a + 4))
def bX11_9 (a : Nat) : Nat → VC := bn (bX11_8 a) 5 (fsh 14 140)
def bX11_10 (a : Nat) : Nat → VC := bn (bX11_9 a) 0 (cv_rf ((bX11_9 a) 0) 7 (a + 5))
def bX11_11 (a : Nat) : Nat → VC := bn (bX11_10 a) 6 (fsh 14 16)
def bX11_12 (a : Nat) : Nat → VC := bn (bX11_11 a) 0 (cv_rf ((bX11_11 a) 0) 14 (a + 6))
def bX11_13 (a : Nat) : Nat → VC := bn (bX11_12 a) 0 (cv_in ((bX11_12 a) 0) 0 0)
def bX11_14 (a : Nat) : Nat → VC := bn (bX11_13 a) 1 (cv_in ((bX11_13 a) 1) 40 2048)
def bX11_15 (a : Nat) : Nat → VC := bn (bX11_14 a) 1 (cv_in ((bX11_14 a) 1) 41 1000)
def bX11_16 (a : Nat) : Nat → VC := bn (bX11_15 a) 1 (cv_in ((bX11_15 a) 1) 78 (-1))
def bX11_17 (a : Nat) : Nat → VC := bn (bX11_16 a) 1 (cv_in ((bX11_16 a) 1) 79 (-1))
def bX11_18 (a : Nat) : Nat → VC := bn (bX11_17 a) 1 (cv_in ((bX11_17 a) 1) 80 (-1))
def bX11_19 (a : Nat) : Nat → VC := bn (bX11_18 a) 1 (cv_in ((bX11_18 a) 1) 81 (-1))
def bX11_20 (a : Nat) : Nat → VC := bn (bX11_19 a) 1 (cv_in ((bX11_19 a) 1) 82 (-1))
def bX11_21 (a : Nat) : Nat → VC := bn (bX11_20 a) 1 (cv_in ((bX11_20 a) 1) 83 (-1))
def bX11_22 (a : Nat) : Nat → VC := bn (bX11_21 a) 1 (cv_in ((bX11_21 a) 1) 84 (-1))
def bX11_23 (a : Nat) : Nat → VC := bn (bX11_22 a) 1 (cv_in ((bX11_22 a) 1) 85 (-1))
def bX11_24 (a : Nat) : Nat → VC := bn (bX11_23 a) 1 (cv_in ((bX11_23 a) 1) 86 (-1))
def bX11_25 (a : Nat) : Nat → VC := bn (bX11_24 a) 1 (cv_in ((bX11_24 a) 1) 87 (-1))
end INI2
