/-! THE CLASS'S OWN METHODS (3): values, the converter -/
section CLS3
variable {G : GP} {Q : Option Value → Sh → Dt → Prop} {d : Dt} {a : Nat} {s : SS}
set_option maxHeartbeats 4000000 in
set_option maxRecDepth 100000 in
theorem c_val8 {t : Nat} (hB : a ∈ suL) (hS : SR d a s) (hQ : Q (some (.int 0)) S1 d) : mC G mX3_valueAt [.ref a, .int 8, .int (nI t)] S1 d Q := by
  refine mC_of (by decide +kernel) ⟨_, rfl⟩ (Nat.le_of_ble_eq_true rfl) ?_
  show mM G mX3_valueAt 0 [some (.ref a), some (.int 8), some (.int (nI t)), none, none] [] S1 d (0, 0) Q
  refine m_iload_n (pc' := 1) dX3_valueAt_0 rfl rfl ?_
  refine m_bipush (pc' := 3) (v := 8) dX3_valueAt_1 (by decide) rfl ?_
  refine m_icmp_ne (tgt := 8) (pc' := 6) dX3_valueAt_3 (by decide) rfl (fun h3 => absurd h3 (by decide)) (fun h3 => ?_)
  refine m_iconst (pc' := 7) (v := 0) dX3_valueAt_6 (by decide) rfl ?_
  refine m_iret dX3_valueAt_7 rfl rfl ⟨by decide, by decide⟩ ?_
  exact hQ
set_option maxHeartbeats 4000000 in
set_option maxRecDepth 100000 in
theorem c_val9 {t : Nat} (hB : a ∈ suL) (hS : SR d a s) (hQ : Q (some (.int (s 40))) S1 d) : mC G mX3_valueAt [.ref a, .int 9, .int (nI t)] S1 d Q := by
  refine mC_of (by decide +kernel) ⟨_, rfl⟩ (Nat.le_of_ble_eq_true rfl) ?_
  show mM G mX3_valueAt 0 [some (.ref a), some (.int 9), some (.int (nI t)), none, none] [] S1 d (0, 0) Q
  refine m_iload_n (pc' := 1) dX3_valueAt_0 rfl rfl ?_
  refine m_bipush (pc' := 3) (v := 8) dX3_valueAt_1 (by decide) rfl ?_
  refine m_icmp_ne (tgt := 8) (pc' := 6) dX3_valueAt_3 (by decide) rfl (fun h3 => ?_) (fun h3 => absurd h3 (by decide))
  refine m_iload_n (pc' := 9) dX3_valueAt_8 rfl rfl ?_
  refine m_bipush (pc' := 11) (v := 9) dX3_valueAt_9 (by decide) rfl ?_
  refine m_icmp_ne (tgt := 20) (pc' := 14) dX3_valueAt_11 (by decide) rfl (fun h11 => absurd h11 (by decide)) (fun h11 => ?_)
  refine m_aload_n (pc' := 15) dX3_valueAt_14 rfl rfl ?_
  refine m_iconst (pc' := 16) (v := 0) dX3_valueAt_15 (by decide) rfl ?_
  refine m_callV (pc' := 19) (A := [.int 0]) (rest := []) (b := a) cl_X3_valueAt_49 dX3_valueAt_16 rfl rfl (Nat.le_of_ble_eq_true rfl) ⟨by decide, by decide⟩ (su_lt0 hB) (su_k0 hB) rfl rfl rfl ?_
  refine c_setting (w := 0) (s := s) hB hS (by decide) ?_
  show mM G mX3_valueAt 19 [some (.ref a), some (.int 9), some (.int (nI t)), none, none] [.int (s (40 + 0))] S1 d (0, 0) Q
  refine m_iret dX3_valueAt_19 rfl rfl ⟨by decide, by decide⟩ ?_
  exact hQ
set_option maxHeartbeats 4000000 in
set_option maxRecDepth 100000 in
theorem c_valK0 {p t : Nat} (hB : a ∈ suL) (hS : SR d a s) (hp : p < 8) (hk : s (5 * p) = 0) {l : Nat} (hl : s (5 * p + 1) = nI l) (hl2 : l ≤ 4095) (hQ : Q (some (.int (cvl s p (nI t)))) S1 d) : mC G mX3_valueAt [.ref a, .int (nI p), .int (nI t)] S1 d Q := by
  have ne8 : ¬ nI p = 8 := fun h => absurd ((nI_eq (b := 8) (by omega) (by decide)).mp h) (by omega)
  have ne9 : ¬ nI p = 9 := fun h => absurd ((nI_eq (b := 9) (by omega) (by decide)).mp h) (by omega)
  refine mC_of (by decide +kernel) ⟨_, rfl⟩ (Nat.le_of_ble_eq_true rfl) ?_
  show mM G mX3_valueAt 0 [some (.ref a), some (.int (nI p)), some (.int (nI t)), none, none] [] S1 d (0, 0) Q
  refine m_iload_n (pc' := 1) dX3_valueAt_0 rfl rfl ?_
  refine m_bipush (pc' := 3) (v := 8) dX3_valueAt_1 (by decide) rfl ?_
  refine m_icmp_ne (tgt := 8) (pc' := 6) dX3_valueAt_3 (by decide) rfl (fun h3 => ?_) (fun h3 => absurd h3 (ne8))
  refine m_iload_n (pc' := 9) dX3_valueAt_8 rfl rfl ?_
  refine m_bipush (pc' := 11) (v := 9) dX3_valueAt_9 (by decide) rfl ?_
  refine m_icmp_ne (tgt := 20) (pc' := 14) dX3_valueAt_11 (by decide) rfl (fun h11 => ?_) (fun h11 => absurd h11 (ne9))
  refine m_aload_n (pc' := 21) dX3_valueAt_20 rfl rfl ?_
  refine m_getR (pc' := 24) fa_X3_valueAt_14 dX3_valueAt_21 (su_lt0 hB) (su_k0 hB) rfl (su_r0_0 hB) rfl ?_
  refine m_iload_n (pc' := 25) dX3_valueAt_24 rfl rfl ?_
  refine m_iconst (pc' := 26) (v := 1) dX3_valueAt_25 (by decide) rfl ?_
  refine m_callV (pc' := 29) (A := [.int (nI p), .int 1]) (rest := []) (b := a + 1) cl_X3_valueAt_38 dX3_valueAt_26 rfl rfl (Nat.le_of_ble_eq_true rfl) ⟨by decide, by decide⟩ (su_lt1 hB) (su_k1 hB) rfl rfl rfl ?_
  refine c_atN (a := p) (b := 1) (k := 5 * p + 1) (su_T1 hB) (by decide) (by omega) (by omega) ?_
  show mM G mX3_valueAt 29 [some (.ref a), some (.int (nI p)), some (.int (nI t)), none, none] [.int (d.1 (a + 1 + 1) (5 * p + 1))] S1 d (0, 0) Q
  rw [show (d.1 (a + 1 + 1) (5 * p + 1)) = (s (5 * p + 1)) from hS.1 (5 * p + 1) (by omega)]
  refine m_istore_n (pc' := 30) dX3_valueAt_29 (by decide) rfl rfl ?_
  refine m_aload_n (pc' := 31) dX3_valueAt_30 rfl rfl ?_
  refine m_getR (pc' := 34) fa_X3_valueAt_14 dX3_valueAt_31 (su_lt0 hB) (su_k0 hB) rfl (su_r0_0 hB) rfl ?_
  refine m_iload_n (pc' := 35) dX3_valueAt_34 rfl rfl ?_
  refine m_iconst (pc' := 36) (v := 2) dX3_valueAt_35 (by decide) rfl ?_
  refine m_callV (pc' := 39) (A := [.int (nI p), .int 2]) (rest := []) (b := a + 1) cl_X3_valueAt_38 dX3_valueAt_36 rfl rfl (Nat.le_of_ble_eq_true rfl) ⟨by decide, by decide⟩ (su_lt1 hB) (su_k1 hB) rfl rfl rfl ?_
  refine c_atN (a := p) (b := 2) (k := 5 * p + 2) (su_T1 hB) (by decide) (by omega) (by omega) ?_
  show mM G mX3_valueAt 39 [some (.ref a), some (.int (nI p)), some (.int (nI t)), some (.int (s (5 * p + 1))), none] [.int (d.1 (a + 1 + 1) (5 * p + 2))] S1 d (0, 0) Q
  rw [show (d.1 (a + 1 + 1) (5 * p + 2)) = (s (5 * p + 2)) from hS.1 (5 * p + 2) (by omega)]
  refine m_istore (pc' := 41) dX3_valueAt_39 (by decide) rfl rfl ?_
  refine m_aload_n (pc' := 42) dX3_valueAt_41 rfl rfl ?_
  refine m_getR (pc' := 45) fa_X3_valueAt_14 dX3_valueAt_42 (su_lt0 hB) (su_k0 hB) rfl (su_r0_0 hB) rfl ?_
  refine m_iload_n (pc' := 46) dX3_valueAt_45 rfl rfl ?_
  refine m_iconst (pc' := 47) (v := 0) dX3_valueAt_46 (by decide) rfl ?_
  refine m_callV (pc' := 50) (A := [.int (nI p), .int 0]) (rest := []) (b := a + 1) cl_X3_valueAt_38 dX3_valueAt_47 rfl rfl (Nat.le_of_ble_eq_true rfl) ⟨by decide, by decide⟩ (su_lt1 hB) (su_k1 hB) rfl rfl rfl ?_
  refine c_atN (a := p) (b := 0) (k := 5 * p) (su_T1 hB) (by decide) (by omega) (by omega) ?_
  show mM G mX3_valueAt 50 [some (.ref a), some (.int (nI p)), some (.int (nI t)), some (.int (s (5 * p + 1))), some (.int (s (5 * p + 2)))] [.int (d.1 (a + 1 + 1) (5 * p))] S1 d (0, 0) Q
  rw [show (d.1 (a + 1 + 1) (5 * p)) = 0 from (hS.1 (5 * p) (by omega)).trans hk]
  refine m_lookup (tgt := 121) (off := 71) dX3_valueAt_50 (by decide) (by decide) (by decide) ?_
  refine m_iload_n (pc' := 122) dX3_valueAt_121 rfl rfl ?_
  refine m_iret dX3_valueAt_122 rfl rfl ⟨by decide, by decide⟩ ?_
  exact q_i hQ (by unfold cvl; rw [if_neg (by rw [hk]; decide), if_neg (fun h => by rw [hk] at h; exact absurd h.1 (by decide)), hl]; exact (clp_n hl2).symm)
set_option maxHeartbeats 4000000 in
set_option maxRecDepth 100000 in
theorem c_valK1 {p t : Nat} (hB : a ∈ suL) (hS : SR d a s) (hp : p < 8) (hk : s (5 * p) = 1) (h1 : -64 ≤ (s (5 * p + 2)).toInt) (h2 : (s (5 * p + 2)).toInt ≤ 4095) (ht : t < 100000) (hQ : Q (some (.int (cvl s p (nI t)))) S1 d) : mC G mX3_valueAt [.ref a, .int (nI p), .int (nI t)] S1 d Q := by
  have ne8 : ¬ nI p = 8 := fun h => absurd ((nI_eq (b := 8) (by omega) (by decide)).mp h) (by omega)
  have ne9 : ¬ nI p = 9 := fun h => absurd ((nI_eq (b := 9) (by omega) (by decide)).mp h) (by omega)
  refine mC_of (by decide +kernel) ⟨_, rfl⟩ (Nat.le_of_ble_eq_true rfl) ?_
  show mM G mX3_valueAt 0 [some (.ref a), some (.int (nI p)), some (.int (nI t)), none, none] [] S1 d (0, 0) Q
  refine m_iload_n (pc' := 1) dX3_valueAt_0 rfl rfl ?_
  refine m_bipush (pc' := 3) (v := 8) dX3_valueAt_1 (by decide) rfl ?_
  refine m_icmp_ne (tgt := 8) (pc' := 6) dX3_valueAt_3 (by decide) rfl (fun h3 => ?_) (fun h3 => absurd h3 (ne8))
  refine m_iload_n (pc' := 9) dX3_valueAt_8 rfl rfl ?_
  refine m_bipush (pc' := 11) (v := 9) dX3_valueAt_9 (by decide) rfl ?_
  refine m_icmp_ne (tgt := 20) (pc' := 14) dX3_valueAt_11 (by decide) rfl (fun h11 => ?_) (fun h11 => absurd h11 (ne9))
  refine m_aload_n (pc' := 21) dX3_valueAt_20 rfl rfl ?_
  refine m_getR (pc' := 24) fa_X3_valueAt_14 dX3_valueAt_21 (su_lt0 hB) (su_k0 hB) rfl (su_r0_0 hB) rfl ?_
  refine m_iload_n (pc' := 25) dX3_valueAt_24 rfl rfl ?_
  refine m_iconst (pc' := 26) (v := 1) dX3_valueAt_25 (by decide) rfl ?_
  refine m_callV (pc' := 29) (A := [.int (nI p), .int 1]) (rest := []) (b := a + 1) cl_X3_valueAt_38 dX3_valueAt_26 rfl rfl (Nat.le_of_ble_eq_true rfl) ⟨by decide, by decide⟩ (su_lt1 hB) (su_k1 hB) rfl rfl rfl ?_
  refine c_atN (a := p) (b := 1) (k := 5 * p + 1) (su_T1 hB) (by decide) (by omega) (by omega) ?_
  show mM G mX3_valueAt 29 [some (.ref a), some (.int (nI p)), some (.int (nI t)), none, none] [.int (d.1 (a + 1 + 1) (5 * p + 1))] S1 d (0, 0) Q
  rw [show (d.1 (a + 1 + 1) (5 * p + 1)) = (s (5 * p + 1)) from hS.1 (5 * p + 1) (by omega)]
  refine m_istore_n (pc' := 30) dX3_valueAt_29 (by decide) rfl rfl ?_
  refine m_aload_n (pc' := 31) dX3_valueAt_30 rfl rfl ?_
  refine m_getR (pc' := 34) fa_X3_valueAt_14 dX3_valueAt_31 (su_lt0 hB) (su_k0 hB) rfl (su_r0_0 hB) rfl ?_
  refine m_iload_n (pc' := 35) dX3_valueAt_34 rfl rfl ?_
  refine m_iconst (pc' := 36) (v := 2) dX3_valueAt_35 (by decide) rfl ?_
  refine m_callV (pc' := 39) (A := [.int (nI p), .int 2]) (rest := []) (b := a + 1) cl_X3_valueAt_38 dX3_valueAt_36 rfl rfl (Nat.le_of_ble_eq_true rfl) ⟨by decide, by decide⟩ (su_lt1 hB) (su_k1 hB) rfl rfl rfl ?_
  refine c_atN (a := p) (b := 2) (k := 5 * p + 2) (su_T1 hB) (by decide) (by omega) (by omega) ?_
  show mM G mX3_valueAt 39 [some (.ref a), some (.int (nI p)), some (.int (nI t)), some (.int (s (5 * p + 1))), none] [.int (d.1 (a + 1 + 1) (5 * p + 2))] S1 d (0, 0) Q
  rw [show (d.1 (a + 1 + 1) (5 * p + 2)) = (s (5 * p + 2)) from hS.1 (5 * p + 2) (by omega)]
  refine m_istore (pc' := 41) dX3_valueAt_39 (by decide) rfl rfl ?_
  refine m_aload_n (pc' := 42) dX3_valueAt_41 rfl rfl ?_
  refine m_getR (pc' := 45) fa_X3_valueAt_14 dX3_valueAt_42 (su_lt0 hB) (su_k0 hB) rfl (su_r0_0 hB) rfl ?_
  refine m_iload_n (pc' := 46) dX3_valueAt_45 rfl rfl ?_
  refine m_iconst (pc' := 47) (v := 0) dX3_valueAt_46 (by decide) rfl ?_
  refine m_callV (pc' := 50) (A := [.int (nI p), .int 0]) (rest := []) (b := a + 1) cl_X3_valueAt_38 dX3_valueAt_47 rfl rfl (Nat.le_of_ble_eq_true rfl) ⟨by decide, by decide⟩ (su_lt1 hB) (su_k1 hB) rfl rfl rfl ?_
  refine c_atN (a := p) (b := 0) (k := 5 * p) (su_T1 hB) (by decide) (by omega) (by omega) ?_
  show mM G mX3_valueAt 50 [some (.ref a), some (.int (nI p)), some (.int (nI t)), some (.int (s (5 * p + 1))), some (.int (s (5 * p + 2)))] [.int (d.1 (a + 1 + 1) (5 * p))] S1 d (0, 0) Q
  rw [show (d.1 (a + 1 + 1) (5 * p)) = 1 from (hS.1 (5 * p) (by omega)).trans hk]
  refine m_lookup (tgt := 76) (off := 26) dX3_valueAt_50 (by decide) (by decide) (by decide) ?_
  refine m_iconst (pc' := 77) (v := 0) dX3_valueAt_76 (by decide) rfl ?_
  refine m_sipush (pc' := 80) (v := 4095) dX3_valueAt_77 (by decide) rfl ?_
  refine m_iload_n (pc' := 81) dX3_valueAt_80 rfl rfl ?_
  refine m_iload (pc' := 83) dX3_valueAt_81 rfl rfl ?_
  refine m_iload_n (pc' := 84) dX3_valueAt_83 rfl rfl ?_
  refine m_imul (pc' := 85) dX3_valueAt_84 rfl ?_
  refine m_bipush (pc' := 87) (v := 16) dX3_valueAt_85 (by decide) rfl ?_
  refine m_callS (pc' := 90) (A := [.int ((s (5 * p + 2)) * (nI t)), .int 16]) (rest := [.int (s (5 * p + 1)), .int 4095, .int 0]) cl_X3_valueAt_52 dX3_valueAt_87 rfl rfl (Nat.le_of_ble_eq_true rfl) ⟨by decide, by decide⟩ rfl rfl ?_
  refine c_floorDiv (by decide) ?_
  show mM G mX3_valueAt 90 [some (.ref a), some (.int (nI p)), some (.int (nI t)), some (.int (s (5 * p + 1))), some (.int (s (5 * p + 2)))] [.int (fdl ((s (5 * p + 2)) * (nI t)) 16), .int (s (5 * p + 1)), .int 4095, .int 0] S1 d (0, 0) Q
  refine m_iadd (pc' := 91) dX3_valueAt_90 rfl ?_
  refine m_mmin (pc' := 94) wm_X3_valueAt_57 dX3_valueAt_91 (Nat.le_of_ble_eq_true rfl) ⟨by decide, by decide⟩ rfl ?_
  refine m_mmax (pc' := 97) wm_X3_valueAt_60 dX3_valueAt_94 (Nat.le_of_ble_eq_true rfl) ⟨by decide, by decide⟩ rfl ?_
  refine m_iret dX3_valueAt_97 rfl rfl ⟨by decide, by decide⟩ ?_
  exact q_i hQ (by unfold cvl; rw [if_pos hk, show (16 : Int32) = nI 16 from rfl, fdl_dwn (by decide) (by decide) (mul_lo h1 h2 ht)]; exact clp_mm _)
set_option maxHeartbeats 4000000 in
set_option maxRecDepth 100000 in
theorem c_valK2 {p t : Nat} (hB : a ∈ suL) (hS : SR d a s) (hp : p < 8) (hk : s (5 * p) = 2) {l x y : Nat} (hl : s (5 * p + 1) = nI l) (hl2 : l ≤ 4095) (hx : s (5 * p + 2) = nI x) (hx2 : x ≤ 4095) (hy : s (5 * p + 3) = nI y) (hy1 : 2 ≤ y) (hy2 : y ≤ 200) (hQ : Q (some (.int (cvl s p (nI t)))) S1 d) : mC G mX3_valueAt [.ref a, .int (nI p), .int (nI t)] S1 d Q := by
  have ne8 : ¬ nI p = 8 := fun h => absurd ((nI_eq (b := 8) (by omega) (by decide)).mp h) (by omega)
  have ne9 : ¬ nI p = 9 := fun h => absurd ((nI_eq (b := 9) (by omega) (by decide)).mp h) (by omega)
  have hpn : ¬ s (5 * p + 3) = 0 := by rw [hy]; exact nI_ne0 (by omega) (by omega)
  have hpp : 0 < s (5 * p + 3) := by rw [hy]; exact nI_lt (a := 0) (by omega) (by omega)
  refine mC_of (by decide +kernel) ⟨_, rfl⟩ (Nat.le_of_ble_eq_true rfl) ?_
  show mM G mX3_valueAt 0 [some (.ref a), some (.int (nI p)), some (.int (nI t)), none, none] [] S1 d (0, 0) Q
  refine m_iload_n (pc' := 1) dX3_valueAt_0 rfl rfl ?_
  refine m_bipush (pc' := 3) (v := 8) dX3_valueAt_1 (by decide) rfl ?_
  refine m_icmp_ne (tgt := 8) (pc' := 6) dX3_valueAt_3 (by decide) rfl (fun h3 => ?_) (fun h3 => absurd h3 (ne8))
  refine m_iload_n (pc' := 9) dX3_valueAt_8 rfl rfl ?_
  refine m_bipush (pc' := 11) (v := 9) dX3_valueAt_9 (by decide) rfl ?_
  refine m_icmp_ne (tgt := 20) (pc' := 14) dX3_valueAt_11 (by decide) rfl (fun h11 => ?_) (fun h11 => absurd h11 (ne9))
  refine m_aload_n (pc' := 21) dX3_valueAt_20 rfl rfl ?_
  refine m_getR (pc' := 24) fa_X3_valueAt_14 dX3_valueAt_21 (su_lt0 hB) (su_k0 hB) rfl (su_r0_0 hB) rfl ?_
  refine m_iload_n (pc' := 25) dX3_valueAt_24 rfl rfl ?_
  refine m_iconst (pc' := 26) (v := 1) dX3_valueAt_25 (by decide) rfl ?_
  refine m_callV (pc' := 29) (A := [.int (nI p), .int 1]) (rest := []) (b := a + 1) cl_X3_valueAt_38 dX3_valueAt_26 rfl rfl (Nat.le_of_ble_eq_true rfl) ⟨by decide, by decide⟩ (su_lt1 hB) (su_k1 hB) rfl rfl rfl ?_
  refine c_atN (a := p) (b := 1) (k := 5 * p + 1) (su_T1 hB) (by decide) (by omega) (by omega) ?_
  show mM G mX3_valueAt 29 [some (.ref a), some (.int (nI p)), some (.int (nI t)), none, none] [.int (d.1 (a + 1 + 1) (5 * p + 1))] S1 d (0, 0) Q
  rw [show (d.1 (a + 1 + 1) (5 * p + 1)) = (s (5 * p + 1)) from hS.1 (5 * p + 1) (by omega)]
  refine m_istore_n (pc' := 30) dX3_valueAt_29 (by decide) rfl rfl ?_
  refine m_aload_n (pc' := 31) dX3_valueAt_30 rfl rfl ?_
  refine m_getR (pc' := 34) fa_X3_valueAt_14 dX3_valueAt_31 (su_lt0 hB) (su_k0 hB) rfl (su_r0_0 hB) rfl ?_
  refine m_iload_n (pc' := 35) dX3_valueAt_34 rfl rfl ?_
  refine m_iconst (pc' := 36) (v := 2) dX3_valueAt_35 (by decide) rfl ?_
  refine m_callV (pc' := 39) (A := [.int (nI p), .int 2]) (rest := []) (b := a + 1) cl_X3_valueAt_38 dX3_valueAt_36 rfl rfl (Nat.le_of_ble_eq_true rfl) ⟨by decide, by decide⟩ (su_lt1 hB) (su_k1 hB) rfl rfl rfl ?_
  refine c_atN (a := p) (b := 2) (k := 5 * p + 2) (su_T1 hB) (by decide) (by omega) (by omega) ?_
  show mM G mX3_valueAt 39 [some (.ref a), some (.int (nI p)), some (.int (nI t)), some (.int (s (5 * p + 1))), none] [.int (d.1 (a + 1 + 1) (5 * p + 2))] S1 d (0, 0) Q
  rw [show (d.1 (a + 1 + 1) (5 * p + 2)) = (s (5 * p + 2)) from hS.1 (5 * p + 2) (by omega)]
  refine m_istore (pc' := 41) dX3_valueAt_39 (by decide) rfl rfl ?_
  refine m_aload_n (pc' := 42) dX3_valueAt_41 rfl rfl ?_
  refine m_getR (pc' := 45) fa_X3_valueAt_14 dX3_valueAt_42 (su_lt0 hB) (su_k0 hB) rfl (su_r0_0 hB) rfl ?_
  refine m_iload_n (pc' := 46) dX3_valueAt_45 rfl rfl ?_
  refine m_iconst (pc' := 47) (v := 0) dX3_valueAt_46 (by decide) rfl ?_
  refine m_callV (pc' := 50) (A := [.int (nI p), .int 0]) (rest := []) (b := a + 1) cl_X3_valueAt_38 dX3_valueAt_47 rfl rfl (Nat.le_of_ble_eq_true rfl) ⟨by decide, by decide⟩ (su_lt1 hB) (su_k1 hB) rfl rfl rfl ?_
  refine c_atN (a := p) (b := 0) (k := 5 * p) (su_T1 hB) (by decide) (by omega) (by omega) ?_
  show mM G mX3_valueAt 50 [some (.ref a), some (.int (nI p)), some (.int (nI t)), some (.int (s (5 * p + 1))), some (.int (s (5 * p + 2)))] [.int (d.1 (a + 1 + 1) (5 * p))] S1 d (0, 0) Q
  rw [show (d.1 (a + 1 + 1) (5 * p)) = 2 from (hS.1 (5 * p) (by omega)).trans hk]
  refine m_lookup (tgt := 98) (off := 48) dX3_valueAt_50 (by decide) (by decide) (by decide) ?_
  refine m_iload_n (pc' := 99) dX3_valueAt_98 rfl rfl ?_
  refine m_aload_n (pc' := 100) dX3_valueAt_99 rfl rfl ?_
  refine m_getR (pc' := 103) fa_X3_valueAt_14 dX3_valueAt_100 (su_lt0 hB) (su_k0 hB) rfl (su_r0_0 hB) rfl ?_
  refine m_iload_n (pc' := 104) dX3_valueAt_103 rfl rfl ?_
  refine m_iconst (pc' := 105) (v := 3) dX3_valueAt_104 (by decide) rfl ?_
  refine m_callV (pc' := 108) (A := [.int (nI p), .int 3]) (rest := [.int (nI t)]) (b := a + 1) cl_X3_valueAt_38 dX3_valueAt_105 rfl rfl (Nat.le_of_ble_eq_true rfl) ⟨by decide, by decide⟩ (su_lt1 hB) (su_k1 hB) rfl rfl rfl ?_
  refine c_atN (a := p) (b := 3) (k := 5 * p + 3) (su_T1 hB) (by decide) (by omega) (by omega) ?_
  show mM G mX3_valueAt 108 [some (.ref a), some (.int (nI p)), some (.int (nI t)), some (.int (s (5 * p + 1))), some (.int (s (5 * p + 2)))] [.int (d.1 (a + 1 + 1) (5 * p + 3)), .int (nI t)] S1 d (0, 0) Q
  rw [show (d.1 (a + 1 + 1) (5 * p + 3)) = (s (5 * p + 3)) from hS.1 (5 * p + 3) (by omega)]
  refine m_callS (pc' := 111) (A := [.int (nI t), .int (s (5 * p + 3))]) (rest := []) cl_X3_valueAt_63 dX3_valueAt_108 rfl rfl (Nat.le_of_ble_eq_true rfl) ⟨by decide, by decide⟩ rfl rfl ?_
  refine c_half hpn ?_
  show mM G mX3_valueAt 111 [some (.ref a), some (.int (nI p)), some (.int (nI t)), some (.int (s (5 * p + 1))), some (.int (s (5 * p + 2)))] [.int (fst2 (nI t) (s (5 * p + 3)))] S1 d (0, 0) Q
  refine m_if_eq (tgt := 118) (pc' := 114) dX3_valueAt_111 (by decide) rfl (fun h111 => ?_) (fun h111 => ?_)
  · skip
    refine m_iload (pc' := 120) dX3_valueAt_118 rfl rfl ?_
    refine m_iret dX3_valueAt_120 rfl rfl ⟨by decide, by decide⟩ ?_
    exact q_i hQ (by unfold cvl; rw [if_neg (by rw [hk]; decide), if_pos ⟨hk, Int32.not_lt.mp (fun h => by unfold fst2 at h111; rw [if_pos ⟨hpp, h⟩] at h111; exact absurd h111 (by decide))⟩, hx]; exact (clp_n hx2).symm)
  · skip
    refine m_iload_n (pc' := 115) dX3_valueAt_114 rfl rfl ?_
    refine m_goto (tgt := 120) dX3_valueAt_115 (by decide) ?_
    refine m_iret dX3_valueAt_120 rfl rfl ⟨by decide, by decide⟩ ?_
    exact q_i hQ (by unfold cvl; rw [if_neg (by rw [hk]; decide), if_neg (fun h => by unfold fst2 at h111; rw [if_neg (fun g => Int32.not_lt.mpr h.2 g.2)] at h111; exact h111 rfl), hl]; exact (clp_n hl2).symm)
theorem c_valueAt {p t : Nat} (hB : a ∈ suL) (hS : SR d a s) (hp : p ≤ 9) (hc : ∀ c, c < 8 → okC s c) (ht : t < 100000) (hQ : Q (some (.int (pvl s p (nI t)))) S1 d) : mC G mX3_valueAt [.ref a, .int (nI p), .int (nI t)] S1 d Q := by
  rcases (show p < 8 ∨ p = 8 ∨ p = 9 by omega) with h | rfl | rfl
  · have hQ' : Q (some (.int (cvl s p (nI t)))) S1 d := by
      unfold pvl at hQ; rw [if_neg (by omega), if_neg (by omega)] at hQ; exact hQ
    obtain ⟨k, lv, r, e1, e2, e3, e4, -, -, e5, e6, e7⟩ := hc p h
    rcases (show k = 0 ∨ k = 1 ∨ k = 2 by omega) with rfl | rfl | rfl
    · exact c_valK0 hB hS h e1 e3 e4 hQ'
    · exact c_valK1 hB hS h e1 e5.1 e5.2 ht hQ'
    · obtain ⟨x, x1, x2⟩ := e6 rfl
      obtain ⟨y, y1, y2, y3⟩ := e7 rfl
      exact c_valK2 hB hS h e1 e3 e4 x2 x1 y3 y1 y2 hQ'
  · exact c_val8 hB hS hQ
  · exact c_val9 hB hS hQ
set_option maxHeartbeats 4000000 in
set_option maxRecDepth 100000 in
theorem c_start {h : UInt32} {t : Int32} (hQ : ∀ d', fr cvE cvF d d' → d'.1 189 1 = t → d'.2 189 0 = h → Q none S1 d') : mC G mX0_start [.ref 189, .float h, .int t] S1 d Q := by
  refine mC_of (by decide +kernel) ⟨_, rfl⟩ (Nat.le_of_ble_eq_true rfl) ?_
  show mM G mX0_start 0 [some (.ref 189), some (.float h), some (.int t)] [] S1 d (0, 0) Q
  refine m_aload_n (pc' := 1) dX0_start_0 rfl rfl ?_
  refine m_fload_n (pc' := 2) dX0_start_1 rfl rfl ?_
  refine m_putFl (pc' := 5) fa_X0_start_9 dX0_start_2 (by decide) rfl rfl rfl ?_
  refine m_aload_n (pc' := 6) dX0_start_5 rfl rfl ?_
  refine m_iload_n (pc' := 7) dX0_start_6 rfl rfl ?_
  refine m_putI (pc' := 10) (ty := .int) fa_X0_start_15 dX0_start_7 (by decide +kernel) rfl rfl (by decide) rfl rfl rfl ?_
  refine m_vret dX0_start_10 rfl ⟨by decide, by decide⟩ ?_
  exact hQ _ ((fr.rfl.f _ (by decide)).i _ (by decide)) (u2_same (m := d.1) (k := 189) (j := 1) (x := t)) (u2_same (m := d.2) (k := 189) (j := 0) (x := h))
set_option maxHeartbeats 4000000 in
set_option maxRecDepth 100000 in
theorem c_behind {h v : UInt32} {r : Int32} (hr : ¬ r < 0) (hQ : Q (some (.float (if r = 0 then v else FP.fadd h (FP.fdiv (FP.fsub v h) (FP.i2f (1 + r)))))) S1 d) : mC G mX0_chargeBehind [.float h, .float v, .int r] S1 d Q := by
  refine mC_of (by decide +kernel) ⟨_, rfl⟩ (Nat.le_of_ble_eq_true rfl) ?_
  show mM G mX0_chargeBehind 0 [some (.float h), some (.float v), some (.int r)] [] S1 d (0, 0) Q
  refine m_iload_n (pc' := 1) dX0_chargeBehind_0 rfl rfl ?_
  refine m_if_gt (tgt := 8) (pc' := 4) dX0_chargeBehind_1 (by decide) rfl (fun h1 => ?_) (fun h1 => ?_)
  · skip
    refine m_fload_n (pc' := 9) dX0_chargeBehind_8 rfl rfl ?_
    refine m_fload_n (pc' := 10) dX0_chargeBehind_9 rfl rfl ?_
    refine m_fload_n (pc' := 11) dX0_chargeBehind_10 rfl rfl ?_
    refine m_fsub (pc' := 12) dX0_chargeBehind_11 rfl ?_
    refine m_iconst (pc' := 13) (v := 1) dX0_chargeBehind_12 (by decide) rfl ?_
    refine m_iload_n (pc' := 14) dX0_chargeBehind_13 rfl rfl ?_
    refine m_iadd (pc' := 15) dX0_chargeBehind_14 rfl ?_
    refine m_i2f (pc' := 16) dX0_chargeBehind_15 rfl ?_
    refine m_fdiv (pc' := 17) dX0_chargeBehind_16 rfl ?_
    refine m_fadd (pc' := 18) dX0_chargeBehind_17 rfl ?_
    refine m_fret dX0_chargeBehind_18 rfl ⟨by decide, by decide⟩ ?_
    exact q_f hQ (if_neg (fun z => absurd (show (0 : Int32) < 0 from by rw [z] at h1; exact h1) (by decide))).symm
  · skip
    refine m_fload_n (pc' := 5) dX0_chargeBehind_4 rfl rfl ?_
    refine m_goto (tgt := 18) dX0_chargeBehind_5 (by decide) ?_
    refine m_fret dX0_chargeBehind_18 rfl ⟨by decide, by decide⟩ ?_
    exact q_f hQ (if_pos (Int32.le_antisymm (Int32.not_lt.mp h1) (Int32.not_lt.mp hr))).symm
set_option maxHeartbeats 4000000 in
set_option maxRecDepth 100000 in
theorem c_error  (hQ : Q (some (.int (d.1 189 2 - d.1 189 4))) S1 d) : mC G mX0_error [.ref 189] S1 d Q := by
  refine mC_of (by decide +kernel) ⟨_, rfl⟩ (Nat.le_of_ble_eq_true rfl) ?_
  show mM G mX0_error 0 [some (.ref 189)] [] S1 d (0, 0) Q
  refine m_aload_n (pc' := 1) dX0_error_0 rfl rfl ?_
  refine m_getI (pc' := 4) fa_X0_error_53 dX0_error_1 (by decide) rfl rfl rfl ?_
  refine m_aload_n (pc' := 5) dX0_error_4 rfl rfl ?_
  refine m_getI (pc' := 8) fa_X0_error_42 dX0_error_5 (by decide) rfl rfl rfl ?_
  refine m_isub (pc' := 9) dX0_error_8 rfl ?_
  refine m_iret dX0_error_9 rfl rfl ⟨by decide, by decide⟩ ?_
  exact hQ
set_option maxHeartbeats 4000000 in
set_option maxRecDepth 100000 in
theorem c_carryOut {p q t : Nat} {h : UInt32} (hB : a ∈ suL) (hS : SR d a s) (hp : p ≤ 9) (hc : ∀ c, c < 8 → okC s c) (hq : q ≤ 7) (ht : t < 90000) (h1 : d.1 189 1 = nI t) (h0 : d.2 189 0 = h) (hQ : ∀ d', fr cvE cvF d d' → SR d' a s → d'.1 189 1 = nI (t + (q + 1)) → d'.2 189 0 = xh s p q t h → d'.1 189 2 = xr s p q t h → d'.1 189 3 = xc s p q t h → d'.1 189 4 = pvl s p (nI (t + q)) → Q none S1 d') : mC G mX0_carryOut [.ref 189, .ref a, .int (nI p), .int (nI q)] S1 d Q := by
  have J : ∀ (n0 : Nat) (k : Nat) (d1 : Dt) (_ : k + n0 = q + 1) (_ : fr cvE cvF d d1) (_ : SR d1 a s) (_ : d1.1 189 1 = nI (t + k)) (_ : d1.2 189 0 = cos s p k t h) (_ : 0 < k → d1.1 189 4 = pvl s p (nI (t + (k - 1)))), mM G mX0_carryOut 13 [some (.ref 189), some (.ref a), some (.int (nI p)), some (.int (nI q)), some (.int (rsl s p)), some (.float (cos s p k t FP.fconst0)), some (.int (nI k))] [] S1 d1 (0, 0) Q := by
    intro n0
    induction n0 with
    | zero =>
      intro k d1 hk hd hS h1 h0 h4
      refine m_iload (pc' := 15) dX0_carryOut_13 rfl rfl ?_
      refine m_iload_n (pc' := 16) dX0_carryOut_15 rfl rfl ?_
      refine m_icmp_gt (tgt := 80) (pc' := 19) dX0_carryOut_16 (by decide) rfl (fun h16 => ?_) (fun h16 => (h16 (nI_lt (by omega) (by omega))).elim)
      refine m_aload_n (pc' := 81) dX0_carryOut_80 rfl rfl ?_
      refine m_aload_n (pc' := 82) dX0_carryOut_81 rfl rfl ?_
      refine m_aload_n (pc' := 83) dX0_carryOut_82 rfl rfl ?_
      refine m_getF (pc' := 86) fa_X0_carryOut_9 dX0_carryOut_83 (by decide) rfl rfl rfl ?_
      rw [show (d1.2 189 0) = (cos s p k t h) from h0]
      refine m_callV (pc' := 89) (A := [.float (cos s p k t h)]) (rest := [.ref 189]) (b := a) cl_X0_carryOut_49 dX0_carryOut_86 rfl rfl (Nat.le_of_ble_eq_true rfl) ⟨by decide, by decide⟩ (su_lt0 hB) (su_k0 hB) rfl rfl rfl ?_
      refine c_readingOf (s := s) hB hS ?_
      show mM G mX0_carryOut 89 [some (.ref 189), some (.ref a), some (.int (nI p)), some (.int (nI q)), some (.int (rsl s p)), some (.float (cos s p k t FP.fconst0)), some (.int (nI k))] [.int (rdb (cos s p k t h) (s 41) (s 42)), .ref 189] S1 d1 (0, 0) Q
      refine m_putI (pc' := 92) (ty := .int) fa_X0_carryOut_53 dX0_carryOut_89 (by decide +kernel) rfl rfl (by decide) rfl rfl rfl ?_
      refine m_aload_n (pc' := 93) dX0_carryOut_92 rfl rfl ?_
      refine m_aload_n (pc' := 94) dX0_carryOut_93 rfl rfl ?_
      refine m_getI (pc' := 97) fa_X0_carryOut_53 dX0_carryOut_94 (by decide) rfl rfl rfl ?_
      show mM G mX0_carryOut 97 [some (.ref 189), some (.ref a), some (.int (nI p)), some (.int (nI q)), some (.int (rsl s p)), some (.float (cos s p k t FP.fconst0)), some (.int (nI k))] [.int (rdb (cos s p k t h) (s 41) (s 42)), .ref 189] S1 (u2 d1.1 189 2 (rdb (cos s p k t h) (s 41) (s 42)), d1.2) (0, 0) Q
      refine m_aload_n (pc' := 98) dX0_carryOut_97 rfl rfl ?_
      refine m_fload (pc' := 100) dX0_carryOut_98 rfl rfl ?_
      refine m_callV (pc' := 103) (A := [.float (cos s p k t FP.fconst0)]) (rest := [.int (rdb (cos s p k t h) (s 41) (s 42)), .ref 189]) (b := a) cl_X0_carryOut_49 dX0_carryOut_100 rfl rfl (Nat.le_of_ble_eq_true rfl) ⟨by decide, by decide⟩ (su_lt0 hB) (su_k0 hB) rfl rfl rfl ?_
      refine c_readingOf (s := s) hB (hS.cv hB (fr.i fr.rfl _ (by decide))) ?_
      show mM G mX0_carryOut 103 [some (.ref 189), some (.ref a), some (.int (nI p)), some (.int (nI q)), some (.int (rsl s p)), some (.float (cos s p k t FP.fconst0)), some (.int (nI k))] [.int (rdb (cos s p k t FP.fconst0) (s 41) (s 42)), .int (rdb (cos s p k t h) (s 41) (s 42)), .ref 189] S1 (u2 d1.1 189 2 (rdb (cos s p k t h) (s 41) (s 42)), d1.2) (0, 0) Q
      refine m_isub (pc' := 104) dX0_carryOut_103 rfl ?_
      refine m_putI (pc' := 107) (ty := .int) fa_X0_carryOut_56 dX0_carryOut_104 (by decide +kernel) rfl rfl (by decide) rfl rfl rfl ?_
      refine m_vret dX0_carryOut_107 rfl ⟨by decide, by decide⟩ ?_
      obtain rfl : k = q + 1 := by omega
      exact hQ _ (((hd.i _ (by decide)).i _ (by decide))) ((hS.cv hB (fr.i fr.rfl _ (by decide))).cv hB (fr.i fr.rfl _ (by decide))) h1 h0 rfl rfl (h4 (by omega))
    | succ n0 ih =>
      intro k d1 hk hd hS h1 h0 h4
      refine m_iload (pc' := 15) dX0_carryOut_13 rfl rfl ?_
      refine m_iload_n (pc' := 16) dX0_carryOut_15 rfl rfl ?_
      refine m_icmp_gt (tgt := 80) (pc' := 19) dX0_carryOut_16 (by decide) rfl (fun h16 => absurd h16 (nI_nlt (by omega) (by omega))) (fun h16 => ?_)
      refine m_aload_n (pc' := 20) dX0_carryOut_19 rfl rfl ?_
      refine m_aload_n (pc' := 21) dX0_carryOut_20 rfl rfl ?_
      refine m_iload_n (pc' := 22) dX0_carryOut_21 rfl rfl ?_
      refine m_aload_n (pc' := 23) dX0_carryOut_22 rfl rfl ?_
      refine m_getI (pc' := 26) fa_X0_carryOut_15 dX0_carryOut_23 (by decide) rfl rfl rfl ?_
      rw [show (d1.1 189 1) = (nI (t + k)) from h1]
      refine m_callV (pc' := 29) (A := [.int (nI p), .int (nI (t + k))]) (rest := [.ref 189]) (b := a) cl_X0_carryOut_39 dX0_carryOut_26 rfl rfl (Nat.le_of_ble_eq_true rfl) ⟨by decide, by decide⟩ (su_lt0 hB) (su_k0 hB) rfl rfl rfl ?_
      refine (c_valueAt (p := p) (t := t + k) (s := s) hB hS hp hc (by omega) ?_)
      show mM G mX0_carryOut 29 [some (.ref 189), some (.ref a), some (.int (nI p)), some (.int (nI q)), some (.int (rsl s p)), some (.float (cos s p k t FP.fconst0)), some (.int (nI k))] [.int (pvl s p (nI (t + k))), .ref 189] S1 d1 (0, 0) Q
      refine m_putI (pc' := 32) (ty := .int) fa_X0_carryOut_42 dX0_carryOut_29 (by decide +kernel) rfl rfl (by decide) rfl rfl rfl ?_
      refine m_aload_n (pc' := 33) dX0_carryOut_32 rfl rfl ?_
      refine m_aload_n (pc' := 34) dX0_carryOut_33 rfl rfl ?_
      refine m_getF (pc' := 37) fa_X0_carryOut_9 dX0_carryOut_34 (by decide) rfl rfl rfl ?_
      show mM G mX0_carryOut 37 [some (.ref 189), some (.ref a), some (.int (nI p)), some (.int (nI q)), some (.int (rsl s p)), some (.float (cos s p k t FP.fconst0)), some (.int (nI k))] [.float (d1.2 189 0), .ref 189] S1 (u2 d1.1 189 4 (pvl s p (nI (t + k))), d1.2) (0, 0) Q
      rw [show (d1.2 189 0) = (cos s p k t h) from h0]
      refine m_aload_n (pc' := 38) dX0_carryOut_37 rfl rfl ?_
      refine m_getI (pc' := 41) fa_X0_carryOut_42 dX0_carryOut_38 (by decide) rfl rfl rfl ?_
      show mM G mX0_carryOut 41 [some (.ref 189), some (.ref a), some (.int (nI p)), some (.int (nI q)), some (.int (rsl s p)), some (.float (cos s p k t FP.fconst0)), some (.int (nI k))] [.int (pvl s p (nI (t + k))), .float (cos s p k t h), .ref 189] S1 (u2 d1.1 189 4 (pvl s p (nI (t + k))), d1.2) (0, 0) Q
      refine m_i2f (pc' := 42) dX0_carryOut_41 rfl ?_
      refine m_iload (pc' := 44) dX0_carryOut_42 rfl rfl ?_
      refine m_callS (pc' := 47) (A := [.float (cos s p k t h), .float (FP.i2f (pvl s p (nI (t + k)))), .int (rsl s p)]) (rest := [.ref 189]) cl_X0_carryOut_45 dX0_carryOut_44 rfl rfl (Nat.le_of_ble_eq_true rfl) ⟨by decide, by decide⟩ rfl rfl ?_
      refine c_behind (rsl_nn hc) ?_
      show mM G mX0_carryOut 47 [some (.ref 189), some (.ref a), some (.int (nI p)), some (.int (nI q)), some (.int (rsl s p)), some (.float (cos s p k t FP.fconst0)), some (.int (nI k))] [.float (if (rsl s p) = 0 then (FP.i2f (pvl s p (nI (t + k)))) else FP.fadd (cos s p k t h) (FP.fdiv (FP.fsub (FP.i2f (pvl s p (nI (t + k)))) (cos s p k t h)) (FP.i2f (1 + (rsl s p))))), .ref 189] S1 (u2 d1.1 189 4 (pvl s p (nI (t + k))), d1.2) (0, 0) Q
      rw [show (if (rsl s p) = 0 then (FP.i2f (pvl s p (nI (t + k)))) else FP.fadd (cos s p k t h) (FP.fdiv (FP.fsub (FP.i2f (pvl s p (nI (t + k)))) (cos s p k t h)) (FP.i2f (1 + (rsl s p))))) = (cos s p (k + 1) t h) from rfl]
      refine m_putFl (pc' := 50) fa_X0_carryOut_9 dX0_carryOut_47 (by decide) rfl rfl rfl ?_
      refine m_fload (pc' := 52) dX0_carryOut_50 rfl rfl ?_
      refine m_aload_n (pc' := 53) dX0_carryOut_52 rfl rfl ?_
      refine m_getI (pc' := 56) fa_X0_carryOut_42 dX0_carryOut_53 (by decide) rfl rfl rfl ?_
      show mM G mX0_carryOut 56 [some (.ref 189), some (.ref a), some (.int (nI p)), some (.int (nI q)), some (.int (rsl s p)), some (.float (cos s p k t FP.fconst0)), some (.int (nI k))] [.int (pvl s p (nI (t + k))), .float (cos s p k t FP.fconst0)] S1 (u2 d1.1 189 4 (pvl s p (nI (t + k))), u2 d1.2 189 0 (cos s p (k + 1) t h)) (0, 0) Q
      refine m_i2f (pc' := 57) dX0_carryOut_56 rfl ?_
      refine m_iload (pc' := 59) dX0_carryOut_57 rfl rfl ?_
      refine m_callS (pc' := 62) (A := [.float (cos s p k t FP.fconst0), .float (FP.i2f (pvl s p (nI (t + k)))), .int (rsl s p)]) (rest := []) cl_X0_carryOut_45 dX0_carryOut_59 rfl rfl (Nat.le_of_ble_eq_true rfl) ⟨by decide, by decide⟩ rfl rfl ?_
      refine c_behind (rsl_nn hc) ?_
      show mM G mX0_carryOut 62 [some (.ref 189), some (.ref a), some (.int (nI p)), some (.int (nI q)), some (.int (rsl s p)), some (.float (cos s p k t FP.fconst0)), some (.int (nI k))] [.float (if (rsl s p) = 0 then (FP.i2f (pvl s p (nI (t + k)))) else FP.fadd (cos s p k t FP.fconst0) (FP.fdiv (FP.fsub (FP.i2f (pvl s p (nI (t + k)))) (cos s p k t FP.fconst0)) (FP.i2f (1 + (rsl s p)))))] S1 (u2 d1.1 189 4 (pvl s p (nI (t + k))), u2 d1.2 189 0 (cos s p (k + 1) t h)) (0, 0) Q
      rw [show (if (rsl s p) = 0 then (FP.i2f (pvl s p (nI (t + k)))) else FP.fadd (cos s p k t FP.fconst0) (FP.fdiv (FP.fsub (FP.i2f (pvl s p (nI (t + k)))) (cos s p k t FP.fconst0)) (FP.i2f (1 + (rsl s p))))) = (cos s p (k + 1) t FP.fconst0) from rfl]
      refine m_fstore (pc' := 64) dX0_carryOut_62 (by decide) rfl rfl ?_
      refine m_aload_n (pc' := 65) dX0_carryOut_64 rfl rfl ?_
      refine m_dup (pc' := 66) dX0_carryOut_65 rfl ?_
      refine m_getI (pc' := 69) fa_X0_carryOut_15 dX0_carryOut_66 (by decide) rfl rfl rfl ?_
      show mM G mX0_carryOut 69 [some (.ref 189), some (.ref a), some (.int (nI p)), some (.int (nI q)), some (.int (rsl s p)), some (.float (cos s p (k + 1) t FP.fconst0)), some (.int (nI k))] [.int (d1.1 189 1), .ref 189] S1 (u2 d1.1 189 4 (pvl s p (nI (t + k))), u2 d1.2 189 0 (cos s p (k + 1) t h)) (0, 0) Q
      rw [show (d1.1 189 1) = (nI (t + k)) from h1]
      refine m_iconst (pc' := 70) (v := 1) dX0_carryOut_69 (by decide) rfl ?_
      refine m_iadd (pc' := 71) dX0_carryOut_70 rfl ?_
      rw [show ((nI (t + k)) + 1) = (nI (t + (k + 1))) from nI_1 _]
      refine m_putI (pc' := 74) (ty := .int) fa_X0_carryOut_15 dX0_carryOut_71 (by decide +kernel) rfl rfl (by decide) rfl rfl rfl ?_
      refine m_iinc (pc' := 77) dX0_carryOut_74 rfl (by decide) (v := nI (k + 1)) (nI_1 k) rfl rfl ?_
      refine m_goto (tgt := 13) dX0_carryOut_77 (by decide) ?_
      have f9 : fr cvE cvF d1 ((u2 (u2 d1.1 189 4 (pvl s p (nI (t + k)))) 189 1 (nI (t + (k + 1))), u2 d1.2 189 0 (cos s p (k + 1) t h))) := ((fr.rfl.i _ (by decide)).f _ (by decide)).i _ (by decide)
      exact ih (k + 1) _ (by omega) (hd.trans f9) (hS.cv hB f9) (by simp only [u2_same]; try rfl) (by simp only [u2_same]; try rfl) (fun _ => rfl)
  refine mC_of (by decide +kernel) ⟨_, rfl⟩ (Nat.le_of_ble_eq_true rfl) ?_
  show mM G mX0_carryOut 0 [some (.ref 189), some (.ref a), some (.int (nI p)), some (.int (nI q)), none, none, none] [] S1 d (0, 0) Q
  refine m_aload_n (pc' := 1) dX0_carryOut_0 rfl rfl ?_
  refine m_iload_n (pc' := 2) dX0_carryOut_1 rfl rfl ?_
  refine m_callV (pc' := 5) (A := [.int (nI p)]) (rest := []) (b := a) cl_X0_carryOut_35 dX0_carryOut_2 rfl rfl (Nat.le_of_ble_eq_true rfl) ⟨by decide, by decide⟩ (su_lt0 hB) (su_k0 hB) rfl rfl rfl ?_
  refine c_resAt (p := p) (s := s) hB hS hp ?_
  show mM G mX0_carryOut 5 [some (.ref 189), some (.ref a), some (.int (nI p)), some (.int (nI q)), none, none, none] [.int (rsl s p)] S1 d (0, 0) Q
  refine m_istore (pc' := 7) dX0_carryOut_5 (by decide) rfl rfl ?_
  refine m_fconst0 (pc' := 8) dX0_carryOut_7 rfl ?_
  refine m_fstore (pc' := 10) dX0_carryOut_8 (by decide) rfl rfl ?_
  refine m_iconst (pc' := 11) (v := 0) dX0_carryOut_10 (by decide) rfl ?_
  refine m_istore (pc' := 13) dX0_carryOut_11 (by decide) rfl rfl ?_
  exact J (q + 1) 0 d (by omega) fr.rfl hS h1 h0 (fun h => absurd h (Nat.lt_irrefl 0))
set_option maxHeartbeats 4000000 in
set_option maxRecDepth 100000 in
theorem c_entry {n i t : Nat} {h : UInt32} (hB : a ∈ suL) (hS : SR d a s) (hl : okL s n) (hi : i < n) (hc : ∀ c, c < 8 → okC s c) (ht : t < 90000) (h1 : d.1 189 1 = nI t) (h0 : d.2 189 0 = h) (hQ : ∀ d', fr cvE cvF d d' → SR d' a s → d'.1 189 1 = nI (t + (qn s i + 1)) → d'.2 189 0 = xh s (pn s i) (qn s i) t h → d'.1 189 2 = xr s (pn s i) (qn s i) t h → d'.1 189 3 = xc s (pn s i) (qn s i) t h → d'.1 189 4 = pvl s (pn s i) (nI (t + qn s i)) → Q none S1 d') : mC G mX0_carryOutEntry [.ref 189, .ref a, .int (nI i)] S1 d Q := by
  have hn16 := hl.1
  refine mC_of (by decide +kernel) ⟨_, rfl⟩ (Nat.le_of_ble_eq_true rfl) ?_
  show mM G mX0_carryOutEntry 0 [some (.ref 189), some (.ref a), some (.int (nI i))] [] S1 d (0, 0) Q
  refine m_aload_n (pc' := 1) dX0_carryOutEntry_0 rfl rfl ?_
  refine m_aload_n (pc' := 2) dX0_carryOutEntry_1 rfl rfl ?_
  refine m_aload_n (pc' := 3) dX0_carryOutEntry_2 rfl rfl ?_
  refine m_getR (pc' := 6) fa_X0_carryOutEntry_19 dX0_carryOutEntry_3 (su_lt0 hB) (su_k0 hB) rfl (su_r0_1 hB) rfl ?_
  refine m_iload_n (pc' := 7) dX0_carryOutEntry_6 rfl rfl ?_
  refine m_iconst (pc' := 8) (v := 0) dX0_carryOutEntry_7 (by decide) rfl ?_
  refine m_callV (pc' := 11) (A := [.int (nI i), .int 0]) (rest := [.ref a, .ref 189]) (b := a + 3) cl_X0_carryOutEntry_25 dX0_carryOutEntry_8 rfl rfl (Nat.le_of_ble_eq_true rfl) ⟨by decide, by decide⟩ (su_lt3 hB) (su_k3 hB) rfl rfl rfl ?_
  refine c_atN (a := i) (b := 0) (k := 2 * i) (su_T3 hB) (by decide) (by omega) (by omega) ?_
  show mM G mX0_carryOutEntry 11 [some (.ref 189), some (.ref a), some (.int (nI i))] [.int (d.1 (a + 3 + 1) (2 * i)), .ref a, .ref 189] S1 d (0, 0) Q
  rw [show (d.1 (a + 3 + 1) (2 * i)) = (nI (pn s i)) from (hS.2.1 (2 * i) (by omega)).trans (okL_p hl hi).1]
  refine m_aload_n (pc' := 12) dX0_carryOutEntry_11 rfl rfl ?_
  refine m_getR (pc' := 15) fa_X0_carryOutEntry_19 dX0_carryOutEntry_12 (su_lt0 hB) (su_k0 hB) rfl (su_r0_1 hB) rfl ?_
  refine m_iload_n (pc' := 16) dX0_carryOutEntry_15 rfl rfl ?_
  refine m_iconst (pc' := 17) (v := 1) dX0_carryOutEntry_16 (by decide) rfl ?_
  refine m_callV (pc' := 20) (A := [.int (nI i), .int 1]) (rest := [.int (nI (pn s i)), .ref a, .ref 189]) (b := a + 3) cl_X0_carryOutEntry_25 dX0_carryOutEntry_17 rfl rfl (Nat.le_of_ble_eq_true rfl) ⟨by decide, by decide⟩ (su_lt3 hB) (su_k3 hB) rfl rfl rfl ?_
  refine c_atN (a := i) (b := 1) (k := 2 * i + 1) (su_T3 hB) (by decide) (by omega) (by omega) ?_
  show mM G mX0_carryOutEntry 20 [some (.ref 189), some (.ref a), some (.int (nI i))] [.int (d.1 (a + 3 + 1) (2 * i + 1)), .int (nI (pn s i)), .ref a, .ref 189] S1 d (0, 0) Q
  rw [show (d.1 (a + 3 + 1) (2 * i + 1)) = (nI (qn s i)) from (hS.2.1 (2 * i + 1) (by omega)).trans ((show s (44 + (2 * i + 1)) = s (45 + 2 * i) by congr 1; omega).trans (okL_q hl hi).1)]
  refine m_callV (pc' := 23) (A := [.ref a, .int (nI (pn s i)), .int (nI (qn s i))]) (rest := []) (b := 189) cl_X0_carryOutEntry_31 dX0_carryOutEntry_20 rfl rfl (Nat.le_of_ble_eq_true rfl) ⟨by decide, by decide⟩ (by decide) rfl rfl rfl rfl ?_
  refine c_carryOut (p := pn s i) (q := qn s i) (t := t) (h := h) (s := s) hB hS (okL_p hl hi).2 hc (okL_q hl hi).2 ht h1 h0 (fun e e0 eS e1 e9 e2 e3 e4 => ?_)
  show mM G mX0_carryOutEntry 23 [some (.ref 189), some (.ref a), some (.int (nI i))] [] S1 e (0, 0) Q
  refine m_vret dX0_carryOutEntry_23 rfl ⟨by decide, by decide⟩ ?_
  exact hQ e e0 eS e1 e9 e2 e3 e4
end CLS3
