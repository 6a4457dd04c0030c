/-! THE CLASS'S OWN METHODS (6): the history -/
section CLS6
variable {G : GP} {Q : Option Value → Sh → Dt → Prop} {d : Dt} {A : AS}
set_option maxHeartbeats 4000000 in
set_option maxRecDepth 100000 in
theorem c_place0  (hQ : Q (some (.ref 34)) S1 d) : mC G mX1_placeAt [.ref 32, .int 0] S1 d Q := by
  refine mC_of (by decide +kernel) ⟨_, rfl⟩ (Nat.le_of_ble_eq_true rfl) ?_
  show mM G mX1_placeAt 0 [some (.ref 32), some (.int 0)] [] S1 d (0, 0) Q
  refine m_iload_n (pc' := 1) dX1_placeAt_0 rfl rfl ?_
  refine m_if_lt (tgt := 22) (pc' := 4) dX1_placeAt_1 (by decide) rfl (fun h1 => absurd h1 (by decide)) (fun h1 => ?_)
  refine m_iload_n (pc' := 5) dX1_placeAt_4 rfl rfl ?_
  refine m_aload_n (pc' := 6) dX1_placeAt_5 rfl rfl ?_
  refine m_getR (pc' := 9) fa_X1_placeAt_11 dX1_placeAt_6 (by decide) rfl rfl rfl rfl ?_
  refine m_alenv (pc' := 10) (v := 5) dX1_placeAt_9 (by decide) rfl (by decide) (by decide) rfl (by decide) rfl ?_
  refine m_icmp_ge (tgt := 22) (pc' := 13) dX1_placeAt_10 (by decide) rfl (fun h10 => absurd h10 (by decide)) (fun h10 => ?_)
  refine m_aload_n (pc' := 14) dX1_placeAt_13 rfl rfl ?_
  refine m_getR (pc' := 17) fa_X1_placeAt_11 dX1_placeAt_14 (by decide) rfl rfl rfl rfl ?_
  refine m_iload_n (pc' := 18) dX1_placeAt_17 rfl rfl ?_
  refine m_aaldN (pc' := 19) (q := 34) (j := 0) (L := 5) dX1_placeAt_18 (by decide) rfl rfl rfl (by decide) (by decide) rfl rfl ?_
  refine m_goto (tgt := 23) dX1_placeAt_19 (by decide) ?_
  refine m_aret dX1_placeAt_23 rfl (Or.inl ⟨_, rfl⟩) ⟨by decide, by decide⟩ ?_
  exact hQ
set_option maxHeartbeats 4000000 in
set_option maxRecDepth 100000 in
theorem c_place1  (hQ : Q (some (.ref 65)) S1 d) : mC G mX1_placeAt [.ref 32, .int 1] S1 d Q := by
  refine mC_of (by decide +kernel) ⟨_, rfl⟩ (Nat.le_of_ble_eq_true rfl) ?_
  show mM G mX1_placeAt 0 [some (.ref 32), some (.int 1)] [] S1 d (0, 0) Q
  refine m_iload_n (pc' := 1) dX1_placeAt_0 rfl rfl ?_
  refine m_if_lt (tgt := 22) (pc' := 4) dX1_placeAt_1 (by decide) rfl (fun h1 => absurd h1 (by decide)) (fun h1 => ?_)
  refine m_iload_n (pc' := 5) dX1_placeAt_4 rfl rfl ?_
  refine m_aload_n (pc' := 6) dX1_placeAt_5 rfl rfl ?_
  refine m_getR (pc' := 9) fa_X1_placeAt_11 dX1_placeAt_6 (by decide) rfl rfl rfl rfl ?_
  refine m_alenv (pc' := 10) (v := 5) dX1_placeAt_9 (by decide) rfl (by decide) (by decide) rfl (by decide) rfl ?_
  refine m_icmp_ge (tgt := 22) (pc' := 13) dX1_placeAt_10 (by decide) rfl (fun h10 => absurd h10 (by decide)) (fun h10 => ?_)
  refine m_aload_n (pc' := 14) dX1_placeAt_13 rfl rfl ?_
  refine m_getR (pc' := 17) fa_X1_placeAt_11 dX1_placeAt_14 (by decide) rfl rfl rfl rfl ?_
  refine m_iload_n (pc' := 18) dX1_placeAt_17 rfl rfl ?_
  refine m_aaldN (pc' := 19) (q := 65) (j := 1) (L := 5) dX1_placeAt_18 (by decide) rfl rfl rfl (by decide) (by decide) rfl rfl ?_
  refine m_goto (tgt := 23) dX1_placeAt_19 (by decide) ?_
  refine m_aret dX1_placeAt_23 rfl (Or.inl ⟨_, rfl⟩) ⟨by decide, by decide⟩ ?_
  exact hQ
set_option maxHeartbeats 4000000 in
set_option maxRecDepth 100000 in
theorem c_place2  (hQ : Q (some (.ref 96)) S1 d) : mC G mX1_placeAt [.ref 32, .int 2] S1 d Q := by
  refine mC_of (by decide +kernel) ⟨_, rfl⟩ (Nat.le_of_ble_eq_true rfl) ?_
  show mM G mX1_placeAt 0 [some (.ref 32), some (.int 2)] [] S1 d (0, 0) Q
  refine m_iload_n (pc' := 1) dX1_placeAt_0 rfl rfl ?_
  refine m_if_lt (tgt := 22) (pc' := 4) dX1_placeAt_1 (by decide) rfl (fun h1 => absurd h1 (by decide)) (fun h1 => ?_)
  refine m_iload_n (pc' := 5) dX1_placeAt_4 rfl rfl ?_
  refine m_aload_n (pc' := 6) dX1_placeAt_5 rfl rfl ?_
  refine m_getR (pc' := 9) fa_X1_placeAt_11 dX1_placeAt_6 (by decide) rfl rfl rfl rfl ?_
  refine m_alenv (pc' := 10) (v := 5) dX1_placeAt_9 (by decide) rfl (by decide) (by decide) rfl (by decide) rfl ?_
  refine m_icmp_ge (tgt := 22) (pc' := 13) dX1_placeAt_10 (by decide) rfl (fun h10 => absurd h10 (by decide)) (fun h10 => ?_)
  refine m_aload_n (pc' := 14) dX1_placeAt_13 rfl rfl ?_
  refine m_getR (pc' := 17) fa_X1_placeAt_11 dX1_placeAt_14 (by decide) rfl rfl rfl rfl ?_
  refine m_iload_n (pc' := 18) dX1_placeAt_17 rfl rfl ?_
  refine m_aaldN (pc' := 19) (q := 96) (j := 2) (L := 5) dX1_placeAt_18 (by decide) rfl rfl rfl (by decide) (by decide) rfl rfl ?_
  refine m_goto (tgt := 23) dX1_placeAt_19 (by decide) ?_
  refine m_aret dX1_placeAt_23 rfl (Or.inl ⟨_, rfl⟩) ⟨by decide, by decide⟩ ?_
  exact hQ
set_option maxHeartbeats 4000000 in
set_option maxRecDepth 100000 in
theorem c_place3  (hQ : Q (some (.ref 127)) S1 d) : mC G mX1_placeAt [.ref 32, .int 3] S1 d Q := by
  refine mC_of (by decide +kernel) ⟨_, rfl⟩ (Nat.le_of_ble_eq_true rfl) ?_
  show mM G mX1_placeAt 0 [some (.ref 32), some (.int 3)] [] S1 d (0, 0) Q
  refine m_iload_n (pc' := 1) dX1_placeAt_0 rfl rfl ?_
  refine m_if_lt (tgt := 22) (pc' := 4) dX1_placeAt_1 (by decide) rfl (fun h1 => absurd h1 (by decide)) (fun h1 => ?_)
  refine m_iload_n (pc' := 5) dX1_placeAt_4 rfl rfl ?_
  refine m_aload_n (pc' := 6) dX1_placeAt_5 rfl rfl ?_
  refine m_getR (pc' := 9) fa_X1_placeAt_11 dX1_placeAt_6 (by decide) rfl rfl rfl rfl ?_
  refine m_alenv (pc' := 10) (v := 5) dX1_placeAt_9 (by decide) rfl (by decide) (by decide) rfl (by decide) rfl ?_
  refine m_icmp_ge (tgt := 22) (pc' := 13) dX1_placeAt_10 (by decide) rfl (fun h10 => absurd h10 (by decide)) (fun h10 => ?_)
  refine m_aload_n (pc' := 14) dX1_placeAt_13 rfl rfl ?_
  refine m_getR (pc' := 17) fa_X1_placeAt_11 dX1_placeAt_14 (by decide) rfl rfl rfl rfl ?_
  refine m_iload_n (pc' := 18) dX1_placeAt_17 rfl rfl ?_
  refine m_aaldN (pc' := 19) (q := 127) (j := 3) (L := 5) dX1_placeAt_18 (by decide) rfl rfl rfl (by decide) (by decide) rfl rfl ?_
  refine m_goto (tgt := 23) dX1_placeAt_19 (by decide) ?_
  refine m_aret dX1_placeAt_23 rfl (Or.inl ⟨_, rfl⟩) ⟨by decide, by decide⟩ ?_
  exact hQ
set_option maxHeartbeats 4000000 in
set_option maxRecDepth 100000 in
theorem c_place4  (hQ : Q (some (.ref 158)) S1 d) : mC G mX1_placeAt [.ref 32, .int 4] S1 d Q := by
  refine mC_of (by decide +kernel) ⟨_, rfl⟩ (Nat.le_of_ble_eq_true rfl) ?_
  show mM G mX1_placeAt 0 [some (.ref 32), some (.int 4)] [] S1 d (0, 0) Q
  refine m_iload_n (pc' := 1) dX1_placeAt_0 rfl rfl ?_
  refine m_if_lt (tgt := 22) (pc' := 4) dX1_placeAt_1 (by decide) rfl (fun h1 => absurd h1 (by decide)) (fun h1 => ?_)
  refine m_iload_n (pc' := 5) dX1_placeAt_4 rfl rfl ?_
  refine m_aload_n (pc' := 6) dX1_placeAt_5 rfl rfl ?_
  refine m_getR (pc' := 9) fa_X1_placeAt_11 dX1_placeAt_6 (by decide) rfl rfl rfl rfl ?_
  refine m_alenv (pc' := 10) (v := 5) dX1_placeAt_9 (by decide) rfl (by decide) (by decide) rfl (by decide) rfl ?_
  refine m_icmp_ge (tgt := 22) (pc' := 13) dX1_placeAt_10 (by decide) rfl (fun h10 => absurd h10 (by decide)) (fun h10 => ?_)
  refine m_aload_n (pc' := 14) dX1_placeAt_13 rfl rfl ?_
  refine m_getR (pc' := 17) fa_X1_placeAt_11 dX1_placeAt_14 (by decide) rfl rfl rfl rfl ?_
  refine m_iload_n (pc' := 18) dX1_placeAt_17 rfl rfl ?_
  refine m_aaldN (pc' := 19) (q := 158) (j := 4) (L := 5) dX1_placeAt_18 (by decide) rfl rfl rfl (by decide) (by decide) rfl rfl ?_
  refine m_goto (tgt := 23) dX1_placeAt_19 (by decide) ?_
  refine m_aret dX1_placeAt_23 rfl (Or.inl ⟨_, rfl⟩) ⟨by decide, by decide⟩ ?_
  exact hQ
theorem c_placeAt {i : Nat} (hi : i < 5) (hQ : Q (some (.ref (34 + 31 * i))) S1 d) : mC G mX1_placeAt [.ref 32, .int (nI i)] S1 d Q := by
  rcases (show i = 0 ∨ i = 1 ∨ i = 2 ∨ i = 3 ∨ i = 4 by omega) with rfl | rfl | rfl | rfl | rfl
  · exact c_place0 hQ
  · exact c_place1 hQ
  · exact c_place2 hQ
  · exact c_place3 hQ
  · exact c_place4 hQ
set_option maxHeartbeats 4000000 in
set_option maxRecDepth 100000 in
theorem c_keep  (hT1 : TR d 1 (a_s A) (a_h A)) (hH : HS d A) (hO : OK A) (hQ : ∀ d', fr kpE kpE d d' → HS d' (rec A (a_s A) (a_h A)) → Q none S1 d') : mC G mX1_keep [.ref 32, .ref 1] S1 d Q := by
  obtain ⟨nx, hnx, hx1, hx2, hm5, hT⟩ := hH
  have hN := st_mem hnx
  refine mC_of (by decide +kernel) ⟨_, rfl⟩ (Nat.le_of_ble_eq_true rfl) ?_
  show mM G mX1_keep 0 [some (.ref 32), some (.ref 1), none] [] S1 d (0, 0) Q
  refine m_aload_n (pc' := 1) dX1_keep_0 rfl rfl ?_
  refine m_aload_n (pc' := 2) dX1_keep_1 rfl rfl ?_
  refine m_getI (pc' := 5) fa_X1_keep_18 dX1_keep_2 (by decide) rfl rfl rfl ?_
  rw [show (d.1 32 1) = (nI nx) from hx1]
  refine m_callV (pc' := 8) (A := [.int (nI nx)]) (rest := []) (b := 32) cl_X1_keep_22 dX1_keep_5 rfl rfl (Nat.le_of_ble_eq_true rfl) ⟨by decide, by decide⟩ (by decide) rfl rfl rfl rfl ?_
  refine c_placeAt (i := nx) hnx ?_
  show mM G mX1_keep 8 [some (.ref 32), some (.ref 1), none] [.ref (34 + 31 * nx)] S1 d (0, 0) Q
  refine m_astore_n (pc' := 9) dX1_keep_8 (by decide) rfl rfl ?_
  refine m_aload_n (pc' := 10) dX1_keep_9 rfl rfl ?_
  refine m_ifnull (pc' := 13) dX1_keep_10 rfl ?_
  refine m_aload_n (pc' := 14) dX1_keep_13 rfl rfl ?_
  refine m_aload_n (pc' := 15) dX1_keep_14 rfl rfl ?_
  refine m_callV (pc' := 18) (A := [.ref 1]) (rest := []) (b := (34 + 31 * nx)) cl_X1_keep_26 dX1_keep_15 rfl rfl (Nat.le_of_ble_eq_true rfl) ⟨by decide, by decide⟩ (sa_lt0 hN) (sa_k0 hN) rfl rfl rfl ?_
  refine c_stcopy (a := (34 + 31 * nx)) (b := 1) (s := a_s A) (h := a_h A) hN (by decide) (by omega) hT1 hO.sn.1 hO.sn.2 (fun e e0 eT => ?_)
  show mM G mX1_keep 18 [some (.ref 32), some (.ref 1), some (.ref (34 + 31 * nx))] [] S1 e (0, 0) Q
  refine m_aload_n (pc' := 19) dX1_keep_18 rfl rfl ?_
  refine m_aload_n (pc' := 20) dX1_keep_19 rfl rfl ?_
  refine m_getI (pc' := 23) fa_X1_keep_18 dX1_keep_20 (by decide) rfl rfl rfl ?_
  rw [show (e.1 32 1) = (nI nx) from (e0.1 32 1 (by omega)).trans hx1]
  refine m_iconst (pc' := 24) (v := 1) dX1_keep_23 (by decide) rfl ?_
  refine m_iadd (pc' := 25) dX1_keep_24 rfl ?_
  rw [show ((nI nx) + 1) = (nI (nx + 1)) from nI_1 nx]
  refine m_iconst (pc' := 26) (v := 5) dX1_keep_25 (by decide) rfl ?_
  refine m_irem (pc' := 27) dX1_keep_26 (by decide) rfl ?_
  rw [show ((nI (nx + 1)) - (nI (nx + 1)) / 5 * 5) = (nI ((nx + 1) % 5)) from pk_rem (d := 5) (by omega) (by decide) (by decide)]
  refine m_putI (pc' := 30) (ty := .int) fa_X1_keep_18 dX1_keep_27 (by decide +kernel) rfl rfl (by decide) rfl rfl rfl ?_
  refine m_aload_n (pc' := 31) dX1_keep_30 rfl rfl ?_
  refine m_aload_n (pc' := 32) dX1_keep_31 rfl rfl ?_
  refine m_getI (pc' := 35) fa_X1_keep_30 dX1_keep_32 (by decide) rfl rfl rfl ?_
  show mM G mX1_keep 35 [some (.ref 32), some (.ref 1), some (.ref (34 + 31 * nx))] [.int (e.1 32 2), .ref 32] S1 (u2 e.1 32 1 (nI ((nx + 1) % 5)), e.2) (0, 0) Q
  rw [show (e.1 32 2) = (nI (a_m A)) from (e0.1 32 2 (by omega)).trans hx2]
  refine m_iconst (pc' := 36) (v := 1) dX1_keep_35 (by decide) rfl ?_
  refine m_iadd (pc' := 37) dX1_keep_36 rfl ?_
  rw [show ((nI (a_m A)) + 1) = (nI (a_m A + 1)) from nI_1 _]
  refine m_iconst (pc' := 38) (v := 5) dX1_keep_37 (by decide) rfl ?_
  refine m_mmin (pc' := 41) wm_X1_keep_33 dX1_keep_38 (Nat.le_of_ble_eq_true rfl) ⟨by decide, by decide⟩ rfl ?_
  rw [show (if 5 < (nI (a_m A + 1)) then 5 else (nI (a_m A + 1))) = (nI (hm (a_m A) + 1)) from min5 hm5]
  refine m_putI (pc' := 44) (ty := .int) fa_X1_keep_30 dX1_keep_41 (by decide +kernel) rfl rfl (by decide) rfl rfl rfl ?_
  refine m_vret dX1_keep_44 rfl ⟨by decide, by decide⟩ ?_
  have q2 : (u2 (u2 e.1 32 1 (nI ((nx + 1) % 5))) 32 2 (nI (hm (a_m A) + 1))) 32 2 = (nI (hm (a_m A) + 1)) := u2_same
  have q1 : (u2 (u2 e.1 32 1 (nI ((nx + 1) % 5))) 32 2 (nI (hm (a_m A) + 1))) 32 1 = (nI ((nx + 1) % 5)) := (u2_oth (show 1 ≠ 2 by decide) 32).trans u2_same
  have q0 : ∀ x j, x ≠ 32 → (u2 (u2 e.1 32 1 (nI ((nx + 1) % 5))) 32 2 (nI (hm (a_m A) + 1))) x j = e.1 x j := fun x j hx => (congrFun (u2_ne hx) j).trans (congrFun (u2_ne hx) j)
  exact hQ _ (((e0.mono (by intro x j q; omega) (by intro x j q; have : x = 34 + 31 * nx := q; omega)).i _ (by omega)).i _ (by omega)) (HS_keep hnx hm5 hT e0 eT q0 rfl q1 q2)
end CLS6
