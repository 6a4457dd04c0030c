/-! THE CLASS'S OWN METHODS (8): looks at a state -/
section CLS8
variable {G : GP} {Q : Option Value → Sh → Dt → Prop} {d : Dt} {s : SS} {h : UInt32}
set_option maxHeartbeats 4000000 in
set_option maxRecDepth 100000 in
theorem c_time  (hT : TR d 1 s h) (h76 : s 76 = s 88 + s 89 + s 90 + s 91) (hQ : Q (some (.int (s 76))) S1 d) : mC G mX6_time [.ref 1] S1 d Q := by
  refine mC_of (by decide +kernel) ⟨_, rfl⟩ (Nat.le_of_ble_eq_true rfl) ?_
  show mM G mX6_time 0 [some (.ref 1)] [] S1 d (0, 0) Q
  refine m_aload_n (pc' := 1) dX6_time_0 rfl rfl ?_
  refine m_getR (pc' := 4) fa_X6_time_34 dX6_time_1 (by decide) rfl rfl rfl rfl ?_
  refine m_iconst (pc' := 5) (v := 0) dX6_time_4 (by decide) rfl ?_
  refine m_iconst (pc' := 6) (v := 0) dX6_time_5 (by decide) rfl ?_
  refine m_callV (pc' := 9) (A := [.int 0, .int 0]) (rest := []) (b := 14) cl_X6_time_69 dX6_time_6 rfl rfl (Nat.le_of_ble_eq_true rfl) ⟨by decide, by decide⟩ (by decide) rfl rfl rfl rfl ?_
  refine c_atN (t := 14) (W := 1) (L := 6) (a := 0) (b := 0) (k := 0) (isT_lit (by decide +kernel)) (by decide) (by decide) (by decide) ?_
  show mM G mX6_time 9 [some (.ref 1)] [.int (d.1 15 0)] S1 d (0, 0) Q
  rw [show (d.1 15 0) = (s 88) from hT.2.2.2.1 0 (by decide)]
  refine m_aload_n (pc' := 10) dX6_time_9 rfl rfl ?_
  refine m_getR (pc' := 13) fa_X6_time_34 dX6_time_10 (by decide) rfl rfl rfl rfl ?_
  refine m_iconst (pc' := 14) (v := 1) dX6_time_13 (by decide) rfl ?_
  refine m_iconst (pc' := 15) (v := 0) dX6_time_14 (by decide) rfl ?_
  refine m_callV (pc' := 18) (A := [.int 1, .int 0]) (rest := [.int (s 88)]) (b := 14) cl_X6_time_69 dX6_time_15 rfl rfl (Nat.le_of_ble_eq_true rfl) ⟨by decide, by decide⟩ (by decide) rfl rfl rfl rfl ?_
  refine c_atN (t := 14) (W := 1) (L := 6) (a := 1) (b := 0) (k := 1) (isT_lit (by decide +kernel)) (by decide) (by decide) (by decide) ?_
  show mM G mX6_time 18 [some (.ref 1)] [.int (d.1 15 1), .int (s 88)] S1 d (0, 0) Q
  rw [show (d.1 15 1) = (s 89) from hT.2.2.2.1 1 (by decide)]
  refine m_iadd (pc' := 19) dX6_time_18 rfl ?_
  refine m_aload_n (pc' := 20) dX6_time_19 rfl rfl ?_
  refine m_getR (pc' := 23) fa_X6_time_34 dX6_time_20 (by decide) rfl rfl rfl rfl ?_
  refine m_iconst (pc' := 24) (v := 2) dX6_time_23 (by decide) rfl ?_
  refine m_iconst (pc' := 25) (v := 0) dX6_time_24 (by decide) rfl ?_
  refine m_callV (pc' := 28) (A := [.int 2, .int 0]) (rest := [.int ((s 88) + (s 89))]) (b := 14) cl_X6_time_69 dX6_time_25 rfl rfl (Nat.le_of_ble_eq_true rfl) ⟨by decide, by decide⟩ (by decide) rfl rfl rfl rfl ?_
  refine c_atN (t := 14) (W := 1) (L := 6) (a := 2) (b := 0) (k := 2) (isT_lit (by decide +kernel)) (by decide) (by decide) (by decide) ?_
  show mM G mX6_time 28 [some (.ref 1)] [.int (d.1 15 2), .int ((s 88) + (s 89))] S1 d (0, 0) Q
  rw [show (d.1 15 2) = (s 90) from hT.2.2.2.1 2 (by decide)]
  refine m_iadd (pc' := 29) dX6_time_28 rfl ?_
  refine m_aload_n (pc' := 30) dX6_time_29 rfl rfl ?_
  refine m_getR (pc' := 33) fa_X6_time_34 dX6_time_30 (by decide) rfl rfl rfl rfl ?_
  refine m_iconst (pc' := 34) (v := 3) dX6_time_33 (by decide) rfl ?_
  refine m_iconst (pc' := 35) (v := 0) dX6_time_34 (by decide) rfl ?_
  refine m_callV (pc' := 38) (A := [.int 3, .int 0]) (rest := [.int (((s 88) + (s 89)) + (s 90))]) (b := 14) cl_X6_time_69 dX6_time_35 rfl rfl (Nat.le_of_ble_eq_true rfl) ⟨by decide, by decide⟩ (by decide) rfl rfl rfl rfl ?_
  refine c_atN (t := 14) (W := 1) (L := 6) (a := 3) (b := 0) (k := 3) (isT_lit (by decide +kernel)) (by decide) (by decide) (by decide) ?_
  show mM G mX6_time 38 [some (.ref 1)] [.int (d.1 15 3), .int (((s 88) + (s 89)) + (s 90))] S1 d (0, 0) Q
  rw [show (d.1 15 3) = (s 91) from hT.2.2.2.1 3 (by decide)]
  refine m_iadd (pc' := 39) dX6_time_38 rfl ?_
  refine m_iret dX6_time_39 rfl rfl ⟨by decide, by decide⟩ ?_
  exact q_i hQ h76.symm
set_option maxHeartbeats 4000000 in
set_option maxRecDepth 100000 in
theorem c_addTo {i : Nat} {v : Int32} (hi : i < 6) (hQ : Q none S1 (u2 d.1 15 i (d.1 15 i + v), d.2)) : mC G mX6_addTo [.ref 1, .int (nI i), .int v] S1 d Q := by
  refine mC_of (by decide +kernel) ⟨_, rfl⟩ (Nat.le_of_ble_eq_true rfl) ?_
  show mM G mX6_addTo 0 [some (.ref 1), some (.int (nI i)), some (.int v)] [] S1 d (0, 0) Q
  refine m_aload_n (pc' := 1) dX6_addTo_0 rfl rfl ?_
  refine m_getR (pc' := 4) fa_X6_addTo_34 dX6_addTo_1 (by decide) rfl rfl rfl rfl ?_
  refine m_iload_n (pc' := 5) dX6_addTo_4 rfl rfl ?_
  refine m_iconst (pc' := 6) (v := 0) dX6_addTo_5 (by decide) rfl ?_
  refine m_aload_n (pc' := 7) dX6_addTo_6 rfl rfl ?_
  refine m_getR (pc' := 10) fa_X6_addTo_34 dX6_addTo_7 (by decide) rfl rfl rfl rfl ?_
  refine m_iload_n (pc' := 11) dX6_addTo_10 rfl rfl ?_
  refine m_iconst (pc' := 12) (v := 0) dX6_addTo_11 (by decide) rfl ?_
  refine m_callV (pc' := 15) (A := [.int (nI i), .int 0]) (rest := [.int 0, .int (nI i), .ref 14]) (b := 14) cl_X6_addTo_69 dX6_addTo_12 rfl rfl (Nat.le_of_ble_eq_true rfl) ⟨by decide, by decide⟩ (by decide) rfl rfl rfl rfl ?_
  refine c_atN (t := 14) (W := 1) (L := 6) (a := i) (b := 0) (k := i) (isT_lit (by decide +kernel)) (by decide) (by omega) (by omega) ?_
  show mM G mX6_addTo 15 [some (.ref 1), some (.int (nI i)), some (.int v)] [.int (d.1 15 i), .int 0, .int (nI i), .ref 14] S1 d (0, 0) Q
  refine m_iload_n (pc' := 16) dX6_addTo_15 rfl rfl ?_
  refine m_iadd (pc' := 17) dX6_addTo_16 rfl ?_
  refine m_callV (pc' := 20) (A := [.int (nI i), .int 0, .int ((d.1 15 i) + v)]) (rest := []) (b := 14) cl_X6_addTo_48 dX6_addTo_17 rfl rfl (Nat.le_of_ble_eq_true rfl) ⟨by decide, by decide⟩ (by decide) rfl rfl rfl rfl ?_
  refine c_putN (t := 14) (W := 1) (L := 6) (a := i) (b := 0) (k := i) (isT_lit (by decide +kernel)) (by decide) (by omega) (by omega) ?_
  show mM G mX6_addTo 20 [some (.ref 1), some (.int (nI i)), some (.int v)] [] S1 (u2 d.1 15 i ((d.1 15 i) + v), d.2) (0, 0) Q
  refine m_vret dX6_addTo_20 rfl ⟨by decide, by decide⟩ ?_
  exact hQ
set_option maxHeartbeats 4000000 in
set_option maxRecDepth 100000 in
theorem c_snapAt0  (hQ : Q (some (.ref 16)) S1 d) : mC G mX6_snapshotAt [.ref 1, .int 0] S1 d Q := by
  refine mC_of (by decide +kernel) ⟨_, rfl⟩ (Nat.le_of_ble_eq_true rfl) ?_
  show mM G mX6_snapshotAt 0 [some (.ref 1), some (.int 0)] [] S1 d (0, 0) Q
  refine m_iload_n (pc' := 1) dX6_snapshotAt_0 rfl rfl ?_
  refine m_if_ne (tgt := 11) (pc' := 4) dX6_snapshotAt_1 (by decide) rfl (fun h1 => absurd h1 (by decide)) (fun h1 => ?_)
  refine m_aload_n (pc' := 5) dX6_snapshotAt_4 rfl rfl ?_
  refine m_getR (pc' := 8) fa_X6_snapshotAt_40 dX6_snapshotAt_5 (by decide) rfl rfl rfl rfl ?_
  refine m_goto (tgt := 15) dX6_snapshotAt_8 (by decide) ?_
  refine m_aret dX6_snapshotAt_15 rfl (Or.inl ⟨_, rfl⟩) ⟨by decide, by decide⟩ ?_
  exact hQ
set_option maxHeartbeats 4000000 in
set_option maxRecDepth 100000 in
theorem c_snapAt1  (hQ : Q (some (.ref 24)) S1 d) : mC G mX6_snapshotAt [.ref 1, .int 1] S1 d Q := by
  refine mC_of (by decide +kernel) ⟨_, rfl⟩ (Nat.le_of_ble_eq_true rfl) ?_
  show mM G mX6_snapshotAt 0 [some (.ref 1), some (.int 1)] [] S1 d (0, 0) Q
  refine m_iload_n (pc' := 1) dX6_snapshotAt_0 rfl rfl ?_
  refine m_if_ne (tgt := 11) (pc' := 4) dX6_snapshotAt_1 (by decide) rfl (fun h1 => ?_) (fun h1 => absurd h1 (by decide))
  refine m_aload_n (pc' := 12) dX6_snapshotAt_11 rfl rfl ?_
  refine m_getR (pc' := 15) fa_X6_snapshotAt_44 dX6_snapshotAt_12 (by decide) rfl rfl rfl rfl ?_
  refine m_aret dX6_snapshotAt_15 rfl (Or.inl ⟨_, rfl⟩) ⟨by decide, by decide⟩ ?_
  exact hQ
set_option maxHeartbeats 4000000 in
set_option maxRecDepth 100000 in
theorem c_snapsTaken  (hT : TR d 1 s h) (h254 : s 254 = 0 ∨ s 254 = 1) (h331 : s 331 = 0 ∨ s 331 = 1) (hQ : Q (some (.int (s 254 + s 331))) S1 d) : mC G mX6_snapshotsTaken [.ref 1] S1 d Q := by
  refine mC_of (by decide +kernel) ⟨_, rfl⟩ (Nat.le_of_ble_eq_true rfl) ?_
  show mM G mX6_snapshotsTaken 0 [some (.ref 1)] [] S1 d (0, 0) Q
  refine m_aload_n (pc' := 1) dX6_snapshotsTaken_0 rfl rfl ?_
  refine m_getR (pc' := 4) fa_X6_snapshotsTaken_40 dX6_snapshotsTaken_1 (by decide) rfl rfl rfl rfl ?_
  refine m_getI (pc' := 7) fa_X6_snapshotsTaken_73 dX6_snapshotsTaken_4 (by decide) rfl rfl rfl ?_
  rw [show (d.1 16 1) = (s 254) from hT.2.2.2.2.1.1]
  refine m_if_eq (tgt := 14) (pc' := 10) dX6_snapshotsTaken_7 (by decide) rfl (fun h7 => ?_) (fun h7 => ?_)
  · skip
    refine m_iconst (pc' := 15) (v := 0) dX6_snapshotsTaken_14 (by decide) rfl ?_
    refine m_aload_n (pc' := 16) dX6_snapshotsTaken_15 rfl rfl ?_
    refine m_getR (pc' := 19) fa_X6_snapshotsTaken_44 dX6_snapshotsTaken_16 (by decide) rfl rfl rfl rfl ?_
    refine m_getI (pc' := 22) fa_X6_snapshotsTaken_73 dX6_snapshotsTaken_19 (by decide) rfl rfl rfl ?_
    rw [show (d.1 24 1) = (s 331) from hT.2.2.2.2.2.1.1]
    refine m_if_eq (tgt := 29) (pc' := 25) dX6_snapshotsTaken_22 (by decide) rfl (fun h22 => ?_) (fun h22 => ?_)
    · skip
      refine m_iconst (pc' := 30) (v := 0) dX6_snapshotsTaken_29 (by decide) rfl ?_
      refine m_iadd (pc' := 31) dX6_snapshotsTaken_30 rfl ?_
      show mM G mX6_snapshotsTaken 31 [some (.ref 1)] [.int 0] S1 d (0, 0) Q
      refine m_iret dX6_snapshotsTaken_31 rfl rfl ⟨by decide, by decide⟩ ?_
      have ea : s 254 = 0 := h7
      have eb : s 331 = 0 := h22
      exact q_i hQ (by rw [ea, eb]; rfl)
    · skip
      refine m_iconst (pc' := 26) (v := 1) dX6_snapshotsTaken_25 (by decide) rfl ?_
      refine m_goto (tgt := 30) dX6_snapshotsTaken_26 (by decide) ?_
      refine m_iadd (pc' := 31) dX6_snapshotsTaken_30 rfl ?_
      show mM G mX6_snapshotsTaken 31 [some (.ref 1)] [.int 1] S1 d (0, 0) Q
      refine m_iret dX6_snapshotsTaken_31 rfl rfl ⟨by decide, by decide⟩ ?_
      have ea : s 254 = 0 := h7
      have eb : s 331 = 1 := h331.resolve_left h22
      exact q_i hQ (by rw [ea, eb]; rfl)
  · skip
    refine m_iconst (pc' := 11) (v := 1) dX6_snapshotsTaken_10 (by decide) rfl ?_
    refine m_goto (tgt := 15) dX6_snapshotsTaken_11 (by decide) ?_
    refine m_aload_n (pc' := 16) dX6_snapshotsTaken_15 rfl rfl ?_
    refine m_getR (pc' := 19) fa_X6_snapshotsTaken_44 dX6_snapshotsTaken_16 (by decide) rfl rfl rfl rfl ?_
    refine m_getI (pc' := 22) fa_X6_snapshotsTaken_73 dX6_snapshotsTaken_19 (by decide) rfl rfl rfl ?_
    rw [show (d.1 24 1) = (s 331) from hT.2.2.2.2.2.1.1]
    refine m_if_eq (tgt := 29) (pc' := 25) dX6_snapshotsTaken_22 (by decide) rfl (fun h22 => ?_) (fun h22 => ?_)
    · skip
      refine m_iconst (pc' := 30) (v := 0) dX6_snapshotsTaken_29 (by decide) rfl ?_
      refine m_iadd (pc' := 31) dX6_snapshotsTaken_30 rfl ?_
      show mM G mX6_snapshotsTaken 31 [some (.ref 1)] [.int 1] S1 d (0, 0) Q
      refine m_iret dX6_snapshotsTaken_31 rfl rfl ⟨by decide, by decide⟩ ?_
      have ea : s 254 = 1 := h254.resolve_left h7
      have eb : s 331 = 0 := h22
      exact q_i hQ (by rw [ea, eb]; rfl)
    · skip
      refine m_iconst (pc' := 26) (v := 1) dX6_snapshotsTaken_25 (by decide) rfl ?_
      refine m_goto (tgt := 30) dX6_snapshotsTaken_26 (by decide) ?_
      refine m_iadd (pc' := 31) dX6_snapshotsTaken_30 rfl ?_
      show mM G mX6_snapshotsTaken 31 [some (.ref 1)] [.int 2] S1 d (0, 0) Q
      refine m_iret dX6_snapshotsTaken_31 rfl rfl ⟨by decide, by decide⟩ ?_
      have ea : s 254 = 1 := h254.resolve_left h7
      have eb : s 331 = 1 := h331.resolve_left h22
      exact q_i hQ (by rw [ea, eb]; rfl)
set_option maxHeartbeats 4000000 in
set_option maxRecDepth 100000 in
theorem c_corrected {c r0 : Nat} (hT : TR d 1 s h) (hc8 : c < 8) (hr : ∀ p, p < 10 → okr s p) (h40 : s 40 = nI r0) (h41 : r0 ≤ 4095) (hQ : Q (some (.int (cor s (s (78 + c)) (s 86) (s 87)))) S1 d) : mC G mX6_correctedReading [.ref 1, .int (nI c)] S1 d Q := by
  refine mC_of (by decide +kernel) ⟨_, rfl⟩ (Nat.le_of_ble_eq_true rfl) ?_
  show mM G mX6_correctedReading 0 [some (.ref 1), some (.int (nI c)), none, none, none] [] S1 d (0, 0) Q
  refine m_aload_n (pc' := 1) dX6_correctedReading_0 rfl rfl ?_
  refine m_getR (pc' := 4) fa_X6_correctedReading_30 dX6_correctedReading_1 (by decide) rfl rfl rfl rfl ?_
  refine m_iload_n (pc' := 5) dX6_correctedReading_4 rfl rfl ?_
  refine m_iconst (pc' := 6) (v := 0) dX6_correctedReading_5 (by decide) rfl ?_
  refine m_callV (pc' := 9) (A := [.int (nI c), .int 0]) (rest := []) (b := 12) cl_X6_correctedReading_69 dX6_correctedReading_6 rfl rfl (Nat.le_of_ble_eq_true rfl) ⟨by decide, by decide⟩ (by decide) rfl rfl rfl rfl ?_
  refine c_atN (t := 12) (W := 1) (L := 10) (a := c) (b := 0) (k := c) (isT_lit (by decide +kernel)) (by decide) (by omega) (by omega) ?_
  show mM G mX6_correctedReading 9 [some (.ref 1), some (.int (nI c)), none, none, none] [.int (d.1 13 c)] S1 d (0, 0) Q
  rw [show (d.1 13 c) = (lat s c) from hT.2.2.1 c (by omega)]
  refine m_istore_n (pc' := 10) dX6_correctedReading_9 (by decide) rfl rfl ?_
  refine m_aload_n (pc' := 11) dX6_correctedReading_10 rfl rfl ?_
  refine m_getR (pc' := 14) fa_X6_correctedReading_30 dX6_correctedReading_11 (by decide) rfl rfl rfl rfl ?_
  refine m_bipush (pc' := 16) (v := 8) dX6_correctedReading_14 (by decide) rfl ?_
  refine m_iconst (pc' := 17) (v := 0) dX6_correctedReading_16 (by decide) rfl ?_
  refine m_callV (pc' := 20) (A := [.int 8, .int 0]) (rest := []) (b := 12) cl_X6_correctedReading_69 dX6_correctedReading_17 rfl rfl (Nat.le_of_ble_eq_true rfl) ⟨by decide, by decide⟩ (by decide) rfl rfl rfl rfl ?_
  refine c_atN (t := 12) (W := 1) (L := 10) (a := 8) (b := 0) (k := 8) (isT_lit (by decide +kernel)) (by decide) (by omega) (by omega) ?_
  show mM G mX6_correctedReading 20 [some (.ref 1), some (.int (nI c)), some (.int (lat s c)), none, none] [.int (d.1 13 8)] S1 d (0, 0) Q
  rw [show (d.1 13 8) = (lat s 8) from hT.2.2.1 8 (by omega)]
  refine m_istore_n (pc' := 21) dX6_correctedReading_20 (by decide) rfl rfl ?_
  refine m_aload_n (pc' := 22) dX6_correctedReading_21 rfl rfl ?_
  refine m_getR (pc' := 25) fa_X6_correctedReading_30 dX6_correctedReading_22 (by decide) rfl rfl rfl rfl ?_
  refine m_bipush (pc' := 27) (v := 9) dX6_correctedReading_25 (by decide) rfl ?_
  refine m_iconst (pc' := 28) (v := 0) dX6_correctedReading_27 (by decide) rfl ?_
  refine m_callV (pc' := 31) (A := [.int 9, .int 0]) (rest := []) (b := 12) cl_X6_correctedReading_69 dX6_correctedReading_28 rfl rfl (Nat.le_of_ble_eq_true rfl) ⟨by decide, by decide⟩ (by decide) rfl rfl rfl rfl ?_
  refine c_atN (t := 12) (W := 1) (L := 10) (a := 9) (b := 0) (k := 9) (isT_lit (by decide +kernel)) (by decide) (by omega) (by omega) ?_
  show mM G mX6_correctedReading 31 [some (.ref 1), some (.int (nI c)), some (.int (lat s c)), some (.int (lat s 8)), none] [.int (d.1 13 9)] S1 d (0, 0) Q
  rw [show (d.1 13 9) = (lat s 9) from hT.2.2.1 9 (by omega)]
  refine m_istore (pc' := 33) dX6_correctedReading_31 (by decide) rfl rfl ?_
  refine m_iload_n (pc' := 34) dX6_correctedReading_33 rfl rfl ?_
  refine m_ldc (pc' := 36) dX6_correctedReading_34 kc_X6_correctedReading_47 rfl ?_
  refine m_icmp_eq (tgt := 58) (pc' := 39) dX6_correctedReading_36 (by decide) rfl (fun h36 => ?_) (fun h36 => ?_)
  · skip
    refine m_ldc (pc' := 60) dX6_correctedReading_58 kc_X6_correctedReading_47 rfl ?_
    refine m_iret dX6_correctedReading_60 rfl rfl ⟨by decide, by decide⟩ ?_
    exact q_i hQ ((cor_eq (hr _ (by omega)) (hr 8 (by decide)) (hr 9 (by decide)) h40 h41).trans (if_pos (Or.inl h36))).symm
  · skip
    refine m_iload_n (pc' := 40) dX6_correctedReading_39 rfl rfl ?_
    refine m_ldc (pc' := 42) dX6_correctedReading_40 kc_X6_correctedReading_47 rfl ?_
    refine m_icmp_eq (tgt := 58) (pc' := 45) dX6_correctedReading_42 (by decide) rfl (fun h42 => ?_) (fun h42 => ?_)
    · skip
      refine m_ldc (pc' := 60) dX6_correctedReading_58 kc_X6_correctedReading_47 rfl ?_
      refine m_iret dX6_correctedReading_60 rfl rfl ⟨by decide, by decide⟩ ?_
      exact q_i hQ ((cor_eq (hr _ (by omega)) (hr 8 (by decide)) (hr 9 (by decide)) h40 h41).trans (if_pos (Or.inr (Or.inl h42)))).symm
    · skip
      refine m_iload (pc' := 47) dX6_correctedReading_45 rfl rfl ?_
      refine m_ldc (pc' := 49) dX6_correctedReading_47 kc_X6_correctedReading_47 rfl ?_
      refine m_icmp_eq (tgt := 58) (pc' := 52) dX6_correctedReading_49 (by decide) rfl (fun h49 => ?_) (fun h49 => ?_)
      · skip
        refine m_ldc (pc' := 60) dX6_correctedReading_58 kc_X6_correctedReading_47 rfl ?_
        refine m_iret dX6_correctedReading_60 rfl rfl ⟨by decide, by decide⟩ ?_
        exact q_i hQ ((cor_eq (hr _ (by omega)) (hr 8 (by decide)) (hr 9 (by decide)) h40 h41).trans (if_pos (Or.inr (Or.inr (Or.inl h49))))).symm
      · skip
        refine m_iload (pc' := 54) dX6_correctedReading_52 rfl rfl ?_
        refine m_iload_n (pc' := 55) dX6_correctedReading_54 rfl rfl ?_
        refine m_icmp_gt (tgt := 61) (pc' := 58) dX6_correctedReading_55 (by decide) rfl (fun h55 => ?_) (fun h55 => ?_)
        · skip
          refine m_iload_n (pc' := 62) dX6_correctedReading_61 rfl rfl ?_
          refine m_iload_n (pc' := 63) dX6_correctedReading_62 rfl rfl ?_
          refine m_isub (pc' := 64) dX6_correctedReading_63 rfl ?_
          refine m_aload_n (pc' := 65) dX6_correctedReading_64 rfl rfl ?_
          refine m_getR (pc' := 68) fa_X6_correctedReading_12 dX6_correctedReading_65 (by decide) rfl rfl rfl rfl ?_
          refine m_iconst (pc' := 69) (v := 0) dX6_correctedReading_68 (by decide) rfl ?_
          refine m_callV (pc' := 72) (A := [.int 0]) (rest := [.int ((lat s c) - (lat s 8))]) (b := 2) cl_X6_correctedReading_103 dX6_correctedReading_69 rfl rfl (Nat.le_of_ble_eq_true rfl) ⟨by decide, by decide⟩ (by decide) rfl rfl rfl rfl ?_
          refine c_setting (w := 0) (s := s) (by decide) hT.1 (by decide) ?_
          show mM G mX6_correctedReading 72 [some (.ref 1), some (.int (nI c)), some (.int (lat s c)), some (.int (lat s 8)), some (.int (lat s 9))] [.int (s 40), .int ((lat s c) - (lat s 8))] S1 d (0, 0) Q
          refine m_imul (pc' := 73) dX6_correctedReading_72 rfl ?_
          refine m_iload (pc' := 75) dX6_correctedReading_73 rfl rfl ?_
          refine m_iload_n (pc' := 76) dX6_correctedReading_75 rfl rfl ?_
          refine m_isub (pc' := 77) dX6_correctedReading_76 rfl ?_
          refine m_callS (pc' := 80) (A := [.int (((lat s c) - (lat s 8)) * (s 40)), .int ((lat s 9) - (lat s 8))]) (rest := []) cl_X6_correctedReading_106 dX6_correctedReading_77 rfl rfl (Nat.le_of_ble_eq_true rfl) ⟨by decide, by decide⟩ rfl rfl ?_
          refine c_floorDiv (sub_nz h55) ?_
          show mM G mX6_correctedReading 80 [some (.ref 1), some (.int (nI c)), some (.int (lat s c)), some (.int (lat s 8)), some (.int (lat s 9))] [.int (fdl (((lat s c) - (lat s 8)) * (s 40)) ((lat s 9) - (lat s 8)))] S1 d (0, 0) Q
          refine m_iret dX6_correctedReading_80 rfl rfl ⟨by decide, by decide⟩ ?_
          exact q_i hQ ((cor_eq (hr _ (by omega)) (hr 8 (by decide)) (hr 9 (by decide)) h40 h41).trans (if_neg (fun q => q.elim h36 (fun q => q.elim h42 (fun q => q.elim h49 (fun q => Int32.not_lt.mpr q h55)))))).symm
        · skip
          refine m_ldc (pc' := 60) dX6_correctedReading_58 kc_X6_correctedReading_47 rfl ?_
          refine m_iret dX6_correctedReading_60 rfl rfl ⟨by decide, by decide⟩ ?_
          exact q_i hQ ((cor_eq (hr _ (by omega)) (hr 8 (by decide)) (hr 9 (by decide)) h40 h41).trans (if_pos (Or.inr (Or.inr (Or.inr (Int32.not_lt.mp h55)))))).symm
set_option maxHeartbeats 4000000 in
set_option maxRecDepth 100000 in
theorem c_part {x w nx : Nat} (h9 : d.1 9 1 = nI nx) (hnx : nx < 32) (hx : x < 32) (hw : w < 5) (hQ : Q (some (.int (d.1 11 (5 * ((nx + 31 - x) % 32) + w)))) S1 d) : mC G mX2_part [.ref 9, .int (nI x), .int (nI w)] S1 d Q := by
  refine mC_of (by decide +kernel) ⟨_, rfl⟩ (Nat.le_of_ble_eq_true rfl) ?_
  show mM G mX2_part 0 [some (.ref 9), some (.int (nI x)), some (.int (nI w))] [] S1 d (0, 0) Q
  refine m_aload_n (pc' := 1) dX2_part_0 rfl rfl ?_
  refine m_getR (pc' := 4) fa_X2_part_14 dX2_part_1 (by decide) rfl rfl rfl rfl ?_
  refine m_aload_n (pc' := 5) dX2_part_4 rfl rfl ?_
  refine m_getI (pc' := 8) fa_X2_part_24 dX2_part_5 (by decide) rfl rfl rfl ?_
  rw [show (d.1 9 1) = (nI nx) from h9]
  refine m_iconst (pc' := 9) (v := 1) dX2_part_8 (by decide) rfl ?_
  refine m_isub (pc' := 10) dX2_part_9 rfl ?_
  refine m_iload_n (pc' := 11) dX2_part_10 rfl rfl ?_
  refine m_isub (pc' := 12) dX2_part_11 rfl ?_
  refine m_bipush (pc' := 14) (v := 32) dX2_part_12 (by decide) rfl ?_
  refine m_callS (pc' := 17) (A := [.int (((nI nx) - 1) - (nI x)), .int 32]) (rest := [.ref 10]) cl_X2_part_56 dX2_part_14 rfl rfl (Nat.le_of_ble_eq_true rfl) ⟨by decide, by decide⟩ rfl rfl ?_
  refine c_floorMod (by decide) ?_
  show mM G mX2_part 17 [some (.ref 9), some (.int (nI x)), some (.int (nI w))] [.int (fml (((nI nx) - 1) - (nI x)) 32), .ref 10] S1 d (0, 0) Q
  rw [show (fml (((nI nx) - 1) - (nI x)) 32) = (nI ((nx + 31 - x) % 32)) from fml_32 hnx hx]
  refine m_iload_n (pc' := 18) dX2_part_17 rfl rfl ?_
  refine m_callV (pc' := 21) (A := [.int (nI ((nx + 31 - x) % 32)), .int (nI w)]) (rest := []) (b := 10) cl_X2_part_59 dX2_part_18 rfl rfl (Nat.le_of_ble_eq_true rfl) ⟨by decide, by decide⟩ (by decide) rfl rfl rfl rfl ?_
  refine c_atN (t := 10) (W := 5) (L := 160) (a := (nx + 31 - x) % 32) (b := w) (k := 5 * ((nx + 31 - x) % 32) + w) (isT_lit (by decide +kernel)) (by decide) (by omega) (by omega) ?_
  show mM G mX2_part 21 [some (.ref 9), some (.int (nI x)), some (.int (nI w))] [.int (d.1 11 (5 * ((nx + 31 - x) % 32) + w))] S1 d (0, 0) Q
  refine m_iret dX2_part_21 rfl rfl ⟨by decide, by decide⟩ ?_
  exact hQ
end CLS8
