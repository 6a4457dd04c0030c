/-! THE CHECK'S OWN METHODS (1): reads -/
section MOD1
variable {G : GP} {Q : Option Value → Sh → Dt → Prop} {d : Dt} {s : SS}
set_option maxHeartbeats 4000000 in
set_option maxRecDepth 100000 in
theorem c_in {v a b : Int32} (hQ : Q (some (.int (bin v a b))) S1 d) : mC G mX11_in [.int v, .int a, .int b] S1 d Q := by
  refine mC_of (by decide +kernel) ⟨_, rfl⟩ (Nat.le_of_ble_eq_true rfl) ?_
  show mM G mX11_in 0 [some (.int v), some (.int a), some (.int b)] [] S1 d (0, 0) Q
  refine m_iload_n (pc' := 1) dX11_in_0 rfl rfl ?_
  refine m_iload_n (pc' := 2) dX11_in_1 rfl rfl ?_
  refine m_icmp_lt (tgt := 14) (pc' := 5) dX11_in_2 (by decide) rfl (fun h2 => ?_) (fun h2 => ?_)
  · skip
    refine m_iconst (pc' := 15) (v := 0) dX11_in_14 (by decide) rfl ?_
    refine m_iret dX11_in_15 rfl (by decide) ⟨by decide, by decide⟩ ?_
    exact q_i hQ (if_neg (fun h => Int32.not_lt.mpr h.1 h2)).symm
  · skip
    refine m_iload_n (pc' := 6) dX11_in_5 rfl rfl ?_
    refine m_iload_n (pc' := 7) dX11_in_6 rfl rfl ?_
    refine m_icmp_gt (tgt := 14) (pc' := 10) dX11_in_7 (by decide) rfl (fun h7 => ?_) (fun h7 => ?_)
    · skip
      refine m_iconst (pc' := 15) (v := 0) dX11_in_14 (by decide) rfl ?_
      refine m_iret dX11_in_15 rfl (by decide) ⟨by decide, by decide⟩ ?_
      exact q_i hQ (if_neg (fun h => Int32.not_lt.mpr h.2 h7)).symm
    · skip
      refine m_iconst (pc' := 11) (v := 1) dX11_in_10 (by decide) rfl ?_
      refine m_goto (tgt := 15) dX11_in_11 (by decide) ?_
      refine m_iret dX11_in_15 rfl (by decide) ⟨by decide, by decide⟩ ?_
      exact q_i hQ (if_pos ⟨Int32.not_lt.mp h2, Int32.not_lt.mp h7⟩).symm
set_option maxHeartbeats 4000000 in
set_option maxRecDepth 100000 in
theorem c_within {v a b : Int32} (hQ : Q (some (.int (bin v a b))) S1 d) : mC G mX10_isWithin [.int v, .int a, .int b] S1 d Q := by
  refine mC_of (by decide +kernel) ⟨_, rfl⟩ (Nat.le_of_ble_eq_true rfl) ?_
  show mM G mX10_isWithin 0 [some (.int v), some (.int a), some (.int b)] [] S1 d (0, 0) Q
  refine m_iload_n (pc' := 1) dX10_isWithin_0 rfl rfl ?_
  refine m_iload_n (pc' := 2) dX10_isWithin_1 rfl rfl ?_
  refine m_icmp_lt (tgt := 14) (pc' := 5) dX10_isWithin_2 (by decide) rfl (fun h2 => ?_) (fun h2 => ?_)
  · skip
    refine m_iconst (pc' := 15) (v := 0) dX10_isWithin_14 (by decide) rfl ?_
    refine m_iret dX10_isWithin_15 rfl (by decide) ⟨by decide, by decide⟩ ?_
    exact q_i hQ (if_neg (fun h => Int32.not_lt.mpr h.1 h2)).symm
  · skip
    refine m_iload_n (pc' := 6) dX10_isWithin_5 rfl rfl ?_
    refine m_iload_n (pc' := 7) dX10_isWithin_6 rfl rfl ?_
    refine m_icmp_gt (tgt := 14) (pc' := 10) dX10_isWithin_7 (by decide) rfl (fun h7 => ?_) (fun h7 => ?_)
    · skip
      refine m_iconst (pc' := 15) (v := 0) dX10_isWithin_14 (by decide) rfl ?_
      refine m_iret dX10_isWithin_15 rfl (by decide) ⟨by decide, by decide⟩ ?_
      exact q_i hQ (if_neg (fun h => Int32.not_lt.mpr h.2 h7)).symm
    · skip
      refine m_iconst (pc' := 11) (v := 1) dX10_isWithin_10 (by decide) rfl ?_
      refine m_goto (tgt := 15) dX10_isWithin_11 (by decide) ?_
      refine m_iret dX10_isWithin_15 rfl (by decide) ⟨by decide, by decide⟩ ?_
      exact q_i hQ (if_pos ⟨Int32.not_lt.mp h2, Int32.not_lt.mp h7⟩).symm
set_option maxHeartbeats 4000000 in
set_option maxRecDepth 100000 in
theorem c_size {v : Int32} (hQ : Q (some (.int (siz v))) S1 d) : mC G mX11_size [.int v] S1 d Q := by
  refine mC_of (by decide +kernel) ⟨_, rfl⟩ (Nat.le_of_ble_eq_true rfl) ?_
  show mM G mX11_size 0 [some (.int v)] [] S1 d (0, 0) Q
  refine m_iload_n (pc' := 1) dX11_size_0 rfl rfl ?_
  refine m_if_ge (tgt := 9) (pc' := 4) dX11_size_1 (by decide) rfl (fun h1 => ?_) (fun h1 => ?_)
  · skip
    refine m_iload_n (pc' := 10) dX11_size_9 rfl rfl ?_
    refine m_iret dX11_size_10 rfl rfl ⟨by decide, by decide⟩ ?_
    exact q_i hQ (if_neg (Int32.not_lt.mpr h1)).symm
  · skip
    refine m_iload_n (pc' := 5) dX11_size_4 rfl rfl ?_
    refine m_ineg (pc' := 6) dX11_size_5 rfl ?_
    refine m_goto (tgt := 10) dX11_size_6 (by decide) ?_
    refine m_iret dX11_size_10 rfl rfl ⟨by decide, by decide⟩ ?_
    exact q_i hQ (if_pos (Int32.not_le.mp h1)).symm
set_option maxHeartbeats 4000000 in
set_option maxRecDepth 100000 in
theorem c_down {a b : Int32} (hb : ¬ b = 0) (hQ : Q (some (.int (dwn a b))) S1 d) : mC G mX11_down [.int a, .int b] S1 d Q := by
  refine mC_of (by decide +kernel) ⟨_, rfl⟩ (Nat.le_of_ble_eq_true rfl) ?_
  show mM G mX11_down 0 [some (.int a), some (.int b)] [] S1 d (0, 0) Q
  refine m_iload_n (pc' := 1) dX11_down_0 rfl rfl ?_
  refine m_if_ge (tgt := 15) (pc' := 4) dX11_down_1 (by decide) rfl (fun h1 => ?_) (fun h1 => ?_)
  · skip
    refine m_iload_n (pc' := 16) dX11_down_15 rfl rfl ?_
    refine m_iload_n (pc' := 17) dX11_down_16 rfl rfl ?_
    refine m_idiv (pc' := 18) dX11_down_17 hb rfl ?_
    refine m_iret dX11_down_18 rfl rfl ⟨by decide, by decide⟩ ?_
    exact q_i hQ (if_neg (Int32.not_lt.mpr h1)).symm
  · skip
    refine m_iload_n (pc' := 5) dX11_down_4 rfl rfl ?_
    refine m_iconst (pc' := 6) (v := 1) dX11_down_5 (by decide) rfl ?_
    refine m_isub (pc' := 7) dX11_down_6 rfl ?_
    refine m_iload_n (pc' := 8) dX11_down_7 rfl rfl ?_
    refine m_isub (pc' := 9) dX11_down_8 rfl ?_
    refine m_iload_n (pc' := 10) dX11_down_9 rfl rfl ?_
    refine m_idiv (pc' := 11) dX11_down_10 hb rfl ?_
    refine m_ineg (pc' := 12) dX11_down_11 rfl ?_
    refine m_goto (tgt := 18) dX11_down_12 (by decide) ?_
    refine m_iret dX11_down_18 rfl rfl ⟨by decide, by decide⟩ ?_
    exact q_i hQ (if_pos (Int32.not_le.mp h1)).symm
set_option maxHeartbeats 4000000 in
set_option maxRecDepth 100000 in
theorem c_mch {c : Int32} (hQ : Q (some (.int (bin c 0 7))) S1 d) : mC G mX11_isChannel [.int c] S1 d Q := by
  refine mC_of (by decide +kernel) ⟨_, rfl⟩ (Nat.le_of_ble_eq_true rfl) ?_
  show mM G mX11_isChannel 0 [some (.int c)] [] S1 d (0, 0) Q
  refine m_iload_n (pc' := 1) dX11_isChannel_0 rfl rfl ?_
  refine m_iconst (pc' := 2) (v := 0) dX11_isChannel_1 (by decide) rfl ?_
  refine m_bipush (pc' := 4) (v := 7) dX11_isChannel_2 (by decide) rfl ?_
  refine m_callS (pc' := 7) (A := [.int c, .int 0, .int 7]) (rest := []) cl_X11_isChannel_40 dX11_isChannel_4 rfl rfl (Nat.le_of_ble_eq_true rfl) ⟨by decide, by decide⟩ rfl rfl ?_
  refine c_in ?_
  show mM G mX11_isChannel 7 [some (.int c)] [.int (bin c 0 7)] S1 d (0, 0) Q
  refine m_iret dX11_isChannel_7 rfl (by unfold bin; split <;> rfl) ⟨by decide, by decide⟩ ?_
  exact hQ
set_option maxHeartbeats 4000000 in
set_option maxRecDepth 100000 in
theorem c_of {c p : Int32} {k : Nat} (hs : d.1 215 = s) (hk : 5 * c + p = nI k) (hk2 : k < 408) (hQ : Q (some (.int (s k))) S1 d) : mC G mX11_of [.ref 214, .int c, .int p] S1 d Q := by
  refine mC_of (by decide +kernel) ⟨_, rfl⟩ (Nat.le_of_ble_eq_true rfl) ?_
  show mM G mX11_of 0 [some (.ref 214), some (.int c), some (.int p)] [] S1 d (0, 0) Q
  refine m_aload_n (pc' := 1) dX11_of_0 rfl rfl ?_
  refine m_getR (pc' := 4) fa_X11_of_7 dX11_of_1 (by decide) rfl rfl rfl rfl ?_
  refine m_iconst (pc' := 5) (v := 5) dX11_of_4 (by decide) rfl ?_
  refine m_iload_n (pc' := 6) dX11_of_5 rfl rfl ?_
  refine m_imul (pc' := 7) dX11_of_6 rfl ?_
  refine m_iload_n (pc' := 8) dX11_of_7 rfl rfl ?_
  refine m_iadd (pc' := 9) dX11_of_8 rfl ?_
  refine m_ialdN (pc' := 10) (j := k) (L := 408) dX11_of_9 (by decide) rfl rfl (hk) (hk2) (by decide) rfl ?_
  rw [show (d.1 215 k) = (s k) from congrFun hs k]
  refine m_iret dX11_of_10 rfl rfl ⟨by decide, by decide⟩ ?_
  exact hQ
set_option maxHeartbeats 4000000 in
set_option maxRecDepth 100000 in
theorem c_ment {e : Int32} (hs : d.1 215 = s) (hQ : Q (some (.int (bin e 0 (s 43 - 1)))) S1 d) : mC G mX11_isEntry [.ref 214, .int e] S1 d Q := by
  refine mC_of (by decide +kernel) ⟨_, rfl⟩ (Nat.le_of_ble_eq_true rfl) ?_
  show mM G mX11_isEntry 0 [some (.ref 214), some (.int e)] [] S1 d (0, 0) Q
  refine m_iload_n (pc' := 1) dX11_isEntry_0 rfl rfl ?_
  refine m_iconst (pc' := 2) (v := 0) dX11_isEntry_1 (by decide) rfl ?_
  refine m_aload_n (pc' := 3) dX11_isEntry_2 rfl rfl ?_
  refine m_getR (pc' := 6) fa_X11_isEntry_7 dX11_isEntry_3 (by decide) rfl rfl rfl rfl ?_
  refine m_bipush (pc' := 8) (v := 43) dX11_isEntry_6 (by decide) rfl ?_
  refine m_ialdN (pc' := 9) (j := 43) (L := 408) dX11_isEntry_8 (by decide) rfl rfl (rfl) (by decide) (by decide) rfl ?_
  rw [show (d.1 215 43) = (s 43) from congrFun hs 43]
  refine m_iconst (pc' := 10) (v := 1) dX11_isEntry_9 (by decide) rfl ?_
  refine m_isub (pc' := 11) dX11_isEntry_10 rfl ?_
  refine m_callS (pc' := 14) (A := [.int e, .int 0, .int ((s 43) - 1)]) (rest := []) cl_X11_isEntry_40 dX11_isEntry_11 rfl rfl (Nat.le_of_ble_eq_true rfl) ⟨by decide, by decide⟩ rfl rfl ?_
  refine c_in ?_
  show mM G mX11_isEntry 14 [some (.ref 214), some (.int e)] [.int (bin e 0 ((s 43) - 1))] S1 d (0, 0) Q
  refine m_iret dX11_isEntry_14 rfl (by unfold bin; split <;> rfl) ⟨by decide, by decide⟩ ?_
  exact hQ
set_option maxHeartbeats 4000000 in
set_option maxRecDepth 100000 in
theorem c_mplace {i : Nat} (hs : d.1 215 = s) (hi : i < 150) (hQ : Q (some (.int (s (44 + 2 * i)))) S1 d) : mC G mX11_placeOf [.ref 214, .int (nI i)] S1 d Q := by
  refine mC_of (by decide +kernel) ⟨_, rfl⟩ (Nat.le_of_ble_eq_true rfl) ?_
  show mM G mX11_placeOf 0 [some (.ref 214), some (.int (nI i))] [] S1 d (0, 0) Q
  refine m_aload_n (pc' := 1) dX11_placeOf_0 rfl rfl ?_
  refine m_getR (pc' := 4) fa_X11_placeOf_7 dX11_placeOf_1 (by decide) rfl rfl rfl rfl ?_
  refine m_bipush (pc' := 6) (v := 44) dX11_placeOf_4 (by decide) rfl ?_
  refine m_iconst (pc' := 7) (v := 2) dX11_placeOf_6 (by decide) rfl ?_
  refine m_iload_n (pc' := 8) dX11_placeOf_7 rfl rfl ?_
  refine m_imul (pc' := 9) dX11_placeOf_8 rfl ?_
  refine m_iadd (pc' := 10) dX11_placeOf_9 rfl ?_
  refine m_ialdN (pc' := 11) (j := 44 + 2 * i) (L := 408) dX11_placeOf_10 (by decide) rfl rfl (ix_e i) (by omega) (by decide) rfl ?_
  rw [show (d.1 215 (44 + 2 * i)) = (s (44 + 2 * i)) from congrFun hs (44 + 2 * i)]
  refine m_iret dX11_placeOf_11 rfl rfl ⟨by decide, by decide⟩ ?_
  exact hQ
set_option maxHeartbeats 4000000 in
set_option maxRecDepth 100000 in
theorem c_msettle {i : Nat} (hs : d.1 215 = s) (hi : i < 150) (hQ : Q (some (.int (s (45 + 2 * i)))) S1 d) : mC G mX11_settleOf [.ref 214, .int (nI i)] S1 d Q := by
  refine mC_of (by decide +kernel) ⟨_, rfl⟩ (Nat.le_of_ble_eq_true rfl) ?_
  show mM G mX11_settleOf 0 [some (.ref 214), some (.int (nI i))] [] S1 d (0, 0) Q
  refine m_aload_n (pc' := 1) dX11_settleOf_0 rfl rfl ?_
  refine m_getR (pc' := 4) fa_X11_settleOf_7 dX11_settleOf_1 (by decide) rfl rfl rfl rfl ?_
  refine m_bipush (pc' := 6) (v := 44) dX11_settleOf_4 (by decide) rfl ?_
  refine m_iconst (pc' := 7) (v := 2) dX11_settleOf_6 (by decide) rfl ?_
  refine m_iload_n (pc' := 8) dX11_settleOf_7 rfl rfl ?_
  refine m_imul (pc' := 9) dX11_settleOf_8 rfl ?_
  refine m_iadd (pc' := 10) dX11_settleOf_9 rfl ?_
  refine m_iconst (pc' := 11) (v := 1) dX11_settleOf_10 (by decide) rfl ?_
  refine m_iadd (pc' := 12) dX11_settleOf_11 rfl ?_
  refine m_ialdN (pc' := 13) (j := 45 + 2 * i) (L := 408) dX11_settleOf_12 (by decide) rfl rfl (ix_f i) (by omega) (by decide) rfl ?_
  rw [show (d.1 215 (45 + 2 * i)) = (s (45 + 2 * i)) from congrFun hs (45 + 2 * i)]
  refine m_iret dX11_settleOf_13 rfl rfl ⟨by decide, by decide⟩ ?_
  exact hQ
set_option maxHeartbeats 4000000 in
set_option maxRecDepth 100000 in
theorem c_mvalueAt {c : Nat} {t : Int32} (hs : d.1 215 = s) (hc : c < 8) (hk : s (5 * c) = 2 → ¬ s (5 * c + 3) = 0) (hQ : Q (some (.int (cvl s c t))) S1 d) : mC G mX11_valueAt [.ref 214, .int (nI c), .int t] S1 d Q := by
  have J : ∀ (x : Int32) (_ : cvl s c t = clp x), mM G mX11_valueAt 72 [some (.ref 214), some (.int (nI c)), some (.int t), some (.int x)] [] S1 d (0, 0) Q := by
    intro x hx
    refine m_iload_n (pc' := 73) dX11_valueAt_72 rfl rfl ?_
    refine m_if_ge (tgt := 80) (pc' := 76) dX11_valueAt_73 (by decide) rfl (fun h73 => ?_) (fun h73 => ?_)
    · skip
      refine m_iload_n (pc' := 81) dX11_valueAt_80 rfl rfl ?_
      refine m_sipush (pc' := 84) (v := 4095) dX11_valueAt_81 (by decide) rfl ?_
      refine m_icmp_le (tgt := 93) (pc' := 87) dX11_valueAt_84 (by decide) rfl (fun h84 => ?_) (fun h84 => ?_)
      · skip
        refine m_iload_n (pc' := 94) dX11_valueAt_93 rfl rfl ?_
        refine m_iret dX11_valueAt_94 rfl rfl ⟨by decide, by decide⟩ ?_
        exact q_i hQ (by rw [hx]; unfold clp; rw [if_neg (Int32.not_lt.mpr h73), if_neg (Int32.not_lt.mpr h84)])
      · skip
        refine m_sipush (pc' := 90) (v := 4095) dX11_valueAt_87 (by decide) rfl ?_
        refine m_goto (tgt := 94) dX11_valueAt_90 (by decide) ?_
        refine m_iret dX11_valueAt_94 rfl rfl ⟨by decide, by decide⟩ ?_
        exact q_i hQ (by rw [hx]; unfold clp; rw [if_neg (Int32.not_lt.mpr h73), if_pos (Int32.not_le.mp h84)])
    · skip
      refine m_iconst (pc' := 77) (v := 0) dX11_valueAt_76 (by decide) rfl ?_
      refine m_goto (tgt := 94) dX11_valueAt_77 (by decide) ?_
      refine m_iret dX11_valueAt_94 rfl rfl ⟨by decide, by decide⟩ ?_
      exact q_i hQ (by rw [hx]; unfold clp; rw [if_pos (Int32.not_le.mp h73)])
  refine mC_of (by decide +kernel) ⟨_, rfl⟩ (Nat.le_of_ble_eq_true rfl) ?_
  show mM G mX11_valueAt 0 [some (.ref 214), some (.int (nI c)), some (.int t), none] [] S1 d (0, 0) Q
  refine m_aload_n (pc' := 1) dX11_valueAt_0 rfl rfl ?_
  refine m_iload_n (pc' := 2) dX11_valueAt_1 rfl rfl ?_
  refine m_iconst (pc' := 3) (v := 1) dX11_valueAt_2 (by decide) rfl ?_
  refine m_callV (pc' := 6) (A := [.int (nI c), .int 1]) (rest := []) (b := 214) cl_X11_valueAt_44 dX11_valueAt_3 rfl rfl (Nat.le_of_ble_eq_true rfl) ⟨by decide, by decide⟩ (by decide) rfl rfl rfl rfl ?_
  refine c_of (k := 5 * c + 1) (s := s) hs (ix_c c 1) (by omega) ?_
  show mM G mX11_valueAt 6 [some (.ref 214), some (.int (nI c)), some (.int t), none] [.int (s (5 * c + 1))] S1 d (0, 0) Q
  refine m_istore_n (pc' := 7) dX11_valueAt_6 (by decide) rfl rfl ?_
  refine m_aload_n (pc' := 8) dX11_valueAt_7 rfl rfl ?_
  refine m_iload_n (pc' := 9) dX11_valueAt_8 rfl rfl ?_
  refine m_iconst (pc' := 10) (v := 0) dX11_valueAt_9 (by decide) rfl ?_
  refine m_callV (pc' := 13) (A := [.int (nI c), .int 0]) (rest := []) (b := 214) cl_X11_valueAt_44 dX11_valueAt_10 rfl rfl (Nat.le_of_ble_eq_true rfl) ⟨by decide, by decide⟩ (by decide) rfl rfl rfl rfl ?_
  refine c_of (k := 5 * c) (s := s) hs (ix_c c 0) (by omega) ?_
  show mM G mX11_valueAt 13 [some (.ref 214), some (.int (nI c)), some (.int t), some (.int (s (5 * c + 1)))] [.int (s (5 * c))] S1 d (0, 0) Q
  refine m_iconst (pc' := 14) (v := 1) dX11_valueAt_13 (by decide) rfl ?_
  refine m_icmp_ne (tgt := 36) (pc' := 17) dX11_valueAt_14 (by decide) rfl (fun h14 => ?_) (fun h14 => ?_)
  · skip
    refine m_aload_n (pc' := 37) dX11_valueAt_36 rfl rfl ?_
    refine m_iload_n (pc' := 38) dX11_valueAt_37 rfl rfl ?_
    refine m_iconst (pc' := 39) (v := 0) dX11_valueAt_38 (by decide) rfl ?_
    refine m_callV (pc' := 42) (A := [.int (nI c), .int 0]) (rest := []) (b := 214) cl_X11_valueAt_44 dX11_valueAt_39 rfl rfl (Nat.le_of_ble_eq_true rfl) ⟨by decide, by decide⟩ (by decide) rfl rfl rfl rfl ?_
    refine c_of (k := 5 * c) (s := s) hs (ix_c c 0) (by omega) ?_
    show mM G mX11_valueAt 42 [some (.ref 214), some (.int (nI c)), some (.int t), some (.int (s (5 * c + 1)))] [.int (s (5 * c))] S1 d (0, 0) Q
    refine m_iconst (pc' := 43) (v := 2) dX11_valueAt_42 (by decide) rfl ?_
    refine m_icmp_ne (tgt := 72) (pc' := 46) dX11_valueAt_43 (by decide) rfl (fun h43 => ?_) (fun h43 => ?_)
    · skip
      exact J _ (by unfold cvl; rw [if_neg h14, if_neg (fun h => h43 h.1)])
    · skip
      refine m_iload_n (pc' := 47) dX11_valueAt_46 rfl rfl ?_
      refine m_aload_n (pc' := 48) dX11_valueAt_47 rfl rfl ?_
      refine m_iload_n (pc' := 49) dX11_valueAt_48 rfl rfl ?_
      refine m_iconst (pc' := 50) (v := 3) dX11_valueAt_49 (by decide) rfl ?_
      refine m_callV (pc' := 53) (A := [.int (nI c), .int 3]) (rest := [.int t]) (b := 214) cl_X11_valueAt_44 dX11_valueAt_50 rfl rfl (Nat.le_of_ble_eq_true rfl) ⟨by decide, by decide⟩ (by decide) rfl rfl rfl rfl ?_
      refine c_of (k := 5 * c + 3) (s := s) hs (ix_c c 3) (by omega) ?_
      show mM G mX11_valueAt 53 [some (.ref 214), some (.int (nI c)), some (.int t), some (.int (s (5 * c + 1)))] [.int (s (5 * c + 3)), .int t] S1 d (0, 0) Q
      refine m_irem (pc' := 54) dX11_valueAt_53 (hk (h43)) rfl ?_
      refine m_aload_n (pc' := 55) dX11_valueAt_54 rfl rfl ?_
      refine m_iload_n (pc' := 56) dX11_valueAt_55 rfl rfl ?_
      refine m_iconst (pc' := 57) (v := 3) dX11_valueAt_56 (by decide) rfl ?_
      refine m_callV (pc' := 60) (A := [.int (nI c), .int 3]) (rest := [.int (t - t / (s (5 * c + 3)) * (s (5 * c + 3)))]) (b := 214) cl_X11_valueAt_44 dX11_valueAt_57 rfl rfl (Nat.le_of_ble_eq_true rfl) ⟨by decide, by decide⟩ (by decide) rfl rfl rfl rfl ?_
      refine c_of (k := 5 * c + 3) (s := s) hs (ix_c c 3) (by omega) ?_
      show mM G mX11_valueAt 60 [some (.ref 214), some (.int (nI c)), some (.int t), some (.int (s (5 * c + 1)))] [.int (s (5 * c + 3)), .int (t - t / (s (5 * c + 3)) * (s (5 * c + 3)))] S1 d (0, 0) Q
      refine m_iconst (pc' := 61) (v := 2) dX11_valueAt_60 (by decide) rfl ?_
      refine m_idiv (pc' := 62) dX11_valueAt_61 (by decide) rfl ?_
      refine m_icmp_lt (tgt := 72) (pc' := 65) dX11_valueAt_62 (by decide) rfl (fun h62 => ?_) (fun h62 => ?_)
      · skip
        exact J _ (by unfold cvl; rw [if_neg h14, if_neg (fun h => Int32.not_le.mpr h62 h.2)])
      · skip
        refine m_aload_n (pc' := 66) dX11_valueAt_65 rfl rfl ?_
        refine m_iload_n (pc' := 67) dX11_valueAt_66 rfl rfl ?_
        refine m_iconst (pc' := 68) (v := 2) dX11_valueAt_67 (by decide) rfl ?_
        refine m_callV (pc' := 71) (A := [.int (nI c), .int 2]) (rest := []) (b := 214) cl_X11_valueAt_44 dX11_valueAt_68 rfl rfl (Nat.le_of_ble_eq_true rfl) ⟨by decide, by decide⟩ (by decide) rfl rfl rfl rfl ?_
        refine c_of (k := 5 * c + 2) (s := s) hs (ix_c c 2) (by omega) ?_
        show mM G mX11_valueAt 71 [some (.ref 214), some (.int (nI c)), some (.int t), some (.int (s (5 * c + 1)))] [.int (s (5 * c + 2))] S1 d (0, 0) Q
        refine m_istore_n (pc' := 72) dX11_valueAt_71 (by decide) rfl rfl ?_
        exact J _ (by unfold cvl; rw [if_neg h14, if_pos ⟨h43, Int32.not_lt.mp h62⟩])
  · skip
    refine m_iload_n (pc' := 18) dX11_valueAt_17 rfl rfl ?_
    refine m_aload_n (pc' := 19) dX11_valueAt_18 rfl rfl ?_
    refine m_iload_n (pc' := 20) dX11_valueAt_19 rfl rfl ?_
    refine m_iconst (pc' := 21) (v := 2) dX11_valueAt_20 (by decide) rfl ?_
    refine m_callV (pc' := 24) (A := [.int (nI c), .int 2]) (rest := [.int (s (5 * c + 1))]) (b := 214) cl_X11_valueAt_44 dX11_valueAt_21 rfl rfl (Nat.le_of_ble_eq_true rfl) ⟨by decide, by decide⟩ (by decide) rfl rfl rfl rfl ?_
    refine c_of (k := 5 * c + 2) (s := s) hs (ix_c c 2) (by omega) ?_
    show mM G mX11_valueAt 24 [some (.ref 214), some (.int (nI c)), some (.int t), some (.int (s (5 * c + 1)))] [.int (s (5 * c + 2)), .int (s (5 * c + 1))] S1 d (0, 0) Q
    refine m_iload_n (pc' := 25) dX11_valueAt_24 rfl rfl ?_
    refine m_imul (pc' := 26) dX11_valueAt_25 rfl ?_
    refine m_bipush (pc' := 28) (v := 16) dX11_valueAt_26 (by decide) rfl ?_
    refine m_callS (pc' := 31) (A := [.int ((s (5 * c + 2)) * t), .int 16]) (rest := [.int (s (5 * c + 1))]) cl_X11_valueAt_48 dX11_valueAt_28 rfl rfl (Nat.le_of_ble_eq_true rfl) ⟨by decide, by decide⟩ rfl rfl ?_
    refine c_down (by decide) ?_
    show mM G mX11_valueAt 31 [some (.ref 214), some (.int (nI c)), some (.int t), some (.int (s (5 * c + 1)))] [.int (dwn ((s (5 * c + 2)) * t) 16), .int (s (5 * c + 1))] S1 d (0, 0) Q
    refine m_iadd (pc' := 32) dX11_valueAt_31 rfl ?_
    refine m_istore_n (pc' := 33) dX11_valueAt_32 (by decide) rfl rfl ?_
    refine m_goto (tgt := 72) dX11_valueAt_33 (by decide) ?_
    exact J _ (by unfold cvl; rw [if_pos h14])
set_option maxHeartbeats 4000000 in
set_option maxRecDepth 100000 in
theorem c_mvalueOf {p : Nat} {t : Int32} (hs : d.1 215 = s) (hp : pok s p) (hQ : Q (some (.int (pvl s p t))) S1 d) : mC G mX11_valueOf [.ref 214, .int (nI p), .int t] S1 d Q := by
  have hp9 := hp.1
  refine mC_of (by decide +kernel) ⟨_, rfl⟩ (Nat.le_of_ble_eq_true rfl) ?_
  show mM G mX11_valueOf 0 [some (.ref 214), some (.int (nI p)), some (.int t)] [] S1 d (0, 0) Q
  refine m_iload_n (pc' := 1) dX11_valueOf_0 rfl rfl ?_
  refine m_bipush (pc' := 3) (v := 8) dX11_valueOf_1 (by decide) rfl ?_
  refine m_icmp_ne (tgt := 10) (pc' := 6) dX11_valueOf_3 (by decide) rfl (fun h3 => ?_) (fun h3 => ?_)
  · skip
    refine m_iload_n (pc' := 11) dX11_valueOf_10 rfl rfl ?_
    refine m_bipush (pc' := 13) (v := 9) dX11_valueOf_11 (by decide) rfl ?_
    refine m_icmp_ne (tgt := 26) (pc' := 16) dX11_valueOf_13 (by decide) rfl (fun h13 => ?_) (fun h13 => ?_)
    · skip
      refine m_aload_n (pc' := 27) dX11_valueOf_26 rfl rfl ?_
      refine m_iload_n (pc' := 28) dX11_valueOf_27 rfl rfl ?_
      refine m_iload_n (pc' := 29) dX11_valueOf_28 rfl rfl ?_
      refine m_callV (pc' := 32) (A := [.int (nI p), .int t]) (rest := []) (b := 214) cl_X11_valueOf_51 dX11_valueOf_29 rfl rfl (Nat.le_of_ble_eq_true rfl) ⟨by decide, by decide⟩ (by decide) rfl rfl rfl rfl ?_
      refine c_mvalueAt (s := s) hs (by have := ne_nI (k := 8) h3; have := ne_nI (k := 9) h13; omega) (hp.2 (by have := ne_nI (k := 8) h3; have := ne_nI (k := 9) h13; omega)) ?_
      show mM G mX11_valueOf 32 [some (.ref 214), some (.int (nI p)), some (.int t)] [.int (cvl s p t)] S1 d (0, 0) Q
      refine m_iret dX11_valueOf_32 rfl rfl ⟨by decide, by decide⟩ ?_
      exact q_i hQ (by unfold pvl; rw [if_neg (ne_nI (k := 8) h3), if_neg (ne_nI (k := 9) h13)])
    · skip
      refine m_aload_n (pc' := 17) dX11_valueOf_16 rfl rfl ?_
      refine m_getR (pc' := 20) fa_X11_valueOf_7 dX11_valueOf_17 (by decide) rfl rfl rfl rfl ?_
      refine m_bipush (pc' := 22) (v := 40) dX11_valueOf_20 (by decide) rfl ?_
      refine m_ialdN (pc' := 23) (j := 40) (L := 408) dX11_valueOf_22 (by decide) rfl rfl (rfl) (by decide) (by decide) rfl ?_
      rw [show (d.1 215 40) = (s 40) from congrFun hs 40]
      refine m_goto (tgt := 32) dX11_valueOf_23 (by decide) ?_
      refine m_iret dX11_valueOf_32 rfl rfl ⟨by decide, by decide⟩ ?_
      exact q_i hQ (by unfold pvl; rw [if_neg (ne_nI (k := 8) h3), if_pos ((nI_eq (by omega) (by decide)).mp (h13))])
  · skip
    refine m_iconst (pc' := 7) (v := 0) dX11_valueOf_6 (by decide) rfl ?_
    refine m_goto (tgt := 32) dX11_valueOf_7 (by decide) ?_
    refine m_iret dX11_valueOf_32 rfl rfl ⟨by decide, by decide⟩ ?_
    exact q_i hQ (by unfold pvl; rw [if_pos ((nI_eq (by omega) (by decide)).mp (h3))])
set_option maxHeartbeats 4000000 in
set_option maxRecDepth 100000 in
theorem c_mslot {p : Nat} {t : Int32} {h : UInt32} (hs : d.1 215 = s) (hp : pok s p) (hQ : Q (some (.float (slt s p t h))) S1 d) : mC G mX11_slot [.ref 214, .float h, .int (nI p), .int t] S1 d Q := by
  have hp9 := hp.1
  refine mC_of (by decide +kernel) ⟨_, rfl⟩ (Nat.le_of_ble_eq_true rfl) ?_
  show mM G mX11_slot 0 [some (.ref 214), some (.float h), some (.int (nI p)), some (.int t), none] [] S1 d (0, 0) Q
  refine m_aload_n (pc' := 1) dX11_slot_0 rfl rfl ?_
  refine m_iload_n (pc' := 2) dX11_slot_1 rfl rfl ?_
  refine m_iload_n (pc' := 3) dX11_slot_2 rfl rfl ?_
  refine m_callV (pc' := 6) (A := [.int (nI p), .int t]) (rest := []) (b := 214) cl_X11_slot_54 dX11_slot_3 rfl rfl (Nat.le_of_ble_eq_true rfl) ⟨by decide, by decide⟩ (by decide) rfl rfl rfl rfl ?_
  refine c_mvalueOf (s := s) hs hp ?_
  show mM G mX11_slot 6 [some (.ref 214), some (.float h), some (.int (nI p)), some (.int t), none] [.int (pvl s p t)] S1 d (0, 0) Q
  refine m_i2f (pc' := 7) dX11_slot_6 rfl ?_
  refine m_fstore (pc' := 9) dX11_slot_7 (by decide) rfl rfl ?_
  refine m_iload_n (pc' := 10) dX11_slot_9 rfl rfl ?_
  refine m_bipush (pc' := 12) (v := 8) dX11_slot_10 (by decide) rfl ?_
  refine m_icmp_ge (tgt := 24) (pc' := 15) dX11_slot_12 (by decide) rfl (fun h12 => ?_) (fun h12 => ?_)
  · skip
    refine m_fload (pc' := 26) dX11_slot_24 rfl rfl ?_
    refine m_fret dX11_slot_26 rfl ⟨by decide, by decide⟩ ?_
    exact q_f hQ (by unfold slt rsl; rw [if_neg (show ¬ p < 8 from Nat.not_lt.mpr ((nI_leI (a := 8) (by decide) (by omega)).mp h12)), if_pos rfl])
  · skip
    refine m_aload_n (pc' := 16) dX11_slot_15 rfl rfl ?_
    refine m_iload_n (pc' := 17) dX11_slot_16 rfl rfl ?_
    refine m_iconst (pc' := 18) (v := 4) dX11_slot_17 (by decide) rfl ?_
    refine m_callV (pc' := 21) (A := [.int (nI p), .int 4]) (rest := []) (b := 214) cl_X11_slot_44 dX11_slot_18 rfl rfl (Nat.le_of_ble_eq_true rfl) ⟨by decide, by decide⟩ (by decide) rfl rfl rfl rfl ?_
    refine c_of (k := 5 * p + 4) (s := s) hs (ix_c p 4) (by omega) ?_
    show mM G mX11_slot 21 [some (.ref 214), some (.float h), some (.int (nI p)), some (.int t), some (.float (FP.i2f (pvl s p t)))] [.int (s (5 * p + 4))] S1 d (0, 0) Q
    refine m_if_ne (tgt := 27) (pc' := 24) dX11_slot_21 (by decide) rfl (fun h21 => ?_) (fun h21 => ?_)
    · skip
      refine m_fload_n (pc' := 28) dX11_slot_27 rfl rfl ?_
      refine m_fload (pc' := 30) dX11_slot_28 rfl rfl ?_
      refine m_fload_n (pc' := 31) dX11_slot_30 rfl rfl ?_
      refine m_fsub (pc' := 32) dX11_slot_31 rfl ?_
      refine m_iconst (pc' := 33) (v := 1) dX11_slot_32 (by decide) rfl ?_
      refine m_aload_n (pc' := 34) dX11_slot_33 rfl rfl ?_
      refine m_iload_n (pc' := 35) dX11_slot_34 rfl rfl ?_
      refine m_iconst (pc' := 36) (v := 4) dX11_slot_35 (by decide) rfl ?_
      refine m_callV (pc' := 39) (A := [.int (nI p), .int 4]) (rest := [.int 1, .float (FP.fsub (FP.i2f (pvl s p t)) h), .float h]) (b := 214) cl_X11_slot_44 dX11_slot_36 rfl rfl (Nat.le_of_ble_eq_true rfl) ⟨by decide, by decide⟩ (by decide) rfl rfl rfl rfl ?_
      refine c_of (k := 5 * p + 4) (s := s) hs (ix_c p 4) (by omega) ?_
      show mM G mX11_slot 39 [some (.ref 214), some (.float h), some (.int (nI p)), some (.int t), some (.float (FP.i2f (pvl s p t)))] [.int (s (5 * p + 4)), .int 1, .float (FP.fsub (FP.i2f (pvl s p t)) h), .float h] S1 d (0, 0) Q
      refine m_iadd (pc' := 40) dX11_slot_39 rfl ?_
      refine m_i2f (pc' := 41) dX11_slot_40 rfl ?_
      refine m_fdiv (pc' := 42) dX11_slot_41 rfl ?_
      refine m_fadd (pc' := 43) dX11_slot_42 rfl ?_
      refine m_fret dX11_slot_43 rfl ⟨by decide, by decide⟩ ?_
      exact q_f hQ (by unfold slt rsl; rw [if_pos (show p < 8 from Nat.not_le.mp (fun h => h12 ((nI_leI (a := 8) (by decide) (by omega)).mpr h))), if_neg h21])
    · skip
      refine m_fload (pc' := 26) dX11_slot_24 rfl rfl ?_
      refine m_fret dX11_slot_26 rfl ⟨by decide, by decide⟩ ?_
      exact q_f hQ (by unfold slt rsl; rw [if_pos (show p < 8 from Nat.not_le.mp (fun h => h12 ((nI_leI (a := 8) (by decide) (by omega)).mpr h))), if_pos (h21)])
set_option maxHeartbeats 4000000 in
set_option maxRecDepth 100000 in
theorem c_mreadingBy {h : UInt32} {g o : Int32} (hQ : Q (some (.int (rdb h g o))) S1 d) : mC G mX11_readingBy [.float h, .int g, .int o] S1 d Q := by
  refine mC_of (by decide +kernel) ⟨_, rfl⟩ (Nat.le_of_ble_eq_true rfl) ?_
  show mM G mX11_readingBy 0 [some (.float h), some (.int g), some (.int o), none, none] [] S1 d (0, 0) Q
  refine m_fload_n (pc' := 1) dX11_readingBy_0 rfl rfl ?_
  refine m_iload_n (pc' := 2) dX11_readingBy_1 rfl rfl ?_
  refine m_i2f (pc' := 3) dX11_readingBy_2 rfl ?_
  refine m_ldcf (pc' := 5) dX11_readingBy_3 kc_X11_readingBy_57 rfl ?_
  refine m_fdiv (pc' := 6) dX11_readingBy_5 rfl ?_
  refine m_fmul (pc' := 7) dX11_readingBy_6 rfl ?_
  refine m_iload_n (pc' := 8) dX11_readingBy_7 rfl rfl ?_
  refine m_i2f (pc' := 9) dX11_readingBy_8 rfl ?_
  refine m_fadd (pc' := 10) dX11_readingBy_9 rfl ?_
  refine m_ldcf (pc' := 12) dX11_readingBy_10 kc_X11_readingBy_58 rfl ?_
  refine m_fadd (pc' := 13) dX11_readingBy_12 rfl ?_
  refine m_fstore_n (pc' := 14) dX11_readingBy_13 (by decide) rfl rfl ?_
  refine m_fload_n (pc' := 15) dX11_readingBy_14 rfl rfl ?_
  refine m_fconst0 (pc' := 16) dX11_readingBy_15 rfl ?_
  refine m_fcmp (pc' := 17) dX11_readingBy_16 rfl ?_
  refine m_if_ge (tgt := 22) (pc' := 20) dX11_readingBy_17 (by decide) rfl (fun h17 => ?_) (fun h17 => ?_)
  · skip
    refine m_fload_n (pc' := 23) dX11_readingBy_22 rfl rfl ?_
    refine m_f2i (pc' := 24) dX11_readingBy_23 rfl ?_
    refine m_istore (pc' := 26) dX11_readingBy_24 (by decide) rfl rfl ?_
    refine m_iload (pc' := 28) dX11_readingBy_26 rfl rfl ?_
    refine m_sipush (pc' := 31) (v := 4095) dX11_readingBy_28 (by decide) rfl ?_
    refine m_icmp_le (tgt := 40) (pc' := 34) dX11_readingBy_31 (by decide) rfl (fun h31 => ?_) (fun h31 => ?_)
    · skip
      refine m_iload (pc' := 42) dX11_readingBy_40 rfl rfl ?_
      refine m_iret dX11_readingBy_42 rfl rfl ⟨by decide, by decide⟩ ?_
      exact q_i hQ (by unfold rdb rsum; rw [if_pos h17, if_neg (Int32.not_lt.mpr h31)])
    · skip
      refine m_sipush (pc' := 37) (v := 4095) dX11_readingBy_34 (by decide) rfl ?_
      refine m_goto (tgt := 42) dX11_readingBy_37 (by decide) ?_
      refine m_iret dX11_readingBy_42 rfl rfl ⟨by decide, by decide⟩ ?_
      exact q_i hQ (by unfold rdb rsum; rw [if_pos h17, if_pos (Int32.not_le.mp h31)])
  · skip
    refine m_iconst (pc' := 21) (v := 0) dX11_readingBy_20 (by decide) rfl ?_
    refine m_iret dX11_readingBy_21 rfl rfl ⟨by decide, by decide⟩ ?_
    exact q_i hQ (by unfold rdb rsum; rw [if_neg h17])
set_option maxHeartbeats 4000000 in
set_option maxRecDepth 100000 in
theorem c_mreading {h : UInt32} (hs : d.1 215 = s) (hQ : Q (some (.int (rdb h (s 41) (s 42)))) S1 d) : mC G mX11_reading [.ref 214, .float h] S1 d Q := by
  refine mC_of (by decide +kernel) ⟨_, rfl⟩ (Nat.le_of_ble_eq_true rfl) ?_
  show mM G mX11_reading 0 [some (.ref 214), some (.float h)] [] S1 d (0, 0) Q
  refine m_fload_n (pc' := 1) dX11_reading_0 rfl rfl ?_
  refine m_aload_n (pc' := 2) dX11_reading_1 rfl rfl ?_
  refine m_getR (pc' := 5) fa_X11_reading_7 dX11_reading_2 (by decide) rfl rfl rfl rfl ?_
  refine m_bipush (pc' := 7) (v := 41) dX11_reading_5 (by decide) rfl ?_
  refine m_ialdN (pc' := 8) (j := 41) (L := 408) dX11_reading_7 (by decide) rfl rfl (rfl) (by decide) (by decide) rfl ?_
  rw [show (d.1 215 41) = (s 41) from congrFun hs 41]
  refine m_aload_n (pc' := 9) dX11_reading_8 rfl rfl ?_
  refine m_getR (pc' := 12) fa_X11_reading_7 dX11_reading_9 (by decide) rfl rfl rfl rfl ?_
  refine m_bipush (pc' := 14) (v := 42) dX11_reading_12 (by decide) rfl ?_
  refine m_ialdN (pc' := 15) (j := 42) (L := 408) dX11_reading_14 (by decide) rfl rfl (rfl) (by decide) (by decide) rfl ?_
  rw [show (d.1 215 42) = (s 42) from congrFun hs 42]
  refine m_callS (pc' := 18) (A := [.float h, .int (s 41), .int (s 42)]) (rest := []) cl_X11_reading_59 dX11_reading_15 rfl rfl (Nat.le_of_ble_eq_true rfl) ⟨by decide, by decide⟩ rfl rfl ?_
  refine c_mreadingBy ?_
  show mM G mX11_reading 18 [some (.ref 214), some (.float h)] [.int (rdb h (s 41) (s 42))] S1 d (0, 0) Q
  refine m_iret dX11_reading_18 rfl rfl ⟨by decide, by decide⟩ ?_
  exact hQ
set_option maxHeartbeats 4000000 in
set_option maxRecDepth 100000 in
theorem c_mbegin  (hs : d.1 215 = s) (hQ : ∀ d', simD d d' → d'.1 214 10 = s 76 → d'.2 214 9 = d.2 214 6 → Q none S1 d') : mC G mX11_begin [.ref 214] S1 d Q := by
  refine mC_of (by decide +kernel) ⟨_, rfl⟩ (Nat.le_of_ble_eq_true rfl) ?_
  show mM G mX11_begin 0 [some (.ref 214)] [] S1 d (0, 0) Q
  refine m_aload_n (pc' := 1) dX11_begin_0 rfl rfl ?_
  refine m_aload_n (pc' := 2) dX11_begin_1 rfl rfl ?_
  refine m_getF (pc' := 5) fa_X11_begin_36 dX11_begin_2 (by decide) rfl rfl rfl ?_
  refine m_putFl (pc' := 8) fa_X11_begin_63 dX11_begin_5 (by decide) rfl rfl rfl ?_
  refine m_aload_n (pc' := 9) dX11_begin_8 rfl rfl ?_
  refine m_aload_n (pc' := 10) dX11_begin_9 rfl rfl ?_
  refine m_getR (pc' := 13) fa_X11_begin_7 dX11_begin_10 (by decide) rfl rfl rfl rfl ?_
  refine m_bipush (pc' := 15) (v := 76) dX11_begin_13 (by decide) rfl ?_
  refine m_ialdN (pc' := 16) (j := 76) (L := 408) dX11_begin_15 (by decide) rfl rfl (rfl) (by decide) (by decide) rfl ?_
  show mM G mX11_begin 16 [some (.ref 214)] [.int (d.1 215 76), .ref 214] S1 (d.1, u2 d.2 214 9 (d.2 214 6)) (0, 0) Q
  rw [show (d.1 215 76) = (s 76) from congrFun hs 76]
  refine m_putI (pc' := 19) (ty := .int) fa_X11_begin_66 dX11_begin_16 (by decide +kernel) rfl rfl (by decide) rfl rfl rfl ?_
  refine m_vret dX11_begin_19 rfl ⟨by decide, by decide⟩ ?_
  exact hQ _ ((fr.rfl.f _ (by decide)).i _ (by decide)) (u2_same (m := d.1) (k := 214) (j := 10) (x := s 76)) (u2_same (m := d.2) (k := 214) (j := 9) (x := d.2 214 6))
set_option maxHeartbeats 4000000 in
set_option maxRecDepth 100000 in
theorem c_mcarry {p q t : Nat} {h : UInt32} (hs : d.1 215 = s) (hp : pok s p) (hq : q ≤ 7) (ht : t < 1000000) (h10 : d.1 214 10 = nI t) (h9 : d.2 214 9 = h) (hQ : ∀ d', simD d d' → d'.1 214 10 = nI (t + (q + 1)) → d'.2 214 9 = xh s p q t h → d'.1 214 11 = xr s p q t h → d'.1 214 12 = xc s p q t h → d'.1 214 13 = xe s p q t h → Q none S1 d') : mC G mX11_carryOut [.ref 214, .int (nI p), .int (nI q)] S1 d Q := by
  have J : ∀ (n : Nat) (k : Nat) (d1 : Dt) (_ : k + n = q + 1) (_ : simD d d1) (_ : d1.1 215 = s) (_ : d1.1 214 10 = nI (t + k)) (_ : d1.2 214 9 = cos s p k t h), mM G mX11_carryOut 5 [some (.ref 214), some (.int (nI p)), some (.int (nI q)), some (.float (cos s p k t FP.fconst0)), some (.int (nI k))] [] S1 d1 (0, 0) Q := by
    intro n
    induction n with
    | zero =>
      intro k d1 hk hd hs h10 h9
      refine m_iload (pc' := 7) dX11_carryOut_5 rfl rfl ?_
      refine m_iload_n (pc' := 8) dX11_carryOut_7 rfl rfl ?_
      refine m_icmp_gt (tgt := 55) (pc' := 11) dX11_carryOut_8 (by decide) rfl (fun h8 => ?_) (fun h8 => (h8 (nI_lt (by omega) (by omega))).elim)
      refine m_aload_n (pc' := 56) dX11_carryOut_55 rfl rfl ?_
      refine m_aload_n (pc' := 57) dX11_carryOut_56 rfl rfl ?_
      refine m_aload_n (pc' := 58) dX11_carryOut_57 rfl rfl ?_
      refine m_getF (pc' := 61) fa_X11_carryOut_63 dX11_carryOut_58 (by decide) rfl rfl rfl ?_
      rw [show (d1.2 214 9) = (cos s p k t h) from h9]
      refine m_callV (pc' := 64) (A := [.float (cos s p k t h)]) (rest := [.ref 214]) (b := 214) cl_X11_carryOut_73 dX11_carryOut_61 rfl rfl (Nat.le_of_ble_eq_true rfl) ⟨by decide, by decide⟩ (by decide) rfl rfl rfl rfl ?_
      refine c_mreading (s := s) hs ?_
      show mM G mX11_carryOut 64 [some (.ref 214), some (.int (nI p)), some (.int (nI q)), some (.float (cos s p k t FP.fconst0)), some (.int (nI k))] [.int (rdb (cos s p k t h) (s 41) (s 42)), .ref 214] S1 d1 (0, 0) Q
      refine m_putI (pc' := 67) (ty := .int) fa_X11_carryOut_77 dX11_carryOut_64 (by decide +kernel) rfl rfl (by decide) rfl rfl rfl ?_
      refine m_aload_n (pc' := 68) dX11_carryOut_67 rfl rfl ?_
      refine m_aload_n (pc' := 69) dX11_carryOut_68 rfl rfl ?_
      refine m_getI (pc' := 72) fa_X11_carryOut_77 dX11_carryOut_69 (by decide) rfl rfl rfl ?_
      show mM G mX11_carryOut 72 [some (.ref 214), some (.int (nI p)), some (.int (nI q)), some (.float (cos s p k t FP.fconst0)), some (.int (nI k))] [.int (rdb (cos s p k t h) (s 41) (s 42)), .ref 214] S1 (u2 d1.1 214 11 (rdb (cos s p k t h) (s 41) (s 42)), d1.2) (0, 0) Q
      refine m_aload_n (pc' := 73) dX11_carryOut_72 rfl rfl ?_
      refine m_fload_n (pc' := 74) dX11_carryOut_73 rfl rfl ?_
      refine m_callV (pc' := 77) (A := [.float (cos s p k t FP.fconst0)]) (rest := [.int (rdb (cos s p k t h) (s 41) (s 42)), .ref 214]) (b := 214) cl_X11_carryOut_73 dX11_carryOut_74 rfl rfl (Nat.le_of_ble_eq_true rfl) ⟨by decide, by decide⟩ (by decide) rfl rfl rfl rfl ?_
      refine c_mreading (s := s) hs ?_
      show mM G mX11_carryOut 77 [some (.ref 214), some (.int (nI p)), some (.int (nI q)), some (.float (cos s p k t FP.fconst0)), some (.int (nI k))] [.int (rdb (cos s p k t FP.fconst0) (s 41) (s 42)), .int (rdb (cos s p k t h) (s 41) (s 42)), .ref 214] S1 (u2 d1.1 214 11 (rdb (cos s p k t h) (s 41) (s 42)), d1.2) (0, 0) Q
      refine m_isub (pc' := 78) dX11_carryOut_77 rfl ?_
      refine m_putI (pc' := 81) (ty := .int) fa_X11_carryOut_80 dX11_carryOut_78 (by decide +kernel) rfl rfl (by decide) rfl rfl rfl ?_
      refine m_aload_n (pc' := 82) dX11_carryOut_81 rfl rfl ?_
      refine m_aload_n (pc' := 83) dX11_carryOut_82 rfl rfl ?_
      refine m_getI (pc' := 86) fa_X11_carryOut_77 dX11_carryOut_83 (by decide) rfl rfl rfl ?_
      show mM G mX11_carryOut 86 [some (.ref 214), some (.int (nI p)), some (.int (nI q)), some (.float (cos s p k t FP.fconst0)), some (.int (nI k))] [.int (rdb (cos s p k t h) (s 41) (s 42)), .ref 214] S1 (u2 (u2 d1.1 214 11 (rdb (cos s p k t h) (s 41) (s 42))) 214 12 ((rdb (cos s p k t h) (s 41) (s 42)) - (rdb (cos s p k t FP.fconst0) (s 41) (s 42))), d1.2) (0, 0) Q
      refine m_aload_n (pc' := 87) dX11_carryOut_86 rfl rfl ?_
      refine m_iload_n (pc' := 88) dX11_carryOut_87 rfl rfl ?_
      refine m_aload_n (pc' := 89) dX11_carryOut_88 rfl rfl ?_
      refine m_getI (pc' := 92) fa_X11_carryOut_66 dX11_carryOut_89 (by decide) rfl rfl rfl ?_
      show mM G mX11_carryOut 92 [some (.ref 214), some (.int (nI p)), some (.int (nI q)), some (.float (cos s p k t FP.fconst0)), some (.int (nI k))] [.int (d1.1 214 10), .int (nI p), .ref 214, .int (rdb (cos s p k t h) (s 41) (s 42)), .ref 214] S1 (u2 (u2 d1.1 214 11 (rdb (cos s p k t h) (s 41) (s 42))) 214 12 ((rdb (cos s p k t h) (s 41) (s 42)) - (rdb (cos s p k t FP.fconst0) (s 41) (s 42))), d1.2) (0, 0) Q
      rw [show (d1.1 214 10) = (nI (t + k)) from h10]
      refine m_iconst (pc' := 93) (v := 1) dX11_carryOut_92 (by decide) rfl ?_
      refine m_isub (pc' := 94) dX11_carryOut_93 rfl ?_
      rw [show ((nI (t + k)) - 1) = (nI (t + q)) from (by rw [show k = q + 1 by omega]; exact nI_pred (t + q))]
      refine m_callV (pc' := 97) (A := [.int (nI p), .int (nI (t + q))]) (rest := [.int (rdb (cos s p k t h) (s 41) (s 42)), .ref 214]) (b := 214) cl_X11_carryOut_54 dX11_carryOut_94 rfl rfl (Nat.le_of_ble_eq_true rfl) ⟨by decide, by decide⟩ (by decide) rfl rfl rfl rfl ?_
      refine c_mvalueOf (s := s) hs hp ?_
      show mM G mX11_carryOut 97 [some (.ref 214), some (.int (nI p)), some (.int (nI q)), some (.float (cos s p k t FP.fconst0)), some (.int (nI k))] [.int (pvl s p (nI (t + q))), .int (rdb (cos s p k t h) (s 41) (s 42)), .ref 214] S1 (u2 (u2 d1.1 214 11 (rdb (cos s p k t h) (s 41) (s 42))) 214 12 ((rdb (cos s p k t h) (s 41) (s 42)) - (rdb (cos s p k t FP.fconst0) (s 41) (s 42))), d1.2) (0, 0) Q
      refine m_isub (pc' := 98) dX11_carryOut_97 rfl ?_
      refine m_putI (pc' := 101) (ty := .int) fa_X11_carryOut_83 dX11_carryOut_98 (by decide +kernel) rfl rfl (by decide) rfl rfl rfl ?_
      refine m_vret dX11_carryOut_101 rfl ⟨by decide, by decide⟩ ?_
      obtain rfl : k = q + 1 := by omega
      exact hQ _ (((hd.i _ (by decide)).i _ (by decide)).i _ (by decide)) h10 h9 rfl rfl rfl
    | succ n ih =>
      intro k d1 hk hd hs h10 h9
      refine m_iload (pc' := 7) dX11_carryOut_5 rfl rfl ?_
      refine m_iload_n (pc' := 8) dX11_carryOut_7 rfl rfl ?_
      refine m_icmp_gt (tgt := 55) (pc' := 11) dX11_carryOut_8 (by decide) rfl (fun h8 => absurd h8 (nI_nlt (by omega) (by omega))) (fun h8 => ?_)
      refine m_aload_n (pc' := 12) dX11_carryOut_11 rfl rfl ?_
      refine m_aload_n (pc' := 13) dX11_carryOut_12 rfl rfl ?_
      refine m_aload_n (pc' := 14) dX11_carryOut_13 rfl rfl ?_
      refine m_getF (pc' := 17) fa_X11_carryOut_63 dX11_carryOut_14 (by decide) rfl rfl rfl ?_
      rw [show (d1.2 214 9) = (cos s p k t h) from h9]
      refine m_iload_n (pc' := 18) dX11_carryOut_17 rfl rfl ?_
      refine m_aload_n (pc' := 19) dX11_carryOut_18 rfl rfl ?_
      refine m_getI (pc' := 22) fa_X11_carryOut_66 dX11_carryOut_19 (by decide) rfl rfl rfl ?_
      rw [show (d1.1 214 10) = (nI (t + k)) from h10]
      refine m_callV (pc' := 25) (A := [.float (cos s p k t h), .int (nI p), .int (nI (t + k))]) (rest := [.ref 214]) (b := 214) cl_X11_carryOut_69 dX11_carryOut_22 rfl rfl (Nat.le_of_ble_eq_true rfl) ⟨by decide, by decide⟩ (by decide) rfl rfl rfl rfl ?_
      refine c_mslot (s := s) hs hp ?_
      show mM G mX11_carryOut 25 [some (.ref 214), some (.int (nI p)), some (.int (nI q)), some (.float (cos s p k t FP.fconst0)), some (.int (nI k))] [.float (slt s p (nI (t + k)) (cos s p k t h)), .ref 214] S1 d1 (0, 0) Q
      refine m_putFl (pc' := 28) fa_X11_carryOut_63 dX11_carryOut_25 (by decide) rfl rfl rfl ?_
      refine m_aload_n (pc' := 29) dX11_carryOut_28 rfl rfl ?_
      refine m_fload_n (pc' := 30) dX11_carryOut_29 rfl rfl ?_
      refine m_iload_n (pc' := 31) dX11_carryOut_30 rfl rfl ?_
      refine m_aload_n (pc' := 32) dX11_carryOut_31 rfl rfl ?_
      refine m_getI (pc' := 35) fa_X11_carryOut_66 dX11_carryOut_32 (by decide) rfl rfl rfl ?_
      show mM G mX11_carryOut 35 [some (.ref 214), some (.int (nI p)), some (.int (nI q)), some (.float (cos s p k t FP.fconst0)), some (.int (nI k))] [.int (d1.1 214 10), .int (nI p), .float (cos s p k t FP.fconst0), .ref 214] S1 (d1.1, u2 d1.2 214 9 (slt s p (nI (t + k)) (cos s p k t h))) (0, 0) Q
      rw [show (d1.1 214 10) = (nI (t + k)) from h10]
      refine m_callV (pc' := 38) (A := [.float (cos s p k t FP.fconst0), .int (nI p), .int (nI (t + k))]) (rest := []) (b := 214) cl_X11_carryOut_69 dX11_carryOut_35 rfl rfl (Nat.le_of_ble_eq_true rfl) ⟨by decide, by decide⟩ (by decide) rfl rfl rfl rfl ?_
      refine c_mslot (s := s) hs hp ?_
      show mM G mX11_carryOut 38 [some (.ref 214), some (.int (nI p)), some (.int (nI q)), some (.float (cos s p k t FP.fconst0)), some (.int (nI k))] [.float (slt s p (nI (t + k)) (cos s p k t FP.fconst0))] S1 (d1.1, u2 d1.2 214 9 (slt s p (nI (t + k)) (cos s p k t h))) (0, 0) Q
      refine m_fstore_n (pc' := 39) dX11_carryOut_38 (by decide) rfl rfl ?_
      refine m_aload_n (pc' := 40) dX11_carryOut_39 rfl rfl ?_
      refine m_dup (pc' := 41) dX11_carryOut_40 rfl ?_
      refine m_getI (pc' := 44) fa_X11_carryOut_66 dX11_carryOut_41 (by decide) rfl rfl rfl ?_
      show mM G mX11_carryOut 44 [some (.ref 214), some (.int (nI p)), some (.int (nI q)), some (.float (slt s p (nI (t + k)) (cos s p k t FP.fconst0))), some (.int (nI k))] [.int (d1.1 214 10), .ref 214] S1 (d1.1, u2 d1.2 214 9 (slt s p (nI (t + k)) (cos s p k t h))) (0, 0) Q
      rw [show (d1.1 214 10) = (nI (t + k)) from h10]
      refine m_iconst (pc' := 45) (v := 1) dX11_carryOut_44 (by decide) rfl ?_
      refine m_iadd (pc' := 46) dX11_carryOut_45 rfl ?_
      rw [show ((nI (t + k)) + 1) = (nI (t + (k + 1))) from nI_1 _]
      refine m_putI (pc' := 49) (ty := .int) fa_X11_carryOut_66 dX11_carryOut_46 (by decide +kernel) rfl rfl (by decide) rfl rfl rfl ?_
      refine m_iinc (pc' := 52) dX11_carryOut_49 rfl (by decide) (v := nI (k + 1)) (nI_1 k) rfl rfl ?_
      refine m_goto (tgt := 5) dX11_carryOut_52 (by decide) ?_
      exact ih (k + 1) _ (by omega) ((hd.f _ (by decide)).i _ (by decide)) hs (by simp only [u2_same]; try rfl) (by simp only [u2_same]; try rfl)
  refine mC_of (by decide +kernel) ⟨_, rfl⟩ (Nat.le_of_ble_eq_true rfl) ?_
  show mM G mX11_carryOut 0 [some (.ref 214), some (.int (nI p)), some (.int (nI q)), none, none] [] S1 d (0, 0) Q
  refine m_fconst0 (pc' := 1) dX11_carryOut_0 rfl ?_
  refine m_fstore_n (pc' := 2) dX11_carryOut_1 (by decide) rfl rfl ?_
  refine m_iconst (pc' := 3) (v := 0) dX11_carryOut_2 (by decide) rfl ?_
  refine m_istore (pc' := 5) dX11_carryOut_3 (by decide) rfl rfl ?_
  exact J (q + 1) 0 d (by omega) fr.rfl hs h10 h9
end MOD1
