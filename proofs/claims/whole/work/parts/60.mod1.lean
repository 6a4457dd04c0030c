/-! THE CHECK'S OWN METHODS (1): reads -/
section MOD1
variable {G : GP} {Q : Option Value → Sh → Dt → Prop} {d : Dt}
set_option maxHeartbeats 4000000 in
set_option maxRecDepth 100000 in
theorem c_in {v a b : Int32} (hQ : Q (some (.int (bin v a b))) S1 d) : mC G mX11_in [.int v, .int a, .int b] S1 d Q := by
  refine mC_of (by decide +kernel) ⟨_, rfl⟩ (by decide) ?_
  show mM G mX11_in 0 [some (.int v), some (.int a), some (.int b)] [] S1 d (0, 0) Q
  refine m_iload_n (pc' := 1) dX11_in_0 rfl rfl ?_
  refine m_iload_n (pc' := 2) dX11_in_1 rfl rfl ?_
  refine m_icmp_lt (tgt := 14) (pc' := 5) dX11_in_2 (by decide) rfl (fun h2 => ?_) (fun h2 => ?_)
  · skip
    refine m_iconst (pc' := 15) (v := 0) dX11_in_14 (by decide) rfl ?_
    refine m_iret dX11_in_15 rfl (by decide) ⟨by decide, by decide⟩ ?_
    -- [(2, True)]
    exact q_i hQ (if_neg (fun h => Int32.not_lt.mpr h.1 h2)).symm
  · skip
    refine m_iload_n (pc' := 6) dX11_in_5 rfl rfl ?_
    refine m_iload_n (pc' := 7) dX11_in_6 rfl rfl ?_
    refine m_icmp_gt (tgt := 14) (pc' := 10) dX11_in_7 (by decide) rfl (fun h7 => ?_) (fun h7 => ?_)
    · skip
      refine m_iconst (pc' := 15) (v := 0) dX11_in_14 (by decide) rfl ?_
      refine m_iret dX11_in_15 rfl (by decide) ⟨by decide, by decide⟩ ?_
      -- [(2, False), (7, True)]
      exact q_i hQ (if_neg (fun h => Int32.not_lt.mpr h.2 h7)).symm
    · skip
      refine m_iconst (pc' := 11) (v := 1) dX11_in_10 (by decide) rfl ?_
      refine m_goto (tgt := 15) dX11_in_11 (by decide) ?_
      refine m_iret dX11_in_15 rfl (by decide) ⟨by decide, by decide⟩ ?_
      -- [(2, False), (7, False)]
      exact q_i hQ (if_pos ⟨Int32.not_lt.mp h2, Int32.not_lt.mp h7⟩).symm
set_option maxHeartbeats 4000000 in
set_option maxRecDepth 100000 in
theorem c_within {v a b : Int32} (hQ : Q (some (.int (bin v a b))) S1 d) : mC G mX10_isWithin [.int v, .int a, .int b] S1 d Q := by
  refine mC_of (by decide +kernel) ⟨_, rfl⟩ (by decide) ?_
  show mM G mX10_isWithin 0 [some (.int v), some (.int a), some (.int b)] [] S1 d (0, 0) Q
  refine m_iload_n (pc' := 1) dX10_isWithin_0 rfl rfl ?_
  refine m_iload_n (pc' := 2) dX10_isWithin_1 rfl rfl ?_
  refine m_icmp_lt (tgt := 14) (pc' := 5) dX10_isWithin_2 (by decide) rfl (fun h2 => ?_) (fun h2 => ?_)
  · skip
    refine m_iconst (pc' := 15) (v := 0) dX10_isWithin_14 (by decide) rfl ?_
    refine m_iret dX10_isWithin_15 rfl (by decide) ⟨by decide, by decide⟩ ?_
    -- [(2, True)]
    exact q_i hQ (if_neg (fun h => Int32.not_lt.mpr h.1 h2)).symm
  · skip
    refine m_iload_n (pc' := 6) dX10_isWithin_5 rfl rfl ?_
    refine m_iload_n (pc' := 7) dX10_isWithin_6 rfl rfl ?_
    refine m_icmp_gt (tgt := 14) (pc' := 10) dX10_isWithin_7 (by decide) rfl (fun h7 => ?_) (fun h7 => ?_)
    · skip
      refine m_iconst (pc' := 15) (v := 0) dX10_isWithin_14 (by decide) rfl ?_
      refine m_iret dX10_isWithin_15 rfl (by decide) ⟨by decide, by decide⟩ ?_
      -- [(2, False), (7, True)]
      exact q_i hQ (if_neg (fun h => Int32.not_lt.mpr h.2 h7)).symm
    · skip
      refine m_iconst (pc' := 11) (v := 1) dX10_isWithin_10 (by decide) rfl ?_
      refine m_goto (tgt := 15) dX10_isWithin_11 (by decide) ?_
      refine m_iret dX10_isWithin_15 rfl (by decide) ⟨by decide, by decide⟩ ?_
      -- [(2, False), (7, False)]
      exact q_i hQ (if_pos ⟨Int32.not_lt.mp h2, Int32.not_lt.mp h7⟩).symm
set_option maxHeartbeats 4000000 in
set_option maxRecDepth 100000 in
theorem c_size {v : Int32} (hQ : Q (some (.int (siz v))) S1 d) : mC G mX11_size [.int v] S1 d Q := by
  refine mC_of (by decide +kernel) ⟨_, rfl⟩ (by decide) ?_
  show mM G mX11_size 0 [some (.int v)] [] S1 d (0, 0) Q
  refine m_iload_n (pc' := 1) dX11_size_0 rfl rfl ?_
  refine m_if_ge (tgt := 9) (pc' := 4) dX11_size_1 (by decide) rfl (fun h1 => ?_) (fun h1 => ?_)
  · skip
    refine m_iload_n (pc' := 10) dX11_size_9 rfl rfl ?_
    refine m_iret dX11_size_10 rfl rfl ⟨by decide, by decide⟩ ?_
    exact q_i hQ (if_neg (Int32.not_lt.mpr h1)).symm
  · skip
    refine m_iload_n (pc' := 5) dX11_size_4 rfl rfl ?_
    refine m_ineg (pc' := 6) dX11_size_5 rfl ?_
    refine m_goto (tgt := 10) dX11_size_6 (by decide) ?_
    refine m_iret dX11_size_10 rfl rfl ⟨by decide, by decide⟩ ?_
    exact q_i hQ (if_pos (Int32.not_le.mp h1)).symm
set_option maxHeartbeats 4000000 in
set_option maxRecDepth 100000 in
theorem c_down {a b : Int32} (hb : ¬ b = 0) (hQ : Q (some (.int (dwn a b))) S1 d) : mC G mX11_down [.int a, .int b] S1 d Q := by
  refine mC_of (by decide +kernel) ⟨_, rfl⟩ (by decide) ?_
  show mM G mX11_down 0 [some (.int a), some (.int b)] [] S1 d (0, 0) Q
  refine m_iload_n (pc' := 1) dX11_down_0 rfl rfl ?_
  refine m_if_ge (tgt := 15) (pc' := 4) dX11_down_1 (by decide) rfl (fun h1 => ?_) (fun h1 => ?_)
  · skip
    refine m_iload_n (pc' := 16) dX11_down_15 rfl rfl ?_
    refine m_iload_n (pc' := 17) dX11_down_16 rfl rfl ?_
    refine m_idiv (pc' := 18) dX11_down_17 hb rfl ?_
    refine m_iret dX11_down_18 rfl rfl ⟨by decide, by decide⟩ ?_
    exact q_i hQ (if_neg (Int32.not_lt.mpr h1)).symm
  · skip
    refine m_iload_n (pc' := 5) dX11_down_4 rfl rfl ?_
    refine m_iconst (pc' := 6) (v := 1) dX11_down_5 (by decide) rfl ?_
    refine m_isub (pc' := 7) dX11_down_6 rfl ?_
    refine m_iload_n (pc' := 8) dX11_down_7 rfl rfl ?_
    refine m_isub (pc' := 9) dX11_down_8 rfl ?_
    refine m_iload_n (pc' := 10) dX11_down_9 rfl rfl ?_
    refine m_idiv (pc' := 11) dX11_down_10 hb rfl ?_
    refine m_ineg (pc' := 12) dX11_down_11 rfl ?_
    refine m_goto (tgt := 18) dX11_down_12 (by decide) ?_
    refine m_iret dX11_down_18 rfl rfl ⟨by decide, by decide⟩ ?_
    exact q_i hQ (if_pos (Int32.not_le.mp h1)).symm
set_option maxHeartbeats 4000000 in
set_option maxRecDepth 100000 in
theorem c_mch {c : Int32} (hQ : Q (some (.int (bin c 0 7))) S1 d) : mC G mX11_isChannel [.int c] S1 d Q := by
  refine mC_of (by decide +kernel) ⟨_, rfl⟩ (by decide) ?_
  show mM G mX11_isChannel 0 [some (.int c)] [] S1 d (0, 0) Q
  refine m_iload_n (pc' := 1) dX11_isChannel_0 rfl rfl ?_
  refine m_iconst (pc' := 2) (v := 0) dX11_isChannel_1 (by decide) rfl ?_
  refine m_bipush (pc' := 4) (v := 7) dX11_isChannel_2 (by decide) rfl ?_
  refine m_callS (pc' := 7) (A := [.int c, .int 0, .int 7]) (rest := []) cl_X11_isChannel_40 dX11_isChannel_4 rfl rfl (by decide) ⟨by decide, by decide⟩ rfl rfl ?_
  refine c_in ?_
  show mM G mX11_isChannel 7 [some (.int c)] [.int (bin c 0 7)] S1 d (0, 0) Q
  refine m_iret dX11_isChannel_7 rfl (by unfold bin; split <;> rfl) ⟨by decide, by decide⟩ ?_
  exact hQ
set_option maxHeartbeats 4000000 in
set_option maxRecDepth 100000 in
theorem c_of {c p : Int32} {k : Nat} (hk : 5 * c + p = nI k) (hk2 : k < 408) (hQ : Q (some (.int (d.1 208 k))) S1 d) : mC G mX11_of [.ref 207, .int c, .int p] S1 d Q := by
  refine mC_of (by decide +kernel) ⟨_, rfl⟩ (by decide) ?_
  show mM G mX11_of 0 [some (.ref 207), some (.int c), some (.int p)] [] S1 d (0, 0) Q
  refine m_aload_n (pc' := 1) dX11_of_0 rfl rfl ?_
  refine m_getR (pc' := 4) fa_X11_of_7 dX11_of_1 (by decide) rfl rfl rfl rfl ?_
  refine m_iconst (pc' := 5) (v := 5) dX11_of_4 (by decide) rfl ?_
  refine m_iload_n (pc' := 6) dX11_of_5 rfl rfl ?_
  refine m_imul (pc' := 7) dX11_of_6 rfl ?_
  refine m_iload_n (pc' := 8) dX11_of_7 rfl rfl ?_
  refine m_iadd (pc' := 9) dX11_of_8 rfl ?_
  refine m_ialdN (pc' := 10) (j := k) (L := 408) dX11_of_9 (by decide) rfl rfl (hk) (hk2) (by decide) rfl ?_
  refine m_iret dX11_of_10 rfl rfl ⟨by decide, by decide⟩ ?_
  exact hQ
set_option maxHeartbeats 4000000 in
set_option maxRecDepth 100000 in
theorem c_ment {e : Int32} (hQ : Q (some (.int (bin e 0 (d.1 208 43 - 1)))) S1 d) : mC G mX11_isEntry [.ref 207, .int e] S1 d Q := by
  refine mC_of (by decide +kernel) ⟨_, rfl⟩ (by decide) ?_
  show mM G mX11_isEntry 0 [some (.ref 207), some (.int e)] [] S1 d (0, 0) Q
  refine m_iload_n (pc' := 1) dX11_isEntry_0 rfl rfl ?_
  refine m_iconst (pc' := 2) (v := 0) dX11_isEntry_1 (by decide) rfl ?_
  refine m_aload_n (pc' := 3) dX11_isEntry_2 rfl rfl ?_
  refine m_getR (pc' := 6) fa_X11_isEntry_7 dX11_isEntry_3 (by decide) rfl rfl rfl rfl ?_
  refine m_bipush (pc' := 8) (v := 43) dX11_isEntry_6 (by decide) rfl ?_
  refine m_ialdN (pc' := 9) (j := 43) (L := 408) dX11_isEntry_8 (by decide) rfl rfl (rfl) (by decide) (by decide) rfl ?_
  refine m_iconst (pc' := 10) (v := 1) dX11_isEntry_9 (by decide) rfl ?_
  refine m_isub (pc' := 11) dX11_isEntry_10 rfl ?_
  refine m_callS (pc' := 14) (A := [.int e, .int 0, .int ((d.1 208 43) - 1)]) (rest := []) cl_X11_isEntry_40 dX11_isEntry_11 rfl rfl (by decide) ⟨by decide, by decide⟩ rfl rfl ?_
  refine c_in ?_
  show mM G mX11_isEntry 14 [some (.ref 207), some (.int e)] [.int (bin e 0 ((d.1 208 43) - 1))] S1 d (0, 0) Q
  refine m_iret dX11_isEntry_14 rfl (by unfold bin; split <;> rfl) ⟨by decide, by decide⟩ ?_
  exact hQ
theorem ix_e (i : Nat) : (44 : Int32) + 2 * nI i = nI (44 + 2 * i) := by rw [show (2 : Int32) = nI 2 from rfl, show (44 : Int32) = nI 44 from rfl, pk_mul, nI_add]
theorem ix_f (i : Nat) : (44 : Int32) + 2 * nI i + 1 = nI (45 + 2 * i) := by rw [ix_e, nI_1]; congr 1; omega
theorem ix_c (c k : Nat) : (5 : Int32) * nI c + nI k = nI (5 * c + k) := by rw [show (5 : Int32) = nI 5 from rfl, pk_mul, nI_add]
set_option maxHeartbeats 4000000 in
set_option maxRecDepth 100000 in
theorem c_mplace {i : Nat} (hi : i < 150) (hQ : Q (some (.int (d.1 208 (44 + 2 * i)))) S1 d) : mC G mX11_placeOf [.ref 207, .int (nI i)] S1 d Q := by
  refine mC_of (by decide +kernel) ⟨_, rfl⟩ (by decide) ?_
  show mM G mX11_placeOf 0 [some (.ref 207), some (.int (nI i))] [] S1 d (0, 0) Q
  refine m_aload_n (pc' := 1) dX11_placeOf_0 rfl rfl ?_
  refine m_getR (pc' := 4) fa_X11_placeOf_7 dX11_placeOf_1 (by decide) rfl rfl rfl rfl ?_
  refine m_bipush (pc' := 6) (v := 44) dX11_placeOf_4 (by decide) rfl ?_
  refine m_iconst (pc' := 7) (v := 2) dX11_placeOf_6 (by decide) rfl ?_
  refine m_iload_n (pc' := 8) dX11_placeOf_7 rfl rfl ?_
  refine m_imul (pc' := 9) dX11_placeOf_8 rfl ?_
  refine m_iadd (pc' := 10) dX11_placeOf_9 rfl ?_
  refine m_ialdN (pc' := 11) (j := 44 + 2 * i) (L := 408) dX11_placeOf_10 (by decide) rfl rfl (ix_e i) (by omega) (by decide) rfl ?_
  refine m_iret dX11_placeOf_11 rfl rfl ⟨by decide, by decide⟩ ?_
  exact hQ
set_option maxHeartbeats 4000000 in
set_option maxRecDepth 100000 in
theorem c_msettle {i : Nat} (hi : i < 150) (hQ : Q (some (.int (d.1 208 (45 + 2 * i)))) S1 d) : mC G mX11_settleOf [.ref 207, .int (nI i)] S1 d Q := by
  refine mC_of (by decide +kernel) ⟨_, rfl⟩ (by decide) ?_
  show mM G mX11_settleOf 0 [some (.ref 207), some (.int (nI i))] [] S1 d (0, 0) Q
  refine m_aload_n (pc' := 1) dX11_settleOf_0 rfl rfl ?_
  refine m_getR (pc' := 4) fa_X11_settleOf_7 dX11_settleOf_1 (by decide) rfl rfl rfl rfl ?_
  refine m_bipush (pc' := 6) (v := 44) dX11_settleOf_4 (by decide) rfl ?_
  refine m_iconst (pc' := 7) (v := 2) dX11_settleOf_6 (by decide) rfl ?_
  refine m_iload_n (pc' := 8) dX11_settleOf_7 rfl rfl ?_
  refine m_imul (pc' := 9) dX11_settleOf_8 rfl ?_
  refine m_iadd (pc' := 10) dX11_settleOf_9 rfl ?_
  refine m_iconst (pc' := 11) (v := 1) dX11_settleOf_10 (by decide) rfl ?_
  refine m_iadd (pc' := 12) dX11_settleOf_11 rfl ?_
  refine m_ialdN (pc' := 13) (j := 45 + 2 * i) (L := 408) dX11_settleOf_12 (by decide) rfl rfl (ix_f i) (by omega) (by decide) rfl ?_
  refine m_iret dX11_settleOf_13 rfl rfl ⟨by decide, by decide⟩ ?_
  exact hQ
end MOD1
