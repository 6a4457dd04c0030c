/-! THE CHECK'S OWN METHODS (1): reads -/
section MOD1
variable {G : GP} {Q : Option Value → Sh → Dt → Prop} {d : Dt} {s : SS}
set_option maxHeartbeats 4000000 in
set_option maxRecDepth 100000 in
theorem c_within {v a b : Int32} (hQ : Q (some (.int (bin v a b))) S1 d) : mC G mX10_isWithin [.int v, .int a, .int b] S1 d Q := by
  refine mC_of (by decide +kernel) ⟨_, rfl⟩ (Nat.le_of_ble_eq_true rfl) ?_
  show mM G mX10_isWithin 0 [some (.int v), some (.int a), some (.int b)] [] S1 d (0, 0) Q
  refine m_iload_n (pc' := 1) dX10_isWithin_0 rfl rfl ?_
  refine m_iload_n (pc' := 2) dX10_isWithin_1 rfl rfl ?_
  refine m_icmp_lt (tgt := 14) (pc' := 5) dX10_isWithin_2 (by decide) rfl (fun h2 => ?_) (fun h2 => ?_)
  · skip
    refine m_iconst (pc' := 15) (v := 0) dX10_isWithin_14 (by decide) rfl ?_
    refine m_iret dX10_isWithin_15 rfl (by decide) ⟨by decide, by decide⟩ ?_
    exact q_i hQ (if_neg (fun h => Int32.not_lt.mpr h.1 h2)).symm
  · skip
    refine m_iload_n (pc' := 6) dX10_isWithin_5 rfl rfl ?_
    refine m_iload_n (pc' := 7) dX10_isWithin_6 rfl rfl ?_
    refine m_icmp_gt (tgt := 14) (pc' := 10) dX10_isWithin_7 (by decide) rfl (fun h7 => ?_) (fun h7 => ?_)
    · skip
      refine m_iconst (pc' := 15) (v := 0) dX10_isWithin_14 (by decide) rfl ?_
      refine m_iret dX10_isWithin_15 rfl (by decide) ⟨by decide, by decide⟩ ?_
      exact q_i hQ (if_neg (fun h => Int32.not_lt.mpr h.2 h7)).symm
    · skip
      refine m_iconst (pc' := 11) (v := 1) dX10_isWithin_10 (by decide) rfl ?_
      refine m_goto (tgt := 15) dX10_isWithin_11 (by decide) ?_
      refine m_iret dX10_isWithin_15 rfl (by decide) ⟨by decide, by decide⟩ ?_
      exact q_i hQ (if_pos ⟨Int32.not_lt.mp h2, Int32.not_lt.mp h7⟩).symm
end MOD1
