/-! THE CHECK'S OWN METHODS (3): sums over lists, keys, sources, lists that change -/
section MOD3
variable {G : GP} {Q : Option Value → Sh → Dt → Prop} {d : Dt} {s : SS}
set_option maxHeartbeats 4000000 in
set_option maxRecDepth 100000 in
theorem c_isSource {k l x p : Int32} (hQ : Q (some (.int (isrc k l x p))) S1 d) : mC G mX10_isSource [.int k, .int l, .int x, .int p] S1 d Q := by
  refine mC_of (by decide +kernel) ⟨_, rfl⟩ (Nat.le_of_ble_eq_true rfl) ?_
  show mM G mX10_isSource 0 [some (.int k), some (.int l), some (.int x), some (.int p)] [] S1 d (0, 0) Q
  refine m_iload_n (pc' := 1) dX10_isSource_0 rfl rfl ?_
  refine m_iconst (pc' := 2) (v := 0) dX10_isSource_1 (by decide) rfl ?_
  refine m_sipush (pc' := 5) (v := 4095) dX10_isSource_2 (by decide) rfl ?_
  refine m_callS (pc' := 8) (A := [.int l, .int 0, .int 4095]) (rest := []) cl_X10_isSource_81 dX10_isSource_5 rfl rfl (Nat.le_of_ble_eq_true rfl) ⟨by decide, by decide⟩ rfl rfl ?_
  refine c_within ?_
  show mM G mX10_isSource 8 [some (.int k), some (.int l), some (.int x), some (.int p)] [.int (bin l 0 4095)] S1 d (0, 0) Q
  refine m_if_ne (tgt := 13) (pc' := 11) dX10_isSource_8 (by decide) rfl (fun h8 => ?_) (fun h8 => ?_)
  · skip
    refine m_iload_n (pc' := 14) dX10_isSource_13 rfl rfl ?_
    by_cases e14_0 : k = 0
    · skip
      refine m_tableIn (tgt := 40) (off := 26) dX10_isSource_14 (by rw [e14_0]; decide) (by rw [e14_0]; decide) (by rw [e14_0]; rfl) (by decide) ?_
      refine m_iload_n (pc' := 41) dX10_isSource_40 rfl rfl ?_
      refine m_if_ne (tgt := 52) (pc' := 44) dX10_isSource_41 (by decide) rfl (fun h41 => ?_) (fun h41 => ?_)
      · skip
        refine m_iconst (pc' := 53) (v := 0) dX10_isSource_52 (by decide) rfl ?_
        refine m_iret dX10_isSource_53 rfl (by decide) ⟨by decide, by decide⟩ ?_
        exact q_i hQ (by unfold isrc; rw [if_neg h8, if_pos e14_0, if_neg (fun h => absurd h.1 (fun q => by first | exact h41 q | exact q h41))])
      · skip
        refine m_iload_n (pc' := 45) dX10_isSource_44 rfl rfl ?_
        refine m_if_ne (tgt := 52) (pc' := 48) dX10_isSource_45 (by decide) rfl (fun h45 => ?_) (fun h45 => ?_)
        · skip
          refine m_iconst (pc' := 53) (v := 0) dX10_isSource_52 (by decide) rfl ?_
          refine m_iret dX10_isSource_53 rfl (by decide) ⟨by decide, by decide⟩ ?_
          exact q_i hQ (by unfold isrc; rw [if_neg h8, if_pos e14_0, if_neg (fun h => absurd h.2 (fun q => by first | exact h45 q | exact q h45))])
        · skip
          refine m_iconst (pc' := 49) (v := 1) dX10_isSource_48 (by decide) rfl ?_
          refine m_goto (tgt := 53) dX10_isSource_49 (by decide) ?_
          refine m_iret dX10_isSource_53 rfl (by decide) ⟨by decide, by decide⟩ ?_
          exact q_i hQ (by unfold isrc; rw [if_neg h8, if_pos e14_0, if_pos ⟨h41, h45⟩])
    by_cases e14_1 : k = 1
    · skip
      refine m_tableIn (tgt := 54) (off := 40) dX10_isSource_14 (by rw [e14_1]; decide) (by rw [e14_1]; decide) (by rw [e14_1]; rfl) (by decide) ?_
      refine m_iload_n (pc' := 55) dX10_isSource_54 rfl rfl ?_
      refine m_bipush (pc' := 57) (v := (-64)) dX10_isSource_55 (by decide) rfl ?_
      refine m_bipush (pc' := 59) (v := 64) dX10_isSource_57 (by decide) rfl ?_
      refine m_callS (pc' := 62) (A := [.int x, .int (-64), .int 64]) (rest := []) cl_X10_isSource_81 dX10_isSource_59 rfl rfl (Nat.le_of_ble_eq_true rfl) ⟨by decide, by decide⟩ rfl rfl ?_
      refine c_within ?_
      show mM G mX10_isSource 62 [some (.int k), some (.int l), some (.int x), some (.int p)] [.int (bin x (-64) 64)] S1 d (0, 0) Q
      refine m_if_eq (tgt := 73) (pc' := 65) dX10_isSource_62 (by decide) rfl (fun h62 => ?_) (fun h62 => ?_)
      · skip
        refine m_iconst (pc' := 74) (v := 0) dX10_isSource_73 (by decide) rfl ?_
        refine m_iret dX10_isSource_74 rfl (by decide) ⟨by decide, by decide⟩ ?_
        exact q_i hQ (by unfold isrc; rw [if_neg h8, if_neg e14_0, if_pos e14_1, if_neg (fun h => absurd h.1 (fun q => by first | exact h62 q | exact q h62))])
      · skip
        refine m_iload_n (pc' := 66) dX10_isSource_65 rfl rfl ?_
        refine m_if_ne (tgt := 73) (pc' := 69) dX10_isSource_66 (by decide) rfl (fun h66 => ?_) (fun h66 => ?_)
        · skip
          refine m_iconst (pc' := 74) (v := 0) dX10_isSource_73 (by decide) rfl ?_
          refine m_iret dX10_isSource_74 rfl (by decide) ⟨by decide, by decide⟩ ?_
          exact q_i hQ (by unfold isrc; rw [if_neg h8, if_neg e14_0, if_pos e14_1, if_neg (fun h => absurd h.2 (fun q => by first | exact h66 q | exact q h66))])
        · skip
          refine m_iconst (pc' := 70) (v := 1) dX10_isSource_69 (by decide) rfl ?_
          refine m_goto (tgt := 74) dX10_isSource_70 (by decide) ?_
          refine m_iret dX10_isSource_74 rfl (by decide) ⟨by decide, by decide⟩ ?_
          exact q_i hQ (by unfold isrc; rw [if_neg h8, if_neg e14_0, if_pos e14_1, if_pos ⟨h62, h66⟩])
    by_cases e14_2 : k = 2
    · skip
      refine m_tableIn (tgt := 75) (off := 61) dX10_isSource_14 (by rw [e14_2]; decide) (by rw [e14_2]; decide) (by rw [e14_2]; rfl) (by decide) ?_
      refine m_iload_n (pc' := 76) dX10_isSource_75 rfl rfl ?_
      refine m_iconst (pc' := 77) (v := 0) dX10_isSource_76 (by decide) rfl ?_
      refine m_sipush (pc' := 80) (v := 4095) dX10_isSource_77 (by decide) rfl ?_
      refine m_callS (pc' := 83) (A := [.int x, .int 0, .int 4095]) (rest := []) cl_X10_isSource_81 dX10_isSource_80 rfl rfl (Nat.le_of_ble_eq_true rfl) ⟨by decide, by decide⟩ rfl rfl ?_
      refine c_within ?_
      show mM G mX10_isSource 83 [some (.int k), some (.int l), some (.int x), some (.int p)] [.int (bin x 0 4095)] S1 d (0, 0) Q
      refine m_if_eq (tgt := 101) (pc' := 86) dX10_isSource_83 (by decide) rfl (fun h83 => ?_) (fun h83 => ?_)
      · skip
        refine m_iconst (pc' := 102) (v := 0) dX10_isSource_101 (by decide) rfl ?_
        refine m_iret dX10_isSource_102 rfl (by decide) ⟨by decide, by decide⟩ ?_
        exact q_i hQ (by unfold isrc; rw [if_neg h8, if_neg e14_0, if_neg e14_1, if_pos e14_2, if_neg (fun h => absurd h.1 (fun q => by first | exact h83 q | exact q h83))])
      · skip
        refine m_iload_n (pc' := 87) dX10_isSource_86 rfl rfl ?_
        refine m_iconst (pc' := 88) (v := 2) dX10_isSource_87 (by decide) rfl ?_
        refine m_sipush (pc' := 91) (v := 200) dX10_isSource_88 (by decide) rfl ?_
        refine m_callS (pc' := 94) (A := [.int p, .int 2, .int 200]) (rest := []) cl_X10_isSource_81 dX10_isSource_91 rfl rfl (Nat.le_of_ble_eq_true rfl) ⟨by decide, by decide⟩ rfl rfl ?_
        refine c_within ?_
        show mM G mX10_isSource 94 [some (.int k), some (.int l), some (.int x), some (.int p)] [.int (bin p 2 200)] S1 d (0, 0) Q
        refine m_if_eq (tgt := 101) (pc' := 97) dX10_isSource_94 (by decide) rfl (fun h94 => ?_) (fun h94 => ?_)
        · skip
          refine m_iconst (pc' := 102) (v := 0) dX10_isSource_101 (by decide) rfl ?_
          refine m_iret dX10_isSource_102 rfl (by decide) ⟨by decide, by decide⟩ ?_
          exact q_i hQ (by unfold isrc; rw [if_neg h8, if_neg e14_0, if_neg e14_1, if_pos e14_2, if_neg (fun h => absurd h.2 (fun q => by first | exact h94 q | exact q h94))])
        · skip
          refine m_iconst (pc' := 98) (v := 1) dX10_isSource_97 (by decide) rfl ?_
          refine m_goto (tgt := 102) dX10_isSource_98 (by decide) ?_
          refine m_iret dX10_isSource_102 rfl (by decide) ⟨by decide, by decide⟩ ?_
          exact q_i hQ (by unfold isrc; rw [if_neg h8, if_neg e14_0, if_neg e14_1, if_pos e14_2, if_pos ⟨h83, h94⟩])
    refine m_tableOut (tgt := 103) dX10_isSource_14 (by have z0 := tI_ne e14_0; have z1 := tI_ne e14_1; have z2 := tI_ne e14_2; have y0 : ((0 : Int32)).toInt = 0 := (by decide); have y1 : ((1 : Int32)).toInt = 1 := (by decide); have y2 : ((2 : Int32)).toInt = 2 := (by decide); omega) (by decide) ?_
    refine m_iconst (pc' := 104) (v := 0) dX10_isSource_103 (by decide) rfl ?_
    refine m_iret dX10_isSource_104 rfl (by decide) ⟨by decide, by decide⟩ ?_
    exact q_i hQ (by unfold isrc; rw [if_neg h8, if_neg e14_0, if_neg e14_1, if_neg e14_2])
  · skip
    refine m_iconst (pc' := 12) (v := 0) dX10_isSource_11 (by decide) rfl ?_
    refine m_iret dX10_isSource_12 rfl (by decide) ⟨by decide, by decide⟩ ?_
    exact q_i hQ (by unfold isrc; rw [if_pos h8])
end MOD3
