/-! THE CHECK'S OWN METHODS (3): sums over lists, keys, sources, lists that change -/
section MOD3
variable {G : GP} {Q : Option Value → Sh → Dt → Prop} {d : Dt} {s : SS}
set_option maxHeartbeats 4000000 in
set_option maxRecDepth 100000 in
theorem c_mslots {n : Nat} (hs : d.1 215 = s) (hl : okL s n) (hQ : Q (some (.int (sls s n))) S1 d) : mC G mX11_slots [.ref 214] S1 d Q := by
  have hn16 := hl.1
  have J : ∀ (n0 : Nat) (k : Nat) (_ : k + n0 = n), mM G mX11_slots 4 [some (.ref 214), some (.int (sls s k)), some (.int (nI k))] [] S1 d (0, 0) Q := by
    intro n0
    induction n0 with
    | zero =>
      intro k hk
      refine m_iload_n (pc' := 5) dX11_slots_4 rfl rfl ?_
      refine m_aload_n (pc' := 6) dX11_slots_5 rfl rfl ?_
      refine m_getR (pc' := 9) fa_X11_slots_7 dX11_slots_6 (by decide) rfl rfl rfl rfl ?_
      refine m_bipush (pc' := 11) (v := 43) dX11_slots_9 (by decide) rfl ?_
      refine m_ialdN (pc' := 12) (j := 43) (L := 408) dX11_slots_11 (by decide) rfl rfl (rfl) (by decide) (by decide) rfl ?_
      rw [show (d.1 215 43) = (s 43) from congrFun hs 43]
      refine m_icmp_ge (tgt := 31) (pc' := 15) dX11_slots_12 (by decide) rfl (fun h12 => ?_) (fun h12 => (h12 (by rw [hl.2.1]; exact nI_le (by omega) (by omega))).elim)
      refine m_iload_n (pc' := 32) dX11_slots_31 rfl rfl ?_
      refine m_iret dX11_slots_32 rfl rfl ⟨by decide, by decide⟩ ?_
      obtain rfl : k = n := by omega
      exact hQ
    | succ n0 ih =>
      intro k hk
      refine m_iload_n (pc' := 5) dX11_slots_4 rfl rfl ?_
      refine m_aload_n (pc' := 6) dX11_slots_5 rfl rfl ?_
      refine m_getR (pc' := 9) fa_X11_slots_7 dX11_slots_6 (by decide) rfl rfl rfl rfl ?_
      refine m_bipush (pc' := 11) (v := 43) dX11_slots_9 (by decide) rfl ?_
      refine m_ialdN (pc' := 12) (j := 43) (L := 408) dX11_slots_11 (by decide) rfl rfl (rfl) (by decide) (by decide) rfl ?_
      rw [show (d.1 215 43) = (s 43) from congrFun hs 43]
      refine m_icmp_ge (tgt := 31) (pc' := 15) dX11_slots_12 (by decide) rfl (fun h12 => absurd h12 (by rw [hl.2.1]; exact nI_ge (by omega) (by omega))) (fun h12 => ?_)
      refine m_iload_n (pc' := 16) dX11_slots_15 rfl rfl ?_
      refine m_aload_n (pc' := 17) dX11_slots_16 rfl rfl ?_
      refine m_iload_n (pc' := 18) dX11_slots_17 rfl rfl ?_
      refine m_callV (pc' := 21) (A := [.int (nI k)]) (rest := [.int (sls s k)]) (b := 214) cl_X11_slots_93 dX11_slots_18 rfl rfl (Nat.le_of_ble_eq_true rfl) ⟨by decide, by decide⟩ (by decide) rfl rfl rfl rfl ?_
      refine c_msettle (i := k) (s := s) hs (by omega) ?_
      show mM G mX11_slots 21 [some (.ref 214), some (.int (sls s k)), some (.int (nI k))] [.int (s (45 + 2 * k)), .int (sls s k)] S1 d (0, 0) Q
      refine m_iconst (pc' := 22) (v := 1) dX11_slots_21 (by decide) rfl ?_
      refine m_iadd (pc' := 23) dX11_slots_22 rfl ?_
      refine m_iadd (pc' := 24) dX11_slots_23 rfl ?_
      refine m_istore_n (pc' := 25) dX11_slots_24 (by decide) rfl rfl ?_
      refine m_iinc (pc' := 28) dX11_slots_25 rfl (by decide) (v := nI (k + 1)) (nI_1 k) rfl rfl ?_
      refine m_goto (tgt := 4) dX11_slots_28 (by decide) ?_
      exact ih (k + 1) (by omega)
  refine mC_of (by decide +kernel) ⟨_, rfl⟩ (Nat.le_of_ble_eq_true rfl) ?_
  show mM G mX11_slots 0 [some (.ref 214), none, none] [] S1 d (0, 0) Q
  refine m_iconst (pc' := 1) (v := 0) dX11_slots_0 (by decide) rfl ?_
  refine m_istore_n (pc' := 2) dX11_slots_1 (by decide) rfl rfl ?_
  refine m_iconst (pc' := 3) (v := 0) dX11_slots_2 (by decide) rfl ?_
  refine m_istore_n (pc' := 4) dX11_slots_3 (by decide) rfl rfl ?_
  exact J n 0 (by omega)
set_option maxHeartbeats 4000000 in
set_option maxRecDepth 100000 in
theorem c_mkinds {kd : Int32} (hs : d.1 215 = s) (hQ : Q (some (.int (cks s kd 8))) S1 d) : mC G mX11_kinds [.ref 214, .int kd] S1 d Q := by
  have J : ∀ (n0 : Nat) (k : Nat) (_ : k + n0 = 8), mM G mX11_kinds 4 [some (.ref 214), some (.int kd), some (.int (cks s kd k)), some (.int (nI k))] [] S1 d (0, 0) Q := by
    intro n0
    induction n0 with
    | zero =>
      intro k hk
      refine m_iload_n (pc' := 5) dX11_kinds_4 rfl rfl ?_
      refine m_bipush (pc' := 7) (v := 8) dX11_kinds_5 (by decide) rfl ?_
      refine m_icmp_ge (tgt := 34) (pc' := 10) dX11_kinds_7 (by decide) rfl (fun h7 => ?_) (fun h7 => (h7 (nI_le (a := 8) (by omega) (by omega))).elim)
      refine m_iload_n (pc' := 35) dX11_kinds_34 rfl rfl ?_
      refine m_iret dX11_kinds_35 rfl rfl ⟨by decide, by decide⟩ ?_
      obtain rfl : k = 8 := by omega
      exact hQ
    | succ n0 ih =>
      intro k hk
      refine m_iload_n (pc' := 5) dX11_kinds_4 rfl rfl ?_
      refine m_bipush (pc' := 7) (v := 8) dX11_kinds_5 (by decide) rfl ?_
      refine m_icmp_ge (tgt := 34) (pc' := 10) dX11_kinds_7 (by decide) rfl (fun h7 => absurd h7 (nI_ge (b := 8) (by omega) (by omega))) (fun h7 => ?_)
      refine m_iload_n (pc' := 11) dX11_kinds_10 rfl rfl ?_
      refine m_aload_n (pc' := 12) dX11_kinds_11 rfl rfl ?_
      refine m_iload_n (pc' := 13) dX11_kinds_12 rfl rfl ?_
      refine m_iconst (pc' := 14) (v := 0) dX11_kinds_13 (by decide) rfl ?_
      refine m_callV (pc' := 17) (A := [.int (nI k), .int 0]) (rest := [.int (cks s kd k)]) (b := 214) cl_X11_kinds_44 dX11_kinds_14 rfl rfl (Nat.le_of_ble_eq_true rfl) ⟨by decide, by decide⟩ (by decide) rfl rfl rfl rfl ?_
      refine c_of (k := 5 * k) (s := s) hs (ix_c k 0) (by omega) ?_
      show mM G mX11_kinds 17 [some (.ref 214), some (.int kd), some (.int (cks s kd k)), some (.int (nI k))] [.int (s (5 * k)), .int (cks s kd k)] S1 d (0, 0) Q
      refine m_iload_n (pc' := 18) dX11_kinds_17 rfl rfl ?_
      refine m_icmp_ne (tgt := 25) (pc' := 21) dX11_kinds_18 (by decide) rfl (fun h18 => ?_) (fun h18 => ?_)
      · skip
        refine m_iconst (pc' := 26) (v := 0) dX11_kinds_25 (by decide) rfl ?_
        refine m_iadd (pc' := 27) dX11_kinds_26 rfl ?_
        refine m_istore_n (pc' := 28) dX11_kinds_27 (by decide) rfl rfl ?_
        refine m_iinc (pc' := 31) dX11_kinds_28 rfl (by decide) (v := nI (k + 1)) (nI_1 k) rfl rfl ?_
        refine m_goto (tgt := 4) dX11_kinds_31 (by decide) ?_
        have e9 := ih (k + 1) (by omega)
        unfold cks at e9; rw [if_neg h18] at e9; exact e9
      · skip
        refine m_iconst (pc' := 22) (v := 1) dX11_kinds_21 (by decide) rfl ?_
        refine m_goto (tgt := 26) dX11_kinds_22 (by decide) ?_
        refine m_iadd (pc' := 27) dX11_kinds_26 rfl ?_
        refine m_istore_n (pc' := 28) dX11_kinds_27 (by decide) rfl rfl ?_
        refine m_iinc (pc' := 31) dX11_kinds_28 rfl (by decide) (v := nI (k + 1)) (nI_1 k) rfl rfl ?_
        refine m_goto (tgt := 4) dX11_kinds_31 (by decide) ?_
        have e9 := ih (k + 1) (by omega)
        unfold cks at e9; rw [if_pos h18] at e9; exact e9
  refine mC_of (by decide +kernel) ⟨_, rfl⟩ (Nat.le_of_ble_eq_true rfl) ?_
  show mM G mX11_kinds 0 [some (.ref 214), some (.int kd), none, none] [] S1 d (0, 0) Q
  refine m_iconst (pc' := 1) (v := 0) dX11_kinds_0 (by decide) rfl ?_
  refine m_istore_n (pc' := 2) dX11_kinds_1 (by decide) rfl rfl ?_
  refine m_iconst (pc' := 3) (v := 0) dX11_kinds_2 (by decide) rfl ?_
  refine m_istore_n (pc' := 4) dX11_kinds_3 (by decide) rfl rfl ?_
  exact J 8 0 (by omega)
set_option maxHeartbeats 4000000 in
set_option maxRecDepth 100000 in
theorem c_mentriesOf {n : Nat} {pl : Int32} (hs : d.1 215 = s) (hl : okL s n) (hQ : Q (some (.int (cen s pl n))) S1 d) : mC G mX11_entriesOf [.ref 214, .int pl] S1 d Q := by
  have hn16 := hl.1
  have J : ∀ (n0 : Nat) (k : Nat) (_ : k + n0 = n), mM G mX11_entriesOf 4 [some (.ref 214), some (.int pl), some (.int (cen s pl k)), some (.int (nI k))] [] S1 d (0, 0) Q := by
    intro n0
    induction n0 with
    | zero =>
      intro k hk
      refine m_iload_n (pc' := 5) dX11_entriesOf_4 rfl rfl ?_
      refine m_aload_n (pc' := 6) dX11_entriesOf_5 rfl rfl ?_
      refine m_getR (pc' := 9) fa_X11_entriesOf_7 dX11_entriesOf_6 (by decide) rfl rfl rfl rfl ?_
      refine m_bipush (pc' := 11) (v := 43) dX11_entriesOf_9 (by decide) rfl ?_
      refine m_ialdN (pc' := 12) (j := 43) (L := 408) dX11_entriesOf_11 (by decide) rfl rfl (rfl) (by decide) (by decide) rfl ?_
      rw [show (d.1 215 43) = (s 43) from congrFun hs 43]
      refine m_icmp_ge (tgt := 38) (pc' := 15) dX11_entriesOf_12 (by decide) rfl (fun h12 => ?_) (fun h12 => (h12 (by rw [hl.2.1]; exact nI_le (by omega) (by omega))).elim)
      refine m_iload_n (pc' := 39) dX11_entriesOf_38 rfl rfl ?_
      refine m_iret dX11_entriesOf_39 rfl rfl ⟨by decide, by decide⟩ ?_
      obtain rfl : k = n := by omega
      exact hQ
    | succ n0 ih =>
      intro k hk
      refine m_iload_n (pc' := 5) dX11_entriesOf_4 rfl rfl ?_
      refine m_aload_n (pc' := 6) dX11_entriesOf_5 rfl rfl ?_
      refine m_getR (pc' := 9) fa_X11_entriesOf_7 dX11_entriesOf_6 (by decide) rfl rfl rfl rfl ?_
      refine m_bipush (pc' := 11) (v := 43) dX11_entriesOf_9 (by decide) rfl ?_
      refine m_ialdN (pc' := 12) (j := 43) (L := 408) dX11_entriesOf_11 (by decide) rfl rfl (rfl) (by decide) (by decide) rfl ?_
      rw [show (d.1 215 43) = (s 43) from congrFun hs 43]
      refine m_icmp_ge (tgt := 38) (pc' := 15) dX11_entriesOf_12 (by decide) rfl (fun h12 => absurd h12 (by rw [hl.2.1]; exact nI_ge (by omega) (by omega))) (fun h12 => ?_)
      refine m_iload_n (pc' := 16) dX11_entriesOf_15 rfl rfl ?_
      refine m_aload_n (pc' := 17) dX11_entriesOf_16 rfl rfl ?_
      refine m_iload_n (pc' := 18) dX11_entriesOf_17 rfl rfl ?_
      refine m_callV (pc' := 21) (A := [.int (nI k)]) (rest := [.int (cen s pl k)]) (b := 214) cl_X11_entriesOf_89 dX11_entriesOf_18 rfl rfl (Nat.le_of_ble_eq_true rfl) ⟨by decide, by decide⟩ (by decide) rfl rfl rfl rfl ?_
      refine c_mplace (i := k) (s := s) hs (by omega) ?_
      show mM G mX11_entriesOf 21 [some (.ref 214), some (.int pl), some (.int (cen s pl k)), some (.int (nI k))] [.int (s (44 + 2 * k)), .int (cen s pl k)] S1 d (0, 0) Q
      refine m_iload_n (pc' := 22) dX11_entriesOf_21 rfl rfl ?_
      refine m_icmp_ne (tgt := 29) (pc' := 25) dX11_entriesOf_22 (by decide) rfl (fun h22 => ?_) (fun h22 => ?_)
      · skip
        refine m_iconst (pc' := 30) (v := 0) dX11_entriesOf_29 (by decide) rfl ?_
        refine m_iadd (pc' := 31) dX11_entriesOf_30 rfl ?_
        refine m_istore_n (pc' := 32) dX11_entriesOf_31 (by decide) rfl rfl ?_
        refine m_iinc (pc' := 35) dX11_entriesOf_32 rfl (by decide) (v := nI (k + 1)) (nI_1 k) rfl rfl ?_
        refine m_goto (tgt := 4) dX11_entriesOf_35 (by decide) ?_
        have e9 := ih (k + 1) (by omega)
        unfold cen at e9; rw [if_neg h22] at e9; exact e9
      · skip
        refine m_iconst (pc' := 26) (v := 1) dX11_entriesOf_25 (by decide) rfl ?_
        refine m_goto (tgt := 30) dX11_entriesOf_26 (by decide) ?_
        refine m_iadd (pc' := 31) dX11_entriesOf_30 rfl ?_
        refine m_istore_n (pc' := 32) dX11_entriesOf_31 (by decide) rfl rfl ?_
        refine m_iinc (pc' := 35) dX11_entriesOf_32 rfl (by decide) (v := nI (k + 1)) (nI_1 k) rfl rfl ?_
        refine m_goto (tgt := 4) dX11_entriesOf_35 (by decide) ?_
        have e9 := ih (k + 1) (by omega)
        unfold cen at e9; rw [if_pos h22] at e9; exact e9
  refine mC_of (by decide +kernel) ⟨_, rfl⟩ (Nat.le_of_ble_eq_true rfl) ?_
  show mM G mX11_entriesOf 0 [some (.ref 214), some (.int pl), none, none] [] S1 d (0, 0) Q
  refine m_iconst (pc' := 1) (v := 0) dX11_entriesOf_0 (by decide) rfl ?_
  refine m_istore_n (pc' := 2) dX11_entriesOf_1 (by decide) rfl rfl ?_
  refine m_iconst (pc' := 3) (v := 0) dX11_entriesOf_2 (by decide) rfl ?_
  refine m_istore_n (pc' := 4) dX11_entriesOf_3 (by decide) rfl rfl ?_
  exact J n 0 (by omega)
set_option maxHeartbeats 4000000 in
set_option maxRecDepth 100000 in
theorem c_mcorr {c : Nat} (hs : d.1 215 = s) (hc : c < 8) (hQ : Q (some (.int (cor s (s (78 + c)) (s 86) (s 87)))) S1 d) : mC G mX11_corrected [.ref 214, .int (nI c)] S1 d Q := by
  refine mC_of (by decide +kernel) ⟨_, rfl⟩ (Nat.le_of_ble_eq_true rfl) ?_
  show mM G mX11_corrected 0 [some (.ref 214), some (.int (nI c)), none, none, none] [] S1 d (0, 0) Q
  refine m_aload_n (pc' := 1) dX11_corrected_0 rfl rfl ?_
  refine m_getR (pc' := 4) fa_X11_corrected_7 dX11_corrected_1 (by decide) rfl rfl rfl rfl ?_
  refine m_bipush (pc' := 6) (v := 78) dX11_corrected_4 (by decide) rfl ?_
  refine m_iload_n (pc' := 7) dX11_corrected_6 rfl rfl ?_
  refine m_iadd (pc' := 8) dX11_corrected_7 rfl ?_
  refine m_ialdN (pc' := 9) (j := 78 + c) (L := 408) dX11_corrected_8 (by decide) rfl rfl (nI_add 78 c) (by omega) (by decide) rfl ?_
  rw [show (d.1 215 (78 + c)) = (s (78 + c)) from congrFun hs (78 + c)]
  refine m_istore_n (pc' := 10) dX11_corrected_9 (by decide) rfl rfl ?_
  refine m_aload_n (pc' := 11) dX11_corrected_10 rfl rfl ?_
  refine m_getR (pc' := 14) fa_X11_corrected_7 dX11_corrected_11 (by decide) rfl rfl rfl rfl ?_
  refine m_bipush (pc' := 16) (v := 86) dX11_corrected_14 (by decide) rfl ?_
  refine m_ialdN (pc' := 17) (j := 86) (L := 408) dX11_corrected_16 (by decide) rfl rfl (rfl) (by decide) (by decide) rfl ?_
  rw [show (d.1 215 86) = (s 86) from congrFun hs 86]
  refine m_istore_n (pc' := 18) dX11_corrected_17 (by decide) rfl rfl ?_
  refine m_aload_n (pc' := 19) dX11_corrected_18 rfl rfl ?_
  refine m_getR (pc' := 22) fa_X11_corrected_7 dX11_corrected_19 (by decide) rfl rfl rfl rfl ?_
  refine m_bipush (pc' := 24) (v := 87) dX11_corrected_22 (by decide) rfl ?_
  refine m_ialdN (pc' := 25) (j := 87) (L := 408) dX11_corrected_24 (by decide) rfl rfl (rfl) (by decide) (by decide) rfl ?_
  rw [show (d.1 215 87) = (s 87) from congrFun hs 87]
  refine m_istore (pc' := 27) dX11_corrected_25 (by decide) rfl rfl ?_
  refine m_iload_n (pc' := 28) dX11_corrected_27 rfl rfl ?_
  refine m_iconst (pc' := 29) (v := (-1)) dX11_corrected_28 (by decide) rfl ?_
  refine m_icmp_eq (tgt := 43) (pc' := 32) dX11_corrected_29 (by decide) rfl (fun h29 => ?_) (fun h29 => ?_)
  · skip
    refine m_ldc (pc' := 45) dX11_corrected_43 kc_X11_corrected_196 rfl ?_
    refine m_goto (tgt := 66) dX11_corrected_45 (by decide) ?_
    refine m_iret dX11_corrected_66 rfl rfl ⟨by decide, by decide⟩ ?_
    exact q_i hQ (by unfold cor; rw [if_pos (Or.inl h29)])
  · skip
    refine m_iload_n (pc' := 33) dX11_corrected_32 rfl rfl ?_
    refine m_iconst (pc' := 34) (v := (-1)) dX11_corrected_33 (by decide) rfl ?_
    refine m_icmp_eq (tgt := 43) (pc' := 37) dX11_corrected_34 (by decide) rfl (fun h34 => ?_) (fun h34 => ?_)
    · skip
      refine m_ldc (pc' := 45) dX11_corrected_43 kc_X11_corrected_196 rfl ?_
      refine m_goto (tgt := 66) dX11_corrected_45 (by decide) ?_
      refine m_iret dX11_corrected_66 rfl rfl ⟨by decide, by decide⟩ ?_
      exact q_i hQ (by unfold cor; rw [if_pos (Or.inr (Or.inl h34))])
    · skip
      refine m_iload (pc' := 39) dX11_corrected_37 rfl rfl ?_
      refine m_iload_n (pc' := 40) dX11_corrected_39 rfl rfl ?_
      refine m_icmp_gt (tgt := 48) (pc' := 43) dX11_corrected_40 (by decide) rfl (fun h40 => ?_) (fun h40 => ?_)
      · skip
        refine m_iload_n (pc' := 49) dX11_corrected_48 rfl rfl ?_
        refine m_iload_n (pc' := 50) dX11_corrected_49 rfl rfl ?_
        refine m_isub (pc' := 51) dX11_corrected_50 rfl ?_
        refine m_aload_n (pc' := 52) dX11_corrected_51 rfl rfl ?_
        refine m_getR (pc' := 55) fa_X11_corrected_7 dX11_corrected_52 (by decide) rfl rfl rfl rfl ?_
        refine m_bipush (pc' := 57) (v := 40) dX11_corrected_55 (by decide) rfl ?_
        refine m_ialdN (pc' := 58) (j := 40) (L := 408) dX11_corrected_57 (by decide) rfl rfl (rfl) (by decide) (by decide) rfl ?_
        rw [show (d.1 215 40) = (s 40) from congrFun hs 40]
        refine m_imul (pc' := 59) dX11_corrected_58 rfl ?_
        refine m_iload (pc' := 61) dX11_corrected_59 rfl rfl ?_
        refine m_iload_n (pc' := 62) dX11_corrected_61 rfl rfl ?_
        refine m_isub (pc' := 63) dX11_corrected_62 rfl ?_
        refine m_callS (pc' := 66) (A := [.int (((s (78 + c)) - (s 86)) * (s 40)), .int ((s 87) - (s 86))]) (rest := []) cl_X11_corrected_48 dX11_corrected_63 rfl rfl (Nat.le_of_ble_eq_true rfl) ⟨by decide, by decide⟩ rfl rfl ?_
        refine c_down (sub_nz h40) ?_
        show mM G mX11_corrected 66 [some (.ref 214), some (.int (nI c)), some (.int (s (78 + c))), some (.int (s 86)), some (.int (s 87))] [.int (dwn (((s (78 + c)) - (s 86)) * (s 40)) ((s 87) - (s 86)))] S1 d (0, 0) Q
        refine m_iret dX11_corrected_66 rfl rfl ⟨by decide, by decide⟩ ?_
        exact q_i hQ (by unfold cor; rw [if_neg (fun h => h.elim h29 (fun h => h.elim h34 (fun h => absurd h40 (Int32.not_lt.mpr h))))])
      · skip
        refine m_ldc (pc' := 45) dX11_corrected_43 kc_X11_corrected_196 rfl ?_
        refine m_goto (tgt := 66) dX11_corrected_45 (by decide) ?_
        refine m_iret dX11_corrected_66 rfl rfl ⟨by decide, by decide⟩ ?_
        exact q_i hQ (by unfold cor; rw [if_pos (Or.inr (Or.inr (Int32.not_lt.mp h40)))])
set_option maxHeartbeats 4000000 in
set_option maxRecDepth 100000 in
theorem c_mkeyOf {n i : Nat} {r : Int32} (hs : d.1 215 = s) (hc : ∀ c, c < 8 → okC s c) (hl : okL s n) (hi : i < n) (hQ : Q (some (.int (kyl s r i))) S1 d) : mC G mX11_keyOf [.ref 214, .int (nI i), .int r] S1 d Q := by
  have hn16 := hl.1
  have hp1 := (okL_p hl hi).1
  have hp9 := (okL_p hl hi).2
  refine mC_of (by decide +kernel) ⟨_, rfl⟩ (Nat.le_of_ble_eq_true rfl) ?_
  show mM G mX11_keyOf 0 [some (.ref 214), some (.int (nI i)), some (.int r), none] [] S1 d (0, 0) Q
  refine m_aload_n (pc' := 1) dX11_keyOf_0 rfl rfl ?_
  refine m_iload_n (pc' := 2) dX11_keyOf_1 rfl rfl ?_
  refine m_callV (pc' := 5) (A := [.int (nI i)]) (rest := []) (b := 214) cl_X11_keyOf_89 dX11_keyOf_2 rfl rfl (Nat.le_of_ble_eq_true rfl) ⟨by decide, by decide⟩ (by decide) rfl rfl rfl rfl ?_
  refine c_mplace (i := i) (s := s) hs (by omega) ?_
  show mM G mX11_keyOf 5 [some (.ref 214), some (.int (nI i)), some (.int r), none] [.int (s (44 + 2 * i))] S1 d (0, 0) Q
  rw [show (s (44 + 2 * i)) = (nI (pn s i)) from hp1]
  refine m_istore_n (pc' := 6) dX11_keyOf_5 (by decide) rfl rfl ?_
  refine m_iload_n (pc' := 7) dX11_keyOf_6 rfl rfl ?_
  refine m_if_ne (tgt := 14) (pc' := 10) dX11_keyOf_7 (by decide) rfl (fun h7 => ?_) (fun h7 => ?_)
  · skip
    refine m_iload_n (pc' := 15) dX11_keyOf_14 rfl rfl ?_
    refine m_iconst (pc' := 16) (v := 1) dX11_keyOf_15 (by decide) rfl ?_
    refine m_icmp_ne (tgt := 38) (pc' := 19) dX11_keyOf_16 (by decide) rfl (fun h16 => ?_) (fun h16 => ?_)
    · skip
      refine m_aload_n (pc' := 39) dX11_keyOf_38 rfl rfl ?_
      refine m_iload_n (pc' := 40) dX11_keyOf_39 rfl rfl ?_
      refine m_aload_n (pc' := 41) dX11_keyOf_40 rfl rfl ?_
      refine m_getR (pc' := 44) fa_X11_keyOf_7 dX11_keyOf_41 (by decide) rfl rfl rfl rfl ?_
      refine m_bipush (pc' := 46) (v := 76) dX11_keyOf_44 (by decide) rfl ?_
      refine m_ialdN (pc' := 47) (j := 76) (L := 408) dX11_keyOf_46 (by decide) rfl rfl (rfl) (by decide) (by decide) rfl ?_
      rw [show (d.1 215 76) = (s 76) from congrFun hs 76]
      refine m_callV (pc' := 50) (A := [.int (nI (pn s i)), .int (s 76)]) (rest := []) (b := 214) cl_X11_keyOf_54 dX11_keyOf_47 rfl rfl (Nat.le_of_ble_eq_true rfl) ⟨by decide, by decide⟩ (by decide) rfl rfl rfl rfl ?_
      refine c_mvalueOf (s := s) hs (pok_of hc hp9) ?_
      show mM G mX11_keyOf 50 [some (.ref 214), some (.int (nI i)), some (.int r), some (.int (nI (pn s i)))] [.int (pvl s (pn s i) (s 76))] S1 d (0, 0) Q
      refine m_iret dX11_keyOf_50 rfl rfl ⟨by decide, by decide⟩ ?_
      exact q_i hQ (by unfold kyl; rw [if_neg h7, if_neg h16])
    · skip
      refine m_iload_n (pc' := 20) dX11_keyOf_19 rfl rfl ?_
      refine m_bipush (pc' := 22) (v := 8) dX11_keyOf_20 (by decide) rfl ?_
      refine m_icmp_ge (tgt := 34) (pc' := 25) dX11_keyOf_22 (by decide) rfl (fun h22 => ?_) (fun h22 => ?_)
      · skip
        refine m_iconst (pc' := 35) (v := 0) dX11_keyOf_34 (by decide) rfl ?_
        refine m_goto (tgt := 50) dX11_keyOf_35 (by decide) ?_
        refine m_iret dX11_keyOf_50 rfl rfl ⟨by decide, by decide⟩ ?_
        exact q_i hQ (by unfold kyl rsl; rw [if_neg h7, if_pos h16, if_neg (show ¬ pn s i < 8 from Nat.not_lt.mpr ((nI_leI (a := 8) (by decide) (by omega)).mp h22))])
      · skip
        refine m_aload_n (pc' := 26) dX11_keyOf_25 rfl rfl ?_
        refine m_iload_n (pc' := 27) dX11_keyOf_26 rfl rfl ?_
        refine m_iconst (pc' := 28) (v := 4) dX11_keyOf_27 (by decide) rfl ?_
        refine m_callV (pc' := 31) (A := [.int (nI (pn s i)), .int 4]) (rest := []) (b := 214) cl_X11_keyOf_44 dX11_keyOf_28 rfl rfl (Nat.le_of_ble_eq_true rfl) ⟨by decide, by decide⟩ (by decide) rfl rfl rfl rfl ?_
        refine c_of (k := 5 * pn s i + 4) (s := s) hs (ix_c (pn s i) 4) (by omega) ?_
        show mM G mX11_keyOf 31 [some (.ref 214), some (.int (nI i)), some (.int r), some (.int (nI (pn s i)))] [.int (s (5 * pn s i + 4))] S1 d (0, 0) Q
        refine m_goto (tgt := 50) dX11_keyOf_31 (by decide) ?_
        refine m_iret dX11_keyOf_50 rfl rfl ⟨by decide, by decide⟩ ?_
        exact q_i hQ (by unfold kyl rsl; rw [if_neg h7, if_pos h16, if_pos (show pn s i < 8 from Nat.not_le.mp (fun h => h22 ((nI_leI (a := 8) (by decide) (by omega)).mpr h)))])
  · skip
    refine m_iload_n (pc' := 11) dX11_keyOf_10 rfl rfl ?_
    refine m_goto (tgt := 50) dX11_keyOf_11 (by decide) ?_
    refine m_iret dX11_keyOf_50 rfl rfl ⟨by decide, by decide⟩ ?_
    exact q_i hQ (by unfold kyl; rw [if_pos h7, ← hp1])
set_option maxHeartbeats 4000000 in
set_option maxRecDepth 100000 in
theorem c_misSource {k l x p : Int32} (hQ : Q (some (.int (isrc k l x p))) S1 d) : mC G mX11_isSource [.int k, .int l, .int x, .int p] S1 d Q := by
  refine mC_of (by decide +kernel) ⟨_, rfl⟩ (Nat.le_of_ble_eq_true rfl) ?_
  show mM G mX11_isSource 0 [some (.int k), some (.int l), some (.int x), some (.int p)] [] S1 d (0, 0) Q
  refine m_iload_n (pc' := 1) dX11_isSource_0 rfl rfl ?_
  refine m_iconst (pc' := 2) (v := 0) dX11_isSource_1 (by decide) rfl ?_
  refine m_sipush (pc' := 5) (v := 4095) dX11_isSource_2 (by decide) rfl ?_
  refine m_callS (pc' := 8) (A := [.int l, .int 0, .int 4095]) (rest := []) cl_X11_isSource_40 dX11_isSource_5 rfl rfl (Nat.le_of_ble_eq_true rfl) ⟨by decide, by decide⟩ rfl rfl ?_
  refine c_in ?_
  show mM G mX11_isSource 8 [some (.int k), some (.int l), some (.int x), some (.int p)] [.int (bin l 0 4095)] S1 d (0, 0) Q
  refine m_if_ne (tgt := 13) (pc' := 11) dX11_isSource_8 (by decide) rfl (fun h8 => ?_) (fun h8 => ?_)
  · skip
    refine m_iload_n (pc' := 14) dX11_isSource_13 rfl rfl ?_
    by_cases e14_0 : k = 0
    · skip
      refine m_tableIn (tgt := 40) (off := 26) dX11_isSource_14 (by rw [e14_0]; decide) (by rw [e14_0]; decide) (by rw [e14_0]; rfl) (by decide) ?_
      refine m_iload_n (pc' := 41) dX11_isSource_40 rfl rfl ?_
      refine m_if_ne (tgt := 52) (pc' := 44) dX11_isSource_41 (by decide) rfl (fun h41 => ?_) (fun h41 => ?_)
      · skip
        refine m_iconst (pc' := 53) (v := 0) dX11_isSource_52 (by decide) rfl ?_
        refine m_iret dX11_isSource_53 rfl (by decide) ⟨by decide, by decide⟩ ?_
        exact q_i hQ (by unfold isrc; rw [if_neg h8, if_pos e14_0, if_neg (fun h => absurd h.1 (fun q => by first | exact h41 q | exact q h41))])
      · skip
        refine m_iload_n (pc' := 45) dX11_isSource_44 rfl rfl ?_
        refine m_if_ne (tgt := 52) (pc' := 48) dX11_isSource_45 (by decide) rfl (fun h45 => ?_) (fun h45 => ?_)
        · skip
          refine m_iconst (pc' := 53) (v := 0) dX11_isSource_52 (by decide) rfl ?_
          refine m_iret dX11_isSource_53 rfl (by decide) ⟨by decide, by decide⟩ ?_
          exact q_i hQ (by unfold isrc; rw [if_neg h8, if_pos e14_0, if_neg (fun h => absurd h.2 (fun q => by first | exact h45 q | exact q h45))])
        · skip
          refine m_iconst (pc' := 49) (v := 1) dX11_isSource_48 (by decide) rfl ?_
          refine m_goto (tgt := 53) dX11_isSource_49 (by decide) ?_
          refine m_iret dX11_isSource_53 rfl (by decide) ⟨by decide, by decide⟩ ?_
          exact q_i hQ (by unfold isrc; rw [if_neg h8, if_pos e14_0, if_pos ⟨h41, h45⟩])
    by_cases e14_1 : k = 1
    · skip
      refine m_tableIn (tgt := 54) (off := 40) dX11_isSource_14 (by rw [e14_1]; decide) (by rw [e14_1]; decide) (by rw [e14_1]; rfl) (by decide) ?_
      refine m_iload_n (pc' := 55) dX11_isSource_54 rfl rfl ?_
      refine m_bipush (pc' := 57) (v := (-64)) dX11_isSource_55 (by decide) rfl ?_
      refine m_bipush (pc' := 59) (v := 64) dX11_isSource_57 (by decide) rfl ?_
      refine m_callS (pc' := 62) (A := [.int x, .int (-64), .int 64]) (rest := []) cl_X11_isSource_40 dX11_isSource_59 rfl rfl (Nat.le_of_ble_eq_true rfl) ⟨by decide, by decide⟩ rfl rfl ?_
      refine c_in ?_
      show mM G mX11_isSource 62 [some (.int k), some (.int l), some (.int x), some (.int p)] [.int (bin x (-64) 64)] S1 d (0, 0) Q
      refine m_if_eq (tgt := 73) (pc' := 65) dX11_isSource_62 (by decide) rfl (fun h62 => ?_) (fun h62 => ?_)
      · skip
        refine m_iconst (pc' := 74) (v := 0) dX11_isSource_73 (by decide) rfl ?_
        refine m_iret dX11_isSource_74 rfl (by decide) ⟨by decide, by decide⟩ ?_
        exact q_i hQ (by unfold isrc; rw [if_neg h8, if_neg e14_0, if_pos e14_1, if_neg (fun h => absurd h.1 (fun q => by first | exact h62 q | exact q h62))])
      · skip
        refine m_iload_n (pc' := 66) dX11_isSource_65 rfl rfl ?_
        refine m_if_ne (tgt := 73) (pc' := 69) dX11_isSource_66 (by decide) rfl (fun h66 => ?_) (fun h66 => ?_)
        · skip
          refine m_iconst (pc' := 74) (v := 0) dX11_isSource_73 (by decide) rfl ?_
          refine m_iret dX11_isSource_74 rfl (by decide) ⟨by decide, by decide⟩ ?_
          exact q_i hQ (by unfold isrc; rw [if_neg h8, if_neg e14_0, if_pos e14_1, if_neg (fun h => absurd h.2 (fun q => by first | exact h66 q | exact q h66))])
        · skip
          refine m_iconst (pc' := 70) (v := 1) dX11_isSource_69 (by decide) rfl ?_
          refine m_goto (tgt := 74) dX11_isSource_70 (by decide) ?_
          refine m_iret dX11_isSource_74 rfl (by decide) ⟨by decide, by decide⟩ ?_
          exact q_i hQ (by unfold isrc; rw [if_neg h8, if_neg e14_0, if_pos e14_1, if_pos ⟨h62, h66⟩])
    by_cases e14_2 : k = 2
    · skip
      refine m_tableIn (tgt := 75) (off := 61) dX11_isSource_14 (by rw [e14_2]; decide) (by rw [e14_2]; decide) (by rw [e14_2]; rfl) (by decide) ?_
      refine m_iload_n (pc' := 76) dX11_isSource_75 rfl rfl ?_
      refine m_iconst (pc' := 77) (v := 0) dX11_isSource_76 (by decide) rfl ?_
      refine m_sipush (pc' := 80) (v := 4095) dX11_isSource_77 (by decide) rfl ?_
      refine m_callS (pc' := 83) (A := [.int x, .int 0, .int 4095]) (rest := []) cl_X11_isSource_40 dX11_isSource_80 rfl rfl (Nat.le_of_ble_eq_true rfl) ⟨by decide, by decide⟩ rfl rfl ?_
      refine c_in ?_
      show mM G mX11_isSource 83 [some (.int k), some (.int l), some (.int x), some (.int p)] [.int (bin x 0 4095)] S1 d (0, 0) Q
      refine m_if_eq (tgt := 101) (pc' := 86) dX11_isSource_83 (by decide) rfl (fun h83 => ?_) (fun h83 => ?_)
      · skip
        refine m_iconst (pc' := 102) (v := 0) dX11_isSource_101 (by decide) rfl ?_
        refine m_iret dX11_isSource_102 rfl (by decide) ⟨by decide, by decide⟩ ?_
        exact q_i hQ (by unfold isrc; rw [if_neg h8, if_neg e14_0, if_neg e14_1, if_pos e14_2, if_neg (fun h => absurd h.1 (fun q => by first | exact h83 q | exact q h83))])
      · skip
        refine m_iload_n (pc' := 87) dX11_isSource_86 rfl rfl ?_
        refine m_iconst (pc' := 88) (v := 2) dX11_isSource_87 (by decide) rfl ?_
        refine m_sipush (pc' := 91) (v := 200) dX11_isSource_88 (by decide) rfl ?_
        refine m_callS (pc' := 94) (A := [.int p, .int 2, .int 200]) (rest := []) cl_X11_isSource_40 dX11_isSource_91 rfl rfl (Nat.le_of_ble_eq_true rfl) ⟨by decide, by decide⟩ rfl rfl ?_
        refine c_in ?_
        show mM G mX11_isSource 94 [some (.int k), some (.int l), some (.int x), some (.int p)] [.int (bin p 2 200)] S1 d (0, 0) Q
        refine m_if_eq (tgt := 101) (pc' := 97) dX11_isSource_94 (by decide) rfl (fun h94 => ?_) (fun h94 => ?_)
        · skip
          refine m_iconst (pc' := 102) (v := 0) dX11_isSource_101 (by decide) rfl ?_
          refine m_iret dX11_isSource_102 rfl (by decide) ⟨by decide, by decide⟩ ?_
          exact q_i hQ (by unfold isrc; rw [if_neg h8, if_neg e14_0, if_neg e14_1, if_pos e14_2, if_neg (fun h => absurd h.2 (fun q => by first | exact h94 q | exact q h94))])
        · skip
          refine m_iconst (pc' := 98) (v := 1) dX11_isSource_97 (by decide) rfl ?_
          refine m_goto (tgt := 102) dX11_isSource_98 (by decide) ?_
          refine m_iret dX11_isSource_102 rfl (by decide) ⟨by decide, by decide⟩ ?_
          exact q_i hQ (by unfold isrc; rw [if_neg h8, if_neg e14_0, if_neg e14_1, if_pos e14_2, if_pos ⟨h83, h94⟩])
    refine m_tableOut (tgt := 103) dX11_isSource_14 (by have z0 := tI_ne e14_0; have z1 := tI_ne e14_1; have z2 := tI_ne e14_2; have y0 : ((0 : Int32)).toInt = 0 := (by decide); have y1 : ((1 : Int32)).toInt = 1 := (by decide); have y2 : ((2 : Int32)).toInt = 2 := (by decide); omega) (by decide) ?_
    refine m_iconst (pc' := 104) (v := 0) dX11_isSource_103 (by decide) rfl ?_
    refine m_iret dX11_isSource_104 rfl (by decide) ⟨by decide, by decide⟩ ?_
    exact q_i hQ (by unfold isrc; rw [if_neg h8, if_neg e14_0, if_neg e14_1, if_neg e14_2])
  · skip
    refine m_iconst (pc' := 12) (v := 0) dX11_isSource_11 (by decide) rfl ?_
    refine m_iret dX11_isSource_12 rfl (by decide) ⟨by decide, by decide⟩ ?_
    exact q_i hQ (by unfold isrc; rw [if_pos h8])
set_option maxHeartbeats 4000000 in
set_option maxRecDepth 100000 in
theorem c_isSource {k l x p : Int32} (hQ : Q (some (.int (isrc k l x p))) S1 d) : mC G mX10_isSource [.int k, .int l, .int x, .int p] S1 d Q := by
  refine mC_of (by decide +kernel) ⟨_, rfl⟩ (Nat.le_of_ble_eq_true rfl) ?_
  show mM G mX10_isSource 0 [some (.int k), some (.int l), some (.int x), some (.int p)] [] S1 d (0, 0) Q
  refine m_iload_n (pc' := 1) dX10_isSource_0 rfl rfl ?_
  refine m_iconst (pc' := 2) (v := 0) dX10_isSource_1 (by decide) rfl ?_
  refine m_sipush (pc' := 5) (v := 4095) dX10_isSource_2 (by decide) rfl ?_
  refine m_callS (pc' := 8) (A := [.int l, .int 0, .int 4095]) (rest := []) cl_X10_isSource_81 dX10_isSource_5 rfl rfl (Nat.le_of_ble_eq_true rfl) ⟨by decide, by decide⟩ rfl rfl ?_
  refine c_within ?_
  show mM G mX10_isSource 8 [some (.int k), some (.int l), some (.int x), some (.int p)] [.int (bin l 0 4095)] S1 d (0, 0) Q
  refine m_if_ne (tgt := 13) (pc' := 11) dX10_isSource_8 (by decide) rfl (fun h8 => ?_) (fun h8 => ?_)
  · skip
    refine m_iload_n (pc' := 14) dX10_isSource_13 rfl rfl ?_
    by_cases e14_0 : k = 0
    · skip
      refine m_tableIn (tgt := 40) (off := 26) dX10_isSource_14 (by rw [e14_0]; decide) (by rw [e14_0]; decide) (by rw [e14_0]; rfl) (by decide) ?_
      refine m_iload_n (pc' := 41) dX10_isSource_40 rfl rfl ?_
      refine m_if_ne (tgt := 52) (pc' := 44) dX10_isSource_41 (by decide) rfl (fun h41 => ?_) (fun h41 => ?_)
      · skip
        refine m_iconst (pc' := 53) (v := 0) dX10_isSource_52 (by decide) rfl ?_
        refine m_iret dX10_isSource_53 rfl (by decide) ⟨by decide, by decide⟩ ?_
        exact q_i hQ (by unfold isrc; rw [if_neg h8, if_pos e14_0, if_neg (fun h => absurd h.1 (fun q => by first | exact h41 q | exact q h41))])
      · skip
        refine m_iload_n (pc' := 45) dX10_isSource_44 rfl rfl ?_
        refine m_if_ne (tgt := 52) (pc' := 48) dX10_isSource_45 (by decide) rfl (fun h45 => ?_) (fun h45 => ?_)
        · skip
          refine m_iconst (pc' := 53) (v := 0) dX10_isSource_52 (by decide) rfl ?_
          refine m_iret dX10_isSource_53 rfl (by decide) ⟨by decide, by decide⟩ ?_
          exact q_i hQ (by unfold isrc; rw [if_neg h8, if_pos e14_0, if_neg (fun h => absurd h.2 (fun q => by first | exact h45 q | exact q h45))])
        · skip
          refine m_iconst (pc' := 49) (v := 1) dX10_isSource_48 (by decide) rfl ?_
          refine m_goto (tgt := 53) dX10_isSource_49 (by decide) ?_
          refine m_iret dX10_isSource_53 rfl (by decide) ⟨by decide, by decide⟩ ?_
          exact q_i hQ (by unfold isrc; rw [if_neg h8, if_pos e14_0, if_pos ⟨h41, h45⟩])
    by_cases e14_1 : k = 1
    · skip
      refine m_tableIn (tgt := 54) (off := 40) dX10_isSource_14 (by rw [e14_1]; decide) (by rw [e14_1]; decide) (by rw [e14_1]; rfl) (by decide) ?_
      refine m_iload_n (pc' := 55) dX10_isSource_54 rfl rfl ?_
      refine m_bipush (pc' := 57) (v := (-64)) dX10_isSource_55 (by decide) rfl ?_
      refine m_bipush (pc' := 59) (v := 64) dX10_isSource_57 (by decide) rfl ?_
      refine m_callS (pc' := 62) (A := [.int x, .int (-64), .int 64]) (rest := []) cl_X10_isSource_81 dX10_isSource_59 rfl rfl (Nat.le_of_ble_eq_true rfl) ⟨by decide, by decide⟩ rfl rfl ?_
      refine c_within ?_
      show mM G mX10_isSource 62 [some (.int k), some (.int l), some (.int x), some (.int p)] [.int (bin x (-64) 64)] S1 d (0, 0) Q
      refine m_if_eq (tgt := 73) (pc' := 65) dX10_isSource_62 (by decide) rfl (fun h62 => ?_) (fun h62 => ?_)
      · skip
        refine m_iconst (pc' := 74) (v := 0) dX10_isSource_73 (by decide) rfl ?_
        refine m_iret dX10_isSource_74 rfl (by decide) ⟨by decide, by decide⟩ ?_
        exact q_i hQ (by unfold isrc; rw [if_neg h8, if_neg e14_0, if_pos e14_1, if_neg (fun h => absurd h.1 (fun q => by first | exact h62 q | exact q h62))])
      · skip
        refine m_iload_n (pc' := 66) dX10_isSource_65 rfl rfl ?_
        refine m_if_ne (tgt := 73) (pc' := 69) dX10_isSource_66 (by decide) rfl (fun h66 => ?_) (fun h66 => ?_)
        · skip
          refine m_iconst (pc' := 74) (v := 0) dX10_isSource_73 (by decide) rfl ?_
          refine m_iret dX10_isSource_74 rfl (by decide) ⟨by decide, by decide⟩ ?_
          exact q_i hQ (by unfold isrc; rw [if_neg h8, if_neg e14_0, if_pos e14_1, if_neg (fun h => absurd h.2 (fun q => by first | exact h66 q | exact q h66))])
        · skip
          refine m_iconst (pc' := 70) (v := 1) dX10_isSource_69 (by decide) rfl ?_
          refine m_goto (tgt := 74) dX10_isSource_70 (by decide) ?_
          refine m_iret dX10_isSource_74 rfl (by decide) ⟨by decide, by decide⟩ ?_
          exact q_i hQ (by unfold isrc; rw [if_neg h8, if_neg e14_0, if_pos e14_1, if_pos ⟨h62, h66⟩])
    by_cases e14_2 : k = 2
    · skip
      refine m_tableIn (tgt := 75) (off := 61) dX10_isSource_14 (by rw [e14_2]; decide) (by rw [e14_2]; decide) (by rw [e14_2]; rfl) (by decide) ?_
      refine m_iload_n (pc' := 76) dX10_isSource_75 rfl rfl ?_
      refine m_iconst (pc' := 77) (v := 0) dX10_isSource_76 (by decide) rfl ?_
      refine m_sipush (pc' := 80) (v := 4095) dX10_isSource_77 (by decide) rfl ?_
      refine m_callS (pc' := 83) (A := [.int x, .int 0, .int 4095]) (rest := []) cl_X10_isSource_81 dX10_isSource_80 rfl rfl (Nat.le_of_ble_eq_true rfl) ⟨by decide, by decide⟩ rfl rfl ?_
      refine c_within ?_
      show mM G mX10_isSource 83 [some (.int k), some (.int l), some (.int x), some (.int p)] [.int (bin x 0 4095)] S1 d (0, 0) Q
      refine m_if_eq (tgt := 101) (pc' := 86) dX10_isSource_83 (by decide) rfl (fun h83 => ?_) (fun h83 => ?_)
      · skip
        refine m_iconst (pc' := 102) (v := 0) dX10_isSource_101 (by decide) rfl ?_
        refine m_iret dX10_isSource_102 rfl (by decide) ⟨by decide, by decide⟩ ?_
        exact q_i hQ (by unfold isrc; rw [if_neg h8, if_neg e14_0, if_neg e14_1, if_pos e14_2, if_neg (fun h => absurd h.1 (fun q => by first | exact h83 q | exact q h83))])
      · skip
        refine m_iload_n (pc' := 87) dX10_isSource_86 rfl rfl ?_
        refine m_iconst (pc' := 88) (v := 2) dX10_isSource_87 (by decide) rfl ?_
        refine m_sipush (pc' := 91) (v := 200) dX10_isSource_88 (by decide) rfl ?_
        refine m_callS (pc' := 94) (A := [.int p, .int 2, .int 200]) (rest := []) cl_X10_isSource_81 dX10_isSource_91 rfl rfl (Nat.le_of_ble_eq_true rfl) ⟨by decide, by decide⟩ rfl rfl ?_
        refine c_within ?_
        show mM G mX10_isSource 94 [some (.int k), some (.int l), some (.int x), some (.int p)] [.int (bin p 2 200)] S1 d (0, 0) Q
        refine m_if_eq (tgt := 101) (pc' := 97) dX10_isSource_94 (by decide) rfl (fun h94 => ?_) (fun h94 => ?_)
        · skip
          refine m_iconst (pc' := 102) (v := 0) dX10_isSource_101 (by decide) rfl ?_
          refine m_iret dX10_isSource_102 rfl (by decide) ⟨by decide, by decide⟩ ?_
          exact q_i hQ (by unfold isrc; rw [if_neg h8, if_neg e14_0, if_neg e14_1, if_pos e14_2, if_neg (fun h => absurd h.2 (fun q => by first | exact h94 q | exact q h94))])
        · skip
          refine m_iconst (pc' := 98) (v := 1) dX10_isSource_97 (by decide) rfl ?_
          refine m_goto (tgt := 102) dX10_isSource_98 (by decide) ?_
          refine m_iret dX10_isSource_102 rfl (by decide) ⟨by decide, by decide⟩ ?_
          exact q_i hQ (by unfold isrc; rw [if_neg h8, if_neg e14_0, if_neg e14_1, if_pos e14_2, if_pos ⟨h83, h94⟩])
    refine m_tableOut (tgt := 103) dX10_isSource_14 (by have z0 := tI_ne e14_0; have z1 := tI_ne e14_1; have z2 := tI_ne e14_2; have y0 : ((0 : Int32)).toInt = 0 := (by decide); have y1 : ((1 : Int32)).toInt = 1 := (by decide); have y2 : ((2 : Int32)).toInt = 2 := (by decide); omega) (by decide) ?_
    refine m_iconst (pc' := 104) (v := 0) dX10_isSource_103 (by decide) rfl ?_
    refine m_iret dX10_isSource_104 rfl (by decide) ⟨by decide, by decide⟩ ?_
    exact q_i hQ (by unfold isrc; rw [if_neg h8, if_neg e14_0, if_neg e14_1, if_neg e14_2])
  · skip
    refine m_iconst (pc' := 12) (v := 0) dX10_isSource_11 (by decide) rfl ?_
    refine m_iret dX10_isSource_12 rfl (by decide) ⟨by decide, by decide⟩ ?_
    exact q_i hQ (by unfold isrc; rw [if_pos h8])
set_option maxHeartbeats 4000000 in
set_option maxRecDepth 100000 in
theorem c_mputSource {c : Nat} {k l x p : Int32} (hs : d.1 215 = s) (hc : c < 8) (hQ : ∀ d', fr (rE 215) nE d d' → d'.1 215 = pso s c k l x p → Q none S1 d') : mC G mX11_putSource [.ref 214, .int (nI c), .int k, .int l, .int x, .int p] S1 d Q := by
  refine mC_of (by decide +kernel) ⟨_, rfl⟩ (Nat.le_of_ble_eq_true rfl) ?_
  show mM G mX11_putSource 0 [some (.ref 214), some (.int (nI c)), some (.int k), some (.int l), some (.int x), some (.int p)] [] S1 d (0, 0) Q
  refine m_aload_n (pc' := 1) dX11_putSource_0 rfl rfl ?_
  refine m_getR (pc' := 4) fa_X11_putSource_7 dX11_putSource_1 (by decide) rfl rfl rfl rfl ?_
  refine m_iconst (pc' := 5) (v := 5) dX11_putSource_4 (by decide) rfl ?_
  refine m_iload_n (pc' := 6) dX11_putSource_5 rfl rfl ?_
  refine m_imul (pc' := 7) dX11_putSource_6 rfl ?_
  refine m_iconst (pc' := 8) (v := 0) dX11_putSource_7 (by decide) rfl ?_
  refine m_iadd (pc' := 9) dX11_putSource_8 rfl ?_
  refine m_iload_n (pc' := 10) dX11_putSource_9 rfl rfl ?_
  refine m_iastN (pc' := 11) (j := 5 * c) (L := 408) dX11_putSource_10 (by decide) rfl rfl (ix_c c 0) (by omega) (by decide) rfl ?_
  refine m_aload_n (pc' := 12) dX11_putSource_11 rfl rfl ?_
  refine m_getR (pc' := 15) fa_X11_putSource_7 dX11_putSource_12 (by decide) rfl rfl rfl rfl ?_
  refine m_iconst (pc' := 16) (v := 5) dX11_putSource_15 (by decide) rfl ?_
  refine m_iload_n (pc' := 17) dX11_putSource_16 rfl rfl ?_
  refine m_imul (pc' := 18) dX11_putSource_17 rfl ?_
  refine m_iconst (pc' := 19) (v := 1) dX11_putSource_18 (by decide) rfl ?_
  refine m_iadd (pc' := 20) dX11_putSource_19 rfl ?_
  refine m_iload_n (pc' := 21) dX11_putSource_20 rfl rfl ?_
  refine m_iastN (pc' := 22) (j := 5 * c + 1) (L := 408) dX11_putSource_21 (by decide) rfl rfl (ix_c c 1) (by omega) (by decide) rfl ?_
  refine m_aload_n (pc' := 23) dX11_putSource_22 rfl rfl ?_
  refine m_getR (pc' := 26) fa_X11_putSource_7 dX11_putSource_23 (by decide) rfl rfl rfl rfl ?_
  refine m_iconst (pc' := 27) (v := 5) dX11_putSource_26 (by decide) rfl ?_
  refine m_iload_n (pc' := 28) dX11_putSource_27 rfl rfl ?_
  refine m_imul (pc' := 29) dX11_putSource_28 rfl ?_
  refine m_iconst (pc' := 30) (v := 2) dX11_putSource_29 (by decide) rfl ?_
  refine m_iadd (pc' := 31) dX11_putSource_30 rfl ?_
  refine m_iload (pc' := 33) dX11_putSource_31 rfl rfl ?_
  refine m_iastN (pc' := 34) (j := 5 * c + 2) (L := 408) dX11_putSource_33 (by decide) rfl rfl (ix_c c 2) (by omega) (by decide) rfl ?_
  refine m_aload_n (pc' := 35) dX11_putSource_34 rfl rfl ?_
  refine m_getR (pc' := 38) fa_X11_putSource_7 dX11_putSource_35 (by decide) rfl rfl rfl rfl ?_
  refine m_iconst (pc' := 39) (v := 5) dX11_putSource_38 (by decide) rfl ?_
  refine m_iload_n (pc' := 40) dX11_putSource_39 rfl rfl ?_
  refine m_imul (pc' := 41) dX11_putSource_40 rfl ?_
  refine m_iconst (pc' := 42) (v := 3) dX11_putSource_41 (by decide) rfl ?_
  refine m_iadd (pc' := 43) dX11_putSource_42 rfl ?_
  refine m_iload (pc' := 45) dX11_putSource_43 rfl rfl ?_
  refine m_iastN (pc' := 46) (j := 5 * c + 3) (L := 408) dX11_putSource_45 (by decide) rfl rfl (ix_c c 3) (by omega) (by decide) rfl ?_
  refine m_vret dX11_putSource_46 rfl ⟨by decide, by decide⟩ ?_
  refine hQ _ (((((fr.rfl (E := rE 215) (EF := nE)).i _ rfl).i _ rfl).i _ rfl).i _ rfl) ?_
  unfold pso; exact u2_row (u2_row (u2_row (u2_row hs)))
set_option maxHeartbeats 4000000 in
set_option maxRecDepth 100000 in
theorem c_mhold {b : SS} (hs : d.1 215 = s) (hb : d.1 216 = b) (hQ : ∀ d', fr (rE 216) nE d d' → d'.1 216 = cpr s b → Q none S1 d') : mC G mX11_hold [.ref 214] S1 d Q := by
  have J : ∀ (n0 : Nat) (k : Nat) (d1 : Dt) (_ : k + n0 = 408) (_ : fr (rE 216) nE d d1) (_ : d1.1 215 = s) (_ : d1.1 216 = cpi s b k), mM G mX11_hold 2 [some (.ref 214), some (.int (nI k))] [] S1 d1 (0, 0) Q := by
    intro n0
    induction n0 with
    | zero =>
      intro k d1 hk hd hs hb
      refine m_iload_n (pc' := 3) dX11_hold_2 rfl rfl ?_
      refine m_sipush (pc' := 6) (v := 408) dX11_hold_3 (by decide) rfl ?_
      refine m_icmp_ge (tgt := 27) (pc' := 9) dX11_hold_6 (by decide) rfl (fun h6 => ?_) (fun h6 => (h6 (nI_le (a := 408) (by omega) (by omega))).elim)
      refine m_vret dX11_hold_27 rfl ⟨by decide, by decide⟩ ?_
      obtain rfl : k = 408 := by omega
      exact hQ _ hd hb
    | succ n0 ih =>
      intro k d1 hk hd hs hb
      refine m_iload_n (pc' := 3) dX11_hold_2 rfl rfl ?_
      refine m_sipush (pc' := 6) (v := 408) dX11_hold_3 (by decide) rfl ?_
      refine m_icmp_ge (tgt := 27) (pc' := 9) dX11_hold_6 (by decide) rfl (fun h6 => absurd h6 (nI_ge (b := 408) (by omega) (by omega))) (fun h6 => ?_)
      refine m_aload_n (pc' := 10) dX11_hold_9 rfl rfl ?_
      refine m_getR (pc' := 13) fa_X11_hold_13 dX11_hold_10 (by decide) rfl rfl rfl rfl ?_
      refine m_iload_n (pc' := 14) dX11_hold_13 rfl rfl ?_
      refine m_aload_n (pc' := 15) dX11_hold_14 rfl rfl ?_
      refine m_getR (pc' := 18) fa_X11_hold_7 dX11_hold_15 (by decide) rfl rfl rfl rfl ?_
      refine m_iload_n (pc' := 19) dX11_hold_18 rfl rfl ?_
      refine m_ialdN (pc' := 20) (j := k) (L := 408) dX11_hold_19 (by decide) rfl rfl (rfl) (by omega) (by decide) rfl ?_
      rw [show (d1.1 215 k) = (s k) from congrFun hs k]
      refine m_iastN (pc' := 21) (j := k) (L := 408) dX11_hold_20 (by decide) rfl rfl (rfl) (by omega) (by decide) rfl ?_
      refine m_iinc (pc' := 24) dX11_hold_21 rfl (by decide) (v := nI (k + 1)) (nI_1 k) rfl rfl ?_
      refine m_goto (tgt := 2) dX11_hold_24 (by decide) ?_
      exact ih (k + 1) _ (by omega) (hd.i _ rfl) hs ((u2_row hb).trans (cpi_s s b k))
  refine mC_of (by decide +kernel) ⟨_, rfl⟩ (Nat.le_of_ble_eq_true rfl) ?_
  show mM G mX11_hold 0 [some (.ref 214), none] [] S1 d (0, 0) Q
  refine m_iconst (pc' := 1) (v := 0) dX11_hold_0 (by decide) rfl ?_
  refine m_istore_n (pc' := 2) dX11_hold_1 (by decide) rfl rfl ?_
  exact J 408 0 d (by omega) fr.rfl hs (hb.trans (cpi_0 s b).symm)
set_option maxHeartbeats 4000000 in
set_option maxRecDepth 100000 in
theorem c_mrelease {b : SS} (hs : d.1 216 = s) (hb : d.1 215 = b) (hQ : ∀ d', fr (rE 215) nE d d' → d'.1 215 = cpr s b → Q none S1 d') : mC G mX11_release [.ref 214] S1 d Q := by
  have J : ∀ (n0 : Nat) (k : Nat) (d1 : Dt) (_ : k + n0 = 408) (_ : fr (rE 215) nE d d1) (_ : d1.1 216 = s) (_ : d1.1 215 = cpi s b k), mM G mX11_release 2 [some (.ref 214), some (.int (nI k))] [] S1 d1 (0, 0) Q := by
    intro n0
    induction n0 with
    | zero =>
      intro k d1 hk hd hs hb
      refine m_iload_n (pc' := 3) dX11_release_2 rfl rfl ?_
      refine m_sipush (pc' := 6) (v := 408) dX11_release_3 (by decide) rfl ?_
      refine m_icmp_ge (tgt := 27) (pc' := 9) dX11_release_6 (by decide) rfl (fun h6 => ?_) (fun h6 => (h6 (nI_le (a := 408) (by omega) (by omega))).elim)
      refine m_vret dX11_release_27 rfl ⟨by decide, by decide⟩ ?_
      obtain rfl : k = 408 := by omega
      exact hQ _ hd hb
    | succ n0 ih =>
      intro k d1 hk hd hs hb
      refine m_iload_n (pc' := 3) dX11_release_2 rfl rfl ?_
      refine m_sipush (pc' := 6) (v := 408) dX11_release_3 (by decide) rfl ?_
      refine m_icmp_ge (tgt := 27) (pc' := 9) dX11_release_6 (by decide) rfl (fun h6 => absurd h6 (nI_ge (b := 408) (by omega) (by omega))) (fun h6 => ?_)
      refine m_aload_n (pc' := 10) dX11_release_9 rfl rfl ?_
      refine m_getR (pc' := 13) fa_X11_release_7 dX11_release_10 (by decide) rfl rfl rfl rfl ?_
      refine m_iload_n (pc' := 14) dX11_release_13 rfl rfl ?_
      refine m_aload_n (pc' := 15) dX11_release_14 rfl rfl ?_
      refine m_getR (pc' := 18) fa_X11_release_13 dX11_release_15 (by decide) rfl rfl rfl rfl ?_
      refine m_iload_n (pc' := 19) dX11_release_18 rfl rfl ?_
      refine m_ialdN (pc' := 20) (j := k) (L := 408) dX11_release_19 (by decide) rfl rfl (rfl) (by omega) (by decide) rfl ?_
      rw [show (d1.1 216 k) = (s k) from congrFun hs k]
      refine m_iastN (pc' := 21) (j := k) (L := 408) dX11_release_20 (by decide) rfl rfl (rfl) (by omega) (by decide) rfl ?_
      refine m_iinc (pc' := 24) dX11_release_21 rfl (by decide) (v := nI (k + 1)) (nI_1 k) rfl rfl ?_
      refine m_goto (tgt := 2) dX11_release_24 (by decide) ?_
      exact ih (k + 1) _ (by omega) (hd.i _ rfl) hs ((u2_row hb).trans (cpi_s s b k))
  refine mC_of (by decide +kernel) ⟨_, rfl⟩ (Nat.le_of_ble_eq_true rfl) ?_
  show mM G mX11_release 0 [some (.ref 214), none] [] S1 d (0, 0) Q
  refine m_iconst (pc' := 1) (v := 0) dX11_release_0 (by decide) rfl ?_
  refine m_istore_n (pc' := 2) dX11_release_1 (by decide) rfl rfl ?_
  exact J 408 0 d (by omega) fr.rfl hs (hb.trans (cpi_0 s b).symm)
set_option maxHeartbeats 4000000 in
set_option maxRecDepth 100000 in
theorem c_mexchange {b : SS} (ha : d.1 215 = s) (hb : d.1 216 = b) (hQ : ∀ d', fr (fun a _ => a = 215 ∨ a = 216) nE d d' → d'.1 215 = cpr b s → d'.1 216 = cpr s b → Q none S1 d') : mC G mX11_exchange [.ref 214] S1 d Q := by
  have J : ∀ (n0 : Nat) (k : Nat) (d1 : Dt) (_ : k + n0 = 408) (_ : fr (fun a _ => a = 215 ∨ a = 216) nE d d1) (_ : d1.1 215 = cpi b s k) (_ : d1.1 216 = cpi s b k), mM G mX11_exchange 2 [some (.ref 214), some (.int (nI k)), none] [] S1 d1 (0, 0) Q := by
    intro n0
    induction n0 with
    | zero =>
      intro k d1 hk hd ha hb
      refine m_iload_n (pc' := 3) dX11_exchange_2 rfl rfl ?_
      refine m_sipush (pc' := 6) (v := 408) dX11_exchange_3 (by decide) rfl ?_
      refine m_icmp_ge (tgt := 41) (pc' := 9) dX11_exchange_6 (by decide) rfl (fun h6 => ?_) (fun h6 => (h6 (nI_le (a := 408) (by omega) (by omega))).elim)
      refine m_vret dX11_exchange_41 rfl ⟨by decide, by decide⟩ ?_
      obtain rfl : k = 408 := by omega
      exact hQ _ hd ha hb
    | succ n0 ih =>
      intro k d1 hk hd ha hb
      refine m_iload_n (pc' := 3) dX11_exchange_2 rfl rfl ?_
      refine m_sipush (pc' := 6) (v := 408) dX11_exchange_3 (by decide) rfl ?_
      refine m_icmp_ge (tgt := 41) (pc' := 9) dX11_exchange_6 (by decide) rfl (fun h6 => absurd h6 (nI_ge (b := 408) (by omega) (by omega))) (fun h6 => ?_)
      refine m_aload_n (pc' := 10) dX11_exchange_9 rfl rfl ?_
      refine m_getR (pc' := 13) fa_X11_exchange_7 dX11_exchange_10 (by decide) rfl rfl rfl rfl ?_
      refine m_iload_n (pc' := 14) dX11_exchange_13 rfl rfl ?_
      refine m_ialdN (pc' := 15) (j := k) (L := 408) dX11_exchange_14 (by decide) rfl rfl (rfl) (by omega) (by decide) rfl ?_
      rw [show (d1.1 215 k) = (s k) from (congrFun ha k).trans (cpi_ge (Nat.le_refl k))]
      refine m_istore_n (pc' := 16) dX11_exchange_15 (by decide) rfl rfl ?_
      refine m_aload_n (pc' := 17) dX11_exchange_16 rfl rfl ?_
      refine m_getR (pc' := 20) fa_X11_exchange_7 dX11_exchange_17 (by decide) rfl rfl rfl rfl ?_
      refine m_iload_n (pc' := 21) dX11_exchange_20 rfl rfl ?_
      refine m_aload_n (pc' := 22) dX11_exchange_21 rfl rfl ?_
      refine m_getR (pc' := 25) fa_X11_exchange_13 dX11_exchange_22 (by decide) rfl rfl rfl rfl ?_
      refine m_iload_n (pc' := 26) dX11_exchange_25 rfl rfl ?_
      refine m_ialdN (pc' := 27) (j := k) (L := 408) dX11_exchange_26 (by decide) rfl rfl (rfl) (by omega) (by decide) rfl ?_
      rw [show (d1.1 216 k) = (b k) from (congrFun hb k).trans (cpi_ge (Nat.le_refl k))]
      refine m_iastN (pc' := 28) (j := k) (L := 408) dX11_exchange_27 (by decide) rfl rfl (rfl) (by omega) (by decide) rfl ?_
      refine m_aload_n (pc' := 29) dX11_exchange_28 rfl rfl ?_
      refine m_getR (pc' := 32) fa_X11_exchange_13 dX11_exchange_29 (by decide) rfl rfl rfl rfl ?_
      refine m_iload_n (pc' := 33) dX11_exchange_32 rfl rfl ?_
      refine m_iload_n (pc' := 34) dX11_exchange_33 rfl rfl ?_
      refine m_iastN (pc' := 35) (j := k) (L := 408) dX11_exchange_34 (by decide) rfl rfl (rfl) (by omega) (by decide) rfl ?_
      refine m_iinc (pc' := 38) dX11_exchange_35 rfl (by decide) (v := nI (k + 1)) (nI_1 k) rfl rfl ?_
      refine m_goto (tgt := 2) dX11_exchange_38 (by decide) ?_
      refine m_drop 2 (lo' := [some (.ref 214), some (.int (nI (k + 1))), none]) rfl ?_
      exact ih (k + 1) _ (by omega) ((hd.i _ (Or.inl rfl)).i _ (Or.inr rfl)) ((u2_row ha).trans (cpi_s b s k)) ((u2_row hb).trans (cpi_s s b k))
  refine mC_of (by decide +kernel) ⟨_, rfl⟩ (Nat.le_of_ble_eq_true rfl) ?_
  show mM G mX11_exchange 0 [some (.ref 214), none, none] [] S1 d (0, 0) Q
  refine m_iconst (pc' := 1) (v := 0) dX11_exchange_0 (by decide) rfl ?_
  refine m_istore_n (pc' := 2) dX11_exchange_1 (by decide) rfl rfl ?_
  exact J 408 0 d (by omega) fr.rfl (ha.trans (cpi_0 b s).symm) (hb.trans (cpi_0 s b).symm)
end MOD3
