/-! THE CHECK'S OWN CALLS (6): orders -/
section MOD11
variable {G : GP} {Q : Option Value → Sh → Dt → Prop} {d : Dt} {s : SS}
set_option maxHeartbeats 4000000 in
set_option maxRecDepth 100000 in
theorem c_mswap {b : SS} {i j : Nat} (hs : d.1 215 = s) (hb : d.1 220 = b) (hi : i < 16) (hj : j < 16) (hQ : ∀ d', fr (fun a _ => a = 215 ∨ a = 220) nE d d' → d'.1 215 = swp s i j → d'.1 220 = sw2 b i j → Q none S1 d') : mC G mX11_swap [.ref 214, .int (nI i), .int (nI j)] S1 d Q := by
  have J2 : ∀ (s1 : SS) (d1 : Dt) (_ : fr (fun a _ => a = 215 ∨ a = 220) nE d d1) (_ : d1.1 215 = s1) (_ : d1.1 220 = b) (_ : ∀ d', fr (fun a _ => a = 215 ∨ a = 220) nE d d' → d'.1 215 = s1 → d'.1 220 = sw2 b i j → Q none S1 d'), mM G mX11_swap 2 [some (.ref 214), some (.int (nI i)), some (.int (nI j)), some (.int 2), none] [] S1 d1 (0, 0) Q := by
    intro s1 d1 hd h8 hb hq
    refine m_iload_n (pc' := 3) dX11_swap_2 rfl rfl ?_
    refine m_iconst (pc' := 4) (v := 2) dX11_swap_3 (by decide) rfl ?_
    refine m_icmp_ge (tgt := 69) (pc' := 7) dX11_swap_4 (by decide) rfl (fun h4 => ?_) (fun h4 => absurd h4 (by decide))
    refine m_aload_n (pc' := 70) dX11_swap_69 rfl rfl ?_
    refine m_getR (pc' := 73) fa_X11_swap_26 dX11_swap_70 (by decide) rfl rfl rfl rfl ?_
    refine m_iload_n (pc' := 74) dX11_swap_73 rfl rfl ?_
    refine m_ialdN (pc' := 75) (j := i) (L := 16) dX11_swap_74 (by decide) rfl rfl (rfl) (by omega) (by decide) rfl ?_
    rw [show (d1.1 220 i) = (b i) from congrFun hb i]
    refine m_istore_n (pc' := 76) dX11_swap_75 (by decide) rfl rfl ?_
    refine m_aload_n (pc' := 77) dX11_swap_76 rfl rfl ?_
    refine m_getR (pc' := 80) fa_X11_swap_26 dX11_swap_77 (by decide) rfl rfl rfl rfl ?_
    refine m_iload_n (pc' := 81) dX11_swap_80 rfl rfl ?_
    refine m_aload_n (pc' := 82) dX11_swap_81 rfl rfl ?_
    refine m_getR (pc' := 85) fa_X11_swap_26 dX11_swap_82 (by decide) rfl rfl rfl rfl ?_
    refine m_iload_n (pc' := 86) dX11_swap_85 rfl rfl ?_
    refine m_ialdN (pc' := 87) (j := j) (L := 16) dX11_swap_86 (by decide) rfl rfl (rfl) (by omega) (by decide) rfl ?_
    rw [show (d1.1 220 j) = (b j) from congrFun hb j]
    refine m_iastN (pc' := 88) (j := i) (L := 16) dX11_swap_87 (by decide) rfl rfl (rfl) (by omega) (by decide) rfl ?_
    refine m_aload_n (pc' := 89) dX11_swap_88 rfl rfl ?_
    refine m_getR (pc' := 92) fa_X11_swap_26 dX11_swap_89 (by decide) rfl rfl rfl rfl ?_
    refine m_iload_n (pc' := 93) dX11_swap_92 rfl rfl ?_
    refine m_iload_n (pc' := 94) dX11_swap_93 rfl rfl ?_
    refine m_iastN (pc' := 95) (j := j) (L := 16) dX11_swap_94 (by decide) rfl rfl (rfl) (by omega) (by decide) rfl ?_
    refine m_vret dX11_swap_95 rfl ⟨by decide, by decide⟩ ?_
    exact hq _ ((hd.i _ (Or.inr rfl)).i _ (Or.inr rfl)) h8 (u2_row (u2_row hb))
  have J1 : ∀ (s1 : SS) (d1 : Dt) (_ : fr (fun a _ => a = 215 ∨ a = 220) nE d d1) (_ : d1.1 215 = s1) (_ : d1.1 220 = b) (_ : ∀ d', fr (fun a _ => a = 215 ∨ a = 220) nE d d' → d'.1 215 = sw2 s1 (45 + 2 * i) (45 + 2 * j) → d'.1 220 = sw2 b i j → Q none S1 d'), mM G mX11_swap 2 [some (.ref 214), some (.int (nI i)), some (.int (nI j)), some (.int 1), none] [] S1 d1 (0, 0) Q := by
    intro s1 d1 hd h8 hb hq
    refine m_iload_n (pc' := 3) dX11_swap_2 rfl rfl ?_
    refine m_iconst (pc' := 4) (v := 2) dX11_swap_3 (by decide) rfl ?_
    refine m_icmp_ge (tgt := 69) (pc' := 7) dX11_swap_4 (by decide) rfl (fun h4 => absurd h4 (by decide)) (fun h4 => ?_)
    refine m_aload_n (pc' := 8) dX11_swap_7 rfl rfl ?_
    refine m_getR (pc' := 11) fa_X11_swap_7 dX11_swap_8 (by decide) rfl rfl rfl rfl ?_
    refine m_bipush (pc' := 13) (v := 44) dX11_swap_11 (by decide) rfl ?_
    refine m_iconst (pc' := 14) (v := 2) dX11_swap_13 (by decide) rfl ?_
    refine m_iload_n (pc' := 15) dX11_swap_14 rfl rfl ?_
    refine m_imul (pc' := 16) dX11_swap_15 rfl ?_
    refine m_iadd (pc' := 17) dX11_swap_16 rfl ?_
    refine m_iload_n (pc' := 18) dX11_swap_17 rfl rfl ?_
    refine m_iadd (pc' := 19) dX11_swap_18 rfl ?_
    refine m_ialdN (pc' := 20) (j := 45 + 2 * i) (L := 408) dX11_swap_19 (by decide) rfl rfl (ix_ek i 1) (by omega) (by decide) rfl ?_
    rw [show (d1.1 215 (45 + 2 * i)) = (s1 (45 + 2 * i)) from congrFun h8 _]
    refine m_istore (pc' := 22) dX11_swap_20 (by decide) rfl rfl ?_
    refine m_aload_n (pc' := 23) dX11_swap_22 rfl rfl ?_
    refine m_getR (pc' := 26) fa_X11_swap_7 dX11_swap_23 (by decide) rfl rfl rfl rfl ?_
    refine m_bipush (pc' := 28) (v := 44) dX11_swap_26 (by decide) rfl ?_
    refine m_iconst (pc' := 29) (v := 2) dX11_swap_28 (by decide) rfl ?_
    refine m_iload_n (pc' := 30) dX11_swap_29 rfl rfl ?_
    refine m_imul (pc' := 31) dX11_swap_30 rfl ?_
    refine m_iadd (pc' := 32) dX11_swap_31 rfl ?_
    refine m_iload_n (pc' := 33) dX11_swap_32 rfl rfl ?_
    refine m_iadd (pc' := 34) dX11_swap_33 rfl ?_
    refine m_aload_n (pc' := 35) dX11_swap_34 rfl rfl ?_
    refine m_getR (pc' := 38) fa_X11_swap_7 dX11_swap_35 (by decide) rfl rfl rfl rfl ?_
    refine m_bipush (pc' := 40) (v := 44) dX11_swap_38 (by decide) rfl ?_
    refine m_iconst (pc' := 41) (v := 2) dX11_swap_40 (by decide) rfl ?_
    refine m_iload_n (pc' := 42) dX11_swap_41 rfl rfl ?_
    refine m_imul (pc' := 43) dX11_swap_42 rfl ?_
    refine m_iadd (pc' := 44) dX11_swap_43 rfl ?_
    refine m_iload_n (pc' := 45) dX11_swap_44 rfl rfl ?_
    refine m_iadd (pc' := 46) dX11_swap_45 rfl ?_
    refine m_ialdN (pc' := 47) (j := 45 + 2 * j) (L := 408) dX11_swap_46 (by decide) rfl rfl (ix_ek j 1) (by omega) (by decide) rfl ?_
    rw [show (d1.1 215 (45 + 2 * j)) = (s1 (45 + 2 * j)) from congrFun h8 _]
    refine m_iastN (pc' := 48) (j := 45 + 2 * i) (L := 408) dX11_swap_47 (by decide) rfl rfl (ix_ek i 1) (by omega) (by decide) rfl ?_
    refine m_aload_n (pc' := 49) dX11_swap_48 rfl rfl ?_
    refine m_getR (pc' := 52) fa_X11_swap_7 dX11_swap_49 (by decide) rfl rfl rfl rfl ?_
    refine m_bipush (pc' := 54) (v := 44) dX11_swap_52 (by decide) rfl ?_
    refine m_iconst (pc' := 55) (v := 2) dX11_swap_54 (by decide) rfl ?_
    refine m_iload_n (pc' := 56) dX11_swap_55 rfl rfl ?_
    refine m_imul (pc' := 57) dX11_swap_56 rfl ?_
    refine m_iadd (pc' := 58) dX11_swap_57 rfl ?_
    refine m_iload_n (pc' := 59) dX11_swap_58 rfl rfl ?_
    refine m_iadd (pc' := 60) dX11_swap_59 rfl ?_
    refine m_iload (pc' := 62) dX11_swap_60 rfl rfl ?_
    refine m_iastN (pc' := 63) (j := 45 + 2 * j) (L := 408) dX11_swap_62 (by decide) rfl rfl (ix_ek j 1) (by omega) (by decide) rfl ?_
    refine m_iinc (pc' := 66) dX11_swap_63 rfl (by decide) (v := 2) (by decide) rfl rfl ?_
    refine m_goto (tgt := 2) dX11_swap_66 (by decide) ?_
    refine m_drop 4 (lo' := [some (.ref 214), some (.int (nI i)), some (.int (nI j)), some (.int 2), none]) rfl ?_
    exact J2 _ _ ((hd.i _ (Or.inl rfl)).i _ (Or.inl rfl)) (u2_row (u2_row h8)) hb hq
  have J0 : ∀ (s1 : SS) (d1 : Dt) (_ : fr (fun a _ => a = 215 ∨ a = 220) nE d d1) (_ : d1.1 215 = s1) (_ : d1.1 220 = b) (_ : ∀ d', fr (fun a _ => a = 215 ∨ a = 220) nE d d' → d'.1 215 = swp s1 i j → d'.1 220 = sw2 b i j → Q none S1 d'), mM G mX11_swap 2 [some (.ref 214), some (.int (nI i)), some (.int (nI j)), some (.int 0), none] [] S1 d1 (0, 0) Q := by
    intro s1 d1 hd h8 hb hq
    refine m_iload_n (pc' := 3) dX11_swap_2 rfl rfl ?_
    refine m_iconst (pc' := 4) (v := 2) dX11_swap_3 (by decide) rfl ?_
    refine m_icmp_ge (tgt := 69) (pc' := 7) dX11_swap_4 (by decide) rfl (fun h4 => absurd h4 (by decide)) (fun h4 => ?_)
    refine m_aload_n (pc' := 8) dX11_swap_7 rfl rfl ?_
    refine m_getR (pc' := 11) fa_X11_swap_7 dX11_swap_8 (by decide) rfl rfl rfl rfl ?_
    refine m_bipush (pc' := 13) (v := 44) dX11_swap_11 (by decide) rfl ?_
    refine m_iconst (pc' := 14) (v := 2) dX11_swap_13 (by decide) rfl ?_
    refine m_iload_n (pc' := 15) dX11_swap_14 rfl rfl ?_
    refine m_imul (pc' := 16) dX11_swap_15 rfl ?_
    refine m_iadd (pc' := 17) dX11_swap_16 rfl ?_
    refine m_iload_n (pc' := 18) dX11_swap_17 rfl rfl ?_
    refine m_iadd (pc' := 19) dX11_swap_18 rfl ?_
    refine m_ialdN (pc' := 20) (j := 44 + 2 * i) (L := 408) dX11_swap_19 (by decide) rfl rfl (ix_ek i 0) (by omega) (by decide) rfl ?_
    rw [show (d1.1 215 (44 + 2 * i)) = (s1 (44 + 2 * i)) from congrFun h8 _]
    refine m_istore (pc' := 22) dX11_swap_20 (by decide) rfl rfl ?_
    refine m_aload_n (pc' := 23) dX11_swap_22 rfl rfl ?_
    refine m_getR (pc' := 26) fa_X11_swap_7 dX11_swap_23 (by decide) rfl rfl rfl rfl ?_
    refine m_bipush (pc' := 28) (v := 44) dX11_swap_26 (by decide) rfl ?_
    refine m_iconst (pc' := 29) (v := 2) dX11_swap_28 (by decide) rfl ?_
    refine m_iload_n (pc' := 30) dX11_swap_29 rfl rfl ?_
    refine m_imul (pc' := 31) dX11_swap_30 rfl ?_
    refine m_iadd (pc' := 32) dX11_swap_31 rfl ?_
    refine m_iload_n (pc' := 33) dX11_swap_32 rfl rfl ?_
    refine m_iadd (pc' := 34) dX11_swap_33 rfl ?_
    refine m_aload_n (pc' := 35) dX11_swap_34 rfl rfl ?_
    refine m_getR (pc' := 38) fa_X11_swap_7 dX11_swap_35 (by decide) rfl rfl rfl rfl ?_
    refine m_bipush (pc' := 40) (v := 44) dX11_swap_38 (by decide) rfl ?_
    refine m_iconst (pc' := 41) (v := 2) dX11_swap_40 (by decide) rfl ?_
    refine m_iload_n (pc' := 42) dX11_swap_41 rfl rfl ?_
    refine m_imul (pc' := 43) dX11_swap_42 rfl ?_
    refine m_iadd (pc' := 44) dX11_swap_43 rfl ?_
    refine m_iload_n (pc' := 45) dX11_swap_44 rfl rfl ?_
    refine m_iadd (pc' := 46) dX11_swap_45 rfl ?_
    refine m_ialdN (pc' := 47) (j := 44 + 2 * j) (L := 408) dX11_swap_46 (by decide) rfl rfl (ix_ek j 0) (by omega) (by decide) rfl ?_
    rw [show (d1.1 215 (44 + 2 * j)) = (s1 (44 + 2 * j)) from congrFun h8 _]
    refine m_iastN (pc' := 48) (j := 44 + 2 * i) (L := 408) dX11_swap_47 (by decide) rfl rfl (ix_ek i 0) (by omega) (by decide) rfl ?_
    refine m_aload_n (pc' := 49) dX11_swap_48 rfl rfl ?_
    refine m_getR (pc' := 52) fa_X11_swap_7 dX11_swap_49 (by decide) rfl rfl rfl rfl ?_
    refine m_bipush (pc' := 54) (v := 44) dX11_swap_52 (by decide) rfl ?_
    refine m_iconst (pc' := 55) (v := 2) dX11_swap_54 (by decide) rfl ?_
    refine m_iload_n (pc' := 56) dX11_swap_55 rfl rfl ?_
    refine m_imul (pc' := 57) dX11_swap_56 rfl ?_
    refine m_iadd (pc' := 58) dX11_swap_57 rfl ?_
    refine m_iload_n (pc' := 59) dX11_swap_58 rfl rfl ?_
    refine m_iadd (pc' := 60) dX11_swap_59 rfl ?_
    refine m_iload (pc' := 62) dX11_swap_60 rfl rfl ?_
    refine m_iastN (pc' := 63) (j := 44 + 2 * j) (L := 408) dX11_swap_62 (by decide) rfl rfl (ix_ek j 0) (by omega) (by decide) rfl ?_
    refine m_iinc (pc' := 66) dX11_swap_63 rfl (by decide) (v := 1) (by decide) rfl rfl ?_
    refine m_goto (tgt := 2) dX11_swap_66 (by decide) ?_
    refine m_drop 4 (lo' := [some (.ref 214), some (.int (nI i)), some (.int (nI j)), some (.int 1), none]) rfl ?_
    exact J1 _ _ ((hd.i _ (Or.inl rfl)).i _ (Or.inl rfl)) (u2_row (u2_row h8)) hb hq
  refine mC_of (by decide +kernel) ⟨_, rfl⟩ (Nat.le_of_ble_eq_true rfl) ?_
  show mM G mX11_swap 0 [some (.ref 214), some (.int (nI i)), some (.int (nI j)), none, none] [] S1 d (0, 0) Q
  refine m_iconst (pc' := 1) (v := 0) dX11_swap_0 (by decide) rfl ?_
  refine m_istore_n (pc' := 2) dX11_swap_1 (by decide) rfl rfl ?_
  exact J0 s d fr.rfl hs hb hQ
set_option maxHeartbeats 4000000 in
set_option maxRecDepth 100000 in
theorem c_morderS {n : Nat} {r : Int32} (hs : d.1 215 = s) (hc : ∀ c, c < 8 → okC s c) (hl : okL s n) (hr3 : r < 3) (hQS : ∀ d', fr (fun a _ => a = 215 ∨ a = 220) nE d d' → d'.1 215 = arr s (srt (kyl s r) n) n → Q (some (.int (mvd (srt (kyl s r) n) n))) S1 d') : mC G mX11_orderBy [.ref 214, .int r] S1 d Q := by
  have hn16 := hl.1
  have hr : ¬ r = 3 := fun h => by subst h; exact absurd hr3 (by decide)
  have J124 : ∀ (n0 : Nat) (i : Nat) (τ : Nat → Nat) (d1 : Dt) (s1 b1 : SS) (_ : fr (fun a _ => a = 215 ∨ a = 220) nE d d1) (_ : d1.1 215 = s1) (_ : d1.1 220 = b1) (_ : aR s τ n s1) (_ : hR τ n b1) (_ : i + n0 = n) (_ : ∀ i, i < n → τ i < n) (_ : ∀ d', fr (fun a _ => a = 215 ∨ a = 220) nE d d' → d'.1 215 = arr s τ n → Q (some (.int (mvd τ n))) S1 d'), mM G mX11_orderBy 124 [some (.ref 214), some (.int r), some (.int (nI n)), some (.int (mvd τ i)), some (.int (nI i))] [] S1 d1 (0, 0) Q := by
    intro n0
    induction n0 with
    | zero =>
      intro i τ d1 s1 b1 hd h8 hb ha hh hk ht hq
      refine m_iload (pc' := 126) dX11_orderBy_124 rfl rfl ?_
      refine m_iload_n (pc' := 127) dX11_orderBy_126 rfl rfl ?_
      refine m_icmp_ge (tgt := 156) (pc' := 130) dX11_orderBy_127 (by decide) rfl (fun h127 => ?_) (fun h127 => (h127 (nI_le (by omega) (by omega))).elim)
      refine m_iload_n (pc' := 157) dX11_orderBy_156 rfl rfl ?_
      refine m_iret dX11_orderBy_157 rfl rfl ⟨by decide, by decide⟩ ?_
      obtain rfl : i = n := by omega
      exact hq d1 hd (h8.trans (aR_eq ha))
    | succ n0 ih =>
      intro i τ d1 s1 b1 hd h8 hb ha hh hk ht hq
      refine m_iload (pc' := 126) dX11_orderBy_124 rfl rfl ?_
      refine m_iload_n (pc' := 127) dX11_orderBy_126 rfl rfl ?_
      refine m_icmp_ge (tgt := 156) (pc' := 130) dX11_orderBy_127 (by decide) rfl (fun h127 => absurd h127 (nI_ge (by omega) (by omega))) (fun h127 => ?_)
      refine m_iload_n (pc' := 131) dX11_orderBy_130 rfl rfl ?_
      refine m_aload_n (pc' := 132) dX11_orderBy_131 rfl rfl ?_
      refine m_getR (pc' := 135) fa_X11_orderBy_26 dX11_orderBy_132 (by decide) rfl rfl rfl rfl ?_
      refine m_iload (pc' := 137) dX11_orderBy_135 rfl rfl ?_
      refine m_ialdN (pc' := 138) (j := i) (L := 16) dX11_orderBy_137 (by decide) rfl rfl (rfl) (by omega) (by decide) rfl ?_
      rw [show (d1.1 220 i) = (nI (τ i)) from (congrFun hb i).trans (hh i (by omega))]
      refine m_iload (pc' := 140) dX11_orderBy_138 rfl rfl ?_
      refine m_icmp_eq (tgt := 147) (pc' := 143) dX11_orderBy_140 (by decide) rfl (fun h140 => ?_) (fun h140 => ?_)
      · skip
        refine m_iconst (pc' := 148) (v := 0) dX11_orderBy_147 (by decide) rfl ?_
        refine m_iadd (pc' := 149) dX11_orderBy_148 rfl ?_
        refine m_istore_n (pc' := 150) dX11_orderBy_149 (by decide) rfl rfl ?_
        refine m_iinc (pc' := 153) dX11_orderBy_150 rfl (by decide) (v := nI (i + 1)) (nI_1 i) rfl rfl ?_
        refine m_goto (tgt := 124) dX11_orderBy_153 (by decide) ?_
        have e9 := ih (i + 1) τ d1 s1 b1 hd h8 hb ha hh (by omega) ht hq
        rw [show mvd τ (i + 1) = mvd τ i + 0 by
          show mvd τ i + (if τ i = i then 0 else 1) = _
          rw [if_pos ((nI_eq (by have := ht i (by omega); omega) (by omega)).mp h140)]] at e9
        exact e9
      · skip
        refine m_iconst (pc' := 144) (v := 1) dX11_orderBy_143 (by decide) rfl ?_
        refine m_goto (tgt := 148) dX11_orderBy_144 (by decide) ?_
        refine m_iadd (pc' := 149) dX11_orderBy_148 rfl ?_
        refine m_istore_n (pc' := 150) dX11_orderBy_149 (by decide) rfl rfl ?_
        refine m_iinc (pc' := 153) dX11_orderBy_150 rfl (by decide) (v := nI (i + 1)) (nI_1 i) rfl rfl ?_
        refine m_goto (tgt := 124) dX11_orderBy_153 (by decide) ?_
        have e9 := ih (i + 1) τ d1 s1 b1 hd h8 hb ha hh (by omega) ht hq
        rw [show mvd τ (i + 1) = mvd τ i + 1 by
          show mvd τ i + (if τ i = i then 0 else 1) = _
          rw [if_neg (ne_nI h140)]] at e9
        exact e9
  have J119 : ∀ (τ : Nat → Nat) (d1 : Dt) (s1 b1 : SS) (_ : fr (fun a _ => a = 215 ∨ a = 220) nE d d1) (_ : d1.1 215 = s1) (_ : d1.1 220 = b1) (_ : aR s τ n s1) (_ : hR τ n b1) (_ : ∀ i, i < n → τ i < n) (_ : ∀ d', fr (fun a _ => a = 215 ∨ a = 220) nE d d' → d'.1 215 = arr s τ n → Q (some (.int (mvd τ n))) S1 d'), mM G mX11_orderBy 119 [some (.ref 214), some (.int r), some (.int (nI n)), none, none] [] S1 d1 (0, 0) Q := by
    intro τ d1 s1 b1 hd h8 hb ha hh ht hq
    refine m_iconst (pc' := 120) (v := 0) dX11_orderBy_119 (by decide) rfl ?_
    refine m_istore_n (pc' := 121) dX11_orderBy_120 (by decide) rfl rfl ?_
    refine m_iconst (pc' := 122) (v := 0) dX11_orderBy_121 (by decide) rfl ?_
    refine m_istore (pc' := 124) dX11_orderBy_122 (by decide) rfl rfl ?_
    exact J124 n 0 τ d1 s1 b1 hd h8 hb ha hh (by omega) ht hq
  have J73 : ∀ (n0 : Nat) (i j : Nat) (d1 : Dt) (s1 b1 : SS) (_ : fr (fun a _ => a = 215 ∨ a = 220) nE d d1) (_ : d1.1 215 = s1) (_ : d1.1 220 = b1) (_ : aR s (inso (srt (kyl s r) i) i j) n s1) (_ : hR (inso (srt (kyl s r) i) i j) n b1) (_ : j = n0) (_ : i < n) (_ : j ≤ i) (_ : pos (srt (kyl s r) i) (kyl s r) (kyl s r i) i = pos (srt (kyl s r) i) (kyl s r) (kyl s r i) j) (_ : ∀ d2 s2 b2, fr (fun a _ => a = 215 ∨ a = 220) nE d d2 → d2.1 215 = s2 → d2.1 220 = b2 → aR s (srt (kyl s r) (i + 1)) n s2 → hR (srt (kyl s r) (i + 1)) n b2 → mM G mX11_orderBy 60 [some (.ref 214), some (.int r), some (.int (nI n)), some (.int (nI (i + 1))), none] [] S1 d2 (0, 0) Q), mM G mX11_orderBy 73 [some (.ref 214), some (.int r), some (.int (nI n)), some (.int (nI i)), some (.int (nI j))] [] S1 d1 (0, 0) Q := by
    intro n0
    induction n0 with
    | zero =>
      intro i j d1 s1 b1 hd h8 hb ha hh hj hin hji hp K
      have hp : pos (srt (kyl s r) i) (kyl s r) (kyl s r i) i = j := by rw [hp, hj]; rfl
      refine m_iload (pc' := 75) dX11_orderBy_73 rfl rfl ?_
      refine m_if_le (tgt := 113) (pc' := 78) dX11_orderBy_75 (by decide) rfl (fun h75 => ?_) (fun h75 => (h75 (by subst hj; decide)).elim)
      refine m_iinc (pc' := 116) dX11_orderBy_113 rfl (by decide) (v := nI (i + 1)) (nI_1 i) rfl rfl ?_
      refine m_goto (tgt := 60) dX11_orderBy_116 (by decide) ?_
      refine m_drop 4 (lo' := [some (.ref 214), some (.int r), some (.int (nI n)), some (.int (nI (i + 1))), none]) rfl ?_
      exact K _ _ _ hd h8 hb (aR_cg ha (fun x hx => by show _ = inso _ _ (pos _ _ _ _) _; rw [hp])) (hR_cg hh (fun x hx => by show _ = inso _ _ (pos _ _ _ _) _; rw [hp]))
    | succ n0 ih =>
      intro i j d1 s1 b1 hd h8 hb ha hh hj hin hji hp K
      subst hj
      have hn16 := hl.1
      have hti : ∀ x, x < n → inso (srt (kyl s r) i) i (n0 + 1) x < n := inso_lt hji hin (srt_ltn _ (by omega))
      have hl1 := okL_ar ha hl hti
      have k1 : kyl s1 r n0 = kyl s r (srt (kyl s r) i n0) := (kyl_ar ha hl hti r (show n0 < n by omega)).trans (by unfold inso; rw [if_pos (by omega)])
      have k2 : kyl s1 r (n0 + 1) = kyl s r i := (kyl_ar ha hl hti r (show n0 + 1 < n by omega)).trans (by unfold inso; rw [if_neg (by omega), if_pos rfl])
      refine m_iload (pc' := 75) dX11_orderBy_73 rfl rfl ?_
      refine m_if_le (tgt := 113) (pc' := 78) dX11_orderBy_75 (by decide) rfl (fun h75 => absurd h75 (by intro h; have := (nI_leI (a := n0 + 1) (b := 0) (by omega) (by decide)).mp h; omega)) (fun h75 => ?_)
      refine m_aload_n (pc' := 79) dX11_orderBy_78 rfl rfl ?_
      refine m_iload (pc' := 81) dX11_orderBy_79 rfl rfl ?_
      refine m_iconst (pc' := 82) (v := 1) dX11_orderBy_81 (by decide) rfl ?_
      refine m_isub (pc' := 83) dX11_orderBy_82 rfl ?_
      rw [show ((nI (n0 + 1)) - 1) = (nI n0) from nI_pred n0]
      refine m_iload_n (pc' := 84) dX11_orderBy_83 rfl rfl ?_
      refine m_callV (pc' := 87) (A := [.int (nI n0), .int r]) (rest := []) (b := 214) cl_X11_orderBy_133 dX11_orderBy_84 rfl rfl (Nat.le_of_ble_eq_true rfl) ⟨by decide, by decide⟩ (by decide) rfl rfl rfl rfl ?_
      refine c_mkeyOf (n := n) (i := n0) (s := s1) h8 (okC_ar ha hc) hl1 (show n0 < n by omega) ?_
      show mM G mX11_orderBy 87 [some (.ref 214), some (.int r), some (.int (nI n)), some (.int (nI i)), some (.int (nI (n0 + 1)))] [.int (kyl s1 r n0)] S1 d1 (0, 0) Q
      refine m_aload_n (pc' := 88) dX11_orderBy_87 rfl rfl ?_
      refine m_iload (pc' := 90) dX11_orderBy_88 rfl rfl ?_
      refine m_iload_n (pc' := 91) dX11_orderBy_90 rfl rfl ?_
      refine m_callV (pc' := 94) (A := [.int (nI (n0 + 1)), .int r]) (rest := [.int (kyl s1 r n0)]) (b := 214) cl_X11_orderBy_133 dX11_orderBy_91 rfl rfl (Nat.le_of_ble_eq_true rfl) ⟨by decide, by decide⟩ (by decide) rfl rfl rfl rfl ?_
      refine c_mkeyOf (n := n) (i := (n0 + 1)) (s := s1) h8 (okC_ar ha hc) hl1 (show n0 + 1 < n by omega) ?_
      show mM G mX11_orderBy 94 [some (.ref 214), some (.int r), some (.int (nI n)), some (.int (nI i)), some (.int (nI (n0 + 1)))] [.int (kyl s1 r (n0 + 1)), .int (kyl s1 r n0)] S1 d1 (0, 0) Q
      refine m_icmp_le (tgt := 113) (pc' := 97) dX11_orderBy_94 (by decide) rfl (fun h94 => ?_) (fun h94 => ?_)
      · skip
        refine m_iinc (pc' := 116) dX11_orderBy_113 rfl (by decide) (v := nI (i + 1)) (nI_1 i) rfl rfl ?_
        refine m_goto (tgt := 60) dX11_orderBy_116 (by decide) ?_
        refine m_drop 4 (lo' := [some (.ref 214), some (.int r), some (.int (nI n)), some (.int (nI (i + 1))), none]) rfl ?_
        have hnl : ¬ kyl s r i < kyl s r (srt (kyl s r) i n0) := by rw [← k1, ← k2]; exact Int32.not_lt.mpr h94
        have hp : pos (srt (kyl s r) i) (kyl s r) (kyl s r i) i = n0 + 1 := by rw [hp]; show (if kyl s r i < kyl s r (srt (kyl s r) i n0) then _ else _) = _; rw [if_neg hnl]
        exact K _ _ _ hd h8 hb (aR_cg ha (fun x hx => by show _ = inso _ _ (pos _ _ _ _) _; rw [hp])) (hR_cg hh (fun x hx => by show _ = inso _ _ (pos _ _ _ _) _; rw [hp]))
      · skip
        refine m_aload_n (pc' := 98) dX11_orderBy_97 rfl rfl ?_
        refine m_iload (pc' := 100) dX11_orderBy_98 rfl rfl ?_
        refine m_iconst (pc' := 101) (v := 1) dX11_orderBy_100 (by decide) rfl ?_
        refine m_isub (pc' := 102) dX11_orderBy_101 rfl ?_
        rw [show ((nI (n0 + 1)) - 1) = (nI n0) from nI_pred n0]
        refine m_iload (pc' := 104) dX11_orderBy_102 rfl rfl ?_
        refine m_callV (pc' := 107) (A := [.int (nI n0), .int (nI (n0 + 1))]) (rest := []) (b := 214) cl_X11_orderBy_130 dX11_orderBy_104 rfl rfl (Nat.le_of_ble_eq_true rfl) ⟨by decide, by decide⟩ (by decide) rfl rfl rfl rfl ?_
        refine c_mswap (s := s1) (b := b1) (i := n0) (j := (n0 + 1)) h8 hb (by omega) (by omega) (fun f f0 f8 f13 => ?_)
        show mM G mX11_orderBy 107 [some (.ref 214), some (.int r), some (.int (nI n)), some (.int (nI i)), some (.int (nI (n0 + 1)))] [] S1 f (0, 0) Q
        refine m_iinc (pc' := 110) dX11_orderBy_107 rfl (by decide) (v := nI n0) (pk_m1 n0) rfl rfl ?_
        refine m_goto (tgt := 73) dX11_orderBy_110 (by decide) ?_
        have hlt := Int32.not_le.mp h94
        rw [k1, k2] at hlt
        refine ih i n0 f _ _ (hd.trans f0) f8 f13 (aR_cg (aR_sw ha (by omega) (by omega)) (fun x hx => inso_s (by omega) x)) (hR_cg (hR_sw hh (by omega) (by omega)) (fun x hx => inso_s (by omega) x)) rfl hin (by omega) ?_ K
        rw [hp]; show (if kyl s r i < kyl s r (srt (kyl s r) i n0) then _ else _) = _; rw [if_pos hlt]
  have J60 : ∀ (n0 : Nat) (i : Nat) (d1 : Dt) (s1 b1 : SS) (_ : fr (fun a _ => a = 215 ∨ a = 220) nE d d1) (_ : d1.1 215 = s1) (_ : d1.1 220 = b1) (_ : aR s (srt (kyl s r) i) n s1) (_ : hR (srt (kyl s r) i) n b1) (_ : i + n0 = n) , mM G mX11_orderBy 60 [some (.ref 214), some (.int r), some (.int (nI n)), some (.int (nI i)), none] [] S1 d1 (0, 0) Q := by
    intro n0
    induction n0 with
    | zero =>
      intro i d1 s1 b1 hd h8 hb ha hh hk
      refine m_iload_n (pc' := 61) dX11_orderBy_60 rfl rfl ?_
      refine m_iload_n (pc' := 62) dX11_orderBy_61 rfl rfl ?_
      refine m_icmp_ge (tgt := 119) (pc' := 65) dX11_orderBy_62 (by decide) rfl (fun h62 => ?_) (fun h62 => (h62 (nI_le (by omega) (by omega))).elim)
      refine m_drop 3 (lo' := [some (.ref 214), some (.int r), some (.int (nI n)), none, none]) rfl ?_
      have hin : i = n := by omega
      rw [hin] at ha hh
      exact J119 (srt (kyl s r) n) d1 s1 b1 hd h8 hb ha hh (srt_ltn _ (Nat.le_refl _)) (fun d2 q0 q8 => hQS d2 q0 q8)
    | succ n0 ih =>
      intro i d1 s1 b1 hd h8 hb ha hh hk
      refine m_iload_n (pc' := 61) dX11_orderBy_60 rfl rfl ?_
      refine m_iload_n (pc' := 62) dX11_orderBy_61 rfl rfl ?_
      refine m_icmp_ge (tgt := 119) (pc' := 65) dX11_orderBy_62 (by decide) rfl (fun h62 => absurd h62 (nI_ge (by omega) (by omega))) (fun h62 => ?_)
      refine m_iload_n (pc' := 66) dX11_orderBy_65 rfl rfl ?_
      refine m_iconst (pc' := 67) (v := 3) dX11_orderBy_66 (by decide) rfl ?_
      refine m_icmp_ge (tgt := 119) (pc' := 70) dX11_orderBy_67 (by decide) rfl (fun h67 => absurd h67 (Int32.not_le.mpr hr3)) (fun h67 => ?_)
      refine m_iload_n (pc' := 71) dX11_orderBy_70 rfl rfl ?_
      refine m_istore (pc' := 73) dX11_orderBy_71 (by decide) rfl rfl ?_
      exact J73 i i i d1 s1 b1 hd h8 hb (aR_cg ha (fun x _ => inso_e (srt_hi _ i i (Nat.le_refl i)) x)) (hR_cg hh (fun x _ => inso_e (srt_hi _ i i (Nat.le_refl i)) x)) rfl (by omega) (Nat.le_refl i) rfl (fun d2 s2 b2 q0 q1 q2 q3 q4 => ih (i + 1) d2 s2 b2 q0 q1 q2 q3 q4 (by omega))
  have J58 : ∀ (d1 : Dt) (s1 b1 : SS) (_ : fr (fun a _ => a = 215 ∨ a = 220) nE d d1) (_ : d1.1 215 = s1) (_ : d1.1 220 = b1) (_ : aR s id n s1) (_ : hR id n b1), mM G mX11_orderBy 58 [some (.ref 214), some (.int r), some (.int (nI n)), none, none] [] S1 d1 (0, 0) Q := by
    intro d1 s1 b1 hd h8 hb ha hh
    refine m_iconst (pc' := 59) (v := 1) dX11_orderBy_58 (by decide) rfl ?_
    refine m_istore_n (pc' := 60) dX11_orderBy_59 (by decide) rfl rfl ?_
    by_cases hn0 : n = 0
    · skip
      refine m_iload_n (pc' := 61) dX11_orderBy_60 rfl rfl ?_
      refine m_iload_n (pc' := 62) dX11_orderBy_61 rfl rfl ?_
      refine m_icmp_ge (tgt := 119) (pc' := 65) dX11_orderBy_62 (by decide) rfl (fun h62 => ?_) (fun h62 => (h62 (by subst hn0; decide)).elim)
      refine m_drop 3 (lo' := [some (.ref 214), some (.int r), some (.int (nI n)), none, none]) rfl ?_
      exact J119 (srt (kyl s r) n) d1 s1 b1 hd h8 hb (aR_cg ha (fun x hx => absurd hx (by omega))) (hR_cg hh (fun x hx => absurd hx (by omega))) (srt_ltn _ (Nat.le_refl _)) (fun d2 q0 q8 => hQS d2 q0 q8)
    exact J60 (n - 1) 1 d1 s1 b1 hd h8 hb (aR_cg ha (fun x _ => inso_e (o := id) (e := 0) rfl x)) (hR_cg hh (fun x _ => inso_e (o := id) (e := 0) rfl x)) (by omega)
  have J10 : ∀ (n0 : Nat) (i : Nat) (d1 : Dt) (b1 : SS) (_ : fr (fun a _ => a = 215 ∨ a = 220) nE d d1) (_ : d1.1 215 = s) (_ : d1.1 220 = b1) (_ : ∀ x, x < i → b1 x = nI x) (_ : i + n0 = n), mM G mX11_orderBy 10 [some (.ref 214), some (.int r), some (.int (nI n)), some (.int (nI i)), none] [] S1 d1 (0, 0) Q := by
    intro n0
    induction n0 with
    | zero =>
      intro i d1 b1 hd h8 hb hh hk
      refine m_iload_n (pc' := 11) dX11_orderBy_10 rfl rfl ?_
      refine m_iload_n (pc' := 12) dX11_orderBy_11 rfl rfl ?_
      refine m_icmp_ge (tgt := 28) (pc' := 15) dX11_orderBy_12 (by decide) rfl (fun h12 => ?_) (fun h12 => (h12 (nI_le (by omega) (by omega))).elim)
      refine m_iconst (pc' := 29) (v := 0) dX11_orderBy_28 (by decide) rfl ?_
      refine m_istore_n (pc' := 30) dX11_orderBy_29 (by decide) rfl rfl ?_
      refine m_iload_n (pc' := 31) dX11_orderBy_30 rfl rfl ?_
      refine m_iload_n (pc' := 32) dX11_orderBy_31 rfl rfl ?_
      refine m_iconst (pc' := 33) (v := 2) dX11_orderBy_32 (by decide) rfl ?_
      refine m_idiv (pc' := 34) dX11_orderBy_33 (by decide) rfl ?_
      rw [show ((nI n) / 2) = (nI (n / 2)) from half16 hn16]
      refine m_icmp_ge (tgt := 58) (pc' := 37) dX11_orderBy_34 (by decide) rfl (fun h34 => ?_) (fun h34 => ?_)
      · skip
        refine m_drop 3 (lo' := [some (.ref 214), some (.int r), some (.int (nI n)), none, none]) rfl ?_
        exact J58 d1 s b1 hd h8 hb (aR_id s n) (fun x hx => hh x (by omega))
      · skip
        refine m_iload_n (pc' := 38) dX11_orderBy_37 rfl rfl ?_
        refine m_iconst (pc' := 39) (v := 3) dX11_orderBy_38 (by decide) rfl ?_
        refine m_icmp_ne (tgt := 58) (pc' := 42) dX11_orderBy_39 (by decide) rfl (fun h39 => ?_) (fun h39 => absurd h39 (hr))
        refine m_drop 3 (lo' := [some (.ref 214), some (.int r), some (.int (nI n)), none, none]) rfl ?_
        exact J58 d1 s b1 hd h8 hb (aR_id s n) (fun x hx => hh x (by omega))
    | succ n0 ih =>
      intro i d1 b1 hd h8 hb hh hk
      refine m_iload_n (pc' := 11) dX11_orderBy_10 rfl rfl ?_
      refine m_iload_n (pc' := 12) dX11_orderBy_11 rfl rfl ?_
      refine m_icmp_ge (tgt := 28) (pc' := 15) dX11_orderBy_12 (by decide) rfl (fun h12 => absurd h12 (nI_ge (by omega) (by omega))) (fun h12 => ?_)
      refine m_aload_n (pc' := 16) dX11_orderBy_15 rfl rfl ?_
      refine m_getR (pc' := 19) fa_X11_orderBy_26 dX11_orderBy_16 (by decide) rfl rfl rfl rfl ?_
      refine m_iload_n (pc' := 20) dX11_orderBy_19 rfl rfl ?_
      refine m_iload_n (pc' := 21) dX11_orderBy_20 rfl rfl ?_
      refine m_iastN (pc' := 22) (j := i) (L := 16) dX11_orderBy_21 (by decide) rfl rfl (rfl) (by omega) (by decide) rfl ?_
      refine m_iinc (pc' := 25) dX11_orderBy_22 rfl (by decide) (v := nI (i + 1)) (nI_1 i) rfl rfl ?_
      refine m_goto (tgt := 10) dX11_orderBy_25 (by decide) ?_
      exact ih (i + 1) _ _ (hd.i _ (Or.inr rfl)) h8 (u2_row hb) (fun x hx => by by_cases h : x = i; (subst h; exact sU_eq _ _ _); (rw [sU_ne _ _ h]; exact hh x (by omega))) (by omega)
  refine mC_of (by decide +kernel) ⟨_, rfl⟩ (Nat.le_of_ble_eq_true rfl) ?_
  show mM G mX11_orderBy 0 [some (.ref 214), some (.int r), none, none, none] [] S1 d (0, 0) Q
  refine m_aload_n (pc' := 1) dX11_orderBy_0 rfl rfl ?_
  refine m_getR (pc' := 4) fa_X11_orderBy_7 dX11_orderBy_1 (by decide) rfl rfl rfl rfl ?_
  refine m_bipush (pc' := 6) (v := 43) dX11_orderBy_4 (by decide) rfl ?_
  refine m_ialdN (pc' := 7) (j := 43) (L := 408) dX11_orderBy_6 (by decide) rfl rfl (rfl) (by decide) (by decide) rfl ?_
  rw [show (d.1 215 43) = (nI n) from (congrFun hs 43).trans hl.2.1]
  refine m_istore_n (pc' := 8) dX11_orderBy_7 (by decide) rfl rfl ?_
  refine m_iconst (pc' := 9) (v := 0) dX11_orderBy_8 (by decide) rfl ?_
  refine m_istore_n (pc' := 10) dX11_orderBy_9 (by decide) rfl rfl ?_
  exact J10 n 0 d (d.1 220) fr.rfl hs rfl (fun x hx => absurd hx (Nat.not_lt_zero x)) (by omega)
set_option maxHeartbeats 4000000 in
set_option maxRecDepth 100000 in
theorem c_morder3 {n : Nat} (hs : d.1 215 = s) (hc : ∀ c, c < 8 → okC s c) (hl : okL s n)  (hQS : ∀ d', fr (fun a _ => a = 215 ∨ a = 220) nE d d' → d'.1 215 = arr s (fun i => n - 1 - i) n → Q (some (.int (mvd (fun i => n - 1 - i) n))) S1 d') : mC G mX11_orderBy [.ref 214, .int 3] S1 d Q := by
  have hn16 := hl.1
  have J124 : ∀ (n0 : Nat) (i : Nat) (τ : Nat → Nat) (d1 : Dt) (s1 b1 : SS) (_ : fr (fun a _ => a = 215 ∨ a = 220) nE d d1) (_ : d1.1 215 = s1) (_ : d1.1 220 = b1) (_ : aR s τ n s1) (_ : hR τ n b1) (_ : i + n0 = n) (_ : ∀ i, i < n → τ i < n) (_ : ∀ d', fr (fun a _ => a = 215 ∨ a = 220) nE d d' → d'.1 215 = arr s τ n → Q (some (.int (mvd τ n))) S1 d'), mM G mX11_orderBy 124 [some (.ref 214), some (.int 3), some (.int (nI n)), some (.int (mvd τ i)), some (.int (nI i))] [] S1 d1 (0, 0) Q := by
    intro n0
    induction n0 with
    | zero =>
      intro i τ d1 s1 b1 hd h8 hb ha hh hk ht hq
      refine m_iload (pc' := 126) dX11_orderBy_124 rfl rfl ?_
      refine m_iload_n (pc' := 127) dX11_orderBy_126 rfl rfl ?_
      refine m_icmp_ge (tgt := 156) (pc' := 130) dX11_orderBy_127 (by decide) rfl (fun h127 => ?_) (fun h127 => (h127 (nI_le (by omega) (by omega))).elim)
      refine m_iload_n (pc' := 157) dX11_orderBy_156 rfl rfl ?_
      refine m_iret dX11_orderBy_157 rfl rfl ⟨by decide, by decide⟩ ?_
      obtain rfl : i = n := by omega
      exact hq d1 hd (h8.trans (aR_eq ha))
    | succ n0 ih =>
      intro i τ d1 s1 b1 hd h8 hb ha hh hk ht hq
      refine m_iload (pc' := 126) dX11_orderBy_124 rfl rfl ?_
      refine m_iload_n (pc' := 127) dX11_orderBy_126 rfl rfl ?_
      refine m_icmp_ge (tgt := 156) (pc' := 130) dX11_orderBy_127 (by decide) rfl (fun h127 => absurd h127 (nI_ge (by omega) (by omega))) (fun h127 => ?_)
      refine m_iload_n (pc' := 131) dX11_orderBy_130 rfl rfl ?_
      refine m_aload_n (pc' := 132) dX11_orderBy_131 rfl rfl ?_
      refine m_getR (pc' := 135) fa_X11_orderBy_26 dX11_orderBy_132 (by decide) rfl rfl rfl rfl ?_
      refine m_iload (pc' := 137) dX11_orderBy_135 rfl rfl ?_
      refine m_ialdN (pc' := 138) (j := i) (L := 16) dX11_orderBy_137 (by decide) rfl rfl (rfl) (by omega) (by decide) rfl ?_
      rw [show (d1.1 220 i) = (nI (τ i)) from (congrFun hb i).trans (hh i (by omega))]
      refine m_iload (pc' := 140) dX11_orderBy_138 rfl rfl ?_
      refine m_icmp_eq (tgt := 147) (pc' := 143) dX11_orderBy_140 (by decide) rfl (fun h140 => ?_) (fun h140 => ?_)
      · skip
        refine m_iconst (pc' := 148) (v := 0) dX11_orderBy_147 (by decide) rfl ?_
        refine m_iadd (pc' := 149) dX11_orderBy_148 rfl ?_
        refine m_istore_n (pc' := 150) dX11_orderBy_149 (by decide) rfl rfl ?_
        refine m_iinc (pc' := 153) dX11_orderBy_150 rfl (by decide) (v := nI (i + 1)) (nI_1 i) rfl rfl ?_
        refine m_goto (tgt := 124) dX11_orderBy_153 (by decide) ?_
        have e9 := ih (i + 1) τ d1 s1 b1 hd h8 hb ha hh (by omega) ht hq
        rw [show mvd τ (i + 1) = mvd τ i + 0 by
          show mvd τ i + (if τ i = i then 0 else 1) = _
          rw [if_pos ((nI_eq (by have := ht i (by omega); omega) (by omega)).mp h140)]] at e9
        exact e9
      · skip
        refine m_iconst (pc' := 144) (v := 1) dX11_orderBy_143 (by decide) rfl ?_
        refine m_goto (tgt := 148) dX11_orderBy_144 (by decide) ?_
        refine m_iadd (pc' := 149) dX11_orderBy_148 rfl ?_
        refine m_istore_n (pc' := 150) dX11_orderBy_149 (by decide) rfl rfl ?_
        refine m_iinc (pc' := 153) dX11_orderBy_150 rfl (by decide) (v := nI (i + 1)) (nI_1 i) rfl rfl ?_
        refine m_goto (tgt := 124) dX11_orderBy_153 (by decide) ?_
        have e9 := ih (i + 1) τ d1 s1 b1 hd h8 hb ha hh (by omega) ht hq
        rw [show mvd τ (i + 1) = mvd τ i + 1 by
          show mvd τ i + (if τ i = i then 0 else 1) = _
          rw [if_neg (ne_nI h140)]] at e9
        exact e9
  have J119 : ∀ (τ : Nat → Nat) (d1 : Dt) (s1 b1 : SS) (_ : fr (fun a _ => a = 215 ∨ a = 220) nE d d1) (_ : d1.1 215 = s1) (_ : d1.1 220 = b1) (_ : aR s τ n s1) (_ : hR τ n b1) (_ : ∀ i, i < n → τ i < n) (_ : ∀ d', fr (fun a _ => a = 215 ∨ a = 220) nE d d' → d'.1 215 = arr s τ n → Q (some (.int (mvd τ n))) S1 d'), mM G mX11_orderBy 119 [some (.ref 214), some (.int 3), some (.int (nI n)), none, none] [] S1 d1 (0, 0) Q := by
    intro τ d1 s1 b1 hd h8 hb ha hh ht hq
    refine m_iconst (pc' := 120) (v := 0) dX11_orderBy_119 (by decide) rfl ?_
    refine m_istore_n (pc' := 121) dX11_orderBy_120 (by decide) rfl rfl ?_
    refine m_iconst (pc' := 122) (v := 0) dX11_orderBy_121 (by decide) rfl ?_
    refine m_istore (pc' := 124) dX11_orderBy_122 (by decide) rfl rfl ?_
    exact J124 n 0 τ d1 s1 b1 hd h8 hb ha hh (by omega) ht hq
  have J58 : ∀ (d1 : Dt) (s1 b1 : SS) (_ : fr (fun a _ => a = 215 ∨ a = 220) nE d d1) (_ : d1.1 215 = s1) (_ : d1.1 220 = b1) (_ : aR s (fun i => n - 1 - i) n s1) (_ : hR (fun i => n - 1 - i) n b1), mM G mX11_orderBy 58 [some (.ref 214), some (.int 3), some (.int (nI n)), none, none] [] S1 d1 (0, 0) Q := by
    intro d1 s1 b1 hd h8 hb ha hh
    refine m_iconst (pc' := 59) (v := 1) dX11_orderBy_58 (by decide) rfl ?_
    refine m_istore_n (pc' := 60) dX11_orderBy_59 (by decide) rfl rfl ?_
    refine m_iload_n (pc' := 61) dX11_orderBy_60 rfl rfl ?_
    refine m_iload_n (pc' := 62) dX11_orderBy_61 rfl rfl ?_
    refine m_icmp_ge (tgt := 119) (pc' := 65) dX11_orderBy_62 (by decide) rfl (fun h62 => ?_) (fun h62 => ?_)
    · skip
      refine m_drop 3 (lo' := [some (.ref 214), some (.int 3), some (.int (nI n)), none, none]) rfl ?_
      exact J119 (fun i => n - 1 - i) d1 s1 b1 hd h8 hb ha hh (fun i hi => by show n - 1 - i < n; omega) hQS
    · skip
      refine m_iload_n (pc' := 66) dX11_orderBy_65 rfl rfl ?_
      refine m_iconst (pc' := 67) (v := 3) dX11_orderBy_66 (by decide) rfl ?_
      refine m_icmp_ge (tgt := 119) (pc' := 70) dX11_orderBy_67 (by decide) rfl (fun h67 => ?_) (fun h67 => absurd h67 (by decide))
      refine m_drop 3 (lo' := [some (.ref 214), some (.int 3), some (.int (nI n)), none, none]) rfl ?_
      exact J119 (fun i => n - 1 - i) d1 s1 b1 hd h8 hb ha hh (fun i hi => by show n - 1 - i < n; omega) hQS
  have J30 : ∀ (n0 : Nat) (i : Nat) (d1 : Dt) (s1 b1 : SS) (_ : fr (fun a _ => a = 215 ∨ a = 220) nE d d1) (_ : d1.1 215 = s1) (_ : d1.1 220 = b1) (_ : aR s (rvi n i) n s1) (_ : hR (rvi n i) n b1) (_ : i + n0 = n / 2), mM G mX11_orderBy 30 [some (.ref 214), some (.int 3), some (.int (nI n)), some (.int (nI i)), none] [] S1 d1 (0, 0) Q := by
    intro n0
    induction n0 with
    | zero =>
      intro i d1 s1 b1 hd h8 hb ha hh hk
      refine m_iload_n (pc' := 31) dX11_orderBy_30 rfl rfl ?_
      refine m_iload_n (pc' := 32) dX11_orderBy_31 rfl rfl ?_
      refine m_iconst (pc' := 33) (v := 2) dX11_orderBy_32 (by decide) rfl ?_
      refine m_idiv (pc' := 34) dX11_orderBy_33 (by decide) rfl ?_
      rw [show ((nI n) / 2) = (nI (n / 2)) from half16 hn16]
      refine m_icmp_ge (tgt := 58) (pc' := 37) dX11_orderBy_34 (by decide) rfl (fun h34 => ?_) (fun h34 => (h34 (nI_le (by omega) (by omega))).elim)
      refine m_drop 3 (lo' := [some (.ref 214), some (.int 3), some (.int (nI n)), none, none]) rfl ?_
      have hin : i = n / 2 := by omega
      exact J58 d1 s1 b1 hd h8 hb (aR_cg ha (fun x hx => by unfold rvi; split <;> omega)) (hR_cg hh (fun x hx => by unfold rvi; split <;> omega))
    | succ n0 ih =>
      intro i d1 s1 b1 hd h8 hb ha hh hk
      refine m_iload_n (pc' := 31) dX11_orderBy_30 rfl rfl ?_
      refine m_iload_n (pc' := 32) dX11_orderBy_31 rfl rfl ?_
      refine m_iconst (pc' := 33) (v := 2) dX11_orderBy_32 (by decide) rfl ?_
      refine m_idiv (pc' := 34) dX11_orderBy_33 (by decide) rfl ?_
      rw [show ((nI n) / 2) = (nI (n / 2)) from half16 hn16]
      refine m_icmp_ge (tgt := 58) (pc' := 37) dX11_orderBy_34 (by decide) rfl (fun h34 => absurd h34 (nI_ge (by omega) (by omega))) (fun h34 => ?_)
      refine m_iload_n (pc' := 38) dX11_orderBy_37 rfl rfl ?_
      refine m_iconst (pc' := 39) (v := 3) dX11_orderBy_38 (by decide) rfl ?_
      refine m_icmp_ne (tgt := 58) (pc' := 42) dX11_orderBy_39 (by decide) rfl (fun h39 => absurd h39 (by decide)) (fun h39 => ?_)
      refine m_aload_n (pc' := 43) dX11_orderBy_42 rfl rfl ?_
      refine m_iload_n (pc' := 44) dX11_orderBy_43 rfl rfl ?_
      refine m_iload_n (pc' := 45) dX11_orderBy_44 rfl rfl ?_
      refine m_iconst (pc' := 46) (v := 1) dX11_orderBy_45 (by decide) rfl ?_
      refine m_isub (pc' := 47) dX11_orderBy_46 rfl ?_
      rw [show ((nI n) - 1) = (nI (n - 1)) from pk_dif (b := 1) (by omega)]
      refine m_iload_n (pc' := 48) dX11_orderBy_47 rfl rfl ?_
      refine m_isub (pc' := 49) dX11_orderBy_48 rfl ?_
      rw [show ((nI (n - 1)) - (nI i)) = (nI (n - 1 - i)) from pk_dif (by omega)]
      refine m_callV (pc' := 52) (A := [.int (nI i), .int (nI (n - 1 - i))]) (rest := []) (b := 214) cl_X11_orderBy_130 dX11_orderBy_49 rfl rfl (Nat.le_of_ble_eq_true rfl) ⟨by decide, by decide⟩ (by decide) rfl rfl rfl rfl ?_
      refine c_mswap (s := s1) (b := b1) (i := i) (j := (n - 1 - i)) h8 hb (by omega) (by omega) (fun f f0 f8 f13 => ?_)
      show mM G mX11_orderBy 52 [some (.ref 214), some (.int 3), some (.int (nI n)), some (.int (nI i)), none] [] S1 f (0, 0) Q
      refine m_iinc (pc' := 55) dX11_orderBy_52 rfl (by decide) (v := nI (i + 1)) (nI_1 i) rfl rfl ?_
      refine m_goto (tgt := 30) dX11_orderBy_55 (by decide) ?_
      exact ih (i + 1) f _ _ (hd.trans f0) f8 f13 (aR_cg (aR_sw ha (by omega) (by omega)) (fun x hx => rvi_s (by omega) x hx)) (hR_cg (hR_sw hh (by omega) (by omega)) (fun x hx => rvi_s (by omega) x hx)) (by omega)
  have J10 : ∀ (n0 : Nat) (i : Nat) (d1 : Dt) (b1 : SS) (_ : fr (fun a _ => a = 215 ∨ a = 220) nE d d1) (_ : d1.1 215 = s) (_ : d1.1 220 = b1) (_ : ∀ x, x < i → b1 x = nI x) (_ : i + n0 = n), mM G mX11_orderBy 10 [some (.ref 214), some (.int 3), some (.int (nI n)), some (.int (nI i)), none] [] S1 d1 (0, 0) Q := by
    intro n0
    induction n0 with
    | zero =>
      intro i d1 b1 hd h8 hb hh hk
      refine m_iload_n (pc' := 11) dX11_orderBy_10 rfl rfl ?_
      refine m_iload_n (pc' := 12) dX11_orderBy_11 rfl rfl ?_
      refine m_icmp_ge (tgt := 28) (pc' := 15) dX11_orderBy_12 (by decide) rfl (fun h12 => ?_) (fun h12 => (h12 (nI_le (by omega) (by omega))).elim)
      refine m_iconst (pc' := 29) (v := 0) dX11_orderBy_28 (by decide) rfl ?_
      refine m_istore_n (pc' := 30) dX11_orderBy_29 (by decide) rfl rfl ?_
      exact J30 (n / 2) 0 d1 s b1 hd h8 hb (aR_cg (aR_id s n) (fun x hx => by unfold rvi; rw [if_neg (by omega)]; rfl)) (fun x hx => by unfold rvi; rw [if_neg (by omega)]; exact hh x (by omega)) (by omega)
    | succ n0 ih =>
      intro i d1 b1 hd h8 hb hh hk
      refine m_iload_n (pc' := 11) dX11_orderBy_10 rfl rfl ?_
      refine m_iload_n (pc' := 12) dX11_orderBy_11 rfl rfl ?_
      refine m_icmp_ge (tgt := 28) (pc' := 15) dX11_orderBy_12 (by decide) rfl (fun h12 => absurd h12 (nI_ge (by omega) (by omega))) (fun h12 => ?_)
      refine m_aload_n (pc' := 16) dX11_orderBy_15 rfl rfl ?_
      refine m_getR (pc' := 19) fa_X11_orderBy_26 dX11_orderBy_16 (by decide) rfl rfl rfl rfl ?_
      refine m_iload_n (pc' := 20) dX11_orderBy_19 rfl rfl ?_
      refine m_iload_n (pc' := 21) dX11_orderBy_20 rfl rfl ?_
      refine m_iastN (pc' := 22) (j := i) (L := 16) dX11_orderBy_21 (by decide) rfl rfl (rfl) (by omega) (by decide) rfl ?_
      refine m_iinc (pc' := 25) dX11_orderBy_22 rfl (by decide) (v := nI (i + 1)) (nI_1 i) rfl rfl ?_
      refine m_goto (tgt := 10) dX11_orderBy_25 (by decide) ?_
      exact ih (i + 1) _ _ (hd.i _ (Or.inr rfl)) h8 (u2_row hb) (fun x hx => by by_cases h : x = i; (subst h; exact sU_eq _ _ _); (rw [sU_ne _ _ h]; exact hh x (by omega))) (by omega)
  refine mC_of (by decide +kernel) ⟨_, rfl⟩ (Nat.le_of_ble_eq_true rfl) ?_
  show mM G mX11_orderBy 0 [some (.ref 214), some (.int 3), none, none, none] [] S1 d (0, 0) Q
  refine m_aload_n (pc' := 1) dX11_orderBy_0 rfl rfl ?_
  refine m_getR (pc' := 4) fa_X11_orderBy_7 dX11_orderBy_1 (by decide) rfl rfl rfl rfl ?_
  refine m_bipush (pc' := 6) (v := 43) dX11_orderBy_4 (by decide) rfl ?_
  refine m_ialdN (pc' := 7) (j := 43) (L := 408) dX11_orderBy_6 (by decide) rfl rfl (rfl) (by decide) (by decide) rfl ?_
  rw [show (d.1 215 43) = (nI n) from (congrFun hs 43).trans hl.2.1]
  refine m_istore_n (pc' := 8) dX11_orderBy_7 (by decide) rfl rfl ?_
  refine m_iconst (pc' := 9) (v := 0) dX11_orderBy_8 (by decide) rfl ?_
  refine m_istore_n (pc' := 10) dX11_orderBy_9 (by decide) rfl rfl ?_
  exact J10 n 0 d (d.1 220) fr.rfl hs rfl (fun x hx => absurd hx (Nat.not_lt_zero x)) (by omega)
theorem c_morder {n : Nat} {r : Int32} (hs : d.1 215 = s) (hc : ∀ c, c < 8 → okC s c) (hl : okL s n) (hr : r = 3 ∨ r < 3) (hQ : ∀ d', fr (fun a _ => a = 215 ∨ a = 220) nE d d' → d'.1 215 = arr s (tau s r n) n → Q (some (.int (mvd (tau s r n) n))) S1 d') : mC G mX11_orderBy [.ref 214, .int r] S1 d Q := by
  rcases hr with rfl | hr
  · exact c_morder3 hs hc hl (fun d' e0 e1 => hQ d' e0 e1)
  · have hr3 : ¬ r = 3 := fun h => by subst h; exact absurd hr (by decide)
    have et : tau s r n = srt (kyl s r) n := if_neg hr3
    exact c_morderS hs hc hl hr (fun d' e0 e1 => by have := hQ d' e0 (by rw [et]; exact e1); rw [et] at this; exact this)
end MOD11
