/-! THE CHECK'S OWN CALLS (2) -/
section MOD6
variable {G : GP} {Q : Option Value → Sh → Dt → Prop} {d : Dt} {s : SS}
set_option maxHeartbeats 4000000 in
set_option maxRecDepth 100000 in
theorem c_minsert {n b : Nat} {p q : Int32} (hs : d.1 215 = s) (hn : s 43 = nI n) (hb : b ≤ n) (hn2 : n < 100) (hQ : ∀ d', fr (rE 215) nE d d' → d'.1 215 = ins s n b p q → Q none S1 d') : mC G mX11_insert [.ref 214, .int p, .int q, .int (nI b)] S1 d Q := by
  have J : ∀ (n0 : Nat) (k : Nat) (d1 : Dt) (_ : k = b + n0) (_ : k ≤ n) (_ : fr (rE 215) nE d d1) (_ : d1.1 215 = shf s n k), mM G mX11_insert 9 [some (.ref 214), some (.int p), some (.int q), some (.int (nI b)), some (.int (nI k))] [] S1 d1 (0, 0) Q := by
    intro n0
    induction n0 with
    | zero =>
      intro k d1 hk hkn hd h8
      refine m_iload (pc' := 11) dX11_insert_9 rfl rfl ?_
      refine m_iload_n (pc' := 12) dX11_insert_11 rfl rfl ?_
      refine m_icmp_le (tgt := 75) (pc' := 15) dX11_insert_12 (by decide) rfl (fun h12 => ?_) (fun h12 => (h12 (nI_le (by omega) (by omega))).elim)
      refine m_aload_n (pc' := 76) dX11_insert_75 rfl rfl ?_
      refine m_getR (pc' := 79) fa_X11_insert_7 dX11_insert_76 (by decide) rfl rfl rfl rfl ?_
      refine m_bipush (pc' := 81) (v := 44) dX11_insert_79 (by decide) rfl ?_
      refine m_iconst (pc' := 82) (v := 2) dX11_insert_81 (by decide) rfl ?_
      refine m_iload_n (pc' := 83) dX11_insert_82 rfl rfl ?_
      refine m_imul (pc' := 84) dX11_insert_83 rfl ?_
      refine m_iadd (pc' := 85) dX11_insert_84 rfl ?_
      refine m_iload_n (pc' := 86) dX11_insert_85 rfl rfl ?_
      refine m_iastN (pc' := 87) (j := 44 + 2 * b) (L := 408) dX11_insert_86 (by decide) rfl rfl (ix_e b) (by omega) (by decide) rfl ?_
      refine m_aload_n (pc' := 88) dX11_insert_87 rfl rfl ?_
      refine m_getR (pc' := 91) fa_X11_insert_7 dX11_insert_88 (by decide) rfl rfl rfl rfl ?_
      refine m_bipush (pc' := 93) (v := 44) dX11_insert_91 (by decide) rfl ?_
      refine m_iconst (pc' := 94) (v := 2) dX11_insert_93 (by decide) rfl ?_
      refine m_iload_n (pc' := 95) dX11_insert_94 rfl rfl ?_
      refine m_imul (pc' := 96) dX11_insert_95 rfl ?_
      refine m_iadd (pc' := 97) dX11_insert_96 rfl ?_
      refine m_iconst (pc' := 98) (v := 1) dX11_insert_97 (by decide) rfl ?_
      refine m_iadd (pc' := 99) dX11_insert_98 rfl ?_
      refine m_iload_n (pc' := 100) dX11_insert_99 rfl rfl ?_
      refine m_iastN (pc' := 101) (j := 45 + 2 * b) (L := 408) dX11_insert_100 (by decide) rfl rfl (ix_f b) (by omega) (by decide) rfl ?_
      refine m_aload_n (pc' := 102) dX11_insert_101 rfl rfl ?_
      refine m_getR (pc' := 105) fa_X11_insert_7 dX11_insert_102 (by decide) rfl rfl rfl rfl ?_
      refine m_bipush (pc' := 107) (v := 43) dX11_insert_105 (by decide) rfl ?_
      refine m_dup2 (pc' := 108) dX11_insert_107 rfl ?_
      refine m_ialdN (pc' := 109) (j := 43) (L := 408) dX11_insert_108 (by decide) rfl rfl (rfl) (by decide) (by decide) rfl ?_
      show mM G mX11_insert 109 [some (.ref 214), some (.int p), some (.int q), some (.int (nI b)), some (.int (nI k))] [.int ((((u2 (u2 d1.1 215 (44 + 2 * b) p) 215 (45 + 2 * b) q, d1.2)).1) 215 43), .int 43, .ref 215] S1 (u2 (u2 d1.1 215 (44 + 2 * b) p) 215 (45 + 2 * b) q, d1.2) (0, 0) Q
      rw [show ((((u2 (u2 d1.1 215 (44 + 2 * b) p) 215 (45 + 2 * b) q, d1.2)).1) 215 43) = (nI n) from (by show u2 (u2 d1.1 215 (44 + 2 * b) p) 215 (45 + 2 * b) q 215 43 = nI n; rw [u2_oth (show 43 ≠ 45 + 2 * b by omega), u2_oth (show 43 ≠ 44 + 2 * b by omega), h8, shf_lo (show 43 < 46 + 2 * k by omega)]; exact hn)]
      refine m_iconst (pc' := 110) (v := 1) dX11_insert_109 (by decide) rfl ?_
      refine m_iadd (pc' := 111) dX11_insert_110 rfl ?_
      rw [show ((nI n) + 1) = (nI (n + 1)) from nI_1 n]
      refine m_iastN (pc' := 112) (j := 43) (L := 408) dX11_insert_111 (by decide) rfl rfl (rfl) (by decide) (by decide) rfl ?_
      refine m_vret dX11_insert_112 rfl ⟨by decide, by decide⟩ ?_
      have hbk : k = b := by omega
      rw [hbk] at h8
      refine hQ _ (((hd.i _ rfl).i _ rfl).i _ rfl) ?_
      rw [← shf_ins s n b p q hb]
      exact u2_row (u2_row (u2_row h8))
    | succ n0 ih =>
      intro k d1 hk hkn hd h8
      obtain ⟨j, rfl⟩ : ∃ j, k = j + 1 := ⟨b + n0, by omega⟩
      refine m_iload (pc' := 11) dX11_insert_9 rfl rfl ?_
      refine m_iload_n (pc' := 12) dX11_insert_11 rfl rfl ?_
      refine m_icmp_le (tgt := 75) (pc' := 15) dX11_insert_12 (by decide) rfl (fun h12 => absurd h12 (nI_ge (by omega) (by omega))) (fun h12 => ?_)
      refine m_aload_n (pc' := 16) dX11_insert_15 rfl rfl ?_
      refine m_getR (pc' := 19) fa_X11_insert_7 dX11_insert_16 (by decide) rfl rfl rfl rfl ?_
      refine m_bipush (pc' := 21) (v := 44) dX11_insert_19 (by decide) rfl ?_
      refine m_iconst (pc' := 22) (v := 2) dX11_insert_21 (by decide) rfl ?_
      refine m_iload (pc' := 24) dX11_insert_22 rfl rfl ?_
      refine m_imul (pc' := 25) dX11_insert_24 rfl ?_
      refine m_iadd (pc' := 26) dX11_insert_25 rfl ?_
      refine m_aload_n (pc' := 27) dX11_insert_26 rfl rfl ?_
      refine m_getR (pc' := 30) fa_X11_insert_7 dX11_insert_27 (by decide) rfl rfl rfl rfl ?_
      refine m_bipush (pc' := 32) (v := 44) dX11_insert_30 (by decide) rfl ?_
      refine m_iconst (pc' := 33) (v := 2) dX11_insert_32 (by decide) rfl ?_
      refine m_iload (pc' := 35) dX11_insert_33 rfl rfl ?_
      refine m_imul (pc' := 36) dX11_insert_35 rfl ?_
      refine m_iadd (pc' := 37) dX11_insert_36 rfl ?_
      refine m_iconst (pc' := 38) (v := 2) dX11_insert_37 (by decide) rfl ?_
      refine m_isub (pc' := 39) dX11_insert_38 rfl ?_
      refine m_ialdN (pc' := 40) (j := 44 + 2 * j) (L := 408) dX11_insert_39 (by decide) rfl rfl (ix_e2 j) (by omega) (by decide) rfl ?_
      rw [show (d1.1 215 (44 + 2 * j)) = (s (44 + 2 * j)) from (congrFun h8 _).trans (shf_lo (by omega))]
      refine m_iastN (pc' := 41) (j := 44 + 2 * (j + 1)) (L := 408) dX11_insert_40 (by decide) rfl rfl (ix_e (j + 1)) (by omega) (by decide) rfl ?_
      refine m_aload_n (pc' := 42) dX11_insert_41 rfl rfl ?_
      refine m_getR (pc' := 45) fa_X11_insert_7 dX11_insert_42 (by decide) rfl rfl rfl rfl ?_
      refine m_bipush (pc' := 47) (v := 44) dX11_insert_45 (by decide) rfl ?_
      refine m_iconst (pc' := 48) (v := 2) dX11_insert_47 (by decide) rfl ?_
      refine m_iload (pc' := 50) dX11_insert_48 rfl rfl ?_
      refine m_imul (pc' := 51) dX11_insert_50 rfl ?_
      refine m_iadd (pc' := 52) dX11_insert_51 rfl ?_
      refine m_iconst (pc' := 53) (v := 1) dX11_insert_52 (by decide) rfl ?_
      refine m_iadd (pc' := 54) dX11_insert_53 rfl ?_
      refine m_aload_n (pc' := 55) dX11_insert_54 rfl rfl ?_
      refine m_getR (pc' := 58) fa_X11_insert_7 dX11_insert_55 (by decide) rfl rfl rfl rfl ?_
      refine m_bipush (pc' := 60) (v := 44) dX11_insert_58 (by decide) rfl ?_
      refine m_iconst (pc' := 61) (v := 2) dX11_insert_60 (by decide) rfl ?_
      refine m_iload (pc' := 63) dX11_insert_61 rfl rfl ?_
      refine m_imul (pc' := 64) dX11_insert_63 rfl ?_
      refine m_iadd (pc' := 65) dX11_insert_64 rfl ?_
      refine m_iconst (pc' := 66) (v := 1) dX11_insert_65 (by decide) rfl ?_
      refine m_isub (pc' := 67) dX11_insert_66 rfl ?_
      refine m_ialdN (pc' := 68) (j := 45 + 2 * j) (L := 408) dX11_insert_67 (by decide) rfl rfl (ix_e1 j) (by omega) (by decide) rfl ?_
      show mM G mX11_insert 68 [some (.ref 214), some (.int p), some (.int q), some (.int (nI b)), some (.int (nI (j + 1)))] [.int ((((u2 d1.1 215 (44 + 2 * (j + 1)) (s (44 + 2 * j)), d1.2)).1) 215 (45 + 2 * j)), .int ((44 + (2 * (nI (j + 1)))) + 1), .ref 215] S1 (u2 d1.1 215 (44 + 2 * (j + 1)) (s (44 + 2 * j)), d1.2) (0, 0) Q
      rw [show ((((u2 d1.1 215 (44 + 2 * (j + 1)) (s (44 + 2 * j)), d1.2)).1) 215 (45 + 2 * j)) = (s (45 + 2 * j)) from (by show u2 d1.1 215 (44 + 2 * (j + 1)) (s (44 + 2 * j)) 215 (45 + 2 * j) = s (45 + 2 * j); rw [u2_oth (show 45 + 2 * j ≠ 44 + 2 * (j + 1) by omega), h8, shf_lo (show 45 + 2 * j < 46 + 2 * (j + 1) by omega)])]
      refine m_iastN (pc' := 69) (j := 45 + 2 * (j + 1)) (L := 408) dX11_insert_68 (by decide) rfl rfl (ix_f (j + 1)) (by omega) (by decide) rfl ?_
      refine m_iinc (pc' := 72) dX11_insert_69 rfl (by decide) (v := nI j) (pk_m1 j) rfl rfl ?_
      refine m_goto (tgt := 9) dX11_insert_72 (by decide) ?_
      exact ih j _ (by omega) (by omega) ((hd.i _ rfl).i _ rfl) ((u2_row (u2_row h8)).trans (shf_s s n j (by omega)))
  refine mC_of (by decide +kernel) ⟨_, rfl⟩ (Nat.le_of_ble_eq_true rfl) ?_
  show mM G mX11_insert 0 [some (.ref 214), some (.int p), some (.int q), some (.int (nI b)), none] [] S1 d (0, 0) Q
  refine m_aload_n (pc' := 1) dX11_insert_0 rfl rfl ?_
  refine m_getR (pc' := 4) fa_X11_insert_7 dX11_insert_1 (by decide) rfl rfl rfl rfl ?_
  refine m_bipush (pc' := 6) (v := 43) dX11_insert_4 (by decide) rfl ?_
  refine m_ialdN (pc' := 7) (j := 43) (L := 408) dX11_insert_6 (by decide) rfl rfl (rfl) (by decide) (by decide) rfl ?_
  rw [show (d.1 215 43) = (nI n) from (congrFun hs 43).trans hn]
  refine m_istore (pc' := 9) dX11_insert_7 (by decide) rfl rfl ?_
  exact J (n - b) n d (by omega) (Nat.le_refl n) fr.rfl (hs.trans (shf_n s n).symm)
end MOD6
