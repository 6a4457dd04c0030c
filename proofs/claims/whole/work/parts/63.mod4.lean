/-! THE CHECK'S OWN METHODS (4): the history, lists that change -/
section MOD4
variable {G : GP} {Q : Option Value → Sh → Dt → Prop} {d : Dt} {s : SS}
set_option maxHeartbeats 4000000 in
set_option maxRecDepth 100000 in
theorem c_mact {m : Nat} {sv : SS} {sc : Nat → UInt32} {h : UInt32} (hs : d.1 215 = s) (hm5 : m ≤ 5) (h5 : d.1 214 5 = nI m) (hv : d.1 217 = sv) (hf : d.2 218 = sc) (h6 : d.2 214 6 = h) (hQ : ∀ d', fr actE actF d d' → d'.1 214 5 = nI (hm m + 1) → d'.1 217 = hsv2 m sv s → d'.2 218 = hsc2 m sc h → Q none S1 d') : mC G mX11_act [.ref 214] S1 d Q := by
  have J3 : ∀ (n0 : Nat) (m1 k : Nat) (sv1 : SS) (sc1 : Nat → UInt32) (d1 : Dt) (_ : m1 ≤ 4) (_ : ∀ d', fr actE actF d d' → d'.1 214 5 = nI (m1 + 1) → d'.1 217 = cpw s sv1 (408 * m1) 408 → d'.2 218 = (fun j => if j = m1 then h else sc1 j) → Q none S1 d') (_ : k + n0 = 408) (_ : fr actE actF d d1) (_ : d1.1 215 = s) (_ : d1.1 214 5 = nI m1) (_ : d1.1 217 = cpw s sv1 (408 * m1) k) (_ : d1.2 218 = sc1) (_ : d1.2 214 6 = h), mM G mX11_act 80 [some (.ref 214), some (.int (nI k))] [] S1 d1 (0, 0) Q := by
    intro n0
    induction n0 with
    | zero =>
      intro m1 k sv1 sc1 d1 hm4 hQ hk hd hs h5 hv hf h6
      refine m_iload_n (pc' := 81) dX11_act_80 rfl rfl ?_
      refine m_sipush (pc' := 84) (v := 408) dX11_act_81 (by decide) rfl ?_
      refine m_icmp_ge (tgt := 114) (pc' := 87) dX11_act_84 (by decide) rfl (fun h84 => ?_) (fun h84 => (h84 (nI_le (a := 408) (by omega) (by omega))).elim)
      refine m_aload_n (pc' := 115) dX11_act_114 rfl rfl ?_
      refine m_getR (pc' := 118) fa_X11_act_19 dX11_act_115 (by decide) rfl rfl rfl rfl ?_
      refine m_aload_n (pc' := 119) dX11_act_118 rfl rfl ?_
      refine m_getI (pc' := 122) fa_X11_act_33 dX11_act_119 (by decide) rfl rfl rfl ?_
      rw [show (d1.1 214 5) = (nI m1) from h5]
      refine m_aload_n (pc' := 123) dX11_act_122 rfl rfl ?_
      refine m_getF (pc' := 126) fa_X11_act_36 dX11_act_123 (by decide) rfl rfl rfl ?_
      rw [show (d1.2 214 6) = h from h6]
      refine m_fastN (pc' := 127) (j := m1) (L := 5) dX11_act_126 (by decide) rfl rfl (rfl) (by omega) (by decide) rfl ?_
      refine m_aload_n (pc' := 128) dX11_act_127 rfl rfl ?_
      refine m_dup (pc' := 129) dX11_act_128 rfl ?_
      refine m_getI (pc' := 132) fa_X11_act_33 dX11_act_129 (by decide) rfl rfl rfl ?_
      show mM G mX11_act 132 [some (.ref 214), some (.int (nI k))] [.int (d1.1 214 5), .ref 214] S1 (d1.1, u2 d1.2 218 m1 h) (0, 0) Q
      rw [show (d1.1 214 5) = (nI m1) from h5]
      refine m_iconst (pc' := 133) (v := 1) dX11_act_132 (by decide) rfl ?_
      refine m_iadd (pc' := 134) dX11_act_133 rfl ?_
      rw [show ((nI m1) + 1) = (nI (m1 + 1)) from nI_1 m1]
      refine m_putI (pc' := 137) (ty := .int) fa_X11_act_33 dX11_act_134 (by decide +kernel) rfl rfl (by decide) rfl rfl rfl ?_
      refine m_vret dX11_act_137 rfl ⟨by decide, by decide⟩ ?_
      obtain rfl : k = 408 := by omega
      refine hQ _ ((hd.f _ rfl).i _ (Or.inr ⟨rfl, rfl⟩)) (by simp only [u2_same]; try rfl) hv ?_
      funext j; show u2 d1.2 218 m1 h 218 j = _; unfold u2; rw [if_pos rfl, hf]
    | succ n0 ih =>
      intro m1 k sv1 sc1 d1 hm4 hQ hk hd hs h5 hv hf h6
      refine m_iload_n (pc' := 81) dX11_act_80 rfl rfl ?_
      refine m_sipush (pc' := 84) (v := 408) dX11_act_81 (by decide) rfl ?_
      refine m_icmp_ge (tgt := 114) (pc' := 87) dX11_act_84 (by decide) rfl (fun h84 => absurd h84 (nI_ge (b := 408) (by omega) (by omega))) (fun h84 => ?_)
      refine m_aload_n (pc' := 88) dX11_act_87 rfl rfl ?_
      refine m_getR (pc' := 91) fa_X11_act_16 dX11_act_88 (by decide) rfl rfl rfl rfl ?_
      refine m_sipush (pc' := 94) (v := 408) dX11_act_91 (by decide) rfl ?_
      refine m_aload_n (pc' := 95) dX11_act_94 rfl rfl ?_
      refine m_getI (pc' := 98) fa_X11_act_33 dX11_act_95 (by decide) rfl rfl rfl ?_
      rw [show (d1.1 214 5) = (nI m1) from h5]
      refine m_imul (pc' := 99) dX11_act_98 rfl ?_
      refine m_iload_n (pc' := 100) dX11_act_99 rfl rfl ?_
      refine m_iadd (pc' := 101) dX11_act_100 rfl ?_
      refine m_aload_n (pc' := 102) dX11_act_101 rfl rfl ?_
      refine m_getR (pc' := 105) fa_X11_act_7 dX11_act_102 (by decide) rfl rfl rfl rfl ?_
      refine m_iload_n (pc' := 106) dX11_act_105 rfl rfl ?_
      refine m_ialdN (pc' := 107) (j := k) (L := 408) dX11_act_106 (by decide) rfl rfl (rfl) (by omega) (by decide) rfl ?_
      rw [show (d1.1 215 k) = (s k) from congrFun hs k]
      refine m_iastN (pc' := 108) (j := 408 * m1 + k) (L := 2040) dX11_act_107 (by decide) rfl rfl (ix_s m1 k) (by omega) (by decide) rfl ?_
      refine m_iinc (pc' := 111) dX11_act_108 rfl (by decide) (v := nI (k + 1)) (nI_1 k) rfl rfl ?_
      refine m_goto (tgt := 80) dX11_act_111 (by decide) ?_
      exact ih m1 (k + 1) sv1 sc1 _ hm4 hQ (by omega) (hd.i _ (Or.inl rfl)) hs h5 ((u2_row hv).trans (cpw_s s sv1 (408 * m1) k)) hf h6
  have J1 : ∀ (n0 : Nat) (k : Nat) (d1 : Dt) (_ : m = 5) (_ : k + n0 = 1632) (_ : fr actE actF d d1) (_ : d1.1 215 = s) (_ : d1.1 214 5 = nI 5) (_ : d1.1 217 = cpi (fun j => sv (j + 408)) sv k) (_ : d1.2 218 = sc) (_ : d1.2 214 6 = h), mM G mX11_act 10 [some (.ref 214), some (.int (nI k))] [] S1 d1 (0, 0) Q := by
    intro n0
    induction n0 with
    | zero =>
      intro k d1 e5 hk hd is_ i5 iv if_ i6
      obtain rfl : k = 1632 := by omega
      subst e5
      refine m_iload_n (pc' := 11) dX11_act_10 rfl rfl ?_
      refine m_sipush (pc' := 14) (v := 1632) dX11_act_11 (by decide) rfl ?_
      refine m_icmp_ge (tgt := 39) (pc' := 17) dX11_act_14 (by decide) rfl (fun h14 => ?_) (fun h14 => (h14 (nI_le (a := 1632) (by omega) (by omega))).elim)
      refine m_iconst (pc' := 40) (v := 0) dX11_act_39 (by decide) rfl ?_
      refine m_istore_n (pc' := 41) dX11_act_40 (by decide) rfl rfl ?_
      refine m_iload_n (pc' := 42) dX11_act_41 rfl rfl ?_
      refine m_iconst (pc' := 43) (v := 1) dX11_act_42 (by decide) rfl ?_
      refine m_iadd (pc' := 44) dX11_act_43 rfl ?_
      show mM G mX11_act 44 [some (.ref 214), some (.int 0)] [.int 1] S1 d1 (0, 0) Q
      refine m_iconst (pc' := 45) (v := 5) dX11_act_44 (by decide) rfl ?_
      refine m_icmp_ge (tgt := 68) (pc' := 48) dX11_act_45 (by decide) rfl (fun h45 => absurd h45 (by decide)) (fun h45 => ?_)
      refine m_aload_n (pc' := 49) dX11_act_48 rfl rfl ?_
      refine m_getR (pc' := 52) fa_X11_act_19 dX11_act_49 (by decide) rfl rfl rfl rfl ?_
      refine m_iload_n (pc' := 53) dX11_act_52 rfl rfl ?_
      refine m_aload_n (pc' := 54) dX11_act_53 rfl rfl ?_
      refine m_getR (pc' := 57) fa_X11_act_19 dX11_act_54 (by decide) rfl rfl rfl rfl ?_
      refine m_iload_n (pc' := 58) dX11_act_57 rfl rfl ?_
      refine m_iconst (pc' := 59) (v := 1) dX11_act_58 (by decide) rfl ?_
      refine m_iadd (pc' := 60) dX11_act_59 rfl ?_
      show mM G mX11_act 60 [some (.ref 214), some (.int 0)] [.int 1, .ref 218, .int 0, .ref 218] S1 d1 (0, 0) Q
      refine m_faldN (pc' := 61) (j := 1) (L := 5) dX11_act_60 (by decide) rfl rfl (rfl) (by decide) (by decide) rfl ?_
      refine m_fastN (pc' := 62) (j := 0) (L := 5) dX11_act_61 (by decide) rfl rfl (rfl) (by decide) (by decide) rfl ?_
      refine m_iinc (pc' := 65) dX11_act_62 rfl (by decide) (v := 1) (by decide) rfl rfl ?_
      refine m_goto (tgt := 41) dX11_act_65 (by decide) ?_
      refine m_iload_n (pc' := 42) dX11_act_41 rfl rfl ?_
      refine m_iconst (pc' := 43) (v := 1) dX11_act_42 (by decide) rfl ?_
      refine m_iadd (pc' := 44) dX11_act_43 rfl ?_
      show mM G mX11_act 44 [some (.ref 214), some (.int 1)] [.int 2] S1 (d1.1, u2 d1.2 218 0 (d1.2 218 1)) (0, 0) Q
      refine m_iconst (pc' := 45) (v := 5) dX11_act_44 (by decide) rfl ?_
      refine m_icmp_ge (tgt := 68) (pc' := 48) dX11_act_45 (by decide) rfl (fun h45 => absurd h45 (by decide)) (fun h45 => ?_)
      refine m_aload_n (pc' := 49) dX11_act_48 rfl rfl ?_
      refine m_getR (pc' := 52) fa_X11_act_19 dX11_act_49 (by decide) rfl rfl rfl rfl ?_
      refine m_iload_n (pc' := 53) dX11_act_52 rfl rfl ?_
      refine m_aload_n (pc' := 54) dX11_act_53 rfl rfl ?_
      refine m_getR (pc' := 57) fa_X11_act_19 dX11_act_54 (by decide) rfl rfl rfl rfl ?_
      refine m_iload_n (pc' := 58) dX11_act_57 rfl rfl ?_
      refine m_iconst (pc' := 59) (v := 1) dX11_act_58 (by decide) rfl ?_
      refine m_iadd (pc' := 60) dX11_act_59 rfl ?_
      show mM G mX11_act 60 [some (.ref 214), some (.int 1)] [.int 2, .ref 218, .int 1, .ref 218] S1 (d1.1, u2 d1.2 218 0 (d1.2 218 1)) (0, 0) Q
      refine m_faldN (pc' := 61) (j := 2) (L := 5) dX11_act_60 (by decide) rfl rfl (rfl) (by decide) (by decide) rfl ?_
      show mM G mX11_act 61 [some (.ref 214), some (.int 1)] [.float (d1.2 218 2), .int 1, .ref 218] S1 (d1.1, u2 d1.2 218 0 (d1.2 218 1)) (0, 0) Q
      refine m_fastN (pc' := 62) (j := 1) (L := 5) dX11_act_61 (by decide) rfl rfl (rfl) (by decide) (by decide) rfl ?_
      refine m_iinc (pc' := 65) dX11_act_62 rfl (by decide) (v := 2) (by decide) rfl rfl ?_
      refine m_goto (tgt := 41) dX11_act_65 (by decide) ?_
      refine m_iload_n (pc' := 42) dX11_act_41 rfl rfl ?_
      refine m_iconst (pc' := 43) (v := 1) dX11_act_42 (by decide) rfl ?_
      refine m_iadd (pc' := 44) dX11_act_43 rfl ?_
      show mM G mX11_act 44 [some (.ref 214), some (.int 2)] [.int 3] S1 (d1.1, u2 (u2 d1.2 218 0 (d1.2 218 1)) 218 1 (d1.2 218 2)) (0, 0) Q
      refine m_iconst (pc' := 45) (v := 5) dX11_act_44 (by decide) rfl ?_
      refine m_icmp_ge (tgt := 68) (pc' := 48) dX11_act_45 (by decide) rfl (fun h45 => absurd h45 (by decide)) (fun h45 => ?_)
      refine m_aload_n (pc' := 49) dX11_act_48 rfl rfl ?_
      refine m_getR (pc' := 52) fa_X11_act_19 dX11_act_49 (by decide) rfl rfl rfl rfl ?_
      refine m_iload_n (pc' := 53) dX11_act_52 rfl rfl ?_
      refine m_aload_n (pc' := 54) dX11_act_53 rfl rfl ?_
      refine m_getR (pc' := 57) fa_X11_act_19 dX11_act_54 (by decide) rfl rfl rfl rfl ?_
      refine m_iload_n (pc' := 58) dX11_act_57 rfl rfl ?_
      refine m_iconst (pc' := 59) (v := 1) dX11_act_58 (by decide) rfl ?_
      refine m_iadd (pc' := 60) dX11_act_59 rfl ?_
      show mM G mX11_act 60 [some (.ref 214), some (.int 2)] [.int 3, .ref 218, .int 2, .ref 218] S1 (d1.1, u2 (u2 d1.2 218 0 (d1.2 218 1)) 218 1 (d1.2 218 2)) (0, 0) Q
      refine m_faldN (pc' := 61) (j := 3) (L := 5) dX11_act_60 (by decide) rfl rfl (rfl) (by decide) (by decide) rfl ?_
      show mM G mX11_act 61 [some (.ref 214), some (.int 2)] [.float (d1.2 218 3), .int 2, .ref 218] S1 (d1.1, u2 (u2 d1.2 218 0 (d1.2 218 1)) 218 1 (d1.2 218 2)) (0, 0) Q
      refine m_fastN (pc' := 62) (j := 2) (L := 5) dX11_act_61 (by decide) rfl rfl (rfl) (by decide) (by decide) rfl ?_
      refine m_iinc (pc' := 65) dX11_act_62 rfl (by decide) (v := 3) (by decide) rfl rfl ?_
      refine m_goto (tgt := 41) dX11_act_65 (by decide) ?_
      refine m_iload_n (pc' := 42) dX11_act_41 rfl rfl ?_
      refine m_iconst (pc' := 43) (v := 1) dX11_act_42 (by decide) rfl ?_
      refine m_iadd (pc' := 44) dX11_act_43 rfl ?_
      show mM G mX11_act 44 [some (.ref 214), some (.int 3)] [.int 4] S1 (d1.1, u2 (u2 (u2 d1.2 218 0 (d1.2 218 1)) 218 1 (d1.2 218 2)) 218 2 (d1.2 218 3)) (0, 0) Q
      refine m_iconst (pc' := 45) (v := 5) dX11_act_44 (by decide) rfl ?_
      refine m_icmp_ge (tgt := 68) (pc' := 48) dX11_act_45 (by decide) rfl (fun h45 => absurd h45 (by decide)) (fun h45 => ?_)
      refine m_aload_n (pc' := 49) dX11_act_48 rfl rfl ?_
      refine m_getR (pc' := 52) fa_X11_act_19 dX11_act_49 (by decide) rfl rfl rfl rfl ?_
      refine m_iload_n (pc' := 53) dX11_act_52 rfl rfl ?_
      refine m_aload_n (pc' := 54) dX11_act_53 rfl rfl ?_
      refine m_getR (pc' := 57) fa_X11_act_19 dX11_act_54 (by decide) rfl rfl rfl rfl ?_
      refine m_iload_n (pc' := 58) dX11_act_57 rfl rfl ?_
      refine m_iconst (pc' := 59) (v := 1) dX11_act_58 (by decide) rfl ?_
      refine m_iadd (pc' := 60) dX11_act_59 rfl ?_
      show mM G mX11_act 60 [some (.ref 214), some (.int 3)] [.int 4, .ref 218, .int 3, .ref 218] S1 (d1.1, u2 (u2 (u2 d1.2 218 0 (d1.2 218 1)) 218 1 (d1.2 218 2)) 218 2 (d1.2 218 3)) (0, 0) Q
      refine m_faldN (pc' := 61) (j := 4) (L := 5) dX11_act_60 (by decide) rfl rfl (rfl) (by decide) (by decide) rfl ?_
      show mM G mX11_act 61 [some (.ref 214), some (.int 3)] [.float (d1.2 218 4), .int 3, .ref 218] S1 (d1.1, u2 (u2 (u2 d1.2 218 0 (d1.2 218 1)) 218 1 (d1.2 218 2)) 218 2 (d1.2 218 3)) (0, 0) Q
      refine m_fastN (pc' := 62) (j := 3) (L := 5) dX11_act_61 (by decide) rfl rfl (rfl) (by decide) (by decide) rfl ?_
      refine m_iinc (pc' := 65) dX11_act_62 rfl (by decide) (v := 4) (by decide) rfl rfl ?_
      refine m_goto (tgt := 41) dX11_act_65 (by decide) ?_
      refine m_iload_n (pc' := 42) dX11_act_41 rfl rfl ?_
      refine m_iconst (pc' := 43) (v := 1) dX11_act_42 (by decide) rfl ?_
      refine m_iadd (pc' := 44) dX11_act_43 rfl ?_
      show mM G mX11_act 44 [some (.ref 214), some (.int 4)] [.int 5] S1 (d1.1, u2 (u2 (u2 (u2 d1.2 218 0 (d1.2 218 1)) 218 1 (d1.2 218 2)) 218 2 (d1.2 218 3)) 218 3 (d1.2 218 4)) (0, 0) Q
      refine m_iconst (pc' := 45) (v := 5) dX11_act_44 (by decide) rfl ?_
      refine m_icmp_ge (tgt := 68) (pc' := 48) dX11_act_45 (by decide) rfl (fun h45 => ?_) (fun h45 => absurd h45 (by decide))
      refine m_aload_n (pc' := 69) dX11_act_68 rfl rfl ?_
      refine m_dup (pc' := 70) dX11_act_69 rfl ?_
      refine m_getI (pc' := 73) fa_X11_act_33 dX11_act_70 (by decide) rfl rfl rfl ?_
      show mM G mX11_act 73 [some (.ref 214), some (.int 4)] [.int (d1.1 214 5), .ref 214] S1 (d1.1, u2 (u2 (u2 (u2 d1.2 218 0 (d1.2 218 1)) 218 1 (d1.2 218 2)) 218 2 (d1.2 218 3)) 218 3 (d1.2 218 4)) (0, 0) Q
      rw [show (d1.1 214 5) = (nI 5) from i5]
      refine m_iconst (pc' := 74) (v := 1) dX11_act_73 (by decide) rfl ?_
      refine m_isub (pc' := 75) dX11_act_74 rfl ?_
      rw [show ((nI 5) - 1) = (nI 4) from nI_pred 4]
      refine m_putI (pc' := 78) (ty := .int) fa_X11_act_33 dX11_act_75 (by decide +kernel) rfl rfl (by decide) rfl rfl rfl ?_
      refine m_iconst (pc' := 79) (v := 0) dX11_act_78 (by decide) rfl ?_
      refine m_istore_n (pc' := 80) dX11_act_79 (by decide) rfl rfl ?_
      refine J3 408 4 0 (fun j => if j < 1632 then sv (j + 408) else sv j) (fun j => if j < 4 then sc (j + 1) else sc j) _ (by decide) (fun d' e0 e1 e2 e3 => ?_) (by omega) (((((hd.f _ rfl).f _ rfl).f _ rfl).f _ rfl).i _ (Or.inr ⟨rfl, rfl⟩)) is_ (by simp only [u2_same]; try rfl) ?_ ?_ i6
      · refine hQ d' e0 (by rw [e1]; rfl) (by rw [e2]; rfl) (by rw [e3]; rfl)
      · rw [cpw_0]; exact iv
      · funext j
        rcases (show j = 0 ∨ j = 1 ∨ j = 2 ∨ j = 3 ∨ 4 ≤ j by omega) with rfl | rfl | rfl | rfl | hj
        all_goals simp only [u2]
        all_goals first | (simp [if_]; done) | (rw [if_neg (show ¬ j < 4 by omega), if_neg (show ¬ j = 3 by omega), if_neg (show ¬ j = 2 by omega), if_neg (show ¬ j = 1 by omega), if_neg (show ¬ j = 0 by omega), if_]; simp)
    | succ n0 ih =>
      intro k d1 e5 hk hd is_ i5 iv if_ i6
      refine m_iload_n (pc' := 11) dX11_act_10 rfl rfl ?_
      refine m_sipush (pc' := 14) (v := 1632) dX11_act_11 (by decide) rfl ?_
      refine m_icmp_ge (tgt := 39) (pc' := 17) dX11_act_14 (by decide) rfl (fun h14 => absurd h14 (nI_ge (b := 1632) (by omega) (by omega))) (fun h14 => ?_)
      refine m_aload_n (pc' := 18) dX11_act_17 rfl rfl ?_
      refine m_getR (pc' := 21) fa_X11_act_16 dX11_act_18 (by decide) rfl rfl rfl rfl ?_
      refine m_iload_n (pc' := 22) dX11_act_21 rfl rfl ?_
      refine m_aload_n (pc' := 23) dX11_act_22 rfl rfl ?_
      refine m_getR (pc' := 26) fa_X11_act_16 dX11_act_23 (by decide) rfl rfl rfl rfl ?_
      refine m_iload_n (pc' := 27) dX11_act_26 rfl rfl ?_
      refine m_sipush (pc' := 30) (v := 408) dX11_act_27 (by decide) rfl ?_
      refine m_iadd (pc' := 31) dX11_act_30 rfl ?_
      refine m_ialdN (pc' := 32) (j := k + 408) (L := 2040) dX11_act_31 (by decide) rfl rfl (nI_add k 408) (by omega) (by decide) rfl ?_
      rw [show (d1.1 217 (k + 408)) = (sv (k + 408)) from (congrFun iv (k + 408)).trans (cpi_ge (by omega))]
      refine m_iastN (pc' := 33) (j := k) (L := 2040) dX11_act_32 (by decide) rfl rfl (rfl) (by omega) (by decide) rfl ?_
      refine m_iinc (pc' := 36) dX11_act_33 rfl (by decide) (v := nI (k + 1)) (nI_1 k) rfl rfl ?_
      refine m_goto (tgt := 10) dX11_act_36 (by decide) ?_
      exact ih (k + 1) _ e5 (by omega) (hd.i _ (Or.inl rfl)) is_ i5 ((u2_row iv).trans (cpi_s (fun j => sv (j + 408)) sv k)) if_ i6
  refine mC_of (by decide +kernel) ⟨_, rfl⟩ (Nat.le_of_ble_eq_true rfl) ?_
  show mM G mX11_act 0 [some (.ref 214), none] [] S1 d (0, 0) Q
  refine m_aload_n (pc' := 1) dX11_act_0 rfl rfl ?_
  refine m_getI (pc' := 4) fa_X11_act_33 dX11_act_1 (by decide) rfl rfl rfl ?_
  rw [show (d.1 214 5) = (nI m) from h5]
  refine m_iconst (pc' := 5) (v := 5) dX11_act_4 (by decide) rfl ?_
  refine m_icmp_ne (tgt := 78) (pc' := 8) dX11_act_5 (by decide) rfl (fun h5e => ?_) (fun h5e => ?_)
  · skip
    refine m_iconst (pc' := 79) (v := 0) dX11_act_78 (by decide) rfl ?_
    refine m_istore_n (pc' := 80) dX11_act_79 (by decide) rfl rfl ?_
    have hm5 : m ≠ 5 := ne_nI (k := 5) h5e
    refine J3 408 m 0 sv sc d (by omega) (fun d' e0 e1 e2 e3 => hQ d' e0 (by rw [e1]; unfold hm; rw [if_neg hm5]) (by rw [e2]; unfold hsv2 hsv hm; rw [if_neg hm5, if_neg hm5]) (by rw [e3]; unfold hsc2 hsc hm; rw [if_neg hm5, if_neg hm5])) (by omega) fr.rfl hs h5 (hv.trans (cpw_0 s sv _).symm) hf h6
  · skip
    refine m_iconst (pc' := 9) (v := 0) dX11_act_8 (by decide) rfl ?_
    refine m_istore_n (pc' := 10) dX11_act_9 (by decide) rfl rfl ?_
    exact J1 1632 0 d ((nI_eq (b := 5) (by omega) (by decide)).mp h5e) (by omega) fr.rfl hs (h5.trans h5e) (hv.trans (cpi_0 _ sv).symm) hf h6
end MOD4
