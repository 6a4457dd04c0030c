/-! THE CHECK'S OWN CALLS (8): what is read from the text -/
section MOD12
variable {G : GP} {Q : Option Value → Sh → Dt → Prop} {d : Dt} {t s : SS} {n p : Nat}
set_option maxHeartbeats 4000000 in
set_option maxRecDepth 100000 in
theorem c_mhere {P : Nat} (hT : TX t n p s d) (hp : p ≤ n) (hn : n ≤ 140) (hP : skp t n p = P) (hQ : ∀ d', fr ldE nE d d' → TX t n P s d' → Q (some (.int (sgn t n P))) S1 d') : mC G mX11_here [.ref 214] S1 d Q := by
  have J : ∀ (n0 : Nat) (p : Nat) (d1 : Dt) (_ : p + n0 = n) (_ : fr ldE nE d d1) (_ : TX t n p s d1) (_ : skp t n p = P), mM G mX11_here 0 [some (.ref 214)] [] S1 d1 (0, 0) Q := by
    intro n0
    induction n0 with
    | zero =>
      intro p d1 hk hd hT hP
      refine m_aload_n (pc' := 1) dX11_here_0 rfl rfl ?_
      refine m_getI (pc' := 4) fa_X11_here_150 dX11_here_1 (by decide) rfl rfl rfl ?_
      rw [show (d1.1 214 15) = (nI p) from hT.2.2.1]
      refine m_aload_n (pc' := 5) dX11_here_4 rfl rfl ?_
      refine m_getI (pc' := 8) fa_X11_here_147 dX11_here_5 (by decide) rfl rfl rfl ?_
      rw [show (d1.1 214 8) = (nI n) from hT.2.1]
      refine m_icmp_ge (tgt := 38) (pc' := 11) dX11_here_8 (by decide) rfl (fun h8 => ?_) (fun h8 => (h8 (nI_le (by omega) (by omega))).elim)
      refine m_aload_n (pc' := 39) dX11_here_38 rfl rfl ?_
      refine m_getI (pc' := 42) fa_X11_here_150 dX11_here_39 (by decide) rfl rfl rfl ?_
      rw [show (d1.1 214 15) = (nI p) from hT.2.2.1]
      refine m_aload_n (pc' := 43) dX11_here_42 rfl rfl ?_
      refine m_getI (pc' := 46) fa_X11_here_147 dX11_here_43 (by decide) rfl rfl rfl ?_
      rw [show (d1.1 214 8) = (nI n) from hT.2.1]
      refine m_icmp_ge (tgt := 61) (pc' := 49) dX11_here_46 (by decide) rfl (fun h46 => ?_) (fun h46 => (h46 (nI_le (by omega) (by omega))).elim)
      refine m_iconst (pc' := 62) (v := (-1)) dX11_here_61 (by decide) rfl ?_
      refine m_iret dX11_here_62 rfl rfl ⟨by decide, by decide⟩ ?_
      have eP : P = p := hP.symm.trans (skp_n (by omega))
      subst eP
      exact q_i (hQ d1 hd hT) (by unfold sgn; rw [if_neg (by omega)])
    | succ n0 ih =>
      intro p d1 hk hd hT hP
      refine m_aload_n (pc' := 1) dX11_here_0 rfl rfl ?_
      refine m_getI (pc' := 4) fa_X11_here_150 dX11_here_1 (by decide) rfl rfl rfl ?_
      rw [show (d1.1 214 15) = (nI p) from hT.2.2.1]
      refine m_aload_n (pc' := 5) dX11_here_4 rfl rfl ?_
      refine m_getI (pc' := 8) fa_X11_here_147 dX11_here_5 (by decide) rfl rfl rfl ?_
      rw [show (d1.1 214 8) = (nI n) from hT.2.1]
      refine m_icmp_ge (tgt := 38) (pc' := 11) dX11_here_8 (by decide) rfl (fun h8 => absurd h8 (nI_ge (by omega) (by omega))) (fun h8 => ?_)
      refine m_aload_n (pc' := 12) dX11_here_11 rfl rfl ?_
      refine m_getR (pc' := 15) fa_X11_here_23 dX11_here_12 (by decide) rfl rfl rfl rfl ?_
      refine m_aload_n (pc' := 16) dX11_here_15 rfl rfl ?_
      refine m_getI (pc' := 19) fa_X11_here_150 dX11_here_16 (by decide) rfl rfl rfl ?_
      rw [show (d1.1 214 15) = (nI p) from hT.2.2.1]
      refine m_ialdN (pc' := 20) (j := p) (L := 140) dX11_here_19 (by decide) rfl rfl (rfl) (by omega) (by decide) rfl ?_
      rw [show (d1.1 219 p) = (t p) from congrFun hT.1 p]
      refine m_bipush (pc' := 22) (v := 32) dX11_here_20 (by decide) rfl ?_
      refine m_icmp_ne (tgt := 38) (pc' := 25) dX11_here_22 (by decide) rfl (fun h22 => ?_) (fun h22 => ?_)
      · skip
        refine m_aload_n (pc' := 39) dX11_here_38 rfl rfl ?_
        refine m_getI (pc' := 42) fa_X11_here_150 dX11_here_39 (by decide) rfl rfl rfl ?_
        rw [show (d1.1 214 15) = (nI p) from hT.2.2.1]
        refine m_aload_n (pc' := 43) dX11_here_42 rfl rfl ?_
        refine m_getI (pc' := 46) fa_X11_here_147 dX11_here_43 (by decide) rfl rfl rfl ?_
        rw [show (d1.1 214 8) = (nI n) from hT.2.1]
        refine m_icmp_ge (tgt := 61) (pc' := 49) dX11_here_46 (by decide) rfl (fun h46 => absurd h46 (nI_ge (by omega) (by omega))) (fun h46 => ?_)
        refine m_aload_n (pc' := 50) dX11_here_49 rfl rfl ?_
        refine m_getR (pc' := 53) fa_X11_here_23 dX11_here_50 (by decide) rfl rfl rfl rfl ?_
        refine m_aload_n (pc' := 54) dX11_here_53 rfl rfl ?_
        refine m_getI (pc' := 57) fa_X11_here_150 dX11_here_54 (by decide) rfl rfl rfl ?_
        rw [show (d1.1 214 15) = (nI p) from hT.2.2.1]
        refine m_ialdN (pc' := 58) (j := p) (L := 140) dX11_here_57 (by decide) rfl rfl (rfl) (by omega) (by decide) rfl ?_
        rw [show (d1.1 219 p) = (t p) from congrFun hT.1 p]
        refine m_goto (tgt := 62) dX11_here_58 (by decide) ?_
        refine m_iret dX11_here_62 rfl rfl ⟨by decide, by decide⟩ ?_
        have eP : P = p := hP.symm.trans (skp_n (fun h => h22 h.2))
        subst eP
        exact q_i (hQ d1 hd hT) (by unfold sgn; rw [if_pos (by omega)])
      · skip
        refine m_aload_n (pc' := 26) dX11_here_25 rfl rfl ?_
        refine m_dup (pc' := 27) dX11_here_26 rfl ?_
        refine m_getI (pc' := 30) fa_X11_here_150 dX11_here_27 (by decide) rfl rfl rfl ?_
        rw [show (d1.1 214 15) = (nI p) from hT.2.2.1]
        refine m_iconst (pc' := 31) (v := 1) dX11_here_30 (by decide) rfl ?_
        refine m_iadd (pc' := 32) dX11_here_31 rfl ?_
        rw [show ((nI p) + 1) = (nI (p + 1)) from nI_1 p]
        refine m_putI (pc' := 35) (ty := .int) fa_X11_here_150 dX11_here_32 (by decide +kernel) rfl rfl (by decide) rfl rfl rfl ?_
        refine m_goto (tgt := 0) dX11_here_35 (by decide) ?_
        exact ih (p + 1) _ (by omega) (hd.i _ (Or.inr ⟨rfl, Or.inl rfl⟩)) (hT.nx rfl) ((skp_s (by omega) h22).symm.trans hP)
  refine mC_of (by decide +kernel) ⟨_, rfl⟩ (Nat.le_of_ble_eq_true rfl) ?_
  show mM G mX11_here 0 [some (.ref 214)] [] S1 d (0, 0) Q
  exact J (n - p) p d (by omega) fr.rfl hT hP
set_option maxHeartbeats 4000000 in
set_option maxRecDepth 100000 in
theorem c_mtakes {c : Int32} (hT : TX t n p s d) (hp : p ≤ n) (hn : n ≤ 140) (hQ : ∀ d', fr ldE nE d d' → TX t n (tkp t n c p) s d' → Q (some (.int (tkv t n c p))) S1 d') : mC G mX11_takes [.ref 214, .int c] S1 d Q := by
  refine mC_of (by decide +kernel) ⟨_, rfl⟩ (Nat.le_of_ble_eq_true rfl) ?_
  show mM G mX11_takes 0 [some (.ref 214), some (.int c), none] [] S1 d (0, 0) Q
  refine m_aload_n (pc' := 1) dX11_takes_0 rfl rfl ?_
  refine m_callV (pc' := 4) (A := []) (rest := []) (b := 214) cl_X11_takes_153 dX11_takes_1 rfl rfl (Nat.le_of_ble_eq_true rfl) ⟨by decide, by decide⟩ (by decide) rfl rfl rfl rfl ?_
  refine c_mhere (p := p) (P := skp t n p) (t := t) (n := n) hT hp hn rfl (fun e e0 eT => ?_)
  show mM G mX11_takes 4 [some (.ref 214), some (.int c), none] [.int (sgn t n (skp t n p))] S1 e (0, 0) Q
  refine m_iload_n (pc' := 5) dX11_takes_4 rfl rfl ?_
  refine m_icmp_ne (tgt := 12) (pc' := 8) dX11_takes_5 (by decide) rfl (fun h5 => ?_) (fun h5 => ?_)
  · skip
    refine m_iconst (pc' := 13) (v := 0) dX11_takes_12 (by decide) rfl ?_
    refine m_istore_n (pc' := 14) dX11_takes_13 (by decide) rfl rfl ?_
    refine m_aload_n (pc' := 15) dX11_takes_14 rfl rfl ?_
    refine m_dup (pc' := 16) dX11_takes_15 rfl ?_
    refine m_getI (pc' := 19) fa_X11_takes_150 dX11_takes_16 (by decide) rfl rfl rfl ?_
    rw [show (e.1 214 15) = (nI (skp t n p)) from eT.2.2.1]
    refine m_iload_n (pc' := 20) dX11_takes_19 rfl rfl ?_
    refine m_if_eq (tgt := 27) (pc' := 23) dX11_takes_20 (by decide) rfl (fun h20 => ?_) (fun h20 => absurd h20 (by decide))
    refine m_iconst (pc' := 28) (v := 0) dX11_takes_27 (by decide) rfl ?_
    refine m_iadd (pc' := 29) dX11_takes_28 rfl ?_
    refine m_putI (pc' := 32) (ty := .int) fa_X11_takes_150 dX11_takes_29 (by decide +kernel) rfl rfl (by decide) rfl rfl rfl ?_
    refine m_iload_n (pc' := 33) dX11_takes_32 rfl rfl ?_
    refine m_iret dX11_takes_33 rfl (by decide) ⟨by decide, by decide⟩ ?_
    have hk : ¬ tkk t n c p := h5
    exact q_i (hQ _ (e0.i _ (Or.inr ⟨rfl, Or.inl rfl⟩)) (eT.nx (by unfold tkp; rw [if_neg hk]; exact Int32.add_zero _))) (by unfold tkv; rw [if_neg hk])
  · skip
    refine m_iconst (pc' := 9) (v := 1) dX11_takes_8 (by decide) rfl ?_
    refine m_goto (tgt := 13) dX11_takes_9 (by decide) ?_
    refine m_istore_n (pc' := 14) dX11_takes_13 (by decide) rfl rfl ?_
    refine m_aload_n (pc' := 15) dX11_takes_14 rfl rfl ?_
    refine m_dup (pc' := 16) dX11_takes_15 rfl ?_
    refine m_getI (pc' := 19) fa_X11_takes_150 dX11_takes_16 (by decide) rfl rfl rfl ?_
    rw [show (e.1 214 15) = (nI (skp t n p)) from eT.2.2.1]
    refine m_iload_n (pc' := 20) dX11_takes_19 rfl rfl ?_
    refine m_if_eq (tgt := 27) (pc' := 23) dX11_takes_20 (by decide) rfl (fun h20 => absurd h20 (by decide)) (fun h20 => ?_)
    refine m_iconst (pc' := 24) (v := 1) dX11_takes_23 (by decide) rfl ?_
    refine m_goto (tgt := 28) dX11_takes_24 (by decide) ?_
    refine m_iadd (pc' := 29) dX11_takes_28 rfl ?_
    refine m_putI (pc' := 32) (ty := .int) fa_X11_takes_150 dX11_takes_29 (by decide +kernel) rfl rfl (by decide) rfl rfl rfl ?_
    refine m_iload_n (pc' := 33) dX11_takes_32 rfl rfl ?_
    refine m_iret dX11_takes_33 rfl (by decide) ⟨by decide, by decide⟩ ?_
    have hk : tkk t n c p := h5
    exact q_i (hQ _ (e0.i _ (Or.inr ⟨rfl, Or.inl rfl⟩)) (eT.nx (by unfold tkp; rw [if_pos hk]; exact nI_1 _))) (by unfold tkv; rw [if_pos hk])
set_option maxHeartbeats 4000000 in
set_option maxRecDepth 100000 in
theorem c_mreads {lo hi : Int32} (hT : TX t n p s d) (hp : p ≤ n) (hn : n ≤ 140) (hQ : ∀ d', fr ldE nE d d' → TX t n (rdp t n lo hi p) s d' → d'.1 214 16 = rdv t n p → Q (some (.int (rdr t n lo hi p))) S1 d') : mC G mX11_reads [.ref 214, .int lo, .int hi] S1 d Q := by
  have hq := skp_le' (t := t) hp
  have hE := dgt_le (t := t) (n := n) (n - (skp t n p)) (skp t n p) 0 (by omega)
  have J89 : ∀ (d1 : Dt) (_ : fr ldE nE d d1) (_ : TX t n (dgt t n (skp t n p) 0).1 s d1), mM G mX11_reads 89 [some (.ref 214), some (.int lo), some (.int hi), some (.int (sgn t n (skp t n p))), some (.int (nI (skp t n p))), some (.int ((dgt t n (skp t n p) 0).2)), none] [] S1 d1 (0, 0) Q := by
    intro d1 hd hT
    refine m_aload_n (pc' := 90) dX11_reads_89 rfl rfl ?_
    refine m_getI (pc' := 93) fa_X11_reads_150 dX11_reads_90 (by decide) rfl rfl rfl ?_
    rw [show (d1.1 214 15) = (nI (dgt t n (skp t n p) 0).1) from hT.2.2.1]
    refine m_iload (pc' := 95) dX11_reads_93 rfl rfl ?_
    refine m_icmp_le (tgt := 129) (pc' := 98) dX11_reads_95 (by decide) rfl (fun h95 => ?_) (fun h95 => ?_)
    · skip
      refine m_iconst (pc' := 130) (v := 0) dX11_reads_129 (by decide) rfl ?_
      refine m_istore (pc' := 132) dX11_reads_130 (by decide) rfl rfl ?_
      refine m_aload_n (pc' := 133) dX11_reads_132 rfl rfl ?_
      refine m_iload (pc' := 135) dX11_reads_133 rfl rfl ?_
      refine m_if_eq (tgt := 145) (pc' := 138) dX11_reads_135 (by decide) rfl (fun h135 => ?_) (fun h135 => absurd h135 (by decide))
      refine m_iload (pc' := 147) dX11_reads_145 rfl rfl ?_
      refine m_putI (pc' := 150) (ty := .int) fa_X11_reads_150 dX11_reads_147 (by decide +kernel) rfl rfl (by decide) rfl rfl rfl ?_
      refine m_aload_n (pc' := 151) dX11_reads_150 rfl rfl ?_
      refine m_iload (pc' := 153) dX11_reads_151 rfl rfl ?_
      refine m_putI (pc' := 156) (ty := .int) fa_X11_reads_157 dX11_reads_153 (by decide +kernel) rfl rfl (by decide) rfl rfl rfl ?_
      refine m_iload (pc' := 158) dX11_reads_156 rfl rfl ?_
      refine m_iret dX11_reads_158 rfl (by decide) ⟨by decide, by decide⟩ ?_
      have hk : ¬ rdok t n lo hi (skp t n p) := fun h => absurd ((nI_leI (by omega) (by omega)).mp h95) (Nat.not_le.mpr h.1)
      exact q_i (hQ _ ((hd.i _ (Or.inr ⟨rfl, Or.inl rfl⟩)).i _ (Or.inr ⟨rfl, Or.inr rfl⟩)) ((hT.nx (by unfold rdp; rw [if_neg hk])).nu _) (u2_same (m := u2 d1.1 214 15 (nI (skp t n p))) (k := 214) (j := 16) (x := (dgt t n (skp t n p) 0).2))) (by unfold rdr; rw [if_neg hk])
    · skip
      refine m_iload_n (pc' := 99) dX11_reads_98 rfl rfl ?_
      refine m_bipush (pc' := 101) (v := 48) dX11_reads_99 (by decide) rfl ?_
      refine m_icmp_ne (tgt := 115) (pc' := 104) dX11_reads_101 (by decide) rfl (fun h101 => ?_) (fun h101 => ?_)
      · skip
        refine m_iload (pc' := 117) dX11_reads_115 rfl rfl ?_
        refine m_iload_n (pc' := 118) dX11_reads_117 rfl rfl ?_
        refine m_iload_n (pc' := 119) dX11_reads_118 rfl rfl ?_
        refine m_callS (pc' := 122) (A := [.int ((dgt t n (skp t n p) 0).2), .int lo, .int hi]) (rest := []) cl_X11_reads_40 dX11_reads_119 rfl rfl (Nat.le_of_ble_eq_true rfl) ⟨by decide, by decide⟩ rfl rfl ?_
        refine c_in ?_
        show mM G mX11_reads 122 [some (.ref 214), some (.int lo), some (.int hi), some (.int (sgn t n (skp t n p))), some (.int (nI (skp t n p))), some (.int ((dgt t n (skp t n p) 0).2)), none] [.int (bin ((dgt t n (skp t n p) 0).2) lo hi)] S1 d1 (0, 0) Q
        refine m_if_eq (tgt := 129) (pc' := 125) dX11_reads_122 (by decide) rfl (fun h122 => ?_) (fun h122 => ?_)
        · skip
          refine m_iconst (pc' := 130) (v := 0) dX11_reads_129 (by decide) rfl ?_
          refine m_istore (pc' := 132) dX11_reads_130 (by decide) rfl rfl ?_
          refine m_aload_n (pc' := 133) dX11_reads_132 rfl rfl ?_
          refine m_iload (pc' := 135) dX11_reads_133 rfl rfl ?_
          refine m_if_eq (tgt := 145) (pc' := 138) dX11_reads_135 (by decide) rfl (fun h135 => ?_) (fun h135 => absurd h135 (by decide))
          refine m_iload (pc' := 147) dX11_reads_145 rfl rfl ?_
          refine m_putI (pc' := 150) (ty := .int) fa_X11_reads_150 dX11_reads_147 (by decide +kernel) rfl rfl (by decide) rfl rfl rfl ?_
          refine m_aload_n (pc' := 151) dX11_reads_150 rfl rfl ?_
          refine m_iload (pc' := 153) dX11_reads_151 rfl rfl ?_
          refine m_putI (pc' := 156) (ty := .int) fa_X11_reads_157 dX11_reads_153 (by decide +kernel) rfl rfl (by decide) rfl rfl rfl ?_
          refine m_iload (pc' := 158) dX11_reads_156 rfl rfl ?_
          refine m_iret dX11_reads_158 rfl (by decide) ⟨by decide, by decide⟩ ?_
          have hk : ¬ rdok t n lo hi (skp t n p) := fun h => h.2.2 h122
          exact q_i (hQ _ ((hd.i _ (Or.inr ⟨rfl, Or.inl rfl⟩)).i _ (Or.inr ⟨rfl, Or.inr rfl⟩)) ((hT.nx (by unfold rdp; rw [if_neg hk])).nu _) (u2_same (m := u2 d1.1 214 15 (nI (skp t n p))) (k := 214) (j := 16) (x := (dgt t n (skp t n p) 0).2))) (by unfold rdr; rw [if_neg hk])
        · skip
          refine m_iconst (pc' := 126) (v := 1) dX11_reads_125 (by decide) rfl ?_
          refine m_goto (tgt := 130) dX11_reads_126 (by decide) ?_
          refine m_istore (pc' := 132) dX11_reads_130 (by decide) rfl rfl ?_
          refine m_aload_n (pc' := 133) dX11_reads_132 rfl rfl ?_
          refine m_iload (pc' := 135) dX11_reads_133 rfl rfl ?_
          refine m_if_eq (tgt := 145) (pc' := 138) dX11_reads_135 (by decide) rfl (fun h135 => absurd h135 (by decide)) (fun h135 => ?_)
          refine m_aload_n (pc' := 139) dX11_reads_138 rfl rfl ?_
          refine m_getI (pc' := 142) fa_X11_reads_150 dX11_reads_139 (by decide) rfl rfl rfl ?_
          rw [show (d1.1 214 15) = (nI (dgt t n (skp t n p) 0).1) from hT.2.2.1]
          refine m_goto (tgt := 147) dX11_reads_142 (by decide) ?_
          refine m_putI (pc' := 150) (ty := .int) fa_X11_reads_150 dX11_reads_147 (by decide +kernel) rfl rfl (by decide) rfl rfl rfl ?_
          refine m_aload_n (pc' := 151) dX11_reads_150 rfl rfl ?_
          refine m_iload (pc' := 153) dX11_reads_151 rfl rfl ?_
          refine m_putI (pc' := 156) (ty := .int) fa_X11_reads_157 dX11_reads_153 (by decide +kernel) rfl rfl (by decide) rfl rfl rfl ?_
          refine m_iload (pc' := 158) dX11_reads_156 rfl rfl ?_
          refine m_iret dX11_reads_158 rfl (by decide) ⟨by decide, by decide⟩ ?_
          have hk : rdok t n lo hi (skp t n p) := ⟨Nat.not_le.mp (fun h => h95 (nI_le h (by omega))), (fun h => absurd h h101), h122⟩
          exact q_i (hQ _ ((hd.i _ (Or.inr ⟨rfl, Or.inl rfl⟩)).i _ (Or.inr ⟨rfl, Or.inr rfl⟩)) ((hT.nx (by unfold rdp; rw [if_pos hk])).nu _) (u2_same (m := u2 d1.1 214 15 (nI (dgt t n (skp t n p) 0).1)) (k := 214) (j := 16) (x := (dgt t n (skp t n p) 0).2))) (by unfold rdr; rw [if_pos hk])
      · skip
        refine m_aload_n (pc' := 105) dX11_reads_104 rfl rfl ?_
        refine m_getI (pc' := 108) fa_X11_reads_150 dX11_reads_105 (by decide) rfl rfl rfl ?_
        rw [show (d1.1 214 15) = (nI (dgt t n (skp t n p) 0).1) from hT.2.2.1]
        refine m_iload (pc' := 110) dX11_reads_108 rfl rfl ?_
        refine m_iconst (pc' := 111) (v := 1) dX11_reads_110 (by decide) rfl ?_
        refine m_iadd (pc' := 112) dX11_reads_111 rfl ?_
        rw [show ((nI (skp t n p)) + 1) = (nI ((skp t n p) + 1)) from nI_1 _]
        refine m_icmp_ne (tgt := 129) (pc' := 115) dX11_reads_112 (by decide) rfl (fun h112 => ?_) (fun h112 => ?_)
        · skip
          refine m_iconst (pc' := 130) (v := 0) dX11_reads_129 (by decide) rfl ?_
          refine m_istore (pc' := 132) dX11_reads_130 (by decide) rfl rfl ?_
          refine m_aload_n (pc' := 133) dX11_reads_132 rfl rfl ?_
          refine m_iload (pc' := 135) dX11_reads_133 rfl rfl ?_
          refine m_if_eq (tgt := 145) (pc' := 138) dX11_reads_135 (by decide) rfl (fun h135 => ?_) (fun h135 => absurd h135 (by decide))
          refine m_iload (pc' := 147) dX11_reads_145 rfl rfl ?_
          refine m_putI (pc' := 150) (ty := .int) fa_X11_reads_150 dX11_reads_147 (by decide +kernel) rfl rfl (by decide) rfl rfl rfl ?_
          refine m_aload_n (pc' := 151) dX11_reads_150 rfl rfl ?_
          refine m_iload (pc' := 153) dX11_reads_151 rfl rfl ?_
          refine m_putI (pc' := 156) (ty := .int) fa_X11_reads_157 dX11_reads_153 (by decide +kernel) rfl rfl (by decide) rfl rfl rfl ?_
          refine m_iload (pc' := 158) dX11_reads_156 rfl rfl ?_
          refine m_iret dX11_reads_158 rfl (by decide) ⟨by decide, by decide⟩ ?_
          have hk : ¬ rdok t n lo hi (skp t n p) := fun h => h112 (congrArg nI (h.2.1 h101))
          exact q_i (hQ _ ((hd.i _ (Or.inr ⟨rfl, Or.inl rfl⟩)).i _ (Or.inr ⟨rfl, Or.inr rfl⟩)) ((hT.nx (by unfold rdp; rw [if_neg hk])).nu _) (u2_same (m := u2 d1.1 214 15 (nI (skp t n p))) (k := 214) (j := 16) (x := (dgt t n (skp t n p) 0).2))) (by unfold rdr; rw [if_neg hk])
        · skip
          refine m_iload (pc' := 117) dX11_reads_115 rfl rfl ?_
          refine m_iload_n (pc' := 118) dX11_reads_117 rfl rfl ?_
          refine m_iload_n (pc' := 119) dX11_reads_118 rfl rfl ?_
          refine m_callS (pc' := 122) (A := [.int ((dgt t n (skp t n p) 0).2), .int lo, .int hi]) (rest := []) cl_X11_reads_40 dX11_reads_119 rfl rfl (Nat.le_of_ble_eq_true rfl) ⟨by decide, by decide⟩ rfl rfl ?_
          refine c_in ?_
          show mM G mX11_reads 122 [some (.ref 214), some (.int lo), some (.int hi), some (.int (sgn t n (skp t n p))), some (.int (nI (skp t n p))), some (.int ((dgt t n (skp t n p) 0).2)), none] [.int (bin ((dgt t n (skp t n p) 0).2) lo hi)] S1 d1 (0, 0) Q
          refine m_if_eq (tgt := 129) (pc' := 125) dX11_reads_122 (by decide) rfl (fun h122 => ?_) (fun h122 => ?_)
          · skip
            refine m_iconst (pc' := 130) (v := 0) dX11_reads_129 (by decide) rfl ?_
            refine m_istore (pc' := 132) dX11_reads_130 (by decide) rfl rfl ?_
            refine m_aload_n (pc' := 133) dX11_reads_132 rfl rfl ?_
            refine m_iload (pc' := 135) dX11_reads_133 rfl rfl ?_
            refine m_if_eq (tgt := 145) (pc' := 138) dX11_reads_135 (by decide) rfl (fun h135 => ?_) (fun h135 => absurd h135 (by decide))
            refine m_iload (pc' := 147) dX11_reads_145 rfl rfl ?_
            refine m_putI (pc' := 150) (ty := .int) fa_X11_reads_150 dX11_reads_147 (by decide +kernel) rfl rfl (by decide) rfl rfl rfl ?_
            refine m_aload_n (pc' := 151) dX11_reads_150 rfl rfl ?_
            refine m_iload (pc' := 153) dX11_reads_151 rfl rfl ?_
            refine m_putI (pc' := 156) (ty := .int) fa_X11_reads_157 dX11_reads_153 (by decide +kernel) rfl rfl (by decide) rfl rfl rfl ?_
            refine m_iload (pc' := 158) dX11_reads_156 rfl rfl ?_
            refine m_iret dX11_reads_158 rfl (by decide) ⟨by decide, by decide⟩ ?_
            have hk : ¬ rdok t n lo hi (skp t n p) := fun h => h.2.2 h122
            exact q_i (hQ _ ((hd.i _ (Or.inr ⟨rfl, Or.inl rfl⟩)).i _ (Or.inr ⟨rfl, Or.inr rfl⟩)) ((hT.nx (by unfold rdp; rw [if_neg hk])).nu _) (u2_same (m := u2 d1.1 214 15 (nI (skp t n p))) (k := 214) (j := 16) (x := (dgt t n (skp t n p) 0).2))) (by unfold rdr; rw [if_neg hk])
          · skip
            refine m_iconst (pc' := 126) (v := 1) dX11_reads_125 (by decide) rfl ?_
            refine m_goto (tgt := 130) dX11_reads_126 (by decide) ?_
            refine m_istore (pc' := 132) dX11_reads_130 (by decide) rfl rfl ?_
            refine m_aload_n (pc' := 133) dX11_reads_132 rfl rfl ?_
            refine m_iload (pc' := 135) dX11_reads_133 rfl rfl ?_
            refine m_if_eq (tgt := 145) (pc' := 138) dX11_reads_135 (by decide) rfl (fun h135 => absurd h135 (by decide)) (fun h135 => ?_)
            refine m_aload_n (pc' := 139) dX11_reads_138 rfl rfl ?_
            refine m_getI (pc' := 142) fa_X11_reads_150 dX11_reads_139 (by decide) rfl rfl rfl ?_
            rw [show (d1.1 214 15) = (nI (dgt t n (skp t n p) 0).1) from hT.2.2.1]
            refine m_goto (tgt := 147) dX11_reads_142 (by decide) ?_
            refine m_putI (pc' := 150) (ty := .int) fa_X11_reads_150 dX11_reads_147 (by decide +kernel) rfl rfl (by decide) rfl rfl rfl ?_
            refine m_aload_n (pc' := 151) dX11_reads_150 rfl rfl ?_
            refine m_iload (pc' := 153) dX11_reads_151 rfl rfl ?_
            refine m_putI (pc' := 156) (ty := .int) fa_X11_reads_157 dX11_reads_153 (by decide +kernel) rfl rfl (by decide) rfl rfl rfl ?_
            refine m_iload (pc' := 158) dX11_reads_156 rfl rfl ?_
            refine m_iret dX11_reads_158 rfl (by decide) ⟨by decide, by decide⟩ ?_
            have hk : rdok t n lo hi (skp t n p) := ⟨Nat.not_le.mp (fun h => h95 (nI_le h (by omega))), (fun _ => (nI_eq (by omega) (by omega)).mp h112), h122⟩
            exact q_i (hQ _ ((hd.i _ (Or.inr ⟨rfl, Or.inl rfl⟩)).i _ (Or.inr ⟨rfl, Or.inr rfl⟩)) ((hT.nx (by unfold rdp; rw [if_pos hk])).nu _) (u2_same (m := u2 d1.1 214 15 (nI (dgt t n (skp t n p) 0).1)) (k := 214) (j := 16) (x := (dgt t n (skp t n p) 0).2))) (by unfold rdr; rw [if_pos hk])
  have J14 : ∀ (n0 : Nat) (x : Nat) (v : Int32) (d1 : Dt) (_ : x + n0 = n) (_ : fr ldE nE d d1) (_ : TX t n x s d1) (_ : dgt t n x v = dgt t n (skp t n p) 0), mM G mX11_reads 14 [some (.ref 214), some (.int lo), some (.int hi), some (.int (sgn t n (skp t n p))), some (.int (nI (skp t n p))), some (.int v), none] [] S1 d1 (0, 0) Q := by
    intro n0
    induction n0 with
    | zero =>
      intro x v d1 hk hd hT hD
      refine m_aload_n (pc' := 15) dX11_reads_14 rfl rfl ?_
      refine m_getI (pc' := 18) fa_X11_reads_150 dX11_reads_15 (by decide) rfl rfl rfl ?_
      rw [show (d1.1 214 15) = (nI x) from hT.2.2.1]
      refine m_aload_n (pc' := 19) dX11_reads_18 rfl rfl ?_
      refine m_getI (pc' := 22) fa_X11_reads_147 dX11_reads_19 (by decide) rfl rfl rfl ?_
      rw [show (d1.1 214 8) = (nI n) from hT.2.1]
      refine m_icmp_ge (tgt := 89) (pc' := 25) dX11_reads_22 (by decide) rfl (fun h22 => ?_) (fun h22 => (h22 (nI_le (by omega) (by omega))).elim)
      have eD := hD.symm.trans (dgt_n (fun h => by omega))
      have e1 := congrArg Prod.fst eD
      have e2 := congrArg Prod.snd eD
      have e9 := J89 d1 hd (by rw [e1]; exact hT)
      rw [e2] at e9
      exact e9
    | succ n0 ih =>
      intro x v d1 hk hd hT hD
      refine m_aload_n (pc' := 15) dX11_reads_14 rfl rfl ?_
      refine m_getI (pc' := 18) fa_X11_reads_150 dX11_reads_15 (by decide) rfl rfl rfl ?_
      rw [show (d1.1 214 15) = (nI x) from hT.2.2.1]
      refine m_aload_n (pc' := 19) dX11_reads_18 rfl rfl ?_
      refine m_getI (pc' := 22) fa_X11_reads_147 dX11_reads_19 (by decide) rfl rfl rfl ?_
      rw [show (d1.1 214 8) = (nI n) from hT.2.1]
      refine m_icmp_ge (tgt := 89) (pc' := 25) dX11_reads_22 (by decide) rfl (fun h22 => absurd h22 (nI_ge (by omega) (by omega))) (fun h22 => ?_)
      refine m_aload_n (pc' := 26) dX11_reads_25 rfl rfl ?_
      refine m_getR (pc' := 29) fa_X11_reads_23 dX11_reads_26 (by decide) rfl rfl rfl rfl ?_
      refine m_aload_n (pc' := 30) dX11_reads_29 rfl rfl ?_
      refine m_getI (pc' := 33) fa_X11_reads_150 dX11_reads_30 (by decide) rfl rfl rfl ?_
      rw [show (d1.1 214 15) = (nI x) from hT.2.2.1]
      refine m_ialdN (pc' := 34) (j := x) (L := 140) dX11_reads_33 (by decide) rfl rfl (rfl) (by omega) (by decide) rfl ?_
      rw [show (d1.1 219 x) = (t x) from congrFun hT.1 x]
      refine m_bipush (pc' := 36) (v := 48) dX11_reads_34 (by decide) rfl ?_
      refine m_bipush (pc' := 38) (v := 57) dX11_reads_36 (by decide) rfl ?_
      refine m_callS (pc' := 41) (A := [.int (t x), .int 48, .int 57]) (rest := []) cl_X11_reads_40 dX11_reads_38 rfl rfl (Nat.le_of_ble_eq_true rfl) ⟨by decide, by decide⟩ rfl rfl ?_
      refine c_in ?_
      show mM G mX11_reads 41 [some (.ref 214), some (.int lo), some (.int hi), some (.int (sgn t n (skp t n p))), some (.int (nI (skp t n p))), some (.int v), none] [.int (bin (t x) 48 57)] S1 d1 (0, 0) Q
      refine m_if_eq (tgt := 89) (pc' := 44) dX11_reads_41 (by decide) rfl (fun h41 => ?_) (fun h41 => ?_)
      · skip
        have eD := hD.symm.trans (dgt_n (fun h => h.2 h41))
        have e1 := congrArg Prod.fst eD
        have e2 := congrArg Prod.snd eD
        have e9 := J89 d1 hd (by rw [e1]; exact hT)
        rw [e2] at e9
        exact e9
      · skip
        refine m_iload (pc' := 46) dX11_reads_44 rfl rfl ?_
        refine m_ldc (pc' := 48) dX11_reads_46 kc_X11_reads_156 rfl ?_
        refine m_icmp_ge (tgt := 72) (pc' := 51) dX11_reads_48 (by decide) rfl (fun h48 => ?_) (fun h48 => ?_)
        · skip
          refine m_iload (pc' := 74) dX11_reads_72 rfl rfl ?_
          refine m_istore (pc' := 76) dX11_reads_74 (by decide) rfl rfl ?_
          refine m_aload_n (pc' := 77) dX11_reads_76 rfl rfl ?_
          refine m_dup (pc' := 78) dX11_reads_77 rfl ?_
          refine m_getI (pc' := 81) fa_X11_reads_150 dX11_reads_78 (by decide) rfl rfl rfl ?_
          rw [show (d1.1 214 15) = (nI x) from hT.2.2.1]
          refine m_iconst (pc' := 82) (v := 1) dX11_reads_81 (by decide) rfl ?_
          refine m_iadd (pc' := 83) dX11_reads_82 rfl ?_
          rw [show ((nI x) + 1) = (nI (x + 1)) from nI_1 x]
          refine m_putI (pc' := 86) (ty := .int) fa_X11_reads_150 dX11_reads_83 (by decide +kernel) rfl rfl (by decide) rfl rfl rfl ?_
          refine m_goto (tgt := 14) dX11_reads_86 (by decide) ?_
          have e9 := ih (x + 1) (if v < 100000 then 10 * v + t x - 48 else v) _ (by omega) (hd.i _ (Or.inr ⟨rfl, Or.inl rfl⟩)) (hT.nx rfl) ((dgt_s (by omega) h41).symm.trans hD)
          rw [if_neg (Int32.not_lt.mpr h48)] at e9
          exact e9
        · skip
          refine m_bipush (pc' := 53) (v := 10) dX11_reads_51 (by decide) rfl ?_
          refine m_iload (pc' := 55) dX11_reads_53 rfl rfl ?_
          refine m_imul (pc' := 56) dX11_reads_55 rfl ?_
          refine m_aload_n (pc' := 57) dX11_reads_56 rfl rfl ?_
          refine m_getR (pc' := 60) fa_X11_reads_23 dX11_reads_57 (by decide) rfl rfl rfl rfl ?_
          refine m_aload_n (pc' := 61) dX11_reads_60 rfl rfl ?_
          refine m_getI (pc' := 64) fa_X11_reads_150 dX11_reads_61 (by decide) rfl rfl rfl ?_
          rw [show (d1.1 214 15) = (nI x) from hT.2.2.1]
          refine m_ialdN (pc' := 65) (j := x) (L := 140) dX11_reads_64 (by decide) rfl rfl (rfl) (by omega) (by decide) rfl ?_
          rw [show (d1.1 219 x) = (t x) from congrFun hT.1 x]
          refine m_iadd (pc' := 66) dX11_reads_65 rfl ?_
          refine m_bipush (pc' := 68) (v := 48) dX11_reads_66 (by decide) rfl ?_
          refine m_isub (pc' := 69) dX11_reads_68 rfl ?_
          refine m_goto (tgt := 74) dX11_reads_69 (by decide) ?_
          refine m_istore (pc' := 76) dX11_reads_74 (by decide) rfl rfl ?_
          refine m_aload_n (pc' := 77) dX11_reads_76 rfl rfl ?_
          refine m_dup (pc' := 78) dX11_reads_77 rfl ?_
          refine m_getI (pc' := 81) fa_X11_reads_150 dX11_reads_78 (by decide) rfl rfl rfl ?_
          rw [show (d1.1 214 15) = (nI x) from hT.2.2.1]
          refine m_iconst (pc' := 82) (v := 1) dX11_reads_81 (by decide) rfl ?_
          refine m_iadd (pc' := 83) dX11_reads_82 rfl ?_
          rw [show ((nI x) + 1) = (nI (x + 1)) from nI_1 x]
          refine m_putI (pc' := 86) (ty := .int) fa_X11_reads_150 dX11_reads_83 (by decide +kernel) rfl rfl (by decide) rfl rfl rfl ?_
          refine m_goto (tgt := 14) dX11_reads_86 (by decide) ?_
          have e9 := ih (x + 1) (if v < 100000 then 10 * v + t x - 48 else v) _ (by omega) (hd.i _ (Or.inr ⟨rfl, Or.inl rfl⟩)) (hT.nx rfl) ((dgt_s (by omega) h41).symm.trans hD)
          rw [if_pos (Int32.not_le.mp h48)] at e9
          exact e9
  refine mC_of (by decide +kernel) ⟨_, rfl⟩ (Nat.le_of_ble_eq_true rfl) ?_
  show mM G mX11_reads 0 [some (.ref 214), some (.int lo), some (.int hi), none, none, none, none] [] S1 d (0, 0) Q
  refine m_aload_n (pc' := 1) dX11_reads_0 rfl rfl ?_
  refine m_callV (pc' := 4) (A := []) (rest := []) (b := 214) cl_X11_reads_153 dX11_reads_1 rfl rfl (Nat.le_of_ble_eq_true rfl) ⟨by decide, by decide⟩ (by decide) rfl rfl rfl rfl ?_
  refine c_mhere (p := p) (P := skp t n p) (t := t) (n := n) hT hp hn rfl (fun e e0 eT => ?_)
  show mM G mX11_reads 4 [some (.ref 214), some (.int lo), some (.int hi), none, none, none, none] [.int (sgn t n (skp t n p))] S1 e (0, 0) Q
  refine m_istore_n (pc' := 5) dX11_reads_4 (by decide) rfl rfl ?_
  refine m_aload_n (pc' := 6) dX11_reads_5 rfl rfl ?_
  refine m_getI (pc' := 9) fa_X11_reads_150 dX11_reads_6 (by decide) rfl rfl rfl ?_
  rw [show (e.1 214 15) = (nI (skp t n p)) from eT.2.2.1]
  refine m_istore (pc' := 11) dX11_reads_9 (by decide) rfl rfl ?_
  refine m_iconst (pc' := 12) (v := 0) dX11_reads_11 (by decide) rfl ?_
  refine m_istore (pc' := 14) dX11_reads_12 (by decide) rfl rfl ?_
  exact J14 (n - (skp t n p)) (skp t n p) 0 e (by omega) e0 eT rfl
end MOD12
