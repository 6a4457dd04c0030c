/-! THE CLASS'S OWN METHODS (12): its reader -/
section CLS24
variable {G : GP} {Q : Option Value → Sh → Dt → Prop} {d : Dt} {t s : SS} {n p : Nat} {f : Int32}
set_option maxHeartbeats 4000000 in
set_option maxRecDepth 100000 in
theorem c_charAt0  (a1 : d.1 205 1 = nI n) (hp : p ≤ n) (hn : n ≤ 140) (hpn : ¬ p < n) (hQ : Q (some (.int 0)) S1 d) : mC G mX8_characterAt [.ref 205, .int (nI p)] S1 d Q := by
  refine mC_of (by decide +kernel) ⟨_, rfl⟩ (Nat.le_of_ble_eq_true rfl) ?_
  show mM G mX8_characterAt 0 [some (.ref 205), some (.int (nI p)), none] [] S1 d (0, 0) Q
  refine m_iload_n (pc' := 1) dX8_characterAt_0 rfl rfl ?_
  refine m_if_lt (tgt := 25) (pc' := 4) dX8_characterAt_1 (by decide) rfl (fun h1 => absurd h1 (Int32.not_lt.mpr (nI_le (a := 0) (Nat.zero_le p) (by omega)))) (fun h1 => ?_)
  refine m_iload_n (pc' := 5) dX8_characterAt_4 rfl rfl ?_
  refine m_aload_n (pc' := 6) dX8_characterAt_5 rfl rfl ?_
  refine m_getI (pc' := 9) fa_X8_characterAt_15 dX8_characterAt_6 (by decide) rfl rfl rfl ?_
  rw [show (d.1 205 1) = (nI n) from a1]
  refine m_icmp_ge (tgt := 25) (pc' := 12) dX8_characterAt_9 (by decide) rfl (fun h9 => ?_) (fun h9 => (h9 (nI_le (by omega) (by omega))).elim)
  refine m_iconst (pc' := 26) (v := 0) dX8_characterAt_25 (by decide) rfl ?_
  refine m_istore_n (pc' := 27) dX8_characterAt_26 (by decide) rfl rfl ?_
  refine m_iload_n (pc' := 28) dX8_characterAt_27 rfl rfl ?_
  refine m_if_eq (tgt := 40) (pc' := 31) dX8_characterAt_28 (by decide) rfl (fun h28 => ?_) (fun h28 => absurd h28 (by decide))
  refine m_iconst (pc' := 41) (v := 0) dX8_characterAt_40 (by decide) rfl ?_
  refine m_iret dX8_characterAt_41 rfl (by decide) ⟨by decide, by decide⟩ ?_
  exact hQ
set_option maxHeartbeats 4000000 in
set_option maxRecDepth 100000 in
theorem c_charAt1  (a1 : d.1 205 1 = nI n) (a2 : d.1 206 p = t p) (hx : okX t n) (hpn : p < n) (hn : n ≤ 140) (hQ : Q (some (.int (t p))) S1 d) : mC G mX8_characterAt [.ref 205, .int (nI p)] S1 d Q := by
  refine mC_of (by decide +kernel) ⟨_, rfl⟩ (Nat.le_of_ble_eq_true rfl) ?_
  show mM G mX8_characterAt 0 [some (.ref 205), some (.int (nI p)), none] [] S1 d (0, 0) Q
  refine m_iload_n (pc' := 1) dX8_characterAt_0 rfl rfl ?_
  refine m_if_lt (tgt := 25) (pc' := 4) dX8_characterAt_1 (by decide) rfl (fun h1 => absurd h1 (Int32.not_lt.mpr (nI_le (a := 0) (Nat.zero_le p) (by omega)))) (fun h1 => ?_)
  refine m_iload_n (pc' := 5) dX8_characterAt_4 rfl rfl ?_
  refine m_aload_n (pc' := 6) dX8_characterAt_5 rfl rfl ?_
  refine m_getI (pc' := 9) fa_X8_characterAt_15 dX8_characterAt_6 (by decide) rfl rfl rfl ?_
  rw [show (d.1 205 1) = (nI n) from a1]
  refine m_icmp_ge (tgt := 25) (pc' := 12) dX8_characterAt_9 (by decide) rfl (fun h9 => absurd h9 (nI_ge (by omega) (by omega))) (fun h9 => ?_)
  refine m_iload_n (pc' := 13) dX8_characterAt_12 rfl rfl ?_
  refine m_aload_n (pc' := 14) dX8_characterAt_13 rfl rfl ?_
  refine m_getR (pc' := 17) fa_X8_characterAt_9 dX8_characterAt_14 (by decide) rfl rfl rfl rfl ?_
  refine m_alenv (pc' := 18) (v := 140) dX8_characterAt_17 (by decide) rfl (by decide) (by decide) rfl (by decide) rfl ?_
  refine m_icmp_ge (tgt := 25) (pc' := 21) dX8_characterAt_18 (by decide) rfl (fun h18 => absurd h18 (nI_ge (b := 140) (by omega) (by omega))) (fun h18 => ?_)
  refine m_iconst (pc' := 22) (v := 1) dX8_characterAt_21 (by decide) rfl ?_
  refine m_goto (tgt := 26) dX8_characterAt_22 (by decide) ?_
  refine m_istore_n (pc' := 27) dX8_characterAt_26 (by decide) rfl rfl ?_
  refine m_iload_n (pc' := 28) dX8_characterAt_27 rfl rfl ?_
  refine m_if_eq (tgt := 40) (pc' := 31) dX8_characterAt_28 (by decide) rfl (fun h28 => absurd h28 (by decide)) (fun h28 => ?_)
  refine m_aload_n (pc' := 32) dX8_characterAt_31 rfl rfl ?_
  refine m_getR (pc' := 35) fa_X8_characterAt_9 dX8_characterAt_32 (by decide) rfl rfl rfl rfl ?_
  refine m_iload_n (pc' := 36) dX8_characterAt_35 rfl rfl ?_
  refine m_caldN (pc' := 37) (j := p) (L := 140) dX8_characterAt_36 (by decide) rfl rfl (rfl) (by omega) (by decide) rfl ?_
  rw [show (d.1 206 p) = (t p) from a2]
  refine m_goto (tgt := 41) dX8_characterAt_37 (by decide) ?_
  refine m_iret dX8_characterAt_41 rfl (by have := chr_nar hx p; rw [chr_in hpn] at this; exact this) ⟨by decide, by decide⟩ ?_
  exact hQ
theorem c_charAt (hR : RX t n p f s d) {x : Nat} (hxn : x ≤ n) (hn : n ≤ 140) (hx : okX t n) (hQ : Q (some (.int (chr t n x))) S1 d) : mC G mX8_characterAt [.ref 205, .int (nI x)] S1 d Q := by
  by_cases h : x < n
  · exact c_charAt1 hR.1 (hR.2.1 x h) hx h hn (q_i hQ (chr_in h).symm)
  · exact c_charAt0 hR.1 hxn hn h (q_i hQ (chr_no h).symm)
set_option maxHeartbeats 4000000 in
set_option maxRecDepth 100000 in
theorem c_isDigit {v : Int32} (hQ : Q (some (.int (bin v 48 57))) S1 d) : mC G mX9_isDigit [.int v] S1 d Q := by
  refine mC_of (by decide +kernel) ⟨_, rfl⟩ (Nat.le_of_ble_eq_true rfl) ?_
  show mM G mX9_isDigit 0 [some (.int v)] [] S1 d (0, 0) Q
  refine m_iload_n (pc' := 1) dX9_isDigit_0 rfl rfl ?_
  refine m_bipush (pc' := 3) (v := 48) dX9_isDigit_1 (by decide) rfl ?_
  refine m_icmp_lt (tgt := 16) (pc' := 6) dX9_isDigit_3 (by decide) rfl (fun h3 => ?_) (fun h3 => ?_)
  · skip
    refine m_iconst (pc' := 17) (v := 0) dX9_isDigit_16 (by decide) rfl ?_
    refine m_iret dX9_isDigit_17 rfl (by decide) ⟨by decide, by decide⟩ ?_
    exact q_i hQ (by unfold bin; rw [if_neg (fun h => Int32.not_le.mpr h3 h.1)])
  · skip
    refine m_iload_n (pc' := 7) dX9_isDigit_6 rfl rfl ?_
    refine m_bipush (pc' := 9) (v := 57) dX9_isDigit_7 (by decide) rfl ?_
    refine m_icmp_gt (tgt := 16) (pc' := 12) dX9_isDigit_9 (by decide) rfl (fun h9 => ?_) (fun h9 => ?_)
    · skip
      refine m_iconst (pc' := 17) (v := 0) dX9_isDigit_16 (by decide) rfl ?_
      refine m_iret dX9_isDigit_17 rfl (by decide) ⟨by decide, by decide⟩ ?_
      exact q_i hQ (by unfold bin; rw [if_neg (fun h => Int32.not_le.mpr h9 h.2)])
    · skip
      refine m_iconst (pc' := 13) (v := 1) dX9_isDigit_12 (by decide) rfl ?_
      refine m_goto (tgt := 17) dX9_isDigit_13 (by decide) ?_
      refine m_iret dX9_isDigit_17 rfl (by decide) ⟨by decide, by decide⟩ ?_
      exact q_i hQ (by unfold bin; rw [if_pos ⟨Int32.not_lt.mp h3, Int32.not_lt.mp h9⟩])
set_option maxHeartbeats 4000000 in
set_option maxRecDepth 100000 in
theorem c_hasFailed  (h3 : d.1 204 3 = f) (hQ : Q (some (.int (fld f))) S1 d) : mC G mX9_hasFailed [.ref 204] S1 d Q := by
  refine mC_of (by decide +kernel) ⟨_, rfl⟩ (Nat.le_of_ble_eq_true rfl) ?_
  show mM G mX9_hasFailed 0 [some (.ref 204)] [] S1 d (0, 0) Q
  refine m_aload_n (pc' := 1) dX9_hasFailed_0 rfl rfl ?_
  refine m_getI (pc' := 4) fa_X9_hasFailed_33 dX9_hasFailed_1 (by decide) rfl rfl rfl ?_
  rw [show (d.1 204 3) = f from h3]
  refine m_if_lt (tgt := 11) (pc' := 7) dX9_hasFailed_4 (by decide) rfl (fun h4 => ?_) (fun h4 => ?_)
  · skip
    refine m_iconst (pc' := 12) (v := 0) dX9_hasFailed_11 (by decide) rfl ?_
    refine m_iret dX9_hasFailed_12 rfl (by decide) ⟨by decide, by decide⟩ ?_
    exact q_i hQ (by unfold fld; rw [if_pos h4])
  · skip
    refine m_iconst (pc' := 8) (v := 1) dX9_hasFailed_7 (by decide) rfl ?_
    refine m_goto (tgt := 12) dX9_hasFailed_8 (by decide) ?_
    refine m_iret dX9_hasFailed_12 rfl (by decide) ⟨by decide, by decide⟩ ?_
    exact q_i hQ (by unfold fld; rw [if_neg h4])
set_option maxHeartbeats 4000000 in
set_option maxRecDepth 100000 in
theorem c_failAt {w : Int32} (hR : RX t n p f s d) (hQ : ∀ d', fr rxE nE d d' → RX t n p (ffa f w) s d' → Q none S1 d') : mC G mX9_failAt [.ref 204, .int w] S1 d Q := by
  refine mC_of (by decide +kernel) ⟨_, rfl⟩ (Nat.le_of_ble_eq_true rfl) ?_
  show mM G mX9_failAt 0 [some (.ref 204), some (.int w)] [] S1 d (0, 0) Q
  refine m_aload_n (pc' := 1) dX9_failAt_0 rfl rfl ?_
  refine m_callV (pc' := 4) (A := []) (rest := []) (b := 204) cl_X9_failAt_36 dX9_failAt_1 rfl rfl (Nat.le_of_ble_eq_true rfl) ⟨by decide, by decide⟩ (by decide) rfl rfl rfl rfl ?_
  refine c_hasFailed (f := f) hR.2.2.2.1 ?_
  show mM G mX9_failAt 4 [some (.ref 204), some (.int w)] [.int (fld f)] S1 d (0, 0) Q
  refine m_if_ne (tgt := 12) (pc' := 7) dX9_failAt_4 (by decide) rfl (fun h4 => ?_) (fun h4 => ?_)
  · skip
    refine m_vret dX9_failAt_12 rfl ⟨by decide, by decide⟩ ?_
    exact hQ _ fr.rfl (by unfold ffa; rw [if_neg (fld_y h4)]; exact hR)
  · skip
    refine m_aload_n (pc' := 8) dX9_failAt_7 rfl rfl ?_
    refine m_iload_n (pc' := 9) dX9_failAt_8 rfl rfl ?_
    refine m_putI (pc' := 12) (ty := .int) fa_X9_failAt_33 dX9_failAt_9 (by decide +kernel) rfl rfl (by decide) rfl rfl rfl ?_
    refine m_vret dX9_failAt_12 rfl ⟨by decide, by decide⟩ ?_
    exact hQ _ (fr.i fr.rfl _ (show 204 = 204 ∨ 207 ≤ 204 ∧ 204 ≤ 213 by decide)) (by unfold ffa; rw [if_pos (fld_n h4)]; exact hR.fa)
set_option maxHeartbeats 4000000 in
set_option maxRecDepth 100000 in
theorem c_next {P : Nat} (hR : RX t n p f s d) (hp : p ≤ n) (hn : n ≤ 140) (hx : okX t n) (hP : skp t n p = P) (hQ : ∀ d', fr rxE nE d d' → RX t n P f s d' → Q (some (.int (chr t n P))) S1 d') : mC G mX9_next [.ref 204] S1 d Q := by
  have J : ∀ (n0 : Nat) (p : Nat) (d1 : Dt) (_ : p + n0 = n) (_ : fr rxE nE d d1) (_ : RX t n p f s d1) (_ : skp t n p = P), mM G mX9_next 0 [some (.ref 204)] [] S1 d1 (0, 0) Q := by
    intro n0
    induction n0 with
    | zero =>
      intro p d1 hk hd hR hP
      refine m_aload_n (pc' := 1) dX9_next_0 rfl rfl ?_
      refine m_getI (pc' := 4) fa_X9_next_29 dX9_next_1 (by decide) rfl rfl rfl ?_
      rw [show (d1.1 204 2) = (nI p) from hR.2.2.1]
      refine m_sipush (pc' := 7) (v := 140) dX9_next_4 (by decide) rfl ?_
      refine m_icmp_ge (tgt := 39) (pc' := 10) dX9_next_7 (by decide) rfl (fun h7 => ?_) (fun h7 => ?_)
      · skip
        refine m_aload_n (pc' := 40) dX9_next_39 rfl rfl ?_
        refine m_getR (pc' := 43) fa_X9_next_12 dX9_next_40 (by decide) rfl rfl rfl rfl ?_
        refine m_aload_n (pc' := 44) dX9_next_43 rfl rfl ?_
        refine m_getI (pc' := 47) fa_X9_next_29 dX9_next_44 (by decide) rfl rfl rfl ?_
        rw [show (d1.1 204 2) = (nI p) from hR.2.2.1]
        refine m_callV (pc' := 50) (A := [.int (nI p)]) (rest := []) (b := 205) cl_X9_next_88 dX9_next_47 rfl rfl (Nat.le_of_ble_eq_true rfl) ⟨by decide, by decide⟩ (by decide) rfl rfl rfl rfl ?_
        refine c_charAt hR (x := p) (by omega) hn hx ?_
        show mM G mX9_next 50 [some (.ref 204)] [.int (chr t n p)] S1 d1 (0, 0) Q
        refine m_iret dX9_next_50 rfl (chr_nar hx _) ⟨by decide, by decide⟩ ?_
        have eP : P = p := hP.symm.trans (skp_n (fun h => absurd h.1 (by omega)))
        subst eP
        exact hQ d1 hd hR
      · skip
        refine m_aload_n (pc' := 11) dX9_next_10 rfl rfl ?_
        refine m_getR (pc' := 14) fa_X9_next_12 dX9_next_11 (by decide) rfl rfl rfl rfl ?_
        refine m_aload_n (pc' := 15) dX9_next_14 rfl rfl ?_
        refine m_getI (pc' := 18) fa_X9_next_29 dX9_next_15 (by decide) rfl rfl rfl ?_
        rw [show (d1.1 204 2) = (nI p) from hR.2.2.1]
        refine m_callV (pc' := 21) (A := [.int (nI p)]) (rest := []) (b := 205) cl_X9_next_88 dX9_next_18 rfl rfl (Nat.le_of_ble_eq_true rfl) ⟨by decide, by decide⟩ (by decide) rfl rfl rfl rfl ?_
        refine c_charAt hR (x := p) (by omega) hn hx ?_
        show mM G mX9_next 21 [some (.ref 204)] [.int (chr t n p)] S1 d1 (0, 0) Q
        rw [show (chr t n p) = 0 from chr_no (by omega)]
        refine m_bipush (pc' := 23) (v := 32) dX9_next_21 (by decide) rfl ?_
        refine m_icmp_ne (tgt := 39) (pc' := 26) dX9_next_23 (by decide) rfl (fun h23 => ?_) (fun h23 => absurd h23 (by decide))
        refine m_aload_n (pc' := 40) dX9_next_39 rfl rfl ?_
        refine m_getR (pc' := 43) fa_X9_next_12 dX9_next_40 (by decide) rfl rfl rfl rfl ?_
        refine m_aload_n (pc' := 44) dX9_next_43 rfl rfl ?_
        refine m_getI (pc' := 47) fa_X9_next_29 dX9_next_44 (by decide) rfl rfl rfl ?_
        rw [show (d1.1 204 2) = (nI p) from hR.2.2.1]
        refine m_callV (pc' := 50) (A := [.int (nI p)]) (rest := []) (b := 205) cl_X9_next_88 dX9_next_47 rfl rfl (Nat.le_of_ble_eq_true rfl) ⟨by decide, by decide⟩ (by decide) rfl rfl rfl rfl ?_
        refine c_charAt hR (x := p) (by omega) hn hx ?_
        show mM G mX9_next 50 [some (.ref 204)] [.int (chr t n p)] S1 d1 (0, 0) Q
        refine m_iret dX9_next_50 rfl (chr_nar hx _) ⟨by decide, by decide⟩ ?_
        have eP : P = p := hP.symm.trans (skp_n (fun h => absurd h.1 (by omega)))
        subst eP
        exact hQ d1 hd hR
    | succ n0 ih =>
      intro p d1 hk hd hR hP
      refine m_aload_n (pc' := 1) dX9_next_0 rfl rfl ?_
      refine m_getI (pc' := 4) fa_X9_next_29 dX9_next_1 (by decide) rfl rfl rfl ?_
      rw [show (d1.1 204 2) = (nI p) from hR.2.2.1]
      refine m_sipush (pc' := 7) (v := 140) dX9_next_4 (by decide) rfl ?_
      refine m_icmp_ge (tgt := 39) (pc' := 10) dX9_next_7 (by decide) rfl (fun h7 => absurd h7 (nI_ge (b := 140) (by omega) (by omega))) (fun h7 => ?_)
      refine m_aload_n (pc' := 11) dX9_next_10 rfl rfl ?_
      refine m_getR (pc' := 14) fa_X9_next_12 dX9_next_11 (by decide) rfl rfl rfl rfl ?_
      refine m_aload_n (pc' := 15) dX9_next_14 rfl rfl ?_
      refine m_getI (pc' := 18) fa_X9_next_29 dX9_next_15 (by decide) rfl rfl rfl ?_
      rw [show (d1.1 204 2) = (nI p) from hR.2.2.1]
      refine m_callV (pc' := 21) (A := [.int (nI p)]) (rest := []) (b := 205) cl_X9_next_88 dX9_next_18 rfl rfl (Nat.le_of_ble_eq_true rfl) ⟨by decide, by decide⟩ (by decide) rfl rfl rfl rfl ?_
      refine c_charAt hR (x := p) (by omega) hn hx ?_
      show mM G mX9_next 21 [some (.ref 204)] [.int (chr t n p)] S1 d1 (0, 0) Q
      rw [show (chr t n p) = (t p) from chr_in (by omega)]
      refine m_bipush (pc' := 23) (v := 32) dX9_next_21 (by decide) rfl ?_
      refine m_icmp_ne (tgt := 39) (pc' := 26) dX9_next_23 (by decide) rfl (fun h23 => ?_) (fun h23 => ?_)
      · skip
        refine m_aload_n (pc' := 40) dX9_next_39 rfl rfl ?_
        refine m_getR (pc' := 43) fa_X9_next_12 dX9_next_40 (by decide) rfl rfl rfl rfl ?_
        refine m_aload_n (pc' := 44) dX9_next_43 rfl rfl ?_
        refine m_getI (pc' := 47) fa_X9_next_29 dX9_next_44 (by decide) rfl rfl rfl ?_
        rw [show (d1.1 204 2) = (nI p) from hR.2.2.1]
        refine m_callV (pc' := 50) (A := [.int (nI p)]) (rest := []) (b := 205) cl_X9_next_88 dX9_next_47 rfl rfl (Nat.le_of_ble_eq_true rfl) ⟨by decide, by decide⟩ (by decide) rfl rfl rfl rfl ?_
        refine c_charAt hR (x := p) (by omega) hn hx ?_
        show mM G mX9_next 50 [some (.ref 204)] [.int (chr t n p)] S1 d1 (0, 0) Q
        refine m_iret dX9_next_50 rfl (chr_nar hx _) ⟨by decide, by decide⟩ ?_
        have eP : P = p := hP.symm.trans (skp_n (fun h => h23 h.2))
        subst eP
        exact hQ d1 hd hR
      · skip
        refine m_aload_n (pc' := 27) dX9_next_26 rfl rfl ?_
        refine m_dup (pc' := 28) dX9_next_27 rfl ?_
        refine m_getI (pc' := 31) fa_X9_next_29 dX9_next_28 (by decide) rfl rfl rfl ?_
        rw [show (d1.1 204 2) = (nI p) from hR.2.2.1]
        refine m_iconst (pc' := 32) (v := 1) dX9_next_31 (by decide) rfl ?_
        refine m_iadd (pc' := 33) dX9_next_32 rfl ?_
        rw [show ((nI p) + 1) = (nI (p + 1)) from nI_1 p]
        refine m_putI (pc' := 36) (ty := .int) fa_X9_next_29 dX9_next_33 (by decide +kernel) rfl rfl (by decide) rfl rfl rfl ?_
        refine m_goto (tgt := 0) dX9_next_36 (by decide) ?_
        exact ih (p + 1) _ (by omega) (hd.i _ (show 204 = 204 ∨ 207 ≤ 204 ∧ 204 ≤ 213 by decide)) (hR.ps rfl) ((skp_s (by omega) h23).symm.trans hP)
  refine mC_of (by decide +kernel) ⟨_, rfl⟩ (Nat.le_of_ble_eq_true rfl) ?_
  show mM G mX9_next 0 [some (.ref 204)] [] S1 d (0, 0) Q
  exact J (n - p) p d (by omega) fr.rfl hR hP
set_option maxHeartbeats 4000000 in
set_option maxRecDepth 100000 in
theorem c_expect {c : Int32} (hR : RX t n p f s d) (hp : p ≤ n) (hn : n ≤ 140) (hx : okX t n) (c0 : ¬ (0 : Int32) = c) (c1 : ¬ (-1 : Int32) = c) (hQ : ∀ d', fr rxE nE d d' → RX t n (tkp t n c p) (xEf t n c p f) s d' → Q none S1 d') : mC G mX9_expect [.ref 204, .int c] S1 d Q := by
  refine mC_of (by decide +kernel) ⟨_, rfl⟩ (Nat.le_of_ble_eq_true rfl) ?_
  show mM G mX9_expect 0 [some (.ref 204), some (.int c)] [] S1 d (0, 0) Q
  refine m_aload_n (pc' := 1) dX9_expect_0 rfl rfl ?_
  refine m_callV (pc' := 4) (A := []) (rest := []) (b := 204) cl_X9_expect_40 dX9_expect_1 rfl rfl (Nat.le_of_ble_eq_true rfl) ⟨by decide, by decide⟩ (by decide) rfl rfl rfl rfl ?_
  refine c_next (p := p) (P := skp t n p) (t := t) (n := n) (f := f) (s := s) hR hp hn hx rfl (fun e e0 eR => ?_)
  show mM G mX9_expect 4 [some (.ref 204), some (.int c)] [.int (chr t n (skp t n p))] S1 e (0, 0) Q
  refine m_iload_n (pc' := 5) dX9_expect_4 rfl rfl ?_
  refine m_icmp_ne (tgt := 21) (pc' := 8) dX9_expect_5 (by decide) rfl (fun h5 => ?_) (fun h5 => ?_)
  · skip
    refine m_aload_n (pc' := 22) dX9_expect_21 rfl rfl ?_
    refine m_aload_n (pc' := 23) dX9_expect_22 rfl rfl ?_
    refine m_getI (pc' := 26) fa_X9_expect_29 dX9_expect_23 (by decide) rfl rfl rfl ?_
    rw [show (e.1 204 2) = (nI (skp t n p)) from eR.2.2.1]
    refine m_callV (pc' := 29) (A := [.int (nI (skp t n p))]) (rest := []) (b := 204) cl_X9_expect_61 dX9_expect_26 rfl rfl (Nat.le_of_ble_eq_true rfl) ⟨by decide, by decide⟩ (by decide) rfl rfl rfl rfl ?_
    refine c_failAt (t := t) (n := n) (p := skp t n p) (f := f) (s := s) eR (fun g g0 gR => ?_)
    show mM G mX9_expect 29 [some (.ref 204), some (.int c)] [] S1 g (0, 0) Q
    refine m_vret dX9_expect_29 rfl ⟨by decide, by decide⟩ ?_
    have hk : ¬ tkk t n c p := fun z => h5 ((chr_sgn c0 c1).mpr z)
    exact hQ _ (e0.trans g0) (by unfold tkp xEf; rw [if_neg hk, if_neg hk]; exact gR)
  · skip
    refine m_aload_n (pc' := 9) dX9_expect_8 rfl rfl ?_
    refine m_dup (pc' := 10) dX9_expect_9 rfl ?_
    refine m_getI (pc' := 13) fa_X9_expect_29 dX9_expect_10 (by decide) rfl rfl rfl ?_
    rw [show (e.1 204 2) = (nI (skp t n p)) from eR.2.2.1]
    refine m_iconst (pc' := 14) (v := 1) dX9_expect_13 (by decide) rfl ?_
    refine m_iadd (pc' := 15) dX9_expect_14 rfl ?_
    rw [show ((nI (skp t n p)) + 1) = (nI (skp t n p + 1)) from nI_1 _]
    refine m_putI (pc' := 18) (ty := .int) fa_X9_expect_29 dX9_expect_15 (by decide +kernel) rfl rfl (by decide) rfl rfl rfl ?_
    refine m_goto (tgt := 29) dX9_expect_18 (by decide) ?_
    refine m_vret dX9_expect_29 rfl ⟨by decide, by decide⟩ ?_
    have hk : tkk t n c p := (chr_sgn c0 c1).mp h5
    exact hQ _ (e0.i _ (show 204 = 204 ∨ 207 ≤ 204 ∧ 204 ≤ 213 by decide)) (by unfold tkp xEf; rw [if_pos hk, if_pos hk]; exact eR.ps rfl)
set_option maxHeartbeats 4000000 in
set_option maxRecDepth 100000 in
theorem c_readNum {lo hi : Int32} (hR : RX t n p f s d) (hp : p ≤ n) (hn : n ≤ 140) (hx : okX t n) (hh : hi.toInt < 10000) (hQ : ∀ d', fr rxE nE d d' → RX t n (xNp t n p) (xNf t n lo hi p f) s d' → Q (some (.int (rdc t n p))) S1 d') : mC G mX9_readNumber [.ref 204, .int lo, .int hi] S1 d Q := by
  have hq := skp_le' (t := t) hp
  have hE := dgt_le (t := t) (n := n) (n - (skp t n p)) (skp t n p) 0 (by omega)
  have J82 : ∀ (x kv : Nat) (d1 : Dt) (_ : (skp t n p) ≤ x) (_ : x ≤ n) (_ : dgt t n (skp t n p) 0 = (x, nI kv)) (_ : kv ≤ 1000008) (_ : fr rxE nE d d1) (_ : RX t n x f s d1), mM G mX9_readNumber 82 [some (.ref 204), some (.int lo), some (.int hi), some (.int (chr t n (skp t n p))), some (.int (nI (skp t n p))), some (.int (nI (min kv 10000))), none] [] S1 d1 (0, 0) Q := by
    intro x kv d1 hqx hxn hD hkv hd hR
    refine m_iload_n (pc' := 83) dX9_readNumber_82 rfl rfl ?_
    refine m_bipush (pc' := 85) (v := 48) dX9_readNumber_83 (by decide) rfl ?_
    refine m_icmp_ne (tgt := 103) (pc' := 88) dX9_readNumber_85 (by decide) rfl (fun h85 => ?_) (fun h85 => ?_)
    · skip
      refine m_iconst (pc' := 104) (v := 0) dX9_readNumber_103 (by decide) rfl ?_
      refine m_istore (pc' := 106) dX9_readNumber_104 (by decide) rfl rfl ?_
      refine m_aload_n (pc' := 107) dX9_readNumber_106 rfl rfl ?_
      refine m_getI (pc' := 110) fa_X9_readNumber_29 dX9_readNumber_107 (by decide) rfl rfl rfl ?_
      rw [show (d1.1 204 2) = (nI x) from hR.2.2.1]
      refine m_iload (pc' := 112) dX9_readNumber_110 rfl rfl ?_
      refine m_icmp_eq (tgt := 130) (pc' := 115) dX9_readNumber_112 (by decide) rfl (fun h112 => ?_) (fun h112 => ?_)
      · skip
        refine m_aload_n (pc' := 131) dX9_readNumber_130 rfl rfl ?_
        refine m_iload (pc' := 133) dX9_readNumber_131 rfl rfl ?_
        refine m_callV (pc' := 136) (A := [.int (nI (skp t n p))]) (rest := []) (b := 204) cl_X9_readNumber_61 dX9_readNumber_133 rfl rfl (Nat.le_of_ble_eq_true rfl) ⟨by decide, by decide⟩ (by decide) rfl rfl rfl rfl ?_
        refine c_failAt (t := t) (n := n) (p := x) (f := f) (s := s) hR (fun g g0 gR => ?_)
        show mM G mX9_readNumber 136 [some (.ref 204), some (.int lo), some (.int hi), some (.int (chr t n (skp t n p))), some (.int (nI (skp t n p))), some (.int (nI (min kv 10000))), some (.int 0)] [] S1 g (0, 0) Q
        refine m_iload (pc' := 138) dX9_readNumber_136 rfl rfl ?_
        refine m_iret dX9_readNumber_138 rfl rfl ⟨by decide, by decide⟩ ?_
        have e1 : (dgt t n (skp t n p) 0).1 = x := congrArg Prod.fst hD
        have e2 : (dgt t n (skp t n p) 0).2 = nI kv := congrArg Prod.snd hD
        have e3 : rdc t n p = nI (min kv 10000) := rdc_min e2 hkv
        have hk : ¬ rdok t n lo hi (skp t n p) := fun z => absurd z.1 (by rw [e1]; have := (nI_eq (by omega) (by omega)).mp h112; omega)
        exact q_i (hQ _ (hd.trans g0) (by unfold xNp xNf; rw [if_neg hk, e1]; exact gR)) e3.symm
      · skip
        refine m_iload (pc' := 117) dX9_readNumber_115 rfl rfl ?_
        refine m_if_ne (tgt := 130) (pc' := 120) dX9_readNumber_117 (by decide) rfl (fun h117 => absurd h117 (by decide)) (fun h117 => ?_)
        refine m_iload (pc' := 122) dX9_readNumber_120 rfl rfl ?_
        refine m_iload_n (pc' := 123) dX9_readNumber_122 rfl rfl ?_
        refine m_iload_n (pc' := 124) dX9_readNumber_123 rfl rfl ?_
        refine m_callSN (pc' := 127) (A := [.int (nI (min kv 10000)), .int lo, .int hi]) (rest := []) cl_X9_readNumber_101 dX9_readNumber_124 rfl rfl (Nat.le_of_ble_eq_true rfl) ⟨by decide, by decide⟩ rfl rfl ?_
        refine c_within ?_
        show mM G mX9_readNumber 127 [some (.ref 204), some (.int lo), some (.int hi), some (.int (chr t n (skp t n p))), some (.int (nI (skp t n p))), some (.int (nI (min kv 10000))), some (.int 0)] [.int (bin (nI (min kv 10000)) lo hi)] S1 d1 (0, 0) Q
        refine m_if_ne (tgt := 136) (pc' := 130) dX9_readNumber_127 (by decide) rfl (fun h127 => ?_) (fun h127 => ?_)
        · skip
          refine m_iload (pc' := 138) dX9_readNumber_136 rfl rfl ?_
          refine m_iret dX9_readNumber_138 rfl rfl ⟨by decide, by decide⟩ ?_
          have e1 : (dgt t n (skp t n p) 0).1 = x := congrArg Prod.fst hD
          have e2 : (dgt t n (skp t n p) 0).2 = nI kv := congrArg Prod.snd hD
          have e3 : rdc t n p = nI (min kv 10000) := rdc_min e2 hkv
          have hk : rdok t n lo hi (skp t n p) := by
            refine ⟨?_, ?_, ?_⟩
            · rw [e1]; exact Nat.lt_of_le_of_ne hqx (fun z => h112 (congrArg nI z.symm))
            · exact fun z => absurd ((chr_sgn (by decide) (by decide)).mpr z) h85
            · rw [e2, ← bin_cap hh hkv]; exact h127
          exact q_i (hQ _ hd (by unfold xNp xNf; rw [if_pos hk, e1]; exact hR)) e3.symm
        · skip
          refine m_aload_n (pc' := 131) dX9_readNumber_130 rfl rfl ?_
          refine m_iload (pc' := 133) dX9_readNumber_131 rfl rfl ?_
          refine m_callV (pc' := 136) (A := [.int (nI (skp t n p))]) (rest := []) (b := 204) cl_X9_readNumber_61 dX9_readNumber_133 rfl rfl (Nat.le_of_ble_eq_true rfl) ⟨by decide, by decide⟩ (by decide) rfl rfl rfl rfl ?_
          refine c_failAt (t := t) (n := n) (p := x) (f := f) (s := s) hR (fun g g0 gR => ?_)
          show mM G mX9_readNumber 136 [some (.ref 204), some (.int lo), some (.int hi), some (.int (chr t n (skp t n p))), some (.int (nI (skp t n p))), some (.int (nI (min kv 10000))), some (.int 0)] [] S1 g (0, 0) Q
          refine m_iload (pc' := 138) dX9_readNumber_136 rfl rfl ?_
          refine m_iret dX9_readNumber_138 rfl rfl ⟨by decide, by decide⟩ ?_
          have e1 : (dgt t n (skp t n p) 0).1 = x := congrArg Prod.fst hD
          have e2 : (dgt t n (skp t n p) 0).2 = nI kv := congrArg Prod.snd hD
          have e3 : rdc t n p = nI (min kv 10000) := rdc_min e2 hkv
          have hk : ¬ rdok t n lo hi (skp t n p) := fun z => z.2.2 (by rw [e2, ← bin_cap hh hkv]; exact h127)
          exact q_i (hQ _ (hd.trans g0) (by unfold xNp xNf; rw [if_neg hk, e1]; exact gR)) e3.symm
    · skip
      refine m_aload_n (pc' := 89) dX9_readNumber_88 rfl rfl ?_
      refine m_getI (pc' := 92) fa_X9_readNumber_29 dX9_readNumber_89 (by decide) rfl rfl rfl ?_
      rw [show (d1.1 204 2) = (nI x) from hR.2.2.1]
      refine m_iload (pc' := 94) dX9_readNumber_92 rfl rfl ?_
      refine m_isub (pc' := 95) dX9_readNumber_94 rfl ?_
      rw [show ((nI x) - (nI (skp t n p))) = (nI (x - (skp t n p))) from pk_dif hqx]
      refine m_iconst (pc' := 96) (v := 1) dX9_readNumber_95 (by decide) rfl ?_
      refine m_icmp_le (tgt := 103) (pc' := 99) dX9_readNumber_96 (by decide) rfl (fun h96 => ?_) (fun h96 => ?_)
      · skip
        refine m_iconst (pc' := 104) (v := 0) dX9_readNumber_103 (by decide) rfl ?_
        refine m_istore (pc' := 106) dX9_readNumber_104 (by decide) rfl rfl ?_
        refine m_aload_n (pc' := 107) dX9_readNumber_106 rfl rfl ?_
        refine m_getI (pc' := 110) fa_X9_readNumber_29 dX9_readNumber_107 (by decide) rfl rfl rfl ?_
        rw [show (d1.1 204 2) = (nI x) from hR.2.2.1]
        refine m_iload (pc' := 112) dX9_readNumber_110 rfl rfl ?_
        refine m_icmp_eq (tgt := 130) (pc' := 115) dX9_readNumber_112 (by decide) rfl (fun h112 => ?_) (fun h112 => ?_)
        · skip
          refine m_aload_n (pc' := 131) dX9_readNumber_130 rfl rfl ?_
          refine m_iload (pc' := 133) dX9_readNumber_131 rfl rfl ?_
          refine m_callV (pc' := 136) (A := [.int (nI (skp t n p))]) (rest := []) (b := 204) cl_X9_readNumber_61 dX9_readNumber_133 rfl rfl (Nat.le_of_ble_eq_true rfl) ⟨by decide, by decide⟩ (by decide) rfl rfl rfl rfl ?_
          refine c_failAt (t := t) (n := n) (p := x) (f := f) (s := s) hR (fun g g0 gR => ?_)
          show mM G mX9_readNumber 136 [some (.ref 204), some (.int lo), some (.int hi), some (.int (chr t n (skp t n p))), some (.int (nI (skp t n p))), some (.int (nI (min kv 10000))), some (.int 0)] [] S1 g (0, 0) Q
          refine m_iload (pc' := 138) dX9_readNumber_136 rfl rfl ?_
          refine m_iret dX9_readNumber_138 rfl rfl ⟨by decide, by decide⟩ ?_
          have e1 : (dgt t n (skp t n p) 0).1 = x := congrArg Prod.fst hD
          have e2 : (dgt t n (skp t n p) 0).2 = nI kv := congrArg Prod.snd hD
          have e3 : rdc t n p = nI (min kv 10000) := rdc_min e2 hkv
          have hk : ¬ rdok t n lo hi (skp t n p) := fun z => absurd z.1 (by rw [e1]; have := (nI_eq (by omega) (by omega)).mp h112; omega)
          exact q_i (hQ _ (hd.trans g0) (by unfold xNp xNf; rw [if_neg hk, e1]; exact gR)) e3.symm
        · skip
          refine m_iload (pc' := 117) dX9_readNumber_115 rfl rfl ?_
          refine m_if_ne (tgt := 130) (pc' := 120) dX9_readNumber_117 (by decide) rfl (fun h117 => absurd h117 (by decide)) (fun h117 => ?_)
          refine m_iload (pc' := 122) dX9_readNumber_120 rfl rfl ?_
          refine m_iload_n (pc' := 123) dX9_readNumber_122 rfl rfl ?_
          refine m_iload_n (pc' := 124) dX9_readNumber_123 rfl rfl ?_
          refine m_callSN (pc' := 127) (A := [.int (nI (min kv 10000)), .int lo, .int hi]) (rest := []) cl_X9_readNumber_101 dX9_readNumber_124 rfl rfl (Nat.le_of_ble_eq_true rfl) ⟨by decide, by decide⟩ rfl rfl ?_
          refine c_within ?_
          show mM G mX9_readNumber 127 [some (.ref 204), some (.int lo), some (.int hi), some (.int (chr t n (skp t n p))), some (.int (nI (skp t n p))), some (.int (nI (min kv 10000))), some (.int 0)] [.int (bin (nI (min kv 10000)) lo hi)] S1 d1 (0, 0) Q
          refine m_if_ne (tgt := 136) (pc' := 130) dX9_readNumber_127 (by decide) rfl (fun h127 => ?_) (fun h127 => ?_)
          · skip
            refine m_iload (pc' := 138) dX9_readNumber_136 rfl rfl ?_
            refine m_iret dX9_readNumber_138 rfl rfl ⟨by decide, by decide⟩ ?_
            have e1 : (dgt t n (skp t n p) 0).1 = x := congrArg Prod.fst hD
            have e2 : (dgt t n (skp t n p) 0).2 = nI kv := congrArg Prod.snd hD
            have e3 : rdc t n p = nI (min kv 10000) := rdc_min e2 hkv
            have hk : rdok t n lo hi (skp t n p) := by
              refine ⟨?_, ?_, ?_⟩
              · rw [e1]; exact Nat.lt_of_le_of_ne hqx (fun z => h112 (congrArg nI z.symm))
              · intro _; rw [e1]; have z := (nI_leI (b := 1) (by omega) (by decide)).mp h96; have y : x ≠ (skp t n p) := fun y => h112 (congrArg nI y); omega
              · rw [e2, ← bin_cap hh hkv]; exact h127
            exact q_i (hQ _ hd (by unfold xNp xNf; rw [if_pos hk, e1]; exact hR)) e3.symm
          · skip
            refine m_aload_n (pc' := 131) dX9_readNumber_130 rfl rfl ?_
            refine m_iload (pc' := 133) dX9_readNumber_131 rfl rfl ?_
            refine m_callV (pc' := 136) (A := [.int (nI (skp t n p))]) (rest := []) (b := 204) cl_X9_readNumber_61 dX9_readNumber_133 rfl rfl (Nat.le_of_ble_eq_true rfl) ⟨by decide, by decide⟩ (by decide) rfl rfl rfl rfl ?_
            refine c_failAt (t := t) (n := n) (p := x) (f := f) (s := s) hR (fun g g0 gR => ?_)
            show mM G mX9_readNumber 136 [some (.ref 204), some (.int lo), some (.int hi), some (.int (chr t n (skp t n p))), some (.int (nI (skp t n p))), some (.int (nI (min kv 10000))), some (.int 0)] [] S1 g (0, 0) Q
            refine m_iload (pc' := 138) dX9_readNumber_136 rfl rfl ?_
            refine m_iret dX9_readNumber_138 rfl rfl ⟨by decide, by decide⟩ ?_
            have e1 : (dgt t n (skp t n p) 0).1 = x := congrArg Prod.fst hD
            have e2 : (dgt t n (skp t n p) 0).2 = nI kv := congrArg Prod.snd hD
            have e3 : rdc t n p = nI (min kv 10000) := rdc_min e2 hkv
            have hk : ¬ rdok t n lo hi (skp t n p) := fun z => z.2.2 (by rw [e2, ← bin_cap hh hkv]; exact h127)
            exact q_i (hQ _ (hd.trans g0) (by unfold xNp xNf; rw [if_neg hk, e1]; exact gR)) e3.symm
      · skip
        refine m_iconst (pc' := 100) (v := 1) dX9_readNumber_99 (by decide) rfl ?_
        refine m_goto (tgt := 104) dX9_readNumber_100 (by decide) ?_
        refine m_istore (pc' := 106) dX9_readNumber_104 (by decide) rfl rfl ?_
        refine m_aload_n (pc' := 107) dX9_readNumber_106 rfl rfl ?_
        refine m_getI (pc' := 110) fa_X9_readNumber_29 dX9_readNumber_107 (by decide) rfl rfl rfl ?_
        rw [show (d1.1 204 2) = (nI x) from hR.2.2.1]
        refine m_iload (pc' := 112) dX9_readNumber_110 rfl rfl ?_
        refine m_icmp_eq (tgt := 130) (pc' := 115) dX9_readNumber_112 (by decide) rfl (fun h112 => ?_) (fun h112 => ?_)
        · skip
          refine m_aload_n (pc' := 131) dX9_readNumber_130 rfl rfl ?_
          refine m_iload (pc' := 133) dX9_readNumber_131 rfl rfl ?_
          refine m_callV (pc' := 136) (A := [.int (nI (skp t n p))]) (rest := []) (b := 204) cl_X9_readNumber_61 dX9_readNumber_133 rfl rfl (Nat.le_of_ble_eq_true rfl) ⟨by decide, by decide⟩ (by decide) rfl rfl rfl rfl ?_
          refine c_failAt (t := t) (n := n) (p := x) (f := f) (s := s) hR (fun g g0 gR => ?_)
          show mM G mX9_readNumber 136 [some (.ref 204), some (.int lo), some (.int hi), some (.int (chr t n (skp t n p))), some (.int (nI (skp t n p))), some (.int (nI (min kv 10000))), some (.int 1)] [] S1 g (0, 0) Q
          refine m_iload (pc' := 138) dX9_readNumber_136 rfl rfl ?_
          refine m_iret dX9_readNumber_138 rfl rfl ⟨by decide, by decide⟩ ?_
          have e1 : (dgt t n (skp t n p) 0).1 = x := congrArg Prod.fst hD
          have e2 : (dgt t n (skp t n p) 0).2 = nI kv := congrArg Prod.snd hD
          have e3 : rdc t n p = nI (min kv 10000) := rdc_min e2 hkv
          have hk : ¬ rdok t n lo hi (skp t n p) := fun z => absurd z.1 (by rw [e1]; have := (nI_eq (by omega) (by omega)).mp h112; omega)
          exact q_i (hQ _ (hd.trans g0) (by unfold xNp xNf; rw [if_neg hk, e1]; exact gR)) e3.symm
        · skip
          refine m_iload (pc' := 117) dX9_readNumber_115 rfl rfl ?_
          refine m_if_ne (tgt := 130) (pc' := 120) dX9_readNumber_117 (by decide) rfl (fun h117 => ?_) (fun h117 => absurd h117 (by decide))
          refine m_aload_n (pc' := 131) dX9_readNumber_130 rfl rfl ?_
          refine m_iload (pc' := 133) dX9_readNumber_131 rfl rfl ?_
          refine m_callV (pc' := 136) (A := [.int (nI (skp t n p))]) (rest := []) (b := 204) cl_X9_readNumber_61 dX9_readNumber_133 rfl rfl (Nat.le_of_ble_eq_true rfl) ⟨by decide, by decide⟩ (by decide) rfl rfl rfl rfl ?_
          refine c_failAt (t := t) (n := n) (p := x) (f := f) (s := s) hR (fun g g0 gR => ?_)
          show mM G mX9_readNumber 136 [some (.ref 204), some (.int lo), some (.int hi), some (.int (chr t n (skp t n p))), some (.int (nI (skp t n p))), some (.int (nI (min kv 10000))), some (.int 1)] [] S1 g (0, 0) Q
          refine m_iload (pc' := 138) dX9_readNumber_136 rfl rfl ?_
          refine m_iret dX9_readNumber_138 rfl rfl ⟨by decide, by decide⟩ ?_
          have e1 : (dgt t n (skp t n p) 0).1 = x := congrArg Prod.fst hD
          have e2 : (dgt t n (skp t n p) 0).2 = nI kv := congrArg Prod.snd hD
          have e3 : rdc t n p = nI (min kv 10000) := rdc_min e2 hkv
          have hk : ¬ rdok t n lo hi (skp t n p) := fun z => h96 (by have y := z.2.1 ((chr_sgn (by decide) (by decide)).mp h85); rw [e1] at y; rw [y, show (skp t n p) + 1 - (skp t n p) = 1 by omega]; exact Int32.le_refl _)
          exact q_i (hQ _ (hd.trans g0) (by unfold xNp xNf; rw [if_neg hk, e1]; exact gR)) e3.symm
  have J14 : ∀ (n0 : Nat) (x kv : Nat) (d1 : Dt) (_ : x + n0 = n) (_ : (skp t n p) ≤ x) (_ : dgt t n x (nI kv) = dgt t n (skp t n p) 0) (_ : kv ≤ 1000008) (_ : fr rxE nE d d1) (_ : RX t n x f s d1), mM G mX9_readNumber 14 [some (.ref 204), some (.int lo), some (.int hi), some (.int (chr t n (skp t n p))), some (.int (nI (skp t n p))), some (.int (nI (min kv 10000))), none] [] S1 d1 (0, 0) Q := by
    intro n0
    induction n0 with
    | zero =>
      intro x kv d1 hk hqx hD hkv hd hR
      refine m_aload_n (pc' := 15) dX9_readNumber_14 rfl rfl ?_
      refine m_getI (pc' := 18) fa_X9_readNumber_29 dX9_readNumber_15 (by decide) rfl rfl rfl ?_
      rw [show (d1.1 204 2) = (nI x) from hR.2.2.1]
      refine m_sipush (pc' := 21) (v := 140) dX9_readNumber_18 (by decide) rfl ?_
      refine m_icmp_ge (tgt := 82) (pc' := 24) dX9_readNumber_21 (by decide) rfl (fun h21 => ?_) (fun h21 => ?_)
      · skip
        exact J82 x kv d1 hqx (by omega) (hD.symm.trans (dgt_n (fun h => absurd h.1 (by omega)))) hkv hd hR
      · skip
        refine m_aload_n (pc' := 25) dX9_readNumber_24 rfl rfl ?_
        refine m_getR (pc' := 28) fa_X9_readNumber_12 dX9_readNumber_25 (by decide) rfl rfl rfl rfl ?_
        refine m_aload_n (pc' := 29) dX9_readNumber_28 rfl rfl ?_
        refine m_getI (pc' := 32) fa_X9_readNumber_29 dX9_readNumber_29 (by decide) rfl rfl rfl ?_
        rw [show (d1.1 204 2) = (nI x) from hR.2.2.1]
        refine m_callV (pc' := 35) (A := [.int (nI x)]) (rest := []) (b := 205) cl_X9_readNumber_88 dX9_readNumber_32 rfl rfl (Nat.le_of_ble_eq_true rfl) ⟨by decide, by decide⟩ (by decide) rfl rfl rfl rfl ?_
        refine c_charAt hR (x := x) (by omega) hn hx ?_
        show mM G mX9_readNumber 35 [some (.ref 204), some (.int lo), some (.int hi), some (.int (chr t n (skp t n p))), some (.int (nI (skp t n p))), some (.int (nI (min kv 10000))), none] [.int (chr t n x)] S1 d1 (0, 0) Q
        refine m_callS (pc' := 38) (A := [.int (chr t n x)]) (rest := []) cl_X9_readNumber_92 dX9_readNumber_35 rfl rfl (Nat.le_of_ble_eq_true rfl) ⟨by decide, by decide⟩ rfl rfl ?_
        refine c_isDigit ?_
        show mM G mX9_readNumber 38 [some (.ref 204), some (.int lo), some (.int hi), some (.int (chr t n (skp t n p))), some (.int (nI (skp t n p))), some (.int (nI (min kv 10000))), none] [.int (bin (chr t n x) 48 57)] S1 d1 (0, 0) Q
        rw [show (bin (chr t n x) 48 57) = 0 from (by rw [chr_no (by omega)]; decide)]
        refine m_if_eq (tgt := 82) (pc' := 41) dX9_readNumber_38 (by decide) rfl (fun h38 => ?_) (fun h38 => absurd h38 (by decide))
        exact J82 x kv d1 hqx (by omega) (hD.symm.trans (dgt_n (fun h => absurd h.1 (by omega)))) hkv hd hR
    | succ n0 ih =>
      intro x kv d1 hk hqx hD hkv hd hR
      refine m_aload_n (pc' := 15) dX9_readNumber_14 rfl rfl ?_
      refine m_getI (pc' := 18) fa_X9_readNumber_29 dX9_readNumber_15 (by decide) rfl rfl rfl ?_
      rw [show (d1.1 204 2) = (nI x) from hR.2.2.1]
      refine m_sipush (pc' := 21) (v := 140) dX9_readNumber_18 (by decide) rfl ?_
      refine m_icmp_ge (tgt := 82) (pc' := 24) dX9_readNumber_21 (by decide) rfl (fun h21 => absurd h21 (nI_ge (b := 140) (by omega) (by omega))) (fun h21 => ?_)
      refine m_aload_n (pc' := 25) dX9_readNumber_24 rfl rfl ?_
      refine m_getR (pc' := 28) fa_X9_readNumber_12 dX9_readNumber_25 (by decide) rfl rfl rfl rfl ?_
      refine m_aload_n (pc' := 29) dX9_readNumber_28 rfl rfl ?_
      refine m_getI (pc' := 32) fa_X9_readNumber_29 dX9_readNumber_29 (by decide) rfl rfl rfl ?_
      rw [show (d1.1 204 2) = (nI x) from hR.2.2.1]
      refine m_callV (pc' := 35) (A := [.int (nI x)]) (rest := []) (b := 205) cl_X9_readNumber_88 dX9_readNumber_32 rfl rfl (Nat.le_of_ble_eq_true rfl) ⟨by decide, by decide⟩ (by decide) rfl rfl rfl rfl ?_
      refine c_charAt hR (x := x) (by omega) hn hx ?_
      show mM G mX9_readNumber 35 [some (.ref 204), some (.int lo), some (.int hi), some (.int (chr t n (skp t n p))), some (.int (nI (skp t n p))), some (.int (nI (min kv 10000))), none] [.int (chr t n x)] S1 d1 (0, 0) Q
      rw [show (chr t n x) = (t x) from chr_in (by omega)]
      refine m_callS (pc' := 38) (A := [.int (t x)]) (rest := []) cl_X9_readNumber_92 dX9_readNumber_35 rfl rfl (Nat.le_of_ble_eq_true rfl) ⟨by decide, by decide⟩ rfl rfl ?_
      refine c_isDigit ?_
      show mM G mX9_readNumber 38 [some (.ref 204), some (.int lo), some (.int hi), some (.int (chr t n (skp t n p))), some (.int (nI (skp t n p))), some (.int (nI (min kv 10000))), none] [.int (bin (t x) 48 57)] S1 d1 (0, 0) Q
      refine m_if_eq (tgt := 82) (pc' := 41) dX9_readNumber_38 (by decide) rfl (fun h38 => ?_) (fun h38 => ?_)
      · skip
        exact J82 x kv d1 hqx (by omega) (hD.symm.trans (dgt_n (fun h => h.2 h38))) hkv hd hR
      · skip
        refine m_iload (pc' := 43) dX9_readNumber_41 rfl rfl ?_
        refine m_bipush (pc' := 45) (v := 10) dX9_readNumber_43 (by decide) rfl ?_
        refine m_imul (pc' := 46) dX9_readNumber_45 rfl ?_
        refine m_aload_n (pc' := 47) dX9_readNumber_46 rfl rfl ?_
        refine m_getR (pc' := 50) fa_X9_readNumber_12 dX9_readNumber_47 (by decide) rfl rfl rfl rfl ?_
        refine m_aload_n (pc' := 51) dX9_readNumber_50 rfl rfl ?_
        refine m_getI (pc' := 54) fa_X9_readNumber_29 dX9_readNumber_51 (by decide) rfl rfl rfl ?_
        rw [show (d1.1 204 2) = (nI x) from hR.2.2.1]
        refine m_callV (pc' := 57) (A := [.int (nI x)]) (rest := [.int ((nI (min kv 10000)) * 10)]) (b := 205) cl_X9_readNumber_88 dX9_readNumber_54 rfl rfl (Nat.le_of_ble_eq_true rfl) ⟨by decide, by decide⟩ (by decide) rfl rfl rfl rfl ?_
        refine c_charAt hR (x := x) (by omega) hn hx ?_
        show mM G mX9_readNumber 57 [some (.ref 204), some (.int lo), some (.int hi), some (.int (chr t n (skp t n p))), some (.int (nI (skp t n p))), some (.int (nI (min kv 10000))), none] [.int (chr t n x), .int ((nI (min kv 10000)) * 10)] S1 d1 (0, 0) Q
        rw [show (chr t n x) = (t x) from chr_in (by omega)]
        refine m_iadd (pc' := 58) dX9_readNumber_57 rfl ?_
        refine m_bipush (pc' := 60) (v := 48) dX9_readNumber_58 (by decide) rfl ?_
        refine m_isub (pc' := 61) dX9_readNumber_60 rfl ?_
        have hb : ¬ bin (t x) 48 57 = 0 := h38
        obtain ⟨c, -, c2, c3⟩ := hx x (by omega)
        have hc : 48 ≤ c ∧ c ≤ 57 := by
          rw [c3] at hb; unfold bin at hb
          by_cases z : (48 : Int32) ≤ nI c ∧ nI c ≤ 57
          · exact ⟨(nI_leI (a := 48) (by decide) (by omega)).mp z.1, (nI_leI (b := 57) (by omega) (by decide)).mp z.2⟩
          · rw [if_neg z] at hb; exact absurd rfl hb
        have hv : dgt t n x (nI kv) = dgt t n (x + 1) (nI (if kv < 100000 then 10 * kv + c - 48 else kv)) := by
          rw [dgt_s (by omega) hb]; congr 1
          by_cases z : kv < 100000
          · rw [if_pos (show nI kv < (100000 : Int32) from nI_lt (b := 100000) z (by decide)), if_pos z, c3, show (10 : Int32) * nI kv = nI (10 * kv) from pk_mul 10 kv, nI_add]; exact pk_dif (b := 48) (by omega)
          · rw [if_neg (show ¬ nI kv < (100000 : Int32) from Int32.not_lt.mpr (nI_le (a := 100000) (by omega) (by omega))), if_neg z]
        have e57 : nI (min kv 10000) * 10 + t x - 48 = nI (min kv 10000 * 10 + c - 48) := by rw [c3, show nI (min kv 10000) * 10 = nI (min kv 10000 * 10) from pk_mul (min kv 10000) 10, nI_add]; exact pk_dif (b := 48) (by omega)
        have e64 : (if (10000 : Int32) < nI (min kv 10000 * 10 + c - 48) then 10000 else nI (min kv 10000 * 10 + c - 48)) = nI (min (if kv < 100000 then 10 * kv + c - 48 else kv) 10000) := by
          by_cases z : kv < 10000
          · rw [Nat.min_eq_left (by omega : kv ≤ 10000), if_pos (by omega : kv < 100000)]
            by_cases y : 10 * kv + c - 48 ≤ 10000
            · rw [if_neg (show ¬ (10000 : Int32) < nI (kv * 10 + c - 48) from Int32.not_lt.mpr (nI_le (b := 10000) (by omega) (by decide))), Nat.min_eq_left y]; exact congrArg nI (by omega)
            · rw [if_pos (show (10000 : Int32) < nI (kv * 10 + c - 48) from nI_lt (a := 10000) (by omega) (by omega)), Nat.min_eq_right (by omega)]; rfl
          · rw [Nat.min_eq_right (by omega : 10000 ≤ kv), if_pos (show (10000 : Int32) < nI (10000 * 10 + c - 48) from nI_lt (a := 10000) (by omega) (by omega)), Nat.min_eq_right (by split <;> omega)]; rfl
        rw [show ((((nI (min kv 10000)) * 10) + (t x)) - 48) = (nI (min kv 10000 * 10 + c - 48)) from e57]
        refine m_sipush (pc' := 64) (v := 10000) dX9_readNumber_61 (by decide) rfl ?_
        refine m_mmin (pc' := 67) wm_X9_readNumber_96 dX9_readNumber_64 (Nat.le_of_ble_eq_true rfl) ⟨by decide, by decide⟩ rfl ?_
        rw [show (if 10000 < (nI (min kv 10000 * 10 + c - 48)) then 10000 else (nI (min kv 10000 * 10 + c - 48))) = (nI (min (if kv < 100000 then 10 * kv + c - 48 else kv) 10000)) from e64]
        refine m_istore (pc' := 69) dX9_readNumber_67 (by decide) rfl rfl ?_
        refine m_aload_n (pc' := 70) dX9_readNumber_69 rfl rfl ?_
        refine m_dup (pc' := 71) dX9_readNumber_70 rfl ?_
        refine m_getI (pc' := 74) fa_X9_readNumber_29 dX9_readNumber_71 (by decide) rfl rfl rfl ?_
        rw [show (d1.1 204 2) = (nI x) from hR.2.2.1]
        refine m_iconst (pc' := 75) (v := 1) dX9_readNumber_74 (by decide) rfl ?_
        refine m_iadd (pc' := 76) dX9_readNumber_75 rfl ?_
        rw [show ((nI x) + 1) = (nI (x + 1)) from nI_1 x]
        refine m_putI (pc' := 79) (ty := .int) fa_X9_readNumber_29 dX9_readNumber_76 (by decide +kernel) rfl rfl (by decide) rfl rfl rfl ?_
        refine m_goto (tgt := 14) dX9_readNumber_79 (by decide) ?_
        rw [hv] at hD
        exact ih (x + 1) (if kv < 100000 then 10 * kv + c - 48 else kv) _ (by omega) (by omega) hD (by split <;> omega) (hd.i _ (show 204 = 204 ∨ 207 ≤ 204 ∧ 204 ≤ 213 by decide)) (hR.ps rfl)
  refine mC_of (by decide +kernel) ⟨_, rfl⟩ (Nat.le_of_ble_eq_true rfl) ?_
  show mM G mX9_readNumber 0 [some (.ref 204), some (.int lo), some (.int hi), none, none, none, none] [] S1 d (0, 0) Q
  refine m_aload_n (pc' := 1) dX9_readNumber_0 rfl rfl ?_
  refine m_callV (pc' := 4) (A := []) (rest := []) (b := 204) cl_X9_readNumber_40 dX9_readNumber_1 rfl rfl (Nat.le_of_ble_eq_true rfl) ⟨by decide, by decide⟩ (by decide) rfl rfl rfl rfl ?_
  refine c_next (p := p) (P := skp t n p) (t := t) (n := n) (f := f) (s := s) hR hp hn hx rfl (fun e e0 eR => ?_)
  show mM G mX9_readNumber 4 [some (.ref 204), some (.int lo), some (.int hi), none, none, none, none] [.int (chr t n (skp t n p))] S1 e (0, 0) Q
  refine m_istore_n (pc' := 5) dX9_readNumber_4 (by decide) rfl rfl ?_
  refine m_aload_n (pc' := 6) dX9_readNumber_5 rfl rfl ?_
  refine m_getI (pc' := 9) fa_X9_readNumber_29 dX9_readNumber_6 (by decide) rfl rfl rfl ?_
  rw [show (e.1 204 2) = (nI (skp t n p)) from eR.2.2.1]
  refine m_istore (pc' := 11) dX9_readNumber_9 (by decide) rfl rfl ?_
  refine m_iconst (pc' := 12) (v := 0) dX9_readNumber_11 (by decide) rfl ?_
  refine m_istore (pc' := 14) dX9_readNumber_12 (by decide) rfl rfl ?_
  exact J14 (n - (skp t n p)) (skp t n p) 0 e (by omega) (Nat.le_refl _) rfl (by decide) e0 eR
end CLS24
