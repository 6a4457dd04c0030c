/-! TABLES: reads, writes, rows copied -/
def tat (d : Dt) (t W L : Nat) (r c : Int32) : Int32 := if 0 ≤ r * nI W + c ∧ r * nI W + c < nI L then d.1 (t + 1) (r * nI W + c).toNatClampNeg else 0
def tpt (d : Dt) (t W L : Nat) (r c x : Int32) : Dt := if 0 ≤ r * nI W + c ∧ r * nI W + c < nI L then (u2 d.1 (t + 1) (r * nI W + c).toNatClampNeg x, d.2) else d
theorem inL {x : Int32} {L M : Nat} (hM : M = L) (hL : L < 2 ^ 31) (h0 : ¬ x < 0) (h1 : ¬ nI L ≤ x) : vp_in x M := by
  subst hM
  rcases pk_ix x hL with h | h | ⟨j, hj, rfl⟩
  · exact absurd h h0
  · exact absurd h h1
  · exact vp_in_nI hj hL
section TAB
variable {G : GP} {Q : Option Value → Sh → Dt → Prop} {d : Dt}
set_option maxHeartbeats 4000000 in
set_option maxRecDepth 100000 in
theorem c_at {t W L : Nat} {r c : Int32} (hT : isT t W L) (hL : L < 2 ^ 31) (hQ : Q (some (.int (tat d t W L r c))) S1 d) : mC G mX7_at [.ref t, .int r, .int c] S1 d Q := by
  refine mC_of (by decide +kernel) ⟨_, rfl⟩ (Nat.le_of_ble_eq_true rfl) ?_
  show mM G mX7_at 0 [some (.ref t), some (.int r), some (.int c), none] [] S1 d (0, 0) Q
  refine m_iload_n (pc' := 1) dX7_at_0 rfl rfl ?_
  refine m_aload_n (pc' := 2) dX7_at_1 rfl rfl ?_
  refine m_getWv (pc' := 5) (x := nI W) fa_X7_at_13 dX7_at_2 (T_lt0 hT) (T_k0 hT) rfl (T_w0 hT) rfl ?_
  refine m_imul (pc' := 6) dX7_at_5 rfl ?_
  refine m_iload_n (pc' := 7) dX7_at_6 rfl rfl ?_
  refine m_iadd (pc' := 8) dX7_at_7 rfl ?_
  refine m_istore_n (pc' := 9) dX7_at_8 (by decide) rfl rfl ?_
  refine m_iload_n (pc' := 10) dX7_at_9 rfl rfl ?_
  refine m_if_lt (tgt := 31) (pc' := 13) dX7_at_10 (by decide) rfl (fun h10 => ?_) (fun h10 => ?_)
  · skip
    refine m_iconst (pc' := 32) (v := 0) dX7_at_31 (by decide) rfl ?_
    refine m_iret dX7_at_32 rfl rfl ⟨by decide, by decide⟩ ?_
    exact q_i hQ (if_neg (fun h => Int32.not_lt.mpr h.1 h10)).symm
  · skip
    refine m_iload_n (pc' := 14) dX7_at_13 rfl rfl ?_
    refine m_aload_n (pc' := 15) dX7_at_14 rfl rfl ?_
    refine m_getR (pc' := 18) fa_X7_at_19 dX7_at_15 (T_lt0 hT) (T_k0 hT) rfl (T_r0_1 hT) rfl ?_
    refine m_alenv (pc' := 19) (v := nI L) dX7_at_18 (T_lt1 hT) (T_k1 hT) (by decide) (by decide) (T_l1 hT) rfl rfl ?_
    refine m_icmp_ge (tgt := 31) (pc' := 22) dX7_at_19 (by decide) rfl (fun h19 => ?_) (fun h19 => ?_)
    · skip
      refine m_iconst (pc' := 32) (v := 0) dX7_at_31 (by decide) rfl ?_
      refine m_iret dX7_at_32 rfl rfl ⟨by decide, by decide⟩ ?_
      exact q_i hQ (if_neg (fun h => Int32.not_lt.mpr h19 h.2)).symm
    · skip
      refine m_aload_n (pc' := 23) dX7_at_22 rfl rfl ?_
      refine m_getR (pc' := 26) fa_X7_at_19 dX7_at_23 (T_lt0 hT) (T_k0 hT) rfl (T_r0_1 hT) rfl ?_
      refine m_iload_n (pc' := 27) dX7_at_26 rfl rfl ?_
      refine m_iald (pc' := 28) dX7_at_27 (T_lt1 hT) (T_k1 hT) (inL (T_l1 hT) hL h10 h19) rfl ?_
      refine m_goto (tgt := 32) dX7_at_28 (by decide) ?_
      refine m_iret dX7_at_32 rfl rfl ⟨by decide, by decide⟩ ?_
      exact q_i hQ (if_pos ⟨Int32.not_lt.mp h10, Int32.not_le.mp h19⟩).symm
set_option maxHeartbeats 4000000 in
set_option maxRecDepth 100000 in
theorem c_put {t W L : Nat} {r c x : Int32} (hT : isT t W L) (hL : L < 2 ^ 31) (hQ : Q none S1 (tpt d t W L r c x)) : mC G mX7_put [.ref t, .int r, .int c, .int x] S1 d Q := by
  refine mC_of (by decide +kernel) ⟨_, rfl⟩ (Nat.le_of_ble_eq_true rfl) ?_
  show mM G mX7_put 0 [some (.ref t), some (.int r), some (.int c), some (.int x), none] [] S1 d (0, 0) Q
  refine m_iload_n (pc' := 1) dX7_put_0 rfl rfl ?_
  refine m_aload_n (pc' := 2) dX7_put_1 rfl rfl ?_
  refine m_getWv (pc' := 5) (x := nI W) fa_X7_put_13 dX7_put_2 (T_lt0 hT) (T_k0 hT) rfl (T_w0 hT) rfl ?_
  refine m_imul (pc' := 6) dX7_put_5 rfl ?_
  refine m_iload_n (pc' := 7) dX7_put_6 rfl rfl ?_
  refine m_iadd (pc' := 8) dX7_put_7 rfl ?_
  refine m_istore (pc' := 10) dX7_put_8 (by decide) rfl rfl ?_
  refine m_iload (pc' := 12) dX7_put_10 rfl rfl ?_
  refine m_if_lt (tgt := 33) (pc' := 15) dX7_put_12 (by decide) rfl (fun h12 => ?_) (fun h12 => ?_)
  · skip
    refine m_vret dX7_put_33 rfl ⟨by decide, by decide⟩ ?_
    exact q_d hQ (if_neg (fun h => Int32.not_lt.mpr h.1 h12)).symm
  · skip
    refine m_iload (pc' := 17) dX7_put_15 rfl rfl ?_
    refine m_aload_n (pc' := 18) dX7_put_17 rfl rfl ?_
    refine m_getR (pc' := 21) fa_X7_put_19 dX7_put_18 (T_lt0 hT) (T_k0 hT) rfl (T_r0_1 hT) rfl ?_
    refine m_alenv (pc' := 22) (v := nI L) dX7_put_21 (T_lt1 hT) (T_k1 hT) (by decide) (by decide) (T_l1 hT) rfl rfl ?_
    refine m_icmp_ge (tgt := 33) (pc' := 25) dX7_put_22 (by decide) rfl (fun h22 => ?_) (fun h22 => ?_)
    · skip
      refine m_vret dX7_put_33 rfl ⟨by decide, by decide⟩ ?_
      exact q_d hQ (if_neg (fun h => Int32.not_lt.mpr h22 h.2)).symm
    · skip
      refine m_aload_n (pc' := 26) dX7_put_25 rfl rfl ?_
      refine m_getR (pc' := 29) fa_X7_put_19 dX7_put_26 (T_lt0 hT) (T_k0 hT) rfl (T_r0_1 hT) rfl ?_
      refine m_iload (pc' := 31) dX7_put_29 rfl rfl ?_
      refine m_iload_n (pc' := 32) dX7_put_31 rfl rfl ?_
      refine m_iast (pc' := 33) dX7_put_32 (T_lt1 hT) (T_k1 hT) (inL (T_l1 hT) hL h12 h22) rfl ?_
      refine m_vret dX7_put_33 rfl ⟨by decide, by decide⟩ ?_
      exact q_d hQ (if_pos ⟨Int32.not_lt.mp h12, Int32.not_le.mp h22⟩).symm
def tcr1 (d : Dt) (t L : Nat) (fr to : Int32) : Dt := tpt d t 1 L to 0 (tat d t 1 L fr 0)
set_option maxHeartbeats 4000000 in
set_option maxRecDepth 100000 in
theorem c_copyRow1 {t L : Nat} {fr to : Int32} (hT : isT t 1 L) (hL : L < 2 ^ 31) (hQ : Q none S1 (tcr1 d t L fr to)) : mC G mX7_copyRow [.ref t, .int fr, .int to] S1 d Q := by
  refine mC_of (by decide +kernel) ⟨_, rfl⟩ (Nat.le_of_ble_eq_true rfl) ?_
  show mM G mX7_copyRow 0 [some (.ref t), some (.int fr), some (.int to), none] [] S1 d (0, 0) Q
  refine m_iconst (pc' := 1) (v := 0) dX7_copyRow_0 (by decide) rfl ?_
  refine m_istore_n (pc' := 2) dX7_copyRow_1 (by decide) rfl rfl ?_
  refine m_iload_n (pc' := 3) dX7_copyRow_2 rfl rfl ?_
  refine m_aload_n (pc' := 4) dX7_copyRow_3 rfl rfl ?_
  refine m_getWv (pc' := 7) (x := 1) fa_X7_copyRow_13 dX7_copyRow_4 (T_lt0 hT) (T_k0 hT) rfl (T_w0 hT) rfl ?_
  refine m_icmp_ge (tgt := 28) (pc' := 10) dX7_copyRow_7 (by decide) rfl (fun h7 => absurd h7 (by decide)) (fun h7 => ?_)
  refine m_aload_n (pc' := 11) dX7_copyRow_10 rfl rfl ?_
  refine m_iload_n (pc' := 12) dX7_copyRow_11 rfl rfl ?_
  refine m_iload_n (pc' := 13) dX7_copyRow_12 rfl rfl ?_
  refine m_aload_n (pc' := 14) dX7_copyRow_13 rfl rfl ?_
  refine m_iload_n (pc' := 15) dX7_copyRow_14 rfl rfl ?_
  refine m_iload_n (pc' := 16) dX7_copyRow_15 rfl rfl ?_
  refine m_callV (pc' := 19) (A := [.int fr, .int 0]) (rest := [.int 0, .int to, .ref t]) (b := t) cl_X7_copyRow_23 dX7_copyRow_16 rfl rfl (Nat.le_of_ble_eq_true rfl) ⟨by decide, by decide⟩ (T_lt0 hT) (T_k0 hT) rfl rfl rfl ?_
  refine c_at hT hL ?_
  show mM G mX7_copyRow 19 [some (.ref t), some (.int fr), some (.int to), some (.int 0)] [.int (tat d t 1 L fr 0), .int 0, .int to, .ref t] S1 d (0, 0) Q
  refine m_callV (pc' := 22) (A := [.int to, .int 0, .int (tat d t 1 L fr 0)]) (rest := []) (b := t) cl_X7_copyRow_26 dX7_copyRow_19 rfl rfl (Nat.le_of_ble_eq_true rfl) ⟨by decide, by decide⟩ (T_lt0 hT) (T_k0 hT) rfl rfl rfl ?_
  refine c_put hT hL ?_
  show mM G mX7_copyRow 22 [some (.ref t), some (.int fr), some (.int to), some (.int 0)] [] S1 (tpt d t 1 L to 0 (tat d t 1 L fr 0)) (0, 0) Q
  refine m_iinc (pc' := 25) dX7_copyRow_22 rfl (by decide) (v := 1) (by decide) rfl rfl ?_
  refine m_goto (tgt := 2) dX7_copyRow_25 (by decide) ?_
  refine m_iload_n (pc' := 3) dX7_copyRow_2 rfl rfl ?_
  refine m_aload_n (pc' := 4) dX7_copyRow_3 rfl rfl ?_
  refine m_getWv (pc' := 7) (x := 1) fa_X7_copyRow_13 dX7_copyRow_4 (T_lt0 hT) (T_k0 hT) rfl (T_w0 hT) rfl ?_
  refine m_icmp_ge (tgt := 28) (pc' := 10) dX7_copyRow_7 (by decide) rfl (fun h7 => ?_) (fun h7 => absurd h7 (by decide))
  refine m_vret dX7_copyRow_28 rfl ⟨by decide, by decide⟩ ?_
  exact hQ
def tcr2 (d : Dt) (t L : Nat) (fr to : Int32) : Dt := tpt (tpt d t 2 L to 0 (tat d t 2 L fr 0)) t 2 L to 1 (tat (tpt d t 2 L to 0 (tat d t 2 L fr 0)) t 2 L fr 1)
set_option maxHeartbeats 4000000 in
set_option maxRecDepth 100000 in
theorem c_copyRow2 {t L : Nat} {fr to : Int32} (hT : isT t 2 L) (hL : L < 2 ^ 31) (hQ : Q none S1 (tcr2 d t L fr to)) : mC G mX7_copyRow [.ref t, .int fr, .int to] S1 d Q := by
  refine mC_of (by decide +kernel) ⟨_, rfl⟩ (Nat.le_of_ble_eq_true rfl) ?_
  show mM G mX7_copyRow 0 [some (.ref t), some (.int fr), some (.int to), none] [] S1 d (0, 0) Q
  refine m_iconst (pc' := 1) (v := 0) dX7_copyRow_0 (by decide) rfl ?_
  refine m_istore_n (pc' := 2) dX7_copyRow_1 (by decide) rfl rfl ?_
  refine m_iload_n (pc' := 3) dX7_copyRow_2 rfl rfl ?_
  refine m_aload_n (pc' := 4) dX7_copyRow_3 rfl rfl ?_
  refine m_getWv (pc' := 7) (x := 2) fa_X7_copyRow_13 dX7_copyRow_4 (T_lt0 hT) (T_k0 hT) rfl (T_w0 hT) rfl ?_
  refine m_icmp_ge (tgt := 28) (pc' := 10) dX7_copyRow_7 (by decide) rfl (fun h7 => absurd h7 (by decide)) (fun h7 => ?_)
  refine m_aload_n (pc' := 11) dX7_copyRow_10 rfl rfl ?_
  refine m_iload_n (pc' := 12) dX7_copyRow_11 rfl rfl ?_
  refine m_iload_n (pc' := 13) dX7_copyRow_12 rfl rfl ?_
  refine m_aload_n (pc' := 14) dX7_copyRow_13 rfl rfl ?_
  refine m_iload_n (pc' := 15) dX7_copyRow_14 rfl rfl ?_
  refine m_iload_n (pc' := 16) dX7_copyRow_15 rfl rfl ?_
  refine m_callV (pc' := 19) (A := [.int fr, .int 0]) (rest := [.int 0, .int to, .ref t]) (b := t) cl_X7_copyRow_23 dX7_copyRow_16 rfl rfl (Nat.le_of_ble_eq_true rfl) ⟨by decide, by decide⟩ (T_lt0 hT) (T_k0 hT) rfl rfl rfl ?_
  refine c_at hT hL ?_
  show mM G mX7_copyRow 19 [some (.ref t), some (.int fr), some (.int to), some (.int 0)] [.int (tat d t 2 L fr 0), .int 0, .int to, .ref t] S1 d (0, 0) Q
  refine m_callV (pc' := 22) (A := [.int to, .int 0, .int (tat d t 2 L fr 0)]) (rest := []) (b := t) cl_X7_copyRow_26 dX7_copyRow_19 rfl rfl (Nat.le_of_ble_eq_true rfl) ⟨by decide, by decide⟩ (T_lt0 hT) (T_k0 hT) rfl rfl rfl ?_
  refine c_put hT hL ?_
  show mM G mX7_copyRow 22 [some (.ref t), some (.int fr), some (.int to), some (.int 0)] [] S1 (tpt d t 2 L to 0 (tat d t 2 L fr 0)) (0, 0) Q
  refine m_iinc (pc' := 25) dX7_copyRow_22 rfl (by decide) (v := 1) (by decide) rfl rfl ?_
  refine m_goto (tgt := 2) dX7_copyRow_25 (by decide) ?_
  refine m_iload_n (pc' := 3) dX7_copyRow_2 rfl rfl ?_
  refine m_aload_n (pc' := 4) dX7_copyRow_3 rfl rfl ?_
  refine m_getWv (pc' := 7) (x := 2) fa_X7_copyRow_13 dX7_copyRow_4 (T_lt0 hT) (T_k0 hT) rfl (T_w0 hT) rfl ?_
  refine m_icmp_ge (tgt := 28) (pc' := 10) dX7_copyRow_7 (by decide) rfl (fun h7 => absurd h7 (by decide)) (fun h7 => ?_)
  refine m_aload_n (pc' := 11) dX7_copyRow_10 rfl rfl ?_
  refine m_iload_n (pc' := 12) dX7_copyRow_11 rfl rfl ?_
  refine m_iload_n (pc' := 13) dX7_copyRow_12 rfl rfl ?_
  refine m_aload_n (pc' := 14) dX7_copyRow_13 rfl rfl ?_
  refine m_iload_n (pc' := 15) dX7_copyRow_14 rfl rfl ?_
  refine m_iload_n (pc' := 16) dX7_copyRow_15 rfl rfl ?_
  refine m_callV (pc' := 19) (A := [.int fr, .int 1]) (rest := [.int 1, .int to, .ref t]) (b := t) cl_X7_copyRow_23 dX7_copyRow_16 rfl rfl (Nat.le_of_ble_eq_true rfl) ⟨by decide, by decide⟩ (T_lt0 hT) (T_k0 hT) rfl rfl rfl ?_
  refine c_at hT hL ?_
  show mM G mX7_copyRow 19 [some (.ref t), some (.int fr), some (.int to), some (.int 1)] [.int (tat (tpt d t 2 L to 0 (tat d t 2 L fr 0)) t 2 L fr 1), .int 1, .int to, .ref t] S1 (tpt d t 2 L to 0 (tat d t 2 L fr 0)) (0, 0) Q
  refine m_callV (pc' := 22) (A := [.int to, .int 1, .int (tat (tpt d t 2 L to 0 (tat d t 2 L fr 0)) t 2 L fr 1)]) (rest := []) (b := t) cl_X7_copyRow_26 dX7_copyRow_19 rfl rfl (Nat.le_of_ble_eq_true rfl) ⟨by decide, by decide⟩ (T_lt0 hT) (T_k0 hT) rfl rfl rfl ?_
  refine c_put hT hL ?_
  show mM G mX7_copyRow 22 [some (.ref t), some (.int fr), some (.int to), some (.int 1)] [] S1 (tpt (tpt d t 2 L to 0 (tat d t 2 L fr 0)) t 2 L to 1 (tat (tpt d t 2 L to 0 (tat d t 2 L fr 0)) t 2 L fr 1)) (0, 0) Q
  refine m_iinc (pc' := 25) dX7_copyRow_22 rfl (by decide) (v := 2) (by decide) rfl rfl ?_
  refine m_goto (tgt := 2) dX7_copyRow_25 (by decide) ?_
  refine m_iload_n (pc' := 3) dX7_copyRow_2 rfl rfl ?_
  refine m_aload_n (pc' := 4) dX7_copyRow_3 rfl rfl ?_
  refine m_getWv (pc' := 7) (x := 2) fa_X7_copyRow_13 dX7_copyRow_4 (T_lt0 hT) (T_k0 hT) rfl (T_w0 hT) rfl ?_
  refine m_icmp_ge (tgt := 28) (pc' := 10) dX7_copyRow_7 (by decide) rfl (fun h7 => ?_) (fun h7 => absurd h7 (by decide))
  refine m_vret dX7_copyRow_28 rfl ⟨by decide, by decide⟩ ?_
  exact hQ
set_option maxHeartbeats 4000000 in
set_option maxRecDepth 100000 in
theorem c_tcopy {t t2 W W2 L : Nat} (hT : isT t W L) (hT2 : isT t2 W2 L) (hL : L < 2 ^ 31) (hQ : Q none S1 (d_cpy d (t2 + 1) (t + 1) 0 0 L)) : mC G mX7_copyFrom [.ref t, .ref t2] S1 d Q := by
  refine mC_of (by decide +kernel) ⟨_, rfl⟩ (Nat.le_of_ble_eq_true rfl) ?_
  show mM G mX7_copyFrom 0 [some (.ref t), some (.ref t2)] [] S1 d (0, 0) Q
  refine m_aload_n (pc' := 1) dX7_copyFrom_0 rfl rfl ?_
  refine m_getR (pc' := 4) fa_X7_copyFrom_19 dX7_copyFrom_1 (T_lt0 hT2) (T_k0 hT2) rfl (T_r0_1 hT2) rfl ?_
  refine m_iconst (pc' := 5) (v := 0) dX7_copyFrom_4 (by decide) rfl ?_
  refine m_aload_n (pc' := 6) dX7_copyFrom_5 rfl rfl ?_
  refine m_getR (pc' := 9) fa_X7_copyFrom_19 dX7_copyFrom_6 (T_lt0 hT) (T_k0 hT) rfl (T_r0_1 hT) rfl ?_
  refine m_iconst (pc' := 10) (v := 0) dX7_copyFrom_9 (by decide) rfl ?_
  refine m_aload_n (pc' := 11) dX7_copyFrom_10 rfl rfl ?_
  refine m_getR (pc' := 14) fa_X7_copyFrom_19 dX7_copyFrom_11 (T_lt0 hT2) (T_k0 hT2) rfl (T_r0_1 hT2) rfl ?_
  refine m_alenv (pc' := 15) (v := nI L) dX7_copyFrom_14 (T_lt1 hT2) (T_k1 hT2) (by decide) (by decide) (T_l1 hT2) rfl rfl ?_
  refine m_aload_n (pc' := 16) dX7_copyFrom_15 rfl rfl ?_
  refine m_getR (pc' := 19) fa_X7_copyFrom_19 dX7_copyFrom_16 (T_lt0 hT) (T_k0 hT) rfl (T_r0_1 hT) rfl ?_
  refine m_alenv (pc' := 20) (v := nI L) dX7_copyFrom_19 (T_lt1 hT) (T_k1 hT) (by decide) (by decide) (T_l1 hT) rfl rfl ?_
  refine m_mmin (pc' := 23) wm_X7_copyFrom_30 dX7_copyFrom_20 (Nat.le_of_ble_eq_true rfl) ⟨by decide, by decide⟩ rfl ?_
  rw [show (if (nI L) < (nI L) then (nI L) else (nI L)) = (nI L) from ite_self _]
  refine m_copy (pc' := 26) cw_X7_copyFrom_33 ⟨by decide, Nat.le_of_ble_eq_true rfl⟩ dX7_copyFrom_23 (T_lt1 hT) (T_k1 hT) (T_lt1 hT2) (T_k1 hT2) (by decide) (by decide) (nI_pos hL) (by rw [T_l1 hT2, nI_clamp hL]; exact Nat.le_of_eq (Nat.zero_add _)) (by rw [T_l1 hT, nI_clamp hL]; exact Nat.le_of_eq (Nat.zero_add _)) rfl ?_
  refine m_vret dX7_copyFrom_26 rfl ⟨by decide, by decide⟩ ?_
  rw [nI_clamp hL]; exact hQ
end TAB
